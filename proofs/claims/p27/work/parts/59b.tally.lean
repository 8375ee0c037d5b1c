theorem zs_pu_o {S : zs_S} {a b n j : Nat} {i v : Int32} (h : b ≠ a) : (zs_pu S a n i v).1 b j = S.1 b j := by
  unfold zs_pu
  split
  · exact zs_up_n (fun q => h q.1)
  · rfl
theorem zs_fi_i {S : zs_S} {a n j : Nat} {v : Int32} (h : j < n) : (zs_fi S a n v).1 a j = v := if_pos ⟨rfl, h⟩
def zs_ta (S : zs_S) (g : Nat → Nat) (m : Nat) : Prop := (∀ j, j < 32 → S.1 74 j = nI (g j)) ∧ S.1 73 1 = nI m
set_option maxRecDepth 100000 in
theorem y_tbegin (S : zs_S) : zs_Cv MX9_begin [.ref 73] S (fun S2 => zs_ch 73 75 S S2 ∧ zs_ta S2 (fun _ => 0) 0) := by
  refine zs_C.of (by decide) (Nat.le_of_ble_eq_true rfl) ?_
  show zs_P MX9_begin 0 [(0, .ref 73)] [] S _
  refine g_aload_n dX9_begin_0 rfl rfl ?_
  refine g_getR 0 (74) (C := RX9) (T := TX9) (N := 2) dX9_begin_1 (by decide) rfl rfl (by decide) rfl fl_RX9_7 ?_
  refine g_iconst (v := (nI 0)) dX9_begin_4 rfl ?_
  refine g_callN [.ref 74, .int (nI 0)] [] (x_fill S 74 32 (nI 0) (by decide) rfl (by decide)) dX9_begin_5 kk_X9_begin_X11_fill nl_RX9_13 swX11_fill rfl rfl (Nat.le_of_ble_eq_true rfl) ?_
  rintro _ _ ⟨rfl, rfl⟩
  refine g_aload_n dX9_begin_8 rfl rfl ?_
  refine g_iconst (v := (nI 0)) dX9_begin_9 rfl ?_
  refine g_putI 1 (C := RX9) (T := TX9) (N := 2) (ty := .int) dX9_begin_10 (by decide) rfl rfl (by decide) rfl fl_RX9_19 rfl (by decide +kernel) ⟨rfl, rfl⟩ ?_
  refine g_ret dX9_begin_13 rfl ?_
  exact ⟨rfl, (zs_ch.rf.fi (by omega) (by omega)).up (by omega) (by omega), fun j hj => (zs_up_m (by omega)).trans (zs_fi_i hj), zs_up_q⟩
set_option maxRecDepth 100000 in
theorem y_tadd (S : zs_S) (g : Nat → Nat) (m x : Nat) (hx : x < 32) (hm : m < 2 ^ 20) (hg : ∀ j, g j < 2 ^ 20) (h : zs_ta S g m) : zs_Cv MX9_add [.ref 73, .int (nI x)] S (fun S2 => zs_ch 73 75 S S2 ∧ zs_ta S2 (fun j => if j = x then g j + 1 else g j) (max m (g x + 1))) := by
  refine zs_C.of (by decide) (Nat.le_of_ble_eq_true rfl) ?_
  show zs_P MX9_add 0 [(0, .ref 73), (1, .int (nI x))] [] S _
  refine g_aload_n dX9_add_0 rfl rfl ?_
  refine g_getR 0 (74) (C := RX9) (T := TX9) (N := 2) dX9_add_1 (by decide) rfl rfl (by decide) rfl fl_RX9_7 ?_
  refine g_iload_n dX9_add_4 rfl rfl ?_
  refine g_callN [.ref 74, .int (nI x)] [] (x_cell S 74 32 (nI x) (by decide) rfl (by decide)) dX9_add_5 kk_X9_add_X11_cell nl_RX9_23 swX11_cell rfl rfl (Nat.le_of_ble_eq_true rfl) ?_
  rintro _ _ ⟨_, rfl, rfl, rfl⟩
  rw [zs_ce_nI hx (by decide), h.1 x hx]
  refine g_iconst (v := (nI 1)) dX9_add_8 rfl ?_
  refine g_iaddN dX9_add_9 ?_
  refine g_istore_n (lv' := [(2, .int (nI ((g x) + 1))), (0, .ref 73), (1, .int (nI x))]) dX9_add_10 rfl (by decide) rfl ?_
  refine g_aload_n dX9_add_11 rfl rfl ?_
  refine g_getR 0 (74) (C := RX9) (T := TX9) (N := 2) dX9_add_12 (by decide) rfl rfl (by decide) rfl fl_RX9_7 ?_
  refine g_iload_n dX9_add_15 rfl rfl ?_
  refine g_iload_n dX9_add_16 rfl rfl ?_
  refine g_callN [.ref 74, .int (nI x), .int (nI ((g x) + 1))] [] (x_put S 74 32 (nI x) (nI ((g x) + 1)) (by decide) rfl (by decide)) dX9_add_17 kk_X9_add_X11_put nl_RX9_27 swX11_put rfl rfl (Nat.le_of_ble_eq_true rfl) ?_
  rintro _ _ ⟨rfl, rfl⟩
  refine g_aload_n dX9_add_20 rfl rfl ?_
  refine g_aload_n dX9_add_21 rfl rfl ?_
  refine g_getV 1 (C := RX9) (T := TX9) (N := 2) (v := (nI m)) dX9_add_22 (by decide) rfl rfl (by decide) rfl fl_RX9_19 ((zs_pu_o (by decide)).trans h.2) ?_
  refine g_iload_n dX9_add_25 rfl rfl ?_
  refine g_callS [.int (nI m), .int (nI ((g x) + 1))] [.ref 73] (x_maxN (zs_pu S 74 32 (nI x) (nI ((g x) + 1))) m (g x + 1) (by omega) (by have := hg x; omega)) dX9_add_26 kk_X9_add_J9_max_7cf53 ml_RX9_31 swJ9_max_7cf53 rfl rfl (Nat.le_of_ble_eq_true rfl) ?_
  rintro _ _ ⟨_, rfl, rfl, rfl⟩
  refine g_putI 1 (C := RX9) (T := TX9) (N := 2) (ty := .int) dX9_add_29 (by decide) rfl rfl (by decide) rfl fl_RX9_19 rfl (by decide +kernel) ⟨rfl, rfl⟩ ?_
  refine g_ret dX9_add_32 rfl ?_
  refine ⟨rfl, (zs_ch.rf.pu (by omega) (by omega)).up (by omega) (by omega), fun j hj => (zs_up_m (by omega)).trans ?_, zs_up_q⟩
  rw [zs_pu_nI hx (by decide)]
  show _ = nI (if j = x then g j + 1 else g j)
  by_cases e : j = x
  · rw [if_pos e, e]; exact zs_up_q
  · rw [if_neg e]; exact (zs_up_m (by omega)).trans (h.1 j hj)
def zs_tg : List Nat → (Nat → Nat) × Nat
  | [] => (fun _ => 0, 0)
  | x :: l => (fun j => if j = x then (zs_tg l).1 j + 1 else (zs_tg l).1 j, max (zs_tg l).2 ((zs_tg l).1 x + 1))
theorem zs_tg_le : ∀ l : List Nat, (∀ j, (zs_tg l).1 j ≤ l.length) ∧ (zs_tg l).2 ≤ l.length := by
  intro l
  induction l with
  | nil => exact ⟨fun _ => Nat.le_refl 0, Nat.le_refl 0⟩
  | cons x l ih =>
    refine ⟨fun j => ?_, ?_⟩
    · show (if j = x then (zs_tg l).1 j + 1 else (zs_tg l).1 j) ≤ l.length + 1
      have := ih.1 j
      split <;> omega
    · show max (zs_tg l).2 ((zs_tg l).1 x + 1) ≤ l.length + 1
      have := ih.1 x
      have := ih.2
      omega
theorem zs_pas_lt {c s k : Nat} (hs : s < 12) : zs_pas c s k < 32 := by
  unfold zs_pas
  split
  · omega
  · split <;> omega
  · split <;> omega
  · split
    · omega
    · split <;> omega
  · omega
  · omega
set_option maxRecDepth 100000 in
theorem z_pass0 (S : zs_S) (s k : Nat) (hs : s < 2 ^ 20) (hk : k < 2 ^ 30) : zs_Ci MX12_passes [.int (nI 0), .int (nI s), .int (nI k)] S (fun z S2 => z = nI (zs_pas 0 s k) ∧ S = S2) := by
  refine zs_C.of (by decide) (Nat.le_of_ble_eq_true rfl) ?_
  show zs_P MX12_passes 0 [(0, .int (nI 0)), (1, .int (nI s)), (2, .int (nI k))] [] S _
  refine g_iload_n dX12_passes_0 rfl rfl ?_
  refine g_iconst (v := (nI 1)) dX12_passes_1 rfl ?_
  refine g_ic_eqN 10 dX12_passes_2 (by decide) (by omega) (by omega) (fun z => absurd z (by omega)) (fun _ => ?_)
  refine g_iload_n dX12_passes_5 rfl rfl ?_
  refine g_iconst (v := (nI 3)) dX12_passes_6 rfl ?_
  refine g_ic_neN 16 dX12_passes_7 (by decide) (by omega) (by omega) (fun _ => ?_) (fun z => absurd z (by omega))
  refine g_iload_n dX12_passes_16 rfl rfl ?_
  refine g_istore_n (lv' := [(3, .int (nI s)), (0, .int (nI 0)), (1, .int (nI s)), (2, .int (nI k))]) dX12_passes_17 rfl (by decide) rfl ?_
  refine g_iload_n dX12_passes_18 rfl rfl ?_
  refine g_iload_n dX12_passes_19 rfl rfl ?_
  refine g_iconst (v := (nI 2)) dX12_passes_20 rfl ?_
  refine g_ic_eqN 29 dX12_passes_21 (by decide) (by omega) (by omega) (fun z => absurd z (by omega)) (fun _ => ?_)
  refine g_iload_n dX12_passes_24 rfl rfl ?_
  refine g_iconst (v := (nI 4)) dX12_passes_25 rfl ?_
  refine g_ic_neN 40 dX12_passes_26 (by decide) (by omega) (by omega) (fun _ => ?_) (fun z => absurd z (by omega))
  refine g_iconst (v := (nI 0)) dX12_passes_40 rfl ?_
  refine g_iaddN dX12_passes_41 ?_
  refine g_istore_n (lv' := [(3, .int (nI (s + 0))), (0, .int (nI 0)), (1, .int (nI s)), (2, .int (nI k))]) dX12_passes_42 rfl (by decide) rfl ?_
  refine g_iload_n dX12_passes_43 rfl rfl ?_
  refine g_iload_n dX12_passes_44 rfl rfl ?_
  refine g_iconst (v := (nI 3)) dX12_passes_45 rfl ?_
  refine g_ic_neN 59 dX12_passes_46 (by decide) (by omega) (by omega) (fun _ => ?_) (fun z => absurd z (by omega))
  refine g_iconst (v := (nI 0)) dX12_passes_59 rfl ?_
  refine g_iaddN dX12_passes_60 ?_
  refine g_istore_n (lv' := [(3, .int (nI ((s + 0) + 0))), (0, .int (nI 0)), (1, .int (nI s)), (2, .int (nI k))]) dX12_passes_61 rfl (by decide) rfl ?_
  refine g_iload_n dX12_passes_62 rfl rfl ?_
  refine g_iconst (v := (nI 4)) dX12_passes_63 rfl ?_
  refine g_ic_neN 78 dX12_passes_64 (by decide) (by omega) (by omega) (fun _ => ?_) (fun z => absurd z (by omega))
  refine g_iload_n dX12_passes_78 rfl rfl ?_
  refine g_istore_n (lv' := [(3, .int (nI ((s + 0) + 0))), (0, .int (nI 0)), (1, .int (nI s)), (2, .int (nI k))]) dX12_passes_79 rfl (by decide) rfl ?_
  refine g_iload_n dX12_passes_80 rfl rfl ?_
  refine g_iconst (v := (nI 5)) dX12_passes_81 rfl ?_
  refine g_ic_neN 94 dX12_passes_82 (by decide) (by omega) (by omega) (fun _ => ?_) (fun z => absurd z (by omega))
  refine g_iload_n dX12_passes_94 rfl rfl ?_
  refine g_iret dX12_passes_95 rfl rfl ?_
  exact ⟨_, rfl, congrArg nI (by simp only [zs_pas] <;> (repeat' split) <;> omega), rfl⟩
set_option maxRecDepth 100000 in
theorem z_pass1 (S : zs_S) (s k : Nat) (hs : s < 2 ^ 20) (hk : k < 2 ^ 30) : zs_Ci MX12_passes [.int (nI 1), .int (nI s), .int (nI k)] S (fun z S2 => z = nI (zs_pas 1 s k) ∧ S = S2) := by
  refine zs_C.of (by decide) (Nat.le_of_ble_eq_true rfl) ?_
  show zs_P MX12_passes 0 [(0, .int (nI 1)), (1, .int (nI s)), (2, .int (nI k))] [] S _
  refine g_iload_n dX12_passes_0 rfl rfl ?_
  refine g_iconst (v := (nI 1)) dX12_passes_1 rfl ?_
  refine g_ic_eqN 10 dX12_passes_2 (by decide) (by omega) (by omega) (fun _ => ?_) (fun z => absurd z (by omega))
  refine g_iconst (v := (nI 2)) dX12_passes_10 rfl ?_
  refine g_iload_n dX12_passes_11 rfl rfl ?_
  refine g_imulN dX12_passes_12 ?_
  refine g_goto 17 dX12_passes_13 (by decide) ?_
  refine g_istore_n (lv' := [(3, .int (nI (2 * s))), (0, .int (nI 1)), (1, .int (nI s)), (2, .int (nI k))]) dX12_passes_17 rfl (by decide) rfl ?_
  refine g_iload_n dX12_passes_18 rfl rfl ?_
  refine g_iload_n dX12_passes_19 rfl rfl ?_
  refine g_iconst (v := (nI 2)) dX12_passes_20 rfl ?_
  refine g_ic_eqN 29 dX12_passes_21 (by decide) (by omega) (by omega) (fun z => absurd z (by omega)) (fun _ => ?_)
  refine g_iload_n dX12_passes_24 rfl rfl ?_
  refine g_iconst (v := (nI 4)) dX12_passes_25 rfl ?_
  refine g_ic_neN 40 dX12_passes_26 (by decide) (by omega) (by omega) (fun _ => ?_) (fun z => absurd z (by omega))
  refine g_iconst (v := (nI 0)) dX12_passes_40 rfl ?_
  refine g_iaddN dX12_passes_41 ?_
  refine g_istore_n (lv' := [(3, .int (nI ((2 * s) + 0))), (0, .int (nI 1)), (1, .int (nI s)), (2, .int (nI k))]) dX12_passes_42 rfl (by decide) rfl ?_
  refine g_iload_n dX12_passes_43 rfl rfl ?_
  refine g_iload_n dX12_passes_44 rfl rfl ?_
  refine g_iconst (v := (nI 3)) dX12_passes_45 rfl ?_
  refine g_ic_neN 59 dX12_passes_46 (by decide) (by omega) (by omega) (fun _ => ?_) (fun z => absurd z (by omega))
  refine g_iconst (v := (nI 0)) dX12_passes_59 rfl ?_
  refine g_iaddN dX12_passes_60 ?_
  refine g_istore_n (lv' := [(3, .int (nI (((2 * s) + 0) + 0))), (0, .int (nI 1)), (1, .int (nI s)), (2, .int (nI k))]) dX12_passes_61 rfl (by decide) rfl ?_
  refine g_iload_n dX12_passes_62 rfl rfl ?_
  refine g_iconst (v := (nI 4)) dX12_passes_63 rfl ?_
  refine g_ic_neN 78 dX12_passes_64 (by decide) (by omega) (by omega) (fun _ => ?_) (fun z => absurd z (by omega))
  refine g_iload_n dX12_passes_78 rfl rfl ?_
  refine g_istore_n (lv' := [(3, .int (nI (((2 * s) + 0) + 0))), (0, .int (nI 1)), (1, .int (nI s)), (2, .int (nI k))]) dX12_passes_79 rfl (by decide) rfl ?_
  refine g_iload_n dX12_passes_80 rfl rfl ?_
  refine g_iconst (v := (nI 5)) dX12_passes_81 rfl ?_
  refine g_ic_neN 94 dX12_passes_82 (by decide) (by omega) (by omega) (fun _ => ?_) (fun z => absurd z (by omega))
  refine g_iload_n dX12_passes_94 rfl rfl ?_
  refine g_iret dX12_passes_95 rfl rfl ?_
  exact ⟨_, rfl, congrArg nI (by simp only [zs_pas] <;> (repeat' split) <;> omega), rfl⟩
set_option maxRecDepth 100000 in
theorem z_pass2 (S : zs_S) (s k : Nat) (hs : s < 2 ^ 20) (hk : k < 2 ^ 30) : zs_Ci MX12_passes [.int (nI 2), .int (nI s), .int (nI k)] S (fun z S2 => z = nI (zs_pas 2 s k) ∧ S = S2) := by
  refine zs_C.of (by decide) (Nat.le_of_ble_eq_true rfl) ?_
  show zs_P MX12_passes 0 [(0, .int (nI 2)), (1, .int (nI s)), (2, .int (nI k))] [] S _
  refine g_iload_n dX12_passes_0 rfl rfl ?_
  refine g_iconst (v := (nI 1)) dX12_passes_1 rfl ?_
  refine g_ic_eqN 10 dX12_passes_2 (by decide) (by omega) (by omega) (fun z => absurd z (by omega)) (fun _ => ?_)
  refine g_iload_n dX12_passes_5 rfl rfl ?_
  refine g_iconst (v := (nI 3)) dX12_passes_6 rfl ?_
  refine g_ic_neN 16 dX12_passes_7 (by decide) (by omega) (by omega) (fun _ => ?_) (fun z => absurd z (by omega))
  refine g_iload_n dX12_passes_16 rfl rfl ?_
  refine g_istore_n (lv' := [(3, .int (nI s)), (0, .int (nI 2)), (1, .int (nI s)), (2, .int (nI k))]) dX12_passes_17 rfl (by decide) rfl ?_
  refine g_iload_n dX12_passes_18 rfl rfl ?_
  refine g_iload_n dX12_passes_19 rfl rfl ?_
  refine g_iconst (v := (nI 2)) dX12_passes_20 rfl ?_
  refine g_ic_eqN 29 dX12_passes_21 (by decide) (by omega) (by omega) (fun _ => ?_) (fun z => absurd z (by omega))
  refine g_iload_n dX12_passes_29 rfl rfl ?_
  refine g_iconst (v := (nI 2)) dX12_passes_30 rfl ?_
  refine g_iremN dX12_passes_31 (by omega) (by omega) (by omega) ?_
  refine g_iconst (v := (nI 1)) dX12_passes_32 rfl ?_
  refine g_ic_neN 40 dX12_passes_33 (by decide) (by omega) (by omega) (fun h1 => ?_) (fun h1 => ?_)
  · refine g_iconst (v := (nI 0)) dX12_passes_40 rfl ?_
    refine g_iaddN dX12_passes_41 ?_
    refine g_istore_n (lv' := [(3, .int (nI (s + 0))), (0, .int (nI 2)), (1, .int (nI s)), (2, .int (nI k))]) dX12_passes_42 rfl (by decide) rfl ?_
    refine g_iload_n dX12_passes_43 rfl rfl ?_
    refine g_iload_n dX12_passes_44 rfl rfl ?_
    refine g_iconst (v := (nI 3)) dX12_passes_45 rfl ?_
    refine g_ic_neN 59 dX12_passes_46 (by decide) (by omega) (by omega) (fun _ => ?_) (fun z => absurd z (by omega))
    refine g_iconst (v := (nI 0)) dX12_passes_59 rfl ?_
    refine g_iaddN dX12_passes_60 ?_
    refine g_istore_n (lv' := [(3, .int (nI ((s + 0) + 0))), (0, .int (nI 2)), (1, .int (nI s)), (2, .int (nI k))]) dX12_passes_61 rfl (by decide) rfl ?_
    refine g_iload_n dX12_passes_62 rfl rfl ?_
    refine g_iconst (v := (nI 4)) dX12_passes_63 rfl ?_
    refine g_ic_neN 78 dX12_passes_64 (by decide) (by omega) (by omega) (fun _ => ?_) (fun z => absurd z (by omega))
    refine g_iload_n dX12_passes_78 rfl rfl ?_
    refine g_istore_n (lv' := [(3, .int (nI ((s + 0) + 0))), (0, .int (nI 2)), (1, .int (nI s)), (2, .int (nI k))]) dX12_passes_79 rfl (by decide) rfl ?_
    refine g_iload_n dX12_passes_80 rfl rfl ?_
    refine g_iconst (v := (nI 5)) dX12_passes_81 rfl ?_
    refine g_ic_neN 94 dX12_passes_82 (by decide) (by omega) (by omega) (fun _ => ?_) (fun z => absurd z (by omega))
    refine g_iload_n dX12_passes_94 rfl rfl ?_
    refine g_iret dX12_passes_95 rfl rfl ?_
    exact ⟨_, rfl, congrArg nI (by simp only [zs_pas] <;> (repeat' split) <;> omega), rfl⟩
  · refine g_iconst (v := (nI 1)) dX12_passes_36 rfl ?_
    refine g_goto 41 dX12_passes_37 (by decide) ?_
    refine g_iaddN dX12_passes_41 ?_
    refine g_istore_n (lv' := [(3, .int (nI (s + 1))), (0, .int (nI 2)), (1, .int (nI s)), (2, .int (nI k))]) dX12_passes_42 rfl (by decide) rfl ?_
    refine g_iload_n dX12_passes_43 rfl rfl ?_
    refine g_iload_n dX12_passes_44 rfl rfl ?_
    refine g_iconst (v := (nI 3)) dX12_passes_45 rfl ?_
    refine g_ic_neN 59 dX12_passes_46 (by decide) (by omega) (by omega) (fun _ => ?_) (fun z => absurd z (by omega))
    refine g_iconst (v := (nI 0)) dX12_passes_59 rfl ?_
    refine g_iaddN dX12_passes_60 ?_
    refine g_istore_n (lv' := [(3, .int (nI ((s + 1) + 0))), (0, .int (nI 2)), (1, .int (nI s)), (2, .int (nI k))]) dX12_passes_61 rfl (by decide) rfl ?_
    refine g_iload_n dX12_passes_62 rfl rfl ?_
    refine g_iconst (v := (nI 4)) dX12_passes_63 rfl ?_
    refine g_ic_neN 78 dX12_passes_64 (by decide) (by omega) (by omega) (fun _ => ?_) (fun z => absurd z (by omega))
    refine g_iload_n dX12_passes_78 rfl rfl ?_
    refine g_istore_n (lv' := [(3, .int (nI ((s + 1) + 0))), (0, .int (nI 2)), (1, .int (nI s)), (2, .int (nI k))]) dX12_passes_79 rfl (by decide) rfl ?_
    refine g_iload_n dX12_passes_80 rfl rfl ?_
    refine g_iconst (v := (nI 5)) dX12_passes_81 rfl ?_
    refine g_ic_neN 94 dX12_passes_82 (by decide) (by omega) (by omega) (fun _ => ?_) (fun z => absurd z (by omega))
    refine g_iload_n dX12_passes_94 rfl rfl ?_
    refine g_iret dX12_passes_95 rfl rfl ?_
    exact ⟨_, rfl, congrArg nI (by simp only [zs_pas] <;> (repeat' split) <;> omega), rfl⟩
set_option maxRecDepth 100000 in
theorem z_pass3 (S : zs_S) (s k : Nat) (hs : s < 2 ^ 20) (hk : k < 2 ^ 30) : zs_Ci MX12_passes [.int (nI 3), .int (nI s), .int (nI k)] S (fun z S2 => z = nI (zs_pas 3 s k) ∧ S = S2) := by
  refine zs_C.of (by decide) (Nat.le_of_ble_eq_true rfl) ?_
  show zs_P MX12_passes 0 [(0, .int (nI 3)), (1, .int (nI s)), (2, .int (nI k))] [] S _
  refine g_iload_n dX12_passes_0 rfl rfl ?_
  refine g_iconst (v := (nI 1)) dX12_passes_1 rfl ?_
  refine g_ic_eqN 10 dX12_passes_2 (by decide) (by omega) (by omega) (fun z => absurd z (by omega)) (fun _ => ?_)
  refine g_iload_n dX12_passes_5 rfl rfl ?_
  refine g_iconst (v := (nI 3)) dX12_passes_6 rfl ?_
  refine g_ic_neN 16 dX12_passes_7 (by decide) (by omega) (by omega) (fun z => absurd z (by omega)) (fun _ => ?_)
  refine g_iconst (v := (nI 2)) dX12_passes_10 rfl ?_
  refine g_iload_n dX12_passes_11 rfl rfl ?_
  refine g_imulN dX12_passes_12 ?_
  refine g_goto 17 dX12_passes_13 (by decide) ?_
  refine g_istore_n (lv' := [(3, .int (nI (2 * s))), (0, .int (nI 3)), (1, .int (nI s)), (2, .int (nI k))]) dX12_passes_17 rfl (by decide) rfl ?_
  refine g_iload_n dX12_passes_18 rfl rfl ?_
  refine g_iload_n dX12_passes_19 rfl rfl ?_
  refine g_iconst (v := (nI 2)) dX12_passes_20 rfl ?_
  refine g_ic_eqN 29 dX12_passes_21 (by decide) (by omega) (by omega) (fun z => absurd z (by omega)) (fun _ => ?_)
  refine g_iload_n dX12_passes_24 rfl rfl ?_
  refine g_iconst (v := (nI 4)) dX12_passes_25 rfl ?_
  refine g_ic_neN 40 dX12_passes_26 (by decide) (by omega) (by omega) (fun _ => ?_) (fun z => absurd z (by omega))
  refine g_iconst (v := (nI 0)) dX12_passes_40 rfl ?_
  refine g_iaddN dX12_passes_41 ?_
  refine g_istore_n (lv' := [(3, .int (nI ((2 * s) + 0))), (0, .int (nI 3)), (1, .int (nI s)), (2, .int (nI k))]) dX12_passes_42 rfl (by decide) rfl ?_
  refine g_iload_n dX12_passes_43 rfl rfl ?_
  refine g_iload_n dX12_passes_44 rfl rfl ?_
  refine g_iconst (v := (nI 3)) dX12_passes_45 rfl ?_
  refine g_ic_neN 59 dX12_passes_46 (by decide) (by omega) (by omega) (fun z => absurd z (by omega)) (fun _ => ?_)
  refine g_iload_n dX12_passes_49 rfl rfl ?_
  refine g_iconst (v := (nI 4)) dX12_passes_50 rfl ?_
  refine g_iremN dX12_passes_51 (by omega) (by omega) (by omega) ?_
  refine g_if_neN 59 dX12_passes_52 (by decide) (by omega) (fun h1 => ?_) (fun h1 => ?_)
  · refine g_iconst (v := (nI 0)) dX12_passes_59 rfl ?_
    refine g_iaddN dX12_passes_60 ?_
    refine g_istore_n (lv' := [(3, .int (nI (((2 * s) + 0) + 0))), (0, .int (nI 3)), (1, .int (nI s)), (2, .int (nI k))]) dX12_passes_61 rfl (by decide) rfl ?_
    refine g_iload_n dX12_passes_62 rfl rfl ?_
    refine g_iconst (v := (nI 4)) dX12_passes_63 rfl ?_
    refine g_ic_neN 78 dX12_passes_64 (by decide) (by omega) (by omega) (fun _ => ?_) (fun z => absurd z (by omega))
    refine g_iload_n dX12_passes_78 rfl rfl ?_
    refine g_istore_n (lv' := [(3, .int (nI (((2 * s) + 0) + 0))), (0, .int (nI 3)), (1, .int (nI s)), (2, .int (nI k))]) dX12_passes_79 rfl (by decide) rfl ?_
    refine g_iload_n dX12_passes_80 rfl rfl ?_
    refine g_iconst (v := (nI 5)) dX12_passes_81 rfl ?_
    refine g_ic_neN 94 dX12_passes_82 (by decide) (by omega) (by omega) (fun _ => ?_) (fun z => absurd z (by omega))
    refine g_iload_n dX12_passes_94 rfl rfl ?_
    refine g_iret dX12_passes_95 rfl rfl ?_
    exact ⟨_, rfl, congrArg nI (by simp only [zs_pas] <;> (repeat' split) <;> omega), rfl⟩
  · refine g_iconst (v := (nI 1)) dX12_passes_55 rfl ?_
    refine g_goto 60 dX12_passes_56 (by decide) ?_
    refine g_iaddN dX12_passes_60 ?_
    refine g_istore_n (lv' := [(3, .int (nI (((2 * s) + 0) + 1))), (0, .int (nI 3)), (1, .int (nI s)), (2, .int (nI k))]) dX12_passes_61 rfl (by decide) rfl ?_
    refine g_iload_n dX12_passes_62 rfl rfl ?_
    refine g_iconst (v := (nI 4)) dX12_passes_63 rfl ?_
    refine g_ic_neN 78 dX12_passes_64 (by decide) (by omega) (by omega) (fun _ => ?_) (fun z => absurd z (by omega))
    refine g_iload_n dX12_passes_78 rfl rfl ?_
    refine g_istore_n (lv' := [(3, .int (nI (((2 * s) + 0) + 1))), (0, .int (nI 3)), (1, .int (nI s)), (2, .int (nI k))]) dX12_passes_79 rfl (by decide) rfl ?_
    refine g_iload_n dX12_passes_80 rfl rfl ?_
    refine g_iconst (v := (nI 5)) dX12_passes_81 rfl ?_
    refine g_ic_neN 94 dX12_passes_82 (by decide) (by omega) (by omega) (fun _ => ?_) (fun z => absurd z (by omega))
    refine g_iload_n dX12_passes_94 rfl rfl ?_
    refine g_iret dX12_passes_95 rfl rfl ?_
    exact ⟨_, rfl, congrArg nI (by simp only [zs_pas] <;> (repeat' split) <;> omega), rfl⟩
set_option maxRecDepth 100000 in
theorem z_pass4 (S : zs_S) (s k : Nat) (hs : s < 2 ^ 20) (hk : k < 2 ^ 30) : zs_Ci MX12_passes [.int (nI 4), .int (nI s), .int (nI k)] S (fun z S2 => z = nI (zs_pas 4 s k) ∧ S = S2) := by
  refine zs_C.of (by decide) (Nat.le_of_ble_eq_true rfl) ?_
  show zs_P MX12_passes 0 [(0, .int (nI 4)), (1, .int (nI s)), (2, .int (nI k))] [] S _
  refine g_iload_n dX12_passes_0 rfl rfl ?_
  refine g_iconst (v := (nI 1)) dX12_passes_1 rfl ?_
  refine g_ic_eqN 10 dX12_passes_2 (by decide) (by omega) (by omega) (fun z => absurd z (by omega)) (fun _ => ?_)
  refine g_iload_n dX12_passes_5 rfl rfl ?_
  refine g_iconst (v := (nI 3)) dX12_passes_6 rfl ?_
  refine g_ic_neN 16 dX12_passes_7 (by decide) (by omega) (by omega) (fun _ => ?_) (fun z => absurd z (by omega))
  refine g_iload_n dX12_passes_16 rfl rfl ?_
  refine g_istore_n (lv' := [(3, .int (nI s)), (0, .int (nI 4)), (1, .int (nI s)), (2, .int (nI k))]) dX12_passes_17 rfl (by decide) rfl ?_
  refine g_iload_n dX12_passes_18 rfl rfl ?_
  refine g_iload_n dX12_passes_19 rfl rfl ?_
  refine g_iconst (v := (nI 2)) dX12_passes_20 rfl ?_
  refine g_ic_eqN 29 dX12_passes_21 (by decide) (by omega) (by omega) (fun z => absurd z (by omega)) (fun _ => ?_)
  refine g_iload_n dX12_passes_24 rfl rfl ?_
  refine g_iconst (v := (nI 4)) dX12_passes_25 rfl ?_
  refine g_ic_neN 40 dX12_passes_26 (by decide) (by omega) (by omega) (fun z => absurd z (by omega)) (fun _ => ?_)
  refine g_iload_n dX12_passes_29 rfl rfl ?_
  refine g_iconst (v := (nI 2)) dX12_passes_30 rfl ?_
  refine g_iremN dX12_passes_31 (by omega) (by omega) (by omega) ?_
  refine g_iconst (v := (nI 1)) dX12_passes_32 rfl ?_
  refine g_ic_neN 40 dX12_passes_33 (by decide) (by omega) (by omega) (fun h1 => ?_) (fun h1 => ?_)
  · refine g_iconst (v := (nI 0)) dX12_passes_40 rfl ?_
    refine g_iaddN dX12_passes_41 ?_
    refine g_istore_n (lv' := [(3, .int (nI (s + 0))), (0, .int (nI 4)), (1, .int (nI s)), (2, .int (nI k))]) dX12_passes_42 rfl (by decide) rfl ?_
    refine g_iload_n dX12_passes_43 rfl rfl ?_
    refine g_iload_n dX12_passes_44 rfl rfl ?_
    refine g_iconst (v := (nI 3)) dX12_passes_45 rfl ?_
    refine g_ic_neN 59 dX12_passes_46 (by decide) (by omega) (by omega) (fun _ => ?_) (fun z => absurd z (by omega))
    refine g_iconst (v := (nI 0)) dX12_passes_59 rfl ?_
    refine g_iaddN dX12_passes_60 ?_
    refine g_istore_n (lv' := [(3, .int (nI ((s + 0) + 0))), (0, .int (nI 4)), (1, .int (nI s)), (2, .int (nI k))]) dX12_passes_61 rfl (by decide) rfl ?_
    refine g_iload_n dX12_passes_62 rfl rfl ?_
    refine g_iconst (v := (nI 4)) dX12_passes_63 rfl ?_
    refine g_ic_neN 78 dX12_passes_64 (by decide) (by omega) (by omega) (fun z => absurd z (by omega)) (fun _ => ?_)
    refine g_iload_n dX12_passes_67 rfl rfl ?_
    refine g_iconst (v := (nI 5)) dX12_passes_68 rfl ?_
    refine g_iremN dX12_passes_69 (by omega) (by omega) (by omega) ?_
    refine g_iconst (v := (nI 4)) dX12_passes_70 rfl ?_
    refine g_ic_neN 78 dX12_passes_71 (by decide) (by omega) (by omega) (fun h2 => ?_) (fun h2 => ?_)
    · refine g_iload_n dX12_passes_78 rfl rfl ?_
      refine g_istore_n (lv' := [(3, .int (nI ((s + 0) + 0))), (0, .int (nI 4)), (1, .int (nI s)), (2, .int (nI k))]) dX12_passes_79 rfl (by decide) rfl ?_
      refine g_iload_n dX12_passes_80 rfl rfl ?_
      refine g_iconst (v := (nI 5)) dX12_passes_81 rfl ?_
      refine g_ic_neN 94 dX12_passes_82 (by decide) (by omega) (by omega) (fun _ => ?_) (fun z => absurd z (by omega))
      refine g_iload_n dX12_passes_94 rfl rfl ?_
      refine g_iret dX12_passes_95 rfl rfl ?_
      exact ⟨_, rfl, congrArg nI (by simp only [zs_pas] <;> (repeat' split) <;> omega), rfl⟩
    · refine g_iconst (v := (nI 0)) dX12_passes_74 rfl ?_
      refine g_goto 79 dX12_passes_75 (by decide) ?_
      refine g_istore_n (lv' := [(3, .int (nI 0)), (0, .int (nI 4)), (1, .int (nI s)), (2, .int (nI k))]) dX12_passes_79 rfl (by decide) rfl ?_
      refine g_iload_n dX12_passes_80 rfl rfl ?_
      refine g_iconst (v := (nI 5)) dX12_passes_81 rfl ?_
      refine g_ic_neN 94 dX12_passes_82 (by decide) (by omega) (by omega) (fun _ => ?_) (fun z => absurd z (by omega))
      refine g_iload_n dX12_passes_94 rfl rfl ?_
      refine g_iret dX12_passes_95 rfl rfl ?_
      exact ⟨_, rfl, congrArg nI (by simp only [zs_pas] <;> (repeat' split) <;> omega), rfl⟩
  · refine g_iconst (v := (nI 1)) dX12_passes_36 rfl ?_
    refine g_goto 41 dX12_passes_37 (by decide) ?_
    refine g_iaddN dX12_passes_41 ?_
    refine g_istore_n (lv' := [(3, .int (nI (s + 1))), (0, .int (nI 4)), (1, .int (nI s)), (2, .int (nI k))]) dX12_passes_42 rfl (by decide) rfl ?_
    refine g_iload_n dX12_passes_43 rfl rfl ?_
    refine g_iload_n dX12_passes_44 rfl rfl ?_
    refine g_iconst (v := (nI 3)) dX12_passes_45 rfl ?_
    refine g_ic_neN 59 dX12_passes_46 (by decide) (by omega) (by omega) (fun _ => ?_) (fun z => absurd z (by omega))
    refine g_iconst (v := (nI 0)) dX12_passes_59 rfl ?_
    refine g_iaddN dX12_passes_60 ?_
    refine g_istore_n (lv' := [(3, .int (nI ((s + 1) + 0))), (0, .int (nI 4)), (1, .int (nI s)), (2, .int (nI k))]) dX12_passes_61 rfl (by decide) rfl ?_
    refine g_iload_n dX12_passes_62 rfl rfl ?_
    refine g_iconst (v := (nI 4)) dX12_passes_63 rfl ?_
    refine g_ic_neN 78 dX12_passes_64 (by decide) (by omega) (by omega) (fun z => absurd z (by omega)) (fun _ => ?_)
    refine g_iload_n dX12_passes_67 rfl rfl ?_
    refine g_iconst (v := (nI 5)) dX12_passes_68 rfl ?_
    refine g_iremN dX12_passes_69 (by omega) (by omega) (by omega) ?_
    refine g_iconst (v := (nI 4)) dX12_passes_70 rfl ?_
    refine g_ic_neN 78 dX12_passes_71 (by decide) (by omega) (by omega) (fun h3 => ?_) (fun h3 => ?_)
    · refine g_iload_n dX12_passes_78 rfl rfl ?_
      refine g_istore_n (lv' := [(3, .int (nI ((s + 1) + 0))), (0, .int (nI 4)), (1, .int (nI s)), (2, .int (nI k))]) dX12_passes_79 rfl (by decide) rfl ?_
      refine g_iload_n dX12_passes_80 rfl rfl ?_
      refine g_iconst (v := (nI 5)) dX12_passes_81 rfl ?_
      refine g_ic_neN 94 dX12_passes_82 (by decide) (by omega) (by omega) (fun _ => ?_) (fun z => absurd z (by omega))
      refine g_iload_n dX12_passes_94 rfl rfl ?_
      refine g_iret dX12_passes_95 rfl rfl ?_
      exact ⟨_, rfl, congrArg nI (by simp only [zs_pas] <;> (repeat' split) <;> omega), rfl⟩
    · refine g_iconst (v := (nI 0)) dX12_passes_74 rfl ?_
      refine g_goto 79 dX12_passes_75 (by decide) ?_
      refine g_istore_n (lv' := [(3, .int (nI 0)), (0, .int (nI 4)), (1, .int (nI s)), (2, .int (nI k))]) dX12_passes_79 rfl (by decide) rfl ?_
      refine g_iload_n dX12_passes_80 rfl rfl ?_
      refine g_iconst (v := (nI 5)) dX12_passes_81 rfl ?_
      refine g_ic_neN 94 dX12_passes_82 (by decide) (by omega) (by omega) (fun _ => ?_) (fun z => absurd z (by omega))
      refine g_iload_n dX12_passes_94 rfl rfl ?_
      refine g_iret dX12_passes_95 rfl rfl ?_
      exact ⟨_, rfl, congrArg nI (by simp only [zs_pas] <;> (repeat' split) <;> omega), rfl⟩
set_option maxRecDepth 100000 in
theorem z_pass5 (S : zs_S) (s k : Nat) (hs : s < 2 ^ 20) (hk : k < 2 ^ 30) : zs_Ci MX12_passes [.int (nI 5), .int (nI s), .int (nI k)] S (fun z S2 => z = nI (zs_pas 5 s k) ∧ S = S2) := by
  refine zs_C.of (by decide) (Nat.le_of_ble_eq_true rfl) ?_
  show zs_P MX12_passes 0 [(0, .int (nI 5)), (1, .int (nI s)), (2, .int (nI k))] [] S _
  refine g_iload_n dX12_passes_0 rfl rfl ?_
  refine g_iconst (v := (nI 1)) dX12_passes_1 rfl ?_
  refine g_ic_eqN 10 dX12_passes_2 (by decide) (by omega) (by omega) (fun z => absurd z (by omega)) (fun _ => ?_)
  refine g_iload_n dX12_passes_5 rfl rfl ?_
  refine g_iconst (v := (nI 3)) dX12_passes_6 rfl ?_
  refine g_ic_neN 16 dX12_passes_7 (by decide) (by omega) (by omega) (fun _ => ?_) (fun z => absurd z (by omega))
  refine g_iload_n dX12_passes_16 rfl rfl ?_
  refine g_istore_n (lv' := [(3, .int (nI s)), (0, .int (nI 5)), (1, .int (nI s)), (2, .int (nI k))]) dX12_passes_17 rfl (by decide) rfl ?_
  refine g_iload_n dX12_passes_18 rfl rfl ?_
  refine g_iload_n dX12_passes_19 rfl rfl ?_
  refine g_iconst (v := (nI 2)) dX12_passes_20 rfl ?_
  refine g_ic_eqN 29 dX12_passes_21 (by decide) (by omega) (by omega) (fun z => absurd z (by omega)) (fun _ => ?_)
  refine g_iload_n dX12_passes_24 rfl rfl ?_
  refine g_iconst (v := (nI 4)) dX12_passes_25 rfl ?_
  refine g_ic_neN 40 dX12_passes_26 (by decide) (by omega) (by omega) (fun _ => ?_) (fun z => absurd z (by omega))
  refine g_iconst (v := (nI 0)) dX12_passes_40 rfl ?_
  refine g_iaddN dX12_passes_41 ?_
  refine g_istore_n (lv' := [(3, .int (nI (s + 0))), (0, .int (nI 5)), (1, .int (nI s)), (2, .int (nI k))]) dX12_passes_42 rfl (by decide) rfl ?_
  refine g_iload_n dX12_passes_43 rfl rfl ?_
  refine g_iload_n dX12_passes_44 rfl rfl ?_
  refine g_iconst (v := (nI 3)) dX12_passes_45 rfl ?_
  refine g_ic_neN 59 dX12_passes_46 (by decide) (by omega) (by omega) (fun _ => ?_) (fun z => absurd z (by omega))
  refine g_iconst (v := (nI 0)) dX12_passes_59 rfl ?_
  refine g_iaddN dX12_passes_60 ?_
  refine g_istore_n (lv' := [(3, .int (nI ((s + 0) + 0))), (0, .int (nI 5)), (1, .int (nI s)), (2, .int (nI k))]) dX12_passes_61 rfl (by decide) rfl ?_
  refine g_iload_n dX12_passes_62 rfl rfl ?_
  refine g_iconst (v := (nI 4)) dX12_passes_63 rfl ?_
  refine g_ic_neN 78 dX12_passes_64 (by decide) (by omega) (by omega) (fun _ => ?_) (fun z => absurd z (by omega))
  refine g_iload_n dX12_passes_78 rfl rfl ?_
  refine g_istore_n (lv' := [(3, .int (nI ((s + 0) + 0))), (0, .int (nI 5)), (1, .int (nI s)), (2, .int (nI k))]) dX12_passes_79 rfl (by decide) rfl ?_
  refine g_iload_n dX12_passes_80 rfl rfl ?_
  refine g_iconst (v := (nI 5)) dX12_passes_81 rfl ?_
  refine g_ic_neN 94 dX12_passes_82 (by decide) (by omega) (by omega) (fun z => absurd z (by omega)) (fun _ => ?_)
  refine g_iload_n dX12_passes_85 rfl rfl ?_
  refine g_iconst (v := (nI 1)) dX12_passes_86 rfl ?_
  refine g_ic_geN 94 dX12_passes_87 (by decide) (by omega) (by omega) (fun h1 => ?_) (fun h1 => ?_)
  · refine g_iload_n dX12_passes_94 rfl rfl ?_
    refine g_iret dX12_passes_95 rfl rfl ?_
    exact ⟨_, rfl, congrArg nI (by simp only [zs_pas] <;> (repeat' split) <;> omega), rfl⟩
  · refine g_iconst (v := (nI 1)) dX12_passes_90 rfl ?_
    refine g_goto 95 dX12_passes_91 (by decide) ?_
    refine g_iret dX12_passes_95 rfl rfl ?_
    exact ⟨_, rfl, congrArg nI (by simp only [zs_pas] <;> (repeat' split) <;> omega), rfl⟩
