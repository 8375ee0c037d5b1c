def zs_tg : List Nat → (Nat → Nat) × Nat
  | [] => (fun _ => 0, 0)
  | x :: l => (fun j => if j = x then (zs_tg l).1 j + 1 else (zs_tg l).1 j, max (zs_tg l).2 ((zs_tg l).1 x + 1))
theorem zs_tg_le : ∀ l : List Nat, (∀ j, (zs_tg l).1 j ≤ l.length) ∧ (zs_tg l).2 ≤ l.length := by
  intro l
  induction l with
  | nil => exact ⟨fun _ => Nat.le_refl 0, Nat.le_refl 0⟩
  | cons x l ih =>
    refine ⟨fun j => ?_, ?_⟩
    · show (if j = x then (zs_tg l).1 j + 1 else (zs_tg l).1 j) ≤ l.length + 1
      have := ih.1 j
      split <;> omega
    · show max (zs_tg l).2 ((zs_tg l).1 x + 1) ≤ l.length + 1
      have := ih.1 x
      have := ih.2
      omega
theorem zs_pas_lt {c s k : Nat} (hs : s < 12) : zs_pas c s k < 32 := by
  unfold zs_pas
  split
  · omega
  · split <;> omega
  · split <;> omega
  · split
    · omega
    · split <;> omega
  · omega
  · omega
def zs_mst (s k : Nat) : Nat := (zs_tg [zs_pas 5 s k, zs_pas 4 s k, zs_pas 3 s k, zs_pas 2 s k, zs_pas 1 s k, zs_pas 0 s k]).2
def zs_mg (t : Nat) : Nat := zs_mst (t / 20) (t % 20)
def zs_bs (t : Nat) (r : Int32 × Nat) : Int32 × Nat := if zs_mg t < r.2 then (nI (100 * (t / 20) + t % 20), zs_mg t) else r
def zs_bk (w : Nat) : Nat → Int32 × Nat
  | 0 => (-1, w)
  | t + 1 => zs_bs t (zs_bk w t)
theorem zs_bk_le (w : Nat) : ∀ t, (zs_bk w t).2 ≤ w := by
  intro t
  induction t with
  | zero => exact Nat.le_refl w
  | succ t ih =>
    show (zs_bs t (zs_bk w t)).2 ≤ w
    unfold zs_bs
    split
    · show zs_mg t ≤ w
      omega
    · exact ih
theorem zs_mg_at {s k : Nat} (hk : k < 20) : zs_mg (20 * s + k) = zs_mst s k := by
  unfold zs_mg
  rw [show (20 * s + k) / 20 = s by omega, show (20 * s + k) % 20 = k by omega]
theorem zs_bk_t {w s k : Nat} (hk : k < 20) (h : zs_mst s k < (zs_bk w (20 * s + k)).2) : zs_bk w (20 * s + (k + 1)) = (nI (100 * s + k), zs_mst s k) := by
  show zs_bs (20 * s + k) (zs_bk w (20 * s + k)) = _
  unfold zs_bs
  rw [zs_mg_at hk, if_pos h, show (20 * s + k) / 20 = s by omega, show (20 * s + k) % 20 = k by omega]
theorem zs_bk_f {w s k : Nat} (hk : k < 20) (h : (zs_bk w (20 * s + k)).2 ≤ zs_mst s k) : zs_bk w (20 * s + (k + 1)) = zs_bk w (20 * s + k) := by
  show zs_bs (20 * s + k) (zs_bk w (20 * s + k)) = _
  unfold zs_bs
  rw [zs_mg_at hk, if_neg (by omega)]
theorem zs_bk_240 : zs_bk 1000000 240 = (nI 201, 2) := by decide +kernel
theorem zs_bk_240b : zs_bk 99 240 = (nI 201, 2) := by decide +kernel
set_option maxRecDepth 100000 in
theorem x_has0 (S : zs_S) : zs_Ci MX11_hasBit [.int (nI 63), .int (nI 0)] S (fun x S2 => x = nI 1 ∧ S = S2) := by
  refine zs_C.of (by decide) (Nat.le_of_ble_eq_true rfl) ?_
  show zs_P MX11_hasBit 0 [(0, .int (nI 63)), (1, .int (nI 0))] [] S _
  refine g_iload_n dX11_hasBit_0 rfl rfl ?_
  refine g_iload_n dX11_hasBit_1 rfl rfl ?_
  refine g_ishr dX11_hasBit_2 ?_
  refine g_iconst (v := (nI 1)) dX11_hasBit_3 rfl ?_
  refine g_iand dX11_hasBit_4 ?_
  refine g_iconst (v := (nI 1)) dX11_hasBit_5 rfl ?_
  refine g_ic_ne 13 dX11_hasBit_6 (by decide) (fun z => absurd (by decide) z) (fun _ => ?_)
  refine g_iconst (v := (nI 1)) dX11_hasBit_9 rfl ?_
  refine g_goto 14 dX11_hasBit_10 (by decide) ?_
  refine g_iret dX11_hasBit_14 rfl rfl ?_
  exact ⟨_, rfl, rfl, rfl⟩
set_option maxRecDepth 100000 in
theorem x_has1 (S : zs_S) : zs_Ci MX11_hasBit [.int (nI 63), .int (nI 1)] S (fun x S2 => x = nI 1 ∧ S = S2) := by
  refine zs_C.of (by decide) (Nat.le_of_ble_eq_true rfl) ?_
  show zs_P MX11_hasBit 0 [(0, .int (nI 63)), (1, .int (nI 1))] [] S _
  refine g_iload_n dX11_hasBit_0 rfl rfl ?_
  refine g_iload_n dX11_hasBit_1 rfl rfl ?_
  refine g_ishr dX11_hasBit_2 ?_
  refine g_iconst (v := (nI 1)) dX11_hasBit_3 rfl ?_
  refine g_iand dX11_hasBit_4 ?_
  refine g_iconst (v := (nI 1)) dX11_hasBit_5 rfl ?_
  refine g_ic_ne 13 dX11_hasBit_6 (by decide) (fun z => absurd (by decide) z) (fun _ => ?_)
  refine g_iconst (v := (nI 1)) dX11_hasBit_9 rfl ?_
  refine g_goto 14 dX11_hasBit_10 (by decide) ?_
  refine g_iret dX11_hasBit_14 rfl rfl ?_
  exact ⟨_, rfl, rfl, rfl⟩
set_option maxRecDepth 100000 in
theorem x_has2 (S : zs_S) : zs_Ci MX11_hasBit [.int (nI 63), .int (nI 2)] S (fun x S2 => x = nI 1 ∧ S = S2) := by
  refine zs_C.of (by decide) (Nat.le_of_ble_eq_true rfl) ?_
  show zs_P MX11_hasBit 0 [(0, .int (nI 63)), (1, .int (nI 2))] [] S _
  refine g_iload_n dX11_hasBit_0 rfl rfl ?_
  refine g_iload_n dX11_hasBit_1 rfl rfl ?_
  refine g_ishr dX11_hasBit_2 ?_
  refine g_iconst (v := (nI 1)) dX11_hasBit_3 rfl ?_
  refine g_iand dX11_hasBit_4 ?_
  refine g_iconst (v := (nI 1)) dX11_hasBit_5 rfl ?_
  refine g_ic_ne 13 dX11_hasBit_6 (by decide) (fun z => absurd (by decide) z) (fun _ => ?_)
  refine g_iconst (v := (nI 1)) dX11_hasBit_9 rfl ?_
  refine g_goto 14 dX11_hasBit_10 (by decide) ?_
  refine g_iret dX11_hasBit_14 rfl rfl ?_
  exact ⟨_, rfl, rfl, rfl⟩
set_option maxRecDepth 100000 in
theorem x_has3 (S : zs_S) : zs_Ci MX11_hasBit [.int (nI 63), .int (nI 3)] S (fun x S2 => x = nI 1 ∧ S = S2) := by
  refine zs_C.of (by decide) (Nat.le_of_ble_eq_true rfl) ?_
  show zs_P MX11_hasBit 0 [(0, .int (nI 63)), (1, .int (nI 3))] [] S _
  refine g_iload_n dX11_hasBit_0 rfl rfl ?_
  refine g_iload_n dX11_hasBit_1 rfl rfl ?_
  refine g_ishr dX11_hasBit_2 ?_
  refine g_iconst (v := (nI 1)) dX11_hasBit_3 rfl ?_
  refine g_iand dX11_hasBit_4 ?_
  refine g_iconst (v := (nI 1)) dX11_hasBit_5 rfl ?_
  refine g_ic_ne 13 dX11_hasBit_6 (by decide) (fun z => absurd (by decide) z) (fun _ => ?_)
  refine g_iconst (v := (nI 1)) dX11_hasBit_9 rfl ?_
  refine g_goto 14 dX11_hasBit_10 (by decide) ?_
  refine g_iret dX11_hasBit_14 rfl rfl ?_
  exact ⟨_, rfl, rfl, rfl⟩
set_option maxRecDepth 100000 in
theorem x_has4 (S : zs_S) : zs_Ci MX11_hasBit [.int (nI 63), .int (nI 4)] S (fun x S2 => x = nI 1 ∧ S = S2) := by
  refine zs_C.of (by decide) (Nat.le_of_ble_eq_true rfl) ?_
  show zs_P MX11_hasBit 0 [(0, .int (nI 63)), (1, .int (nI 4))] [] S _
  refine g_iload_n dX11_hasBit_0 rfl rfl ?_
  refine g_iload_n dX11_hasBit_1 rfl rfl ?_
  refine g_ishr dX11_hasBit_2 ?_
  refine g_iconst (v := (nI 1)) dX11_hasBit_3 rfl ?_
  refine g_iand dX11_hasBit_4 ?_
  refine g_iconst (v := (nI 1)) dX11_hasBit_5 rfl ?_
  refine g_ic_ne 13 dX11_hasBit_6 (by decide) (fun z => absurd (by decide) z) (fun _ => ?_)
  refine g_iconst (v := (nI 1)) dX11_hasBit_9 rfl ?_
  refine g_goto 14 dX11_hasBit_10 (by decide) ?_
  refine g_iret dX11_hasBit_14 rfl rfl ?_
  exact ⟨_, rfl, rfl, rfl⟩
set_option maxRecDepth 100000 in
theorem x_has5 (S : zs_S) : zs_Ci MX11_hasBit [.int (nI 63), .int (nI 5)] S (fun x S2 => x = nI 1 ∧ S = S2) := by
  refine zs_C.of (by decide) (Nat.le_of_ble_eq_true rfl) ?_
  show zs_P MX11_hasBit 0 [(0, .int (nI 63)), (1, .int (nI 5))] [] S _
  refine g_iload_n dX11_hasBit_0 rfl rfl ?_
  refine g_iload_n dX11_hasBit_1 rfl rfl ?_
  refine g_ishr dX11_hasBit_2 ?_
  refine g_iconst (v := (nI 1)) dX11_hasBit_3 rfl ?_
  refine g_iand dX11_hasBit_4 ?_
  refine g_iconst (v := (nI 1)) dX11_hasBit_5 rfl ?_
  refine g_ic_ne 13 dX11_hasBit_6 (by decide) (fun z => absurd (by decide) z) (fun _ => ?_)
  refine g_iconst (v := (nI 1)) dX11_hasBit_9 rfl ?_
  refine g_goto 14 dX11_hasBit_10 (by decide) ?_
  refine g_iret dX11_hasBit_14 rfl rfl ?_
  exact ⟨_, rfl, rfl, rfl⟩
set_option maxRecDepth 100000 in
theorem y_tpass (S : zs_S) (s k : Nat) (hs : s < 12) (hk : k < 20) : zs_Cv MX11_tallyPassing [.ref 0, .int (nI 63), .int (nI s), .int (nI k)] S (fun S2 => zs_ch 73 75 S S2 ∧ S2.1 73 1 = nI (zs_mst s k)) := by
  refine zs_C.of (by decide) (Nat.le_of_ble_eq_true rfl) ?_
  show zs_P MX11_tallyPassing 0 [(0, .ref 0), (1, .int (nI 63)), (2, .int (nI s)), (3, .int (nI k))] [] S _
  refine g_aload_n dX11_tallyPassing_0 rfl rfl ?_
  refine g_getR 14 (73) (C := RX11) (T := TX11) (N := 18) dX11_tallyPassing_1 (by decide) rfl rfl (by decide) rfl fl_RX11_57 ?_
  refine g_callV (T := TX9) (NN := 2) [] (y_tbegin S) dX11_tallyPassing_4 kk_X11_tallyPassing_X9_begin ml_RX11_358 mwX9_begin ewX9_begin (by decide) rfl rfl rfl rfl (Nat.le_of_ble_eq_true rfl) ?_
  rintro _ S1 ⟨rfl, c1, t1⟩
  refine g_iconst (v := (nI 0)) dX11_tallyPassing_7 rfl ?_
  refine g_istore (lv' := [(4, .int (nI 0)), (0, .ref 0), (1, .int (nI 63)), (2, .int (nI s)), (3, .int (nI k))]) dX11_tallyPassing_8 (by decide) rfl ?_
  refine g_iload dX11_tallyPassing_10 rfl ?_
  refine g_bipush (v := (nI 6)) dX11_tallyPassing_12 rfl ?_
  refine g_ic_geN 46 dX11_tallyPassing_14 (by decide) (by omega) (by omega) (fun z => absurd z (by omega)) (fun _ => ?_)
  refine g_iload_n dX11_tallyPassing_17 rfl rfl ?_
  refine g_iload dX11_tallyPassing_18 rfl ?_
  refine g_callS [.int (nI 63), .int (nI 0)] [] (x_has0 S1) dX11_tallyPassing_20 kk_X11_tallyPassing_X11_hasBit ml_RX11_360 swX11_hasBit rfl rfl (Nat.le_of_ble_eq_true rfl) ?_
  rintro _ _ ⟨_, rfl, rfl, rfl⟩
  refine g_if_eqN 40 dX11_tallyPassing_23 (by decide) (by omega) (fun z => absurd z (by omega)) (fun _ => ?_)
  refine g_aload_n dX11_tallyPassing_26 rfl rfl ?_
  refine g_getR 14 (73) (C := RX11) (T := TX11) (N := 18) dX11_tallyPassing_27 (by decide) rfl rfl (by decide) rfl fl_RX11_57 ?_
  refine g_iload dX11_tallyPassing_30 rfl ?_
  refine g_iload_n dX11_tallyPassing_32 rfl rfl ?_
  refine g_iload_n dX11_tallyPassing_33 rfl rfl ?_
  refine g_callS [.int (nI 0), .int (nI s), .int (nI k)] [.ref 73] (x_pass0 S1 s k (by omega) (by omega)) dX11_tallyPassing_34 kk_X11_tallyPassing_X2_passing ml_RX11_368 swX2_passing rfl rfl (Nat.le_of_ble_eq_true rfl) ?_
  rintro _ _ ⟨_, rfl, rfl, rfl⟩
  refine g_callV (T := TX9) (NN := 2) [] (y_tadd S1 (zs_tg []).1 (zs_tg []).2 (zs_pas 0 s k) (zs_pas_lt hs) (Nat.lt_of_le_of_lt (zs_tg_le []).2 (Nat.le_of_ble_eq_true rfl)) (fun j => Nat.lt_of_le_of_lt ((zs_tg_le []).1 j) (Nat.le_of_ble_eq_true rfl)) t1) dX11_tallyPassing_37 kk_X11_tallyPassing_X9_add ml_RX11_363 mwX9_add ewX9_add (by decide) rfl rfl rfl rfl (Nat.le_of_ble_eq_true rfl) ?_
  rintro _ S1 ⟨rfl, c3, t2⟩
  have c3 := c1.trans c3
  refine g_iinc (v := (nI (0 + 1))) (lv' := [(4, .int (nI (0 + 1))), (0, .ref 0), (1, .int (nI 63)), (2, .int (nI s)), (3, .int (nI k))]) dX11_tallyPassing_40 rfl (nI_1 0) (by decide) rfl ?_
  refine g_goto 10 dX11_tallyPassing_43 (by decide) ?_
  refine g_iload dX11_tallyPassing_10 rfl ?_
  refine g_bipush (v := (nI 6)) dX11_tallyPassing_12 rfl ?_
  refine g_ic_geN 46 dX11_tallyPassing_14 (by decide) (by omega) (by omega) (fun z => absurd z (by omega)) (fun _ => ?_)
  refine g_iload_n dX11_tallyPassing_17 rfl rfl ?_
  refine g_iload dX11_tallyPassing_18 rfl ?_
  refine g_callS [.int (nI 63), .int (nI (0 + 1))] [] (x_has1 S1) dX11_tallyPassing_20 kk_X11_tallyPassing_X11_hasBit ml_RX11_360 swX11_hasBit rfl rfl (Nat.le_of_ble_eq_true rfl) ?_
  rintro _ _ ⟨_, rfl, rfl, rfl⟩
  refine g_if_eqN 40 dX11_tallyPassing_23 (by decide) (by omega) (fun z => absurd z (by omega)) (fun _ => ?_)
  refine g_aload_n dX11_tallyPassing_26 rfl rfl ?_
  refine g_getR 14 (73) (C := RX11) (T := TX11) (N := 18) dX11_tallyPassing_27 (by decide) rfl rfl (by decide) rfl fl_RX11_57 ?_
  refine g_iload dX11_tallyPassing_30 rfl ?_
  refine g_iload_n dX11_tallyPassing_32 rfl rfl ?_
  refine g_iload_n dX11_tallyPassing_33 rfl rfl ?_
  refine g_callS [.int (nI (0 + 1)), .int (nI s), .int (nI k)] [.ref 73] (x_pass1 S1 s k (by omega) (by omega)) dX11_tallyPassing_34 kk_X11_tallyPassing_X2_passing ml_RX11_368 swX2_passing rfl rfl (Nat.le_of_ble_eq_true rfl) ?_
  rintro _ _ ⟨_, rfl, rfl, rfl⟩
  refine g_callV (T := TX9) (NN := 2) [] (y_tadd S1 (zs_tg [zs_pas 0 s k]).1 (zs_tg [zs_pas 0 s k]).2 (zs_pas 1 s k) (zs_pas_lt hs) (Nat.lt_of_le_of_lt (zs_tg_le [zs_pas 0 s k]).2 (Nat.le_of_ble_eq_true rfl)) (fun j => Nat.lt_of_le_of_lt ((zs_tg_le [zs_pas 0 s k]).1 j) (Nat.le_of_ble_eq_true rfl)) t2) dX11_tallyPassing_37 kk_X11_tallyPassing_X9_add ml_RX11_363 mwX9_add ewX9_add (by decide) rfl rfl rfl rfl (Nat.le_of_ble_eq_true rfl) ?_
  rintro _ S4 ⟨rfl, c6, t5⟩
  have c6 := c3.trans c6
  refine g_iinc (v := (nI (0 + 1 + 1))) (lv' := [(4, .int (nI (0 + 1 + 1))), (0, .ref 0), (1, .int (nI 63)), (2, .int (nI s)), (3, .int (nI k))]) dX11_tallyPassing_40 rfl (nI_1 (0 + 1)) (by decide) rfl ?_
  refine g_goto 10 dX11_tallyPassing_43 (by decide) ?_
  refine g_iload dX11_tallyPassing_10 rfl ?_
  refine g_bipush (v := (nI 6)) dX11_tallyPassing_12 rfl ?_
  refine g_ic_geN 46 dX11_tallyPassing_14 (by decide) (by omega) (by omega) (fun z => absurd z (by omega)) (fun _ => ?_)
  refine g_iload_n dX11_tallyPassing_17 rfl rfl ?_
  refine g_iload dX11_tallyPassing_18 rfl ?_
  refine g_callS [.int (nI 63), .int (nI (0 + 1 + 1))] [] (x_has2 S4) dX11_tallyPassing_20 kk_X11_tallyPassing_X11_hasBit ml_RX11_360 swX11_hasBit rfl rfl (Nat.le_of_ble_eq_true rfl) ?_
  rintro _ _ ⟨_, rfl, rfl, rfl⟩
  refine g_if_eqN 40 dX11_tallyPassing_23 (by decide) (by omega) (fun z => absurd z (by omega)) (fun _ => ?_)
  refine g_aload_n dX11_tallyPassing_26 rfl rfl ?_
  refine g_getR 14 (73) (C := RX11) (T := TX11) (N := 18) dX11_tallyPassing_27 (by decide) rfl rfl (by decide) rfl fl_RX11_57 ?_
  refine g_iload dX11_tallyPassing_30 rfl ?_
  refine g_iload_n dX11_tallyPassing_32 rfl rfl ?_
  refine g_iload_n dX11_tallyPassing_33 rfl rfl ?_
  refine g_callS [.int (nI (0 + 1 + 1)), .int (nI s), .int (nI k)] [.ref 73] (x_pass2 S4 s k (by omega) (by omega)) dX11_tallyPassing_34 kk_X11_tallyPassing_X2_passing ml_RX11_368 swX2_passing rfl rfl (Nat.le_of_ble_eq_true rfl) ?_
  rintro _ _ ⟨_, rfl, rfl, rfl⟩
  refine g_callV (T := TX9) (NN := 2) [] (y_tadd S4 (zs_tg [zs_pas 1 s k, zs_pas 0 s k]).1 (zs_tg [zs_pas 1 s k, zs_pas 0 s k]).2 (zs_pas 2 s k) (zs_pas_lt hs) (Nat.lt_of_le_of_lt (zs_tg_le [zs_pas 1 s k, zs_pas 0 s k]).2 (Nat.le_of_ble_eq_true rfl)) (fun j => Nat.lt_of_le_of_lt ((zs_tg_le [zs_pas 1 s k, zs_pas 0 s k]).1 j) (Nat.le_of_ble_eq_true rfl)) t5) dX11_tallyPassing_37 kk_X11_tallyPassing_X9_add ml_RX11_363 mwX9_add ewX9_add (by decide) rfl rfl rfl rfl (Nat.le_of_ble_eq_true rfl) ?_
  rintro _ S7 ⟨rfl, c9, t8⟩
  have c9 := c6.trans c9
  refine g_iinc (v := (nI (0 + 1 + 1 + 1))) (lv' := [(4, .int (nI (0 + 1 + 1 + 1))), (0, .ref 0), (1, .int (nI 63)), (2, .int (nI s)), (3, .int (nI k))]) dX11_tallyPassing_40 rfl (nI_1 (0 + 1 + 1)) (by decide) rfl ?_
  refine g_goto 10 dX11_tallyPassing_43 (by decide) ?_
  refine g_iload dX11_tallyPassing_10 rfl ?_
  refine g_bipush (v := (nI 6)) dX11_tallyPassing_12 rfl ?_
  refine g_ic_geN 46 dX11_tallyPassing_14 (by decide) (by omega) (by omega) (fun z => absurd z (by omega)) (fun _ => ?_)
  refine g_iload_n dX11_tallyPassing_17 rfl rfl ?_
  refine g_iload dX11_tallyPassing_18 rfl ?_
  refine g_callS [.int (nI 63), .int (nI (0 + 1 + 1 + 1))] [] (x_has3 S7) dX11_tallyPassing_20 kk_X11_tallyPassing_X11_hasBit ml_RX11_360 swX11_hasBit rfl rfl (Nat.le_of_ble_eq_true rfl) ?_
  rintro _ _ ⟨_, rfl, rfl, rfl⟩
  refine g_if_eqN 40 dX11_tallyPassing_23 (by decide) (by omega) (fun z => absurd z (by omega)) (fun _ => ?_)
  refine g_aload_n dX11_tallyPassing_26 rfl rfl ?_
  refine g_getR 14 (73) (C := RX11) (T := TX11) (N := 18) dX11_tallyPassing_27 (by decide) rfl rfl (by decide) rfl fl_RX11_57 ?_
  refine g_iload dX11_tallyPassing_30 rfl ?_
  refine g_iload_n dX11_tallyPassing_32 rfl rfl ?_
  refine g_iload_n dX11_tallyPassing_33 rfl rfl ?_
  refine g_callS [.int (nI (0 + 1 + 1 + 1)), .int (nI s), .int (nI k)] [.ref 73] (x_pass3 S7 s k (by omega) (by omega)) dX11_tallyPassing_34 kk_X11_tallyPassing_X2_passing ml_RX11_368 swX2_passing rfl rfl (Nat.le_of_ble_eq_true rfl) ?_
  rintro _ _ ⟨_, rfl, rfl, rfl⟩
  refine g_callV (T := TX9) (NN := 2) [] (y_tadd S7 (zs_tg [zs_pas 2 s k, zs_pas 1 s k, zs_pas 0 s k]).1 (zs_tg [zs_pas 2 s k, zs_pas 1 s k, zs_pas 0 s k]).2 (zs_pas 3 s k) (zs_pas_lt hs) (Nat.lt_of_le_of_lt (zs_tg_le [zs_pas 2 s k, zs_pas 1 s k, zs_pas 0 s k]).2 (Nat.le_of_ble_eq_true rfl)) (fun j => Nat.lt_of_le_of_lt ((zs_tg_le [zs_pas 2 s k, zs_pas 1 s k, zs_pas 0 s k]).1 j) (Nat.le_of_ble_eq_true rfl)) t8) dX11_tallyPassing_37 kk_X11_tallyPassing_X9_add ml_RX11_363 mwX9_add ewX9_add (by decide) rfl rfl rfl rfl (Nat.le_of_ble_eq_true rfl) ?_
  rintro _ S10 ⟨rfl, c12, t11⟩
  have c12 := c9.trans c12
  refine g_iinc (v := (nI (0 + 1 + 1 + 1 + 1))) (lv' := [(4, .int (nI (0 + 1 + 1 + 1 + 1))), (0, .ref 0), (1, .int (nI 63)), (2, .int (nI s)), (3, .int (nI k))]) dX11_tallyPassing_40 rfl (nI_1 (0 + 1 + 1 + 1)) (by decide) rfl ?_
  refine g_goto 10 dX11_tallyPassing_43 (by decide) ?_
  refine g_iload dX11_tallyPassing_10 rfl ?_
  refine g_bipush (v := (nI 6)) dX11_tallyPassing_12 rfl ?_
  refine g_ic_geN 46 dX11_tallyPassing_14 (by decide) (by omega) (by omega) (fun z => absurd z (by omega)) (fun _ => ?_)
  refine g_iload_n dX11_tallyPassing_17 rfl rfl ?_
  refine g_iload dX11_tallyPassing_18 rfl ?_
  refine g_callS [.int (nI 63), .int (nI (0 + 1 + 1 + 1 + 1))] [] (x_has4 S10) dX11_tallyPassing_20 kk_X11_tallyPassing_X11_hasBit ml_RX11_360 swX11_hasBit rfl rfl (Nat.le_of_ble_eq_true rfl) ?_
  rintro _ _ ⟨_, rfl, rfl, rfl⟩
  refine g_if_eqN 40 dX11_tallyPassing_23 (by decide) (by omega) (fun z => absurd z (by omega)) (fun _ => ?_)
  refine g_aload_n dX11_tallyPassing_26 rfl rfl ?_
  refine g_getR 14 (73) (C := RX11) (T := TX11) (N := 18) dX11_tallyPassing_27 (by decide) rfl rfl (by decide) rfl fl_RX11_57 ?_
  refine g_iload dX11_tallyPassing_30 rfl ?_
  refine g_iload_n dX11_tallyPassing_32 rfl rfl ?_
  refine g_iload_n dX11_tallyPassing_33 rfl rfl ?_
  refine g_callS [.int (nI (0 + 1 + 1 + 1 + 1)), .int (nI s), .int (nI k)] [.ref 73] (x_pass4 S10 s k (by omega) (by omega)) dX11_tallyPassing_34 kk_X11_tallyPassing_X2_passing ml_RX11_368 swX2_passing rfl rfl (Nat.le_of_ble_eq_true rfl) ?_
  rintro _ _ ⟨_, rfl, rfl, rfl⟩
  refine g_callV (T := TX9) (NN := 2) [] (y_tadd S10 (zs_tg [zs_pas 3 s k, zs_pas 2 s k, zs_pas 1 s k, zs_pas 0 s k]).1 (zs_tg [zs_pas 3 s k, zs_pas 2 s k, zs_pas 1 s k, zs_pas 0 s k]).2 (zs_pas 4 s k) (zs_pas_lt hs) (Nat.lt_of_le_of_lt (zs_tg_le [zs_pas 3 s k, zs_pas 2 s k, zs_pas 1 s k, zs_pas 0 s k]).2 (Nat.le_of_ble_eq_true rfl)) (fun j => Nat.lt_of_le_of_lt ((zs_tg_le [zs_pas 3 s k, zs_pas 2 s k, zs_pas 1 s k, zs_pas 0 s k]).1 j) (Nat.le_of_ble_eq_true rfl)) t11) dX11_tallyPassing_37 kk_X11_tallyPassing_X9_add ml_RX11_363 mwX9_add ewX9_add (by decide) rfl rfl rfl rfl (Nat.le_of_ble_eq_true rfl) ?_
  rintro _ S13 ⟨rfl, c15, t14⟩
  have c15 := c12.trans c15
  refine g_iinc (v := (nI (0 + 1 + 1 + 1 + 1 + 1))) (lv' := [(4, .int (nI (0 + 1 + 1 + 1 + 1 + 1))), (0, .ref 0), (1, .int (nI 63)), (2, .int (nI s)), (3, .int (nI k))]) dX11_tallyPassing_40 rfl (nI_1 (0 + 1 + 1 + 1 + 1)) (by decide) rfl ?_
  refine g_goto 10 dX11_tallyPassing_43 (by decide) ?_
  refine g_iload dX11_tallyPassing_10 rfl ?_
  refine g_bipush (v := (nI 6)) dX11_tallyPassing_12 rfl ?_
  refine g_ic_geN 46 dX11_tallyPassing_14 (by decide) (by omega) (by omega) (fun z => absurd z (by omega)) (fun _ => ?_)
  refine g_iload_n dX11_tallyPassing_17 rfl rfl ?_
  refine g_iload dX11_tallyPassing_18 rfl ?_
  refine g_callS [.int (nI 63), .int (nI (0 + 1 + 1 + 1 + 1 + 1))] [] (x_has5 S13) dX11_tallyPassing_20 kk_X11_tallyPassing_X11_hasBit ml_RX11_360 swX11_hasBit rfl rfl (Nat.le_of_ble_eq_true rfl) ?_
  rintro _ _ ⟨_, rfl, rfl, rfl⟩
  refine g_if_eqN 40 dX11_tallyPassing_23 (by decide) (by omega) (fun z => absurd z (by omega)) (fun _ => ?_)
  refine g_aload_n dX11_tallyPassing_26 rfl rfl ?_
  refine g_getR 14 (73) (C := RX11) (T := TX11) (N := 18) dX11_tallyPassing_27 (by decide) rfl rfl (by decide) rfl fl_RX11_57 ?_
  refine g_iload dX11_tallyPassing_30 rfl ?_
  refine g_iload_n dX11_tallyPassing_32 rfl rfl ?_
  refine g_iload_n dX11_tallyPassing_33 rfl rfl ?_
  refine g_callS [.int (nI (0 + 1 + 1 + 1 + 1 + 1)), .int (nI s), .int (nI k)] [.ref 73] (x_pass5 S13 s k (by omega) (by omega)) dX11_tallyPassing_34 kk_X11_tallyPassing_X2_passing ml_RX11_368 swX2_passing rfl rfl (Nat.le_of_ble_eq_true rfl) ?_
  rintro _ _ ⟨_, rfl, rfl, rfl⟩
  refine g_callV (T := TX9) (NN := 2) [] (y_tadd S13 (zs_tg [zs_pas 4 s k, zs_pas 3 s k, zs_pas 2 s k, zs_pas 1 s k, zs_pas 0 s k]).1 (zs_tg [zs_pas 4 s k, zs_pas 3 s k, zs_pas 2 s k, zs_pas 1 s k, zs_pas 0 s k]).2 (zs_pas 5 s k) (zs_pas_lt hs) (Nat.lt_of_le_of_lt (zs_tg_le [zs_pas 4 s k, zs_pas 3 s k, zs_pas 2 s k, zs_pas 1 s k, zs_pas 0 s k]).2 (Nat.le_of_ble_eq_true rfl)) (fun j => Nat.lt_of_le_of_lt ((zs_tg_le [zs_pas 4 s k, zs_pas 3 s k, zs_pas 2 s k, zs_pas 1 s k, zs_pas 0 s k]).1 j) (Nat.le_of_ble_eq_true rfl)) t14) dX11_tallyPassing_37 kk_X11_tallyPassing_X9_add ml_RX11_363 mwX9_add ewX9_add (by decide) rfl rfl rfl rfl (Nat.le_of_ble_eq_true rfl) ?_
  rintro _ S16 ⟨rfl, c18, t17⟩
  have c18 := c15.trans c18
  refine g_iinc (v := (nI (0 + 1 + 1 + 1 + 1 + 1 + 1))) (lv' := [(4, .int (nI (0 + 1 + 1 + 1 + 1 + 1 + 1))), (0, .ref 0), (1, .int (nI 63)), (2, .int (nI s)), (3, .int (nI k))]) dX11_tallyPassing_40 rfl (nI_1 (0 + 1 + 1 + 1 + 1 + 1)) (by decide) rfl ?_
  refine g_goto 10 dX11_tallyPassing_43 (by decide) ?_
  refine g_iload dX11_tallyPassing_10 rfl ?_
  refine g_bipush (v := (nI 6)) dX11_tallyPassing_12 rfl ?_
  refine g_ic_geN 46 dX11_tallyPassing_14 (by decide) (by omega) (by omega) (fun _ => ?_) (fun z => absurd z (by omega))
  refine g_ret dX11_tallyPassing_46 rfl ?_
  exact ⟨rfl, c18, t17.2⟩
set_option maxRecDepth 100000 in
theorem y_ask_k (S0 : zs_S) (s : Nat) (hs : s < 12) (Q : Option Value → zs_S → Prop) (hk : ∀ S, zs_ch 73 75 S0 S → zs_P MX11_bestAsk 68 [(5, .int (nI 20)), (4, .int (nI s)), (3, .int (nI (zs_bk 1000000 (20 * s + 20)).2)), (2, .int ((zs_bk 1000000 (20 * s + 20)).1)), (0, .ref 0), (1, .int (nI 63))] [] S Q) : ∀ (d k : Nat), k + d = 20 → ∀ S, zs_ch 73 75 S0 S → zs_P MX11_bestAsk 18 [(5, .int (nI k)), (4, .int (nI s)), (3, .int (nI (zs_bk 1000000 (20 * s + k)).2)), (2, .int ((zs_bk 1000000 (20 * s + k)).1)), (0, .ref 0), (1, .int (nI 63))] [] S Q := by
  intro d
  induction d with
  | zero =>
    intro k hk0 S hc
    obtain rfl : k = 20 := by omega
    refine g_iload dX11_bestAsk_18 rfl ?_
    refine g_bipush (v := (nI 20)) dX11_bestAsk_20 rfl ?_
    refine g_ic_geN 68 dX11_bestAsk_22 (by decide) (by omega) (by omega) (fun _ => ?_) (fun z => absurd z (by omega))
    exact hk S hc
  | succ d ih =>
    intro k hk0 S hc
    refine g_iload dX11_bestAsk_18 rfl ?_
    refine g_bipush (v := (nI 20)) dX11_bestAsk_20 rfl ?_
    refine g_ic_geN 68 dX11_bestAsk_22 (by decide) (by omega) (by omega) (fun z => absurd z (by omega)) (fun _ => ?_)
    refine g_aload_n dX11_bestAsk_25 rfl rfl ?_
    refine g_iload_n dX11_bestAsk_26 rfl rfl ?_
    refine g_iload dX11_bestAsk_27 rfl ?_
    refine g_iload dX11_bestAsk_29 rfl ?_
    refine g_callV (T := TX11) (NN := 18) [] (y_tpass S s k hs (by omega)) dX11_bestAsk_31 kk_X11_bestAsk_X11_tallyPassing ml_RX11_373 mwX11_tallyPassing ewX11_tallyPassing (by decide) rfl rfl rfl rfl (Nat.le_of_ble_eq_true rfl) ?_
    rintro _ S2 ⟨rfl, c2, e2⟩
    have hb := zs_bk_le 1000000 (20 * s + k)
    have hm : zs_mst s k ≤ 6 := (zs_tg_le _).2
    refine g_aload_n dX11_bestAsk_34 rfl rfl ?_
    refine g_getR 14 (73) (C := RX11) (T := TX11) (N := 18) dX11_bestAsk_35 (by decide) rfl rfl (by decide) rfl fl_RX11_57 ?_
    refine g_getV 1 (C := RX9) (T := TX9) (N := 2) (v := (nI (zs_mst s k))) dX11_bestAsk_38 (by decide) rfl rfl (by decide) rfl fl_RX11_245 e2 ?_
    refine g_iload_n dX11_bestAsk_41 rfl rfl ?_
    refine g_ic_geN 62 dX11_bestAsk_42 (by decide) (by omega) (by omega) (fun h1 => ?_) (fun h1 => ?_)
    · refine g_iinc (v := (nI (k + 1))) (lv' := [(5, .int (nI (k + 1))), (4, .int (nI s)), (3, .int (nI (zs_bk 1000000 (20 * s + k)).2)), (2, .int ((zs_bk 1000000 (20 * s + k)).1)), (0, .ref 0), (1, .int (nI 63))]) dX11_bestAsk_62 rfl (nI_1 k) (by decide) rfl ?_
      refine g_goto 18 dX11_bestAsk_65 (by decide) ?_
      have e3 := zs_bk_f (by omega) h1
      have ih := ih (k + 1) (by omega) S2 (hc.trans c2)
      rw [e3] at ih
      exact ih.lv (by simp)
    · refine g_aload_n dX11_bestAsk_45 rfl rfl ?_
      refine g_getR 14 (73) (C := RX11) (T := TX11) (N := 18) dX11_bestAsk_46 (by decide) rfl rfl (by decide) rfl fl_RX11_57 ?_
      refine g_getV 1 (C := RX9) (T := TX9) (N := 2) (v := (nI (zs_mst s k))) dX11_bestAsk_49 (by decide) rfl rfl (by decide) rfl fl_RX11_245 e2 ?_
      refine g_istore_n (lv' := [(3, .int (nI (zs_mst s k))), (5, .int (nI k)), (4, .int (nI s)), (2, .int ((zs_bk 1000000 (20 * s + k)).1)), (0, .ref 0), (1, .int (nI 63))]) dX11_bestAsk_52 rfl (by decide) rfl ?_
      refine g_bipush (v := (nI 100)) dX11_bestAsk_53 rfl ?_
      refine g_iload dX11_bestAsk_55 rfl ?_
      refine g_imulN dX11_bestAsk_57 ?_
      refine g_iload dX11_bestAsk_58 rfl ?_
      refine g_iaddN dX11_bestAsk_60 ?_
      refine g_istore_n (lv' := [(2, .int (nI ((100 * s) + k))), (3, .int (nI (zs_mst s k))), (5, .int (nI k)), (4, .int (nI s)), (0, .ref 0), (1, .int (nI 63))]) dX11_bestAsk_61 rfl (by decide) rfl ?_
      refine g_iinc (v := (nI (k + 1))) (lv' := [(5, .int (nI (k + 1))), (2, .int (nI ((100 * s) + k))), (3, .int (nI (zs_mst s k))), (4, .int (nI s)), (0, .ref 0), (1, .int (nI 63))]) dX11_bestAsk_62 rfl (nI_1 k) (by decide) rfl ?_
      refine g_goto 18 dX11_bestAsk_65 (by decide) ?_
      have e3 := zs_bk_t (by omega) h1
      have ih := ih (k + 1) (by omega) S2 (hc.trans c2)
      rw [e3] at ih
      exact ih.lv (by simp)
set_option maxRecDepth 100000 in
theorem y_ask_s (S0 : zs_S) (Q : Option Value → zs_S → Prop) (hq : ∀ S, zs_ch 73 75 S0 S → Q (some (.int (zs_bk 1000000 (20 * 12)).1)) S) : ∀ (d s : Nat), s + d = 12 → ∀ S, zs_ch 73 75 S0 S → zs_P MX11_bestAsk 8 [(4, .int (nI s)), (3, .int (nI (zs_bk 1000000 (20 * s)).2)), (2, .int ((zs_bk 1000000 (20 * s)).1)), (0, .ref 0), (1, .int (nI 63))] [] S Q := by
  intro d
  induction d with
  | zero =>
    intro s hs0 S hc
    obtain rfl : s = 12 := by omega
    refine g_iload dX11_bestAsk_8 rfl ?_
    refine g_bipush (v := (nI 12)) dX11_bestAsk_10 rfl ?_
    refine g_ic_geN 74 dX11_bestAsk_12 (by decide) (by omega) (by omega) (fun _ => ?_) (fun z => absurd z (by omega))
    refine g_iload_n dX11_bestAsk_74 rfl rfl ?_
    refine g_iret dX11_bestAsk_75 rfl rfl ?_
    exact hq S hc
  | succ d ih =>
    intro s hs0 S hc
    refine g_iload dX11_bestAsk_8 rfl ?_
    refine g_bipush (v := (nI 12)) dX11_bestAsk_10 rfl ?_
    refine g_ic_geN 74 dX11_bestAsk_12 (by decide) (by omega) (by omega) (fun z => absurd z (by omega)) (fun _ => ?_)
    refine g_iconst (v := (nI 0)) dX11_bestAsk_15 rfl ?_
    refine g_istore (lv' := [(5, .int (nI 0)), (4, .int (nI s)), (3, .int (nI (zs_bk 1000000 (20 * s)).2)), (2, .int ((zs_bk 1000000 (20 * s)).1)), (0, .ref 0), (1, .int (nI 63))]) dX11_bestAsk_16 (by decide) rfl ?_
    refine (y_ask_k S0 s (by omega) _ (fun S1 h1 => ?_) 20 0 (by omega) S hc).lv (by simp)
    refine g_iinc (v := (nI (s + 1))) (lv' := [(4, .int (nI (s + 1))), (5, .int (nI 20)), (3, .int (nI (zs_bk 1000000 (20 * s + 20)).2)), (2, .int ((zs_bk 1000000 (20 * s + 20)).1)), (0, .ref 0), (1, .int (nI 63))]) dX11_bestAsk_68 rfl (nI_1 s) (by decide) rfl ?_
    refine g_goto 8 dX11_bestAsk_71 (by decide) ?_
    exact (ih (s + 1) (by omega) S1 h1).lv (by simp [Nat.mul_add])
set_option maxRecDepth 100000 in
theorem y_bestAsk (S : zs_S) : zs_Ci MX11_bestAsk [.ref 0, .int (nI 63)] S (fun x S2 => x = nI 201 ∧ zs_ch 73 75 S S2) := by
  refine zs_C.of (by decide) (Nat.le_of_ble_eq_true rfl) ?_
  show zs_P MX11_bestAsk 0 [(0, .ref 0), (1, .int (nI 63))] [] S _
  refine g_iconst (v := (-1)) dX11_bestAsk_0 rfl ?_
  refine g_istore_n (lv' := [(2, .int (-1)), (0, .ref 0), (1, .int (nI 63))]) dX11_bestAsk_1 rfl (by decide) rfl ?_
  refine g_ldc (v := (nI 1000000)) dX11_bestAsk_2 cl_RX11_240 ?_
  refine g_istore_n (lv' := [(3, .int (nI 1000000)), (2, .int (-1)), (0, .ref 0), (1, .int (nI 63))]) dX11_bestAsk_4 rfl (by decide) rfl ?_
  refine g_iconst (v := (nI 0)) dX11_bestAsk_5 rfl ?_
  refine g_istore (lv' := [(4, .int (nI 0)), (3, .int (nI 1000000)), (2, .int (-1)), (0, .ref 0), (1, .int (nI 63))]) dX11_bestAsk_6 (by decide) rfl ?_
  exact (y_ask_s S _ (fun S2 h2 => ⟨_, rfl, congrArg Prod.fst zs_bk_240, h2⟩) 12 0 (by omega) S zs_ch.rf).lv (by simp [zs_bk])
set_option maxRecDepth 100000 in
theorem t_ask (S : zs_S) (F : zs_F0 S)  : zs_Ci MX11_ask [.ref 0] S (fun x S2 => x = nI 201 ∧ zs_ch 0 80 S S2) := by
  refine zs_C.of (by decide) (Nat.le_of_ble_eq_true rfl) ?_
  show zs_P MX11_ask 0 [(0, .ref 0)] [] S _
  refine g_aload_n dX11_ask_0 rfl rfl ?_
  refine g_callV (T := TX11) (NN := 18) [] (v_lampKinds S F) dX11_ask_1 kk_X11_ask_X11_lampKinds ml_RX11_261 mwX11_lampKinds ewX11_lampKinds (by decide) rfl rfl rfl rfl (Nat.le_of_ble_eq_true rfl) ?_
  rintro _ _ ⟨_, rfl, rfl, rfl⟩
  refine g_istore_n (lv' := [(1, .int (nI 63)), (0, .ref 0)]) dX11_ask_4 rfl (by decide) rfl ?_
  refine g_iload_n dX11_ask_5 rfl rfl ?_
  refine g_if_neN 13 dX11_ask_6 (by decide) (by omega) (fun _ => ?_) (fun z => absurd z (by omega))
  refine g_aload_n dX11_ask_13 rfl rfl ?_
  refine g_iload_n dX11_ask_14 rfl rfl ?_
  refine g_callV (T := TX11) (NN := 18) [] (y_bestAsk S) dX11_ask_15 kk_X11_ask_X11_bestAsk ml_RX11_264 mwX11_bestAsk ewX11_bestAsk (by decide) rfl rfl rfl rfl (Nat.le_of_ble_eq_true rfl) ?_
  rintro _ S1 ⟨_, rfl, rfl, c2⟩
  refine g_iret dX11_ask_18 rfl rfl ?_
  exact ⟨_, rfl, rfl, (zs_ch.rf.and c2 (by omega) (by omega))⟩
