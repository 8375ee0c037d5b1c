/-! WHAT AN EYE SEES -/
def zs_shp (p q : Nat) : Nat := if p = q + 1 ∨ q = p + 1 then q else p
def zs_sit (c p q : Nat) : Nat := match c with
  | 1 => (p + q) / 2
  | 2 => zs_shp p q
  | 3 => if p = 0 then q else (p + q) / 2
  | 4 => if q < zs_shp p q then min 9 (zs_shp p q + 1) else zs_shp p q
  | 5 => if p = q then 0 else p
  | _ => p
theorem zs_shp9 {p q : Nat} (hp : p ≤ 9) (hq : q ≤ 9) : zs_shp p q ≤ 9 := by
  unfold zs_shp
  split <;> omega
theorem zs_sit9 {c p q : Nat} (hp : p ≤ 9) (hq : q ≤ 9) : zs_sit c p q ≤ 9 := by
  have := zs_shp9 hp hq
  unfold zs_sit
  split
  · omega
  · omega
  · split <;> omega
  · split <;> omega
  · split <;> omega
  · omega
def zs_abs (x : Int32) : Int32 := if x < 0 then -x else x
theorem zs_ab1 : ∀ p, p < 10 → ∀ q, q < 10 → ((zs_abs (nI p - nI q) = nI 1) ↔ (p = q + 1 ∨ q = p + 1)) := by decide +kernel
set_option maxRecDepth 100000 in
theorem x_absE (S : zs_S) (x : Int32) : zs_Ci MJ9_abs_0f7a4 [.int x] S (fun z S2 => z = zs_abs x ∧ S = S2) := by
  refine zs_CF pf_J9_abs_0f7a4 (Nat.le_of_ble_eq_true rfl) ?_
  show zs_P MJ9_abs_0f7a4 0 [(0, .int x)] [] S _
  refine g_iload_n dJ9_abs_0f7a4_0 rfl rfl ?_
  refine g_if_ge 9 dJ9_abs_0f7a4_1 (by decide) (fun h1 => ?_) (fun h1 => ?_)
  · refine g_iload_n dJ9_abs_0f7a4_9 rfl rfl ?_
    refine g_iret dJ9_abs_0f7a4_10 rfl rfl ?_
    exact ⟨_, rfl, (if_neg (by rw [Int32.lt_iff_toInt_lt]; rw [Int32.le_iff_toInt_le] at h1; omega)).symm, rfl⟩
  · refine g_iload_n dJ9_abs_0f7a4_4 rfl rfl ?_
    refine g_ineg dJ9_abs_0f7a4_5 ?_
    refine g_goto 10 dJ9_abs_0f7a4_6 (by decide) ?_
    refine g_iret dJ9_abs_0f7a4_10 rfl rfl ?_
    exact ⟨_, rfl, (if_pos (by rw [Int32.lt_iff_toInt_lt]; rw [Int32.le_iff_toInt_le] at h1; omega)).symm, rfl⟩
set_option maxRecDepth 100000 in
theorem x_lazy (S : zs_S) (p q : Nat) (hp : p ≤ 9) (hq : q ≤ 9) : zs_Ci MX1_lazy [.int (nI p), .int (nI q)] S (fun z S2 => z = nI ((p + q) / 2) ∧ S = S2) := by
  refine zs_C.of (by decide) (Nat.le_of_ble_eq_true rfl) ?_
  show zs_P MX1_lazy 0 [(0, .int (nI p)), (1, .int (nI q))] [] S _
  refine g_iload_n dX1_lazy_0 rfl rfl ?_
  refine g_iload_n dX1_lazy_1 rfl rfl ?_
  refine g_iaddN dX1_lazy_2 ?_
  refine g_iconst (v := (nI 2)) dX1_lazy_3 rfl ?_
  refine g_idivN dX1_lazy_4 (by omega) (by omega) (by omega) ?_
  refine g_iret dX1_lazy_5 rfl rfl ?_
  exact ⟨_, rfl, rfl, rfl⟩
set_option maxRecDepth 100000 in
theorem x_sharp (S : zs_S) (p q : Nat) (hp : p ≤ 9) (hq : q ≤ 9) : zs_Ci MX1_sharp [.int (nI p ), .int (nI q )] S (fun z S2 => z = nI (zs_shp p q) ∧ S = S2) := by
  refine zs_C.of (by decide) (Nat.le_of_ble_eq_true rfl) ?_
  show zs_P MX1_sharp 0 [(0, .int (nI p )), (1, .int (nI q ))] [] S _
  refine g_iload_n dX1_sharp_0 rfl rfl ?_
  refine g_iload_n dX1_sharp_1 rfl rfl ?_
  refine g_isub dX1_sharp_2 ?_
  refine g_callS [.int ((nI p ) - (nI q ))] [] (x_absE S ((nI p ) - (nI q ))) dX1_sharp_3 kk_X1_sharp_J9_abs_0f7a4 ml_RX1_21 swJ9_abs_0f7a4 rfl rfl (Nat.le_of_ble_eq_true rfl) ?_
  rintro _ _ ⟨_, rfl, rfl, rfl⟩
  refine g_iconst (v := (nI 1)) dX1_sharp_6 rfl ?_
  refine g_ic_ne 14 dX1_sharp_7 (by decide) (fun h1 => ?_) (fun h1 => ?_)
  · refine g_iload_n dX1_sharp_14 rfl rfl ?_
    refine g_iret dX1_sharp_15 rfl rfl ?_
    exact ⟨_, rfl, congrArg nI (show _ = zs_shp p q from (if_neg (fun z => h1 ((zs_ab1 p (by omega) q (by omega)).mpr z))).symm), rfl⟩
  · refine g_iload_n dX1_sharp_10 rfl rfl ?_
    refine g_goto 15 dX1_sharp_11 (by decide) ?_
    refine g_iret dX1_sharp_15 rfl rfl ?_
    exact ⟨_, rfl, congrArg nI (show _ = zs_shp p q from (if_pos ((zs_ab1 p (by omega) q (by omega)).mp h1)).symm), rfl⟩
set_option maxRecDepth 100000 in
theorem x_child (S : zs_S) (v q : Nat) (hp : v ≤ 9) (hq : q ≤ 9) : zs_Ci MX1_child [.int (nI v), .int (nI q)] S (fun z S2 => z = nI (if q < v then min 9 (v + 1) else v) ∧ S = S2) := by
  refine zs_C.of (by decide) (Nat.le_of_ble_eq_true rfl) ?_
  show zs_P MX1_child 0 [(0, .int (nI v)), (1, .int (nI q))] [] S _
  refine g_iload_n dX1_child_0 rfl rfl ?_
  refine g_iload_n dX1_child_1 rfl rfl ?_
  refine g_ic_leN 16 dX1_child_2 (by decide) (by omega) (by omega) (fun h1 => ?_) (fun h1 => ?_)
  · refine g_iload_n dX1_child_16 rfl rfl ?_
    refine g_iret dX1_child_17 rfl rfl ?_
    exact ⟨_, rfl, by rw [if_neg (by omega)], rfl⟩
  · refine g_bipush (v := (nI 9)) dX1_child_5 rfl ?_
    refine g_iload_n dX1_child_7 rfl rfl ?_
    refine g_iconst (v := (nI 1)) dX1_child_8 rfl ?_
    refine g_iaddN dX1_child_9 ?_
    refine g_callS [.int (nI 9), .int (nI (v + 1))] [] (x_minN S 9 (v + 1) (by omega) (by omega)) dX1_child_10 kk_X1_child_J9_min_7cf53 ml_RX1_27 swJ9_min_7cf53 rfl rfl (Nat.le_of_ble_eq_true rfl) ?_
    rintro _ _ ⟨_, rfl, rfl, rfl⟩
    refine g_goto 17 dX1_child_13 (by decide) ?_
    refine g_iret dX1_child_17 rfl rfl ?_
    exact ⟨_, rfl, by rw [if_pos (by omega)], rfl⟩
set_option maxRecDepth 100000 in
theorem x_sight0 (S : zs_S) (p q : Nat) (hp : p ≤ 9) (hq : q ≤ 9) : zs_Ci MX1_sight [.int (nI 0), .int (nI p), .int (nI q)] S (fun z S2 => z = nI (zs_sit 0 p q) ∧ S = S2) := by
  refine zs_C.of (by decide) (Nat.le_of_ble_eq_true rfl) ?_
  show zs_P MX1_sight 0 [(0, .int (nI 0)), (1, .int (nI p)), (2, .int (nI q))] [] S _
  refine g_iload_n dX1_sight_0 rfl rfl ?_
  refine g_tout 83 dX1_sight_1 (by decide) (by decide) ?_
  refine g_iload_n dX1_sight_83 rfl rfl ?_
  refine g_iret dX1_sight_84 rfl rfl ?_
  exact ⟨_, rfl, rfl, rfl⟩
set_option maxRecDepth 100000 in
theorem x_sight1 (S : zs_S) (p q : Nat) (hp : p ≤ 9) (hq : q ≤ 9) : zs_Ci MX1_sight [.int (nI 1), .int (nI p), .int (nI q)] S (fun z S2 => z = nI (zs_sit 1 p q) ∧ S = S2) := by
  refine zs_C.of (by decide) (Nat.le_of_ble_eq_true rfl) ?_
  show zs_P MX1_sight 0 [(0, .int (nI 1)), (1, .int (nI p)), (2, .int (nI q))] [] S _
  refine g_iload_n dX1_sight_0 rfl rfl ?_
  refine g_tin (off := 35) 36 dX1_sight_1 (by decide) (by decide) (by decide +kernel) (by decide) ?_
  refine g_iload_n dX1_sight_36 rfl rfl ?_
  refine g_iload_n dX1_sight_37 rfl rfl ?_
  refine g_callS [.int (nI p), .int (nI q)] [] (x_lazy S p q (by omega) (by omega)) dX1_sight_38 kk_X1_sight_X1_lazy ml_RX1_9 swX1_lazy rfl rfl (Nat.le_of_ble_eq_true rfl) ?_
  rintro _ _ ⟨_, rfl, rfl, rfl⟩
  refine g_iret dX1_sight_41 rfl rfl ?_
  exact ⟨_, rfl, rfl, rfl⟩
set_option maxRecDepth 100000 in
theorem x_sight2 (S : zs_S) (p q : Nat) (hp : p ≤ 9) (hq : q ≤ 9) : zs_Ci MX1_sight [.int (nI 2), .int (nI p), .int (nI q)] S (fun z S2 => z = nI (zs_sit 2 p q) ∧ S = S2) := by
  refine zs_C.of (by decide) (Nat.le_of_ble_eq_true rfl) ?_
  show zs_P MX1_sight 0 [(0, .int (nI 2)), (1, .int (nI p)), (2, .int (nI q))] [] S _
  refine g_iload_n dX1_sight_0 rfl rfl ?_
  refine g_tin (off := 41) 42 dX1_sight_1 (by decide) (by decide) (by decide +kernel) (by decide) ?_
  refine g_iload_n dX1_sight_42 rfl rfl ?_
  refine g_iload_n dX1_sight_43 rfl rfl ?_
  refine g_callS [.int (nI p), .int (nI q)] [] (x_sharp S p q (by omega) (by omega)) dX1_sight_44 kk_X1_sight_X1_sharp ml_RX1_15 swX1_sharp rfl rfl (Nat.le_of_ble_eq_true rfl) ?_
  rintro _ _ ⟨_, rfl, rfl, rfl⟩
  have hs9 := zs_shp9 hp hq
  refine g_iret dX1_sight_47 rfl rfl ?_
  exact ⟨_, rfl, rfl, rfl⟩
set_option maxRecDepth 100000 in
theorem x_sight3 (S : zs_S) (p q : Nat) (hp : p ≤ 9) (hq : q ≤ 9) : zs_Ci MX1_sight [.int (nI 3), .int (nI p), .int (nI q)] S (fun z S2 => z = nI (zs_sit 3 p q) ∧ S = S2) := by
  refine zs_C.of (by decide) (Nat.le_of_ble_eq_true rfl) ?_
  show zs_P MX1_sight 0 [(0, .int (nI 3)), (1, .int (nI p)), (2, .int (nI q))] [] S _
  refine g_iload_n dX1_sight_0 rfl rfl ?_
  refine g_tin (off := 47) 48 dX1_sight_1 (by decide) (by decide) (by decide +kernel) (by decide) ?_
  refine g_iload_n dX1_sight_48 rfl rfl ?_
  refine g_if_neN 56 dX1_sight_49 (by decide) (by omega) (fun h1 => ?_) (fun h1 => ?_)
  · refine g_iload_n dX1_sight_56 rfl rfl ?_
    refine g_iload_n dX1_sight_57 rfl rfl ?_
    refine g_callS [.int (nI p), .int (nI q)] [] (x_lazy S p q (by omega) (by omega)) dX1_sight_58 kk_X1_sight_X1_lazy ml_RX1_9 swX1_lazy rfl rfl (Nat.le_of_ble_eq_true rfl) ?_
    rintro _ _ ⟨_, rfl, rfl, rfl⟩
    refine g_iret dX1_sight_61 rfl rfl ?_
    exact ⟨_, rfl, congrArg nI (show _ = zs_sit 3 p q from (if_neg (by omega)).symm), rfl⟩
  · refine g_iload_n dX1_sight_52 rfl rfl ?_
    refine g_goto 61 dX1_sight_53 (by decide) ?_
    refine g_iret dX1_sight_61 rfl rfl ?_
    exact ⟨_, rfl, congrArg nI (show _ = zs_sit 3 p q from (if_pos (by omega)).symm), rfl⟩
set_option maxRecDepth 100000 in
theorem x_sight4 (S : zs_S) (p q : Nat) (hp : p ≤ 9) (hq : q ≤ 9) : zs_Ci MX1_sight [.int (nI 4), .int (nI p), .int (nI q)] S (fun z S2 => z = nI (zs_sit 4 p q) ∧ S = S2) := by
  refine zs_C.of (by decide) (Nat.le_of_ble_eq_true rfl) ?_
  show zs_P MX1_sight 0 [(0, .int (nI 4)), (1, .int (nI p)), (2, .int (nI q))] [] S _
  refine g_iload_n dX1_sight_0 rfl rfl ?_
  refine g_tin (off := 61) 62 dX1_sight_1 (by decide) (by decide) (by decide +kernel) (by decide) ?_
  refine g_iload_n dX1_sight_62 rfl rfl ?_
  refine g_iload_n dX1_sight_63 rfl rfl ?_
  refine g_callS [.int (nI p), .int (nI q)] [] (x_sharp S p q (by omega) (by omega)) dX1_sight_64 kk_X1_sight_X1_sharp ml_RX1_15 swX1_sharp rfl rfl (Nat.le_of_ble_eq_true rfl) ?_
  rintro _ _ ⟨_, rfl, rfl, rfl⟩
  have hs9 := zs_shp9 hp hq
  refine g_iload_n dX1_sight_67 rfl rfl ?_
  refine g_callS [.int (nI (zs_shp p q)), .int (nI q)] [] (x_child S (zs_shp p q) q (by omega) (by omega)) dX1_sight_68 kk_X1_sight_X1_child ml_RX1_18 swX1_child rfl rfl (Nat.le_of_ble_eq_true rfl) ?_
  rintro _ _ ⟨_, rfl, rfl, rfl⟩
  refine g_iret dX1_sight_71 rfl rfl ?_
  exact ⟨_, rfl, rfl, rfl⟩
set_option maxRecDepth 100000 in
theorem x_sight5 (S : zs_S) (p q : Nat) (hp : p ≤ 9) (hq : q ≤ 9) : zs_Ci MX1_sight [.int (nI 5), .int (nI p), .int (nI q)] S (fun z S2 => z = nI (zs_sit 5 p q) ∧ S = S2) := by
  refine zs_C.of (by decide) (Nat.le_of_ble_eq_true rfl) ?_
  show zs_P MX1_sight 0 [(0, .int (nI 5)), (1, .int (nI p)), (2, .int (nI q))] [] S _
  refine g_iload_n dX1_sight_0 rfl rfl ?_
  refine g_tin (off := 71) 72 dX1_sight_1 (by decide) (by decide) (by decide +kernel) (by decide) ?_
  refine g_iload_n dX1_sight_72 rfl rfl ?_
  refine g_iload_n dX1_sight_73 rfl rfl ?_
  refine g_ic_neN 81 dX1_sight_74 (by decide) (by omega) (by omega) (fun h1 => ?_) (fun h1 => ?_)
  · refine g_iload_n dX1_sight_81 rfl rfl ?_
    refine g_iret dX1_sight_82 rfl rfl ?_
    exact ⟨_, rfl, congrArg nI (show _ = zs_sit 5 p q from (if_neg (by omega)).symm), rfl⟩
  · refine g_iconst (v := (nI 0)) dX1_sight_77 rfl ?_
    refine g_goto 82 dX1_sight_78 (by decide) ?_
    refine g_iret dX1_sight_82 rfl rfl ?_
    exact ⟨_, rfl, congrArg nI (show _ = zs_sit 5 p q from (if_pos (by omega)).symm), rfl⟩
set_option maxRecDepth 100000 in
theorem z_apN (S : zs_S) (p q : Nat) (hp : p ≤ 9) (hq : q ≤ 9) : zs_Ci MX12_apart [.int (nI p), .int (nI q)] S (fun z S2 => z = nI (if p < q then q - p else p - q) ∧ S = S2) := by
  refine zs_C.of (by decide) (Nat.le_of_ble_eq_true rfl) ?_
  show zs_P MX12_apart 0 [(0, .int (nI p)), (1, .int (nI q))] [] S _
  refine g_iload_n dX12_apart_0 rfl rfl ?_
  refine g_iload_n dX12_apart_1 rfl rfl ?_
  refine g_ic_geN 11 dX12_apart_2 (by decide) (by omega) (by omega) (fun h1 => ?_) (fun h1 => ?_)
  · refine g_iload_n dX12_apart_11 rfl rfl ?_
    refine g_iload_n dX12_apart_12 rfl rfl ?_
    refine g_isubN dX12_apart_13 (by omega) ?_
    refine g_iret dX12_apart_14 rfl rfl ?_
    exact ⟨_, rfl, by rw [if_neg (by omega)], rfl⟩
  · refine g_iload_n dX12_apart_5 rfl rfl ?_
    refine g_iload_n dX12_apart_6 rfl rfl ?_
    refine g_isubN dX12_apart_7 (by omega) ?_
    refine g_goto 14 dX12_apart_8 (by decide) ?_
    refine g_iret dX12_apart_14 rfl rfl ?_
    exact ⟨_, rfl, by rw [if_pos (by omega)], rfl⟩
set_option maxRecDepth 100000 in
theorem z_looks0 (S : zs_S) (p q : Nat) (hp : p ≤ 9) (hq : q ≤ 9) : zs_Ci MX12_looks [.int (nI 0), .int (nI p), .int (nI q)] S (fun z S2 => z = nI (zs_sit 0 p q) ∧ S = S2) := by
  refine zs_C.of (by decide) (Nat.le_of_ble_eq_true rfl) ?_
  show zs_P MX12_looks 0 [(0, .int (nI 0)), (1, .int (nI p)), (2, .int (nI q))] [] S _
  refine g_iload_n dX12_looks_0 rfl rfl ?_
  refine g_istore_n (lv' := [(3, .int (nI p)), (0, .int (nI 0)), (1, .int (nI p)), (2, .int (nI q))]) dX12_looks_1 rfl (by decide) rfl ?_
  refine g_iload_n dX12_looks_2 rfl rfl ?_
  refine g_iconst (v := (nI 1)) dX12_looks_3 rfl ?_
  refine g_ic_eqN 12 dX12_looks_4 (by decide) (by omega) (by omega) (fun z => absurd z (by omega)) (fun _ => ?_)
  refine g_iload_n dX12_looks_7 rfl rfl ?_
  refine g_iconst (v := (nI 3)) dX12_looks_8 rfl ?_
  refine g_ic_neN 34 dX12_looks_9 (by decide) (by omega) (by omega) (fun _ => ?_) (fun z => absurd z (by omega))
  refine g_iload_n dX12_looks_34 rfl rfl ?_
  refine g_iconst (v := (nI 2)) dX12_looks_35 rfl ?_
  refine g_ic_eqN 44 dX12_looks_36 (by decide) (by omega) (by omega) (fun z => absurd z (by omega)) (fun _ => ?_)
  refine g_iload_n dX12_looks_39 rfl rfl ?_
  refine g_iconst (v := (nI 4)) dX12_looks_40 rfl ?_
  refine g_ic_neN 86 dX12_looks_41 (by decide) (by omega) (by omega) (fun _ => ?_) (fun z => absurd z (by omega))
  refine g_iload_n dX12_looks_86 rfl rfl ?_
  refine g_iconst (v := (nI 5)) dX12_looks_87 rfl ?_
  refine g_ic_neN 102 dX12_looks_88 (by decide) (by omega) (by omega) (fun _ => ?_) (fun z => absurd z (by omega))
  refine g_iload_n dX12_looks_102 rfl rfl ?_
  refine g_iret dX12_looks_103 rfl rfl ?_
  exact ⟨_, rfl, congrArg nI (by simp only [zs_sit, zs_shp] <;> (repeat' split) <;> omega), rfl⟩
set_option maxRecDepth 100000 in
theorem z_looks1 (S : zs_S) (p q : Nat) (hp : p ≤ 9) (hq : q ≤ 9) : zs_Ci MX12_looks [.int (nI 1), .int (nI p), .int (nI q)] S (fun z S2 => z = nI (zs_sit 1 p q) ∧ S = S2) := by
  refine zs_C.of (by decide) (Nat.le_of_ble_eq_true rfl) ?_
  show zs_P MX12_looks 0 [(0, .int (nI 1)), (1, .int (nI p)), (2, .int (nI q))] [] S _
  refine g_iload_n dX12_looks_0 rfl rfl ?_
  refine g_istore_n (lv' := [(3, .int (nI p)), (0, .int (nI 1)), (1, .int (nI p)), (2, .int (nI q))]) dX12_looks_1 rfl (by decide) rfl ?_
  refine g_iload_n dX12_looks_2 rfl rfl ?_
  refine g_iconst (v := (nI 1)) dX12_looks_3 rfl ?_
  refine g_ic_eqN 12 dX12_looks_4 (by decide) (by omega) (by omega) (fun _ => ?_) (fun z => absurd z (by omega))
  refine g_iload_n dX12_looks_12 rfl rfl ?_
  refine g_iconst (v := (nI 3)) dX12_looks_13 rfl ?_
  refine g_ic_neN 25 dX12_looks_14 (by decide) (by omega) (by omega) (fun _ => ?_) (fun z => absurd z (by omega))
  refine g_iload_n dX12_looks_25 rfl rfl ?_
  refine g_iload_n dX12_looks_26 rfl rfl ?_
  refine g_iaddN dX12_looks_27 ?_
  refine g_iconst (v := (nI 2)) dX12_looks_28 rfl ?_
  refine g_idivN dX12_looks_29 (by omega) (by omega) (by omega) ?_
  refine g_istore_n (lv' := [(3, .int (nI ((p + q) / 2))), (0, .int (nI 1)), (1, .int (nI p)), (2, .int (nI q))]) dX12_looks_30 rfl (by decide) rfl ?_
  refine g_goto 102 dX12_looks_31 (by decide) ?_
  refine g_iload_n dX12_looks_102 rfl rfl ?_
  refine g_iret dX12_looks_103 rfl rfl ?_
  exact ⟨_, rfl, congrArg nI (by simp only [zs_sit, zs_shp] <;> (repeat' split) <;> omega), rfl⟩
set_option maxRecDepth 100000 in
theorem z_looks2 (S : zs_S) (p q : Nat) (hp : p ≤ 9) (hq : q ≤ 9) : zs_Ci MX12_looks [.int (nI 2), .int (nI p), .int (nI q)] S (fun z S2 => z = nI (zs_sit 2 p q) ∧ S = S2) := by
  refine zs_C.of (by decide) (Nat.le_of_ble_eq_true rfl) ?_
  show zs_P MX12_looks 0 [(0, .int (nI 2)), (1, .int (nI p)), (2, .int (nI q))] [] S _
  refine g_iload_n dX12_looks_0 rfl rfl ?_
  refine g_istore_n (lv' := [(3, .int (nI p)), (0, .int (nI 2)), (1, .int (nI p)), (2, .int (nI q))]) dX12_looks_1 rfl (by decide) rfl ?_
  refine g_iload_n dX12_looks_2 rfl rfl ?_
  refine g_iconst (v := (nI 1)) dX12_looks_3 rfl ?_
  refine g_ic_eqN 12 dX12_looks_4 (by decide) (by omega) (by omega) (fun z => absurd z (by omega)) (fun _ => ?_)
  refine g_iload_n dX12_looks_7 rfl rfl ?_
  refine g_iconst (v := (nI 3)) dX12_looks_8 rfl ?_
  refine g_ic_neN 34 dX12_looks_9 (by decide) (by omega) (by omega) (fun _ => ?_) (fun z => absurd z (by omega))
  refine g_iload_n dX12_looks_34 rfl rfl ?_
  refine g_iconst (v := (nI 2)) dX12_looks_35 rfl ?_
  refine g_ic_eqN 44 dX12_looks_36 (by decide) (by omega) (by omega) (fun _ => ?_) (fun z => absurd z (by omega))
  refine g_iload_n dX12_looks_44 rfl rfl ?_
  refine g_iload_n dX12_looks_45 rfl rfl ?_
  refine g_callS [.int (nI p), .int (nI q)] [] (z_apN S p q hp hq) dX12_looks_46 kk_X12_looks_X12_apart ml_RX12_46 swX12_apart rfl rfl (Nat.le_of_ble_eq_true rfl) ?_
  rintro _ _ ⟨_, rfl, rfl, rfl⟩
  have ha9 : (if p < q then q - p else p - q) ≤ 9 := by split <;> omega
  generalize hap : (if p < q then q - p else p - q) = ap at *
  refine g_iconst (v := (nI 1)) dX12_looks_49 rfl ?_
  refine g_ic_neN 57 dX12_looks_50 (by decide) (by omega) (by omega) (fun h1 => ?_) (fun h1 => ?_)
  · refine g_iload_n dX12_looks_57 rfl rfl ?_
    refine g_istore_n (lv' := [(3, .int (nI p)), (0, .int (nI 2)), (1, .int (nI p)), (2, .int (nI q))]) dX12_looks_58 rfl (by decide) rfl ?_
    refine g_iload_n dX12_looks_59 rfl rfl ?_
    refine g_iload_n dX12_looks_60 rfl rfl ?_
    refine g_iconst (v := (nI 4)) dX12_looks_61 rfl ?_
    refine g_ic_neN 80 dX12_looks_62 (by decide) (by omega) (by omega) (fun _ => ?_) (fun z => absurd z (by omega))
    refine g_iconst (v := (nI 0)) dX12_looks_80 rfl ?_
    refine g_iaddN dX12_looks_81 ?_
    refine g_istore_n (lv' := [(3, .int (nI (p + 0))), (0, .int (nI 2)), (1, .int (nI p)), (2, .int (nI q))]) dX12_looks_82 rfl (by decide) rfl ?_
    refine g_goto 102 dX12_looks_83 (by decide) ?_
    refine g_iload_n dX12_looks_102 rfl rfl ?_
    refine g_iret dX12_looks_103 rfl rfl ?_
    exact ⟨_, rfl, congrArg nI (by
      have hs : zs_shp p q = if ap = 1 then q else p := by
        rw [← hap]
        unfold zs_shp
        (repeat' split) <;> omega
      simp only [zs_sit, hs] <;> (repeat' split) <;> omega), rfl⟩
  · refine g_iload_n dX12_looks_53 rfl rfl ?_
    refine g_goto 58 dX12_looks_54 (by decide) ?_
    refine g_istore_n (lv' := [(3, .int (nI q)), (0, .int (nI 2)), (1, .int (nI p)), (2, .int (nI q))]) dX12_looks_58 rfl (by decide) rfl ?_
    refine g_iload_n dX12_looks_59 rfl rfl ?_
    refine g_iload_n dX12_looks_60 rfl rfl ?_
    refine g_iconst (v := (nI 4)) dX12_looks_61 rfl ?_
    refine g_ic_neN 80 dX12_looks_62 (by decide) (by omega) (by omega) (fun _ => ?_) (fun z => absurd z (by omega))
    refine g_iconst (v := (nI 0)) dX12_looks_80 rfl ?_
    refine g_iaddN dX12_looks_81 ?_
    refine g_istore_n (lv' := [(3, .int (nI (q + 0))), (0, .int (nI 2)), (1, .int (nI p)), (2, .int (nI q))]) dX12_looks_82 rfl (by decide) rfl ?_
    refine g_goto 102 dX12_looks_83 (by decide) ?_
    refine g_iload_n dX12_looks_102 rfl rfl ?_
    refine g_iret dX12_looks_103 rfl rfl ?_
    exact ⟨_, rfl, congrArg nI (by
      have hs : zs_shp p q = if ap = 1 then q else p := by
        rw [← hap]
        unfold zs_shp
        (repeat' split) <;> omega
      simp only [zs_sit, hs] <;> (repeat' split) <;> omega), rfl⟩
set_option maxRecDepth 100000 in
theorem z_looks3 (S : zs_S) (p q : Nat) (hp : p ≤ 9) (hq : q ≤ 9) : zs_Ci MX12_looks [.int (nI 3), .int (nI p), .int (nI q)] S (fun z S2 => z = nI (zs_sit 3 p q) ∧ S = S2) := by
  refine zs_C.of (by decide) (Nat.le_of_ble_eq_true rfl) ?_
  show zs_P MX12_looks 0 [(0, .int (nI 3)), (1, .int (nI p)), (2, .int (nI q))] [] S _
  refine g_iload_n dX12_looks_0 rfl rfl ?_
  refine g_istore_n (lv' := [(3, .int (nI p)), (0, .int (nI 3)), (1, .int (nI p)), (2, .int (nI q))]) dX12_looks_1 rfl (by decide) rfl ?_
  refine g_iload_n dX12_looks_2 rfl rfl ?_
  refine g_iconst (v := (nI 1)) dX12_looks_3 rfl ?_
  refine g_ic_eqN 12 dX12_looks_4 (by decide) (by omega) (by omega) (fun z => absurd z (by omega)) (fun _ => ?_)
  refine g_iload_n dX12_looks_7 rfl rfl ?_
  refine g_iconst (v := (nI 3)) dX12_looks_8 rfl ?_
  refine g_ic_neN 34 dX12_looks_9 (by decide) (by omega) (by omega) (fun z => absurd z (by omega)) (fun _ => ?_)
  refine g_iload_n dX12_looks_12 rfl rfl ?_
  refine g_iconst (v := (nI 3)) dX12_looks_13 rfl ?_
  refine g_ic_neN 25 dX12_looks_14 (by decide) (by omega) (by omega) (fun z => absurd z (by omega)) (fun _ => ?_)
  refine g_iload_n dX12_looks_17 rfl rfl ?_
  refine g_if_neN 25 dX12_looks_18 (by decide) (by omega) (fun h1 => ?_) (fun h1 => ?_)
  · refine g_iload_n dX12_looks_25 rfl rfl ?_
    refine g_iload_n dX12_looks_26 rfl rfl ?_
    refine g_iaddN dX12_looks_27 ?_
    refine g_iconst (v := (nI 2)) dX12_looks_28 rfl ?_
    refine g_idivN dX12_looks_29 (by omega) (by omega) (by omega) ?_
    refine g_istore_n (lv' := [(3, .int (nI ((p + q) / 2))), (0, .int (nI 3)), (1, .int (nI p)), (2, .int (nI q))]) dX12_looks_30 rfl (by decide) rfl ?_
    refine g_goto 102 dX12_looks_31 (by decide) ?_
    refine g_iload_n dX12_looks_102 rfl rfl ?_
    refine g_iret dX12_looks_103 rfl rfl ?_
    exact ⟨_, rfl, congrArg nI (by simp only [zs_sit, zs_shp] <;> (repeat' split) <;> omega), rfl⟩
  · refine g_iload_n dX12_looks_21 rfl rfl ?_
    refine g_goto 30 dX12_looks_22 (by decide) ?_
    refine g_istore_n (lv' := [(3, .int (nI q)), (0, .int (nI 3)), (1, .int (nI p)), (2, .int (nI q))]) dX12_looks_30 rfl (by decide) rfl ?_
    refine g_goto 102 dX12_looks_31 (by decide) ?_
    refine g_iload_n dX12_looks_102 rfl rfl ?_
    refine g_iret dX12_looks_103 rfl rfl ?_
    exact ⟨_, rfl, congrArg nI (by simp only [zs_sit, zs_shp] <;> (repeat' split) <;> omega), rfl⟩
set_option maxRecDepth 100000 in
theorem z_looks4 (S : zs_S) (p q : Nat) (hp : p ≤ 9) (hq : q ≤ 9) : zs_Ci MX12_looks [.int (nI 4), .int (nI p), .int (nI q)] S (fun z S2 => z = nI (zs_sit 4 p q) ∧ S = S2) := by
  refine zs_C.of (by decide) (Nat.le_of_ble_eq_true rfl) ?_
  show zs_P MX12_looks 0 [(0, .int (nI 4)), (1, .int (nI p)), (2, .int (nI q))] [] S _
  refine g_iload_n dX12_looks_0 rfl rfl ?_
  refine g_istore_n (lv' := [(3, .int (nI p)), (0, .int (nI 4)), (1, .int (nI p)), (2, .int (nI q))]) dX12_looks_1 rfl (by decide) rfl ?_
  refine g_iload_n dX12_looks_2 rfl rfl ?_
  refine g_iconst (v := (nI 1)) dX12_looks_3 rfl ?_
  refine g_ic_eqN 12 dX12_looks_4 (by decide) (by omega) (by omega) (fun z => absurd z (by omega)) (fun _ => ?_)
  refine g_iload_n dX12_looks_7 rfl rfl ?_
  refine g_iconst (v := (nI 3)) dX12_looks_8 rfl ?_
  refine g_ic_neN 34 dX12_looks_9 (by decide) (by omega) (by omega) (fun _ => ?_) (fun z => absurd z (by omega))
  refine g_iload_n dX12_looks_34 rfl rfl ?_
  refine g_iconst (v := (nI 2)) dX12_looks_35 rfl ?_
  refine g_ic_eqN 44 dX12_looks_36 (by decide) (by omega) (by omega) (fun z => absurd z (by omega)) (fun _ => ?_)
  refine g_iload_n dX12_looks_39 rfl rfl ?_
  refine g_iconst (v := (nI 4)) dX12_looks_40 rfl ?_
  refine g_ic_neN 86 dX12_looks_41 (by decide) (by omega) (by omega) (fun z => absurd z (by omega)) (fun _ => ?_)
  refine g_iload_n dX12_looks_44 rfl rfl ?_
  refine g_iload_n dX12_looks_45 rfl rfl ?_
  refine g_callS [.int (nI p), .int (nI q)] [] (z_apN S p q hp hq) dX12_looks_46 kk_X12_looks_X12_apart ml_RX12_46 swX12_apart rfl rfl (Nat.le_of_ble_eq_true rfl) ?_
  rintro _ _ ⟨_, rfl, rfl, rfl⟩
  have ha9 : (if p < q then q - p else p - q) ≤ 9 := by split <;> omega
  generalize hap : (if p < q then q - p else p - q) = ap at *
  refine g_iconst (v := (nI 1)) dX12_looks_49 rfl ?_
  refine g_ic_neN 57 dX12_looks_50 (by decide) (by omega) (by omega) (fun h1 => ?_) (fun h1 => ?_)
  · refine g_iload_n dX12_looks_57 rfl rfl ?_
    refine g_istore_n (lv' := [(3, .int (nI p)), (0, .int (nI 4)), (1, .int (nI p)), (2, .int (nI q))]) dX12_looks_58 rfl (by decide) rfl ?_
    refine g_iload_n dX12_looks_59 rfl rfl ?_
    refine g_iload_n dX12_looks_60 rfl rfl ?_
    refine g_iconst (v := (nI 4)) dX12_looks_61 rfl ?_
    refine g_ic_neN 80 dX12_looks_62 (by decide) (by omega) (by omega) (fun z => absurd z (by omega)) (fun _ => ?_)
    refine g_iload_n dX12_looks_65 rfl rfl ?_
    refine g_iload_n dX12_looks_66 rfl rfl ?_
    refine g_ic_leN 80 dX12_looks_67 (by decide) (by omega) (by omega) (fun h2 => ?_) (fun h2 => ?_)
    · refine g_iconst (v := (nI 0)) dX12_looks_80 rfl ?_
      refine g_iaddN dX12_looks_81 ?_
      refine g_istore_n (lv' := [(3, .int (nI (p + 0))), (0, .int (nI 4)), (1, .int (nI p)), (2, .int (nI q))]) dX12_looks_82 rfl (by decide) rfl ?_
      refine g_goto 102 dX12_looks_83 (by decide) ?_
      refine g_iload_n dX12_looks_102 rfl rfl ?_
      refine g_iret dX12_looks_103 rfl rfl ?_
      exact ⟨_, rfl, congrArg nI (by
        have hs : zs_shp p q = if ap = 1 then q else p := by
          rw [← hap]
          unfold zs_shp
          (repeat' split) <;> omega
        simp only [zs_sit, hs] <;> (repeat' split) <;> omega), rfl⟩
    · refine g_iload_n dX12_looks_70 rfl rfl ?_
      refine g_bipush (v := (nI 9)) dX12_looks_71 rfl ?_
      refine g_ic_geN 80 dX12_looks_73 (by decide) (by omega) (by omega) (fun h3 => ?_) (fun h3 => ?_)
      · refine g_iconst (v := (nI 0)) dX12_looks_80 rfl ?_
        refine g_iaddN dX12_looks_81 ?_
        refine g_istore_n (lv' := [(3, .int (nI (p + 0))), (0, .int (nI 4)), (1, .int (nI p)), (2, .int (nI q))]) dX12_looks_82 rfl (by decide) rfl ?_
        refine g_goto 102 dX12_looks_83 (by decide) ?_
        refine g_iload_n dX12_looks_102 rfl rfl ?_
        refine g_iret dX12_looks_103 rfl rfl ?_
        exact ⟨_, rfl, congrArg nI (by
          have hs : zs_shp p q = if ap = 1 then q else p := by
            rw [← hap]
            unfold zs_shp
            (repeat' split) <;> omega
          simp only [zs_sit, hs] <;> (repeat' split) <;> omega), rfl⟩
      · refine g_iconst (v := (nI 1)) dX12_looks_76 rfl ?_
        refine g_goto 81 dX12_looks_77 (by decide) ?_
        refine g_iaddN dX12_looks_81 ?_
        refine g_istore_n (lv' := [(3, .int (nI (p + 1))), (0, .int (nI 4)), (1, .int (nI p)), (2, .int (nI q))]) dX12_looks_82 rfl (by decide) rfl ?_
        refine g_goto 102 dX12_looks_83 (by decide) ?_
        refine g_iload_n dX12_looks_102 rfl rfl ?_
        refine g_iret dX12_looks_103 rfl rfl ?_
        exact ⟨_, rfl, congrArg nI (by
          have hs : zs_shp p q = if ap = 1 then q else p := by
            rw [← hap]
            unfold zs_shp
            (repeat' split) <;> omega
          simp only [zs_sit, hs] <;> (repeat' split) <;> omega), rfl⟩
  · refine g_iload_n dX12_looks_53 rfl rfl ?_
    refine g_goto 58 dX12_looks_54 (by decide) ?_
    refine g_istore_n (lv' := [(3, .int (nI q)), (0, .int (nI 4)), (1, .int (nI p)), (2, .int (nI q))]) dX12_looks_58 rfl (by decide) rfl ?_
    refine g_iload_n dX12_looks_59 rfl rfl ?_
    refine g_iload_n dX12_looks_60 rfl rfl ?_
    refine g_iconst (v := (nI 4)) dX12_looks_61 rfl ?_
    refine g_ic_neN 80 dX12_looks_62 (by decide) (by omega) (by omega) (fun z => absurd z (by omega)) (fun _ => ?_)
    refine g_iload_n dX12_looks_65 rfl rfl ?_
    refine g_iload_n dX12_looks_66 rfl rfl ?_
    refine g_ic_leN 80 dX12_looks_67 (by decide) (by omega) (by omega) (fun h4 => ?_) (fun h4 => ?_)
    · refine g_iconst (v := (nI 0)) dX12_looks_80 rfl ?_
      refine g_iaddN dX12_looks_81 ?_
      refine g_istore_n (lv' := [(3, .int (nI (q + 0))), (0, .int (nI 4)), (1, .int (nI p)), (2, .int (nI q))]) dX12_looks_82 rfl (by decide) rfl ?_
      refine g_goto 102 dX12_looks_83 (by decide) ?_
      refine g_iload_n dX12_looks_102 rfl rfl ?_
      refine g_iret dX12_looks_103 rfl rfl ?_
      exact ⟨_, rfl, congrArg nI (by
        have hs : zs_shp p q = if ap = 1 then q else p := by
          rw [← hap]
          unfold zs_shp
          (repeat' split) <;> omega
        simp only [zs_sit, hs] <;> (repeat' split) <;> omega), rfl⟩
    · refine g_iload_n dX12_looks_70 rfl rfl ?_
      refine g_bipush (v := (nI 9)) dX12_looks_71 rfl ?_
      refine g_ic_geN 80 dX12_looks_73 (by decide) (by omega) (by omega) (fun h5 => ?_) (fun h5 => ?_)
      · refine g_iconst (v := (nI 0)) dX12_looks_80 rfl ?_
        refine g_iaddN dX12_looks_81 ?_
        refine g_istore_n (lv' := [(3, .int (nI (q + 0))), (0, .int (nI 4)), (1, .int (nI p)), (2, .int (nI q))]) dX12_looks_82 rfl (by decide) rfl ?_
        refine g_goto 102 dX12_looks_83 (by decide) ?_
        refine g_iload_n dX12_looks_102 rfl rfl ?_
        refine g_iret dX12_looks_103 rfl rfl ?_
        exact ⟨_, rfl, congrArg nI (by
          have hs : zs_shp p q = if ap = 1 then q else p := by
            rw [← hap]
            unfold zs_shp
            (repeat' split) <;> omega
          simp only [zs_sit, hs] <;> (repeat' split) <;> omega), rfl⟩
      · refine g_iconst (v := (nI 1)) dX12_looks_76 rfl ?_
        refine g_goto 81 dX12_looks_77 (by decide) ?_
        refine g_iaddN dX12_looks_81 ?_
        refine g_istore_n (lv' := [(3, .int (nI (q + 1))), (0, .int (nI 4)), (1, .int (nI p)), (2, .int (nI q))]) dX12_looks_82 rfl (by decide) rfl ?_
        refine g_goto 102 dX12_looks_83 (by decide) ?_
        refine g_iload_n dX12_looks_102 rfl rfl ?_
        refine g_iret dX12_looks_103 rfl rfl ?_
        exact ⟨_, rfl, congrArg nI (by
          have hs : zs_shp p q = if ap = 1 then q else p := by
            rw [← hap]
            unfold zs_shp
            (repeat' split) <;> omega
          simp only [zs_sit, hs] <;> (repeat' split) <;> omega), rfl⟩
set_option maxRecDepth 100000 in
theorem z_looks5 (S : zs_S) (p q : Nat) (hp : p ≤ 9) (hq : q ≤ 9) : zs_Ci MX12_looks [.int (nI 5), .int (nI p), .int (nI q)] S (fun z S2 => z = nI (zs_sit 5 p q) ∧ S = S2) := by
  refine zs_C.of (by decide) (Nat.le_of_ble_eq_true rfl) ?_
  show zs_P MX12_looks 0 [(0, .int (nI 5)), (1, .int (nI p)), (2, .int (nI q))] [] S _
  refine g_iload_n dX12_looks_0 rfl rfl ?_
  refine g_istore_n (lv' := [(3, .int (nI p)), (0, .int (nI 5)), (1, .int (nI p)), (2, .int (nI q))]) dX12_looks_1 rfl (by decide) rfl ?_
  refine g_iload_n dX12_looks_2 rfl rfl ?_
  refine g_iconst (v := (nI 1)) dX12_looks_3 rfl ?_
  refine g_ic_eqN 12 dX12_looks_4 (by decide) (by omega) (by omega) (fun z => absurd z (by omega)) (fun _ => ?_)
  refine g_iload_n dX12_looks_7 rfl rfl ?_
  refine g_iconst (v := (nI 3)) dX12_looks_8 rfl ?_
  refine g_ic_neN 34 dX12_looks_9 (by decide) (by omega) (by omega) (fun _ => ?_) (fun z => absurd z (by omega))
  refine g_iload_n dX12_looks_34 rfl rfl ?_
  refine g_iconst (v := (nI 2)) dX12_looks_35 rfl ?_
  refine g_ic_eqN 44 dX12_looks_36 (by decide) (by omega) (by omega) (fun z => absurd z (by omega)) (fun _ => ?_)
  refine g_iload_n dX12_looks_39 rfl rfl ?_
  refine g_iconst (v := (nI 4)) dX12_looks_40 rfl ?_
  refine g_ic_neN 86 dX12_looks_41 (by decide) (by omega) (by omega) (fun _ => ?_) (fun z => absurd z (by omega))
  refine g_iload_n dX12_looks_86 rfl rfl ?_
  refine g_iconst (v := (nI 5)) dX12_looks_87 rfl ?_
  refine g_ic_neN 102 dX12_looks_88 (by decide) (by omega) (by omega) (fun z => absurd z (by omega)) (fun _ => ?_)
  refine g_iload_n dX12_looks_91 rfl rfl ?_
  refine g_iload_n dX12_looks_92 rfl rfl ?_
  refine g_ic_neN 100 dX12_looks_93 (by decide) (by omega) (by omega) (fun h1 => ?_) (fun h1 => ?_)
  · refine g_iload_n dX12_looks_100 rfl rfl ?_
    refine g_istore_n (lv' := [(3, .int (nI p)), (0, .int (nI 5)), (1, .int (nI p)), (2, .int (nI q))]) dX12_looks_101 rfl (by decide) rfl ?_
    refine g_iload_n dX12_looks_102 rfl rfl ?_
    refine g_iret dX12_looks_103 rfl rfl ?_
    exact ⟨_, rfl, congrArg nI (by simp only [zs_sit, zs_shp] <;> (repeat' split) <;> omega), rfl⟩
  · refine g_iconst (v := (nI 0)) dX12_looks_96 rfl ?_
    refine g_goto 101 dX12_looks_97 (by decide) ?_
    refine g_istore_n (lv' := [(3, .int (nI 0)), (0, .int (nI 5)), (1, .int (nI p)), (2, .int (nI q))]) dX12_looks_101 rfl (by decide) rfl ?_
    refine g_iload_n dX12_looks_102 rfl rfl ?_
    refine g_iret dX12_looks_103 rfl rfl ?_
    exact ⟨_, rfl, congrArg nI (by simp only [zs_sit, zs_shp] <;> (repeat' split) <;> omega), rfl⟩
theorem x_sight (S : zs_S) (c p q : Nat) (hc : c ≤ 5) (hp : p ≤ 9) (hq : q ≤ 9) : zs_Ci MX1_sight [.int (nI c), .int (nI p), .int (nI q)] S (fun z S2 => z = nI (zs_sit c p q) ∧ S = S2) := by
  match c, hc with
  | 0, _ => exact x_sight0 S p q hp hq
  | 1, _ => exact x_sight1 S p q hp hq
  | 2, _ => exact x_sight2 S p q hp hq
  | 3, _ => exact x_sight3 S p q hp hq
  | 4, _ => exact x_sight4 S p q hp hq
  | 5, _ => exact x_sight5 S p q hp hq
theorem z_looks (S : zs_S) (c p q : Nat) (hc : c ≤ 5) (hp : p ≤ 9) (hq : q ≤ 9) : zs_Ci MX12_looks [.int (nI c), .int (nI p), .int (nI q)] S (fun z S2 => z = nI (zs_sit c p q) ∧ S = S2) := by
  match c, hc with
  | 0, _ => exact z_looks0 S p q hp hq
  | 1, _ => exact z_looks1 S p q hp hq
  | 2, _ => exact z_looks2 S p q hp hq
  | 3, _ => exact z_looks3 S p q hp hq
  | 4, _ => exact z_looks4 S p q hp hq
  | 5, _ => exact z_looks5 S p q hp hq
theorem z_passes (S : zs_S) (c s k : Nat) (hc : c ≤ 5) (hs : s < 2 ^ 20) (hk : k < 2 ^ 30) : zs_Ci MX12_passes [.int (nI c), .int (nI s), .int (nI k)] S (fun z S2 => z = nI (zs_pas c s k) ∧ S = S2) := by
  match c, hc with
  | 0, _ => exact z_pass0 S s k hs hk
  | 1, _ => exact z_pass1 S s k hs hk
  | 2, _ => exact z_pass2 S s k hs hk
  | 3, _ => exact z_pass3 S s k hs hk
  | 4, _ => exact z_pass4 S s k hs hk
  | 5, _ => exact z_pass5 S s k hs hk
/-! SETS OF KINDS -/
def zs_bits (f : Nat → Bool) : Nat → Nat
  | 0 => 0
  | k + 1 => zs_bits f k + (if f k = true then 2 ^ k else 0)
theorem zs_bits_lt (f : Nat → Bool) : ∀ k, zs_bits f k < 2 ^ k := by
  intro k
  induction k with
  | zero => exact Nat.one_pos
  | succ k ih =>
    show zs_bits f k + (if f k = true then 2 ^ k else 0) < 2 ^ (k + 1)
    rw [Nat.pow_succ]
    split <;> omega
theorem zs_bitsT {f : Nat → Bool} {k : Nat} (h : f k = true) : zs_bits f (k + 1) = zs_bits f k + 2 ^ k := by
  show zs_bits f k + (if f k = true then 2 ^ k else 0) = _
  rw [if_pos h]
theorem zs_bitsF {f : Nat → Bool} {k : Nat} (h : ¬ f k = true) : zs_bits f (k + 1) = zs_bits f k := by
  show zs_bits f k + (if f k = true then 2 ^ k else 0) = _
  rw [if_neg h]; rfl
theorem zs_or1 : ∀ k, k < 6 → ∀ b, b < 2 ^ k → nI b ||| (nI 1 <<< (nI k &&& 31)) = nI (b + 2 ^ k) := by decide +kernel
theorem zs_or0 : ∀ b, b < 64 → nI b ||| nI 0 = nI b := by decide +kernel
theorem zs_b64 {f : Nat → Bool} {k : Nat} (h : k ≤ 6) : zs_bits f k < 64 := by
  have h1 := zs_bits_lt f k
  have h2 : 2 ^ k ≤ 2 ^ 6 := Nat.pow_le_pow_right (by omega) h
  omega
/-- what the marks say of a kind; what the notes say of an eye's -/
def zs_lf (M : Nat → Nat → Nat) (m k : Nat) : Prop := ∀ q, q < m → zs_pas k (M q 0) (M q 1) = M q 2
def zs_ef (N : Nat → Nat → Nat) (m e k : Nat) : Prop := ∀ q, q < m → N q 0 = e → zs_sit k (N q 1) (N q 2) = N q 3
def zs_all (f : Nat → Bool) : Nat → Bool
  | 0 => true
  | q + 1 => zs_all f q && f q
theorem zs_all_iff {f : Nat → Bool} : ∀ m, zs_all f m = true ↔ ∀ q, q < m → f q = true := by
  intro m
  induction m with
  | zero => exact ⟨fun _ q hq => absurd hq (Nat.not_lt_zero _), fun _ => rfl⟩
  | succ m ih =>
    show (zs_all f m && f m) = true ↔ _
    rw [Bool.and_eq_true, ih]
    refine ⟨fun h q hq => ?_, fun h => ⟨fun q hq => h q (by omega), h m (by omega)⟩⟩
    by_cases e : q = m
    · rw [e]; exact h.2
    · exact h.1 q (by omega)
def zs_lfb (M : Nat → Nat → Nat) (m k : Nat) : Bool := zs_all (fun q => decide (zs_pas k (M q 0) (M q 1) = M q 2)) m
def zs_efb (N : Nat → Nat → Nat) (m e k : Nat) : Bool := zs_all (fun q => decide (N q 0 = e → zs_sit k (N q 1) (N q 2) = N q 3)) m
theorem zs_lfb_iff {M : Nat → Nat → Nat} {m k : Nat} : zs_lfb M m k = true ↔ zs_lf M m k := (zs_all_iff m).trans ⟨fun h q hq => of_decide_eq_true (h q hq), fun h q hq => decide_eq_true (h q hq)⟩
theorem zs_efb_iff {N : Nat → Nat → Nat} {m e k : Nat} : zs_efb N m e k = true ↔ zs_ef N m e k := (zs_all_iff m).trans ⟨fun h q hq => of_decide_eq_true (h q hq), fun h q hq => decide_eq_true (h q hq)⟩
def zs_ls (M : Nat → Nat → Nat) (m : Nat) : Nat := zs_bits (fun k => zs_lfb M m k) 6
def zs_es (N : Nat → Nat → Nat) (m e : Nat) : Nat := zs_bits (fun k => zs_efb N m e k) 6
/-- the class's rows hold the numbers M -/
def zs_hc (S : zs_S) (a : Nat) (M : Nat → Nat → Nat) (m n b : Nat) : Prop := m ≤ 6 ∧ S.1 a 2 = nI m ∧ ∀ q j, q < m → j < n → S.1 (a + 1) (4 * q + j) = nI (M q j) ∧ M q j ≤ b
/-- the model's -/
def zs_hm (S : zs_S) (p w : Nat) (M : Nat → Nat → Nat) (m n b : Nat) : Prop := m ≤ 6 ∧ S.1 82 p = nI m ∧ ∀ q j, q < m → j < n → S.1 82 (w + 6 * j + q) = nI (M q j) ∧ M q j ≤ b
set_option maxRecDepth 100000 in
theorem c_val_11 (S : zs_S) (q j v : Nat) (hq : q < 6) (hj : j < 4) (h : S.1 12 (4 * q + j) = nI v) : zs_Ci MX5_value [.ref 11, .int (nI q), .int (nI j)] S (fun x S2 => x = nI v ∧ S = S2) := by
  refine zs_C.of (by decide) (Nat.le_of_ble_eq_true rfl) ?_
  show zs_P MX5_value 0 [(0, .ref 11), (1, .int (nI q)), (2, .int (nI j))] [] S _
  refine g_aload_n dX5_value_0 rfl rfl ?_
  refine g_getR 1 (12) (C := RX5) (T := TX5) (N := 3) dX5_value_1 (by decide) rfl rfl (by decide) rfl fl_RX5_9 ?_
  refine g_iconst (v := (nI 4)) dX5_value_4 rfl ?_
  refine g_iload_n dX5_value_5 rfl rfl ?_
  refine g_imulN dX5_value_6 ?_
  refine g_iload_n dX5_value_7 rfl rfl ?_
  refine g_iaddN dX5_value_8 ?_
  refine g_callN [.ref 12, .int (nI ((4 * q) + j))] [] (x_cellN S 12 24 (4 * q + j) (by decide) rfl (by decide) (by omega)) dX5_value_9 kk_X5_value_X11_cell nl_RX5_26 swX11_cell rfl rfl (Nat.le_of_ble_eq_true rfl) ?_
  rintro _ _ ⟨_, rfl, rfl, rfl⟩
  rw [h]
  refine g_iret dX5_value_12 rfl rfl ?_
  exact ⟨_, rfl, rfl, rfl⟩
set_option maxRecDepth 100000 in
theorem c_val_13 (S : zs_S) (q j v : Nat) (hq : q < 6) (hj : j < 4) (h : S.1 14 (4 * q + j) = nI v) : zs_Ci MX5_value [.ref 13, .int (nI q), .int (nI j)] S (fun x S2 => x = nI v ∧ S = S2) := by
  refine zs_C.of (by decide) (Nat.le_of_ble_eq_true rfl) ?_
  show zs_P MX5_value 0 [(0, .ref 13), (1, .int (nI q)), (2, .int (nI j))] [] S _
  refine g_aload_n dX5_value_0 rfl rfl ?_
  refine g_getR 1 (14) (C := RX5) (T := TX5) (N := 3) dX5_value_1 (by decide) rfl rfl (by decide) rfl fl_RX5_9 ?_
  refine g_iconst (v := (nI 4)) dX5_value_4 rfl ?_
  refine g_iload_n dX5_value_5 rfl rfl ?_
  refine g_imulN dX5_value_6 ?_
  refine g_iload_n dX5_value_7 rfl rfl ?_
  refine g_iaddN dX5_value_8 ?_
  refine g_callN [.ref 14, .int (nI ((4 * q) + j))] [] (x_cellN S 14 24 (4 * q + j) (by decide) rfl (by decide) (by omega)) dX5_value_9 kk_X5_value_X11_cell nl_RX5_26 swX11_cell rfl rfl (Nat.le_of_ble_eq_true rfl) ?_
  rintro _ _ ⟨_, rfl, rfl, rfl⟩
  rw [h]
  refine g_iret dX5_value_12 rfl rfl ?_
  exact ⟨_, rfl, rfl, rfl⟩
theorem zs_pasB {c s k : Nat} (hs : s ≤ 99) : zs_pas c s k ≤ 200 := by
  unfold zs_pas
  split
  · omega
  · split <;> omega
  · split <;> omega
  · split
    · omega
    · split <;> omega
  · omega
  · omega
set_option maxRecDepth 100000 in
theorem c_lampFits_l (S : zs_S) (M : Nat → Nat → Nat) (m k : Nat) (hk : k ≤ 5) (hM : zs_hc S 13 M m 3 99) : ∀ (d i : Nat), i + d = m → (∀ q, q < i → zs_pas k (M q 0) (M q 1) = M q 2) → zs_P MX11_lampFits 10 [(3, .int (nI i)), (0, .ref 0), (1, .int (nI k)), (2, .ref 13)] [] S (fun v S2 => ∃ x, v = some (.int x) ∧ x = zs_b (zs_lf M m k) ∧ S = S2) := by
  have hm6 := hM.1
  intro d
  induction d with
  | zero =>
    intro i hi hf
    obtain rfl : m = i := by omega
    refine g_iload_n dX11_lampFits_10 rfl rfl ?_
    refine g_aload_n dX11_lampFits_11 rfl rfl ?_
    refine g_getV 2 (C := RX5) (T := TX5) (N := 3) (v := (nI m)) dX11_lampFits_12 (by decide) rfl rfl (by decide) rfl fl_RX11_348 hM.2.1 ?_
    refine g_ic_geN 51 dX11_lampFits_15 (by decide) (by omega) (by omega) (fun _ => ?_) (fun z => absurd z (by omega))
    refine g_iconst (v := (nI 1)) dX11_lampFits_51 rfl ?_
    refine g_iret dX11_lampFits_52 rfl rfl ?_
    exact ⟨_, rfl, (zs_bt (fun q hq => hf q hq)).symm, rfl⟩
  | succ d ih =>
    intro i hi hf
    refine g_iload_n dX11_lampFits_10 rfl rfl ?_
    refine g_aload_n dX11_lampFits_11 rfl rfl ?_
    refine g_getV 2 (C := RX5) (T := TX5) (N := 3) (v := (nI m)) dX11_lampFits_12 (by decide) rfl rfl (by decide) rfl fl_RX11_348 hM.2.1 ?_
    refine g_ic_geN 51 dX11_lampFits_15 (by decide) (by omega) (by omega) (fun z => absurd z (by omega)) (fun _ => ?_)
    refine g_iload_n dX11_lampFits_18 rfl rfl ?_
    refine g_aload_n dX11_lampFits_19 rfl rfl ?_
    refine g_iload_n dX11_lampFits_20 rfl rfl ?_
    refine g_iconst (v := (nI 0)) dX11_lampFits_21 rfl ?_
    refine g_callV (T := TX5) (NN := 3) [.int (nI k)] (c_val_13 S i 0 (M i 0) (by omega) (by omega) (hM.2.2 i 0 (by omega) (by omega)).1) dX11_lampFits_22 kk_X11_lampFits_X5_value ml_RX11_349 mwX5_value ewX5_value (by decide) rfl rfl rfl rfl (Nat.le_of_ble_eq_true rfl) ?_
    rintro _ _ ⟨_, rfl, rfl, rfl⟩
    have vb1 := (hM.2.2 i 0 (by omega) (by omega)).2
    refine g_aload_n dX11_lampFits_25 rfl rfl ?_
    refine g_iload_n dX11_lampFits_26 rfl rfl ?_
    refine g_iconst (v := (nI 1)) dX11_lampFits_27 rfl ?_
    refine g_callV (T := TX5) (NN := 3) [.int (nI (M i 0)), .int (nI k)] (c_val_13 S i 1 (M i 1) (by omega) (by omega) (hM.2.2 i 1 (by omega) (by omega)).1) dX11_lampFits_28 kk_X11_lampFits_X5_value ml_RX11_349 mwX5_value ewX5_value (by decide) rfl rfl rfl rfl (Nat.le_of_ble_eq_true rfl) ?_
    rintro _ _ ⟨_, rfl, rfl, rfl⟩
    have vb2 := (hM.2.2 i 1 (by omega) (by omega)).2
    refine g_callS [.int (nI k), .int (nI (M i 0)), .int (nI (M i 1))] [] (x_passing S k (M i 0) (M i 1) (by omega) (by omega) (by omega)) dX11_lampFits_31 kk_X11_lampFits_X2_passing ml_RX11_368 swX2_passing rfl rfl (Nat.le_of_ble_eq_true rfl) ?_
    rintro _ _ ⟨_, rfl, rfl, rfl⟩
    have hps := zs_pasB (c := k) (s := M i 0) (k := M i 1) (by omega)
    refine g_aload_n dX11_lampFits_34 rfl rfl ?_
    refine g_iload_n dX11_lampFits_35 rfl rfl ?_
    refine g_iconst (v := (nI 2)) dX11_lampFits_36 rfl ?_
    refine g_callV (T := TX5) (NN := 3) [.int (nI (zs_pas k (M i 0) (M i 1)))] (c_val_13 S i 2 (M i 2) (by omega) (by omega) (hM.2.2 i 2 (by omega) (by omega)).1) dX11_lampFits_37 kk_X11_lampFits_X5_value ml_RX11_349 mwX5_value ewX5_value (by decide) rfl rfl rfl rfl (Nat.le_of_ble_eq_true rfl) ?_
    rintro _ _ ⟨_, rfl, rfl, rfl⟩
    have vb3 := (hM.2.2 i 2 (by omega) (by omega)).2
    refine g_ic_eqN 45 dX11_lampFits_40 (by decide) (by omega) (by omega) (fun h4 => ?_) (fun h4 => ?_)
    · refine g_iinc (v := (nI (i + 1))) (lv' := [(3, .int (nI (i + 1))), (0, .ref 0), (1, .int (nI k)), (2, .ref 13)]) dX11_lampFits_45 rfl (nI_1 i) (by decide) rfl ?_
      refine g_goto 10 dX11_lampFits_48 (by decide) ?_
      exact (ih (i + 1) (by omega) (fun q hq => by
        by_cases e : q = i
        · rw [e]; omega
        · exact hf q (by omega))).lv (zs_mc 0 rfl (zs_mc 1 rfl (zs_mc 2 rfl (zs_mc 3 rfl zs_mn))))
    · refine g_iconst (v := (nI 0)) dX11_lampFits_43 rfl ?_
      refine g_iret dX11_lampFits_44 rfl rfl ?_
      exact ⟨_, rfl, (zs_bf (fun z => absurd (z i (by omega)) (by omega))).symm, rfl⟩
set_option maxRecDepth 100000 in
theorem c_lampFits (S : zs_S) (M : Nat → Nat → Nat) (m k : Nat) (hk : k ≤ 5) (hM : zs_hc S 13 M m 3 99) : zs_Ci MX11_lampFits [.ref 0, .int (nI k)] S (fun x S2 => x = zs_b (zs_lf M m k) ∧ S = S2) := by
  refine zs_C.of (by decide) (Nat.le_of_ble_eq_true rfl) ?_
  show zs_P MX11_lampFits 0 [(0, .ref 0), (1, .int (nI k))] [] S _
  refine g_aload_n dX11_lampFits_0 rfl rfl ?_
  refine g_getR 0 (1) (C := RX11) (T := TX11) (N := 18) dX11_lampFits_1 (by decide) rfl rfl (by decide) rfl fl_RX11_10 ?_
  refine g_getR 8 (13) (C := RX6) (T := TX6) (N := 9) dX11_lampFits_4 (by decide) rfl rfl (by decide) rfl fl_RX11_251 ?_
  refine g_astore_n (lv' := [(2, .ref 13), (0, .ref 0), (1, .int (nI k))]) dX11_lampFits_7 rfl (by decide) rfl ?_
  refine g_iconst (v := (nI 0)) dX11_lampFits_8 rfl ?_
  refine g_istore_n (lv' := [(3, .int (nI 0)), (2, .ref 13), (0, .ref 0), (1, .int (nI k))]) dX11_lampFits_9 rfl (by decide) rfl ?_
  exact (c_lampFits_l S M m k hk hM m 0 (by omega) (fun q hq => absurd hq (Nat.not_lt_zero _))).lv (zs_mc 0 rfl (zs_mc 2 rfl (zs_mc 3 rfl (zs_mc 1 rfl zs_mn))))
set_option maxRecDepth 100000 in
theorem c_eyeFits_l (S : zs_S) (N : Nat → Nat → Nat) (m e k : Nat) (he4 : e ≤ 4) (hk : k ≤ 5) (hM : zs_hc S 11 N m 4 9) : ∀ (d i : Nat), i + d = m → (∀ q, q < i → N q 0 = e → zs_sit k (N q 1) (N q 2) = N q 3) → zs_P MX11_eyeFits 11 [(4, .int (nI i)), (3, .ref 11), (0, .ref 0), (1, .int (nI e)), (2, .int (nI k))] [] S (fun v S2 => ∃ x, v = some (.int x) ∧ x = zs_b (zs_ef N m e k) ∧ S = S2) := by
  have hm6 := hM.1
  intro d
  induction d with
  | zero =>
    intro i hi hf
    obtain rfl : m = i := by omega
    refine g_iload dX11_eyeFits_11 rfl ?_
    refine g_aload_n dX11_eyeFits_13 rfl rfl ?_
    refine g_getV 2 (C := RX5) (T := TX5) (N := 3) (v := (nI m)) dX11_eyeFits_14 (by decide) rfl rfl (by decide) rfl fl_RX11_348 hM.2.1 ?_
    refine g_ic_geN 79 dX11_eyeFits_17 (by decide) (by omega) (by omega) (fun _ => ?_) (fun z => absurd z (by omega))
    refine g_iconst (v := (nI 1)) dX11_eyeFits_79 rfl ?_
    refine g_iret dX11_eyeFits_80 rfl rfl ?_
    exact ⟨_, rfl, (zs_bt (fun q hq he => hf q hq he)).symm, rfl⟩
  | succ d ih =>
    intro i hi hf
    refine g_iload dX11_eyeFits_11 rfl ?_
    refine g_aload_n dX11_eyeFits_13 rfl rfl ?_
    refine g_getV 2 (C := RX5) (T := TX5) (N := 3) (v := (nI m)) dX11_eyeFits_14 (by decide) rfl rfl (by decide) rfl fl_RX11_348 hM.2.1 ?_
    refine g_ic_geN 79 dX11_eyeFits_17 (by decide) (by omega) (by omega) (fun z => absurd z (by omega)) (fun _ => ?_)
    refine g_aload_n dX11_eyeFits_20 rfl rfl ?_
    refine g_iload dX11_eyeFits_21 rfl ?_
    refine g_iconst (v := (nI 0)) dX11_eyeFits_23 rfl ?_
    refine g_callV (T := TX5) (NN := 3) [] (c_val_11 S i 0 (N i 0) (by omega) (by omega) (hM.2.2 i 0 (by omega) (by omega)).1) dX11_eyeFits_24 kk_X11_eyeFits_X5_value ml_RX11_349 mwX5_value ewX5_value (by decide) rfl rfl rfl rfl (Nat.le_of_ble_eq_true rfl) ?_
    rintro _ _ ⟨_, rfl, rfl, rfl⟩
    have vb1 := (hM.2.2 i 0 (by omega) (by omega)).2
    refine g_iload_n dX11_eyeFits_27 rfl rfl ?_
    refine g_ic_neN 35 dX11_eyeFits_28 (by decide) (by omega) (by omega) (fun h2 => ?_) (fun h2 => ?_)
    · refine g_iconst (v := (nI 0)) dX11_eyeFits_35 rfl ?_
      refine g_istore (lv' := [(5, .int (nI 0)), (4, .int (nI i)), (3, .ref 11), (0, .ref 0), (1, .int (nI e)), (2, .int (nI k))]) dX11_eyeFits_36 (by decide) rfl ?_
      refine g_iload dX11_eyeFits_38 rfl ?_
      refine g_if_eqN 73 dX11_eyeFits_40 (by decide) (by omega) (fun _ => ?_) (fun z => absurd z (by omega))
      refine g_iinc (v := (nI (i + 1))) (lv' := [(4, .int (nI (i + 1))), (5, .int (nI 0)), (3, .ref 11), (0, .ref 0), (1, .int (nI e)), (2, .int (nI k))]) dX11_eyeFits_73 rfl (nI_1 i) (by decide) rfl ?_
      refine g_goto 11 dX11_eyeFits_76 (by decide) ?_
      exact (ih (i + 1) (by omega) (fun q hq he => by
        by_cases e9 : q = i
        · subst e9; omega
        · exact hf q (by omega) he)).lv (zs_mc 0 rfl (zs_mc 2 rfl (zs_mc 3 rfl (zs_mc 4 rfl (zs_mc 5 rfl zs_mn)))))
    · refine g_iconst (v := (nI 1)) dX11_eyeFits_31 rfl ?_
      refine g_goto 36 dX11_eyeFits_32 (by decide) ?_
      refine g_istore (lv' := [(5, .int (nI 1)), (4, .int (nI i)), (3, .ref 11), (0, .ref 0), (1, .int (nI e)), (2, .int (nI k))]) dX11_eyeFits_36 (by decide) rfl ?_
      refine g_iload dX11_eyeFits_38 rfl ?_
      refine g_if_eqN 73 dX11_eyeFits_40 (by decide) (by omega) (fun z => absurd z (by omega)) (fun _ => ?_)
      refine g_iload_n dX11_eyeFits_43 rfl rfl ?_
      refine g_aload_n dX11_eyeFits_44 rfl rfl ?_
      refine g_iload dX11_eyeFits_45 rfl ?_
      refine g_iconst (v := (nI 1)) dX11_eyeFits_47 rfl ?_
      refine g_callV (T := TX5) (NN := 3) [.int (nI k)] (c_val_11 S i 1 (N i 1) (by omega) (by omega) (hM.2.2 i 1 (by omega) (by omega)).1) dX11_eyeFits_48 kk_X11_eyeFits_X5_value ml_RX11_349 mwX5_value ewX5_value (by decide) rfl rfl rfl rfl (Nat.le_of_ble_eq_true rfl) ?_
      rintro _ _ ⟨_, rfl, rfl, rfl⟩
      have vb3 := (hM.2.2 i 1 (by omega) (by omega)).2
      refine g_aload_n dX11_eyeFits_51 rfl rfl ?_
      refine g_iload dX11_eyeFits_52 rfl ?_
      refine g_iconst (v := (nI 2)) dX11_eyeFits_54 rfl ?_
      refine g_callV (T := TX5) (NN := 3) [.int (nI (N i 1)), .int (nI k)] (c_val_11 S i 2 (N i 2) (by omega) (by omega) (hM.2.2 i 2 (by omega) (by omega)).1) dX11_eyeFits_55 kk_X11_eyeFits_X5_value ml_RX11_349 mwX5_value ewX5_value (by decide) rfl rfl rfl rfl (Nat.le_of_ble_eq_true rfl) ?_
      rintro _ _ ⟨_, rfl, rfl, rfl⟩
      have vb4 := (hM.2.2 i 2 (by omega) (by omega)).2
      refine g_callS [.int (nI k), .int (nI (N i 1)), .int (nI (N i 2))] [] (x_sight S k (N i 1) (N i 2) (by omega) (by omega) (by omega)) dX11_eyeFits_58 kk_X11_eyeFits_X1_sight ml_RX11_352 swX1_sight rfl rfl (Nat.le_of_ble_eq_true rfl) ?_
      rintro _ _ ⟨_, rfl, rfl, rfl⟩
      have hs9 := zs_sit9 (c := k) (p := N i 1) (q := N i 2) (by omega) (by omega)
      refine g_aload_n dX11_eyeFits_61 rfl rfl ?_
      refine g_iload dX11_eyeFits_62 rfl ?_
      refine g_iconst (v := (nI 3)) dX11_eyeFits_64 rfl ?_
      refine g_callV (T := TX5) (NN := 3) [.int (nI (zs_sit k (N i 1) (N i 2)))] (c_val_11 S i 3 (N i 3) (by omega) (by omega) (hM.2.2 i 3 (by omega) (by omega)).1) dX11_eyeFits_65 kk_X11_eyeFits_X5_value ml_RX11_349 mwX5_value ewX5_value (by decide) rfl rfl rfl rfl (Nat.le_of_ble_eq_true rfl) ?_
      rintro _ _ ⟨_, rfl, rfl, rfl⟩
      have vb5 := (hM.2.2 i 3 (by omega) (by omega)).2
      refine g_ic_eqN 73 dX11_eyeFits_68 (by decide) (by omega) (by omega) (fun h6 => ?_) (fun h6 => ?_)
      · refine g_iinc (v := (nI (i + 1))) (lv' := [(4, .int (nI (i + 1))), (5, .int (nI 1)), (3, .ref 11), (0, .ref 0), (1, .int (nI e)), (2, .int (nI k))]) dX11_eyeFits_73 rfl (nI_1 i) (by decide) rfl ?_
        refine g_goto 11 dX11_eyeFits_76 (by decide) ?_
        exact (ih (i + 1) (by omega) (fun q hq he => by
          by_cases e9 : q = i
          · subst e9; omega
          · exact hf q (by omega) he)).lv (zs_mc 0 rfl (zs_mc 2 rfl (zs_mc 3 rfl (zs_mc 4 rfl (zs_mc 5 rfl zs_mn)))))
      · refine g_iconst (v := (nI 0)) dX11_eyeFits_71 rfl ?_
        refine g_iret dX11_eyeFits_72 rfl rfl ?_
        exact ⟨_, rfl, (zs_bf (fun z => absurd (z i (by omega) (by omega)) (by omega))).symm, rfl⟩
set_option maxRecDepth 100000 in
theorem c_eyeFits (S : zs_S) (N : Nat → Nat → Nat) (m e k : Nat) (he4 : e ≤ 4) (hk : k ≤ 5) (hM : zs_hc S 11 N m 4 9) : zs_Ci MX11_eyeFits [.ref 0, .int (nI e), .int (nI k)] S (fun x S2 => x = zs_b (zs_ef N m e k) ∧ S = S2) := by
  refine zs_C.of (by decide) (Nat.le_of_ble_eq_true rfl) ?_
  show zs_P MX11_eyeFits 0 [(0, .ref 0), (1, .int (nI e)), (2, .int (nI k))] [] S _
  refine g_aload_n dX11_eyeFits_0 rfl rfl ?_
  refine g_getR 0 (1) (C := RX11) (T := TX11) (N := 18) dX11_eyeFits_1 (by decide) rfl rfl (by decide) rfl fl_RX11_10 ?_
  refine g_getR 7 (11) (C := RX6) (T := TX6) (N := 9) dX11_eyeFits_4 (by decide) rfl rfl (by decide) rfl fl_RX11_248 ?_
  refine g_astore_n (lv' := [(3, .ref 11), (0, .ref 0), (1, .int (nI e)), (2, .int (nI k))]) dX11_eyeFits_7 rfl (by decide) rfl ?_
  refine g_iconst (v := (nI 0)) dX11_eyeFits_8 rfl ?_
  refine g_istore (lv' := [(4, .int (nI 0)), (3, .ref 11), (0, .ref 0), (1, .int (nI e)), (2, .int (nI k))]) dX11_eyeFits_9 (by decide) rfl ?_
  exact (c_eyeFits_l S N m e k he4 hk hM m 0 (by omega) (fun q hq => absurd hq (Nat.not_lt_zero _))).lv (zs_mc 0 rfl (zs_mc 1 rfl (zs_mc 2 rfl (zs_mc 3 rfl (zs_mc 4 rfl zs_mn)))))
set_option maxRecDepth 100000 in
theorem c_lampKinds_l (S : zs_S) (M : Nat → Nat → Nat) (m : Nat) (hM : zs_hc S 13 M m 3 99) : ∀ (d k : Nat), k + d = 6 → zs_P MX11_lampKinds 4 [(2, .int (nI k)), (1, .int (nI (zs_bits (fun k => zs_lfb M m k) k))), (0, .ref 0)] [] S (fun v S2 => ∃ x, v = some (.int x) ∧ x = nI (zs_ls M m) ∧ S = S2) := by
  intro d
  induction d with
  | zero =>
    intro k hk
    obtain rfl : k = 6 := by omega
    refine g_iload_n dX11_lampKinds_4 rfl rfl ?_
    refine g_bipush (v := (nI 6)) dX11_lampKinds_5 rfl ?_
    refine g_ic_geN 30 dX11_lampKinds_7 (by decide) (by omega) (by omega) (fun _ => ?_) (fun z => absurd z (by omega))
    refine g_iload_n dX11_lampKinds_30 rfl rfl ?_
    refine g_iret dX11_lampKinds_31 rfl rfl ?_
    exact ⟨_, rfl, rfl, rfl⟩
  | succ d ih =>
    intro k hk
    refine g_iload_n dX11_lampKinds_4 rfl rfl ?_
    refine g_bipush (v := (nI 6)) dX11_lampKinds_5 rfl ?_
    refine g_ic_geN 30 dX11_lampKinds_7 (by decide) (by omega) (by omega) (fun z => absurd z (by omega)) (fun _ => ?_)
    refine g_aload_n dX11_lampKinds_10 rfl rfl ?_
    refine g_iload_n dX11_lampKinds_11 rfl rfl ?_
    refine g_callV (T := TX11) (NN := 18) [] (c_lampFits S M m k (by omega) hM) dX11_lampKinds_12 kk_X11_lampKinds_X11_lampFits ml_RX11_365 mwX11_lampFits ewX11_lampFits (by decide) rfl rfl rfl rfl (Nat.le_of_ble_eq_true rfl) ?_
    rintro _ _ ⟨_, rfl, rfl, rfl⟩
    refine g_if_eq 24 dX11_lampKinds_15 (by decide) (fun h1 => ?_) (fun h1 => ?_)
    · have h1 := zs_b0 h1
      refine g_iinc (v := (nI (k + 1))) (lv' := [(2, .int (nI (k + 1))), (1, .int (nI (zs_bits (fun k => zs_lfb M m k) k))), (0, .ref 0)]) dX11_lampKinds_24 rfl (nI_1 k) (by decide) rfl ?_
      refine g_goto 4 dX11_lampKinds_27 (by decide) ?_
      have e9 := zs_bitsF (f := fun k => zs_lfb M m k) (k := k) (fun z => h1 (zs_lfb_iff.mp z))
      have ih := ih (k + 1) (by omega)
      rw [e9] at ih
      exact ih.lv (zs_mc 0 rfl (zs_mc 1 rfl (zs_mc 2 rfl zs_mn)))
    · have h1 := zs_b1 h1
      refine g_iload_n dX11_lampKinds_18 rfl rfl ?_
      refine g_iconst (v := (nI 1)) dX11_lampKinds_19 rfl ?_
      refine g_iload_n dX11_lampKinds_20 rfl rfl ?_
      refine g_ishl dX11_lampKinds_21 ?_
      refine g_ior dX11_lampKinds_22 ?_
      have hb6 := zs_bits_lt (fun k => zs_lfb M m k) k
      have hb7 := zs_b64 (f := fun k => zs_lfb M m k) (k := k) (by omega)
      rw [zs_or1 k (by omega) _ hb6]
      refine g_istore_n (lv' := [(1, .int (nI (zs_bits (fun k => zs_lfb M m k) k + 2 ^ k))), (2, .int (nI k)), (0, .ref 0)]) dX11_lampKinds_23 rfl (by decide) rfl ?_
      refine g_iinc (v := (nI (k + 1))) (lv' := [(2, .int (nI (k + 1))), (1, .int (nI (zs_bits (fun k => zs_lfb M m k) k + 2 ^ k))), (0, .ref 0)]) dX11_lampKinds_24 rfl (nI_1 k) (by decide) rfl ?_
      refine g_goto 4 dX11_lampKinds_27 (by decide) ?_
      have e9 := zs_bitsT (f := fun k => zs_lfb M m k) (k := k) (zs_lfb_iff.mpr h1)
      have ih := ih (k + 1) (by omega)
      rw [e9] at ih
      exact ih.lv (zs_mc 0 rfl (zs_mc 1 rfl (zs_mc 2 rfl zs_mn)))
set_option maxRecDepth 100000 in
theorem c_lampKinds (S : zs_S) (M : Nat → Nat → Nat) (m : Nat) (hM : zs_hc S 13 M m 3 99) : zs_Ci MX11_lampKinds [.ref 0] S (fun x S2 => x = nI (zs_ls M m) ∧ S = S2) := by
  refine zs_C.of (by decide) (Nat.le_of_ble_eq_true rfl) ?_
  show zs_P MX11_lampKinds 0 [(0, .ref 0)] [] S _
  refine g_iconst (v := (nI 0)) dX11_lampKinds_0 rfl ?_
  refine g_istore_n (lv' := [(1, .int (nI 0)), (0, .ref 0)]) dX11_lampKinds_1 rfl (by decide) rfl ?_
  refine g_iconst (v := (nI 0)) dX11_lampKinds_2 rfl ?_
  refine g_istore_n (lv' := [(2, .int (nI 0)), (1, .int (nI 0)), (0, .ref 0)]) dX11_lampKinds_3 rfl (by decide) rfl ?_
  exact (c_lampKinds_l S M m hM 6 0 (by omega)).lv (zs_mc 0 rfl (zs_mc 1 rfl (zs_mc 2 rfl zs_mn)))
set_option maxRecDepth 100000 in
theorem c_kindsX (S : zs_S) (M : Nat → Nat → Nat) (m : Nat) (hM : zs_hc S 13 M m 3 99) : zs_Ci MX11_kinds [.ref 0] S (fun x S2 => x = nI (zs_ls M m) ∧ S = S2) := by
  refine zs_C.of (by decide) (Nat.le_of_ble_eq_true rfl) ?_
  show zs_P MX11_kinds 0 [(0, .ref 0)] [] S _
  refine g_aload_n dX11_kinds_0 rfl rfl ?_
  refine g_callV (T := TX11) (NN := 18) [] (c_lampKinds S M m hM) dX11_kinds_1 kk_X11_kinds_X11_lampKinds ml_RX11_261 mwX11_lampKinds ewX11_lampKinds (by decide) rfl rfl rfl rfl (Nat.le_of_ble_eq_true rfl) ?_
  rintro _ _ ⟨_, rfl, rfl, rfl⟩
  refine g_iret dX11_kinds_4 rfl rfl ?_
  exact ⟨_, rfl, rfl, rfl⟩
set_option maxRecDepth 100000 in
theorem c_eyeKinds_l (S : zs_S) (N : Nat → Nat → Nat) (m e : Nat) (he4 : e ≤ 4) (hM : zs_hc S 11 N m 4 9) : ∀ (d k : Nat), k + d = 6 → zs_P MX11_eyeKinds 4 [(3, .int (nI k)), (2, .int (nI (zs_bits (fun k => zs_efb N m e k) k))), (0, .ref 0), (1, .int (nI e))] [] S (fun v S2 => ∃ x, v = some (.int x) ∧ x = nI (zs_es N m e) ∧ S = S2) := by
  intro d
  induction d with
  | zero =>
    intro k hk
    obtain rfl : k = 6 := by omega
    refine g_iload_n dX11_eyeKinds_4 rfl rfl ?_
    refine g_bipush (v := (nI 6)) dX11_eyeKinds_5 rfl ?_
    refine g_ic_geN 31 dX11_eyeKinds_7 (by decide) (by omega) (by omega) (fun _ => ?_) (fun z => absurd z (by omega))
    refine g_iload_n dX11_eyeKinds_31 rfl rfl ?_
    refine g_iret dX11_eyeKinds_32 rfl rfl ?_
    exact ⟨_, rfl, rfl, rfl⟩
  | succ d ih =>
    intro k hk
    refine g_iload_n dX11_eyeKinds_4 rfl rfl ?_
    refine g_bipush (v := (nI 6)) dX11_eyeKinds_5 rfl ?_
    refine g_ic_geN 31 dX11_eyeKinds_7 (by decide) (by omega) (by omega) (fun z => absurd z (by omega)) (fun _ => ?_)
    refine g_aload_n dX11_eyeKinds_10 rfl rfl ?_
    refine g_iload_n dX11_eyeKinds_11 rfl rfl ?_
    refine g_iload_n dX11_eyeKinds_12 rfl rfl ?_
    refine g_callV (T := TX11) (NN := 18) [] (c_eyeFits S N m e k he4 (by omega) hM) dX11_eyeKinds_13 kk_X11_eyeKinds_X11_eyeFits ml_RX11_345 mwX11_eyeFits ewX11_eyeFits (by decide) rfl rfl rfl rfl (Nat.le_of_ble_eq_true rfl) ?_
    rintro _ _ ⟨_, rfl, rfl, rfl⟩
    refine g_if_eq 25 dX11_eyeKinds_16 (by decide) (fun h1 => ?_) (fun h1 => ?_)
    · have h1 := zs_b0 h1
      refine g_iinc (v := (nI (k + 1))) (lv' := [(3, .int (nI (k + 1))), (2, .int (nI (zs_bits (fun k => zs_efb N m e k) k))), (0, .ref 0), (1, .int (nI e))]) dX11_eyeKinds_25 rfl (nI_1 k) (by decide) rfl ?_
      refine g_goto 4 dX11_eyeKinds_28 (by decide) ?_
      have e9 := zs_bitsF (f := fun k => zs_efb N m e k) (k := k) (fun z => h1 (zs_efb_iff.mp z))
      have ih := ih (k + 1) (by omega)
      rw [e9] at ih
      exact ih.lv (zs_mc 0 rfl (zs_mc 1 rfl (zs_mc 2 rfl (zs_mc 3 rfl zs_mn))))
    · have h1 := zs_b1 h1
      refine g_iload_n dX11_eyeKinds_19 rfl rfl ?_
      refine g_iconst (v := (nI 1)) dX11_eyeKinds_20 rfl ?_
      refine g_iload_n dX11_eyeKinds_21 rfl rfl ?_
      refine g_ishl dX11_eyeKinds_22 ?_
      refine g_ior dX11_eyeKinds_23 ?_
      have hb6 := zs_bits_lt (fun k => zs_efb N m e k) k
      have hb7 := zs_b64 (f := fun k => zs_efb N m e k) (k := k) (by omega)
      rw [zs_or1 k (by omega) _ hb6]
      refine g_istore_n (lv' := [(2, .int (nI (zs_bits (fun k => zs_efb N m e k) k + 2 ^ k))), (3, .int (nI k)), (0, .ref 0), (1, .int (nI e))]) dX11_eyeKinds_24 rfl (by decide) rfl ?_
      refine g_iinc (v := (nI (k + 1))) (lv' := [(3, .int (nI (k + 1))), (2, .int (nI (zs_bits (fun k => zs_efb N m e k) k + 2 ^ k))), (0, .ref 0), (1, .int (nI e))]) dX11_eyeKinds_25 rfl (nI_1 k) (by decide) rfl ?_
      refine g_goto 4 dX11_eyeKinds_28 (by decide) ?_
      have e9 := zs_bitsT (f := fun k => zs_efb N m e k) (k := k) (zs_efb_iff.mpr h1)
      have ih := ih (k + 1) (by omega)
      rw [e9] at ih
      exact ih.lv (zs_mc 0 rfl (zs_mc 1 rfl (zs_mc 2 rfl (zs_mc 3 rfl zs_mn))))
set_option maxRecDepth 100000 in
theorem c_eyeKinds (S : zs_S) (N : Nat → Nat → Nat) (m e : Nat) (he4 : e ≤ 4) (hM : zs_hc S 11 N m 4 9) : zs_Ci MX11_eyeKinds [.ref 0, .int (nI e)] S (fun x S2 => x = nI (zs_es N m e) ∧ S = S2) := by
  refine zs_C.of (by decide) (Nat.le_of_ble_eq_true rfl) ?_
  show zs_P MX11_eyeKinds 0 [(0, .ref 0), (1, .int (nI e))] [] S _
  refine g_iconst (v := (nI 0)) dX11_eyeKinds_0 rfl ?_
  refine g_istore_n (lv' := [(2, .int (nI 0)), (0, .ref 0), (1, .int (nI e))]) dX11_eyeKinds_1 rfl (by decide) rfl ?_
  refine g_iconst (v := (nI 0)) dX11_eyeKinds_2 rfl ?_
  refine g_istore_n (lv' := [(3, .int (nI 0)), (2, .int (nI 0)), (0, .ref 0), (1, .int (nI e))]) dX11_eyeKinds_3 rfl (by decide) rfl ?_
  exact (c_eyeKinds_l S N m e he4 hM 6 0 (by omega)).lv (zs_mc 0 rfl (zs_mc 1 rfl (zs_mc 2 rfl (zs_mc 3 rfl zs_mn))))
