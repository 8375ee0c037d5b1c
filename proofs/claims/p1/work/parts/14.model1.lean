/-- the model's cells are as its constructor leaves them -/
def zs_F1 (S : zs_S) : Prop := ∀ a, 80 ≤ a ∧ a < 90 → S.1 a = zs_i0 a ∧ S.2 a = zs_l0 a
theorem zs_inI {v : Int32} {lo hi : Nat} (h1 : lo < 2 ^ 31) (h2 : hi < 2 ^ 31) : (lN lo ≤ v.toInt64 ∧ v.toInt64 ≤ lN hi) = (nI lo ≤ v ∧ v ≤ nI hi) := by
  rw [Int64.le_iff_toInt_le, Int64.le_iff_toInt_le, Int32.le_iff_toInt_le, Int32.le_iff_toInt_le, lN_toInt h1, lN_toInt h2, nI_toInt h1, nI_toInt h2, Int32.toInt_toInt64]
set_option maxRecDepth 100000 in
theorem z_inL (S : zs_S) (v lo hi : Int64) : zs_Ci MX12_in [.long v, .long lo, .long hi] S (fun x S2 => x = zs_b (lo ≤ v ∧ v ≤ hi) ∧ S = S2) := by
  refine zs_C.of (by decide) (Nat.le_of_ble_eq_true rfl) ?_
  show zs_P MX12_in 0 [(0, .long v), (2, .long lo), (4, .long hi)] [] S _
  refine g_lload_n dX12_in_0 rfl rfl ?_
  refine g_lload_n dX12_in_1 rfl rfl ?_
  refine g_lcmp dX12_in_2 ?_
  refine g_if_lt 17 dX12_in_3 (by decide) (fun h1 => ?_) (fun h1 => ?_)
  · refine g_iconst (v := (nI 0)) dX12_in_17 rfl ?_
    refine g_iret dX12_in_18 rfl rfl ?_
    exact ⟨_, rfl, (zs_bf (fun q => absurd q.1 (Int64.not_le.mpr ((lg_cmp_lt _ _).mp h1)))).symm, rfl⟩
  · refine g_lload_n dX12_in_6 rfl rfl ?_
    refine g_lload dX12_in_7 rfl ?_
    refine g_lcmp dX12_in_9 ?_
    refine g_if_gt 17 dX12_in_10 (by decide) (fun h2 => ?_) (fun h2 => ?_)
    · refine g_iconst (v := (nI 0)) dX12_in_17 rfl ?_
      refine g_iret dX12_in_18 rfl rfl ?_
      exact ⟨_, rfl, (zs_bf (fun q => absurd q.2 (Int64.not_le.mpr ((lg_cmp_gt _ _).mp h2)))).symm, rfl⟩
    · refine g_iconst (v := (nI 1)) dX12_in_13 rfl ?_
      refine g_goto 18 dX12_in_14 (by decide) ?_
      refine g_iret dX12_in_18 rfl rfl ?_
      exact ⟨_, rfl, (zs_bt ⟨Int64.not_lt.mp (mt (lg_cmp_lt _ _).mpr h1), Int64.not_lt.mp (mt (lg_cmp_gt _ _).mpr h2)⟩).symm, rfl⟩
theorem z_in (S : zs_S) (v : Int32) (lo hi : Nat) (h1 : lo < 2 ^ 31) (h2 : hi < 2 ^ 31) : zs_Ci MX12_in [.long v.toInt64, .long (lN lo), .long (lN hi)] S (fun x S2 => x = zs_b (nI lo ≤ v ∧ v ≤ nI hi) ∧ S = S2) := (z_inL S v.toInt64 (lN lo) (lN hi)).mono (by
  rintro _ _ ⟨x, rfl, rfl, rfl⟩
  exact ⟨_, rfl, congrArg zs_b (zs_inI h1 h2), rfl⟩)
set_option maxRecDepth 100000 in
theorem z_bad (S : zs_S)  : zs_Ci MX12_bad [.ref 80] S (fun x _ => x = (-2)) := by
  refine zs_C.of (by decide) (Nat.le_of_ble_eq_true rfl) ?_
  show zs_P MX12_bad 0 [(0, .ref 80)] [] S _
  refine g_aload_n dX12_bad_0 rfl rfl ?_
  refine g_getR 14 (85) (C := RX12) (T := TX12) (N := 19) dX12_bad_1 (by decide) rfl rfl (by decide) rfl fl_RX12_27 ?_
  refine g_iconst (v := (nI 0)) dX12_bad_4 rfl ?_
  refine g_dup2 dX12_bad_5 rfl rfl ?_
  refine g_ialdN (v := (S.1 85 0)) dX12_bad_6 (by decide) rfl (by omega) (by decide) rfl ?_
  refine g_iconst (v := (nI 1)) dX12_bad_7 rfl ?_
  refine g_iadd dX12_bad_8 ?_
  refine g_iastN dX12_bad_9 (by decide) rfl (by omega) (by decide) ?_
  refine g_bipush (v := (-2)) dX12_bad_10 rfl ?_
  refine g_iret dX12_bad_12 rfl rfl ?_
  exact ⟨_, rfl, rfl⟩
set_option maxRecDepth 100000 in
theorem z_no (S : zs_S)  : zs_Ci MX12_no [.ref 80] S (fun x _ => x = (-3)) := by
  refine zs_C.of (by decide) (Nat.le_of_ble_eq_true rfl) ?_
  show zs_P MX12_no 0 [(0, .ref 80)] [] S _
  refine g_aload_n dX12_no_0 rfl rfl ?_
  refine g_getR 14 (85) (C := RX12) (T := TX12) (N := 19) dX12_no_1 (by decide) rfl rfl (by decide) rfl fl_RX12_27 ?_
  refine g_iconst (v := (nI 1)) dX12_no_4 rfl ?_
  refine g_dup2 dX12_no_5 rfl rfl ?_
  refine g_ialdN (v := (S.1 85 1)) dX12_no_6 (by decide) rfl (by omega) (by decide) rfl ?_
  refine g_iconst (v := (nI 1)) dX12_no_7 rfl ?_
  refine g_iadd dX12_no_8 ?_
  refine g_iastN dX12_no_9 (by decide) rfl (by omega) (by decide) ?_
  refine g_bipush (v := (-3)) dX12_no_10 rfl ?_
  refine g_iret dX12_no_12 rfl rfl ?_
  exact ⟨_, rfl, rfl⟩
set_option maxRecDepth 100000 in
theorem z_full (S : zs_S)  : zs_Ci MX12_full [.ref 80] S (fun x _ => x = (-4)) := by
  refine zs_C.of (by decide) (Nat.le_of_ble_eq_true rfl) ?_
  show zs_P MX12_full 0 [(0, .ref 80)] [] S _
  refine g_aload_n dX12_full_0 rfl rfl ?_
  refine g_getR 14 (85) (C := RX12) (T := TX12) (N := 19) dX12_full_1 (by decide) rfl rfl (by decide) rfl fl_RX12_27 ?_
  refine g_iconst (v := (nI 2)) dX12_full_4 rfl ?_
  refine g_dup2 dX12_full_5 rfl rfl ?_
  refine g_ialdN (v := (S.1 85 2)) dX12_full_6 (by decide) rfl (by omega) (by decide) rfl ?_
  refine g_iconst (v := (nI 1)) dX12_full_7 rfl ?_
  refine g_iadd dX12_full_8 ?_
  refine g_iastN dX12_full_9 (by decide) rfl (by omega) (by decide) ?_
  refine g_bipush (v := (-4)) dX12_full_10 rfl ?_
  refine g_iret dX12_full_12 rfl rfl ?_
  exact ⟨_, rfl, rfl⟩
set_option maxRecDepth 100000 in
theorem z_bad10 (S : zs_S)  : zs_Ci MX12_bad10 [.ref 80] S (fun x _ => x = (-10)) := by
  refine zs_C.of (by decide) (Nat.le_of_ble_eq_true rfl) ?_
  show zs_P MX12_bad10 0 [(0, .ref 80)] [] S _
  refine g_aload_n dX12_bad10_0 rfl rfl ?_
  refine g_getR 14 (85) (C := RX12) (T := TX12) (N := 19) dX12_bad10_1 (by decide) rfl rfl (by decide) rfl fl_RX12_27 ?_
  refine g_iconst (v := (nI 0)) dX12_bad10_4 rfl ?_
  refine g_dup2 dX12_bad10_5 rfl rfl ?_
  refine g_ialdN (v := (S.1 85 0)) dX12_bad10_6 (by decide) rfl (by omega) (by decide) rfl ?_
  refine g_iconst (v := (nI 1)) dX12_bad10_7 rfl ?_
  refine g_iadd dX12_bad10_8 ?_
  refine g_iastN dX12_bad10_9 (by decide) rfl (by omega) (by decide) ?_
  refine g_bipush (v := (-10)) dX12_bad10_10 rfl ?_
  refine g_iret dX12_bad10_12 rfl rfl ?_
  exact ⟨_, rfl, rfl⟩
theorem z_isEye0 (S : zs_S) (v : Int32) (h : S.1 82 2 = nI 0) : zs_Ci MX12_isEye [.ref 80, .int v] S (fun x S2 => x = nI 0 ∧ S = S2) := by
  refine zs_C.of (by decide) (Nat.le_of_ble_eq_true rfl) ?_
  show zs_P MX12_isEye 0 [(0, .ref 80), (1, .int v)] [] S _
  refine g_iload_n dX12_isEye_0 rfl rfl ?_
  refine g_i2l dX12_isEye_1 rfl ?_
  refine g_lconst (v := 0) dX12_isEye_2 (by decide) ?_
  refine g_aload_n dX12_isEye_3 rfl rfl ?_
  refine g_getR 1 (82) (C := RX12) (T := TX12) (N := 19) dX12_isEye_4 (by decide) rfl rfl (by decide) rfl fl_RX12_13 ?_
  refine g_iconst (v := (nI 2)) dX12_isEye_7 rfl ?_
  refine g_ialdN (v := (nI 0)) dX12_isEye_8 (by decide) rfl (by omega) (by decide) h ?_
  refine g_iconst (v := (nI 1)) dX12_isEye_9 rfl ?_
  refine g_isub dX12_isEye_10 ?_
  refine g_i2l dX12_isEye_11 rfl ?_
  refine g_callS [.long v.toInt64, .long 0, .long (nI 0 - nI 1).toInt64] [] (z_inL S v.toInt64 0 (nI 0 - nI 1).toInt64) dX12_isEye_12 kk_X12_isEye_X12_in ml_RX12_54 swX12_in rfl rfl (Nat.le_of_ble_eq_true rfl) ?_
  rintro _ _ ⟨_, rfl, rfl, rfl⟩
  refine g_iret dX12_isEye_15 rfl zs_bn ?_
  refine ⟨_, rfl, zs_bf (fun q => ?_), rfl⟩
  obtain ⟨q1, q2⟩ := q
  rw [Int64.le_iff_toInt_le] at q1 q2
  have e1 : (0 : Int64).toInt = 0 := rfl
  have e2 : ((nI 0 - nI 1).toInt64).toInt = -1 := by decide
  omega
set_option maxRecDepth 100000 in
theorem z_isFrame (S : zs_S) (v : Int32) (F : zs_F1 S) : zs_Ci MX12_isFrame [.ref 80, .int v] S (fun x S2 => x = zs_b (nI 0 ≤ v ∧ v ≤ nI 1) ∧ S = S2) := by
  refine zs_C.of (by decide) (Nat.le_of_ble_eq_true rfl) ?_
  show zs_P MX12_isFrame 0 [(0, .ref 80), (1, .int v)] [] S _
  refine g_iload_n dX12_isFrame_0 rfl rfl ?_
  refine g_i2l dX12_isFrame_1 rfl ?_
  refine g_lconst (v := 0) dX12_isFrame_2 (by decide) ?_
  refine g_aload_n dX12_isFrame_3 rfl rfl ?_
  refine g_getR 1 (82) (C := RX12) (T := TX12) (N := 19) dX12_isFrame_4 (by decide) rfl rfl (by decide) rfl fl_RX12_13 ?_
  refine g_iconst (v := (nI 0)) dX12_isFrame_7 rfl ?_
  refine g_ialdN (v := (nI 2)) dX12_isFrame_8 (by decide) rfl (by omega) (by decide) (congrFun (F 82 (by decide)).1 0) ?_
  refine g_iconst (v := (nI 1)) dX12_isFrame_9 rfl ?_
  refine g_isubN dX12_isFrame_10 (by omega) ?_
  refine g_i2l dX12_isFrame_11 rfl ?_
  refine g_callS [.long (Int32.toInt64 v), .long 0, .long (Int32.toInt64 (nI 1))] [] (z_in S v 0 1 (by decide) (by decide)) dX12_isFrame_12 kk_X12_isFrame_X12_in ml_RX12_54 swX12_in rfl rfl (Nat.le_of_ble_eq_true rfl) ?_
  rintro _ _ ⟨_, rfl, rfl, rfl⟩
  refine g_iret dX12_isFrame_15 rfl zs_bn ?_
  exact ⟨_, rfl, rfl, rfl⟩
set_option maxRecDepth 100000 in
theorem z_beg1 (n c t : Int32) (Q : Option Value → zs_S → Prop) (hk : ∀ S, zs_P MX12_begins 24 [(4, .int (nI 25)), (0, .ref 80), (1, .int n), (2, .int c), (3, .int t)] [] S Q) : ∀ (d i : Nat), i + d = 25 → ∀ S, zs_P MX12_begins 3 [(4, .int (nI i)), (0, .ref 80), (1, .int n), (2, .int c), (3, .int t)] [] S Q := by
  intro d
  induction d with
  | zero =>
    intro i hi S
    obtain rfl : i = 25 := by omega
    refine g_iload dX12_begins_3 rfl ?_
    refine g_bipush (v := (nI 25)) dX12_begins_5 rfl ?_
    refine g_ic_geN 24 dX12_begins_7 (by decide) (by omega) (by omega) (fun _ => ?_) (fun z => absurd z (by omega))
    exact hk S
  | succ d ih =>
    intro i hi S
    refine g_iload dX12_begins_3 rfl ?_
    refine g_bipush (v := (nI 25)) dX12_begins_5 rfl ?_
    refine g_ic_geN 24 dX12_begins_7 (by decide) (by omega) (by omega) (fun z => absurd z (by omega)) (fun _ => ?_)
    refine g_aload_n dX12_begins_10 rfl rfl ?_
    refine g_getR 0 (81) (C := RX12) (T := TX12) (N := 19) dX12_begins_11 (by decide) rfl rfl (by decide) rfl fl_RX12_7 ?_
    refine g_iload dX12_begins_14 rfl ?_
    refine g_iconst (v := (nI 0)) dX12_begins_16 rfl ?_
    refine g_iastN dX12_begins_17 (by decide) rfl (by omega) (by decide) ?_
    refine g_iinc (v := (nI (i + 1))) (lv' := [(4, .int (nI (i + 1))), (0, .ref 80), (1, .int n), (2, .int c), (3, .int t)]) dX12_begins_18 rfl (nI_1 i) (by decide) rfl ?_
    refine g_goto 3 dX12_begins_21 (by decide) ?_
    exact ih (i + 1) (by omega) _
set_option maxRecDepth 100000 in
theorem z_beg2 (n c t : Int32) (Q : Option Value → zs_S → Prop) (hk : ∀ S, zs_P MX12_begins 48 [(4, .int (nI 66)), (0, .ref 80), (1, .int n), (2, .int c), (3, .int t)] [] S Q) : ∀ (d i : Nat), i + d = 66 → ∀ S, zs_P MX12_begins 27 [(4, .int (nI i)), (0, .ref 80), (1, .int n), (2, .int c), (3, .int t)] [] S Q := by
  intro d
  induction d with
  | zero =>
    intro i hi S
    obtain rfl : i = 66 := by omega
    refine g_iload dX12_begins_27 rfl ?_
    refine g_bipush (v := (nI 66)) dX12_begins_29 rfl ?_
    refine g_ic_geN 48 dX12_begins_31 (by decide) (by omega) (by omega) (fun _ => ?_) (fun z => absurd z (by omega))
    exact hk S
  | succ d ih =>
    intro i hi S
    refine g_iload dX12_begins_27 rfl ?_
    refine g_bipush (v := (nI 66)) dX12_begins_29 rfl ?_
    refine g_ic_geN 48 dX12_begins_31 (by decide) (by omega) (by omega) (fun z => absurd z (by omega)) (fun _ => ?_)
    refine g_aload_n dX12_begins_34 rfl rfl ?_
    refine g_getR 1 (82) (C := RX12) (T := TX12) (N := 19) dX12_begins_35 (by decide) rfl rfl (by decide) rfl fl_RX12_13 ?_
    refine g_iload dX12_begins_38 rfl ?_
    refine g_iconst (v := (nI 0)) dX12_begins_40 rfl ?_
    refine g_iastN dX12_begins_41 (by decide) rfl (by omega) (by decide) ?_
    refine g_iinc (v := (nI (i + 1))) (lv' := [(4, .int (nI (i + 1))), (0, .ref 80), (1, .int n), (2, .int c), (3, .int t)]) dX12_begins_42 rfl (nI_1 i) (by decide) rfl ?_
    refine g_goto 27 dX12_begins_45 (by decide) ?_
    exact ih (i + 1) (by omega) _
set_option maxRecDepth 100000 in
theorem z_begins (S : zs_S) (n c t : Int32) : zs_Cv MX12_begins [.ref 80, .int n, .int c, .int t] S (fun _ => True) := by
  refine zs_C.of (by decide) (Nat.le_of_ble_eq_true rfl) ?_
  show zs_P MX12_begins 0 [(0, .ref 80), (1, .int n), (2, .int c), (3, .int t)] [] S _
  refine g_iconst (v := (nI 0)) dX12_begins_0 rfl ?_
  refine g_istore (lv' := [(4, .int (nI 0)), (0, .ref 80), (1, .int n), (2, .int c), (3, .int t)]) dX12_begins_1 (by decide) rfl ?_
  refine z_beg1 n c t _ (fun S1 => ?_) 25 0 (by omega) _
  refine g_iconst (v := (nI 0)) dX12_begins_24 rfl ?_
  refine g_istore (lv' := [(4, .int (nI 0)), (0, .ref 80), (1, .int n), (2, .int c), (3, .int t)]) dX12_begins_25 (by decide) rfl ?_
  refine z_beg2 n c t _ (fun S2 => ?_) 66 0 (by omega) _
  refine g_aload_n dX12_begins_48 rfl rfl ?_
  refine g_getR 1 (82) (C := RX12) (T := TX12) (N := 19) dX12_begins_49 (by decide) rfl rfl (by decide) rfl fl_RX12_13 ?_
  refine g_iconst (v := (nI 0)) dX12_begins_52 rfl ?_
  refine g_iload_n dX12_begins_53 rfl rfl ?_
  refine g_iastN dX12_begins_54 (by decide) rfl (by omega) (by decide) ?_
  refine g_aload_n dX12_begins_55 rfl rfl ?_
  refine g_getR 1 (82) (C := RX12) (T := TX12) (N := 19) dX12_begins_56 (by decide) rfl rfl (by decide) rfl fl_RX12_13 ?_
  refine g_iconst (v := (nI 1)) dX12_begins_59 rfl ?_
  refine g_iload_n dX12_begins_60 rfl rfl ?_
  refine g_iastN dX12_begins_61 (by decide) rfl (by omega) (by decide) ?_
  refine g_aload_n dX12_begins_62 rfl rfl ?_
  refine g_getR 0 (81) (C := RX12) (T := TX12) (N := 19) dX12_begins_63 (by decide) rfl rfl (by decide) rfl fl_RX12_7 ?_
  refine g_iconst (v := (nI 2)) dX12_begins_66 rfl ?_
  refine g_iload_n dX12_begins_67 rfl rfl ?_
  refine g_iastN dX12_begins_68 (by decide) rfl (by omega) (by decide) ?_
  refine g_ret dX12_begins_69 rfl ?_
  exact ⟨rfl, trivial⟩
set_option maxRecDepth 100000 in
theorem w_drum (S : zs_S) (F : zs_F1 S) (n c t : Int32) : zs_Ci MX12_drum [.ref 80, .int n, .int c, .int t] S (fun x _ => x = zs_if ((nI 2 ≤ n ∧ n ≤ nI 12) ∧ (nI 0 ≤ c ∧ c ≤ nI 5) ∧ (nI 0 ≤ t ∧ t ≤ nI 11)) (nI 0) (-2)) := by
  refine zs_C.of (by decide) (Nat.le_of_ble_eq_true rfl) ?_
  show zs_P MX12_drum 0 [(0, .ref 80), (1, .int n), (2, .int c), (3, .int t)] [] S _
  refine g_iload_n dX12_drum_0 rfl rfl ?_
  refine g_i2l dX12_drum_1 rfl ?_
  refine g_ldc2 (v := 2) dX12_drum_2 cl_RX12_50 ?_
  refine g_ldc2 (v := 12) dX12_drum_5 cl_RX12_52 ?_
  refine g_callS [.long (Int32.toInt64 n), .long 2, .long 12] [] (z_in S n 2 12 (by decide) (by decide)) dX12_drum_8 kk_X12_drum_X12_in ml_RX12_54 swX12_in rfl rfl (Nat.le_of_ble_eq_true rfl) ?_
  rintro _ _ ⟨_, rfl, rfl, rfl⟩
  refine g_if_eq 38 dX12_drum_11 (by decide) (fun h1 => ?_) (fun h1 => ?_)
  · have h1 := zs_b0 h1
    refine g_aload_n dX12_drum_38 rfl rfl ?_
    refine g_callV (T := TX12) (NN := 19) [] (z_bad S) dX12_drum_39 kk_X12_drum_X12_bad ml_RX12_62 mwX12_bad ewX12_bad (by decide) rfl rfl rfl rfl (Nat.le_of_ble_eq_true rfl) ?_
    rintro _ S2 ⟨_, rfl, rfl⟩
    refine g_iret dX12_drum_42 rfl rfl ?_
    exact ⟨_, rfl, (zs_ie (fun q => h1 q.1)).symm⟩
  · have h1 := zs_b1 h1
    obtain ⟨n', n'a, n'b, rfl⟩ := zs_rng h1 (by omega)
    refine g_iload_n dX12_drum_14 rfl rfl ?_
    refine g_i2l dX12_drum_15 rfl ?_
    refine g_lconst (v := 0) dX12_drum_16 (by decide) ?_
    refine g_ldc2 (v := 5) dX12_drum_17 cl_RX12_58 ?_
    refine g_callS [.long (Int32.toInt64 c), .long 0, .long 5] [] (z_in S c 0 5 (by decide) (by decide)) dX12_drum_20 kk_X12_drum_X12_in ml_RX12_54 swX12_in rfl rfl (Nat.le_of_ble_eq_true rfl) ?_
    rintro _ _ ⟨_, rfl, rfl, rfl⟩
    refine g_if_eq 38 dX12_drum_23 (by decide) (fun h3 => ?_) (fun h3 => ?_)
    · have h3 := zs_b0 h3
      refine g_aload_n dX12_drum_38 rfl rfl ?_
      refine g_callV (T := TX12) (NN := 19) [] (z_bad S) dX12_drum_39 kk_X12_drum_X12_bad ml_RX12_62 mwX12_bad ewX12_bad (by decide) rfl rfl rfl rfl (Nat.le_of_ble_eq_true rfl) ?_
      rintro _ S4 ⟨_, rfl, rfl⟩
      refine g_iret dX12_drum_42 rfl rfl ?_
      exact ⟨_, rfl, (zs_ie (fun q => h3 q.2.1)).symm⟩
    · have h3 := zs_b1 h3
      obtain ⟨c', c'a, c'b, rfl⟩ := zs_rng h3 (by omega)
      refine g_iload_n dX12_drum_26 rfl rfl ?_
      refine g_i2l dX12_drum_27 rfl ?_
      refine g_lconst (v := 0) dX12_drum_28 (by decide) ?_
      refine g_ldc2 (v := 11) dX12_drum_29 cl_RX12_60 ?_
      refine g_callS [.long (Int32.toInt64 t), .long 0, .long 11] [] (z_in S t 0 11 (by decide) (by decide)) dX12_drum_32 kk_X12_drum_X12_in ml_RX12_54 swX12_in rfl rfl (Nat.le_of_ble_eq_true rfl) ?_
      rintro _ _ ⟨_, rfl, rfl, rfl⟩
      refine g_if_ne 43 dX12_drum_35 (by decide) (fun h5 => ?_) (fun h5 => ?_)
      · have h5 := zs_b1 h5
        obtain ⟨t', t'a, t'b, rfl⟩ := zs_rng h5 (by omega)
        refine g_aload_n dX12_drum_43 rfl rfl ?_
        refine g_getR 1 (82) (C := RX12) (T := TX12) (N := 19) dX12_drum_44 (by decide) rfl rfl (by decide) rfl fl_RX12_13 ?_
        refine g_iconst (v := (nI 2)) dX12_drum_47 rfl ?_
        refine g_ialdN (v := (nI 0)) dX12_drum_48 (by decide) rfl (by omega) (by decide) (congrFun (F 82 (by decide)).1 2) ?_
        refine g_istore (lv' := [(4, .int (nI 0)), (0, .ref 80), (1, .int (nI n')), (2, .int (nI c')), (3, .int (nI t'))]) dX12_drum_49 (by decide) rfl ?_
        refine g_aload_n dX12_drum_51 rfl rfl ?_
        refine g_iload_n dX12_drum_52 rfl rfl ?_
        refine g_iload_n dX12_drum_53 rfl rfl ?_
        refine g_iload_n dX12_drum_54 rfl rfl ?_
        refine g_callV (T := TX12) (NN := 19) [] (z_begins S (nI n') (nI c') (nI t')) dX12_drum_55 kk_X12_drum_X12_begins ml_RX12_42 mwX12_begins ewX12_begins (by decide) rfl rfl rfl rfl (Nat.le_of_ble_eq_true rfl) ?_
        rintro _ S9 ⟨rfl, -⟩
        refine g_iload dX12_drum_58 rfl ?_
        refine g_iret dX12_drum_60 rfl rfl ?_
        exact ⟨_, rfl, (zs_it ⟨h1, h3, h5⟩).symm⟩
      · have h5 := zs_b0 h5
        refine g_aload_n dX12_drum_38 rfl rfl ?_
        refine g_callV (T := TX12) (NN := 19) [] (z_bad S) dX12_drum_39 kk_X12_drum_X12_bad ml_RX12_62 mwX12_bad ewX12_bad (by decide) rfl rfl rfl rfl (Nat.le_of_ble_eq_true rfl) ?_
        rintro _ S6 ⟨_, rfl, rfl⟩
        refine g_iret dX12_drum_42 rfl rfl ?_
        exact ⟨_, rfl, (zs_ie (fun q => h5 q.2.2)).symm⟩
set_option maxRecDepth 100000 in
theorem w_lamp (S : zs_S) (F : zs_F1 S) (c : Int32) : zs_Ci MX12_lamp [.ref 80, .int c] S (fun x _ => x = zs_if (nI 0 ≤ c ∧ c ≤ nI 5) (nI 0) (-2)) := by
  refine zs_C.of (by decide) (Nat.le_of_ble_eq_true rfl) ?_
  show zs_P MX12_lamp 0 [(0, .ref 80), (1, .int c)] [] S _
  refine g_iload_n dX12_lamp_0 rfl rfl ?_
  refine g_i2l dX12_lamp_1 rfl ?_
  refine g_lconst (v := 0) dX12_lamp_2 (by decide) ?_
  refine g_ldc2 (v := 5) dX12_lamp_3 cl_RX12_58 ?_
  refine g_callS [.long (Int32.toInt64 c), .long 0, .long 5] [] (z_in S c 0 5 (by decide) (by decide)) dX12_lamp_6 kk_X12_lamp_X12_in ml_RX12_54 swX12_in rfl rfl (Nat.le_of_ble_eq_true rfl) ?_
  rintro _ _ ⟨_, rfl, rfl, rfl⟩
  refine g_if_ne 17 dX12_lamp_9 (by decide) (fun h1 => ?_) (fun h1 => ?_)
  · have h1 := zs_b1 h1
    obtain ⟨c', c'a, c'b, rfl⟩ := zs_rng h1 (by omega)
    refine g_aload_n dX12_lamp_17 rfl rfl ?_
    refine g_getR 1 (82) (C := RX12) (T := TX12) (N := 19) dX12_lamp_18 (by decide) rfl rfl (by decide) rfl fl_RX12_13 ?_
    refine g_iconst (v := (nI 1)) dX12_lamp_21 rfl ?_
    refine g_ialdN (v := (nI 0)) dX12_lamp_22 (by decide) rfl (by omega) (by decide) (congrFun (F 82 (by decide)).1 1) ?_
    refine g_istore_n (lv' := [(2, .int (nI 0)), (0, .ref 80), (1, .int (nI c'))]) dX12_lamp_23 rfl (by decide) rfl ?_
    refine g_aload_n dX12_lamp_24 rfl rfl ?_
    refine g_getR 1 (82) (C := RX12) (T := TX12) (N := 19) dX12_lamp_25 (by decide) rfl rfl (by decide) rfl fl_RX12_13 ?_
    refine g_iconst (v := (nI 1)) dX12_lamp_28 rfl ?_
    refine g_iload_n dX12_lamp_29 rfl rfl ?_
    refine g_iastN dX12_lamp_30 (by decide) rfl (by omega) (by decide) ?_
    refine g_aload_n dX12_lamp_31 rfl rfl ?_
    refine g_getR 1 (82) (C := RX12) (T := TX12) (N := 19) dX12_lamp_32 (by decide) rfl rfl (by decide) rfl fl_RX12_13 ?_
    refine g_bipush (v := (nI 65)) dX12_lamp_35 rfl ?_
    refine g_iconst (v := (nI 0)) dX12_lamp_37 rfl ?_
    refine g_iastN dX12_lamp_38 (by decide) rfl (by omega) (by decide) ?_
    refine g_iload_n dX12_lamp_39 rfl rfl ?_
    refine g_iret dX12_lamp_40 rfl rfl ?_
    exact ⟨_, rfl, (zs_it h1).symm⟩
  · have h1 := zs_b0 h1
    refine g_aload_n dX12_lamp_12 rfl rfl ?_
    refine g_callV (T := TX12) (NN := 19) [] (z_bad S) dX12_lamp_13 kk_X12_lamp_X12_bad ml_RX12_62 mwX12_bad ewX12_bad (by decide) rfl rfl rfl rfl (Nat.le_of_ble_eq_true rfl) ?_
    rintro _ S2 ⟨_, rfl, rfl⟩
    refine g_iret dX12_lamp_16 rfl rfl ?_
    exact ⟨_, rfl, (zs_ie (fun q => h1 q)).symm⟩
set_option maxRecDepth 100000 in
theorem z_comes (S : zs_S) (F : zs_F1 S) (c : Int32) : zs_Ci MX12_comes [.ref 80, .int c] S (fun x _ => x = nI 0) := by
  refine zs_C.of (by decide) (Nat.le_of_ble_eq_true rfl) ?_
  show zs_P MX12_comes 0 [(0, .ref 80), (1, .int c)] [] S _
  refine g_aload_n dX12_comes_0 rfl rfl ?_
  refine g_getR 1 (82) (C := RX12) (T := TX12) (N := 19) dX12_comes_1 (by decide) rfl rfl (by decide) rfl fl_RX12_13 ?_
  refine g_iconst (v := (nI 2)) dX12_comes_4 rfl ?_
  refine g_ialdN (v := (nI 0)) dX12_comes_5 (by decide) rfl (by omega) (by decide) (congrFun (F 82 (by decide)).1 2) ?_
  refine g_istore_n (lv' := [(2, .int (nI 0)), (0, .ref 80), (1, .int c)]) dX12_comes_6 rfl (by decide) rfl ?_
  refine g_aload_n dX12_comes_7 rfl rfl ?_
  refine g_getR 1 (82) (C := RX12) (T := TX12) (N := 19) dX12_comes_8 (by decide) rfl rfl (by decide) rfl fl_RX12_13 ?_
  refine g_iconst (v := (nI 3)) dX12_comes_11 rfl ?_
  refine g_iload_n dX12_comes_12 rfl rfl ?_
  refine g_iaddN dX12_comes_13 ?_
  refine g_iload_n dX12_comes_14 rfl rfl ?_
  refine g_iastN dX12_comes_15 (by decide) rfl (by omega) (by decide) ?_
  refine g_aload_n dX12_comes_16 rfl rfl ?_
  refine g_getR 0 (81) (C := RX12) (T := TX12) (N := 19) dX12_comes_17 (by decide) rfl rfl (by decide) rfl fl_RX12_7 ?_
  refine g_bipush (v := (nI 15)) dX12_comes_20 rfl ?_
  refine g_iload_n dX12_comes_22 rfl rfl ?_
  refine g_iaddN dX12_comes_23 ?_
  refine g_iconst (v := (nI 0)) dX12_comes_24 rfl ?_
  refine g_iastN dX12_comes_25 (by decide) rfl (by omega) (by decide) ?_
  refine g_aload_n dX12_comes_26 rfl rfl ?_
  refine g_getR 0 (81) (C := RX12) (T := TX12) (N := 19) dX12_comes_27 (by decide) rfl rfl (by decide) rfl fl_RX12_7 ?_
  refine g_bipush (v := (nI 20)) dX12_comes_30 rfl ?_
  refine g_iload_n dX12_comes_32 rfl rfl ?_
  refine g_iaddN dX12_comes_33 ?_
  refine g_iconst (v := (nI 0)) dX12_comes_34 rfl ?_
  refine g_iastN dX12_comes_35 (by decide) rfl (by omega) (by decide) ?_
  refine g_aload_n dX12_comes_36 rfl rfl ?_
  refine g_getR 1 (82) (C := RX12) (T := TX12) (N := 19) dX12_comes_37 (by decide) rfl rfl (by decide) rfl fl_RX12_13 ?_
  refine g_iconst (v := (nI 2)) dX12_comes_40 rfl ?_
  refine g_dup2 dX12_comes_41 rfl rfl ?_
  refine g_ialdN (v := (nI 0)) dX12_comes_42 (by decide) rfl (by omega) (by decide) ((zs_up_m (by omega)).trans ((zs_up_m (by omega)).trans ((zs_up_m (by omega)).trans (congrFun (F 82 (by decide)).1 2)))) ?_
  refine g_iconst (v := (nI 1)) dX12_comes_43 rfl ?_
  refine g_iaddN dX12_comes_44 ?_
  refine g_iastN dX12_comes_45 (by decide) rfl (by omega) (by decide) ?_
  refine g_aload_n dX12_comes_46 rfl rfl ?_
  refine g_getR 1 (82) (C := RX12) (T := TX12) (N := 19) dX12_comes_47 (by decide) rfl rfl (by decide) rfl fl_RX12_13 ?_
  refine g_bipush (v := (nI 65)) dX12_comes_50 rfl ?_
  refine g_iconst (v := (nI 0)) dX12_comes_52 rfl ?_
  refine g_iastN dX12_comes_53 (by decide) rfl (by omega) (by decide) ?_
  refine g_iload_n dX12_comes_54 rfl rfl ?_
  refine g_iret dX12_comes_55 rfl rfl ?_
  exact ⟨_, rfl, rfl⟩
set_option maxRecDepth 100000 in
theorem w_eye (S : zs_S) (F : zs_F1 S) (c : Int32) : zs_Ci MX12_eye [.ref 80, .int c] S (fun x _ => x = zs_if (nI 0 ≤ c ∧ c ≤ nI 5) (nI 0) (-2)) := by
  refine zs_C.of (by decide) (Nat.le_of_ble_eq_true rfl) ?_
  show zs_P MX12_eye 0 [(0, .ref 80), (1, .int c)] [] S _
  refine g_iload_n dX12_eye_0 rfl rfl ?_
  refine g_i2l dX12_eye_1 rfl ?_
  refine g_lconst (v := 0) dX12_eye_2 (by decide) ?_
  refine g_ldc2 (v := 5) dX12_eye_3 cl_RX12_58 ?_
  refine g_callS [.long (Int32.toInt64 c), .long 0, .long 5] [] (z_in S c 0 5 (by decide) (by decide)) dX12_eye_6 kk_X12_eye_X12_in ml_RX12_54 swX12_in rfl rfl (Nat.le_of_ble_eq_true rfl) ?_
  rintro _ _ ⟨_, rfl, rfl, rfl⟩
  refine g_if_ne 17 dX12_eye_9 (by decide) (fun h1 => ?_) (fun h1 => ?_)
  · have h1 := zs_b1 h1
    obtain ⟨c', c'a, c'b, rfl⟩ := zs_rng h1 (by omega)
    refine g_aload_n dX12_eye_17 rfl rfl ?_
    refine g_getR 1 (82) (C := RX12) (T := TX12) (N := 19) dX12_eye_18 (by decide) rfl rfl (by decide) rfl fl_RX12_13 ?_
    refine g_iconst (v := (nI 2)) dX12_eye_21 rfl ?_
    refine g_ialdN (v := (nI 0)) dX12_eye_22 (by decide) rfl (by omega) (by decide) (congrFun (F 82 (by decide)).1 2) ?_
    refine g_iconst (v := (nI 5)) dX12_eye_23 rfl ?_
    refine g_ic_neN 34 dX12_eye_24 (by decide) (by omega) (by omega) (fun _ => ?_) (fun z => absurd z (by omega))
    refine g_aload_n dX12_eye_34 rfl rfl ?_
    refine g_iload_n dX12_eye_35 rfl rfl ?_
    refine g_callV (T := TX12) (NN := 19) [] (z_comes S F (nI c')) dX12_eye_36 kk_X12_eye_X12_comes ml_RX12_69 mwX12_comes ewX12_comes (by decide) rfl rfl rfl rfl (Nat.le_of_ble_eq_true rfl) ?_
    rintro _ S9 ⟨_, rfl, rfl⟩
    refine g_iret dX12_eye_39 rfl rfl ?_
    exact ⟨_, rfl, (zs_it h1).symm⟩
  · have h1 := zs_b0 h1
    refine g_aload_n dX12_eye_12 rfl rfl ?_
    refine g_callV (T := TX12) (NN := 19) [] (z_bad S) dX12_eye_13 kk_X12_eye_X12_bad ml_RX12_62 mwX12_bad ewX12_bad (by decide) rfl rfl rfl rfl (Nat.le_of_ble_eq_true rfl) ?_
    rintro _ S2 ⟨_, rfl, rfl⟩
    refine g_iret dX12_eye_16 rfl rfl ?_
    exact ⟨_, rfl, (zs_ie (fun q => h1 q)).symm⟩
set_option maxRecDepth 100000 in
theorem w_type (S : zs_S) (F : zs_F1 S) (c : Int32) : zs_Ci MX12_type [.ref 80, .int c] S (fun x _ => x = zs_if (nI 0 ≤ c ∧ c ≤ nI 127) (nI 1) (-2)) := by
  refine zs_C.of (by decide) (Nat.le_of_ble_eq_true rfl) ?_
  show zs_P MX12_type 0 [(0, .ref 80), (1, .int c)] [] S _
  refine g_iload_n dX12_type_0 rfl rfl ?_
  refine g_i2l dX12_type_1 rfl ?_
  refine g_lconst (v := 0) dX12_type_2 (by decide) ?_
  refine g_ldc2 (v := 127) dX12_type_3 cl_RX12_73 ?_
  refine g_callS [.long (Int32.toInt64 c), .long 0, .long 127] [] (z_in S c 0 127 (by decide) (by decide)) dX12_type_6 kk_X12_type_X12_in ml_RX12_54 swX12_in rfl rfl (Nat.le_of_ble_eq_true rfl) ?_
  rintro _ _ ⟨_, rfl, rfl, rfl⟩
  refine g_if_ne 17 dX12_type_9 (by decide) (fun h1 => ?_) (fun h1 => ?_)
  · have h1 := zs_b1 h1
    obtain ⟨c', c'a, c'b, rfl⟩ := zs_rng h1 (by omega)
    refine g_aload_n dX12_type_17 rfl rfl ?_
    refine g_getV 3 (C := RX12) (T := TX12) (N := 19) (v := (nI 0)) dX12_type_18 (by decide) rfl rfl (by decide) rfl fl_RX12_75 (congrFun (F 80 (by decide)).1 3) ?_
    refine g_sipush (v := (nI 150)) dX12_type_21 rfl ?_
    refine g_ic_neN 32 dX12_type_24 (by decide) (by omega) (by omega) (fun _ => ?_) (fun z => absurd z (by omega))
    refine g_aload_n dX12_type_32 rfl rfl ?_
    refine g_getR 4 (84) (C := RX12) (T := TX12) (N := 19) dX12_type_33 (by decide) rfl rfl (by decide) rfl fl_RX12_19 ?_
    refine g_aload_n dX12_type_36 rfl rfl ?_
    refine g_getV 3 (C := RX12) (T := TX12) (N := 19) (v := (nI 0)) dX12_type_37 (by decide) rfl rfl (by decide) rfl fl_RX12_75 (congrFun (F 80 (by decide)).1 3) ?_
    refine g_iload_n dX12_type_40 rfl rfl ?_
    refine g_i2b dX12_type_41 rfl ?_
    refine g_bast dX12_type_42 (by decide) rfl (vp_in_nI (by decide) (by decide)) ?_
    refine g_aload_n dX12_type_43 rfl rfl ?_
    refine g_dup dX12_type_44 rfl ?_
    refine g_getV 3 (C := RX12) (T := TX12) (N := 19) (v := (nI 0)) dX12_type_45 (by decide) rfl rfl (by decide) rfl fl_RX12_75 ((zs_up_m (by omega)).trans (congrFun (F 80 (by decide)).1 3)) ?_
    refine g_iconst (v := (nI 1)) dX12_type_48 rfl ?_
    refine g_iaddN dX12_type_49 ?_
    refine g_putI 3 (C := RX12) (T := TX12) (N := 19) (ty := .int) dX12_type_50 (by decide) rfl rfl (by decide) rfl fl_RX12_75 rfl (by decide +kernel) ⟨rfl, rfl⟩ ?_
    refine g_aload_n dX12_type_53 rfl rfl ?_
    refine g_getV 3 (C := RX12) (T := TX12) (N := 19) (v := (nI 1)) dX12_type_54 (by decide) rfl rfl (by decide) rfl fl_RX12_75 zs_up_q ?_
    refine g_iret dX12_type_57 rfl rfl ?_
    exact ⟨_, rfl, (zs_it h1).symm⟩
  · have h1 := zs_b0 h1
    refine g_aload_n dX12_type_12 rfl rfl ?_
    refine g_callV (T := TX12) (NN := 19) [] (z_bad S) dX12_type_13 kk_X12_type_X12_bad ml_RX12_62 mwX12_bad ewX12_bad (by decide) rfl rfl rfl rfl (Nat.le_of_ble_eq_true rfl) ?_
    rintro _ S2 ⟨_, rfl, rfl⟩
    refine g_iret dX12_type_16 rfl rfl ?_
    exact ⟨_, rfl, (zs_ie (fun q => h1 q)).symm⟩
set_option maxRecDepth 100000 in
theorem w_clear (S : zs_S) (F : zs_F1 S)  : zs_Ci MX12_clear [.ref 80] S (fun x _ => x = nI 0) := by
  refine zs_C.of (by decide) (Nat.le_of_ble_eq_true rfl) ?_
  show zs_P MX12_clear 0 [(0, .ref 80)] [] S _
  refine g_aload_n dX12_clear_0 rfl rfl ?_
  refine g_getV 3 (C := RX12) (T := TX12) (N := 19) (v := (nI 0)) dX12_clear_1 (by decide) rfl rfl (by decide) rfl fl_RX12_75 (congrFun (F 80 (by decide)).1 3) ?_
  refine g_istore_n (lv' := [(1, .int (nI 0)), (0, .ref 80)]) dX12_clear_4 rfl (by decide) rfl ?_
  refine g_aload_n dX12_clear_5 rfl rfl ?_
  refine g_iconst (v := (nI 0)) dX12_clear_6 rfl ?_
  refine g_putI 3 (C := RX12) (T := TX12) (N := 19) (ty := .int) dX12_clear_7 (by decide) rfl rfl (by decide) rfl fl_RX12_75 rfl (by decide +kernel) ⟨rfl, rfl⟩ ?_
  refine g_iload_n dX12_clear_10 rfl rfl ?_
  refine g_iret dX12_clear_11 rfl rfl ?_
  exact ⟨_, rfl, rfl⟩
set_option maxRecDepth 100000 in
theorem w_undo (S : zs_S) (F : zs_F1 S)  : zs_Ci MX12_undo [.ref 80] S (fun x _ => x = (-3)) := by
  refine zs_C.of (by decide) (Nat.le_of_ble_eq_true rfl) ?_
  show zs_P MX12_undo 0 [(0, .ref 80)] [] S _
  refine g_aload_n dX12_undo_0 rfl rfl ?_
  refine g_getR 1 (82) (C := RX12) (T := TX12) (N := 19) dX12_undo_1 (by decide) rfl rfl (by decide) rfl fl_RX12_13 ?_
  refine g_bipush (v := (nI 65)) dX12_undo_4 rfl ?_
  refine g_ialdN (v := (nI 0)) dX12_undo_6 (by decide) rfl (by omega) (by decide) (congrFun (F 82 (by decide)).1 65) ?_
  refine g_if_neN 15 dX12_undo_7 (by decide) (by omega) (fun z => absurd z (by omega)) (fun _ => ?_)
  refine g_aload_n dX12_undo_10 rfl rfl ?_
  refine g_callV (T := TX12) (NN := 19) [] (z_no S) dX12_undo_11 kk_X12_undo_X12_no ml_RX12_178 mwX12_no ewX12_no (by decide) rfl rfl rfl rfl (Nat.le_of_ble_eq_true rfl) ?_
  rintro _ S1 ⟨_, rfl, rfl⟩
  refine g_iret dX12_undo_14 rfl rfl ?_
  exact ⟨_, rfl, rfl⟩
set_option maxRecDepth 100000 in
theorem w_of (S : zs_S) (F : zs_F1 S) (e k : Int32) : zs_Ci MX12_of [.ref 80, .int e, .int k] S (fun x _ => x = (-2)) := by
  refine zs_C.of (by decide) (Nat.le_of_ble_eq_true rfl) ?_
  show zs_P MX12_of 0 [(0, .ref 80), (1, .int e), (2, .int k)] [] S _
  refine g_aload_n dX12_of_0 rfl rfl ?_
  refine g_iload_n dX12_of_1 rfl rfl ?_
  refine g_callV (T := TX12) (NN := 19) [] (z_isEye0 S e (congrFun (F 82 (by decide)).1 2)) dX12_of_2 kk_X12_of_X12_isEye ml_RX12_185 mwX12_isEye ewX12_isEye (by decide) rfl rfl rfl rfl (Nat.le_of_ble_eq_true rfl) ?_
  rintro _ _ ⟨_, rfl, rfl, rfl⟩
  refine g_if_eqN 20 dX12_of_5 (by decide) (by omega) (fun _ => ?_) (fun z => absurd z (by omega))
  refine g_aload_n dX12_of_20 rfl rfl ?_
  refine g_callV (T := TX12) (NN := 19) [] (z_bad S) dX12_of_21 kk_X12_of_X12_bad ml_RX12_62 mwX12_bad ewX12_bad (by decide) rfl rfl rfl rfl (Nat.le_of_ble_eq_true rfl) ?_
  rintro _ S1 ⟨_, rfl, rfl⟩
  refine g_iret dX12_of_24 rfl rfl ?_
  exact ⟨_, rfl, rfl⟩
set_option maxRecDepth 100000 in
theorem w_sees (S : zs_S) (F : zs_F1 S) (e k : Int32) : zs_Ci MX12_sees [.ref 80, .int e, .int k] S (fun x _ => x = (-2)) := by
  refine zs_C.of (by decide) (Nat.le_of_ble_eq_true rfl) ?_
  show zs_P MX12_sees 0 [(0, .ref 80), (1, .int e), (2, .int k)] [] S _
  refine g_aload_n dX12_sees_0 rfl rfl ?_
  refine g_iload_n dX12_sees_1 rfl rfl ?_
  refine g_callV (T := TX12) (NN := 19) [] (z_isEye0 S e (congrFun (F 82 (by decide)).1 2)) dX12_sees_2 kk_X12_sees_X12_isEye ml_RX12_185 mwX12_isEye ewX12_isEye (by decide) rfl rfl rfl rfl (Nat.le_of_ble_eq_true rfl) ?_
  rintro _ _ ⟨_, rfl, rfl, rfl⟩
  refine g_if_eqN 20 dX12_sees_5 (by decide) (by omega) (fun _ => ?_) (fun z => absurd z (by omega))
  refine g_aload_n dX12_sees_20 rfl rfl ?_
  refine g_callV (T := TX12) (NN := 19) [] (z_bad S) dX12_sees_21 kk_X12_sees_X12_bad ml_RX12_62 mwX12_bad ewX12_bad (by decide) rfl rfl rfl rfl (Nat.le_of_ble_eq_true rfl) ?_
  rintro _ S1 ⟨_, rfl, rfl⟩
  refine g_iret dX12_sees_24 rfl rfl ?_
  exact ⟨_, rfl, rfl⟩
set_option maxRecDepth 100000 in
theorem w_most (S : zs_S) (F : zs_F1 S) (e k w : Int32) : zs_Ci MX12_most [.ref 80, .int e, .int k, .int w] S (fun x _ => x = (-2)) := by
  refine zs_C.of (by decide) (Nat.le_of_ble_eq_true rfl) ?_
  show zs_P MX12_most 0 [(0, .ref 80), (1, .int e), (2, .int k), (3, .int w)] [] S _
  refine g_aload_n dX12_most_0 rfl rfl ?_
  refine g_iload_n dX12_most_1 rfl rfl ?_
  refine g_callV (T := TX12) (NN := 19) [] (z_isEye0 S e (congrFun (F 82 (by decide)).1 2)) dX12_most_2 kk_X12_most_X12_isEye ml_RX12_185 mwX12_isEye ewX12_isEye (by decide) rfl rfl rfl rfl (Nat.le_of_ble_eq_true rfl) ?_
  rintro _ _ ⟨_, rfl, rfl, rfl⟩
  refine g_if_eqN 30 dX12_most_5 (by decide) (by omega) (fun _ => ?_) (fun z => absurd z (by omega))
  refine g_aload_n dX12_most_30 rfl rfl ?_
  refine g_callV (T := TX12) (NN := 19) [] (z_bad S) dX12_most_31 kk_X12_most_X12_bad ml_RX12_62 mwX12_bad ewX12_bad (by decide) rfl rfl rfl rfl (Nat.le_of_ble_eq_true rfl) ?_
  rintro _ S1 ⟨_, rfl, rfl⟩
  refine g_iret dX12_most_34 rfl rfl ?_
  exact ⟨_, rfl, rfl⟩
set_option maxRecDepth 100000 in
theorem w_note (S : zs_S) (F : zs_F1 S) (e p q x : Int32) : zs_Ci MX12_note [.ref 80, .int e, .int p, .int q, .int x] S (fun x _ => x = (-2)) := by
  refine zs_C.of (by decide) (Nat.le_of_ble_eq_true rfl) ?_
  show zs_P MX12_note 0 [(0, .ref 80), (1, .int e), (2, .int p), (3, .int q), (4, .int x)] [] S _
  refine g_aload_n dX12_note_0 rfl rfl ?_
  refine g_iload_n dX12_note_1 rfl rfl ?_
  refine g_callV (T := TX12) (NN := 19) [] (z_isEye0 S e (congrFun (F 82 (by decide)).1 2)) dX12_note_2 kk_X12_note_X12_isEye ml_RX12_185 mwX12_isEye ewX12_isEye (by decide) rfl rfl rfl rfl (Nat.le_of_ble_eq_true rfl) ?_
  rintro _ _ ⟨_, rfl, rfl, rfl⟩
  refine g_if_eqN 45 dX12_note_5 (by decide) (by omega) (fun _ => ?_) (fun z => absurd z (by omega))
  refine g_aload_n dX12_note_45 rfl rfl ?_
  refine g_callV (T := TX12) (NN := 19) [] (z_bad S) dX12_note_46 kk_X12_note_X12_bad ml_RX12_62 mwX12_bad ewX12_bad (by decide) rfl rfl rfl rfl (Nat.le_of_ble_eq_true rfl) ?_
  rintro _ S1 ⟨_, rfl, rfl⟩
  refine g_iret dX12_note_49 rfl rfl ?_
  exact ⟨_, rfl, rfl⟩
set_option maxRecDepth 100000 in
theorem w_is (S : zs_S) (F : zs_F1 S) (e : Int32) : zs_Ci MX12_is [.ref 80, .int e] S (fun x _ => x = (-2)) := by
  refine zs_C.of (by decide) (Nat.le_of_ble_eq_true rfl) ?_
  show zs_P MX12_is 0 [(0, .ref 80), (1, .int e)] [] S _
  refine g_aload_n dX12_is_0 rfl rfl ?_
  refine g_iload_n dX12_is_1 rfl rfl ?_
  refine g_callV (T := TX12) (NN := 19) [] (z_isEye0 S e (congrFun (F 82 (by decide)).1 2)) dX12_is_2 kk_X12_is_X12_isEye ml_RX12_185 mwX12_isEye ewX12_isEye (by decide) rfl rfl rfl rfl (Nat.le_of_ble_eq_true rfl) ?_
  rintro _ _ ⟨_, rfl, rfl, rfl⟩
  refine g_if_eqN 16 dX12_is_5 (by decide) (by omega) (fun _ => ?_) (fun z => absurd z (by omega))
  refine g_aload_n dX12_is_16 rfl rfl ?_
  refine g_callV (T := TX12) (NN := 19) [] (z_bad S) dX12_is_17 kk_X12_is_X12_bad ml_RX12_62 mwX12_bad ewX12_bad (by decide) rfl rfl rfl rfl (Nat.le_of_ble_eq_true rfl) ?_
  rintro _ S1 ⟨_, rfl, rfl⟩
  refine g_iret dX12_is_20 rfl rfl ?_
  exact ⟨_, rfl, rfl⟩
set_option maxRecDepth 100000 in
theorem w_look (S : zs_S) (F : zs_F1 S) (e : Int32) : zs_Ci MX12_look [.ref 80, .int e] S (fun x _ => x = (-2)) := by
  refine zs_C.of (by decide) (Nat.le_of_ble_eq_true rfl) ?_
  show zs_P MX12_look 0 [(0, .ref 80), (1, .int e)] [] S _
  refine g_aload_n dX12_look_0 rfl rfl ?_
  refine g_iload_n dX12_look_1 rfl rfl ?_
  refine g_callV (T := TX12) (NN := 19) [] (z_isEye0 S e (congrFun (F 82 (by decide)).1 2)) dX12_look_2 kk_X12_look_X12_isEye ml_RX12_185 mwX12_isEye ewX12_isEye (by decide) rfl rfl rfl rfl (Nat.le_of_ble_eq_true rfl) ?_
  rintro _ _ ⟨_, rfl, rfl, rfl⟩
  refine g_if_neN 13 dX12_look_5 (by decide) (by omega) (fun z => absurd z (by omega)) (fun _ => ?_)
  refine g_aload_n dX12_look_8 rfl rfl ?_
  refine g_callV (T := TX12) (NN := 19) [] (z_bad S) dX12_look_9 kk_X12_look_X12_bad ml_RX12_62 mwX12_bad ewX12_bad (by decide) rfl rfl rfl rfl (Nat.le_of_ble_eq_true rfl) ?_
  rintro _ S1 ⟨_, rfl, rfl⟩
  refine g_iret dX12_look_12 rfl rfl ?_
  exact ⟨_, rfl, rfl⟩
set_option maxRecDepth 100000 in
theorem w_smear (S : zs_S) (F : zs_F1 S) (e x n c : Int32) : zs_Ci MX12_smear [.ref 80, .int e, .int x, .int n, .int c] S (fun x _ => x = (-2)) := by
  refine zs_C.of (by decide) (Nat.le_of_ble_eq_true rfl) ?_
  show zs_P MX12_smear 0 [(0, .ref 80), (1, .int e), (2, .int x), (3, .int n), (4, .int c)] [] S _
  refine g_aload_n dX12_smear_0 rfl rfl ?_
  refine g_iload_n dX12_smear_1 rfl rfl ?_
  refine g_callV (T := TX12) (NN := 19) [] (z_isEye0 S e (congrFun (F 82 (by decide)).1 2)) dX12_smear_2 kk_X12_smear_X12_isEye ml_RX12_185 mwX12_isEye ewX12_isEye (by decide) rfl rfl rfl rfl (Nat.le_of_ble_eq_true rfl) ?_
  rintro _ _ ⟨_, rfl, rfl, rfl⟩
  refine g_if_eqN 45 dX12_smear_5 (by decide) (by omega) (fun _ => ?_) (fun z => absurd z (by omega))
  refine g_aload_n dX12_smear_45 rfl rfl ?_
  refine g_callV (T := TX12) (NN := 19) [] (z_bad S) dX12_smear_46 kk_X12_smear_X12_bad ml_RX12_62 mwX12_bad ewX12_bad (by decide) rfl rfl rfl rfl (Nat.le_of_ble_eq_true rfl) ?_
  rintro _ S1 ⟨_, rfl, rfl⟩
  refine g_iret dX12_smear_49 rfl rfl ?_
  exact ⟨_, rfl, rfl⟩
set_option maxRecDepth 100000 in
theorem w_hands (S : zs_S) (F : zs_F1 S) (e k w : Int32) : zs_Ci MX12_hands [.ref 80, .int e, .int k, .int w] S (fun x _ => x = (-10)) := by
  refine zs_C.of (by decide) (Nat.le_of_ble_eq_true rfl) ?_
  show zs_P MX12_hands 0 [(0, .ref 80), (1, .int e), (2, .int k), (3, .int w)] [] S _
  refine g_aload_n dX12_hands_0 rfl rfl ?_
  refine g_iload_n dX12_hands_1 rfl rfl ?_
  refine g_callV (T := TX12) (NN := 19) [] (z_isEye0 S e (congrFun (F 82 (by decide)).1 2)) dX12_hands_2 kk_X12_hands_X12_isEye ml_RX12_185 mwX12_isEye ewX12_isEye (by decide) rfl rfl rfl rfl (Nat.le_of_ble_eq_true rfl) ?_
  rintro _ _ ⟨_, rfl, rfl, rfl⟩
  refine g_if_eqN 26 dX12_hands_5 (by decide) (by omega) (fun _ => ?_) (fun z => absurd z (by omega))
  refine g_aload_n dX12_hands_26 rfl rfl ?_
  refine g_callV (T := TX12) (NN := 19) [] (z_bad10 S) dX12_hands_27 kk_X12_hands_X12_bad10 ml_RX12_196 mwX12_bad10 ewX12_bad10 (by decide) rfl rfl rfl rfl (Nat.le_of_ble_eq_true rfl) ?_
  rintro _ S1 ⟨_, rfl, rfl⟩
  refine g_iret dX12_hands_30 rfl rfl ?_
  exact ⟨_, rfl, rfl⟩
set_option maxRecDepth 100000 in
theorem w_drawn (S : zs_S) (F : zs_F1 S) (f : Int32) : zs_Ci MX12_drawn [.ref 80, .int f] S (fun x _ => x = zs_if (nI 0 ≤ f ∧ f ≤ nI 1) (nI 0) (-2)) := by
  refine zs_C.of (by decide) (Nat.le_of_ble_eq_true rfl) ?_
  show zs_P MX12_drawn 0 [(0, .ref 80), (1, .int f)] [] S _
  refine g_aload_n dX12_drawn_0 rfl rfl ?_
  refine g_iload_n dX12_drawn_1 rfl rfl ?_
  refine g_callV (T := TX12) (NN := 19) [] (z_isFrame S f F) dX12_drawn_2 kk_X12_drawn_X12_isFrame ml_RX12_181 mwX12_isFrame ewX12_isFrame (by decide) rfl rfl rfl rfl (Nat.le_of_ble_eq_true rfl) ?_
  rintro _ _ ⟨_, rfl, rfl, rfl⟩
  refine g_if_eq 19 dX12_drawn_5 (by decide) (fun h1 => ?_) (fun h1 => ?_)
  · have h1 := zs_b0 h1
    refine g_aload_n dX12_drawn_19 rfl rfl ?_
    refine g_callV (T := TX12) (NN := 19) [] (z_bad S) dX12_drawn_20 kk_X12_drawn_X12_bad ml_RX12_62 mwX12_bad ewX12_bad (by decide) rfl rfl rfl rfl (Nat.le_of_ble_eq_true rfl) ?_
    rintro _ S2 ⟨_, rfl, rfl⟩
    refine g_iret dX12_drawn_23 rfl rfl ?_
    exact ⟨_, rfl, (zs_ie (fun q => h1 q)).symm⟩
  · have h1 := zs_b1 h1
    obtain ⟨f', f'a, f'b, rfl⟩ := zs_rng h1 (by omega)
    refine g_aload_n dX12_drawn_8 rfl rfl ?_
    refine g_getR 0 (81) (C := RX12) (T := TX12) (N := 19) dX12_drawn_9 (by decide) rfl rfl (by decide) rfl fl_RX12_7 ?_
    refine g_iconst (v := (nI 3)) dX12_drawn_12 rfl ?_
    refine g_iload_n dX12_drawn_13 rfl rfl ?_
    refine g_iaddN dX12_drawn_14 ?_
    refine g_ialdN (v := (nI 0)) dX12_drawn_15 (by decide) rfl (by omega) (by decide) ((congrFun (F 81 (by decide)).1 (3 + f')).trans (if_neg (by omega))) ?_
    refine g_goto 23 dX12_drawn_16 (by decide) ?_
    refine g_iret dX12_drawn_23 rfl rfl ?_
    exact ⟨_, rfl, (zs_it h1).symm⟩
set_option maxRecDepth 100000 in
theorem w_seen (S : zs_S) (F : zs_F1 S) (k p : Int32) : zs_Ci MX12_seen [.ref 80, .int k, .int p] S (fun x _ => x = zs_if ((nI 1 ≤ k ∧ k ≤ nI 30) ∧ (nI 0 ≤ p ∧ p ≤ nI 9)) (nI 1) (-2)) := by
  refine zs_C.of (by decide) (Nat.le_of_ble_eq_true rfl) ?_
  show zs_P MX12_seen 0 [(0, .ref 80), (1, .int k), (2, .int p)] [] S _
  refine g_iload_n dX12_seen_0 rfl rfl ?_
  refine g_i2l dX12_seen_1 rfl ?_
  refine g_lconst (v := 1) dX12_seen_2 (by decide) ?_
  refine g_ldc2 (v := 30) dX12_seen_3 cl_RX12_202 ?_
  refine g_callS [.long (Int32.toInt64 k), .long 1, .long 30] [] (z_in S k 1 30 (by decide) (by decide)) dX12_seen_6 kk_X12_seen_X12_in ml_RX12_54 swX12_in rfl rfl (Nat.le_of_ble_eq_true rfl) ?_
  rintro _ _ ⟨_, rfl, rfl, rfl⟩
  refine g_if_eq 24 dX12_seen_9 (by decide) (fun h1 => ?_) (fun h1 => ?_)
  · have h1 := zs_b0 h1
    refine g_aload_n dX12_seen_24 rfl rfl ?_
    refine g_callV (T := TX12) (NN := 19) [] (z_bad S) dX12_seen_25 kk_X12_seen_X12_bad ml_RX12_62 mwX12_bad ewX12_bad (by decide) rfl rfl rfl rfl (Nat.le_of_ble_eq_true rfl) ?_
    rintro _ S2 ⟨_, rfl, rfl⟩
    refine g_iret dX12_seen_28 rfl rfl ?_
    exact ⟨_, rfl, (zs_ie (fun q => h1 q.1)).symm⟩
  · have h1 := zs_b1 h1
    obtain ⟨k', k'a, k'b, rfl⟩ := zs_rng h1 (by omega)
    refine g_iload_n dX12_seen_12 rfl rfl ?_
    refine g_i2l dX12_seen_13 rfl ?_
    refine g_lconst (v := 0) dX12_seen_14 (by decide) ?_
    refine g_ldc2 (v := 9) dX12_seen_15 cl_RX12_121 ?_
    refine g_callS [.long (Int32.toInt64 p), .long 0, .long 9] [] (z_in S p 0 9 (by decide) (by decide)) dX12_seen_18 kk_X12_seen_X12_in ml_RX12_54 swX12_in rfl rfl (Nat.le_of_ble_eq_true rfl) ?_
    rintro _ _ ⟨_, rfl, rfl, rfl⟩
    refine g_if_ne 29 dX12_seen_21 (by decide) (fun h3 => ?_) (fun h3 => ?_)
    · have h3 := zs_b1 h3
      obtain ⟨p', p'a, p'b, rfl⟩ := zs_rng h3 (by omega)
      refine g_aload_n dX12_seen_29 rfl rfl ?_
      refine g_getR 1 (82) (C := RX12) (T := TX12) (N := 19) dX12_seen_30 (by decide) rfl rfl (by decide) rfl fl_RX12_13 ?_
      refine g_bipush (v := (nI 8)) dX12_seen_33 rfl ?_
      refine g_ialdN (v := (nI 0)) dX12_seen_35 (by decide) rfl (by omega) (by decide) (congrFun (F 82 (by decide)).1 8) ?_
      refine g_istore_n (lv' := [(3, .int (nI 0)), (0, .ref 80), (1, .int (nI k')), (2, .int (nI p'))]) dX12_seen_36 rfl (by decide) rfl ?_
      refine g_iload_n dX12_seen_37 rfl rfl ?_
      refine g_bipush (v := (nI 6)) dX12_seen_38 rfl ?_
      refine g_ic_neN 48 dX12_seen_40 (by decide) (by omega) (by omega) (fun _ => ?_) (fun z => absurd z (by omega))
      refine g_aload_n dX12_seen_48 rfl rfl ?_
      refine g_getR 1 (82) (C := RX12) (T := TX12) (N := 19) dX12_seen_49 (by decide) rfl rfl (by decide) rfl fl_RX12_13 ?_
      refine g_bipush (v := (nI 9)) dX12_seen_52 rfl ?_
      refine g_iload_n dX12_seen_54 rfl rfl ?_
      refine g_iaddN dX12_seen_55 ?_
      refine g_iload_n dX12_seen_56 rfl rfl ?_
      refine g_iastN dX12_seen_57 (by decide) rfl (by omega) (by decide) ?_
      refine g_aload_n dX12_seen_58 rfl rfl ?_
      refine g_getR 1 (82) (C := RX12) (T := TX12) (N := 19) dX12_seen_59 (by decide) rfl rfl (by decide) rfl fl_RX12_13 ?_
      refine g_bipush (v := (nI 15)) dX12_seen_62 rfl ?_
      refine g_iload_n dX12_seen_64 rfl rfl ?_
      refine g_iaddN dX12_seen_65 ?_
      refine g_iload_n dX12_seen_66 rfl rfl ?_
      refine g_iastN dX12_seen_67 (by decide) rfl (by omega) (by decide) ?_
      refine g_aload_n dX12_seen_68 rfl rfl ?_
      refine g_getR 1 (82) (C := RX12) (T := TX12) (N := 19) dX12_seen_69 (by decide) rfl rfl (by decide) rfl fl_RX12_13 ?_
      refine g_bipush (v := (nI 8)) dX12_seen_72 rfl ?_
      refine g_dup2 dX12_seen_74 rfl rfl ?_
      refine g_ialdN (v := (nI 0)) dX12_seen_75 (by decide) rfl (by omega) (by decide) ((zs_up_m (by omega)).trans ((zs_up_m (by omega)).trans (congrFun (F 82 (by decide)).1 8))) ?_
      refine g_iconst (v := (nI 1)) dX12_seen_76 rfl ?_
      refine g_iaddN dX12_seen_77 ?_
      refine g_iastN dX12_seen_78 (by decide) rfl (by omega) (by decide) ?_
      refine g_aload_n dX12_seen_79 rfl rfl ?_
      refine g_getR 1 (82) (C := RX12) (T := TX12) (N := 19) dX12_seen_80 (by decide) rfl rfl (by decide) rfl fl_RX12_13 ?_
      refine g_bipush (v := (nI 8)) dX12_seen_83 rfl ?_
      refine g_ialdN (v := (nI 1)) dX12_seen_85 (by decide) rfl (by omega) (by decide) zs_up_q ?_
      refine g_iret dX12_seen_86 rfl rfl ?_
      exact ⟨_, rfl, (zs_it ⟨h1, h3⟩).symm⟩
    · have h3 := zs_b0 h3
      refine g_aload_n dX12_seen_24 rfl rfl ?_
      refine g_callV (T := TX12) (NN := 19) [] (z_bad S) dX12_seen_25 kk_X12_seen_X12_bad ml_RX12_62 mwX12_bad ewX12_bad (by decide) rfl rfl rfl rfl (Nat.le_of_ble_eq_true rfl) ?_
      rintro _ S4 ⟨_, rfl, rfl⟩
      refine g_iret dX12_seen_28 rfl rfl ?_
      exact ⟨_, rfl, (zs_ie (fun q => h3 q.2)).symm⟩
set_option maxRecDepth 100000 in
theorem w_mark (S : zs_S) (F : zs_F1 S) (t k z : Int32) : zs_Ci MX12_mark [.ref 80, .int t, .int k, .int z] S (fun x _ => x = zs_if ((nI 0 ≤ t ∧ t ≤ nI 11) ∧ (nI 0 ≤ k ∧ k ≤ nI 99) ∧ (nI 0 ≤ z ∧ z ≤ nI 30)) (nI 1) (-2)) := by
  refine zs_C.of (by decide) (Nat.le_of_ble_eq_true rfl) ?_
  show zs_P MX12_mark 0 [(0, .ref 80), (1, .int t), (2, .int k), (3, .int z)] [] S _
  refine g_iload_n dX12_mark_0 rfl rfl ?_
  refine g_i2l dX12_mark_1 rfl ?_
  refine g_lconst (v := 0) dX12_mark_2 (by decide) ?_
  refine g_ldc2 (v := 11) dX12_mark_3 cl_RX12_60 ?_
  refine g_callS [.long (Int32.toInt64 t), .long 0, .long 11] [] (z_in S t 0 11 (by decide) (by decide)) dX12_mark_6 kk_X12_mark_X12_in ml_RX12_54 swX12_in rfl rfl (Nat.le_of_ble_eq_true rfl) ?_
  rintro _ _ ⟨_, rfl, rfl, rfl⟩
  refine g_if_eq 36 dX12_mark_9 (by decide) (fun h1 => ?_) (fun h1 => ?_)
  · have h1 := zs_b0 h1
    refine g_aload_n dX12_mark_36 rfl rfl ?_
    refine g_callV (T := TX12) (NN := 19) [] (z_bad S) dX12_mark_37 kk_X12_mark_X12_bad ml_RX12_62 mwX12_bad ewX12_bad (by decide) rfl rfl rfl rfl (Nat.le_of_ble_eq_true rfl) ?_
    rintro _ S2 ⟨_, rfl, rfl⟩
    refine g_iret dX12_mark_40 rfl rfl ?_
    exact ⟨_, rfl, (zs_ie (fun q => h1 q.1)).symm⟩
  · have h1 := zs_b1 h1
    obtain ⟨t', t'a, t'b, rfl⟩ := zs_rng h1 (by omega)
    refine g_iload_n dX12_mark_12 rfl rfl ?_
    refine g_i2l dX12_mark_13 rfl ?_
    refine g_lconst (v := 0) dX12_mark_14 (by decide) ?_
    refine g_ldc2 (v := 99) dX12_mark_15 cl_RX12_210 ?_
    refine g_callS [.long (Int32.toInt64 k), .long 0, .long 99] [] (z_in S k 0 99 (by decide) (by decide)) dX12_mark_18 kk_X12_mark_X12_in ml_RX12_54 swX12_in rfl rfl (Nat.le_of_ble_eq_true rfl) ?_
    rintro _ _ ⟨_, rfl, rfl, rfl⟩
    refine g_if_eq 36 dX12_mark_21 (by decide) (fun h3 => ?_) (fun h3 => ?_)
    · have h3 := zs_b0 h3
      refine g_aload_n dX12_mark_36 rfl rfl ?_
      refine g_callV (T := TX12) (NN := 19) [] (z_bad S) dX12_mark_37 kk_X12_mark_X12_bad ml_RX12_62 mwX12_bad ewX12_bad (by decide) rfl rfl rfl rfl (Nat.le_of_ble_eq_true rfl) ?_
      rintro _ S4 ⟨_, rfl, rfl⟩
      refine g_iret dX12_mark_40 rfl rfl ?_
      exact ⟨_, rfl, (zs_ie (fun q => h3 q.2.1)).symm⟩
    · have h3 := zs_b1 h3
      obtain ⟨k', k'a, k'b, rfl⟩ := zs_rng h3 (by omega)
      refine g_iload_n dX12_mark_24 rfl rfl ?_
      refine g_i2l dX12_mark_25 rfl ?_
      refine g_lconst (v := 0) dX12_mark_26 (by decide) ?_
      refine g_ldc2 (v := 30) dX12_mark_27 cl_RX12_202 ?_
      refine g_callS [.long (Int32.toInt64 z), .long 0, .long 30] [] (z_in S z 0 30 (by decide) (by decide)) dX12_mark_30 kk_X12_mark_X12_in ml_RX12_54 swX12_in rfl rfl (Nat.le_of_ble_eq_true rfl) ?_
      rintro _ _ ⟨_, rfl, rfl, rfl⟩
      refine g_if_ne 41 dX12_mark_33 (by decide) (fun h5 => ?_) (fun h5 => ?_)
      · have h5 := zs_b1 h5
        obtain ⟨z', z'a, z'b, rfl⟩ := zs_rng h5 (by omega)
        refine g_aload_n dX12_mark_41 rfl rfl ?_
        refine g_getR 1 (82) (C := RX12) (T := TX12) (N := 19) dX12_mark_42 (by decide) rfl rfl (by decide) rfl fl_RX12_13 ?_
        refine g_bipush (v := (nI 46)) dX12_mark_45 rfl ?_
        refine g_ialdN (v := (nI 0)) dX12_mark_47 (by decide) rfl (by omega) (by decide) (congrFun (F 82 (by decide)).1 46) ?_
        refine g_istore (lv' := [(4, .int (nI 0)), (0, .ref 80), (1, .int (nI t')), (2, .int (nI k')), (3, .int (nI z'))]) dX12_mark_48 (by decide) rfl ?_
        refine g_iload dX12_mark_50 rfl ?_
        refine g_bipush (v := (nI 6)) dX12_mark_52 rfl ?_
        refine g_ic_neN 62 dX12_mark_54 (by decide) (by omega) (by omega) (fun _ => ?_) (fun z => absurd z (by omega))
        refine g_aload_n dX12_mark_62 rfl rfl ?_
        refine g_getR 1 (82) (C := RX12) (T := TX12) (N := 19) dX12_mark_63 (by decide) rfl rfl (by decide) rfl fl_RX12_13 ?_
        refine g_bipush (v := (nI 47)) dX12_mark_66 rfl ?_
        refine g_iload dX12_mark_68 rfl ?_
        refine g_iaddN dX12_mark_70 ?_
        refine g_iload_n dX12_mark_71 rfl rfl ?_
        refine g_iastN dX12_mark_72 (by decide) rfl (by omega) (by decide) ?_
        refine g_aload_n dX12_mark_73 rfl rfl ?_
        refine g_getR 1 (82) (C := RX12) (T := TX12) (N := 19) dX12_mark_74 (by decide) rfl rfl (by decide) rfl fl_RX12_13 ?_
        refine g_bipush (v := (nI 53)) dX12_mark_77 rfl ?_
        refine g_iload dX12_mark_79 rfl ?_
        refine g_iaddN dX12_mark_81 ?_
        refine g_iload_n dX12_mark_82 rfl rfl ?_
        refine g_iastN dX12_mark_83 (by decide) rfl (by omega) (by decide) ?_
        refine g_aload_n dX12_mark_84 rfl rfl ?_
        refine g_getR 1 (82) (C := RX12) (T := TX12) (N := 19) dX12_mark_85 (by decide) rfl rfl (by decide) rfl fl_RX12_13 ?_
        refine g_bipush (v := (nI 59)) dX12_mark_88 rfl ?_
        refine g_iload dX12_mark_90 rfl ?_
        refine g_iaddN dX12_mark_92 ?_
        refine g_iload_n dX12_mark_93 rfl rfl ?_
        refine g_iastN dX12_mark_94 (by decide) rfl (by omega) (by decide) ?_
        refine g_aload_n dX12_mark_95 rfl rfl ?_
        refine g_getR 1 (82) (C := RX12) (T := TX12) (N := 19) dX12_mark_96 (by decide) rfl rfl (by decide) rfl fl_RX12_13 ?_
        refine g_bipush (v := (nI 46)) dX12_mark_99 rfl ?_
        refine g_dup2 dX12_mark_101 rfl rfl ?_
        refine g_ialdN (v := (nI 0)) dX12_mark_102 (by decide) rfl (by omega) (by decide) ((zs_up_m (by omega)).trans ((zs_up_m (by omega)).trans ((zs_up_m (by omega)).trans (congrFun (F 82 (by decide)).1 46)))) ?_
        refine g_iconst (v := (nI 1)) dX12_mark_103 rfl ?_
        refine g_iaddN dX12_mark_104 ?_
        refine g_iastN dX12_mark_105 (by decide) rfl (by omega) (by decide) ?_
        refine g_aload_n dX12_mark_106 rfl rfl ?_
        refine g_getR 1 (82) (C := RX12) (T := TX12) (N := 19) dX12_mark_107 (by decide) rfl rfl (by decide) rfl fl_RX12_13 ?_
        refine g_bipush (v := (nI 46)) dX12_mark_110 rfl ?_
        refine g_ialdN (v := (nI 1)) dX12_mark_112 (by decide) rfl (by omega) (by decide) zs_up_q ?_
        refine g_iret dX12_mark_113 rfl rfl ?_
        exact ⟨_, rfl, (zs_it ⟨h1, h3, h5⟩).symm⟩
      · have h5 := zs_b0 h5
        refine g_aload_n dX12_mark_36 rfl rfl ?_
        refine g_callV (T := TX12) (NN := 19) [] (z_bad S) dX12_mark_37 kk_X12_mark_X12_bad ml_RX12_62 mwX12_bad ewX12_bad (by decide) rfl rfl rfl rfl (Nat.le_of_ble_eq_true rfl) ?_
        rintro _ S6 ⟨_, rfl, rfl⟩
        refine g_iret dX12_mark_40 rfl rfl ?_
        exact ⟨_, rfl, (zs_ie (fun q => h5 q.2.2)).symm⟩
set_option maxRecDepth 100000 in
theorem w_forget (S : zs_S) (F : zs_F1 S) (w : Int32) : zs_Ci MX12_forget [.ref 80, .int w] S (fun x _ => x = zs_if (nI 0 ≤ w ∧ w ≤ nI 2) (nI 0) (-2)) := by
  refine zs_C.of (by decide) (Nat.le_of_ble_eq_true rfl) ?_
  show zs_P MX12_forget 0 [(0, .ref 80), (1, .int w)] [] S _
  refine g_iload_n dX12_forget_0 rfl rfl ?_
  refine g_i2l dX12_forget_1 rfl ?_
  refine g_lconst (v := 0) dX12_forget_2 (by decide) ?_
  refine g_ldc2 (v := 2) dX12_forget_3 cl_RX12_50 ?_
  refine g_callS [.long (Int32.toInt64 w), .long 0, .long 2] [] (z_in S w 0 2 (by decide) (by decide)) dX12_forget_6 kk_X12_forget_X12_in ml_RX12_54 swX12_in rfl rfl (Nat.le_of_ble_eq_true rfl) ?_
  rintro _ _ ⟨_, rfl, rfl, rfl⟩
  refine g_if_ne 17 dX12_forget_9 (by decide) (fun h1 => ?_) (fun h1 => ?_)
  · have h1 := zs_b1 h1
    obtain ⟨w', w'a, w'b, rfl⟩ := zs_rng h1 (by omega)
    refine g_iload_n dX12_forget_17 rfl rfl ?_
    refine g_if_neN 26 dX12_forget_18 (by decide) (by omega) (fun h2 => ?_) (fun h2 => ?_)
    · refine g_iload_n dX12_forget_26 rfl rfl ?_
      refine g_iconst (v := (nI 1)) dX12_forget_27 rfl ?_
      refine g_ic_neN 36 dX12_forget_28 (by decide) (by omega) (by omega) (fun h3 => ?_) (fun h3 => ?_)
      · refine g_bipush (v := (nI 46)) dX12_forget_36 rfl ?_
        refine g_istore_n (lv' := [(2, .int (nI 46)), (0, .ref 80), (1, .int (nI w'))]) dX12_forget_38 rfl (by decide) rfl ?_
        refine g_aload_n dX12_forget_39 rfl rfl ?_
        refine g_getR 1 (82) (C := RX12) (T := TX12) (N := 19) dX12_forget_40 (by decide) rfl rfl (by decide) rfl fl_RX12_13 ?_
        refine g_iload_n dX12_forget_43 rfl rfl ?_
        refine g_ialdN (v := (nI 0)) dX12_forget_44 (by decide) rfl (by omega) (by decide) (congrFun (F 82 (by decide)).1 46) ?_
        refine g_istore_n (lv' := [(3, .int (nI 0)), (2, .int (nI 46)), (0, .ref 80), (1, .int (nI w'))]) dX12_forget_45 rfl (by decide) rfl ?_
        refine g_aload_n dX12_forget_46 rfl rfl ?_
        refine g_getR 1 (82) (C := RX12) (T := TX12) (N := 19) dX12_forget_47 (by decide) rfl rfl (by decide) rfl fl_RX12_13 ?_
        refine g_iload_n dX12_forget_50 rfl rfl ?_
        refine g_iconst (v := (nI 0)) dX12_forget_51 rfl ?_
        refine g_iastN dX12_forget_52 (by decide) rfl (by omega) (by decide) ?_
        refine g_iload_n dX12_forget_53 rfl rfl ?_
        refine g_iret dX12_forget_54 rfl rfl ?_
        exact ⟨_, rfl, (zs_it h1).symm⟩
      · refine g_bipush (v := (nI 21)) dX12_forget_31 rfl ?_
        refine g_goto 38 dX12_forget_33 (by decide) ?_
        refine g_istore_n (lv' := [(2, .int (nI 21)), (0, .ref 80), (1, .int (nI w'))]) dX12_forget_38 rfl (by decide) rfl ?_
        refine g_aload_n dX12_forget_39 rfl rfl ?_
        refine g_getR 1 (82) (C := RX12) (T := TX12) (N := 19) dX12_forget_40 (by decide) rfl rfl (by decide) rfl fl_RX12_13 ?_
        refine g_iload_n dX12_forget_43 rfl rfl ?_
        refine g_ialdN (v := (nI 0)) dX12_forget_44 (by decide) rfl (by omega) (by decide) (congrFun (F 82 (by decide)).1 21) ?_
        refine g_istore_n (lv' := [(3, .int (nI 0)), (2, .int (nI 21)), (0, .ref 80), (1, .int (nI w'))]) dX12_forget_45 rfl (by decide) rfl ?_
        refine g_aload_n dX12_forget_46 rfl rfl ?_
        refine g_getR 1 (82) (C := RX12) (T := TX12) (N := 19) dX12_forget_47 (by decide) rfl rfl (by decide) rfl fl_RX12_13 ?_
        refine g_iload_n dX12_forget_50 rfl rfl ?_
        refine g_iconst (v := (nI 0)) dX12_forget_51 rfl ?_
        refine g_iastN dX12_forget_52 (by decide) rfl (by omega) (by decide) ?_
        refine g_iload_n dX12_forget_53 rfl rfl ?_
        refine g_iret dX12_forget_54 rfl rfl ?_
        exact ⟨_, rfl, (zs_it h1).symm⟩
    · refine g_bipush (v := (nI 8)) dX12_forget_21 rfl ?_
      refine g_goto 38 dX12_forget_23 (by decide) ?_
      refine g_istore_n (lv' := [(2, .int (nI 8)), (0, .ref 80), (1, .int (nI w'))]) dX12_forget_38 rfl (by decide) rfl ?_
      refine g_aload_n dX12_forget_39 rfl rfl ?_
      refine g_getR 1 (82) (C := RX12) (T := TX12) (N := 19) dX12_forget_40 (by decide) rfl rfl (by decide) rfl fl_RX12_13 ?_
      refine g_iload_n dX12_forget_43 rfl rfl ?_
      refine g_ialdN (v := (nI 0)) dX12_forget_44 (by decide) rfl (by omega) (by decide) (congrFun (F 82 (by decide)).1 8) ?_
      refine g_istore_n (lv' := [(3, .int (nI 0)), (2, .int (nI 8)), (0, .ref 80), (1, .int (nI w'))]) dX12_forget_45 rfl (by decide) rfl ?_
      refine g_aload_n dX12_forget_46 rfl rfl ?_
      refine g_getR 1 (82) (C := RX12) (T := TX12) (N := 19) dX12_forget_47 (by decide) rfl rfl (by decide) rfl fl_RX12_13 ?_
      refine g_iload_n dX12_forget_50 rfl rfl ?_
      refine g_iconst (v := (nI 0)) dX12_forget_51 rfl ?_
      refine g_iastN dX12_forget_52 (by decide) rfl (by omega) (by decide) ?_
      refine g_iload_n dX12_forget_53 rfl rfl ?_
      refine g_iret dX12_forget_54 rfl rfl ?_
      exact ⟨_, rfl, (zs_it h1).symm⟩
  · have h1 := zs_b0 h1
    refine g_aload_n dX12_forget_12 rfl rfl ?_
    refine g_callV (T := TX12) (NN := 19) [] (z_bad S) dX12_forget_13 kk_X12_forget_X12_bad ml_RX12_62 mwX12_bad ewX12_bad (by decide) rfl rfl rfl rfl (Nat.le_of_ble_eq_true rfl) ?_
    rintro _ S4 ⟨_, rfl, rfl⟩
    refine g_iret dX12_forget_16 rfl rfl ?_
    exact ⟨_, rfl, (zs_ie (fun q => h1 q)).symm⟩
set_option maxRecDepth 100000 in
theorem w_status (S : zs_S) (F : zs_F1 S) (w : Int32) : zs_Ci MX12_status [.ref 80, .int w] S (fun x _ => x = zs_if (nI 0 ≤ w ∧ w ≤ nI 2) (nI 0) (-1)) := by
  refine zs_C.of (by decide) (Nat.le_of_ble_eq_true rfl) ?_
  show zs_P MX12_status 0 [(0, .ref 80), (1, .int w)] [] S _
  refine g_iload_n dX12_status_0 rfl rfl ?_
  refine g_i2l dX12_status_1 rfl ?_
  refine g_lconst (v := 0) dX12_status_2 (by decide) ?_
  refine g_ldc2 (v := 2) dX12_status_3 cl_RX12_50 ?_
  refine g_callS [.long (Int32.toInt64 w), .long 0, .long 2] [] (z_in S w 0 2 (by decide) (by decide)) dX12_status_6 kk_X12_status_X12_in ml_RX12_54 swX12_in rfl rfl (Nat.le_of_ble_eq_true rfl) ?_
  rintro _ _ ⟨_, rfl, rfl, rfl⟩
  refine g_if_ne 24 dX12_status_9 (by decide) (fun h1 => ?_) (fun h1 => ?_)
  · have h1 := zs_b1 h1
    obtain ⟨w', w'a, w'b, rfl⟩ := zs_rng h1 (by omega)
    refine g_aload_n dX12_status_24 rfl rfl ?_
    refine g_getR 14 (85) (C := RX12) (T := TX12) (N := 19) dX12_status_25 (by decide) rfl rfl (by decide) rfl fl_RX12_27 ?_
    refine g_iload_n dX12_status_28 rfl rfl ?_
    refine g_ialdN (v := (nI 0)) dX12_status_29 (by decide) rfl (by omega) (by decide) (congrFun (F 85 (by decide)).1 w') ?_
    refine g_iret dX12_status_30 rfl rfl ?_
    exact ⟨_, rfl, (zs_it h1).symm⟩
  · have h1 := zs_b0 h1
    refine g_aload_n dX12_status_12 rfl rfl ?_
    refine g_getR 14 (85) (C := RX12) (T := TX12) (N := 19) dX12_status_13 (by decide) rfl rfl (by decide) rfl fl_RX12_27 ?_
    refine g_iconst (v := (nI 0)) dX12_status_16 rfl ?_
    refine g_dup2 dX12_status_17 rfl rfl ?_
    refine g_ialdN (v := (nI 0)) dX12_status_18 (by decide) rfl (by omega) (by decide) (congrFun (F 85 (by decide)).1 0) ?_
    refine g_iconst (v := (nI 1)) dX12_status_19 rfl ?_
    refine g_iaddN dX12_status_20 ?_
    refine g_iastN dX12_status_21 (by decide) rfl (by omega) (by decide) ?_
    refine g_iconst (v := (-1)) dX12_status_22 rfl ?_
    refine g_iret dX12_status_23 rfl rfl ?_
    exact ⟨_, rfl, (zs_ie (fun q => h1 q)).symm⟩
set_option maxRecDepth 100000 in
theorem w_from (S : zs_S) (F : zs_F1 S) (i : Int32) : zs_Ci MX12_from [.ref 80, .int i] S (fun x _ => x = zs_if (nI 0 ≤ i ∧ i ≤ nI 1) (-3) (-2)) := by
  refine zs_C.of (by decide) (Nat.le_of_ble_eq_true rfl) ?_
  show zs_P MX12_from 0 [(0, .ref 80), (1, .int i)] [] S _
  refine g_iload_n dX12_from_0 rfl rfl ?_
  refine g_i2l dX12_from_1 rfl ?_
  refine g_lconst (v := 0) dX12_from_2 (by decide) ?_
  refine g_lconst (v := 1) dX12_from_3 (by decide) ?_
  refine g_callS [.long (Int32.toInt64 i), .long 0, .long 1] [] (z_in S i 0 1 (by decide) (by decide)) dX12_from_4 kk_X12_from_X12_in ml_RX12_54 swX12_in rfl rfl (Nat.le_of_ble_eq_true rfl) ?_
  rintro _ _ ⟨_, rfl, rfl, rfl⟩
  refine g_if_ne 15 dX12_from_7 (by decide) (fun h1 => ?_) (fun h1 => ?_)
  · have h1 := zs_b1 h1
    obtain ⟨i', i'a, i'b, rfl⟩ := zs_rng h1 (by omega)
    refine g_aload_n dX12_from_15 rfl rfl ?_
    refine g_getR 2 (83) (C := RX12) (T := TX12) (N := 19) dX12_from_16 (by decide) rfl rfl (by decide) rfl fl_RX12_16 ?_
    refine g_iload_n dX12_from_19 rfl rfl ?_
    refine g_ialdN (v := (nI 0)) dX12_from_20 (by decide) rfl (by omega) (by decide) (congrFun (F 83 (by decide)).1 i') ?_
    refine g_if_neN 29 dX12_from_21 (by decide) (by omega) (fun z => absurd z (by omega)) (fun _ => ?_)
    refine g_aload_n dX12_from_24 rfl rfl ?_
    refine g_callV (T := TX12) (NN := 19) [] (z_no S) dX12_from_25 kk_X12_from_X12_no ml_RX12_178 mwX12_no ewX12_no (by decide) rfl rfl rfl rfl (Nat.le_of_ble_eq_true rfl) ?_
    rintro _ S2 ⟨_, rfl, rfl⟩
    refine g_iret dX12_from_28 rfl rfl ?_
    exact ⟨_, rfl, (zs_it h1).symm⟩
  · have h1 := zs_b0 h1
    refine g_aload_n dX12_from_10 rfl rfl ?_
    refine g_callV (T := TX12) (NN := 19) [] (z_bad S) dX12_from_11 kk_X12_from_X12_bad ml_RX12_62 mwX12_bad ewX12_bad (by decide) rfl rfl rfl rfl (Nat.le_of_ble_eq_true rfl) ?_
    rintro _ S3 ⟨_, rfl, rfl⟩
    refine g_iret dX12_from_14 rfl rfl ?_
    exact ⟨_, rfl, (zs_ie (fun q => h1 q)).symm⟩
