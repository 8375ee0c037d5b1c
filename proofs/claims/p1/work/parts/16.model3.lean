set_option maxRecDepth 100000 in
theorem w_part (S : zs_S) (F : zs_F1 S) (w : Int32) : zs_Cl MX12_part [.ref 80, .int w] S (fun x _ => x = zs_jf (w = nI 0) 0 (zs_jf (w = nI 1) 1 (-2))) := by
  refine zs_C.of (by decide) (Nat.le_of_ble_eq_true rfl) ?_
  show zs_P MX12_part 0 [(0, .ref 80), (1, .int w)] [] S _
  refine g_iload_n dX12_part_0 rfl rfl ?_
  refine g_i2l dX12_part_1 rfl ?_
  refine g_lconst (v := 0) dX12_part_2 (by decide) ?_
  refine g_lconst (v := 1) dX12_part_3 (by decide) ?_
  refine g_callS [.long (Int32.toInt64 w), .long 0, .long 1] [] (z_in S w 0 1 (by decide) (by decide)) dX12_part_4 kk_X12_part_X12_in ml_RX12_54 swX12_in rfl rfl (Nat.le_of_ble_eq_true rfl) ?_
  rintro _ _ ⟨_, rfl, rfl, rfl⟩
  refine g_if_ne 16 dX12_part_7 (by decide) (fun h1 => ?_) (fun h1 => ?_)
  · have h1 := zs_b1 h1
    obtain ⟨w', w'a, w'b, rfl⟩ := zs_rng h1 (by omega)
    refine g_iload_n dX12_part_16 rfl rfl ?_
    refine g_if_neN 27 dX12_part_17 (by decide) (by omega) (fun h2 => ?_) (fun h2 => ?_)
    · refine g_aload_n dX12_part_27 rfl rfl ?_
      refine g_getL 13 (C := RX12) (T := TX12) (N := 19) dX12_part_28 (by decide) rfl rfl (by decide) rfl fl_RX12_23 ?_
      refine g_lret dX12_part_31 rfl ?_
      obtain rfl : w' = 1 := by omega
      exact ⟨_, rfl, (congrFun (F 80 (by decide)).2 13).trans ((zs_je (by decide)).trans (zs_jt rfl)).symm⟩
    · refine g_aload_n dX12_part_20 rfl rfl ?_
      refine g_getL 12 (C := RX12) (T := TX12) (N := 19) dX12_part_21 (by decide) rfl rfl (by decide) rfl fl_RX12_229 ?_
      refine g_goto 31 dX12_part_24 (by decide) ?_
      refine g_lret dX12_part_31 rfl ?_
      subst h2
      exact ⟨_, rfl, (congrFun (F 80 (by decide)).2 12).trans (zs_jt rfl).symm⟩
  · have h1 := zs_b0 h1
    refine g_aload_n dX12_part_10 rfl rfl ?_
    refine g_callV (T := TX12) (NN := 19) [] (z_bad S) dX12_part_11 kk_X12_part_X12_bad ml_RX12_62 mwX12_bad ewX12_bad (by decide) rfl rfl rfl rfl (Nat.le_of_ble_eq_true rfl) ?_
    rintro _ S3 ⟨_, rfl, rfl⟩
    refine g_i2l dX12_part_14 rfl ?_
    refine g_lret dX12_part_15 rfl ?_
    refine ⟨_, rfl, ?_⟩
    rw [zs_je (fun e => h1 (by rw [e]; exact ⟨by decide, by decide⟩)), zs_je (fun e => h1 (by rw [e]; exact ⟨by decide, by decide⟩))]
    show (_ : Int64) = _
    decide
set_option maxRecDepth 100000 in
theorem z_moves0 (S : zs_S) (v : Int32) (h : S.1 82 2 = nI 0) : zs_Ci MX12_movesOf [.ref 80, .int v] S (fun x S2 => x = nI 0 ∧ S = S2) := by
  refine zs_C.of (by decide) (Nat.le_of_ble_eq_true rfl) ?_
  show zs_P MX12_movesOf 0 [(0, .ref 80), (1, .int v)] [] S _
  refine g_iconst (v := (nI 0)) dX12_movesOf_0 rfl ?_
  refine g_istore_n (lv' := [(2, .int (nI 0)), (0, .ref 80), (1, .int v)]) dX12_movesOf_1 rfl (by decide) rfl ?_
  refine g_iconst (v := (nI 0)) dX12_movesOf_2 rfl ?_
  refine g_istore_n (lv' := [(3, .int (nI 0)), (2, .int (nI 0)), (0, .ref 80), (1, .int v)]) dX12_movesOf_3 rfl (by decide) rfl ?_
  refine g_iload_n dX12_movesOf_4 rfl rfl ?_
  refine g_aload_n dX12_movesOf_5 rfl rfl ?_
  refine g_getR 1 (82) (C := RX12) (T := TX12) (N := 19) dX12_movesOf_6 (by decide) rfl rfl (by decide) rfl fl_RX12_13 ?_
  refine g_iconst (v := (nI 2)) dX12_movesOf_9 rfl ?_
  refine g_ialdN (v := (nI 0)) dX12_movesOf_10 (by decide) rfl (by omega) (by decide) h ?_
  refine g_ic_geN 34 dX12_movesOf_11 (by decide) (by omega) (by omega) (fun _ => ?_) (fun z => absurd z (by omega))
  refine g_iload_n dX12_movesOf_34 rfl rfl ?_
  refine g_iret dX12_movesOf_35 rfl rfl ?_
  exact ⟨_, rfl, rfl, rfl⟩
set_option maxRecDepth 100000 in
theorem z_count0 (S : zs_S) (F : zs_F1 S) : zs_Ci MX12_countOf [.ref 80, .int (nI 0)] S (fun x S2 => x = nI 2 ∧ S = S2) := by
  refine zs_C.of (by decide) (Nat.le_of_ble_eq_true rfl) ?_
  show zs_P MX12_countOf 0 [(0, .ref 80), (1, .int (nI 0))] [] S _
  refine g_iload_n dX12_countOf_0 rfl rfl ?_
  refine g_if_neN 13 dX12_countOf_1 (by decide) (by omega) (fun z => absurd z (by omega)) (fun _ => ?_)
  refine g_aload_n dX12_countOf_4 rfl rfl ?_
  refine g_getR 1 (82) (C := RX12) (T := TX12) (N := 19) dX12_countOf_5 (by decide) rfl rfl (by decide) rfl fl_RX12_13 ?_
  refine g_iconst (v := (nI 0)) dX12_countOf_8 rfl ?_
  refine g_ialdN (v := (nI 2)) dX12_countOf_9 (by decide) rfl (by omega) (by decide) (congrFun (F 82 (by decide)).1 0) ?_
  refine g_goto 165 dX12_countOf_10 (by decide) ?_
  refine g_iret dX12_countOf_165 rfl rfl ?_
  exact ⟨_, rfl, rfl, rfl⟩
set_option maxRecDepth 100000 in
theorem z_count1 (S : zs_S) (F : zs_F1 S) : zs_Ci MX12_countOf [.ref 80, .int (nI 1)] S (fun x S2 => x = nI 0 ∧ S = S2) := by
  refine zs_C.of (by decide) (Nat.le_of_ble_eq_true rfl) ?_
  show zs_P MX12_countOf 0 [(0, .ref 80), (1, .int (nI 1))] [] S _
  refine g_iload_n dX12_countOf_0 rfl rfl ?_
  refine g_if_neN 13 dX12_countOf_1 (by decide) (by omega) (fun _ => ?_) (fun z => absurd z (by omega))
  refine g_iload_n dX12_countOf_13 rfl rfl ?_
  refine g_iconst (v := (nI 1)) dX12_countOf_14 rfl ?_
  refine g_ic_neN 27 dX12_countOf_15 (by decide) (by omega) (by omega) (fun z => absurd z (by omega)) (fun _ => ?_)
  refine g_aload_n dX12_countOf_18 rfl rfl ?_
  refine g_getR 1 (82) (C := RX12) (T := TX12) (N := 19) dX12_countOf_19 (by decide) rfl rfl (by decide) rfl fl_RX12_13 ?_
  refine g_iconst (v := (nI 1)) dX12_countOf_22 rfl ?_
  refine g_ialdN (v := (nI 0)) dX12_countOf_23 (by decide) rfl (by omega) (by decide) (congrFun (F 82 (by decide)).1 1) ?_
  refine g_goto 165 dX12_countOf_24 (by decide) ?_
  refine g_iret dX12_countOf_165 rfl rfl ?_
  exact ⟨_, rfl, rfl, rfl⟩
set_option maxRecDepth 100000 in
theorem z_count2 (S : zs_S) (F : zs_F1 S) : zs_Ci MX12_countOf [.ref 80, .int (nI 2)] S (fun x S2 => x = nI 1 ∧ S = S2) := by
  refine zs_C.of (by decide) (Nat.le_of_ble_eq_true rfl) ?_
  show zs_P MX12_countOf 0 [(0, .ref 80), (1, .int (nI 2))] [] S _
  refine g_iload_n dX12_countOf_0 rfl rfl ?_
  refine g_if_neN 13 dX12_countOf_1 (by decide) (by omega) (fun _ => ?_) (fun z => absurd z (by omega))
  refine g_iload_n dX12_countOf_13 rfl rfl ?_
  refine g_iconst (v := (nI 1)) dX12_countOf_14 rfl ?_
  refine g_ic_neN 27 dX12_countOf_15 (by decide) (by omega) (by omega) (fun _ => ?_) (fun z => absurd z (by omega))
  refine g_iload_n dX12_countOf_27 rfl rfl ?_
  refine g_iconst (v := (nI 2)) dX12_countOf_28 rfl ?_
  refine g_ic_neN 41 dX12_countOf_29 (by decide) (by omega) (by omega) (fun z => absurd z (by omega)) (fun _ => ?_)
  refine g_aload_n dX12_countOf_32 rfl rfl ?_
  refine g_getR 0 (81) (C := RX12) (T := TX12) (N := 19) dX12_countOf_33 (by decide) rfl rfl (by decide) rfl fl_RX12_7 ?_
  refine g_iconst (v := (nI 2)) dX12_countOf_36 rfl ?_
  refine g_ialdN (v := (nI 1)) dX12_countOf_37 (by decide) rfl (by omega) (by decide) (congrFun (F 81 (by decide)).1 2) ?_
  refine g_goto 165 dX12_countOf_38 (by decide) ?_
  refine g_iret dX12_countOf_165 rfl rfl ?_
  exact ⟨_, rfl, rfl, rfl⟩
set_option maxRecDepth 100000 in
theorem z_count3 (S : zs_S) (F : zs_F1 S) : zs_Ci MX12_countOf [.ref 80, .int (nI 3)] S (fun x S2 => x = nI 0 ∧ S = S2) := by
  refine zs_C.of (by decide) (Nat.le_of_ble_eq_true rfl) ?_
  show zs_P MX12_countOf 0 [(0, .ref 80), (1, .int (nI 3))] [] S _
  refine g_iload_n dX12_countOf_0 rfl rfl ?_
  refine g_if_neN 13 dX12_countOf_1 (by decide) (by omega) (fun _ => ?_) (fun z => absurd z (by omega))
  refine g_iload_n dX12_countOf_13 rfl rfl ?_
  refine g_iconst (v := (nI 1)) dX12_countOf_14 rfl ?_
  refine g_ic_neN 27 dX12_countOf_15 (by decide) (by omega) (by omega) (fun _ => ?_) (fun z => absurd z (by omega))
  refine g_iload_n dX12_countOf_27 rfl rfl ?_
  refine g_iconst (v := (nI 2)) dX12_countOf_28 rfl ?_
  refine g_ic_neN 41 dX12_countOf_29 (by decide) (by omega) (by omega) (fun _ => ?_) (fun z => absurd z (by omega))
  refine g_iload_n dX12_countOf_41 rfl rfl ?_
  refine g_iconst (v := (nI 3)) dX12_countOf_42 rfl ?_
  refine g_ic_neN 55 dX12_countOf_43 (by decide) (by omega) (by omega) (fun z => absurd z (by omega)) (fun _ => ?_)
  refine g_aload_n dX12_countOf_46 rfl rfl ?_
  refine g_getR 0 (81) (C := RX12) (T := TX12) (N := 19) dX12_countOf_47 (by decide) rfl rfl (by decide) rfl fl_RX12_7 ?_
  refine g_iconst (v := (nI 0)) dX12_countOf_50 rfl ?_
  refine g_ialdN (v := (nI 0)) dX12_countOf_51 (by decide) rfl (by omega) (by decide) (congrFun (F 81 (by decide)).1 0) ?_
  refine g_goto 165 dX12_countOf_52 (by decide) ?_
  refine g_iret dX12_countOf_165 rfl rfl ?_
  exact ⟨_, rfl, rfl, rfl⟩
set_option maxRecDepth 100000 in
theorem z_count4 (S : zs_S) (F : zs_F1 S) : zs_Ci MX12_countOf [.ref 80, .int (nI 4)] S (fun x S2 => x = nI 0 ∧ S = S2) := by
  refine zs_C.of (by decide) (Nat.le_of_ble_eq_true rfl) ?_
  show zs_P MX12_countOf 0 [(0, .ref 80), (1, .int (nI 4))] [] S _
  refine g_iload_n dX12_countOf_0 rfl rfl ?_
  refine g_if_neN 13 dX12_countOf_1 (by decide) (by omega) (fun _ => ?_) (fun z => absurd z (by omega))
  refine g_iload_n dX12_countOf_13 rfl rfl ?_
  refine g_iconst (v := (nI 1)) dX12_countOf_14 rfl ?_
  refine g_ic_neN 27 dX12_countOf_15 (by decide) (by omega) (by omega) (fun _ => ?_) (fun z => absurd z (by omega))
  refine g_iload_n dX12_countOf_27 rfl rfl ?_
  refine g_iconst (v := (nI 2)) dX12_countOf_28 rfl ?_
  refine g_ic_neN 41 dX12_countOf_29 (by decide) (by omega) (by omega) (fun _ => ?_) (fun z => absurd z (by omega))
  refine g_iload_n dX12_countOf_41 rfl rfl ?_
  refine g_iconst (v := (nI 3)) dX12_countOf_42 rfl ?_
  refine g_ic_neN 55 dX12_countOf_43 (by decide) (by omega) (by omega) (fun _ => ?_) (fun z => absurd z (by omega))
  refine g_iload_n dX12_countOf_55 rfl rfl ?_
  refine g_iconst (v := (nI 4)) dX12_countOf_56 rfl ?_
  refine g_ic_neN 69 dX12_countOf_57 (by decide) (by omega) (by omega) (fun z => absurd z (by omega)) (fun _ => ?_)
  refine g_aload_n dX12_countOf_60 rfl rfl ?_
  refine g_getR 0 (81) (C := RX12) (T := TX12) (N := 19) dX12_countOf_61 (by decide) rfl rfl (by decide) rfl fl_RX12_7 ?_
  refine g_iconst (v := (nI 1)) dX12_countOf_64 rfl ?_
  refine g_ialdN (v := (nI 0)) dX12_countOf_65 (by decide) rfl (by omega) (by decide) (congrFun (F 81 (by decide)).1 1) ?_
  refine g_goto 165 dX12_countOf_66 (by decide) ?_
  refine g_iret dX12_countOf_165 rfl rfl ?_
  exact ⟨_, rfl, rfl, rfl⟩
set_option maxRecDepth 100000 in
theorem z_count5 (S : zs_S) (F : zs_F1 S) : zs_Ci MX12_countOf [.ref 80, .int (nI 5)] S (fun x S2 => x = nI 0 ∧ S = S2) := by
  refine zs_C.of (by decide) (Nat.le_of_ble_eq_true rfl) ?_
  show zs_P MX12_countOf 0 [(0, .ref 80), (1, .int (nI 5))] [] S _
  refine g_iload_n dX12_countOf_0 rfl rfl ?_
  refine g_if_neN 13 dX12_countOf_1 (by decide) (by omega) (fun _ => ?_) (fun z => absurd z (by omega))
  refine g_iload_n dX12_countOf_13 rfl rfl ?_
  refine g_iconst (v := (nI 1)) dX12_countOf_14 rfl ?_
  refine g_ic_neN 27 dX12_countOf_15 (by decide) (by omega) (by omega) (fun _ => ?_) (fun z => absurd z (by omega))
  refine g_iload_n dX12_countOf_27 rfl rfl ?_
  refine g_iconst (v := (nI 2)) dX12_countOf_28 rfl ?_
  refine g_ic_neN 41 dX12_countOf_29 (by decide) (by omega) (by omega) (fun _ => ?_) (fun z => absurd z (by omega))
  refine g_iload_n dX12_countOf_41 rfl rfl ?_
  refine g_iconst (v := (nI 3)) dX12_countOf_42 rfl ?_
  refine g_ic_neN 55 dX12_countOf_43 (by decide) (by omega) (by omega) (fun _ => ?_) (fun z => absurd z (by omega))
  refine g_iload_n dX12_countOf_55 rfl rfl ?_
  refine g_iconst (v := (nI 4)) dX12_countOf_56 rfl ?_
  refine g_ic_neN 69 dX12_countOf_57 (by decide) (by omega) (by omega) (fun _ => ?_) (fun z => absurd z (by omega))
  refine g_iload_n dX12_countOf_69 rfl rfl ?_
  refine g_iconst (v := (nI 5)) dX12_countOf_70 rfl ?_
  refine g_ic_neN 83 dX12_countOf_71 (by decide) (by omega) (by omega) (fun z => absurd z (by omega)) (fun _ => ?_)
  refine g_aload_n dX12_countOf_74 rfl rfl ?_
  refine g_getR 1 (82) (C := RX12) (T := TX12) (N := 19) dX12_countOf_75 (by decide) rfl rfl (by decide) rfl fl_RX12_13 ?_
  refine g_iconst (v := (nI 2)) dX12_countOf_78 rfl ?_
  refine g_ialdN (v := (nI 0)) dX12_countOf_79 (by decide) rfl (by omega) (by decide) (congrFun (F 82 (by decide)).1 2) ?_
  refine g_goto 165 dX12_countOf_80 (by decide) ?_
  refine g_iret dX12_countOf_165 rfl rfl ?_
  exact ⟨_, rfl, rfl, rfl⟩
set_option maxRecDepth 100000 in
theorem z_count6 (S : zs_S) (F : zs_F1 S) : zs_Ci MX12_countOf [.ref 80, .int (nI 6)] S (fun x S2 => x = nI 0 ∧ S = S2) := by
  refine zs_C.of (by decide) (Nat.le_of_ble_eq_true rfl) ?_
  show zs_P MX12_countOf 0 [(0, .ref 80), (1, .int (nI 6))] [] S _
  refine g_iload_n dX12_countOf_0 rfl rfl ?_
  refine g_if_neN 13 dX12_countOf_1 (by decide) (by omega) (fun _ => ?_) (fun z => absurd z (by omega))
  refine g_iload_n dX12_countOf_13 rfl rfl ?_
  refine g_iconst (v := (nI 1)) dX12_countOf_14 rfl ?_
  refine g_ic_neN 27 dX12_countOf_15 (by decide) (by omega) (by omega) (fun _ => ?_) (fun z => absurd z (by omega))
  refine g_iload_n dX12_countOf_27 rfl rfl ?_
  refine g_iconst (v := (nI 2)) dX12_countOf_28 rfl ?_
  refine g_ic_neN 41 dX12_countOf_29 (by decide) (by omega) (by omega) (fun _ => ?_) (fun z => absurd z (by omega))
  refine g_iload_n dX12_countOf_41 rfl rfl ?_
  refine g_iconst (v := (nI 3)) dX12_countOf_42 rfl ?_
  refine g_ic_neN 55 dX12_countOf_43 (by decide) (by omega) (by omega) (fun _ => ?_) (fun z => absurd z (by omega))
  refine g_iload_n dX12_countOf_55 rfl rfl ?_
  refine g_iconst (v := (nI 4)) dX12_countOf_56 rfl ?_
  refine g_ic_neN 69 dX12_countOf_57 (by decide) (by omega) (by omega) (fun _ => ?_) (fun z => absurd z (by omega))
  refine g_iload_n dX12_countOf_69 rfl rfl ?_
  refine g_iconst (v := (nI 5)) dX12_countOf_70 rfl ?_
  refine g_ic_neN 83 dX12_countOf_71 (by decide) (by omega) (by omega) (fun _ => ?_) (fun z => absurd z (by omega))
  refine g_iload_n dX12_countOf_83 rfl rfl ?_
  refine g_bipush (v := (nI 6)) dX12_countOf_84 rfl ?_
  refine g_ic_neN 97 dX12_countOf_86 (by decide) (by omega) (by omega) (fun z => absurd z (by omega)) (fun _ => ?_)
  refine g_aload_n dX12_countOf_89 rfl rfl ?_
  refine g_iconst (v := (nI 0)) dX12_countOf_90 rfl ?_
  refine g_callV (T := TX12) (NN := 19) [] (z_moves0 S (nI 0) (congrFun (F 82 (by decide)).1 2)) dX12_countOf_91 kk_X12_countOf_X12_movesOf ml_RX12_242 mwX12_movesOf ewX12_movesOf (by decide) rfl rfl rfl rfl (Nat.le_of_ble_eq_true rfl) ?_
  rintro _ _ ⟨_, rfl, rfl, rfl⟩
  refine g_goto 165 dX12_countOf_94 (by decide) ?_
  refine g_iret dX12_countOf_165 rfl rfl ?_
  exact ⟨_, rfl, rfl, rfl⟩
set_option maxRecDepth 100000 in
theorem z_count7 (S : zs_S) (F : zs_F1 S) : zs_Ci MX12_countOf [.ref 80, .int (nI 7)] S (fun x S2 => x = nI 0 ∧ S = S2) := by
  refine zs_C.of (by decide) (Nat.le_of_ble_eq_true rfl) ?_
  show zs_P MX12_countOf 0 [(0, .ref 80), (1, .int (nI 7))] [] S _
  refine g_iload_n dX12_countOf_0 rfl rfl ?_
  refine g_if_neN 13 dX12_countOf_1 (by decide) (by omega) (fun _ => ?_) (fun z => absurd z (by omega))
  refine g_iload_n dX12_countOf_13 rfl rfl ?_
  refine g_iconst (v := (nI 1)) dX12_countOf_14 rfl ?_
  refine g_ic_neN 27 dX12_countOf_15 (by decide) (by omega) (by omega) (fun _ => ?_) (fun z => absurd z (by omega))
  refine g_iload_n dX12_countOf_27 rfl rfl ?_
  refine g_iconst (v := (nI 2)) dX12_countOf_28 rfl ?_
  refine g_ic_neN 41 dX12_countOf_29 (by decide) (by omega) (by omega) (fun _ => ?_) (fun z => absurd z (by omega))
  refine g_iload_n dX12_countOf_41 rfl rfl ?_
  refine g_iconst (v := (nI 3)) dX12_countOf_42 rfl ?_
  refine g_ic_neN 55 dX12_countOf_43 (by decide) (by omega) (by omega) (fun _ => ?_) (fun z => absurd z (by omega))
  refine g_iload_n dX12_countOf_55 rfl rfl ?_
  refine g_iconst (v := (nI 4)) dX12_countOf_56 rfl ?_
  refine g_ic_neN 69 dX12_countOf_57 (by decide) (by omega) (by omega) (fun _ => ?_) (fun z => absurd z (by omega))
  refine g_iload_n dX12_countOf_69 rfl rfl ?_
  refine g_iconst (v := (nI 5)) dX12_countOf_70 rfl ?_
  refine g_ic_neN 83 dX12_countOf_71 (by decide) (by omega) (by omega) (fun _ => ?_) (fun z => absurd z (by omega))
  refine g_iload_n dX12_countOf_83 rfl rfl ?_
  refine g_bipush (v := (nI 6)) dX12_countOf_84 rfl ?_
  refine g_ic_neN 97 dX12_countOf_86 (by decide) (by omega) (by omega) (fun _ => ?_) (fun z => absurd z (by omega))
  refine g_iload_n dX12_countOf_97 rfl rfl ?_
  refine g_bipush (v := (nI 7)) dX12_countOf_98 rfl ?_
  refine g_ic_neN 113 dX12_countOf_100 (by decide) (by omega) (by omega) (fun z => absurd z (by omega)) (fun _ => ?_)
  refine g_aload_n dX12_countOf_103 rfl rfl ?_
  refine g_getR 1 (82) (C := RX12) (T := TX12) (N := 19) dX12_countOf_104 (by decide) rfl rfl (by decide) rfl fl_RX12_13 ?_
  refine g_bipush (v := (nI 8)) dX12_countOf_107 rfl ?_
  refine g_ialdN (v := (nI 0)) dX12_countOf_109 (by decide) rfl (by omega) (by decide) (congrFun (F 82 (by decide)).1 8) ?_
  refine g_goto 165 dX12_countOf_110 (by decide) ?_
  refine g_iret dX12_countOf_165 rfl rfl ?_
  exact ⟨_, rfl, rfl, rfl⟩
set_option maxRecDepth 100000 in
theorem z_count8 (S : zs_S) (F : zs_F1 S) : zs_Ci MX12_countOf [.ref 80, .int (nI 8)] S (fun x S2 => x = nI 0 ∧ S = S2) := by
  refine zs_C.of (by decide) (Nat.le_of_ble_eq_true rfl) ?_
  show zs_P MX12_countOf 0 [(0, .ref 80), (1, .int (nI 8))] [] S _
  refine g_iload_n dX12_countOf_0 rfl rfl ?_
  refine g_if_neN 13 dX12_countOf_1 (by decide) (by omega) (fun _ => ?_) (fun z => absurd z (by omega))
  refine g_iload_n dX12_countOf_13 rfl rfl ?_
  refine g_iconst (v := (nI 1)) dX12_countOf_14 rfl ?_
  refine g_ic_neN 27 dX12_countOf_15 (by decide) (by omega) (by omega) (fun _ => ?_) (fun z => absurd z (by omega))
  refine g_iload_n dX12_countOf_27 rfl rfl ?_
  refine g_iconst (v := (nI 2)) dX12_countOf_28 rfl ?_
  refine g_ic_neN 41 dX12_countOf_29 (by decide) (by omega) (by omega) (fun _ => ?_) (fun z => absurd z (by omega))
  refine g_iload_n dX12_countOf_41 rfl rfl ?_
  refine g_iconst (v := (nI 3)) dX12_countOf_42 rfl ?_
  refine g_ic_neN 55 dX12_countOf_43 (by decide) (by omega) (by omega) (fun _ => ?_) (fun z => absurd z (by omega))
  refine g_iload_n dX12_countOf_55 rfl rfl ?_
  refine g_iconst (v := (nI 4)) dX12_countOf_56 rfl ?_
  refine g_ic_neN 69 dX12_countOf_57 (by decide) (by omega) (by omega) (fun _ => ?_) (fun z => absurd z (by omega))
  refine g_iload_n dX12_countOf_69 rfl rfl ?_
  refine g_iconst (v := (nI 5)) dX12_countOf_70 rfl ?_
  refine g_ic_neN 83 dX12_countOf_71 (by decide) (by omega) (by omega) (fun _ => ?_) (fun z => absurd z (by omega))
  refine g_iload_n dX12_countOf_83 rfl rfl ?_
  refine g_bipush (v := (nI 6)) dX12_countOf_84 rfl ?_
  refine g_ic_neN 97 dX12_countOf_86 (by decide) (by omega) (by omega) (fun _ => ?_) (fun z => absurd z (by omega))
  refine g_iload_n dX12_countOf_97 rfl rfl ?_
  refine g_bipush (v := (nI 7)) dX12_countOf_98 rfl ?_
  refine g_ic_neN 113 dX12_countOf_100 (by decide) (by omega) (by omega) (fun _ => ?_) (fun z => absurd z (by omega))
  refine g_iload_n dX12_countOf_113 rfl rfl ?_
  refine g_bipush (v := (nI 8)) dX12_countOf_114 rfl ?_
  refine g_ic_neN 129 dX12_countOf_116 (by decide) (by omega) (by omega) (fun z => absurd z (by omega)) (fun _ => ?_)
  refine g_aload_n dX12_countOf_119 rfl rfl ?_
  refine g_getR 1 (82) (C := RX12) (T := TX12) (N := 19) dX12_countOf_120 (by decide) rfl rfl (by decide) rfl fl_RX12_13 ?_
  refine g_bipush (v := (nI 21)) dX12_countOf_123 rfl ?_
  refine g_ialdN (v := (nI 0)) dX12_countOf_125 (by decide) rfl (by omega) (by decide) (congrFun (F 82 (by decide)).1 21) ?_
  refine g_goto 165 dX12_countOf_126 (by decide) ?_
  refine g_iret dX12_countOf_165 rfl rfl ?_
  exact ⟨_, rfl, rfl, rfl⟩
set_option maxRecDepth 100000 in
theorem z_count9 (S : zs_S) (F : zs_F1 S) : zs_Ci MX12_countOf [.ref 80, .int (nI 9)] S (fun x S2 => x = nI 0 ∧ S = S2) := by
  refine zs_C.of (by decide) (Nat.le_of_ble_eq_true rfl) ?_
  show zs_P MX12_countOf 0 [(0, .ref 80), (1, .int (nI 9))] [] S _
  refine g_iload_n dX12_countOf_0 rfl rfl ?_
  refine g_if_neN 13 dX12_countOf_1 (by decide) (by omega) (fun _ => ?_) (fun z => absurd z (by omega))
  refine g_iload_n dX12_countOf_13 rfl rfl ?_
  refine g_iconst (v := (nI 1)) dX12_countOf_14 rfl ?_
  refine g_ic_neN 27 dX12_countOf_15 (by decide) (by omega) (by omega) (fun _ => ?_) (fun z => absurd z (by omega))
  refine g_iload_n dX12_countOf_27 rfl rfl ?_
  refine g_iconst (v := (nI 2)) dX12_countOf_28 rfl ?_
  refine g_ic_neN 41 dX12_countOf_29 (by decide) (by omega) (by omega) (fun _ => ?_) (fun z => absurd z (by omega))
  refine g_iload_n dX12_countOf_41 rfl rfl ?_
  refine g_iconst (v := (nI 3)) dX12_countOf_42 rfl ?_
  refine g_ic_neN 55 dX12_countOf_43 (by decide) (by omega) (by omega) (fun _ => ?_) (fun z => absurd z (by omega))
  refine g_iload_n dX12_countOf_55 rfl rfl ?_
  refine g_iconst (v := (nI 4)) dX12_countOf_56 rfl ?_
  refine g_ic_neN 69 dX12_countOf_57 (by decide) (by omega) (by omega) (fun _ => ?_) (fun z => absurd z (by omega))
  refine g_iload_n dX12_countOf_69 rfl rfl ?_
  refine g_iconst (v := (nI 5)) dX12_countOf_70 rfl ?_
  refine g_ic_neN 83 dX12_countOf_71 (by decide) (by omega) (by omega) (fun _ => ?_) (fun z => absurd z (by omega))
  refine g_iload_n dX12_countOf_83 rfl rfl ?_
  refine g_bipush (v := (nI 6)) dX12_countOf_84 rfl ?_
  refine g_ic_neN 97 dX12_countOf_86 (by decide) (by omega) (by omega) (fun _ => ?_) (fun z => absurd z (by omega))
  refine g_iload_n dX12_countOf_97 rfl rfl ?_
  refine g_bipush (v := (nI 7)) dX12_countOf_98 rfl ?_
  refine g_ic_neN 113 dX12_countOf_100 (by decide) (by omega) (by omega) (fun _ => ?_) (fun z => absurd z (by omega))
  refine g_iload_n dX12_countOf_113 rfl rfl ?_
  refine g_bipush (v := (nI 8)) dX12_countOf_114 rfl ?_
  refine g_ic_neN 129 dX12_countOf_116 (by decide) (by omega) (by omega) (fun _ => ?_) (fun z => absurd z (by omega))
  refine g_iload_n dX12_countOf_129 rfl rfl ?_
  refine g_bipush (v := (nI 9)) dX12_countOf_130 rfl ?_
  refine g_ic_neN 145 dX12_countOf_132 (by decide) (by omega) (by omega) (fun z => absurd z (by omega)) (fun _ => ?_)
  refine g_aload_n dX12_countOf_135 rfl rfl ?_
  refine g_getR 1 (82) (C := RX12) (T := TX12) (N := 19) dX12_countOf_136 (by decide) rfl rfl (by decide) rfl fl_RX12_13 ?_
  refine g_bipush (v := (nI 46)) dX12_countOf_139 rfl ?_
  refine g_ialdN (v := (nI 0)) dX12_countOf_141 (by decide) rfl (by omega) (by decide) (congrFun (F 82 (by decide)).1 46) ?_
  refine g_goto 165 dX12_countOf_142 (by decide) ?_
  refine g_iret dX12_countOf_165 rfl rfl ?_
  exact ⟨_, rfl, rfl, rfl⟩
set_option maxRecDepth 100000 in
theorem z_count10 (S : zs_S) (F : zs_F1 S) : zs_Ci MX12_countOf [.ref 80, .int (nI 10)] S (fun x S2 => x = nI 0 ∧ S = S2) := by
  refine zs_C.of (by decide) (Nat.le_of_ble_eq_true rfl) ?_
  show zs_P MX12_countOf 0 [(0, .ref 80), (1, .int (nI 10))] [] S _
  refine g_iload_n dX12_countOf_0 rfl rfl ?_
  refine g_if_neN 13 dX12_countOf_1 (by decide) (by omega) (fun _ => ?_) (fun z => absurd z (by omega))
  refine g_iload_n dX12_countOf_13 rfl rfl ?_
  refine g_iconst (v := (nI 1)) dX12_countOf_14 rfl ?_
  refine g_ic_neN 27 dX12_countOf_15 (by decide) (by omega) (by omega) (fun _ => ?_) (fun z => absurd z (by omega))
  refine g_iload_n dX12_countOf_27 rfl rfl ?_
  refine g_iconst (v := (nI 2)) dX12_countOf_28 rfl ?_
  refine g_ic_neN 41 dX12_countOf_29 (by decide) (by omega) (by omega) (fun _ => ?_) (fun z => absurd z (by omega))
  refine g_iload_n dX12_countOf_41 rfl rfl ?_
  refine g_iconst (v := (nI 3)) dX12_countOf_42 rfl ?_
  refine g_ic_neN 55 dX12_countOf_43 (by decide) (by omega) (by omega) (fun _ => ?_) (fun z => absurd z (by omega))
  refine g_iload_n dX12_countOf_55 rfl rfl ?_
  refine g_iconst (v := (nI 4)) dX12_countOf_56 rfl ?_
  refine g_ic_neN 69 dX12_countOf_57 (by decide) (by omega) (by omega) (fun _ => ?_) (fun z => absurd z (by omega))
  refine g_iload_n dX12_countOf_69 rfl rfl ?_
  refine g_iconst (v := (nI 5)) dX12_countOf_70 rfl ?_
  refine g_ic_neN 83 dX12_countOf_71 (by decide) (by omega) (by omega) (fun _ => ?_) (fun z => absurd z (by omega))
  refine g_iload_n dX12_countOf_83 rfl rfl ?_
  refine g_bipush (v := (nI 6)) dX12_countOf_84 rfl ?_
  refine g_ic_neN 97 dX12_countOf_86 (by decide) (by omega) (by omega) (fun _ => ?_) (fun z => absurd z (by omega))
  refine g_iload_n dX12_countOf_97 rfl rfl ?_
  refine g_bipush (v := (nI 7)) dX12_countOf_98 rfl ?_
  refine g_ic_neN 113 dX12_countOf_100 (by decide) (by omega) (by omega) (fun _ => ?_) (fun z => absurd z (by omega))
  refine g_iload_n dX12_countOf_113 rfl rfl ?_
  refine g_bipush (v := (nI 8)) dX12_countOf_114 rfl ?_
  refine g_ic_neN 129 dX12_countOf_116 (by decide) (by omega) (by omega) (fun _ => ?_) (fun z => absurd z (by omega))
  refine g_iload_n dX12_countOf_129 rfl rfl ?_
  refine g_bipush (v := (nI 9)) dX12_countOf_130 rfl ?_
  refine g_ic_neN 145 dX12_countOf_132 (by decide) (by omega) (by omega) (fun _ => ?_) (fun z => absurd z (by omega))
  refine g_iload_n dX12_countOf_145 rfl rfl ?_
  refine g_bipush (v := (nI 10)) dX12_countOf_146 rfl ?_
  refine g_ic_neN 161 dX12_countOf_148 (by decide) (by omega) (by omega) (fun z => absurd z (by omega)) (fun _ => ?_)
  refine g_aload_n dX12_countOf_151 rfl rfl ?_
  refine g_getR 1 (82) (C := RX12) (T := TX12) (N := 19) dX12_countOf_152 (by decide) rfl rfl (by decide) rfl fl_RX12_13 ?_
  refine g_bipush (v := (nI 65)) dX12_countOf_155 rfl ?_
  refine g_ialdN (v := (nI 0)) dX12_countOf_157 (by decide) rfl (by omega) (by decide) (congrFun (F 82 (by decide)).1 65) ?_
  refine g_goto 165 dX12_countOf_158 (by decide) ?_
  refine g_iret dX12_countOf_165 rfl rfl ?_
  exact ⟨_, rfl, rfl, rfl⟩
set_option maxRecDepth 100000 in
theorem z_count11 (S : zs_S) (F : zs_F1 S) : zs_Ci MX12_countOf [.ref 80, .int (nI 11)] S (fun x S2 => x = nI 0 ∧ S = S2) := by
  refine zs_C.of (by decide) (Nat.le_of_ble_eq_true rfl) ?_
  show zs_P MX12_countOf 0 [(0, .ref 80), (1, .int (nI 11))] [] S _
  refine g_iload_n dX12_countOf_0 rfl rfl ?_
  refine g_if_neN 13 dX12_countOf_1 (by decide) (by omega) (fun _ => ?_) (fun z => absurd z (by omega))
  refine g_iload_n dX12_countOf_13 rfl rfl ?_
  refine g_iconst (v := (nI 1)) dX12_countOf_14 rfl ?_
  refine g_ic_neN 27 dX12_countOf_15 (by decide) (by omega) (by omega) (fun _ => ?_) (fun z => absurd z (by omega))
  refine g_iload_n dX12_countOf_27 rfl rfl ?_
  refine g_iconst (v := (nI 2)) dX12_countOf_28 rfl ?_
  refine g_ic_neN 41 dX12_countOf_29 (by decide) (by omega) (by omega) (fun _ => ?_) (fun z => absurd z (by omega))
  refine g_iload_n dX12_countOf_41 rfl rfl ?_
  refine g_iconst (v := (nI 3)) dX12_countOf_42 rfl ?_
  refine g_ic_neN 55 dX12_countOf_43 (by decide) (by omega) (by omega) (fun _ => ?_) (fun z => absurd z (by omega))
  refine g_iload_n dX12_countOf_55 rfl rfl ?_
  refine g_iconst (v := (nI 4)) dX12_countOf_56 rfl ?_
  refine g_ic_neN 69 dX12_countOf_57 (by decide) (by omega) (by omega) (fun _ => ?_) (fun z => absurd z (by omega))
  refine g_iload_n dX12_countOf_69 rfl rfl ?_
  refine g_iconst (v := (nI 5)) dX12_countOf_70 rfl ?_
  refine g_ic_neN 83 dX12_countOf_71 (by decide) (by omega) (by omega) (fun _ => ?_) (fun z => absurd z (by omega))
  refine g_iload_n dX12_countOf_83 rfl rfl ?_
  refine g_bipush (v := (nI 6)) dX12_countOf_84 rfl ?_
  refine g_ic_neN 97 dX12_countOf_86 (by decide) (by omega) (by omega) (fun _ => ?_) (fun z => absurd z (by omega))
  refine g_iload_n dX12_countOf_97 rfl rfl ?_
  refine g_bipush (v := (nI 7)) dX12_countOf_98 rfl ?_
  refine g_ic_neN 113 dX12_countOf_100 (by decide) (by omega) (by omega) (fun _ => ?_) (fun z => absurd z (by omega))
  refine g_iload_n dX12_countOf_113 rfl rfl ?_
  refine g_bipush (v := (nI 8)) dX12_countOf_114 rfl ?_
  refine g_ic_neN 129 dX12_countOf_116 (by decide) (by omega) (by omega) (fun _ => ?_) (fun z => absurd z (by omega))
  refine g_iload_n dX12_countOf_129 rfl rfl ?_
  refine g_bipush (v := (nI 9)) dX12_countOf_130 rfl ?_
  refine g_ic_neN 145 dX12_countOf_132 (by decide) (by omega) (by omega) (fun _ => ?_) (fun z => absurd z (by omega))
  refine g_iload_n dX12_countOf_145 rfl rfl ?_
  refine g_bipush (v := (nI 10)) dX12_countOf_146 rfl ?_
  refine g_ic_neN 161 dX12_countOf_148 (by decide) (by omega) (by omega) (fun _ => ?_) (fun z => absurd z (by omega))
  refine g_aload_n dX12_countOf_161 rfl rfl ?_
  refine g_getV 3 (C := RX12) (T := TX12) (N := 19) (v := (nI 0)) dX12_countOf_162 (by decide) rfl rfl (by decide) rfl fl_RX12_75 (congrFun (F 80 (by decide)).1 3) ?_
  refine g_iret dX12_countOf_165 rfl rfl ?_
  exact ⟨_, rfl, rfl, rfl⟩
theorem z_countOf (S : zs_S) (F : zs_F1 S) (k : Nat) (hk : k ≤ 11) : zs_Ci MX12_countOf [.ref 80, .int (nI k)] S (fun x S2 => x = zs_cn (nI k) ∧ S = S2) := by
  match k, hk with
  | 0, _ => exact z_count0 S F
  | 1, _ => exact z_count1 S F
  | 2, _ => exact z_count2 S F
  | 3, _ => exact z_count3 S F
  | 4, _ => exact z_count4 S F
  | 5, _ => exact z_count5 S F
  | 6, _ => exact z_count6 S F
  | 7, _ => exact z_count7 S F
  | 8, _ => exact z_count8 S F
  | 9, _ => exact z_count9 S F
  | 10, _ => exact z_count10 S F
  | 11, _ => exact z_count11 S F
set_option maxRecDepth 100000 in
theorem w_count (S : zs_S) (F : zs_F1 S) (w : Int32) : zs_Ci MX12_count [.ref 80, .int w] S (fun x _ => x = zs_if (nI 0 ≤ w ∧ w ≤ nI 11) (zs_cn w) (-2)) := by
  refine zs_C.of (by decide) (Nat.le_of_ble_eq_true rfl) ?_
  show zs_P MX12_count 0 [(0, .ref 80), (1, .int w)] [] S _
  refine g_iload_n dX12_count_0 rfl rfl ?_
  refine g_i2l dX12_count_1 rfl ?_
  refine g_lconst (v := 0) dX12_count_2 (by decide) ?_
  refine g_ldc2 (v := 11) dX12_count_3 cl_RX12_60 ?_
  refine g_callS [.long (Int32.toInt64 w), .long 0, .long 11] [] (z_in S w 0 11 (by decide) (by decide)) dX12_count_6 kk_X12_count_X12_in ml_RX12_54 swX12_in rfl rfl (Nat.le_of_ble_eq_true rfl) ?_
  rintro _ _ ⟨_, rfl, rfl, rfl⟩
  refine g_if_eq 20 dX12_count_9 (by decide) (fun h1 => ?_) (fun h1 => ?_)
  · have h1 := zs_b0 h1
    refine g_aload_n dX12_count_20 rfl rfl ?_
    refine g_callV (T := TX12) (NN := 19) [] (z_bad S) dX12_count_21 kk_X12_count_X12_bad ml_RX12_62 mwX12_bad ewX12_bad (by decide) rfl rfl rfl rfl (Nat.le_of_ble_eq_true rfl) ?_
    rintro _ S2 ⟨_, rfl, rfl⟩
    refine g_iret dX12_count_24 rfl rfl ?_
    exact ⟨_, rfl, (zs_ie (fun q => h1 q)).symm⟩
  · have h1 := zs_b1 h1
    obtain ⟨w', w'a, w'b, rfl⟩ := zs_rng h1 (by omega)
    refine g_aload_n dX12_count_12 rfl rfl ?_
    refine g_iload_n dX12_count_13 rfl rfl ?_
    refine g_callV (T := TX12) (NN := 19) [] (z_countOf S F w' (by omega)) dX12_count_14 kk_X12_count_X12_countOf ml_RX12_249 mwX12_countOf ewX12_countOf (by decide) rfl rfl rfl rfl (Nat.le_of_ble_eq_true rfl) ?_
    rintro _ _ ⟨_, rfl, rfl, rfl⟩
    refine g_goto 24 dX12_count_17 (by decide) ?_
    refine g_iret dX12_count_24 rfl rfl ?_
    exact ⟨_, rfl, (zs_it h1).symm⟩
set_option maxRecDepth 100000 in
theorem w_digest (S : zs_S) (F : zs_F1 S)  : zs_Cl MX12_digest [.ref 80] S (fun x _ => x = zs_dg) := by
  refine zs_C.of (by decide) (Nat.le_of_ble_eq_true rfl) ?_
  show zs_P MX12_digest 0 [(0, .ref 80)] [] S _
  refine g_ldc2 (v := 1787) dX12_digest_0 cl_RX12_252 ?_
  refine g_lstore_n (lv' := [(1, .long 1787), (0, .ref 80)]) dX12_digest_3 rfl (by decide) rfl ?_
  refine g_iconst (v := (nI 0)) dX12_digest_4 rfl ?_
  refine g_istore_n (lv' := [(3, .int (nI 0)), (1, .long 1787), (0, .ref 80)]) dX12_digest_5 rfl (by decide) rfl ?_
  refine g_iload_n dX12_digest_6 rfl rfl ?_
  refine g_bipush (v := (nI 12)) dX12_digest_7 rfl ?_
  refine g_ic_geN 31 dX12_digest_9 (by decide) (by omega) (by omega) (fun z => absurd z (by omega)) (fun _ => ?_)
  refine g_ldc2 (v := 31) dX12_digest_12 cl_RX12_254 ?_
  refine g_lload_n dX12_digest_15 rfl rfl ?_
  refine g_lmul dX12_digest_16 ?_
  refine g_aload_n dX12_digest_17 rfl rfl ?_
  refine g_iload_n dX12_digest_18 rfl rfl ?_
  refine g_callV (T := TX12) (NN := 19) [.long (31 * 1787)] (z_count0 S F) dX12_digest_19 kk_X12_digest_X12_countOf ml_RX12_249 mwX12_countOf ewX12_countOf (by decide) rfl rfl rfl rfl (Nat.le_of_ble_eq_true rfl) ?_
  rintro _ _ ⟨_, rfl, rfl, rfl⟩
  refine g_i2l dX12_digest_22 rfl ?_
  refine g_ladd dX12_digest_23 ?_
  refine g_lstore_n (lv' := [(1, .long ((31 * 1787) + (Int32.toInt64 (nI 2)))), (3, .int (nI 0)), (0, .ref 80)]) dX12_digest_24 rfl (by decide) rfl ?_
  refine g_iinc (v := (nI 1)) (lv' := [(3, .int (nI 1)), (1, .long ((31 * 1787) + (Int32.toInt64 (nI 2)))), (0, .ref 80)]) dX12_digest_25 rfl (nI_1 0) (by decide) rfl ?_
  refine g_goto 6 dX12_digest_28 (by decide) ?_
  refine g_iload_n dX12_digest_6 rfl rfl ?_
  refine g_bipush (v := (nI 12)) dX12_digest_7 rfl ?_
  refine g_ic_geN 31 dX12_digest_9 (by decide) (by omega) (by omega) (fun z => absurd z (by omega)) (fun _ => ?_)
  refine g_ldc2 (v := 31) dX12_digest_12 cl_RX12_254 ?_
  refine g_lload_n dX12_digest_15 rfl rfl ?_
  refine g_lmul dX12_digest_16 ?_
  refine g_aload_n dX12_digest_17 rfl rfl ?_
  refine g_iload_n dX12_digest_18 rfl rfl ?_
  refine g_callV (T := TX12) (NN := 19) [.long (31 * ((31 * 1787) + (Int32.toInt64 (nI 2))))] (z_count1 S F) dX12_digest_19 kk_X12_digest_X12_countOf ml_RX12_249 mwX12_countOf ewX12_countOf (by decide) rfl rfl rfl rfl (Nat.le_of_ble_eq_true rfl) ?_
  rintro _ _ ⟨_, rfl, rfl, rfl⟩
  refine g_i2l dX12_digest_22 rfl ?_
  refine g_ladd dX12_digest_23 ?_
  refine g_lstore_n (lv' := [(1, .long ((31 * ((31 * 1787) + (Int32.toInt64 (nI 2)))) + (Int32.toInt64 (nI 0)))), (3, .int (nI 1)), (0, .ref 80)]) dX12_digest_24 rfl (by decide) rfl ?_
  refine g_iinc (v := (nI 2)) (lv' := [(3, .int (nI 2)), (1, .long ((31 * ((31 * 1787) + (Int32.toInt64 (nI 2)))) + (Int32.toInt64 (nI 0)))), (0, .ref 80)]) dX12_digest_25 rfl (nI_1 1) (by decide) rfl ?_
  refine g_goto 6 dX12_digest_28 (by decide) ?_
  refine g_iload_n dX12_digest_6 rfl rfl ?_
  refine g_bipush (v := (nI 12)) dX12_digest_7 rfl ?_
  refine g_ic_geN 31 dX12_digest_9 (by decide) (by omega) (by omega) (fun z => absurd z (by omega)) (fun _ => ?_)
  refine g_ldc2 (v := 31) dX12_digest_12 cl_RX12_254 ?_
  refine g_lload_n dX12_digest_15 rfl rfl ?_
  refine g_lmul dX12_digest_16 ?_
  refine g_aload_n dX12_digest_17 rfl rfl ?_
  refine g_iload_n dX12_digest_18 rfl rfl ?_
  refine g_callV (T := TX12) (NN := 19) [.long (31 * ((31 * ((31 * 1787) + (Int32.toInt64 (nI 2)))) + (Int32.toInt64 (nI 0))))] (z_count2 S F) dX12_digest_19 kk_X12_digest_X12_countOf ml_RX12_249 mwX12_countOf ewX12_countOf (by decide) rfl rfl rfl rfl (Nat.le_of_ble_eq_true rfl) ?_
  rintro _ _ ⟨_, rfl, rfl, rfl⟩
  refine g_i2l dX12_digest_22 rfl ?_
  refine g_ladd dX12_digest_23 ?_
  refine g_lstore_n (lv' := [(1, .long ((31 * ((31 * ((31 * 1787) + (Int32.toInt64 (nI 2)))) + (Int32.toInt64 (nI 0)))) + (Int32.toInt64 (nI 1)))), (3, .int (nI 2)), (0, .ref 80)]) dX12_digest_24 rfl (by decide) rfl ?_
  refine g_iinc (v := (nI 3)) (lv' := [(3, .int (nI 3)), (1, .long ((31 * ((31 * ((31 * 1787) + (Int32.toInt64 (nI 2)))) + (Int32.toInt64 (nI 0)))) + (Int32.toInt64 (nI 1)))), (0, .ref 80)]) dX12_digest_25 rfl (nI_1 2) (by decide) rfl ?_
  refine g_goto 6 dX12_digest_28 (by decide) ?_
  refine g_iload_n dX12_digest_6 rfl rfl ?_
  refine g_bipush (v := (nI 12)) dX12_digest_7 rfl ?_
  refine g_ic_geN 31 dX12_digest_9 (by decide) (by omega) (by omega) (fun z => absurd z (by omega)) (fun _ => ?_)
  refine g_ldc2 (v := 31) dX12_digest_12 cl_RX12_254 ?_
  refine g_lload_n dX12_digest_15 rfl rfl ?_
  refine g_lmul dX12_digest_16 ?_
  refine g_aload_n dX12_digest_17 rfl rfl ?_
  refine g_iload_n dX12_digest_18 rfl rfl ?_
  refine g_callV (T := TX12) (NN := 19) [.long (31 * ((31 * ((31 * ((31 * 1787) + (Int32.toInt64 (nI 2)))) + (Int32.toInt64 (nI 0)))) + (Int32.toInt64 (nI 1))))] (z_count3 S F) dX12_digest_19 kk_X12_digest_X12_countOf ml_RX12_249 mwX12_countOf ewX12_countOf (by decide) rfl rfl rfl rfl (Nat.le_of_ble_eq_true rfl) ?_
  rintro _ _ ⟨_, rfl, rfl, rfl⟩
  refine g_i2l dX12_digest_22 rfl ?_
  refine g_ladd dX12_digest_23 ?_
  refine g_lstore_n (lv' := [(1, .long ((31 * ((31 * ((31 * ((31 * 1787) + (Int32.toInt64 (nI 2)))) + (Int32.toInt64 (nI 0)))) + (Int32.toInt64 (nI 1)))) + (Int32.toInt64 (nI 0)))), (3, .int (nI 3)), (0, .ref 80)]) dX12_digest_24 rfl (by decide) rfl ?_
  refine g_iinc (v := (nI 4)) (lv' := [(3, .int (nI 4)), (1, .long ((31 * ((31 * ((31 * ((31 * 1787) + (Int32.toInt64 (nI 2)))) + (Int32.toInt64 (nI 0)))) + (Int32.toInt64 (nI 1)))) + (Int32.toInt64 (nI 0)))), (0, .ref 80)]) dX12_digest_25 rfl (nI_1 3) (by decide) rfl ?_
  refine g_goto 6 dX12_digest_28 (by decide) ?_
  refine g_iload_n dX12_digest_6 rfl rfl ?_
  refine g_bipush (v := (nI 12)) dX12_digest_7 rfl ?_
  refine g_ic_geN 31 dX12_digest_9 (by decide) (by omega) (by omega) (fun z => absurd z (by omega)) (fun _ => ?_)
  refine g_ldc2 (v := 31) dX12_digest_12 cl_RX12_254 ?_
  refine g_lload_n dX12_digest_15 rfl rfl ?_
  refine g_lmul dX12_digest_16 ?_
  refine g_aload_n dX12_digest_17 rfl rfl ?_
  refine g_iload_n dX12_digest_18 rfl rfl ?_
  refine g_callV (T := TX12) (NN := 19) [.long (31 * ((31 * ((31 * ((31 * ((31 * 1787) + (Int32.toInt64 (nI 2)))) + (Int32.toInt64 (nI 0)))) + (Int32.toInt64 (nI 1)))) + (Int32.toInt64 (nI 0))))] (z_count4 S F) dX12_digest_19 kk_X12_digest_X12_countOf ml_RX12_249 mwX12_countOf ewX12_countOf (by decide) rfl rfl rfl rfl (Nat.le_of_ble_eq_true rfl) ?_
  rintro _ _ ⟨_, rfl, rfl, rfl⟩
  refine g_i2l dX12_digest_22 rfl ?_
  refine g_ladd dX12_digest_23 ?_
  refine g_lstore_n (lv' := [(1, .long ((31 * ((31 * ((31 * ((31 * ((31 * 1787) + (Int32.toInt64 (nI 2)))) + (Int32.toInt64 (nI 0)))) + (Int32.toInt64 (nI 1)))) + (Int32.toInt64 (nI 0)))) + (Int32.toInt64 (nI 0)))), (3, .int (nI 4)), (0, .ref 80)]) dX12_digest_24 rfl (by decide) rfl ?_
  refine g_iinc (v := (nI 5)) (lv' := [(3, .int (nI 5)), (1, .long ((31 * ((31 * ((31 * ((31 * ((31 * 1787) + (Int32.toInt64 (nI 2)))) + (Int32.toInt64 (nI 0)))) + (Int32.toInt64 (nI 1)))) + (Int32.toInt64 (nI 0)))) + (Int32.toInt64 (nI 0)))), (0, .ref 80)]) dX12_digest_25 rfl (nI_1 4) (by decide) rfl ?_
  refine g_goto 6 dX12_digest_28 (by decide) ?_
  refine g_iload_n dX12_digest_6 rfl rfl ?_
  refine g_bipush (v := (nI 12)) dX12_digest_7 rfl ?_
  refine g_ic_geN 31 dX12_digest_9 (by decide) (by omega) (by omega) (fun z => absurd z (by omega)) (fun _ => ?_)
  refine g_ldc2 (v := 31) dX12_digest_12 cl_RX12_254 ?_
  refine g_lload_n dX12_digest_15 rfl rfl ?_
  refine g_lmul dX12_digest_16 ?_
  refine g_aload_n dX12_digest_17 rfl rfl ?_
  refine g_iload_n dX12_digest_18 rfl rfl ?_
  refine g_callV (T := TX12) (NN := 19) [.long (31 * ((31 * ((31 * ((31 * ((31 * ((31 * 1787) + (Int32.toInt64 (nI 2)))) + (Int32.toInt64 (nI 0)))) + (Int32.toInt64 (nI 1)))) + (Int32.toInt64 (nI 0)))) + (Int32.toInt64 (nI 0))))] (z_count5 S F) dX12_digest_19 kk_X12_digest_X12_countOf ml_RX12_249 mwX12_countOf ewX12_countOf (by decide) rfl rfl rfl rfl (Nat.le_of_ble_eq_true rfl) ?_
  rintro _ _ ⟨_, rfl, rfl, rfl⟩
  refine g_i2l dX12_digest_22 rfl ?_
  refine g_ladd dX12_digest_23 ?_
  refine g_lstore_n (lv' := [(1, .long ((31 * ((31 * ((31 * ((31 * ((31 * ((31 * 1787) + (Int32.toInt64 (nI 2)))) + (Int32.toInt64 (nI 0)))) + (Int32.toInt64 (nI 1)))) + (Int32.toInt64 (nI 0)))) + (Int32.toInt64 (nI 0)))) + (Int32.toInt64 (nI 0)))), (3, .int (nI 5)), (0, .ref 80)]) dX12_digest_24 rfl (by decide) rfl ?_
  refine g_iinc (v := (nI 6)) (lv' := [(3, .int (nI 6)), (1, .long ((31 * ((31 * ((31 * ((31 * ((31 * ((31 * 1787) + (Int32.toInt64 (nI 2)))) + (Int32.toInt64 (nI 0)))) + (Int32.toInt64 (nI 1)))) + (Int32.toInt64 (nI 0)))) + (Int32.toInt64 (nI 0)))) + (Int32.toInt64 (nI 0)))), (0, .ref 80)]) dX12_digest_25 rfl (nI_1 5) (by decide) rfl ?_
  refine g_goto 6 dX12_digest_28 (by decide) ?_
  refine g_iload_n dX12_digest_6 rfl rfl ?_
  refine g_bipush (v := (nI 12)) dX12_digest_7 rfl ?_
  refine g_ic_geN 31 dX12_digest_9 (by decide) (by omega) (by omega) (fun z => absurd z (by omega)) (fun _ => ?_)
  refine g_ldc2 (v := 31) dX12_digest_12 cl_RX12_254 ?_
  refine g_lload_n dX12_digest_15 rfl rfl ?_
  refine g_lmul dX12_digest_16 ?_
  refine g_aload_n dX12_digest_17 rfl rfl ?_
  refine g_iload_n dX12_digest_18 rfl rfl ?_
  refine g_callV (T := TX12) (NN := 19) [.long (31 * ((31 * ((31 * ((31 * ((31 * ((31 * ((31 * 1787) + (Int32.toInt64 (nI 2)))) + (Int32.toInt64 (nI 0)))) + (Int32.toInt64 (nI 1)))) + (Int32.toInt64 (nI 0)))) + (Int32.toInt64 (nI 0)))) + (Int32.toInt64 (nI 0))))] (z_count6 S F) dX12_digest_19 kk_X12_digest_X12_countOf ml_RX12_249 mwX12_countOf ewX12_countOf (by decide) rfl rfl rfl rfl (Nat.le_of_ble_eq_true rfl) ?_
  rintro _ _ ⟨_, rfl, rfl, rfl⟩
  refine g_i2l dX12_digest_22 rfl ?_
  refine g_ladd dX12_digest_23 ?_
  refine g_lstore_n (lv' := [(1, .long ((31 * ((31 * ((31 * ((31 * ((31 * ((31 * ((31 * 1787) + (Int32.toInt64 (nI 2)))) + (Int32.toInt64 (nI 0)))) + (Int32.toInt64 (nI 1)))) + (Int32.toInt64 (nI 0)))) + (Int32.toInt64 (nI 0)))) + (Int32.toInt64 (nI 0)))) + (Int32.toInt64 (nI 0)))), (3, .int (nI 6)), (0, .ref 80)]) dX12_digest_24 rfl (by decide) rfl ?_
  refine g_iinc (v := (nI 7)) (lv' := [(3, .int (nI 7)), (1, .long ((31 * ((31 * ((31 * ((31 * ((31 * ((31 * ((31 * 1787) + (Int32.toInt64 (nI 2)))) + (Int32.toInt64 (nI 0)))) + (Int32.toInt64 (nI 1)))) + (Int32.toInt64 (nI 0)))) + (Int32.toInt64 (nI 0)))) + (Int32.toInt64 (nI 0)))) + (Int32.toInt64 (nI 0)))), (0, .ref 80)]) dX12_digest_25 rfl (nI_1 6) (by decide) rfl ?_
  refine g_goto 6 dX12_digest_28 (by decide) ?_
  refine g_iload_n dX12_digest_6 rfl rfl ?_
  refine g_bipush (v := (nI 12)) dX12_digest_7 rfl ?_
  refine g_ic_geN 31 dX12_digest_9 (by decide) (by omega) (by omega) (fun z => absurd z (by omega)) (fun _ => ?_)
  refine g_ldc2 (v := 31) dX12_digest_12 cl_RX12_254 ?_
  refine g_lload_n dX12_digest_15 rfl rfl ?_
  refine g_lmul dX12_digest_16 ?_
  refine g_aload_n dX12_digest_17 rfl rfl ?_
  refine g_iload_n dX12_digest_18 rfl rfl ?_
  refine g_callV (T := TX12) (NN := 19) [.long (31 * ((31 * ((31 * ((31 * ((31 * ((31 * ((31 * ((31 * 1787) + (Int32.toInt64 (nI 2)))) + (Int32.toInt64 (nI 0)))) + (Int32.toInt64 (nI 1)))) + (Int32.toInt64 (nI 0)))) + (Int32.toInt64 (nI 0)))) + (Int32.toInt64 (nI 0)))) + (Int32.toInt64 (nI 0))))] (z_count7 S F) dX12_digest_19 kk_X12_digest_X12_countOf ml_RX12_249 mwX12_countOf ewX12_countOf (by decide) rfl rfl rfl rfl (Nat.le_of_ble_eq_true rfl) ?_
  rintro _ _ ⟨_, rfl, rfl, rfl⟩
  refine g_i2l dX12_digest_22 rfl ?_
  refine g_ladd dX12_digest_23 ?_
  refine g_lstore_n (lv' := [(1, .long ((31 * ((31 * ((31 * ((31 * ((31 * ((31 * ((31 * ((31 * 1787) + (Int32.toInt64 (nI 2)))) + (Int32.toInt64 (nI 0)))) + (Int32.toInt64 (nI 1)))) + (Int32.toInt64 (nI 0)))) + (Int32.toInt64 (nI 0)))) + (Int32.toInt64 (nI 0)))) + (Int32.toInt64 (nI 0)))) + (Int32.toInt64 (nI 0)))), (3, .int (nI 7)), (0, .ref 80)]) dX12_digest_24 rfl (by decide) rfl ?_
  refine g_iinc (v := (nI 8)) (lv' := [(3, .int (nI 8)), (1, .long ((31 * ((31 * ((31 * ((31 * ((31 * ((31 * ((31 * ((31 * 1787) + (Int32.toInt64 (nI 2)))) + (Int32.toInt64 (nI 0)))) + (Int32.toInt64 (nI 1)))) + (Int32.toInt64 (nI 0)))) + (Int32.toInt64 (nI 0)))) + (Int32.toInt64 (nI 0)))) + (Int32.toInt64 (nI 0)))) + (Int32.toInt64 (nI 0)))), (0, .ref 80)]) dX12_digest_25 rfl (nI_1 7) (by decide) rfl ?_
  refine g_goto 6 dX12_digest_28 (by decide) ?_
  refine g_iload_n dX12_digest_6 rfl rfl ?_
  refine g_bipush (v := (nI 12)) dX12_digest_7 rfl ?_
  refine g_ic_geN 31 dX12_digest_9 (by decide) (by omega) (by omega) (fun z => absurd z (by omega)) (fun _ => ?_)
  refine g_ldc2 (v := 31) dX12_digest_12 cl_RX12_254 ?_
  refine g_lload_n dX12_digest_15 rfl rfl ?_
  refine g_lmul dX12_digest_16 ?_
  refine g_aload_n dX12_digest_17 rfl rfl ?_
  refine g_iload_n dX12_digest_18 rfl rfl ?_
  refine g_callV (T := TX12) (NN := 19) [.long (31 * ((31 * ((31 * ((31 * ((31 * ((31 * ((31 * ((31 * ((31 * 1787) + (Int32.toInt64 (nI 2)))) + (Int32.toInt64 (nI 0)))) + (Int32.toInt64 (nI 1)))) + (Int32.toInt64 (nI 0)))) + (Int32.toInt64 (nI 0)))) + (Int32.toInt64 (nI 0)))) + (Int32.toInt64 (nI 0)))) + (Int32.toInt64 (nI 0))))] (z_count8 S F) dX12_digest_19 kk_X12_digest_X12_countOf ml_RX12_249 mwX12_countOf ewX12_countOf (by decide) rfl rfl rfl rfl (Nat.le_of_ble_eq_true rfl) ?_
  rintro _ _ ⟨_, rfl, rfl, rfl⟩
  refine g_i2l dX12_digest_22 rfl ?_
  refine g_ladd dX12_digest_23 ?_
  refine g_lstore_n (lv' := [(1, .long ((31 * ((31 * ((31 * ((31 * ((31 * ((31 * ((31 * ((31 * ((31 * 1787) + (Int32.toInt64 (nI 2)))) + (Int32.toInt64 (nI 0)))) + (Int32.toInt64 (nI 1)))) + (Int32.toInt64 (nI 0)))) + (Int32.toInt64 (nI 0)))) + (Int32.toInt64 (nI 0)))) + (Int32.toInt64 (nI 0)))) + (Int32.toInt64 (nI 0)))) + (Int32.toInt64 (nI 0)))), (3, .int (nI 8)), (0, .ref 80)]) dX12_digest_24 rfl (by decide) rfl ?_
  refine g_iinc (v := (nI 9)) (lv' := [(3, .int (nI 9)), (1, .long ((31 * ((31 * ((31 * ((31 * ((31 * ((31 * ((31 * ((31 * ((31 * 1787) + (Int32.toInt64 (nI 2)))) + (Int32.toInt64 (nI 0)))) + (Int32.toInt64 (nI 1)))) + (Int32.toInt64 (nI 0)))) + (Int32.toInt64 (nI 0)))) + (Int32.toInt64 (nI 0)))) + (Int32.toInt64 (nI 0)))) + (Int32.toInt64 (nI 0)))) + (Int32.toInt64 (nI 0)))), (0, .ref 80)]) dX12_digest_25 rfl (nI_1 8) (by decide) rfl ?_
  refine g_goto 6 dX12_digest_28 (by decide) ?_
  refine g_iload_n dX12_digest_6 rfl rfl ?_
  refine g_bipush (v := (nI 12)) dX12_digest_7 rfl ?_
  refine g_ic_geN 31 dX12_digest_9 (by decide) (by omega) (by omega) (fun z => absurd z (by omega)) (fun _ => ?_)
  refine g_ldc2 (v := 31) dX12_digest_12 cl_RX12_254 ?_
  refine g_lload_n dX12_digest_15 rfl rfl ?_
  refine g_lmul dX12_digest_16 ?_
  refine g_aload_n dX12_digest_17 rfl rfl ?_
  refine g_iload_n dX12_digest_18 rfl rfl ?_
  refine g_callV (T := TX12) (NN := 19) [.long (31 * ((31 * ((31 * ((31 * ((31 * ((31 * ((31 * ((31 * ((31 * ((31 * 1787) + (Int32.toInt64 (nI 2)))) + (Int32.toInt64 (nI 0)))) + (Int32.toInt64 (nI 1)))) + (Int32.toInt64 (nI 0)))) + (Int32.toInt64 (nI 0)))) + (Int32.toInt64 (nI 0)))) + (Int32.toInt64 (nI 0)))) + (Int32.toInt64 (nI 0)))) + (Int32.toInt64 (nI 0))))] (z_count9 S F) dX12_digest_19 kk_X12_digest_X12_countOf ml_RX12_249 mwX12_countOf ewX12_countOf (by decide) rfl rfl rfl rfl (Nat.le_of_ble_eq_true rfl) ?_
  rintro _ _ ⟨_, rfl, rfl, rfl⟩
  refine g_i2l dX12_digest_22 rfl ?_
  refine g_ladd dX12_digest_23 ?_
  refine g_lstore_n (lv' := [(1, .long ((31 * ((31 * ((31 * ((31 * ((31 * ((31 * ((31 * ((31 * ((31 * ((31 * 1787) + (Int32.toInt64 (nI 2)))) + (Int32.toInt64 (nI 0)))) + (Int32.toInt64 (nI 1)))) + (Int32.toInt64 (nI 0)))) + (Int32.toInt64 (nI 0)))) + (Int32.toInt64 (nI 0)))) + (Int32.toInt64 (nI 0)))) + (Int32.toInt64 (nI 0)))) + (Int32.toInt64 (nI 0)))) + (Int32.toInt64 (nI 0)))), (3, .int (nI 9)), (0, .ref 80)]) dX12_digest_24 rfl (by decide) rfl ?_
  refine g_iinc (v := (nI 10)) (lv' := [(3, .int (nI 10)), (1, .long ((31 * ((31 * ((31 * ((31 * ((31 * ((31 * ((31 * ((31 * ((31 * ((31 * 1787) + (Int32.toInt64 (nI 2)))) + (Int32.toInt64 (nI 0)))) + (Int32.toInt64 (nI 1)))) + (Int32.toInt64 (nI 0)))) + (Int32.toInt64 (nI 0)))) + (Int32.toInt64 (nI 0)))) + (Int32.toInt64 (nI 0)))) + (Int32.toInt64 (nI 0)))) + (Int32.toInt64 (nI 0)))) + (Int32.toInt64 (nI 0)))), (0, .ref 80)]) dX12_digest_25 rfl (nI_1 9) (by decide) rfl ?_
  refine g_goto 6 dX12_digest_28 (by decide) ?_
  refine g_iload_n dX12_digest_6 rfl rfl ?_
  refine g_bipush (v := (nI 12)) dX12_digest_7 rfl ?_
  refine g_ic_geN 31 dX12_digest_9 (by decide) (by omega) (by omega) (fun z => absurd z (by omega)) (fun _ => ?_)
  refine g_ldc2 (v := 31) dX12_digest_12 cl_RX12_254 ?_
  refine g_lload_n dX12_digest_15 rfl rfl ?_
  refine g_lmul dX12_digest_16 ?_
  refine g_aload_n dX12_digest_17 rfl rfl ?_
  refine g_iload_n dX12_digest_18 rfl rfl ?_
  refine g_callV (T := TX12) (NN := 19) [.long (31 * ((31 * ((31 * ((31 * ((31 * ((31 * ((31 * ((31 * ((31 * ((31 * ((31 * 1787) + (Int32.toInt64 (nI 2)))) + (Int32.toInt64 (nI 0)))) + (Int32.toInt64 (nI 1)))) + (Int32.toInt64 (nI 0)))) + (Int32.toInt64 (nI 0)))) + (Int32.toInt64 (nI 0)))) + (Int32.toInt64 (nI 0)))) + (Int32.toInt64 (nI 0)))) + (Int32.toInt64 (nI 0)))) + (Int32.toInt64 (nI 0))))] (z_count10 S F) dX12_digest_19 kk_X12_digest_X12_countOf ml_RX12_249 mwX12_countOf ewX12_countOf (by decide) rfl rfl rfl rfl (Nat.le_of_ble_eq_true rfl) ?_
  rintro _ _ ⟨_, rfl, rfl, rfl⟩
  refine g_i2l dX12_digest_22 rfl ?_
  refine g_ladd dX12_digest_23 ?_
  refine g_lstore_n (lv' := [(1, .long ((31 * ((31 * ((31 * ((31 * ((31 * ((31 * ((31 * ((31 * ((31 * ((31 * ((31 * 1787) + (Int32.toInt64 (nI 2)))) + (Int32.toInt64 (nI 0)))) + (Int32.toInt64 (nI 1)))) + (Int32.toInt64 (nI 0)))) + (Int32.toInt64 (nI 0)))) + (Int32.toInt64 (nI 0)))) + (Int32.toInt64 (nI 0)))) + (Int32.toInt64 (nI 0)))) + (Int32.toInt64 (nI 0)))) + (Int32.toInt64 (nI 0)))) + (Int32.toInt64 (nI 0)))), (3, .int (nI 10)), (0, .ref 80)]) dX12_digest_24 rfl (by decide) rfl ?_
  refine g_iinc (v := (nI 11)) (lv' := [(3, .int (nI 11)), (1, .long ((31 * ((31 * ((31 * ((31 * ((31 * ((31 * ((31 * ((31 * ((31 * ((31 * ((31 * 1787) + (Int32.toInt64 (nI 2)))) + (Int32.toInt64 (nI 0)))) + (Int32.toInt64 (nI 1)))) + (Int32.toInt64 (nI 0)))) + (Int32.toInt64 (nI 0)))) + (Int32.toInt64 (nI 0)))) + (Int32.toInt64 (nI 0)))) + (Int32.toInt64 (nI 0)))) + (Int32.toInt64 (nI 0)))) + (Int32.toInt64 (nI 0)))) + (Int32.toInt64 (nI 0)))), (0, .ref 80)]) dX12_digest_25 rfl (nI_1 10) (by decide) rfl ?_
  refine g_goto 6 dX12_digest_28 (by decide) ?_
  refine g_iload_n dX12_digest_6 rfl rfl ?_
  refine g_bipush (v := (nI 12)) dX12_digest_7 rfl ?_
  refine g_ic_geN 31 dX12_digest_9 (by decide) (by omega) (by omega) (fun z => absurd z (by omega)) (fun _ => ?_)
  refine g_ldc2 (v := 31) dX12_digest_12 cl_RX12_254 ?_
  refine g_lload_n dX12_digest_15 rfl rfl ?_
  refine g_lmul dX12_digest_16 ?_
  refine g_aload_n dX12_digest_17 rfl rfl ?_
  refine g_iload_n dX12_digest_18 rfl rfl ?_
  refine g_callV (T := TX12) (NN := 19) [.long (31 * ((31 * ((31 * ((31 * ((31 * ((31 * ((31 * ((31 * ((31 * ((31 * ((31 * ((31 * 1787) + (Int32.toInt64 (nI 2)))) + (Int32.toInt64 (nI 0)))) + (Int32.toInt64 (nI 1)))) + (Int32.toInt64 (nI 0)))) + (Int32.toInt64 (nI 0)))) + (Int32.toInt64 (nI 0)))) + (Int32.toInt64 (nI 0)))) + (Int32.toInt64 (nI 0)))) + (Int32.toInt64 (nI 0)))) + (Int32.toInt64 (nI 0)))) + (Int32.toInt64 (nI 0))))] (z_count11 S F) dX12_digest_19 kk_X12_digest_X12_countOf ml_RX12_249 mwX12_countOf ewX12_countOf (by decide) rfl rfl rfl rfl (Nat.le_of_ble_eq_true rfl) ?_
  rintro _ _ ⟨_, rfl, rfl, rfl⟩
  refine g_i2l dX12_digest_22 rfl ?_
  refine g_ladd dX12_digest_23 ?_
  refine g_lstore_n (lv' := [(1, .long ((31 * ((31 * ((31 * ((31 * ((31 * ((31 * ((31 * ((31 * ((31 * ((31 * ((31 * ((31 * 1787) + (Int32.toInt64 (nI 2)))) + (Int32.toInt64 (nI 0)))) + (Int32.toInt64 (nI 1)))) + (Int32.toInt64 (nI 0)))) + (Int32.toInt64 (nI 0)))) + (Int32.toInt64 (nI 0)))) + (Int32.toInt64 (nI 0)))) + (Int32.toInt64 (nI 0)))) + (Int32.toInt64 (nI 0)))) + (Int32.toInt64 (nI 0)))) + (Int32.toInt64 (nI 0)))) + (Int32.toInt64 (nI 0)))), (3, .int (nI 11)), (0, .ref 80)]) dX12_digest_24 rfl (by decide) rfl ?_
  refine g_iinc (v := (nI 12)) (lv' := [(3, .int (nI 12)), (1, .long ((31 * ((31 * ((31 * ((31 * ((31 * ((31 * ((31 * ((31 * ((31 * ((31 * ((31 * ((31 * 1787) + (Int32.toInt64 (nI 2)))) + (Int32.toInt64 (nI 0)))) + (Int32.toInt64 (nI 1)))) + (Int32.toInt64 (nI 0)))) + (Int32.toInt64 (nI 0)))) + (Int32.toInt64 (nI 0)))) + (Int32.toInt64 (nI 0)))) + (Int32.toInt64 (nI 0)))) + (Int32.toInt64 (nI 0)))) + (Int32.toInt64 (nI 0)))) + (Int32.toInt64 (nI 0)))) + (Int32.toInt64 (nI 0)))), (0, .ref 80)]) dX12_digest_25 rfl (nI_1 11) (by decide) rfl ?_
  refine g_goto 6 dX12_digest_28 (by decide) ?_
  refine g_iload_n dX12_digest_6 rfl rfl ?_
  refine g_bipush (v := (nI 12)) dX12_digest_7 rfl ?_
  refine g_ic_geN 31 dX12_digest_9 (by decide) (by omega) (by omega) (fun _ => ?_) (fun z => absurd z (by omega))
  refine g_iconst (v := (nI 0)) dX12_digest_31 rfl ?_
  refine g_istore_n (lv' := [(3, .int (nI 0)), (1, .long ((31 * ((31 * ((31 * ((31 * ((31 * ((31 * ((31 * ((31 * ((31 * ((31 * ((31 * ((31 * 1787) + (Int32.toInt64 (nI 2)))) + (Int32.toInt64 (nI 0)))) + (Int32.toInt64 (nI 1)))) + (Int32.toInt64 (nI 0)))) + (Int32.toInt64 (nI 0)))) + (Int32.toInt64 (nI 0)))) + (Int32.toInt64 (nI 0)))) + (Int32.toInt64 (nI 0)))) + (Int32.toInt64 (nI 0)))) + (Int32.toInt64 (nI 0)))) + (Int32.toInt64 (nI 0)))) + (Int32.toInt64 (nI 0)))), (0, .ref 80)]) dX12_digest_32 rfl (by decide) rfl ?_
  refine g_iload_n dX12_digest_33 rfl rfl ?_
  refine g_aload_n dX12_digest_34 rfl rfl ?_
  refine g_getR 1 (82) (C := RX12) (T := TX12) (N := 19) dX12_digest_35 (by decide) rfl rfl (by decide) rfl fl_RX12_13 ?_
  refine g_iconst (v := (nI 0)) dX12_digest_38 rfl ?_
  refine g_ialdN (v := (nI 2)) dX12_digest_39 (by decide) rfl (by omega) (by decide) (congrFun (F 82 (by decide)).1 0) ?_
  refine g_ic_geN 65 dX12_digest_40 (by decide) (by omega) (by omega) (fun z => absurd z (by omega)) (fun _ => ?_)
  refine g_ldc2 (v := 31) dX12_digest_43 cl_RX12_254 ?_
  refine g_lload_n dX12_digest_46 rfl rfl ?_
  refine g_lmul dX12_digest_47 ?_
  refine g_aload_n dX12_digest_48 rfl rfl ?_
  refine g_getR 0 (81) (C := RX12) (T := TX12) (N := 19) dX12_digest_49 (by decide) rfl rfl (by decide) rfl fl_RX12_7 ?_
  refine g_iconst (v := (nI 3)) dX12_digest_52 rfl ?_
  refine g_iload_n dX12_digest_53 rfl rfl ?_
  refine g_iaddN dX12_digest_54 ?_
  refine g_ialdN (v := (nI 0)) dX12_digest_55 (by decide) rfl (by omega) (by decide) (congrFun (F 81 (by decide)).1 3) ?_
  refine g_i2l dX12_digest_56 rfl ?_
  refine g_ladd dX12_digest_57 ?_
  refine g_lstore_n (lv' := [(1, .long ((31 * ((31 * ((31 * ((31 * ((31 * ((31 * ((31 * ((31 * ((31 * ((31 * ((31 * ((31 * ((31 * 1787) + (Int32.toInt64 (nI 2)))) + (Int32.toInt64 (nI 0)))) + (Int32.toInt64 (nI 1)))) + (Int32.toInt64 (nI 0)))) + (Int32.toInt64 (nI 0)))) + (Int32.toInt64 (nI 0)))) + (Int32.toInt64 (nI 0)))) + (Int32.toInt64 (nI 0)))) + (Int32.toInt64 (nI 0)))) + (Int32.toInt64 (nI 0)))) + (Int32.toInt64 (nI 0)))) + (Int32.toInt64 (nI 0)))) + (Int32.toInt64 (nI 0)))), (3, .int (nI 0)), (0, .ref 80)]) dX12_digest_58 rfl (by decide) rfl ?_
  refine g_iinc (v := (nI 1)) (lv' := [(3, .int (nI 1)), (1, .long ((31 * ((31 * ((31 * ((31 * ((31 * ((31 * ((31 * ((31 * ((31 * ((31 * ((31 * ((31 * ((31 * 1787) + (Int32.toInt64 (nI 2)))) + (Int32.toInt64 (nI 0)))) + (Int32.toInt64 (nI 1)))) + (Int32.toInt64 (nI 0)))) + (Int32.toInt64 (nI 0)))) + (Int32.toInt64 (nI 0)))) + (Int32.toInt64 (nI 0)))) + (Int32.toInt64 (nI 0)))) + (Int32.toInt64 (nI 0)))) + (Int32.toInt64 (nI 0)))) + (Int32.toInt64 (nI 0)))) + (Int32.toInt64 (nI 0)))) + (Int32.toInt64 (nI 0)))), (0, .ref 80)]) dX12_digest_59 rfl (nI_1 0) (by decide) rfl ?_
  refine g_goto 33 dX12_digest_62 (by decide) ?_
  refine g_iload_n dX12_digest_33 rfl rfl ?_
  refine g_aload_n dX12_digest_34 rfl rfl ?_
  refine g_getR 1 (82) (C := RX12) (T := TX12) (N := 19) dX12_digest_35 (by decide) rfl rfl (by decide) rfl fl_RX12_13 ?_
  refine g_iconst (v := (nI 0)) dX12_digest_38 rfl ?_
  refine g_ialdN (v := (nI 2)) dX12_digest_39 (by decide) rfl (by omega) (by decide) (congrFun (F 82 (by decide)).1 0) ?_
  refine g_ic_geN 65 dX12_digest_40 (by decide) (by omega) (by omega) (fun z => absurd z (by omega)) (fun _ => ?_)
  refine g_ldc2 (v := 31) dX12_digest_43 cl_RX12_254 ?_
  refine g_lload_n dX12_digest_46 rfl rfl ?_
  refine g_lmul dX12_digest_47 ?_
  refine g_aload_n dX12_digest_48 rfl rfl ?_
  refine g_getR 0 (81) (C := RX12) (T := TX12) (N := 19) dX12_digest_49 (by decide) rfl rfl (by decide) rfl fl_RX12_7 ?_
  refine g_iconst (v := (nI 3)) dX12_digest_52 rfl ?_
  refine g_iload_n dX12_digest_53 rfl rfl ?_
  refine g_iaddN dX12_digest_54 ?_
  refine g_ialdN (v := (nI 0)) dX12_digest_55 (by decide) rfl (by omega) (by decide) (congrFun (F 81 (by decide)).1 4) ?_
  refine g_i2l dX12_digest_56 rfl ?_
  refine g_ladd dX12_digest_57 ?_
  refine g_lstore_n (lv' := [(1, .long ((31 * ((31 * ((31 * ((31 * ((31 * ((31 * ((31 * ((31 * ((31 * ((31 * ((31 * ((31 * ((31 * ((31 * 1787) + (Int32.toInt64 (nI 2)))) + (Int32.toInt64 (nI 0)))) + (Int32.toInt64 (nI 1)))) + (Int32.toInt64 (nI 0)))) + (Int32.toInt64 (nI 0)))) + (Int32.toInt64 (nI 0)))) + (Int32.toInt64 (nI 0)))) + (Int32.toInt64 (nI 0)))) + (Int32.toInt64 (nI 0)))) + (Int32.toInt64 (nI 0)))) + (Int32.toInt64 (nI 0)))) + (Int32.toInt64 (nI 0)))) + (Int32.toInt64 (nI 0)))) + (Int32.toInt64 (nI 0)))), (3, .int (nI 1)), (0, .ref 80)]) dX12_digest_58 rfl (by decide) rfl ?_
  refine g_iinc (v := (nI 2)) (lv' := [(3, .int (nI 2)), (1, .long ((31 * ((31 * ((31 * ((31 * ((31 * ((31 * ((31 * ((31 * ((31 * ((31 * ((31 * ((31 * ((31 * ((31 * 1787) + (Int32.toInt64 (nI 2)))) + (Int32.toInt64 (nI 0)))) + (Int32.toInt64 (nI 1)))) + (Int32.toInt64 (nI 0)))) + (Int32.toInt64 (nI 0)))) + (Int32.toInt64 (nI 0)))) + (Int32.toInt64 (nI 0)))) + (Int32.toInt64 (nI 0)))) + (Int32.toInt64 (nI 0)))) + (Int32.toInt64 (nI 0)))) + (Int32.toInt64 (nI 0)))) + (Int32.toInt64 (nI 0)))) + (Int32.toInt64 (nI 0)))) + (Int32.toInt64 (nI 0)))), (0, .ref 80)]) dX12_digest_59 rfl (nI_1 1) (by decide) rfl ?_
  refine g_goto 33 dX12_digest_62 (by decide) ?_
  refine g_iload_n dX12_digest_33 rfl rfl ?_
  refine g_aload_n dX12_digest_34 rfl rfl ?_
  refine g_getR 1 (82) (C := RX12) (T := TX12) (N := 19) dX12_digest_35 (by decide) rfl rfl (by decide) rfl fl_RX12_13 ?_
  refine g_iconst (v := (nI 0)) dX12_digest_38 rfl ?_
  refine g_ialdN (v := (nI 2)) dX12_digest_39 (by decide) rfl (by omega) (by decide) (congrFun (F 82 (by decide)).1 0) ?_
  refine g_ic_geN 65 dX12_digest_40 (by decide) (by omega) (by omega) (fun _ => ?_) (fun z => absurd z (by omega))
  refine g_iconst (v := (nI 0)) dX12_digest_65 rfl ?_
  refine g_istore_n (lv' := [(3, .int (nI 0)), (1, .long ((31 * ((31 * ((31 * ((31 * ((31 * ((31 * ((31 * ((31 * ((31 * ((31 * ((31 * ((31 * ((31 * ((31 * 1787) + (Int32.toInt64 (nI 2)))) + (Int32.toInt64 (nI 0)))) + (Int32.toInt64 (nI 1)))) + (Int32.toInt64 (nI 0)))) + (Int32.toInt64 (nI 0)))) + (Int32.toInt64 (nI 0)))) + (Int32.toInt64 (nI 0)))) + (Int32.toInt64 (nI 0)))) + (Int32.toInt64 (nI 0)))) + (Int32.toInt64 (nI 0)))) + (Int32.toInt64 (nI 0)))) + (Int32.toInt64 (nI 0)))) + (Int32.toInt64 (nI 0)))) + (Int32.toInt64 (nI 0)))), (0, .ref 80)]) dX12_digest_66 rfl (by decide) rfl ?_
  refine g_iload_n dX12_digest_67 rfl rfl ?_
  refine g_aload_n dX12_digest_68 rfl rfl ?_
  refine g_getR 1 (82) (C := RX12) (T := TX12) (N := 19) dX12_digest_69 (by decide) rfl rfl (by decide) rfl fl_RX12_13 ?_
  refine g_iconst (v := (nI 2)) dX12_digest_72 rfl ?_
  refine g_ialdN (v := (nI 0)) dX12_digest_73 (by decide) rfl (by omega) (by decide) (congrFun (F 82 (by decide)).1 2) ?_
  refine g_ic_geN 129 dX12_digest_74 (by decide) (by omega) (by omega) (fun _ => ?_) (fun z => absurd z (by omega))
  refine g_iconst (v := (nI 0)) dX12_digest_129 rfl ?_
  refine g_istore_n (lv' := [(3, .int (nI 0)), (1, .long ((31 * ((31 * ((31 * ((31 * ((31 * ((31 * ((31 * ((31 * ((31 * ((31 * ((31 * ((31 * ((31 * ((31 * 1787) + (Int32.toInt64 (nI 2)))) + (Int32.toInt64 (nI 0)))) + (Int32.toInt64 (nI 1)))) + (Int32.toInt64 (nI 0)))) + (Int32.toInt64 (nI 0)))) + (Int32.toInt64 (nI 0)))) + (Int32.toInt64 (nI 0)))) + (Int32.toInt64 (nI 0)))) + (Int32.toInt64 (nI 0)))) + (Int32.toInt64 (nI 0)))) + (Int32.toInt64 (nI 0)))) + (Int32.toInt64 (nI 0)))) + (Int32.toInt64 (nI 0)))) + (Int32.toInt64 (nI 0)))), (0, .ref 80)]) dX12_digest_130 rfl (by decide) rfl ?_
  refine g_iload_n dX12_digest_131 rfl rfl ?_
  refine g_aload_n dX12_digest_132 rfl rfl ?_
  refine g_getR 1 (82) (C := RX12) (T := TX12) (N := 19) dX12_digest_133 (by decide) rfl rfl (by decide) rfl fl_RX12_13 ?_
  refine g_bipush (v := (nI 8)) dX12_digest_136 rfl ?_
  refine g_ialdN (v := (nI 0)) dX12_digest_138 (by decide) rfl (by omega) (by decide) (congrFun (F 82 (by decide)).1 8) ?_
  refine g_ic_geN 180 dX12_digest_139 (by decide) (by omega) (by omega) (fun _ => ?_) (fun z => absurd z (by omega))
  refine g_iconst (v := (nI 0)) dX12_digest_180 rfl ?_
  refine g_istore_n (lv' := [(3, .int (nI 0)), (1, .long ((31 * ((31 * ((31 * ((31 * ((31 * ((31 * ((31 * ((31 * ((31 * ((31 * ((31 * ((31 * ((31 * ((31 * 1787) + (Int32.toInt64 (nI 2)))) + (Int32.toInt64 (nI 0)))) + (Int32.toInt64 (nI 1)))) + (Int32.toInt64 (nI 0)))) + (Int32.toInt64 (nI 0)))) + (Int32.toInt64 (nI 0)))) + (Int32.toInt64 (nI 0)))) + (Int32.toInt64 (nI 0)))) + (Int32.toInt64 (nI 0)))) + (Int32.toInt64 (nI 0)))) + (Int32.toInt64 (nI 0)))) + (Int32.toInt64 (nI 0)))) + (Int32.toInt64 (nI 0)))) + (Int32.toInt64 (nI 0)))), (0, .ref 80)]) dX12_digest_181 rfl (by decide) rfl ?_
  refine g_iload_n dX12_digest_182 rfl rfl ?_
  refine g_aload_n dX12_digest_183 rfl rfl ?_
  refine g_getR 1 (82) (C := RX12) (T := TX12) (N := 19) dX12_digest_184 (by decide) rfl rfl (by decide) rfl fl_RX12_13 ?_
  refine g_bipush (v := (nI 21)) dX12_digest_187 rfl ?_
  refine g_ialdN (v := (nI 0)) dX12_digest_189 (by decide) rfl (by omega) (by decide) (congrFun (F 82 (by decide)).1 21) ?_
  refine g_ic_geN 261 dX12_digest_190 (by decide) (by omega) (by omega) (fun _ => ?_) (fun z => absurd z (by omega))
  refine g_iconst (v := (nI 0)) dX12_digest_261 rfl ?_
  refine g_istore_n (lv' := [(3, .int (nI 0)), (1, .long ((31 * ((31 * ((31 * ((31 * ((31 * ((31 * ((31 * ((31 * ((31 * ((31 * ((31 * ((31 * ((31 * ((31 * 1787) + (Int32.toInt64 (nI 2)))) + (Int32.toInt64 (nI 0)))) + (Int32.toInt64 (nI 1)))) + (Int32.toInt64 (nI 0)))) + (Int32.toInt64 (nI 0)))) + (Int32.toInt64 (nI 0)))) + (Int32.toInt64 (nI 0)))) + (Int32.toInt64 (nI 0)))) + (Int32.toInt64 (nI 0)))) + (Int32.toInt64 (nI 0)))) + (Int32.toInt64 (nI 0)))) + (Int32.toInt64 (nI 0)))) + (Int32.toInt64 (nI 0)))) + (Int32.toInt64 (nI 0)))), (0, .ref 80)]) dX12_digest_262 rfl (by decide) rfl ?_
  refine g_iload_n dX12_digest_263 rfl rfl ?_
  refine g_aload_n dX12_digest_264 rfl rfl ?_
  refine g_getR 1 (82) (C := RX12) (T := TX12) (N := 19) dX12_digest_265 (by decide) rfl rfl (by decide) rfl fl_RX12_13 ?_
  refine g_bipush (v := (nI 46)) dX12_digest_268 rfl ?_
  refine g_ialdN (v := (nI 0)) dX12_digest_270 (by decide) rfl (by omega) (by decide) (congrFun (F 82 (by decide)).1 46) ?_
  refine g_ic_geN 327 dX12_digest_271 (by decide) (by omega) (by omega) (fun _ => ?_) (fun z => absurd z (by omega))
  refine g_ldc2 (v := 31) dX12_digest_327 cl_RX12_254 ?_
  refine g_ldc2 (v := 31) dX12_digest_330 cl_RX12_254 ?_
  refine g_lload_n dX12_digest_333 rfl rfl ?_
  refine g_lmul dX12_digest_334 ?_
  refine g_aload_n dX12_digest_335 rfl rfl ?_
  refine g_getL 12 (C := RX12) (T := TX12) (N := 19) dX12_digest_336 (by decide) rfl rfl (by decide) rfl fl_RX12_229 ?_
  refine g_ladd dX12_digest_339 ?_
  refine g_lmul dX12_digest_340 ?_
  refine g_aload_n dX12_digest_341 rfl rfl ?_
  refine g_getL 13 (C := RX12) (T := TX12) (N := 19) dX12_digest_342 (by decide) rfl rfl (by decide) rfl fl_RX12_23 ?_
  refine g_ladd dX12_digest_345 ?_
  refine g_lret dX12_digest_346 rfl ?_
  refine ⟨_, rfl, ?_⟩
  rw [show S.2 80 12 = 0 from congrFun (F 80 (by decide)).2 12, show S.2 80 13 = 1 from congrFun (F 80 (by decide)).2 13]
  show (_ : Int64) = _
  decide
set_option maxRecDepth 100000 in
theorem z_kinds (S : zs_S) (F : zs_F1 S) : zs_Ci MX12_kinds [.ref 80] S (fun x S2 => x = nI 63 ∧ S = S2) := by
  refine zs_C.of (by decide) (Nat.le_of_ble_eq_true rfl) ?_
  show zs_P MX12_kinds 0 [(0, .ref 80)] [] S _
  refine g_iconst (v := (nI 0)) dX12_kinds_0 rfl ?_
  refine g_istore_n (lv' := [(1, .int (nI 0)), (0, .ref 80)]) dX12_kinds_1 rfl (by decide) rfl ?_
  refine g_iconst (v := (nI 0)) dX12_kinds_2 rfl ?_
  refine g_istore_n (lv' := [(2, .int (nI 0)), (1, .int (nI 0)), (0, .ref 80)]) dX12_kinds_3 rfl (by decide) rfl ?_
  refine g_iload_n dX12_kinds_4 rfl rfl ?_
  refine g_bipush (v := (nI 6)) dX12_kinds_5 rfl ?_
  refine g_ic_geN 100 dX12_kinds_7 (by decide) (by omega) (by omega) (fun z => absurd z (by omega)) (fun _ => ?_)
  refine g_iconst (v := (nI 1)) dX12_kinds_10 rfl ?_
  refine g_istore_n (lv' := [(3, .int (nI 1)), (2, .int (nI 0)), (1, .int (nI 0)), (0, .ref 80)]) dX12_kinds_11 rfl (by decide) rfl ?_
  refine g_iconst (v := (nI 0)) dX12_kinds_12 rfl ?_
  refine g_istore (lv' := [(4, .int (nI 0)), (3, .int (nI 1)), (2, .int (nI 0)), (1, .int (nI 0)), (0, .ref 80)]) dX12_kinds_13 (by decide) rfl ?_
  refine g_iload dX12_kinds_15 rfl ?_
  refine g_aload_n dX12_kinds_17 rfl rfl ?_
  refine g_getR 1 (82) (C := RX12) (T := TX12) (N := 19) dX12_kinds_18 (by decide) rfl rfl (by decide) rfl fl_RX12_13 ?_
  refine g_bipush (v := (nI 46)) dX12_kinds_21 rfl ?_
  refine g_ialdN (v := (nI 0)) dX12_kinds_23 (by decide) rfl (by omega) (by decide) (congrFun (F 82 (by decide)).1 46) ?_
  refine g_ic_geN 80 dX12_kinds_24 (by decide) (by omega) (by omega) (fun _ => ?_) (fun z => absurd z (by omega))
  refine g_iload_n dX12_kinds_80 rfl rfl ?_
  refine g_iload_n dX12_kinds_81 rfl rfl ?_
  refine g_if_eqN 91 dX12_kinds_82 (by decide) (by omega) (fun z => absurd z (by omega)) (fun _ => ?_)
  refine g_iconst (v := (nI 1)) dX12_kinds_85 rfl ?_
  refine g_iload_n dX12_kinds_86 rfl rfl ?_
  refine g_ishl dX12_kinds_87 ?_
  refine g_goto 92 dX12_kinds_88 (by decide) ?_
  refine g_ior dX12_kinds_92 ?_
  refine g_istore_n (lv' := [(1, .int ((nI 0) ||| ((nI 1) <<< ((nI 0) &&& 31)))), (4, .int (nI 0)), (3, .int (nI 1)), (2, .int (nI 0)), (0, .ref 80)]) dX12_kinds_93 rfl (by decide) rfl ?_
  refine g_iinc (v := (nI 1)) (lv' := [(2, .int (nI 1)), (1, .int ((nI 0) ||| ((nI 1) <<< ((nI 0) &&& 31)))), (4, .int (nI 0)), (3, .int (nI 1)), (0, .ref 80)]) dX12_kinds_94 rfl (nI_1 0) (by decide) rfl ?_
  refine g_goto 4 dX12_kinds_97 (by decide) ?_
  refine g_iload_n dX12_kinds_4 rfl rfl ?_
  refine g_bipush (v := (nI 6)) dX12_kinds_5 rfl ?_
  refine g_ic_geN 100 dX12_kinds_7 (by decide) (by omega) (by omega) (fun z => absurd z (by omega)) (fun _ => ?_)
  refine g_iconst (v := (nI 1)) dX12_kinds_10 rfl ?_
  refine g_istore_n (lv' := [(3, .int (nI 1)), (2, .int (nI 1)), (1, .int ((nI 0) ||| ((nI 1) <<< ((nI 0) &&& 31)))), (4, .int (nI 0)), (0, .ref 80)]) dX12_kinds_11 rfl (by decide) rfl ?_
  refine g_iconst (v := (nI 0)) dX12_kinds_12 rfl ?_
  refine g_istore (lv' := [(4, .int (nI 0)), (3, .int (nI 1)), (2, .int (nI 1)), (1, .int ((nI 0) ||| ((nI 1) <<< ((nI 0) &&& 31)))), (0, .ref 80)]) dX12_kinds_13 (by decide) rfl ?_
  refine g_iload dX12_kinds_15 rfl ?_
  refine g_aload_n dX12_kinds_17 rfl rfl ?_
  refine g_getR 1 (82) (C := RX12) (T := TX12) (N := 19) dX12_kinds_18 (by decide) rfl rfl (by decide) rfl fl_RX12_13 ?_
  refine g_bipush (v := (nI 46)) dX12_kinds_21 rfl ?_
  refine g_ialdN (v := (nI 0)) dX12_kinds_23 (by decide) rfl (by omega) (by decide) (congrFun (F 82 (by decide)).1 46) ?_
  refine g_ic_geN 80 dX12_kinds_24 (by decide) (by omega) (by omega) (fun _ => ?_) (fun z => absurd z (by omega))
  refine g_iload_n dX12_kinds_80 rfl rfl ?_
  refine g_iload_n dX12_kinds_81 rfl rfl ?_
  refine g_if_eqN 91 dX12_kinds_82 (by decide) (by omega) (fun z => absurd z (by omega)) (fun _ => ?_)
  refine g_iconst (v := (nI 1)) dX12_kinds_85 rfl ?_
  refine g_iload_n dX12_kinds_86 rfl rfl ?_
  refine g_ishl dX12_kinds_87 ?_
  refine g_goto 92 dX12_kinds_88 (by decide) ?_
  refine g_ior dX12_kinds_92 ?_
  refine g_istore_n (lv' := [(1, .int (((nI 0) ||| ((nI 1) <<< ((nI 0) &&& 31))) ||| ((nI 1) <<< ((nI 1) &&& 31)))), (4, .int (nI 0)), (3, .int (nI 1)), (2, .int (nI 1)), (0, .ref 80)]) dX12_kinds_93 rfl (by decide) rfl ?_
  refine g_iinc (v := (nI 2)) (lv' := [(2, .int (nI 2)), (1, .int (((nI 0) ||| ((nI 1) <<< ((nI 0) &&& 31))) ||| ((nI 1) <<< ((nI 1) &&& 31)))), (4, .int (nI 0)), (3, .int (nI 1)), (0, .ref 80)]) dX12_kinds_94 rfl (nI_1 1) (by decide) rfl ?_
  refine g_goto 4 dX12_kinds_97 (by decide) ?_
  refine g_iload_n dX12_kinds_4 rfl rfl ?_
  refine g_bipush (v := (nI 6)) dX12_kinds_5 rfl ?_
  refine g_ic_geN 100 dX12_kinds_7 (by decide) (by omega) (by omega) (fun z => absurd z (by omega)) (fun _ => ?_)
  refine g_iconst (v := (nI 1)) dX12_kinds_10 rfl ?_
  refine g_istore_n (lv' := [(3, .int (nI 1)), (2, .int (nI 2)), (1, .int (((nI 0) ||| ((nI 1) <<< ((nI 0) &&& 31))) ||| ((nI 1) <<< ((nI 1) &&& 31)))), (4, .int (nI 0)), (0, .ref 80)]) dX12_kinds_11 rfl (by decide) rfl ?_
  refine g_iconst (v := (nI 0)) dX12_kinds_12 rfl ?_
  refine g_istore (lv' := [(4, .int (nI 0)), (3, .int (nI 1)), (2, .int (nI 2)), (1, .int (((nI 0) ||| ((nI 1) <<< ((nI 0) &&& 31))) ||| ((nI 1) <<< ((nI 1) &&& 31)))), (0, .ref 80)]) dX12_kinds_13 (by decide) rfl ?_
  refine g_iload dX12_kinds_15 rfl ?_
  refine g_aload_n dX12_kinds_17 rfl rfl ?_
  refine g_getR 1 (82) (C := RX12) (T := TX12) (N := 19) dX12_kinds_18 (by decide) rfl rfl (by decide) rfl fl_RX12_13 ?_
  refine g_bipush (v := (nI 46)) dX12_kinds_21 rfl ?_
  refine g_ialdN (v := (nI 0)) dX12_kinds_23 (by decide) rfl (by omega) (by decide) (congrFun (F 82 (by decide)).1 46) ?_
  refine g_ic_geN 80 dX12_kinds_24 (by decide) (by omega) (by omega) (fun _ => ?_) (fun z => absurd z (by omega))
  refine g_iload_n dX12_kinds_80 rfl rfl ?_
  refine g_iload_n dX12_kinds_81 rfl rfl ?_
  refine g_if_eqN 91 dX12_kinds_82 (by decide) (by omega) (fun z => absurd z (by omega)) (fun _ => ?_)
  refine g_iconst (v := (nI 1)) dX12_kinds_85 rfl ?_
  refine g_iload_n dX12_kinds_86 rfl rfl ?_
  refine g_ishl dX12_kinds_87 ?_
  refine g_goto 92 dX12_kinds_88 (by decide) ?_
  refine g_ior dX12_kinds_92 ?_
  refine g_istore_n (lv' := [(1, .int ((((nI 0) ||| ((nI 1) <<< ((nI 0) &&& 31))) ||| ((nI 1) <<< ((nI 1) &&& 31))) ||| ((nI 1) <<< ((nI 2) &&& 31)))), (4, .int (nI 0)), (3, .int (nI 1)), (2, .int (nI 2)), (0, .ref 80)]) dX12_kinds_93 rfl (by decide) rfl ?_
  refine g_iinc (v := (nI 3)) (lv' := [(2, .int (nI 3)), (1, .int ((((nI 0) ||| ((nI 1) <<< ((nI 0) &&& 31))) ||| ((nI 1) <<< ((nI 1) &&& 31))) ||| ((nI 1) <<< ((nI 2) &&& 31)))), (4, .int (nI 0)), (3, .int (nI 1)), (0, .ref 80)]) dX12_kinds_94 rfl (nI_1 2) (by decide) rfl ?_
  refine g_goto 4 dX12_kinds_97 (by decide) ?_
  refine g_iload_n dX12_kinds_4 rfl rfl ?_
  refine g_bipush (v := (nI 6)) dX12_kinds_5 rfl ?_
  refine g_ic_geN 100 dX12_kinds_7 (by decide) (by omega) (by omega) (fun z => absurd z (by omega)) (fun _ => ?_)
  refine g_iconst (v := (nI 1)) dX12_kinds_10 rfl ?_
  refine g_istore_n (lv' := [(3, .int (nI 1)), (2, .int (nI 3)), (1, .int ((((nI 0) ||| ((nI 1) <<< ((nI 0) &&& 31))) ||| ((nI 1) <<< ((nI 1) &&& 31))) ||| ((nI 1) <<< ((nI 2) &&& 31)))), (4, .int (nI 0)), (0, .ref 80)]) dX12_kinds_11 rfl (by decide) rfl ?_
  refine g_iconst (v := (nI 0)) dX12_kinds_12 rfl ?_
  refine g_istore (lv' := [(4, .int (nI 0)), (3, .int (nI 1)), (2, .int (nI 3)), (1, .int ((((nI 0) ||| ((nI 1) <<< ((nI 0) &&& 31))) ||| ((nI 1) <<< ((nI 1) &&& 31))) ||| ((nI 1) <<< ((nI 2) &&& 31)))), (0, .ref 80)]) dX12_kinds_13 (by decide) rfl ?_
  refine g_iload dX12_kinds_15 rfl ?_
  refine g_aload_n dX12_kinds_17 rfl rfl ?_
  refine g_getR 1 (82) (C := RX12) (T := TX12) (N := 19) dX12_kinds_18 (by decide) rfl rfl (by decide) rfl fl_RX12_13 ?_
  refine g_bipush (v := (nI 46)) dX12_kinds_21 rfl ?_
  refine g_ialdN (v := (nI 0)) dX12_kinds_23 (by decide) rfl (by omega) (by decide) (congrFun (F 82 (by decide)).1 46) ?_
  refine g_ic_geN 80 dX12_kinds_24 (by decide) (by omega) (by omega) (fun _ => ?_) (fun z => absurd z (by omega))
  refine g_iload_n dX12_kinds_80 rfl rfl ?_
  refine g_iload_n dX12_kinds_81 rfl rfl ?_
  refine g_if_eqN 91 dX12_kinds_82 (by decide) (by omega) (fun z => absurd z (by omega)) (fun _ => ?_)
  refine g_iconst (v := (nI 1)) dX12_kinds_85 rfl ?_
  refine g_iload_n dX12_kinds_86 rfl rfl ?_
  refine g_ishl dX12_kinds_87 ?_
  refine g_goto 92 dX12_kinds_88 (by decide) ?_
  refine g_ior dX12_kinds_92 ?_
  refine g_istore_n (lv' := [(1, .int (((((nI 0) ||| ((nI 1) <<< ((nI 0) &&& 31))) ||| ((nI 1) <<< ((nI 1) &&& 31))) ||| ((nI 1) <<< ((nI 2) &&& 31))) ||| ((nI 1) <<< ((nI 3) &&& 31)))), (4, .int (nI 0)), (3, .int (nI 1)), (2, .int (nI 3)), (0, .ref 80)]) dX12_kinds_93 rfl (by decide) rfl ?_
  refine g_iinc (v := (nI 4)) (lv' := [(2, .int (nI 4)), (1, .int (((((nI 0) ||| ((nI 1) <<< ((nI 0) &&& 31))) ||| ((nI 1) <<< ((nI 1) &&& 31))) ||| ((nI 1) <<< ((nI 2) &&& 31))) ||| ((nI 1) <<< ((nI 3) &&& 31)))), (4, .int (nI 0)), (3, .int (nI 1)), (0, .ref 80)]) dX12_kinds_94 rfl (nI_1 3) (by decide) rfl ?_
  refine g_goto 4 dX12_kinds_97 (by decide) ?_
  refine g_iload_n dX12_kinds_4 rfl rfl ?_
  refine g_bipush (v := (nI 6)) dX12_kinds_5 rfl ?_
  refine g_ic_geN 100 dX12_kinds_7 (by decide) (by omega) (by omega) (fun z => absurd z (by omega)) (fun _ => ?_)
  refine g_iconst (v := (nI 1)) dX12_kinds_10 rfl ?_
  refine g_istore_n (lv' := [(3, .int (nI 1)), (2, .int (nI 4)), (1, .int (((((nI 0) ||| ((nI 1) <<< ((nI 0) &&& 31))) ||| ((nI 1) <<< ((nI 1) &&& 31))) ||| ((nI 1) <<< ((nI 2) &&& 31))) ||| ((nI 1) <<< ((nI 3) &&& 31)))), (4, .int (nI 0)), (0, .ref 80)]) dX12_kinds_11 rfl (by decide) rfl ?_
  refine g_iconst (v := (nI 0)) dX12_kinds_12 rfl ?_
  refine g_istore (lv' := [(4, .int (nI 0)), (3, .int (nI 1)), (2, .int (nI 4)), (1, .int (((((nI 0) ||| ((nI 1) <<< ((nI 0) &&& 31))) ||| ((nI 1) <<< ((nI 1) &&& 31))) ||| ((nI 1) <<< ((nI 2) &&& 31))) ||| ((nI 1) <<< ((nI 3) &&& 31)))), (0, .ref 80)]) dX12_kinds_13 (by decide) rfl ?_
  refine g_iload dX12_kinds_15 rfl ?_
  refine g_aload_n dX12_kinds_17 rfl rfl ?_
  refine g_getR 1 (82) (C := RX12) (T := TX12) (N := 19) dX12_kinds_18 (by decide) rfl rfl (by decide) rfl fl_RX12_13 ?_
  refine g_bipush (v := (nI 46)) dX12_kinds_21 rfl ?_
  refine g_ialdN (v := (nI 0)) dX12_kinds_23 (by decide) rfl (by omega) (by decide) (congrFun (F 82 (by decide)).1 46) ?_
  refine g_ic_geN 80 dX12_kinds_24 (by decide) (by omega) (by omega) (fun _ => ?_) (fun z => absurd z (by omega))
  refine g_iload_n dX12_kinds_80 rfl rfl ?_
  refine g_iload_n dX12_kinds_81 rfl rfl ?_
  refine g_if_eqN 91 dX12_kinds_82 (by decide) (by omega) (fun z => absurd z (by omega)) (fun _ => ?_)
  refine g_iconst (v := (nI 1)) dX12_kinds_85 rfl ?_
  refine g_iload_n dX12_kinds_86 rfl rfl ?_
  refine g_ishl dX12_kinds_87 ?_
  refine g_goto 92 dX12_kinds_88 (by decide) ?_
  refine g_ior dX12_kinds_92 ?_
  refine g_istore_n (lv' := [(1, .int ((((((nI 0) ||| ((nI 1) <<< ((nI 0) &&& 31))) ||| ((nI 1) <<< ((nI 1) &&& 31))) ||| ((nI 1) <<< ((nI 2) &&& 31))) ||| ((nI 1) <<< ((nI 3) &&& 31))) ||| ((nI 1) <<< ((nI 4) &&& 31)))), (4, .int (nI 0)), (3, .int (nI 1)), (2, .int (nI 4)), (0, .ref 80)]) dX12_kinds_93 rfl (by decide) rfl ?_
  refine g_iinc (v := (nI 5)) (lv' := [(2, .int (nI 5)), (1, .int ((((((nI 0) ||| ((nI 1) <<< ((nI 0) &&& 31))) ||| ((nI 1) <<< ((nI 1) &&& 31))) ||| ((nI 1) <<< ((nI 2) &&& 31))) ||| ((nI 1) <<< ((nI 3) &&& 31))) ||| ((nI 1) <<< ((nI 4) &&& 31)))), (4, .int (nI 0)), (3, .int (nI 1)), (0, .ref 80)]) dX12_kinds_94 rfl (nI_1 4) (by decide) rfl ?_
  refine g_goto 4 dX12_kinds_97 (by decide) ?_
  refine g_iload_n dX12_kinds_4 rfl rfl ?_
  refine g_bipush (v := (nI 6)) dX12_kinds_5 rfl ?_
  refine g_ic_geN 100 dX12_kinds_7 (by decide) (by omega) (by omega) (fun z => absurd z (by omega)) (fun _ => ?_)
  refine g_iconst (v := (nI 1)) dX12_kinds_10 rfl ?_
  refine g_istore_n (lv' := [(3, .int (nI 1)), (2, .int (nI 5)), (1, .int ((((((nI 0) ||| ((nI 1) <<< ((nI 0) &&& 31))) ||| ((nI 1) <<< ((nI 1) &&& 31))) ||| ((nI 1) <<< ((nI 2) &&& 31))) ||| ((nI 1) <<< ((nI 3) &&& 31))) ||| ((nI 1) <<< ((nI 4) &&& 31)))), (4, .int (nI 0)), (0, .ref 80)]) dX12_kinds_11 rfl (by decide) rfl ?_
  refine g_iconst (v := (nI 0)) dX12_kinds_12 rfl ?_
  refine g_istore (lv' := [(4, .int (nI 0)), (3, .int (nI 1)), (2, .int (nI 5)), (1, .int ((((((nI 0) ||| ((nI 1) <<< ((nI 0) &&& 31))) ||| ((nI 1) <<< ((nI 1) &&& 31))) ||| ((nI 1) <<< ((nI 2) &&& 31))) ||| ((nI 1) <<< ((nI 3) &&& 31))) ||| ((nI 1) <<< ((nI 4) &&& 31)))), (0, .ref 80)]) dX12_kinds_13 (by decide) rfl ?_
  refine g_iload dX12_kinds_15 rfl ?_
  refine g_aload_n dX12_kinds_17 rfl rfl ?_
  refine g_getR 1 (82) (C := RX12) (T := TX12) (N := 19) dX12_kinds_18 (by decide) rfl rfl (by decide) rfl fl_RX12_13 ?_
  refine g_bipush (v := (nI 46)) dX12_kinds_21 rfl ?_
  refine g_ialdN (v := (nI 0)) dX12_kinds_23 (by decide) rfl (by omega) (by decide) (congrFun (F 82 (by decide)).1 46) ?_
  refine g_ic_geN 80 dX12_kinds_24 (by decide) (by omega) (by omega) (fun _ => ?_) (fun z => absurd z (by omega))
  refine g_iload_n dX12_kinds_80 rfl rfl ?_
  refine g_iload_n dX12_kinds_81 rfl rfl ?_
  refine g_if_eqN 91 dX12_kinds_82 (by decide) (by omega) (fun z => absurd z (by omega)) (fun _ => ?_)
  refine g_iconst (v := (nI 1)) dX12_kinds_85 rfl ?_
  refine g_iload_n dX12_kinds_86 rfl rfl ?_
  refine g_ishl dX12_kinds_87 ?_
  refine g_goto 92 dX12_kinds_88 (by decide) ?_
  refine g_ior dX12_kinds_92 ?_
  refine g_istore_n (lv' := [(1, .int (((((((nI 0) ||| ((nI 1) <<< ((nI 0) &&& 31))) ||| ((nI 1) <<< ((nI 1) &&& 31))) ||| ((nI 1) <<< ((nI 2) &&& 31))) ||| ((nI 1) <<< ((nI 3) &&& 31))) ||| ((nI 1) <<< ((nI 4) &&& 31))) ||| ((nI 1) <<< ((nI 5) &&& 31)))), (4, .int (nI 0)), (3, .int (nI 1)), (2, .int (nI 5)), (0, .ref 80)]) dX12_kinds_93 rfl (by decide) rfl ?_
  refine g_iinc (v := (nI 6)) (lv' := [(2, .int (nI 6)), (1, .int (((((((nI 0) ||| ((nI 1) <<< ((nI 0) &&& 31))) ||| ((nI 1) <<< ((nI 1) &&& 31))) ||| ((nI 1) <<< ((nI 2) &&& 31))) ||| ((nI 1) <<< ((nI 3) &&& 31))) ||| ((nI 1) <<< ((nI 4) &&& 31))) ||| ((nI 1) <<< ((nI 5) &&& 31)))), (4, .int (nI 0)), (3, .int (nI 1)), (0, .ref 80)]) dX12_kinds_94 rfl (nI_1 5) (by decide) rfl ?_
  refine g_goto 4 dX12_kinds_97 (by decide) ?_
  refine g_iload_n dX12_kinds_4 rfl rfl ?_
  refine g_bipush (v := (nI 6)) dX12_kinds_5 rfl ?_
  refine g_ic_geN 100 dX12_kinds_7 (by decide) (by omega) (by omega) (fun _ => ?_) (fun z => absurd z (by omega))
  refine g_iload_n dX12_kinds_100 rfl rfl ?_
  refine g_iret dX12_kinds_101 rfl rfl ?_
  exact ⟨_, rfl, by decide, rfl⟩
set_option maxRecDepth 100000 in
theorem w_kinds (S : zs_S) (F : zs_F1 S)  : zs_Ci MX12_kinds [.ref 80] S (fun x _ => x = nI 63) := by
  refine zs_C.of (by decide) (Nat.le_of_ble_eq_true rfl) ?_
  show zs_P MX12_kinds 0 [(0, .ref 80)] [] S _
  refine g_iconst (v := (nI 0)) dX12_kinds_0 rfl ?_
  refine g_istore_n (lv' := [(1, .int (nI 0)), (0, .ref 80)]) dX12_kinds_1 rfl (by decide) rfl ?_
  refine g_iconst (v := (nI 0)) dX12_kinds_2 rfl ?_
  refine g_istore_n (lv' := [(2, .int (nI 0)), (1, .int (nI 0)), (0, .ref 80)]) dX12_kinds_3 rfl (by decide) rfl ?_
  refine g_iload_n dX12_kinds_4 rfl rfl ?_
  refine g_bipush (v := (nI 6)) dX12_kinds_5 rfl ?_
  refine g_ic_geN 100 dX12_kinds_7 (by decide) (by omega) (by omega) (fun z => absurd z (by omega)) (fun _ => ?_)
  refine g_iconst (v := (nI 1)) dX12_kinds_10 rfl ?_
  refine g_istore_n (lv' := [(3, .int (nI 1)), (2, .int (nI 0)), (1, .int (nI 0)), (0, .ref 80)]) dX12_kinds_11 rfl (by decide) rfl ?_
  refine g_iconst (v := (nI 0)) dX12_kinds_12 rfl ?_
  refine g_istore (lv' := [(4, .int (nI 0)), (3, .int (nI 1)), (2, .int (nI 0)), (1, .int (nI 0)), (0, .ref 80)]) dX12_kinds_13 (by decide) rfl ?_
  refine g_iload dX12_kinds_15 rfl ?_
  refine g_aload_n dX12_kinds_17 rfl rfl ?_
  refine g_getR 1 (82) (C := RX12) (T := TX12) (N := 19) dX12_kinds_18 (by decide) rfl rfl (by decide) rfl fl_RX12_13 ?_
  refine g_bipush (v := (nI 46)) dX12_kinds_21 rfl ?_
  refine g_ialdN (v := (nI 0)) dX12_kinds_23 (by decide) rfl (by omega) (by decide) (congrFun (F 82 (by decide)).1 46) ?_
  refine g_ic_geN 80 dX12_kinds_24 (by decide) (by omega) (by omega) (fun _ => ?_) (fun z => absurd z (by omega))
  refine g_iload_n dX12_kinds_80 rfl rfl ?_
  refine g_iload_n dX12_kinds_81 rfl rfl ?_
  refine g_if_eqN 91 dX12_kinds_82 (by decide) (by omega) (fun z => absurd z (by omega)) (fun _ => ?_)
  refine g_iconst (v := (nI 1)) dX12_kinds_85 rfl ?_
  refine g_iload_n dX12_kinds_86 rfl rfl ?_
  refine g_ishl dX12_kinds_87 ?_
  refine g_goto 92 dX12_kinds_88 (by decide) ?_
  refine g_ior dX12_kinds_92 ?_
  refine g_istore_n (lv' := [(1, .int ((nI 0) ||| ((nI 1) <<< ((nI 0) &&& 31)))), (4, .int (nI 0)), (3, .int (nI 1)), (2, .int (nI 0)), (0, .ref 80)]) dX12_kinds_93 rfl (by decide) rfl ?_
  refine g_iinc (v := (nI 1)) (lv' := [(2, .int (nI 1)), (1, .int ((nI 0) ||| ((nI 1) <<< ((nI 0) &&& 31)))), (4, .int (nI 0)), (3, .int (nI 1)), (0, .ref 80)]) dX12_kinds_94 rfl (nI_1 0) (by decide) rfl ?_
  refine g_goto 4 dX12_kinds_97 (by decide) ?_
  refine g_iload_n dX12_kinds_4 rfl rfl ?_
  refine g_bipush (v := (nI 6)) dX12_kinds_5 rfl ?_
  refine g_ic_geN 100 dX12_kinds_7 (by decide) (by omega) (by omega) (fun z => absurd z (by omega)) (fun _ => ?_)
  refine g_iconst (v := (nI 1)) dX12_kinds_10 rfl ?_
  refine g_istore_n (lv' := [(3, .int (nI 1)), (2, .int (nI 1)), (1, .int ((nI 0) ||| ((nI 1) <<< ((nI 0) &&& 31)))), (4, .int (nI 0)), (0, .ref 80)]) dX12_kinds_11 rfl (by decide) rfl ?_
  refine g_iconst (v := (nI 0)) dX12_kinds_12 rfl ?_
  refine g_istore (lv' := [(4, .int (nI 0)), (3, .int (nI 1)), (2, .int (nI 1)), (1, .int ((nI 0) ||| ((nI 1) <<< ((nI 0) &&& 31)))), (0, .ref 80)]) dX12_kinds_13 (by decide) rfl ?_
  refine g_iload dX12_kinds_15 rfl ?_
  refine g_aload_n dX12_kinds_17 rfl rfl ?_
  refine g_getR 1 (82) (C := RX12) (T := TX12) (N := 19) dX12_kinds_18 (by decide) rfl rfl (by decide) rfl fl_RX12_13 ?_
  refine g_bipush (v := (nI 46)) dX12_kinds_21 rfl ?_
  refine g_ialdN (v := (nI 0)) dX12_kinds_23 (by decide) rfl (by omega) (by decide) (congrFun (F 82 (by decide)).1 46) ?_
  refine g_ic_geN 80 dX12_kinds_24 (by decide) (by omega) (by omega) (fun _ => ?_) (fun z => absurd z (by omega))
  refine g_iload_n dX12_kinds_80 rfl rfl ?_
  refine g_iload_n dX12_kinds_81 rfl rfl ?_
  refine g_if_eqN 91 dX12_kinds_82 (by decide) (by omega) (fun z => absurd z (by omega)) (fun _ => ?_)
  refine g_iconst (v := (nI 1)) dX12_kinds_85 rfl ?_
  refine g_iload_n dX12_kinds_86 rfl rfl ?_
  refine g_ishl dX12_kinds_87 ?_
  refine g_goto 92 dX12_kinds_88 (by decide) ?_
  refine g_ior dX12_kinds_92 ?_
  refine g_istore_n (lv' := [(1, .int (((nI 0) ||| ((nI 1) <<< ((nI 0) &&& 31))) ||| ((nI 1) <<< ((nI 1) &&& 31)))), (4, .int (nI 0)), (3, .int (nI 1)), (2, .int (nI 1)), (0, .ref 80)]) dX12_kinds_93 rfl (by decide) rfl ?_
  refine g_iinc (v := (nI 2)) (lv' := [(2, .int (nI 2)), (1, .int (((nI 0) ||| ((nI 1) <<< ((nI 0) &&& 31))) ||| ((nI 1) <<< ((nI 1) &&& 31)))), (4, .int (nI 0)), (3, .int (nI 1)), (0, .ref 80)]) dX12_kinds_94 rfl (nI_1 1) (by decide) rfl ?_
  refine g_goto 4 dX12_kinds_97 (by decide) ?_
  refine g_iload_n dX12_kinds_4 rfl rfl ?_
  refine g_bipush (v := (nI 6)) dX12_kinds_5 rfl ?_
  refine g_ic_geN 100 dX12_kinds_7 (by decide) (by omega) (by omega) (fun z => absurd z (by omega)) (fun _ => ?_)
  refine g_iconst (v := (nI 1)) dX12_kinds_10 rfl ?_
  refine g_istore_n (lv' := [(3, .int (nI 1)), (2, .int (nI 2)), (1, .int (((nI 0) ||| ((nI 1) <<< ((nI 0) &&& 31))) ||| ((nI 1) <<< ((nI 1) &&& 31)))), (4, .int (nI 0)), (0, .ref 80)]) dX12_kinds_11 rfl (by decide) rfl ?_
  refine g_iconst (v := (nI 0)) dX12_kinds_12 rfl ?_
  refine g_istore (lv' := [(4, .int (nI 0)), (3, .int (nI 1)), (2, .int (nI 2)), (1, .int (((nI 0) ||| ((nI 1) <<< ((nI 0) &&& 31))) ||| ((nI 1) <<< ((nI 1) &&& 31)))), (0, .ref 80)]) dX12_kinds_13 (by decide) rfl ?_
  refine g_iload dX12_kinds_15 rfl ?_
  refine g_aload_n dX12_kinds_17 rfl rfl ?_
  refine g_getR 1 (82) (C := RX12) (T := TX12) (N := 19) dX12_kinds_18 (by decide) rfl rfl (by decide) rfl fl_RX12_13 ?_
  refine g_bipush (v := (nI 46)) dX12_kinds_21 rfl ?_
  refine g_ialdN (v := (nI 0)) dX12_kinds_23 (by decide) rfl (by omega) (by decide) (congrFun (F 82 (by decide)).1 46) ?_
  refine g_ic_geN 80 dX12_kinds_24 (by decide) (by omega) (by omega) (fun _ => ?_) (fun z => absurd z (by omega))
  refine g_iload_n dX12_kinds_80 rfl rfl ?_
  refine g_iload_n dX12_kinds_81 rfl rfl ?_
  refine g_if_eqN 91 dX12_kinds_82 (by decide) (by omega) (fun z => absurd z (by omega)) (fun _ => ?_)
  refine g_iconst (v := (nI 1)) dX12_kinds_85 rfl ?_
  refine g_iload_n dX12_kinds_86 rfl rfl ?_
  refine g_ishl dX12_kinds_87 ?_
  refine g_goto 92 dX12_kinds_88 (by decide) ?_
  refine g_ior dX12_kinds_92 ?_
  refine g_istore_n (lv' := [(1, .int ((((nI 0) ||| ((nI 1) <<< ((nI 0) &&& 31))) ||| ((nI 1) <<< ((nI 1) &&& 31))) ||| ((nI 1) <<< ((nI 2) &&& 31)))), (4, .int (nI 0)), (3, .int (nI 1)), (2, .int (nI 2)), (0, .ref 80)]) dX12_kinds_93 rfl (by decide) rfl ?_
  refine g_iinc (v := (nI 3)) (lv' := [(2, .int (nI 3)), (1, .int ((((nI 0) ||| ((nI 1) <<< ((nI 0) &&& 31))) ||| ((nI 1) <<< ((nI 1) &&& 31))) ||| ((nI 1) <<< ((nI 2) &&& 31)))), (4, .int (nI 0)), (3, .int (nI 1)), (0, .ref 80)]) dX12_kinds_94 rfl (nI_1 2) (by decide) rfl ?_
  refine g_goto 4 dX12_kinds_97 (by decide) ?_
  refine g_iload_n dX12_kinds_4 rfl rfl ?_
  refine g_bipush (v := (nI 6)) dX12_kinds_5 rfl ?_
  refine g_ic_geN 100 dX12_kinds_7 (by decide) (by omega) (by omega) (fun z => absurd z (by omega)) (fun _ => ?_)
  refine g_iconst (v := (nI 1)) dX12_kinds_10 rfl ?_
  refine g_istore_n (lv' := [(3, .int (nI 1)), (2, .int (nI 3)), (1, .int ((((nI 0) ||| ((nI 1) <<< ((nI 0) &&& 31))) ||| ((nI 1) <<< ((nI 1) &&& 31))) ||| ((nI 1) <<< ((nI 2) &&& 31)))), (4, .int (nI 0)), (0, .ref 80)]) dX12_kinds_11 rfl (by decide) rfl ?_
  refine g_iconst (v := (nI 0)) dX12_kinds_12 rfl ?_
  refine g_istore (lv' := [(4, .int (nI 0)), (3, .int (nI 1)), (2, .int (nI 3)), (1, .int ((((nI 0) ||| ((nI 1) <<< ((nI 0) &&& 31))) ||| ((nI 1) <<< ((nI 1) &&& 31))) ||| ((nI 1) <<< ((nI 2) &&& 31)))), (0, .ref 80)]) dX12_kinds_13 (by decide) rfl ?_
  refine g_iload dX12_kinds_15 rfl ?_
  refine g_aload_n dX12_kinds_17 rfl rfl ?_
  refine g_getR 1 (82) (C := RX12) (T := TX12) (N := 19) dX12_kinds_18 (by decide) rfl rfl (by decide) rfl fl_RX12_13 ?_
  refine g_bipush (v := (nI 46)) dX12_kinds_21 rfl ?_
  refine g_ialdN (v := (nI 0)) dX12_kinds_23 (by decide) rfl (by omega) (by decide) (congrFun (F 82 (by decide)).1 46) ?_
  refine g_ic_geN 80 dX12_kinds_24 (by decide) (by omega) (by omega) (fun _ => ?_) (fun z => absurd z (by omega))
  refine g_iload_n dX12_kinds_80 rfl rfl ?_
  refine g_iload_n dX12_kinds_81 rfl rfl ?_
  refine g_if_eqN 91 dX12_kinds_82 (by decide) (by omega) (fun z => absurd z (by omega)) (fun _ => ?_)
  refine g_iconst (v := (nI 1)) dX12_kinds_85 rfl ?_
  refine g_iload_n dX12_kinds_86 rfl rfl ?_
  refine g_ishl dX12_kinds_87 ?_
  refine g_goto 92 dX12_kinds_88 (by decide) ?_
  refine g_ior dX12_kinds_92 ?_
  refine g_istore_n (lv' := [(1, .int (((((nI 0) ||| ((nI 1) <<< ((nI 0) &&& 31))) ||| ((nI 1) <<< ((nI 1) &&& 31))) ||| ((nI 1) <<< ((nI 2) &&& 31))) ||| ((nI 1) <<< ((nI 3) &&& 31)))), (4, .int (nI 0)), (3, .int (nI 1)), (2, .int (nI 3)), (0, .ref 80)]) dX12_kinds_93 rfl (by decide) rfl ?_
  refine g_iinc (v := (nI 4)) (lv' := [(2, .int (nI 4)), (1, .int (((((nI 0) ||| ((nI 1) <<< ((nI 0) &&& 31))) ||| ((nI 1) <<< ((nI 1) &&& 31))) ||| ((nI 1) <<< ((nI 2) &&& 31))) ||| ((nI 1) <<< ((nI 3) &&& 31)))), (4, .int (nI 0)), (3, .int (nI 1)), (0, .ref 80)]) dX12_kinds_94 rfl (nI_1 3) (by decide) rfl ?_
  refine g_goto 4 dX12_kinds_97 (by decide) ?_
  refine g_iload_n dX12_kinds_4 rfl rfl ?_
  refine g_bipush (v := (nI 6)) dX12_kinds_5 rfl ?_
  refine g_ic_geN 100 dX12_kinds_7 (by decide) (by omega) (by omega) (fun z => absurd z (by omega)) (fun _ => ?_)
  refine g_iconst (v := (nI 1)) dX12_kinds_10 rfl ?_
  refine g_istore_n (lv' := [(3, .int (nI 1)), (2, .int (nI 4)), (1, .int (((((nI 0) ||| ((nI 1) <<< ((nI 0) &&& 31))) ||| ((nI 1) <<< ((nI 1) &&& 31))) ||| ((nI 1) <<< ((nI 2) &&& 31))) ||| ((nI 1) <<< ((nI 3) &&& 31)))), (4, .int (nI 0)), (0, .ref 80)]) dX12_kinds_11 rfl (by decide) rfl ?_
  refine g_iconst (v := (nI 0)) dX12_kinds_12 rfl ?_
  refine g_istore (lv' := [(4, .int (nI 0)), (3, .int (nI 1)), (2, .int (nI 4)), (1, .int (((((nI 0) ||| ((nI 1) <<< ((nI 0) &&& 31))) ||| ((nI 1) <<< ((nI 1) &&& 31))) ||| ((nI 1) <<< ((nI 2) &&& 31))) ||| ((nI 1) <<< ((nI 3) &&& 31)))), (0, .ref 80)]) dX12_kinds_13 (by decide) rfl ?_
  refine g_iload dX12_kinds_15 rfl ?_
  refine g_aload_n dX12_kinds_17 rfl rfl ?_
  refine g_getR 1 (82) (C := RX12) (T := TX12) (N := 19) dX12_kinds_18 (by decide) rfl rfl (by decide) rfl fl_RX12_13 ?_
  refine g_bipush (v := (nI 46)) dX12_kinds_21 rfl ?_
  refine g_ialdN (v := (nI 0)) dX12_kinds_23 (by decide) rfl (by omega) (by decide) (congrFun (F 82 (by decide)).1 46) ?_
  refine g_ic_geN 80 dX12_kinds_24 (by decide) (by omega) (by omega) (fun _ => ?_) (fun z => absurd z (by omega))
  refine g_iload_n dX12_kinds_80 rfl rfl ?_
  refine g_iload_n dX12_kinds_81 rfl rfl ?_
  refine g_if_eqN 91 dX12_kinds_82 (by decide) (by omega) (fun z => absurd z (by omega)) (fun _ => ?_)
  refine g_iconst (v := (nI 1)) dX12_kinds_85 rfl ?_
  refine g_iload_n dX12_kinds_86 rfl rfl ?_
  refine g_ishl dX12_kinds_87 ?_
  refine g_goto 92 dX12_kinds_88 (by decide) ?_
  refine g_ior dX12_kinds_92 ?_
  refine g_istore_n (lv' := [(1, .int ((((((nI 0) ||| ((nI 1) <<< ((nI 0) &&& 31))) ||| ((nI 1) <<< ((nI 1) &&& 31))) ||| ((nI 1) <<< ((nI 2) &&& 31))) ||| ((nI 1) <<< ((nI 3) &&& 31))) ||| ((nI 1) <<< ((nI 4) &&& 31)))), (4, .int (nI 0)), (3, .int (nI 1)), (2, .int (nI 4)), (0, .ref 80)]) dX12_kinds_93 rfl (by decide) rfl ?_
  refine g_iinc (v := (nI 5)) (lv' := [(2, .int (nI 5)), (1, .int ((((((nI 0) ||| ((nI 1) <<< ((nI 0) &&& 31))) ||| ((nI 1) <<< ((nI 1) &&& 31))) ||| ((nI 1) <<< ((nI 2) &&& 31))) ||| ((nI 1) <<< ((nI 3) &&& 31))) ||| ((nI 1) <<< ((nI 4) &&& 31)))), (4, .int (nI 0)), (3, .int (nI 1)), (0, .ref 80)]) dX12_kinds_94 rfl (nI_1 4) (by decide) rfl ?_
  refine g_goto 4 dX12_kinds_97 (by decide) ?_
  refine g_iload_n dX12_kinds_4 rfl rfl ?_
  refine g_bipush (v := (nI 6)) dX12_kinds_5 rfl ?_
  refine g_ic_geN 100 dX12_kinds_7 (by decide) (by omega) (by omega) (fun z => absurd z (by omega)) (fun _ => ?_)
  refine g_iconst (v := (nI 1)) dX12_kinds_10 rfl ?_
  refine g_istore_n (lv' := [(3, .int (nI 1)), (2, .int (nI 5)), (1, .int ((((((nI 0) ||| ((nI 1) <<< ((nI 0) &&& 31))) ||| ((nI 1) <<< ((nI 1) &&& 31))) ||| ((nI 1) <<< ((nI 2) &&& 31))) ||| ((nI 1) <<< ((nI 3) &&& 31))) ||| ((nI 1) <<< ((nI 4) &&& 31)))), (4, .int (nI 0)), (0, .ref 80)]) dX12_kinds_11 rfl (by decide) rfl ?_
  refine g_iconst (v := (nI 0)) dX12_kinds_12 rfl ?_
  refine g_istore (lv' := [(4, .int (nI 0)), (3, .int (nI 1)), (2, .int (nI 5)), (1, .int ((((((nI 0) ||| ((nI 1) <<< ((nI 0) &&& 31))) ||| ((nI 1) <<< ((nI 1) &&& 31))) ||| ((nI 1) <<< ((nI 2) &&& 31))) ||| ((nI 1) <<< ((nI 3) &&& 31))) ||| ((nI 1) <<< ((nI 4) &&& 31)))), (0, .ref 80)]) dX12_kinds_13 (by decide) rfl ?_
  refine g_iload dX12_kinds_15 rfl ?_
  refine g_aload_n dX12_kinds_17 rfl rfl ?_
  refine g_getR 1 (82) (C := RX12) (T := TX12) (N := 19) dX12_kinds_18 (by decide) rfl rfl (by decide) rfl fl_RX12_13 ?_
  refine g_bipush (v := (nI 46)) dX12_kinds_21 rfl ?_
  refine g_ialdN (v := (nI 0)) dX12_kinds_23 (by decide) rfl (by omega) (by decide) (congrFun (F 82 (by decide)).1 46) ?_
  refine g_ic_geN 80 dX12_kinds_24 (by decide) (by omega) (by omega) (fun _ => ?_) (fun z => absurd z (by omega))
  refine g_iload_n dX12_kinds_80 rfl rfl ?_
  refine g_iload_n dX12_kinds_81 rfl rfl ?_
  refine g_if_eqN 91 dX12_kinds_82 (by decide) (by omega) (fun z => absurd z (by omega)) (fun _ => ?_)
  refine g_iconst (v := (nI 1)) dX12_kinds_85 rfl ?_
  refine g_iload_n dX12_kinds_86 rfl rfl ?_
  refine g_ishl dX12_kinds_87 ?_
  refine g_goto 92 dX12_kinds_88 (by decide) ?_
  refine g_ior dX12_kinds_92 ?_
  refine g_istore_n (lv' := [(1, .int (((((((nI 0) ||| ((nI 1) <<< ((nI 0) &&& 31))) ||| ((nI 1) <<< ((nI 1) &&& 31))) ||| ((nI 1) <<< ((nI 2) &&& 31))) ||| ((nI 1) <<< ((nI 3) &&& 31))) ||| ((nI 1) <<< ((nI 4) &&& 31))) ||| ((nI 1) <<< ((nI 5) &&& 31)))), (4, .int (nI 0)), (3, .int (nI 1)), (2, .int (nI 5)), (0, .ref 80)]) dX12_kinds_93 rfl (by decide) rfl ?_
  refine g_iinc (v := (nI 6)) (lv' := [(2, .int (nI 6)), (1, .int (((((((nI 0) ||| ((nI 1) <<< ((nI 0) &&& 31))) ||| ((nI 1) <<< ((nI 1) &&& 31))) ||| ((nI 1) <<< ((nI 2) &&& 31))) ||| ((nI 1) <<< ((nI 3) &&& 31))) ||| ((nI 1) <<< ((nI 4) &&& 31))) ||| ((nI 1) <<< ((nI 5) &&& 31)))), (4, .int (nI 0)), (3, .int (nI 1)), (0, .ref 80)]) dX12_kinds_94 rfl (nI_1 5) (by decide) rfl ?_
  refine g_goto 4 dX12_kinds_97 (by decide) ?_
  refine g_iload_n dX12_kinds_4 rfl rfl ?_
  refine g_bipush (v := (nI 6)) dX12_kinds_5 rfl ?_
  refine g_ic_geN 100 dX12_kinds_7 (by decide) (by omega) (by omega) (fun _ => ?_) (fun z => absurd z (by omega))
  refine g_iload_n dX12_kinds_100 rfl rfl ?_
  refine g_iret dX12_kinds_101 rfl rfl ?_
  exact ⟨_, rfl, by show (_ : Int32) = _; decide⟩
set_option maxRecDepth 100000 in
theorem z_byteAt (S : zs_S) (h : S.1 80 3 = nI 0) : zs_Ci MX12_byteAt [.ref 80, .int (nI 0)] S (fun x S2 => x = -1 ∧ S = S2) := by
  refine zs_C.of (by decide) (Nat.le_of_ble_eq_true rfl) ?_
  show zs_P MX12_byteAt 0 [(0, .ref 80), (1, .int (nI 0))] [] S _
  refine g_iload_n dX12_byteAt_0 rfl rfl ?_
  refine g_aload_n dX12_byteAt_1 rfl rfl ?_
  refine g_getV 3 (C := RX12) (T := TX12) (N := 19) (v := (nI 0)) dX12_byteAt_2 (by decide) rfl rfl (by decide) rfl fl_RX12_75 h ?_
  refine g_ic_geN 17 dX12_byteAt_5 (by decide) (by omega) (by omega) (fun _ => ?_) (fun z => absurd z (by omega))
  refine g_iconst (v := (-1)) dX12_byteAt_17 rfl ?_
  refine g_iret dX12_byteAt_18 rfl rfl ?_
  exact ⟨_, rfl, rfl, rfl⟩
set_option maxRecDepth 100000 in
theorem z_token (S : zs_S) (h3 : S.1 80 3 = nI 0) (h5 : S.1 80 5 = nI 0) : zs_Ci MX12_token [.ref 80] S (fun x S2 => x = nI 4 ∧ S2 = (zs_up S.1 80 6 (nI 0), S.2)) := by
  refine zs_C.of (by decide) (Nat.le_of_ble_eq_true rfl) ?_
  show zs_P MX12_token 0 [(0, .ref 80)] [] S _
  refine g_aload_n dX12_token_0 rfl rfl ?_
  refine g_aload_n dX12_token_1 rfl rfl ?_
  refine g_getV 5 (C := RX12) (T := TX12) (N := 19) (v := (nI 0)) dX12_token_2 (by decide) rfl rfl (by decide) rfl fl_RX12_79 h5 ?_
  refine g_callV (T := TX12) (NN := 19) [] (z_byteAt S h3) dX12_token_5 kk_X12_token_X12_byteAt ml_RX12_82 mwX12_byteAt ewX12_byteAt (by decide) rfl rfl rfl rfl (Nat.le_of_ble_eq_true rfl) ?_
  rintro _ _ ⟨_, rfl, rfl, rfl⟩
  refine g_bipush (v := (nI 32)) dX12_token_8 rfl ?_
  refine g_ic_ne 26 dX12_token_10 (by decide) (fun _ => ?_) (fun z => absurd z (by decide))
  refine g_aload_n dX12_token_26 rfl rfl ?_
  refine g_aload_n dX12_token_27 rfl rfl ?_
  refine g_getV 5 (C := RX12) (T := TX12) (N := 19) (v := (nI 0)) dX12_token_28 (by decide) rfl rfl (by decide) rfl fl_RX12_79 h5 ?_
  refine g_putI 6 (C := RX12) (T := TX12) (N := 19) (ty := .int) dX12_token_31 (by decide) rfl rfl (by decide) rfl fl_RX12_85 rfl (by decide +kernel) ⟨rfl, rfl⟩ ?_
  refine g_aload_n dX12_token_34 rfl rfl ?_
  refine g_aload_n dX12_token_35 rfl rfl ?_
  refine g_getV 5 (C := RX12) (T := TX12) (N := 19) (v := (nI 0)) dX12_token_36 (by decide) rfl rfl (by decide) rfl fl_RX12_79 ((zs_up_m (by omega)).trans h5) ?_
  refine g_callV (T := TX12) (NN := 19) [] (z_byteAt (zs_up S.1 80 6 (nI 0), S.2) ((zs_up_m (by decide)).trans h3)) dX12_token_39 kk_X12_token_X12_byteAt ml_RX12_82 mwX12_byteAt ewX12_byteAt (by decide) rfl rfl rfl rfl (Nat.le_of_ble_eq_true rfl) ?_
  rintro _ _ ⟨_, rfl, rfl, rfl⟩
  refine g_istore_n (lv' := [(1, .int (-1)), (0, .ref 80)]) dX12_token_42 rfl (by decide) rfl ?_
  refine g_iload_n dX12_token_43 rfl rfl ?_
  refine g_if_ge 49 dX12_token_44 (by decide) (fun z => absurd z (by decide)) (fun _ => ?_)
  refine g_iconst (v := (nI 4)) dX12_token_47 rfl ?_
  refine g_iret dX12_token_48 rfl rfl ?_
  exact ⟨_, rfl, rfl, rfl⟩
set_option maxRecDepth 100000 in
theorem z_goes (S : zs_S) (F : zs_F1 S) : zs_Ci MX12_goesThrough [.ref 80, .int (nI 0)] S (fun _ S2 => S2.1 80 7 = nI 1 ∧ S2.1 80 6 = nI 0) := by
  refine zs_C.of (by decide) (Nat.le_of_ble_eq_true rfl) ?_
  show zs_P MX12_goesThrough 0 [(0, .ref 80), (1, .int (nI 0))] [] S _
  refine g_aload_n dX12_goesThrough_0 rfl rfl ?_
  refine g_iconst (v := (nI 0)) dX12_goesThrough_1 rfl ?_
  refine g_putI 5 (C := RX12) (T := TX12) (N := 19) (ty := .int) dX12_goesThrough_2 (by decide) rfl rfl (by decide) rfl fl_RX12_79 rfl (by decide +kernel) ⟨rfl, rfl⟩ ?_
  refine g_aload_n dX12_goesThrough_5 rfl rfl ?_
  refine g_iconst (v := (nI 0)) dX12_goesThrough_6 rfl ?_
  refine g_putI 7 (C := RX12) (T := TX12) (N := 19) (ty := .boolean) dX12_goesThrough_7 (by decide) rfl rfl (by decide) rfl fl_RX12_105 rfl (by decide +kernel) ⟨rfl, rfl⟩ ?_
  refine g_aload_n dX12_goesThrough_10 rfl rfl ?_
  refine g_iload_n dX12_goesThrough_11 rfl rfl ?_
  refine g_putI 8 (C := RX12) (T := TX12) (N := 19) (ty := .boolean) dX12_goesThrough_12 (by decide) rfl rfl (by decide) rfl fl_RX12_118 rfl (by decide +kernel) ⟨rfl, rfl⟩ ?_
  refine g_aload_n dX12_goesThrough_15 rfl rfl ?_
  refine g_iconst (v := (nI 0)) dX12_goesThrough_16 rfl ?_
  refine g_putI 9 (C := RX12) (T := TX12) (N := 19) (ty := .int) dX12_goesThrough_17 (by decide) rfl rfl (by decide) rfl fl_RX12_125 rfl (by decide +kernel) ⟨rfl, rfl⟩ ?_
  refine g_aload_n dX12_goesThrough_20 rfl rfl ?_
  refine g_iconst (v := (nI 0)) dX12_goesThrough_21 rfl ?_
  refine g_putI 10 (C := RX12) (T := TX12) (N := 19) (ty := .int) dX12_goesThrough_22 (by decide) rfl rfl (by decide) rfl fl_RX12_115 rfl (by decide +kernel) ⟨rfl, rfl⟩ ?_
  refine g_iconst (v := (nI 0)) dX12_goesThrough_25 rfl ?_
  refine g_istore_n (lv' := [(2, .int (nI 0)), (0, .ref 80), (1, .int (nI 0))]) dX12_goesThrough_26 rfl (by decide) rfl ?_
  refine g_aload_n dX12_goesThrough_27 rfl rfl ?_
  refine g_callV (T := TX12) (NN := 19) [] (z_token (zs_up (zs_up (zs_up (zs_up (zs_up S.1 80 5 (nI 0), S.2).1 80 7 (nI 0), (zs_up S.1 80 5 (nI 0), S.2).2).1 80 8 (nI 0), (zs_up (zs_up S.1 80 5 (nI 0), S.2).1 80 7 (nI 0), (zs_up S.1 80 5 (nI 0), S.2).2).2).1 80 9 (nI 0), (zs_up (zs_up (zs_up S.1 80 5 (nI 0), S.2).1 80 7 (nI 0), (zs_up S.1 80 5 (nI 0), S.2).2).1 80 8 (nI 0), (zs_up (zs_up S.1 80 5 (nI 0), S.2).1 80 7 (nI 0), (zs_up S.1 80 5 (nI 0), S.2).2).2).2).1 80 10 (nI 0), (zs_up (zs_up (zs_up (zs_up S.1 80 5 (nI 0), S.2).1 80 7 (nI 0), (zs_up S.1 80 5 (nI 0), S.2).2).1 80 8 (nI 0), (zs_up (zs_up S.1 80 5 (nI 0), S.2).1 80 7 (nI 0), (zs_up S.1 80 5 (nI 0), S.2).2).2).1 80 9 (nI 0), (zs_up (zs_up (zs_up S.1 80 5 (nI 0), S.2).1 80 7 (nI 0), (zs_up S.1 80 5 (nI 0), S.2).2).1 80 8 (nI 0), (zs_up (zs_up S.1 80 5 (nI 0), S.2).1 80 7 (nI 0), (zs_up S.1 80 5 (nI 0), S.2).2).2).2).2) ((zs_up_m (by omega)).trans ((zs_up_m (by omega)).trans ((zs_up_m (by omega)).trans ((zs_up_m (by omega)).trans ((zs_up_m (by omega)).trans (congrFun (F 80 (by decide)).1 3)))))) ((zs_up_m (by omega)).trans ((zs_up_m (by omega)).trans ((zs_up_m (by omega)).trans ((zs_up_m (by omega)).trans zs_up_q))))) dX12_goesThrough_28 kk_X12_goesThrough_X12_token ml_RX12_109 mwX12_token ewX12_token (by decide) rfl rfl rfl rfl (Nat.le_of_ble_eq_true rfl) ?_
  rintro _ _ ⟨_, rfl, rfl, rfl⟩
  refine g_istore_n (lv' := [(3, .int (nI 4)), (2, .int (nI 0)), (0, .ref 80), (1, .int (nI 0))]) dX12_goesThrough_31 rfl (by decide) rfl ?_
  refine g_iload_n dX12_goesThrough_32 rfl rfl ?_
  refine g_iconst (v := (nI 4)) dX12_goesThrough_33 rfl ?_
  refine g_ic_eqN 91 dX12_goesThrough_34 (by decide) (by omega) (by omega) (fun _ => ?_) (fun z => absurd z (by omega))
  refine g_aload_n dX12_goesThrough_91 rfl rfl ?_
  refine g_aload_n dX12_goesThrough_92 rfl rfl ?_
  refine g_getV 7 (C := RX12) (T := TX12) (N := 19) (v := (nI 0)) dX12_goesThrough_93 (by decide) rfl rfl (by decide) rfl fl_RX12_105 ((zs_up_m (by omega)).trans ((zs_up_m (by omega)).trans ((zs_up_m (by omega)).trans ((zs_up_m (by omega)).trans zs_up_q)))) ?_
  refine g_if_neN 103 dX12_goesThrough_96 (by decide) (by omega) (fun z => absurd z (by omega)) (fun _ => ?_)
  refine g_iload_n dX12_goesThrough_99 rfl rfl ?_
  refine g_if_neN 107 dX12_goesThrough_100 (by decide) (by omega) (fun z => absurd z (by omega)) (fun _ => ?_)
  refine g_iconst (v := (nI 1)) dX12_goesThrough_103 rfl ?_
  refine g_goto 108 dX12_goesThrough_104 (by decide) ?_
  refine g_putI 7 (C := RX12) (T := TX12) (N := 19) (ty := .boolean) dX12_goesThrough_108 (by decide) rfl rfl (by decide) rfl fl_RX12_105 rfl (by decide +kernel) ⟨rfl, rfl⟩ ?_
  refine g_iload_n dX12_goesThrough_111 rfl rfl ?_
  refine g_iret dX12_goesThrough_112 rfl rfl ?_
  exact ⟨_, rfl, zs_up_q, (zs_up_m (by decide)).trans zs_up_q⟩
set_option maxRecDepth 100000 in
theorem w_read (S : zs_S) (F : zs_F1 S)  : zs_Ci MX12_read [.ref 80] S (fun x _ => x = (-10)) := by
  refine zs_C.of (by decide) (Nat.le_of_ble_eq_true rfl) ?_
  show zs_P MX12_read 0 [(0, .ref 80)] [] S _
  refine g_aload_n dX12_read_0 rfl rfl ?_
  refine g_iconst (v := (nI 0)) dX12_read_1 rfl ?_
  refine g_callV (T := TX12) (NN := 19) [] (z_goes S F) dX12_read_2 kk_X12_read_X12_goesThrough ml_RX12_158 mwX12_goesThrough ewX12_goesThrough (by decide) rfl rfl rfl rfl (Nat.le_of_ble_eq_true rfl) ?_
  rintro _ S1 ⟨_, rfl, e7, e6⟩
  refine g_pop dX12_read_5 rfl ?_
  refine g_aload_n dX12_read_6 rfl rfl ?_
  refine g_getV 7 (C := RX12) (T := TX12) (N := 19) (v := (nI 1)) dX12_read_7 (by decide) rfl rfl (by decide) rfl fl_RX12_105 e7 ?_
  refine g_if_eqN 23 dX12_read_10 (by decide) (by omega) (fun z => absurd z (by omega)) (fun _ => ?_)
  refine g_bipush (v := (-10)) dX12_read_13 rfl ?_
  refine g_aload_n dX12_read_15 rfl rfl ?_
  refine g_getV 6 (C := RX12) (T := TX12) (N := 19) (v := (nI 0)) dX12_read_16 (by decide) rfl rfl (by decide) rfl fl_RX12_85 e6 ?_
  refine g_isub dX12_read_19 ?_
  refine g_goto 28 dX12_read_20 (by decide) ?_
  refine g_iret dX12_read_28 rfl rfl ?_
  exact ⟨_, rfl, by show (_ : Int32) = _; decide⟩
set_option maxRecDepth 100000 in
theorem z_car1 (p q : Nat) (hp : p + 225 ≤ 700) (hq : q + 66 ≤ 198) (Q : Option Value → zs_S → Prop) (hk : ∀ S, zs_P MX12_carries 35 [(5, .int (nI 225)), (0, .ref 80), (1, .int (nI 0)), (2, .int (nI p)), (3, .int (nI 0)), (4, .int (nI q))] [] S Q) : ∀ (d i : Nat), i + d = 225 → ∀ S, zs_P MX12_carries 3 [(5, .int (nI i)), (0, .ref 80), (1, .int (nI 0)), (2, .int (nI p)), (3, .int (nI 0)), (4, .int (nI q))] [] S Q := by
  intro d
  induction d with
  | zero =>
    intro i hi S
    obtain rfl : i = 225 := by omega
    refine g_iload dX12_carries_3 rfl ?_
    refine g_sipush (v := (nI 225)) dX12_carries_5 rfl ?_
    refine g_ic_geN 35 dX12_carries_8 (by decide) (by omega) (by omega) (fun _ => ?_) (fun z => absurd z (by omega))
    exact hk S
  | succ d ih =>
    intro i hi S
    refine g_iload dX12_carries_3 rfl ?_
    refine g_sipush (v := (nI 225)) dX12_carries_5 rfl ?_
    refine g_ic_geN 35 dX12_carries_8 (by decide) (by omega) (by omega) (fun z => absurd z (by omega)) (fun _ => ?_)
    refine g_aload_n dX12_carries_11 rfl rfl ?_
    refine g_getR 0 (81) (C := RX12) (T := TX12) (N := 19) dX12_carries_12 (by decide) rfl rfl (by decide) rfl fl_RX12_7 ?_
    refine g_iload_n dX12_carries_15 rfl rfl ?_
    refine g_iload dX12_carries_16 rfl ?_
    refine g_iaddN dX12_carries_18 ?_
    refine g_aload_n dX12_carries_19 rfl rfl ?_
    refine g_getR 0 (81) (C := RX12) (T := TX12) (N := 19) dX12_carries_20 (by decide) rfl rfl (by decide) rfl fl_RX12_7 ?_
    refine g_iload_n dX12_carries_23 rfl rfl ?_
    refine g_iload dX12_carries_24 rfl ?_
    refine g_iaddN dX12_carries_26 ?_
    refine g_ialdN (v := (S.1 81 (0 + i))) dX12_carries_27 (by decide) rfl (by omega) (by decide) rfl ?_
    refine g_iastN dX12_carries_28 (by decide) rfl (by omega) (by decide) ?_
    refine g_iinc (v := (nI (i + 1))) (lv' := [(5, .int (nI (i + 1))), (0, .ref 80), (1, .int (nI 0)), (2, .int (nI p)), (3, .int (nI 0)), (4, .int (nI q))]) dX12_carries_29 rfl (nI_1 i) (by decide) rfl ?_
    refine g_goto 3 dX12_carries_32 (by decide) ?_
    exact ih (i + 1) (by omega) _
set_option maxRecDepth 100000 in
theorem z_car2 (p q : Nat) (hp : p + 225 ≤ 700) (hq : q + 66 ≤ 198) (Q : Option Value → zs_S → Prop) (hk : ∀ S, Q none S) : ∀ (d i : Nat), i + d = 66 → ∀ S, zs_P MX12_carries 38 [(5, .int (nI i)), (0, .ref 80), (1, .int (nI 0)), (2, .int (nI p)), (3, .int (nI 0)), (4, .int (nI q))] [] S Q := by
  intro d
  induction d with
  | zero =>
    intro i hi S
    obtain rfl : i = 66 := by omega
    refine g_iload dX12_carries_38 rfl ?_
    refine g_bipush (v := (nI 66)) dX12_carries_40 rfl ?_
    refine g_ic_geN 70 dX12_carries_42 (by decide) (by omega) (by omega) (fun _ => ?_) (fun z => absurd z (by omega))
    refine g_ret dX12_carries_70 rfl ?_
    exact hk S
  | succ d ih =>
    intro i hi S
    refine g_iload dX12_carries_38 rfl ?_
    refine g_bipush (v := (nI 66)) dX12_carries_40 rfl ?_
    refine g_ic_geN 70 dX12_carries_42 (by decide) (by omega) (by omega) (fun z => absurd z (by omega)) (fun _ => ?_)
    refine g_aload_n dX12_carries_45 rfl rfl ?_
    refine g_getR 1 (82) (C := RX12) (T := TX12) (N := 19) dX12_carries_46 (by decide) rfl rfl (by decide) rfl fl_RX12_13 ?_
    refine g_iload dX12_carries_49 rfl ?_
    refine g_iload dX12_carries_51 rfl ?_
    refine g_iaddN dX12_carries_53 ?_
    refine g_aload_n dX12_carries_54 rfl rfl ?_
    refine g_getR 1 (82) (C := RX12) (T := TX12) (N := 19) dX12_carries_55 (by decide) rfl rfl (by decide) rfl fl_RX12_13 ?_
    refine g_iload_n dX12_carries_58 rfl rfl ?_
    refine g_iload dX12_carries_59 rfl ?_
    refine g_iaddN dX12_carries_61 ?_
    refine g_ialdN (v := (S.1 82 (0 + i))) dX12_carries_62 (by decide) rfl (by omega) (by decide) rfl ?_
    refine g_iastN dX12_carries_63 (by decide) rfl (by omega) (by decide) ?_
    refine g_iinc (v := (nI (i + 1))) (lv' := [(5, .int (nI (i + 1))), (0, .ref 80), (1, .int (nI 0)), (2, .int (nI p)), (3, .int (nI 0)), (4, .int (nI q))]) dX12_carries_64 rfl (nI_1 i) (by decide) rfl ?_
    refine g_goto 38 dX12_carries_67 (by decide) ?_
    exact ih (i + 1) (by omega) _
set_option maxRecDepth 100000 in
theorem z_carries (S : zs_S) (p q : Nat) (hp : p + 225 ≤ 700) (hq : q + 66 ≤ 198) : zs_Cv MX12_carries [.ref 80, .int (nI 0), .int (nI p), .int (nI 0), .int (nI q)] S (fun _ => True) := by
  refine zs_C.of (by decide) (Nat.le_of_ble_eq_true rfl) ?_
  show zs_P MX12_carries 0 [(0, .ref 80), (1, .int (nI 0)), (2, .int (nI p)), (3, .int (nI 0)), (4, .int (nI q))] [] S _
  refine g_iconst (v := (nI 0)) dX12_carries_0 rfl ?_
  refine g_istore (lv' := [(5, .int (nI 0)), (0, .ref 80), (1, .int (nI 0)), (2, .int (nI p)), (3, .int (nI 0)), (4, .int (nI q))]) dX12_carries_1 (by decide) rfl ?_
  refine z_car1 p q hp hq _ (fun S1 => ?_) 225 0 (by omega) _
  refine g_iconst (v := (nI 0)) dX12_carries_35 rfl ?_
  refine g_istore (lv' := [(5, .int (nI 0)), (0, .ref 80), (1, .int (nI 0)), (2, .int (nI p)), (3, .int (nI 0)), (4, .int (nI q))]) dX12_carries_36 (by decide) rfl ?_
  exact z_car2 p q hp hq _ (fun S2 => ⟨rfl, trivial⟩) 66 0 (by omega) _
set_option maxRecDepth 100000 in
theorem w_image (S : zs_S) (F : zs_F1 S) (i : Int32) : zs_Ci MX12_image [.ref 80, .int i] S (fun x _ => x = zs_if (nI 0 ≤ i ∧ i ≤ nI 1) (nI 1) (-2)) := by
  refine zs_C.of (by decide) (Nat.le_of_ble_eq_true rfl) ?_
  show zs_P MX12_image 0 [(0, .ref 80), (1, .int i)] [] S _
  refine g_iload_n dX12_image_0 rfl rfl ?_
  refine g_i2l dX12_image_1 rfl ?_
  refine g_lconst (v := 0) dX12_image_2 (by decide) ?_
  refine g_lconst (v := 1) dX12_image_3 (by decide) ?_
  refine g_callS [.long (Int32.toInt64 i), .long 0, .long 1] [] (z_in S i 0 1 (by decide) (by decide)) dX12_image_4 kk_X12_image_X12_in ml_RX12_54 swX12_in rfl rfl (Nat.le_of_ble_eq_true rfl) ?_
  rintro _ _ ⟨_, rfl, rfl, rfl⟩
  refine g_if_ne 15 dX12_image_7 (by decide) (fun h1 => ?_) (fun h1 => ?_)
  · have h1 := zs_b1 h1
    obtain ⟨i', i'a, i'b, rfl⟩ := zs_rng h1 (by omega)
    refine g_aload_n dX12_image_15 rfl rfl ?_
    refine g_iconst (v := (nI 0)) dX12_image_16 rfl ?_
    refine g_sipush (v := (nI 225)) dX12_image_17 rfl ?_
    refine g_iload_n dX12_image_20 rfl rfl ?_
    refine g_iconst (v := (nI 1)) dX12_image_21 rfl ?_
    refine g_iaddN dX12_image_22 ?_
    refine g_imulN dX12_image_23 ?_
    refine g_iconst (v := (nI 0)) dX12_image_24 rfl ?_
    refine g_bipush (v := (nI 66)) dX12_image_25 rfl ?_
    refine g_iload_n dX12_image_27 rfl rfl ?_
    refine g_iconst (v := (nI 1)) dX12_image_28 rfl ?_
    refine g_iaddN dX12_image_29 ?_
    refine g_imulN dX12_image_30 ?_
    refine g_callV (T := TX12) (NN := 19) [] (z_carries S (225 * (i' + 1)) (66 * (i' + 1)) (by omega) (by omega)) dX12_image_31 kk_X12_image_X12_carries ml_RX12_245 mwX12_carries ewX12_carries (by decide) rfl rfl rfl rfl (Nat.le_of_ble_eq_true rfl) ?_
    rintro _ S1 ⟨rfl, -⟩
    refine g_aload_n dX12_image_34 rfl rfl ?_
    refine g_getR 2 (83) (C := RX12) (T := TX12) (N := 19) dX12_image_35 (by decide) rfl rfl (by decide) rfl fl_RX12_16 ?_
    refine g_iload_n dX12_image_38 rfl rfl ?_
    refine g_iconst (v := (nI 1)) dX12_image_39 rfl ?_
    refine g_iastN dX12_image_40 (by decide) rfl (by omega) (by decide) ?_
    refine g_iconst (v := (nI 1)) dX12_image_41 rfl ?_
    refine g_iret dX12_image_42 rfl rfl ?_
    exact ⟨_, rfl, (zs_it h1).symm⟩
  · have h1 := zs_b0 h1
    refine g_aload_n dX12_image_10 rfl rfl ?_
    refine g_callV (T := TX12) (NN := 19) [] (z_bad S) dX12_image_11 kk_X12_image_X12_bad ml_RX12_62 mwX12_bad ewX12_bad (by decide) rfl rfl rfl rfl (Nat.le_of_ble_eq_true rfl) ?_
    rintro _ S2 ⟨_, rfl, rfl⟩
    refine g_iret dX12_image_14 rfl rfl ?_
    exact ⟨_, rfl, (zs_ie (fun q => h1 q)).symm⟩
theorem z_fl1 (S0 S : zs_S) (F : zs_F1 S0) (f k s : Nat) (bf : f < 2) (bk : k < 10000) (bs : s < 12) (h : zs_mt S0 S f k) : zs_Cv MX12_flashes [.ref 80, .int (nI 1), .int (nI s)] S (fun S2 => zs_mt S0 S2 ((f + s) % 2) (k + 1)) := z_flashes S0 S F f k s 1 bf bk bs (by decide) h
set_option maxRecDepth 100000 in
theorem w_round (S : zs_S) (F : zs_F1 S)  : zs_Ci MX12_round [.ref 80] S (fun x _ => x = nI 2) := by
  refine zs_C.of (by decide) (Nat.le_of_ble_eq_true rfl) ?_
  show zs_P MX12_round 0 [(0, .ref 80)] [] S _
  refine g_aload_n dX12_round_0 rfl rfl ?_
  refine g_callV (T := TX12) (NN := 19) [] (z_tries S S F zs_ch.rf (fun _ _ => rfl)) dX12_round_1 kk_X12_round_X12_tries ml_RX12_188 mwX12_tries ewX12_tries (by decide) rfl rfl rfl rfl (Nat.le_of_ble_eq_true rfl) ?_
  rintro _ Sa ⟨rfl, ta⟩
  refine g_iconst (v := (nI 1)) dX12_round_4 rfl ?_
  refine g_istore_n (lv' := [(1, .int (nI 1)), (0, .ref 80)]) dX12_round_5 rfl (by decide) rfl ?_
  refine g_iload_n dX12_round_6 rfl rfl ?_
  refine g_bipush (v := (nI 60)) dX12_round_7 rfl ?_
  refine g_ic_gtN 108 dX12_round_9 (by decide) (by omega) (by omega) (fun z => absurd z (by omega)) (fun _ => ?_)
  refine g_aload_n dX12_round_12 rfl rfl ?_
  refine g_iconst (v := (nI 1)) dX12_round_13 rfl ?_
  refine g_aload_n dX12_round_14 rfl rfl ?_
  refine g_getR 0 (81) (C := RX12) (T := TX12) (N := 19) dX12_round_15 (by decide) rfl rfl (by decide) rfl fl_RX12_7 ?_
  refine g_iconst (v := (nI 2)) dX12_round_18 rfl ?_
  refine g_ialdN (v := (nI 1)) dX12_round_19 (by decide) rfl (by omega) (by decide) ((ta.2.1 2 (by omega)).trans (congrFun (F 81 (by decide)).1 2)) ?_
  refine g_callV (T := TX12) (NN := 19) [] (z_fl1 S Sa F 0 0 1 (by decide) (by decide) (by decide) ta) dX12_round_20 kk_X12_round_X12_flashes ml_RX12_191 mwX12_flashes ewX12_flashes (by decide) rfl rfl rfl rfl (Nat.le_of_ble_eq_true rfl) ?_
  rintro _ S1 ⟨rfl, t2⟩
  refine g_aload_n dX12_round_23 rfl rfl ?_
  refine g_getR 0 (81) (C := RX12) (T := TX12) (N := 19) dX12_round_24 (by decide) rfl rfl (by decide) rfl fl_RX12_7 ?_
  refine g_sipush (v := (nI 675)) dX12_round_27 rfl ?_
  refine g_ialdN (v := (nI 1)) dX12_round_30 (by decide) rfl (by omega) (by decide) t2.2.2.1 ?_
  refine g_aload_n dX12_round_31 rfl rfl ?_
  refine g_getR 0 (81) (C := RX12) (T := TX12) (N := 19) dX12_round_32 (by decide) rfl rfl (by decide) rfl fl_RX12_7 ?_
  refine g_iconst (v := (nI 0)) dX12_round_35 rfl ?_
  refine g_ialdN (v := (nI 0)) dX12_round_36 (by decide) rfl (by omega) (by decide) ((t2.2.1 0 (by omega)).trans (congrFun (F 81 (by decide)).1 0)) ?_
  refine g_ic_neN 44 dX12_round_37 (by decide) (by omega) (by omega) (fun _ => ?_) (fun z => absurd z (by omega))
  refine g_iconst (v := (nI 0)) dX12_round_44 rfl ?_
  refine g_istore_n (lv' := [(2, .int (nI 0)), (1, .int (nI 1)), (0, .ref 80)]) dX12_round_45 rfl (by decide) rfl ?_
  refine g_iconst (v := (nI 0)) dX12_round_46 rfl ?_
  refine g_istore_n (lv' := [(3, .int (nI 0)), (2, .int (nI 0)), (1, .int (nI 1)), (0, .ref 80)]) dX12_round_47 rfl (by decide) rfl ?_
  refine g_iload_n dX12_round_48 rfl rfl ?_
  refine g_aload_n dX12_round_49 rfl rfl ?_
  refine g_getR 1 (82) (C := RX12) (T := TX12) (N := 19) dX12_round_50 (by decide) rfl rfl (by decide) rfl fl_RX12_13 ?_
  refine g_iconst (v := (nI 2)) dX12_round_53 rfl ?_
  refine g_ialdN (v := (nI 0)) dX12_round_54 (by decide) rfl (by omega) (by decide) ((congrFun (t2.1 82 (by omega)).1 2).trans (congrFun (F 82 (by decide)).1 2)) ?_
  refine g_ic_geN 96 dX12_round_55 (by decide) (by omega) (by omega) (fun _ => ?_) (fun z => absurd z (by omega))
  refine g_iload_n dX12_round_96 rfl rfl ?_
  refine g_if_eqN 102 dX12_round_97 (by decide) (by omega) (fun _ => ?_) (fun z => absurd z (by omega))
  refine g_iinc (v := (nI 2)) (lv' := [(1, .int (nI 2)), (3, .int (nI 0)), (2, .int (nI 0)), (0, .ref 80)]) dX12_round_102 rfl (nI_1 1) (by decide) rfl ?_
  refine g_goto 6 dX12_round_105 (by decide) ?_
  refine g_iload_n dX12_round_6 rfl rfl ?_
  refine g_bipush (v := (nI 60)) dX12_round_7 rfl ?_
  refine g_ic_gtN 108 dX12_round_9 (by decide) (by omega) (by omega) (fun z => absurd z (by omega)) (fun _ => ?_)
  refine g_aload_n dX12_round_12 rfl rfl ?_
  refine g_iconst (v := (nI 1)) dX12_round_13 rfl ?_
  refine g_aload_n dX12_round_14 rfl rfl ?_
  refine g_getR 0 (81) (C := RX12) (T := TX12) (N := 19) dX12_round_15 (by decide) rfl rfl (by decide) rfl fl_RX12_7 ?_
  refine g_iconst (v := (nI 2)) dX12_round_18 rfl ?_
  refine g_ialdN (v := (nI 1)) dX12_round_19 (by decide) rfl (by omega) (by decide) ((t2.2.1 2 (by omega)).trans (congrFun (F 81 (by decide)).1 2)) ?_
  refine g_callV (T := TX12) (NN := 19) [] (z_fl1 S S1 F 1 1 1 (by decide) (by decide) (by decide) t2) dX12_round_20 kk_X12_round_X12_flashes ml_RX12_191 mwX12_flashes ewX12_flashes (by decide) rfl rfl rfl rfl (Nat.le_of_ble_eq_true rfl) ?_
  rintro _ S3 ⟨rfl, t4⟩
  refine g_aload_n dX12_round_23 rfl rfl ?_
  refine g_getR 0 (81) (C := RX12) (T := TX12) (N := 19) dX12_round_24 (by decide) rfl rfl (by decide) rfl fl_RX12_7 ?_
  refine g_sipush (v := (nI 675)) dX12_round_27 rfl ?_
  refine g_ialdN (v := (nI 0)) dX12_round_30 (by decide) rfl (by omega) (by decide) t4.2.2.1 ?_
  refine g_aload_n dX12_round_31 rfl rfl ?_
  refine g_getR 0 (81) (C := RX12) (T := TX12) (N := 19) dX12_round_32 (by decide) rfl rfl (by decide) rfl fl_RX12_7 ?_
  refine g_iconst (v := (nI 0)) dX12_round_35 rfl ?_
  refine g_ialdN (v := (nI 0)) dX12_round_36 (by decide) rfl (by omega) (by decide) ((t4.2.1 0 (by omega)).trans (congrFun (F 81 (by decide)).1 0)) ?_
  refine g_ic_neN 44 dX12_round_37 (by decide) (by omega) (by omega) (fun z => absurd z (by omega)) (fun _ => ?_)
  refine g_iconst (v := (nI 1)) dX12_round_40 rfl ?_
  refine g_goto 45 dX12_round_41 (by decide) ?_
  refine g_istore_n (lv' := [(2, .int (nI 1)), (1, .int (nI 2)), (3, .int (nI 0)), (0, .ref 80)]) dX12_round_45 rfl (by decide) rfl ?_
  refine g_iconst (v := (nI 0)) dX12_round_46 rfl ?_
  refine g_istore_n (lv' := [(3, .int (nI 0)), (2, .int (nI 1)), (1, .int (nI 2)), (0, .ref 80)]) dX12_round_47 rfl (by decide) rfl ?_
  refine g_iload_n dX12_round_48 rfl rfl ?_
  refine g_aload_n dX12_round_49 rfl rfl ?_
  refine g_getR 1 (82) (C := RX12) (T := TX12) (N := 19) dX12_round_50 (by decide) rfl rfl (by decide) rfl fl_RX12_13 ?_
  refine g_iconst (v := (nI 2)) dX12_round_53 rfl ?_
  refine g_ialdN (v := (nI 0)) dX12_round_54 (by decide) rfl (by omega) (by decide) ((congrFun (t4.1 82 (by omega)).1 2).trans (congrFun (F 82 (by decide)).1 2)) ?_
  refine g_ic_geN 96 dX12_round_55 (by decide) (by omega) (by omega) (fun _ => ?_) (fun z => absurd z (by omega))
  refine g_iload_n dX12_round_96 rfl rfl ?_
  refine g_if_eqN 102 dX12_round_97 (by decide) (by omega) (fun z => absurd z (by omega)) (fun _ => ?_)
  refine g_iload_n dX12_round_100 rfl rfl ?_
  refine g_iret dX12_round_101 rfl rfl ?_
  exact ⟨_, rfl, rfl⟩
def zs_sets : Nat → Int32
  | 0 => nI 0
  | s + 1 => zs_sets s ||| (nI 1 <<< (nI s &&& 31))
set_option maxRecDepth 100000 in
theorem z_still_k (S0 : zs_S) (F : zs_F1 S0) (m s : Nat) (hm : m ≤ 60) (bs : s < 12) (v : Int32) (Q : Option Value → zs_S → Prop) (hk : ∀ S, zs_ch 81 82 S0 S → (∀ j, j < 675 → S.1 81 j = S0.1 81 j) → zs_P MX12_still 98 [(5, .int (nI m)), (4, .int (nI 1)), (3, .int (nI s)), (2, .int v), (0, .ref 80), (1, .int (nI m))] [] S Q) : ∀ (d i : Nat), i + d = m → ∀ f, f < 2 → ∀ S, zs_mt S0 S f i → zs_P MX12_still 37 [(5, .int (nI i)), (4, .int (nI 1)), (3, .int (nI s)), (2, .int v), (0, .ref 80), (1, .int (nI m))] [] S Q := by
  intro d
  induction d with
  | zero =>
    intro i hi f bf S h
    obtain rfl : i = m := by omega
    refine g_iload dX12_still_37 rfl ?_
    refine g_iload_n dX12_still_39 rfl rfl ?_
    refine g_ic_geN 98 dX12_still_40 (by decide) (by omega) (by omega) (fun _ => ?_) (fun z => absurd z (by omega))
    exact hk S h.1 h.2.1
  | succ d ih =>
    intro i hi f bf S h
    refine g_iload dX12_still_37 rfl ?_
    refine g_iload_n dX12_still_39 rfl rfl ?_
    refine g_ic_geN 98 dX12_still_40 (by decide) (by omega) (by omega) (fun z => absurd z (by omega)) (fun _ => ?_)
    refine g_aload_n dX12_still_43 rfl rfl ?_
    refine g_iconst (v := (nI 1)) dX12_still_44 rfl ?_
    refine g_iload_n dX12_still_45 rfl rfl ?_
    refine g_callV (T := TX12) (NN := 19) [] (z_fl1 S0 S F f i s bf (by omega) bs h) dX12_still_46 kk_X12_still_X12_flashes ml_RX12_191 mwX12_flashes ewX12_flashes (by decide) rfl rfl rfl rfl (Nat.le_of_ble_eq_true rfl) ?_
    rintro _ S2 ⟨rfl, h2⟩
    obtain ⟨f2, hf2, e2⟩ : ∃ f2, f2 < 2 ∧ f2 = (f + s) % 2 := ⟨_, Nat.mod_lt _ (by decide), rfl⟩
    rw [← e2] at h2
    refine g_iload dX12_still_49 rfl ?_
    refine g_if_eqN 89 dX12_still_51 (by decide) (by omega) (fun z => absurd z (by omega)) (fun _ => ?_)
    refine g_aload_n dX12_still_54 rfl rfl ?_
    refine g_getR 0 (81) (C := RX12) (T := TX12) (N := 19) dX12_still_55 (by decide) rfl rfl (by decide) rfl fl_RX12_7 ?_
    refine g_iconst (v := (nI 3)) dX12_still_58 rfl ?_
    refine g_aload_n dX12_still_59 rfl rfl ?_
    refine g_getR 0 (81) (C := RX12) (T := TX12) (N := 19) dX12_still_60 (by decide) rfl rfl (by decide) rfl fl_RX12_7 ?_
    refine g_sipush (v := (nI 675)) dX12_still_63 rfl ?_
    refine g_ialdN (v := (nI f2)) dX12_still_66 (by decide) rfl (by omega) (by decide) h2.2.2.1 ?_
    refine g_iaddN dX12_still_67 ?_
    refine g_ialdN (v := (nI 0)) dX12_still_68 (by decide) rfl (by omega) (by decide) ((h2.2.1 (3 + f2) (by omega)).trans ((congrFun (F 81 (by decide)).1 (3 + f2)).trans (if_neg (by omega)))) ?_
    refine g_aload_n dX12_still_69 rfl rfl ?_
    refine g_getR 0 (81) (C := RX12) (T := TX12) (N := 19) dX12_still_70 (by decide) rfl rfl (by decide) rfl fl_RX12_7 ?_
    refine g_iconst (v := (nI 3)) dX12_still_73 rfl ?_
    refine g_aload_n dX12_still_74 rfl rfl ?_
    refine g_getR 0 (81) (C := RX12) (T := TX12) (N := 19) dX12_still_75 (by decide) rfl rfl (by decide) rfl fl_RX12_7 ?_
    refine g_iconst (v := (nI 0)) dX12_still_78 rfl ?_
    refine g_ialdN (v := (nI 0)) dX12_still_79 (by decide) rfl (by omega) (by decide) ((h2.2.1 0 (by omega)).trans (congrFun (F 81 (by decide)).1 0)) ?_
    refine g_iaddN dX12_still_80 ?_
    refine g_ialdN (v := (nI 0)) dX12_still_81 (by decide) rfl (by omega) (by decide) ((h2.2.1 3 (by omega)).trans (congrFun (F 81 (by decide)).1 3)) ?_
    refine g_ic_neN 89 dX12_still_82 (by decide) (by omega) (by omega) (fun z => absurd z (by omega)) (fun _ => ?_)
    refine g_iconst (v := (nI 1)) dX12_still_85 rfl ?_
    refine g_goto 90 dX12_still_86 (by decide) ?_
    refine g_istore (lv' := [(4, .int (nI 1)), (5, .int (nI i)), (3, .int (nI s)), (2, .int v), (0, .ref 80), (1, .int (nI m))]) dX12_still_90 (by decide) rfl ?_
    refine g_iinc (v := (nI (i + 1))) (lv' := [(5, .int (nI (i + 1))), (4, .int (nI 1)), (3, .int (nI s)), (2, .int v), (0, .ref 80), (1, .int (nI m))]) dX12_still_92 rfl (nI_1 i) (by decide) rfl ?_
    refine g_goto 37 dX12_still_95 (by decide) ?_
    exact ih (i + 1) (by omega) f2 hf2 S2 h2
set_option maxRecDepth 100000 in
theorem z_still_s (S0 : zs_S) (F : zs_F1 S0) (m : Nat) (hm : m ≤ 60) (Q : Option Value → zs_S → Prop) (hq : ∀ S, Q (some (.int (zs_sets 12))) S) : ∀ (d s : Nat), s + d = 12 → ∀ S, zs_ch 81 82 S0 S → (∀ j, j < 675 → S.1 81 j = S0.1 81 j) → zs_P MX12_still 21 [(3, .int (nI s)), (2, .int (zs_sets s)), (0, .ref 80), (1, .int (nI m))] [] S Q := by
  intro d
  induction d with
  | zero =>
    intro s hs0 S hc hs
    obtain rfl : s = 12 := by omega
    refine g_iload_n dX12_still_21 rfl rfl ?_
    refine g_bipush (v := (nI 12)) dX12_still_22 rfl ?_
    refine g_ic_geN 119 dX12_still_24 (by decide) (by omega) (by omega) (fun _ => ?_) (fun z => absurd z (by omega))
    refine g_iload_n dX12_still_119 rfl rfl ?_
    refine g_iret dX12_still_120 rfl rfl ?_
    exact hq S
  | succ d ih =>
    intro s hs0 S hc hs
    refine g_iload_n dX12_still_21 rfl rfl ?_
    refine g_bipush (v := (nI 12)) dX12_still_22 rfl ?_
    refine g_ic_geN 119 dX12_still_24 (by decide) (by omega) (by omega) (fun z => absurd z (by omega)) (fun _ => ?_)
    refine g_aload_n dX12_still_27 rfl rfl ?_
    refine g_callV (T := TX12) (NN := 19) [] (z_tries S0 S F hc hs) dX12_still_28 kk_X12_still_X12_tries ml_RX12_188 mwX12_tries ewX12_tries (by decide) rfl rfl rfl rfl (Nat.le_of_ble_eq_true rfl) ?_
    rintro _ S1 ⟨rfl, t1⟩
    refine g_iconst (v := (nI 1)) dX12_still_31 rfl ?_
    refine g_istore (lv' := [(4, .int (nI 1)), (3, .int (nI s)), (2, .int (zs_sets s)), (0, .ref 80), (1, .int (nI m))]) dX12_still_32 (by decide) rfl ?_
    refine g_iconst (v := (nI 0)) dX12_still_34 rfl ?_
    refine g_istore (lv' := [(5, .int (nI 0)), (4, .int (nI 1)), (3, .int (nI s)), (2, .int (zs_sets s)), (0, .ref 80), (1, .int (nI m))]) dX12_still_35 (by decide) rfl ?_
    refine z_still_k S0 F m s hm (by omega) _ _ (fun S3 h3 h4 => ?_) m 0 (by omega) 0 (by decide) S1 t1
    refine g_iload_n dX12_still_98 rfl rfl ?_
    refine g_iload dX12_still_99 rfl ?_
    refine g_if_eqN 110 dX12_still_101 (by decide) (by omega) (fun z => absurd z (by omega)) (fun _ => ?_)
    refine g_iconst (v := (nI 1)) dX12_still_104 rfl ?_
    refine g_iload_n dX12_still_105 rfl rfl ?_
    refine g_ishl dX12_still_106 ?_
    refine g_goto 111 dX12_still_107 (by decide) ?_
    refine g_ior dX12_still_111 ?_
    refine g_istore_n (lv' := [(2, .int ((zs_sets s) ||| ((nI 1) <<< ((nI s) &&& 31)))), (5, .int (nI m)), (4, .int (nI 1)), (3, .int (nI s)), (0, .ref 80), (1, .int (nI m))]) dX12_still_112 rfl (by decide) rfl ?_
    refine g_iinc (v := (nI (s + 1))) (lv' := [(3, .int (nI (s + 1))), (2, .int ((zs_sets s) ||| ((nI 1) <<< ((nI s) &&& 31)))), (5, .int (nI m)), (4, .int (nI 1)), (0, .ref 80), (1, .int (nI m))]) dX12_still_113 rfl (nI_1 s) (by decide) rfl ?_
    refine g_goto 21 dX12_still_116 (by decide) ?_
    exact (ih (s + 1) (by omega) S3 h3 h4).lv (by simp [zs_sets])
set_option maxRecDepth 100000 in
theorem w_still (S : zs_S) (F : zs_F1 S) (m : Int32) : zs_Ci MX12_still [.ref 80, .int m] S (fun x _ => x = zs_if (nI 1 ≤ m ∧ m ≤ nI 60) (nI 4095) (-2)) := by
  refine zs_C.of (by decide) (Nat.le_of_ble_eq_true rfl) ?_
  show zs_P MX12_still 0 [(0, .ref 80), (1, .int m)] [] S _
  refine g_iload_n dX12_still_0 rfl rfl ?_
  refine g_i2l dX12_still_1 rfl ?_
  refine g_lconst (v := 1) dX12_still_2 (by decide) ?_
  refine g_ldc2 (v := 60) dX12_still_3 cl_RX12_173 ?_
  refine g_callS [.long (Int32.toInt64 m), .long 1, .long 60] [] (z_in S m 1 60 (by decide) (by decide)) dX12_still_6 kk_X12_still_X12_in ml_RX12_54 swX12_in rfl rfl (Nat.le_of_ble_eq_true rfl) ?_
  rintro _ _ ⟨_, rfl, rfl, rfl⟩
  refine g_if_ne 17 dX12_still_9 (by decide) (fun h1 => ?_) (fun h1 => ?_)
  · have h1 := zs_b1 h1
    obtain ⟨m', m'a, m'b, rfl⟩ := zs_rng h1 (by omega)
    refine g_iconst (v := (nI 0)) dX12_still_17 rfl ?_
    refine g_istore_n (lv' := [(2, .int (nI 0)), (0, .ref 80), (1, .int (nI m'))]) dX12_still_18 rfl (by decide) rfl ?_
    refine g_iconst (v := (nI 0)) dX12_still_19 rfl ?_
    refine g_istore_n (lv' := [(3, .int (nI 0)), (2, .int (nI 0)), (0, .ref 80), (1, .int (nI m'))]) dX12_still_20 rfl (by decide) rfl ?_
    exact (z_still_s S F m' (by omega) _ (fun S2 => ⟨_, rfl, by rw [zs_it h1]; show (_ : Int32) = _; decide⟩) 12 0 (by omega) S zs_ch.rf (fun _ _ => rfl)).lv (by simp [zs_sets])
  · have h1 := zs_b0 h1
    refine g_aload_n dX12_still_12 rfl rfl ?_
    refine g_callV (T := TX12) (NN := 19) [] (z_bad S) dX12_still_13 kk_X12_still_X12_bad ml_RX12_62 mwX12_bad ewX12_bad (by decide) rfl rfl rfl rfl (Nat.le_of_ble_eq_true rfl) ?_
    rintro _ S2 ⟨_, rfl, rfl⟩
    refine g_iret dX12_still_16 rfl rfl ?_
    exact ⟨_, rfl, (zs_ie (fun q => h1 q)).symm⟩
