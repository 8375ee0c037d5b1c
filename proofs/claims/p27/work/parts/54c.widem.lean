set_option maxRecDepth 100000 in
theorem y_X12_of_W (a1 : Int32) (a2 : Int32) : zs_U_W MX12_of [.ref 80, .int a1, .int a2] zs_Ri := by
  refine zs_Vof_W (by decide) (Nat.le_of_ble_eq_true rfl) ?_
  show zs_V_W MX12_of 0 [(0, .ref 80), (1, .int a1), (2, .int a2)] [] zs_Ri
  refine n_aload_n_W dX12_of_0 rfl rfl ?_
  refine n_iload_n_W dX12_of_1 rfl rfl ?_
  refine n_callV_W (T := TX12) (NN := 19) [] (y_isEye_W a1) dX12_of_2 kk_X12_of_X12_isEye ml_RX12_185 mwX12_isEye ewX12_isEye (by decide) rfl rfl rfl rfl (Nat.le_of_ble_eq_true rfl) ?_
  rintro _ ⟨x1, rfl, bx1, fx1⟩
  refine n_if_eq_W 20 dX12_of_5 (by decide) (fun h2 => ?_) (fun h2 => ?_)
  · refine n_aload_n_W dX12_of_20 rfl rfl ?_
    refine n_callV_W (T := TX12) (NN := 19) [] (y_X12_bad_W) dX12_of_21 kk_X12_of_X12_bad ml_RX12_62 mwX12_bad ewX12_bad (by decide) rfl rfl rfl rfl (Nat.le_of_ble_eq_true rfl) ?_
    rintro _ ⟨x3, rfl⟩
    exact n_iret_W dX12_of_24 rfl rfl ⟨_, rfl⟩
  · obtain ⟨k4, uk4, rfl⟩ := fx1 h2
    refine n_iload_n_W dX12_of_8 rfl rfl ?_
    refine n_i2l_W dX12_of_9 ?_
    refine n_lconst_W (v := 0) dX12_of_10 (by decide) ?_
    refine n_ldc2_W (v := 2) dX12_of_11 cl_RX12_50 ?_
    refine n_callS_W [.long (Int32.toInt64 a2), .long 0, .long 2] [] (y_in_W (Int32.toInt64 a2) 0 2) dX12_of_14 kk_X12_of_X12_in ml_RX12_54 swX12_in rfl rfl (Nat.le_of_ble_eq_true rfl) ?_
    rintro _ ⟨x5, rfl, bx5, fx5⟩
    refine n_if_ne_W 25 dX12_of_17 (by decide) (fun h6 => ?_) (fun h6 => ?_)
    · obtain ⟨k7, lk7, uk7, rfl⟩ := zs_inR (lo := 0) (hi := 2) (fx5 h6) (by decide) (by decide)
      refine n_iload_n_W dX12_of_25 rfl rfl ?_
      refine n_if_neN_W 40 dX12_of_26 (by decide) (by omega) (fun h8 => ?_) (fun h8 => ?_)
      · refine n_iload_n_W dX12_of_40 rfl rfl ?_
        refine n_iconst_W (v := (nI 1)) dX12_of_41 rfl ?_
        refine n_ic_neN_W 57 dX12_of_42 (by decide) (by omega) (by omega) (fun h9 => ?_) (fun h9 => ?_)
        · refine n_aload_n_W dX12_of_57 rfl rfl ?_
          refine n_getR_W 0 81 (C := RX12) (T := TX12) (N := 19) dX12_of_58 (by decide) rfl rfl (by decide) rfl fl_RX12_7 ?_
          refine n_bipush_W (v := (nI 20)) dX12_of_61 rfl ?_
          refine n_iload_n_W dX12_of_63 rfl rfl ?_
          refine n_iaddN_W dX12_of_64 ?_
          refine n_ald_W dX12_of_65 (by decide) rfl (by omega) (by decide) (fun x10 => ?_)
          exact n_iret_W dX12_of_66 rfl rfl ⟨_, rfl⟩
        · refine n_aload_n_W dX12_of_45 rfl rfl ?_
          refine n_getR_W 0 81 (C := RX12) (T := TX12) (N := 19) dX12_of_46 (by decide) rfl rfl (by decide) rfl fl_RX12_7 ?_
          refine n_bipush_W (v := (nI 15)) dX12_of_49 rfl ?_
          refine n_iload_n_W dX12_of_51 rfl rfl ?_
          refine n_iaddN_W dX12_of_52 ?_
          refine n_ald_W dX12_of_53 (by decide) rfl (by omega) (by decide) (fun x11 => ?_)
          refine n_goto_W 66 dX12_of_54 (by decide) ?_
          exact n_iret_W dX12_of_66 rfl rfl ⟨_, rfl⟩
      · refine n_aload_n_W dX12_of_29 rfl rfl ?_
        refine n_getR_W 1 82 (C := RX12) (T := TX12) (N := 19) dX12_of_30 (by decide) rfl rfl (by decide) rfl fl_RX12_13 ?_
        refine n_iconst_W (v := (nI 3)) dX12_of_33 rfl ?_
        refine n_iload_n_W dX12_of_34 rfl rfl ?_
        refine n_iaddN_W dX12_of_35 ?_
        refine n_ald_W dX12_of_36 (by decide) rfl (by omega) (by decide) (fun x12 => ?_)
        refine n_goto_W 66 dX12_of_37 (by decide) ?_
        exact n_iret_W dX12_of_66 rfl rfl ⟨_, rfl⟩
    · refine n_aload_n_W dX12_of_20 rfl rfl ?_
      refine n_callV_W (T := TX12) (NN := 19) [] (y_X12_bad_W) dX12_of_21 kk_X12_of_X12_bad ml_RX12_62 mwX12_bad ewX12_bad (by decide) rfl rfl rfl rfl (Nat.le_of_ble_eq_true rfl) ?_
      rintro _ ⟨x13, rfl⟩
      exact n_iret_W dX12_of_24 rfl rfl ⟨_, rfl⟩
set_option maxRecDepth 100000 in
theorem y_X12_drawn_W (a1 : Int32) : zs_U_W MX12_drawn [.ref 80, .int a1] zs_Ri := by
  refine zs_Vof_W (by decide) (Nat.le_of_ble_eq_true rfl) ?_
  show zs_V_W MX12_drawn 0 [(0, .ref 80), (1, .int a1)] [] zs_Ri
  refine n_aload_n_W dX12_drawn_0 rfl rfl ?_
  refine n_iload_n_W dX12_drawn_1 rfl rfl ?_
  refine n_callV_W (T := TX12) (NN := 19) [] (y_isFrame_W a1) dX12_drawn_2 kk_X12_drawn_X12_isFrame ml_RX12_181 mwX12_isFrame ewX12_isFrame (by decide) rfl rfl rfl rfl (Nat.le_of_ble_eq_true rfl) ?_
  rintro _ ⟨x1, rfl, bx1, fx1⟩
  refine n_if_eq_W 19 dX12_drawn_5 (by decide) (fun h2 => ?_) (fun h2 => ?_)
  · refine n_aload_n_W dX12_drawn_19 rfl rfl ?_
    refine n_callV_W (T := TX12) (NN := 19) [] (y_X12_bad_W) dX12_drawn_20 kk_X12_drawn_X12_bad ml_RX12_62 mwX12_bad ewX12_bad (by decide) rfl rfl rfl rfl (Nat.le_of_ble_eq_true rfl) ?_
    rintro _ ⟨x3, rfl⟩
    exact n_iret_W dX12_drawn_23 rfl rfl ⟨_, rfl⟩
  · obtain ⟨k4, uk4, rfl⟩ := fx1 h2
    refine n_aload_n_W dX12_drawn_8 rfl rfl ?_
    refine n_getR_W 0 81 (C := RX12) (T := TX12) (N := 19) dX12_drawn_9 (by decide) rfl rfl (by decide) rfl fl_RX12_7 ?_
    refine n_iconst_W (v := (nI 3)) dX12_drawn_12 rfl ?_
    refine n_iload_n_W dX12_drawn_13 rfl rfl ?_
    refine n_iaddN_W dX12_drawn_14 ?_
    refine n_aldR_W (lo := 0) (up := 9) dX12_drawn_15 (by decide) rfl (by omega) (by decide) (rg_81_3_14 _ (by omega) (by omega)) (fun m5 hm5 km5 => ?_)
    refine n_goto_W 23 dX12_drawn_16 (by decide) ?_
    exact n_iret_W dX12_drawn_23 rfl rfl ⟨_, rfl⟩
set_option maxRecDepth 100000 in
theorem y_known_W : zs_U_W MX12_known [.ref 80] zs_Rv := by
  refine zs_Vof_W (by decide) (Nat.le_of_ble_eq_true rfl) ?_
  show zs_V_W MX12_known 0 [(0, .ref 80)] [] _
  have tail : ∀ (S : zs_S), zs_J S → ∀ m, m ≤ 7 → S.1 82 65 = nI m → zs_P MX12_known 52 [(0, .ref 80)] [] S (fun v S2 => zs_Rv v ∧ zs_J S2 ∧ zs_fm_W S S2) := by
    intro S hJ m hm h3
    refine g_aload_n dX12_known_52 rfl rfl ?_
    refine g_getR 1 (82) (C := RX12) (T := TX12) (N := 19) dX12_known_53 (by decide) rfl rfl (by decide) rfl fl_RX12_13 ?_
    refine g_bipush (v := (nI 65)) dX12_known_56 rfl ?_
    refine g_dup2 dX12_known_58 rfl rfl ?_
    refine g_ialdN (v := (nI m)) dX12_known_59 (by decide) rfl (by omega) (by decide) h3 ?_
    refine g_iconst (v := (nI 1)) dX12_known_60 rfl ?_
    refine g_iaddN dX12_known_61 ?_
    refine g_iastN dX12_known_62 (by decide) rfl (by omega) (by decide) ?_
    refine g_aload_n dX12_known_63 rfl rfl ?_
    refine g_iconst (v := (nI 0)) dX12_known_64 rfl ?_
    refine g_aload_n dX12_known_65 rfl rfl ?_
    refine g_getR 1 (82) (C := RX12) (T := TX12) (N := 19) dX12_known_66 (by decide) rfl rfl (by decide) rfl fl_RX12_13 ?_
    refine g_bipush (v := (nI 65)) dX12_known_69 rfl ?_
    refine g_ialdN (v := (nI (m + 1))) dX12_known_71 (by decide) rfl (by omega) (by decide) zs_up_q ?_
    refine g_bipush (v := (nI 25)) dX12_known_72 rfl ?_
    refine g_imulN dX12_known_74 ?_
    refine g_callV (T := TX12) (NN := 19) [] (y_copiesX_W 0 ((m + 1) * 25) (by omega) (by omega) (by omega) (by omega) (zs_up S.1 82 65 (nI (m + 1)), S.2) ((hJ).up (zs_okR2 rfl (by omega) (by omega) (by omega)))) dX12_known_75 kk_X12_known_X12_copies ml_RX12_169 mwX12_copies ewX12_copies (by decide) rfl rfl rfl rfl (Nat.le_of_ble_eq_true rfl) ?_
    rintro _ S1 ⟨rfl, jS1⟩
    refine g_ret dX12_known_78 rfl ?_
    exact ⟨rfl, jS1.1, ((((zs_fm_W.rf).tr (zs_fm_W.up rfl))).tr jS1.2.1)⟩
  have aft : ∀ i : Int32, zs_V_W MX12_known 43 [(1, .int i), (0, .ref 80)] [] zs_Rv := by
    intro i S hJ
    refine g_aload_n dX12_known_43 rfl rfl ?_
    refine g_getR 1 82 (C := RX12) (T := TX12) (N := 19) dX12_known_44 (by decide) rfl rfl (by decide) rfl fl_RX12_13 ?_
    refine g_bipush (v := nI 65) dX12_known_47 rfl ?_
    refine g_bipush (v := nI 7) dX12_known_49 rfl ?_
    refine g_iastN dX12_known_51 (by decide) rfl (by decide) (by decide) ?_
    exact ((tail _ (hJ.up (zs_okR2 rfl (by decide) (by decide) (by decide))) 7 (by decide) zs_up_q).lv (zs_mc 1 rfl zs_mn)).mono (fun _ _ q => ⟨q.1, q.2.1, (zs_fm_W.up rfl).tr q.2.2⟩)
  have key : ∀ (d i : Nat), 25 ≤ i → i + d = 200 → zs_V_W MX12_known 15 [(1, .int (nI i)), (0, .ref 80)] [] zs_Rv := by
    intro d
    induction d with
    | zero =>
      intro i h25 hi
      refine n_iload_n_W dX12_known_15 rfl rfl ?_
      refine n_sipush_W (v := nI 200) dX12_known_16 rfl ?_
      exact n_ic_geN_W 43 dX12_known_19 (by decide) (by omega) (by omega) (fun _ => aft _) (fun z => absurd z (by omega))
    | succ d ih =>
      intro i h25 hi
      refine n_iload_n_W dX12_known_15 rfl rfl ?_
      refine n_sipush_W (v := nI 200) dX12_known_16 rfl ?_
      refine n_ic_geN_W 43 dX12_known_19 (by decide) (by omega) (by omega) (fun z => absurd z (by omega)) (fun _ => ?_)
      refine n_aload_n_W dX12_known_22 rfl rfl ?_
      refine n_getR_W 0 81 (C := RX12) (T := TX12) (N := 19) dX12_known_23 (by decide) rfl rfl (by decide) rfl fl_RX12_7 ?_
      refine n_iload_n_W dX12_known_26 rfl rfl ?_
      refine n_aload_n_W dX12_known_27 rfl rfl ?_
      refine n_getR_W 0 81 (C := RX12) (T := TX12) (N := 19) dX12_known_28 (by decide) rfl rfl (by decide) rfl fl_RX12_7 ?_
      refine n_iload_n_W dX12_known_31 rfl rfl ?_
      refine n_bipush_W (v := nI 25) dX12_known_32 rfl ?_
      refine n_iaddN_W dX12_known_34 ?_
      refine n_aldX_W (j := i) dX12_known_35 (by omega) (by omega) (fun v hv => ?_)
      refine n_ast_W dX12_known_36 (by decide) rfl (by omega) (by decide) rfl hv ?_
      refine n_iinc_W (v := nI (i + 1)) (lv' := [(1, .int (nI (i + 1))), (0, .ref 80)]) dX12_known_37 rfl (nI_1 i) (by decide) rfl ?_
      refine n_goto_W 15 dX12_known_40 (by decide) ?_
      exact ih (i + 1) (by omega) (by omega)
  intro S hJ
  obtain ⟨m, h1, h2, h3⟩ := hJ.1 82 65 0 8 rfl
  refine g_aload_n dX12_known_0 rfl rfl ?_
  refine g_getR 1 82 (C := RX12) (T := TX12) (N := 19) dX12_known_1 (by decide) rfl rfl (by decide) rfl fl_RX12_13 ?_
  refine g_bipush (v := nI 65) dX12_known_4 rfl ?_
  refine g_ialdN (v := nI m) dX12_known_6 (by decide) rfl (by decide) (by decide) h3 ?_
  refine g_bipush (v := nI 8) dX12_known_7 rfl ?_
  refine g_ic_neN 52 dX12_known_9 (by decide) (by omega) (by omega) (fun h => tail S hJ m (by omega) h3) (fun h => ?_)
  refine g_bipush (v := nI 25) dX12_known_12 rfl ?_
  refine g_istore_n (lv' := [(1, .int (nI 25)), (0, .ref 80)]) dX12_known_14 rfl (by decide) rfl ?_
  exact key 175 25 (by decide) (by decide) S hJ
set_option maxRecDepth 100000 in
theorem y_X12_undo_W : zs_U_W MX12_undo [.ref 80] zs_Ri := by
  refine zs_Vof_W (by decide) (Nat.le_of_ble_eq_true rfl) ?_
  show zs_V_W MX12_undo 0 [(0, .ref 80)] [] zs_Ri
  intro S hJ
  obtain ⟨m, h1, h2, h3⟩ := hJ.1 82 65 0 8 rfl
  refine g_aload_n dX12_undo_0 rfl rfl ?_
  refine g_getR 1 (82) (C := RX12) (T := TX12) (N := 19) dX12_undo_1 (by decide) rfl rfl (by decide) rfl fl_RX12_13 ?_
  refine g_bipush (v := (nI 65)) dX12_undo_4 rfl ?_
  refine g_ialdN (v := (nI m)) dX12_undo_6 (by decide) rfl (by omega) (by decide) h3 ?_
  refine g_if_neN 15 dX12_undo_7 (by decide) (by omega) (fun h1 => ?_) (fun h1 => ?_)
  · refine g_aload_n dX12_undo_15 rfl rfl ?_
    refine g_aload_n dX12_undo_16 rfl rfl ?_
    refine g_getR 1 (82) (C := RX12) (T := TX12) (N := 19) dX12_undo_17 (by decide) rfl rfl (by decide) rfl fl_RX12_13 ?_
    refine g_bipush (v := (nI 65)) dX12_undo_20 rfl ?_
    refine g_ialdN (v := (nI m)) dX12_undo_22 (by decide) rfl (by omega) (by decide) h3 ?_
    refine g_bipush (v := (nI 25)) dX12_undo_23 rfl ?_
    refine g_imulN dX12_undo_25 ?_
    refine g_iconst (v := (nI 0)) dX12_undo_26 rfl ?_
    refine g_callV (T := TX12) (NN := 19) [] (y_copiesX_W (m * 25) 0 (by omega) (by omega) (by omega) (by omega) S hJ) dX12_undo_27 kk_X12_undo_X12_copies ml_RX12_169 mwX12_copies ewX12_copies (by decide) rfl rfl rfl rfl (Nat.le_of_ble_eq_true rfl) ?_
    rintro _ S2 ⟨rfl, jS2⟩
    refine g_aload_n dX12_undo_30 rfl rfl ?_
    refine g_getR 1 (82) (C := RX12) (T := TX12) (N := 19) dX12_undo_31 (by decide) rfl rfl (by decide) rfl fl_RX12_13 ?_
    refine g_bipush (v := (nI 65)) dX12_undo_34 rfl ?_
    refine g_dup2 dX12_undo_36 rfl rfl ?_
    refine g_ialdN (v := (nI m)) dX12_undo_37 (by decide) rfl (by omega) (by decide) ((congrFun jS2.2.2.1 65).trans h3) ?_
    refine g_iconst (v := (nI 1)) dX12_undo_38 rfl ?_
    refine g_isubN dX12_undo_39 (by omega) ?_
    refine g_iastN dX12_undo_40 (by decide) rfl (by omega) (by decide) ?_
    refine g_aload_n dX12_undo_41 rfl rfl ?_
    refine g_getR 0 (81) (C := RX12) (T := TX12) (N := 19) dX12_undo_42 (by decide) rfl rfl (by decide) rfl fl_RX12_7 ?_
    refine g_iconst (v := (nI 1)) dX12_undo_45 rfl ?_
    refine g_ialdN (v := ((zs_up S2.1 82 65 (nI (m - 1)), S2.2).1 81 1)) dX12_undo_46 (by decide) rfl (by omega) (by decide) rfl ?_
    refine g_iret dX12_undo_47 rfl rfl ?_
    exact ⟨⟨_, rfl⟩, ((jS2.1).up (zs_okR2 rfl (by omega) (by omega) (by omega))), ((((zs_fm_W.rf).tr jS2.2.1)).tr (zs_fm_W.up rfl))⟩
  · refine g_aload_n dX12_undo_10 rfl rfl ?_
    refine g_callV (T := TX12) (NN := 19) [] (y_X12_no_W S hJ) dX12_undo_11 kk_X12_undo_X12_no ml_RX12_178 mwX12_no ewX12_no (by decide) rfl rfl rfl rfl (Nat.le_of_ble_eq_true rfl) ?_
    rintro _ S3 ⟨⟨x4, rfl⟩, jS3, fS3⟩
    refine g_iret dX12_undo_14 rfl rfl ?_
    exact ⟨⟨_, rfl⟩, jS3, ((zs_fm_W.rf).tr fS3)⟩
set_option maxRecDepth 100000 in
theorem y_X12_flash_0_W (a2 : Nat) (la2 : 0 ≤ a2) (ua2 : a2 ≤ 11) (a3 : Int32) : zs_U_W MX12_flash [.ref 80, .int (nI 0), .int (nI a2), .int a3] zs_Rv := by
  refine zs_Vof_W (by decide) (Nat.le_of_ble_eq_true rfl) ?_
  show zs_V_W MX12_flash 0 [(0, .ref 80), (1, .int (nI 0)), (2, .int (nI a2)), (3, .int a3)] [] zs_Rv
  have j57 : ∀ (n57 : Nat) (c57 : Nat), 0 ≤ c57 → c57 ≤ 5 → 5 - c57 < n57 → zs_V_W MX12_flash 57 [(0, .ref 80), (1, .int (nI 0)), (2, .int (nI a2)), (3, .int a3), (4, .int (nI c57))] [] zs_Rv := by
    intro n57
    induction n57 with
    | zero => intro c57 lc57 uc57 hn57; exact absurd hn57 (Nat.not_lt_zero _)
    | succ n57 ih57 =>
      intro c57 lc57 uc57 hn57
      have j187 : c57 + 1 ≤ 5 → ∀ (v187_5 : Int32) (v187_6 : Int32) (s187_0 : Int32) (s187_1 : Int32) (s187_2 : Nat), 20 ≤ s187_2 → s187_2 ≤ 24 → zs_V_W MX12_flash 187 [(0, .ref 80), (1, .int (nI 0)), (2, .int (nI a2)), (3, .int a3), (4, .int (nI c57)), (5, .int v187_5), (6, .int v187_6)] [.int s187_0, .int s187_1, .int (nI s187_2), .ref 81] zs_Rv := by
        intro hd57 v187_5 v187_6 s187_0 s187_1 s187_2 ls187_2 us187_2
        refine n_iadd_W dX12_flash_187 (fun x1 => ?_)
        refine n_ast_W dX12_flash_188 (by decide) rfl (by omega) (by decide) rfl (zs_okN (rg_81_20_24 _ (by omega) (by omega)) (by decide) (by decide)) ?_
        refine n_aload_n_W dX12_flash_189 rfl rfl ?_
        refine n_getR_W 0 81 (C := RX12) (T := TX12) (N := 19) dX12_flash_190 (by decide) rfl rfl (by decide) rfl fl_RX12_7 ?_
        refine n_iload_n_W dX12_flash_193 rfl rfl ?_
        refine n_bipush_W (v := (nI 15)) dX12_flash_194 rfl ?_
        refine n_iaddN_W dX12_flash_196 ?_
        refine n_iload_W dX12_flash_197 rfl ?_
        refine n_iaddN_W dX12_flash_199 ?_
        refine n_iload_W dX12_flash_200 rfl ?_
        refine n_ast_W dX12_flash_202 (by decide) rfl (by omega) (by decide) rfl (zs_okN (rg_81_15_19 _ (by omega) (by omega)) (by decide) (by decide)) ?_
        refine n_iinc_W (v := (nI (c57 + 1))) (lv' := [(4, .int (nI (c57 + 1))), (0, .ref 80), (1, .int (nI 0)), (2, .int (nI a2)), (3, .int a3), (5, .int v187_5), (6, .int v187_6)]) dX12_flash_203 rfl (nI_1 c57) (by decide) rfl ?_
        refine n_goto_W 57 dX12_flash_206 (by decide) ?_
        exact zs_Vlv_W (ih57 (c57 + 1) (by omega) (by omega) (by omega)) (zs_mc 1 rfl (zs_mc 2 rfl (zs_mc 3 rfl (zs_mc 4 rfl (zs_mc 0 rfl zs_mn)))))
      have j162 : c57 + 1 ≤ 5 → ∀ (v162_5 : Int32) (s162_0 : Int32), zs_V_W MX12_flash 162 [(0, .ref 80), (1, .int (nI 0)), (2, .int (nI a2)), (3, .int a3), (4, .int (nI c57)), (5, .int v162_5)] [.int s162_0] zs_Rv := by
        intro hd57 v162_5 s162_0
        refine n_istore_W (lv' := [(6, .int s162_0), (0, .ref 80), (1, .int (nI 0)), (2, .int (nI a2)), (3, .int a3), (4, .int (nI c57)), (5, .int v162_5)]) dX12_flash_162 (by decide) rfl ?_
        refine n_aload_n_W dX12_flash_164 rfl rfl ?_
        refine n_getR_W 0 81 (C := RX12) (T := TX12) (N := 19) dX12_flash_165 (by decide) rfl rfl (by decide) rfl fl_RX12_7 ?_
        refine n_iload_n_W dX12_flash_168 rfl rfl ?_
        refine n_bipush_W (v := (nI 20)) dX12_flash_169 rfl ?_
        refine n_iaddN_W dX12_flash_171 ?_
        refine n_iload_W dX12_flash_172 rfl ?_
        refine n_iaddN_W dX12_flash_174 ?_
        refine n_dup2_W dX12_flash_175 rfl rfl ?_
        refine n_ald_W dX12_flash_176 (by decide) rfl (by omega) (by decide) (fun x2 => ?_)
        refine n_iload_W dX12_flash_177 rfl ?_
        refine n_if_eq_W 186 dX12_flash_179 (by decide) (fun h3 => ?_) (fun h3 => ?_)
        · refine n_iconst_W (v := (nI 0)) dX12_flash_186 rfl ?_
          exact zs_Vlv_W (j187 (by omega) v162_5 s162_0 (nI 0) x2 ((0 + 20) + c57) (by omega) (by omega)) (zs_mc 1 rfl (zs_mc 2 rfl (zs_mc 3 rfl (zs_mc 4 rfl (zs_mc 5 rfl (zs_mc 6 rfl (zs_mc 0 rfl zs_mn)))))))
        · refine n_iconst_W (v := (nI 1)) dX12_flash_182 rfl ?_
          refine n_goto_W 187 dX12_flash_183 (by decide) ?_
          exact zs_Vlv_W (j187 (by omega) v162_5 s162_0 (nI 1) x2 ((0 + 20) + c57) (by omega) (by omega)) (zs_mc 1 rfl (zs_mc 2 rfl (zs_mc 3 rfl (zs_mc 4 rfl (zs_mc 5 rfl (zs_mc 6 rfl (zs_mc 0 rfl zs_mn)))))))
      have j161 : c57 + 1 ≤ 5 → ∀ (v161_5 : Int32), zs_V_W MX12_flash 161 [(0, .ref 80), (1, .int (nI 0)), (2, .int (nI a2)), (3, .int a3), (4, .int (nI c57)), (5, .int v161_5)] [] zs_Rv := by
        intro hd57 v161_5
        refine n_iconst_W (v := (nI 0)) dX12_flash_161 rfl ?_
        exact j162 (by omega) v161_5 (nI 0)
      have j157 : c57 + 1 ≤ 5 → ∀ (v157_5 : Int32), zs_V_W MX12_flash 157 [(0, .ref 80), (1, .int (nI 0)), (2, .int (nI a2)), (3, .int a3), (4, .int (nI c57)), (5, .int v157_5)] [] zs_Rv := by
        intro hd57 v157_5
        refine n_iconst_W (v := (nI 1)) dX12_flash_157 rfl ?_
        refine n_goto_W 162 dX12_flash_158 (by decide) ?_
        exact j162 (by omega) v157_5 (nI 1)
      refine n_iload_W dX12_flash_57 rfl ?_
      refine n_aload_n_W dX12_flash_59 rfl rfl ?_
      refine n_getR_W 1 82 (C := RX12) (T := TX12) (N := 19) dX12_flash_60 (by decide) rfl rfl (by decide) rfl fl_RX12_13 ?_
      refine n_iconst_W (v := (nI 2)) dX12_flash_63 rfl ?_
      refine n_aldR_W (lo := 0) (up := 5) dX12_flash_64 (by decide) rfl (by omega) (by decide) rfl (fun m4 hm4 km4 => ?_)
      refine n_ic_geN_W 209 dX12_flash_65 (by decide) (by omega) (by omega) (fun h5 => ?_) (fun h5 => ?_)
      · exact n_ret_W dX12_flash_209 rfl rfl
      · refine n_iload_n_W dX12_flash_68 rfl rfl ?_
        refine n_if_eq_W 209 dX12_flash_69 (by decide) (fun h6 => ?_) (fun h6 => ?_)
        · exact n_ret_W dX12_flash_209 rfl rfl
        · refine n_aload_n_W dX12_flash_72 rfl rfl ?_
          refine n_getR_W 1 82 (C := RX12) (T := TX12) (N := 19) dX12_flash_73 (by decide) rfl rfl (by decide) rfl fl_RX12_13 ?_
          refine n_iconst_W (v := (nI 3)) dX12_flash_76 rfl ?_
          refine n_iload_W dX12_flash_77 rfl ?_
          refine n_iaddN_W dX12_flash_79 ?_
          refine n_ald_W dX12_flash_80 (by decide) rfl (by omega) (by decide) (fun x7 => ?_)
          refine n_aload_n_W dX12_flash_81 rfl rfl ?_
          refine n_getR_W 0 81 (C := RX12) (T := TX12) (N := 19) dX12_flash_82 (by decide) rfl rfl (by decide) rfl fl_RX12_7 ?_
          refine n_iload_n_W dX12_flash_85 rfl rfl ?_
          refine n_iconst_W (v := (nI 3)) dX12_flash_86 rfl ?_
          refine n_iaddN_W dX12_flash_87 ?_
          refine n_aload_n_W dX12_flash_88 rfl rfl ?_
          refine n_getR_W 0 81 (C := RX12) (T := TX12) (N := 19) dX12_flash_89 (by decide) rfl rfl (by decide) rfl fl_RX12_7 ?_
          refine n_iload_n_W dX12_flash_92 rfl rfl ?_
          refine n_iconst_W (v := (nI 0)) dX12_flash_93 rfl ?_
          refine n_iaddN_W dX12_flash_94 ?_
          refine n_aldR_W (lo := 0) (up := 11) dX12_flash_95 (by decide) rfl (by omega) (by decide) (rg_81_0_0 _ (by omega) (by omega)) (fun m8 hm8 km8 => ?_)
          refine n_iaddN_W dX12_flash_96 ?_
          refine n_aldR_W (lo := 0) (up := 9) dX12_flash_97 (by decide) rfl (by omega) (by decide) (rg_81_3_14 _ (by omega) (by omega)) (fun m9 hm9 km9 => ?_)
          refine n_aload_n_W dX12_flash_98 rfl rfl ?_
          refine n_getR_W 0 81 (C := RX12) (T := TX12) (N := 19) dX12_flash_99 (by decide) rfl rfl (by decide) rfl fl_RX12_7 ?_
          refine n_iload_n_W dX12_flash_102 rfl rfl ?_
          refine n_bipush_W (v := (nI 15)) dX12_flash_103 rfl ?_
          refine n_iaddN_W dX12_flash_105 ?_
          refine n_iload_W dX12_flash_106 rfl ?_
          refine n_iaddN_W dX12_flash_108 ?_
          refine n_ald_W dX12_flash_109 (by decide) rfl (by omega) (by decide) (fun x10 => ?_)
          refine n_callS_W [.int x7, .int (nI m9), .int x10] [] (y_X12_looks_W x7 (nI m9) x10) dX12_flash_110 kk_X12_flash_X12_looks ml_RX12_166 swX12_looks rfl rfl (Nat.le_of_ble_eq_true rfl) ?_
          rintro _ ⟨x11, rfl⟩
          refine n_istore_W (lv' := [(5, .int x11), (0, .ref 80), (1, .int (nI 0)), (2, .int (nI a2)), (3, .int a3), (4, .int (nI c57))]) dX12_flash_113 (by decide) rfl ?_
          refine n_iload_W dX12_flash_115 rfl ?_
          refine n_aload_n_W dX12_flash_117 rfl rfl ?_
          refine n_getR_W 0 81 (C := RX12) (T := TX12) (N := 19) dX12_flash_118 (by decide) rfl rfl (by decide) rfl fl_RX12_7 ?_
          refine n_iload_n_W dX12_flash_121 rfl rfl ?_
          refine n_bipush_W (v := (nI 15)) dX12_flash_122 rfl ?_
          refine n_iaddN_W dX12_flash_124 ?_
          refine n_iload_W dX12_flash_125 rfl ?_
          refine n_iaddN_W dX12_flash_127 ?_
          refine n_ald_W dX12_flash_128 (by decide) rfl (by omega) (by decide) (fun x12 => ?_)
          refine n_ic_eq_W 161 dX12_flash_129 (by decide) (fun h13 => ?_) (fun h13 => ?_)
          · exact zs_Vlv_W (j161 (by omega) x11) (zs_mc 1 rfl (zs_mc 2 rfl (zs_mc 3 rfl (zs_mc 4 rfl (zs_mc 5 rfl (zs_mc 0 rfl zs_mn))))))
          · refine n_iload_n_W dX12_flash_132 rfl rfl ?_
            refine n_sipush_W (v := (nI 675)) dX12_flash_133 rfl ?_
            refine n_ic_eqN_W 157 dX12_flash_136 (by decide) (by omega) (by omega) (fun h14 => ?_) (fun h14 => ?_)
            · exact absurd h14 (by omega)
            · refine n_aload_n_W dX12_flash_139 rfl rfl ?_
              refine n_getR_W 0 81 (C := RX12) (T := TX12) (N := 19) dX12_flash_140 (by decide) rfl rfl (by decide) rfl fl_RX12_7 ?_
              refine n_iload_n_W dX12_flash_143 rfl rfl ?_
              refine n_bipush_W (v := (nI 20)) dX12_flash_144 rfl ?_
              refine n_iaddN_W dX12_flash_146 ?_
              refine n_iload_W dX12_flash_147 rfl ?_
              refine n_iaddN_W dX12_flash_149 ?_
              refine n_ald_W dX12_flash_150 (by decide) rfl (by omega) (by decide) (fun x15 => ?_)
              refine n_sipush_W (v := (nI 9999)) dX12_flash_151 rfl ?_
              refine n_ic_ge_W 161 dX12_flash_154 (by decide) (fun h16 => ?_) (fun h16 => ?_)
              · exact zs_Vlv_W (j161 (by omega) x11) (zs_mc 1 rfl (zs_mc 2 rfl (zs_mc 3 rfl (zs_mc 4 rfl (zs_mc 5 rfl (zs_mc 0 rfl zs_mn))))))
              · exact zs_Vlv_W (j157 (by omega) x11) (zs_mc 1 rfl (zs_mc 2 rfl (zs_mc 3 rfl (zs_mc 4 rfl (zs_mc 5 rfl (zs_mc 0 rfl zs_mn))))))
  refine n_aload_n_W dX12_flash_0 rfl rfl ?_
  refine n_getR_W 0 81 (C := RX12) (T := TX12) (N := 19) dX12_flash_1 (by decide) rfl rfl (by decide) rfl fl_RX12_7 ?_
  refine n_iload_n_W dX12_flash_4 rfl rfl ?_
  refine n_iconst_W (v := (nI 1)) dX12_flash_5 rfl ?_
  refine n_iaddN_W dX12_flash_6 ?_
  refine n_dup2_W dX12_flash_7 rfl rfl ?_
  refine n_ald_W dX12_flash_8 (by decide) rfl (by omega) (by decide) (fun x17 => ?_)
  refine n_iconst_W (v := (nI 1)) dX12_flash_9 rfl ?_
  refine n_iadd_W dX12_flash_10 (fun x18 => ?_)
  refine n_ast_W dX12_flash_11 (by decide) rfl (by omega) (by decide) rfl (zs_okN (rg_81_1_1 _ (by omega) (by omega)) (by decide) (by decide)) ?_
  refine n_aload_n_W dX12_flash_12 rfl rfl ?_
  refine n_getR_W 0 81 (C := RX12) (T := TX12) (N := 19) dX12_flash_13 (by decide) rfl rfl (by decide) rfl fl_RX12_7 ?_
  refine n_iload_n_W dX12_flash_16 rfl rfl ?_
  refine n_iconst_W (v := (nI 0)) dX12_flash_17 rfl ?_
  refine n_iaddN_W dX12_flash_18 ?_
  refine n_aload_n_W dX12_flash_19 rfl rfl ?_
  refine n_getR_W 0 81 (C := RX12) (T := TX12) (N := 19) dX12_flash_20 (by decide) rfl rfl (by decide) rfl fl_RX12_7 ?_
  refine n_iload_n_W dX12_flash_23 rfl rfl ?_
  refine n_iconst_W (v := (nI 0)) dX12_flash_24 rfl ?_
  refine n_iaddN_W dX12_flash_25 ?_
  refine n_aldR_W (lo := 0) (up := 11) dX12_flash_26 (by decide) rfl (by omega) (by decide) (rg_81_0_0 _ (by omega) (by omega)) (fun m19 hm19 km19 => ?_)
  refine n_aload_n_W dX12_flash_27 rfl rfl ?_
  refine n_getR_W 1 82 (C := RX12) (T := TX12) (N := 19) dX12_flash_28 (by decide) rfl rfl (by decide) rfl fl_RX12_13 ?_
  refine n_iconst_W (v := (nI 1)) dX12_flash_31 rfl ?_
  refine n_ald_W dX12_flash_32 (by decide) rfl (by omega) (by decide) (fun x20 => ?_)
  refine n_iload_n_W dX12_flash_33 rfl rfl ?_
  refine n_aload_n_W dX12_flash_34 rfl rfl ?_
  refine n_getR_W 0 81 (C := RX12) (T := TX12) (N := 19) dX12_flash_35 (by decide) rfl rfl (by decide) rfl fl_RX12_7 ?_
  refine n_iload_n_W dX12_flash_38 rfl rfl ?_
  refine n_iconst_W (v := (nI 1)) dX12_flash_39 rfl ?_
  refine n_iaddN_W dX12_flash_40 ?_
  refine n_ald_W dX12_flash_41 (by decide) rfl (by omega) (by decide) (fun x21 => ?_)
  refine n_callS_W [.int x20, .int (nI a2), .int x21] [.int (nI m19), .int (nI (0 + 0)), .ref 81] (y_X12_passes_W x20 a2 (by omega) (by omega) x21) dX12_flash_42 kk_X12_flash_X12_passes ml_RX12_162 swX12_passes rfl rfl (Nat.le_of_ble_eq_true rfl) ?_
  rintro _ ⟨m22, hm22, km22, rfl⟩
  refine n_iaddN_W dX12_flash_45 ?_
  refine n_aload_n_W dX12_flash_46 rfl rfl ?_
  refine n_getR_W 1 82 (C := RX12) (T := TX12) (N := 19) dX12_flash_47 (by decide) rfl rfl (by decide) rfl fl_RX12_13 ?_
  refine n_iconst_W (v := (nI 0)) dX12_flash_50 rfl ?_
  refine n_aldR_W (lo := 1) (up := 12) dX12_flash_51 (by decide) rfl (by omega) (by decide) rfl (fun m23 hm23 km23 => ?_)
  refine n_iremN_W dX12_flash_52 (by omega) (by omega) (by omega) ?_
  have hm24 := Nat.mod_lt (m19 + m22) (show m23 > 0 by omega)
  generalize (m19 + m22) % m23 = m24 at hm24 ⊢
  refine n_ast_W dX12_flash_53 (by decide) rfl (by omega) (by decide) rfl (zs_okR (rg_81_0_0 _ (by omega) (by omega)) (by omega) (by omega) (by decide) (by decide)) ?_
  refine n_iconst_W (v := (nI 0)) dX12_flash_54 rfl ?_
  refine n_istore_W (lv' := [(4, .int (nI 0)), (0, .ref 80), (1, .int (nI 0)), (2, .int (nI a2)), (3, .int a3)]) dX12_flash_55 (by decide) rfl ?_
  exact zs_Vlv_W (j57 _ 0 (by omega) (by omega) (Nat.lt_succ_self _)) (zs_mc 1 rfl (zs_mc 2 rfl (zs_mc 3 rfl (zs_mc 4 rfl (zs_mc 0 rfl zs_mn)))))
set_option maxRecDepth 100000 in
theorem y_X12_spins_W (a1 : Int32) : zs_U_W MX12_spins [.ref 80, .int a1] zs_Ri := by
  refine zs_Vof_W (by decide) (Nat.le_of_ble_eq_true rfl) ?_
  show zs_V_W MX12_spins 0 [(0, .ref 80), (1, .int a1)] [] zs_Ri
  refine n_iload_n_W dX12_spins_0 rfl rfl ?_
  refine n_i2l_W dX12_spins_1 ?_
  refine n_lconst_W (v := 1) dX12_spins_2 (by decide) ?_
  refine n_ldc2_W (v := 60) dX12_spins_3 cl_RX12_173 ?_
  refine n_callS_W [.long (Int32.toInt64 a1), .long 1, .long 60] [] (y_in_W (Int32.toInt64 a1) 1 60) dX12_spins_6 kk_X12_spins_X12_in ml_RX12_54 swX12_in rfl rfl (Nat.le_of_ble_eq_true rfl) ?_
  rintro _ ⟨x1, rfl, bx1, fx1⟩
  refine n_if_ne_W 17 dX12_spins_9 (by decide) (fun h2 => ?_) (fun h2 => ?_)
  · obtain ⟨k3, lk3, uk3, rfl⟩ := zs_inR (lo := 1) (hi := 60) (fx1 h2) (by decide) (by decide)
    have j58 : ∀ (v58_2 : Int32), zs_V_W MX12_spins 58 [(0, .ref 80), (1, .int (nI k3)), (2, .int v58_2)] [] zs_Ri := by
      intro v58_2
      refine n_aload_n_W dX12_spins_58 rfl rfl ?_
      refine n_getR_W 0 81 (C := RX12) (T := TX12) (N := 19) dX12_spins_59 (by decide) rfl rfl (by decide) rfl fl_RX12_7 ?_
      refine n_iconst_W (v := (nI 0)) dX12_spins_62 rfl ?_
      refine n_aldR_W (lo := 0) (up := 11) dX12_spins_63 (by decide) rfl (by omega) (by decide) rfl (fun m4 hm4 km4 => ?_)
      exact n_iret_W dX12_spins_64 rfl rfl ⟨_, rfl⟩
    have j23 : ∀ (n23 : Nat) (c23 : Int32), zs_mu c23 < n23 → zs_V_W MX12_spins 23 [(0, .ref 80), (1, .int (nI k3)), (2, .int c23)] [] zs_Ri := by
      intro n23
      induction n23 with
      | zero => intro c23 hn23; exact absurd hn23 (Nat.not_lt_zero _)
      | succ n23 ih23 =>
        intro c23 hn23
        refine n_iload_n_W dX12_spins_23 rfl rfl ?_
        refine n_iload_n_W dX12_spins_24 rfl rfl ?_
        refine n_ic_ge_W 58 dX12_spins_25 (by decide) (fun h5 => ?_) (fun h5 => ?_)
        · exact j58 c23
        · have hd23 := zs_muA h5 hn23
          refine n_aload_n_W dX12_spins_28 rfl rfl ?_
          refine n_getR_W 0 81 (C := RX12) (T := TX12) (N := 19) dX12_spins_29 (by decide) rfl rfl (by decide) rfl fl_RX12_7 ?_
          refine n_iconst_W (v := (nI 1)) dX12_spins_32 rfl ?_
          refine n_ald_W dX12_spins_33 (by decide) rfl (by omega) (by decide) (fun x6 => ?_)
          refine n_sipush_W (v := (nI 9999)) dX12_spins_34 rfl ?_
          refine n_ic_ge_W 58 dX12_spins_37 (by decide) (fun h7 => ?_) (fun h7 => ?_)
          · exact j58 c23
          · refine n_aload_n_W dX12_spins_40 rfl rfl ?_
            refine n_iconst_W (v := (nI 0)) dX12_spins_41 rfl ?_
            refine n_aload_n_W dX12_spins_42 rfl rfl ?_
            refine n_getR_W 0 81 (C := RX12) (T := TX12) (N := 19) dX12_spins_43 (by decide) rfl rfl (by decide) rfl fl_RX12_7 ?_
            refine n_iconst_W (v := (nI 2)) dX12_spins_46 rfl ?_
            refine n_aldR_W (lo := 0) (up := 11) dX12_spins_47 (by decide) rfl (by omega) (by decide) rfl (fun m8 hm8 km8 => ?_)
            refine n_iconst_W (v := (nI 1)) dX12_spins_48 rfl ?_
            refine n_callV_W (T := TX12) (NN := 19) [] (y_X12_flash_0_W m8 (by omega) (by omega) (nI 1)) dX12_spins_49 kk_X12_spins_X12_flash ml_RX12_132 mwX12_flash ewX12_flash (by decide) rfl rfl rfl rfl (Nat.le_of_ble_eq_true rfl) ?_
            rintro _ rfl
            refine n_iinc_W (v := (c23 + Int32.ofInt 1)) (lv' := [(2, .int (c23 + Int32.ofInt 1)), (0, .ref 80), (1, .int (nI k3))]) dX12_spins_52 rfl rfl (by decide) rfl ?_
            refine n_goto_W 23 dX12_spins_55 (by decide) ?_
            exact zs_Vlv_W (ih23 (c23 + Int32.ofInt 1) hd23) (zs_mc 1 rfl (zs_mc 2 rfl (zs_mc 0 rfl zs_mn)))
    refine n_aload_n_W dX12_spins_17 rfl rfl ?_
    refine n_callV_W (T := TX12) (NN := 19) [] (y_known_W) dX12_spins_18 kk_X12_spins_X12_known ml_RX12_175 mwX12_known ewX12_known (by decide) rfl rfl rfl rfl (Nat.le_of_ble_eq_true rfl) ?_
    rintro _ rfl
    refine n_iconst_W (v := (nI 0)) dX12_spins_21 rfl ?_
    refine n_istore_n_W (lv' := [(2, .int (nI 0)), (0, .ref 80), (1, .int (nI k3))]) dX12_spins_22 rfl (by decide) rfl ?_
    exact zs_Vlv_W (j23 _ (nI 0) (Nat.lt_succ_self _)) (zs_mc 1 rfl (zs_mc 2 rfl (zs_mc 0 rfl zs_mn)))
  · refine n_aload_n_W dX12_spins_12 rfl rfl ?_
    refine n_callV_W (T := TX12) (NN := 19) [] (y_X12_bad_W) dX12_spins_13 kk_X12_spins_X12_bad ml_RX12_62 mwX12_bad ewX12_bad (by decide) rfl rfl rfl rfl (Nat.le_of_ble_eq_true rfl) ?_
    rintro _ ⟨x9, rfl⟩
    exact n_iret_W dX12_spins_16 rfl rfl ⟨_, rfl⟩
set_option maxRecDepth 100000 in
theorem y_X12_steps_W (a1 : Int32) : zs_U_W MX12_steps [.ref 80, .int a1] zs_Ri := by
  refine zs_Vof_W (by decide) (Nat.le_of_ble_eq_true rfl) ?_
  show zs_V_W MX12_steps 0 [(0, .ref 80), (1, .int a1)] [] zs_Ri
  refine n_iload_n_W dX12_steps_0 rfl rfl ?_
  refine n_i2l_W dX12_steps_1 ?_
  refine n_lconst_W (v := 0) dX12_steps_2 (by decide) ?_
  refine n_ldc2_W (v := 11) dX12_steps_3 cl_RX12_60 ?_
  refine n_callS_W [.long (Int32.toInt64 a1), .long 0, .long 11] [] (y_in_W (Int32.toInt64 a1) 0 11) dX12_steps_6 kk_X12_steps_X12_in ml_RX12_54 swX12_in rfl rfl (Nat.le_of_ble_eq_true rfl) ?_
  rintro _ ⟨x1, rfl, bx1, fx1⟩
  refine n_if_ne_W 17 dX12_steps_9 (by decide) (fun h2 => ?_) (fun h2 => ?_)
  · obtain ⟨k3, lk3, uk3, rfl⟩ := zs_inR (lo := 0) (hi := 11) (fx1 h2) (by decide) (by decide)
    refine n_aload_n_W dX12_steps_17 rfl rfl ?_
    refine n_getR_W 0 81 (C := RX12) (T := TX12) (N := 19) dX12_steps_18 (by decide) rfl rfl (by decide) rfl fl_RX12_7 ?_
    refine n_iconst_W (v := (nI 2)) dX12_steps_21 rfl ?_
    refine n_aldR_W (lo := 0) (up := 11) dX12_steps_22 (by decide) rfl (by omega) (by decide) rfl (fun m4 hm4 km4 => ?_)
    refine n_iload_n_W dX12_steps_23 rfl rfl ?_
    refine n_ic_neN_W 32 dX12_steps_24 (by decide) (by omega) (by omega) (fun h5 => ?_) (fun h5 => ?_)
    · refine n_aload_n_W dX12_steps_32 rfl rfl ?_
      refine n_callV_W (T := TX12) (NN := 19) [] (y_known_W) dX12_steps_33 kk_X12_steps_X12_known ml_RX12_175 mwX12_known ewX12_known (by decide) rfl rfl rfl rfl (Nat.le_of_ble_eq_true rfl) ?_
      rintro _ rfl
      refine n_aload_n_W dX12_steps_36 rfl rfl ?_
      refine n_getR_W 0 81 (C := RX12) (T := TX12) (N := 19) dX12_steps_37 (by decide) rfl rfl (by decide) rfl fl_RX12_7 ?_
      refine n_iconst_W (v := (nI 2)) dX12_steps_40 rfl ?_
      refine n_aldR_W (lo := 0) (up := 11) dX12_steps_41 (by decide) rfl (by omega) (by decide) rfl (fun m6 hm6 km6 => ?_)
      refine n_istore_n_W (lv' := [(2, .int (nI m6)), (0, .ref 80), (1, .int (nI k3))]) dX12_steps_42 rfl (by decide) rfl ?_
      refine n_aload_n_W dX12_steps_43 rfl rfl ?_
      refine n_getR_W 0 81 (C := RX12) (T := TX12) (N := 19) dX12_steps_44 (by decide) rfl rfl (by decide) rfl fl_RX12_7 ?_
      refine n_iconst_W (v := (nI 2)) dX12_steps_47 rfl ?_
      refine n_iload_n_W dX12_steps_48 rfl rfl ?_
      refine n_ast_W dX12_steps_49 (by decide) rfl (by omega) (by decide) rfl (zs_okR rfl (by omega) (by omega) (by decide) (by decide)) ?_
      refine n_iload_n_W dX12_steps_50 rfl rfl ?_
      exact n_iret_W dX12_steps_51 rfl rfl ⟨_, rfl⟩
    · refine n_aload_n_W dX12_steps_27 rfl rfl ?_
      refine n_callV_W (T := TX12) (NN := 19) [] (y_X12_no_W) dX12_steps_28 kk_X12_steps_X12_no ml_RX12_178 mwX12_no ewX12_no (by decide) rfl rfl rfl rfl (Nat.le_of_ble_eq_true rfl) ?_
      rintro _ ⟨x7, rfl⟩
      exact n_iret_W dX12_steps_31 rfl rfl ⟨_, rfl⟩
  · refine n_aload_n_W dX12_steps_12 rfl rfl ?_
    refine n_callV_W (T := TX12) (NN := 19) [] (y_X12_bad_W) dX12_steps_13 kk_X12_steps_X12_bad ml_RX12_62 mwX12_bad ewX12_bad (by decide) rfl rfl rfl rfl (Nat.le_of_ble_eq_true rfl) ?_
    rintro _ ⟨x8, rfl⟩
    exact n_iret_W dX12_steps_16 rfl rfl ⟨_, rfl⟩
set_option maxRecDepth 100000 in
theorem y_X12_draws_W (a1 : Int32) (a2 : Int32) : zs_U_W MX12_draws [.ref 80, .int a1, .int a2] zs_Ri := by
  refine zs_Vof_W (by decide) (Nat.le_of_ble_eq_true rfl) ?_
  show zs_V_W MX12_draws 0 [(0, .ref 80), (1, .int a1), (2, .int a2)] [] zs_Ri
  refine n_aload_n_W dX12_draws_0 rfl rfl ?_
  refine n_iload_n_W dX12_draws_1 rfl rfl ?_
  refine n_callV_W (T := TX12) (NN := 19) [] (y_isFrame_W a1) dX12_draws_2 kk_X12_draws_X12_isFrame ml_RX12_181 mwX12_isFrame ewX12_isFrame (by decide) rfl rfl rfl rfl (Nat.le_of_ble_eq_true rfl) ?_
  rintro _ ⟨x1, rfl, bx1, fx1⟩
  refine n_if_eq_W 20 dX12_draws_5 (by decide) (fun h2 => ?_) (fun h2 => ?_)
  · refine n_aload_n_W dX12_draws_20 rfl rfl ?_
    refine n_callV_W (T := TX12) (NN := 19) [] (y_X12_bad_W) dX12_draws_21 kk_X12_draws_X12_bad ml_RX12_62 mwX12_bad ewX12_bad (by decide) rfl rfl rfl rfl (Nat.le_of_ble_eq_true rfl) ?_
    rintro _ ⟨x3, rfl⟩
    exact n_iret_W dX12_draws_24 rfl rfl ⟨_, rfl⟩
  · obtain ⟨k4, uk4, rfl⟩ := fx1 h2
    refine n_iload_n_W dX12_draws_8 rfl rfl ?_
    refine n_i2l_W dX12_draws_9 ?_
    refine n_lconst_W (v := 0) dX12_draws_10 (by decide) ?_
    refine n_ldc2_W (v := 9) dX12_draws_11 cl_RX12_121 ?_
    refine n_callS_W [.long (Int32.toInt64 a2), .long 0, .long 9] [] (y_in_W (Int32.toInt64 a2) 0 9) dX12_draws_14 kk_X12_draws_X12_in ml_RX12_54 swX12_in rfl rfl (Nat.le_of_ble_eq_true rfl) ?_
    rintro _ ⟨x5, rfl, bx5, fx5⟩
    refine n_if_ne_W 25 dX12_draws_17 (by decide) (fun h6 => ?_) (fun h6 => ?_)
    · obtain ⟨k7, lk7, uk7, rfl⟩ := zs_inR (lo := 0) (hi := 9) (fx5 h6) (by decide) (by decide)
      refine n_aload_n_W dX12_draws_25 rfl rfl ?_
      refine n_getR_W 0 81 (C := RX12) (T := TX12) (N := 19) dX12_draws_26 (by decide) rfl rfl (by decide) rfl fl_RX12_7 ?_
      refine n_iconst_W (v := (nI 3)) dX12_draws_29 rfl ?_
      refine n_iload_n_W dX12_draws_30 rfl rfl ?_
      refine n_iaddN_W dX12_draws_31 ?_
      refine n_aldR_W (lo := 0) (up := 9) dX12_draws_32 (by decide) rfl (by omega) (by decide) (rg_81_3_14 _ (by omega) (by omega)) (fun m8 hm8 km8 => ?_)
      refine n_iload_n_W dX12_draws_33 rfl rfl ?_
      refine n_ic_neN_W 42 dX12_draws_34 (by decide) (by omega) (by omega) (fun h9 => ?_) (fun h9 => ?_)
      · refine n_aload_n_W dX12_draws_42 rfl rfl ?_
        refine n_callV_W (T := TX12) (NN := 19) [] (y_known_W) dX12_draws_43 kk_X12_draws_X12_known ml_RX12_175 mwX12_known ewX12_known (by decide) rfl rfl rfl rfl (Nat.le_of_ble_eq_true rfl) ?_
        rintro _ rfl
        refine n_aload_n_W dX12_draws_46 rfl rfl ?_
        refine n_getR_W 0 81 (C := RX12) (T := TX12) (N := 19) dX12_draws_47 (by decide) rfl rfl (by decide) rfl fl_RX12_7 ?_
        refine n_iconst_W (v := (nI 3)) dX12_draws_50 rfl ?_
        refine n_iload_n_W dX12_draws_51 rfl rfl ?_
        refine n_iaddN_W dX12_draws_52 ?_
        refine n_aldR_W (lo := 0) (up := 9) dX12_draws_53 (by decide) rfl (by omega) (by decide) (rg_81_3_14 _ (by omega) (by omega)) (fun m10 hm10 km10 => ?_)
        refine n_istore_n_W (lv' := [(3, .int (nI m10)), (0, .ref 80), (1, .int (nI k4)), (2, .int (nI k7))]) dX12_draws_54 rfl (by decide) rfl ?_
        refine n_aload_n_W dX12_draws_55 rfl rfl ?_
        refine n_getR_W 0 81 (C := RX12) (T := TX12) (N := 19) dX12_draws_56 (by decide) rfl rfl (by decide) rfl fl_RX12_7 ?_
        refine n_iconst_W (v := (nI 3)) dX12_draws_59 rfl ?_
        refine n_iload_n_W dX12_draws_60 rfl rfl ?_
        refine n_iaddN_W dX12_draws_61 ?_
        refine n_iload_n_W dX12_draws_62 rfl rfl ?_
        refine n_ast_W dX12_draws_63 (by decide) rfl (by omega) (by decide) rfl (zs_okR (rg_81_3_14 _ (by omega) (by omega)) (by omega) (by omega) (by decide) (by decide)) ?_
        refine n_iload_n_W dX12_draws_64 rfl rfl ?_
        exact n_iret_W dX12_draws_65 rfl rfl ⟨_, rfl⟩
      · refine n_aload_n_W dX12_draws_37 rfl rfl ?_
        refine n_callV_W (T := TX12) (NN := 19) [] (y_X12_no_W) dX12_draws_38 kk_X12_draws_X12_no ml_RX12_178 mwX12_no ewX12_no (by decide) rfl rfl rfl rfl (Nat.le_of_ble_eq_true rfl) ?_
        rintro _ ⟨x11, rfl⟩
        exact n_iret_W dX12_draws_41 rfl rfl ⟨_, rfl⟩
    · refine n_aload_n_W dX12_draws_20 rfl rfl ?_
      refine n_callV_W (T := TX12) (NN := 19) [] (y_X12_bad_W) dX12_draws_21 kk_X12_draws_X12_bad ml_RX12_62 mwX12_bad ewX12_bad (by decide) rfl rfl rfl rfl (Nat.le_of_ble_eq_true rfl) ?_
      rintro _ ⟨x12, rfl⟩
      exact n_iret_W dX12_draws_24 rfl rfl ⟨_, rfl⟩
theorem zs_fm_W.x {S S2 : zs_S} (h : zs_fm_W S S2) : zs_fx S S2 := fun b i hb => h b i (by
  unfold zs_pm_W
  rw [show Nat.ble b 79 = true from Nat.ble_eq_true_of_le (by omega)]; rfl)
theorem zs_fm_W.k {S S2 : zs_S} (h : zs_fm_W S S2) (i : Nat) : S2.1 83 i = S.1 83 i := (h 83 i rfl).1
theorem zs_fm_W.l {S S2 : zs_S} (h : zs_fm_W S S2) : S2.1 80 3 = S.1 80 3 := (h 80 3 rfl).1
theorem n_i2lN_W {M : zs_M} {pc : Nat} {lv : List (Nat × Value)} {st : List Value} {R : Option Value → Prop} {n : Nat} (hd : decode M.2.1 pc = .ok (.i2l, 1)) (h : n < 2 ^ 31) (k : zs_V_W M (pc + 1) lv (.long (lN n) :: st) R) : zs_V_W M pc lv (.int (nI n) :: st) R := fun S hJ => g_i2l hd (nI_l h) (k S hJ)
set_option maxRecDepth 100000 in
theorem y_nights_l_W (z w : Int32) : ∀ (n : Nat) (i : Int32) (v : Nat), v < 2147483648 → zs_mu i < n → zs_V_W MX12_nights 39 [(5, .int i), (3, .long (lN v)), (0, .ref 80), (1, .int z), (2, .int w)] [] zs_Ri := by
  intro n
  induction n with
  | zero => intro i v hv hn; exact absurd hn (Nat.not_lt_zero _)
  | succ n ih =>
    intro i v hv hn
    refine n_iload_W dX12_nights_39 rfl ?_
    refine n_iload_n_W dX12_nights_41 rfl rfl ?_
    refine n_ic_ge_W 83 dX12_nights_42 (by decide) (fun h => ?_) (fun h => ?_)
    · refine n_aload_n_W dX12_nights_83 rfl rfl ?_
      refine n_sipush_W (v := nI 675) dX12_nights_84 rfl ?_
      refine n_callV_W (T := TX12) (NN := 19) [] (y_X12_movesOf_675_W) dX12_nights_87 kk_X12_nights_X12_movesOf ml_RX12_242 mwX12_movesOf ewX12_movesOf (by decide) rfl rfl rfl rfl (Nat.le_of_ble_eq_true rfl) ?_
      rintro _ ⟨x, rfl⟩
      exact n_iret_W dX12_nights_90 rfl rfl ⟨_, rfl⟩
    have hd := zs_muA h hn
    have kk : ∀ (v2 s2 : Nat), v2 < 2147483648 → s2 ≤ 11 → zs_V_W MX12_nights 74 [(5, .int i), (3, .long (lN v2)), (0, .ref 80), (1, .int z), (2, .int w)] [.int (nI 1), .int (nI s2), .int (nI 675), .ref 80] zs_Ri := by
      intro v2 s2 hv2 hs2
      refine n_callV_W (T := TX12) (NN := 19) [] (y_X12_flash_675_W s2 (by omega) (by omega) (nI 1)) dX12_nights_74 kk_X12_nights_X12_flash ml_RX12_132 mwX12_flash ewX12_flash (by decide) rfl rfl rfl rfl (Nat.le_of_ble_eq_true rfl) ?_
      rintro _ rfl
      refine n_iinc_W (v := (i + Int32.ofInt 1)) (lv' := [(5, .int (i + Int32.ofInt 1)), (3, .long (lN v2)), (0, .ref 80), (1, .int z), (2, .int w)]) dX12_nights_77 rfl rfl (by decide) rfl ?_
      refine n_goto_W 39 dX12_nights_80 (by decide) ?_
      exact ih _ v2 hv2 hd
    intro S hJ
    refine g_lload_n dX12_nights_45 rfl rfl ?_
    refine g_ldc2 (v := 1103515245) dX12_nights_46 cl_RX12_234 ?_
    refine g_lmul dX12_nights_49 ?_
    refine g_ldc2 (v := 12345) dX12_nights_50 cl_RX12_236 ?_
    refine g_ladd dX12_nights_53 ?_
    refine g_ldc2 (v := 2147483648) dX12_nights_54 cl_RX12_238 ?_
    refine g_lrem dX12_nights_57 (by decide) ?_
    rw [zs_lcg hv]
    obtain ⟨v2, hv2, ev2⟩ : ∃ v2, v2 < 2147483648 ∧ v2 = (v * 1103515245 + 12345) % 2147483648 := ⟨_, Nat.mod_lt _ (by decide), rfl⟩
    rw [← ev2]
    refine g_lstore_n (lv' := [(3, .long (lN v2)), (5, .int i), (0, .ref 80), (1, .int z), (2, .int w)]) dX12_nights_58 rfl (by decide) rfl ?_
    refine g_aload_n dX12_nights_59 rfl rfl ?_
    refine g_sipush (v := (nI 675)) dX12_nights_60 rfl ?_
    refine g_lload_n dX12_nights_63 rfl rfl ?_
    refine g_ldc2 (v := 65536) dX12_nights_64 cl_RX12_240 ?_
    refine g_ldiv dX12_nights_67 (by decide) ?_
    refine g_ldc2 (v := 12) dX12_nights_68 cl_RX12_52 ?_
    refine g_lrem dX12_nights_71 (by decide) ?_
    refine g_l2i dX12_nights_72 rfl ?_
    rw [zs_stp hv2]
    obtain ⟨s2, hs2, es2⟩ : ∃ s2, s2 < 12 ∧ s2 = v2 / 65536 % 12 := ⟨_, Nat.mod_lt _ (by decide), rfl⟩
    rw [← es2]
    refine g_iconst (v := (nI 1)) dX12_nights_73 rfl ?_
    exact (kk v2 s2 hv2 (by omega) S hJ).lv (zs_mc 1 rfl (zs_mc 0 rfl (zs_mc 2 rfl (zs_mc 3 rfl (zs_mc 4 rfl zs_mn)))))
set_option maxRecDepth 100000 in
theorem y_X12_nights_W (a1 : Int32) (a2 : Int32) : zs_U_W MX12_nights [.ref 80, .int a1, .int a2] zs_Ri := by
  refine zs_Vof_W (by decide) (Nat.le_of_ble_eq_true rfl) ?_
  show zs_V_W MX12_nights 0 [(0, .ref 80), (1, .int a1), (2, .int a2)] [] zs_Ri
  refine n_iload_n_W dX12_nights_0 rfl rfl ?_
  refine n_i2l_W dX12_nights_1 ?_
  refine n_lconst_W (v := 0) dX12_nights_2 (by decide) ?_
  refine n_ldc2_W (v := 999999) dX12_nights_3 cl_RX12_232 ?_
  refine n_callS_W [.long (Int32.toInt64 a1), .long 0, .long 999999] [] (y_in_W (Int32.toInt64 a1) 0 999999) dX12_nights_6 kk_X12_nights_X12_in ml_RX12_54 swX12_in rfl rfl (Nat.le_of_ble_eq_true rfl) ?_
  rintro _ ⟨x1, rfl, bx1, fx1⟩
  refine n_if_eq_W 24 dX12_nights_9 (by decide) (fun h2 => ?_) (fun h2 => ?_)
  · refine n_aload_n_W dX12_nights_24 rfl rfl ?_
    refine n_callV_W (T := TX12) (NN := 19) [] (y_X12_bad_W) dX12_nights_25 kk_X12_nights_X12_bad ml_RX12_62 mwX12_bad ewX12_bad (by decide) rfl rfl rfl rfl (Nat.le_of_ble_eq_true rfl) ?_
    rintro _ ⟨x3, rfl⟩
    exact n_iret_W dX12_nights_28 rfl rfl ⟨_, rfl⟩
  · obtain ⟨k4, lk4, uk4, rfl⟩ := zs_inR (lo := 0) (hi := 999999) (fx1 h2) (by decide) (by decide)
    refine n_iload_n_W dX12_nights_12 rfl rfl ?_
    refine n_i2l_W dX12_nights_13 ?_
    refine n_lconst_W (v := 0) dX12_nights_14 (by decide) ?_
    refine n_ldc2_W (v := 60) dX12_nights_15 cl_RX12_173 ?_
    refine n_callS_W [.long (Int32.toInt64 a2), .long 0, .long 60] [] (y_in_W (Int32.toInt64 a2) 0 60) dX12_nights_18 kk_X12_nights_X12_in ml_RX12_54 swX12_in rfl rfl (Nat.le_of_ble_eq_true rfl) ?_
    rintro _ ⟨x5, rfl, bx5, fx5⟩
    refine n_if_ne_W 29 dX12_nights_21 (by decide) (fun h6 => ?_) (fun h6 => ?_)
    · obtain ⟨k7, lk7, uk7, rfl⟩ := zs_inR (lo := 0) (hi := 60) (fx5 h6) (by decide) (by decide)
      refine n_aload_n_W dX12_nights_29 rfl rfl ?_
      refine n_callV_W (T := TX12) (NN := 19) [] (y_X12_tries_W) dX12_nights_30 kk_X12_nights_X12_tries ml_RX12_188 mwX12_tries ewX12_tries (by decide) rfl rfl rfl rfl (Nat.le_of_ble_eq_true rfl) ?_
      rintro _ rfl
      refine n_iload_n_W dX12_nights_33 rfl rfl ?_
      refine n_i2lN_W dX12_nights_34 (by omega) ?_
      refine n_lstore_n_W (lv' := [(3, .long (lN k4)), (0, .ref 80), (1, .int (nI k4)), (2, .int (nI k7))]) dX12_nights_35 rfl (by decide) rfl ?_
      refine n_iconst_W (v := nI 0) dX12_nights_36 rfl ?_
      refine n_istore_W (lv' := [(5, .int (nI 0)), (3, .long (lN k4)), (0, .ref 80), (1, .int (nI k4)), (2, .int (nI k7))]) dX12_nights_37 (by decide) rfl ?_
      exact zs_Vlv_W (y_nights_l_W (nI k4) (nI k7) _ (nI 0) k4 (by omega) (Nat.lt_succ_self _)) (zs_mc 0 rfl (zs_mc 1 rfl (zs_mc 2 rfl (zs_mc 3 rfl (zs_mc 4 rfl zs_mn)))))
    · refine n_aload_n_W dX12_nights_24 rfl rfl ?_
      refine n_callV_W (T := TX12) (NN := 19) [] (y_X12_bad_W) dX12_nights_25 kk_X12_nights_X12_bad ml_RX12_62 mwX12_bad ewX12_bad (by decide) rfl rfl rfl rfl (Nat.le_of_ble_eq_true rfl) ?_
      rintro _ ⟨x8, rfl⟩
      exact n_iret_W dX12_nights_28 rfl rfl ⟨_, rfl⟩
set_option maxRecDepth 100000 in
theorem y_smear_g_W : ∀ (r p u w : Nat), p < 2 ^ 31 → r < 2 ^ 31 → (r = 0 → 1 ≤ p) → u < 2 ^ 31 → w < 2 ^ 31 → zs_V_W MX12_smear 190 [(11, .long (lN r)), (9, .long (lN p)), (7, .long (lN w)), (5, .long (lN u)), (0, .ref 80)] [] zs_Ri := by
  intro r
  induction r using Nat.strongRecOn with
  | _ r ih =>
    intro p u w hp hr h0 hu hw S hJ
    by_cases hz : r = 0
    · subst hz
      refine g_lload dX12_smear_190 rfl ?_
      refine g_lconst (v := 0) dX12_smear_192 (by decide) ?_
      refine g_lcmp dX12_smear_193 ?_
      refine g_if_eq 215 dX12_smear_194 (by decide) (fun _ => ?_) (fun z => absurd (by decide) z)
      refine g_aload_n dX12_smear_215 rfl rfl ?_
      refine g_lload dX12_smear_216 rfl ?_
      refine g_lload dX12_smear_218 rfl ?_
      refine g_ldiv dX12_smear_220 (zs_lnz (h0 rfl) hp) ?_
      refine g_putL 12 (C := RX12) (T := TX12) (N := 19) dX12_smear_221 (by decide) rfl rfl (by decide) rfl fl_RX12_229 rfl (by decide +kernel) ?_
      refine g_aload_n dX12_smear_224 rfl rfl ?_
      refine g_lload dX12_smear_225 rfl ?_
      refine g_lload dX12_smear_227 rfl ?_
      refine g_ldiv dX12_smear_229 (zs_lnz (h0 rfl) hp) ?_
      refine g_putL 13 (C := RX12) (T := TX12) (N := 19) dX12_smear_230 (by decide) rfl rfl (by decide) rfl fl_RX12_23 rfl (by decide +kernel) ?_
      refine g_iconst (v := (nI 1)) dX12_smear_233 rfl ?_
      refine g_iret dX12_smear_234 rfl rfl ?_
      exact ⟨⟨_, rfl⟩, hJ, (zs_fm_W.upL rfl).tr (zs_fm_W.upL rfl)⟩
    · skip
      refine g_lload dX12_smear_190 rfl ?_
      refine g_lconst (v := 0) dX12_smear_192 (by decide) ?_
      refine g_lcmp dX12_smear_193 ?_
      refine g_if_eq 215 dX12_smear_194 (by decide) (fun z => absurd z (zs_lcz (by omega) hr)) (fun _ => ?_)
      refine g_lload dX12_smear_197 rfl ?_
      refine g_lload dX12_smear_199 rfl ?_
      refine g_lrem dX12_smear_201 (zs_lnz (by omega) hr) ?_
      rw [pk_lRem (by omega) (by omega) (by omega)]
      refine g_lstore (lv' := [(13, .long (lN (p % r))), (11, .long (lN r)), (9, .long (lN p)), (7, .long (lN w)), (5, .long (lN u)), (0, .ref 80)]) dX12_smear_202 (by decide) rfl ?_
      refine g_lload dX12_smear_204 rfl ?_
      refine g_lstore (lv' := [(9, .long (lN r)), (13, .long (lN (p % r))), (11, .long (lN r)), (7, .long (lN w)), (5, .long (lN u)), (0, .ref 80)]) dX12_smear_206 (by decide) rfl ?_
      refine g_lload dX12_smear_208 rfl ?_
      refine g_lstore (lv' := [(11, .long (lN (p % r))), (9, .long (lN r)), (13, .long (lN (p % r))), (7, .long (lN w)), (5, .long (lN u)), (0, .ref 80)]) dX12_smear_210 (by decide) rfl ?_
      refine g_goto 190 dX12_smear_212 (by decide) ?_
      exact (ih (p % r) (Nat.mod_lt _ (by omega)) r u w hr (Nat.lt_of_lt_of_le (Nat.mod_lt p (show r > 0 by omega)) (by omega)) (fun _ => by omega) hu hw S hJ).lv (zs_mc 0 rfl (zs_mc 1 rfl (zs_mc 3 rfl (zs_mc 4 rfl (zs_mc 5 rfl zs_mn)))))
set_option maxRecDepth 100000 in
theorem y_smear_i_W (e x n c : Nat) (he : e ≤ 4) (hx : x ≤ 9) (hn : n ≤ 6) (hc : c ≤ 10) (q w u : Nat) (hq : q < 2 ^ n) (hw : w ≤ q * 1000000) (hu : u ≤ q * 1000000) (hi1 : c < 10 → 1 ≤ q → 1 ≤ w) (hk : (∀ w' u', w' ≤ (q + 1) * 1000000 → u' ≤ (q + 1) * 1000000 → (c < 10 → 1 ≤ q + 1 → 1 ≤ w') → (c = 10 → q + 1 = 2 ^ n → 1 ≤ w') → zs_V_W MX12_smear 59 [(9, .int (nI (q + 1))), (7, .long (lN w')), (5, .long (lN u')), (0, .ref 80), (1, .int (nI e)), (2, .int (nI x)), (3, .int (nI n)), (4, .int (nI c))] [] zs_Ri)) : ∀ (d j : Nat), j + d = n → ∀ g, g ≤ 10 ^ j → (((c < 10 ∧ q = 0) ∨ (c = 10 ∧ q = 2 ^ n - 1)) → 1 ≤ g) → zs_V_W MX12_smear 77 [(12, .int (nI j)), (10, .long (lN g)), (9, .int (nI q)), (7, .long (lN w)), (5, .long (lN u)), (0, .ref 80), (1, .int (nI e)), (2, .int (nI x)), (3, .int (nI n)), (4, .int (nI c))] [] zs_Ri := by
  have h64 := zs_p2 n (by omega)
  have h106 := zs_p10 n (by omega)
  intro d
  induction d with
  | zero =>
    intro j hj g hg hP S hJ
    obtain rfl : n = j := by omega
    have hP1 : c < 10 → q = 0 → 1 ≤ g := fun z1 z2 => hP (Or.inl ⟨z1, z2⟩)
    have hP2 : c = 10 → q + 1 = 2 ^ n → 1 ≤ g := fun z1 z2 => hP (Or.inr ⟨z1, by omega⟩)
    refine g_iload dX12_smear_77 rfl ?_
    refine g_iload_n dX12_smear_79 rfl rfl ?_
    refine g_ic_geN 144 dX12_smear_80 (by decide) (by omega) (by omega) (fun _ => ?_) (fun z => absurd z (by omega))
    refine g_lload dX12_smear_144 rfl ?_
    refine g_lload dX12_smear_146 rfl ?_
    refine g_ladd dX12_smear_148 ?_
    rw [lN_add]
    refine g_lstore (lv' := [(7, .long (lN (w + g))), (12, .int (nI n)), (10, .long (lN g)), (9, .int (nI q)), (5, .long (lN u)), (0, .ref 80), (1, .int (nI e)), (2, .int (nI x)), (3, .int (nI n)), (4, .int (nI c))]) dX12_smear_149 (by decide) rfl ?_
    refine g_lload dX12_smear_151 rfl ?_
    refine g_aload_n dX12_smear_153 rfl rfl ?_
    refine g_getR 0 (81) (C := RX12) (T := TX12) (N := 19) dX12_smear_154 (by decide) rfl rfl (by decide) rfl fl_RX12_7 ?_
    refine g_sipush (v := (nI 690)) dX12_smear_157 rfl ?_
    refine g_iload_n dX12_smear_160 rfl rfl ?_
    refine g_iaddN dX12_smear_161 ?_
    refine g_ialdN (v := (S.1 81 (690 + e))) dX12_smear_162 (by decide) rfl (by omega) (by decide) rfl ?_
    refine g_iload_n dX12_smear_163 rfl rfl ?_
    refine g_ic_ne 172 dX12_smear_164 (by decide) (fun h1 => ?_) (fun h1 => ?_)
    · refine g_lconst (v := 0) dX12_smear_172 (by decide) ?_
      refine g_ladd dX12_smear_173 ?_
      rw [show (0 : Int64) = lN 0 from rfl, lN_add]
      refine g_lstore (lv' := [(5, .long (lN (u + 0))), (7, .long (lN (w + g))), (12, .int (nI n)), (10, .long (lN g)), (9, .int (nI q)), (0, .ref 80), (1, .int (nI e)), (2, .int (nI x)), (3, .int (nI n)), (4, .int (nI c))]) dX12_smear_174 (by decide) rfl ?_
      refine g_iinc (v := (nI (q + 1))) (lv' := [(9, .int (nI (q + 1))), (5, .long (lN (u + 0))), (7, .long (lN (w + g))), (12, .int (nI n)), (10, .long (lN g)), (0, .ref 80), (1, .int (nI e)), (2, .int (nI x)), (3, .int (nI n)), (4, .int (nI c))]) dX12_smear_176 rfl (nI_1 q) (by decide) rfl ?_
      refine g_goto 59 dX12_smear_179 (by decide) ?_
      exact zs_Vlv_W (hk (w + g) (u + 0) (by omega) (Nat.le_trans hu (Nat.mul_le_mul_right _ (Nat.le_succ _))) (by omega) (by omega)) (zs_mc 0 rfl (zs_mc 2 rfl (zs_mc 1 rfl (zs_mc 5 rfl (zs_mc 6 rfl (zs_mc 7 rfl (zs_mc 8 rfl (zs_mc 9 rfl zs_mn)))))))) S hJ
    · refine g_lload dX12_smear_167 rfl ?_
      refine g_goto 173 dX12_smear_169 (by decide) ?_
      refine g_ladd dX12_smear_173 ?_
      rw [lN_add]
      refine g_lstore (lv' := [(5, .long (lN (u + g))), (7, .long (lN (w + g))), (12, .int (nI n)), (10, .long (lN g)), (9, .int (nI q)), (0, .ref 80), (1, .int (nI e)), (2, .int (nI x)), (3, .int (nI n)), (4, .int (nI c))]) dX12_smear_174 (by decide) rfl ?_
      refine g_iinc (v := (nI (q + 1))) (lv' := [(9, .int (nI (q + 1))), (5, .long (lN (u + g))), (7, .long (lN (w + g))), (12, .int (nI n)), (10, .long (lN g)), (0, .ref 80), (1, .int (nI e)), (2, .int (nI x)), (3, .int (nI n)), (4, .int (nI c))]) dX12_smear_176 rfl (nI_1 q) (by decide) rfl ?_
      refine g_goto 59 dX12_smear_179 (by decide) ?_
      exact zs_Vlv_W (hk (w + g) (u + g) (by omega) (by omega) (by omega) (by omega)) (zs_mc 0 rfl (zs_mc 2 rfl (zs_mc 1 rfl (zs_mc 5 rfl (zs_mc 6 rfl (zs_mc 7 rfl (zs_mc 8 rfl (zs_mc 9 rfl zs_mn)))))))) S hJ
  | succ d ih =>
    intro j hj g hg hP
    have ih : ∀ j', j' + d = n → ∀ g, g ≤ 10 ^ j' → (((c < 10 ∧ q = 0) ∨ (c = 10 ∧ q = 2 ^ n - 1)) → 1 ≤ g) → zs_V_W MX12_smear 77 [(12, .int (nI j')), (10, .long (lN g)), (9, .int (nI q)), (7, .long (lN w)), (5, .long (lN u)), (0, .ref 80), (1, .int (nI e)), (2, .int (nI x)), (3, .int (nI n)), (4, .int (nI c))] [] zs_Ri := ih
    intro S hJ
    obtain ⟨st, -, hst, h3⟩ := hJ.1 81 2 0 11 rfl
    refine g_iload dX12_smear_77 rfl ?_
    refine g_iload_n dX12_smear_79 rfl rfl ?_
    refine g_ic_geN 144 dX12_smear_80 (by decide) (by omega) (by omega) (fun z => absurd z (by omega)) (fun _ => ?_)
    refine g_lload dX12_smear_83 rfl ?_
    refine g_iload dX12_smear_85 rfl ?_
    refine g_iload dX12_smear_87 rfl ?_
    refine g_callS [.int (nI q), .int (nI j)] [.long (lN g)] (z_has S (nI q) (nI j)) dX12_smear_89 kk_X12_smear_X12_has ml_RX12_215 swX12_has rfl rfl (Nat.le_of_ble_eq_true rfl) ?_
    rintro _ _ ⟨_, rfl, rfl, rfl⟩
    refine g_if_eq 101 dX12_smear_92 (by decide) (fun h1 => ?_) (fun h1 => ?_)
    · have h1 := zs_b0 h1
      refine g_bipush (v := (nI 10)) dX12_smear_101 rfl ?_
      refine g_iload dX12_smear_103 rfl ?_
      refine g_isubN dX12_smear_105 (by omega) ?_
      refine g_i2l dX12_smear_106 rfl ?_
      rw [nI_l (show 10 - c < 2 ^ 31 by omega)]
      refine g_lmul dX12_smear_107 ?_
      rw [lN_mul]
      refine g_lstore (lv' := [(10, .long (lN (g * (10 - c)))), (12, .int (nI j)), (9, .int (nI q)), (7, .long (lN w)), (5, .long (lN u)), (0, .ref 80), (1, .int (nI e)), (2, .int (nI x)), (3, .int (nI n)), (4, .int (nI c))]) dX12_smear_108 (by decide) rfl ?_
      refine g_aload_n dX12_smear_110 rfl rfl ?_
      refine g_sipush (v := (nI 675)) dX12_smear_111 rfl ?_
      refine g_aload_n dX12_smear_114 rfl rfl ?_
      refine g_getR 0 (81) (C := RX12) (T := TX12) (N := 19) dX12_smear_115 (by decide) rfl rfl (by decide) rfl fl_RX12_7 ?_
      refine g_iconst (v := (nI 2)) dX12_smear_118 rfl ?_
      refine g_ialdN (v := (nI st)) dX12_smear_119 (by decide) rfl (by omega) (by decide) h3 ?_
      refine g_iload dX12_smear_120 rfl ?_
      refine g_iload dX12_smear_122 rfl ?_
      refine g_callS [.int (nI q), .int (nI j)] [.int (nI st), .int (nI 675), .ref 80] (z_has S (nI q) (nI j)) dX12_smear_124 kk_X12_smear_X12_has ml_RX12_215 swX12_has rfl rfl (Nat.le_of_ble_eq_true rfl) ?_
      rintro _ _ ⟨_, rfl, rfl, rfl⟩
      refine g_if_ne 134 dX12_smear_127 (by decide) (fun h2 => ?_) (fun h2 => ?_)
      · have h2 := zs_b1 h2
        refine g_iconst (v := (nI 0)) dX12_smear_134 rfl ?_
        refine g_callV (T := TX12) (NN := 19) [] (y_X12_flash_675_W st (by omega) (by omega) (nI 0) S hJ) dX12_smear_135 kk_X12_smear_X12_flash ml_RX12_132 mwX12_flash ewX12_flash (by decide) rfl rfl rfl rfl (Nat.le_of_ble_eq_true rfl) ?_
        rintro _ S3 ⟨rfl, jS3, fS3⟩
        refine g_iinc (v := (nI (j + 1))) (lv' := [(12, .int (nI (j + 1))), (10, .long (lN (g * (10 - c)))), (9, .int (nI q)), (7, .long (lN w)), (5, .long (lN u)), (0, .ref 80), (1, .int (nI e)), (2, .int (nI x)), (3, .int (nI n)), (4, .int (nI c))]) dX12_smear_138 rfl (nI_1 j) (by decide) rfl ?_
        refine g_goto 77 dX12_smear_141 (by decide) ?_
        refine zs_Vfr_W (zs_Vlv_W (ih (j + 1) (by omega) (g * (10 - c)) ?_ (fun z => Nat.mul_le_mul (hP z) (zs_fd hn (by omega) h1 z))) (zs_mc 0 rfl (zs_mc 1 rfl (zs_mc 2 rfl (zs_mc 3 rfl (zs_mc 4 rfl (zs_mc 5 rfl (zs_mc 6 rfl (zs_mc 7 rfl (zs_mc 8 rfl (zs_mc 9 rfl zs_mn))))))))))) jS3 ((zs_fm_W.rf).tr fS3)
        rw [Nat.pow_succ]; exact Nat.mul_le_mul hg (by omega)
      · have h2 := zs_b0 h2
        refine g_iconst (v := (nI 1)) dX12_smear_130 rfl ?_
        refine g_goto 135 dX12_smear_131 (by decide) ?_
        refine g_callV (T := TX12) (NN := 19) [] (y_X12_flash_675_W st (by omega) (by omega) (nI 1) S hJ) dX12_smear_135 kk_X12_smear_X12_flash ml_RX12_132 mwX12_flash ewX12_flash (by decide) rfl rfl rfl rfl (Nat.le_of_ble_eq_true rfl) ?_
        rintro _ S4 ⟨rfl, jS4, fS4⟩
        refine g_iinc (v := (nI (j + 1))) (lv' := [(12, .int (nI (j + 1))), (10, .long (lN (g * (10 - c)))), (9, .int (nI q)), (7, .long (lN w)), (5, .long (lN u)), (0, .ref 80), (1, .int (nI e)), (2, .int (nI x)), (3, .int (nI n)), (4, .int (nI c))]) dX12_smear_138 rfl (nI_1 j) (by decide) rfl ?_
        refine g_goto 77 dX12_smear_141 (by decide) ?_
        refine zs_Vfr_W (zs_Vlv_W (ih (j + 1) (by omega) (g * (10 - c)) ?_ (fun z => Nat.mul_le_mul (hP z) (zs_fd hn (by omega) h1 z))) (zs_mc 0 rfl (zs_mc 1 rfl (zs_mc 2 rfl (zs_mc 3 rfl (zs_mc 4 rfl (zs_mc 5 rfl (zs_mc 6 rfl (zs_mc 7 rfl (zs_mc 8 rfl (zs_mc 9 rfl zs_mn))))))))))) jS4 ((zs_fm_W.rf).tr fS4)
        rw [Nat.pow_succ]; exact Nat.mul_le_mul hg (by omega)
    · have h1 := zs_b1 h1
      refine g_iload dX12_smear_95 rfl ?_
      refine g_i2l dX12_smear_97 rfl ?_
      refine g_goto 107 dX12_smear_98 (by decide) ?_
      rw [nI_l (show c < 2 ^ 31 by omega)]
      refine g_lmul dX12_smear_107 ?_
      rw [lN_mul]
      refine g_lstore (lv' := [(10, .long (lN (g * c))), (12, .int (nI j)), (9, .int (nI q)), (7, .long (lN w)), (5, .long (lN u)), (0, .ref 80), (1, .int (nI e)), (2, .int (nI x)), (3, .int (nI n)), (4, .int (nI c))]) dX12_smear_108 (by decide) rfl ?_
      refine g_aload_n dX12_smear_110 rfl rfl ?_
      refine g_sipush (v := (nI 675)) dX12_smear_111 rfl ?_
      refine g_aload_n dX12_smear_114 rfl rfl ?_
      refine g_getR 0 (81) (C := RX12) (T := TX12) (N := 19) dX12_smear_115 (by decide) rfl rfl (by decide) rfl fl_RX12_7 ?_
      refine g_iconst (v := (nI 2)) dX12_smear_118 rfl ?_
      refine g_ialdN (v := (nI st)) dX12_smear_119 (by decide) rfl (by omega) (by decide) h3 ?_
      refine g_iload dX12_smear_120 rfl ?_
      refine g_iload dX12_smear_122 rfl ?_
      refine g_callS [.int (nI q), .int (nI j)] [.int (nI st), .int (nI 675), .ref 80] (z_has S (nI q) (nI j)) dX12_smear_124 kk_X12_smear_X12_has ml_RX12_215 swX12_has rfl rfl (Nat.le_of_ble_eq_true rfl) ?_
      rintro _ _ ⟨_, rfl, rfl, rfl⟩
      refine g_if_ne 134 dX12_smear_127 (by decide) (fun h5 => ?_) (fun h5 => ?_)
      · have h5 := zs_b1 h5
        refine g_iconst (v := (nI 0)) dX12_smear_134 rfl ?_
        refine g_callV (T := TX12) (NN := 19) [] (y_X12_flash_675_W st (by omega) (by omega) (nI 0) S hJ) dX12_smear_135 kk_X12_smear_X12_flash ml_RX12_132 mwX12_flash ewX12_flash (by decide) rfl rfl rfl rfl (Nat.le_of_ble_eq_true rfl) ?_
        rintro _ S6 ⟨rfl, jS6, fS6⟩
        refine g_iinc (v := (nI (j + 1))) (lv' := [(12, .int (nI (j + 1))), (10, .long (lN (g * c))), (9, .int (nI q)), (7, .long (lN w)), (5, .long (lN u)), (0, .ref 80), (1, .int (nI e)), (2, .int (nI x)), (3, .int (nI n)), (4, .int (nI c))]) dX12_smear_138 rfl (nI_1 j) (by decide) rfl ?_
        refine g_goto 77 dX12_smear_141 (by decide) ?_
        refine zs_Vfr_W (zs_Vlv_W (ih (j + 1) (by omega) (g * c) ?_ (fun z => Nat.mul_le_mul (hP z) (zs_fc hn (by omega) h1 z))) (zs_mc 0 rfl (zs_mc 1 rfl (zs_mc 2 rfl (zs_mc 3 rfl (zs_mc 4 rfl (zs_mc 5 rfl (zs_mc 6 rfl (zs_mc 7 rfl (zs_mc 8 rfl (zs_mc 9 rfl zs_mn))))))))))) jS6 ((zs_fm_W.rf).tr fS6)
        rw [Nat.pow_succ]; exact Nat.mul_le_mul hg (by omega)
      · have h5 := zs_b0 h5
        refine g_iconst (v := (nI 1)) dX12_smear_130 rfl ?_
        refine g_goto 135 dX12_smear_131 (by decide) ?_
        refine g_callV (T := TX12) (NN := 19) [] (y_X12_flash_675_W st (by omega) (by omega) (nI 1) S hJ) dX12_smear_135 kk_X12_smear_X12_flash ml_RX12_132 mwX12_flash ewX12_flash (by decide) rfl rfl rfl rfl (Nat.le_of_ble_eq_true rfl) ?_
        rintro _ S7 ⟨rfl, jS7, fS7⟩
        refine g_iinc (v := (nI (j + 1))) (lv' := [(12, .int (nI (j + 1))), (10, .long (lN (g * c))), (9, .int (nI q)), (7, .long (lN w)), (5, .long (lN u)), (0, .ref 80), (1, .int (nI e)), (2, .int (nI x)), (3, .int (nI n)), (4, .int (nI c))]) dX12_smear_138 rfl (nI_1 j) (by decide) rfl ?_
        refine g_goto 77 dX12_smear_141 (by decide) ?_
        refine zs_Vfr_W (zs_Vlv_W (ih (j + 1) (by omega) (g * c) ?_ (fun z => Nat.mul_le_mul (hP z) (zs_fc hn (by omega) h1 z))) (zs_mc 0 rfl (zs_mc 1 rfl (zs_mc 2 rfl (zs_mc 3 rfl (zs_mc 4 rfl (zs_mc 5 rfl (zs_mc 6 rfl (zs_mc 7 rfl (zs_mc 8 rfl (zs_mc 9 rfl zs_mn))))))))))) jS7 ((zs_fm_W.rf).tr fS7)
        rw [Nat.pow_succ]; exact Nat.mul_le_mul hg (by omega)
set_option maxRecDepth 100000 in
theorem y_smear_o_W (e x n c : Nat) (he : e ≤ 4) (hx : x ≤ 9) (hn : n ≤ 6) (hc : c ≤ 10) : ∀ (d q : Nat), q + d = 2 ^ n → ∀ w u, w ≤ q * 1000000 → u ≤ q * 1000000 → (c < 10 → 1 ≤ q → 1 ≤ w) → (c = 10 → q = 2 ^ n → 1 ≤ w) → zs_V_W MX12_smear 59 [(9, .int (nI q)), (7, .long (lN w)), (5, .long (lN u)), (0, .ref 80), (1, .int (nI e)), (2, .int (nI x)), (3, .int (nI n)), (4, .int (nI c))] [] zs_Ri := by
  have h64 := zs_p2 n (by omega)
  intro d
  induction d with
  | zero =>
    intro q hq w u hw hu hi1 hi2 S hJ
    have hw1 : 1 ≤ w := by
      rcases Nat.lt_or_ge c 10 with z | z
      · exact hi1 z (by omega)
      · exact hi2 (by omega) (by omega)
    refine g_iload dX12_smear_59 rfl ?_
    refine g_iconst (v := (nI 1)) dX12_smear_61 rfl ?_
    refine g_iload_n dX12_smear_62 rfl rfl ?_
    refine g_ishl dX12_smear_63 ?_
    rw [zs_sh1 n (by omega)]
    refine g_ic_geN 182 dX12_smear_64 (by decide) (by omega) (by omega) (fun _ => ?_) (fun z => absurd z (by omega))
    refine g_lload dX12_smear_182 rfl ?_
    refine g_lstore (lv' := [(9, .long (lN u)), (7, .long (lN w)), (5, .long (lN u)), (0, .ref 80), (1, .int (nI e)), (2, .int (nI x)), (3, .int (nI n)), (4, .int (nI c))]) dX12_smear_184 (by decide) rfl ?_
    refine g_lload dX12_smear_186 rfl ?_
    refine g_lstore (lv' := [(11, .long (lN w)), (9, .long (lN u)), (7, .long (lN w)), (5, .long (lN u)), (0, .ref 80), (1, .int (nI e)), (2, .int (nI x)), (3, .int (nI n)), (4, .int (nI c))]) dX12_smear_188 (by decide) rfl ?_
    exact zs_Vlv_W (y_smear_g_W w u u w (by omega) (by omega) (fun z => absurd z (by omega)) (by omega) (by omega)) (zs_mc 0 rfl (zs_mc 1 rfl (zs_mc 2 rfl (zs_mc 3 rfl (zs_mc 4 rfl zs_mn))))) S hJ
  | succ d ih =>
    intro q hq w u hw hu hi1 hi2
    have ih : ∀ q', q' + d = 2 ^ n → ∀ w u, w ≤ q' * 1000000 → u ≤ q' * 1000000 → (c < 10 → 1 ≤ q' → 1 ≤ w) → (c = 10 → q' = 2 ^ n → 1 ≤ w) → zs_V_W MX12_smear 59 [(9, .int (nI q')), (7, .long (lN w)), (5, .long (lN u)), (0, .ref 80), (1, .int (nI e)), (2, .int (nI x)), (3, .int (nI n)), (4, .int (nI c))] [] zs_Ri := ih
    intro S hJ
    refine g_iload dX12_smear_59 rfl ?_
    refine g_iconst (v := (nI 1)) dX12_smear_61 rfl ?_
    refine g_iload_n dX12_smear_62 rfl rfl ?_
    refine g_ishl dX12_smear_63 ?_
    rw [zs_sh1 n (by omega)]
    refine g_ic_geN 182 dX12_smear_64 (by decide) (by omega) (by omega) (fun z => absurd z (by omega)) (fun _ => ?_)
    refine g_aload_n dX12_smear_67 rfl rfl ?_
    refine g_callV (T := TX12) (NN := 19) [] (y_X12_tries_W S hJ) dX12_smear_68 kk_X12_smear_X12_tries ml_RX12_188 mwX12_tries ewX12_tries (by decide) rfl rfl rfl rfl (Nat.le_of_ble_eq_true rfl) ?_
    rintro _ S1 ⟨rfl, jS1, fS1⟩
    refine g_lconst (v := lN 1) dX12_smear_71 rfl ?_
    refine g_lstore (lv' := [(10, .long 1), (9, .int (nI q)), (7, .long (lN w)), (5, .long (lN u)), (0, .ref 80), (1, .int (nI e)), (2, .int (nI x)), (3, .int (nI n)), (4, .int (nI c))]) dX12_smear_72 (by decide) rfl ?_
    refine g_iconst (v := (nI 0)) dX12_smear_74 rfl ?_
    refine g_istore (lv' := [(12, .int (nI 0)), (10, .long (lN 1)), (9, .int (nI q)), (7, .long (lN w)), (5, .long (lN u)), (0, .ref 80), (1, .int (nI e)), (2, .int (nI x)), (3, .int (nI n)), (4, .int (nI c))]) dX12_smear_75 (by decide) rfl ?_
    refine zs_Vfr_W (zs_Vlv_W (y_smear_i_W e x n c he hx hn hc q w u (by omega) hw hu hi1 (fun w9 u9 a1 a2 a3 a4 => ih (q + 1) (by omega) w9 u9 a1 a2 a3 a4) n 0 (by omega) 1 (Nat.le_refl _) (fun _ => Nat.le_refl _)) (zs_mc 0 rfl (zs_mc 1 rfl (zs_mc 2 rfl (zs_mc 3 rfl (zs_mc 4 rfl (zs_mc 5 rfl (zs_mc 6 rfl (zs_mc 7 rfl (zs_mc 8 rfl (zs_mc 9 rfl zs_mn))))))))))) jS1 ((zs_fm_W.rf).tr fS1)
set_option maxRecDepth 100000 in
theorem y_X12_smear_W (a1 : Int32) (a2 : Int32) (a3 : Int32) (a4 : Int32) : zs_U_W MX12_smear [.ref 80, .int a1, .int a2, .int a3, .int a4] zs_Ri := by
  refine zs_Vof_W (by decide) (Nat.le_of_ble_eq_true rfl) ?_
  show zs_V_W MX12_smear 0 [(0, .ref 80), (1, .int a1), (2, .int a2), (3, .int a3), (4, .int a4)] [] zs_Ri
  refine n_aload_n_W dX12_smear_0 rfl rfl ?_
  refine n_iload_n_W dX12_smear_1 rfl rfl ?_
  refine n_callV_W (T := TX12) (NN := 19) [] (y_isEye_W a1) dX12_smear_2 kk_X12_smear_X12_isEye ml_RX12_185 mwX12_isEye ewX12_isEye (by decide) rfl rfl rfl rfl (Nat.le_of_ble_eq_true rfl) ?_
  rintro _ ⟨x1, rfl, bx1, fx1⟩
  refine n_if_eq_W 45 dX12_smear_5 (by decide) (fun h2 => ?_) (fun h2 => ?_)
  · refine n_aload_n_W dX12_smear_45 rfl rfl ?_
    refine n_callV_W (T := TX12) (NN := 19) [] (y_X12_bad_W) dX12_smear_46 kk_X12_smear_X12_bad ml_RX12_62 mwX12_bad ewX12_bad (by decide) rfl rfl rfl rfl (Nat.le_of_ble_eq_true rfl) ?_
    rintro _ ⟨x3, rfl⟩
    exact n_iret_W dX12_smear_49 rfl rfl ⟨_, rfl⟩
  · obtain ⟨k4, uk4, rfl⟩ := fx1 h2
    refine n_iload_n_W dX12_smear_8 rfl rfl ?_
    refine n_i2l_W dX12_smear_9 ?_
    refine n_lconst_W (v := 0) dX12_smear_10 (by decide) ?_
    refine n_ldc2_W (v := 9) dX12_smear_11 cl_RX12_121 ?_
    refine n_callS_W [.long (Int32.toInt64 a2), .long 0, .long 9] [] (y_in_W (Int32.toInt64 a2) 0 9) dX12_smear_14 kk_X12_smear_X12_in ml_RX12_54 swX12_in rfl rfl (Nat.le_of_ble_eq_true rfl) ?_
    rintro _ ⟨x5, rfl, bx5, fx5⟩
    refine n_if_eq_W 45 dX12_smear_17 (by decide) (fun h6 => ?_) (fun h6 => ?_)
    · refine n_aload_n_W dX12_smear_45 rfl rfl ?_
      refine n_callV_W (T := TX12) (NN := 19) [] (y_X12_bad_W) dX12_smear_46 kk_X12_smear_X12_bad ml_RX12_62 mwX12_bad ewX12_bad (by decide) rfl rfl rfl rfl (Nat.le_of_ble_eq_true rfl) ?_
      rintro _ ⟨x7, rfl⟩
      exact n_iret_W dX12_smear_49 rfl rfl ⟨_, rfl⟩
    · obtain ⟨k8, lk8, uk8, rfl⟩ := zs_inR (lo := 0) (hi := 9) (fx5 h6) (by decide) (by decide)
      refine n_iload_n_W dX12_smear_20 rfl rfl ?_
      refine n_i2l_W dX12_smear_21 ?_
      refine n_lconst_W (v := 0) dX12_smear_22 (by decide) ?_
      refine n_ldc2_W (v := 6) dX12_smear_23 cl_RX12_225 ?_
      refine n_callS_W [.long (Int32.toInt64 a3), .long 0, .long 6] [] (y_in_W (Int32.toInt64 a3) 0 6) dX12_smear_26 kk_X12_smear_X12_in ml_RX12_54 swX12_in rfl rfl (Nat.le_of_ble_eq_true rfl) ?_
      rintro _ ⟨x9, rfl, bx9, fx9⟩
      refine n_if_eq_W 45 dX12_smear_29 (by decide) (fun h10 => ?_) (fun h10 => ?_)
      · refine n_aload_n_W dX12_smear_45 rfl rfl ?_
        refine n_callV_W (T := TX12) (NN := 19) [] (y_X12_bad_W) dX12_smear_46 kk_X12_smear_X12_bad ml_RX12_62 mwX12_bad ewX12_bad (by decide) rfl rfl rfl rfl (Nat.le_of_ble_eq_true rfl) ?_
        rintro _ ⟨x11, rfl⟩
        exact n_iret_W dX12_smear_49 rfl rfl ⟨_, rfl⟩
      · obtain ⟨k12, lk12, uk12, rfl⟩ := zs_inR (lo := 0) (hi := 6) (fx9 h10) (by decide) (by decide)
        refine n_iload_W dX12_smear_32 rfl ?_
        refine n_i2l_W dX12_smear_34 ?_
        refine n_lconst_W (v := 0) dX12_smear_35 (by decide) ?_
        refine n_ldc2_W (v := 10) dX12_smear_36 cl_RX12_227 ?_
        refine n_callS_W [.long (Int32.toInt64 a4), .long 0, .long 10] [] (y_in_W (Int32.toInt64 a4) 0 10) dX12_smear_39 kk_X12_smear_X12_in ml_RX12_54 swX12_in rfl rfl (Nat.le_of_ble_eq_true rfl) ?_
        rintro _ ⟨x13, rfl, bx13, fx13⟩
        refine n_if_ne_W 50 dX12_smear_42 (by decide) (fun h14 => ?_) (fun h14 => ?_)
        · obtain ⟨k15, lk15, uk15, rfl⟩ := zs_inR (lo := 0) (hi := 10) (fx13 h14) (by decide) (by decide)
          intro S hJ
          refine g_lconst (v := lN 0) dX12_smear_50 rfl ?_
          refine g_lstore (lv' := [(5, .long (lN 0)), (0, .ref 80), (1, .int (nI k4)), (2, .int (nI k8)), (3, .int (nI k12)), (4, .int (nI k15))]) dX12_smear_51 (by decide) rfl ?_
          refine g_lconst (v := lN 0) dX12_smear_53 rfl ?_
          refine g_lstore (lv' := [(7, .long (lN 0)), (5, .long (lN 0)), (0, .ref 80), (1, .int (nI k4)), (2, .int (nI k8)), (3, .int (nI k12)), (4, .int (nI k15))]) dX12_smear_54 (by decide) rfl ?_
          refine g_iconst (v := (nI 0)) dX12_smear_56 rfl ?_
          refine g_istore (lv' := [(9, .int (nI 0)), (7, .long (lN 0)), (5, .long (lN 0)), (0, .ref 80), (1, .int (nI k4)), (2, .int (nI k8)), (3, .int (nI k12)), (4, .int (nI k15))]) dX12_smear_57 (by decide) rfl ?_
          exact zs_Vlv_W (y_smear_o_W k4 k8 k12 k15 (by omega) (by omega) (by omega) (by omega) (2 ^ k12) 0 (Nat.zero_add _) 0 0 (Nat.zero_le _) (Nat.zero_le _) (fun _ z => absurd z (by omega)) (fun _ z => absurd z (by have := zs_p2 k12 (by omega); omega))) (zs_mc 0 rfl (zs_mc 1 rfl (zs_mc 2 rfl (zs_mc 3 rfl (zs_mc 4 rfl (zs_mc 5 rfl (zs_mc 6 rfl (zs_mc 7 rfl zs_mn)))))))) S hJ
        · refine n_aload_n_W dX12_smear_45 rfl rfl ?_
          refine n_callV_W (T := TX12) (NN := 19) [] (y_X12_bad_W) dX12_smear_46 kk_X12_smear_X12_bad ml_RX12_62 mwX12_bad ewX12_bad (by decide) rfl rfl rfl rfl (Nat.le_of_ble_eq_true rfl) ?_
          rintro _ ⟨x16, rfl⟩
          exact n_iret_W dX12_smear_49 rfl rfl ⟨_, rfl⟩
def zs_o6_W (S0 S : zs_S) : Prop := zs_J S ∧ zs_fm_W S0 S ∧ ∀ b, b ≠ 86 → S.1 b = S0.1 b
theorem zs_o6_W.rf {S : zs_S} (hJ : zs_J S) : zs_o6_W S S := ⟨hJ, zs_fm_W.rf, fun _ _ => rfl⟩
theorem zs_o6_W.up {S0 S : zs_S} {j : Nat} {v : Int32} (h : zs_o6_W S0 S) : zs_o6_W S0 (zs_up S.1 86 j v, S.2) := ⟨h.1.up (zs_okN rfl (by decide) (by decide)), h.2.1.tr (zs_fm_W.up rfl), fun b hb => (zs_uo (f := S.1) (a := 86) (j := j) (v := v) (b := b) hb).trans (h.2.2 b hb)⟩
theorem zs_o6_W.tr {S S1 S2 : zs_S} (h : zs_o6_W S S1) (k : zs_o6_W S1 S2) : zs_o6_W S S2 := ⟨k.1, h.2.1.tr k.2.1, fun b hb => (k.2.2 b hb).trans (h.2.2 b hb)⟩
set_option maxRecDepth 100000 in
theorem z_co_p_W (S0 : zs_S) (n a f : Nat) (hn : n ≤ 12) (hf : f < n) (ha : a < 10) (Q : Option Value → zs_S → Prop) (hk : ∀ S, zs_o6_W S0 S → zs_tab S n a f 10 → zs_P MX12_costOf 168 [(4, .int (nI 10)), (3, .int (nI f)), (2, .int (nI n)), (0, .ref 80), (1, .int (nI a))] [] S Q) : ∀ (d p : Nat), p + d = 10 → ∀ S, zs_o6_W S0 S → zs_tab S n a f p → zs_P MX12_costOf 18 [(4, .int (nI p)), (3, .int (nI f)), (2, .int (nI n)), (0, .ref 80), (1, .int (nI a))] [] S Q := by
  intro d
  induction d with
  | zero =>
    intro p hp S hS hS2
    obtain rfl : p = 10 := by omega
    refine g_iload dX12_costOf_18 rfl ?_
    refine g_bipush (v := (nI 10)) dX12_costOf_20 rfl ?_
    refine g_ic_geN 168 dX12_costOf_22 (by decide) (by omega) (by omega) (fun _ => ?_) (fun z => absurd z (by omega))
    exact hk S hS hS2
  | succ d ih =>
    intro p hp S hS hS2
    have hp9 : p < 10 := by omega
    obtain ⟨dv, -, hdv1, hdv⟩ := hS.1.1 81 (3 + f) 0 9 (rg_81_3_14 _ (by omega) (by omega))
    refine g_iload dX12_costOf_18 rfl ?_
    refine g_bipush (v := (nI 10)) dX12_costOf_20 rfl ?_
    refine g_ic_geN 168 dX12_costOf_22 (by decide) (by omega) (by omega) (fun z => absurd z (by omega)) (fun _ => ?_)
    refine g_iload_n dX12_costOf_25 rfl rfl ?_
    refine g_iload_n dX12_costOf_26 rfl rfl ?_
    refine g_iconst (v := (nI 1)) dX12_costOf_27 rfl ?_
    refine g_isubN dX12_costOf_28 (by omega) ?_
    refine g_ic_neN 51 dX12_costOf_29 (by decide) (by omega) (by omega) (fun h1 => ?_) (fun h1 => ?_)
    · refine g_bipush (v := (nI 99)) dX12_costOf_51 rfl ?_
      refine g_istore (lv' := [(5, .int (nI 99)), (4, .int (nI p)), (3, .int (nI f)), (2, .int (nI n)), (0, .ref 80), (1, .int (nI a))]) dX12_costOf_53 (by decide) rfl ?_
      refine g_iconst (v := (nI 0)) dX12_costOf_55 rfl ?_
      refine g_istore (lv' := [(6, .int (nI 0)), (5, .int (nI 99)), (4, .int (nI p)), (3, .int (nI f)), (2, .int (nI n)), (0, .ref 80), (1, .int (nI a))]) dX12_costOf_56 (by decide) rfl ?_
      refine (z_co_q S n a f p hn (by omega) hp9 (fun r hr => hS2.1 (f + 1) (by omega) (by omega) r hr) _ (fun l hi => ?_) 10 0 (by omega) 99 zs_iv.z).lv (zs_mc 0 rfl (zs_mc 1 rfl (zs_mc 2 rfl (zs_mc 3 rfl (zs_mc 4 rfl (zs_mc 5 rfl (zs_mc 6 rfl zs_mn)))))))
      have hl := hi.1
      refine g_aload_n dX12_costOf_129 rfl rfl ?_
      refine g_getR 15 (86) (C := RX12) (T := TX12) (N := 19) dX12_costOf_130 (by decide) rfl rfl (by decide) rfl fl_RX12_30 ?_
      refine g_bipush (v := (nI 10)) dX12_costOf_133 rfl ?_
      refine g_iload_n dX12_costOf_135 rfl rfl ?_
      refine g_imulN dX12_costOf_136 ?_
      refine g_iload dX12_costOf_137 rfl ?_
      refine g_iaddN dX12_costOf_139 ?_
      refine g_iload dX12_costOf_140 rfl ?_
      refine g_aload_n dX12_costOf_142 rfl rfl ?_
      refine g_getR 0 (81) (C := RX12) (T := TX12) (N := 19) dX12_costOf_143 (by decide) rfl rfl (by decide) rfl fl_RX12_7 ?_
      refine g_iconst (v := (nI 3)) dX12_costOf_146 rfl ?_
      refine g_iload_n dX12_costOf_147 rfl rfl ?_
      refine g_iaddN dX12_costOf_148 ?_
      refine g_ialdN (v := (nI dv)) dX12_costOf_149 (by decide) rfl (by omega) (by decide) hdv ?_
      refine g_iload dX12_costOf_150 rfl ?_
      refine g_ic_neN 159 dX12_costOf_152 (by decide) (by omega) (by omega) (fun h51 => ?_) (fun h51 => ?_)
      · refine g_iconst (v := (nI 1)) dX12_costOf_159 rfl ?_
        refine g_iaddN dX12_costOf_160 ?_
        refine g_iastN dX12_costOf_161 (by decide) rfl (by omega) (by decide) ?_
        refine g_iinc (v := (nI (p + 1))) (lv' := [(4, .int (nI (p + 1))), (6, .int (nI 10)), (5, .int (nI l)), (3, .int (nI f)), (2, .int (nI n)), (0, .ref 80), (1, .int (nI a))]) dX12_costOf_162 rfl (nI_1 p) (by decide) rfl ?_
        refine g_goto 18 dX12_costOf_165 (by decide) ?_
        exact (ih (p + 1) (by omega) _ hS.up (hS2.up hp9 (zs_rowN (S0 := S) (l := l) (o := 1) hp9 hf (by rw [zs_ownE hdv (by omega) (by omega), if_neg (by omega)]) (by omega) (fun z => by subst z; obtain ⟨ka, g1, g2, g3, -⟩ := hS2.1 (f + 1) (by omega) (by omega) p hp9; have := hi.2.2 p (by omega) (by omega) (by omega) ka g1 g2; have := g3 rfl; omega) (fun _ y => by obtain ⟨r, g1, g2, g3, g4⟩ := hi.2.1 y; exact ⟨r, by omega, g2, g3, g4⟩)))).lv (zs_mc 0 rfl (zs_mc 3 rfl (zs_mc 4 rfl (zs_mc 5 rfl (zs_mc 6 rfl zs_mn)))))
      · refine g_iconst (v := (nI 0)) dX12_costOf_155 rfl ?_
        refine g_goto 160 dX12_costOf_156 (by decide) ?_
        refine g_iaddN dX12_costOf_160 ?_
        refine g_iastN dX12_costOf_161 (by decide) rfl (by omega) (by decide) ?_
        refine g_iinc (v := (nI (p + 1))) (lv' := [(4, .int (nI (p + 1))), (6, .int (nI 10)), (5, .int (nI l)), (3, .int (nI f)), (2, .int (nI n)), (0, .ref 80), (1, .int (nI a))]) dX12_costOf_162 rfl (nI_1 p) (by decide) rfl ?_
        refine g_goto 18 dX12_costOf_165 (by decide) ?_
        exact (ih (p + 1) (by omega) _ hS.up (hS2.up hp9 (zs_rowN (S0 := S) (l := l) (o := 0) hp9 hf (by rw [zs_ownE hdv (by omega) (by omega), if_pos (by omega)]) (by omega) (fun z => by subst z; obtain ⟨ka, g1, g2, g3, -⟩ := hS2.1 (f + 1) (by omega) (by omega) p hp9; have := hi.2.2 p (by omega) (by omega) (by omega) ka g1 g2; have := g3 rfl; omega) (fun _ y => by obtain ⟨r, g1, g2, g3, g4⟩ := hi.2.1 y; exact ⟨r, by omega, g2, g3, g4⟩)))).lv (zs_mc 0 rfl (zs_mc 3 rfl (zs_mc 4 rfl (zs_mc 5 rfl (zs_mc 6 rfl zs_mn)))))
    · refine g_iload dX12_costOf_32 rfl ?_
      refine g_iload_n dX12_costOf_34 rfl rfl ?_
      refine g_callS [.int (nI p), .int (nI a)] [] (z_apart S p a (by omega) (by omega)) dX12_costOf_35 kk_X12_costOf_X12_apart ml_RX12_46 swX12_apart rfl rfl (Nat.le_of_ble_eq_true rfl) ?_
      rintro _ _ ⟨_, rfl, rfl, rfl⟩
      have bA2 := zs_apb (p := p) (q := a) (by omega) (by omega)
      refine g_iconst (v := (nI 2)) dX12_costOf_38 rfl ?_
      refine g_ic_geN 46 dX12_costOf_39 (by decide) (by omega) (by omega) (fun h3 => ?_) (fun h3 => ?_)
      · refine g_bipush (v := (nI 99)) dX12_costOf_46 rfl ?_
        refine g_goto 53 dX12_costOf_48 (by decide) ?_
        refine g_istore (lv' := [(5, .int (nI 99)), (4, .int (nI p)), (3, .int (nI f)), (2, .int (nI n)), (0, .ref 80), (1, .int (nI a))]) dX12_costOf_53 (by decide) rfl ?_
        refine g_iconst (v := (nI 0)) dX12_costOf_55 rfl ?_
        refine g_istore (lv' := [(6, .int (nI 0)), (5, .int (nI 99)), (4, .int (nI p)), (3, .int (nI f)), (2, .int (nI n)), (0, .ref 80), (1, .int (nI a))]) dX12_costOf_56 (by decide) rfl ?_
        refine g_iload dX12_costOf_58 rfl ?_
        refine g_bipush (v := (nI 10)) dX12_costOf_60 rfl ?_
        refine g_ic_geN 129 dX12_costOf_62 (by decide) (by omega) (by omega) (fun z => absurd z (by omega)) (fun _ => ?_)
        refine g_iload_n dX12_costOf_65 rfl rfl ?_
        refine g_iload_n dX12_costOf_66 rfl rfl ?_
        refine g_iconst (v := (nI 1)) dX12_costOf_67 rfl ?_
        refine g_isubN dX12_costOf_68 (by omega) ?_
        refine g_ic_geN 129 dX12_costOf_69 (by decide) (by omega) (by omega) (fun _ => ?_) (fun z => absurd z (by omega))
        refine g_aload_n dX12_costOf_129 rfl rfl ?_
        refine g_getR 15 (86) (C := RX12) (T := TX12) (N := 19) dX12_costOf_130 (by decide) rfl rfl (by decide) rfl fl_RX12_30 ?_
        refine g_bipush (v := (nI 10)) dX12_costOf_133 rfl ?_
        refine g_iload_n dX12_costOf_135 rfl rfl ?_
        refine g_imulN dX12_costOf_136 ?_
        refine g_iload dX12_costOf_137 rfl ?_
        refine g_iaddN dX12_costOf_139 ?_
        refine g_iload dX12_costOf_140 rfl ?_
        refine g_aload_n dX12_costOf_142 rfl rfl ?_
        refine g_getR 0 (81) (C := RX12) (T := TX12) (N := 19) dX12_costOf_143 (by decide) rfl rfl (by decide) rfl fl_RX12_7 ?_
        refine g_iconst (v := (nI 3)) dX12_costOf_146 rfl ?_
        refine g_iload_n dX12_costOf_147 rfl rfl ?_
        refine g_iaddN dX12_costOf_148 ?_
        refine g_ialdN (v := (nI dv)) dX12_costOf_149 (by decide) rfl (by omega) (by decide) hdv ?_
        refine g_iload dX12_costOf_150 rfl ?_
        refine g_ic_neN 159 dX12_costOf_152 (by decide) (by omega) (by omega) (fun h4 => ?_) (fun h4 => ?_)
        · refine g_iconst (v := (nI 1)) dX12_costOf_159 rfl ?_
          refine g_iaddN dX12_costOf_160 ?_
          refine g_iastN dX12_costOf_161 (by decide) rfl (by omega) (by decide) ?_
          refine g_iinc (v := (nI (p + 1))) (lv' := [(4, .int (nI (p + 1))), (6, .int (nI 0)), (5, .int (nI 99)), (3, .int (nI f)), (2, .int (nI n)), (0, .ref 80), (1, .int (nI a))]) dX12_costOf_162 rfl (nI_1 p) (by decide) rfl ?_
          refine g_goto 18 dX12_costOf_165 (by decide) ?_
          exact (ih (p + 1) (by omega) _ hS.up (hS2.up hp9 (zs_rowN (S0 := S) (l := 99) (o := 1) hp9 hf (by rw [zs_ownE hdv (by omega) (by omega), if_neg (by omega)]) (by omega) (fun z => absurd h3 (by rw [z]; exact Nat.not_le.mpr zs_aps)) (fun z => absurd z (by omega))))).lv (zs_mc 0 rfl (zs_mc 3 rfl (zs_mc 4 rfl (zs_mc 5 rfl (zs_mc 6 rfl zs_mn)))))
        · refine g_iconst (v := (nI 0)) dX12_costOf_155 rfl ?_
          refine g_goto 160 dX12_costOf_156 (by decide) ?_
          refine g_iaddN dX12_costOf_160 ?_
          refine g_iastN dX12_costOf_161 (by decide) rfl (by omega) (by decide) ?_
          refine g_iinc (v := (nI (p + 1))) (lv' := [(4, .int (nI (p + 1))), (6, .int (nI 0)), (5, .int (nI 99)), (3, .int (nI f)), (2, .int (nI n)), (0, .ref 80), (1, .int (nI a))]) dX12_costOf_162 rfl (nI_1 p) (by decide) rfl ?_
          refine g_goto 18 dX12_costOf_165 (by decide) ?_
          exact (ih (p + 1) (by omega) _ hS.up (hS2.up hp9 (zs_rowN (S0 := S) (l := 99) (o := 0) hp9 hf (by rw [zs_ownE hdv (by omega) (by omega), if_pos (by omega)]) (by omega) (fun z => absurd h3 (by rw [z]; exact Nat.not_le.mpr zs_aps)) (fun z => absurd z (by omega))))).lv (zs_mc 0 rfl (zs_mc 3 rfl (zs_mc 4 rfl (zs_mc 5 rfl (zs_mc 6 rfl zs_mn)))))
      · refine g_iconst (v := (nI 0)) dX12_costOf_42 rfl ?_
        refine g_goto 53 dX12_costOf_43 (by decide) ?_
        refine g_istore (lv' := [(5, .int (nI 0)), (4, .int (nI p)), (3, .int (nI f)), (2, .int (nI n)), (0, .ref 80), (1, .int (nI a))]) dX12_costOf_53 (by decide) rfl ?_
        refine g_iconst (v := (nI 0)) dX12_costOf_55 rfl ?_
        refine g_istore (lv' := [(6, .int (nI 0)), (5, .int (nI 0)), (4, .int (nI p)), (3, .int (nI f)), (2, .int (nI n)), (0, .ref 80), (1, .int (nI a))]) dX12_costOf_56 (by decide) rfl ?_
        refine g_iload dX12_costOf_58 rfl ?_
        refine g_bipush (v := (nI 10)) dX12_costOf_60 rfl ?_
        refine g_ic_geN 129 dX12_costOf_62 (by decide) (by omega) (by omega) (fun z => absurd z (by omega)) (fun _ => ?_)
        refine g_iload_n dX12_costOf_65 rfl rfl ?_
        refine g_iload_n dX12_costOf_66 rfl rfl ?_
        refine g_iconst (v := (nI 1)) dX12_costOf_67 rfl ?_
        refine g_isubN dX12_costOf_68 (by omega) ?_
        refine g_ic_geN 129 dX12_costOf_69 (by decide) (by omega) (by omega) (fun _ => ?_) (fun z => absurd z (by omega))
        refine g_aload_n dX12_costOf_129 rfl rfl ?_
        refine g_getR 15 (86) (C := RX12) (T := TX12) (N := 19) dX12_costOf_130 (by decide) rfl rfl (by decide) rfl fl_RX12_30 ?_
        refine g_bipush (v := (nI 10)) dX12_costOf_133 rfl ?_
        refine g_iload_n dX12_costOf_135 rfl rfl ?_
        refine g_imulN dX12_costOf_136 ?_
        refine g_iload dX12_costOf_137 rfl ?_
        refine g_iaddN dX12_costOf_139 ?_
        refine g_iload dX12_costOf_140 rfl ?_
        refine g_aload_n dX12_costOf_142 rfl rfl ?_
        refine g_getR 0 (81) (C := RX12) (T := TX12) (N := 19) dX12_costOf_143 (by decide) rfl rfl (by decide) rfl fl_RX12_7 ?_
        refine g_iconst (v := (nI 3)) dX12_costOf_146 rfl ?_
        refine g_iload_n dX12_costOf_147 rfl rfl ?_
        refine g_iaddN dX12_costOf_148 ?_
        refine g_ialdN (v := (nI dv)) dX12_costOf_149 (by decide) rfl (by omega) (by decide) hdv ?_
        refine g_iload dX12_costOf_150 rfl ?_
        refine g_ic_neN 159 dX12_costOf_152 (by decide) (by omega) (by omega) (fun h5 => ?_) (fun h5 => ?_)
        · refine g_iconst (v := (nI 1)) dX12_costOf_159 rfl ?_
          refine g_iaddN dX12_costOf_160 ?_
          refine g_iastN dX12_costOf_161 (by decide) rfl (by omega) (by decide) ?_
          refine g_iinc (v := (nI (p + 1))) (lv' := [(4, .int (nI (p + 1))), (6, .int (nI 0)), (5, .int (nI 0)), (3, .int (nI f)), (2, .int (nI n)), (0, .ref 80), (1, .int (nI a))]) dX12_costOf_162 rfl (nI_1 p) (by decide) rfl ?_
          refine g_goto 18 dX12_costOf_165 (by decide) ?_
          exact (ih (p + 1) (by omega) _ hS.up (hS2.up hp9 (zs_rowN (S0 := S) (l := 0) (o := 1) hp9 hf (by rw [zs_ownE hdv (by omega) (by omega), if_neg (by omega)]) (by omega) (fun _ => by omega) (fun z => absurd z (by omega))))).lv (zs_mc 0 rfl (zs_mc 3 rfl (zs_mc 4 rfl (zs_mc 5 rfl (zs_mc 6 rfl zs_mn)))))
        · refine g_iconst (v := (nI 0)) dX12_costOf_155 rfl ?_
          refine g_goto 160 dX12_costOf_156 (by decide) ?_
          refine g_iaddN dX12_costOf_160 ?_
          refine g_iastN dX12_costOf_161 (by decide) rfl (by omega) (by decide) ?_
          refine g_iinc (v := (nI (p + 1))) (lv' := [(4, .int (nI (p + 1))), (6, .int (nI 0)), (5, .int (nI 0)), (3, .int (nI f)), (2, .int (nI n)), (0, .ref 80), (1, .int (nI a))]) dX12_costOf_162 rfl (nI_1 p) (by decide) rfl ?_
          refine g_goto 18 dX12_costOf_165 (by decide) ?_
          exact (ih (p + 1) (by omega) _ hS.up (hS2.up hp9 (zs_rowN (S0 := S) (l := 0) (o := 0) hp9 hf (by rw [zs_ownE hdv (by omega) (by omega), if_pos (by omega)]) (by omega) (fun _ => by omega) (fun z => absurd z (by omega))))).lv (zs_mc 0 rfl (zs_mc 3 rfl (zs_mc 4 rfl (zs_mc 5 rfl (zs_mc 6 rfl zs_mn)))))
set_option maxRecDepth 100000 in
theorem z_co_e_W (S0 : zs_S) (n a : Nat) (ha : a < 10) (S : zs_S) (hS : zs_o6_W S0 S) (hT : ∀ g, g < n → ∀ r, r < 10 → zs_ent S n a g r) : zs_P MX12_costOf 11 [(3, .int (-1)), (2, .int (nI n)), (0, .ref 80), (1, .int (nI a))] [] S (fun v S2 => ∃ x, v = some (.int x) ∧ zs_o6_W S0 S2 ∧ ∀ g, g < n → ∀ r, r < 10 → zs_ent S2 n a g r) := by
  refine g_iload_n dX12_costOf_11 rfl rfl ?_
  refine g_if_lt 174 dX12_costOf_12 (by decide) (fun _ => ?_) (fun z => absurd (by decide) z)
  refine g_aload_n dX12_costOf_174 rfl rfl ?_
  refine g_getR 15 (86) (C := RX12) (T := TX12) (N := 19) dX12_costOf_175 (by decide) rfl rfl (by decide) rfl fl_RX12_30 ?_
  refine g_iload_n dX12_costOf_178 rfl rfl ?_
  refine g_ialdN (v := (S.1 86 a)) dX12_costOf_179 (by decide) rfl (by omega) (by decide) rfl ?_
  refine g_iret dX12_costOf_180 rfl rfl ?_
  exact ⟨_, rfl, hS, hT⟩
set_option maxRecDepth 100000 in
theorem z_co_f_W (S0 : zs_S) (n a : Nat) (hn : n ≤ 12) (ha : a < 10) : ∀ (f : Nat), f < n → ∀ S, zs_o6_W S0 S → (∀ g, f < g → g < n → ∀ r, r < 10 → zs_ent S n a g r) → zs_P MX12_costOf 11 [(3, .int (nI f)), (2, .int (nI n)), (0, .ref 80), (1, .int (nI a))] [] S (fun v S2 => ∃ x, v = some (.int x) ∧ zs_o6_W S0 S2 ∧ ∀ g, g < n → ∀ r, r < 10 → zs_ent S2 n a g r) := by
  intro f
  induction f with
  | zero =>
    intro hf S hS hT
    have hT : ∀ g, 0 < g → g < n → ∀ r, r < 10 → zs_ent S n a g r := hT
    refine g_iload_n dX12_costOf_11 rfl rfl ?_
    refine g_if_ltN 174 dX12_costOf_12 (by decide) (by omega) ?_
    refine g_iconst (v := (nI 0)) dX12_costOf_15 rfl ?_
    refine g_istore (lv' := [(4, .int (nI 0)), (3, .int (nI 0)), (2, .int (nI n)), (0, .ref 80), (1, .int (nI a))]) dX12_costOf_16 (by decide) rfl ?_
    refine (z_co_p_W S0 n a 0 hn hf ha _ (fun S hS hS2 => ?_) 10 0 (by omega) S hS ⟨hT, fun r z => absurd z (by omega)⟩).lv (zs_mc 0 rfl (zs_mc 1 rfl (zs_mc 2 rfl (zs_mc 3 rfl (zs_mc 4 rfl zs_mn)))))
    refine g_iinc (v := -1) (lv' := [(3, .int (-1)), (4, .int (nI 10)), (2, .int (nI n)), (0, .ref 80), (1, .int (nI a))]) dX12_costOf_168 rfl (by decide) (by decide) rfl ?_
    refine g_goto 11 dX12_costOf_171 (by decide) ?_
    exact (z_co_e_W S0 n a ha S hS (fun g hg r hr => by
      rcases Nat.eq_zero_or_pos g with y | y
      · subst y; exact hS2.2 r hr
      · exact hS2.1 g y hg r hr)).lv (zs_mc 0 rfl (zs_mc 2 rfl (zs_mc 3 rfl (zs_mc 4 rfl zs_mn))))
  | succ f ih =>
    intro hf S hS hT
    refine g_iload_n dX12_costOf_11 rfl rfl ?_
    refine g_if_ltN 174 dX12_costOf_12 (by decide) (by omega) ?_
    refine g_iconst (v := (nI 0)) dX12_costOf_15 rfl ?_
    refine g_istore (lv' := [(4, .int (nI 0)), (3, .int (nI (f + 1))), (2, .int (nI n)), (0, .ref 80), (1, .int (nI a))]) dX12_costOf_16 (by decide) rfl ?_
    refine (z_co_p_W S0 n a (f + 1) hn hf ha _ (fun S hS hS2 => ?_) 10 0 (by omega) S hS ⟨hT, fun r z => absurd z (by omega)⟩).lv (zs_mc 0 rfl (zs_mc 1 rfl (zs_mc 2 rfl (zs_mc 3 rfl (zs_mc 4 rfl zs_mn)))))
    refine g_iinc (v := nI f) (lv' := [(3, .int (nI f)), (4, .int (nI 10)), (2, .int (nI n)), (0, .ref 80), (1, .int (nI a))]) dX12_costOf_168 rfl (sb_m1 (p := f + 1) (by omega)) (by decide) rfl ?_
    refine g_goto 11 dX12_costOf_171 (by decide) ?_
    exact (ih (by omega) S hS (fun g h1 h2 r hr => by
      rcases Nat.eq_or_lt_of_le (show f + 1 ≤ g by omega) with y | y
      · subst y; exact hS2.2 r hr
      · exact hS2.1 g y h2 r hr)).lv (zs_mc 0 rfl (zs_mc 2 rfl (zs_mc 3 rfl (zs_mc 4 rfl zs_mn))))
set_option maxRecDepth 100000 in
theorem y_costOf_W (a n : Nat) (ha : a < 10) (hn1 : 1 ≤ n) (hn2 : n ≤ 12) (S : zs_S) (hJ : zs_J S) (hn3 : S.1 82 0 = nI n) : zs_Ci MX12_costOf [.ref 80, .int (nI a)] S (fun x S2 => zs_o6_W S S2 ∧ ∀ g, g < n → ∀ r, r < 10 → zs_ent S2 n a g r) := by
  refine zs_C.of (by decide) (Nat.le_of_ble_eq_true rfl) ?_
  show zs_P MX12_costOf 0 [(0, .ref 80), (1, .int (nI a))] [] S _
  refine g_aload_n dX12_costOf_0 rfl rfl ?_
  refine g_getR 1 (82) (C := RX12) (T := TX12) (N := 19) dX12_costOf_1 (by decide) rfl rfl (by decide) rfl fl_RX12_13 ?_
  refine g_iconst (v := (nI 0)) dX12_costOf_4 rfl ?_
  refine g_ialdN (v := (nI n)) dX12_costOf_5 (by decide) rfl (by omega) (by decide) hn3 ?_
  refine g_istore_n (lv' := [(2, .int (nI n)), (0, .ref 80), (1, .int (nI a))]) dX12_costOf_6 rfl (by decide) rfl ?_
  refine g_iload_n dX12_costOf_7 rfl rfl ?_
  refine g_iconst (v := (nI 1)) dX12_costOf_8 rfl ?_
  refine g_isubN dX12_costOf_9 (by omega) ?_
  refine g_istore_n (lv' := [(3, .int (nI (n - 1))), (2, .int (nI n)), (0, .ref 80), (1, .int (nI a))]) dX12_costOf_10 rfl (by decide) rfl ?_
  exact z_co_f_W S n a hn2 ha (n - 1) (by omega) S (zs_o6_W.rf hJ) (fun g h1 h2 => absurd h1 (by omega))
set_option maxRecDepth 100000 in
theorem z_sm_g_W (S0 S : zs_S) (n a f : Nat) (l c : Int32) (hn : n ≤ 12) (hf : f < n) (hS : zs_o6_W S0 S) (hT : ∀ g, g < n → ∀ r, r < 10 → zs_ent S n a g r) : ∀ (d g : Nat), g + d = f + 1 → 1 ≤ g → ∀ p, p < 10 → ∀ k, S.1 86 (10 * (g - 1) + p) = nI k → k ≤ 12 → zs_P MX12_smooth 93 [(5, .int (nI g)), (4, .int (nI p)), (3, .int l), (2, .int c), (0, .ref 80), (1, .int (nI f))] [] S (fun v S2 => zs_Ri v ∧ zs_J S2 ∧ zs_fm_W S0 S2) := by
  intro d
  induction d with
  | zero =>
    intro g hg h1g p hp k hk1 hk2
    refine g_iload dX12_smooth_93 rfl ?_
    refine g_iload_n dX12_smooth_95 rfl rfl ?_
    refine g_ic_gtN 186 dX12_smooth_96 (by decide) (by omega) (by omega) (fun _ => ?_) (fun z => absurd z (by omega))
    refine g_iload_n dX12_smooth_186 rfl rfl ?_
    refine g_if_geN 194 dX12_smooth_187 (by decide) (by omega) ?_
    refine g_iload dX12_smooth_194 rfl ?_
    refine g_iret dX12_smooth_196 rfl rfl ?_
    exact ⟨⟨_, rfl⟩, hS.1, hS.2.1⟩
  | succ d ih =>
    intro g hg h1g p hp k hk1 hk2
    obtain ⟨dv, -, hdv1, hdv⟩ := hS.1.1 81 (3 + g - 1) 0 9 (rg_81_3_14 _ (by omega) (by omega))
    obtain ⟨k', hk3, hk4, hent⟩ := hT (g - 1) (by omega) p hp
    obtain rfl : k = k' := (nI_eq (by omega) (by omega)).mp (hk1.symm.trans hk4)
    refine g_iload dX12_smooth_93 rfl ?_
    refine g_iload_n dX12_smooth_95 rfl rfl ?_
    refine g_ic_gtN 186 dX12_smooth_96 (by decide) (by omega) (by omega) (fun z => absurd z (by omega)) (fun _ => ?_)
    refine g_aload_n dX12_smooth_99 rfl rfl ?_
    refine g_getR 15 (86) (C := RX12) (T := TX12) (N := 19) dX12_smooth_100 (by decide) rfl rfl (by decide) rfl fl_RX12_30 ?_
    refine g_bipush (v := (nI 10)) dX12_smooth_103 rfl ?_
    refine g_iload dX12_smooth_105 rfl ?_
    refine g_iconst (v := (nI 1)) dX12_smooth_107 rfl ?_
    refine g_isubN dX12_smooth_108 (by omega) ?_
    refine g_imulN dX12_smooth_109 ?_
    refine g_iload dX12_smooth_110 rfl ?_
    refine g_iaddN dX12_smooth_112 ?_
    refine g_ialdN (v := (nI k)) dX12_smooth_113 (by decide) rfl (by omega) (by decide) hk1 ?_
    refine g_aload_n dX12_smooth_114 rfl rfl ?_
    refine g_getR 0 (81) (C := RX12) (T := TX12) (N := 19) dX12_smooth_115 (by decide) rfl rfl (by decide) rfl fl_RX12_7 ?_
    refine g_iconst (v := (nI 3)) dX12_smooth_118 rfl ?_
    refine g_iload dX12_smooth_119 rfl ?_
    refine g_iaddN dX12_smooth_121 ?_
    refine g_iconst (v := (nI 1)) dX12_smooth_122 rfl ?_
    refine g_isubN dX12_smooth_123 (by omega) ?_
    refine g_ialdN (v := (nI dv)) dX12_smooth_124 (by decide) rfl (by omega) (by decide) hdv ?_
    refine g_iload dX12_smooth_125 rfl ?_
    refine g_ic_neN 134 dX12_smooth_127 (by decide) (by omega) (by omega) (fun h1 => ?_) (fun h1 => ?_)
    · refine g_iconst (v := (nI 1)) dX12_smooth_134 rfl ?_
      have hle0 := (hent.2 (by omega)).1
      refine g_isubN dX12_smooth_135 (by have := zs_ownE (S := S) (g := g - 1) (p := p) (d := dv) (by rw [show 3 + (g - 1) = 3 + g - 1 by omega]; exact hdv) (by omega) (by omega); rw [this] at hle0; split at hle0 <;> omega) ?_
      refine g_istore (lv' := [(6, .int (nI (k - 1))), (5, .int (nI g)), (4, .int (nI p)), (3, .int l), (2, .int c), (0, .ref 80), (1, .int (nI f))]) dX12_smooth_136 (by decide) rfl ?_
      refine g_iconst (v := (nI 0)) dX12_smooth_138 rfl ?_
      refine g_istore (lv' := [(7, .int (nI 0)), (6, .int (nI (k - 1))), (5, .int (nI g)), (4, .int (nI p)), (3, .int l), (2, .int c), (0, .ref 80), (1, .int (nI f))]) dX12_smooth_139 (by decide) rfl ?_
      have ho := (by rw [zs_ownE (S := S) (g := g - 1) (p := p) (d := dv) (by rw [show 3 + (g - 1) = 3 + g - 1 by omega]; exact hdv) (by omega) (by omega), if_neg (by omega)] : zs_own S (g - 1) p = 1)
      obtain ⟨hle, hex⟩ := hent.2 (by omega)
      rw [ho] at hle hex
      obtain ⟨r, r1, r2, r3, r4⟩ := hex (by omega)
      rw [show g - 1 + 1 = g by omega] at r4
      refine (z_sm_q S n a f g p (k - 1) r l c hn (by omega) hp (by omega) (fun r hr => hT g (by omega) r hr) r1 r2 r3 r4 _ (fun q hq9 hq8 => ?_) r 0 (by omega) (by omega)).lv (zs_mc 0 rfl (zs_mc 1 rfl (zs_mc 2 rfl (zs_mc 3 rfl (zs_mc 4 rfl (zs_mc 5 rfl (zs_mc 6 rfl (zs_mc 7 rfl zs_mn))))))))
      refine g_iload dX12_smooth_176 rfl ?_
      refine g_istore (lv' := [(4, .int (nI q)), (7, .int (nI q)), (6, .int (nI (k - 1))), (5, .int (nI g)), (3, .int l), (2, .int c), (0, .ref 80), (1, .int (nI f))]) dX12_smooth_178 (by decide) rfl ?_
      refine g_iinc (v := (nI (g + 1))) (lv' := [(5, .int (nI (g + 1))), (4, .int (nI q)), (7, .int (nI q)), (6, .int (nI (k - 1))), (3, .int l), (2, .int c), (0, .ref 80), (1, .int (nI f))]) dX12_smooth_180 rfl (nI_1 g) (by decide) rfl ?_
      refine g_goto 93 dX12_smooth_183 (by decide) ?_
      exact (ih (g + 1) (by omega) (by omega) q hq9 (k - 1) (by rw [show g + 1 - 1 = g by omega]; exact hq8) (by omega)).lv (zs_mc 0 rfl (zs_mc 1 rfl (zs_mc 4 rfl (zs_mc 5 rfl (zs_mc 6 rfl (zs_mc 7 rfl zs_mn))))))
    · refine g_iconst (v := (nI 0)) dX12_smooth_130 rfl ?_
      refine g_goto 135 dX12_smooth_131 (by decide) ?_
      have hle0 := (hent.2 (by omega)).1
      refine g_isubN dX12_smooth_135 (by have := zs_ownE (S := S) (g := g - 1) (p := p) (d := dv) (by rw [show 3 + (g - 1) = 3 + g - 1 by omega]; exact hdv) (by omega) (by omega); rw [this] at hle0; split at hle0 <;> omega) ?_
      refine g_istore (lv' := [(6, .int (nI (k - 0))), (5, .int (nI g)), (4, .int (nI p)), (3, .int l), (2, .int c), (0, .ref 80), (1, .int (nI f))]) dX12_smooth_136 (by decide) rfl ?_
      refine g_iconst (v := (nI 0)) dX12_smooth_138 rfl ?_
      refine g_istore (lv' := [(7, .int (nI 0)), (6, .int (nI (k - 0))), (5, .int (nI g)), (4, .int (nI p)), (3, .int l), (2, .int c), (0, .ref 80), (1, .int (nI f))]) dX12_smooth_139 (by decide) rfl ?_
      have ho := (by rw [zs_ownE (S := S) (g := g - 1) (p := p) (d := dv) (by rw [show 3 + (g - 1) = 3 + g - 1 by omega]; exact hdv) (by omega) (by omega), if_pos (by omega)] : zs_own S (g - 1) p = 0)
      obtain ⟨hle, hex⟩ := hent.2 (by omega)
      rw [ho] at hle hex
      obtain ⟨r, r1, r2, r3, r4⟩ := hex (by omega)
      rw [show g - 1 + 1 = g by omega] at r4
      refine (z_sm_q S n a f g p (k - 0) r l c hn (by omega) hp (by omega) (fun r hr => hT g (by omega) r hr) r1 r2 r3 r4 _ (fun q hq9 hq8 => ?_) r 0 (by omega) (by omega)).lv (zs_mc 0 rfl (zs_mc 1 rfl (zs_mc 2 rfl (zs_mc 3 rfl (zs_mc 4 rfl (zs_mc 5 rfl (zs_mc 6 rfl (zs_mc 7 rfl zs_mn))))))))
      refine g_iload dX12_smooth_176 rfl ?_
      refine g_istore (lv' := [(4, .int (nI q)), (7, .int (nI q)), (6, .int (nI (k - 0))), (5, .int (nI g)), (3, .int l), (2, .int c), (0, .ref 80), (1, .int (nI f))]) dX12_smooth_178 (by decide) rfl ?_
      refine g_iinc (v := (nI (g + 1))) (lv' := [(5, .int (nI (g + 1))), (4, .int (nI q)), (7, .int (nI q)), (6, .int (nI (k - 0))), (3, .int l), (2, .int c), (0, .ref 80), (1, .int (nI f))]) dX12_smooth_180 rfl (nI_1 g) (by decide) rfl ?_
      refine g_goto 93 dX12_smooth_183 (by decide) ?_
      exact (ih (g + 1) (by omega) (by omega) q hq9 (k - 0) (by rw [show g + 1 - 1 = g by omega]; exact hq8) (by omega)).lv (zs_mc 0 rfl (zs_mc 1 rfl (zs_mc 4 rfl (zs_mc 5 rfl (zs_mc 6 rfl (zs_mc 7 rfl zs_mn))))))
set_option maxRecDepth 100000 in
theorem z_sm_l_W (S0 : zs_S) (n : Nat) (ff : Int32) (hn1 : 1 ≤ n) (hn2 : n ≤ 12) (hn3 : S0.1 82 0 = nI n) (hff : ff = -1 ∨ ∃ k, k < n ∧ ff = nI k) : ∀ (d p : Nat), p + d = 10 → ∀ c, c < 10 → ∀ (l : Int32) S, zs_o6_W S0 S → zs_P MX12_smooth 34 [(4, .int (nI p)), (3, .int l), (2, .int (nI c)), (0, .ref 80), (1, .int ff)] [] S (fun v S2 => zs_Ri v ∧ zs_J S2 ∧ zs_fm_W S0 S2) := by
  intro d
  induction d with
  | zero =>
    intro p hp c hc l S hS
    obtain rfl : p = 10 := by omega
    refine g_iload dX12_smooth_34 rfl ?_
    refine g_bipush (v := (nI 10)) dX12_smooth_36 rfl ?_
    refine g_ic_geN 81 dX12_smooth_38 (by decide) (by omega) (by omega) (fun _ => ?_) (fun z => absurd z (by omega))
    refine g_aload_n dX12_smooth_81 rfl rfl ?_
    refine g_iload_n dX12_smooth_82 rfl rfl ?_
    refine g_callV (T := TX12) (NN := 19) [] (y_costOf_W c n (by omega) hn1 hn2 S hS.1 ((congrFun (hS.2.2 82 (by decide)) 0).trans hn3)) dX12_smooth_83 kk_X12_smooth_X12_costOf ml_RX12_199 mwX12_costOf ewX12_costOf (by decide) rfl rfl rfl rfl (Nat.le_of_ble_eq_true rfl) ?_
    rintro _ S1 ⟨x2, rfl, oS1, TS1⟩
    refine g_pop dX12_smooth_86 rfl ?_
    refine g_iload_n dX12_smooth_87 rfl rfl ?_
    refine g_istore (lv' := [(4, .int (nI c)), (3, .int l), (2, .int (nI c)), (0, .ref 80), (1, .int ff)]) dX12_smooth_88 (by decide) rfl ?_
    refine g_iconst (v := (nI 1)) dX12_smooth_90 rfl ?_
    refine g_istore (lv' := [(5, .int (nI 1)), (4, .int (nI c)), (3, .int l), (2, .int (nI c)), (0, .ref 80), (1, .int ff)]) dX12_smooth_91 (by decide) rfl ?_
    obtain ⟨k, hk1, hk2, hk3, -⟩ := TS1 0 (by omega) c (by omega)
    have hk4 := hk3 rfl
    rcases hff with rfl | ⟨f, hf, rfl⟩
    · refine g_iload dX12_smooth_93 rfl ?_
      refine g_iload_n dX12_smooth_95 rfl rfl ?_
      refine g_ic_gt 186 dX12_smooth_96 (by decide) (fun _ => ?_) (fun z => absurd (by decide) z)
      refine g_iload_n dX12_smooth_186 rfl rfl ?_
      refine g_if_ge 194 dX12_smooth_187 (by decide) (fun h61 => ?_) (fun h61 => ?_)
      · refine g_iload dX12_smooth_194 rfl ?_
        refine g_iret dX12_smooth_196 rfl rfl ?_
        exact ⟨⟨_, rfl⟩, (hS.tr oS1).1, (hS.tr oS1).2.1⟩
      · refine g_iload_n dX12_smooth_190 rfl rfl ?_
        refine g_goto 196 dX12_smooth_191 (by decide) ?_
        refine g_iret dX12_smooth_196 rfl rfl ?_
        exact ⟨⟨_, rfl⟩, (hS.tr oS1).1, (hS.tr oS1).2.1⟩
    · exact (z_sm_g_W S0 S1 n c f l (nI c) hn2 hf (hS.tr oS1) TS1 f 1 (by omega) (by omega) c (by omega) k hk2 (by omega)).lv (zs_mc 0 rfl (zs_mc 1 rfl (zs_mc 2 rfl (zs_mc 3 rfl (zs_mc 4 rfl (zs_mc 5 rfl zs_mn))))))
  | succ d ih =>
    intro p hp c hc l S hS
    refine g_iload dX12_smooth_34 rfl ?_
    refine g_bipush (v := (nI 10)) dX12_smooth_36 rfl ?_
    refine g_ic_geN 81 dX12_smooth_38 (by decide) (by omega) (by omega) (fun z => absurd z (by omega)) (fun _ => ?_)
    refine g_aload_n dX12_smooth_41 rfl rfl ?_
    refine g_iload dX12_smooth_42 rfl ?_
    refine g_callV (T := TX12) (NN := 19) [] (y_costOf_W p n (by omega) hn1 hn2 S hS.1 ((congrFun (hS.2.2 82 (by decide)) 0).trans hn3)) dX12_smooth_44 kk_X12_smooth_X12_costOf ml_RX12_199 mwX12_costOf ewX12_costOf (by decide) rfl rfl rfl rfl (Nat.le_of_ble_eq_true rfl) ?_
    rintro _ S1 ⟨x2, rfl, oS1, TS1⟩
    refine g_istore (lv' := [(5, .int x2), (4, .int (nI p)), (3, .int l), (2, .int (nI c)), (0, .ref 80), (1, .int ff)]) dX12_smooth_47 (by decide) rfl ?_
    refine g_iload dX12_smooth_49 rfl ?_
    refine g_iload_n dX12_smooth_51 rfl rfl ?_
    refine g_ic_ge 60 dX12_smooth_52 (by decide) (fun h3 => ?_) (fun h3 => ?_)
    · refine g_iload_n dX12_smooth_60 rfl rfl ?_
      refine g_istore_n (lv' := [(2, .int (nI c)), (5, .int x2), (4, .int (nI p)), (3, .int l), (0, .ref 80), (1, .int ff)]) dX12_smooth_61 rfl (by decide) rfl ?_
      refine g_iload dX12_smooth_62 rfl ?_
      refine g_iload_n dX12_smooth_64 rfl rfl ?_
      refine g_ic_ge 73 dX12_smooth_65 (by decide) (fun h4 => ?_) (fun h4 => ?_)
      · refine g_iload_n dX12_smooth_73 rfl rfl ?_
        refine g_istore_n (lv' := [(3, .int l), (2, .int (nI c)), (5, .int x2), (4, .int (nI p)), (0, .ref 80), (1, .int ff)]) dX12_smooth_74 rfl (by decide) rfl ?_
        refine g_iinc (v := (nI (p + 1))) (lv' := [(4, .int (nI (p + 1))), (3, .int l), (2, .int (nI c)), (5, .int x2), (0, .ref 80), (1, .int ff)]) dX12_smooth_75 rfl (nI_1 p) (by decide) rfl ?_
        refine g_goto 34 dX12_smooth_78 (by decide) ?_
        exact (ih (p + 1) (by omega) c (by omega) l _ (hS.tr oS1)).lv (zs_mc 0 rfl (zs_mc 1 rfl (zs_mc 2 rfl (zs_mc 4 rfl (zs_mc 5 rfl zs_mn)))))
      · refine g_iload dX12_smooth_68 rfl ?_
        refine g_goto 74 dX12_smooth_70 (by decide) ?_
        refine g_istore_n (lv' := [(3, .int x2), (2, .int (nI c)), (5, .int x2), (4, .int (nI p)), (0, .ref 80), (1, .int ff)]) dX12_smooth_74 rfl (by decide) rfl ?_
        refine g_iinc (v := (nI (p + 1))) (lv' := [(4, .int (nI (p + 1))), (3, .int x2), (2, .int (nI c)), (5, .int x2), (0, .ref 80), (1, .int ff)]) dX12_smooth_75 rfl (nI_1 p) (by decide) rfl ?_
        refine g_goto 34 dX12_smooth_78 (by decide) ?_
        exact (ih (p + 1) (by omega) c (by omega) x2 _ (hS.tr oS1)).lv (zs_mc 0 rfl (zs_mc 1 rfl (zs_mc 2 rfl (zs_mc 4 rfl (zs_mc 5 rfl zs_mn)))))
    · refine g_iload dX12_smooth_55 rfl ?_
      refine g_goto 61 dX12_smooth_57 (by decide) ?_
      refine g_istore_n (lv' := [(2, .int (nI p)), (5, .int x2), (4, .int (nI p)), (3, .int l), (0, .ref 80), (1, .int ff)]) dX12_smooth_61 rfl (by decide) rfl ?_
      refine g_iload dX12_smooth_62 rfl ?_
      refine g_iload_n dX12_smooth_64 rfl rfl ?_
      refine g_ic_ge 73 dX12_smooth_65 (by decide) (fun h5 => ?_) (fun h5 => ?_)
      · refine g_iload_n dX12_smooth_73 rfl rfl ?_
        refine g_istore_n (lv' := [(3, .int l), (2, .int (nI p)), (5, .int x2), (4, .int (nI p)), (0, .ref 80), (1, .int ff)]) dX12_smooth_74 rfl (by decide) rfl ?_
        refine g_iinc (v := (nI (p + 1))) (lv' := [(4, .int (nI (p + 1))), (3, .int l), (2, .int (nI p)), (5, .int x2), (0, .ref 80), (1, .int ff)]) dX12_smooth_75 rfl (nI_1 p) (by decide) rfl ?_
        refine g_goto 34 dX12_smooth_78 (by decide) ?_
        exact (ih (p + 1) (by omega) p (by omega) l _ (hS.tr oS1)).lv (zs_mc 0 rfl (zs_mc 1 rfl (zs_mc 2 rfl (zs_mc 4 rfl (zs_mc 5 rfl zs_mn)))))
      · refine g_iload dX12_smooth_68 rfl ?_
        refine g_goto 74 dX12_smooth_70 (by decide) ?_
        refine g_istore_n (lv' := [(3, .int x2), (2, .int (nI p)), (5, .int x2), (4, .int (nI p)), (0, .ref 80), (1, .int ff)]) dX12_smooth_74 rfl (by decide) rfl ?_
        refine g_iinc (v := (nI (p + 1))) (lv' := [(4, .int (nI (p + 1))), (3, .int x2), (2, .int (nI p)), (5, .int x2), (0, .ref 80), (1, .int ff)]) dX12_smooth_75 rfl (nI_1 p) (by decide) rfl ?_
        refine g_goto 34 dX12_smooth_78 (by decide) ?_
        exact (ih (p + 1) (by omega) p (by omega) x2 _ (hS.tr oS1)).lv (zs_mc 0 rfl (zs_mc 1 rfl (zs_mc 2 rfl (zs_mc 4 rfl (zs_mc 5 rfl zs_mn)))))
set_option maxRecDepth 100000 in
theorem y_X12_smooth_W (a1 : Int32) : zs_U_W MX12_smooth [.ref 80, .int a1] zs_Ri := by
  intro S hJ
  obtain ⟨n, hn1, hn2, hn3⟩ := hJ.1 82 0 1 12 rfl
  refine zs_C.of (by decide) (Nat.le_of_ble_eq_true rfl) ?_
  show zs_P MX12_smooth 0 [(0, .ref 80), (1, .int a1)] [] S _
  refine g_iload_n dX12_smooth_0 rfl rfl ?_
  refine g_i2l dX12_smooth_1 rfl ?_
  refine g_ldc2 (v := -1) dX12_smooth_2 cl_RX12_194 ?_
  refine g_aload_n dX12_smooth_5 rfl rfl ?_
  refine g_getR 1 (82) (C := RX12) (T := TX12) (N := 19) dX12_smooth_6 (by decide) rfl rfl (by decide) rfl fl_RX12_13 ?_
  refine g_iconst (v := (nI 0)) dX12_smooth_9 rfl ?_
  refine g_ialdN (v := (nI n)) dX12_smooth_10 (by decide) rfl (by omega) (by decide) hn3 ?_
  refine g_iconst (v := (nI 1)) dX12_smooth_11 rfl ?_
  refine g_isub dX12_smooth_12 ?_
  refine g_i2l dX12_smooth_13 rfl ?_
  refine g_callS [.long (Int32.toInt64 a1), .long (-1), .long (Int32.toInt64 (nI n - nI 1))] [] (z_inL S (Int32.toInt64 a1) (-1) (Int32.toInt64 (nI n - nI 1))) dX12_smooth_14 kk_X12_smooth_X12_in ml_RX12_54 swX12_in rfl rfl (Nat.le_of_ble_eq_true rfl) ?_
  rintro _ _ ⟨_, rfl, rfl, rfl⟩
  refine g_if_ne 25 dX12_smooth_17 (by decide) (fun h1 => ?_) (fun h1 => ?_)
  · have h1 := zs_b1 h1
    refine g_iconst (v := (nI 0)) dX12_smooth_25 rfl ?_
    refine g_istore_n (lv' := [(2, .int (nI 0)), (0, .ref 80), (1, .int a1)]) dX12_smooth_26 rfl (by decide) rfl ?_
    refine g_sipush (v := (nI 999)) dX12_smooth_27 rfl ?_
    refine g_istore_n (lv' := [(3, .int (nI 999)), (2, .int (nI 0)), (0, .ref 80), (1, .int a1)]) dX12_smooth_30 rfl (by decide) rfl ?_
    refine g_iconst (v := (nI 0)) dX12_smooth_31 rfl ?_
    refine g_istore (lv' := [(4, .int (nI 0)), (3, .int (nI 999)), (2, .int (nI 0)), (0, .ref 80), (1, .int a1)]) dX12_smooth_32 (by decide) rfl ?_
    exact (z_sm_l_W S n a1 hn1 hn2 hn3 (zs_inM h1 hn1 hn2) 10 0 (by omega) 0 (by omega) _ S (zs_o6_W.rf hJ)).lv (zs_mc 0 rfl (zs_mc 1 rfl (zs_mc 2 rfl (zs_mc 3 rfl (zs_mc 4 rfl zs_mn)))))
  · have h1 := zs_b0 h1
    refine g_aload_n dX12_smooth_20 rfl rfl ?_
    refine g_callV (T := TX12) (NN := 19) [] (y_X12_bad10_W S hJ) dX12_smooth_21 kk_X12_smooth_X12_bad10 ml_RX12_196 mwX12_bad10 ewX12_bad10 (by decide) rfl rfl rfl rfl (Nat.le_of_ble_eq_true rfl) ?_
    rintro _ S2 ⟨⟨x3, rfl⟩, jS2, fS2⟩
    refine g_iret dX12_smooth_24 rfl rfl ?_
    exact ⟨⟨_, rfl⟩, jS2, ((zs_fm_W.rf).tr fS2)⟩
