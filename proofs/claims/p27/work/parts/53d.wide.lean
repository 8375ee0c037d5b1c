set_option maxRecDepth 100000 in
theorem v_X7_begin_75_W (a1 : Int32) : zs_Dd'_W MX7_begin [.ref 75, .int a1] zs_Rv := by
  refine zs_Wof_W (by decide) (Nat.le_of_ble_eq_true rfl) ?_
  show zs_W_W MX7_begin 0 [(0, .ref 75), (1, .int a1)] [] zs_Rv
  refine h_aload_n_W dX7_begin_0 rfl rfl ?_
  refine h_getR_W 0 76 (C := RX7) (T := TX7) (N := 2) dX7_begin_1 (by decide) rfl rfl (by decide) rfl fl_RX7_9 ?_
  refine h_iconst_W (v := (nI 0)) dX7_begin_4 rfl ?_
  refine h_callN_W [.ref 76, .int (nI 0)] [] (v_fill_W 76 10 (nI 0) (by decide) rfl (by decide) ⟨by decide, by decide, by decide⟩) dX7_begin_5 kk_X7_begin_X11_fill nl_RX7_18 swX11_fill rfl rfl (Nat.le_of_ble_eq_true rfl) ?_
  rintro _ rfl
  refine h_aload_n_W dX7_begin_8 rfl rfl ?_
  refine h_getR_W 0 76 (C := RX7) (T := TX7) (N := 2) dX7_begin_9 (by decide) rfl rfl (by decide) rfl fl_RX7_9 ?_
  refine h_iload_n_W dX7_begin_12 rfl rfl ?_
  refine h_iconst_W (v := (nI 1)) dX7_begin_13 rfl ?_
  refine h_callN_W [.ref 76, .int a1, .int (nI 1)] [] (v_put_W 76 10 a1 (nI 1) (by decide) rfl (by decide) ⟨by decide, by decide, by decide⟩) dX7_begin_14 kk_X7_begin_X11_put nl_RX7_22 swX11_put rfl rfl (Nat.le_of_ble_eq_true rfl) ?_
  rintro _ rfl
  exact h_ret_W dX7_begin_17 rfl rfl
set_option maxRecDepth 100000 in
theorem v_X11_smear_0_W (a1 : Int32) (a2 : Int32) (a3 : Int32) (a4 : Int32) : zs_Dd'_W MX11_smear [.ref 0, .int a1, .int a2, .int a3, .int a4] zs_Ri := by
  refine zs_Wof_W (by decide) (Nat.le_of_ble_eq_true rfl) ?_
  show zs_W_W MX11_smear 0 [(0, .ref 0), (1, .int a1), (2, .int a2), (3, .int a3), (4, .int a4)] [] zs_Ri
  have j84 : ∀ (n84 : Nat) (v1 : Int32) (v2 : Int32) (v3 : Int32) (v4 : Int32) (v5 : Int64) (c84 : Int32), zs_mu c84 < n84 → zs_W_W MX11_smear 84 [(0, .ref 0), (1, .int v1), (2, .int v2), (3, .int v3), (4, .int v4), (5, .long v5), (7, .int c84)] [] zs_Ri := by
    intro n84
    induction n84 with
    | zero => intro v1 v2 v3 v4 v5 c84 hn84; exact absurd hn84 (Nat.not_lt_zero _)
    | succ n84 ih84 =>
      intro v1 v2 v3 v4 v5 c84 hn84
      refine h_iload_W dX11_smear_84 rfl ?_
      refine h_iload_n_W dX11_smear_86 rfl rfl ?_
      refine h_ic_ge_W 146 dX11_smear_87 (by decide) (fun h1 => ?_) (fun h1 => ?_)
      · refine h_aload_n_W dX11_smear_146 rfl rfl ?_
        refine h_aload_n_W dX11_smear_147 rfl rfl ?_
        refine h_getR_W 15 75 (C := RX11) (T := TX11) (N := 18) dX11_smear_148 (by decide) rfl rfl (by decide) rfl fl_RX11_64 ?_
        refine h_iload_n_W dX11_smear_151 rfl rfl ?_
        refine h_callV_W (T := TX7) (NN := 2) [.ref 0] (v_X7_weightOf_75_W v2) dX11_smear_152 kk_X11_smear_X7_weightOf ml_RX11_283 mwX7_weightOf ewX7_weightOf (by decide) rfl rfl rfl rfl (Nat.le_of_ble_eq_true rfl) ?_
        rintro _ ⟨x2, rfl⟩
        refine h_i2l_W dX11_smear_155 (fun x3 => ?_)
        refine h_lload_W dX11_smear_156 rfl ?_
        refine h_callV_W (T := TX11) (NN := 18) [] (v_X11_keepFraction_0_W x3 v5) dX11_smear_158 kk_X11_smear_X11_keepFraction ml_RX11_286 mwX11_keepFraction ewX11_keepFraction (by decide) rfl rfl rfl rfl (Nat.le_of_ble_eq_true rfl) ?_
        rintro _ rfl
        refine h_iconst_W (v := (nI 1)) dX11_smear_161 rfl ?_
        exact h_iret_W dX11_smear_162 rfl rfl ⟨_, rfl⟩
      · have hd84 := zs_muA h1 hn84
        refine h_aload_n_W dX11_smear_90 rfl rfl ?_
        refine h_getR_W 0 1 (C := RX11) (T := TX11) (N := 18) dX11_smear_91 (by decide) rfl rfl (by decide) rfl fl_RX11_10 ?_
        refine h_aload_n_W dX11_smear_94 rfl rfl ?_
        refine h_getR_W 11 63 (C := RX11) (T := TX11) (N := 18) dX11_smear_95 (by decide) rfl rfl (by decide) rfl fl_RX11_36 ?_
        refine h_callV_W (T := TX6) (NN := 9) [] (v_X6_flash_1_63_W) dX11_smear_98 kk_X11_smear_X6_flash ml_RX11_201 mwX6_flash ewX6_flash (by decide) rfl rfl rfl rfl (Nat.le_of_ble_eq_true rfl) ?_
        rintro _ rfl
        refine h_aload_n_W dX11_smear_101 rfl rfl ?_
        refine h_getR_W 15 75 (C := RX11) (T := TX11) (N := 18) dX11_smear_102 (by decide) rfl rfl (by decide) rfl fl_RX11_64 ?_
        refine h_aload_n_W dX11_smear_105 rfl rfl ?_
        refine h_getR_W 0 1 (C := RX11) (T := TX11) (N := 18) dX11_smear_106 (by decide) rfl rfl (by decide) rfl fl_RX11_10 ?_
        refine h_getR_W 3 2 (C := RX6) (T := TX6) (N := 9) dX11_smear_109 (by decide) rfl rfl (by decide) rfl fl_RX11_185 ?_
        refine h_iload_n_W dX11_smear_112 rfl rfl ?_
        refine h_callS_W [.ref 2, .int v1] [.ref 75] (v_cell_W 2 5 v1 (by decide) rfl (by decide)) dX11_smear_113 kk_X11_smear_X11_cell ml_RX11_168 swX11_cell rfl rfl (Nat.le_of_ble_eq_true rfl) ?_
        rintro _ ⟨x4, rfl⟩
        refine h_aload_n_W dX11_smear_116 rfl rfl ?_
        refine h_getR_W 0 1 (C := RX11) (T := TX11) (N := 18) dX11_smear_117 (by decide) rfl rfl (by decide) rfl fl_RX11_10 ?_
        refine h_aload_n_W dX11_smear_120 rfl rfl ?_
        refine h_getR_W 11 63 (C := RX11) (T := TX11) (N := 18) dX11_smear_121 (by decide) rfl rfl (by decide) rfl fl_RX11_36 ?_
        refine h_callV_W (T := TX6) (NN := 9) [.int x4, .ref 75] (v_X6_drawingAtHand_1_63_W) dX11_smear_124 kk_X11_smear_X6_drawingAtHand ml_RX11_275 mwX6_drawingAtHand ewX6_drawingAtHand (by decide) rfl rfl rfl rfl (Nat.le_of_ble_eq_true rfl) ?_
        rintro _ ⟨x5, rfl⟩
        refine h_iload_W dX11_smear_127 rfl ?_
        refine h_callV_W (T := TX7) (NN := 2) [] (v_X7_flash_75_W x4 x5 v4) dX11_smear_129 kk_X11_smear_X7_flash ml_RX11_279 mwX7_flash ewX7_flash (by decide) rfl rfl rfl rfl (Nat.le_of_ble_eq_true rfl) ?_
        rintro _ rfl
        refine h_lload_W dX11_smear_132 rfl ?_
        refine h_ldc2_W (v := 10) dX11_smear_134 cl_RX11_281 ?_
        refine h_lmul_W dX11_smear_137 (fun x6 => ?_)
        refine h_lstore_W (lv' := [(5, .long x6), (0, .ref 0), (1, .int v1), (2, .int v2), (3, .int v3), (4, .int v4), (7, .int c84)]) dX11_smear_138 (by decide) rfl ?_
        refine h_iinc_W (v := (c84 + Int32.ofInt 1)) (lv' := [(7, .int (c84 + Int32.ofInt 1)), (5, .long x6), (0, .ref 0), (1, .int v1), (2, .int v2), (3, .int v3), (4, .int v4)]) dX11_smear_140 rfl rfl (by decide) rfl ?_
        refine h_goto_W 84 dX11_smear_143 (by decide) ?_
        exact zs_Wlv_W (ih84 v1 v2 v3 v4 x6 (c84 + Int32.ofInt 1) hd84) (zs_mc 2 rfl (zs_mc 3 rfl (zs_mc 4 rfl (zs_mc 5 rfl (zs_mc 6 rfl (zs_mc 1 rfl (zs_mc 0 rfl zs_mn)))))))
  have j36 : ∀ (v1 : Int32) (v2 : Int32) (v3 : Int32) (v4 : Int32), zs_W_W MX11_smear 36 [(0, .ref 0), (1, .int v1), (2, .int v2), (3, .int v3), (4, .int v4)] [] zs_Ri := by
    intro v1 v2 v3 v4
    refine h_aload_n_W dX11_smear_36 rfl rfl ?_
    refine h_bipush_W (v := (-2)) dX11_smear_37 rfl ?_
    refine h_callV_W (T := TX11) (NN := 18) [] (v_X11_refuseBad_0_W (-2)) dX11_smear_39 kk_X11_smear_X11_refuseBad ml_RX11_86 mwX11_refuseBad ewX11_refuseBad (by decide) rfl rfl rfl rfl (Nat.le_of_ble_eq_true rfl) ?_
    rintro _ ⟨x7, rfl⟩
    exact h_iret_W dX11_smear_42 rfl rfl ⟨_, rfl⟩
  refine h_aload_n_W dX11_smear_0 rfl rfl ?_
  refine h_iload_n_W dX11_smear_1 rfl rfl ?_
  refine h_callV_W (T := TX11) (NN := 18) [] (v_X11_isEye_0_W a1) dX11_smear_2 kk_X11_smear_X11_isEye ml_RX11_182 mwX11_isEye ewX11_isEye (by decide) rfl rfl rfl rfl (Nat.le_of_ble_eq_true rfl) ?_
  rintro _ ⟨x8, rfl, bx8⟩
  refine h_if_eq_W 36 dX11_smear_5 (by decide) (fun h9 => ?_) (fun h9 => ?_)
  · exact j36 a1 a2 a3 a4
  · refine h_iload_n_W dX11_smear_8 rfl rfl ?_
    refine h_callS_W [.int a2] [] (v_X11_isDrawing_W a2) dX11_smear_9 kk_X11_smear_X11_isDrawing ml_RX11_162 swX11_isDrawing rfl rfl (Nat.le_of_ble_eq_true rfl) ?_
    rintro _ ⟨x10, rfl, bx10⟩
    refine h_if_eq_W 36 dX11_smear_12 (by decide) (fun h11 => ?_) (fun h11 => ?_)
    · exact j36 a1 a2 a3 a4
    · refine h_iload_n_W dX11_smear_15 rfl rfl ?_
      refine h_iconst_W (v := (nI 0)) dX11_smear_16 rfl ?_
      refine h_bipush_W (v := (nI 6)) dX11_smear_17 rfl ?_
      refine h_callS_W [.int a3, .int (nI 0), .int (nI 6)] [] (v_X11_within_W a3 (nI 0) (nI 6)) dX11_smear_19 kk_X11_smear_X11_within ml_RX11_75 swX11_within rfl rfl (Nat.le_of_ble_eq_true rfl) ?_
      rintro _ ⟨x12, rfl, bx12⟩
      refine h_if_eq_W 36 dX11_smear_22 (by decide) (fun h13 => ?_) (fun h13 => ?_)
      · exact j36 a1 a2 a3 a4
      · refine h_iload_W dX11_smear_25 rfl ?_
        refine h_iconst_W (v := (nI 0)) dX11_smear_27 rfl ?_
        refine h_bipush_W (v := (nI 10)) dX11_smear_28 rfl ?_
        refine h_callS_W [.int a4, .int (nI 0), .int (nI 10)] [] (v_X11_within_W a4 (nI 0) (nI 10)) dX11_smear_30 kk_X11_smear_X11_within ml_RX11_75 swX11_within rfl rfl (Nat.le_of_ble_eq_true rfl) ?_
        rintro _ ⟨x14, rfl, bx14⟩
        refine h_if_ne_W 43 dX11_smear_33 (by decide) (fun h15 => ?_) (fun h15 => ?_)
        · refine h_aload_n_W dX11_smear_43 rfl rfl ?_
          refine h_aload_n_W dX11_smear_44 rfl rfl ?_
          refine h_getR_W 0 1 (C := RX11) (T := TX11) (N := 18) dX11_smear_45 (by decide) rfl rfl (by decide) rfl fl_RX11_10 ?_
          refine h_getR_W 4 3 (C := RX6) (T := TX6) (N := 9) dX11_smear_48 (by decide) rfl rfl (by decide) rfl fl_RX11_137 ?_
          refine h_getI_W 2 (C := RX3) (T := TX3) (N := 6) dX11_smear_51 (by decide) rfl rfl (by decide) rfl fl_RX11_153 (fun x16 => ?_)
          refine h_callV_W (T := TX11) (NN := 18) [] (v_X11_startTrial_0_W x16) dX11_smear_54 kk_X11_smear_X11_startTrial ml_RX11_198 mwX11_startTrial ewX11_startTrial (by decide) rfl rfl rfl rfl (Nat.le_of_ble_eq_true rfl) ?_
          rintro _ rfl
          refine h_aload_n_W dX11_smear_57 rfl rfl ?_
          refine h_getR_W 15 75 (C := RX11) (T := TX11) (N := 18) dX11_smear_58 (by decide) rfl rfl (by decide) rfl fl_RX11_64 ?_
          refine h_aload_n_W dX11_smear_61 rfl rfl ?_
          refine h_getR_W 0 1 (C := RX11) (T := TX11) (N := 18) dX11_smear_62 (by decide) rfl rfl (by decide) rfl fl_RX11_10 ?_
          refine h_getR_W 4 3 (C := RX6) (T := TX6) (N := 9) dX11_smear_65 (by decide) rfl rfl (by decide) rfl fl_RX11_137 ?_
          refine h_getR_W 4 5 (C := RX3) (T := TX3) (N := 6) dX11_smear_68 (by decide) rfl rfl (by decide) rfl fl_RX11_188 ?_
          refine h_iload_n_W dX11_smear_71 rfl rfl ?_
          refine h_callS_W [.ref 5, .int a1] [.ref 75] (v_cell_W 5 5 a1 (by decide) rfl (by decide)) dX11_smear_72 kk_X11_smear_X11_cell ml_RX11_168 swX11_cell rfl rfl (Nat.le_of_ble_eq_true rfl) ?_
          rintro _ ⟨x17, rfl⟩
          refine h_callV_W (T := TX7) (NN := 2) [] (v_X7_begin_75_W x17) dX11_smear_75 kk_X11_smear_X7_begin ml_RX11_273 mwX7_begin ewX7_begin (by decide) rfl rfl rfl rfl (Nat.le_of_ble_eq_true rfl) ?_
          rintro _ rfl
          refine h_lconst_W (v := 1) dX11_smear_78 (by decide) ?_
          refine h_lstore_W (lv' := [(5, .long 1), (0, .ref 0), (1, .int a1), (2, .int a2), (3, .int a3), (4, .int a4)]) dX11_smear_79 (by decide) rfl ?_
          refine h_iconst_W (v := (nI 0)) dX11_smear_81 rfl ?_
          refine h_istore_W (lv' := [(7, .int (nI 0)), (5, .long 1), (0, .ref 0), (1, .int a1), (2, .int a2), (3, .int a3), (4, .int a4)]) dX11_smear_82 (by decide) rfl ?_
          exact zs_Wlv_W (j84 _ a1 a2 a3 a4 1 (nI 0) (Nat.lt_succ_self _)) (zs_mc 2 rfl (zs_mc 3 rfl (zs_mc 4 rfl (zs_mc 5 rfl (zs_mc 6 rfl (zs_mc 1 rfl (zs_mc 0 rfl zs_mn)))))))
        · exact j36 a1 a2 a3 a4
set_option maxRecDepth 100000 in
theorem v_X6_movesTogether_1_63_W : zs_Dd'_W MX6_movesTogether [.ref 1, .ref 63] zs_Ri := by
  refine zs_Wof_W (by decide) (Nat.le_of_ble_eq_true rfl) ?_
  show zs_W_W MX6_movesTogether 0 [(0, .ref 1), (1, .ref 63)] [] zs_Ri
  have j4 : ∀ (n4 : Nat) (v2 : Int32) (c4 : Int32), zs_mu c4 < n4 → zs_W_W MX6_movesTogether 4 [(0, .ref 1), (1, .ref 63), (2, .int v2), (3, .int c4)] [] zs_Ri := by
    intro n4
    induction n4 with
    | zero => intro v2 c4 hn4; exact absurd hn4 (Nat.not_lt_zero _)
    | succ n4 ih4 =>
      intro v2 c4 hn4
      refine h_iload_n_W dX6_movesTogether_4 rfl rfl ?_
      refine h_aload_n_W dX6_movesTogether_5 rfl rfl ?_
      refine h_getI_W 2 (C := RX6) (T := TX6) (N := 9) dX6_movesTogether_6 (by decide) rfl rfl (by decide) rfl fl_RX6_51 (fun x1 => ?_)
      refine h_ic_ge_W 29 dX6_movesTogether_9 (by decide) (fun h2 => ?_) (fun h2 => ?_)
      · refine h_iload_n_W dX6_movesTogether_29 rfl rfl ?_
        exact h_iret_W dX6_movesTogether_30 rfl rfl ⟨_, rfl⟩
      · have hd4 := zs_muA h2 hn4
        refine h_iload_n_W dX6_movesTogether_12 rfl rfl ?_
        refine h_aload_n_W dX6_movesTogether_13 rfl rfl ?_
        refine h_getR_W 5 66 (C := RX3) (T := TX3) (N := 6) dX6_movesTogether_14 (by decide) rfl rfl (by decide) rfl fl_RX6_88 ?_
        refine h_iload_n_W dX6_movesTogether_17 rfl rfl ?_
        refine h_callN_W [.ref 66, .int c4] [.int v2] (v_cell_W 66 5 c4 (by decide) rfl (by decide)) dX6_movesTogether_18 kk_X6_movesTogether_X11_cell nl_RX6_116 swX11_cell rfl rfl (Nat.le_of_ble_eq_true rfl) ?_
        rintro _ ⟨x3, rfl⟩
        refine h_iadd_W dX6_movesTogether_21 (fun x4 => ?_)
        refine h_istore_n_W (lv' := [(2, .int x4), (0, .ref 1), (1, .ref 63), (3, .int c4)]) dX6_movesTogether_22 rfl (by decide) rfl ?_
        refine h_iinc_W (v := (c4 + Int32.ofInt 1)) (lv' := [(3, .int (c4 + Int32.ofInt 1)), (2, .int x4), (0, .ref 1), (1, .ref 63)]) dX6_movesTogether_23 rfl rfl (by decide) rfl ?_
        refine h_goto_W 4 dX6_movesTogether_26 (by decide) ?_
        exact zs_Wlv_W (ih4 x4 (c4 + Int32.ofInt 1) hd4) (zs_mc 2 rfl (zs_mc 3 rfl (zs_mc 1 rfl (zs_mc 0 rfl zs_mn))))
  refine h_iconst_W (v := (nI 0)) dX6_movesTogether_0 rfl ?_
  refine h_istore_n_W (lv' := [(2, .int (nI 0)), (0, .ref 1), (1, .ref 63)]) dX6_movesTogether_1 rfl (by decide) rfl ?_
  refine h_iconst_W (v := (nI 0)) dX6_movesTogether_2 rfl ?_
  refine h_istore_n_W (lv' := [(3, .int (nI 0)), (2, .int (nI 0)), (0, .ref 1), (1, .ref 63)]) dX6_movesTogether_3 rfl (by decide) rfl ?_
  exact zs_Wlv_W (j4 _ (nI 0) (nI 0) (Nat.lt_succ_self _)) (zs_mc 2 rfl (zs_mc 3 rfl (zs_mc 1 rfl (zs_mc 0 rfl zs_mn))))
set_option maxRecDepth 100000 in
theorem v_X11_nights_0_W (a1 : Int32) (a2 : Int32) : zs_Dd'_W MX11_nights [.ref 0, .int a1, .int a2] zs_Ri := by
  refine zs_Wof_W (by decide) (Nat.le_of_ble_eq_true rfl) ?_
  show zs_W_W MX11_nights 0 [(0, .ref 0), (1, .int a1), (2, .int a2)] [] zs_Ri
  have j48 : ∀ (n48 : Nat) (v1 : Int32) (v2 : Int32) (v3 : Int64) (c48 : Int32), zs_mu c48 < n48 → zs_W_W MX11_nights 48 [(0, .ref 0), (1, .int v1), (2, .int v2), (3, .long v3), (5, .int c48)] [] zs_Ri := by
    intro n48
    induction n48 with
    | zero => intro v1 v2 v3 c48 hn48; exact absurd hn48 (Nat.not_lt_zero _)
    | succ n48 ih48 =>
      intro v1 v2 v3 c48 hn48
      refine h_iload_W dX11_nights_48 rfl ?_
      refine h_iload_n_W dX11_nights_50 rfl rfl ?_
      refine h_ic_ge_W 102 dX11_nights_51 (by decide) (fun h1 => ?_) (fun h1 => ?_)
      · refine h_aload_n_W dX11_nights_102 rfl rfl ?_
        refine h_getR_W 0 1 (C := RX11) (T := TX11) (N := 18) dX11_nights_103 (by decide) rfl rfl (by decide) rfl fl_RX11_10 ?_
        refine h_aload_n_W dX11_nights_106 rfl rfl ?_
        refine h_getR_W 11 63 (C := RX11) (T := TX11) (N := 18) dX11_nights_107 (by decide) rfl rfl (by decide) rfl fl_RX11_36 ?_
        refine h_callV_W (T := TX6) (NN := 9) [] (v_X6_movesTogether_1_63_W) dX11_nights_110 kk_X11_nights_X6_movesTogether ml_RX11_301 mwX6_movesTogether ewX6_movesTogether (by decide) rfl rfl rfl rfl (Nat.le_of_ble_eq_true rfl) ?_
        rintro _ ⟨x2, rfl⟩
        exact h_iret_W dX11_nights_113 rfl rfl ⟨_, rfl⟩
      · have hd48 := zs_muA h1 hn48
        refine h_lload_n_W dX11_nights_54 rfl rfl ?_
        refine h_ldc2_W (v := 1103515245) dX11_nights_55 cl_RX11_291 ?_
        refine h_lmul_W dX11_nights_58 (fun x3 => ?_)
        refine h_ldc2_W (v := 12345) dX11_nights_59 cl_RX11_293 ?_
        refine h_ladd_W dX11_nights_62 (fun x4 => ?_)
        refine h_ldc2_W (v := 2147483648) dX11_nights_63 cl_RX11_295 ?_
        refine h_lrem_W dX11_nights_66 (by decide) (fun x5 => ?_)
        refine h_lstore_n_W (lv' := [(3, .long x5), (0, .ref 0), (1, .int v1), (2, .int v2), (5, .int c48)]) dX11_nights_67 rfl (by decide) rfl ?_
        refine h_aload_n_W dX11_nights_68 rfl rfl ?_
        refine h_getR_W 11 63 (C := RX11) (T := TX11) (N := 18) dX11_nights_69 (by decide) rfl rfl (by decide) rfl fl_RX11_36 ?_
        refine h_lload_n_W dX11_nights_72 rfl rfl ?_
        refine h_ldc2_W (v := 65536) dX11_nights_73 cl_RX11_297 ?_
        refine h_ldiv_W dX11_nights_76 (by decide) (fun x6 => ?_)
        refine h_ldc2_W (v := 12) dX11_nights_77 cl_RX11_299 ?_
        refine h_lrem_W dX11_nights_80 (by decide) (fun x7 => ?_)
        refine h_l2i_W dX11_nights_81 (fun x8 => ?_)
        refine h_putI_W 2 (C := RX3) (T := TX3) (N := 6) (ty := .int) dX11_nights_82 (by decide) rfl rfl (by decide) rfl fl_RX11_153 rfl (by decide +kernel) ⟨rfl, rfl⟩ rfl ?_
        refine h_aload_n_W dX11_nights_85 rfl rfl ?_
        refine h_getR_W 0 1 (C := RX11) (T := TX11) (N := 18) dX11_nights_86 (by decide) rfl rfl (by decide) rfl fl_RX11_10 ?_
        refine h_aload_n_W dX11_nights_89 rfl rfl ?_
        refine h_getR_W 11 63 (C := RX11) (T := TX11) (N := 18) dX11_nights_90 (by decide) rfl rfl (by decide) rfl fl_RX11_36 ?_
        refine h_callV_W (T := TX6) (NN := 9) [] (v_X6_flash_1_63_W) dX11_nights_93 kk_X11_nights_X6_flash ml_RX11_201 mwX6_flash ewX6_flash (by decide) rfl rfl rfl rfl (Nat.le_of_ble_eq_true rfl) ?_
        rintro _ rfl
        refine h_iinc_W (v := (c48 + Int32.ofInt 1)) (lv' := [(5, .int (c48 + Int32.ofInt 1)), (3, .long x5), (0, .ref 0), (1, .int v1), (2, .int v2)]) dX11_nights_96 rfl rfl (by decide) rfl ?_
        refine h_goto_W 48 dX11_nights_99 (by decide) ?_
        exact zs_Wlv_W (ih48 v1 v2 x5 (c48 + Int32.ofInt 1) hd48) (zs_mc 2 rfl (zs_mc 3 rfl (zs_mc 4 rfl (zs_mc 1 rfl (zs_mc 0 rfl zs_mn)))))
  have j21 : ∀ (v1 : Int32) (v2 : Int32), zs_W_W MX11_nights 21 [(0, .ref 0), (1, .int v1), (2, .int v2)] [] zs_Ri := by
    intro v1 v2
    refine h_aload_n_W dX11_nights_21 rfl rfl ?_
    refine h_bipush_W (v := (-2)) dX11_nights_22 rfl ?_
    refine h_callV_W (T := TX11) (NN := 18) [] (v_X11_refuseBad_0_W (-2)) dX11_nights_24 kk_X11_nights_X11_refuseBad ml_RX11_86 mwX11_refuseBad ewX11_refuseBad (by decide) rfl rfl rfl rfl (Nat.le_of_ble_eq_true rfl) ?_
    rintro _ ⟨x9, rfl⟩
    exact h_iret_W dX11_nights_27 rfl rfl ⟨_, rfl⟩
  refine h_iload_n_W dX11_nights_0 rfl rfl ?_
  refine h_iconst_W (v := (nI 0)) dX11_nights_1 rfl ?_
  refine h_ldcw_W (v := (nI 999999)) dX11_nights_2 cl_RX11_290 ?_
  refine h_callS_W [.int a1, .int (nI 0), .int (nI 999999)] [] (v_X11_within_W a1 (nI 0) (nI 999999)) dX11_nights_5 kk_X11_nights_X11_within ml_RX11_75 swX11_within rfl rfl (Nat.le_of_ble_eq_true rfl) ?_
  rintro _ ⟨x10, rfl, bx10⟩
  refine h_if_eq_W 21 dX11_nights_8 (by decide) (fun h11 => ?_) (fun h11 => ?_)
  · exact j21 a1 a2
  · refine h_iload_n_W dX11_nights_11 rfl rfl ?_
    refine h_iconst_W (v := (nI 0)) dX11_nights_12 rfl ?_
    refine h_bipush_W (v := (nI 60)) dX11_nights_13 rfl ?_
    refine h_callS_W [.int a2, .int (nI 0), .int (nI 60)] [] (v_X11_within_W a2 (nI 0) (nI 60)) dX11_nights_15 kk_X11_nights_X11_within ml_RX11_75 swX11_within rfl rfl (Nat.le_of_ble_eq_true rfl) ?_
    rintro _ ⟨x12, rfl, bx12⟩
    refine h_if_ne_W 28 dX11_nights_18 (by decide) (fun h13 => ?_) (fun h13 => ?_)
    · refine h_aload_n_W dX11_nights_28 rfl rfl ?_
      refine h_aload_n_W dX11_nights_29 rfl rfl ?_
      refine h_getR_W 0 1 (C := RX11) (T := TX11) (N := 18) dX11_nights_30 (by decide) rfl rfl (by decide) rfl fl_RX11_10 ?_
      refine h_getR_W 4 3 (C := RX6) (T := TX6) (N := 9) dX11_nights_33 (by decide) rfl rfl (by decide) rfl fl_RX11_137 ?_
      refine h_getI_W 2 (C := RX3) (T := TX3) (N := 6) dX11_nights_36 (by decide) rfl rfl (by decide) rfl fl_RX11_153 (fun x14 => ?_)
      refine h_callV_W (T := TX11) (NN := 18) [] (v_X11_startTrial_0_W x14) dX11_nights_39 kk_X11_nights_X11_startTrial ml_RX11_198 mwX11_startTrial ewX11_startTrial (by decide) rfl rfl rfl rfl (Nat.le_of_ble_eq_true rfl) ?_
      rintro _ rfl
      refine h_iload_n_W dX11_nights_42 rfl rfl ?_
      refine h_i2l_W dX11_nights_43 (fun x15 => ?_)
      refine h_lstore_n_W (lv' := [(3, .long x15), (0, .ref 0), (1, .int a1), (2, .int a2)]) dX11_nights_44 rfl (by decide) rfl ?_
      refine h_iconst_W (v := (nI 0)) dX11_nights_45 rfl ?_
      refine h_istore_W (lv' := [(5, .int (nI 0)), (3, .long x15), (0, .ref 0), (1, .int a1), (2, .int a2)]) dX11_nights_46 (by decide) rfl ?_
      exact zs_Wlv_W (j48 _ a1 a2 x15 (nI 0) (Nat.lt_succ_self _)) (zs_mc 2 rfl (zs_mc 3 rfl (zs_mc 4 rfl (zs_mc 1 rfl (zs_mc 0 rfl zs_mn)))))
    · exact j21 a1 a2
set_option maxRecDepth 100000 in
theorem v_X11_part_0_W (a1 : Int32) : zs_Dd'_W MX11_part [.ref 0, .int a1] zs_Rl := by
  refine zs_Wof_W (by decide) (Nat.le_of_ble_eq_true rfl) ?_
  show zs_W_W MX11_part 0 [(0, .ref 0), (1, .int a1)] [] zs_Rl
  refine h_iload_n_W dX11_part_0 rfl rfl ?_
  by_cases h1 : (a1 : Int32).toInt = 0
  · refine h_lsw_W (off := 27) 28 dX11_part_1 (by decide) (by rw [h1]; rfl) (by decide) ?_
    refine h_aload_n_W dX11_part_28 rfl rfl ?_
    refine h_getL_W 6 (C := RX11) (T := TX11) (N := 18) dX11_part_29 (by decide) rfl rfl (by decide) rfl fl_RX11_304 (fun x2 => ?_)
    exact h_lret_W dX11_part_32 rfl ⟨_, rfl⟩
  by_cases h3 : (a1 : Int32).toInt = 1
  · refine h_lsw_W (off := 32) 33 dX11_part_1 (by decide) (by rw [h3]; rfl) (by decide) ?_
    refine h_aload_n_W dX11_part_33 rfl rfl ?_
    refine h_getL_W 7 (C := RX11) (T := TX11) (N := 18) dX11_part_34 (by decide) rfl rfl (by decide) rfl fl_RX11_29 (fun x4 => ?_)
    exact h_lret_W dX11_part_37 rfl ⟨_, rfl⟩
  refine h_lsw_W (off := 37) 38 dX11_part_1 (by decide) (by simp [Op.lookupswitch.offset, Ne.symm h1, Ne.symm h3]) (by decide) ?_
  refine h_aload_n_W dX11_part_38 rfl rfl ?_
  refine h_bipush_W (v := (-2)) dX11_part_39 rfl ?_
  refine h_callV_W (T := TX11) (NN := 18) [] (v_X11_refuseBad_0_W (-2)) dX11_part_41 kk_X11_part_X11_refuseBad ml_RX11_86 mwX11_refuseBad ewX11_refuseBad (by decide) rfl rfl rfl rfl (Nat.le_of_ble_eq_true rfl) ?_
  rintro _ ⟨x5, rfl⟩
  refine h_i2l_W dX11_part_44 (fun x6 => ?_)
  exact h_lret_W dX11_part_45 rfl ⟨_, rfl⟩
set_option maxRecDepth 100000 in
theorem v_X11_status_0_W (a1 : Int32) : zs_Dd'_W MX11_status [.ref 0, .int a1] zs_Ri := by
  refine zs_Wof_W (by decide) (Nat.le_of_ble_eq_true rfl) ?_
  show zs_W_W MX11_status 0 [(0, .ref 0), (1, .int a1)] [] zs_Ri
  refine h_iload_n_W dX11_status_0 rfl rfl ?_
  by_cases h1 : (a1 : Int32).toInt < 0 ∨ 2 < (a1 : Int32).toInt
  · refine h_tout_W 43 dX11_status_1 h1 (by decide) ?_
    refine h_aload_n_W dX11_status_43 rfl rfl ?_
    refine h_iconst_W (v := (-1)) dX11_status_44 rfl ?_
    refine h_callV_W (T := TX11) (NN := 18) [] (v_X11_refuseBad_0_W (-1)) dX11_status_45 kk_X11_status_X11_refuseBad ml_RX11_86 mwX11_refuseBad ewX11_refuseBad (by decide) rfl rfl rfl rfl (Nat.le_of_ble_eq_true rfl) ?_
    rintro _ ⟨x2, rfl⟩
    exact h_iret_W dX11_status_48 rfl rfl ⟨_, rfl⟩
  rcases (show (a1 : Int32).toInt = 0 ∨ (a1 : Int32).toInt = 1 ∨ (a1 : Int32).toInt = 2 by omega) with h1 | h1 | h1
  · refine h_tin_W (off := 27) 28 dX11_status_1 (by rw [h1]; decide) (by rw [h1]; decide) (by rw [h1]; rfl) (by decide) ?_
    refine h_aload_n_W dX11_status_28 rfl rfl ?_
    refine h_getI_W 8 (C := RX11) (T := TX11) (N := 18) dX11_status_29 (by decide) rfl rfl (by decide) rfl fl_RX11_314 (fun x3 => ?_)
    exact h_iret_W dX11_status_32 rfl rfl ⟨_, rfl⟩
  · refine h_tin_W (off := 32) 33 dX11_status_1 (by rw [h1]; decide) (by rw [h1]; decide) (by rw [h1]; rfl) (by decide) ?_
    refine h_aload_n_W dX11_status_33 rfl rfl ?_
    refine h_getI_W 9 (C := RX11) (T := TX11) (N := 18) dX11_status_34 (by decide) rfl rfl (by decide) rfl fl_RX11_317 (fun x4 => ?_)
    exact h_iret_W dX11_status_37 rfl rfl ⟨_, rfl⟩
  · refine h_tin_W (off := 37) 38 dX11_status_1 (by rw [h1]; decide) (by rw [h1]; decide) (by rw [h1]; rfl) (by decide) ?_
    refine h_aload_n_W dX11_status_38 rfl rfl ?_
    refine h_getI_W 10 (C := RX11) (T := TX11) (N := 18) dX11_status_39 (by decide) rfl rfl (by decide) rfl fl_RX11_320 (fun x5 => ?_)
    exact h_iret_W dX11_status_42 rfl rfl ⟨_, rfl⟩
set_option maxRecDepth 100000 in
theorem v_X6_movesTogether_1_3_W : zs_Dd'_W MX6_movesTogether [.ref 1, .ref 3] zs_Ri := by
  refine zs_Wof_W (by decide) (Nat.le_of_ble_eq_true rfl) ?_
  show zs_W_W MX6_movesTogether 0 [(0, .ref 1), (1, .ref 3)] [] zs_Ri
  have j4 : ∀ (n4 : Nat) (v2 : Int32) (c4 : Int32), zs_mu c4 < n4 → zs_W_W MX6_movesTogether 4 [(0, .ref 1), (1, .ref 3), (2, .int v2), (3, .int c4)] [] zs_Ri := by
    intro n4
    induction n4 with
    | zero => intro v2 c4 hn4; exact absurd hn4 (Nat.not_lt_zero _)
    | succ n4 ih4 =>
      intro v2 c4 hn4
      refine h_iload_n_W dX6_movesTogether_4 rfl rfl ?_
      refine h_aload_n_W dX6_movesTogether_5 rfl rfl ?_
      refine h_getI_W 2 (C := RX6) (T := TX6) (N := 9) dX6_movesTogether_6 (by decide) rfl rfl (by decide) rfl fl_RX6_51 (fun x1 => ?_)
      refine h_ic_ge_W 29 dX6_movesTogether_9 (by decide) (fun h2 => ?_) (fun h2 => ?_)
      · refine h_iload_n_W dX6_movesTogether_29 rfl rfl ?_
        exact h_iret_W dX6_movesTogether_30 rfl rfl ⟨_, rfl⟩
      · have hd4 := zs_muA h2 hn4
        refine h_iload_n_W dX6_movesTogether_12 rfl rfl ?_
        refine h_aload_n_W dX6_movesTogether_13 rfl rfl ?_
        refine h_getR_W 5 6 (C := RX3) (T := TX3) (N := 6) dX6_movesTogether_14 (by decide) rfl rfl (by decide) rfl fl_RX6_88 ?_
        refine h_iload_n_W dX6_movesTogether_17 rfl rfl ?_
        refine h_callN_W [.ref 6, .int c4] [.int v2] (v_cell_W 6 5 c4 (by decide) rfl (by decide)) dX6_movesTogether_18 kk_X6_movesTogether_X11_cell nl_RX6_116 swX11_cell rfl rfl (Nat.le_of_ble_eq_true rfl) ?_
        rintro _ ⟨x3, rfl⟩
        refine h_iadd_W dX6_movesTogether_21 (fun x4 => ?_)
        refine h_istore_n_W (lv' := [(2, .int x4), (0, .ref 1), (1, .ref 3), (3, .int c4)]) dX6_movesTogether_22 rfl (by decide) rfl ?_
        refine h_iinc_W (v := (c4 + Int32.ofInt 1)) (lv' := [(3, .int (c4 + Int32.ofInt 1)), (2, .int x4), (0, .ref 1), (1, .ref 3)]) dX6_movesTogether_23 rfl rfl (by decide) rfl ?_
        refine h_goto_W 4 dX6_movesTogether_26 (by decide) ?_
        exact zs_Wlv_W (ih4 x4 (c4 + Int32.ofInt 1) hd4) (zs_mc 2 rfl (zs_mc 3 rfl (zs_mc 1 rfl (zs_mc 0 rfl zs_mn))))
  refine h_iconst_W (v := (nI 0)) dX6_movesTogether_0 rfl ?_
  refine h_istore_n_W (lv' := [(2, .int (nI 0)), (0, .ref 1), (1, .ref 3)]) dX6_movesTogether_1 rfl (by decide) rfl ?_
  refine h_iconst_W (v := (nI 0)) dX6_movesTogether_2 rfl ?_
  refine h_istore_n_W (lv' := [(3, .int (nI 0)), (2, .int (nI 0)), (0, .ref 1), (1, .ref 3)]) dX6_movesTogether_3 rfl (by decide) rfl ?_
  exact zs_Wlv_W (j4 _ (nI 0) (nI 0) (Nat.lt_succ_self _)) (zs_mc 2 rfl (zs_mc 3 rfl (zs_mc 1 rfl (zs_mc 0 rfl zs_mn))))
set_option maxRecDepth 100000 in
theorem v_X11_countOf_0_W (a1 : Int32) : zs_Dd'_W MX11_countOf [.ref 0, .int a1] zs_Ri := by
  refine zs_Wof_W (by decide) (Nat.le_of_ble_eq_true rfl) ?_
  show zs_W_W MX11_countOf 0 [(0, .ref 0), (1, .int a1)] [] zs_Ri
  refine h_iload_n_W dX11_countOf_0 rfl rfl ?_
  by_cases h1 : (a1 : Int32).toInt < 0 ∨ 11 < (a1 : Int32).toInt
  · refine h_tout_W 188 dX11_countOf_1 h1 (by decide) ?_
    refine h_iconst_W (v := (nI 0)) dX11_countOf_188 rfl ?_
    exact h_iret_W dX11_countOf_189 rfl rfl ⟨_, rfl⟩
  rcases (show (a1 : Int32).toInt = 0 ∨ (a1 : Int32).toInt = 1 ∨ (a1 : Int32).toInt = 2 ∨ (a1 : Int32).toInt = 3 ∨ (a1 : Int32).toInt = 4 ∨ (a1 : Int32).toInt = 5 ∨ (a1 : Int32).toInt = 6 ∨ (a1 : Int32).toInt = 7 ∨ (a1 : Int32).toInt = 8 ∨ (a1 : Int32).toInt = 9 ∨ (a1 : Int32).toInt = 10 ∨ (a1 : Int32).toInt = 11 by omega) with h1 | h1 | h1 | h1 | h1 | h1 | h1 | h1 | h1 | h1 | h1 | h1
  · refine h_tin_W (off := 63) 64 dX11_countOf_1 (by rw [h1]; decide) (by rw [h1]; decide) (by rw [h1]; rfl) (by decide) ?_
    refine h_aload_n_W dX11_countOf_64 rfl rfl ?_
    refine h_getR_W 0 1 (C := RX11) (T := TX11) (N := 18) dX11_countOf_65 (by decide) rfl rfl (by decide) rfl fl_RX11_10 ?_
    refine h_getI_W 0 (C := RX6) (T := TX6) (N := 9) dX11_countOf_68 (by decide) rfl rfl (by decide) rfl fl_RX11_210 (fun x2 => ?_)
    exact h_iret_W dX11_countOf_71 rfl rfl ⟨_, rfl⟩
  · refine h_tin_W (off := 71) 72 dX11_countOf_1 (by rw [h1]; decide) (by rw [h1]; decide) (by rw [h1]; rfl) (by decide) ?_
    refine h_aload_n_W dX11_countOf_72 rfl rfl ?_
    refine h_getR_W 0 1 (C := RX11) (T := TX11) (N := 18) dX11_countOf_73 (by decide) rfl rfl (by decide) rfl fl_RX11_10 ?_
    refine h_getI_W 1 (C := RX6) (T := TX6) (N := 9) dX11_countOf_76 (by decide) rfl rfl (by decide) rfl fl_RX11_98 (fun x3 => ?_)
    exact h_iret_W dX11_countOf_79 rfl rfl ⟨_, rfl⟩
  · refine h_tin_W (off := 79) 80 dX11_countOf_1 (by rw [h1]; decide) (by rw [h1]; decide) (by rw [h1]; rfl) (by decide) ?_
    refine h_aload_n_W dX11_countOf_80 rfl rfl ?_
    refine h_getR_W 0 1 (C := RX11) (T := TX11) (N := 18) dX11_countOf_81 (by decide) rfl rfl (by decide) rfl fl_RX11_10 ?_
    refine h_getR_W 4 3 (C := RX6) (T := TX6) (N := 9) dX11_countOf_84 (by decide) rfl rfl (by decide) rfl fl_RX11_137 ?_
    refine h_getI_W 2 (C := RX3) (T := TX3) (N := 6) dX11_countOf_87 (by decide) rfl rfl (by decide) rfl fl_RX11_153 (fun x4 => ?_)
    exact h_iret_W dX11_countOf_90 rfl rfl ⟨_, rfl⟩
  · refine h_tin_W (off := 90) 91 dX11_countOf_1 (by rw [h1]; decide) (by rw [h1]; decide) (by rw [h1]; rfl) (by decide) ?_
    refine h_aload_n_W dX11_countOf_91 rfl rfl ?_
    refine h_getR_W 0 1 (C := RX11) (T := TX11) (N := 18) dX11_countOf_92 (by decide) rfl rfl (by decide) rfl fl_RX11_10 ?_
    refine h_getR_W 4 3 (C := RX6) (T := TX6) (N := 9) dX11_countOf_95 (by decide) rfl rfl (by decide) rfl fl_RX11_137 ?_
    refine h_getI_W 0 (C := RX3) (T := TX3) (N := 6) dX11_countOf_98 (by decide) rfl rfl (by decide) rfl fl_RX11_150 (fun x5 => ?_)
    exact h_iret_W dX11_countOf_101 rfl rfl ⟨_, rfl⟩
  · refine h_tin_W (off := 101) 102 dX11_countOf_1 (by rw [h1]; decide) (by rw [h1]; decide) (by rw [h1]; rfl) (by decide) ?_
    refine h_aload_n_W dX11_countOf_102 rfl rfl ?_
    refine h_getR_W 0 1 (C := RX11) (T := TX11) (N := 18) dX11_countOf_103 (by decide) rfl rfl (by decide) rfl fl_RX11_10 ?_
    refine h_getR_W 4 3 (C := RX6) (T := TX6) (N := 9) dX11_countOf_106 (by decide) rfl rfl (by decide) rfl fl_RX11_137 ?_
    refine h_getI_W 1 (C := RX3) (T := TX3) (N := 6) dX11_countOf_109 (by decide) rfl rfl (by decide) rfl fl_RX11_140 (fun x6 => ?_)
    exact h_iret_W dX11_countOf_112 rfl rfl ⟨_, rfl⟩
  · refine h_tin_W (off := 112) 113 dX11_countOf_1 (by rw [h1]; decide) (by rw [h1]; decide) (by rw [h1]; rfl) (by decide) ?_
    refine h_aload_n_W dX11_countOf_113 rfl rfl ?_
    refine h_getR_W 0 1 (C := RX11) (T := TX11) (N := 18) dX11_countOf_114 (by decide) rfl rfl (by decide) rfl fl_RX11_10 ?_
    refine h_getI_W 2 (C := RX6) (T := TX6) (N := 9) dX11_countOf_117 (by decide) rfl rfl (by decide) rfl fl_RX11_90 (fun x7 => ?_)
    exact h_iret_W dX11_countOf_120 rfl rfl ⟨_, rfl⟩
  · refine h_tin_W (off := 120) 121 dX11_countOf_1 (by rw [h1]; decide) (by rw [h1]; decide) (by rw [h1]; rfl) (by decide) ?_
    refine h_aload_n_W dX11_countOf_121 rfl rfl ?_
    refine h_getR_W 0 1 (C := RX11) (T := TX11) (N := 18) dX11_countOf_122 (by decide) rfl rfl (by decide) rfl fl_RX11_10 ?_
    refine h_aload_n_W dX11_countOf_125 rfl rfl ?_
    refine h_getR_W 0 1 (C := RX11) (T := TX11) (N := 18) dX11_countOf_126 (by decide) rfl rfl (by decide) rfl fl_RX11_10 ?_
    refine h_getR_W 4 3 (C := RX6) (T := TX6) (N := 9) dX11_countOf_129 (by decide) rfl rfl (by decide) rfl fl_RX11_137 ?_
    refine h_callV_W (T := TX6) (NN := 9) [] (v_X6_movesTogether_1_3_W) dX11_countOf_132 kk_X11_countOf_X6_movesTogether ml_RX11_301 mwX6_movesTogether ewX6_movesTogether (by decide) rfl rfl rfl rfl (Nat.le_of_ble_eq_true rfl) ?_
    rintro _ ⟨x8, rfl⟩
    exact h_iret_W dX11_countOf_135 rfl rfl ⟨_, rfl⟩
  · refine h_tin_W (off := 135) 136 dX11_countOf_1 (by rw [h1]; decide) (by rw [h1]; decide) (by rw [h1]; rfl) (by decide) ?_
    refine h_aload_n_W dX11_countOf_136 rfl rfl ?_
    refine h_getR_W 0 1 (C := RX11) (T := TX11) (N := 18) dX11_countOf_137 (by decide) rfl rfl (by decide) rfl fl_RX11_10 ?_
    refine h_getR_W 6 9 (C := RX6) (T := TX6) (N := 9) dX11_countOf_140 (by decide) rfl rfl (by decide) rfl fl_RX11_223 ?_
    refine h_getI_W 2 (C := RX5) (T := TX5) (N := 3) dX11_countOf_143 (by decide) rfl rfl (by decide) rfl fl_RX11_348 (fun x9 => ?_)
    exact h_iret_W dX11_countOf_146 rfl rfl ⟨_, rfl⟩
  · refine h_tin_W (off := 146) 147 dX11_countOf_1 (by rw [h1]; decide) (by rw [h1]; decide) (by rw [h1]; rfl) (by decide) ?_
    refine h_aload_n_W dX11_countOf_147 rfl rfl ?_
    refine h_getR_W 0 1 (C := RX11) (T := TX11) (N := 18) dX11_countOf_148 (by decide) rfl rfl (by decide) rfl fl_RX11_10 ?_
    refine h_getR_W 7 11 (C := RX6) (T := TX6) (N := 9) dX11_countOf_151 (by decide) rfl rfl (by decide) rfl fl_RX11_248 ?_
    refine h_getI_W 2 (C := RX5) (T := TX5) (N := 3) dX11_countOf_154 (by decide) rfl rfl (by decide) rfl fl_RX11_348 (fun x10 => ?_)
    exact h_iret_W dX11_countOf_157 rfl rfl ⟨_, rfl⟩
  · refine h_tin_W (off := 157) 158 dX11_countOf_1 (by rw [h1]; decide) (by rw [h1]; decide) (by rw [h1]; rfl) (by decide) ?_
    refine h_aload_n_W dX11_countOf_158 rfl rfl ?_
    refine h_getR_W 0 1 (C := RX11) (T := TX11) (N := 18) dX11_countOf_159 (by decide) rfl rfl (by decide) rfl fl_RX11_10 ?_
    refine h_getR_W 8 13 (C := RX6) (T := TX6) (N := 9) dX11_countOf_162 (by decide) rfl rfl (by decide) rfl fl_RX11_251 ?_
    refine h_getI_W 2 (C := RX5) (T := TX5) (N := 3) dX11_countOf_165 (by decide) rfl rfl (by decide) rfl fl_RX11_348 (fun x11 => ?_)
    exact h_iret_W dX11_countOf_168 rfl rfl ⟨_, rfl⟩
  · refine h_tin_W (off := 168) 169 dX11_countOf_1 (by rw [h1]; decide) (by rw [h1]; decide) (by rw [h1]; rfl) (by decide) ?_
    refine h_aload_n_W dX11_countOf_169 rfl rfl ?_
    refine h_getR_W 0 1 (C := RX11) (T := TX11) (N := 18) dX11_countOf_170 (by decide) rfl rfl (by decide) rfl fl_RX11_10 ?_
    refine h_getR_W 5 7 (C := RX6) (T := TX6) (N := 9) dX11_countOf_173 (by decide) rfl rfl (by decide) rfl fl_RX11_101 ?_
    refine h_getI_W 1 (C := RX4) (T := TX4) (N := 2) dX11_countOf_176 (by decide) rfl rfl (by decide) rfl fl_RX11_176 (fun x12 => ?_)
    exact h_iret_W dX11_countOf_179 rfl rfl ⟨_, rfl⟩
  · refine h_tin_W (off := 179) 180 dX11_countOf_1 (by rw [h1]; decide) (by rw [h1]; decide) (by rw [h1]; rfl) (by decide) ?_
    refine h_aload_n_W dX11_countOf_180 rfl rfl ?_
    refine h_getR_W 5 43 (C := RX11) (T := TX11) (N := 18) dX11_countOf_181 (by decide) rfl rfl (by decide) rfl fl_RX11_25 ?_
    refine h_getI_W 1 (C := RX10) (T := TX10) (N := 8) dX11_countOf_184 (by decide) rfl rfl (by decide) rfl fl_RX11_384 (fun x13 => ?_)
    exact h_iret_W dX11_countOf_187 rfl rfl ⟨_, rfl⟩
set_option maxRecDepth 100000 in
theorem v_X11_count_0_W (a1 : Int32) : zs_Dd'_W MX11_count [.ref 0, .int a1] zs_Ri := by
  refine zs_Wof_W (by decide) (Nat.le_of_ble_eq_true rfl) ?_
  show zs_W_W MX11_count 0 [(0, .ref 0), (1, .int a1)] [] zs_Ri
  refine h_iload_n_W dX11_count_0 rfl rfl ?_
  refine h_iconst_W (v := (nI 0)) dX11_count_1 rfl ?_
  refine h_bipush_W (v := (nI 11)) dX11_count_2 rfl ?_
  refine h_callS_W [.int a1, .int (nI 0), .int (nI 11)] [] (v_X11_within_W a1 (nI 0) (nI 11)) dX11_count_4 kk_X11_count_X11_within ml_RX11_75 swX11_within rfl rfl (Nat.le_of_ble_eq_true rfl) ?_
  rintro _ ⟨x1, rfl, bx1⟩
  refine h_if_eq_W 18 dX11_count_7 (by decide) (fun h2 => ?_) (fun h2 => ?_)
  · refine h_aload_n_W dX11_count_18 rfl rfl ?_
    refine h_bipush_W (v := (-2)) dX11_count_19 rfl ?_
    refine h_callV_W (T := TX11) (NN := 18) [] (v_X11_refuseBad_0_W (-2)) dX11_count_21 kk_X11_count_X11_refuseBad ml_RX11_86 mwX11_refuseBad ewX11_refuseBad (by decide) rfl rfl rfl rfl (Nat.le_of_ble_eq_true rfl) ?_
    rintro _ ⟨x3, rfl⟩
    exact h_iret_W dX11_count_24 rfl rfl ⟨_, rfl⟩
  · refine h_aload_n_W dX11_count_10 rfl rfl ?_
    refine h_iload_n_W dX11_count_11 rfl rfl ?_
    refine h_callV_W (T := TX11) (NN := 18) [] (v_X11_countOf_0_W a1) dX11_count_12 kk_X11_count_X11_countOf ml_RX11_323 mwX11_countOf ewX11_countOf (by decide) rfl rfl rfl rfl (Nat.le_of_ble_eq_true rfl) ?_
    rintro _ ⟨x4, rfl⟩
    refine h_goto_W 24 dX11_count_15 (by decide) ?_
    exact h_iret_W dX11_count_24 rfl rfl ⟨_, rfl⟩
set_option maxRecDepth 100000 in
theorem v_X5_digestOnto_9_W (a1 : Int64) : zs_Dd'_W MX5_digestOnto [.ref 9, .long a1] zs_Rl := by
  refine zs_Wof_W (by decide) (Nat.le_of_ble_eq_true rfl) ?_
  show zs_W_W MX5_digestOnto 0 [(0, .ref 9), (1, .long a1)] [] zs_Rl
  have j2 : ∀ (n2 : Nat) (v1 : Int64) (c2 : Int32), zs_mu c2 < n2 → zs_W_W MX5_digestOnto 2 [(0, .ref 9), (1, .long v1), (3, .int c2)] [] zs_Rl := by
    intro n2
    induction n2 with
    | zero => intro v1 c2 hn2; exact absurd hn2 (Nat.not_lt_zero _)
    | succ n2 ih2 =>
      intro v1 c2 hn2
      have j13 : zs_mu (c2 + Int32.ofInt 1) < n2 → ∀ (n13 : Nat) (v1 : Int64) (c13 : Int32), zs_mu c13 < n13 → zs_W_W MX5_digestOnto 13 [(0, .ref 9), (1, .long v1), (3, .int c2), (4, .int c13)] [] zs_Rl := by
        intro hd2 n13
        induction n13 with
        | zero => intro v1 c13 hn13; exact absurd hn13 (Nat.not_lt_zero _)
        | succ n13 ih13 =>
          intro v1 c13 hn13
          refine h_iload_W dX5_digestOnto_13 rfl ?_
          refine h_aload_n_W dX5_digestOnto_15 rfl rfl ?_
          refine h_getI_W 0 (C := RX5) (T := TX5) (N := 3) dX5_digestOnto_16 (by decide) rfl rfl (by decide) rfl fl_RX5_15 (fun x1 => ?_)
          refine h_ic_ge_W 43 dX5_digestOnto_19 (by decide) (fun h2 => ?_) (fun h2 => ?_)
          · refine h_iinc_W (v := (c2 + Int32.ofInt 1)) (lv' := [(3, .int (c2 + Int32.ofInt 1)), (0, .ref 9), (1, .long v1), (4, .int c13)]) dX5_digestOnto_43 rfl rfl (by decide) rfl ?_
            refine h_goto_W 2 dX5_digestOnto_46 (by decide) ?_
            exact zs_Wlv_W (ih2 v1 (c2 + Int32.ofInt 1) hd2) (zs_mc 1 rfl (zs_mc 2 rfl (zs_mc 0 rfl zs_mn)))
          · have hd13 := zs_muA h2 hn13
            refine h_ldc2_W (v := 31) dX5_digestOnto_22 cl_RX5_34 ?_
            refine h_lload_n_W dX5_digestOnto_25 rfl rfl ?_
            refine h_lmul_W dX5_digestOnto_26 (fun x3 => ?_)
            refine h_aload_n_W dX5_digestOnto_27 rfl rfl ?_
            refine h_iload_n_W dX5_digestOnto_28 rfl rfl ?_
            refine h_iload_W dX5_digestOnto_29 rfl ?_
            refine h_callV_W (T := TX5) (NN := 3) [.long x3] (v_X5_value_9_W c2 c13) dX5_digestOnto_31 kk_X5_digestOnto_X5_value ml_RX5_36 mwX5_value ewX5_value (by decide) rfl rfl rfl rfl (Nat.le_of_ble_eq_true rfl) ?_
            rintro _ ⟨x4, rfl⟩
            refine h_i2l_W dX5_digestOnto_34 (fun x5 => ?_)
            refine h_ladd_W dX5_digestOnto_35 (fun x6 => ?_)
            refine h_lstore_n_W (lv' := [(1, .long x6), (0, .ref 9), (3, .int c2), (4, .int c13)]) dX5_digestOnto_36 rfl (by decide) rfl ?_
            refine h_iinc_W (v := (c13 + Int32.ofInt 1)) (lv' := [(4, .int (c13 + Int32.ofInt 1)), (1, .long x6), (0, .ref 9), (3, .int c2)]) dX5_digestOnto_37 rfl rfl (by decide) rfl ?_
            refine h_goto_W 13 dX5_digestOnto_40 (by decide) ?_
            exact zs_Wlv_W (ih13 x6 (c13 + Int32.ofInt 1) hd13) (zs_mc 2 rfl (zs_mc 1 rfl (zs_mc 3 rfl (zs_mc 0 rfl zs_mn))))
      refine h_iload_n_W dX5_digestOnto_2 rfl rfl ?_
      refine h_aload_n_W dX5_digestOnto_3 rfl rfl ?_
      refine h_getI_W 2 (C := RX5) (T := TX5) (N := 3) dX5_digestOnto_4 (by decide) rfl rfl (by decide) rfl fl_RX5_19 (fun x7 => ?_)
      refine h_ic_ge_W 49 dX5_digestOnto_7 (by decide) (fun h8 => ?_) (fun h8 => ?_)
      · refine h_lload_n_W dX5_digestOnto_49 rfl rfl ?_
        exact h_lret_W dX5_digestOnto_50 rfl ⟨_, rfl⟩
      · have hd2 := zs_muA h8 hn2
        refine h_iconst_W (v := (nI 0)) dX5_digestOnto_10 rfl ?_
        refine h_istore_W (lv' := [(4, .int (nI 0)), (0, .ref 9), (1, .long v1), (3, .int c2)]) dX5_digestOnto_11 (by decide) rfl ?_
        exact zs_Wlv_W (j13 hd2 _ v1 (nI 0) (Nat.lt_succ_self _)) (zs_mc 1 rfl (zs_mc 2 rfl (zs_mc 3 rfl (zs_mc 0 rfl zs_mn))))
  refine h_iconst_W (v := (nI 0)) dX5_digestOnto_0 rfl ?_
  refine h_istore_n_W (lv' := [(3, .int (nI 0)), (0, .ref 9), (1, .long a1)]) dX5_digestOnto_1 rfl (by decide) rfl ?_
  exact zs_Wlv_W (j2 _ a1 (nI 0) (Nat.lt_succ_self _)) (zs_mc 1 rfl (zs_mc 2 rfl (zs_mc 0 rfl zs_mn)))
set_option maxRecDepth 100000 in
theorem v_X5_digestOnto_11_W (a1 : Int64) : zs_Dd'_W MX5_digestOnto [.ref 11, .long a1] zs_Rl := by
  refine zs_Wof_W (by decide) (Nat.le_of_ble_eq_true rfl) ?_
  show zs_W_W MX5_digestOnto 0 [(0, .ref 11), (1, .long a1)] [] zs_Rl
  have j2 : ∀ (n2 : Nat) (v1 : Int64) (c2 : Int32), zs_mu c2 < n2 → zs_W_W MX5_digestOnto 2 [(0, .ref 11), (1, .long v1), (3, .int c2)] [] zs_Rl := by
    intro n2
    induction n2 with
    | zero => intro v1 c2 hn2; exact absurd hn2 (Nat.not_lt_zero _)
    | succ n2 ih2 =>
      intro v1 c2 hn2
      have j13 : zs_mu (c2 + Int32.ofInt 1) < n2 → ∀ (n13 : Nat) (v1 : Int64) (c13 : Int32), zs_mu c13 < n13 → zs_W_W MX5_digestOnto 13 [(0, .ref 11), (1, .long v1), (3, .int c2), (4, .int c13)] [] zs_Rl := by
        intro hd2 n13
        induction n13 with
        | zero => intro v1 c13 hn13; exact absurd hn13 (Nat.not_lt_zero _)
        | succ n13 ih13 =>
          intro v1 c13 hn13
          refine h_iload_W dX5_digestOnto_13 rfl ?_
          refine h_aload_n_W dX5_digestOnto_15 rfl rfl ?_
          refine h_getI_W 0 (C := RX5) (T := TX5) (N := 3) dX5_digestOnto_16 (by decide) rfl rfl (by decide) rfl fl_RX5_15 (fun x1 => ?_)
          refine h_ic_ge_W 43 dX5_digestOnto_19 (by decide) (fun h2 => ?_) (fun h2 => ?_)
          · refine h_iinc_W (v := (c2 + Int32.ofInt 1)) (lv' := [(3, .int (c2 + Int32.ofInt 1)), (0, .ref 11), (1, .long v1), (4, .int c13)]) dX5_digestOnto_43 rfl rfl (by decide) rfl ?_
            refine h_goto_W 2 dX5_digestOnto_46 (by decide) ?_
            exact zs_Wlv_W (ih2 v1 (c2 + Int32.ofInt 1) hd2) (zs_mc 1 rfl (zs_mc 2 rfl (zs_mc 0 rfl zs_mn)))
          · have hd13 := zs_muA h2 hn13
            refine h_ldc2_W (v := 31) dX5_digestOnto_22 cl_RX5_34 ?_
            refine h_lload_n_W dX5_digestOnto_25 rfl rfl ?_
            refine h_lmul_W dX5_digestOnto_26 (fun x3 => ?_)
            refine h_aload_n_W dX5_digestOnto_27 rfl rfl ?_
            refine h_iload_n_W dX5_digestOnto_28 rfl rfl ?_
            refine h_iload_W dX5_digestOnto_29 rfl ?_
            refine h_callV_W (T := TX5) (NN := 3) [.long x3] (v_X5_value_11_W c2 c13) dX5_digestOnto_31 kk_X5_digestOnto_X5_value ml_RX5_36 mwX5_value ewX5_value (by decide) rfl rfl rfl rfl (Nat.le_of_ble_eq_true rfl) ?_
            rintro _ ⟨x4, rfl⟩
            refine h_i2l_W dX5_digestOnto_34 (fun x5 => ?_)
            refine h_ladd_W dX5_digestOnto_35 (fun x6 => ?_)
            refine h_lstore_n_W (lv' := [(1, .long x6), (0, .ref 11), (3, .int c2), (4, .int c13)]) dX5_digestOnto_36 rfl (by decide) rfl ?_
            refine h_iinc_W (v := (c13 + Int32.ofInt 1)) (lv' := [(4, .int (c13 + Int32.ofInt 1)), (1, .long x6), (0, .ref 11), (3, .int c2)]) dX5_digestOnto_37 rfl rfl (by decide) rfl ?_
            refine h_goto_W 13 dX5_digestOnto_40 (by decide) ?_
            exact zs_Wlv_W (ih13 x6 (c13 + Int32.ofInt 1) hd13) (zs_mc 2 rfl (zs_mc 1 rfl (zs_mc 3 rfl (zs_mc 0 rfl zs_mn))))
      refine h_iload_n_W dX5_digestOnto_2 rfl rfl ?_
      refine h_aload_n_W dX5_digestOnto_3 rfl rfl ?_
      refine h_getI_W 2 (C := RX5) (T := TX5) (N := 3) dX5_digestOnto_4 (by decide) rfl rfl (by decide) rfl fl_RX5_19 (fun x7 => ?_)
      refine h_ic_ge_W 49 dX5_digestOnto_7 (by decide) (fun h8 => ?_) (fun h8 => ?_)
      · refine h_lload_n_W dX5_digestOnto_49 rfl rfl ?_
        exact h_lret_W dX5_digestOnto_50 rfl ⟨_, rfl⟩
      · have hd2 := zs_muA h8 hn2
        refine h_iconst_W (v := (nI 0)) dX5_digestOnto_10 rfl ?_
        refine h_istore_W (lv' := [(4, .int (nI 0)), (0, .ref 11), (1, .long v1), (3, .int c2)]) dX5_digestOnto_11 (by decide) rfl ?_
        exact zs_Wlv_W (j13 hd2 _ v1 (nI 0) (Nat.lt_succ_self _)) (zs_mc 1 rfl (zs_mc 2 rfl (zs_mc 3 rfl (zs_mc 0 rfl zs_mn))))
  refine h_iconst_W (v := (nI 0)) dX5_digestOnto_0 rfl ?_
  refine h_istore_n_W (lv' := [(3, .int (nI 0)), (0, .ref 11), (1, .long a1)]) dX5_digestOnto_1 rfl (by decide) rfl ?_
  exact zs_Wlv_W (j2 _ a1 (nI 0) (Nat.lt_succ_self _)) (zs_mc 1 rfl (zs_mc 2 rfl (zs_mc 0 rfl zs_mn)))
set_option maxRecDepth 100000 in
theorem v_X5_digestOnto_13_W (a1 : Int64) : zs_Dd'_W MX5_digestOnto [.ref 13, .long a1] zs_Rl := by
  refine zs_Wof_W (by decide) (Nat.le_of_ble_eq_true rfl) ?_
  show zs_W_W MX5_digestOnto 0 [(0, .ref 13), (1, .long a1)] [] zs_Rl
  have j2 : ∀ (n2 : Nat) (v1 : Int64) (c2 : Int32), zs_mu c2 < n2 → zs_W_W MX5_digestOnto 2 [(0, .ref 13), (1, .long v1), (3, .int c2)] [] zs_Rl := by
    intro n2
    induction n2 with
    | zero => intro v1 c2 hn2; exact absurd hn2 (Nat.not_lt_zero _)
    | succ n2 ih2 =>
      intro v1 c2 hn2
      have j13 : zs_mu (c2 + Int32.ofInt 1) < n2 → ∀ (n13 : Nat) (v1 : Int64) (c13 : Int32), zs_mu c13 < n13 → zs_W_W MX5_digestOnto 13 [(0, .ref 13), (1, .long v1), (3, .int c2), (4, .int c13)] [] zs_Rl := by
        intro hd2 n13
        induction n13 with
        | zero => intro v1 c13 hn13; exact absurd hn13 (Nat.not_lt_zero _)
        | succ n13 ih13 =>
          intro v1 c13 hn13
          refine h_iload_W dX5_digestOnto_13 rfl ?_
          refine h_aload_n_W dX5_digestOnto_15 rfl rfl ?_
          refine h_getI_W 0 (C := RX5) (T := TX5) (N := 3) dX5_digestOnto_16 (by decide) rfl rfl (by decide) rfl fl_RX5_15 (fun x1 => ?_)
          refine h_ic_ge_W 43 dX5_digestOnto_19 (by decide) (fun h2 => ?_) (fun h2 => ?_)
          · refine h_iinc_W (v := (c2 + Int32.ofInt 1)) (lv' := [(3, .int (c2 + Int32.ofInt 1)), (0, .ref 13), (1, .long v1), (4, .int c13)]) dX5_digestOnto_43 rfl rfl (by decide) rfl ?_
            refine h_goto_W 2 dX5_digestOnto_46 (by decide) ?_
            exact zs_Wlv_W (ih2 v1 (c2 + Int32.ofInt 1) hd2) (zs_mc 1 rfl (zs_mc 2 rfl (zs_mc 0 rfl zs_mn)))
          · have hd13 := zs_muA h2 hn13
            refine h_ldc2_W (v := 31) dX5_digestOnto_22 cl_RX5_34 ?_
            refine h_lload_n_W dX5_digestOnto_25 rfl rfl ?_
            refine h_lmul_W dX5_digestOnto_26 (fun x3 => ?_)
            refine h_aload_n_W dX5_digestOnto_27 rfl rfl ?_
            refine h_iload_n_W dX5_digestOnto_28 rfl rfl ?_
            refine h_iload_W dX5_digestOnto_29 rfl ?_
            refine h_callV_W (T := TX5) (NN := 3) [.long x3] (v_X5_value_13_W c2 c13) dX5_digestOnto_31 kk_X5_digestOnto_X5_value ml_RX5_36 mwX5_value ewX5_value (by decide) rfl rfl rfl rfl (Nat.le_of_ble_eq_true rfl) ?_
            rintro _ ⟨x4, rfl⟩
            refine h_i2l_W dX5_digestOnto_34 (fun x5 => ?_)
            refine h_ladd_W dX5_digestOnto_35 (fun x6 => ?_)
            refine h_lstore_n_W (lv' := [(1, .long x6), (0, .ref 13), (3, .int c2), (4, .int c13)]) dX5_digestOnto_36 rfl (by decide) rfl ?_
            refine h_iinc_W (v := (c13 + Int32.ofInt 1)) (lv' := [(4, .int (c13 + Int32.ofInt 1)), (1, .long x6), (0, .ref 13), (3, .int c2)]) dX5_digestOnto_37 rfl rfl (by decide) rfl ?_
            refine h_goto_W 13 dX5_digestOnto_40 (by decide) ?_
            exact zs_Wlv_W (ih13 x6 (c13 + Int32.ofInt 1) hd13) (zs_mc 2 rfl (zs_mc 1 rfl (zs_mc 3 rfl (zs_mc 0 rfl zs_mn))))
      refine h_iload_n_W dX5_digestOnto_2 rfl rfl ?_
      refine h_aload_n_W dX5_digestOnto_3 rfl rfl ?_
      refine h_getI_W 2 (C := RX5) (T := TX5) (N := 3) dX5_digestOnto_4 (by decide) rfl rfl (by decide) rfl fl_RX5_19 (fun x7 => ?_)
      refine h_ic_ge_W 49 dX5_digestOnto_7 (by decide) (fun h8 => ?_) (fun h8 => ?_)
      · refine h_lload_n_W dX5_digestOnto_49 rfl rfl ?_
        exact h_lret_W dX5_digestOnto_50 rfl ⟨_, rfl⟩
      · have hd2 := zs_muA h8 hn2
        refine h_iconst_W (v := (nI 0)) dX5_digestOnto_10 rfl ?_
        refine h_istore_W (lv' := [(4, .int (nI 0)), (0, .ref 13), (1, .long v1), (3, .int c2)]) dX5_digestOnto_11 (by decide) rfl ?_
        exact zs_Wlv_W (j13 hd2 _ v1 (nI 0) (Nat.lt_succ_self _)) (zs_mc 1 rfl (zs_mc 2 rfl (zs_mc 3 rfl (zs_mc 0 rfl zs_mn))))
  refine h_iconst_W (v := (nI 0)) dX5_digestOnto_0 rfl ?_
  refine h_istore_n_W (lv' := [(3, .int (nI 0)), (0, .ref 13), (1, .long a1)]) dX5_digestOnto_1 rfl (by decide) rfl ?_
  exact zs_Wlv_W (j2 _ a1 (nI 0) (Nat.lt_succ_self _)) (zs_mc 1 rfl (zs_mc 2 rfl (zs_mc 0 rfl zs_mn)))
set_option maxRecDepth 100000 in
theorem v_X11_digest_0_W : zs_Dd'_W MX11_digest [.ref 0] zs_Rl := by
  refine zs_Wof_W (by decide) (Nat.le_of_ble_eq_true rfl) ?_
  show zs_W_W MX11_digest 0 [(0, .ref 0)] [] zs_Rl
  have j74 : ∀ (n74 : Nat) (v1 : Int64) (c74 : Int32), zs_mu c74 < n74 → zs_W_W MX11_digest 74 [(0, .ref 0), (1, .long v1), (3, .int c74)] [] zs_Rl := by
    intro n74
    induction n74 with
    | zero => intro v1 c74 hn74; exact absurd hn74 (Nat.not_lt_zero _)
    | succ n74 ih74 =>
      intro v1 c74 hn74
      refine h_iload_n_W dX11_digest_74 rfl rfl ?_
      refine h_aload_n_W dX11_digest_75 rfl rfl ?_
      refine h_getR_W 0 1 (C := RX11) (T := TX11) (N := 18) dX11_digest_76 (by decide) rfl rfl (by decide) rfl fl_RX11_10 ?_
      refine h_getI_W 2 (C := RX6) (T := TX6) (N := 9) dX11_digest_79 (by decide) rfl rfl (by decide) rfl fl_RX11_90 (fun x1 => ?_)
      refine h_ic_ge_W 154 dX11_digest_82 (by decide) (fun h2 => ?_) (fun h2 => ?_)
      · refine h_aload_n_W dX11_digest_154 rfl rfl ?_
        refine h_getR_W 0 1 (C := RX11) (T := TX11) (N := 18) dX11_digest_155 (by decide) rfl rfl (by decide) rfl fl_RX11_10 ?_
        refine h_getR_W 6 9 (C := RX6) (T := TX6) (N := 9) dX11_digest_158 (by decide) rfl rfl (by decide) rfl fl_RX11_223 ?_
        refine h_lload_n_W dX11_digest_161 rfl rfl ?_
        refine h_callV_W (T := TX5) (NN := 3) [] (v_X5_digestOnto_9_W v1) dX11_digest_162 kk_X11_digest_X5_digestOnto ml_RX11_330 mwX5_digestOnto ewX5_digestOnto (by decide) rfl rfl rfl rfl (Nat.le_of_ble_eq_true rfl) ?_
        rintro _ ⟨x3, rfl⟩
        refine h_lstore_n_W (lv' := [(1, .long x3), (0, .ref 0), (3, .int c74)]) dX11_digest_165 rfl (by decide) rfl ?_
        refine h_aload_n_W dX11_digest_166 rfl rfl ?_
        refine h_getR_W 0 1 (C := RX11) (T := TX11) (N := 18) dX11_digest_167 (by decide) rfl rfl (by decide) rfl fl_RX11_10 ?_
        refine h_getR_W 7 11 (C := RX6) (T := TX6) (N := 9) dX11_digest_170 (by decide) rfl rfl (by decide) rfl fl_RX11_248 ?_
        refine h_lload_n_W dX11_digest_173 rfl rfl ?_
        refine h_callV_W (T := TX5) (NN := 3) [] (v_X5_digestOnto_11_W x3) dX11_digest_174 kk_X11_digest_X5_digestOnto ml_RX11_330 mwX5_digestOnto ewX5_digestOnto (by decide) rfl rfl rfl rfl (Nat.le_of_ble_eq_true rfl) ?_
        rintro _ ⟨x4, rfl⟩
        refine h_lstore_n_W (lv' := [(1, .long x4), (0, .ref 0), (3, .int c74)]) dX11_digest_177 rfl (by decide) rfl ?_
        refine h_aload_n_W dX11_digest_178 rfl rfl ?_
        refine h_getR_W 0 1 (C := RX11) (T := TX11) (N := 18) dX11_digest_179 (by decide) rfl rfl (by decide) rfl fl_RX11_10 ?_
        refine h_getR_W 8 13 (C := RX6) (T := TX6) (N := 9) dX11_digest_182 (by decide) rfl rfl (by decide) rfl fl_RX11_251 ?_
        refine h_lload_n_W dX11_digest_185 rfl rfl ?_
        refine h_callV_W (T := TX5) (NN := 3) [] (v_X5_digestOnto_13_W x4) dX11_digest_186 kk_X11_digest_X5_digestOnto ml_RX11_330 mwX5_digestOnto ewX5_digestOnto (by decide) rfl rfl rfl rfl (Nat.le_of_ble_eq_true rfl) ?_
        rintro _ ⟨x5, rfl⟩
        refine h_lstore_n_W (lv' := [(1, .long x5), (0, .ref 0), (3, .int c74)]) dX11_digest_189 rfl (by decide) rfl ?_
        refine h_ldc2_W (v := 31) dX11_digest_190 cl_RX11_328 ?_
        refine h_lload_n_W dX11_digest_193 rfl rfl ?_
        refine h_lmul_W dX11_digest_194 (fun x6 => ?_)
        refine h_aload_n_W dX11_digest_195 rfl rfl ?_
        refine h_getL_W 6 (C := RX11) (T := TX11) (N := 18) dX11_digest_196 (by decide) rfl rfl (by decide) rfl fl_RX11_304 (fun x7 => ?_)
        refine h_ladd_W dX11_digest_199 (fun x8 => ?_)
        refine h_lstore_n_W (lv' := [(1, .long x8), (0, .ref 0), (3, .int c74)]) dX11_digest_200 rfl (by decide) rfl ?_
        refine h_ldc2_W (v := 31) dX11_digest_201 cl_RX11_328 ?_
        refine h_lload_n_W dX11_digest_204 rfl rfl ?_
        refine h_lmul_W dX11_digest_205 (fun x9 => ?_)
        refine h_aload_n_W dX11_digest_206 rfl rfl ?_
        refine h_getL_W 7 (C := RX11) (T := TX11) (N := 18) dX11_digest_207 (by decide) rfl rfl (by decide) rfl fl_RX11_29 (fun x10 => ?_)
        refine h_ladd_W dX11_digest_210 (fun x11 => ?_)
        exact h_lret_W dX11_digest_211 rfl ⟨_, rfl⟩
      · have hd74 := zs_muA h2 hn74
        refine h_ldc2_W (v := 31) dX11_digest_85 cl_RX11_328 ?_
        refine h_lload_n_W dX11_digest_88 rfl rfl ?_
        refine h_lmul_W dX11_digest_89 (fun x12 => ?_)
        refine h_aload_n_W dX11_digest_90 rfl rfl ?_
        refine h_getR_W 0 1 (C := RX11) (T := TX11) (N := 18) dX11_digest_91 (by decide) rfl rfl (by decide) rfl fl_RX11_10 ?_
        refine h_getR_W 3 2 (C := RX6) (T := TX6) (N := 9) dX11_digest_94 (by decide) rfl rfl (by decide) rfl fl_RX11_185 ?_
        refine h_iload_n_W dX11_digest_97 rfl rfl ?_
        refine h_callS_W [.ref 2, .int c74] [.long x12] (v_cell_W 2 5 c74 (by decide) rfl (by decide)) dX11_digest_98 kk_X11_digest_X11_cell ml_RX11_168 swX11_cell rfl rfl (Nat.le_of_ble_eq_true rfl) ?_
        rintro _ ⟨x13, rfl⟩
        refine h_i2l_W dX11_digest_101 (fun x14 => ?_)
        refine h_ladd_W dX11_digest_102 (fun x15 => ?_)
        refine h_lstore_n_W (lv' := [(1, .long x15), (0, .ref 0), (3, .int c74)]) dX11_digest_103 rfl (by decide) rfl ?_
        refine h_ldc2_W (v := 31) dX11_digest_104 cl_RX11_328 ?_
        refine h_lload_n_W dX11_digest_107 rfl rfl ?_
        refine h_lmul_W dX11_digest_108 (fun x16 => ?_)
        refine h_aload_n_W dX11_digest_109 rfl rfl ?_
        refine h_getR_W 0 1 (C := RX11) (T := TX11) (N := 18) dX11_digest_110 (by decide) rfl rfl (by decide) rfl fl_RX11_10 ?_
        refine h_getR_W 4 3 (C := RX6) (T := TX6) (N := 9) dX11_digest_113 (by decide) rfl rfl (by decide) rfl fl_RX11_137 ?_
        refine h_getR_W 4 5 (C := RX3) (T := TX3) (N := 6) dX11_digest_116 (by decide) rfl rfl (by decide) rfl fl_RX11_188 ?_
        refine h_iload_n_W dX11_digest_119 rfl rfl ?_
        refine h_callS_W [.ref 5, .int c74] [.long x16] (v_cell_W 5 5 c74 (by decide) rfl (by decide)) dX11_digest_120 kk_X11_digest_X11_cell ml_RX11_168 swX11_cell rfl rfl (Nat.le_of_ble_eq_true rfl) ?_
        rintro _ ⟨x17, rfl⟩
        refine h_i2l_W dX11_digest_123 (fun x18 => ?_)
        refine h_ladd_W dX11_digest_124 (fun x19 => ?_)
        refine h_lstore_n_W (lv' := [(1, .long x19), (0, .ref 0), (3, .int c74)]) dX11_digest_125 rfl (by decide) rfl ?_
        refine h_ldc2_W (v := 31) dX11_digest_126 cl_RX11_328 ?_
        refine h_lload_n_W dX11_digest_129 rfl rfl ?_
        refine h_lmul_W dX11_digest_130 (fun x20 => ?_)
        refine h_aload_n_W dX11_digest_131 rfl rfl ?_
        refine h_getR_W 0 1 (C := RX11) (T := TX11) (N := 18) dX11_digest_132 (by decide) rfl rfl (by decide) rfl fl_RX11_10 ?_
        refine h_getR_W 4 3 (C := RX6) (T := TX6) (N := 9) dX11_digest_135 (by decide) rfl rfl (by decide) rfl fl_RX11_137 ?_
        refine h_getR_W 5 6 (C := RX3) (T := TX3) (N := 6) dX11_digest_138 (by decide) rfl rfl (by decide) rfl fl_RX11_191 ?_
        refine h_iload_n_W dX11_digest_141 rfl rfl ?_
        refine h_callS_W [.ref 6, .int c74] [.long x20] (v_cell_W 6 5 c74 (by decide) rfl (by decide)) dX11_digest_142 kk_X11_digest_X11_cell ml_RX11_168 swX11_cell rfl rfl (Nat.le_of_ble_eq_true rfl) ?_
        rintro _ ⟨x21, rfl⟩
        refine h_i2l_W dX11_digest_145 (fun x22 => ?_)
        refine h_ladd_W dX11_digest_146 (fun x23 => ?_)
        refine h_lstore_n_W (lv' := [(1, .long x23), (0, .ref 0), (3, .int c74)]) dX11_digest_147 rfl (by decide) rfl ?_
        refine h_iinc_W (v := (c74 + Int32.ofInt 1)) (lv' := [(3, .int (c74 + Int32.ofInt 1)), (1, .long x23), (0, .ref 0)]) dX11_digest_148 rfl rfl (by decide) rfl ?_
        refine h_goto_W 74 dX11_digest_151 (by decide) ?_
        exact zs_Wlv_W (ih74 x23 (c74 + Int32.ofInt 1) hd74) (zs_mc 2 rfl (zs_mc 1 rfl (zs_mc 0 rfl zs_mn)))
  have j33 : ∀ (n33 : Nat) (v1 : Int64) (c33 : Int32), zs_mu c33 < n33 → zs_W_W MX11_digest 33 [(0, .ref 0), (1, .long v1), (3, .int c33)] [] zs_Rl := by
    intro n33
    induction n33 with
    | zero => intro v1 c33 hn33; exact absurd hn33 (Nat.not_lt_zero _)
    | succ n33 ih33 =>
      intro v1 c33 hn33
      refine h_iload_n_W dX11_digest_33 rfl rfl ?_
      refine h_aload_n_W dX11_digest_34 rfl rfl ?_
      refine h_getR_W 0 1 (C := RX11) (T := TX11) (N := 18) dX11_digest_35 (by decide) rfl rfl (by decide) rfl fl_RX11_10 ?_
      refine h_getI_W 0 (C := RX6) (T := TX6) (N := 9) dX11_digest_38 (by decide) rfl rfl (by decide) rfl fl_RX11_210 (fun x24 => ?_)
      refine h_ic_ge_W 72 dX11_digest_41 (by decide) (fun h25 => ?_) (fun h25 => ?_)
      · refine h_iconst_W (v := (nI 0)) dX11_digest_72 rfl ?_
        refine h_istore_n_W (lv' := [(3, .int (nI 0)), (0, .ref 0), (1, .long v1)]) dX11_digest_73 rfl (by decide) rfl ?_
        exact zs_Wlv_W (j74 _ v1 (nI 0) (Nat.lt_succ_self _)) (zs_mc 1 rfl (zs_mc 2 rfl (zs_mc 0 rfl zs_mn)))
      · have hd33 := zs_muA h25 hn33
        refine h_ldc2_W (v := 31) dX11_digest_44 cl_RX11_328 ?_
        refine h_lload_n_W dX11_digest_47 rfl rfl ?_
        refine h_lmul_W dX11_digest_48 (fun x26 => ?_)
        refine h_aload_n_W dX11_digest_49 rfl rfl ?_
        refine h_getR_W 0 1 (C := RX11) (T := TX11) (N := 18) dX11_digest_50 (by decide) rfl rfl (by decide) rfl fl_RX11_10 ?_
        refine h_getR_W 4 3 (C := RX6) (T := TX6) (N := 9) dX11_digest_53 (by decide) rfl rfl (by decide) rfl fl_RX11_137 ?_
        refine h_getR_W 3 4 (C := RX3) (T := TX3) (N := 6) dX11_digest_56 (by decide) rfl rfl (by decide) rfl fl_RX11_165 ?_
        refine h_iload_n_W dX11_digest_59 rfl rfl ?_
        refine h_callS_W [.ref 4, .int c33] [.long x26] (v_cell_W 4 12 c33 (by decide) rfl (by decide)) dX11_digest_60 kk_X11_digest_X11_cell ml_RX11_168 swX11_cell rfl rfl (Nat.le_of_ble_eq_true rfl) ?_
        rintro _ ⟨x27, rfl⟩
        refine h_i2l_W dX11_digest_63 (fun x28 => ?_)
        refine h_ladd_W dX11_digest_64 (fun x29 => ?_)
        refine h_lstore_n_W (lv' := [(1, .long x29), (0, .ref 0), (3, .int c33)]) dX11_digest_65 rfl (by decide) rfl ?_
        refine h_iinc_W (v := (c33 + Int32.ofInt 1)) (lv' := [(3, .int (c33 + Int32.ofInt 1)), (1, .long x29), (0, .ref 0)]) dX11_digest_66 rfl rfl (by decide) rfl ?_
        refine h_goto_W 33 dX11_digest_69 (by decide) ?_
        exact zs_Wlv_W (ih33 x29 (c33 + Int32.ofInt 1) hd33) (zs_mc 2 rfl (zs_mc 1 rfl (zs_mc 0 rfl zs_mn)))
  have j6 : ∀ (n6 : Nat) (v1 : Int64) (c6 : Int32), zs_mu c6 < n6 → zs_W_W MX11_digest 6 [(0, .ref 0), (1, .long v1), (3, .int c6)] [] zs_Rl := by
    intro n6
    induction n6 with
    | zero => intro v1 c6 hn6; exact absurd hn6 (Nat.not_lt_zero _)
    | succ n6 ih6 =>
      intro v1 c6 hn6
      refine h_iload_n_W dX11_digest_6 rfl rfl ?_
      refine h_bipush_W (v := (nI 12)) dX11_digest_7 rfl ?_
      refine h_ic_ge_W 31 dX11_digest_9 (by decide) (fun h30 => ?_) (fun h30 => ?_)
      · refine h_iconst_W (v := (nI 0)) dX11_digest_31 rfl ?_
        refine h_istore_n_W (lv' := [(3, .int (nI 0)), (0, .ref 0), (1, .long v1)]) dX11_digest_32 rfl (by decide) rfl ?_
        exact zs_Wlv_W (j33 _ v1 (nI 0) (Nat.lt_succ_self _)) (zs_mc 1 rfl (zs_mc 2 rfl (zs_mc 0 rfl zs_mn)))
      · have hd6 := zs_muA h30 hn6
        refine h_ldc2_W (v := 31) dX11_digest_12 cl_RX11_328 ?_
        refine h_lload_n_W dX11_digest_15 rfl rfl ?_
        refine h_lmul_W dX11_digest_16 (fun x31 => ?_)
        refine h_aload_n_W dX11_digest_17 rfl rfl ?_
        refine h_iload_n_W dX11_digest_18 rfl rfl ?_
        refine h_callV_W (T := TX11) (NN := 18) [.long x31] (v_X11_countOf_0_W c6) dX11_digest_19 kk_X11_digest_X11_countOf ml_RX11_323 mwX11_countOf ewX11_countOf (by decide) rfl rfl rfl rfl (Nat.le_of_ble_eq_true rfl) ?_
        rintro _ ⟨x32, rfl⟩
        refine h_i2l_W dX11_digest_22 (fun x33 => ?_)
        refine h_ladd_W dX11_digest_23 (fun x34 => ?_)
        refine h_lstore_n_W (lv' := [(1, .long x34), (0, .ref 0), (3, .int c6)]) dX11_digest_24 rfl (by decide) rfl ?_
        refine h_iinc_W (v := (c6 + Int32.ofInt 1)) (lv' := [(3, .int (c6 + Int32.ofInt 1)), (1, .long x34), (0, .ref 0)]) dX11_digest_25 rfl rfl (by decide) rfl ?_
        refine h_goto_W 6 dX11_digest_28 (by decide) ?_
        exact zs_Wlv_W (ih6 x34 (c6 + Int32.ofInt 1) hd6) (zs_mc 2 rfl (zs_mc 1 rfl (zs_mc 0 rfl zs_mn)))
  refine h_ldc2_W (v := 1787) dX11_digest_0 cl_RX11_326 ?_
  refine h_lstore_n_W (lv' := [(1, .long 1787), (0, .ref 0)]) dX11_digest_3 rfl (by decide) rfl ?_
  refine h_iconst_W (v := (nI 0)) dX11_digest_4 rfl ?_
  refine h_istore_n_W (lv' := [(3, .int (nI 0)), (1, .long 1787), (0, .ref 0)]) dX11_digest_5 rfl (by decide) rfl ?_
  exact zs_Wlv_W (j6 _ 1787 (nI 0) (Nat.lt_succ_self _)) (zs_mc 2 rfl (zs_mc 1 rfl (zs_mc 0 rfl zs_mn)))
set_option maxRecDepth 100000 in
theorem v_X3_become_3_17_W : zs_Dd'_W MX3_become [.ref 3, .ref 17] zs_Rv := by
  refine zs_Wof_W (by decide) (Nat.le_of_ble_eq_true rfl) ?_
  show zs_W_W MX3_become 0 [(0, .ref 3), (1, .ref 17)] [] zs_Rv
  refine h_aload_n_W dX3_become_0 rfl rfl ?_
  refine h_aload_n_W dX3_become_1 rfl rfl ?_
  refine h_getI_W 0 (C := RX3) (T := TX3) (N := 6) dX3_become_2 (by decide) rfl rfl (by decide) rfl fl_RX3_25 (fun x1 => ?_)
  refine h_putI_W 0 (C := RX3) (T := TX3) (N := 6) (ty := .int) dX3_become_5 (by decide) rfl rfl (by decide) rfl fl_RX3_25 rfl (by decide +kernel) ⟨rfl, rfl⟩ rfl ?_
  refine h_aload_n_W dX3_become_8 rfl rfl ?_
  refine h_aload_n_W dX3_become_9 rfl rfl ?_
  refine h_getI_W 1 (C := RX3) (T := TX3) (N := 6) dX3_become_10 (by decide) rfl rfl (by decide) rfl fl_RX3_28 (fun x2 => ?_)
  refine h_putI_W 1 (C := RX3) (T := TX3) (N := 6) (ty := .int) dX3_become_13 (by decide) rfl rfl (by decide) rfl fl_RX3_28 rfl (by decide +kernel) ⟨rfl, rfl⟩ rfl ?_
  refine h_aload_n_W dX3_become_16 rfl rfl ?_
  refine h_aload_n_W dX3_become_17 rfl rfl ?_
  refine h_getI_W 2 (C := RX3) (T := TX3) (N := 6) dX3_become_18 (by decide) rfl rfl (by decide) rfl fl_RX3_9 (fun x3 => ?_)
  refine h_putI_W 2 (C := RX3) (T := TX3) (N := 6) (ty := .int) dX3_become_21 (by decide) rfl rfl (by decide) rfl fl_RX3_9 rfl (by decide +kernel) ⟨rfl, rfl⟩ rfl ?_
  refine h_aload_n_W dX3_become_24 rfl rfl ?_
  refine h_getR_W 3 18 (C := RX3) (T := TX3) (N := 6) dX3_become_25 (by decide) rfl rfl (by decide) rfl fl_RX3_15 ?_
  refine h_aload_n_W dX3_become_28 rfl rfl ?_
  refine h_getR_W 3 4 (C := RX3) (T := TX3) (N := 6) dX3_become_29 (by decide) rfl rfl (by decide) rfl fl_RX3_15 ?_
  refine h_callN_W [.ref 18, .ref 4] [] (v_copyRow_W 18 4 12 (by decide) rfl (by decide) rfl (by decide) (by decide) ⟨by decide, by decide, by decide⟩) dX3_become_32 kk_X3_become_X11_copyRow nl_RX3_35 swX11_copyRow rfl rfl (Nat.le_of_ble_eq_true rfl) ?_
  rintro _ rfl
  refine h_aload_n_W dX3_become_35 rfl rfl ?_
  refine h_getR_W 4 19 (C := RX3) (T := TX3) (N := 6) dX3_become_36 (by decide) rfl rfl (by decide) rfl fl_RX3_19 ?_
  refine h_aload_n_W dX3_become_39 rfl rfl ?_
  refine h_getR_W 4 5 (C := RX3) (T := TX3) (N := 6) dX3_become_40 (by decide) rfl rfl (by decide) rfl fl_RX3_19 ?_
  refine h_callN_W [.ref 19, .ref 5] [] (v_copyRow_W 19 5 5 (by decide) rfl (by decide) rfl (by decide) (by decide) ⟨by decide, by decide, by decide⟩) dX3_become_43 kk_X3_become_X11_copyRow nl_RX3_35 swX11_copyRow rfl rfl (Nat.le_of_ble_eq_true rfl) ?_
  rintro _ rfl
  refine h_aload_n_W dX3_become_46 rfl rfl ?_
  refine h_getR_W 5 20 (C := RX3) (T := TX3) (N := 6) dX3_become_47 (by decide) rfl rfl (by decide) rfl fl_RX3_22 ?_
  refine h_aload_n_W dX3_become_50 rfl rfl ?_
  refine h_getR_W 5 6 (C := RX3) (T := TX3) (N := 6) dX3_become_51 (by decide) rfl rfl (by decide) rfl fl_RX3_22 ?_
  refine h_callN_W [.ref 20, .ref 6] [] (v_copyRow_W 20 6 5 (by decide) rfl (by decide) rfl (by decide) (by decide) ⟨by decide, by decide, by decide⟩) dX3_become_54 kk_X3_become_X11_copyRow nl_RX3_35 swX11_copyRow rfl rfl (Nat.le_of_ble_eq_true rfl) ?_
  rintro _ rfl
  exact h_ret_W dX3_become_57 rfl rfl
set_option maxRecDepth 100000 in
theorem v_X4_become_7_21_W : zs_Dd'_W MX4_become [.ref 7, .ref 21] zs_Rv := by
  refine zs_Wof_W (by decide) (Nat.le_of_ble_eq_true rfl) ?_
  show zs_W_W MX4_become 0 [(0, .ref 7), (1, .ref 21)] [] zs_Rv
  refine h_aload_n_W dX4_become_0 rfl rfl ?_
  refine h_getR_W 0 22 (C := RX4) (T := TX4) (N := 2) dX4_become_1 (by decide) rfl rfl (by decide) rfl fl_RX4_11 ?_
  refine h_aload_n_W dX4_become_4 rfl rfl ?_
  refine h_getR_W 0 8 (C := RX4) (T := TX4) (N := 2) dX4_become_5 (by decide) rfl rfl (by decide) rfl fl_RX4_11 ?_
  refine h_callN_W [.ref 22, .ref 8] [] (v_copyRow_W 22 8 200 (by decide) rfl (by decide) rfl (by decide) (by decide) ⟨by decide, by decide, by decide⟩) dX4_become_8 kk_X4_become_X11_copyRow nl_RX4_31 swX11_copyRow rfl rfl (Nat.le_of_ble_eq_true rfl) ?_
  rintro _ rfl
  refine h_aload_n_W dX4_become_11 rfl rfl ?_
  refine h_aload_n_W dX4_become_12 rfl rfl ?_
  refine h_getI_W 1 (C := RX4) (T := TX4) (N := 2) dX4_become_13 (by decide) rfl rfl (by decide) rfl fl_RX4_17 (fun x1 => ?_)
  refine h_putI_W 1 (C := RX4) (T := TX4) (N := 2) (ty := .int) dX4_become_16 (by decide) rfl rfl (by decide) rfl fl_RX4_17 rfl (by decide +kernel) ⟨rfl, rfl⟩ rfl ?_
  exact h_ret_W dX4_become_19 rfl rfl
set_option maxRecDepth 100000 in
theorem v_X3_become_3_31_W : zs_Dd'_W MX3_become [.ref 3, .ref 31] zs_Rv := by
  refine zs_Wof_W (by decide) (Nat.le_of_ble_eq_true rfl) ?_
  show zs_W_W MX3_become 0 [(0, .ref 3), (1, .ref 31)] [] zs_Rv
  refine h_aload_n_W dX3_become_0 rfl rfl ?_
  refine h_aload_n_W dX3_become_1 rfl rfl ?_
  refine h_getI_W 0 (C := RX3) (T := TX3) (N := 6) dX3_become_2 (by decide) rfl rfl (by decide) rfl fl_RX3_25 (fun x1 => ?_)
  refine h_putI_W 0 (C := RX3) (T := TX3) (N := 6) (ty := .int) dX3_become_5 (by decide) rfl rfl (by decide) rfl fl_RX3_25 rfl (by decide +kernel) ⟨rfl, rfl⟩ rfl ?_
  refine h_aload_n_W dX3_become_8 rfl rfl ?_
  refine h_aload_n_W dX3_become_9 rfl rfl ?_
  refine h_getI_W 1 (C := RX3) (T := TX3) (N := 6) dX3_become_10 (by decide) rfl rfl (by decide) rfl fl_RX3_28 (fun x2 => ?_)
  refine h_putI_W 1 (C := RX3) (T := TX3) (N := 6) (ty := .int) dX3_become_13 (by decide) rfl rfl (by decide) rfl fl_RX3_28 rfl (by decide +kernel) ⟨rfl, rfl⟩ rfl ?_
  refine h_aload_n_W dX3_become_16 rfl rfl ?_
  refine h_aload_n_W dX3_become_17 rfl rfl ?_
  refine h_getI_W 2 (C := RX3) (T := TX3) (N := 6) dX3_become_18 (by decide) rfl rfl (by decide) rfl fl_RX3_9 (fun x3 => ?_)
  refine h_putI_W 2 (C := RX3) (T := TX3) (N := 6) (ty := .int) dX3_become_21 (by decide) rfl rfl (by decide) rfl fl_RX3_9 rfl (by decide +kernel) ⟨rfl, rfl⟩ rfl ?_
  refine h_aload_n_W dX3_become_24 rfl rfl ?_
  refine h_getR_W 3 32 (C := RX3) (T := TX3) (N := 6) dX3_become_25 (by decide) rfl rfl (by decide) rfl fl_RX3_15 ?_
  refine h_aload_n_W dX3_become_28 rfl rfl ?_
  refine h_getR_W 3 4 (C := RX3) (T := TX3) (N := 6) dX3_become_29 (by decide) rfl rfl (by decide) rfl fl_RX3_15 ?_
  refine h_callN_W [.ref 32, .ref 4] [] (v_copyRow_W 32 4 12 (by decide) rfl (by decide) rfl (by decide) (by decide) ⟨by decide, by decide, by decide⟩) dX3_become_32 kk_X3_become_X11_copyRow nl_RX3_35 swX11_copyRow rfl rfl (Nat.le_of_ble_eq_true rfl) ?_
  rintro _ rfl
  refine h_aload_n_W dX3_become_35 rfl rfl ?_
  refine h_getR_W 4 33 (C := RX3) (T := TX3) (N := 6) dX3_become_36 (by decide) rfl rfl (by decide) rfl fl_RX3_19 ?_
  refine h_aload_n_W dX3_become_39 rfl rfl ?_
  refine h_getR_W 4 5 (C := RX3) (T := TX3) (N := 6) dX3_become_40 (by decide) rfl rfl (by decide) rfl fl_RX3_19 ?_
  refine h_callN_W [.ref 33, .ref 5] [] (v_copyRow_W 33 5 5 (by decide) rfl (by decide) rfl (by decide) (by decide) ⟨by decide, by decide, by decide⟩) dX3_become_43 kk_X3_become_X11_copyRow nl_RX3_35 swX11_copyRow rfl rfl (Nat.le_of_ble_eq_true rfl) ?_
  rintro _ rfl
  refine h_aload_n_W dX3_become_46 rfl rfl ?_
  refine h_getR_W 5 34 (C := RX3) (T := TX3) (N := 6) dX3_become_47 (by decide) rfl rfl (by decide) rfl fl_RX3_22 ?_
  refine h_aload_n_W dX3_become_50 rfl rfl ?_
  refine h_getR_W 5 6 (C := RX3) (T := TX3) (N := 6) dX3_become_51 (by decide) rfl rfl (by decide) rfl fl_RX3_22 ?_
  refine h_callN_W [.ref 34, .ref 6] [] (v_copyRow_W 34 6 5 (by decide) rfl (by decide) rfl (by decide) (by decide) ⟨by decide, by decide, by decide⟩) dX3_become_54 kk_X3_become_X11_copyRow nl_RX3_35 swX11_copyRow rfl rfl (Nat.le_of_ble_eq_true rfl) ?_
  rintro _ rfl
  exact h_ret_W dX3_become_57 rfl rfl
set_option maxRecDepth 100000 in
theorem v_X4_become_7_35_W : zs_Dd'_W MX4_become [.ref 7, .ref 35] zs_Rv := by
  refine zs_Wof_W (by decide) (Nat.le_of_ble_eq_true rfl) ?_
  show zs_W_W MX4_become 0 [(0, .ref 7), (1, .ref 35)] [] zs_Rv
  refine h_aload_n_W dX4_become_0 rfl rfl ?_
  refine h_getR_W 0 36 (C := RX4) (T := TX4) (N := 2) dX4_become_1 (by decide) rfl rfl (by decide) rfl fl_RX4_11 ?_
  refine h_aload_n_W dX4_become_4 rfl rfl ?_
  refine h_getR_W 0 8 (C := RX4) (T := TX4) (N := 2) dX4_become_5 (by decide) rfl rfl (by decide) rfl fl_RX4_11 ?_
  refine h_callN_W [.ref 36, .ref 8] [] (v_copyRow_W 36 8 200 (by decide) rfl (by decide) rfl (by decide) (by decide) ⟨by decide, by decide, by decide⟩) dX4_become_8 kk_X4_become_X11_copyRow nl_RX4_31 swX11_copyRow rfl rfl (Nat.le_of_ble_eq_true rfl) ?_
  rintro _ rfl
  refine h_aload_n_W dX4_become_11 rfl rfl ?_
  refine h_aload_n_W dX4_become_12 rfl rfl ?_
  refine h_getI_W 1 (C := RX4) (T := TX4) (N := 2) dX4_become_13 (by decide) rfl rfl (by decide) rfl fl_RX4_17 (fun x1 => ?_)
  refine h_putI_W 1 (C := RX4) (T := TX4) (N := 2) (ty := .int) dX4_become_16 (by decide) rfl rfl (by decide) rfl fl_RX4_17 rfl (by decide +kernel) ⟨rfl, rfl⟩ rfl ?_
  exact h_ret_W dX4_become_19 rfl rfl
set_option maxRecDepth 100000 in
theorem v_X3_become_17_3_W : zs_Dd'_W MX3_become [.ref 17, .ref 3] zs_Rv := by
  refine zs_Wof_W (by decide) (Nat.le_of_ble_eq_true rfl) ?_
  show zs_W_W MX3_become 0 [(0, .ref 17), (1, .ref 3)] [] zs_Rv
  refine h_aload_n_W dX3_become_0 rfl rfl ?_
  refine h_aload_n_W dX3_become_1 rfl rfl ?_
  refine h_getI_W 0 (C := RX3) (T := TX3) (N := 6) dX3_become_2 (by decide) rfl rfl (by decide) rfl fl_RX3_25 (fun x1 => ?_)
  refine h_putI_W 0 (C := RX3) (T := TX3) (N := 6) (ty := .int) dX3_become_5 (by decide) rfl rfl (by decide) rfl fl_RX3_25 rfl (by decide +kernel) ⟨rfl, rfl⟩ rfl ?_
  refine h_aload_n_W dX3_become_8 rfl rfl ?_
  refine h_aload_n_W dX3_become_9 rfl rfl ?_
  refine h_getI_W 1 (C := RX3) (T := TX3) (N := 6) dX3_become_10 (by decide) rfl rfl (by decide) rfl fl_RX3_28 (fun x2 => ?_)
  refine h_putI_W 1 (C := RX3) (T := TX3) (N := 6) (ty := .int) dX3_become_13 (by decide) rfl rfl (by decide) rfl fl_RX3_28 rfl (by decide +kernel) ⟨rfl, rfl⟩ rfl ?_
  refine h_aload_n_W dX3_become_16 rfl rfl ?_
  refine h_aload_n_W dX3_become_17 rfl rfl ?_
  refine h_getI_W 2 (C := RX3) (T := TX3) (N := 6) dX3_become_18 (by decide) rfl rfl (by decide) rfl fl_RX3_9 (fun x3 => ?_)
  refine h_putI_W 2 (C := RX3) (T := TX3) (N := 6) (ty := .int) dX3_become_21 (by decide) rfl rfl (by decide) rfl fl_RX3_9 rfl (by decide +kernel) ⟨rfl, rfl⟩ rfl ?_
  refine h_aload_n_W dX3_become_24 rfl rfl ?_
  refine h_getR_W 3 4 (C := RX3) (T := TX3) (N := 6) dX3_become_25 (by decide) rfl rfl (by decide) rfl fl_RX3_15 ?_
  refine h_aload_n_W dX3_become_28 rfl rfl ?_
  refine h_getR_W 3 18 (C := RX3) (T := TX3) (N := 6) dX3_become_29 (by decide) rfl rfl (by decide) rfl fl_RX3_15 ?_
  refine h_callN_W [.ref 4, .ref 18] [] (v_copyRow_W 4 18 12 (by decide) rfl (by decide) rfl (by decide) (by decide) ⟨by decide, by decide, by decide⟩) dX3_become_32 kk_X3_become_X11_copyRow nl_RX3_35 swX11_copyRow rfl rfl (Nat.le_of_ble_eq_true rfl) ?_
  rintro _ rfl
  refine h_aload_n_W dX3_become_35 rfl rfl ?_
  refine h_getR_W 4 5 (C := RX3) (T := TX3) (N := 6) dX3_become_36 (by decide) rfl rfl (by decide) rfl fl_RX3_19 ?_
  refine h_aload_n_W dX3_become_39 rfl rfl ?_
  refine h_getR_W 4 19 (C := RX3) (T := TX3) (N := 6) dX3_become_40 (by decide) rfl rfl (by decide) rfl fl_RX3_19 ?_
  refine h_callN_W [.ref 5, .ref 19] [] (v_copyRow_W 5 19 5 (by decide) rfl (by decide) rfl (by decide) (by decide) ⟨by decide, by decide, by decide⟩) dX3_become_43 kk_X3_become_X11_copyRow nl_RX3_35 swX11_copyRow rfl rfl (Nat.le_of_ble_eq_true rfl) ?_
  rintro _ rfl
  refine h_aload_n_W dX3_become_46 rfl rfl ?_
  refine h_getR_W 5 6 (C := RX3) (T := TX3) (N := 6) dX3_become_47 (by decide) rfl rfl (by decide) rfl fl_RX3_22 ?_
  refine h_aload_n_W dX3_become_50 rfl rfl ?_
  refine h_getR_W 5 20 (C := RX3) (T := TX3) (N := 6) dX3_become_51 (by decide) rfl rfl (by decide) rfl fl_RX3_22 ?_
  refine h_callN_W [.ref 6, .ref 20] [] (v_copyRow_W 6 20 5 (by decide) rfl (by decide) rfl (by decide) (by decide) ⟨by decide, by decide, by decide⟩) dX3_become_54 kk_X3_become_X11_copyRow nl_RX3_35 swX11_copyRow rfl rfl (Nat.le_of_ble_eq_true rfl) ?_
  rintro _ rfl
  exact h_ret_W dX3_become_57 rfl rfl
set_option maxRecDepth 100000 in
theorem v_X4_become_21_7_W : zs_Dd'_W MX4_become [.ref 21, .ref 7] zs_Rv := by
  refine zs_Wof_W (by decide) (Nat.le_of_ble_eq_true rfl) ?_
  show zs_W_W MX4_become 0 [(0, .ref 21), (1, .ref 7)] [] zs_Rv
  refine h_aload_n_W dX4_become_0 rfl rfl ?_
  refine h_getR_W 0 8 (C := RX4) (T := TX4) (N := 2) dX4_become_1 (by decide) rfl rfl (by decide) rfl fl_RX4_11 ?_
  refine h_aload_n_W dX4_become_4 rfl rfl ?_
  refine h_getR_W 0 22 (C := RX4) (T := TX4) (N := 2) dX4_become_5 (by decide) rfl rfl (by decide) rfl fl_RX4_11 ?_
  refine h_callN_W [.ref 8, .ref 22] [] (v_copyRow_W 8 22 200 (by decide) rfl (by decide) rfl (by decide) (by decide) ⟨by decide, by decide, by decide⟩) dX4_become_8 kk_X4_become_X11_copyRow nl_RX4_31 swX11_copyRow rfl rfl (Nat.le_of_ble_eq_true rfl) ?_
  rintro _ rfl
  refine h_aload_n_W dX4_become_11 rfl rfl ?_
  refine h_aload_n_W dX4_become_12 rfl rfl ?_
  refine h_getI_W 1 (C := RX4) (T := TX4) (N := 2) dX4_become_13 (by decide) rfl rfl (by decide) rfl fl_RX4_17 (fun x1 => ?_)
  refine h_putI_W 1 (C := RX4) (T := TX4) (N := 2) (ty := .int) dX4_become_16 (by decide) rfl rfl (by decide) rfl fl_RX4_17 rfl (by decide +kernel) ⟨rfl, rfl⟩ rfl ?_
  exact h_ret_W dX4_become_19 rfl rfl
set_option maxRecDepth 100000 in
theorem v_X3_become_31_3_W : zs_Dd'_W MX3_become [.ref 31, .ref 3] zs_Rv := by
  refine zs_Wof_W (by decide) (Nat.le_of_ble_eq_true rfl) ?_
  show zs_W_W MX3_become 0 [(0, .ref 31), (1, .ref 3)] [] zs_Rv
  refine h_aload_n_W dX3_become_0 rfl rfl ?_
  refine h_aload_n_W dX3_become_1 rfl rfl ?_
  refine h_getI_W 0 (C := RX3) (T := TX3) (N := 6) dX3_become_2 (by decide) rfl rfl (by decide) rfl fl_RX3_25 (fun x1 => ?_)
  refine h_putI_W 0 (C := RX3) (T := TX3) (N := 6) (ty := .int) dX3_become_5 (by decide) rfl rfl (by decide) rfl fl_RX3_25 rfl (by decide +kernel) ⟨rfl, rfl⟩ rfl ?_
  refine h_aload_n_W dX3_become_8 rfl rfl ?_
  refine h_aload_n_W dX3_become_9 rfl rfl ?_
  refine h_getI_W 1 (C := RX3) (T := TX3) (N := 6) dX3_become_10 (by decide) rfl rfl (by decide) rfl fl_RX3_28 (fun x2 => ?_)
  refine h_putI_W 1 (C := RX3) (T := TX3) (N := 6) (ty := .int) dX3_become_13 (by decide) rfl rfl (by decide) rfl fl_RX3_28 rfl (by decide +kernel) ⟨rfl, rfl⟩ rfl ?_
  refine h_aload_n_W dX3_become_16 rfl rfl ?_
  refine h_aload_n_W dX3_become_17 rfl rfl ?_
  refine h_getI_W 2 (C := RX3) (T := TX3) (N := 6) dX3_become_18 (by decide) rfl rfl (by decide) rfl fl_RX3_9 (fun x3 => ?_)
  refine h_putI_W 2 (C := RX3) (T := TX3) (N := 6) (ty := .int) dX3_become_21 (by decide) rfl rfl (by decide) rfl fl_RX3_9 rfl (by decide +kernel) ⟨rfl, rfl⟩ rfl ?_
  refine h_aload_n_W dX3_become_24 rfl rfl ?_
  refine h_getR_W 3 4 (C := RX3) (T := TX3) (N := 6) dX3_become_25 (by decide) rfl rfl (by decide) rfl fl_RX3_15 ?_
  refine h_aload_n_W dX3_become_28 rfl rfl ?_
  refine h_getR_W 3 32 (C := RX3) (T := TX3) (N := 6) dX3_become_29 (by decide) rfl rfl (by decide) rfl fl_RX3_15 ?_
  refine h_callN_W [.ref 4, .ref 32] [] (v_copyRow_W 4 32 12 (by decide) rfl (by decide) rfl (by decide) (by decide) ⟨by decide, by decide, by decide⟩) dX3_become_32 kk_X3_become_X11_copyRow nl_RX3_35 swX11_copyRow rfl rfl (Nat.le_of_ble_eq_true rfl) ?_
  rintro _ rfl
  refine h_aload_n_W dX3_become_35 rfl rfl ?_
  refine h_getR_W 4 5 (C := RX3) (T := TX3) (N := 6) dX3_become_36 (by decide) rfl rfl (by decide) rfl fl_RX3_19 ?_
  refine h_aload_n_W dX3_become_39 rfl rfl ?_
  refine h_getR_W 4 33 (C := RX3) (T := TX3) (N := 6) dX3_become_40 (by decide) rfl rfl (by decide) rfl fl_RX3_19 ?_
  refine h_callN_W [.ref 5, .ref 33] [] (v_copyRow_W 5 33 5 (by decide) rfl (by decide) rfl (by decide) (by decide) ⟨by decide, by decide, by decide⟩) dX3_become_43 kk_X3_become_X11_copyRow nl_RX3_35 swX11_copyRow rfl rfl (Nat.le_of_ble_eq_true rfl) ?_
  rintro _ rfl
  refine h_aload_n_W dX3_become_46 rfl rfl ?_
  refine h_getR_W 5 6 (C := RX3) (T := TX3) (N := 6) dX3_become_47 (by decide) rfl rfl (by decide) rfl fl_RX3_22 ?_
  refine h_aload_n_W dX3_become_50 rfl rfl ?_
  refine h_getR_W 5 34 (C := RX3) (T := TX3) (N := 6) dX3_become_51 (by decide) rfl rfl (by decide) rfl fl_RX3_22 ?_
  refine h_callN_W [.ref 6, .ref 34] [] (v_copyRow_W 6 34 5 (by decide) rfl (by decide) rfl (by decide) (by decide) ⟨by decide, by decide, by decide⟩) dX3_become_54 kk_X3_become_X11_copyRow nl_RX3_35 swX11_copyRow rfl rfl (Nat.le_of_ble_eq_true rfl) ?_
  rintro _ rfl
  exact h_ret_W dX3_become_57 rfl rfl
set_option maxRecDepth 100000 in
theorem v_X4_become_35_7_W : zs_Dd'_W MX4_become [.ref 35, .ref 7] zs_Rv := by
  refine zs_Wof_W (by decide) (Nat.le_of_ble_eq_true rfl) ?_
  show zs_W_W MX4_become 0 [(0, .ref 35), (1, .ref 7)] [] zs_Rv
  refine h_aload_n_W dX4_become_0 rfl rfl ?_
  refine h_getR_W 0 8 (C := RX4) (T := TX4) (N := 2) dX4_become_1 (by decide) rfl rfl (by decide) rfl fl_RX4_11 ?_
  refine h_aload_n_W dX4_become_4 rfl rfl ?_
  refine h_getR_W 0 36 (C := RX4) (T := TX4) (N := 2) dX4_become_5 (by decide) rfl rfl (by decide) rfl fl_RX4_11 ?_
  refine h_callN_W [.ref 8, .ref 36] [] (v_copyRow_W 8 36 200 (by decide) rfl (by decide) rfl (by decide) (by decide) ⟨by decide, by decide, by decide⟩) dX4_become_8 kk_X4_become_X11_copyRow nl_RX4_31 swX11_copyRow rfl rfl (Nat.le_of_ble_eq_true rfl) ?_
  rintro _ rfl
  refine h_aload_n_W dX4_become_11 rfl rfl ?_
  refine h_aload_n_W dX4_become_12 rfl rfl ?_
  refine h_getI_W 1 (C := RX4) (T := TX4) (N := 2) dX4_become_13 (by decide) rfl rfl (by decide) rfl fl_RX4_17 (fun x1 => ?_)
  refine h_putI_W 1 (C := RX4) (T := TX4) (N := 2) (ty := .int) dX4_become_16 (by decide) rfl rfl (by decide) rfl fl_RX4_17 rfl (by decide +kernel) ⟨rfl, rfl⟩ rfl ?_
  exact h_ret_W dX4_become_19 rfl rfl
