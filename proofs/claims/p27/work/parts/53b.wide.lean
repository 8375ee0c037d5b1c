set_option maxRecDepth 100000 in
theorem v_X4_pop_7_3_W : zs_Dd'_W MX4_pop [.ref 7, .ref 3] zs_Rv := by
  refine zs_Wof_W (by decide) (Nat.le_of_ble_eq_true rfl) ?_
  show zs_W_W MX4_pop 0 [(0, .ref 7), (1, .ref 3)] [] zs_Rv
  refine h_aload_n_W dX4_pop_0 rfl rfl ?_
  refine h_getI_W 1 (C := RX4) (T := TX4) (N := 2) dX4_pop_1 (by decide) rfl rfl (by decide) rfl fl_RX4_17 (fun x1 => ?_)
  refine h_if_le_W 32 dX4_pop_4 (by decide) (fun h2 => ?_) (fun h2 => ?_)
  · exact h_ret_W dX4_pop_32 rfl rfl
  · refine h_aload_n_W dX4_pop_7 rfl rfl ?_
    refine h_dup_W dX4_pop_8 rfl ?_
    refine h_getI_W 1 (C := RX4) (T := TX4) (N := 2) dX4_pop_9 (by decide) rfl rfl (by decide) rfl fl_RX4_17 (fun x3 => ?_)
    refine h_iconst_W (v := (nI 1)) dX4_pop_12 rfl ?_
    refine h_isub_W dX4_pop_13 (fun x4 => ?_)
    refine h_putI_W 1 (C := RX4) (T := TX4) (N := 2) (ty := .int) dX4_pop_14 (by decide) rfl rfl (by decide) rfl fl_RX4_17 rfl (by decide +kernel) ⟨rfl, rfl⟩ rfl ?_
    refine h_aload_n_W dX4_pop_17 rfl rfl ?_
    refine h_aload_n_W dX4_pop_18 rfl rfl ?_
    refine h_getR_W 0 8 (C := RX4) (T := TX4) (N := 2) dX4_pop_19 (by decide) rfl rfl (by decide) rfl fl_RX4_11 ?_
    refine h_aload_n_W dX4_pop_22 rfl rfl ?_
    refine h_getI_W 1 (C := RX4) (T := TX4) (N := 2) dX4_pop_23 (by decide) rfl rfl (by decide) rfl fl_RX4_17 (fun x5 => ?_)
    refine h_bipush_W (v := (nI 25)) dX4_pop_26 rfl ?_
    refine h_imul_W dX4_pop_28 (fun x6 => ?_)
    refine h_callV_W (T := TX3) (NN := 6) [] (v_X3_takeFrom_3_8_W x6) dX4_pop_29 kk_X4_pop_X3_takeFrom ml_RX4_28 mwX3_takeFrom ewX3_takeFrom (by decide) rfl rfl rfl rfl (Nat.le_of_ble_eq_true rfl) ?_
    rintro _ rfl
    exact h_ret_W dX4_pop_32 rfl rfl
set_option maxRecDepth 100000 in
theorem v_X11_undo_0_W : zs_Dd'_W MX11_undo [.ref 0] zs_Ri := by
  refine zs_Wof_W (by decide) (Nat.le_of_ble_eq_true rfl) ?_
  show zs_W_W MX11_undo 0 [(0, .ref 0)] [] zs_Ri
  refine h_aload_n_W dX11_undo_0 rfl rfl ?_
  refine h_getR_W 0 1 (C := RX11) (T := TX11) (N := 18) dX11_undo_1 (by decide) rfl rfl (by decide) rfl fl_RX11_10 ?_
  refine h_getR_W 5 7 (C := RX6) (T := TX6) (N := 9) dX11_undo_4 (by decide) rfl rfl (by decide) rfl fl_RX11_101 ?_
  refine h_getI_W 1 (C := RX4) (T := TX4) (N := 2) dX11_undo_7 (by decide) rfl rfl (by decide) rfl fl_RX11_176 (fun x1 => ?_)
  refine h_iconst_W (v := (nI 1)) dX11_undo_10 rfl ?_
  refine h_ic_ge_W 19 dX11_undo_11 (by decide) (fun h2 => ?_) (fun h2 => ?_)
  · refine h_aload_n_W dX11_undo_19 rfl rfl ?_
    refine h_getR_W 0 1 (C := RX11) (T := TX11) (N := 18) dX11_undo_20 (by decide) rfl rfl (by decide) rfl fl_RX11_10 ?_
    refine h_getR_W 5 7 (C := RX6) (T := TX6) (N := 9) dX11_undo_23 (by decide) rfl rfl (by decide) rfl fl_RX11_101 ?_
    refine h_aload_n_W dX11_undo_26 rfl rfl ?_
    refine h_getR_W 0 1 (C := RX11) (T := TX11) (N := 18) dX11_undo_27 (by decide) rfl rfl (by decide) rfl fl_RX11_10 ?_
    refine h_getR_W 4 3 (C := RX6) (T := TX6) (N := 9) dX11_undo_30 (by decide) rfl rfl (by decide) rfl fl_RX11_137 ?_
    refine h_callV_W (T := TX4) (NN := 2) [] (v_X4_pop_7_3_W) dX11_undo_33 kk_X11_undo_X4_pop ml_RX11_179 mwX4_pop ewX4_pop (by decide) rfl rfl rfl rfl (Nat.le_of_ble_eq_true rfl) ?_
    rintro _ rfl
    refine h_aload_n_W dX11_undo_36 rfl rfl ?_
    refine h_getR_W 0 1 (C := RX11) (T := TX11) (N := 18) dX11_undo_37 (by decide) rfl rfl (by decide) rfl fl_RX11_10 ?_
    refine h_getR_W 4 3 (C := RX6) (T := TX6) (N := 9) dX11_undo_40 (by decide) rfl rfl (by decide) rfl fl_RX11_137 ?_
    refine h_getI_W 1 (C := RX3) (T := TX3) (N := 6) dX11_undo_43 (by decide) rfl rfl (by decide) rfl fl_RX11_140 (fun x3 => ?_)
    exact h_iret_W dX11_undo_46 rfl rfl ⟨_, rfl⟩
  · refine h_aload_n_W dX11_undo_14 rfl rfl ?_
    refine h_callV_W (T := TX11) (NN := 18) [] (v_X11_refuseNo_0_W) dX11_undo_15 kk_X11_undo_X11_refuseNo ml_RX11_156 mwX11_refuseNo ewX11_refuseNo (by decide) rfl rfl rfl rfl (Nat.le_of_ble_eq_true rfl) ?_
    rintro _ ⟨x4, rfl⟩
    exact h_iret_W dX11_undo_18 rfl rfl ⟨_, rfl⟩
set_option maxRecDepth 100000 in
theorem v_X11_isEye_0_W (a1 : Int32) : zs_Dd'_W MX11_isEye [.ref 0, .int a1] zs_Rb := by
  refine zs_Wof_W (by decide) (Nat.le_of_ble_eq_true rfl) ?_
  show zs_W_W MX11_isEye 0 [(0, .ref 0), (1, .int a1)] [] zs_Rb
  refine h_iload_n_W dX11_isEye_0 rfl rfl ?_
  refine h_iconst_W (v := (nI 0)) dX11_isEye_1 rfl ?_
  refine h_aload_n_W dX11_isEye_2 rfl rfl ?_
  refine h_getR_W 0 1 (C := RX11) (T := TX11) (N := 18) dX11_isEye_3 (by decide) rfl rfl (by decide) rfl fl_RX11_10 ?_
  refine h_getI_W 2 (C := RX6) (T := TX6) (N := 9) dX11_isEye_6 (by decide) rfl rfl (by decide) rfl fl_RX11_90 (fun x1 => ?_)
  refine h_iconst_W (v := (nI 1)) dX11_isEye_9 rfl ?_
  refine h_isub_W dX11_isEye_10 (fun x2 => ?_)
  refine h_callS_W [.int a1, .int (nI 0), .int x2] [] (v_X11_within_W a1 (nI 0) x2) dX11_isEye_11 kk_X11_isEye_X11_within ml_RX11_75 swX11_within rfl rfl (Nat.le_of_ble_eq_true rfl) ?_
  rintro _ ⟨x3, rfl, bx3⟩
  exact h_iret_W dX11_isEye_14 rfl bx3 ⟨_, rfl, bx3⟩
set_option maxRecDepth 100000 in
theorem v_X11_of_0_W (a1 : Int32) (a2 : Int32) : zs_Dd'_W MX11_of [.ref 0, .int a1, .int a2] zs_Ri := by
  refine zs_Wof_W (by decide) (Nat.le_of_ble_eq_true rfl) ?_
  show zs_W_W MX11_of 0 [(0, .ref 0), (1, .int a1), (2, .int a2)] [] zs_Ri
  refine h_aload_n_W dX11_of_0 rfl rfl ?_
  refine h_iload_n_W dX11_of_1 rfl rfl ?_
  refine h_callV_W (T := TX11) (NN := 18) [] (v_X11_isEye_0_W a1) dX11_of_2 kk_X11_of_X11_isEye ml_RX11_182 mwX11_isEye ewX11_isEye (by decide) rfl rfl rfl rfl (Nat.le_of_ble_eq_true rfl) ?_
  rintro _ ⟨x1, rfl, bx1⟩
  refine h_if_ne_W 15 dX11_of_5 (by decide) (fun h2 => ?_) (fun h2 => ?_)
  · refine h_iload_n_W dX11_of_15 rfl rfl ?_
    by_cases h3 : (a2 : Int32).toInt < 0 ∨ 2 < (a2 : Int32).toInt
    · refine h_tout_W 86 dX11_of_16 h3 (by decide) ?_
      refine h_aload_n_W dX11_of_86 rfl rfl ?_
      refine h_bipush_W (v := (-2)) dX11_of_87 rfl ?_
      refine h_callV_W (T := TX11) (NN := 18) [] (v_X11_refuseBad_0_W (-2)) dX11_of_89 kk_X11_of_X11_refuseBad ml_RX11_86 mwX11_refuseBad ewX11_refuseBad (by decide) rfl rfl rfl rfl (Nat.le_of_ble_eq_true rfl) ?_
      rintro _ ⟨x4, rfl⟩
      exact h_iret_W dX11_of_92 rfl rfl ⟨_, rfl⟩
    rcases (show (a2 : Int32).toInt = 0 ∨ (a2 : Int32).toInt = 1 ∨ (a2 : Int32).toInt = 2 by omega) with h3 | h3 | h3
    · refine h_tin_W (off := 28) 44 dX11_of_16 (by rw [h3]; decide) (by rw [h3]; decide) (by rw [h3]; rfl) (by decide) ?_
      refine h_aload_n_W dX11_of_44 rfl rfl ?_
      refine h_getR_W 0 1 (C := RX11) (T := TX11) (N := 18) dX11_of_45 (by decide) rfl rfl (by decide) rfl fl_RX11_10 ?_
      refine h_getR_W 3 2 (C := RX6) (T := TX6) (N := 9) dX11_of_48 (by decide) rfl rfl (by decide) rfl fl_RX11_185 ?_
      refine h_iload_n_W dX11_of_51 rfl rfl ?_
      refine h_callS_W [.ref 2, .int a1] [] (v_cell_W 2 5 a1 (by decide) rfl (by decide)) dX11_of_52 kk_X11_of_X11_cell ml_RX11_168 swX11_cell rfl rfl (Nat.le_of_ble_eq_true rfl) ?_
      rintro _ ⟨x5, rfl⟩
      exact h_iret_W dX11_of_55 rfl rfl ⟨_, rfl⟩
    · refine h_tin_W (off := 40) 56 dX11_of_16 (by rw [h3]; decide) (by rw [h3]; decide) (by rw [h3]; rfl) (by decide) ?_
      refine h_aload_n_W dX11_of_56 rfl rfl ?_
      refine h_getR_W 0 1 (C := RX11) (T := TX11) (N := 18) dX11_of_57 (by decide) rfl rfl (by decide) rfl fl_RX11_10 ?_
      refine h_getR_W 4 3 (C := RX6) (T := TX6) (N := 9) dX11_of_60 (by decide) rfl rfl (by decide) rfl fl_RX11_137 ?_
      refine h_getR_W 4 5 (C := RX3) (T := TX3) (N := 6) dX11_of_63 (by decide) rfl rfl (by decide) rfl fl_RX11_188 ?_
      refine h_iload_n_W dX11_of_66 rfl rfl ?_
      refine h_callS_W [.ref 5, .int a1] [] (v_cell_W 5 5 a1 (by decide) rfl (by decide)) dX11_of_67 kk_X11_of_X11_cell ml_RX11_168 swX11_cell rfl rfl (Nat.le_of_ble_eq_true rfl) ?_
      rintro _ ⟨x6, rfl⟩
      exact h_iret_W dX11_of_70 rfl rfl ⟨_, rfl⟩
    · refine h_tin_W (off := 55) 71 dX11_of_16 (by rw [h3]; decide) (by rw [h3]; decide) (by rw [h3]; rfl) (by decide) ?_
      refine h_aload_n_W dX11_of_71 rfl rfl ?_
      refine h_getR_W 0 1 (C := RX11) (T := TX11) (N := 18) dX11_of_72 (by decide) rfl rfl (by decide) rfl fl_RX11_10 ?_
      refine h_getR_W 4 3 (C := RX6) (T := TX6) (N := 9) dX11_of_75 (by decide) rfl rfl (by decide) rfl fl_RX11_137 ?_
      refine h_getR_W 5 6 (C := RX3) (T := TX3) (N := 6) dX11_of_78 (by decide) rfl rfl (by decide) rfl fl_RX11_191 ?_
      refine h_iload_n_W dX11_of_81 rfl rfl ?_
      refine h_callS_W [.ref 6, .int a1] [] (v_cell_W 6 5 a1 (by decide) rfl (by decide)) dX11_of_82 kk_X11_of_X11_cell ml_RX11_168 swX11_cell rfl rfl (Nat.le_of_ble_eq_true rfl) ?_
      rintro _ ⟨x7, rfl⟩
      exact h_iret_W dX11_of_85 rfl rfl ⟨_, rfl⟩
  · refine h_aload_n_W dX11_of_8 rfl rfl ?_
    refine h_bipush_W (v := (-2)) dX11_of_9 rfl ?_
    refine h_callV_W (T := TX11) (NN := 18) [] (v_X11_refuseBad_0_W (-2)) dX11_of_11 kk_X11_of_X11_refuseBad ml_RX11_86 mwX11_refuseBad ewX11_refuseBad (by decide) rfl rfl rfl rfl (Nat.le_of_ble_eq_true rfl) ?_
    rintro _ ⟨x8, rfl⟩
    exact h_iret_W dX11_of_14 rfl rfl ⟨_, rfl⟩
set_option maxRecDepth 100000 in
theorem v_X11_drawn_0_W (a1 : Int32) : zs_Dd'_W MX11_drawn [.ref 0, .int a1] zs_Ri := by
  refine zs_Wof_W (by decide) (Nat.le_of_ble_eq_true rfl) ?_
  show zs_W_W MX11_drawn 0 [(0, .ref 0), (1, .int a1)] [] zs_Ri
  refine h_aload_n_W dX11_drawn_0 rfl rfl ?_
  refine h_iload_n_W dX11_drawn_1 rfl rfl ?_
  refine h_callV_W (T := TX11) (NN := 18) [] (v_X11_isFrame_0_W a1) dX11_drawn_2 kk_X11_drawn_X11_isFrame ml_RX11_159 mwX11_isFrame ewX11_isFrame (by decide) rfl rfl rfl rfl (Nat.le_of_ble_eq_true rfl) ?_
  rintro _ ⟨x1, rfl, bx1⟩
  refine h_if_eq_W 25 dX11_drawn_5 (by decide) (fun h2 => ?_) (fun h2 => ?_)
  · refine h_aload_n_W dX11_drawn_25 rfl rfl ?_
    refine h_bipush_W (v := (-2)) dX11_drawn_26 rfl ?_
    refine h_callV_W (T := TX11) (NN := 18) [] (v_X11_refuseBad_0_W (-2)) dX11_drawn_28 kk_X11_drawn_X11_refuseBad ml_RX11_86 mwX11_refuseBad ewX11_refuseBad (by decide) rfl rfl rfl rfl (Nat.le_of_ble_eq_true rfl) ?_
    rintro _ ⟨x3, rfl⟩
    exact h_iret_W dX11_drawn_31 rfl rfl ⟨_, rfl⟩
  · refine h_aload_n_W dX11_drawn_8 rfl rfl ?_
    refine h_getR_W 0 1 (C := RX11) (T := TX11) (N := 18) dX11_drawn_9 (by decide) rfl rfl (by decide) rfl fl_RX11_10 ?_
    refine h_getR_W 4 3 (C := RX6) (T := TX6) (N := 9) dX11_drawn_12 (by decide) rfl rfl (by decide) rfl fl_RX11_137 ?_
    refine h_getR_W 3 4 (C := RX3) (T := TX3) (N := 6) dX11_drawn_15 (by decide) rfl rfl (by decide) rfl fl_RX11_165 ?_
    refine h_iload_n_W dX11_drawn_18 rfl rfl ?_
    refine h_callS_W [.ref 4, .int a1] [] (v_cell_W 4 12 a1 (by decide) rfl (by decide)) dX11_drawn_19 kk_X11_drawn_X11_cell ml_RX11_168 swX11_cell rfl rfl (Nat.le_of_ble_eq_true rfl) ?_
    rintro _ ⟨x4, rfl⟩
    refine h_goto_W 31 dX11_drawn_22 (by decide) ?_
    exact h_iret_W dX11_drawn_31 rfl rfl ⟨_, rfl⟩
set_option maxRecDepth 100000 in
theorem v_X6_drawingAtHand_1_63_W : zs_Dd'_W MX6_drawingAtHand [.ref 1, .ref 63] zs_Ri := by
  refine zs_Wof_W (by decide) (Nat.le_of_ble_eq_true rfl) ?_
  show zs_W_W MX6_drawingAtHand 0 [(0, .ref 1), (1, .ref 63)] [] zs_Ri
  refine h_aload_n_W dX6_drawingAtHand_0 rfl rfl ?_
  refine h_getR_W 3 64 (C := RX3) (T := TX3) (N := 6) dX6_drawingAtHand_1 (by decide) rfl rfl (by decide) rfl fl_RX6_130 ?_
  refine h_aload_n_W dX6_drawingAtHand_4 rfl rfl ?_
  refine h_getI_W 0 (C := RX3) (T := TX3) (N := 6) dX6_drawingAtHand_5 (by decide) rfl rfl (by decide) rfl fl_RX6_96 (fun x1 => ?_)
  refine h_callN_W [.ref 64, .int x1] [] (v_cell_W 64 12 x1 (by decide) rfl (by decide)) dX6_drawingAtHand_8 kk_X6_drawingAtHand_X11_cell nl_RX6_116 swX11_cell rfl rfl (Nat.le_of_ble_eq_true rfl) ?_
  rintro _ ⟨x2, rfl⟩
  exact h_iret_W dX6_drawingAtHand_11 rfl rfl ⟨_, rfl⟩
set_option maxRecDepth 100000 in
theorem v_X6_flash_1_63_W : zs_Dd'_W MX6_flash [.ref 1, .ref 63] zs_Rv := by
  refine zs_Wof_W (by decide) (Nat.le_of_ble_eq_true rfl) ?_
  show zs_W_W MX6_flash 0 [(0, .ref 1), (1, .ref 63)] [] zs_Rv
  have j49 : ∀ (n49 : Nat) (v2 : Int32) (c49 : Int32), zs_mu c49 < n49 → zs_W_W MX6_flash 49 [(0, .ref 1), (1, .ref 63), (2, .int v2), (3, .int c49)] [] zs_Rv := by
    intro n49
    induction n49 with
    | zero => intro v2 c49 hn49; exact absurd hn49 (Nat.not_lt_zero _)
    | succ n49 ih49 =>
      intro v2 c49 hn49
      have j114 : zs_mu (c49 + Int32.ofInt 1) < n49 → ∀ (v2 : Int32) (v4 : Int32) (v5 : Int32), zs_W_W MX6_flash 114 [(0, .ref 1), (1, .ref 63), (2, .int v2), (3, .int c49), (4, .int v4), (5, .int v5)] [] zs_Rv := by
        intro hd49 v2 v4 v5
        refine h_aload_n_W dX6_flash_114 rfl rfl ?_
        refine h_getR_W 4 65 (C := RX3) (T := TX3) (N := 6) dX6_flash_115 (by decide) rfl rfl (by decide) rfl fl_RX6_85 ?_
        refine h_iload_n_W dX6_flash_118 rfl rfl ?_
        refine h_iload_W dX6_flash_119 rfl ?_
        refine h_callN_W [.ref 65, .int c49, .int v5] [] (v_put_W 65 5 c49 v5 (by decide) rfl (by decide) ⟨by decide, by decide, by decide⟩) dX6_flash_121 kk_X6_flash_X11_put nl_RX6_81 swX11_put rfl rfl (Nat.le_of_ble_eq_true rfl) ?_
        rintro _ rfl
        refine h_iinc_W (v := (c49 + Int32.ofInt 1)) (lv' := [(3, .int (c49 + Int32.ofInt 1)), (0, .ref 1), (1, .ref 63), (2, .int v2), (4, .int v4), (5, .int v5)]) dX6_flash_124 rfl rfl (by decide) rfl ?_
        refine h_goto_W 49 dX6_flash_127 (by decide) ?_
        exact zs_Wlv_W (ih49 v2 (c49 + Int32.ofInt 1) hd49) (zs_mc 1 rfl (zs_mc 2 rfl (zs_mc 3 rfl (zs_mc 0 rfl zs_mn))))
      refine h_iload_n_W dX6_flash_49 rfl rfl ?_
      refine h_aload_n_W dX6_flash_50 rfl rfl ?_
      refine h_getI_W 2 (C := RX6) (T := TX6) (N := 9) dX6_flash_51 (by decide) rfl rfl (by decide) rfl fl_RX6_51 (fun x1 => ?_)
      refine h_ic_ge_W 130 dX6_flash_54 (by decide) (fun h2 => ?_) (fun h2 => ?_)
      · exact h_ret_W dX6_flash_130 rfl rfl
      · have hd49 := zs_muA h2 hn49
        refine h_aload_n_W dX6_flash_57 rfl rfl ?_
        refine h_getR_W 4 65 (C := RX3) (T := TX3) (N := 6) dX6_flash_58 (by decide) rfl rfl (by decide) rfl fl_RX6_85 ?_
        refine h_iload_n_W dX6_flash_61 rfl rfl ?_
        refine h_callN_W [.ref 65, .int c49] [] (v_cell_W 65 5 c49 (by decide) rfl (by decide)) dX6_flash_62 kk_X6_flash_X11_cell nl_RX6_116 swX11_cell rfl rfl (Nat.le_of_ble_eq_true rfl) ?_
        rintro _ ⟨x3, rfl⟩
        refine h_istore_W (lv' := [(4, .int x3), (0, .ref 1), (1, .ref 63), (2, .int v2), (3, .int c49)]) dX6_flash_65 (by decide) rfl ?_
        refine h_aload_n_W dX6_flash_67 rfl rfl ?_
        refine h_getR_W 3 2 (C := RX6) (T := TX6) (N := 9) dX6_flash_68 (by decide) rfl rfl (by decide) rfl fl_RX6_15 ?_
        refine h_iload_n_W dX6_flash_71 rfl rfl ?_
        refine h_callN_W [.ref 2, .int c49] [] (v_cell_W 2 5 c49 (by decide) rfl (by decide)) dX6_flash_72 kk_X6_flash_X11_cell nl_RX6_116 swX11_cell rfl rfl (Nat.le_of_ble_eq_true rfl) ?_
        rintro _ ⟨x4, rfl⟩
        refine h_iload_n_W dX6_flash_75 rfl rfl ?_
        refine h_iload_W dX6_flash_76 rfl ?_
        refine h_callS_W [.int x4, .int v2, .int x3] [] (v_X1_sight_W x4 v2 x3) dX6_flash_78 kk_X6_flash_X1_sight ml_RX6_120 swX1_sight rfl rfl (Nat.le_of_ble_eq_true rfl) ?_
        rintro _ ⟨x5, rfl⟩
        refine h_istore_W (lv' := [(5, .int x5), (4, .int x3), (0, .ref 1), (1, .ref 63), (2, .int v2), (3, .int c49)]) dX6_flash_81 (by decide) rfl ?_
        refine h_iload_W dX6_flash_83 rfl ?_
        refine h_iload_W dX6_flash_85 rfl ?_
        refine h_ic_eq_W 114 dX6_flash_87 (by decide) (fun h6 => ?_) (fun h6 => ?_)
        · exact zs_Wlv_W (j114 hd49 v2 x3 x5) (zs_mc 2 rfl (zs_mc 3 rfl (zs_mc 4 rfl (zs_mc 5 rfl (zs_mc 1 rfl (zs_mc 0 rfl zs_mn))))))
        · refine h_aload_n_W dX6_flash_90 rfl rfl ?_
          refine h_getR_W 5 66 (C := RX3) (T := TX3) (N := 6) dX6_flash_91 (by decide) rfl rfl (by decide) rfl fl_RX6_88 ?_
          refine h_iload_n_W dX6_flash_94 rfl rfl ?_
          refine h_sipush_W (v := (nI 9999)) dX6_flash_95 rfl ?_
          refine h_aload_n_W dX6_flash_98 rfl rfl ?_
          refine h_getR_W 5 66 (C := RX3) (T := TX3) (N := 6) dX6_flash_99 (by decide) rfl rfl (by decide) rfl fl_RX6_88 ?_
          refine h_iload_n_W dX6_flash_102 rfl rfl ?_
          refine h_callN_W [.ref 66, .int c49] [.int (nI 9999), .int c49, .ref 66] (v_cell_W 66 5 c49 (by decide) rfl (by decide)) dX6_flash_103 kk_X6_flash_X11_cell nl_RX6_116 swX11_cell rfl rfl (Nat.le_of_ble_eq_true rfl) ?_
          rintro _ ⟨x7, rfl⟩
          refine h_iconst_W (v := (nI 1)) dX6_flash_106 rfl ?_
          refine h_iadd_W dX6_flash_107 (fun x8 => ?_)
          refine h_callS_W [.int (nI 9999), .int x8] [.int c49, .ref 66] (v_J9_min_7cf53_W (nI 9999) x8) dX6_flash_108 kk_X6_flash_J9_min_7cf53 ml_RX6_125 swJ9_min_7cf53 rfl rfl (Nat.le_of_ble_eq_true rfl) ?_
          rintro _ ⟨x9, rfl⟩
          refine h_callN_W [.ref 66, .int c49, .int x9] [] (v_put_W 66 5 c49 x9 (by decide) rfl (by decide) ⟨by decide, by decide, by decide⟩) dX6_flash_111 kk_X6_flash_X11_put nl_RX6_81 swX11_put rfl rfl (Nat.le_of_ble_eq_true rfl) ?_
          rintro _ rfl
          exact zs_Wlv_W (j114 hd49 v2 x3 x5) (zs_mc 2 rfl (zs_mc 3 rfl (zs_mc 4 rfl (zs_mc 5 rfl (zs_mc 1 rfl (zs_mc 0 rfl zs_mn))))))
  refine h_aload_n_W dX6_flash_0 rfl rfl ?_
  refine h_dup_W dX6_flash_1 rfl ?_
  refine h_getI_W 1 (C := RX3) (T := TX3) (N := 6) dX6_flash_2 (by decide) rfl rfl (by decide) rfl fl_RX6_91 (fun x10 => ?_)
  refine h_iconst_W (v := (nI 1)) dX6_flash_5 rfl ?_
  refine h_iadd_W dX6_flash_6 (fun x11 => ?_)
  refine h_putI_W 1 (C := RX3) (T := TX3) (N := 6) (ty := .int) dX6_flash_7 (by decide) rfl rfl (by decide) rfl fl_RX6_91 rfl (by decide +kernel) ⟨rfl, rfl⟩ rfl ?_
  refine h_aload_n_W dX6_flash_10 rfl rfl ?_
  refine h_aload_n_W dX6_flash_11 rfl rfl ?_
  refine h_getI_W 0 (C := RX3) (T := TX3) (N := 6) dX6_flash_12 (by decide) rfl rfl (by decide) rfl fl_RX6_96 (fun x12 => ?_)
  refine h_aload_n_W dX6_flash_15 rfl rfl ?_
  refine h_getI_W 1 (C := RX6) (T := TX6) (N := 9) dX6_flash_16 (by decide) rfl rfl (by decide) rfl fl_RX6_48 (fun x13 => ?_)
  refine h_aload_n_W dX6_flash_19 rfl rfl ?_
  refine h_getI_W 2 (C := RX3) (T := TX3) (N := 6) dX6_flash_20 (by decide) rfl rfl (by decide) rfl fl_RX6_99 (fun x14 => ?_)
  refine h_aload_n_W dX6_flash_23 rfl rfl ?_
  refine h_getI_W 1 (C := RX3) (T := TX3) (N := 6) dX6_flash_24 (by decide) rfl rfl (by decide) rfl fl_RX6_91 (fun x15 => ?_)
  refine h_callS_W [.int x13, .int x14, .int x15] [.int x12, .ref 63] (v_X2_passing_W x13 x14 x15) dX6_flash_27 kk_X6_flash_X2_passing ml_RX6_102 swX2_passing rfl rfl (Nat.le_of_ble_eq_true rfl) ?_
  rintro _ ⟨x16, rfl⟩
  refine h_iadd_W dX6_flash_30 (fun x17 => ?_)
  refine h_aload_n_W dX6_flash_31 rfl rfl ?_
  refine h_getI_W 0 (C := RX6) (T := TX6) (N := 9) dX6_flash_32 (by decide) rfl rfl (by decide) rfl fl_RX6_9 (fun x18 => ?_)
  refine h_callN_W [.int x17, .int x18] [.ref 63] (v_X11_wrap_W x17 x18) dX6_flash_35 kk_X6_flash_X11_wrap nl_RX6_108 swX11_wrap rfl rfl (Nat.le_of_ble_eq_true rfl) ?_
  rintro _ ⟨x19, rfl⟩
  refine h_putI_W 0 (C := RX3) (T := TX3) (N := 6) (ty := .int) dX6_flash_38 (by decide) rfl rfl (by decide) rfl fl_RX6_96 rfl (by decide +kernel) ⟨rfl, rfl⟩ rfl ?_
  refine h_aload_n_W dX6_flash_41 rfl rfl ?_
  refine h_aload_n_W dX6_flash_42 rfl rfl ?_
  refine h_callV_W (T := TX6) (NN := 9) [] (v_X6_drawingAtHand_1_63_W) dX6_flash_43 kk_X6_flash_X6_drawingAtHand ml_RX6_112 mwX6_drawingAtHand ewX6_drawingAtHand (by decide) rfl rfl rfl rfl (Nat.le_of_ble_eq_true rfl) ?_
  rintro _ ⟨x20, rfl⟩
  refine h_istore_n_W (lv' := [(2, .int x20), (0, .ref 1), (1, .ref 63)]) dX6_flash_46 rfl (by decide) rfl ?_
  refine h_iconst_W (v := (nI 0)) dX6_flash_47 rfl ?_
  refine h_istore_n_W (lv' := [(3, .int (nI 0)), (2, .int x20), (0, .ref 1), (1, .ref 63)]) dX6_flash_48 rfl (by decide) rfl ?_
  exact zs_Wlv_W (j49 _ x20 (nI 0) (Nat.lt_succ_self _)) (zs_mc 2 rfl (zs_mc 3 rfl (zs_mc 1 rfl (zs_mc 0 rfl zs_mn))))
set_option maxRecDepth 100000 in
theorem v_X3_become_63_3_W : zs_Dd'_W MX3_become [.ref 63, .ref 3] zs_Rv := by
  refine zs_Wof_W (by decide) (Nat.le_of_ble_eq_true rfl) ?_
  show zs_W_W MX3_become 0 [(0, .ref 63), (1, .ref 3)] [] zs_Rv
  refine h_aload_n_W dX3_become_0 rfl rfl ?_
  refine h_aload_n_W dX3_become_1 rfl rfl ?_
  refine h_getI_W 0 (C := RX3) (T := TX3) (N := 6) dX3_become_2 (by decide) rfl rfl (by decide) rfl fl_RX3_25 (fun x1 => ?_)
  refine h_putI_W 0 (C := RX3) (T := TX3) (N := 6) (ty := .int) dX3_become_5 (by decide) rfl rfl (by decide) rfl fl_RX3_25 rfl (by decide +kernel) ⟨rfl, rfl⟩ rfl ?_
  refine h_aload_n_W dX3_become_8 rfl rfl ?_
  refine h_aload_n_W dX3_become_9 rfl rfl ?_
  refine h_getI_W 1 (C := RX3) (T := TX3) (N := 6) dX3_become_10 (by decide) rfl rfl (by decide) rfl fl_RX3_28 (fun x2 => ?_)
  refine h_putI_W 1 (C := RX3) (T := TX3) (N := 6) (ty := .int) dX3_become_13 (by decide) rfl rfl (by decide) rfl fl_RX3_28 rfl (by decide +kernel) ⟨rfl, rfl⟩ rfl ?_
  refine h_aload_n_W dX3_become_16 rfl rfl ?_
  refine h_aload_n_W dX3_become_17 rfl rfl ?_
  refine h_getI_W 2 (C := RX3) (T := TX3) (N := 6) dX3_become_18 (by decide) rfl rfl (by decide) rfl fl_RX3_9 (fun x3 => ?_)
  refine h_putI_W 2 (C := RX3) (T := TX3) (N := 6) (ty := .int) dX3_become_21 (by decide) rfl rfl (by decide) rfl fl_RX3_9 rfl (by decide +kernel) ⟨rfl, rfl⟩ rfl ?_
  refine h_aload_n_W dX3_become_24 rfl rfl ?_
  refine h_getR_W 3 4 (C := RX3) (T := TX3) (N := 6) dX3_become_25 (by decide) rfl rfl (by decide) rfl fl_RX3_15 ?_
  refine h_aload_n_W dX3_become_28 rfl rfl ?_
  refine h_getR_W 3 64 (C := RX3) (T := TX3) (N := 6) dX3_become_29 (by decide) rfl rfl (by decide) rfl fl_RX3_15 ?_
  refine h_callN_W [.ref 4, .ref 64] [] (v_copyRow_W 4 64 12 (by decide) rfl (by decide) rfl (by decide) (by decide) ⟨by decide, by decide, by decide⟩) dX3_become_32 kk_X3_become_X11_copyRow nl_RX3_35 swX11_copyRow rfl rfl (Nat.le_of_ble_eq_true rfl) ?_
  rintro _ rfl
  refine h_aload_n_W dX3_become_35 rfl rfl ?_
  refine h_getR_W 4 5 (C := RX3) (T := TX3) (N := 6) dX3_become_36 (by decide) rfl rfl (by decide) rfl fl_RX3_19 ?_
  refine h_aload_n_W dX3_become_39 rfl rfl ?_
  refine h_getR_W 4 65 (C := RX3) (T := TX3) (N := 6) dX3_become_40 (by decide) rfl rfl (by decide) rfl fl_RX3_19 ?_
  refine h_callN_W [.ref 5, .ref 65] [] (v_copyRow_W 5 65 5 (by decide) rfl (by decide) rfl (by decide) (by decide) ⟨by decide, by decide, by decide⟩) dX3_become_43 kk_X3_become_X11_copyRow nl_RX3_35 swX11_copyRow rfl rfl (Nat.le_of_ble_eq_true rfl) ?_
  rintro _ rfl
  refine h_aload_n_W dX3_become_46 rfl rfl ?_
  refine h_getR_W 5 6 (C := RX3) (T := TX3) (N := 6) dX3_become_47 (by decide) rfl rfl (by decide) rfl fl_RX3_22 ?_
  refine h_aload_n_W dX3_become_50 rfl rfl ?_
  refine h_getR_W 5 66 (C := RX3) (T := TX3) (N := 6) dX3_become_51 (by decide) rfl rfl (by decide) rfl fl_RX3_22 ?_
  refine h_callN_W [.ref 6, .ref 66] [] (v_copyRow_W 6 66 5 (by decide) rfl (by decide) rfl (by decide) (by decide) ⟨by decide, by decide, by decide⟩) dX3_become_54 kk_X3_become_X11_copyRow nl_RX3_35 swX11_copyRow rfl rfl (Nat.le_of_ble_eq_true rfl) ?_
  rintro _ rfl
  exact h_ret_W dX3_become_57 rfl rfl
set_option maxRecDepth 100000 in
theorem v_X11_startTrial_0_W (a1 : Int32) : zs_Dd'_W MX11_startTrial [.ref 0, .int a1] zs_Rv := by
  refine zs_Wof_W (by decide) (Nat.le_of_ble_eq_true rfl) ?_
  show zs_W_W MX11_startTrial 0 [(0, .ref 0), (1, .int a1)] [] zs_Rv
  refine h_aload_n_W dX11_startTrial_0 rfl rfl ?_
  refine h_getR_W 11 63 (C := RX11) (T := TX11) (N := 18) dX11_startTrial_1 (by decide) rfl rfl (by decide) rfl fl_RX11_36 ?_
  refine h_aload_n_W dX11_startTrial_4 rfl rfl ?_
  refine h_getR_W 0 1 (C := RX11) (T := TX11) (N := 18) dX11_startTrial_5 (by decide) rfl rfl (by decide) rfl fl_RX11_10 ?_
  refine h_getR_W 4 3 (C := RX6) (T := TX6) (N := 9) dX11_startTrial_8 (by decide) rfl rfl (by decide) rfl fl_RX11_137 ?_
  refine h_callV_W (T := TX3) (NN := 6) [] (v_X3_become_63_3_W) dX11_startTrial_11 kk_X11_startTrial_X3_become ml_RX11_340 mwX3_become ewX3_become (by decide) rfl rfl rfl rfl (Nat.le_of_ble_eq_true rfl) ?_
  rintro _ rfl
  refine h_aload_n_W dX11_startTrial_14 rfl rfl ?_
  refine h_getR_W 11 63 (C := RX11) (T := TX11) (N := 18) dX11_startTrial_15 (by decide) rfl rfl (by decide) rfl fl_RX11_36 ?_
  refine h_iload_n_W dX11_startTrial_18 rfl rfl ?_
  refine h_putI_W 2 (C := RX3) (T := TX3) (N := 6) (ty := .int) dX11_startTrial_19 (by decide) rfl rfl (by decide) rfl fl_RX11_153 rfl (by decide +kernel) ⟨rfl, rfl⟩ rfl ?_
  refine h_aload_n_W dX11_startTrial_22 rfl rfl ?_
  refine h_getR_W 11 63 (C := RX11) (T := TX11) (N := 18) dX11_startTrial_23 (by decide) rfl rfl (by decide) rfl fl_RX11_36 ?_
  refine h_getR_W 5 66 (C := RX3) (T := TX3) (N := 6) dX11_startTrial_26 (by decide) rfl rfl (by decide) rfl fl_RX11_191 ?_
  refine h_iconst_W (v := (nI 0)) dX11_startTrial_29 rfl ?_
  refine h_callS_W [.ref 66, .int (nI 0)] [] (v_fill_W 66 5 (nI 0) (by decide) rfl (by decide) ⟨by decide, by decide, by decide⟩) dX11_startTrial_30 kk_X11_startTrial_X11_fill ml_RX11_342 swX11_fill rfl rfl (Nat.le_of_ble_eq_true rfl) ?_
  rintro _ rfl
  exact h_ret_W dX11_startTrial_33 rfl rfl
set_option maxRecDepth 100000 in
theorem v_X11_tryFlashes_0_W (a1 : Int32) (a2 : Int32) : zs_Dd'_W MX11_tryFlashes [.ref 0, .int a1, .int a2] zs_Rv := by
  refine zs_Wof_W (by decide) (Nat.le_of_ble_eq_true rfl) ?_
  show zs_W_W MX11_tryFlashes 0 [(0, .ref 0), (1, .int a1), (2, .int a2)] [] zs_Rv
  have j7 : ∀ (n7 : Nat) (v1 : Int32) (v2 : Int32) (c7 : Int32), zs_mu c7 < n7 → zs_W_W MX11_tryFlashes 7 [(0, .ref 0), (1, .int v1), (2, .int v2), (3, .int c7)] [] zs_Rv := by
    intro n7
    induction n7 with
    | zero => intro v1 v2 c7 hn7; exact absurd hn7 (Nat.not_lt_zero _)
    | succ n7 ih7 =>
      intro v1 v2 c7 hn7
      refine h_iload_n_W dX11_tryFlashes_7 rfl rfl ?_
      refine h_iload_n_W dX11_tryFlashes_8 rfl rfl ?_
      refine h_ic_ge_W 29 dX11_tryFlashes_9 (by decide) (fun h1 => ?_) (fun h1 => ?_)
      · exact h_ret_W dX11_tryFlashes_29 rfl rfl
      · have hd7 := zs_muA h1 hn7
        refine h_aload_n_W dX11_tryFlashes_12 rfl rfl ?_
        refine h_getR_W 0 1 (C := RX11) (T := TX11) (N := 18) dX11_tryFlashes_13 (by decide) rfl rfl (by decide) rfl fl_RX11_10 ?_
        refine h_aload_n_W dX11_tryFlashes_16 rfl rfl ?_
        refine h_getR_W 11 63 (C := RX11) (T := TX11) (N := 18) dX11_tryFlashes_17 (by decide) rfl rfl (by decide) rfl fl_RX11_36 ?_
        refine h_callV_W (T := TX6) (NN := 9) [] (v_X6_flash_1_63_W) dX11_tryFlashes_20 kk_X11_tryFlashes_X6_flash ml_RX11_201 mwX6_flash ewX6_flash (by decide) rfl rfl rfl rfl (Nat.le_of_ble_eq_true rfl) ?_
        rintro _ rfl
        refine h_iinc_W (v := (c7 + Int32.ofInt 1)) (lv' := [(3, .int (c7 + Int32.ofInt 1)), (0, .ref 0), (1, .int v1), (2, .int v2)]) dX11_tryFlashes_23 rfl rfl (by decide) rfl ?_
        refine h_goto_W 7 dX11_tryFlashes_26 (by decide) ?_
        exact zs_Wlv_W (ih7 v1 v2 (c7 + Int32.ofInt 1) hd7) (zs_mc 1 rfl (zs_mc 2 rfl (zs_mc 3 rfl (zs_mc 0 rfl zs_mn))))
  refine h_aload_n_W dX11_tryFlashes_0 rfl rfl ?_
  refine h_iload_n_W dX11_tryFlashes_1 rfl rfl ?_
  refine h_callV_W (T := TX11) (NN := 18) [] (v_X11_startTrial_0_W a1) dX11_tryFlashes_2 kk_X11_tryFlashes_X11_startTrial ml_RX11_198 mwX11_startTrial ewX11_startTrial (by decide) rfl rfl rfl rfl (Nat.le_of_ble_eq_true rfl) ?_
  rintro _ rfl
  refine h_iconst_W (v := (nI 0)) dX11_tryFlashes_5 rfl ?_
  refine h_istore_n_W (lv' := [(3, .int (nI 0)), (0, .ref 0), (1, .int a1), (2, .int a2)]) dX11_tryFlashes_6 rfl (by decide) rfl ?_
  exact zs_Wlv_W (j7 _ a1 a2 (nI 0) (Nat.lt_succ_self _)) (zs_mc 1 rfl (zs_mc 2 rfl (zs_mc 3 rfl (zs_mc 0 rfl zs_mn))))
set_option maxRecDepth 100000 in
theorem v_X11_at_0_W (a1 : Int32) : zs_Dd'_W MX11_at [.ref 0, .int a1] zs_Ri := by
  refine zs_Wof_W (by decide) (Nat.le_of_ble_eq_true rfl) ?_
  show zs_W_W MX11_at 0 [(0, .ref 0), (1, .int a1)] [] zs_Ri
  refine h_iload_n_W dX11_at_0 rfl rfl ?_
  refine h_iconst_W (v := (nI 0)) dX11_at_1 rfl ?_
  refine h_bipush_W (v := (nI 60)) dX11_at_2 rfl ?_
  refine h_callS_W [.int a1, .int (nI 0), .int (nI 60)] [] (v_X11_within_W a1 (nI 0) (nI 60)) dX11_at_4 kk_X11_at_X11_within ml_RX11_75 swX11_within rfl rfl (Nat.le_of_ble_eq_true rfl) ?_
  rintro _ ⟨x1, rfl, bx1⟩
  refine h_if_ne_W 17 dX11_at_7 (by decide) (fun h2 => ?_) (fun h2 => ?_)
  · refine h_aload_n_W dX11_at_17 rfl rfl ?_
    refine h_aload_n_W dX11_at_18 rfl rfl ?_
    refine h_getR_W 0 1 (C := RX11) (T := TX11) (N := 18) dX11_at_19 (by decide) rfl rfl (by decide) rfl fl_RX11_10 ?_
    refine h_getR_W 4 3 (C := RX6) (T := TX6) (N := 9) dX11_at_22 (by decide) rfl rfl (by decide) rfl fl_RX11_137 ?_
    refine h_getI_W 2 (C := RX3) (T := TX3) (N := 6) dX11_at_25 (by decide) rfl rfl (by decide) rfl fl_RX11_153 (fun x3 => ?_)
    refine h_iload_n_W dX11_at_28 rfl rfl ?_
    refine h_callV_W (T := TX11) (NN := 18) [] (v_X11_tryFlashes_0_W x3 a1) dX11_at_29 kk_X11_at_X11_tryFlashes ml_RX11_194 mwX11_tryFlashes ewX11_tryFlashes (by decide) rfl rfl rfl rfl (Nat.le_of_ble_eq_true rfl) ?_
    rintro _ rfl
    refine h_aload_n_W dX11_at_32 rfl rfl ?_
    refine h_getR_W 11 63 (C := RX11) (T := TX11) (N := 18) dX11_at_33 (by decide) rfl rfl (by decide) rfl fl_RX11_36 ?_
    refine h_getI_W 0 (C := RX3) (T := TX3) (N := 6) dX11_at_36 (by decide) rfl rfl (by decide) rfl fl_RX11_150 (fun x4 => ?_)
    exact h_iret_W dX11_at_39 rfl rfl ⟨_, rfl⟩
  · refine h_aload_n_W dX11_at_10 rfl rfl ?_
    refine h_bipush_W (v := (-2)) dX11_at_11 rfl ?_
    refine h_callV_W (T := TX11) (NN := 18) [] (v_X11_refuseBad_0_W (-2)) dX11_at_13 kk_X11_at_X11_refuseBad ml_RX11_86 mwX11_refuseBad ewX11_refuseBad (by decide) rfl rfl rfl rfl (Nat.le_of_ble_eq_true rfl) ?_
    rintro _ ⟨x5, rfl⟩
    exact h_iret_W dX11_at_16 rfl rfl ⟨_, rfl⟩
set_option maxRecDepth 100000 in
theorem v_X11_sees_0_W (a1 : Int32) (a2 : Int32) : zs_Dd'_W MX11_sees [.ref 0, .int a1, .int a2] zs_Ri := by
  refine zs_Wof_W (by decide) (Nat.le_of_ble_eq_true rfl) ?_
  show zs_W_W MX11_sees 0 [(0, .ref 0), (1, .int a1), (2, .int a2)] [] zs_Ri
  have j18 : ∀ (v1 : Int32) (v2 : Int32), zs_W_W MX11_sees 18 [(0, .ref 0), (1, .int v1), (2, .int v2)] [] zs_Ri := by
    intro v1 v2
    refine h_aload_n_W dX11_sees_18 rfl rfl ?_
    refine h_bipush_W (v := (-2)) dX11_sees_19 rfl ?_
    refine h_callV_W (T := TX11) (NN := 18) [] (v_X11_refuseBad_0_W (-2)) dX11_sees_21 kk_X11_sees_X11_refuseBad ml_RX11_86 mwX11_refuseBad ewX11_refuseBad (by decide) rfl rfl rfl rfl (Nat.le_of_ble_eq_true rfl) ?_
    rintro _ ⟨x1, rfl⟩
    exact h_iret_W dX11_sees_24 rfl rfl ⟨_, rfl⟩
  refine h_aload_n_W dX11_sees_0 rfl rfl ?_
  refine h_iload_n_W dX11_sees_1 rfl rfl ?_
  refine h_callV_W (T := TX11) (NN := 18) [] (v_X11_isEye_0_W a1) dX11_sees_2 kk_X11_sees_X11_isEye ml_RX11_182 mwX11_isEye ewX11_isEye (by decide) rfl rfl rfl rfl (Nat.le_of_ble_eq_true rfl) ?_
  rintro _ ⟨x2, rfl, bx2⟩
  refine h_if_eq_W 18 dX11_sees_5 (by decide) (fun h3 => ?_) (fun h3 => ?_)
  · exact j18 a1 a2
  · refine h_iload_n_W dX11_sees_8 rfl rfl ?_
    refine h_iconst_W (v := (nI 0)) dX11_sees_9 rfl ?_
    refine h_bipush_W (v := (nI 60)) dX11_sees_10 rfl ?_
    refine h_callS_W [.int a2, .int (nI 0), .int (nI 60)] [] (v_X11_within_W a2 (nI 0) (nI 60)) dX11_sees_12 kk_X11_sees_X11_within ml_RX11_75 swX11_within rfl rfl (Nat.le_of_ble_eq_true rfl) ?_
    rintro _ ⟨x4, rfl, bx4⟩
    refine h_if_ne_W 25 dX11_sees_15 (by decide) (fun h5 => ?_) (fun h5 => ?_)
    · refine h_aload_n_W dX11_sees_25 rfl rfl ?_
      refine h_aload_n_W dX11_sees_26 rfl rfl ?_
      refine h_getR_W 0 1 (C := RX11) (T := TX11) (N := 18) dX11_sees_27 (by decide) rfl rfl (by decide) rfl fl_RX11_10 ?_
      refine h_getR_W 4 3 (C := RX6) (T := TX6) (N := 9) dX11_sees_30 (by decide) rfl rfl (by decide) rfl fl_RX11_137 ?_
      refine h_getI_W 2 (C := RX3) (T := TX3) (N := 6) dX11_sees_33 (by decide) rfl rfl (by decide) rfl fl_RX11_153 (fun x6 => ?_)
      refine h_iload_n_W dX11_sees_36 rfl rfl ?_
      refine h_callV_W (T := TX11) (NN := 18) [] (v_X11_tryFlashes_0_W x6 a2) dX11_sees_37 kk_X11_sees_X11_tryFlashes ml_RX11_194 mwX11_tryFlashes ewX11_tryFlashes (by decide) rfl rfl rfl rfl (Nat.le_of_ble_eq_true rfl) ?_
      rintro _ rfl
      refine h_aload_n_W dX11_sees_40 rfl rfl ?_
      refine h_getR_W 11 63 (C := RX11) (T := TX11) (N := 18) dX11_sees_41 (by decide) rfl rfl (by decide) rfl fl_RX11_36 ?_
      refine h_getR_W 4 65 (C := RX3) (T := TX3) (N := 6) dX11_sees_44 (by decide) rfl rfl (by decide) rfl fl_RX11_188 ?_
      refine h_iload_n_W dX11_sees_47 rfl rfl ?_
      refine h_callS_W [.ref 65, .int a1] [] (v_cell_W 65 5 a1 (by decide) rfl (by decide)) dX11_sees_48 kk_X11_sees_X11_cell ml_RX11_168 swX11_cell rfl rfl (Nat.le_of_ble_eq_true rfl) ?_
      rintro _ ⟨x7, rfl⟩
      exact h_iret_W dX11_sees_51 rfl rfl ⟨_, rfl⟩
    · exact j18 a1 a2
set_option maxRecDepth 100000 in
theorem v_X11_trialIsAsNow_0_W : zs_Dd'_W MX11_trialIsAsNow [.ref 0] zs_Rb := by
  refine zs_Wof_W (by decide) (Nat.le_of_ble_eq_true rfl) ?_
  show zs_W_W MX11_trialIsAsNow 0 [(0, .ref 0)] [] zs_Rb
  have j24 : ∀ (n24 : Nat) (c24 : Int32), zs_mu c24 < n24 → zs_W_W MX11_trialIsAsNow 24 [(0, .ref 0), (1, .int c24)] [] zs_Rb := by
    intro n24
    induction n24 with
    | zero => intro c24 hn24; exact absurd hn24 (Nat.not_lt_zero _)
    | succ n24 ih24 =>
      intro c24 hn24
      refine h_iload_n_W dX11_trialIsAsNow_24 rfl rfl ?_
      refine h_aload_n_W dX11_trialIsAsNow_25 rfl rfl ?_
      refine h_getR_W 0 1 (C := RX11) (T := TX11) (N := 18) dX11_trialIsAsNow_26 (by decide) rfl rfl (by decide) rfl fl_RX11_10 ?_
      refine h_getI_W 2 (C := RX6) (T := TX6) (N := 9) dX11_trialIsAsNow_29 (by decide) rfl rfl (by decide) rfl fl_RX11_90 (fun x1 => ?_)
      refine h_ic_ge_W 71 dX11_trialIsAsNow_32 (by decide) (fun h2 => ?_) (fun h2 => ?_)
      · refine h_iconst_W (v := (nI 1)) dX11_trialIsAsNow_71 rfl ?_
        exact h_iret_W dX11_trialIsAsNow_72 rfl rfl ⟨_, rfl, rfl⟩
      · have hd24 := zs_muA h2 hn24
        refine h_aload_n_W dX11_trialIsAsNow_35 rfl rfl ?_
        refine h_getR_W 11 63 (C := RX11) (T := TX11) (N := 18) dX11_trialIsAsNow_36 (by decide) rfl rfl (by decide) rfl fl_RX11_36 ?_
        refine h_getR_W 4 65 (C := RX3) (T := TX3) (N := 6) dX11_trialIsAsNow_39 (by decide) rfl rfl (by decide) rfl fl_RX11_188 ?_
        refine h_iload_n_W dX11_trialIsAsNow_42 rfl rfl ?_
        refine h_callS_W [.ref 65, .int c24] [] (v_cell_W 65 5 c24 (by decide) rfl (by decide)) dX11_trialIsAsNow_43 kk_X11_trialIsAsNow_X11_cell ml_RX11_168 swX11_cell rfl rfl (Nat.le_of_ble_eq_true rfl) ?_
        rintro _ ⟨x3, rfl⟩
        refine h_aload_n_W dX11_trialIsAsNow_46 rfl rfl ?_
        refine h_getR_W 0 1 (C := RX11) (T := TX11) (N := 18) dX11_trialIsAsNow_47 (by decide) rfl rfl (by decide) rfl fl_RX11_10 ?_
        refine h_getR_W 4 3 (C := RX6) (T := TX6) (N := 9) dX11_trialIsAsNow_50 (by decide) rfl rfl (by decide) rfl fl_RX11_137 ?_
        refine h_getR_W 4 5 (C := RX3) (T := TX3) (N := 6) dX11_trialIsAsNow_53 (by decide) rfl rfl (by decide) rfl fl_RX11_188 ?_
        refine h_iload_n_W dX11_trialIsAsNow_56 rfl rfl ?_
        refine h_callS_W [.ref 5, .int c24] [.int x3] (v_cell_W 5 5 c24 (by decide) rfl (by decide)) dX11_trialIsAsNow_57 kk_X11_trialIsAsNow_X11_cell ml_RX11_168 swX11_cell rfl rfl (Nat.le_of_ble_eq_true rfl) ?_
        rintro _ ⟨x4, rfl⟩
        refine h_ic_eq_W 65 dX11_trialIsAsNow_60 (by decide) (fun h5 => ?_) (fun h5 => ?_)
        · refine h_iinc_W (v := (c24 + Int32.ofInt 1)) (lv' := [(1, .int (c24 + Int32.ofInt 1)), (0, .ref 0)]) dX11_trialIsAsNow_65 rfl rfl (by decide) rfl ?_
          refine h_goto_W 24 dX11_trialIsAsNow_68 (by decide) ?_
          exact zs_Wlv_W (ih24 (c24 + Int32.ofInt 1) hd24) (zs_mc 1 rfl (zs_mc 0 rfl zs_mn))
        · refine h_iconst_W (v := (nI 0)) dX11_trialIsAsNow_63 rfl ?_
          exact h_iret_W dX11_trialIsAsNow_64 rfl rfl ⟨_, rfl, rfl⟩
  refine h_aload_n_W dX11_trialIsAsNow_0 rfl rfl ?_
  refine h_getR_W 11 63 (C := RX11) (T := TX11) (N := 18) dX11_trialIsAsNow_1 (by decide) rfl rfl (by decide) rfl fl_RX11_36 ?_
  refine h_getI_W 0 (C := RX3) (T := TX3) (N := 6) dX11_trialIsAsNow_4 (by decide) rfl rfl (by decide) rfl fl_RX11_150 (fun x6 => ?_)
  refine h_aload_n_W dX11_trialIsAsNow_7 rfl rfl ?_
  refine h_getR_W 0 1 (C := RX11) (T := TX11) (N := 18) dX11_trialIsAsNow_8 (by decide) rfl rfl (by decide) rfl fl_RX11_10 ?_
  refine h_getR_W 4 3 (C := RX6) (T := TX6) (N := 9) dX11_trialIsAsNow_11 (by decide) rfl rfl (by decide) rfl fl_RX11_137 ?_
  refine h_getI_W 0 (C := RX3) (T := TX3) (N := 6) dX11_trialIsAsNow_14 (by decide) rfl rfl (by decide) rfl fl_RX11_150 (fun x7 => ?_)
  refine h_ic_eq_W 22 dX11_trialIsAsNow_17 (by decide) (fun h8 => ?_) (fun h8 => ?_)
  · refine h_iconst_W (v := (nI 0)) dX11_trialIsAsNow_22 rfl ?_
    refine h_istore_n_W (lv' := [(1, .int (nI 0)), (0, .ref 0)]) dX11_trialIsAsNow_23 rfl (by decide) rfl ?_
    exact zs_Wlv_W (j24 _ (nI 0) (Nat.lt_succ_self _)) (zs_mc 1 rfl (zs_mc 0 rfl zs_mn))
  · refine h_iconst_W (v := (nI 0)) dX11_trialIsAsNow_20 rfl ?_
    exact h_iret_W dX11_trialIsAsNow_21 rfl rfl ⟨_, rfl, rfl⟩
set_option maxRecDepth 100000 in
theorem v_X11_round_0_W : zs_Dd'_W MX11_round [.ref 0] zs_Ri := by
  refine zs_Wof_W (by decide) (Nat.le_of_ble_eq_true rfl) ?_
  show zs_W_W MX11_round 0 [(0, .ref 0)] [] zs_Ri
  have j16 : ∀ (n16 : Nat) (c16 : Int32), zs_mu c16 < n16 → zs_W_W MX11_round 16 [(0, .ref 0), (1, .int c16)] [] zs_Ri := by
    intro n16
    induction n16 with
    | zero => intro c16 hn16; exact absurd hn16 (Nat.not_lt_zero _)
    | succ n16 ih16 =>
      intro c16 hn16
      refine h_iload_n_W dX11_round_16 rfl rfl ?_
      refine h_bipush_W (v := (nI 60)) dX11_round_17 rfl ?_
      refine h_ic_gt_W 48 dX11_round_19 (by decide) (fun h1 => ?_) (fun h1 => ?_)
      · refine h_iconst_W (v := (-1)) dX11_round_48 rfl ?_
        exact h_iret_W dX11_round_49 rfl rfl ⟨_, rfl⟩
      · have hd16 := zs_muB h1 (Nat.le_of_ble_eq_true rfl) hn16
        refine h_aload_n_W dX11_round_22 rfl rfl ?_
        refine h_getR_W 0 1 (C := RX11) (T := TX11) (N := 18) dX11_round_23 (by decide) rfl rfl (by decide) rfl fl_RX11_10 ?_
        refine h_aload_n_W dX11_round_26 rfl rfl ?_
        refine h_getR_W 11 63 (C := RX11) (T := TX11) (N := 18) dX11_round_27 (by decide) rfl rfl (by decide) rfl fl_RX11_36 ?_
        refine h_callV_W (T := TX6) (NN := 9) [] (v_X6_flash_1_63_W) dX11_round_30 kk_X11_round_X6_flash ml_RX11_201 mwX6_flash ewX6_flash (by decide) rfl rfl rfl rfl (Nat.le_of_ble_eq_true rfl) ?_
        rintro _ rfl
        refine h_aload_n_W dX11_round_33 rfl rfl ?_
        refine h_callV_W (T := TX11) (NN := 18) [] (v_X11_trialIsAsNow_0_W) dX11_round_34 kk_X11_round_X11_trialIsAsNow ml_RX11_203 mwX11_trialIsAsNow ewX11_trialIsAsNow (by decide) rfl rfl rfl rfl (Nat.le_of_ble_eq_true rfl) ?_
        rintro _ ⟨x2, rfl, bx2⟩
        refine h_if_eq_W 42 dX11_round_37 (by decide) (fun h3 => ?_) (fun h3 => ?_)
        · refine h_iinc_W (v := (c16 + Int32.ofInt 1)) (lv' := [(1, .int (c16 + Int32.ofInt 1)), (0, .ref 0)]) dX11_round_42 rfl rfl (by decide) rfl ?_
          refine h_goto_W 16 dX11_round_45 (by decide) ?_
          exact zs_Wlv_W (ih16 (c16 + Int32.ofInt 1) hd16) (zs_mc 1 rfl (zs_mc 0 rfl zs_mn))
        · refine h_iload_n_W dX11_round_40 rfl rfl ?_
          exact h_iret_W dX11_round_41 rfl rfl ⟨_, rfl⟩
  refine h_aload_n_W dX11_round_0 rfl rfl ?_
  refine h_aload_n_W dX11_round_1 rfl rfl ?_
  refine h_getR_W 0 1 (C := RX11) (T := TX11) (N := 18) dX11_round_2 (by decide) rfl rfl (by decide) rfl fl_RX11_10 ?_
  refine h_getR_W 4 3 (C := RX6) (T := TX6) (N := 9) dX11_round_5 (by decide) rfl rfl (by decide) rfl fl_RX11_137 ?_
  refine h_getI_W 2 (C := RX3) (T := TX3) (N := 6) dX11_round_8 (by decide) rfl rfl (by decide) rfl fl_RX11_153 (fun x4 => ?_)
  refine h_callV_W (T := TX11) (NN := 18) [] (v_X11_startTrial_0_W x4) dX11_round_11 kk_X11_round_X11_startTrial ml_RX11_198 mwX11_startTrial ewX11_startTrial (by decide) rfl rfl rfl rfl (Nat.le_of_ble_eq_true rfl) ?_
  rintro _ rfl
  refine h_iconst_W (v := (nI 1)) dX11_round_14 rfl ?_
  refine h_istore_n_W (lv' := [(1, .int (nI 1)), (0, .ref 0)]) dX11_round_15 rfl (by decide) rfl ?_
  exact zs_Wlv_W (j16 _ (nI 1) (Nat.lt_succ_self _)) (zs_mc 1 rfl (zs_mc 0 rfl zs_mn))
set_option maxRecDepth 100000 in
theorem v_X11_standsStill_0_W (a1 : Int32) (a2 : Int32) : zs_Dd'_W MX11_standsStill [.ref 0, .int a1, .int a2] zs_Rb := by
  refine zs_Wof_W (by decide) (Nat.le_of_ble_eq_true rfl) ?_
  show zs_W_W MX11_standsStill 0 [(0, .ref 0), (1, .int a1), (2, .int a2)] [] zs_Rb
  have j23 : ∀ (n23 : Nat) (v1 : Int32) (v2 : Int32) (v3 : Int32) (c23 : Int32), zs_mu c23 < n23 → zs_W_W MX11_standsStill 23 [(0, .ref 0), (1, .int v1), (2, .int v2), (3, .int v3), (4, .int c23)] [] zs_Rb := by
    intro n23
    induction n23 with
    | zero => intro v1 v2 v3 c23 hn23; exact absurd hn23 (Nat.not_lt_zero _)
    | succ n23 ih23 =>
      intro v1 v2 v3 c23 hn23
      refine h_iload_W dX11_standsStill_23 rfl ?_
      refine h_iload_n_W dX11_standsStill_25 rfl rfl ?_
      refine h_ic_ge_W 63 dX11_standsStill_26 (by decide) (fun h1 => ?_) (fun h1 => ?_)
      · refine h_iconst_W (v := (nI 1)) dX11_standsStill_63 rfl ?_
        exact h_iret_W dX11_standsStill_64 rfl rfl ⟨_, rfl, rfl⟩
      · have hd23 := zs_muA h1 hn23
        refine h_aload_n_W dX11_standsStill_29 rfl rfl ?_
        refine h_getR_W 0 1 (C := RX11) (T := TX11) (N := 18) dX11_standsStill_30 (by decide) rfl rfl (by decide) rfl fl_RX11_10 ?_
        refine h_aload_n_W dX11_standsStill_33 rfl rfl ?_
        refine h_getR_W 11 63 (C := RX11) (T := TX11) (N := 18) dX11_standsStill_34 (by decide) rfl rfl (by decide) rfl fl_RX11_36 ?_
        refine h_callV_W (T := TX6) (NN := 9) [] (v_X6_flash_1_63_W) dX11_standsStill_37 kk_X11_standsStill_X6_flash ml_RX11_201 mwX6_flash ewX6_flash (by decide) rfl rfl rfl rfl (Nat.le_of_ble_eq_true rfl) ?_
        rintro _ rfl
        refine h_aload_n_W dX11_standsStill_40 rfl rfl ?_
        refine h_getR_W 0 1 (C := RX11) (T := TX11) (N := 18) dX11_standsStill_41 (by decide) rfl rfl (by decide) rfl fl_RX11_10 ?_
        refine h_aload_n_W dX11_standsStill_44 rfl rfl ?_
        refine h_getR_W 11 63 (C := RX11) (T := TX11) (N := 18) dX11_standsStill_45 (by decide) rfl rfl (by decide) rfl fl_RX11_36 ?_
        refine h_callV_W (T := TX6) (NN := 9) [] (v_X6_drawingAtHand_1_63_W) dX11_standsStill_48 kk_X11_standsStill_X6_drawingAtHand ml_RX11_275 mwX6_drawingAtHand ewX6_drawingAtHand (by decide) rfl rfl rfl rfl (Nat.le_of_ble_eq_true rfl) ?_
        rintro _ ⟨x2, rfl⟩
        refine h_iload_n_W dX11_standsStill_51 rfl rfl ?_
        refine h_ic_eq_W 57 dX11_standsStill_52 (by decide) (fun h3 => ?_) (fun h3 => ?_)
        · refine h_iinc_W (v := (c23 + Int32.ofInt 1)) (lv' := [(4, .int (c23 + Int32.ofInt 1)), (0, .ref 0), (1, .int v1), (2, .int v2), (3, .int v3)]) dX11_standsStill_57 rfl rfl (by decide) rfl ?_
          refine h_goto_W 23 dX11_standsStill_60 (by decide) ?_
          exact zs_Wlv_W (ih23 v1 v2 v3 (c23 + Int32.ofInt 1) hd23) (zs_mc 1 rfl (zs_mc 2 rfl (zs_mc 3 rfl (zs_mc 4 rfl (zs_mc 0 rfl zs_mn)))))
        · refine h_iconst_W (v := (nI 0)) dX11_standsStill_55 rfl ?_
          exact h_iret_W dX11_standsStill_56 rfl rfl ⟨_, rfl, rfl⟩
  refine h_aload_n_W dX11_standsStill_0 rfl rfl ?_
  refine h_getR_W 0 1 (C := RX11) (T := TX11) (N := 18) dX11_standsStill_1 (by decide) rfl rfl (by decide) rfl fl_RX11_10 ?_
  refine h_aload_n_W dX11_standsStill_4 rfl rfl ?_
  refine h_getR_W 0 1 (C := RX11) (T := TX11) (N := 18) dX11_standsStill_5 (by decide) rfl rfl (by decide) rfl fl_RX11_10 ?_
  refine h_getR_W 4 3 (C := RX6) (T := TX6) (N := 9) dX11_standsStill_8 (by decide) rfl rfl (by decide) rfl fl_RX11_137 ?_
  refine h_callV_W (T := TX6) (NN := 9) [] (v_X6_drawingAtHand_1_3_W) dX11_standsStill_11 kk_X11_standsStill_X6_drawingAtHand ml_RX11_275 mwX6_drawingAtHand ewX6_drawingAtHand (by decide) rfl rfl rfl rfl (Nat.le_of_ble_eq_true rfl) ?_
  rintro _ ⟨x4, rfl⟩
  refine h_istore_n_W (lv' := [(3, .int x4), (0, .ref 0), (1, .int a1), (2, .int a2)]) dX11_standsStill_14 rfl (by decide) rfl ?_
  refine h_aload_n_W dX11_standsStill_15 rfl rfl ?_
  refine h_iload_n_W dX11_standsStill_16 rfl rfl ?_
  refine h_callV_W (T := TX11) (NN := 18) [] (v_X11_startTrial_0_W a1) dX11_standsStill_17 kk_X11_standsStill_X11_startTrial ml_RX11_198 mwX11_startTrial ewX11_startTrial (by decide) rfl rfl rfl rfl (Nat.le_of_ble_eq_true rfl) ?_
  rintro _ rfl
  refine h_iconst_W (v := (nI 0)) dX11_standsStill_20 rfl ?_
  refine h_istore_W (lv' := [(4, .int (nI 0)), (3, .int x4), (0, .ref 0), (1, .int a1), (2, .int a2)]) dX11_standsStill_21 (by decide) rfl ?_
  exact zs_Wlv_W (j23 _ a1 a2 x4 (nI 0) (Nat.lt_succ_self _)) (zs_mc 2 rfl (zs_mc 3 rfl (zs_mc 4 rfl (zs_mc 1 rfl (zs_mc 0 rfl zs_mn)))))
set_option maxRecDepth 100000 in
theorem v_X11_still_0_W (a1 : Int32) : zs_Dd'_W MX11_still [.ref 0, .int a1] zs_Ri := by
  refine zs_Wof_W (by decide) (Nat.le_of_ble_eq_true rfl) ?_
  show zs_W_W MX11_still 0 [(0, .ref 0), (1, .int a1)] [] zs_Ri
  have j21 : ∀ (n21 : Nat) (v1 : Int32) (v2 : Int32) (c21 : Int32), zs_mu c21 < n21 → zs_W_W MX11_still 21 [(0, .ref 0), (1, .int v1), (2, .int v2), (3, .int c21)] [] zs_Ri := by
    intro n21
    induction n21 with
    | zero => intro v1 v2 c21 hn21; exact absurd hn21 (Nat.not_lt_zero _)
    | succ n21 ih21 =>
      intro v1 v2 c21 hn21
      have j42 : zs_mu (c21 + Int32.ofInt 1) < n21 → ∀ (v1 : Int32) (v2 : Int32), zs_W_W MX11_still 42 [(0, .ref 0), (1, .int v1), (2, .int v2), (3, .int c21)] [] zs_Ri := by
        intro hd21 v1 v2
        refine h_iinc_W (v := (c21 + Int32.ofInt 1)) (lv' := [(3, .int (c21 + Int32.ofInt 1)), (0, .ref 0), (1, .int v1), (2, .int v2)]) dX11_still_42 rfl rfl (by decide) rfl ?_
        refine h_goto_W 21 dX11_still_45 (by decide) ?_
        exact zs_Wlv_W (ih21 v1 v2 (c21 + Int32.ofInt 1) hd21) (zs_mc 1 rfl (zs_mc 2 rfl (zs_mc 3 rfl (zs_mc 0 rfl zs_mn))))
      refine h_iload_n_W dX11_still_21 rfl rfl ?_
      refine h_bipush_W (v := (nI 12)) dX11_still_22 rfl ?_
      refine h_ic_ge_W 48 dX11_still_24 (by decide) (fun h1 => ?_) (fun h1 => ?_)
      · refine h_iload_n_W dX11_still_48 rfl rfl ?_
        exact h_iret_W dX11_still_49 rfl rfl ⟨_, rfl⟩
      · have hd21 := zs_muA h1 hn21
        refine h_aload_n_W dX11_still_27 rfl rfl ?_
        refine h_iload_n_W dX11_still_28 rfl rfl ?_
        refine h_iload_n_W dX11_still_29 rfl rfl ?_
        refine h_callV_W (T := TX11) (NN := 18) [] (v_X11_standsStill_0_W c21 v1) dX11_still_30 kk_X11_still_X11_standsStill ml_RX11_206 mwX11_standsStill ewX11_standsStill (by decide) rfl rfl rfl rfl (Nat.le_of_ble_eq_true rfl) ?_
        rintro _ ⟨x2, rfl, bx2⟩
        refine h_if_eq_W 42 dX11_still_33 (by decide) (fun h3 => ?_) (fun h3 => ?_)
        · exact j42 hd21 v1 v2
        · refine h_iload_n_W dX11_still_36 rfl rfl ?_
          refine h_iconst_W (v := (nI 1)) dX11_still_37 rfl ?_
          refine h_iload_n_W dX11_still_38 rfl rfl ?_
          refine h_ishl_W dX11_still_39 (fun x4 => ?_)
          refine h_ior_W dX11_still_40 (fun x5 => ?_)
          refine h_istore_n_W (lv' := [(2, .int x5), (0, .ref 0), (1, .int v1), (3, .int c21)]) dX11_still_41 rfl (by decide) rfl ?_
          exact zs_Wlv_W (j42 hd21 v1 x5) (zs_mc 1 rfl (zs_mc 2 rfl (zs_mc 0 rfl (zs_mc 3 rfl zs_mn))))
  refine h_iload_n_W dX11_still_0 rfl rfl ?_
  refine h_iconst_W (v := (nI 1)) dX11_still_1 rfl ?_
  refine h_bipush_W (v := (nI 60)) dX11_still_2 rfl ?_
  refine h_callS_W [.int a1, .int (nI 1), .int (nI 60)] [] (v_X11_within_W a1 (nI 1) (nI 60)) dX11_still_4 kk_X11_still_X11_within ml_RX11_75 swX11_within rfl rfl (Nat.le_of_ble_eq_true rfl) ?_
  rintro _ ⟨x6, rfl, bx6⟩
  refine h_if_ne_W 17 dX11_still_7 (by decide) (fun h7 => ?_) (fun h7 => ?_)
  · refine h_iconst_W (v := (nI 0)) dX11_still_17 rfl ?_
    refine h_istore_n_W (lv' := [(2, .int (nI 0)), (0, .ref 0), (1, .int a1)]) dX11_still_18 rfl (by decide) rfl ?_
    refine h_iconst_W (v := (nI 0)) dX11_still_19 rfl ?_
    refine h_istore_n_W (lv' := [(3, .int (nI 0)), (2, .int (nI 0)), (0, .ref 0), (1, .int a1)]) dX11_still_20 rfl (by decide) rfl ?_
    exact zs_Wlv_W (j21 _ a1 (nI 0) (nI 0) (Nat.lt_succ_self _)) (zs_mc 2 rfl (zs_mc 3 rfl (zs_mc 1 rfl (zs_mc 0 rfl zs_mn))))
  · refine h_aload_n_W dX11_still_10 rfl rfl ?_
    refine h_bipush_W (v := (-2)) dX11_still_11 rfl ?_
    refine h_callV_W (T := TX11) (NN := 18) [] (v_X11_refuseBad_0_W (-2)) dX11_still_13 kk_X11_still_X11_refuseBad ml_RX11_86 mwX11_refuseBad ewX11_refuseBad (by decide) rfl rfl rfl rfl (Nat.le_of_ble_eq_true rfl) ?_
    rintro _ ⟨x8, rfl⟩
    exact h_iret_W dX11_still_16 rfl rfl ⟨_, rfl⟩
set_option maxRecDepth 100000 in
theorem v_X11_most_0_W (a1 : Int32) (a2 : Int32) (a3 : Int32) : zs_Dd'_W MX11_most [.ref 0, .int a1, .int a2, .int a3] zs_Ri := by
  refine zs_Wof_W (by decide) (Nat.le_of_ble_eq_true rfl) ?_
  show zs_W_W MX11_most 0 [(0, .ref 0), (1, .int a1), (2, .int a2), (3, .int a3)] [] zs_Ri
  have j43 : ∀ (n43 : Nat) (v1 : Int32) (v2 : Int32) (v3 : Int32) (v4 : Int32) (v5 : Int32) (c43 : Int32), zs_mu c43 < n43 → zs_W_W MX11_most 43 [(0, .ref 0), (1, .int v1), (2, .int v2), (3, .int v3), (4, .int v4), (5, .int v5), (6, .int c43)] [] zs_Ri := by
    intro n43
    induction n43 with
    | zero => intro v1 v2 v3 v4 v5 c43 hn43; exact absurd hn43 (Nat.not_lt_zero _)
    | succ n43 ih43 =>
      intro v1 v2 v3 v4 v5 c43 hn43
      have j85 : zs_mu (c43 + Int32.ofInt 1) < n43 → ∀ (v1 : Int32) (v2 : Int32) (v3 : Int32) (v4 : Int32) (v5 : Int32) (v7 : Int32), zs_W_W MX11_most 85 [(0, .ref 0), (1, .int v1), (2, .int v2), (3, .int v3), (4, .int v4), (5, .int v5), (6, .int c43), (7, .int v7)] [] zs_Ri := by
        intro hd43 v1 v2 v3 v4 v5 v7
        refine h_iinc_W (v := (c43 + Int32.ofInt 1)) (lv' := [(6, .int (c43 + Int32.ofInt 1)), (0, .ref 0), (1, .int v1), (2, .int v2), (3, .int v3), (4, .int v4), (5, .int v5), (7, .int v7)]) dX11_most_85 rfl rfl (by decide) rfl ?_
        refine h_goto_W 43 dX11_most_88 (by decide) ?_
        exact zs_Wlv_W (ih43 v1 v2 v3 v4 v5 (c43 + Int32.ofInt 1) hd43) (zs_mc 1 rfl (zs_mc 2 rfl (zs_mc 3 rfl (zs_mc 4 rfl (zs_mc 5 rfl (zs_mc 6 rfl (zs_mc 0 rfl zs_mn)))))))
      refine h_iload_W dX11_most_43 rfl ?_
      refine h_bipush_W (v := (nI 12)) dX11_most_45 rfl ?_
      refine h_ic_ge_W 91 dX11_most_47 (by decide) (fun h1 => ?_) (fun h1 => ?_)
      · refine h_iload_n_W dX11_most_91 rfl rfl ?_
        refine h_if_ne_W 100 dX11_most_92 (by decide) (fun h2 => ?_) (fun h2 => ?_)
        · refine h_iload_W dX11_most_100 rfl ?_
          exact h_iret_W dX11_most_102 rfl rfl ⟨_, rfl⟩
        · refine h_iload_W dX11_most_95 rfl ?_
          refine h_goto_W 102 dX11_most_97 (by decide) ?_
          exact h_iret_W dX11_most_102 rfl rfl ⟨_, rfl⟩
      · have hd43 := zs_muA h1 hn43
        refine h_aload_n_W dX11_most_50 rfl rfl ?_
        refine h_iload_W dX11_most_51 rfl ?_
        refine h_iload_n_W dX11_most_53 rfl rfl ?_
        refine h_callV_W (T := TX11) (NN := 18) [] (v_X11_tryFlashes_0_W c43 v2) dX11_most_54 kk_X11_most_X11_tryFlashes ml_RX11_194 mwX11_tryFlashes ewX11_tryFlashes (by decide) rfl rfl rfl rfl (Nat.le_of_ble_eq_true rfl) ?_
        rintro _ rfl
        refine h_aload_n_W dX11_most_57 rfl rfl ?_
        refine h_getR_W 11 63 (C := RX11) (T := TX11) (N := 18) dX11_most_58 (by decide) rfl rfl (by decide) rfl fl_RX11_36 ?_
        refine h_getR_W 5 66 (C := RX3) (T := TX3) (N := 6) dX11_most_61 (by decide) rfl rfl (by decide) rfl fl_RX11_191 ?_
        refine h_iload_n_W dX11_most_64 rfl rfl ?_
        refine h_callS_W [.ref 66, .int v1] [] (v_cell_W 66 5 v1 (by decide) rfl (by decide)) dX11_most_65 kk_X11_most_X11_cell ml_RX11_168 swX11_cell rfl rfl (Nat.le_of_ble_eq_true rfl) ?_
        rintro _ ⟨x3, rfl⟩
        refine h_istore_W (lv' := [(7, .int x3), (0, .ref 0), (1, .int v1), (2, .int v2), (3, .int v3), (4, .int v4), (5, .int v5), (6, .int c43)]) dX11_most_68 (by decide) rfl ?_
        refine h_iload_W dX11_most_70 rfl ?_
        refine h_iload_W dX11_most_72 rfl ?_
        refine h_ic_le_W 85 dX11_most_74 (by decide) (fun h4 => ?_) (fun h4 => ?_)
        · exact zs_Wlv_W (j85 hd43 v1 v2 v3 v4 v5 x3) (zs_mc 1 rfl (zs_mc 2 rfl (zs_mc 3 rfl (zs_mc 4 rfl (zs_mc 5 rfl (zs_mc 6 rfl (zs_mc 7 rfl (zs_mc 0 rfl zs_mn))))))))
        · refine h_iload_W dX11_most_77 rfl ?_
          refine h_istore_W (lv' := [(5, .int x3), (7, .int x3), (0, .ref 0), (1, .int v1), (2, .int v2), (3, .int v3), (4, .int v4), (6, .int c43)]) dX11_most_79 (by decide) rfl ?_
          refine h_iload_W dX11_most_81 rfl ?_
          refine h_istore_W (lv' := [(4, .int c43), (5, .int x3), (7, .int x3), (0, .ref 0), (1, .int v1), (2, .int v2), (3, .int v3), (6, .int c43)]) dX11_most_83 (by decide) rfl ?_
          exact zs_Wlv_W (j85 hd43 v1 v2 v3 c43 x3 x3) (zs_mc 3 rfl (zs_mc 4 rfl (zs_mc 5 rfl (zs_mc 6 rfl (zs_mc 0 rfl (zs_mc 1 rfl (zs_mc 7 rfl (zs_mc 2 rfl zs_mn))))))))
  have j27 : ∀ (v1 : Int32) (v2 : Int32) (v3 : Int32), zs_W_W MX11_most 27 [(0, .ref 0), (1, .int v1), (2, .int v2), (3, .int v3)] [] zs_Ri := by
    intro v1 v2 v3
    refine h_aload_n_W dX11_most_27 rfl rfl ?_
    refine h_bipush_W (v := (-2)) dX11_most_28 rfl ?_
    refine h_callV_W (T := TX11) (NN := 18) [] (v_X11_refuseBad_0_W (-2)) dX11_most_30 kk_X11_most_X11_refuseBad ml_RX11_86 mwX11_refuseBad ewX11_refuseBad (by decide) rfl rfl rfl rfl (Nat.le_of_ble_eq_true rfl) ?_
    rintro _ ⟨x5, rfl⟩
    exact h_iret_W dX11_most_33 rfl rfl ⟨_, rfl⟩
  refine h_aload_n_W dX11_most_0 rfl rfl ?_
  refine h_iload_n_W dX11_most_1 rfl rfl ?_
  refine h_callV_W (T := TX11) (NN := 18) [] (v_X11_isEye_0_W a1) dX11_most_2 kk_X11_most_X11_isEye ml_RX11_182 mwX11_isEye ewX11_isEye (by decide) rfl rfl rfl rfl (Nat.le_of_ble_eq_true rfl) ?_
  rintro _ ⟨x6, rfl, bx6⟩
  refine h_if_eq_W 27 dX11_most_5 (by decide) (fun h7 => ?_) (fun h7 => ?_)
  · exact j27 a1 a2 a3
  · refine h_iload_n_W dX11_most_8 rfl rfl ?_
    refine h_iconst_W (v := (nI 1)) dX11_most_9 rfl ?_
    refine h_bipush_W (v := (nI 60)) dX11_most_10 rfl ?_
    refine h_callS_W [.int a2, .int (nI 1), .int (nI 60)] [] (v_X11_within_W a2 (nI 1) (nI 60)) dX11_most_12 kk_X11_most_X11_within ml_RX11_75 swX11_within rfl rfl (Nat.le_of_ble_eq_true rfl) ?_
    rintro _ ⟨x8, rfl, bx8⟩
    refine h_if_eq_W 27 dX11_most_15 (by decide) (fun h9 => ?_) (fun h9 => ?_)
    · exact j27 a1 a2 a3
    · refine h_iload_n_W dX11_most_18 rfl rfl ?_
      refine h_iconst_W (v := (nI 0)) dX11_most_19 rfl ?_
      refine h_iconst_W (v := (nI 1)) dX11_most_20 rfl ?_
      refine h_callS_W [.int a3, .int (nI 0), .int (nI 1)] [] (v_X11_within_W a3 (nI 0) (nI 1)) dX11_most_21 kk_X11_most_X11_within ml_RX11_75 swX11_within rfl rfl (Nat.le_of_ble_eq_true rfl) ?_
      rintro _ ⟨x10, rfl, bx10⟩
      refine h_if_ne_W 34 dX11_most_24 (by decide) (fun h11 => ?_) (fun h11 => ?_)
      · refine h_iconst_W (v := (nI 0)) dX11_most_34 rfl ?_
        refine h_istore_W (lv' := [(4, .int (nI 0)), (0, .ref 0), (1, .int a1), (2, .int a2), (3, .int a3)]) dX11_most_35 (by decide) rfl ?_
        refine h_iconst_W (v := (-1)) dX11_most_37 rfl ?_
        refine h_istore_W (lv' := [(5, .int (-1)), (4, .int (nI 0)), (0, .ref 0), (1, .int a1), (2, .int a2), (3, .int a3)]) dX11_most_38 (by decide) rfl ?_
        refine h_iconst_W (v := (nI 0)) dX11_most_40 rfl ?_
        refine h_istore_W (lv' := [(6, .int (nI 0)), (5, .int (-1)), (4, .int (nI 0)), (0, .ref 0), (1, .int a1), (2, .int a2), (3, .int a3)]) dX11_most_41 (by decide) rfl ?_
        exact zs_Wlv_W (j43 _ a1 a2 a3 (nI 0) (-1) (nI 0) (Nat.lt_succ_self _)) (zs_mc 3 rfl (zs_mc 4 rfl (zs_mc 5 rfl (zs_mc 6 rfl (zs_mc 2 rfl (zs_mc 1 rfl (zs_mc 0 rfl zs_mn)))))))
      · exact j27 a1 a2 a3
set_option maxRecDepth 100000 in
theorem v_X8_cost_67_W (a1 : Int32) (a2 : Int32) : zs_Dd'_W MX8_cost [.ref 67, .int a1, .int a2] zs_Ri := by
  refine zs_Wof_W (by decide) (Nat.le_of_ble_eq_true rfl) ?_
  show zs_W_W MX8_cost 0 [(0, .ref 67), (1, .int a1), (2, .int a2)] [] zs_Ri
  refine h_aload_n_W dX8_cost_0 rfl rfl ?_
  refine h_getR_W 0 68 (C := RX8) (T := TX8) (N := 3) dX8_cost_1 (by decide) rfl rfl (by decide) rfl fl_RX8_9 ?_
  refine h_iload_n_W dX8_cost_4 rfl rfl ?_
  refine h_bipush_W (v := (nI 10)) dX8_cost_5 rfl ?_
  refine h_imul_W dX8_cost_7 (fun x1 => ?_)
  refine h_iload_n_W dX8_cost_8 rfl rfl ?_
  refine h_iadd_W dX8_cost_9 (fun x2 => ?_)
  refine h_callN_W [.ref 68, .int x2] [] (v_cell_W 68 120 x2 (by decide) rfl (by decide)) dX8_cost_10 kk_X8_cost_X11_cell nl_RX8_34 swX11_cell rfl rfl (Nat.le_of_ble_eq_true rfl) ?_
  rintro _ ⟨x3, rfl⟩
  exact h_iret_W dX8_cost_13 rfl rfl ⟨_, rfl⟩
set_option maxRecDepth 100000 in
theorem v_X8_bestBeside_67_W (a1 : Int32) (a2 : Int32) : zs_Dd'_W MX8_bestBeside [.ref 67, .int a1, .int a2] zs_Ri := by
  refine zs_Wof_W (by decide) (Nat.le_of_ble_eq_true rfl) ?_
  show zs_W_W MX8_bestBeside 0 [(0, .ref 67), (1, .int a1), (2, .int a2)] [] zs_Ri
  have j14 : ∀ (n14 : Nat) (v1 : Int32) (v2 : Int32) (v3 : Int32) (v4 : Int32) (c14 : Int32), zs_mu c14 < n14 → zs_W_W MX8_bestBeside 14 [(0, .ref 67), (1, .int v1), (2, .int v2), (3, .int v3), (4, .int v4), (5, .int c14)] [] zs_Ri := by
    intro n14
    induction n14 with
    | zero => intro v1 v2 v3 v4 c14 hn14; exact absurd hn14 (Nat.not_lt_zero _)
    | succ n14 ih14 =>
      intro v1 v2 v3 v4 c14 hn14
      have j50 : zs_mu (c14 + Int32.ofInt 1) < n14 → ∀ (v1 : Int32) (v2 : Int32) (v3 : Int32) (v4 : Int32), zs_W_W MX8_bestBeside 50 [(0, .ref 67), (1, .int v1), (2, .int v2), (3, .int v3), (4, .int v4), (5, .int c14)] [] zs_Ri := by
        intro hd14 v1 v2 v3 v4
        refine h_iinc_W (v := (c14 + Int32.ofInt 1)) (lv' := [(5, .int (c14 + Int32.ofInt 1)), (0, .ref 67), (1, .int v1), (2, .int v2), (3, .int v3), (4, .int v4)]) dX8_bestBeside_50 rfl rfl (by decide) rfl ?_
        refine h_goto_W 14 dX8_bestBeside_53 (by decide) ?_
        exact zs_Wlv_W (ih14 v1 v2 v3 v4 (c14 + Int32.ofInt 1) hd14) (zs_mc 1 rfl (zs_mc 2 rfl (zs_mc 3 rfl (zs_mc 4 rfl (zs_mc 5 rfl (zs_mc 0 rfl zs_mn))))))
      refine h_iload_W dX8_bestBeside_14 rfl ?_
      refine h_iload_n_W dX8_bestBeside_16 rfl rfl ?_
      refine h_iconst_W (v := (nI 1)) dX8_bestBeside_17 rfl ?_
      refine h_iadd_W dX8_bestBeside_18 (fun x1 => ?_)
      refine h_ic_gt_W 56 dX8_bestBeside_19 (by decide) (fun h2 => ?_) (fun h2 => ?_)
      · refine h_iload_W dX8_bestBeside_56 rfl ?_
        exact h_iret_W dX8_bestBeside_58 rfl rfl ⟨_, rfl⟩
      · refine h_iload_W dX8_bestBeside_22 rfl ?_
        refine h_bipush_W (v := (nI 10)) dX8_bestBeside_24 rfl ?_
        refine h_ic_ge_W 56 dX8_bestBeside_26 (by decide) (fun h3 => ?_) (fun h3 => ?_)
        · refine h_iload_W dX8_bestBeside_56 rfl ?_
          exact h_iret_W dX8_bestBeside_58 rfl rfl ⟨_, rfl⟩
        · have hd14 := zs_muA h3 hn14
          refine h_aload_n_W dX8_bestBeside_29 rfl rfl ?_
          refine h_iload_n_W dX8_bestBeside_30 rfl rfl ?_
          refine h_iload_W dX8_bestBeside_31 rfl ?_
          refine h_callV_W (T := TX8) (NN := 3) [] (v_X8_cost_67_W v1 c14) dX8_bestBeside_33 kk_X8_bestBeside_X8_cost ml_RX8_27 mwX8_cost ewX8_cost (by decide) rfl rfl rfl rfl (Nat.le_of_ble_eq_true rfl) ?_
          rintro _ ⟨x4, rfl⟩
          refine h_aload_n_W dX8_bestBeside_36 rfl rfl ?_
          refine h_iload_n_W dX8_bestBeside_37 rfl rfl ?_
          refine h_iload_W dX8_bestBeside_38 rfl ?_
          refine h_callV_W (T := TX8) (NN := 3) [.int x4] (v_X8_cost_67_W v1 v4) dX8_bestBeside_40 kk_X8_bestBeside_X8_cost ml_RX8_27 mwX8_cost ewX8_cost (by decide) rfl rfl rfl rfl (Nat.le_of_ble_eq_true rfl) ?_
          rintro _ ⟨x5, rfl⟩
          refine h_ic_ge_W 50 dX8_bestBeside_43 (by decide) (fun h6 => ?_) (fun h6 => ?_)
          · exact j50 hd14 v1 v2 v3 v4
          · refine h_iload_W dX8_bestBeside_46 rfl ?_
            refine h_istore_W (lv' := [(4, .int c14), (0, .ref 67), (1, .int v1), (2, .int v2), (3, .int v3), (5, .int c14)]) dX8_bestBeside_48 (by decide) rfl ?_
            exact zs_Wlv_W (j50 hd14 v1 v2 v3 c14) (zs_mc 1 rfl (zs_mc 2 rfl (zs_mc 3 rfl (zs_mc 4 rfl (zs_mc 0 rfl (zs_mc 5 rfl zs_mn))))))
  refine h_iconst_W (v := (nI 0)) dX8_bestBeside_0 rfl ?_
  refine h_iload_n_W dX8_bestBeside_1 rfl rfl ?_
  refine h_iconst_W (v := (nI 1)) dX8_bestBeside_2 rfl ?_
  refine h_isub_W dX8_bestBeside_3 (fun x7 => ?_)
  refine h_callS_W [.int (nI 0), .int x7] [] (v_J9_max_7cf53_W (nI 0) x7) dX8_bestBeside_4 kk_X8_bestBeside_J9_max_7cf53 ml_RX8_53 swJ9_max_7cf53 rfl rfl (Nat.le_of_ble_eq_true rfl) ?_
  rintro _ ⟨x8, rfl⟩
  refine h_istore_n_W (lv' := [(3, .int x8), (0, .ref 67), (1, .int a1), (2, .int a2)]) dX8_bestBeside_7 rfl (by decide) rfl ?_
  refine h_iload_n_W dX8_bestBeside_8 rfl rfl ?_
  refine h_istore_W (lv' := [(4, .int x8), (3, .int x8), (0, .ref 67), (1, .int a1), (2, .int a2)]) dX8_bestBeside_9 (by decide) rfl ?_
  refine h_iload_n_W dX8_bestBeside_11 rfl rfl ?_
  refine h_istore_W (lv' := [(5, .int x8), (4, .int x8), (3, .int x8), (0, .ref 67), (1, .int a1), (2, .int a2)]) dX8_bestBeside_12 (by decide) rfl ?_
  exact zs_Wlv_W (j14 _ a1 a2 x8 x8 x8 (Nat.lt_succ_self _)) (zs_mc 3 rfl (zs_mc 4 rfl (zs_mc 5 rfl (zs_mc 2 rfl (zs_mc 1 rfl (zs_mc 0 rfl zs_mn))))))
set_option maxRecDepth 100000 in
theorem v_X8_closing_W (a1 : Int32) (a2 : Int32) : zs_Dd'_W MX8_closing [.int a1, .int a2] zs_Ri := by
  refine zs_Wof_W (by decide) (Nat.le_of_ble_eq_true rfl) ?_
  show zs_W_W MX8_closing 0 [(0, .int a1), (1, .int a2)] [] zs_Ri
  refine h_iload_n_W dX8_closing_0 rfl rfl ?_
  refine h_iload_n_W dX8_closing_1 rfl rfl ?_
  refine h_isub_W dX8_closing_2 (fun x1 => ?_)
  refine h_callS_W [.int x1] [] (v_J9_abs_0f7a4_W x1) dX8_closing_3 kk_X8_closing_J9_abs_0f7a4 ml_RX8_49 swJ9_abs_0f7a4 rfl rfl (Nat.le_of_ble_eq_true rfl) ?_
  rintro _ ⟨x2, rfl⟩
  refine h_iconst_W (v := (nI 1)) dX8_closing_6 rfl ?_
  refine h_ic_gt_W 14 dX8_closing_7 (by decide) (fun h3 => ?_) (fun h3 => ?_)
  · refine h_ldc_W (v := (nI 1000000)) dX8_closing_14 cl_RX8_18 ?_
    exact h_iret_W dX8_closing_16 rfl rfl ⟨_, rfl⟩
  · refine h_iconst_W (v := (nI 0)) dX8_closing_10 rfl ?_
    refine h_goto_W 16 dX8_closing_11 (by decide) ?_
    exact h_iret_W dX8_closing_16 rfl rfl ⟨_, rfl⟩
set_option maxRecDepth 100000 in
theorem v_X8_fillCosts_67_4_W (a1 : Int32) (a2 : Int32) : zs_Dd'_W MX8_fillCosts [.ref 67, .ref 4, .int a1, .int a2] zs_Rv := by
  refine zs_Wof_W (by decide) (Nat.le_of_ble_eq_true rfl) ?_
  show zs_W_W MX8_fillCosts 0 [(0, .ref 67), (1, .ref 4), (2, .int a1), (3, .int a2)] [] zs_Rv
  have j5 : ∀ (n5 : Nat) (v2 : Int32) (v3 : Int32) (c5 : Int32), zs_md c5 < n5 → zs_W_W MX8_fillCosts 5 [(0, .ref 67), (1, .ref 4), (2, .int v2), (3, .int v3), (4, .int c5)] [] zs_Rv := by
    intro n5
    induction n5 with
    | zero => intro v2 v3 c5 hn5; exact absurd hn5 (Nat.not_lt_zero _)
    | succ n5 ih5 =>
      intro v2 v3 c5 hn5
      have j13 : zs_md (c5 + Int32.ofInt (-1)) < n5 → ∀ (n13 : Nat) (v2 : Int32) (v3 : Int32) (c13 : Int32), zs_mu c13 < n13 → zs_W_W MX8_fillCosts 13 [(0, .ref 67), (1, .ref 4), (2, .int v2), (3, .int v3), (4, .int c5), (5, .int c13)] [] zs_Rv := by
        intro hd5 n13
        induction n13 with
        | zero => intro v2 v3 c13 hn13; exact absurd hn13 (Nat.not_lt_zero _)
        | succ n13 ih13 =>
          intro v2 v3 c13 hn13
          have j73 : zs_md (c5 + Int32.ofInt (-1)) < n5 → zs_mu (c13 + Int32.ofInt 1) < n13 → ∀ (v2 : Int32) (v3 : Int32) (v6 : Int32) (s0 : Int32), zs_W_W MX8_fillCosts 73 [(0, .ref 67), (1, .ref 4), (2, .int v2), (3, .int v3), (4, .int c5), (5, .int c13), (6, .int v6)] [.int s0] zs_Rv := by
            intro hd5 hd13 v2 v3 v6 s0
            refine h_istore_W (lv' := [(7, .int s0), (0, .ref 67), (1, .ref 4), (2, .int v2), (3, .int v3), (4, .int c5), (5, .int c13), (6, .int v6)]) dX8_fillCosts_73 (by decide) rfl ?_
            refine h_aload_n_W dX8_fillCosts_75 rfl rfl ?_
            refine h_getR_W 0 68 (C := RX8) (T := TX8) (N := 3) dX8_fillCosts_76 (by decide) rfl rfl (by decide) rfl fl_RX8_9 ?_
            refine h_iload_W dX8_fillCosts_79 rfl ?_
            refine h_bipush_W (v := (nI 10)) dX8_fillCosts_81 rfl ?_
            refine h_imul_W dX8_fillCosts_83 (fun x1 => ?_)
            refine h_iload_W dX8_fillCosts_84 rfl ?_
            refine h_iadd_W dX8_fillCosts_86 (fun x2 => ?_)
            refine h_ldc_W (v := (nI 1000000)) dX8_fillCosts_87 cl_RX8_18 ?_
            refine h_iload_W dX8_fillCosts_89 rfl ?_
            refine h_iload_W dX8_fillCosts_91 rfl ?_
            refine h_iadd_W dX8_fillCosts_93 (fun x3 => ?_)
            refine h_callS_W [.int (nI 1000000), .int x3] [.int x2, .ref 68] (v_J9_min_7cf53_W (nI 1000000) x3) dX8_fillCosts_94 kk_X8_fillCosts_J9_min_7cf53 ml_RX8_44 swJ9_min_7cf53 rfl rfl (Nat.le_of_ble_eq_true rfl) ?_
            rintro _ ⟨x4, rfl⟩
            refine h_callN_W [.ref 68, .int x2, .int x4] [] (v_put_W 68 120 x2 x4 (by decide) rfl (by decide) ⟨by decide, by decide, by decide⟩) dX8_fillCosts_97 kk_X8_fillCosts_X11_put nl_RX8_31 swX11_put rfl rfl (Nat.le_of_ble_eq_true rfl) ?_
            rintro _ rfl
            refine h_iinc_W (v := (c13 + Int32.ofInt 1)) (lv' := [(5, .int (c13 + Int32.ofInt 1)), (7, .int s0), (0, .ref 67), (1, .ref 4), (2, .int v2), (3, .int v3), (4, .int c5), (6, .int v6)]) dX8_fillCosts_100 rfl rfl (by decide) rfl ?_
            refine h_goto_W 13 dX8_fillCosts_103 (by decide) ?_
            exact zs_Wlv_W (ih13 v2 v3 (c13 + Int32.ofInt 1) hd13) (zs_mc 2 rfl (zs_mc 3 rfl (zs_mc 4 rfl (zs_mc 5 rfl (zs_mc 6 rfl (zs_mc 0 rfl zs_mn))))))
          have j36 : zs_md (c5 + Int32.ofInt (-1)) < n5 → zs_mu (c13 + Int32.ofInt 1) < n13 → ∀ (v2 : Int32) (v3 : Int32) (s0 : Int32), zs_W_W MX8_fillCosts 36 [(0, .ref 67), (1, .ref 4), (2, .int v2), (3, .int v3), (4, .int c5), (5, .int c13)] [.int s0] zs_Rv := by
            intro hd5 hd13 v2 v3 s0
            refine h_istore_W (lv' := [(6, .int s0), (0, .ref 67), (1, .ref 4), (2, .int v2), (3, .int v3), (4, .int c5), (5, .int c13)]) dX8_fillCosts_36 (by decide) rfl ?_
            refine h_iload_W dX8_fillCosts_38 rfl ?_
            refine h_iload_n_W dX8_fillCosts_40 rfl rfl ?_
            refine h_iconst_W (v := (nI 1)) dX8_fillCosts_41 rfl ?_
            refine h_isub_W dX8_fillCosts_42 (fun x5 => ?_)
            refine h_ic_ne_W 55 dX8_fillCosts_43 (by decide) (fun h6 => ?_) (fun h6 => ?_)
            · refine h_aload_n_W dX8_fillCosts_55 rfl rfl ?_
              refine h_iload_W dX8_fillCosts_56 rfl ?_
              refine h_iconst_W (v := (nI 1)) dX8_fillCosts_58 rfl ?_
              refine h_iadd_W dX8_fillCosts_59 (fun x7 => ?_)
              refine h_aload_n_W dX8_fillCosts_60 rfl rfl ?_
              refine h_iload_W dX8_fillCosts_61 rfl ?_
              refine h_iconst_W (v := (nI 1)) dX8_fillCosts_63 rfl ?_
              refine h_iadd_W dX8_fillCosts_64 (fun x8 => ?_)
              refine h_iload_W dX8_fillCosts_65 rfl ?_
              refine h_callV_W (T := TX8) (NN := 3) [.int x7, .ref 67] (v_X8_bestBeside_67_W x8 c13) dX8_fillCosts_67 kk_X8_fillCosts_X8_bestBeside ml_RX8_38 mwX8_bestBeside ewX8_bestBeside (by decide) rfl rfl rfl rfl (Nat.le_of_ble_eq_true rfl) ?_
              rintro _ ⟨x9, rfl⟩
              refine h_callV_W (T := TX8) (NN := 3) [] (v_X8_cost_67_W x7 x9) dX8_fillCosts_70 kk_X8_fillCosts_X8_cost ml_RX8_27 mwX8_cost ewX8_cost (by decide) rfl rfl rfl rfl (Nat.le_of_ble_eq_true rfl) ?_
              rintro _ ⟨x10, rfl⟩
              exact zs_Wlv_W (j73 hd5 hd13 v2 v3 s0 x10) (zs_mc 1 rfl (zs_mc 2 rfl (zs_mc 3 rfl (zs_mc 4 rfl (zs_mc 5 rfl (zs_mc 6 rfl (zs_mc 0 rfl zs_mn)))))))
            · refine h_iload_W dX8_fillCosts_46 rfl ?_
              refine h_iload_n_W dX8_fillCosts_48 rfl rfl ?_
              refine h_callS_W [.int c13, .int v3] [] (v_X8_closing_W c13 v3) dX8_fillCosts_49 kk_X8_fillCosts_X8_closing ml_RX8_41 swX8_closing rfl rfl (Nat.le_of_ble_eq_true rfl) ?_
              rintro _ ⟨x11, rfl⟩
              refine h_goto_W 73 dX8_fillCosts_52 (by decide) ?_
              exact zs_Wlv_W (j73 hd5 hd13 v2 v3 s0 x11) (zs_mc 1 rfl (zs_mc 2 rfl (zs_mc 3 rfl (zs_mc 4 rfl (zs_mc 5 rfl (zs_mc 6 rfl (zs_mc 0 rfl zs_mn)))))))
          refine h_iload_W dX8_fillCosts_13 rfl ?_
          refine h_bipush_W (v := (nI 10)) dX8_fillCosts_15 rfl ?_
          refine h_ic_ge_W 106 dX8_fillCosts_17 (by decide) (fun h12 => ?_) (fun h12 => ?_)
          · refine h_iinc_W (v := (c5 + Int32.ofInt (-1))) (lv' := [(4, .int (c5 + Int32.ofInt (-1))), (0, .ref 67), (1, .ref 4), (2, .int v2), (3, .int v3), (5, .int c13)]) dX8_fillCosts_106 rfl rfl (by decide) rfl ?_
            refine h_goto_W 5 dX8_fillCosts_109 (by decide) ?_
            exact zs_Wlv_W (ih5 v2 v3 (c5 + Int32.ofInt (-1)) hd5) (zs_mc 1 rfl (zs_mc 2 rfl (zs_mc 3 rfl (zs_mc 4 rfl (zs_mc 0 rfl zs_mn)))))
          · have hd13 := zs_muA h12 hn13
            refine h_aload_n_W dX8_fillCosts_20 rfl rfl ?_
            refine h_iload_W dX8_fillCosts_21 rfl ?_
            refine h_callN_W [.ref 4, .int c5] [] (v_cell_W 4 12 c5 (by decide) rfl (by decide)) dX8_fillCosts_23 kk_X8_fillCosts_X11_cell nl_RX8_34 swX11_cell rfl rfl (Nat.le_of_ble_eq_true rfl) ?_
            rintro _ ⟨x13, rfl⟩
            refine h_iload_W dX8_fillCosts_26 rfl ?_
            refine h_ic_ne_W 35 dX8_fillCosts_28 (by decide) (fun h14 => ?_) (fun h14 => ?_)
            · refine h_iconst_W (v := (nI 1)) dX8_fillCosts_35 rfl ?_
              exact j36 hd5 hd13 v2 v3 (nI 1)
            · refine h_iconst_W (v := (nI 0)) dX8_fillCosts_31 rfl ?_
              refine h_goto_W 36 dX8_fillCosts_32 (by decide) ?_
              exact j36 hd5 hd13 v2 v3 (nI 0)
      refine h_iload_W dX8_fillCosts_5 rfl ?_
      refine h_if_lt_W 112 dX8_fillCosts_7 (by decide) (fun h15 => ?_) (fun h15 => ?_)
      · exact h_ret_W dX8_fillCosts_112 rfl rfl
      · have hd5 := zs_mdA h15 hn5
        refine h_iconst_W (v := (nI 0)) dX8_fillCosts_10 rfl ?_
        refine h_istore_W (lv' := [(5, .int (nI 0)), (0, .ref 67), (1, .ref 4), (2, .int v2), (3, .int v3), (4, .int c5)]) dX8_fillCosts_11 (by decide) rfl ?_
        exact zs_Wlv_W (j13 hd5 _ v2 v3 (nI 0) (Nat.lt_succ_self _)) (zs_mc 1 rfl (zs_mc 2 rfl (zs_mc 3 rfl (zs_mc 4 rfl (zs_mc 5 rfl (zs_mc 0 rfl zs_mn))))))
  refine h_iload_n_W dX8_fillCosts_0 rfl rfl ?_
  refine h_iconst_W (v := (nI 1)) dX8_fillCosts_1 rfl ?_
  refine h_isub_W dX8_fillCosts_2 (fun x16 => ?_)
  refine h_istore_W (lv' := [(4, .int x16), (0, .ref 67), (1, .ref 4), (2, .int a1), (3, .int a2)]) dX8_fillCosts_3 (by decide) rfl ?_
  exact zs_Wlv_W (j5 _ a1 a2 x16 (Nat.lt_succ_self _)) (zs_mc 1 rfl (zs_mc 2 rfl (zs_mc 3 rfl (zs_mc 4 rfl (zs_mc 0 rfl zs_mn)))))
set_option maxRecDepth 100000 in
theorem v_X8_plan_67_4_W (a1 : Int32) : zs_Dd'_W MX8_plan [.ref 67, .ref 4, .int a1] zs_Rv := by
  refine zs_Wof_W (by decide) (Nat.le_of_ble_eq_true rfl) ?_
  show zs_W_W MX8_plan 0 [(0, .ref 67), (1, .ref 4), (2, .int a1)] [] zs_Rv
  have j79 : ∀ (n79 : Nat) (v2 : Int32) (v3 : Int32) (c79 : Int32), zs_mu c79 < n79 → zs_W_W MX8_plan 79 [(0, .ref 67), (1, .ref 4), (2, .int v2), (3, .int v3), (4, .int c79)] [] zs_Rv := by
    intro n79
    induction n79 with
    | zero => intro v2 v3 c79 hn79; exact absurd hn79 (Nat.not_lt_zero _)
    | succ n79 ih79 =>
      intro v2 v3 c79 hn79
      refine h_iload_W dX8_plan_79 rfl ?_
      refine h_iload_n_W dX8_plan_81 rfl rfl ?_
      refine h_ic_ge_W 117 dX8_plan_82 (by decide) (fun h1 => ?_) (fun h1 => ?_)
      · exact h_ret_W dX8_plan_117 rfl rfl
      · have hd79 := zs_muA h1 hn79
        refine h_aload_n_W dX8_plan_85 rfl rfl ?_
        refine h_getR_W 1 69 (C := RX8) (T := TX8) (N := 3) dX8_plan_86 (by decide) rfl rfl (by decide) rfl fl_RX8_15 ?_
        refine h_iload_W dX8_plan_89 rfl ?_
        refine h_aload_n_W dX8_plan_91 rfl rfl ?_
        refine h_iload_W dX8_plan_92 rfl ?_
        refine h_aload_n_W dX8_plan_94 rfl rfl ?_
        refine h_getR_W 1 69 (C := RX8) (T := TX8) (N := 3) dX8_plan_95 (by decide) rfl rfl (by decide) rfl fl_RX8_15 ?_
        refine h_iload_W dX8_plan_98 rfl ?_
        refine h_iconst_W (v := (nI 1)) dX8_plan_100 rfl ?_
        refine h_isub_W dX8_plan_101 (fun x2 => ?_)
        refine h_callN_W [.ref 69, .int x2] [.int c79, .ref 67, .int c79, .ref 69] (v_cell_W 69 12 x2 (by decide) rfl (by decide)) dX8_plan_102 kk_X8_plan_X11_cell nl_RX8_34 swX11_cell rfl rfl (Nat.le_of_ble_eq_true rfl) ?_
        rintro _ ⟨x3, rfl⟩
        refine h_callV_W (T := TX8) (NN := 3) [.int c79, .ref 69] (v_X8_bestBeside_67_W c79 x3) dX8_plan_105 kk_X8_plan_X8_bestBeside ml_RX8_38 mwX8_bestBeside ewX8_bestBeside (by decide) rfl rfl rfl rfl (Nat.le_of_ble_eq_true rfl) ?_
        rintro _ ⟨x4, rfl⟩
        refine h_callN_W [.ref 69, .int c79, .int x4] [] (v_put_W 69 12 c79 x4 (by decide) rfl (by decide) ⟨by decide, by decide, by decide⟩) dX8_plan_108 kk_X8_plan_X11_put nl_RX8_31 swX11_put rfl rfl (Nat.le_of_ble_eq_true rfl) ?_
        rintro _ rfl
        refine h_iinc_W (v := (c79 + Int32.ofInt 1)) (lv' := [(4, .int (c79 + Int32.ofInt 1)), (0, .ref 67), (1, .ref 4), (2, .int v2), (3, .int v3)]) dX8_plan_111 rfl rfl (by decide) rfl ?_
        refine h_goto_W 79 dX8_plan_114 (by decide) ?_
        exact zs_Wlv_W (ih79 v2 v3 (c79 + Int32.ofInt 1) hd79) (zs_mc 1 rfl (zs_mc 2 rfl (zs_mc 3 rfl (zs_mc 4 rfl (zs_mc 0 rfl zs_mn)))))
  have j11 : ∀ (n11 : Nat) (v2 : Int32) (v3 : Int32) (c11 : Int32), zs_mu c11 < n11 → zs_W_W MX8_plan 11 [(0, .ref 67), (1, .ref 4), (2, .int v2), (3, .int v3), (4, .int c11)] [] zs_Rv := by
    intro n11
    induction n11 with
    | zero => intro v2 v3 c11 hn11; exact absurd hn11 (Nat.not_lt_zero _)
    | succ n11 ih11 =>
      intro v2 v3 c11 hn11
      have j54 : zs_mu (c11 + Int32.ofInt 1) < n11 → ∀ (v2 : Int32) (v3 : Int32), zs_W_W MX8_plan 54 [(0, .ref 67), (1, .ref 4), (2, .int v2), (3, .int v3), (4, .int c11)] [] zs_Rv := by
        intro hd11 v2 v3
        refine h_iinc_W (v := (c11 + Int32.ofInt 1)) (lv' := [(4, .int (c11 + Int32.ofInt 1)), (0, .ref 67), (1, .ref 4), (2, .int v2), (3, .int v3)]) dX8_plan_54 rfl rfl (by decide) rfl ?_
        refine h_goto_W 11 dX8_plan_57 (by decide) ?_
        exact zs_Wlv_W (ih11 v2 v3 (c11 + Int32.ofInt 1) hd11) (zs_mc 1 rfl (zs_mc 2 rfl (zs_mc 3 rfl (zs_mc 4 rfl (zs_mc 0 rfl zs_mn)))))
      refine h_iload_W dX8_plan_11 rfl ?_
      refine h_bipush_W (v := (nI 10)) dX8_plan_13 rfl ?_
      refine h_ic_ge_W 60 dX8_plan_15 (by decide) (fun h5 => ?_) (fun h5 => ?_)
      · refine h_aload_n_W dX8_plan_60 rfl rfl ?_
        refine h_aload_n_W dX8_plan_61 rfl rfl ?_
        refine h_iload_n_W dX8_plan_62 rfl rfl ?_
        refine h_iload_n_W dX8_plan_63 rfl rfl ?_
        refine h_callV_W (T := TX8) (NN := 3) [] (v_X8_fillCosts_67_4_W v2 v3) dX8_plan_64 kk_X8_plan_X8_fillCosts ml_RX8_23 mwX8_fillCosts ewX8_fillCosts (by decide) rfl rfl rfl rfl (Nat.le_of_ble_eq_true rfl) ?_
        rintro _ rfl
        refine h_aload_n_W dX8_plan_67 rfl rfl ?_
        refine h_getR_W 1 69 (C := RX8) (T := TX8) (N := 3) dX8_plan_68 (by decide) rfl rfl (by decide) rfl fl_RX8_15 ?_
        refine h_iconst_W (v := (nI 0)) dX8_plan_71 rfl ?_
        refine h_iload_n_W dX8_plan_72 rfl rfl ?_
        refine h_callN_W [.ref 69, .int (nI 0), .int v3] [] (v_put_W 69 12 (nI 0) v3 (by decide) rfl (by decide) ⟨by decide, by decide, by decide⟩) dX8_plan_73 kk_X8_plan_X11_put nl_RX8_31 swX11_put rfl rfl (Nat.le_of_ble_eq_true rfl) ?_
        rintro _ rfl
        refine h_iconst_W (v := (nI 1)) dX8_plan_76 rfl ?_
        refine h_istore_W (lv' := [(4, .int (nI 1)), (0, .ref 67), (1, .ref 4), (2, .int v2), (3, .int v3)]) dX8_plan_77 (by decide) rfl ?_
        exact zs_Wlv_W (j79 _ v2 v3 (nI 1) (Nat.lt_succ_self _)) (zs_mc 1 rfl (zs_mc 2 rfl (zs_mc 3 rfl (zs_mc 4 rfl (zs_mc 0 rfl zs_mn)))))
      · have hd11 := zs_muA h5 hn11
        refine h_aload_n_W dX8_plan_18 rfl rfl ?_
        refine h_aload_n_W dX8_plan_19 rfl rfl ?_
        refine h_iload_n_W dX8_plan_20 rfl rfl ?_
        refine h_iload_W dX8_plan_21 rfl ?_
        refine h_callV_W (T := TX8) (NN := 3) [] (v_X8_fillCosts_67_4_W v2 c11) dX8_plan_23 kk_X8_plan_X8_fillCosts ml_RX8_23 mwX8_fillCosts ewX8_fillCosts (by decide) rfl rfl rfl rfl (Nat.le_of_ble_eq_true rfl) ?_
        rintro _ rfl
        refine h_aload_n_W dX8_plan_26 rfl rfl ?_
        refine h_iconst_W (v := (nI 0)) dX8_plan_27 rfl ?_
        refine h_iload_W dX8_plan_28 rfl ?_
        refine h_callV_W (T := TX8) (NN := 3) [] (v_X8_cost_67_W (nI 0) c11) dX8_plan_30 kk_X8_plan_X8_cost ml_RX8_27 mwX8_cost ewX8_cost (by decide) rfl rfl rfl rfl (Nat.le_of_ble_eq_true rfl) ?_
        rintro _ ⟨x6, rfl⟩
        refine h_aload_n_W dX8_plan_33 rfl rfl ?_
        refine h_getI_W 2 (C := RX8) (T := TX8) (N := 3) dX8_plan_34 (by decide) rfl rfl (by decide) rfl fl_RX8_19 (fun x7 => ?_)
        refine h_ic_ge_W 54 dX8_plan_37 (by decide) (fun h8 => ?_) (fun h8 => ?_)
        · exact j54 hd11 v2 v3
        · refine h_aload_n_W dX8_plan_40 rfl rfl ?_
          refine h_aload_n_W dX8_plan_41 rfl rfl ?_
          refine h_iconst_W (v := (nI 0)) dX8_plan_42 rfl ?_
          refine h_iload_W dX8_plan_43 rfl ?_
          refine h_callV_W (T := TX8) (NN := 3) [.ref 67] (v_X8_cost_67_W (nI 0) c11) dX8_plan_45 kk_X8_plan_X8_cost ml_RX8_27 mwX8_cost ewX8_cost (by decide) rfl rfl rfl rfl (Nat.le_of_ble_eq_true rfl) ?_
          rintro _ ⟨x9, rfl⟩
          refine h_putI_W 2 (C := RX8) (T := TX8) (N := 3) (ty := .int) dX8_plan_48 (by decide) rfl rfl (by decide) rfl fl_RX8_19 rfl (by decide +kernel) ⟨rfl, rfl⟩ rfl ?_
          refine h_iload_W dX8_plan_51 rfl ?_
          refine h_istore_n_W (lv' := [(3, .int c11), (0, .ref 67), (1, .ref 4), (2, .int v2), (4, .int c11)]) dX8_plan_53 rfl (by decide) rfl ?_
          exact zs_Wlv_W (j54 hd11 v2 c11) (zs_mc 1 rfl (zs_mc 2 rfl (zs_mc 3 rfl (zs_mc 0 rfl (zs_mc 4 rfl zs_mn)))))
  refine h_aload_n_W dX8_plan_0 rfl rfl ?_
  refine h_ldc_W (v := (nI 1000000)) dX8_plan_1 cl_RX8_18 ?_
  refine h_putI_W 2 (C := RX8) (T := TX8) (N := 3) (ty := .int) dX8_plan_3 (by decide) rfl rfl (by decide) rfl fl_RX8_19 rfl (by decide +kernel) ⟨rfl, rfl⟩ rfl ?_
  refine h_iconst_W (v := (nI 0)) dX8_plan_6 rfl ?_
  refine h_istore_n_W (lv' := [(3, .int (nI 0)), (0, .ref 67), (1, .ref 4), (2, .int a1)]) dX8_plan_7 rfl (by decide) rfl ?_
  refine h_iconst_W (v := (nI 0)) dX8_plan_8 rfl ?_
  refine h_istore_W (lv' := [(4, .int (nI 0)), (3, .int (nI 0)), (0, .ref 67), (1, .ref 4), (2, .int a1)]) dX8_plan_9 (by decide) rfl ?_
  exact zs_Wlv_W (j11 _ a1 (nI 0) (nI 0) (Nat.lt_succ_self _)) (zs_mc 2 rfl (zs_mc 3 rfl (zs_mc 4 rfl (zs_mc 1 rfl (zs_mc 0 rfl zs_mn)))))
set_option maxRecDepth 100000 in
theorem v_X11_smooth_0_W (a1 : Int32) : zs_Dd'_W MX11_smooth [.ref 0, .int a1] zs_Ri := by
  refine zs_Wof_W (by decide) (Nat.le_of_ble_eq_true rfl) ?_
  show zs_W_W MX11_smooth 0 [(0, .ref 0), (1, .int a1)] [] zs_Ri
  have j20 : ∀ (v1 : Int32), zs_W_W MX11_smooth 20 [(0, .ref 0), (1, .int v1)] [] zs_Ri := by
    intro v1
    refine h_aload_n_W dX11_smooth_20 rfl rfl ?_
    refine h_getR_W 12 67 (C := RX11) (T := TX11) (N := 18) dX11_smooth_21 (by decide) rfl rfl (by decide) rfl fl_RX11_43 ?_
    refine h_aload_n_W dX11_smooth_24 rfl rfl ?_
    refine h_getR_W 0 1 (C := RX11) (T := TX11) (N := 18) dX11_smooth_25 (by decide) rfl rfl (by decide) rfl fl_RX11_10 ?_
    refine h_getR_W 4 3 (C := RX6) (T := TX6) (N := 9) dX11_smooth_28 (by decide) rfl rfl (by decide) rfl fl_RX11_137 ?_
    refine h_getR_W 3 4 (C := RX3) (T := TX3) (N := 6) dX11_smooth_31 (by decide) rfl rfl (by decide) rfl fl_RX11_165 ?_
    refine h_aload_n_W dX11_smooth_34 rfl rfl ?_
    refine h_getR_W 0 1 (C := RX11) (T := TX11) (N := 18) dX11_smooth_35 (by decide) rfl rfl (by decide) rfl fl_RX11_10 ?_
    refine h_getI_W 0 (C := RX6) (T := TX6) (N := 9) dX11_smooth_38 (by decide) rfl rfl (by decide) rfl fl_RX11_210 (fun x1 => ?_)
    refine h_callV_W (T := TX8) (NN := 3) [] (v_X8_plan_67_4_W x1) dX11_smooth_41 kk_X11_smooth_X8_plan ml_RX11_213 mwX8_plan ewX8_plan (by decide) rfl rfl rfl rfl (Nat.le_of_ble_eq_true rfl) ?_
    rintro _ rfl
    refine h_iload_n_W dX11_smooth_44 rfl rfl ?_
    refine h_iconst_W (v := (-1)) dX11_smooth_45 rfl ?_
    refine h_ic_ne_W 59 dX11_smooth_46 (by decide) (fun h2 => ?_) (fun h2 => ?_)
    · refine h_aload_n_W dX11_smooth_59 rfl rfl ?_
      refine h_getR_W 12 67 (C := RX11) (T := TX11) (N := 18) dX11_smooth_60 (by decide) rfl rfl (by decide) rfl fl_RX11_43 ?_
      refine h_getR_W 1 69 (C := RX8) (T := TX8) (N := 3) dX11_smooth_63 (by decide) rfl rfl (by decide) rfl fl_RX11_220 ?_
      refine h_iload_n_W dX11_smooth_66 rfl rfl ?_
      refine h_callS_W [.ref 69, .int v1] [] (v_cell_W 69 12 v1 (by decide) rfl (by decide)) dX11_smooth_67 kk_X11_smooth_X11_cell ml_RX11_168 swX11_cell rfl rfl (Nat.le_of_ble_eq_true rfl) ?_
      rintro _ ⟨x3, rfl⟩
      exact h_iret_W dX11_smooth_70 rfl rfl ⟨_, rfl⟩
    · refine h_aload_n_W dX11_smooth_49 rfl rfl ?_
      refine h_getR_W 12 67 (C := RX11) (T := TX11) (N := 18) dX11_smooth_50 (by decide) rfl rfl (by decide) rfl fl_RX11_43 ?_
      refine h_getI_W 2 (C := RX8) (T := TX8) (N := 3) dX11_smooth_53 (by decide) rfl rfl (by decide) rfl fl_RX11_217 (fun x4 => ?_)
      refine h_goto_W 70 dX11_smooth_56 (by decide) ?_
      exact h_iret_W dX11_smooth_70 rfl rfl ⟨_, rfl⟩
  refine h_iload_n_W dX11_smooth_0 rfl rfl ?_
  refine h_iconst_W (v := (-1)) dX11_smooth_1 rfl ?_
  refine h_ic_eq_W 20 dX11_smooth_2 (by decide) (fun h5 => ?_) (fun h5 => ?_)
  · exact j20 a1
  · refine h_aload_n_W dX11_smooth_5 rfl rfl ?_
    refine h_iload_n_W dX11_smooth_6 rfl rfl ?_
    refine h_callV_W (T := TX11) (NN := 18) [] (v_X11_isFrame_0_W a1) dX11_smooth_7 kk_X11_smooth_X11_isFrame ml_RX11_159 mwX11_isFrame ewX11_isFrame (by decide) rfl rfl rfl rfl (Nat.le_of_ble_eq_true rfl) ?_
    rintro _ ⟨x6, rfl, bx6⟩
    refine h_if_ne_W 20 dX11_smooth_10 (by decide) (fun h7 => ?_) (fun h7 => ?_)
    · exact j20 a1
    · refine h_aload_n_W dX11_smooth_13 rfl rfl ?_
      refine h_bipush_W (v := (-10)) dX11_smooth_14 rfl ?_
      refine h_callV_W (T := TX11) (NN := 18) [] (v_X11_refuseBad_0_W (-10)) dX11_smooth_16 kk_X11_smooth_X11_refuseBad ml_RX11_86 mwX11_refuseBad ewX11_refuseBad (by decide) rfl rfl rfl rfl (Nat.le_of_ble_eq_true rfl) ?_
      rintro _ ⟨x8, rfl⟩
      exact h_iret_W dX11_smooth_19 rfl rfl ⟨_, rfl⟩
set_option maxRecDepth 100000 in
theorem v_X5_value_9_W (a1 : Int32) (a2 : Int32) : zs_Dd'_W MX5_value [.ref 9, .int a1, .int a2] zs_Ri := by
  refine zs_Wof_W (by decide) (Nat.le_of_ble_eq_true rfl) ?_
  show zs_W_W MX5_value 0 [(0, .ref 9), (1, .int a1), (2, .int a2)] [] zs_Ri
  refine h_aload_n_W dX5_value_0 rfl rfl ?_
  refine h_getR_W 1 10 (C := RX5) (T := TX5) (N := 3) dX5_value_1 (by decide) rfl rfl (by decide) rfl fl_RX5_9 ?_
  refine h_iconst_W (v := (nI 4)) dX5_value_4 rfl ?_
  refine h_iload_n_W dX5_value_5 rfl rfl ?_
  refine h_imul_W dX5_value_6 (fun x1 => ?_)
  refine h_iload_n_W dX5_value_7 rfl rfl ?_
  refine h_iadd_W dX5_value_8 (fun x2 => ?_)
  refine h_callN_W [.ref 10, .int x2] [] (v_cell_W 10 24 x2 (by decide) rfl (by decide)) dX5_value_9 kk_X5_value_X11_cell nl_RX5_26 swX11_cell rfl rfl (Nat.le_of_ble_eq_true rfl) ?_
  rintro _ ⟨x3, rfl⟩
  exact h_iret_W dX5_value_12 rfl rfl ⟨_, rfl⟩
set_option maxRecDepth 100000 in
theorem v_X0_drawingAt_70_1_W (a1 : Int32) (a2 : Int32) : zs_Dd'_W MX0_drawingAt [.ref 70, .int a1, .int a2, .ref 1] zs_Ri := by
  refine zs_Wof_W (by decide) (Nat.le_of_ble_eq_true rfl) ?_
  show zs_W_W MX0_drawingAt 0 [(0, .ref 70), (1, .int a1), (2, .int a2), (3, .ref 1)] [] zs_Ri
  refine h_aload_n_W dX0_drawingAt_0 rfl rfl ?_
  refine h_getR_W 0 71 (C := RX0) (T := TX0) (N := 3) dX0_drawingAt_1 (by decide) rfl rfl (by decide) rfl fl_RX0_9 ?_
  refine h_iload_n_W dX0_drawingAt_4 rfl rfl ?_
  refine h_bipush_W (v := (nI 12)) dX0_drawingAt_5 rfl ?_
  refine h_irem_W dX0_drawingAt_7 (by decide) (fun x1 => ?_)
  refine h_bipush_W (v := (nI 31)) dX0_drawingAt_8 rfl ?_
  refine h_imul_W dX0_drawingAt_10 (fun x2 => ?_)
  refine h_iload_n_W dX0_drawingAt_11 rfl rfl ?_
  refine h_iadd_W dX0_drawingAt_12 (fun x3 => ?_)
  refine h_callN_W [.ref 71, .int x3] [] (v_cell_W 71 372 x3 (by decide) rfl (by decide)) dX0_drawingAt_13 kk_X0_drawingAt_X11_cell nl_RX0_47 swX11_cell rfl rfl (Nat.le_of_ble_eq_true rfl) ?_
  rintro _ ⟨x4, rfl⟩
  refine h_istore_W (lv' := [(4, .int x4), (0, .ref 70), (1, .int a1), (2, .int a2), (3, .ref 1)]) dX0_drawingAt_16 (by decide) rfl ?_
  refine h_aload_n_W dX0_drawingAt_18 rfl rfl ?_
  refine h_getR_W 4 3 (C := RX6) (T := TX6) (N := 9) dX0_drawingAt_19 (by decide) rfl rfl (by decide) rfl fl_RX0_75 ?_
  refine h_getR_W 3 4 (C := RX3) (T := TX3) (N := 6) dX0_drawingAt_22 (by decide) rfl rfl (by decide) rfl fl_RX0_79 ?_
  refine h_iload_n_W dX0_drawingAt_25 rfl rfl ?_
  refine h_bipush_W (v := (nI 12)) dX0_drawingAt_26 rfl ?_
  refine h_idiv_W dX0_drawingAt_28 (by decide) (fun x5 => ?_)
  refine h_iload_W dX0_drawingAt_29 rfl ?_
  refine h_iadd_W dX0_drawingAt_31 (fun x6 => ?_)
  refine h_aload_n_W dX0_drawingAt_32 rfl rfl ?_
  refine h_getI_W 0 (C := RX6) (T := TX6) (N := 9) dX0_drawingAt_33 (by decide) rfl rfl (by decide) rfl fl_RX0_31 (fun x7 => ?_)
  refine h_callN_W [.int x6, .int x7] [.ref 4] (v_X11_wrap_W x6 x7) dX0_drawingAt_36 kk_X0_drawingAt_X11_wrap nl_RX0_84 swX11_wrap rfl rfl (Nat.le_of_ble_eq_true rfl) ?_
  rintro _ ⟨x8, rfl⟩
  refine h_callN_W [.ref 4, .int x8] [] (v_cell_W 4 12 x8 (by decide) rfl (by decide)) dX0_drawingAt_39 kk_X0_drawingAt_X11_cell nl_RX0_47 swX11_cell rfl rfl (Nat.le_of_ble_eq_true rfl) ?_
  rintro _ ⟨x9, rfl⟩
  exact h_iret_W dX0_drawingAt_42 rfl rfl ⟨_, rfl⟩
set_option maxRecDepth 100000 in
theorem v_X0_fits_70_1_W (a1 : Int32) : zs_Dd'_W MX0_fits [.ref 70, .int a1, .ref 1] zs_Rb := by
  refine zs_Wof_W (by decide) (Nat.le_of_ble_eq_true rfl) ?_
  show zs_W_W MX0_fits 0 [(0, .ref 70), (1, .int a1), (2, .ref 1)] [] zs_Rb
  have j2 : ∀ (n2 : Nat) (v1 : Int32) (c2 : Int32), zs_mu c2 < n2 → zs_W_W MX0_fits 2 [(0, .ref 70), (1, .int v1), (2, .ref 1), (3, .int c2)] [] zs_Rb := by
    intro n2
    induction n2 with
    | zero => intro v1 c2 hn2; exact absurd hn2 (Nat.not_lt_zero _)
    | succ n2 ih2 =>
      intro v1 c2 hn2
      refine h_iload_n_W dX0_fits_2 rfl rfl ?_
      refine h_aload_n_W dX0_fits_3 rfl rfl ?_
      refine h_getR_W 6 9 (C := RX6) (T := TX6) (N := 9) dX0_fits_4 (by decide) rfl rfl (by decide) rfl fl_RX0_64 ?_
      refine h_getI_W 2 (C := RX5) (T := TX5) (N := 3) dX0_fits_7 (by decide) rfl rfl (by decide) rfl fl_RX0_68 (fun x1 => ?_)
      refine h_ic_ge_W 48 dX0_fits_10 (by decide) (fun h2 => ?_) (fun h2 => ?_)
      · refine h_iconst_W (v := (nI 1)) dX0_fits_48 rfl ?_
        exact h_iret_W dX0_fits_49 rfl rfl ⟨_, rfl, rfl⟩
      · have hd2 := zs_muA h2 hn2
        refine h_aload_n_W dX0_fits_13 rfl rfl ?_
        refine h_iload_n_W dX0_fits_14 rfl rfl ?_
        refine h_aload_n_W dX0_fits_15 rfl rfl ?_
        refine h_getR_W 6 9 (C := RX6) (T := TX6) (N := 9) dX0_fits_16 (by decide) rfl rfl (by decide) rfl fl_RX0_64 ?_
        refine h_iload_n_W dX0_fits_19 rfl rfl ?_
        refine h_iconst_W (v := (nI 0)) dX0_fits_20 rfl ?_
        refine h_callV_W (T := TX5) (NN := 3) [.int v1, .ref 70] (v_X5_value_9_W c2 (nI 0)) dX0_fits_21 kk_X0_fits_X5_value ml_RX0_71 mwX5_value ewX5_value (by decide) rfl rfl rfl rfl (Nat.le_of_ble_eq_true rfl) ?_
        rintro _ ⟨x3, rfl⟩
        refine h_aload_n_W dX0_fits_24 rfl rfl ?_
        refine h_callV_W (T := TX0) (NN := 3) [] (v_X0_drawingAt_70_1_W v1 x3) dX0_fits_25 kk_X0_fits_X0_drawingAt ml_RX0_51 mwX0_drawingAt ewX0_drawingAt (by decide) rfl rfl rfl rfl (Nat.le_of_ble_eq_true rfl) ?_
        rintro _ ⟨x4, rfl⟩
        refine h_aload_n_W dX0_fits_28 rfl rfl ?_
        refine h_getR_W 6 9 (C := RX6) (T := TX6) (N := 9) dX0_fits_29 (by decide) rfl rfl (by decide) rfl fl_RX0_64 ?_
        refine h_iload_n_W dX0_fits_32 rfl rfl ?_
        refine h_iconst_W (v := (nI 1)) dX0_fits_33 rfl ?_
        refine h_callV_W (T := TX5) (NN := 3) [.int x4] (v_X5_value_9_W c2 (nI 1)) dX0_fits_34 kk_X0_fits_X5_value ml_RX0_71 mwX5_value ewX5_value (by decide) rfl rfl rfl rfl (Nat.le_of_ble_eq_true rfl) ?_
        rintro _ ⟨x5, rfl⟩
        refine h_ic_eq_W 42 dX0_fits_37 (by decide) (fun h6 => ?_) (fun h6 => ?_)
        · refine h_iinc_W (v := (c2 + Int32.ofInt 1)) (lv' := [(3, .int (c2 + Int32.ofInt 1)), (0, .ref 70), (1, .int v1), (2, .ref 1)]) dX0_fits_42 rfl rfl (by decide) rfl ?_
          refine h_goto_W 2 dX0_fits_45 (by decide) ?_
          exact zs_Wlv_W (ih2 v1 (c2 + Int32.ofInt 1) hd2) (zs_mc 1 rfl (zs_mc 2 rfl (zs_mc 3 rfl (zs_mc 0 rfl zs_mn))))
        · refine h_iconst_W (v := (nI 0)) dX0_fits_40 rfl ?_
          exact h_iret_W dX0_fits_41 rfl rfl ⟨_, rfl, rfl⟩
  refine h_iconst_W (v := (nI 0)) dX0_fits_0 rfl ?_
  refine h_istore_n_W (lv' := [(3, .int (nI 0)), (0, .ref 70), (1, .int a1), (2, .ref 1)]) dX0_fits_1 rfl (by decide) rfl ?_
  exact zs_Wlv_W (j2 _ a1 (nI 0) (Nat.lt_succ_self _)) (zs_mc 1 rfl (zs_mc 2 rfl (zs_mc 3 rfl (zs_mc 0 rfl zs_mn))))
set_option maxRecDepth 100000 in
theorem v_X0_fillPassed_70_W (a1 : Int32) : zs_Dd'_W MX0_fillPassed [.ref 70, .int a1] zs_Rv := by
  refine zs_Wof_W (by decide) (Nat.le_of_ble_eq_true rfl) ?_
  show zs_W_W MX0_fillPassed 0 [(0, .ref 70), (1, .int a1)] [] zs_Rv
  have j2 : ∀ (n2 : Nat) (v1 : Int32) (c2 : Int32), zs_mu c2 < n2 → zs_W_W MX0_fillPassed 2 [(0, .ref 70), (1, .int v1), (2, .int c2)] [] zs_Rv := by
    intro n2
    induction n2 with
    | zero => intro v1 c2 hn2; exact absurd hn2 (Nat.not_lt_zero _)
    | succ n2 ih2 =>
      intro v1 c2 hn2
      have j13 : zs_mu (c2 + Int32.ofInt 1) < n2 → ∀ (n13 : Nat) (v1 : Int32) (v3 : Int32) (c13 : Int32), zs_mu c13 < n13 → zs_W_W MX0_fillPassed 13 [(0, .ref 70), (1, .int v1), (2, .int c2), (3, .int v3), (4, .int c13)] [] zs_Rv := by
        intro hd2 n13
        induction n13 with
        | zero => intro v1 v3 c13 hn13; exact absurd hn13 (Nat.not_lt_zero _)
        | succ n13 ih13 =>
          intro v1 v3 c13 hn13
          refine h_iload_W dX0_fillPassed_13 rfl ?_
          refine h_bipush_W (v := (nI 30)) dX0_fillPassed_15 rfl ?_
          refine h_ic_gt_W 51 dX0_fillPassed_17 (by decide) (fun h1 => ?_) (fun h1 => ?_)
          · refine h_iinc_W (v := (c2 + Int32.ofInt 1)) (lv' := [(2, .int (c2 + Int32.ofInt 1)), (0, .ref 70), (1, .int v1), (3, .int v3), (4, .int c13)]) dX0_fillPassed_51 rfl rfl (by decide) rfl ?_
            refine h_goto_W 2 dX0_fillPassed_54 (by decide) ?_
            exact zs_Wlv_W (ih2 v1 (c2 + Int32.ofInt 1) hd2) (zs_mc 1 rfl (zs_mc 2 rfl (zs_mc 0 rfl zs_mn)))
          · have hd13 := zs_muB h1 (Nat.le_of_ble_eq_true rfl) hn13
            refine h_iload_n_W dX0_fillPassed_20 rfl rfl ?_
            refine h_iload_n_W dX0_fillPassed_21 rfl rfl ?_
            refine h_iload_n_W dX0_fillPassed_22 rfl rfl ?_
            refine h_iload_W dX0_fillPassed_23 rfl ?_
            refine h_callS_W [.int v1, .int c2, .int c13] [.int v3] (v_X2_passing_W v1 c2 c13) dX0_fillPassed_25 kk_X0_fillPassed_X2_passing ml_RX0_58 swX2_passing rfl rfl (Nat.le_of_ble_eq_true rfl) ?_
            rintro _ ⟨x2, rfl⟩
            refine h_iadd_W dX0_fillPassed_28 (fun x3 => ?_)
            refine h_istore_n_W (lv' := [(3, .int x3), (0, .ref 70), (1, .int v1), (2, .int c2), (4, .int c13)]) dX0_fillPassed_29 rfl (by decide) rfl ?_
            refine h_aload_n_W dX0_fillPassed_30 rfl rfl ?_
            refine h_getR_W 0 71 (C := RX0) (T := TX0) (N := 3) dX0_fillPassed_31 (by decide) rfl rfl (by decide) rfl fl_RX0_9 ?_
            refine h_iload_n_W dX0_fillPassed_34 rfl rfl ?_
            refine h_bipush_W (v := (nI 31)) dX0_fillPassed_35 rfl ?_
            refine h_imul_W dX0_fillPassed_37 (fun x4 => ?_)
            refine h_iload_W dX0_fillPassed_38 rfl ?_
            refine h_iadd_W dX0_fillPassed_40 (fun x5 => ?_)
            refine h_iload_n_W dX0_fillPassed_41 rfl rfl ?_
            refine h_callN_W [.ref 71, .int x5, .int x3] [] (v_put_W 71 372 x5 x3 (by decide) rfl (by decide) ⟨by decide, by decide, by decide⟩) dX0_fillPassed_42 kk_X0_fillPassed_X11_put nl_RX0_38 swX11_put rfl rfl (Nat.le_of_ble_eq_true rfl) ?_
            rintro _ rfl
            refine h_iinc_W (v := (c13 + Int32.ofInt 1)) (lv' := [(4, .int (c13 + Int32.ofInt 1)), (3, .int x3), (0, .ref 70), (1, .int v1), (2, .int c2)]) dX0_fillPassed_45 rfl rfl (by decide) rfl ?_
            refine h_goto_W 13 dX0_fillPassed_48 (by decide) ?_
            exact zs_Wlv_W (ih13 v1 x3 (c13 + Int32.ofInt 1) hd13) (zs_mc 2 rfl (zs_mc 3 rfl (zs_mc 4 rfl (zs_mc 1 rfl (zs_mc 0 rfl zs_mn)))))
      refine h_iload_n_W dX0_fillPassed_2 rfl rfl ?_
      refine h_bipush_W (v := (nI 12)) dX0_fillPassed_3 rfl ?_
      refine h_ic_ge_W 57 dX0_fillPassed_5 (by decide) (fun h6 => ?_) (fun h6 => ?_)
      · exact h_ret_W dX0_fillPassed_57 rfl rfl
      · have hd2 := zs_muA h6 hn2
        refine h_iconst_W (v := (nI 0)) dX0_fillPassed_8 rfl ?_
        refine h_istore_n_W (lv' := [(3, .int (nI 0)), (0, .ref 70), (1, .int v1), (2, .int c2)]) dX0_fillPassed_9 rfl (by decide) rfl ?_
        refine h_iconst_W (v := (nI 1)) dX0_fillPassed_10 rfl ?_
        refine h_istore_W (lv' := [(4, .int (nI 1)), (3, .int (nI 0)), (0, .ref 70), (1, .int v1), (2, .int c2)]) dX0_fillPassed_11 (by decide) rfl ?_
        exact zs_Wlv_W (j13 hd2 _ v1 (nI 0) (nI 1) (Nat.lt_succ_self _)) (zs_mc 2 rfl (zs_mc 3 rfl (zs_mc 4 rfl (zs_mc 1 rfl (zs_mc 0 rfl zs_mn)))))
  refine h_iconst_W (v := (nI 0)) dX0_fillPassed_0 rfl ?_
  refine h_istore_n_W (lv' := [(2, .int (nI 0)), (0, .ref 70), (1, .int a1)]) dX0_fillPassed_1 rfl (by decide) rfl ?_
  exact zs_Wlv_W (j2 _ a1 (nI 0) (Nat.lt_succ_self _)) (zs_mc 1 rfl (zs_mc 2 rfl (zs_mc 0 rfl zs_mn)))
