set_option maxRecDepth 100000 in
theorem v_X0_gather_70_1_W : zs_Dd'_W MX0_gather [.ref 70, .ref 1] zs_Rv := by
  refine zs_Wof_W (by decide) (Nat.le_of_ble_eq_true rfl) ?_
  show zs_W_W MX0_gather 0 [(0, .ref 70), (1, .ref 1)] [] zs_Rv
  have j15 : ∀ (n15 : Nat) (c15 : Int32), zs_mu c15 < n15 → zs_W_W MX0_gather 15 [(0, .ref 70), (1, .ref 1), (2, .int c15)] [] zs_Rv := by
    intro n15
    induction n15 with
    | zero => intro c15 hn15; exact absurd hn15 (Nat.not_lt_zero _)
    | succ n15 ih15 =>
      intro c15 hn15
      have j57 : zs_mu (c15 + Int32.ofInt 1) < n15 → zs_W_W MX0_gather 57 [(0, .ref 70), (1, .ref 1), (2, .int c15)] [] zs_Rv := by
        intro hd15 
        refine h_iinc_W (v := (c15 + Int32.ofInt 1)) (lv' := [(2, .int (c15 + Int32.ofInt 1)), (0, .ref 70), (1, .ref 1)]) dX0_gather_57 rfl rfl (by decide) rfl ?_
        refine h_goto_W 15 dX0_gather_60 (by decide) ?_
        exact zs_Wlv_W (ih15 (c15 + Int32.ofInt 1) hd15) (zs_mc 1 rfl (zs_mc 2 rfl (zs_mc 0 rfl zs_mn)))
      refine h_iload_n_W dX0_gather_15 rfl rfl ?_
      refine h_aload_n_W dX0_gather_16 rfl rfl ?_
      refine h_getI_W 0 (C := RX6) (T := TX6) (N := 9) dX0_gather_17 (by decide) rfl rfl (by decide) rfl fl_RX0_31 (fun x1 => ?_)
      refine h_bipush_W (v := (nI 12)) dX0_gather_20 rfl ?_
      refine h_imul_W dX0_gather_22 (fun x2 => ?_)
      refine h_ic_ge_W 63 dX0_gather_23 (by decide) (fun h3 => ?_) (fun h3 => ?_)
      · exact h_ret_W dX0_gather_63 rfl rfl
      · have hd15 := zs_muA h3 hn15
        refine h_aload_n_W dX0_gather_26 rfl rfl ?_
        refine h_iload_n_W dX0_gather_27 rfl rfl ?_
        refine h_aload_n_W dX0_gather_28 rfl rfl ?_
        refine h_callV_W (T := TX0) (NN := 3) [] (v_X0_fits_70_1_W c15) dX0_gather_29 kk_X0_gather_X0_fits ml_RX0_34 mwX0_fits ewX0_fits (by decide) rfl rfl rfl rfl (Nat.le_of_ble_eq_true rfl) ?_
        rintro _ ⟨x4, rfl, bx4⟩
        refine h_if_eq_W 57 dX0_gather_32 (by decide) (fun h5 => ?_) (fun h5 => ?_)
        · exact j57 hd15 
        · refine h_aload_n_W dX0_gather_35 rfl rfl ?_
          refine h_getR_W 1 72 (C := RX0) (T := TX0) (N := 3) dX0_gather_36 (by decide) rfl rfl (by decide) rfl fl_RX0_15 ?_
          refine h_aload_n_W dX0_gather_39 rfl rfl ?_
          refine h_getI_W 2 (C := RX0) (T := TX0) (N := 3) dX0_gather_40 (by decide) rfl rfl (by decide) rfl fl_RX0_28 (fun x6 => ?_)
          refine h_iload_n_W dX0_gather_43 rfl rfl ?_
          refine h_callN_W [.ref 72, .int x6, .int c15] [] (v_put_W 72 144 x6 c15 (by decide) rfl (by decide) ⟨by decide, by decide, by decide⟩) dX0_gather_44 kk_X0_gather_X11_put nl_RX0_38 swX11_put rfl rfl (Nat.le_of_ble_eq_true rfl) ?_
          rintro _ rfl
          refine h_aload_n_W dX0_gather_47 rfl rfl ?_
          refine h_dup_W dX0_gather_48 rfl ?_
          refine h_getI_W 2 (C := RX0) (T := TX0) (N := 3) dX0_gather_49 (by decide) rfl rfl (by decide) rfl fl_RX0_28 (fun x7 => ?_)
          refine h_iconst_W (v := (nI 1)) dX0_gather_52 rfl ?_
          refine h_iadd_W dX0_gather_53 (fun x8 => ?_)
          refine h_putI_W 2 (C := RX0) (T := TX0) (N := 3) (ty := .int) dX0_gather_54 (by decide) rfl rfl (by decide) rfl fl_RX0_28 rfl (by decide +kernel) ⟨rfl, rfl⟩ rfl ?_
          exact j57 hd15 
  refine h_aload_n_W dX0_gather_0 rfl rfl ?_
  refine h_aload_n_W dX0_gather_1 rfl rfl ?_
  refine h_getI_W 1 (C := RX6) (T := TX6) (N := 9) dX0_gather_2 (by decide) rfl rfl (by decide) rfl fl_RX0_18 (fun x9 => ?_)
  refine h_callV_W (T := TX0) (NN := 3) [] (v_X0_fillPassed_70_W x9) dX0_gather_5 kk_X0_gather_X0_fillPassed ml_RX0_24 mwX0_fillPassed ewX0_fillPassed (by decide) rfl rfl rfl rfl (Nat.le_of_ble_eq_true rfl) ?_
  rintro _ rfl
  refine h_aload_n_W dX0_gather_8 rfl rfl ?_
  refine h_iconst_W (v := (nI 0)) dX0_gather_9 rfl ?_
  refine h_putI_W 2 (C := RX0) (T := TX0) (N := 3) (ty := .int) dX0_gather_10 (by decide) rfl rfl (by decide) rfl fl_RX0_28 rfl (by decide +kernel) ⟨rfl, rfl⟩ rfl ?_
  refine h_iconst_W (v := (nI 0)) dX0_gather_13 rfl ?_
  refine h_istore_n_W (lv' := [(2, .int (nI 0)), (0, .ref 70), (1, .ref 1)]) dX0_gather_14 rfl (by decide) rfl ?_
  exact zs_Wlv_W (j15 _ (nI 0) (Nat.lt_succ_self _)) (zs_mc 1 rfl (zs_mc 2 rfl (zs_mc 0 rfl zs_mn)))
set_option maxRecDepth 100000 in
theorem v_X11_began_0_W (a1 : Int32) : zs_Dd'_W MX11_began [.ref 0, .int a1] zs_Ri := by
  refine zs_Wof_W (by decide) (Nat.le_of_ble_eq_true rfl) ?_
  show zs_W_W MX11_began 0 [(0, .ref 0), (1, .int a1)] [] zs_Ri
  refine h_iload_n_W dX11_began_0 rfl rfl ?_
  refine h_iconst_W (v := (-1)) dX11_began_1 rfl ?_
  refine h_ic_ge_W 12 dX11_began_2 (by decide) (fun h1 => ?_) (fun h1 => ?_)
  · refine h_aload_n_W dX11_began_12 rfl rfl ?_
    refine h_getR_W 13 70 (C := RX11) (T := TX11) (N := 18) dX11_began_13 (by decide) rfl rfl (by decide) rfl fl_RX11_50 ?_
    refine h_aload_n_W dX11_began_16 rfl rfl ?_
    refine h_getR_W 0 1 (C := RX11) (T := TX11) (N := 18) dX11_began_17 (by decide) rfl rfl (by decide) rfl fl_RX11_10 ?_
    refine h_callV_W (T := TX0) (NN := 3) [] (v_X0_gather_70_1_W) dX11_began_20 kk_X11_began_X0_gather ml_RX11_233 mwX0_gather ewX0_gather (by decide) rfl rfl rfl rfl (Nat.le_of_ble_eq_true rfl) ?_
    rintro _ rfl
    refine h_iload_n_W dX11_began_23 rfl rfl ?_
    refine h_iconst_W (v := (-1)) dX11_began_24 rfl ?_
    refine h_ic_ne_W 36 dX11_began_25 (by decide) (fun h2 => ?_) (fun h2 => ?_)
    · refine h_iload_n_W dX11_began_36 rfl rfl ?_
      refine h_aload_n_W dX11_began_37 rfl rfl ?_
      refine h_getR_W 13 70 (C := RX11) (T := TX11) (N := 18) dX11_began_38 (by decide) rfl rfl (by decide) rfl fl_RX11_50 ?_
      refine h_getI_W 2 (C := RX0) (T := TX0) (N := 3) dX11_began_41 (by decide) rfl rfl (by decide) rfl fl_RX11_236 (fun x3 => ?_)
      refine h_ic_ge_W 61 dX11_began_44 (by decide) (fun h4 => ?_) (fun h4 => ?_)
      · refine h_bipush_W (v := (-5)) dX11_began_61 rfl ?_
        exact h_iret_W dX11_began_63 rfl rfl ⟨_, rfl⟩
      · refine h_aload_n_W dX11_began_47 rfl rfl ?_
        refine h_getR_W 13 70 (C := RX11) (T := TX11) (N := 18) dX11_began_48 (by decide) rfl rfl (by decide) rfl fl_RX11_50 ?_
        refine h_getR_W 1 72 (C := RX0) (T := TX0) (N := 3) dX11_began_51 (by decide) rfl rfl (by decide) rfl fl_RX11_237 ?_
        refine h_iload_n_W dX11_began_54 rfl rfl ?_
        refine h_callS_W [.ref 72, .int a1] [] (v_cell_W 72 144 a1 (by decide) rfl (by decide)) dX11_began_55 kk_X11_began_X11_cell ml_RX11_168 swX11_cell rfl rfl (Nat.le_of_ble_eq_true rfl) ?_
        rintro _ ⟨x5, rfl⟩
        refine h_goto_W 63 dX11_began_58 (by decide) ?_
        exact h_iret_W dX11_began_63 rfl rfl ⟨_, rfl⟩
    · refine h_aload_n_W dX11_began_28 rfl rfl ?_
      refine h_getR_W 13 70 (C := RX11) (T := TX11) (N := 18) dX11_began_29 (by decide) rfl rfl (by decide) rfl fl_RX11_50 ?_
      refine h_getI_W 2 (C := RX0) (T := TX0) (N := 3) dX11_began_32 (by decide) rfl rfl (by decide) rfl fl_RX11_236 (fun x6 => ?_)
      exact h_iret_W dX11_began_35 rfl rfl ⟨_, rfl⟩
  · refine h_aload_n_W dX11_began_5 rfl rfl ?_
    refine h_bipush_W (v := (-10)) dX11_began_6 rfl ?_
    refine h_callV_W (T := TX11) (NN := 18) [] (v_X11_refuseBad_0_W (-10)) dX11_began_8 kk_X11_began_X11_refuseBad ml_RX11_86 mwX11_refuseBad ewX11_refuseBad (by decide) rfl rfl rfl rfl (Nat.le_of_ble_eq_true rfl) ?_
    rintro _ ⟨x7, rfl⟩
    exact h_iret_W dX11_began_11 rfl rfl ⟨_, rfl⟩
set_option maxRecDepth 100000 in
theorem v_X9_add_73_W (a1 : Int32) : zs_Dd'_W MX9_add [.ref 73, .int a1] zs_Rv := by
  refine zs_Wof_W (by decide) (Nat.le_of_ble_eq_true rfl) ?_
  show zs_W_W MX9_add 0 [(0, .ref 73), (1, .int a1)] [] zs_Rv
  refine h_aload_n_W dX9_add_0 rfl rfl ?_
  refine h_getR_W 0 74 (C := RX9) (T := TX9) (N := 2) dX9_add_1 (by decide) rfl rfl (by decide) rfl fl_RX9_7 ?_
  refine h_iload_n_W dX9_add_4 rfl rfl ?_
  refine h_callN_W [.ref 74, .int a1] [] (v_cell_W 74 32 a1 (by decide) rfl (by decide)) dX9_add_5 kk_X9_add_X11_cell nl_RX9_23 swX11_cell rfl rfl (Nat.le_of_ble_eq_true rfl) ?_
  rintro _ ⟨x1, rfl⟩
  refine h_iconst_W (v := (nI 1)) dX9_add_8 rfl ?_
  refine h_iadd_W dX9_add_9 (fun x2 => ?_)
  refine h_istore_n_W (lv' := [(2, .int x2), (0, .ref 73), (1, .int a1)]) dX9_add_10 rfl (by decide) rfl ?_
  refine h_aload_n_W dX9_add_11 rfl rfl ?_
  refine h_getR_W 0 74 (C := RX9) (T := TX9) (N := 2) dX9_add_12 (by decide) rfl rfl (by decide) rfl fl_RX9_7 ?_
  refine h_iload_n_W dX9_add_15 rfl rfl ?_
  refine h_iload_n_W dX9_add_16 rfl rfl ?_
  refine h_callN_W [.ref 74, .int a1, .int x2] [] (v_put_W 74 32 a1 x2 (by decide) rfl (by decide) ⟨by decide, by decide, by decide⟩) dX9_add_17 kk_X9_add_X11_put nl_RX9_27 swX11_put rfl rfl (Nat.le_of_ble_eq_true rfl) ?_
  rintro _ rfl
  refine h_aload_n_W dX9_add_20 rfl rfl ?_
  refine h_aload_n_W dX9_add_21 rfl rfl ?_
  refine h_getI_W 1 (C := RX9) (T := TX9) (N := 2) dX9_add_22 (by decide) rfl rfl (by decide) rfl fl_RX9_19 (fun x3 => ?_)
  refine h_iload_n_W dX9_add_25 rfl rfl ?_
  refine h_callS_W [.int x3, .int x2] [.ref 73] (v_J9_max_7cf53_W x3 x2) dX9_add_26 kk_X9_add_J9_max_7cf53 ml_RX9_31 swJ9_max_7cf53 rfl rfl (Nat.le_of_ble_eq_true rfl) ?_
  rintro _ ⟨x4, rfl⟩
  refine h_putI_W 1 (C := RX9) (T := TX9) (N := 2) (ty := .int) dX9_add_29 (by decide) rfl rfl (by decide) rfl fl_RX9_19 rfl (by decide +kernel) ⟨rfl, rfl⟩ rfl ?_
  exact h_ret_W dX9_add_32 rfl rfl
set_option maxRecDepth 100000 in
theorem v_X9_begin_73_W : zs_Dd'_W MX9_begin [.ref 73] zs_Rv := by
  refine zs_Wof_W (by decide) (Nat.le_of_ble_eq_true rfl) ?_
  show zs_W_W MX9_begin 0 [(0, .ref 73)] [] zs_Rv
  refine h_aload_n_W dX9_begin_0 rfl rfl ?_
  refine h_getR_W 0 74 (C := RX9) (T := TX9) (N := 2) dX9_begin_1 (by decide) rfl rfl (by decide) rfl fl_RX9_7 ?_
  refine h_iconst_W (v := (nI 0)) dX9_begin_4 rfl ?_
  refine h_callN_W [.ref 74, .int (nI 0)] [] (v_fill_W 74 32 (nI 0) (by decide) rfl (by decide) ⟨by decide, by decide, by decide⟩) dX9_begin_5 kk_X9_begin_X11_fill nl_RX9_13 swX11_fill rfl rfl (Nat.le_of_ble_eq_true rfl) ?_
  rintro _ rfl
  refine h_aload_n_W dX9_begin_8 rfl rfl ?_
  refine h_iconst_W (v := (nI 0)) dX9_begin_9 rfl ?_
  refine h_putI_W 1 (C := RX9) (T := TX9) (N := 2) (ty := .int) dX9_begin_10 (by decide) rfl rfl (by decide) rfl fl_RX9_19 rfl (by decide +kernel) ⟨rfl, rfl⟩ rfl ?_
  exact h_ret_W dX9_begin_13 rfl rfl
set_option maxRecDepth 100000 in
theorem v_X0_tallyAt_70_1_73_W (a1 : Int32) : zs_Dd'_W MX0_tallyAt [.ref 70, .int a1, .ref 1, .ref 73] zs_Rv := by
  refine zs_Wof_W (by decide) (Nat.le_of_ble_eq_true rfl) ?_
  show zs_W_W MX0_tallyAt 0 [(0, .ref 70), (1, .int a1), (2, .ref 1), (3, .ref 73)] [] zs_Rv
  have j7 : ∀ (n7 : Nat) (v1 : Int32) (c7 : Int32), zs_mu c7 < n7 → zs_W_W MX0_tallyAt 7 [(0, .ref 70), (1, .int v1), (2, .ref 1), (3, .ref 73), (4, .int c7)] [] zs_Rv := by
    intro n7
    induction n7 with
    | zero => intro v1 c7 hn7; exact absurd hn7 (Nat.not_lt_zero _)
    | succ n7 ih7 =>
      intro v1 c7 hn7
      refine h_iload_W dX0_tallyAt_7 rfl ?_
      refine h_aload_n_W dX0_tallyAt_9 rfl rfl ?_
      refine h_getI_W 2 (C := RX0) (T := TX0) (N := 3) dX0_tallyAt_10 (by decide) rfl rfl (by decide) rfl fl_RX0_28 (fun x1 => ?_)
      refine h_ic_ge_W 41 dX0_tallyAt_13 (by decide) (fun h2 => ?_) (fun h2 => ?_)
      · exact h_ret_W dX0_tallyAt_41 rfl rfl
      · have hd7 := zs_muA h2 hn7
        refine h_aload_n_W dX0_tallyAt_16 rfl rfl ?_
        refine h_aload_n_W dX0_tallyAt_17 rfl rfl ?_
        refine h_aload_n_W dX0_tallyAt_18 rfl rfl ?_
        refine h_getR_W 1 72 (C := RX0) (T := TX0) (N := 3) dX0_tallyAt_19 (by decide) rfl rfl (by decide) rfl fl_RX0_15 ?_
        refine h_iload_W dX0_tallyAt_22 rfl ?_
        refine h_callN_W [.ref 72, .int c7] [.ref 70, .ref 73] (v_cell_W 72 144 c7 (by decide) rfl (by decide)) dX0_tallyAt_24 kk_X0_tallyAt_X11_cell nl_RX0_47 swX11_cell rfl rfl (Nat.le_of_ble_eq_true rfl) ?_
        rintro _ ⟨x3, rfl⟩
        refine h_iload_n_W dX0_tallyAt_27 rfl rfl ?_
        refine h_aload_n_W dX0_tallyAt_28 rfl rfl ?_
        refine h_callV_W (T := TX0) (NN := 3) [.ref 73] (v_X0_drawingAt_70_1_W x3 v1) dX0_tallyAt_29 kk_X0_tallyAt_X0_drawingAt ml_RX0_51 mwX0_drawingAt ewX0_drawingAt (by decide) rfl rfl rfl rfl (Nat.le_of_ble_eq_true rfl) ?_
        rintro _ ⟨x4, rfl⟩
        refine h_callV_W (T := TX9) (NN := 2) [] (v_X9_add_73_W x4) dX0_tallyAt_32 kk_X0_tallyAt_X9_add ml_RX0_55 mwX9_add ewX9_add (by decide) rfl rfl rfl rfl (Nat.le_of_ble_eq_true rfl) ?_
        rintro _ rfl
        refine h_iinc_W (v := (c7 + Int32.ofInt 1)) (lv' := [(4, .int (c7 + Int32.ofInt 1)), (0, .ref 70), (1, .int v1), (2, .ref 1), (3, .ref 73)]) dX0_tallyAt_35 rfl rfl (by decide) rfl ?_
        refine h_goto_W 7 dX0_tallyAt_38 (by decide) ?_
        exact zs_Wlv_W (ih7 v1 (c7 + Int32.ofInt 1) hd7) (zs_mc 1 rfl (zs_mc 2 rfl (zs_mc 3 rfl (zs_mc 4 rfl (zs_mc 0 rfl zs_mn)))))
  refine h_aload_n_W dX0_tallyAt_0 rfl rfl ?_
  refine h_callV_W (T := TX9) (NN := 2) [] (v_X9_begin_73_W) dX0_tallyAt_1 kk_X0_tallyAt_X9_begin ml_RX0_42 mwX9_begin ewX9_begin (by decide) rfl rfl rfl rfl (Nat.le_of_ble_eq_true rfl) ?_
  rintro _ rfl
  refine h_iconst_W (v := (nI 0)) dX0_tallyAt_4 rfl ?_
  refine h_istore_W (lv' := [(4, .int (nI 0)), (0, .ref 70), (1, .int a1), (2, .ref 1), (3, .ref 73)]) dX0_tallyAt_5 (by decide) rfl ?_
  exact zs_Wlv_W (j7 _ a1 (nI 0) (Nat.lt_succ_self _)) (zs_mc 1 rfl (zs_mc 2 rfl (zs_mc 3 rfl (zs_mc 4 rfl (zs_mc 0 rfl zs_mn)))))
set_option maxRecDepth 100000 in
theorem v_X11_tell_0_W : zs_Dd'_W MX11_tell [.ref 0] zs_Ri := by
  refine zs_Wof_W (by decide) (Nat.le_of_ble_eq_true rfl) ?_
  show zs_W_W MX11_tell 0 [(0, .ref 0)] [] zs_Ri
  have j31 : ∀ (n31 : Nat) (v1 : Int32) (v2 : Int32) (c31 : Int32), zs_mu c31 < n31 → zs_W_W MX11_tell 31 [(0, .ref 0), (1, .int v1), (2, .int v2), (3, .int c31)] [] zs_Ri := by
    intro n31
    induction n31 with
    | zero => intro v1 v2 c31 hn31; exact absurd hn31 (Nat.not_lt_zero _)
    | succ n31 ih31 =>
      intro v1 v2 c31 hn31
      have j74 : zs_mu (c31 + Int32.ofInt 1) < n31 → ∀ (v1 : Int32) (v2 : Int32), zs_W_W MX11_tell 74 [(0, .ref 0), (1, .int v1), (2, .int v2), (3, .int c31)] [] zs_Ri := by
        intro hd31 v1 v2
        refine h_iinc_W (v := (c31 + Int32.ofInt 1)) (lv' := [(3, .int (c31 + Int32.ofInt 1)), (0, .ref 0), (1, .int v1), (2, .int v2)]) dX11_tell_74 rfl rfl (by decide) rfl ?_
        refine h_goto_W 31 dX11_tell_77 (by decide) ?_
        exact zs_Wlv_W (ih31 v1 v2 (c31 + Int32.ofInt 1) hd31) (zs_mc 1 rfl (zs_mc 2 rfl (zs_mc 3 rfl (zs_mc 0 rfl zs_mn))))
      refine h_iload_n_W dX11_tell_31 rfl rfl ?_
      refine h_bipush_W (v := (nI 30)) dX11_tell_32 rfl ?_
      refine h_ic_gt_W 80 dX11_tell_34 (by decide) (fun h1 => ?_) (fun h1 => ?_)
      · refine h_iload_n_W dX11_tell_80 rfl rfl ?_
        exact h_iret_W dX11_tell_81 rfl rfl ⟨_, rfl⟩
      · have hd31 := zs_muB h1 (Nat.le_of_ble_eq_true rfl) hn31
        refine h_aload_n_W dX11_tell_37 rfl rfl ?_
        refine h_getR_W 13 70 (C := RX11) (T := TX11) (N := 18) dX11_tell_38 (by decide) rfl rfl (by decide) rfl fl_RX11_50 ?_
        refine h_iload_n_W dX11_tell_41 rfl rfl ?_
        refine h_aload_n_W dX11_tell_42 rfl rfl ?_
        refine h_getR_W 0 1 (C := RX11) (T := TX11) (N := 18) dX11_tell_43 (by decide) rfl rfl (by decide) rfl fl_RX11_10 ?_
        refine h_aload_n_W dX11_tell_46 rfl rfl ?_
        refine h_getR_W 14 73 (C := RX11) (T := TX11) (N := 18) dX11_tell_47 (by decide) rfl rfl (by decide) rfl fl_RX11_57 ?_
        refine h_callV_W (T := TX0) (NN := 3) [] (v_X0_tallyAt_70_1_73_W c31) dX11_tell_50 kk_X11_tell_X0_tallyAt ml_RX11_241 mwX0_tallyAt ewX0_tallyAt (by decide) rfl rfl rfl rfl (Nat.le_of_ble_eq_true rfl) ?_
        rintro _ rfl
        refine h_aload_n_W dX11_tell_53 rfl rfl ?_
        refine h_getR_W 14 73 (C := RX11) (T := TX11) (N := 18) dX11_tell_54 (by decide) rfl rfl (by decide) rfl fl_RX11_57 ?_
        refine h_getI_W 1 (C := RX9) (T := TX9) (N := 2) dX11_tell_57 (by decide) rfl rfl (by decide) rfl fl_RX11_245 (fun x2 => ?_)
        refine h_iload_n_W dX11_tell_60 rfl rfl ?_
        refine h_ic_ge_W 74 dX11_tell_61 (by decide) (fun h3 => ?_) (fun h3 => ?_)
        · exact j74 hd31 v1 v2
        · refine h_aload_n_W dX11_tell_64 rfl rfl ?_
          refine h_getR_W 14 73 (C := RX11) (T := TX11) (N := 18) dX11_tell_65 (by decide) rfl rfl (by decide) rfl fl_RX11_57 ?_
          refine h_getI_W 1 (C := RX9) (T := TX9) (N := 2) dX11_tell_68 (by decide) rfl rfl (by decide) rfl fl_RX11_245 (fun x4 => ?_)
          refine h_istore_n_W (lv' := [(2, .int x4), (0, .ref 0), (1, .int v1), (3, .int c31)]) dX11_tell_71 rfl (by decide) rfl ?_
          refine h_iload_n_W dX11_tell_72 rfl rfl ?_
          refine h_istore_n_W (lv' := [(1, .int c31), (2, .int x4), (0, .ref 0), (3, .int c31)]) dX11_tell_73 rfl (by decide) rfl ?_
          exact zs_Wlv_W (j74 hd31 c31 x4) (zs_mc 2 rfl (zs_mc 0 rfl (zs_mc 1 rfl (zs_mc 3 rfl zs_mn))))
  refine h_aload_n_W dX11_tell_0 rfl rfl ?_
  refine h_getR_W 13 70 (C := RX11) (T := TX11) (N := 18) dX11_tell_1 (by decide) rfl rfl (by decide) rfl fl_RX11_50 ?_
  refine h_aload_n_W dX11_tell_4 rfl rfl ?_
  refine h_getR_W 0 1 (C := RX11) (T := TX11) (N := 18) dX11_tell_5 (by decide) rfl rfl (by decide) rfl fl_RX11_10 ?_
  refine h_callV_W (T := TX0) (NN := 3) [] (v_X0_gather_70_1_W) dX11_tell_8 kk_X11_tell_X0_gather ml_RX11_233 mwX0_gather ewX0_gather (by decide) rfl rfl rfl rfl (Nat.le_of_ble_eq_true rfl) ?_
  rintro _ rfl
  refine h_aload_n_W dX11_tell_11 rfl rfl ?_
  refine h_getR_W 13 70 (C := RX11) (T := TX11) (N := 18) dX11_tell_12 (by decide) rfl rfl (by decide) rfl fl_RX11_50 ?_
  refine h_getI_W 2 (C := RX0) (T := TX0) (N := 3) dX11_tell_15 (by decide) rfl rfl (by decide) rfl fl_RX11_236 (fun x5 => ?_)
  refine h_iconst_W (v := (nI 1)) dX11_tell_18 rfl ?_
  refine h_ic_ge_W 24 dX11_tell_19 (by decide) (fun h6 => ?_) (fun h6 => ?_)
  · refine h_iconst_W (v := (-1)) dX11_tell_24 rfl ?_
    refine h_istore_n_W (lv' := [(1, .int (-1)), (0, .ref 0)]) dX11_tell_25 rfl (by decide) rfl ?_
    refine h_ldc_W (v := (nI 1000000)) dX11_tell_26 cl_RX11_240 ?_
    refine h_istore_n_W (lv' := [(2, .int (nI 1000000)), (1, .int (-1)), (0, .ref 0)]) dX11_tell_28 rfl (by decide) rfl ?_
    refine h_iconst_W (v := (nI 1)) dX11_tell_29 rfl ?_
    refine h_istore_n_W (lv' := [(3, .int (nI 1)), (2, .int (nI 1000000)), (1, .int (-1)), (0, .ref 0)]) dX11_tell_30 rfl (by decide) rfl ?_
    exact zs_Wlv_W (j31 _ (-1) (nI 1000000) (nI 1) (Nat.lt_succ_self _)) (zs_mc 3 rfl (zs_mc 2 rfl (zs_mc 1 rfl (zs_mc 0 rfl zs_mn))))
  · refine h_iconst_W (v := (-1)) dX11_tell_22 rfl ?_
    exact h_iret_W dX11_tell_23 rfl rfl ⟨_, rfl⟩
set_option maxRecDepth 100000 in
theorem v_X5_value_11_W (a1 : Int32) (a2 : Int32) : zs_Dd'_W MX5_value [.ref 11, .int a1, .int a2] zs_Ri := by
  refine zs_Wof_W (by decide) (Nat.le_of_ble_eq_true rfl) ?_
  show zs_W_W MX5_value 0 [(0, .ref 11), (1, .int a1), (2, .int a2)] [] zs_Ri
  refine h_aload_n_W dX5_value_0 rfl rfl ?_
  refine h_getR_W 1 12 (C := RX5) (T := TX5) (N := 3) dX5_value_1 (by decide) rfl rfl (by decide) rfl fl_RX5_9 ?_
  refine h_iconst_W (v := (nI 4)) dX5_value_4 rfl ?_
  refine h_iload_n_W dX5_value_5 rfl rfl ?_
  refine h_imul_W dX5_value_6 (fun x1 => ?_)
  refine h_iload_n_W dX5_value_7 rfl rfl ?_
  refine h_iadd_W dX5_value_8 (fun x2 => ?_)
  refine h_callN_W [.ref 12, .int x2] [] (v_cell_W 12 24 x2 (by decide) rfl (by decide)) dX5_value_9 kk_X5_value_X11_cell nl_RX5_26 swX11_cell rfl rfl (Nat.le_of_ble_eq_true rfl) ?_
  rintro _ ⟨x3, rfl⟩
  exact h_iret_W dX5_value_12 rfl rfl ⟨_, rfl⟩
set_option maxRecDepth 100000 in
theorem v_X5_value_13_W (a1 : Int32) (a2 : Int32) : zs_Dd'_W MX5_value [.ref 13, .int a1, .int a2] zs_Ri := by
  refine zs_Wof_W (by decide) (Nat.le_of_ble_eq_true rfl) ?_
  show zs_W_W MX5_value 0 [(0, .ref 13), (1, .int a1), (2, .int a2)] [] zs_Ri
  refine h_aload_n_W dX5_value_0 rfl rfl ?_
  refine h_getR_W 1 14 (C := RX5) (T := TX5) (N := 3) dX5_value_1 (by decide) rfl rfl (by decide) rfl fl_RX5_9 ?_
  refine h_iconst_W (v := (nI 4)) dX5_value_4 rfl ?_
  refine h_iload_n_W dX5_value_5 rfl rfl ?_
  refine h_imul_W dX5_value_6 (fun x1 => ?_)
  refine h_iload_n_W dX5_value_7 rfl rfl ?_
  refine h_iadd_W dX5_value_8 (fun x2 => ?_)
  refine h_callN_W [.ref 14, .int x2] [] (v_cell_W 14 24 x2 (by decide) rfl (by decide)) dX5_value_9 kk_X5_value_X11_cell nl_RX5_26 swX11_cell rfl rfl (Nat.le_of_ble_eq_true rfl) ?_
  rintro _ ⟨x3, rfl⟩
  exact h_iret_W dX5_value_12 rfl rfl ⟨_, rfl⟩
set_option maxRecDepth 100000 in
theorem v_X11_gain_78_W (a1 : Int32) (a2 : Int32) : zs_Dd'_W MX11_gain [.ref 78, .int a1, .int a2] zs_Ri := by
  refine zs_Wof_W (by decide) (Nat.le_of_ble_eq_true rfl) ?_
  show zs_W_W MX11_gain 0 [(0, .ref 78), (1, .int a1), (2, .int a2)] [] zs_Ri
  have j10 : ∀ (v1 : Int32) (v2 : Int32) (s0 : Int32), zs_W_W MX11_gain 10 [(0, .ref 78), (1, .int v1), (2, .int v2)] [.int s0] zs_Ri := by
    intro v1 v2 s0
    refine h_istore_n_W (lv' := [(3, .int s0), (0, .ref 78), (1, .int v1), (2, .int v2)]) dX11_gain_10 rfl (by decide) rfl ?_
    refine h_aload_n_W dX11_gain_11 rfl rfl ?_
    refine h_iload_n_W dX11_gain_12 rfl rfl ?_
    refine h_iload_n_W dX11_gain_13 rfl rfl ?_
    refine h_iadd_W dX11_gain_14 (fun x1 => ?_)
    refine h_callS_W [.ref 78, .int x1] [] (v_cell_W 78 8 x1 (by decide) rfl (by decide)) dX11_gain_15 kk_X11_gain_X11_cell ml_RX11_168 swX11_cell rfl rfl (Nat.le_of_ble_eq_true rfl) ?_
    rintro _ ⟨x2, rfl⟩
    refine h_iload_n_W dX11_gain_18 rfl rfl ?_
    refine h_isub_W dX11_gain_19 (fun x3 => ?_)
    exact h_iret_W dX11_gain_20 rfl rfl ⟨_, rfl⟩
  refine h_iload_n_W dX11_gain_0 rfl rfl ?_
  refine h_iconst_W (v := (nI 3)) dX11_gain_1 rfl ?_
  refine h_ic_ne_W 9 dX11_gain_2 (by decide) (fun h4 => ?_) (fun h4 => ?_)
  · refine h_iconst_W (v := (nI 0)) dX11_gain_9 rfl ?_
    exact j10 a1 a2 (nI 0)
  · refine h_iconst_W (v := (nI 1)) dX11_gain_5 rfl ?_
    refine h_goto_W 10 dX11_gain_6 (by decide) ?_
    exact j10 a1 a2 (nI 1)
set_option maxRecDepth 100000 in
theorem v_X11_gain_79_W (a1 : Int32) (a2 : Int32) : zs_Dd'_W MX11_gain [.ref 79, .int a1, .int a2] zs_Ri := by
  refine zs_Wof_W (by decide) (Nat.le_of_ble_eq_true rfl) ?_
  show zs_W_W MX11_gain 0 [(0, .ref 79), (1, .int a1), (2, .int a2)] [] zs_Ri
  have j10 : ∀ (v1 : Int32) (v2 : Int32) (s0 : Int32), zs_W_W MX11_gain 10 [(0, .ref 79), (1, .int v1), (2, .int v2)] [.int s0] zs_Ri := by
    intro v1 v2 s0
    refine h_istore_n_W (lv' := [(3, .int s0), (0, .ref 79), (1, .int v1), (2, .int v2)]) dX11_gain_10 rfl (by decide) rfl ?_
    refine h_aload_n_W dX11_gain_11 rfl rfl ?_
    refine h_iload_n_W dX11_gain_12 rfl rfl ?_
    refine h_iload_n_W dX11_gain_13 rfl rfl ?_
    refine h_iadd_W dX11_gain_14 (fun x1 => ?_)
    refine h_callS_W [.ref 79, .int x1] [] (v_cell_W 79 8 x1 (by decide) rfl (by decide)) dX11_gain_15 kk_X11_gain_X11_cell ml_RX11_168 swX11_cell rfl rfl (Nat.le_of_ble_eq_true rfl) ?_
    rintro _ ⟨x2, rfl⟩
    refine h_iload_n_W dX11_gain_18 rfl rfl ?_
    refine h_isub_W dX11_gain_19 (fun x3 => ?_)
    exact h_iret_W dX11_gain_20 rfl rfl ⟨_, rfl⟩
  refine h_iload_n_W dX11_gain_0 rfl rfl ?_
  refine h_iconst_W (v := (nI 3)) dX11_gain_1 rfl ?_
  refine h_ic_ne_W 9 dX11_gain_2 (by decide) (fun h4 => ?_) (fun h4 => ?_)
  · refine h_iconst_W (v := (nI 0)) dX11_gain_9 rfl ?_
    exact j10 a1 a2 (nI 0)
  · refine h_iconst_W (v := (nI 1)) dX11_gain_5 rfl ?_
    refine h_goto_W 10 dX11_gain_6 (by decide) ?_
    exact j10 a1 a2 (nI 1)
set_option maxRecDepth 100000 in
theorem v_X11_rests_0_W (a1 : Int32) (a2 : Int32) : zs_Dd'_W MX11_rests [.ref 0, .int a1, .int a2] zs_Rb := by
  refine zs_Wof_W (by decide) (Nat.le_of_ble_eq_true rfl) ?_
  show zs_W_W MX11_rests 0 [(0, .ref 0), (1, .int a1), (2, .int a2)] [] zs_Rb
  have j2 : ∀ (n2 : Nat) (v1 : Int32) (v2 : Int32) (c2 : Int32), zs_mu c2 < n2 → zs_W_W MX11_rests 2 [(0, .ref 0), (1, .int v1), (2, .int v2), (3, .int c2)] [] zs_Rb := by
    intro n2
    induction n2 with
    | zero => intro v1 v2 c2 hn2; exact absurd hn2 (Nat.not_lt_zero _)
    | succ n2 ih2 =>
      intro v1 v2 c2 hn2
      refine h_iload_n_W dX11_rests_2 rfl rfl ?_
      refine h_iconst_W (v := (nI 4)) dX11_rests_3 rfl ?_
      refine h_ic_ge_W 57 dX11_rests_4 (by decide) (fun h1 => ?_) (fun h1 => ?_)
      · refine h_iconst_W (v := (nI 1)) dX11_rests_57 rfl ?_
        exact h_iret_W dX11_rests_58 rfl rfl ⟨_, rfl, rfl⟩
      · have hd2 := zs_muA h1 hn2
        refine h_aload_n_W dX11_rests_7 rfl rfl ?_
        refine h_getR_W 16 78 (C := RX11) (T := TX11) (N := 18) dX11_rests_8 (by decide) rfl rfl (by decide) rfl fl_RX11_68 ?_
        refine h_iload_n_W dX11_rests_11 rfl rfl ?_
        refine h_iload_n_W dX11_rests_12 rfl rfl ?_
        refine h_callS_W [.ref 78, .int c2, .int v2] [] (v_X11_gain_78_W c2 v2) dX11_rests_13 kk_X11_rests_X11_gain ml_RX11_376 swX11_gain rfl rfl (Nat.le_of_ble_eq_true rfl) ?_
        rintro _ ⟨x2, rfl⟩
        refine h_aload_n_W dX11_rests_16 rfl rfl ?_
        refine h_getR_W 16 78 (C := RX11) (T := TX11) (N := 18) dX11_rests_17 (by decide) rfl rfl (by decide) rfl fl_RX11_68 ?_
        refine h_iload_n_W dX11_rests_20 rfl rfl ?_
        refine h_iload_n_W dX11_rests_21 rfl rfl ?_
        refine h_callS_W [.ref 78, .int v1, .int v2] [.int x2] (v_X11_gain_78_W v1 v2) dX11_rests_22 kk_X11_rests_X11_gain ml_RX11_376 swX11_gain rfl rfl (Nat.le_of_ble_eq_true rfl) ?_
        rintro _ ⟨x3, rfl⟩
        refine h_ic_gt_W 49 dX11_rests_25 (by decide) (fun h4 => ?_) (fun h4 => ?_)
        · refine h_iconst_W (v := (nI 0)) dX11_rests_49 rfl ?_
          exact h_iret_W dX11_rests_50 rfl rfl ⟨_, rfl, rfl⟩
        · refine h_aload_n_W dX11_rests_28 rfl rfl ?_
          refine h_getR_W 17 79 (C := RX11) (T := TX11) (N := 18) dX11_rests_29 (by decide) rfl rfl (by decide) rfl fl_RX11_72 ?_
          refine h_iload_n_W dX11_rests_32 rfl rfl ?_
          refine h_iload_n_W dX11_rests_33 rfl rfl ?_
          refine h_callS_W [.ref 79, .int c2, .int v1] [] (v_X11_gain_79_W c2 v1) dX11_rests_34 kk_X11_rests_X11_gain ml_RX11_376 swX11_gain rfl rfl (Nat.le_of_ble_eq_true rfl) ?_
          rintro _ ⟨x5, rfl⟩
          refine h_aload_n_W dX11_rests_37 rfl rfl ?_
          refine h_getR_W 17 79 (C := RX11) (T := TX11) (N := 18) dX11_rests_38 (by decide) rfl rfl (by decide) rfl fl_RX11_72 ?_
          refine h_iload_n_W dX11_rests_41 rfl rfl ?_
          refine h_iload_n_W dX11_rests_42 rfl rfl ?_
          refine h_callS_W [.ref 79, .int v2, .int v1] [.int x5] (v_X11_gain_79_W v2 v1) dX11_rests_43 kk_X11_rests_X11_gain ml_RX11_376 swX11_gain rfl rfl (Nat.le_of_ble_eq_true rfl) ?_
          rintro _ ⟨x6, rfl⟩
          refine h_ic_le_W 51 dX11_rests_46 (by decide) (fun h7 => ?_) (fun h7 => ?_)
          · refine h_iinc_W (v := (c2 + Int32.ofInt 1)) (lv' := [(3, .int (c2 + Int32.ofInt 1)), (0, .ref 0), (1, .int v1), (2, .int v2)]) dX11_rests_51 rfl rfl (by decide) rfl ?_
            refine h_goto_W 2 dX11_rests_54 (by decide) ?_
            exact zs_Wlv_W (ih2 v1 v2 (c2 + Int32.ofInt 1) hd2) (zs_mc 1 rfl (zs_mc 2 rfl (zs_mc 3 rfl (zs_mc 0 rfl zs_mn))))
          · refine h_iconst_W (v := (nI 0)) dX11_rests_49 rfl ?_
            exact h_iret_W dX11_rests_50 rfl rfl ⟨_, rfl, rfl⟩
  refine h_iconst_W (v := (nI 0)) dX11_rests_0 rfl ?_
  refine h_istore_n_W (lv' := [(3, .int (nI 0)), (0, .ref 0), (1, .int a1), (2, .int a2)]) dX11_rests_1 rfl (by decide) rfl ?_
  exact zs_Wlv_W (j2 _ a1 a2 (nI 0) (Nat.lt_succ_self _)) (zs_mc 1 rfl (zs_mc 2 rfl (zs_mc 3 rfl (zs_mc 0 rfl zs_mn))))
set_option maxRecDepth 100000 in
theorem v_X11_fillGains_0_W (a1 : Int32) (a2 : Int32) : zs_Dd'_W MX11_fillGains [.ref 0, .int a1, .int a2] zs_Rv := by
  refine zs_Wof_W (by decide) (Nat.le_of_ble_eq_true rfl) ?_
  show zs_W_W MX11_fillGains 0 [(0, .ref 0), (1, .int a1), (2, .int a2)] [] zs_Rv
  have j2 : ∀ (n2 : Nat) (v1 : Int32) (v2 : Int32) (c2 : Int32), zs_mu c2 < n2 → zs_W_W MX11_fillGains 2 [(0, .ref 0), (1, .int v1), (2, .int v2), (3, .int c2)] [] zs_Rv := by
    intro n2
    induction n2 with
    | zero => intro v1 v2 c2 hn2; exact absurd hn2 (Nat.not_lt_zero _)
    | succ n2 ih2 =>
      intro v1 v2 c2 hn2
      refine h_iload_n_W dX11_fillGains_2 rfl rfl ?_
      refine h_bipush_W (v := (nI 6)) dX11_fillGains_3 rfl ?_
      refine h_ic_gt_W 58 dX11_fillGains_5 (by decide) (fun h1 => ?_) (fun h1 => ?_)
      · exact h_ret_W dX11_fillGains_58 rfl rfl
      · have hd2 := zs_muB h1 (Nat.le_of_ble_eq_true rfl) hn2
        refine h_aload_n_W dX11_fillGains_8 rfl rfl ?_
        refine h_iload_n_W dX11_fillGains_9 rfl rfl ?_
        refine h_iconst_W (v := (nI 4)) dX11_fillGains_10 rfl ?_
        refine h_callV_W (T := TX11) (NN := 18) [] (v_X11_tryFlashes_0_W c2 (nI 4)) dX11_fillGains_11 kk_X11_fillGains_X11_tryFlashes ml_RX11_194 mwX11_tryFlashes ewX11_tryFlashes (by decide) rfl rfl rfl rfl (Nat.le_of_ble_eq_true rfl) ?_
        rintro _ rfl
        refine h_aload_n_W dX11_fillGains_14 rfl rfl ?_
        refine h_getR_W 16 78 (C := RX11) (T := TX11) (N := 18) dX11_fillGains_15 (by decide) rfl rfl (by decide) rfl fl_RX11_68 ?_
        refine h_iload_n_W dX11_fillGains_18 rfl rfl ?_
        refine h_aload_n_W dX11_fillGains_19 rfl rfl ?_
        refine h_getR_W 11 63 (C := RX11) (T := TX11) (N := 18) dX11_fillGains_20 (by decide) rfl rfl (by decide) rfl fl_RX11_36 ?_
        refine h_getR_W 5 66 (C := RX3) (T := TX3) (N := 6) dX11_fillGains_23 (by decide) rfl rfl (by decide) rfl fl_RX11_191 ?_
        refine h_iload_n_W dX11_fillGains_26 rfl rfl ?_
        refine h_callS_W [.ref 66, .int v1] [.int c2, .ref 78] (v_cell_W 66 5 v1 (by decide) rfl (by decide)) dX11_fillGains_27 kk_X11_fillGains_X11_cell ml_RX11_168 swX11_cell rfl rfl (Nat.le_of_ble_eq_true rfl) ?_
        rintro _ ⟨x2, rfl⟩
        refine h_callS_W [.ref 78, .int c2, .int x2] [] (v_put_W 78 8 c2 x2 (by decide) rfl (by decide) ⟨by decide, by decide, by decide⟩) dX11_fillGains_30 kk_X11_fillGains_X11_put ml_RX11_172 swX11_put rfl rfl (Nat.le_of_ble_eq_true rfl) ?_
        rintro _ rfl
        refine h_aload_n_W dX11_fillGains_33 rfl rfl ?_
        refine h_getR_W 17 79 (C := RX11) (T := TX11) (N := 18) dX11_fillGains_34 (by decide) rfl rfl (by decide) rfl fl_RX11_72 ?_
        refine h_iload_n_W dX11_fillGains_37 rfl rfl ?_
        refine h_aload_n_W dX11_fillGains_38 rfl rfl ?_
        refine h_getR_W 11 63 (C := RX11) (T := TX11) (N := 18) dX11_fillGains_39 (by decide) rfl rfl (by decide) rfl fl_RX11_36 ?_
        refine h_getR_W 5 66 (C := RX3) (T := TX3) (N := 6) dX11_fillGains_42 (by decide) rfl rfl (by decide) rfl fl_RX11_191 ?_
        refine h_iload_n_W dX11_fillGains_45 rfl rfl ?_
        refine h_callS_W [.ref 66, .int v2] [.int c2, .ref 79] (v_cell_W 66 5 v2 (by decide) rfl (by decide)) dX11_fillGains_46 kk_X11_fillGains_X11_cell ml_RX11_168 swX11_cell rfl rfl (Nat.le_of_ble_eq_true rfl) ?_
        rintro _ ⟨x3, rfl⟩
        refine h_callS_W [.ref 79, .int c2, .int x3] [] (v_put_W 79 8 c2 x3 (by decide) rfl (by decide) ⟨by decide, by decide, by decide⟩) dX11_fillGains_49 kk_X11_fillGains_X11_put ml_RX11_172 swX11_put rfl rfl (Nat.le_of_ble_eq_true rfl) ?_
        rintro _ rfl
        refine h_iinc_W (v := (c2 + Int32.ofInt 1)) (lv' := [(3, .int (c2 + Int32.ofInt 1)), (0, .ref 0), (1, .int v1), (2, .int v2)]) dX11_fillGains_52 rfl rfl (by decide) rfl ?_
        refine h_goto_W 2 dX11_fillGains_55 (by decide) ?_
        exact zs_Wlv_W (ih2 v1 v2 (c2 + Int32.ofInt 1) hd2) (zs_mc 1 rfl (zs_mc 2 rfl (zs_mc 3 rfl (zs_mc 0 rfl zs_mn))))
  refine h_iconst_W (v := (nI 0)) dX11_fillGains_0 rfl ?_
  refine h_istore_n_W (lv' := [(3, .int (nI 0)), (0, .ref 0), (1, .int a1), (2, .int a2)]) dX11_fillGains_1 rfl (by decide) rfl ?_
  exact zs_Wlv_W (j2 _ a1 a2 (nI 0) (Nat.lt_succ_self _)) (zs_mc 1 rfl (zs_mc 2 rfl (zs_mc 3 rfl (zs_mc 0 rfl zs_mn))))
set_option maxRecDepth 100000 in
theorem v_X11_hands_0_W (a1 : Int32) (a2 : Int32) (a3 : Int32) : zs_Dd'_W MX11_hands [.ref 0, .int a1, .int a2, .int a3] zs_Ri := by
  refine zs_Wof_W (by decide) (Nat.le_of_ble_eq_true rfl) ?_
  show zs_W_W MX11_hands 0 [(0, .ref 0), (1, .int a1), (2, .int a2), (3, .int a3)] [] zs_Ri
  have j45 : ∀ (n45 : Nat) (v1 : Int32) (v2 : Int32) (v3 : Int32) (v4 : Int32) (c45 : Int32), zs_mu c45 < n45 → zs_W_W MX11_hands 45 [(0, .ref 0), (1, .int v1), (2, .int v2), (3, .int v3), (4, .int v4), (5, .int c45)] [] zs_Ri := by
    intro n45
    induction n45 with
    | zero => intro v1 v2 v3 v4 c45 hn45; exact absurd hn45 (Nat.not_lt_zero _)
    | succ n45 ih45 =>
      intro v1 v2 v3 v4 c45 hn45
      have j54 : zs_mu (c45 + Int32.ofInt 1) < n45 → ∀ (n54 : Nat) (v1 : Int32) (v2 : Int32) (v3 : Int32) (v4 : Int32) (c54 : Int32), zs_mu c54 < n54 → zs_W_W MX11_hands 54 [(0, .ref 0), (1, .int v1), (2, .int v2), (3, .int v3), (4, .int v4), (5, .int c45), (6, .int c54)] [] zs_Ri := by
        intro hd45 n54
        induction n54 with
        | zero => intro v1 v2 v3 v4 c54 hn54; exact absurd hn54 (Nat.not_lt_zero _)
        | succ n54 ih54 =>
          intro v1 v2 v3 v4 c54 hn54
          have j89 : zs_mu (c45 + Int32.ofInt 1) < n45 → zs_mu (c54 + Int32.ofInt 1) < n54 → ∀ (v1 : Int32) (v2 : Int32) (v3 : Int32) (v4 : Int32), zs_W_W MX11_hands 89 [(0, .ref 0), (1, .int v1), (2, .int v2), (3, .int v3), (4, .int v4), (5, .int c45), (6, .int c54)] [] zs_Ri := by
            intro hd45 hd54 v1 v2 v3 v4
            refine h_iinc_W (v := (c54 + Int32.ofInt 1)) (lv' := [(6, .int (c54 + Int32.ofInt 1)), (0, .ref 0), (1, .int v1), (2, .int v2), (3, .int v3), (4, .int v4), (5, .int c45)]) dX11_hands_89 rfl rfl (by decide) rfl ?_
            refine h_goto_W 54 dX11_hands_92 (by decide) ?_
            exact zs_Wlv_W (ih54 v1 v2 v3 v4 (c54 + Int32.ofInt 1) hd54) (zs_mc 1 rfl (zs_mc 2 rfl (zs_mc 3 rfl (zs_mc 4 rfl (zs_mc 5 rfl (zs_mc 6 rfl (zs_mc 0 rfl zs_mn)))))))
          refine h_iload_W dX11_hands_54 rfl ?_
          refine h_iconst_W (v := (nI 4)) dX11_hands_56 rfl ?_
          refine h_ic_ge_W 95 dX11_hands_57 (by decide) (fun h1 => ?_) (fun h1 => ?_)
          · refine h_iinc_W (v := (c45 + Int32.ofInt 1)) (lv' := [(5, .int (c45 + Int32.ofInt 1)), (0, .ref 0), (1, .int v1), (2, .int v2), (3, .int v3), (4, .int v4), (6, .int c54)]) dX11_hands_95 rfl rfl (by decide) rfl ?_
            refine h_goto_W 45 dX11_hands_98 (by decide) ?_
            exact zs_Wlv_W (ih45 v1 v2 v3 v4 (c45 + Int32.ofInt 1) hd45) (zs_mc 1 rfl (zs_mc 2 rfl (zs_mc 3 rfl (zs_mc 4 rfl (zs_mc 5 rfl (zs_mc 0 rfl zs_mn))))))
          · have hd54 := zs_muA h1 hn54
            refine h_aload_n_W dX11_hands_60 rfl rfl ?_
            refine h_iload_W dX11_hands_61 rfl ?_
            refine h_iload_W dX11_hands_63 rfl ?_
            refine h_callV_W (T := TX11) (NN := 18) [] (v_X11_rests_0_W c45 c54) dX11_hands_65 kk_X11_hands_X11_rests ml_RX11_270 mwX11_rests ewX11_rests (by decide) rfl rfl rfl rfl (Nat.le_of_ble_eq_true rfl) ?_
            rintro _ ⟨x2, rfl, bx2⟩
            refine h_if_eq_W 89 dX11_hands_68 (by decide) (fun h3 => ?_) (fun h3 => ?_)
            · exact j89 hd45 hd54 v1 v2 v3 v4
            · refine h_iload_W dX11_hands_71 rfl ?_
              refine h_iload_n_W dX11_hands_73 rfl rfl ?_
              refine h_ic_ne_W 86 dX11_hands_74 (by decide) (fun h4 => ?_) (fun h4 => ?_)
              · refine h_iinc_W (v := (v4 + Int32.ofInt 1)) (lv' := [(4, .int (v4 + Int32.ofInt 1)), (0, .ref 0), (1, .int v1), (2, .int v2), (3, .int v3), (5, .int c45), (6, .int c54)]) dX11_hands_86 rfl rfl (by decide) rfl ?_
                exact zs_Wlv_W (j89 hd45 hd54 v1 v2 v3 (v4 + Int32.ofInt 1)) (zs_mc 1 rfl (zs_mc 2 rfl (zs_mc 3 rfl (zs_mc 4 rfl (zs_mc 0 rfl (zs_mc 5 rfl (zs_mc 6 rfl zs_mn)))))))
              · refine h_bipush_W (v := (nI 10)) dX11_hands_77 rfl ?_
                refine h_iload_W dX11_hands_79 rfl ?_
                refine h_imul_W dX11_hands_81 (fun x5 => ?_)
                refine h_iload_W dX11_hands_82 rfl ?_
                refine h_iadd_W dX11_hands_84 (fun x6 => ?_)
                exact h_iret_W dX11_hands_85 rfl rfl ⟨_, rfl⟩
      refine h_iload_W dX11_hands_45 rfl ?_
      refine h_iconst_W (v := (nI 4)) dX11_hands_47 rfl ?_
      refine h_ic_ge_W 101 dX11_hands_48 (by decide) (fun h7 => ?_) (fun h7 => ?_)
      · refine h_iload_n_W dX11_hands_101 rfl rfl ?_
        refine h_iconst_W (v := (-1)) dX11_hands_102 rfl ?_
        refine h_ic_ne_W 111 dX11_hands_103 (by decide) (fun h8 => ?_) (fun h8 => ?_)
        · refine h_bipush_W (v := (-5)) dX11_hands_111 rfl ?_
          exact h_iret_W dX11_hands_113 rfl rfl ⟨_, rfl⟩
        · refine h_iload_W dX11_hands_106 rfl ?_
          refine h_goto_W 113 dX11_hands_108 (by decide) ?_
          exact h_iret_W dX11_hands_113 rfl rfl ⟨_, rfl⟩
      · have hd45 := zs_muA h7 hn45
        refine h_iconst_W (v := (nI 0)) dX11_hands_51 rfl ?_
        refine h_istore_W (lv' := [(6, .int (nI 0)), (0, .ref 0), (1, .int v1), (2, .int v2), (3, .int v3), (4, .int v4), (5, .int c45)]) dX11_hands_52 (by decide) rfl ?_
        exact zs_Wlv_W (j54 hd45 _ v1 v2 v3 v4 (nI 0) (Nat.lt_succ_self _)) (zs_mc 1 rfl (zs_mc 2 rfl (zs_mc 3 rfl (zs_mc 4 rfl (zs_mc 5 rfl (zs_mc 6 rfl (zs_mc 0 rfl zs_mn)))))))
  have j26 : ∀ (v1 : Int32) (v2 : Int32) (v3 : Int32), zs_W_W MX11_hands 26 [(0, .ref 0), (1, .int v1), (2, .int v2), (3, .int v3)] [] zs_Ri := by
    intro v1 v2 v3
    refine h_aload_n_W dX11_hands_26 rfl rfl ?_
    refine h_bipush_W (v := (-10)) dX11_hands_27 rfl ?_
    refine h_callV_W (T := TX11) (NN := 18) [] (v_X11_refuseBad_0_W (-10)) dX11_hands_29 kk_X11_hands_X11_refuseBad ml_RX11_86 mwX11_refuseBad ewX11_refuseBad (by decide) rfl rfl rfl rfl (Nat.le_of_ble_eq_true rfl) ?_
    rintro _ ⟨x9, rfl⟩
    exact h_iret_W dX11_hands_32 rfl rfl ⟨_, rfl⟩
  refine h_aload_n_W dX11_hands_0 rfl rfl ?_
  refine h_iload_n_W dX11_hands_1 rfl rfl ?_
  refine h_callV_W (T := TX11) (NN := 18) [] (v_X11_isEye_0_W a1) dX11_hands_2 kk_X11_hands_X11_isEye ml_RX11_182 mwX11_isEye ewX11_isEye (by decide) rfl rfl rfl rfl (Nat.le_of_ble_eq_true rfl) ?_
  rintro _ ⟨x10, rfl, bx10⟩
  refine h_if_eq_W 26 dX11_hands_5 (by decide) (fun h11 => ?_) (fun h11 => ?_)
  · exact j26 a1 a2 a3
  · refine h_aload_n_W dX11_hands_8 rfl rfl ?_
    refine h_iload_n_W dX11_hands_9 rfl rfl ?_
    refine h_callV_W (T := TX11) (NN := 18) [] (v_X11_isEye_0_W a2) dX11_hands_10 kk_X11_hands_X11_isEye ml_RX11_182 mwX11_isEye ewX11_isEye (by decide) rfl rfl rfl rfl (Nat.le_of_ble_eq_true rfl) ?_
    rintro _ ⟨x12, rfl, bx12⟩
    refine h_if_eq_W 26 dX11_hands_13 (by decide) (fun h13 => ?_) (fun h13 => ?_)
    · exact j26 a1 a2 a3
    · refine h_iload_n_W dX11_hands_16 rfl rfl ?_
      refine h_iload_n_W dX11_hands_17 rfl rfl ?_
      refine h_ic_eq_W 26 dX11_hands_18 (by decide) (fun h14 => ?_) (fun h14 => ?_)
      · exact j26 a1 a2 a3
      · refine h_iload_n_W dX11_hands_21 rfl rfl ?_
        refine h_iconst_W (v := (-1)) dX11_hands_22 rfl ?_
        refine h_ic_ge_W 33 dX11_hands_23 (by decide) (fun h15 => ?_) (fun h15 => ?_)
        · refine h_aload_n_W dX11_hands_33 rfl rfl ?_
          refine h_iload_n_W dX11_hands_34 rfl rfl ?_
          refine h_iload_n_W dX11_hands_35 rfl rfl ?_
          refine h_callV_W (T := TX11) (NN := 18) [] (v_X11_fillGains_0_W a1 a2) dX11_hands_36 kk_X11_hands_X11_fillGains ml_RX11_267 mwX11_fillGains ewX11_fillGains (by decide) rfl rfl rfl rfl (Nat.le_of_ble_eq_true rfl) ?_
          rintro _ rfl
          refine h_iconst_W (v := (nI 0)) dX11_hands_39 rfl ?_
          refine h_istore_W (lv' := [(4, .int (nI 0)), (0, .ref 0), (1, .int a1), (2, .int a2), (3, .int a3)]) dX11_hands_40 (by decide) rfl ?_
          refine h_iconst_W (v := (nI 0)) dX11_hands_42 rfl ?_
          refine h_istore_W (lv' := [(5, .int (nI 0)), (4, .int (nI 0)), (0, .ref 0), (1, .int a1), (2, .int a2), (3, .int a3)]) dX11_hands_43 (by decide) rfl ?_
          exact zs_Wlv_W (j45 _ a1 a2 a3 (nI 0) (nI 0) (Nat.lt_succ_self _)) (zs_mc 2 rfl (zs_mc 3 rfl (zs_mc 4 rfl (zs_mc 5 rfl (zs_mc 1 rfl (zs_mc 0 rfl zs_mn))))))
        · exact j26 a1 a2 a3
set_option maxRecDepth 100000 in
theorem v_X7_weightOf_75_W (a1 : Int32) : zs_Dd'_W MX7_weightOf [.ref 75, .int a1] zs_Ri := by
  refine zs_Wof_W (by decide) (Nat.le_of_ble_eq_true rfl) ?_
  show zs_W_W MX7_weightOf 0 [(0, .ref 75), (1, .int a1)] [] zs_Ri
  refine h_aload_n_W dX7_weightOf_0 rfl rfl ?_
  refine h_getR_W 0 76 (C := RX7) (T := TX7) (N := 2) dX7_weightOf_1 (by decide) rfl rfl (by decide) rfl fl_RX7_9 ?_
  refine h_iload_n_W dX7_weightOf_4 rfl rfl ?_
  refine h_callN_W [.ref 76, .int a1] [] (v_cell_W 76 10 a1 (by decide) rfl (by decide)) dX7_weightOf_5 kk_X7_weightOf_X11_cell nl_RX7_30 swX11_cell rfl rfl (Nat.le_of_ble_eq_true rfl) ?_
  rintro _ ⟨x1, rfl⟩
  exact h_iret_W dX7_weightOf_8 rfl rfl ⟨_, rfl⟩
set_option maxRecDepth 100000 in
theorem v_X11_greatestDivisor_W (a1 : Int64) (a2 : Int64) : zs_Dd'_W MX11_greatestDivisor [.long a1, .long a2] zs_Rl := by
  refine zs_Wof_W (by decide) (Nat.le_of_ble_eq_true rfl) ?_
  show zs_W_W MX11_greatestDivisor 0 [(0, .long a1), (2, .long a2)] [] zs_Rl
  have j3 : ∀ (n3 : Nat) (v0 : Int64) (v2 : Int64) (c3 : Int32), zs_mu c3 < n3 → zs_W_W MX11_greatestDivisor 3 [(0, .long v0), (2, .long v2), (4, .int c3)] [] zs_Rl := by
    intro n3
    induction n3 with
    | zero => intro v0 v2 c3 hn3; exact absurd hn3 (Nat.not_lt_zero _)
    | succ n3 ih3 =>
      intro v0 v2 c3 hn3
      refine h_iload_W dX11_greatestDivisor_3 rfl ?_
      refine h_bipush_W (v := (nI 64)) dX11_greatestDivisor_5 rfl ?_
      refine h_ic_ge_W 32 dX11_greatestDivisor_7 (by decide) (fun h1 => ?_) (fun h1 => ?_)
      · refine h_lload_n_W dX11_greatestDivisor_32 rfl rfl ?_
        exact h_lret_W dX11_greatestDivisor_33 rfl ⟨_, rfl⟩
      · have hd3 := zs_muA h1 hn3
        refine h_lload_n_W dX11_greatestDivisor_10 rfl rfl ?_
        refine h_lconst_W (v := 0) dX11_greatestDivisor_11 (by decide) ?_
        refine h_lcmp_W dX11_greatestDivisor_12 ?_
        refine h_if_le_W 32 dX11_greatestDivisor_13 (by decide) (fun h2 => ?_) (fun h2 => ?_)
        · refine h_lload_n_W dX11_greatestDivisor_32 rfl rfl ?_
          exact h_lret_W dX11_greatestDivisor_33 rfl ⟨_, rfl⟩
        · refine h_lload_n_W dX11_greatestDivisor_16 rfl rfl ?_
          refine h_lload_n_W dX11_greatestDivisor_17 rfl rfl ?_
          refine h_lrem_W dX11_greatestDivisor_18 (zs_lc0 h2) (fun x3 => ?_)
          refine h_lstore_W (lv' := [(5, .long x3), (0, .long v0), (2, .long v2), (4, .int c3)]) dX11_greatestDivisor_19 (by decide) rfl ?_
          refine h_lload_n_W dX11_greatestDivisor_21 rfl rfl ?_
          refine h_lstore_n_W (lv' := [(0, .long v2), (5, .long x3), (2, .long v2), (4, .int c3)]) dX11_greatestDivisor_22 rfl (by decide) rfl ?_
          refine h_lload_W dX11_greatestDivisor_23 rfl ?_
          refine h_lstore_n_W (lv' := [(2, .long x3), (0, .long v2), (5, .long x3), (4, .int c3)]) dX11_greatestDivisor_25 rfl (by decide) rfl ?_
          refine h_iinc_W (v := (c3 + Int32.ofInt 1)) (lv' := [(4, .int (c3 + Int32.ofInt 1)), (2, .long x3), (0, .long v2), (5, .long x3)]) dX11_greatestDivisor_26 rfl rfl (by decide) rfl ?_
          refine h_goto_W 3 dX11_greatestDivisor_29 (by decide) ?_
          exact zs_Wlv_W (ih3 v2 x3 (c3 + Int32.ofInt 1) hd3) (zs_mc 2 rfl (zs_mc 1 rfl (zs_mc 0 rfl zs_mn)))
  refine h_iconst_W (v := (nI 0)) dX11_greatestDivisor_0 rfl ?_
  refine h_istore_W (lv' := [(4, .int (nI 0)), (0, .long a1), (2, .long a2)]) dX11_greatestDivisor_1 (by decide) rfl ?_
  exact zs_Wlv_W (j3 _ a1 a2 (nI 0) (Nat.lt_succ_self _)) (zs_mc 1 rfl (zs_mc 2 rfl (zs_mc 0 rfl zs_mn)))
set_option maxRecDepth 100000 in
theorem v_X11_keepFraction_0_W (a1 : Int64) (a2 : Int64) : zs_Dd'_W MX11_keepFraction [.ref 0, .long a1, .long a2] zs_Rv := by
  refine zs_Wof_W (by decide) (Nat.le_of_ble_eq_true rfl) ?_
  show zs_W_W MX11_keepFraction 0 [(0, .ref 0), (1, .long a1), (3, .long a2)] [] zs_Rv
  refine h_lload_n_W dX11_keepFraction_0 rfl rfl ?_
  refine h_lload_n_W dX11_keepFraction_1 rfl rfl ?_
  refine h_callS_W [.long a1, .long a2] [] (v_X11_greatestDivisor_W a1 a2) dX11_keepFraction_2 kk_X11_keepFraction_X11_greatestDivisor ml_RX11_380 swX11_greatestDivisor rfl rfl (Nat.le_of_ble_eq_true rfl) ?_
  rintro _ ⟨x1, rfl⟩
  refine h_lstore_W (lv' := [(5, .long x1), (0, .ref 0), (1, .long a1), (3, .long a2)]) dX11_keepFraction_5 (by decide) rfl ?_
  refine h_lload_W dX11_keepFraction_7 rfl ?_
  refine h_lconst_W (v := 0) dX11_keepFraction_9 (by decide) ?_
  refine h_lcmp_W dX11_keepFraction_10 ?_
  refine h_if_le_W 30 dX11_keepFraction_11 (by decide) (fun h2 => ?_) (fun h2 => ?_)
  · exact h_ret_W dX11_keepFraction_30 rfl rfl
  · refine h_aload_n_W dX11_keepFraction_14 rfl rfl ?_
    refine h_lload_n_W dX11_keepFraction_15 rfl rfl ?_
    refine h_lload_W dX11_keepFraction_16 rfl ?_
    refine h_ldiv_W dX11_keepFraction_18 (zs_lc0 h2) (fun x3 => ?_)
    refine h_putL_W 6 (C := RX11) (T := TX11) (N := 18) dX11_keepFraction_19 (by decide) rfl rfl (by decide) rfl fl_RX11_304 rfl (by decide +kernel) rfl ?_
    refine h_aload_n_W dX11_keepFraction_22 rfl rfl ?_
    refine h_lload_n_W dX11_keepFraction_23 rfl rfl ?_
    refine h_lload_W dX11_keepFraction_24 rfl ?_
    refine h_ldiv_W dX11_keepFraction_26 (zs_lc0 h2) (fun x4 => ?_)
    refine h_putL_W 7 (C := RX11) (T := TX11) (N := 18) dX11_keepFraction_27 (by decide) rfl rfl (by decide) rfl fl_RX11_29 rfl (by decide +kernel) rfl ?_
    exact h_ret_W dX11_keepFraction_30 rfl rfl
set_option maxRecDepth 100000 in
theorem v_X7_add_75_W (a1 : Int32) (a2 : Int32) : zs_Dd'_W MX7_add [.ref 75, .int a1, .int a2] zs_Rv := by
  refine zs_Wof_W (by decide) (Nat.le_of_ble_eq_true rfl) ?_
  show zs_W_W MX7_add 0 [(0, .ref 75), (1, .int a1), (2, .int a2)] [] zs_Rv
  refine h_aload_n_W dX7_add_0 rfl rfl ?_
  refine h_getR_W 0 76 (C := RX7) (T := TX7) (N := 2) dX7_add_1 (by decide) rfl rfl (by decide) rfl fl_RX7_9 ?_
  refine h_iload_n_W dX7_add_4 rfl rfl ?_
  refine h_aload_n_W dX7_add_5 rfl rfl ?_
  refine h_iload_n_W dX7_add_6 rfl rfl ?_
  refine h_callV_W (T := TX7) (NN := 2) [.int a1, .ref 76] (v_X7_weightOf_75_W a1) dX7_add_7 kk_X7_add_X7_weightOf ml_RX7_44 mwX7_weightOf ewX7_weightOf (by decide) rfl rfl rfl rfl (Nat.le_of_ble_eq_true rfl) ?_
  rintro _ ⟨x1, rfl⟩
  refine h_iload_n_W dX7_add_10 rfl rfl ?_
  refine h_iadd_W dX7_add_11 (fun x2 => ?_)
  refine h_callN_W [.ref 76, .int a1, .int x2] [] (v_put_W 76 10 a1 x2 (by decide) rfl (by decide) ⟨by decide, by decide, by decide⟩) dX7_add_12 kk_X7_add_X11_put nl_RX7_22 swX11_put rfl rfl (Nat.le_of_ble_eq_true rfl) ?_
  rintro _ rfl
  exact h_ret_W dX7_add_15 rfl rfl
set_option maxRecDepth 100000 in
theorem v_X7_flash_75_W (a1 : Int32) (a2 : Int32) (a3 : Int32) : zs_Dd'_W MX7_flash [.ref 75, .int a1, .int a2, .int a3] zs_Rv := by
  refine zs_Wof_W (by decide) (Nat.le_of_ble_eq_true rfl) ?_
  show zs_W_W MX7_flash 0 [(0, .ref 75), (1, .int a1), (2, .int a2), (3, .int a3)] [] zs_Rv
  have j22 : ∀ (n22 : Nat) (v1 : Int32) (v2 : Int32) (v3 : Int32) (c22 : Int32), zs_mu c22 < n22 → zs_W_W MX7_flash 22 [(0, .ref 75), (1, .int v1), (2, .int v2), (3, .int v3), (4, .int c22)] [] zs_Rv := by
    intro n22
    induction n22 with
    | zero => intro v1 v2 v3 c22 hn22; exact absurd hn22 (Nat.not_lt_zero _)
    | succ n22 ih22 =>
      intro v1 v2 v3 c22 hn22
      refine h_iload_W dX7_flash_22 rfl ?_
      refine h_bipush_W (v := (nI 10)) dX7_flash_24 rfl ?_
      refine h_ic_ge_W 74 dX7_flash_26 (by decide) (fun h1 => ?_) (fun h1 => ?_)
      · exact h_ret_W dX7_flash_74 rfl rfl
      · have hd22 := zs_muA h1 hn22
        refine h_aload_n_W dX7_flash_29 rfl rfl ?_
        refine h_getR_W 1 77 (C := RX7) (T := TX7) (N := 2) dX7_flash_30 (by decide) rfl rfl (by decide) rfl fl_RX7_15 ?_
        refine h_iload_W dX7_flash_33 rfl ?_
        refine h_callN_W [.ref 77, .int c22] [] (v_cell_W 77 10 c22 (by decide) rfl (by decide)) dX7_flash_35 kk_X7_flash_X11_cell nl_RX7_30 swX11_cell rfl rfl (Nat.le_of_ble_eq_true rfl) ?_
        rintro _ ⟨x2, rfl⟩
        refine h_istore_W (lv' := [(5, .int x2), (0, .ref 75), (1, .int v1), (2, .int v2), (3, .int v3), (4, .int c22)]) dX7_flash_38 (by decide) rfl ?_
        refine h_aload_n_W dX7_flash_40 rfl rfl ?_
        refine h_iload_W dX7_flash_41 rfl ?_
        refine h_iload_W dX7_flash_43 rfl ?_
        refine h_iload_n_W dX7_flash_45 rfl rfl ?_
        refine h_imul_W dX7_flash_46 (fun x3 => ?_)
        refine h_callV_W (T := TX7) (NN := 2) [] (v_X7_add_75_W c22 x3) dX7_flash_47 kk_X7_flash_X7_add ml_RX7_34 mwX7_add ewX7_add (by decide) rfl rfl rfl rfl (Nat.le_of_ble_eq_true rfl) ?_
        rintro _ rfl
        refine h_aload_n_W dX7_flash_50 rfl rfl ?_
        refine h_iload_n_W dX7_flash_51 rfl rfl ?_
        refine h_iload_n_W dX7_flash_52 rfl rfl ?_
        refine h_iload_W dX7_flash_53 rfl ?_
        refine h_callS_W [.int v1, .int v2, .int c22] [.ref 75] (v_X1_sight_W v1 v2 c22) dX7_flash_55 kk_X7_flash_X1_sight ml_RX7_38 swX1_sight rfl rfl (Nat.le_of_ble_eq_true rfl) ?_
        rintro _ ⟨x4, rfl⟩
        refine h_iload_W dX7_flash_58 rfl ?_
        refine h_bipush_W (v := (nI 10)) dX7_flash_60 rfl ?_
        refine h_iload_n_W dX7_flash_62 rfl rfl ?_
        refine h_isub_W dX7_flash_63 (fun x5 => ?_)
        refine h_imul_W dX7_flash_64 (fun x6 => ?_)
        refine h_callV_W (T := TX7) (NN := 2) [] (v_X7_add_75_W x4 x6) dX7_flash_65 kk_X7_flash_X7_add ml_RX7_34 mwX7_add ewX7_add (by decide) rfl rfl rfl rfl (Nat.le_of_ble_eq_true rfl) ?_
        rintro _ rfl
        refine h_iinc_W (v := (c22 + Int32.ofInt 1)) (lv' := [(4, .int (c22 + Int32.ofInt 1)), (5, .int x2), (0, .ref 75), (1, .int v1), (2, .int v2), (3, .int v3)]) dX7_flash_68 rfl rfl (by decide) rfl ?_
        refine h_goto_W 22 dX7_flash_71 (by decide) ?_
        exact zs_Wlv_W (ih22 v1 v2 v3 (c22 + Int32.ofInt 1) hd22) (zs_mc 2 rfl (zs_mc 3 rfl (zs_mc 4 rfl (zs_mc 5 rfl (zs_mc 0 rfl zs_mn)))))
  refine h_aload_n_W dX7_flash_0 rfl rfl ?_
  refine h_getR_W 0 76 (C := RX7) (T := TX7) (N := 2) dX7_flash_1 (by decide) rfl rfl (by decide) rfl fl_RX7_9 ?_
  refine h_aload_n_W dX7_flash_4 rfl rfl ?_
  refine h_getR_W 1 77 (C := RX7) (T := TX7) (N := 2) dX7_flash_5 (by decide) rfl rfl (by decide) rfl fl_RX7_15 ?_
  refine h_callN_W [.ref 76, .ref 77] [] (v_copyRow_W 76 77 10 (by decide) rfl (by decide) rfl (by decide) (by decide) ⟨by decide, by decide, by decide⟩) dX7_flash_8 kk_X7_flash_X11_copyRow nl_RX7_26 swX11_copyRow rfl rfl (Nat.le_of_ble_eq_true rfl) ?_
  rintro _ rfl
  refine h_aload_n_W dX7_flash_11 rfl rfl ?_
  refine h_getR_W 0 76 (C := RX7) (T := TX7) (N := 2) dX7_flash_12 (by decide) rfl rfl (by decide) rfl fl_RX7_9 ?_
  refine h_iconst_W (v := (nI 0)) dX7_flash_15 rfl ?_
  refine h_callN_W [.ref 76, .int (nI 0)] [] (v_fill_W 76 10 (nI 0) (by decide) rfl (by decide) ⟨by decide, by decide, by decide⟩) dX7_flash_16 kk_X7_flash_X11_fill nl_RX7_18 swX11_fill rfl rfl (Nat.le_of_ble_eq_true rfl) ?_
  rintro _ rfl
  refine h_iconst_W (v := (nI 0)) dX7_flash_19 rfl ?_
  refine h_istore_W (lv' := [(4, .int (nI 0)), (0, .ref 75), (1, .int a1), (2, .int a2), (3, .int a3)]) dX7_flash_20 (by decide) rfl ?_
  exact zs_Wlv_W (j22 _ a1 a2 a3 (nI 0) (Nat.lt_succ_self _)) (zs_mc 1 rfl (zs_mc 2 rfl (zs_mc 3 rfl (zs_mc 4 rfl (zs_mc 0 rfl zs_mn)))))
