set_option maxRecDepth 100000 in
theorem v_X11_refuseBad_0 (a1 : Int32) : zs_Dd' MX11_refuseBad [.ref 0, .int a1] zs_Ri := by
  refine zs_Wof (by decide) (Nat.le_of_ble_eq_true rfl) ?_
  show zs_W MX11_refuseBad 0 [(0, .ref 0), (1, .int a1)] [] zs_Ri
  refine h_aload_n dX11_refuseBad_0 rfl rfl ?_
  refine h_dup dX11_refuseBad_1 rfl ?_
  refine h_getI 8 (C := RX11) (T := TX11) (N := 18) dX11_refuseBad_2 (by decide) rfl rfl (by decide) rfl fl_RX11_314 (fun x1 => ?_)
  refine h_iconst (v := (nI 1)) dX11_refuseBad_5 rfl ?_
  refine h_iadd dX11_refuseBad_6 (fun x2 => ?_)
  refine h_putI 8 (C := RX11) (T := TX11) (N := 18) (ty := .int) dX11_refuseBad_7 (by decide) rfl rfl (by decide) rfl fl_RX11_314 rfl (by decide +kernel) ⟨rfl, rfl⟩ rfl ?_
  refine h_iload_n dX11_refuseBad_10 rfl rfl ?_
  exact h_iret dX11_refuseBad_11 rfl rfl ⟨_, rfl⟩
set_option maxRecDepth 100000 in
theorem v_X11_within (a1 : Int32) (a2 : Int32) (a3 : Int32) : zs_Dd' MX11_within [.int a1, .int a2, .int a3] zs_Rb := by
  refine zs_Wof (by decide) (Nat.le_of_ble_eq_true rfl) ?_
  show zs_W MX11_within 0 [(0, .int a1), (1, .int a2), (2, .int a3)] [] zs_Rb
  refine h_iload_n dX11_within_0 rfl rfl ?_
  refine h_iload_n dX11_within_1 rfl rfl ?_
  refine h_ic_lt 14 dX11_within_2 (by decide) (fun h1 => ?_) (fun h1 => ?_)
  · refine h_iconst (v := (nI 0)) dX11_within_14 rfl ?_
    exact h_iret dX11_within_15 rfl rfl ⟨_, rfl, rfl⟩
  · refine h_iload_n dX11_within_5 rfl rfl ?_
    refine h_iload_n dX11_within_6 rfl rfl ?_
    refine h_ic_gt 14 dX11_within_7 (by decide) (fun h2 => ?_) (fun h2 => ?_)
    · refine h_iconst (v := (nI 0)) dX11_within_14 rfl ?_
      exact h_iret dX11_within_15 rfl rfl ⟨_, rfl, rfl⟩
    · refine h_iconst (v := (nI 1)) dX11_within_10 rfl ?_
      refine h_goto 15 dX11_within_11 (by decide) ?_
      exact h_iret dX11_within_15 rfl rfl ⟨_, rfl, rfl⟩
set_option maxRecDepth 100000 in
theorem v_X11_isKind (a1 : Int32) : zs_Dd' MX11_isKind [.int a1] zs_Rb := by
  refine zs_Wof (by decide) (Nat.le_of_ble_eq_true rfl) ?_
  show zs_W MX11_isKind 0 [(0, .int a1)] [] zs_Rb
  refine h_iload_n dX11_isKind_0 rfl rfl ?_
  refine h_iconst (v := (nI 0)) dX11_isKind_1 rfl ?_
  refine h_iconst (v := (nI 5)) dX11_isKind_2 rfl ?_
  refine h_callS [.int a1, .int (nI 0), .int (nI 5)] [] (v_X11_within a1 (nI 0) (nI 5)) dX11_isKind_3 kk_X11_isKind_X11_within ml_RX11_75 swX11_within rfl rfl (Nat.le_of_ble_eq_true rfl) ?_
  rintro _ ⟨x1, rfl, bx1⟩
  exact h_iret dX11_isKind_6 rfl bx1 ⟨_, rfl, bx1⟩
set_option maxRecDepth 100000 in
theorem v_X11_isStep (a1 : Int32) : zs_Dd' MX11_isStep [.int a1] zs_Rb := by
  refine zs_Wof (by decide) (Nat.le_of_ble_eq_true rfl) ?_
  show zs_W MX11_isStep 0 [(0, .int a1)] [] zs_Rb
  refine h_iload_n dX11_isStep_0 rfl rfl ?_
  refine h_iconst (v := (nI 0)) dX11_isStep_1 rfl ?_
  refine h_bipush (v := (nI 11)) dX11_isStep_2 rfl ?_
  refine h_callS [.int a1, .int (nI 0), .int (nI 11)] [] (v_X11_within a1 (nI 0) (nI 11)) dX11_isStep_4 kk_X11_isStep_X11_within ml_RX11_75 swX11_within rfl rfl (Nat.le_of_ble_eq_true rfl) ?_
  rintro _ ⟨x1, rfl, bx1⟩
  exact h_iret dX11_isStep_7 rfl bx1 ⟨_, rfl, bx1⟩
set_option maxRecDepth 100000 in
theorem v_X3_begin_3 (a1 : Int32) : zs_Dd' MX3_begin [.ref 3, .int a1] zs_Rv := by
  refine zs_Wof (by decide) (Nat.le_of_ble_eq_true rfl) ?_
  show zs_W MX3_begin 0 [(0, .ref 3), (1, .int a1)] [] zs_Rv
  refine h_aload_n dX3_begin_0 rfl rfl ?_
  refine h_iconst (v := (nI 0)) dX3_begin_1 rfl ?_
  refine h_putI 0 (C := RX3) (T := TX3) (N := 6) (ty := .int) dX3_begin_2 (by decide) rfl rfl (by decide) rfl fl_RX3_25 rfl (by decide +kernel) ⟨rfl, rfl⟩ rfl ?_
  refine h_aload_n dX3_begin_5 rfl rfl ?_
  refine h_iconst (v := (nI 0)) dX3_begin_6 rfl ?_
  refine h_putI 1 (C := RX3) (T := TX3) (N := 6) (ty := .int) dX3_begin_7 (by decide) rfl rfl (by decide) rfl fl_RX3_28 rfl (by decide +kernel) ⟨rfl, rfl⟩ rfl ?_
  refine h_aload_n dX3_begin_10 rfl rfl ?_
  refine h_iload_n dX3_begin_11 rfl rfl ?_
  refine h_putI 2 (C := RX3) (T := TX3) (N := 6) (ty := .int) dX3_begin_12 (by decide) rfl rfl (by decide) rfl fl_RX3_9 rfl (by decide +kernel) ⟨rfl, rfl⟩ rfl ?_
  refine h_aload_n dX3_begin_15 rfl rfl ?_
  refine h_getR 3 4 (C := RX3) (T := TX3) (N := 6) dX3_begin_16 (by decide) rfl rfl (by decide) rfl fl_RX3_15 ?_
  refine h_iconst (v := (nI 0)) dX3_begin_19 rfl ?_
  refine h_callN [.ref 4, .int (nI 0)] [] (v_fill 4 12 (nI 0) (by decide) rfl (by decide) ⟨by decide, by decide, by decide⟩) dX3_begin_20 kk_X3_begin_X11_fill nl_RX3_31 swX11_fill rfl rfl (Nat.le_of_ble_eq_true rfl) ?_
  rintro _ rfl
  refine h_aload_n dX3_begin_23 rfl rfl ?_
  refine h_getR 4 5 (C := RX3) (T := TX3) (N := 6) dX3_begin_24 (by decide) rfl rfl (by decide) rfl fl_RX3_19 ?_
  refine h_iconst (v := (nI 0)) dX3_begin_27 rfl ?_
  refine h_callN [.ref 5, .int (nI 0)] [] (v_fill 5 5 (nI 0) (by decide) rfl (by decide) ⟨by decide, by decide, by decide⟩) dX3_begin_28 kk_X3_begin_X11_fill nl_RX3_31 swX11_fill rfl rfl (Nat.le_of_ble_eq_true rfl) ?_
  rintro _ rfl
  refine h_aload_n dX3_begin_31 rfl rfl ?_
  refine h_getR 5 6 (C := RX3) (T := TX3) (N := 6) dX3_begin_32 (by decide) rfl rfl (by decide) rfl fl_RX3_22 ?_
  refine h_iconst (v := (nI 0)) dX3_begin_35 rfl ?_
  refine h_callN [.ref 6, .int (nI 0)] [] (v_fill 6 5 (nI 0) (by decide) rfl (by decide) ⟨by decide, by decide, by decide⟩) dX3_begin_36 kk_X3_begin_X11_fill nl_RX3_31 swX11_fill rfl rfl (Nat.le_of_ble_eq_true rfl) ?_
  rintro _ rfl
  exact h_ret dX3_begin_39 rfl rfl
set_option maxRecDepth 100000 in
theorem v_X4_empty_7 : zs_Dd' MX4_empty [.ref 7] zs_Rv := by
  refine zs_Wof (by decide) (Nat.le_of_ble_eq_true rfl) ?_
  show zs_W MX4_empty 0 [(0, .ref 7)] [] zs_Rv
  refine h_aload_n dX4_empty_0 rfl rfl ?_
  refine h_iconst (v := (nI 0)) dX4_empty_1 rfl ?_
  refine h_putI 1 (C := RX4) (T := TX4) (N := 2) (ty := .int) dX4_empty_2 (by decide) rfl rfl (by decide) rfl fl_RX4_17 rfl (by decide +kernel) ⟨rfl, rfl⟩ rfl ?_
  exact h_ret dX4_empty_5 rfl rfl
set_option maxRecDepth 100000 in
theorem v_X5_empty_9 : zs_Dd' MX5_empty [.ref 9] zs_Ri := by
  refine zs_Wof (by decide) (Nat.le_of_ble_eq_true rfl) ?_
  show zs_W MX5_empty 0 [(0, .ref 9)] [] zs_Ri
  refine h_aload_n dX5_empty_0 rfl rfl ?_
  refine h_getI 2 (C := RX5) (T := TX5) (N := 3) dX5_empty_1 (by decide) rfl rfl (by decide) rfl fl_RX5_19 (fun x1 => ?_)
  refine h_istore_n (lv' := [(1, .int x1), (0, .ref 9)]) dX5_empty_4 rfl (by decide) rfl ?_
  refine h_aload_n dX5_empty_5 rfl rfl ?_
  refine h_iconst (v := (nI 0)) dX5_empty_6 rfl ?_
  refine h_putI 2 (C := RX5) (T := TX5) (N := 3) (ty := .int) dX5_empty_7 (by decide) rfl rfl (by decide) rfl fl_RX5_19 rfl (by decide +kernel) ⟨rfl, rfl⟩ rfl ?_
  refine h_iload_n dX5_empty_10 rfl rfl ?_
  exact h_iret dX5_empty_11 rfl rfl ⟨_, rfl⟩
set_option maxRecDepth 100000 in
theorem v_X5_empty_11 : zs_Dd' MX5_empty [.ref 11] zs_Ri := by
  refine zs_Wof (by decide) (Nat.le_of_ble_eq_true rfl) ?_
  show zs_W MX5_empty 0 [(0, .ref 11)] [] zs_Ri
  refine h_aload_n dX5_empty_0 rfl rfl ?_
  refine h_getI 2 (C := RX5) (T := TX5) (N := 3) dX5_empty_1 (by decide) rfl rfl (by decide) rfl fl_RX5_19 (fun x1 => ?_)
  refine h_istore_n (lv' := [(1, .int x1), (0, .ref 11)]) dX5_empty_4 rfl (by decide) rfl ?_
  refine h_aload_n dX5_empty_5 rfl rfl ?_
  refine h_iconst (v := (nI 0)) dX5_empty_6 rfl ?_
  refine h_putI 2 (C := RX5) (T := TX5) (N := 3) (ty := .int) dX5_empty_7 (by decide) rfl rfl (by decide) rfl fl_RX5_19 rfl (by decide +kernel) ⟨rfl, rfl⟩ rfl ?_
  refine h_iload_n dX5_empty_10 rfl rfl ?_
  exact h_iret dX5_empty_11 rfl rfl ⟨_, rfl⟩
set_option maxRecDepth 100000 in
theorem v_X5_empty_13 : zs_Dd' MX5_empty [.ref 13] zs_Ri := by
  refine zs_Wof (by decide) (Nat.le_of_ble_eq_true rfl) ?_
  show zs_W MX5_empty 0 [(0, .ref 13)] [] zs_Ri
  refine h_aload_n dX5_empty_0 rfl rfl ?_
  refine h_getI 2 (C := RX5) (T := TX5) (N := 3) dX5_empty_1 (by decide) rfl rfl (by decide) rfl fl_RX5_19 (fun x1 => ?_)
  refine h_istore_n (lv' := [(1, .int x1), (0, .ref 13)]) dX5_empty_4 rfl (by decide) rfl ?_
  refine h_aload_n dX5_empty_5 rfl rfl ?_
  refine h_iconst (v := (nI 0)) dX5_empty_6 rfl ?_
  refine h_putI 2 (C := RX5) (T := TX5) (N := 3) (ty := .int) dX5_empty_7 (by decide) rfl rfl (by decide) rfl fl_RX5_19 rfl (by decide +kernel) ⟨rfl, rfl⟩ rfl ?_
  refine h_iload_n dX5_empty_10 rfl rfl ?_
  exact h_iret dX5_empty_11 rfl rfl ⟨_, rfl⟩
set_option maxRecDepth 100000 in
theorem v_X6_begin_1 (a1 : Int32) (a2 : Int32) (a3 : Int32) : zs_Dd' MX6_begin [.ref 1, .int a1, .int a2, .int a3] zs_Rv := by
  refine zs_Wof (by decide) (Nat.le_of_ble_eq_true rfl) ?_
  show zs_W MX6_begin 0 [(0, .ref 1), (1, .int a1), (2, .int a2), (3, .int a3)] [] zs_Rv
  refine h_aload_n dX6_begin_0 rfl rfl ?_
  refine h_iload_n dX6_begin_1 rfl rfl ?_
  refine h_putI 0 (C := RX6) (T := TX6) (N := 9) (ty := .int) dX6_begin_2 (by decide) rfl rfl (by decide) rfl fl_RX6_9 rfl (by decide +kernel) ⟨rfl, rfl⟩ rfl ?_
  refine h_aload_n dX6_begin_5 rfl rfl ?_
  refine h_iload_n dX6_begin_6 rfl rfl ?_
  refine h_putI 1 (C := RX6) (T := TX6) (N := 9) (ty := .int) dX6_begin_7 (by decide) rfl rfl (by decide) rfl fl_RX6_48 rfl (by decide +kernel) ⟨rfl, rfl⟩ rfl ?_
  refine h_aload_n dX6_begin_10 rfl rfl ?_
  refine h_iconst (v := (nI 0)) dX6_begin_11 rfl ?_
  refine h_putI 2 (C := RX6) (T := TX6) (N := 9) (ty := .int) dX6_begin_12 (by decide) rfl rfl (by decide) rfl fl_RX6_51 rfl (by decide +kernel) ⟨rfl, rfl⟩ rfl ?_
  refine h_aload_n dX6_begin_15 rfl rfl ?_
  refine h_getR 3 2 (C := RX6) (T := TX6) (N := 9) dX6_begin_16 (by decide) rfl rfl (by decide) rfl fl_RX6_15 ?_
  refine h_iconst (v := (nI 0)) dX6_begin_19 rfl ?_
  refine h_callN [.ref 2, .int (nI 0)] [] (v_fill 2 5 (nI 0) (by decide) rfl (by decide) ⟨by decide, by decide, by decide⟩) dX6_begin_20 kk_X6_begin_X11_fill nl_RX6_54 swX11_fill rfl rfl (Nat.le_of_ble_eq_true rfl) ?_
  rintro _ rfl
  refine h_aload_n dX6_begin_23 rfl rfl ?_
  refine h_getR 4 3 (C := RX6) (T := TX6) (N := 9) dX6_begin_24 (by decide) rfl rfl (by decide) rfl fl_RX6_22 ?_
  refine h_iload_n dX6_begin_27 rfl rfl ?_
  refine h_callV (T := TX3) (NN := 6) [] (v_X3_begin_3 a3) dX6_begin_28 kk_X6_begin_X3_begin ml_RX6_58 mwX3_begin ewX3_begin (by decide) rfl rfl rfl rfl (Nat.le_of_ble_eq_true rfl) ?_
  rintro _ rfl
  refine h_aload_n dX6_begin_31 rfl rfl ?_
  refine h_getR 5 7 (C := RX6) (T := TX6) (N := 9) dX6_begin_32 (by decide) rfl rfl (by decide) rfl fl_RX6_29 ?_
  refine h_callV (T := TX4) (NN := 2) [] (v_X4_empty_7) dX6_begin_35 kk_X6_begin_X4_empty ml_RX6_61 mwX4_empty ewX4_empty (by decide) rfl rfl rfl rfl (Nat.le_of_ble_eq_true rfl) ?_
  rintro _ rfl
  refine h_aload_n dX6_begin_38 rfl rfl ?_
  refine h_getR 6 9 (C := RX6) (T := TX6) (N := 9) dX6_begin_39 (by decide) rfl rfl (by decide) rfl fl_RX6_38 ?_
  refine h_callV (T := TX5) (NN := 3) [] (v_X5_empty_9) dX6_begin_42 kk_X6_begin_X5_empty ml_RX6_64 mwX5_empty ewX5_empty (by decide) rfl rfl rfl rfl (Nat.le_of_ble_eq_true rfl) ?_
  rintro _ ⟨x1, rfl⟩
  refine h_pop dX6_begin_45 rfl ?_
  refine h_aload_n dX6_begin_46 rfl rfl ?_
  refine h_getR 7 11 (C := RX6) (T := TX6) (N := 9) dX6_begin_47 (by decide) rfl rfl (by decide) rfl fl_RX6_42 ?_
  refine h_callV (T := TX5) (NN := 3) [] (v_X5_empty_11) dX6_begin_50 kk_X6_begin_X5_empty ml_RX6_64 mwX5_empty ewX5_empty (by decide) rfl rfl rfl rfl (Nat.le_of_ble_eq_true rfl) ?_
  rintro _ ⟨x2, rfl⟩
  refine h_pop dX6_begin_53 rfl ?_
  refine h_aload_n dX6_begin_54 rfl rfl ?_
  refine h_getR 8 13 (C := RX6) (T := TX6) (N := 9) dX6_begin_55 (by decide) rfl rfl (by decide) rfl fl_RX6_45 ?_
  refine h_callV (T := TX5) (NN := 3) [] (v_X5_empty_13) dX6_begin_58 kk_X6_begin_X5_empty ml_RX6_64 mwX5_empty ewX5_empty (by decide) rfl rfl rfl rfl (Nat.le_of_ble_eq_true rfl) ?_
  rintro _ ⟨x3, rfl⟩
  refine h_pop dX6_begin_61 rfl ?_
  exact h_ret dX6_begin_62 rfl rfl
set_option maxRecDepth 100000 in
theorem v_X11_drum_0 (a1 : Int32) (a2 : Int32) (a3 : Int32) : zs_Dd' MX11_drum [.ref 0, .int a1, .int a2, .int a3] zs_Ri := by
  refine zs_Wof (by decide) (Nat.le_of_ble_eq_true rfl) ?_
  show zs_W MX11_drum 0 [(0, .ref 0), (1, .int a1), (2, .int a2), (3, .int a3)] [] zs_Ri
  have j24 : ∀ (v1 : Int32) (v2 : Int32) (v3 : Int32), zs_W MX11_drum 24 [(0, .ref 0), (1, .int v1), (2, .int v2), (3, .int v3)] [] zs_Ri := by
    intro v1 v2 v3
    refine h_aload_n dX11_drum_24 rfl rfl ?_
    refine h_bipush (v := (-2)) dX11_drum_25 rfl ?_
    refine h_callV (T := TX11) (NN := 18) [] (v_X11_refuseBad_0 (-2)) dX11_drum_27 kk_X11_drum_X11_refuseBad ml_RX11_86 mwX11_refuseBad ewX11_refuseBad (by decide) rfl rfl rfl rfl (Nat.le_of_ble_eq_true rfl) ?_
    rintro _ ⟨x1, rfl⟩
    exact h_iret dX11_drum_30 rfl rfl ⟨_, rfl⟩
  refine h_iload_n dX11_drum_0 rfl rfl ?_
  refine h_iconst (v := (nI 2)) dX11_drum_1 rfl ?_
  refine h_bipush (v := (nI 12)) dX11_drum_2 rfl ?_
  refine h_callS [.int a1, .int (nI 2), .int (nI 12)] [] (v_X11_within a1 (nI 2) (nI 12)) dX11_drum_4 kk_X11_drum_X11_within ml_RX11_75 swX11_within rfl rfl (Nat.le_of_ble_eq_true rfl) ?_
  rintro _ ⟨x2, rfl, bx2⟩
  refine h_if_eq 24 dX11_drum_7 (by decide) (fun h3 => ?_) (fun h3 => ?_)
  · exact j24 a1 a2 a3
  · refine h_iload_n dX11_drum_10 rfl rfl ?_
    refine h_callS [.int a2] [] (v_X11_isKind a2) dX11_drum_11 kk_X11_drum_X11_isKind ml_RX11_79 swX11_isKind rfl rfl (Nat.le_of_ble_eq_true rfl) ?_
    rintro _ ⟨x4, rfl, bx4⟩
    refine h_if_eq 24 dX11_drum_14 (by decide) (fun h5 => ?_) (fun h5 => ?_)
    · exact j24 a1 a2 a3
    · refine h_iload_n dX11_drum_17 rfl rfl ?_
      refine h_callS [.int a3] [] (v_X11_isStep a3) dX11_drum_18 kk_X11_drum_X11_isStep ml_RX11_83 swX11_isStep rfl rfl (Nat.le_of_ble_eq_true rfl) ?_
      rintro _ ⟨x6, rfl, bx6⟩
      refine h_if_ne 31 dX11_drum_21 (by decide) (fun h7 => ?_) (fun h7 => ?_)
      · refine h_aload_n dX11_drum_31 rfl rfl ?_
        refine h_getR 0 1 (C := RX11) (T := TX11) (N := 18) dX11_drum_32 (by decide) rfl rfl (by decide) rfl fl_RX11_10 ?_
        refine h_getI 2 (C := RX6) (T := TX6) (N := 9) dX11_drum_35 (by decide) rfl rfl (by decide) rfl fl_RX11_90 (fun x8 => ?_)
        refine h_istore (lv' := [(4, .int x8), (0, .ref 0), (1, .int a1), (2, .int a2), (3, .int a3)]) dX11_drum_38 (by decide) rfl ?_
        refine h_aload_n dX11_drum_40 rfl rfl ?_
        refine h_getR 0 1 (C := RX11) (T := TX11) (N := 18) dX11_drum_41 (by decide) rfl rfl (by decide) rfl fl_RX11_10 ?_
        refine h_iload_n dX11_drum_44 rfl rfl ?_
        refine h_iload_n dX11_drum_45 rfl rfl ?_
        refine h_iload_n dX11_drum_46 rfl rfl ?_
        refine h_callV (T := TX6) (NN := 9) [] (v_X6_begin_1 a1 a2 a3) dX11_drum_47 kk_X11_drum_X6_begin ml_RX11_94 mwX6_begin ewX6_begin (by decide) rfl rfl rfl rfl (Nat.le_of_ble_eq_true rfl) ?_
        rintro _ rfl
        refine h_iload dX11_drum_50 rfl ?_
        exact h_iret dX11_drum_52 rfl rfl ⟨_, rfl⟩
      · exact j24 a1 a2 a3
set_option maxRecDepth 100000 in
theorem v_X11_lamp_0 (a1 : Int32) : zs_Dd' MX11_lamp [.ref 0, .int a1] zs_Ri := by
  refine zs_Wof (by decide) (Nat.le_of_ble_eq_true rfl) ?_
  show zs_W MX11_lamp 0 [(0, .ref 0), (1, .int a1)] [] zs_Ri
  refine h_iload_n dX11_lamp_0 rfl rfl ?_
  refine h_callS [.int a1] [] (v_X11_isKind a1) dX11_lamp_1 kk_X11_lamp_X11_isKind ml_RX11_79 swX11_isKind rfl rfl (Nat.le_of_ble_eq_true rfl) ?_
  rintro _ ⟨x1, rfl, bx1⟩
  refine h_if_ne 14 dX11_lamp_4 (by decide) (fun h2 => ?_) (fun h2 => ?_)
  · refine h_aload_n dX11_lamp_14 rfl rfl ?_
    refine h_getR 0 1 (C := RX11) (T := TX11) (N := 18) dX11_lamp_15 (by decide) rfl rfl (by decide) rfl fl_RX11_10 ?_
    refine h_getI 1 (C := RX6) (T := TX6) (N := 9) dX11_lamp_18 (by decide) rfl rfl (by decide) rfl fl_RX11_98 (fun x3 => ?_)
    refine h_istore_n (lv' := [(2, .int x3), (0, .ref 0), (1, .int a1)]) dX11_lamp_21 rfl (by decide) rfl ?_
    refine h_aload_n dX11_lamp_22 rfl rfl ?_
    refine h_getR 0 1 (C := RX11) (T := TX11) (N := 18) dX11_lamp_23 (by decide) rfl rfl (by decide) rfl fl_RX11_10 ?_
    refine h_iload_n dX11_lamp_26 rfl rfl ?_
    refine h_putI 1 (C := RX6) (T := TX6) (N := 9) (ty := .int) dX11_lamp_27 (by decide) rfl rfl (by decide) rfl fl_RX11_98 rfl (by decide +kernel) ⟨rfl, rfl⟩ rfl ?_
    refine h_aload_n dX11_lamp_30 rfl rfl ?_
    refine h_getR 0 1 (C := RX11) (T := TX11) (N := 18) dX11_lamp_31 (by decide) rfl rfl (by decide) rfl fl_RX11_10 ?_
    refine h_getR 5 7 (C := RX6) (T := TX6) (N := 9) dX11_lamp_34 (by decide) rfl rfl (by decide) rfl fl_RX11_101 ?_
    refine h_callV (T := TX4) (NN := 2) [] (v_X4_empty_7) dX11_lamp_37 kk_X11_lamp_X4_empty ml_RX11_105 mwX4_empty ewX4_empty (by decide) rfl rfl rfl rfl (Nat.le_of_ble_eq_true rfl) ?_
    rintro _ rfl
    refine h_iload_n dX11_lamp_40 rfl rfl ?_
    exact h_iret dX11_lamp_41 rfl rfl ⟨_, rfl⟩
  · refine h_aload_n dX11_lamp_7 rfl rfl ?_
    refine h_bipush (v := (-2)) dX11_lamp_8 rfl ?_
    refine h_callV (T := TX11) (NN := 18) [] (v_X11_refuseBad_0 (-2)) dX11_lamp_10 kk_X11_lamp_X11_refuseBad ml_RX11_86 mwX11_refuseBad ewX11_refuseBad (by decide) rfl rfl rfl rfl (Nat.le_of_ble_eq_true rfl) ?_
    rintro _ ⟨x4, rfl⟩
    exact h_iret dX11_lamp_13 rfl rfl ⟨_, rfl⟩
set_option maxRecDepth 100000 in
theorem v_X6_addEye_1 (a1 : Int32) : zs_Dd' MX6_addEye [.ref 1, .int a1] zs_Rv := by
  refine zs_Wof (by decide) (Nat.le_of_ble_eq_true rfl) ?_
  show zs_W MX6_addEye 0 [(0, .ref 1), (1, .int a1)] [] zs_Rv
  refine h_aload_n dX6_addEye_0 rfl rfl ?_
  refine h_getR 3 2 (C := RX6) (T := TX6) (N := 9) dX6_addEye_1 (by decide) rfl rfl (by decide) rfl fl_RX6_15 ?_
  refine h_aload_n dX6_addEye_4 rfl rfl ?_
  refine h_getI 2 (C := RX6) (T := TX6) (N := 9) dX6_addEye_5 (by decide) rfl rfl (by decide) rfl fl_RX6_51 (fun x1 => ?_)
  refine h_iload_n dX6_addEye_8 rfl rfl ?_
  refine h_callN [.ref 2, .int x1, .int a1] [] (v_put 2 5 x1 a1 (by decide) rfl (by decide) ⟨by decide, by decide, by decide⟩) dX6_addEye_9 kk_X6_addEye_X11_put nl_RX6_81 swX11_put rfl rfl (Nat.le_of_ble_eq_true rfl) ?_
  rintro _ rfl
  refine h_aload_n dX6_addEye_12 rfl rfl ?_
  refine h_getR 4 3 (C := RX6) (T := TX6) (N := 9) dX6_addEye_13 (by decide) rfl rfl (by decide) rfl fl_RX6_22 ?_
  refine h_getR 4 5 (C := RX3) (T := TX3) (N := 6) dX6_addEye_16 (by decide) rfl rfl (by decide) rfl fl_RX6_85 ?_
  refine h_aload_n dX6_addEye_19 rfl rfl ?_
  refine h_getI 2 (C := RX6) (T := TX6) (N := 9) dX6_addEye_20 (by decide) rfl rfl (by decide) rfl fl_RX6_51 (fun x2 => ?_)
  refine h_iconst (v := (nI 0)) dX6_addEye_23 rfl ?_
  refine h_callN [.ref 5, .int x2, .int (nI 0)] [] (v_put 5 5 x2 (nI 0) (by decide) rfl (by decide) ⟨by decide, by decide, by decide⟩) dX6_addEye_24 kk_X6_addEye_X11_put nl_RX6_81 swX11_put rfl rfl (Nat.le_of_ble_eq_true rfl) ?_
  rintro _ rfl
  refine h_aload_n dX6_addEye_27 rfl rfl ?_
  refine h_getR 4 3 (C := RX6) (T := TX6) (N := 9) dX6_addEye_28 (by decide) rfl rfl (by decide) rfl fl_RX6_22 ?_
  refine h_getR 5 6 (C := RX3) (T := TX3) (N := 6) dX6_addEye_31 (by decide) rfl rfl (by decide) rfl fl_RX6_88 ?_
  refine h_aload_n dX6_addEye_34 rfl rfl ?_
  refine h_getI 2 (C := RX6) (T := TX6) (N := 9) dX6_addEye_35 (by decide) rfl rfl (by decide) rfl fl_RX6_51 (fun x3 => ?_)
  refine h_iconst (v := (nI 0)) dX6_addEye_38 rfl ?_
  refine h_callN [.ref 6, .int x3, .int (nI 0)] [] (v_put 6 5 x3 (nI 0) (by decide) rfl (by decide) ⟨by decide, by decide, by decide⟩) dX6_addEye_39 kk_X6_addEye_X11_put nl_RX6_81 swX11_put rfl rfl (Nat.le_of_ble_eq_true rfl) ?_
  rintro _ rfl
  refine h_aload_n dX6_addEye_42 rfl rfl ?_
  refine h_dup dX6_addEye_43 rfl ?_
  refine h_getI 2 (C := RX6) (T := TX6) (N := 9) dX6_addEye_44 (by decide) rfl rfl (by decide) rfl fl_RX6_51 (fun x4 => ?_)
  refine h_iconst (v := (nI 1)) dX6_addEye_47 rfl ?_
  refine h_iadd dX6_addEye_48 (fun x5 => ?_)
  refine h_putI 2 (C := RX6) (T := TX6) (N := 9) (ty := .int) dX6_addEye_49 (by decide) rfl rfl (by decide) rfl fl_RX6_51 rfl (by decide +kernel) ⟨rfl, rfl⟩ rfl ?_
  exact h_ret dX6_addEye_52 rfl rfl
set_option maxRecDepth 100000 in
theorem v_X11_refuseFull_0 : zs_Dd' MX11_refuseFull [.ref 0] zs_Ri := by
  refine zs_Wof (by decide) (Nat.le_of_ble_eq_true rfl) ?_
  show zs_W MX11_refuseFull 0 [(0, .ref 0)] [] zs_Ri
  refine h_aload_n dX11_refuseFull_0 rfl rfl ?_
  refine h_dup dX11_refuseFull_1 rfl ?_
  refine h_getI 10 (C := RX11) (T := TX11) (N := 18) dX11_refuseFull_2 (by decide) rfl rfl (by decide) rfl fl_RX11_320 (fun x1 => ?_)
  refine h_iconst (v := (nI 1)) dX11_refuseFull_5 rfl ?_
  refine h_iadd dX11_refuseFull_6 (fun x2 => ?_)
  refine h_putI 10 (C := RX11) (T := TX11) (N := 18) (ty := .int) dX11_refuseFull_7 (by decide) rfl rfl (by decide) rfl fl_RX11_320 rfl (by decide +kernel) ⟨rfl, rfl⟩ rfl ?_
  refine h_bipush (v := (-4)) dX11_refuseFull_10 rfl ?_
  exact h_iret dX11_refuseFull_12 rfl rfl ⟨_, rfl⟩
set_option maxRecDepth 100000 in
theorem v_X11_eye_0 (a1 : Int32) : zs_Dd' MX11_eye [.ref 0, .int a1] zs_Ri := by
  refine zs_Wof (by decide) (Nat.le_of_ble_eq_true rfl) ?_
  show zs_W MX11_eye 0 [(0, .ref 0), (1, .int a1)] [] zs_Ri
  refine h_iload_n dX11_eye_0 rfl rfl ?_
  refine h_callS [.int a1] [] (v_X11_isKind a1) dX11_eye_1 kk_X11_eye_X11_isKind ml_RX11_79 swX11_isKind rfl rfl (Nat.le_of_ble_eq_true rfl) ?_
  rintro _ ⟨x1, rfl, bx1⟩
  refine h_if_ne 14 dX11_eye_4 (by decide) (fun h2 => ?_) (fun h2 => ?_)
  · refine h_aload_n dX11_eye_14 rfl rfl ?_
    refine h_getR 0 1 (C := RX11) (T := TX11) (N := 18) dX11_eye_15 (by decide) rfl rfl (by decide) rfl fl_RX11_10 ?_
    refine h_getI 2 (C := RX6) (T := TX6) (N := 9) dX11_eye_18 (by decide) rfl rfl (by decide) rfl fl_RX11_90 (fun x3 => ?_)
    refine h_iconst (v := (nI 5)) dX11_eye_21 rfl ?_
    refine h_ic_lt 30 dX11_eye_22 (by decide) (fun h4 => ?_) (fun h4 => ?_)
    · refine h_aload_n dX11_eye_30 rfl rfl ?_
      refine h_getR 0 1 (C := RX11) (T := TX11) (N := 18) dX11_eye_31 (by decide) rfl rfl (by decide) rfl fl_RX11_10 ?_
      refine h_iload_n dX11_eye_34 rfl rfl ?_
      refine h_callV (T := TX6) (NN := 9) [] (v_X6_addEye_1 a1) dX11_eye_35 kk_X11_eye_X6_addEye ml_RX11_114 mwX6_addEye ewX6_addEye (by decide) rfl rfl rfl rfl (Nat.le_of_ble_eq_true rfl) ?_
      rintro _ rfl
      refine h_aload_n dX11_eye_38 rfl rfl ?_
      refine h_getR 0 1 (C := RX11) (T := TX11) (N := 18) dX11_eye_39 (by decide) rfl rfl (by decide) rfl fl_RX11_10 ?_
      refine h_getR 5 7 (C := RX6) (T := TX6) (N := 9) dX11_eye_42 (by decide) rfl rfl (by decide) rfl fl_RX11_101 ?_
      refine h_callV (T := TX4) (NN := 2) [] (v_X4_empty_7) dX11_eye_45 kk_X11_eye_X4_empty ml_RX11_105 mwX4_empty ewX4_empty (by decide) rfl rfl rfl rfl (Nat.le_of_ble_eq_true rfl) ?_
      rintro _ rfl
      refine h_aload_n dX11_eye_48 rfl rfl ?_
      refine h_getR 0 1 (C := RX11) (T := TX11) (N := 18) dX11_eye_49 (by decide) rfl rfl (by decide) rfl fl_RX11_10 ?_
      refine h_getI 2 (C := RX6) (T := TX6) (N := 9) dX11_eye_52 (by decide) rfl rfl (by decide) rfl fl_RX11_90 (fun x5 => ?_)
      refine h_iconst (v := (nI 1)) dX11_eye_55 rfl ?_
      refine h_isub dX11_eye_56 (fun x6 => ?_)
      exact h_iret dX11_eye_57 rfl rfl ⟨_, rfl⟩
    · refine h_aload_n dX11_eye_25 rfl rfl ?_
      refine h_callV (T := TX11) (NN := 18) [] (v_X11_refuseFull_0) dX11_eye_26 kk_X11_eye_X11_refuseFull ml_RX11_110 mwX11_refuseFull ewX11_refuseFull (by decide) rfl rfl rfl rfl (Nat.le_of_ble_eq_true rfl) ?_
      rintro _ ⟨x7, rfl⟩
      exact h_iret dX11_eye_29 rfl rfl ⟨_, rfl⟩
  · refine h_aload_n dX11_eye_7 rfl rfl ?_
    refine h_bipush (v := (-2)) dX11_eye_8 rfl ?_
    refine h_callV (T := TX11) (NN := 18) [] (v_X11_refuseBad_0 (-2)) dX11_eye_10 kk_X11_eye_X11_refuseBad ml_RX11_86 mwX11_refuseBad ewX11_refuseBad (by decide) rfl rfl rfl rfl (Nat.le_of_ble_eq_true rfl) ?_
    rintro _ ⟨x8, rfl⟩
    exact h_iret dX11_eye_13 rfl rfl ⟨_, rfl⟩
set_option maxRecDepth 100000 in
theorem v_X10_token_43 : zs_Dd' MX10_token [.ref 43] zs_Ri := by
  refine zs_Wof (by decide) (Nat.le_of_ble_eq_true rfl) ?_
  show zs_W MX10_token 0 [(0, .ref 43)] [] zs_Ri
  refine h_aload_n dX10_token_0 rfl rfl ?_
  refine h_getR 5 61 (C := RX10) (T := TX10) (N := 8) dX10_token_1 (by decide) rfl rfl (by decide) rfl fl_RX10_28 ?_
  refine h_aload_n dX10_token_4 rfl rfl ?_
  refine h_getI 7 (C := RX10) (T := TX10) (N := 8) dX10_token_5 (by decide) rfl rfl (by decide) rfl fl_RX10_50 (fun x1 => ?_)
  refine h_callN [.ref 61, .int x1] [] (v_cell 61 151 x1 (by decide) rfl (by decide)) dX10_token_8 kk_X10_token_X11_cell nl_RX10_66 swX11_cell rfl rfl (Nat.le_of_ble_eq_true rfl) ?_
  rintro _ ⟨x2, rfl⟩
  exact h_iret dX10_token_11 rfl rfl ⟨_, rfl⟩
set_option maxRecDepth 100000 in
theorem v_X10_takeStop_43 : zs_Dd' MX10_takeStop [.ref 43] zs_Rb := by
  refine zs_Wof (by decide) (Nat.le_of_ble_eq_true rfl) ?_
  show zs_W MX10_takeStop 0 [(0, .ref 43)] [] zs_Rb
  refine h_aload_n dX10_takeStop_0 rfl rfl ?_
  refine h_dup dX10_takeStop_1 rfl ?_
  refine h_getI 7 (C := RX10) (T := TX10) (N := 8) dX10_takeStop_2 (by decide) rfl rfl (by decide) rfl fl_RX10_50 (fun x1 => ?_)
  refine h_iconst (v := (nI 1)) dX10_takeStop_5 rfl ?_
  refine h_iadd dX10_takeStop_6 (fun x2 => ?_)
  refine h_putI 7 (C := RX10) (T := TX10) (N := 8) (ty := .int) dX10_takeStop_7 (by decide) rfl rfl (by decide) rfl fl_RX10_50 rfl (by decide +kernel) ⟨rfl, rfl⟩ rfl ?_
  refine h_aload_n dX10_takeStop_10 rfl rfl ?_
  refine h_callV (T := TX10) (NN := 8) [] (v_X10_token_43) dX10_takeStop_11 kk_X10_takeStop_X10_token ml_RX10_53 mwX10_token ewX10_token (by decide) rfl rfl rfl rfl (Nat.le_of_ble_eq_true rfl) ?_
  rintro _ ⟨x3, rfl⟩
  refine h_iconst (v := (nI 2)) dX10_takeStop_14 rfl ?_
  refine h_ic_ne 22 dX10_takeStop_15 (by decide) (fun h4 => ?_) (fun h4 => ?_)
  · refine h_iconst (v := (nI 0)) dX10_takeStop_22 rfl ?_
    exact h_iret dX10_takeStop_23 rfl rfl ⟨_, rfl, rfl⟩
  · refine h_iconst (v := (nI 1)) dX10_takeStop_18 rfl ?_
    refine h_goto 23 dX10_takeStop_19 (by decide) ?_
    exact h_iret dX10_takeStop_23 rfl rfl ⟨_, rfl, rfl⟩
set_option maxRecDepth 100000 in
theorem v_X10_value_43 : zs_Dd' MX10_value [.ref 43] zs_Ri := by
  refine zs_Wof (by decide) (Nat.le_of_ble_eq_true rfl) ?_
  show zs_W MX10_value 0 [(0, .ref 43)] [] zs_Ri
  refine h_aload_n dX10_value_0 rfl rfl ?_
  refine h_getR 6 62 (C := RX10) (T := TX10) (N := 8) dX10_value_1 (by decide) rfl rfl (by decide) rfl fl_RX10_31 ?_
  refine h_aload_n dX10_value_4 rfl rfl ?_
  refine h_getI 7 (C := RX10) (T := TX10) (N := 8) dX10_value_5 (by decide) rfl rfl (by decide) rfl fl_RX10_50 (fun x1 => ?_)
  refine h_callN [.ref 62, .int x1] [] (v_cell 62 151 x1 (by decide) rfl (by decide)) dX10_value_8 kk_X10_value_X11_cell nl_RX10_66 swX11_cell rfl rfl (Nat.le_of_ble_eq_true rfl) ?_
  rintro _ ⟨x2, rfl⟩
  exact h_iret dX10_value_11 rfl rfl ⟨_, rfl⟩
set_option maxRecDepth 100000 in
theorem v_X10_takeNumber_43 (a1 : Int32) (a2 : Int32) : zs_Dd' MX10_takeNumber [.ref 43, .int a1, .int a2] zs_Rb := by
  refine zs_Wof (by decide) (Nat.le_of_ble_eq_true rfl) ?_
  show zs_W MX10_takeNumber 0 [(0, .ref 43), (1, .int a1), (2, .int a2)] [] zs_Rb
  refine h_aload_n dX10_takeNumber_0 rfl rfl ?_
  refine h_dup dX10_takeNumber_1 rfl ?_
  refine h_getI 7 (C := RX10) (T := TX10) (N := 8) dX10_takeNumber_2 (by decide) rfl rfl (by decide) rfl fl_RX10_50 (fun x1 => ?_)
  refine h_iconst (v := (nI 1)) dX10_takeNumber_5 rfl ?_
  refine h_iadd dX10_takeNumber_6 (fun x2 => ?_)
  refine h_putI 7 (C := RX10) (T := TX10) (N := 8) (ty := .int) dX10_takeNumber_7 (by decide) rfl rfl (by decide) rfl fl_RX10_50 rfl (by decide +kernel) ⟨rfl, rfl⟩ rfl ?_
  refine h_aload_n dX10_takeNumber_10 rfl rfl ?_
  refine h_callV (T := TX10) (NN := 8) [] (v_X10_token_43) dX10_takeNumber_11 kk_X10_takeNumber_X10_token ml_RX10_53 mwX10_token ewX10_token (by decide) rfl rfl rfl rfl (Nat.le_of_ble_eq_true rfl) ?_
  rintro _ ⟨x3, rfl⟩
  refine h_iconst (v := (nI 1)) dX10_takeNumber_14 rfl ?_
  refine h_ic_ne 34 dX10_takeNumber_15 (by decide) (fun h4 => ?_) (fun h4 => ?_)
  · refine h_iconst (v := (nI 0)) dX10_takeNumber_34 rfl ?_
    exact h_iret dX10_takeNumber_35 rfl rfl ⟨_, rfl, rfl⟩
  · refine h_aload_n dX10_takeNumber_18 rfl rfl ?_
    refine h_callV (T := TX10) (NN := 8) [] (v_X10_value_43) dX10_takeNumber_19 kk_X10_takeNumber_X10_value ml_RX10_74 mwX10_value ewX10_value (by decide) rfl rfl rfl rfl (Nat.le_of_ble_eq_true rfl) ?_
    rintro _ ⟨x5, rfl⟩
    refine h_iload_n dX10_takeNumber_22 rfl rfl ?_
    refine h_iload_n dX10_takeNumber_23 rfl rfl ?_
    refine h_callN [.int x5, .int a1, .int a2] [] (v_X11_within x5 a1 a2) dX10_takeNumber_24 kk_X10_takeNumber_X11_within nl_RX10_111 swX11_within rfl rfl (Nat.le_of_ble_eq_true rfl) ?_
    rintro _ ⟨x6, rfl, bx6⟩
    refine h_if_eq 34 dX10_takeNumber_27 (by decide) (fun h7 => ?_) (fun h7 => ?_)
    · refine h_iconst (v := (nI 0)) dX10_takeNumber_34 rfl ?_
      exact h_iret dX10_takeNumber_35 rfl rfl ⟨_, rfl, rfl⟩
    · refine h_iconst (v := (nI 1)) dX10_takeNumber_30 rfl ?_
      refine h_goto 35 dX10_takeNumber_31 (by decide) ?_
      exact h_iret dX10_takeNumber_35 rfl rfl ⟨_, rfl, rfl⟩
set_option maxRecDepth 100000 in
theorem v_X10_takeDraw_43 : zs_Dd' MX10_takeDraw [.ref 43] zs_Rb := by
  refine zs_Wof (by decide) (Nat.le_of_ble_eq_true rfl) ?_
  show zs_W MX10_takeDraw 0 [(0, .ref 43)] [] zs_Rb
  have j2 : ∀ (n2 : Nat) (c2 : Int32), zs_mu c2 < n2 → zs_W MX10_takeDraw 2 [(0, .ref 43), (1, .int c2)] [] zs_Rb := by
    intro n2
    induction n2 with
    | zero => intro c2 hn2; exact absurd hn2 (Nat.not_lt_zero _)
    | succ n2 ih2 =>
      intro c2 hn2
      refine h_iload_n dX10_takeDraw_2 rfl rfl ?_
      refine h_aload_n dX10_takeDraw_3 rfl rfl ?_
      refine h_getR 2 45 (C := RX10) (T := TX10) (N := 8) dX10_takeDraw_4 (by decide) rfl rfl (by decide) rfl fl_RX10_18 ?_
      refine h_getI 0 (C := RX6) (T := TX6) (N := 9) dX10_takeDraw_7 (by decide) rfl rfl (by decide) rfl fl_RX10_105 (fun x1 => ?_)
      refine h_ic_ge 65 dX10_takeDraw_10 (by decide) (fun h2 => ?_) (fun h2 => ?_)
      · refine h_aload_n dX10_takeDraw_65 rfl rfl ?_
        refine h_callV (T := TX10) (NN := 8) [] (v_X10_takeStop_43) dX10_takeDraw_66 kk_X10_takeDraw_X10_takeStop ml_RX10_81 mwX10_takeStop ewX10_takeStop (by decide) rfl rfl rfl rfl (Nat.le_of_ble_eq_true rfl) ?_
        rintro _ ⟨x3, rfl, bx3⟩
        exact h_iret dX10_takeDraw_69 rfl bx3 ⟨_, rfl, bx3⟩
      · have hd2 := zs_muA h2 hn2
        refine h_aload_n dX10_takeDraw_13 rfl rfl ?_
        refine h_iconst (v := (nI 0)) dX10_takeDraw_14 rfl ?_
        refine h_bipush (v := (nI 9)) dX10_takeDraw_15 rfl ?_
        refine h_callV (T := TX10) (NN := 8) [] (v_X10_takeNumber_43 (nI 0) (nI 9)) dX10_takeDraw_17 kk_X10_takeDraw_X10_takeNumber ml_RX10_70 mwX10_takeNumber ewX10_takeNumber (by decide) rfl rfl rfl rfl (Nat.le_of_ble_eq_true rfl) ?_
        rintro _ ⟨x4, rfl, bx4⟩
        refine h_if_ne 41 dX10_takeDraw_20 (by decide) (fun h5 => ?_) (fun h5 => ?_)
        · refine h_aload_n dX10_takeDraw_41 rfl rfl ?_
          refine h_getR 2 45 (C := RX10) (T := TX10) (N := 8) dX10_takeDraw_42 (by decide) rfl rfl (by decide) rfl fl_RX10_18 ?_
          refine h_getR 4 47 (C := RX6) (T := TX6) (N := 9) dX10_takeDraw_45 (by decide) rfl rfl (by decide) rfl fl_RX10_93 ?_
          refine h_getR 3 48 (C := RX3) (T := TX3) (N := 6) dX10_takeDraw_48 (by decide) rfl rfl (by decide) rfl fl_RX10_108 ?_
          refine h_iload_n dX10_takeDraw_51 rfl rfl ?_
          refine h_aload_n dX10_takeDraw_52 rfl rfl ?_
          refine h_callV (T := TX10) (NN := 8) [.int c2, .ref 48] (v_X10_value_43) dX10_takeDraw_53 kk_X10_takeDraw_X10_value ml_RX10_74 mwX10_value ewX10_value (by decide) rfl rfl rfl rfl (Nat.le_of_ble_eq_true rfl) ?_
          rintro _ ⟨x6, rfl⟩
          refine h_callN [.ref 48, .int c2, .int x6] [] (v_put 48 12 c2 x6 (by decide) rfl (by decide) ⟨by decide, by decide, by decide⟩) dX10_takeDraw_56 kk_X10_takeDraw_X11_put nl_RX10_38 swX11_put rfl rfl (Nat.le_of_ble_eq_true rfl) ?_
          rintro _ rfl
          refine h_iinc (v := (c2 + Int32.ofInt 1)) (lv' := [(1, .int (c2 + Int32.ofInt 1)), (0, .ref 43)]) dX10_takeDraw_59 rfl rfl (by decide) rfl ?_
          refine h_goto 2 dX10_takeDraw_62 (by decide) ?_
          exact zs_Wlv (ih2 (c2 + Int32.ofInt 1) hd2) (zs_mc 1 rfl (zs_mc 0 rfl zs_mn))
        · refine h_iload_n dX10_takeDraw_23 rfl rfl ?_
          refine h_if_le 39 dX10_takeDraw_24 (by decide) (fun h7 => ?_) (fun h7 => ?_)
          · refine h_iconst (v := (nI 0)) dX10_takeDraw_39 rfl ?_
            exact h_iret dX10_takeDraw_40 rfl rfl ⟨_, rfl, rfl⟩
          · refine h_aload_n dX10_takeDraw_27 rfl rfl ?_
            refine h_callV (T := TX10) (NN := 8) [] (v_X10_token_43) dX10_takeDraw_28 kk_X10_takeDraw_X10_token ml_RX10_53 mwX10_token ewX10_token (by decide) rfl rfl rfl rfl (Nat.le_of_ble_eq_true rfl) ?_
            rintro _ ⟨x8, rfl⟩
            refine h_iconst (v := (nI 2)) dX10_takeDraw_31 rfl ?_
            refine h_ic_ne 39 dX10_takeDraw_32 (by decide) (fun h9 => ?_) (fun h9 => ?_)
            · refine h_iconst (v := (nI 0)) dX10_takeDraw_39 rfl ?_
              exact h_iret dX10_takeDraw_40 rfl rfl ⟨_, rfl, rfl⟩
            · refine h_iconst (v := (nI 1)) dX10_takeDraw_35 rfl ?_
              refine h_goto 40 dX10_takeDraw_36 (by decide) ?_
              exact h_iret dX10_takeDraw_40 rfl rfl ⟨_, rfl, rfl⟩
  refine h_iconst (v := (nI 0)) dX10_takeDraw_0 rfl ?_
  refine h_istore_n (lv' := [(1, .int (nI 0)), (0, .ref 43)]) dX10_takeDraw_1 rfl (by decide) rfl ?_
  exact zs_Wlv (j2 _ (nI 0) (Nat.lt_succ_self _)) (zs_mc 1 rfl (zs_mc 0 rfl zs_mn))
set_option maxRecDepth 100000 in
theorem v_X6_addEye_45 (a1 : Int32) : zs_Dd' MX6_addEye [.ref 45, .int a1] zs_Rv := by
  refine zs_Wof (by decide) (Nat.le_of_ble_eq_true rfl) ?_
  show zs_W MX6_addEye 0 [(0, .ref 45), (1, .int a1)] [] zs_Rv
  refine h_aload_n dX6_addEye_0 rfl rfl ?_
  refine h_getR 3 46 (C := RX6) (T := TX6) (N := 9) dX6_addEye_1 (by decide) rfl rfl (by decide) rfl fl_RX6_15 ?_
  refine h_aload_n dX6_addEye_4 rfl rfl ?_
  refine h_getI 2 (C := RX6) (T := TX6) (N := 9) dX6_addEye_5 (by decide) rfl rfl (by decide) rfl fl_RX6_51 (fun x1 => ?_)
  refine h_iload_n dX6_addEye_8 rfl rfl ?_
  refine h_callN [.ref 46, .int x1, .int a1] [] (v_put 46 5 x1 a1 (by decide) rfl (by decide) ⟨by decide, by decide, by decide⟩) dX6_addEye_9 kk_X6_addEye_X11_put nl_RX6_81 swX11_put rfl rfl (Nat.le_of_ble_eq_true rfl) ?_
  rintro _ rfl
  refine h_aload_n dX6_addEye_12 rfl rfl ?_
  refine h_getR 4 47 (C := RX6) (T := TX6) (N := 9) dX6_addEye_13 (by decide) rfl rfl (by decide) rfl fl_RX6_22 ?_
  refine h_getR 4 49 (C := RX3) (T := TX3) (N := 6) dX6_addEye_16 (by decide) rfl rfl (by decide) rfl fl_RX6_85 ?_
  refine h_aload_n dX6_addEye_19 rfl rfl ?_
  refine h_getI 2 (C := RX6) (T := TX6) (N := 9) dX6_addEye_20 (by decide) rfl rfl (by decide) rfl fl_RX6_51 (fun x2 => ?_)
  refine h_iconst (v := (nI 0)) dX6_addEye_23 rfl ?_
  refine h_callN [.ref 49, .int x2, .int (nI 0)] [] (v_put 49 5 x2 (nI 0) (by decide) rfl (by decide) ⟨by decide, by decide, by decide⟩) dX6_addEye_24 kk_X6_addEye_X11_put nl_RX6_81 swX11_put rfl rfl (Nat.le_of_ble_eq_true rfl) ?_
  rintro _ rfl
  refine h_aload_n dX6_addEye_27 rfl rfl ?_
  refine h_getR 4 47 (C := RX6) (T := TX6) (N := 9) dX6_addEye_28 (by decide) rfl rfl (by decide) rfl fl_RX6_22 ?_
  refine h_getR 5 50 (C := RX3) (T := TX3) (N := 6) dX6_addEye_31 (by decide) rfl rfl (by decide) rfl fl_RX6_88 ?_
  refine h_aload_n dX6_addEye_34 rfl rfl ?_
  refine h_getI 2 (C := RX6) (T := TX6) (N := 9) dX6_addEye_35 (by decide) rfl rfl (by decide) rfl fl_RX6_51 (fun x3 => ?_)
  refine h_iconst (v := (nI 0)) dX6_addEye_38 rfl ?_
  refine h_callN [.ref 50, .int x3, .int (nI 0)] [] (v_put 50 5 x3 (nI 0) (by decide) rfl (by decide) ⟨by decide, by decide, by decide⟩) dX6_addEye_39 kk_X6_addEye_X11_put nl_RX6_81 swX11_put rfl rfl (Nat.le_of_ble_eq_true rfl) ?_
  rintro _ rfl
  refine h_aload_n dX6_addEye_42 rfl rfl ?_
  refine h_dup dX6_addEye_43 rfl ?_
  refine h_getI 2 (C := RX6) (T := TX6) (N := 9) dX6_addEye_44 (by decide) rfl rfl (by decide) rfl fl_RX6_51 (fun x4 => ?_)
  refine h_iconst (v := (nI 1)) dX6_addEye_47 rfl ?_
  refine h_iadd dX6_addEye_48 (fun x5 => ?_)
  refine h_putI 2 (C := RX6) (T := TX6) (N := 9) (ty := .int) dX6_addEye_49 (by decide) rfl rfl (by decide) rfl fl_RX6_51 rfl (by decide +kernel) ⟨rfl, rfl⟩ rfl ?_
  exact h_ret dX6_addEye_52 rfl rfl
set_option maxRecDepth 100000 in
theorem v_X1_lazy (a1 : Int32) (a2 : Int32) : zs_Dd' MX1_lazy [.int a1, .int a2] zs_Ri := by
  refine zs_Wof (by decide) (Nat.le_of_ble_eq_true rfl) ?_
  show zs_W MX1_lazy 0 [(0, .int a1), (1, .int a2)] [] zs_Ri
  refine h_iload_n dX1_lazy_0 rfl rfl ?_
  refine h_iload_n dX1_lazy_1 rfl rfl ?_
  refine h_iadd dX1_lazy_2 (fun x1 => ?_)
  refine h_iconst (v := (nI 2)) dX1_lazy_3 rfl ?_
  refine h_idiv dX1_lazy_4 (by decide) (fun x2 => ?_)
  exact h_iret dX1_lazy_5 rfl rfl ⟨_, rfl⟩
set_option maxRecDepth 100000 in
theorem v_J9_abs_0f7a4 (a1 : Int32) : zs_Dd' MJ9_abs_0f7a4 [.int a1] zs_Ri := by
  refine zs_WoF (by decide +kernel) (Nat.le_of_ble_eq_true rfl) ?_
  show zs_W MJ9_abs_0f7a4 0 [(0, .int a1)] [] zs_Ri
  refine h_iload_n dJ9_abs_0f7a4_0 rfl rfl ?_
  refine h_if_ge 9 dJ9_abs_0f7a4_1 (by decide) (fun h1 => ?_) (fun h1 => ?_)
  · refine h_iload_n dJ9_abs_0f7a4_9 rfl rfl ?_
    exact h_iret dJ9_abs_0f7a4_10 rfl rfl ⟨_, rfl⟩
  · refine h_iload_n dJ9_abs_0f7a4_4 rfl rfl ?_
    refine h_ineg dJ9_abs_0f7a4_5 (fun x2 => ?_)
    refine h_goto 10 dJ9_abs_0f7a4_6 (by decide) ?_
    exact h_iret dJ9_abs_0f7a4_10 rfl rfl ⟨_, rfl⟩
set_option maxRecDepth 100000 in
theorem v_X1_sharp (a1 : Int32) (a2 : Int32) : zs_Dd' MX1_sharp [.int a1, .int a2] zs_Ri := by
  refine zs_Wof (by decide) (Nat.le_of_ble_eq_true rfl) ?_
  show zs_W MX1_sharp 0 [(0, .int a1), (1, .int a2)] [] zs_Ri
  refine h_iload_n dX1_sharp_0 rfl rfl ?_
  refine h_iload_n dX1_sharp_1 rfl rfl ?_
  refine h_isub dX1_sharp_2 (fun x1 => ?_)
  refine h_callS [.int x1] [] (v_J9_abs_0f7a4 x1) dX1_sharp_3 kk_X1_sharp_J9_abs_0f7a4 ml_RX1_21 swJ9_abs_0f7a4 rfl rfl (Nat.le_of_ble_eq_true rfl) ?_
  rintro _ ⟨x2, rfl⟩
  refine h_iconst (v := (nI 1)) dX1_sharp_6 rfl ?_
  refine h_ic_ne 14 dX1_sharp_7 (by decide) (fun h3 => ?_) (fun h3 => ?_)
  · refine h_iload_n dX1_sharp_14 rfl rfl ?_
    exact h_iret dX1_sharp_15 rfl rfl ⟨_, rfl⟩
  · refine h_iload_n dX1_sharp_10 rfl rfl ?_
    refine h_goto 15 dX1_sharp_11 (by decide) ?_
    exact h_iret dX1_sharp_15 rfl rfl ⟨_, rfl⟩
set_option maxRecDepth 100000 in
theorem v_J9_min_7cf53 (a1 : Int32) (a2 : Int32) : zs_Dd' MJ9_min_7cf53 [.int a1, .int a2] zs_Ri := by
  refine zs_WoF (by decide +kernel) (Nat.le_of_ble_eq_true rfl) ?_
  show zs_W MJ9_min_7cf53 0 [(0, .int a1), (1, .int a2)] [] zs_Ri
  refine h_iload_n dJ9_min_7cf53_0 rfl rfl ?_
  refine h_iload_n dJ9_min_7cf53_1 rfl rfl ?_
  refine h_ic_gt 9 dJ9_min_7cf53_2 (by decide) (fun h1 => ?_) (fun h1 => ?_)
  · refine h_iload_n dJ9_min_7cf53_9 rfl rfl ?_
    exact h_iret dJ9_min_7cf53_10 rfl rfl ⟨_, rfl⟩
  · refine h_iload_n dJ9_min_7cf53_5 rfl rfl ?_
    refine h_goto 10 dJ9_min_7cf53_6 (by decide) ?_
    exact h_iret dJ9_min_7cf53_10 rfl rfl ⟨_, rfl⟩
set_option maxRecDepth 100000 in
theorem v_X1_child (a1 : Int32) (a2 : Int32) : zs_Dd' MX1_child [.int a1, .int a2] zs_Ri := by
  refine zs_Wof (by decide) (Nat.le_of_ble_eq_true rfl) ?_
  show zs_W MX1_child 0 [(0, .int a1), (1, .int a2)] [] zs_Ri
  refine h_iload_n dX1_child_0 rfl rfl ?_
  refine h_iload_n dX1_child_1 rfl rfl ?_
  refine h_ic_le 16 dX1_child_2 (by decide) (fun h1 => ?_) (fun h1 => ?_)
  · refine h_iload_n dX1_child_16 rfl rfl ?_
    exact h_iret dX1_child_17 rfl rfl ⟨_, rfl⟩
  · refine h_bipush (v := (nI 9)) dX1_child_5 rfl ?_
    refine h_iload_n dX1_child_7 rfl rfl ?_
    refine h_iconst (v := (nI 1)) dX1_child_8 rfl ?_
    refine h_iadd dX1_child_9 (fun x2 => ?_)
    refine h_callS [.int (nI 9), .int x2] [] (v_J9_min_7cf53 (nI 9) x2) dX1_child_10 kk_X1_child_J9_min_7cf53 ml_RX1_27 swJ9_min_7cf53 rfl rfl (Nat.le_of_ble_eq_true rfl) ?_
    rintro _ ⟨x3, rfl⟩
    refine h_goto 17 dX1_child_13 (by decide) ?_
    exact h_iret dX1_child_17 rfl rfl ⟨_, rfl⟩
set_option maxRecDepth 100000 in
theorem v_X1_sight (a1 : Int32) (a2 : Int32) (a3 : Int32) : zs_Dd' MX1_sight [.int a1, .int a2, .int a3] zs_Ri := by
  refine zs_Wof (by decide) (Nat.le_of_ble_eq_true rfl) ?_
  show zs_W MX1_sight 0 [(0, .int a1), (1, .int a2), (2, .int a3)] [] zs_Ri
  refine h_iload_n dX1_sight_0 rfl rfl ?_
  by_cases h1 : (a1 : Int32).toInt < 1 ∨ 5 < (a1 : Int32).toInt
  · refine h_tout 83 dX1_sight_1 h1 (by decide) ?_
    refine h_iload_n dX1_sight_83 rfl rfl ?_
    exact h_iret dX1_sight_84 rfl rfl ⟨_, rfl⟩
  rcases (show (a1 : Int32).toInt = 1 ∨ (a1 : Int32).toInt = 2 ∨ (a1 : Int32).toInt = 3 ∨ (a1 : Int32).toInt = 4 ∨ (a1 : Int32).toInt = 5 by omega) with h1 | h1 | h1 | h1 | h1
  · refine h_tin (off := 35) 36 dX1_sight_1 (by rw [h1]; decide) (by rw [h1]; decide) (by rw [h1]; rfl) (by decide) ?_
    refine h_iload_n dX1_sight_36 rfl rfl ?_
    refine h_iload_n dX1_sight_37 rfl rfl ?_
    refine h_callS [.int a2, .int a3] [] (v_X1_lazy a2 a3) dX1_sight_38 kk_X1_sight_X1_lazy ml_RX1_9 swX1_lazy rfl rfl (Nat.le_of_ble_eq_true rfl) ?_
    rintro _ ⟨x2, rfl⟩
    exact h_iret dX1_sight_41 rfl rfl ⟨_, rfl⟩
  · refine h_tin (off := 41) 42 dX1_sight_1 (by rw [h1]; decide) (by rw [h1]; decide) (by rw [h1]; rfl) (by decide) ?_
    refine h_iload_n dX1_sight_42 rfl rfl ?_
    refine h_iload_n dX1_sight_43 rfl rfl ?_
    refine h_callS [.int a2, .int a3] [] (v_X1_sharp a2 a3) dX1_sight_44 kk_X1_sight_X1_sharp ml_RX1_15 swX1_sharp rfl rfl (Nat.le_of_ble_eq_true rfl) ?_
    rintro _ ⟨x3, rfl⟩
    exact h_iret dX1_sight_47 rfl rfl ⟨_, rfl⟩
  · refine h_tin (off := 47) 48 dX1_sight_1 (by rw [h1]; decide) (by rw [h1]; decide) (by rw [h1]; rfl) (by decide) ?_
    refine h_iload_n dX1_sight_48 rfl rfl ?_
    refine h_if_ne 56 dX1_sight_49 (by decide) (fun h4 => ?_) (fun h4 => ?_)
    · refine h_iload_n dX1_sight_56 rfl rfl ?_
      refine h_iload_n dX1_sight_57 rfl rfl ?_
      refine h_callS [.int a2, .int a3] [] (v_X1_lazy a2 a3) dX1_sight_58 kk_X1_sight_X1_lazy ml_RX1_9 swX1_lazy rfl rfl (Nat.le_of_ble_eq_true rfl) ?_
      rintro _ ⟨x5, rfl⟩
      exact h_iret dX1_sight_61 rfl rfl ⟨_, rfl⟩
    · refine h_iload_n dX1_sight_52 rfl rfl ?_
      refine h_goto 61 dX1_sight_53 (by decide) ?_
      exact h_iret dX1_sight_61 rfl rfl ⟨_, rfl⟩
  · refine h_tin (off := 61) 62 dX1_sight_1 (by rw [h1]; decide) (by rw [h1]; decide) (by rw [h1]; rfl) (by decide) ?_
    refine h_iload_n dX1_sight_62 rfl rfl ?_
    refine h_iload_n dX1_sight_63 rfl rfl ?_
    refine h_callS [.int a2, .int a3] [] (v_X1_sharp a2 a3) dX1_sight_64 kk_X1_sight_X1_sharp ml_RX1_15 swX1_sharp rfl rfl (Nat.le_of_ble_eq_true rfl) ?_
    rintro _ ⟨x6, rfl⟩
    refine h_iload_n dX1_sight_67 rfl rfl ?_
    refine h_callS [.int x6, .int a3] [] (v_X1_child x6 a3) dX1_sight_68 kk_X1_sight_X1_child ml_RX1_18 swX1_child rfl rfl (Nat.le_of_ble_eq_true rfl) ?_
    rintro _ ⟨x7, rfl⟩
    exact h_iret dX1_sight_71 rfl rfl ⟨_, rfl⟩
  · refine h_tin (off := 71) 72 dX1_sight_1 (by rw [h1]; decide) (by rw [h1]; decide) (by rw [h1]; rfl) (by decide) ?_
    refine h_iload_n dX1_sight_72 rfl rfl ?_
    refine h_iload_n dX1_sight_73 rfl rfl ?_
    refine h_ic_ne 81 dX1_sight_74 (by decide) (fun h8 => ?_) (fun h8 => ?_)
    · refine h_iload_n dX1_sight_81 rfl rfl ?_
      exact h_iret dX1_sight_82 rfl rfl ⟨_, rfl⟩
    · refine h_iconst (v := (nI 0)) dX1_sight_77 rfl ?_
      refine h_goto 82 dX1_sight_78 (by decide) ?_
      exact h_iret dX1_sight_82 rfl rfl ⟨_, rfl⟩
set_option maxRecDepth 100000 in
theorem v_X2_twice (a1 : Int32) : zs_Dd' MX2_twice [.int a1] zs_Ri := by
  refine zs_Wof (by decide) (Nat.le_of_ble_eq_true rfl) ?_
  show zs_W MX2_twice 0 [(0, .int a1)] [] zs_Ri
  refine h_iconst (v := (nI 2)) dX2_twice_0 rfl ?_
  refine h_iload_n dX2_twice_1 rfl rfl ?_
  refine h_imul dX2_twice_2 (fun x1 => ?_)
  exact h_iret dX2_twice_3 rfl rfl ⟨_, rfl⟩
set_option maxRecDepth 100000 in
theorem v_X2_jerk (a1 : Int32) (a2 : Int32) : zs_Dd' MX2_jerk [.int a1, .int a2] zs_Ri := by
  refine zs_Wof (by decide) (Nat.le_of_ble_eq_true rfl) ?_
  show zs_W MX2_jerk 0 [(0, .int a1), (1, .int a2)] [] zs_Ri
  refine h_iload_n dX2_jerk_0 rfl rfl ?_
  refine h_iconst (v := (nI 2)) dX2_jerk_1 rfl ?_
  refine h_irem dX2_jerk_2 (by decide) (fun x1 => ?_)
  refine h_if_ne 10 dX2_jerk_3 (by decide) (fun h2 => ?_) (fun h2 => ?_)
  · refine h_iload_n dX2_jerk_10 rfl rfl ?_
    refine h_iconst (v := (nI 1)) dX2_jerk_11 rfl ?_
    refine h_iadd dX2_jerk_12 (fun x3 => ?_)
    exact h_iret dX2_jerk_13 rfl rfl ⟨_, rfl⟩
  · refine h_iload_n dX2_jerk_6 rfl rfl ?_
    refine h_goto 13 dX2_jerk_7 (by decide) ?_
    exact h_iret dX2_jerk_13 rfl rfl ⟨_, rfl⟩
set_option maxRecDepth 100000 in
theorem v_J9_max_7cf53 (a1 : Int32) (a2 : Int32) : zs_Dd' MJ9_max_7cf53 [.int a1, .int a2] zs_Ri := by
  refine zs_WoF (by decide +kernel) (Nat.le_of_ble_eq_true rfl) ?_
  show zs_W MJ9_max_7cf53 0 [(0, .int a1), (1, .int a2)] [] zs_Ri
  refine h_iload_n dJ9_max_7cf53_0 rfl rfl ?_
  refine h_iload_n dJ9_max_7cf53_1 rfl rfl ?_
  refine h_ic_lt 9 dJ9_max_7cf53_2 (by decide) (fun h1 => ?_) (fun h1 => ?_)
  · refine h_iload_n dJ9_max_7cf53_9 rfl rfl ?_
    exact h_iret dJ9_max_7cf53_10 rfl rfl ⟨_, rfl⟩
  · refine h_iload_n dJ9_max_7cf53_5 rfl rfl ?_
    refine h_goto 10 dJ9_max_7cf53_6 (by decide) ?_
    exact h_iret dJ9_max_7cf53_10 rfl rfl ⟨_, rfl⟩
set_option maxRecDepth 100000 in
theorem v_X2_passing (a1 : Int32) (a2 : Int32) (a3 : Int32) : zs_Dd' MX2_passing [.int a1, .int a2, .int a3] zs_Ri := by
  refine zs_Wof (by decide) (Nat.le_of_ble_eq_true rfl) ?_
  show zs_W MX2_passing 0 [(0, .int a1), (1, .int a2), (2, .int a3)] [] zs_Ri
  refine h_iload_n dX2_passing_0 rfl rfl ?_
  by_cases h1 : (a1 : Int32).toInt < 1 ∨ 5 < (a1 : Int32).toInt
  · refine h_tout 90 dX2_passing_1 h1 (by decide) ?_
    refine h_iload_n dX2_passing_90 rfl rfl ?_
    exact h_iret dX2_passing_91 rfl rfl ⟨_, rfl⟩
  rcases (show (a1 : Int32).toInt = 1 ∨ (a1 : Int32).toInt = 2 ∨ (a1 : Int32).toInt = 3 ∨ (a1 : Int32).toInt = 4 ∨ (a1 : Int32).toInt = 5 by omega) with h1 | h1 | h1 | h1 | h1
  · refine h_tin (off := 35) 36 dX2_passing_1 (by rw [h1]; decide) (by rw [h1]; decide) (by rw [h1]; rfl) (by decide) ?_
    refine h_iload_n dX2_passing_36 rfl rfl ?_
    refine h_callS [.int a2] [] (v_X2_twice a2) dX2_passing_37 kk_X2_passing_X2_twice ml_RX2_7 swX2_twice rfl rfl (Nat.le_of_ble_eq_true rfl) ?_
    rintro _ ⟨x2, rfl⟩
    exact h_iret dX2_passing_40 rfl rfl ⟨_, rfl⟩
  · refine h_tin (off := 40) 41 dX2_passing_1 (by rw [h1]; decide) (by rw [h1]; decide) (by rw [h1]; rfl) (by decide) ?_
    refine h_iload_n dX2_passing_41 rfl rfl ?_
    refine h_iload_n dX2_passing_42 rfl rfl ?_
    refine h_callS [.int a2, .int a3] [] (v_X2_jerk a2 a3) dX2_passing_43 kk_X2_passing_X2_jerk ml_RX2_13 swX2_jerk rfl rfl (Nat.le_of_ble_eq_true rfl) ?_
    rintro _ ⟨x3, rfl⟩
    exact h_iret dX2_passing_46 rfl rfl ⟨_, rfl⟩
  · refine h_tin (off := 46) 47 dX2_passing_1 (by rw [h1]; decide) (by rw [h1]; decide) (by rw [h1]; rfl) (by decide) ?_
    refine h_iload_n dX2_passing_47 rfl rfl ?_
    refine h_iconst (v := (nI 4)) dX2_passing_48 rfl ?_
    refine h_irem dX2_passing_49 (by decide) (fun x4 => ?_)
    refine h_if_ne 62 dX2_passing_50 (by decide) (fun h5 => ?_) (fun h5 => ?_)
    · refine h_iload_n dX2_passing_62 rfl rfl ?_
      refine h_callS [.int a2] [] (v_X2_twice a2) dX2_passing_63 kk_X2_passing_X2_twice ml_RX2_7 swX2_twice rfl rfl (Nat.le_of_ble_eq_true rfl) ?_
      rintro _ ⟨x6, rfl⟩
      exact h_iret dX2_passing_66 rfl rfl ⟨_, rfl⟩
    · refine h_iload_n dX2_passing_53 rfl rfl ?_
      refine h_callS [.int a2] [] (v_X2_twice a2) dX2_passing_54 kk_X2_passing_X2_twice ml_RX2_7 swX2_twice rfl rfl (Nat.le_of_ble_eq_true rfl) ?_
      rintro _ ⟨x7, rfl⟩
      refine h_iconst (v := (nI 1)) dX2_passing_57 rfl ?_
      refine h_iadd dX2_passing_58 (fun x8 => ?_)
      refine h_goto 66 dX2_passing_59 (by decide) ?_
      exact h_iret dX2_passing_66 rfl rfl ⟨_, rfl⟩
  · refine h_tin (off := 66) 67 dX2_passing_1 (by rw [h1]; decide) (by rw [h1]; decide) (by rw [h1]; rfl) (by decide) ?_
    refine h_iload_n dX2_passing_67 rfl rfl ?_
    refine h_iconst (v := (nI 5)) dX2_passing_68 rfl ?_
    refine h_irem dX2_passing_69 (by decide) (fun x9 => ?_)
    refine h_iconst (v := (nI 4)) dX2_passing_70 rfl ?_
    refine h_ic_ne 78 dX2_passing_71 (by decide) (fun h10 => ?_) (fun h10 => ?_)
    · refine h_iload_n dX2_passing_78 rfl rfl ?_
      refine h_iload_n dX2_passing_79 rfl rfl ?_
      refine h_callS [.int a2, .int a3] [] (v_X2_jerk a2 a3) dX2_passing_80 kk_X2_passing_X2_jerk ml_RX2_13 swX2_jerk rfl rfl (Nat.le_of_ble_eq_true rfl) ?_
      rintro _ ⟨x11, rfl⟩
      exact h_iret dX2_passing_83 rfl rfl ⟨_, rfl⟩
    · refine h_iconst (v := (nI 0)) dX2_passing_74 rfl ?_
      refine h_goto 83 dX2_passing_75 (by decide) ?_
      exact h_iret dX2_passing_83 rfl rfl ⟨_, rfl⟩
  · refine h_tin (off := 83) 84 dX2_passing_1 (by rw [h1]; decide) (by rw [h1]; decide) (by rw [h1]; rfl) (by decide) ?_
    refine h_iconst (v := (nI 1)) dX2_passing_84 rfl ?_
    refine h_iload_n dX2_passing_85 rfl rfl ?_
    refine h_callS [.int (nI 1), .int a2] [] (v_J9_max_7cf53 (nI 1) a2) dX2_passing_86 kk_X2_passing_J9_max_7cf53 ml_RX2_17 swJ9_max_7cf53 rfl rfl (Nat.le_of_ble_eq_true rfl) ?_
    rintro _ ⟨x12, rfl⟩
    exact h_iret dX2_passing_89 rfl rfl ⟨_, rfl⟩
set_option maxRecDepth 100000 in
theorem v_X11_wrap (a1 : Int32) (a2 : Int32) : zs_Dd' MX11_wrap [.int a1, .int a2] zs_Ri := by
  refine zs_Wof (by decide) (Nat.le_of_ble_eq_true rfl) ?_
  show zs_W MX11_wrap 0 [(0, .int a1), (1, .int a2)] [] zs_Ri
  refine h_iload_n dX11_wrap_0 rfl rfl ?_
  refine h_iconst (v := (nI 1)) dX11_wrap_1 rfl ?_
  refine h_ic_ge 9 dX11_wrap_2 (by decide) (fun h1 => ?_) (fun h1 => ?_)
  · refine h_iload_n dX11_wrap_9 rfl rfl ?_
    refine h_iload_n dX11_wrap_10 rfl rfl ?_
    refine h_callS [.int a1, .int a2] [] (v_floorMod a1 a2 (zs_1le h1)) dX11_wrap_11 kk_X11_wrap_J9_floorMod_7cf53 ml_RX11_334 swJ9_floorMod_7cf53 rfl rfl (Nat.le_of_ble_eq_true rfl) ?_
    rintro _ ⟨x2, rfl⟩
    exact h_iret dX11_wrap_14 rfl rfl ⟨_, rfl⟩
  · refine h_iconst (v := (nI 0)) dX11_wrap_5 rfl ?_
    refine h_goto 14 dX11_wrap_6 (by decide) ?_
    exact h_iret dX11_wrap_14 rfl rfl ⟨_, rfl⟩
set_option maxRecDepth 100000 in
theorem v_X6_drawingAtHand_45_47 : zs_Dd' MX6_drawingAtHand [.ref 45, .ref 47] zs_Ri := by
  refine zs_Wof (by decide) (Nat.le_of_ble_eq_true rfl) ?_
  show zs_W MX6_drawingAtHand 0 [(0, .ref 45), (1, .ref 47)] [] zs_Ri
  refine h_aload_n dX6_drawingAtHand_0 rfl rfl ?_
  refine h_getR 3 48 (C := RX3) (T := TX3) (N := 6) dX6_drawingAtHand_1 (by decide) rfl rfl (by decide) rfl fl_RX6_130 ?_
  refine h_aload_n dX6_drawingAtHand_4 rfl rfl ?_
  refine h_getI 0 (C := RX3) (T := TX3) (N := 6) dX6_drawingAtHand_5 (by decide) rfl rfl (by decide) rfl fl_RX6_96 (fun x1 => ?_)
  refine h_callN [.ref 48, .int x1] [] (v_cell 48 12 x1 (by decide) rfl (by decide)) dX6_drawingAtHand_8 kk_X6_drawingAtHand_X11_cell nl_RX6_116 swX11_cell rfl rfl (Nat.le_of_ble_eq_true rfl) ?_
  rintro _ ⟨x2, rfl⟩
  exact h_iret dX6_drawingAtHand_11 rfl rfl ⟨_, rfl⟩
set_option maxRecDepth 100000 in
theorem v_X6_flash_45_47 : zs_Dd' MX6_flash [.ref 45, .ref 47] zs_Rv := by
  refine zs_Wof (by decide) (Nat.le_of_ble_eq_true rfl) ?_
  show zs_W MX6_flash 0 [(0, .ref 45), (1, .ref 47)] [] zs_Rv
  have j49 : ∀ (n49 : Nat) (v2 : Int32) (c49 : Int32), zs_mu c49 < n49 → zs_W MX6_flash 49 [(0, .ref 45), (1, .ref 47), (2, .int v2), (3, .int c49)] [] zs_Rv := by
    intro n49
    induction n49 with
    | zero => intro v2 c49 hn49; exact absurd hn49 (Nat.not_lt_zero _)
    | succ n49 ih49 =>
      intro v2 c49 hn49
      have j114 : zs_mu (c49 + Int32.ofInt 1) < n49 → ∀ (v2 : Int32) (v4 : Int32) (v5 : Int32), zs_W MX6_flash 114 [(0, .ref 45), (1, .ref 47), (2, .int v2), (3, .int c49), (4, .int v4), (5, .int v5)] [] zs_Rv := by
        intro hd49 v2 v4 v5
        refine h_aload_n dX6_flash_114 rfl rfl ?_
        refine h_getR 4 49 (C := RX3) (T := TX3) (N := 6) dX6_flash_115 (by decide) rfl rfl (by decide) rfl fl_RX6_85 ?_
        refine h_iload_n dX6_flash_118 rfl rfl ?_
        refine h_iload dX6_flash_119 rfl ?_
        refine h_callN [.ref 49, .int c49, .int v5] [] (v_put 49 5 c49 v5 (by decide) rfl (by decide) ⟨by decide, by decide, by decide⟩) dX6_flash_121 kk_X6_flash_X11_put nl_RX6_81 swX11_put rfl rfl (Nat.le_of_ble_eq_true rfl) ?_
        rintro _ rfl
        refine h_iinc (v := (c49 + Int32.ofInt 1)) (lv' := [(3, .int (c49 + Int32.ofInt 1)), (0, .ref 45), (1, .ref 47), (2, .int v2), (4, .int v4), (5, .int v5)]) dX6_flash_124 rfl rfl (by decide) rfl ?_
        refine h_goto 49 dX6_flash_127 (by decide) ?_
        exact zs_Wlv (ih49 v2 (c49 + Int32.ofInt 1) hd49) (zs_mc 1 rfl (zs_mc 2 rfl (zs_mc 3 rfl (zs_mc 0 rfl zs_mn))))
      refine h_iload_n dX6_flash_49 rfl rfl ?_
      refine h_aload_n dX6_flash_50 rfl rfl ?_
      refine h_getI 2 (C := RX6) (T := TX6) (N := 9) dX6_flash_51 (by decide) rfl rfl (by decide) rfl fl_RX6_51 (fun x1 => ?_)
      refine h_ic_ge 130 dX6_flash_54 (by decide) (fun h2 => ?_) (fun h2 => ?_)
      · exact h_ret dX6_flash_130 rfl rfl
      · have hd49 := zs_muA h2 hn49
        refine h_aload_n dX6_flash_57 rfl rfl ?_
        refine h_getR 4 49 (C := RX3) (T := TX3) (N := 6) dX6_flash_58 (by decide) rfl rfl (by decide) rfl fl_RX6_85 ?_
        refine h_iload_n dX6_flash_61 rfl rfl ?_
        refine h_callN [.ref 49, .int c49] [] (v_cell 49 5 c49 (by decide) rfl (by decide)) dX6_flash_62 kk_X6_flash_X11_cell nl_RX6_116 swX11_cell rfl rfl (Nat.le_of_ble_eq_true rfl) ?_
        rintro _ ⟨x3, rfl⟩
        refine h_istore (lv' := [(4, .int x3), (0, .ref 45), (1, .ref 47), (2, .int v2), (3, .int c49)]) dX6_flash_65 (by decide) rfl ?_
        refine h_aload_n dX6_flash_67 rfl rfl ?_
        refine h_getR 3 46 (C := RX6) (T := TX6) (N := 9) dX6_flash_68 (by decide) rfl rfl (by decide) rfl fl_RX6_15 ?_
        refine h_iload_n dX6_flash_71 rfl rfl ?_
        refine h_callN [.ref 46, .int c49] [] (v_cell 46 5 c49 (by decide) rfl (by decide)) dX6_flash_72 kk_X6_flash_X11_cell nl_RX6_116 swX11_cell rfl rfl (Nat.le_of_ble_eq_true rfl) ?_
        rintro _ ⟨x4, rfl⟩
        refine h_iload_n dX6_flash_75 rfl rfl ?_
        refine h_iload dX6_flash_76 rfl ?_
        refine h_callS [.int x4, .int v2, .int x3] [] (v_X1_sight x4 v2 x3) dX6_flash_78 kk_X6_flash_X1_sight ml_RX6_120 swX1_sight rfl rfl (Nat.le_of_ble_eq_true rfl) ?_
        rintro _ ⟨x5, rfl⟩
        refine h_istore (lv' := [(5, .int x5), (4, .int x3), (0, .ref 45), (1, .ref 47), (2, .int v2), (3, .int c49)]) dX6_flash_81 (by decide) rfl ?_
        refine h_iload dX6_flash_83 rfl ?_
        refine h_iload dX6_flash_85 rfl ?_
        refine h_ic_eq 114 dX6_flash_87 (by decide) (fun h6 => ?_) (fun h6 => ?_)
        · exact zs_Wlv (j114 hd49 v2 x3 x5) (zs_mc 2 rfl (zs_mc 3 rfl (zs_mc 4 rfl (zs_mc 5 rfl (zs_mc 1 rfl (zs_mc 0 rfl zs_mn))))))
        · refine h_aload_n dX6_flash_90 rfl rfl ?_
          refine h_getR 5 50 (C := RX3) (T := TX3) (N := 6) dX6_flash_91 (by decide) rfl rfl (by decide) rfl fl_RX6_88 ?_
          refine h_iload_n dX6_flash_94 rfl rfl ?_
          refine h_sipush (v := (nI 9999)) dX6_flash_95 rfl ?_
          refine h_aload_n dX6_flash_98 rfl rfl ?_
          refine h_getR 5 50 (C := RX3) (T := TX3) (N := 6) dX6_flash_99 (by decide) rfl rfl (by decide) rfl fl_RX6_88 ?_
          refine h_iload_n dX6_flash_102 rfl rfl ?_
          refine h_callN [.ref 50, .int c49] [.int (nI 9999), .int c49, .ref 50] (v_cell 50 5 c49 (by decide) rfl (by decide)) dX6_flash_103 kk_X6_flash_X11_cell nl_RX6_116 swX11_cell rfl rfl (Nat.le_of_ble_eq_true rfl) ?_
          rintro _ ⟨x7, rfl⟩
          refine h_iconst (v := (nI 1)) dX6_flash_106 rfl ?_
          refine h_iadd dX6_flash_107 (fun x8 => ?_)
          refine h_callS [.int (nI 9999), .int x8] [.int c49, .ref 50] (v_J9_min_7cf53 (nI 9999) x8) dX6_flash_108 kk_X6_flash_J9_min_7cf53 ml_RX6_125 swJ9_min_7cf53 rfl rfl (Nat.le_of_ble_eq_true rfl) ?_
          rintro _ ⟨x9, rfl⟩
          refine h_callN [.ref 50, .int c49, .int x9] [] (v_put 50 5 c49 x9 (by decide) rfl (by decide) ⟨by decide, by decide, by decide⟩) dX6_flash_111 kk_X6_flash_X11_put nl_RX6_81 swX11_put rfl rfl (Nat.le_of_ble_eq_true rfl) ?_
          rintro _ rfl
          exact zs_Wlv (j114 hd49 v2 x3 x5) (zs_mc 2 rfl (zs_mc 3 rfl (zs_mc 4 rfl (zs_mc 5 rfl (zs_mc 1 rfl (zs_mc 0 rfl zs_mn))))))
  refine h_aload_n dX6_flash_0 rfl rfl ?_
  refine h_dup dX6_flash_1 rfl ?_
  refine h_getI 1 (C := RX3) (T := TX3) (N := 6) dX6_flash_2 (by decide) rfl rfl (by decide) rfl fl_RX6_91 (fun x10 => ?_)
  refine h_iconst (v := (nI 1)) dX6_flash_5 rfl ?_
  refine h_iadd dX6_flash_6 (fun x11 => ?_)
  refine h_putI 1 (C := RX3) (T := TX3) (N := 6) (ty := .int) dX6_flash_7 (by decide) rfl rfl (by decide) rfl fl_RX6_91 rfl (by decide +kernel) ⟨rfl, rfl⟩ rfl ?_
  refine h_aload_n dX6_flash_10 rfl rfl ?_
  refine h_aload_n dX6_flash_11 rfl rfl ?_
  refine h_getI 0 (C := RX3) (T := TX3) (N := 6) dX6_flash_12 (by decide) rfl rfl (by decide) rfl fl_RX6_96 (fun x12 => ?_)
  refine h_aload_n dX6_flash_15 rfl rfl ?_
  refine h_getI 1 (C := RX6) (T := TX6) (N := 9) dX6_flash_16 (by decide) rfl rfl (by decide) rfl fl_RX6_48 (fun x13 => ?_)
  refine h_aload_n dX6_flash_19 rfl rfl ?_
  refine h_getI 2 (C := RX3) (T := TX3) (N := 6) dX6_flash_20 (by decide) rfl rfl (by decide) rfl fl_RX6_99 (fun x14 => ?_)
  refine h_aload_n dX6_flash_23 rfl rfl ?_
  refine h_getI 1 (C := RX3) (T := TX3) (N := 6) dX6_flash_24 (by decide) rfl rfl (by decide) rfl fl_RX6_91 (fun x15 => ?_)
  refine h_callS [.int x13, .int x14, .int x15] [.int x12, .ref 47] (v_X2_passing x13 x14 x15) dX6_flash_27 kk_X6_flash_X2_passing ml_RX6_102 swX2_passing rfl rfl (Nat.le_of_ble_eq_true rfl) ?_
  rintro _ ⟨x16, rfl⟩
  refine h_iadd dX6_flash_30 (fun x17 => ?_)
  refine h_aload_n dX6_flash_31 rfl rfl ?_
  refine h_getI 0 (C := RX6) (T := TX6) (N := 9) dX6_flash_32 (by decide) rfl rfl (by decide) rfl fl_RX6_9 (fun x18 => ?_)
  refine h_callN [.int x17, .int x18] [.ref 47] (v_X11_wrap x17 x18) dX6_flash_35 kk_X6_flash_X11_wrap nl_RX6_108 swX11_wrap rfl rfl (Nat.le_of_ble_eq_true rfl) ?_
  rintro _ ⟨x19, rfl⟩
  refine h_putI 0 (C := RX3) (T := TX3) (N := 6) (ty := .int) dX6_flash_38 (by decide) rfl rfl (by decide) rfl fl_RX6_96 rfl (by decide +kernel) ⟨rfl, rfl⟩ rfl ?_
  refine h_aload_n dX6_flash_41 rfl rfl ?_
  refine h_aload_n dX6_flash_42 rfl rfl ?_
  refine h_callV (T := TX6) (NN := 9) [] (v_X6_drawingAtHand_45_47) dX6_flash_43 kk_X6_flash_X6_drawingAtHand ml_RX6_112 mwX6_drawingAtHand ewX6_drawingAtHand (by decide) rfl rfl rfl rfl (Nat.le_of_ble_eq_true rfl) ?_
  rintro _ ⟨x20, rfl⟩
  refine h_istore_n (lv' := [(2, .int x20), (0, .ref 45), (1, .ref 47)]) dX6_flash_46 rfl (by decide) rfl ?_
  refine h_iconst (v := (nI 0)) dX6_flash_47 rfl ?_
  refine h_istore_n (lv' := [(3, .int (nI 0)), (2, .int x20), (0, .ref 45), (1, .ref 47)]) dX6_flash_48 rfl (by decide) rfl ?_
  exact zs_Wlv (j49 _ x20 (nI 0) (Nat.lt_succ_self _)) (zs_mc 2 rfl (zs_mc 3 rfl (zs_mc 1 rfl (zs_mc 0 rfl zs_mn))))
set_option maxRecDepth 100000 in
theorem v_X6_turn_45 (a1 : Int32) : zs_Dd' MX6_turn [.ref 45, .int a1] zs_Rv := by
  refine zs_Wof (by decide) (Nat.le_of_ble_eq_true rfl) ?_
  show zs_W MX6_turn 0 [(0, .ref 45), (1, .int a1)] [] zs_Rv
  have j2 : ∀ (n2 : Nat) (v1 : Int32) (c2 : Int32), zs_mu c2 < n2 → zs_W MX6_turn 2 [(0, .ref 45), (1, .int v1), (2, .int c2)] [] zs_Rv := by
    intro n2
    induction n2 with
    | zero => intro v1 c2 hn2; exact absurd hn2 (Nat.not_lt_zero _)
    | succ n2 ih2 =>
      intro v1 c2 hn2
      refine h_iload_n dX6_turn_2 rfl rfl ?_
      refine h_iload_n dX6_turn_3 rfl rfl ?_
      refine h_ic_ge 34 dX6_turn_4 (by decide) (fun h1 => ?_) (fun h1 => ?_)
      · exact h_ret dX6_turn_34 rfl rfl
      · have hd2 := zs_muA h1 hn2
        refine h_aload_n dX6_turn_7 rfl rfl ?_
        refine h_getR 4 47 (C := RX6) (T := TX6) (N := 9) dX6_turn_8 (by decide) rfl rfl (by decide) rfl fl_RX6_22 ?_
        refine h_getI 1 (C := RX3) (T := TX3) (N := 6) dX6_turn_11 (by decide) rfl rfl (by decide) rfl fl_RX6_91 (fun x2 => ?_)
        refine h_sipush (v := (nI 9999)) dX6_turn_14 rfl ?_
        refine h_ic_ge 34 dX6_turn_17 (by decide) (fun h3 => ?_) (fun h3 => ?_)
        · exact h_ret dX6_turn_34 rfl rfl
        · refine h_aload_n dX6_turn_20 rfl rfl ?_
          refine h_aload_n dX6_turn_21 rfl rfl ?_
          refine h_getR 4 47 (C := RX6) (T := TX6) (N := 9) dX6_turn_22 (by decide) rfl rfl (by decide) rfl fl_RX6_22 ?_
          refine h_callV (T := TX6) (NN := 9) [] (v_X6_flash_45_47) dX6_turn_25 kk_X6_turn_X6_flash ml_RX6_94 mwX6_flash ewX6_flash (by decide) rfl rfl rfl rfl (Nat.le_of_ble_eq_true rfl) ?_
          rintro _ rfl
          refine h_iinc (v := (c2 + Int32.ofInt 1)) (lv' := [(2, .int (c2 + Int32.ofInt 1)), (0, .ref 45), (1, .int v1)]) dX6_turn_28 rfl rfl (by decide) rfl ?_
          refine h_goto 2 dX6_turn_31 (by decide) ?_
          exact zs_Wlv (ih2 v1 (c2 + Int32.ofInt 1) hd2) (zs_mc 1 rfl (zs_mc 2 rfl (zs_mc 0 rfl zs_mn)))
  refine h_iconst (v := (nI 0)) dX6_turn_0 rfl ?_
  refine h_istore_n (lv' := [(2, .int (nI 0)), (0, .ref 45), (1, .int a1)]) dX6_turn_1 rfl (by decide) rfl ?_
  exact zs_Wlv (j2 _ a1 (nI 0) (Nat.lt_succ_self _)) (zs_mc 1 rfl (zs_mc 2 rfl (zs_mc 0 rfl zs_mn)))
set_option maxRecDepth 100000 in
theorem v_X10_takeItem_43 : zs_Dd' MX10_takeItem [.ref 43] zs_Rb := by
  refine zs_Wof (by decide) (Nat.le_of_ble_eq_true rfl) ?_
  show zs_W MX10_takeItem 0 [(0, .ref 43)] [] zs_Rb
  refine h_aload_n dX10_takeItem_0 rfl rfl ?_
  refine h_callV (T := TX10) (NN := 8) [] (v_X10_token_43) dX10_takeItem_1 kk_X10_takeItem_X10_token ml_RX10_53 mwX10_token ewX10_token (by decide) rfl rfl rfl rfl (Nat.le_of_ble_eq_true rfl) ?_
  rintro _ ⟨x1, rfl⟩
  by_cases h2 : (x1 : Int32).toInt < 5 ∨ 8 < (x1 : Int32).toInt
  · refine h_tout 138 dX10_takeItem_4 h2 (by decide) ?_
    refine h_iconst (v := (nI 0)) dX10_takeItem_138 rfl ?_
    exact h_iret dX10_takeItem_139 rfl rfl ⟨_, rfl, rfl⟩
  rcases (show (x1 : Int32).toInt = 5 ∨ (x1 : Int32).toInt = 6 ∨ (x1 : Int32).toInt = 7 ∨ (x1 : Int32).toInt = 8 by omega) with h2 | h2 | h2 | h2
  · refine h_tin (off := 32) 36 dX10_takeItem_4 (by rw [h2]; decide) (by rw [h2]; decide) (by rw [h2]; rfl) (by decide) ?_
    refine h_aload_n dX10_takeItem_36 rfl rfl ?_
    refine h_callV (T := TX10) (NN := 8) [] (v_X10_takeDraw_43) dX10_takeItem_37 kk_X10_takeItem_X10_takeDraw ml_RX10_84 mwX10_takeDraw ewX10_takeDraw (by decide) rfl rfl rfl rfl (Nat.le_of_ble_eq_true rfl) ?_
    rintro _ ⟨x3, rfl, bx3⟩
    exact h_iret dX10_takeItem_40 rfl bx3 ⟨_, rfl, bx3⟩
  · refine h_tin (off := 37) 41 dX10_takeItem_4 (by rw [h2]; decide) (by rw [h2]; decide) (by rw [h2]; rfl) (by decide) ?_
    refine h_aload_n dX10_takeItem_41 rfl rfl ?_
    refine h_getR 2 45 (C := RX10) (T := TX10) (N := 8) dX10_takeItem_42 (by decide) rfl rfl (by decide) rfl fl_RX10_18 ?_
    refine h_getI 2 (C := RX6) (T := TX6) (N := 9) dX10_takeItem_45 (by decide) rfl rfl (by decide) rfl fl_RX10_87 (fun x4 => ?_)
    refine h_iconst (v := (nI 5)) dX10_takeItem_48 rfl ?_
    refine h_ic_ge 61 dX10_takeItem_49 (by decide) (fun h5 => ?_) (fun h5 => ?_)
    · refine h_iconst (v := (nI 0)) dX10_takeItem_61 rfl ?_
      exact h_iret dX10_takeItem_62 rfl rfl ⟨_, rfl, rfl⟩
    · refine h_aload_n dX10_takeItem_52 rfl rfl ?_
      refine h_iconst (v := (nI 0)) dX10_takeItem_53 rfl ?_
      refine h_iconst (v := (nI 5)) dX10_takeItem_54 rfl ?_
      refine h_callV (T := TX10) (NN := 8) [] (v_X10_takeNumber_43 (nI 0) (nI 5)) dX10_takeItem_55 kk_X10_takeItem_X10_takeNumber ml_RX10_70 mwX10_takeNumber ewX10_takeNumber (by decide) rfl rfl rfl rfl (Nat.le_of_ble_eq_true rfl) ?_
      rintro _ ⟨x6, rfl, bx6⟩
      refine h_if_ne 63 dX10_takeItem_58 (by decide) (fun h7 => ?_) (fun h7 => ?_)
      · refine h_aload_n dX10_takeItem_63 rfl rfl ?_
        refine h_getR 2 45 (C := RX10) (T := TX10) (N := 8) dX10_takeItem_64 (by decide) rfl rfl (by decide) rfl fl_RX10_18 ?_
        refine h_aload_n dX10_takeItem_67 rfl rfl ?_
        refine h_callV (T := TX10) (NN := 8) [.ref 45] (v_X10_value_43) dX10_takeItem_68 kk_X10_takeItem_X10_value ml_RX10_74 mwX10_value ewX10_value (by decide) rfl rfl rfl rfl (Nat.le_of_ble_eq_true rfl) ?_
        rintro _ ⟨x8, rfl⟩
        refine h_callV (T := TX6) (NN := 9) [] (v_X6_addEye_45 x8) dX10_takeItem_71 kk_X10_takeItem_X6_addEye ml_RX10_90 mwX6_addEye ewX6_addEye (by decide) rfl rfl rfl rfl (Nat.le_of_ble_eq_true rfl) ?_
        rintro _ rfl
        refine h_aload_n dX10_takeItem_74 rfl rfl ?_
        refine h_callV (T := TX10) (NN := 8) [] (v_X10_takeStop_43) dX10_takeItem_75 kk_X10_takeItem_X10_takeStop ml_RX10_81 mwX10_takeStop ewX10_takeStop (by decide) rfl rfl rfl rfl (Nat.le_of_ble_eq_true rfl) ?_
        rintro _ ⟨x9, rfl, bx9⟩
        exact h_iret dX10_takeItem_78 rfl bx9 ⟨_, rfl, bx9⟩
      · refine h_iconst (v := (nI 0)) dX10_takeItem_61 rfl ?_
        exact h_iret dX10_takeItem_62 rfl rfl ⟨_, rfl, rfl⟩
  · refine h_tin (off := 75) 79 dX10_takeItem_4 (by rw [h2]; decide) (by rw [h2]; decide) (by rw [h2]; rfl) (by decide) ?_
    refine h_aload_n dX10_takeItem_79 rfl rfl ?_
    refine h_iconst (v := (nI 0)) dX10_takeItem_80 rfl ?_
    refine h_bipush (v := (nI 11)) dX10_takeItem_81 rfl ?_
    refine h_callV (T := TX10) (NN := 8) [] (v_X10_takeNumber_43 (nI 0) (nI 11)) dX10_takeItem_83 kk_X10_takeItem_X10_takeNumber ml_RX10_70 mwX10_takeNumber ewX10_takeNumber (by decide) rfl rfl rfl rfl (Nat.le_of_ble_eq_true rfl) ?_
    rintro _ ⟨x10, rfl, bx10⟩
    refine h_if_ne 91 dX10_takeItem_86 (by decide) (fun h11 => ?_) (fun h11 => ?_)
    · refine h_aload_n dX10_takeItem_91 rfl rfl ?_
      refine h_getR 2 45 (C := RX10) (T := TX10) (N := 8) dX10_takeItem_92 (by decide) rfl rfl (by decide) rfl fl_RX10_18 ?_
      refine h_getR 4 47 (C := RX6) (T := TX6) (N := 9) dX10_takeItem_95 (by decide) rfl rfl (by decide) rfl fl_RX10_93 ?_
      refine h_aload_n dX10_takeItem_98 rfl rfl ?_
      refine h_callV (T := TX10) (NN := 8) [.ref 47] (v_X10_value_43) dX10_takeItem_99 kk_X10_takeItem_X10_value ml_RX10_74 mwX10_value ewX10_value (by decide) rfl rfl rfl rfl (Nat.le_of_ble_eq_true rfl) ?_
      rintro _ ⟨x12, rfl⟩
      refine h_putI 2 (C := RX3) (T := TX3) (N := 6) (ty := .int) dX10_takeItem_102 (by decide) rfl rfl (by decide) rfl fl_RX10_97 rfl (by decide +kernel) ⟨rfl, rfl⟩ rfl ?_
      refine h_aload_n dX10_takeItem_105 rfl rfl ?_
      refine h_callV (T := TX10) (NN := 8) [] (v_X10_takeStop_43) dX10_takeItem_106 kk_X10_takeItem_X10_takeStop ml_RX10_81 mwX10_takeStop ewX10_takeStop (by decide) rfl rfl rfl rfl (Nat.le_of_ble_eq_true rfl) ?_
      rintro _ ⟨x13, rfl, bx13⟩
      exact h_iret dX10_takeItem_109 rfl bx13 ⟨_, rfl, bx13⟩
    · refine h_iconst (v := (nI 0)) dX10_takeItem_89 rfl ?_
      exact h_iret dX10_takeItem_90 rfl rfl ⟨_, rfl, rfl⟩
  · refine h_tin (off := 106) 110 dX10_takeItem_4 (by rw [h2]; decide) (by rw [h2]; decide) (by rw [h2]; rfl) (by decide) ?_
    refine h_aload_n dX10_takeItem_110 rfl rfl ?_
    refine h_iconst (v := (nI 1)) dX10_takeItem_111 rfl ?_
    refine h_bipush (v := (nI 99)) dX10_takeItem_112 rfl ?_
    refine h_callV (T := TX10) (NN := 8) [] (v_X10_takeNumber_43 (nI 1) (nI 99)) dX10_takeItem_114 kk_X10_takeItem_X10_takeNumber ml_RX10_70 mwX10_takeNumber ewX10_takeNumber (by decide) rfl rfl rfl rfl (Nat.le_of_ble_eq_true rfl) ?_
    rintro _ ⟨x14, rfl, bx14⟩
    refine h_if_ne 122 dX10_takeItem_117 (by decide) (fun h15 => ?_) (fun h15 => ?_)
    · refine h_aload_n dX10_takeItem_122 rfl rfl ?_
      refine h_getR 2 45 (C := RX10) (T := TX10) (N := 8) dX10_takeItem_123 (by decide) rfl rfl (by decide) rfl fl_RX10_18 ?_
      refine h_aload_n dX10_takeItem_126 rfl rfl ?_
      refine h_callV (T := TX10) (NN := 8) [.ref 45] (v_X10_value_43) dX10_takeItem_127 kk_X10_takeItem_X10_value ml_RX10_74 mwX10_value ewX10_value (by decide) rfl rfl rfl rfl (Nat.le_of_ble_eq_true rfl) ?_
      rintro _ ⟨x16, rfl⟩
      refine h_callV (T := TX6) (NN := 9) [] (v_X6_turn_45 x16) dX10_takeItem_130 kk_X10_takeItem_X6_turn ml_RX10_102 mwX6_turn ewX6_turn (by decide) rfl rfl rfl rfl (Nat.le_of_ble_eq_true rfl) ?_
      rintro _ rfl
      refine h_aload_n dX10_takeItem_133 rfl rfl ?_
      refine h_callV (T := TX10) (NN := 8) [] (v_X10_takeStop_43) dX10_takeItem_134 kk_X10_takeItem_X10_takeStop ml_RX10_81 mwX10_takeStop ewX10_takeStop (by decide) rfl rfl rfl rfl (Nat.le_of_ble_eq_true rfl) ?_
      rintro _ ⟨x17, rfl, bx17⟩
      exact h_iret dX10_takeItem_137 rfl bx17 ⟨_, rfl, bx17⟩
    · refine h_iconst (v := (nI 0)) dX10_takeItem_120 rfl ?_
      exact h_iret dX10_takeItem_121 rfl rfl ⟨_, rfl, rfl⟩
set_option maxRecDepth 100000 in
theorem v_X10_fault_43 : zs_Dd' MX10_fault [.ref 43] zs_Ri := by
  refine zs_Wof (by decide) (Nat.le_of_ble_eq_true rfl) ?_
  show zs_W MX10_fault 0 [(0, .ref 43)] [] zs_Ri
  refine h_bipush (v := (-10)) dX10_fault_0 rfl ?_
  refine h_aload_n dX10_fault_2 rfl rfl ?_
  refine h_getR 3 59 (C := RX10) (T := TX10) (N := 8) dX10_fault_3 (by decide) rfl rfl (by decide) rfl fl_RX10_22 ?_
  refine h_aload_n dX10_fault_6 rfl rfl ?_
  refine h_getI 7 (C := RX10) (T := TX10) (N := 8) dX10_fault_7 (by decide) rfl rfl (by decide) rfl fl_RX10_50 (fun x1 => ?_)
  refine h_callN [.ref 59, .int x1] [.int (-10)] (v_cell 59 151 x1 (by decide) rfl (by decide)) dX10_fault_10 kk_X10_fault_X11_cell nl_RX10_66 swX11_cell rfl rfl (Nat.le_of_ble_eq_true rfl) ?_
  rintro _ ⟨x2, rfl⟩
  refine h_isub dX10_fault_13 (fun x3 => ?_)
  exact h_iret dX10_fault_14 rfl rfl ⟨_, rfl⟩
set_option maxRecDepth 100000 in
theorem v_X10_sortOf (a1 : Int32) : zs_Dd' MX10_sortOf [.int a1] zs_Ri := by
  refine zs_Wof (by decide) (Nat.le_of_ble_eq_true rfl) ?_
  show zs_W MX10_sortOf 0 [(0, .int a1)] [] zs_Ri
  have j22 : ∀ (v0 : Int32), zs_W MX10_sortOf 22 [(0, .int v0)] [] zs_Ri := by
    intro v0
    refine h_iload_n dX10_sortOf_22 rfl rfl ?_
    refine h_bipush (v := (nI 48)) dX10_sortOf_23 rfl ?_
    refine h_ic_lt 38 dX10_sortOf_25 (by decide) (fun h1 => ?_) (fun h1 => ?_)
    · refine h_iconst (v := (nI 3)) dX10_sortOf_38 rfl ?_
      exact h_iret dX10_sortOf_39 rfl rfl ⟨_, rfl⟩
    · refine h_iload_n dX10_sortOf_28 rfl rfl ?_
      refine h_bipush (v := (nI 57)) dX10_sortOf_29 rfl ?_
      refine h_ic_gt 38 dX10_sortOf_31 (by decide) (fun h2 => ?_) (fun h2 => ?_)
      · refine h_iconst (v := (nI 3)) dX10_sortOf_38 rfl ?_
        exact h_iret dX10_sortOf_39 rfl rfl ⟨_, rfl⟩
      · refine h_iconst (v := (nI 2)) dX10_sortOf_34 rfl ?_
        refine h_goto 39 dX10_sortOf_35 (by decide) ?_
        exact h_iret dX10_sortOf_39 rfl rfl ⟨_, rfl⟩
  refine h_iload_n dX10_sortOf_0 rfl rfl ?_
  refine h_bipush (v := (nI 32)) dX10_sortOf_1 rfl ?_
  refine h_ic_ne 8 dX10_sortOf_3 (by decide) (fun h3 => ?_) (fun h3 => ?_)
  · refine h_iload_n dX10_sortOf_8 rfl rfl ?_
    refine h_bipush (v := (nI 97)) dX10_sortOf_9 rfl ?_
    refine h_ic_lt 22 dX10_sortOf_11 (by decide) (fun h4 => ?_) (fun h4 => ?_)
    · exact j22 a1
    · refine h_iload_n dX10_sortOf_14 rfl rfl ?_
      refine h_bipush (v := (nI 122)) dX10_sortOf_15 rfl ?_
      refine h_ic_gt 22 dX10_sortOf_17 (by decide) (fun h5 => ?_) (fun h5 => ?_)
      · exact j22 a1
      · refine h_iconst (v := (nI 1)) dX10_sortOf_20 rfl ?_
        exact h_iret dX10_sortOf_21 rfl rfl ⟨_, rfl⟩
  · refine h_iconst (v := (nI 0)) dX10_sortOf_6 rfl ?_
    exact h_iret dX10_sortOf_7 rfl rfl ⟨_, rfl⟩
set_option maxRecDepth 100000 in
theorem v_X10_splitTokens_43 : zs_Dd' MX10_splitTokens [.ref 43] zs_Ri := by
  refine zs_Wof (by decide) (Nat.le_of_ble_eq_true rfl) ?_
  show zs_W MX10_splitTokens 0 [(0, .ref 43)] [] zs_Ri
  have j6 : ∀ (n6 : Nat) (v1 : Int32) (v2 : Int32) (c6 : Int32), zs_mu c6 < n6 → zs_W MX10_splitTokens 6 [(0, .ref 43), (1, .int v1), (2, .int v2), (3, .int c6)] [] zs_Ri := by
    intro n6
    induction n6 with
    | zero => intro v1 v2 c6 hn6; exact absurd hn6 (Nat.not_lt_zero _)
    | succ n6 ih6 =>
      intro v1 v2 c6 hn6
      have j92 : zs_mu (c6 + Int32.ofInt 1) < n6 → ∀ (v1 : Int32) (v2 : Int32) (v4 : Int32) (v5 : Int32), zs_W MX10_splitTokens 92 [(0, .ref 43), (1, .int v1), (2, .int v2), (3, .int c6), (4, .int v4), (5, .int v5)] [] zs_Ri := by
        intro hd6 v1 v2 v4 v5
        refine h_iload dX10_splitTokens_92 rfl ?_
        refine h_istore_n (lv' := [(2, .int v4), (0, .ref 43), (1, .int v1), (3, .int c6), (4, .int v4), (5, .int v5)]) dX10_splitTokens_94 rfl (by decide) rfl ?_
        refine h_iinc (v := (c6 + Int32.ofInt 1)) (lv' := [(3, .int (c6 + Int32.ofInt 1)), (2, .int v4), (0, .ref 43), (1, .int v1), (4, .int v4), (5, .int v5)]) dX10_splitTokens_95 rfl rfl (by decide) rfl ?_
        refine h_goto 6 dX10_splitTokens_98 (by decide) ?_
        exact zs_Wlv (ih6 v1 v4 (c6 + Int32.ofInt 1) hd6) (zs_mc 2 rfl (zs_mc 3 rfl (zs_mc 1 rfl (zs_mc 0 rfl zs_mn))))
      have j74 : zs_mu (c6 + Int32.ofInt 1) < n6 → ∀ (v1 : Int32) (v2 : Int32) (v4 : Int32) (v5 : Int32), zs_W MX10_splitTokens 74 [(0, .ref 43), (1, .int v1), (2, .int v2), (3, .int c6), (4, .int v4), (5, .int v5)] [] zs_Ri := by
        intro hd6 v1 v2 v4 v5
        refine h_iload dX10_splitTokens_74 rfl ?_
        refine h_if_eq 92 dX10_splitTokens_76 (by decide) (fun h1 => ?_) (fun h1 => ?_)
        · exact j92 hd6 v1 v2 v4 v5
        · refine h_aload_n dX10_splitTokens_79 rfl rfl ?_
          refine h_getR 4 60 (C := RX10) (T := TX10) (N := 8) dX10_splitTokens_80 (by decide) rfl rfl (by decide) rfl fl_RX10_25 ?_
          refine h_iload_n dX10_splitTokens_83 rfl rfl ?_
          refine h_iconst (v := (nI 1)) dX10_splitTokens_84 rfl ?_
          refine h_isub dX10_splitTokens_85 (fun x2 => ?_)
          refine h_iload_n dX10_splitTokens_86 rfl rfl ?_
          refine h_iconst (v := (nI 1)) dX10_splitTokens_87 rfl ?_
          refine h_iadd dX10_splitTokens_88 (fun x3 => ?_)
          refine h_callN [.ref 60, .int x2, .int x3] [] (v_put 60 151 x2 x3 (by decide) rfl (by decide) ⟨by decide, by decide, by decide⟩) dX10_splitTokens_89 kk_X10_splitTokens_X11_put nl_RX10_38 swX11_put rfl rfl (Nat.le_of_ble_eq_true rfl) ?_
          rintro _ rfl
          exact j92 hd6 v1 v2 v4 v5
      have j50 : zs_mu (c6 + Int32.ofInt 1) < n6 → ∀ (v1 : Int32) (v2 : Int32) (v4 : Int32) (s0 : Int32), zs_W MX10_splitTokens 50 [(0, .ref 43), (1, .int v1), (2, .int v2), (3, .int c6), (4, .int v4)] [.int s0] zs_Ri := by
        intro hd6 v1 v2 v4 s0
        refine h_istore (lv' := [(5, .int s0), (0, .ref 43), (1, .int v1), (2, .int v2), (3, .int c6), (4, .int v4)]) dX10_splitTokens_50 (by decide) rfl ?_
        refine h_iload dX10_splitTokens_52 rfl ?_
        refine h_if_eq 74 dX10_splitTokens_54 (by decide) (fun h4 => ?_) (fun h4 => ?_)
        · exact zs_Wlv (j74 hd6 v1 v2 v4 s0) (zs_mc 1 rfl (zs_mc 2 rfl (zs_mc 3 rfl (zs_mc 4 rfl (zs_mc 5 rfl (zs_mc 0 rfl zs_mn))))))
        · refine h_iload dX10_splitTokens_57 rfl ?_
          refine h_if_ne 74 dX10_splitTokens_59 (by decide) (fun h5 => ?_) (fun h5 => ?_)
          · exact zs_Wlv (j74 hd6 v1 v2 v4 s0) (zs_mc 1 rfl (zs_mc 2 rfl (zs_mc 3 rfl (zs_mc 4 rfl (zs_mc 5 rfl (zs_mc 0 rfl zs_mn))))))
          · refine h_aload_n dX10_splitTokens_62 rfl rfl ?_
            refine h_getR 3 59 (C := RX10) (T := TX10) (N := 8) dX10_splitTokens_63 (by decide) rfl rfl (by decide) rfl fl_RX10_22 ?_
            refine h_iload_n dX10_splitTokens_66 rfl rfl ?_
            refine h_iload_n dX10_splitTokens_67 rfl rfl ?_
            refine h_callN [.ref 59, .int v1, .int c6] [] (v_put 59 151 v1 c6 (by decide) rfl (by decide) ⟨by decide, by decide, by decide⟩) dX10_splitTokens_68 kk_X10_splitTokens_X11_put nl_RX10_38 swX11_put rfl rfl (Nat.le_of_ble_eq_true rfl) ?_
            rintro _ rfl
            refine h_iinc (v := (v1 + Int32.ofInt 1)) (lv' := [(1, .int (v1 + Int32.ofInt 1)), (5, .int s0), (0, .ref 43), (2, .int v2), (3, .int c6), (4, .int v4)]) dX10_splitTokens_71 rfl rfl (by decide) rfl ?_
            exact zs_Wlv (j74 hd6 (v1 + Int32.ofInt 1) v2 v4 s0) (zs_mc 2 rfl (zs_mc 0 rfl (zs_mc 3 rfl (zs_mc 4 rfl (zs_mc 5 rfl (zs_mc 1 rfl zs_mn))))))
      have j49 : zs_mu (c6 + Int32.ofInt 1) < n6 → ∀ (v1 : Int32) (v2 : Int32) (v4 : Int32), zs_W MX10_splitTokens 49 [(0, .ref 43), (1, .int v1), (2, .int v2), (3, .int c6), (4, .int v4)] [] zs_Ri := by
        intro hd6 v1 v2 v4
        refine h_iconst (v := (nI 0)) dX10_splitTokens_49 rfl ?_
        exact j50 hd6 v1 v2 v4 (nI 0)
      have j45 : zs_mu (c6 + Int32.ofInt 1) < n6 → ∀ (v1 : Int32) (v2 : Int32) (v4 : Int32), zs_W MX10_splitTokens 45 [(0, .ref 43), (1, .int v1), (2, .int v2), (3, .int c6), (4, .int v4)] [] zs_Ri := by
        intro hd6 v1 v2 v4
        refine h_iconst (v := (nI 1)) dX10_splitTokens_45 rfl ?_
        refine h_goto 50 dX10_splitTokens_46 (by decide) ?_
        exact j50 hd6 v1 v2 v4 (nI 1)
      refine h_iload_n dX10_splitTokens_6 rfl rfl ?_
      refine h_aload_n dX10_splitTokens_7 rfl rfl ?_
      refine h_getI 1 (C := RX10) (T := TX10) (N := 8) dX10_splitTokens_8 (by decide) rfl rfl (by decide) rfl fl_RX10_34 (fun x6 => ?_)
      refine h_ic_ge 101 dX10_splitTokens_11 (by decide) (fun h7 => ?_) (fun h7 => ?_)
      · refine h_iload_n dX10_splitTokens_101 rfl rfl ?_
        exact h_iret dX10_splitTokens_102 rfl rfl ⟨_, rfl⟩
      · have hd6 := zs_muA h7 hn6
        refine h_aload_n dX10_splitTokens_14 rfl rfl ?_
        refine h_getR 0 44 (C := RX10) (T := TX10) (N := 8) dX10_splitTokens_15 (by decide) rfl rfl (by decide) rfl fl_RX10_9 ?_
        refine h_iload_n dX10_splitTokens_18 rfl rfl ?_
        refine h_callN [.ref 44, .int c6] [] (v_cell 44 150 c6 (by decide) rfl (by decide)) dX10_splitTokens_19 kk_X10_splitTokens_X11_cell nl_RX10_66 swX11_cell rfl rfl (Nat.le_of_ble_eq_true rfl) ?_
        rintro _ ⟨x8, rfl⟩
        refine h_callS [.int x8] [] (v_X10_sortOf x8) dX10_splitTokens_22 kk_X10_splitTokens_X10_sortOf ml_RX10_115 swX10_sortOf rfl rfl (Nat.le_of_ble_eq_true rfl) ?_
        rintro _ ⟨x9, rfl⟩
        refine h_istore (lv' := [(4, .int x9), (0, .ref 43), (1, .int v1), (2, .int v2), (3, .int c6)]) dX10_splitTokens_25 (by decide) rfl ?_
        refine h_iload dX10_splitTokens_27 rfl ?_
        refine h_iload_n dX10_splitTokens_29 rfl rfl ?_
        refine h_ic_ne 49 dX10_splitTokens_30 (by decide) (fun h10 => ?_) (fun h10 => ?_)
        · exact zs_Wlv (j49 hd6 v1 v2 x9) (zs_mc 1 rfl (zs_mc 2 rfl (zs_mc 3 rfl (zs_mc 4 rfl (zs_mc 0 rfl zs_mn)))))
        · refine h_iload dX10_splitTokens_33 rfl ?_
          refine h_iconst (v := (nI 1)) dX10_splitTokens_35 rfl ?_
          refine h_ic_eq 45 dX10_splitTokens_36 (by decide) (fun h11 => ?_) (fun h11 => ?_)
          · exact zs_Wlv (j45 hd6 v1 v2 x9) (zs_mc 1 rfl (zs_mc 2 rfl (zs_mc 3 rfl (zs_mc 4 rfl (zs_mc 0 rfl zs_mn)))))
          · refine h_iload dX10_splitTokens_39 rfl ?_
            refine h_iconst (v := (nI 2)) dX10_splitTokens_41 rfl ?_
            refine h_ic_ne 49 dX10_splitTokens_42 (by decide) (fun h12 => ?_) (fun h12 => ?_)
            · exact zs_Wlv (j49 hd6 v1 v2 x9) (zs_mc 1 rfl (zs_mc 2 rfl (zs_mc 3 rfl (zs_mc 4 rfl (zs_mc 0 rfl zs_mn)))))
            · exact zs_Wlv (j45 hd6 v1 v2 x9) (zs_mc 1 rfl (zs_mc 2 rfl (zs_mc 3 rfl (zs_mc 4 rfl (zs_mc 0 rfl zs_mn)))))
  refine h_iconst (v := (nI 0)) dX10_splitTokens_0 rfl ?_
  refine h_istore_n (lv' := [(1, .int (nI 0)), (0, .ref 43)]) dX10_splitTokens_1 rfl (by decide) rfl ?_
  refine h_iconst (v := (nI 0)) dX10_splitTokens_2 rfl ?_
  refine h_istore_n (lv' := [(2, .int (nI 0)), (1, .int (nI 0)), (0, .ref 43)]) dX10_splitTokens_3 rfl (by decide) rfl ?_
  refine h_iconst (v := (nI 0)) dX10_splitTokens_4 rfl ?_
  refine h_istore_n (lv' := [(3, .int (nI 0)), (2, .int (nI 0)), (1, .int (nI 0)), (0, .ref 43)]) dX10_splitTokens_5 rfl (by decide) rfl ?_
  exact zs_Wlv (j6 _ (nI 0) (nI 0) (nI 0) (Nat.lt_succ_self _)) (zs_mc 3 rfl (zs_mc 2 rfl (zs_mc 1 rfl (zs_mc 0 rfl zs_mn))))
set_option maxRecDepth 100000 in
theorem v_X10_wordFrom_43 (a1 : Int32) (a2 : Int32) : zs_Dd' MX10_wordFrom [.ref 43, .int a1, .int a2] zs_Ri := by
  refine zs_Wof (by decide) (Nat.le_of_ble_eq_true rfl) ?_
  show zs_W MX10_wordFrom 0 [(0, .ref 43), (1, .int a1), (2, .int a2)] [] zs_Ri
  refine h_aload_n dX10_wordFrom_0 rfl rfl ?_
  refine h_ldcS (i := 0) (by decide) rfl dX10_wordFrom_1 ?_
  refine h_iload_n dX10_wordFrom_3 rfl rfl ?_
  refine h_iload_n dX10_wordFrom_4 rfl rfl ?_
  refine h_callV (T := TX10) (NN := 8) [] (v_isWord 0 (by decide) a1 a2) dX10_wordFrom_5 kk_X10_wordFrom_X10_isWord ml_RX10_131 mwX10_isWord ewX10_isWord (by decide) rfl rfl rfl rfl (Nat.le_of_ble_eq_true rfl) ?_
  rintro _ ⟨x1, rfl, bx1⟩
  refine h_if_eq 13 dX10_wordFrom_8 (by decide) (fun h2 => ?_) (fun h2 => ?_)
  · refine h_aload_n dX10_wordFrom_13 rfl rfl ?_
    refine h_ldcS (i := 1) (by decide) rfl dX10_wordFrom_14 ?_
    refine h_iload_n dX10_wordFrom_16 rfl rfl ?_
    refine h_iload_n dX10_wordFrom_17 rfl rfl ?_
    refine h_callV (T := TX10) (NN := 8) [] (v_isWord 1 (by decide) a1 a2) dX10_wordFrom_18 kk_X10_wordFrom_X10_isWord ml_RX10_131 mwX10_isWord ewX10_isWord (by decide) rfl rfl rfl rfl (Nat.le_of_ble_eq_true rfl) ?_
    rintro _ ⟨x3, rfl, bx3⟩
    refine h_if_eq 26 dX10_wordFrom_21 (by decide) (fun h4 => ?_) (fun h4 => ?_)
    · refine h_aload_n dX10_wordFrom_26 rfl rfl ?_
      refine h_ldcS (i := 2) (by decide) rfl dX10_wordFrom_27 ?_
      refine h_iload_n dX10_wordFrom_29 rfl rfl ?_
      refine h_iload_n dX10_wordFrom_30 rfl rfl ?_
      refine h_callV (T := TX10) (NN := 8) [] (v_isWord 2 (by decide) a1 a2) dX10_wordFrom_31 kk_X10_wordFrom_X10_isWord ml_RX10_131 mwX10_isWord ewX10_isWord (by decide) rfl rfl rfl rfl (Nat.le_of_ble_eq_true rfl) ?_
      rintro _ ⟨x5, rfl, bx5⟩
      refine h_if_eq 40 dX10_wordFrom_34 (by decide) (fun h6 => ?_) (fun h6 => ?_)
      · refine h_aload_n dX10_wordFrom_40 rfl rfl ?_
        refine h_ldcS (i := 3) (by decide) rfl dX10_wordFrom_41 ?_
        refine h_iload_n dX10_wordFrom_43 rfl rfl ?_
        refine h_iload_n dX10_wordFrom_44 rfl rfl ?_
        refine h_callV (T := TX10) (NN := 8) [] (v_isWord 3 (by decide) a1 a2) dX10_wordFrom_45 kk_X10_wordFrom_X10_isWord ml_RX10_131 mwX10_isWord ewX10_isWord (by decide) rfl rfl rfl rfl (Nat.le_of_ble_eq_true rfl) ?_
        rintro _ ⟨x7, rfl, bx7⟩
        refine h_if_eq 54 dX10_wordFrom_48 (by decide) (fun h8 => ?_) (fun h8 => ?_)
        · refine h_aload_n dX10_wordFrom_54 rfl rfl ?_
          refine h_ldcS (i := 4) (by decide) rfl dX10_wordFrom_55 ?_
          refine h_iload_n dX10_wordFrom_57 rfl rfl ?_
          refine h_iload_n dX10_wordFrom_58 rfl rfl ?_
          refine h_callV (T := TX10) (NN := 8) [] (v_isWord 4 (by decide) a1 a2) dX10_wordFrom_59 kk_X10_wordFrom_X10_isWord ml_RX10_131 mwX10_isWord ewX10_isWord (by decide) rfl rfl rfl rfl (Nat.le_of_ble_eq_true rfl) ?_
          rintro _ ⟨x9, rfl, bx9⟩
          refine h_if_eq 70 dX10_wordFrom_62 (by decide) (fun h10 => ?_) (fun h10 => ?_)
          · refine h_iconst (v := (nI 3)) dX10_wordFrom_70 rfl ?_
            exact h_iret dX10_wordFrom_71 rfl rfl ⟨_, rfl⟩
          · refine h_bipush (v := (nI 8)) dX10_wordFrom_65 rfl ?_
            refine h_goto 71 dX10_wordFrom_67 (by decide) ?_
            exact h_iret dX10_wordFrom_71 rfl rfl ⟨_, rfl⟩
        · refine h_bipush (v := (nI 7)) dX10_wordFrom_51 rfl ?_
          exact h_iret dX10_wordFrom_53 rfl rfl ⟨_, rfl⟩
      · refine h_bipush (v := (nI 6)) dX10_wordFrom_37 rfl ?_
        exact h_iret dX10_wordFrom_39 rfl rfl ⟨_, rfl⟩
    · refine h_iconst (v := (nI 5)) dX10_wordFrom_24 rfl ?_
      exact h_iret dX10_wordFrom_25 rfl rfl ⟨_, rfl⟩
  · refine h_iconst (v := (nI 4)) dX10_wordFrom_11 rfl ?_
    exact h_iret dX10_wordFrom_12 rfl rfl ⟨_, rfl⟩
set_option maxRecDepth 100000 in
theorem v_X10_tokenFrom_43 (a1 : Int32) (a2 : Int32) : zs_Dd' MX10_tokenFrom [.ref 43, .int a1, .int a2] zs_Ri := by
  refine zs_Wof (by decide) (Nat.le_of_ble_eq_true rfl) ?_
  show zs_W MX10_tokenFrom 0 [(0, .ref 43), (1, .int a1), (2, .int a2)] [] zs_Ri
  refine h_aload_n dX10_tokenFrom_0 rfl rfl ?_
  refine h_getR 0 44 (C := RX10) (T := TX10) (N := 8) dX10_tokenFrom_1 (by decide) rfl rfl (by decide) rfl fl_RX10_9 ?_
  refine h_iload_n dX10_tokenFrom_4 rfl rfl ?_
  refine h_callN [.ref 44, .int a1] [] (v_cell 44 150 a1 (by decide) rfl (by decide)) dX10_tokenFrom_5 kk_X10_tokenFrom_X11_cell nl_RX10_66 swX11_cell rfl rfl (Nat.le_of_ble_eq_true rfl) ?_
  rintro _ ⟨x1, rfl⟩
  refine h_istore_n (lv' := [(3, .int x1), (0, .ref 43), (1, .int a1), (2, .int a2)]) dX10_tokenFrom_8 rfl (by decide) rfl ?_
  refine h_iload_n dX10_tokenFrom_9 rfl rfl ?_
  refine h_callS [.int x1] [] (v_X10_sortOf x1) dX10_tokenFrom_10 kk_X10_tokenFrom_X10_sortOf ml_RX10_115 swX10_sortOf rfl rfl (Nat.le_of_ble_eq_true rfl) ?_
  rintro _ ⟨x2, rfl⟩
  by_cases h3 : (x2 : Int32).toInt = 1
  · refine h_lsw (off := 27) 40 dX10_tokenFrom_13 (by decide) (by rw [h3]; rfl) (by decide) ?_
    refine h_aload_n dX10_tokenFrom_40 rfl rfl ?_
    refine h_iload_n dX10_tokenFrom_41 rfl rfl ?_
    refine h_iload_n dX10_tokenFrom_42 rfl rfl ?_
    refine h_callV (T := TX10) (NN := 8) [] (v_X10_wordFrom_43 a1 a2) dX10_tokenFrom_43 kk_X10_tokenFrom_X10_wordFrom ml_RX10_126 mwX10_wordFrom ewX10_wordFrom (by decide) rfl rfl rfl rfl (Nat.le_of_ble_eq_true rfl) ?_
    rintro _ ⟨x4, rfl⟩
    exact h_iret dX10_tokenFrom_46 rfl rfl ⟨_, rfl⟩
  by_cases h5 : (x2 : Int32).toInt = 2
  · refine h_lsw (off := 34) 47 dX10_tokenFrom_13 (by decide) (by rw [h5]; rfl) (by decide) ?_
    refine h_iload_n dX10_tokenFrom_47 rfl rfl ?_
    refine h_iload_n dX10_tokenFrom_48 rfl rfl ?_
    refine h_isub dX10_tokenFrom_49 (fun x6 => ?_)
    refine h_iconst (v := (nI 2)) dX10_tokenFrom_50 rfl ?_
    refine h_ic_le 58 dX10_tokenFrom_51 (by decide) (fun h7 => ?_) (fun h7 => ?_)
    · refine h_iconst (v := (nI 1)) dX10_tokenFrom_58 rfl ?_
      exact h_iret dX10_tokenFrom_59 rfl rfl ⟨_, rfl⟩
    · refine h_iconst (v := (nI 3)) dX10_tokenFrom_54 rfl ?_
      refine h_goto 59 dX10_tokenFrom_55 (by decide) ?_
      exact h_iret dX10_tokenFrom_59 rfl rfl ⟨_, rfl⟩
  refine h_lsw (off := 47) 60 dX10_tokenFrom_13 (by decide) (by simp [Op.lookupswitch.offset, Ne.symm h3, Ne.symm h5]) (by decide) ?_
  refine h_iload_n dX10_tokenFrom_60 rfl rfl ?_
  refine h_bipush (v := (nI 59)) dX10_tokenFrom_61 rfl ?_
  refine h_ic_ne 70 dX10_tokenFrom_63 (by decide) (fun h8 => ?_) (fun h8 => ?_)
  · refine h_iconst (v := (nI 3)) dX10_tokenFrom_70 rfl ?_
    exact h_iret dX10_tokenFrom_71 rfl rfl ⟨_, rfl⟩
  · refine h_iconst (v := (nI 2)) dX10_tokenFrom_66 rfl ?_
    refine h_goto 71 dX10_tokenFrom_67 (by decide) ?_
    exact h_iret dX10_tokenFrom_71 rfl rfl ⟨_, rfl⟩
set_option maxRecDepth 100000 in
theorem v_X10_numberFrom_43 (a1 : Int32) (a2 : Int32) : zs_Dd' MX10_numberFrom [.ref 43, .int a1, .int a2] zs_Ri := by
  refine zs_Wof (by decide) (Nat.le_of_ble_eq_true rfl) ?_
  show zs_W MX10_numberFrom 0 [(0, .ref 43), (1, .int a1), (2, .int a2)] [] zs_Ri
  have j22 : ∀ (v1 : Int32) (v2 : Int32) (s0 : Int32), zs_W MX10_numberFrom 22 [(0, .ref 43), (1, .int v1), (2, .int v2)] [.int s0] zs_Ri := by
    intro v1 v2 s0
    refine h_istore_n (lv' := [(3, .int s0), (0, .ref 43), (1, .int v1), (2, .int v2)]) dX10_numberFrom_22 rfl (by decide) rfl ?_
    refine h_bipush (v := (nI 10)) dX10_numberFrom_23 rfl ?_
    refine h_iload_n dX10_numberFrom_25 rfl rfl ?_
    refine h_imul dX10_numberFrom_26 (fun x1 => ?_)
    refine h_aload_n dX10_numberFrom_27 rfl rfl ?_
    refine h_getR 0 44 (C := RX10) (T := TX10) (N := 8) dX10_numberFrom_28 (by decide) rfl rfl (by decide) rfl fl_RX10_9 ?_
    refine h_iload_n dX10_numberFrom_31 rfl rfl ?_
    refine h_iconst (v := (nI 1)) dX10_numberFrom_32 rfl ?_
    refine h_isub dX10_numberFrom_33 (fun x2 => ?_)
    refine h_callN [.ref 44, .int x2] [.int x1] (v_cell 44 150 x2 (by decide) rfl (by decide)) dX10_numberFrom_34 kk_X10_numberFrom_X11_cell nl_RX10_66 swX11_cell rfl rfl (Nat.le_of_ble_eq_true rfl) ?_
    rintro _ ⟨x3, rfl⟩
    refine h_iadd dX10_numberFrom_37 (fun x4 => ?_)
    refine h_bipush (v := (nI 48)) dX10_numberFrom_38 rfl ?_
    refine h_isub dX10_numberFrom_40 (fun x5 => ?_)
    exact h_iret dX10_numberFrom_41 rfl rfl ⟨_, rfl⟩
  refine h_iload_n dX10_numberFrom_0 rfl rfl ?_
  refine h_iload_n dX10_numberFrom_1 rfl rfl ?_
  refine h_isub dX10_numberFrom_2 (fun x6 => ?_)
  refine h_iconst (v := (nI 1)) dX10_numberFrom_3 rfl ?_
  refine h_ic_le 21 dX10_numberFrom_4 (by decide) (fun h7 => ?_) (fun h7 => ?_)
  · refine h_iconst (v := (nI 0)) dX10_numberFrom_21 rfl ?_
    exact j22 a1 a2 (nI 0)
  · refine h_aload_n dX10_numberFrom_7 rfl rfl ?_
    refine h_getR 0 44 (C := RX10) (T := TX10) (N := 8) dX10_numberFrom_8 (by decide) rfl rfl (by decide) rfl fl_RX10_9 ?_
    refine h_iload_n dX10_numberFrom_11 rfl rfl ?_
    refine h_callN [.ref 44, .int a1] [] (v_cell 44 150 a1 (by decide) rfl (by decide)) dX10_numberFrom_12 kk_X10_numberFrom_X11_cell nl_RX10_66 swX11_cell rfl rfl (Nat.le_of_ble_eq_true rfl) ?_
    rintro _ ⟨x8, rfl⟩
    refine h_bipush (v := (nI 48)) dX10_numberFrom_15 rfl ?_
    refine h_isub dX10_numberFrom_17 (fun x9 => ?_)
    refine h_goto 22 dX10_numberFrom_18 (by decide) ?_
    exact j22 a1 a2 x9
set_option maxRecDepth 100000 in
theorem v_X10_nameTokens_43 (a1 : Int32) : zs_Dd' MX10_nameTokens [.ref 43, .int a1] zs_Rv := by
  refine zs_Wof (by decide) (Nat.le_of_ble_eq_true rfl) ?_
  show zs_W MX10_nameTokens 0 [(0, .ref 43), (1, .int a1)] [] zs_Rv
  have j2 : ∀ (n2 : Nat) (v1 : Int32) (c2 : Int32), zs_mu c2 < n2 → zs_W MX10_nameTokens 2 [(0, .ref 43), (1, .int v1), (2, .int c2)] [] zs_Rv := by
    intro n2
    induction n2 with
    | zero => intro v1 c2 hn2; exact absurd hn2 (Nat.not_lt_zero _)
    | succ n2 ih2 =>
      intro v1 c2 hn2
      refine h_iload_n dX10_nameTokens_2 rfl rfl ?_
      refine h_iload_n dX10_nameTokens_3 rfl rfl ?_
      refine h_ic_ge 69 dX10_nameTokens_4 (by decide) (fun h1 => ?_) (fun h1 => ?_)
      · refine h_aload_n dX10_nameTokens_69 rfl rfl ?_
        refine h_getR 5 61 (C := RX10) (T := TX10) (N := 8) dX10_nameTokens_70 (by decide) rfl rfl (by decide) rfl fl_RX10_28 ?_
        refine h_iload_n dX10_nameTokens_73 rfl rfl ?_
        refine h_iconst (v := (nI 0)) dX10_nameTokens_74 rfl ?_
        refine h_callN [.ref 61, .int v1, .int (nI 0)] [] (v_put 61 151 v1 (nI 0) (by decide) rfl (by decide) ⟨by decide, by decide, by decide⟩) dX10_nameTokens_75 kk_X10_nameTokens_X11_put nl_RX10_38 swX11_put rfl rfl (Nat.le_of_ble_eq_true rfl) ?_
        rintro _ rfl
        refine h_aload_n dX10_nameTokens_78 rfl rfl ?_
        refine h_getR 3 59 (C := RX10) (T := TX10) (N := 8) dX10_nameTokens_79 (by decide) rfl rfl (by decide) rfl fl_RX10_22 ?_
        refine h_iload_n dX10_nameTokens_82 rfl rfl ?_
        refine h_aload_n dX10_nameTokens_83 rfl rfl ?_
        refine h_getI 1 (C := RX10) (T := TX10) (N := 8) dX10_nameTokens_84 (by decide) rfl rfl (by decide) rfl fl_RX10_34 (fun x2 => ?_)
        refine h_callN [.ref 59, .int v1, .int x2] [] (v_put 59 151 v1 x2 (by decide) rfl (by decide) ⟨by decide, by decide, by decide⟩) dX10_nameTokens_87 kk_X10_nameTokens_X11_put nl_RX10_38 swX11_put rfl rfl (Nat.le_of_ble_eq_true rfl) ?_
        rintro _ rfl
        exact h_ret dX10_nameTokens_90 rfl rfl
      · have hd2 := zs_muA h1 hn2
        refine h_aload_n dX10_nameTokens_7 rfl rfl ?_
        refine h_getR 5 61 (C := RX10) (T := TX10) (N := 8) dX10_nameTokens_8 (by decide) rfl rfl (by decide) rfl fl_RX10_28 ?_
        refine h_iload_n dX10_nameTokens_11 rfl rfl ?_
        refine h_aload_n dX10_nameTokens_12 rfl rfl ?_
        refine h_aload_n dX10_nameTokens_13 rfl rfl ?_
        refine h_getR 3 59 (C := RX10) (T := TX10) (N := 8) dX10_nameTokens_14 (by decide) rfl rfl (by decide) rfl fl_RX10_22 ?_
        refine h_iload_n dX10_nameTokens_17 rfl rfl ?_
        refine h_callN [.ref 59, .int c2] [.ref 43, .int c2, .ref 61] (v_cell 59 151 c2 (by decide) rfl (by decide)) dX10_nameTokens_18 kk_X10_nameTokens_X11_cell nl_RX10_66 swX11_cell rfl rfl (Nat.le_of_ble_eq_true rfl) ?_
        rintro _ ⟨x3, rfl⟩
        refine h_aload_n dX10_nameTokens_21 rfl rfl ?_
        refine h_getR 4 60 (C := RX10) (T := TX10) (N := 8) dX10_nameTokens_22 (by decide) rfl rfl (by decide) rfl fl_RX10_25 ?_
        refine h_iload_n dX10_nameTokens_25 rfl rfl ?_
        refine h_callN [.ref 60, .int c2] [.int x3, .ref 43, .int c2, .ref 61] (v_cell 60 151 c2 (by decide) rfl (by decide)) dX10_nameTokens_26 kk_X10_nameTokens_X11_cell nl_RX10_66 swX11_cell rfl rfl (Nat.le_of_ble_eq_true rfl) ?_
        rintro _ ⟨x4, rfl⟩
        refine h_callV (T := TX10) (NN := 8) [.int c2, .ref 61] (v_X10_tokenFrom_43 x3 x4) dX10_nameTokens_29 kk_X10_nameTokens_X10_tokenFrom ml_RX10_119 mwX10_tokenFrom ewX10_tokenFrom (by decide) rfl rfl rfl rfl (Nat.le_of_ble_eq_true rfl) ?_
        rintro _ ⟨x5, rfl⟩
        refine h_callN [.ref 61, .int c2, .int x5] [] (v_put 61 151 c2 x5 (by decide) rfl (by decide) ⟨by decide, by decide, by decide⟩) dX10_nameTokens_32 kk_X10_nameTokens_X11_put nl_RX10_38 swX11_put rfl rfl (Nat.le_of_ble_eq_true rfl) ?_
        rintro _ rfl
        refine h_aload_n dX10_nameTokens_35 rfl rfl ?_
        refine h_getR 6 62 (C := RX10) (T := TX10) (N := 8) dX10_nameTokens_36 (by decide) rfl rfl (by decide) rfl fl_RX10_31 ?_
        refine h_iload_n dX10_nameTokens_39 rfl rfl ?_
        refine h_aload_n dX10_nameTokens_40 rfl rfl ?_
        refine h_aload_n dX10_nameTokens_41 rfl rfl ?_
        refine h_getR 3 59 (C := RX10) (T := TX10) (N := 8) dX10_nameTokens_42 (by decide) rfl rfl (by decide) rfl fl_RX10_22 ?_
        refine h_iload_n dX10_nameTokens_45 rfl rfl ?_
        refine h_callN [.ref 59, .int c2] [.ref 43, .int c2, .ref 62] (v_cell 59 151 c2 (by decide) rfl (by decide)) dX10_nameTokens_46 kk_X10_nameTokens_X11_cell nl_RX10_66 swX11_cell rfl rfl (Nat.le_of_ble_eq_true rfl) ?_
        rintro _ ⟨x6, rfl⟩
        refine h_aload_n dX10_nameTokens_49 rfl rfl ?_
        refine h_getR 4 60 (C := RX10) (T := TX10) (N := 8) dX10_nameTokens_50 (by decide) rfl rfl (by decide) rfl fl_RX10_25 ?_
        refine h_iload_n dX10_nameTokens_53 rfl rfl ?_
        refine h_callN [.ref 60, .int c2] [.int x6, .ref 43, .int c2, .ref 62] (v_cell 60 151 c2 (by decide) rfl (by decide)) dX10_nameTokens_54 kk_X10_nameTokens_X11_cell nl_RX10_66 swX11_cell rfl rfl (Nat.le_of_ble_eq_true rfl) ?_
        rintro _ ⟨x7, rfl⟩
        refine h_callV (T := TX10) (NN := 8) [.int c2, .ref 62] (v_X10_numberFrom_43 x6 x7) dX10_nameTokens_57 kk_X10_nameTokens_X10_numberFrom ml_RX10_123 mwX10_numberFrom ewX10_numberFrom (by decide) rfl rfl rfl rfl (Nat.le_of_ble_eq_true rfl) ?_
        rintro _ ⟨x8, rfl⟩
        refine h_callN [.ref 62, .int c2, .int x8] [] (v_put 62 151 c2 x8 (by decide) rfl (by decide) ⟨by decide, by decide, by decide⟩) dX10_nameTokens_60 kk_X10_nameTokens_X11_put nl_RX10_38 swX11_put rfl rfl (Nat.le_of_ble_eq_true rfl) ?_
        rintro _ rfl
        refine h_iinc (v := (c2 + Int32.ofInt 1)) (lv' := [(2, .int (c2 + Int32.ofInt 1)), (0, .ref 43), (1, .int v1)]) dX10_nameTokens_63 rfl rfl (by decide) rfl ?_
        refine h_goto 2 dX10_nameTokens_66 (by decide) ?_
        exact zs_Wlv (ih2 v1 (c2 + Int32.ofInt 1) hd2) (zs_mc 1 rfl (zs_mc 2 rfl (zs_mc 0 rfl zs_mn)))
  refine h_iconst (v := (nI 0)) dX10_nameTokens_0 rfl ?_
  refine h_istore_n (lv' := [(2, .int (nI 0)), (0, .ref 43), (1, .int a1)]) dX10_nameTokens_1 rfl (by decide) rfl ?_
  exact zs_Wlv (j2 _ a1 (nI 0) (Nat.lt_succ_self _)) (zs_mc 1 rfl (zs_mc 2 rfl (zs_mc 0 rfl zs_mn)))
set_option maxRecDepth 100000 in
theorem v_X3_begin_47 (a1 : Int32) : zs_Dd' MX3_begin [.ref 47, .int a1] zs_Rv := by
  refine zs_Wof (by decide) (Nat.le_of_ble_eq_true rfl) ?_
  show zs_W MX3_begin 0 [(0, .ref 47), (1, .int a1)] [] zs_Rv
  refine h_aload_n dX3_begin_0 rfl rfl ?_
  refine h_iconst (v := (nI 0)) dX3_begin_1 rfl ?_
  refine h_putI 0 (C := RX3) (T := TX3) (N := 6) (ty := .int) dX3_begin_2 (by decide) rfl rfl (by decide) rfl fl_RX3_25 rfl (by decide +kernel) ⟨rfl, rfl⟩ rfl ?_
  refine h_aload_n dX3_begin_5 rfl rfl ?_
  refine h_iconst (v := (nI 0)) dX3_begin_6 rfl ?_
  refine h_putI 1 (C := RX3) (T := TX3) (N := 6) (ty := .int) dX3_begin_7 (by decide) rfl rfl (by decide) rfl fl_RX3_28 rfl (by decide +kernel) ⟨rfl, rfl⟩ rfl ?_
  refine h_aload_n dX3_begin_10 rfl rfl ?_
  refine h_iload_n dX3_begin_11 rfl rfl ?_
  refine h_putI 2 (C := RX3) (T := TX3) (N := 6) (ty := .int) dX3_begin_12 (by decide) rfl rfl (by decide) rfl fl_RX3_9 rfl (by decide +kernel) ⟨rfl, rfl⟩ rfl ?_
  refine h_aload_n dX3_begin_15 rfl rfl ?_
  refine h_getR 3 48 (C := RX3) (T := TX3) (N := 6) dX3_begin_16 (by decide) rfl rfl (by decide) rfl fl_RX3_15 ?_
  refine h_iconst (v := (nI 0)) dX3_begin_19 rfl ?_
  refine h_callN [.ref 48, .int (nI 0)] [] (v_fill 48 12 (nI 0) (by decide) rfl (by decide) ⟨by decide, by decide, by decide⟩) dX3_begin_20 kk_X3_begin_X11_fill nl_RX3_31 swX11_fill rfl rfl (Nat.le_of_ble_eq_true rfl) ?_
  rintro _ rfl
  refine h_aload_n dX3_begin_23 rfl rfl ?_
  refine h_getR 4 49 (C := RX3) (T := TX3) (N := 6) dX3_begin_24 (by decide) rfl rfl (by decide) rfl fl_RX3_19 ?_
  refine h_iconst (v := (nI 0)) dX3_begin_27 rfl ?_
  refine h_callN [.ref 49, .int (nI 0)] [] (v_fill 49 5 (nI 0) (by decide) rfl (by decide) ⟨by decide, by decide, by decide⟩) dX3_begin_28 kk_X3_begin_X11_fill nl_RX3_31 swX11_fill rfl rfl (Nat.le_of_ble_eq_true rfl) ?_
  rintro _ rfl
  refine h_aload_n dX3_begin_31 rfl rfl ?_
  refine h_getR 5 50 (C := RX3) (T := TX3) (N := 6) dX3_begin_32 (by decide) rfl rfl (by decide) rfl fl_RX3_22 ?_
  refine h_iconst (v := (nI 0)) dX3_begin_35 rfl ?_
  refine h_callN [.ref 50, .int (nI 0)] [] (v_fill 50 5 (nI 0) (by decide) rfl (by decide) ⟨by decide, by decide, by decide⟩) dX3_begin_36 kk_X3_begin_X11_fill nl_RX3_31 swX11_fill rfl rfl (Nat.le_of_ble_eq_true rfl) ?_
  rintro _ rfl
  exact h_ret dX3_begin_39 rfl rfl
set_option maxRecDepth 100000 in
theorem v_X4_empty_51 : zs_Dd' MX4_empty [.ref 51] zs_Rv := by
  refine zs_Wof (by decide) (Nat.le_of_ble_eq_true rfl) ?_
  show zs_W MX4_empty 0 [(0, .ref 51)] [] zs_Rv
  refine h_aload_n dX4_empty_0 rfl rfl ?_
  refine h_iconst (v := (nI 0)) dX4_empty_1 rfl ?_
  refine h_putI 1 (C := RX4) (T := TX4) (N := 2) (ty := .int) dX4_empty_2 (by decide) rfl rfl (by decide) rfl fl_RX4_17 rfl (by decide +kernel) ⟨rfl, rfl⟩ rfl ?_
  exact h_ret dX4_empty_5 rfl rfl
set_option maxRecDepth 100000 in
theorem v_X5_empty_53 : zs_Dd' MX5_empty [.ref 53] zs_Ri := by
  refine zs_Wof (by decide) (Nat.le_of_ble_eq_true rfl) ?_
  show zs_W MX5_empty 0 [(0, .ref 53)] [] zs_Ri
  refine h_aload_n dX5_empty_0 rfl rfl ?_
  refine h_getI 2 (C := RX5) (T := TX5) (N := 3) dX5_empty_1 (by decide) rfl rfl (by decide) rfl fl_RX5_19 (fun x1 => ?_)
  refine h_istore_n (lv' := [(1, .int x1), (0, .ref 53)]) dX5_empty_4 rfl (by decide) rfl ?_
  refine h_aload_n dX5_empty_5 rfl rfl ?_
  refine h_iconst (v := (nI 0)) dX5_empty_6 rfl ?_
  refine h_putI 2 (C := RX5) (T := TX5) (N := 3) (ty := .int) dX5_empty_7 (by decide) rfl rfl (by decide) rfl fl_RX5_19 rfl (by decide +kernel) ⟨rfl, rfl⟩ rfl ?_
  refine h_iload_n dX5_empty_10 rfl rfl ?_
  exact h_iret dX5_empty_11 rfl rfl ⟨_, rfl⟩
set_option maxRecDepth 100000 in
theorem v_X5_empty_55 : zs_Dd' MX5_empty [.ref 55] zs_Ri := by
  refine zs_Wof (by decide) (Nat.le_of_ble_eq_true rfl) ?_
  show zs_W MX5_empty 0 [(0, .ref 55)] [] zs_Ri
  refine h_aload_n dX5_empty_0 rfl rfl ?_
  refine h_getI 2 (C := RX5) (T := TX5) (N := 3) dX5_empty_1 (by decide) rfl rfl (by decide) rfl fl_RX5_19 (fun x1 => ?_)
  refine h_istore_n (lv' := [(1, .int x1), (0, .ref 55)]) dX5_empty_4 rfl (by decide) rfl ?_
  refine h_aload_n dX5_empty_5 rfl rfl ?_
  refine h_iconst (v := (nI 0)) dX5_empty_6 rfl ?_
  refine h_putI 2 (C := RX5) (T := TX5) (N := 3) (ty := .int) dX5_empty_7 (by decide) rfl rfl (by decide) rfl fl_RX5_19 rfl (by decide +kernel) ⟨rfl, rfl⟩ rfl ?_
  refine h_iload_n dX5_empty_10 rfl rfl ?_
  exact h_iret dX5_empty_11 rfl rfl ⟨_, rfl⟩
set_option maxRecDepth 100000 in
theorem v_X5_empty_57 : zs_Dd' MX5_empty [.ref 57] zs_Ri := by
  refine zs_Wof (by decide) (Nat.le_of_ble_eq_true rfl) ?_
  show zs_W MX5_empty 0 [(0, .ref 57)] [] zs_Ri
  refine h_aload_n dX5_empty_0 rfl rfl ?_
  refine h_getI 2 (C := RX5) (T := TX5) (N := 3) dX5_empty_1 (by decide) rfl rfl (by decide) rfl fl_RX5_19 (fun x1 => ?_)
  refine h_istore_n (lv' := [(1, .int x1), (0, .ref 57)]) dX5_empty_4 rfl (by decide) rfl ?_
  refine h_aload_n dX5_empty_5 rfl rfl ?_
  refine h_iconst (v := (nI 0)) dX5_empty_6 rfl ?_
  refine h_putI 2 (C := RX5) (T := TX5) (N := 3) (ty := .int) dX5_empty_7 (by decide) rfl rfl (by decide) rfl fl_RX5_19 rfl (by decide +kernel) ⟨rfl, rfl⟩ rfl ?_
  refine h_iload_n dX5_empty_10 rfl rfl ?_
  exact h_iret dX5_empty_11 rfl rfl ⟨_, rfl⟩
set_option maxRecDepth 100000 in
theorem v_X6_begin_45 (a1 : Int32) (a2 : Int32) (a3 : Int32) : zs_Dd' MX6_begin [.ref 45, .int a1, .int a2, .int a3] zs_Rv := by
  refine zs_Wof (by decide) (Nat.le_of_ble_eq_true rfl) ?_
  show zs_W MX6_begin 0 [(0, .ref 45), (1, .int a1), (2, .int a2), (3, .int a3)] [] zs_Rv
  refine h_aload_n dX6_begin_0 rfl rfl ?_
  refine h_iload_n dX6_begin_1 rfl rfl ?_
  refine h_putI 0 (C := RX6) (T := TX6) (N := 9) (ty := .int) dX6_begin_2 (by decide) rfl rfl (by decide) rfl fl_RX6_9 rfl (by decide +kernel) ⟨rfl, rfl⟩ rfl ?_
  refine h_aload_n dX6_begin_5 rfl rfl ?_
  refine h_iload_n dX6_begin_6 rfl rfl ?_
  refine h_putI 1 (C := RX6) (T := TX6) (N := 9) (ty := .int) dX6_begin_7 (by decide) rfl rfl (by decide) rfl fl_RX6_48 rfl (by decide +kernel) ⟨rfl, rfl⟩ rfl ?_
  refine h_aload_n dX6_begin_10 rfl rfl ?_
  refine h_iconst (v := (nI 0)) dX6_begin_11 rfl ?_
  refine h_putI 2 (C := RX6) (T := TX6) (N := 9) (ty := .int) dX6_begin_12 (by decide) rfl rfl (by decide) rfl fl_RX6_51 rfl (by decide +kernel) ⟨rfl, rfl⟩ rfl ?_
  refine h_aload_n dX6_begin_15 rfl rfl ?_
  refine h_getR 3 46 (C := RX6) (T := TX6) (N := 9) dX6_begin_16 (by decide) rfl rfl (by decide) rfl fl_RX6_15 ?_
  refine h_iconst (v := (nI 0)) dX6_begin_19 rfl ?_
  refine h_callN [.ref 46, .int (nI 0)] [] (v_fill 46 5 (nI 0) (by decide) rfl (by decide) ⟨by decide, by decide, by decide⟩) dX6_begin_20 kk_X6_begin_X11_fill nl_RX6_54 swX11_fill rfl rfl (Nat.le_of_ble_eq_true rfl) ?_
  rintro _ rfl
  refine h_aload_n dX6_begin_23 rfl rfl ?_
  refine h_getR 4 47 (C := RX6) (T := TX6) (N := 9) dX6_begin_24 (by decide) rfl rfl (by decide) rfl fl_RX6_22 ?_
  refine h_iload_n dX6_begin_27 rfl rfl ?_
  refine h_callV (T := TX3) (NN := 6) [] (v_X3_begin_47 a3) dX6_begin_28 kk_X6_begin_X3_begin ml_RX6_58 mwX3_begin ewX3_begin (by decide) rfl rfl rfl rfl (Nat.le_of_ble_eq_true rfl) ?_
  rintro _ rfl
  refine h_aload_n dX6_begin_31 rfl rfl ?_
  refine h_getR 5 51 (C := RX6) (T := TX6) (N := 9) dX6_begin_32 (by decide) rfl rfl (by decide) rfl fl_RX6_29 ?_
  refine h_callV (T := TX4) (NN := 2) [] (v_X4_empty_51) dX6_begin_35 kk_X6_begin_X4_empty ml_RX6_61 mwX4_empty ewX4_empty (by decide) rfl rfl rfl rfl (Nat.le_of_ble_eq_true rfl) ?_
  rintro _ rfl
  refine h_aload_n dX6_begin_38 rfl rfl ?_
  refine h_getR 6 53 (C := RX6) (T := TX6) (N := 9) dX6_begin_39 (by decide) rfl rfl (by decide) rfl fl_RX6_38 ?_
  refine h_callV (T := TX5) (NN := 3) [] (v_X5_empty_53) dX6_begin_42 kk_X6_begin_X5_empty ml_RX6_64 mwX5_empty ewX5_empty (by decide) rfl rfl rfl rfl (Nat.le_of_ble_eq_true rfl) ?_
  rintro _ ⟨x1, rfl⟩
  refine h_pop dX6_begin_45 rfl ?_
  refine h_aload_n dX6_begin_46 rfl rfl ?_
  refine h_getR 7 55 (C := RX6) (T := TX6) (N := 9) dX6_begin_47 (by decide) rfl rfl (by decide) rfl fl_RX6_42 ?_
  refine h_callV (T := TX5) (NN := 3) [] (v_X5_empty_55) dX6_begin_50 kk_X6_begin_X5_empty ml_RX6_64 mwX5_empty ewX5_empty (by decide) rfl rfl rfl rfl (Nat.le_of_ble_eq_true rfl) ?_
  rintro _ ⟨x2, rfl⟩
  refine h_pop dX6_begin_53 rfl ?_
  refine h_aload_n dX6_begin_54 rfl rfl ?_
  refine h_getR 8 57 (C := RX6) (T := TX6) (N := 9) dX6_begin_55 (by decide) rfl rfl (by decide) rfl fl_RX6_45 ?_
  refine h_callV (T := TX5) (NN := 3) [] (v_X5_empty_57) dX6_begin_58 kk_X6_begin_X5_empty ml_RX6_64 mwX5_empty ewX5_empty (by decide) rfl rfl rfl rfl (Nat.le_of_ble_eq_true rfl) ?_
  rintro _ ⟨x3, rfl⟩
  refine h_pop dX6_begin_61 rfl ?_
  exact h_ret dX6_begin_62 rfl rfl
set_option maxRecDepth 100000 in
theorem v_X10_takeDrum_43 : zs_Dd' MX10_takeDrum [.ref 43] zs_Rb := by
  refine zs_Wof (by decide) (Nat.le_of_ble_eq_true rfl) ?_
  show zs_W MX10_takeDrum 0 [(0, .ref 43)] [] zs_Rb
  refine h_aload_n dX10_takeDrum_0 rfl rfl ?_
  refine h_iconst (v := (nI 2)) dX10_takeDrum_1 rfl ?_
  refine h_bipush (v := (nI 12)) dX10_takeDrum_2 rfl ?_
  refine h_callV (T := TX10) (NN := 8) [] (v_X10_takeNumber_43 (nI 2) (nI 12)) dX10_takeDrum_4 kk_X10_takeDrum_X10_takeNumber ml_RX10_70 mwX10_takeNumber ewX10_takeNumber (by decide) rfl rfl rfl rfl (Nat.le_of_ble_eq_true rfl) ?_
  rintro _ ⟨x1, rfl, bx1⟩
  refine h_if_ne 12 dX10_takeDrum_7 (by decide) (fun h2 => ?_) (fun h2 => ?_)
  · refine h_aload_n dX10_takeDrum_12 rfl rfl ?_
    refine h_callV (T := TX10) (NN := 8) [] (v_X10_value_43) dX10_takeDrum_13 kk_X10_takeDrum_X10_value ml_RX10_74 mwX10_value ewX10_value (by decide) rfl rfl rfl rfl (Nat.le_of_ble_eq_true rfl) ?_
    rintro _ ⟨x3, rfl⟩
    refine h_istore_n (lv' := [(1, .int x3), (0, .ref 43)]) dX10_takeDrum_16 rfl (by decide) rfl ?_
    refine h_aload_n dX10_takeDrum_17 rfl rfl ?_
    refine h_iconst (v := (nI 0)) dX10_takeDrum_18 rfl ?_
    refine h_iconst (v := (nI 5)) dX10_takeDrum_19 rfl ?_
    refine h_callV (T := TX10) (NN := 8) [] (v_X10_takeNumber_43 (nI 0) (nI 5)) dX10_takeDrum_20 kk_X10_takeDrum_X10_takeNumber ml_RX10_70 mwX10_takeNumber ewX10_takeNumber (by decide) rfl rfl rfl rfl (Nat.le_of_ble_eq_true rfl) ?_
    rintro _ ⟨x4, rfl, bx4⟩
    refine h_if_ne 28 dX10_takeDrum_23 (by decide) (fun h5 => ?_) (fun h5 => ?_)
    · refine h_aload_n dX10_takeDrum_28 rfl rfl ?_
      refine h_callV (T := TX10) (NN := 8) [] (v_X10_value_43) dX10_takeDrum_29 kk_X10_takeDrum_X10_value ml_RX10_74 mwX10_value ewX10_value (by decide) rfl rfl rfl rfl (Nat.le_of_ble_eq_true rfl) ?_
      rintro _ ⟨x6, rfl⟩
      refine h_istore_n (lv' := [(2, .int x6), (1, .int x3), (0, .ref 43)]) dX10_takeDrum_32 rfl (by decide) rfl ?_
      refine h_aload_n dX10_takeDrum_33 rfl rfl ?_
      refine h_iconst (v := (nI 0)) dX10_takeDrum_34 rfl ?_
      refine h_bipush (v := (nI 11)) dX10_takeDrum_35 rfl ?_
      refine h_callV (T := TX10) (NN := 8) [] (v_X10_takeNumber_43 (nI 0) (nI 11)) dX10_takeDrum_37 kk_X10_takeDrum_X10_takeNumber ml_RX10_70 mwX10_takeNumber ewX10_takeNumber (by decide) rfl rfl rfl rfl (Nat.le_of_ble_eq_true rfl) ?_
      rintro _ ⟨x7, rfl, bx7⟩
      refine h_if_ne 45 dX10_takeDrum_40 (by decide) (fun h8 => ?_) (fun h8 => ?_)
      · refine h_aload_n dX10_takeDrum_45 rfl rfl ?_
        refine h_getR 2 45 (C := RX10) (T := TX10) (N := 8) dX10_takeDrum_46 (by decide) rfl rfl (by decide) rfl fl_RX10_18 ?_
        refine h_iload_n dX10_takeDrum_49 rfl rfl ?_
        refine h_iload_n dX10_takeDrum_50 rfl rfl ?_
        refine h_aload_n dX10_takeDrum_51 rfl rfl ?_
        refine h_callV (T := TX10) (NN := 8) [.int x6, .int x3, .ref 45] (v_X10_value_43) dX10_takeDrum_52 kk_X10_takeDrum_X10_value ml_RX10_74 mwX10_value ewX10_value (by decide) rfl rfl rfl rfl (Nat.le_of_ble_eq_true rfl) ?_
        rintro _ ⟨x9, rfl⟩
        refine h_callV (T := TX6) (NN := 9) [] (v_X6_begin_45 x3 x6 x9) dX10_takeDrum_55 kk_X10_takeDrum_X6_begin ml_RX10_77 mwX6_begin ewX6_begin (by decide) rfl rfl rfl rfl (Nat.le_of_ble_eq_true rfl) ?_
        rintro _ rfl
        refine h_aload_n dX10_takeDrum_58 rfl rfl ?_
        refine h_callV (T := TX10) (NN := 8) [] (v_X10_takeStop_43) dX10_takeDrum_59 kk_X10_takeDrum_X10_takeStop ml_RX10_81 mwX10_takeStop ewX10_takeStop (by decide) rfl rfl rfl rfl (Nat.le_of_ble_eq_true rfl) ?_
        rintro _ ⟨x10, rfl, bx10⟩
        exact h_iret dX10_takeDrum_62 rfl bx10 ⟨_, rfl, bx10⟩
      · refine h_iconst (v := (nI 0)) dX10_takeDrum_43 rfl ?_
        exact h_iret dX10_takeDrum_44 rfl rfl ⟨_, rfl, rfl⟩
    · refine h_iconst (v := (nI 0)) dX10_takeDrum_26 rfl ?_
      exact h_iret dX10_takeDrum_27 rfl rfl ⟨_, rfl, rfl⟩
  · refine h_iconst (v := (nI 0)) dX10_takeDrum_10 rfl ?_
    exact h_iret dX10_takeDrum_11 rfl rfl ⟨_, rfl, rfl⟩
set_option maxRecDepth 100000 in
theorem v_X10_readDraft_43 : zs_Dd' MX10_readDraft [.ref 43] zs_Ri := by
  refine zs_Wof (by decide) (Nat.le_of_ble_eq_true rfl) ?_
  show zs_W MX10_readDraft 0 [(0, .ref 43)] [] zs_Ri
  have j35 : ∀ (n35 : Nat) (c35 : Int32), zs_mu c35 < n35 → zs_W MX10_readDraft 35 [(0, .ref 43), (1, .int c35)] [] zs_Ri := by
    intro n35
    induction n35 with
    | zero => intro c35 hn35; exact absurd hn35 (Nat.not_lt_zero _)
    | succ n35 ih35 =>
      intro c35 hn35
      refine h_iload_n dX10_readDraft_35 rfl rfl ?_
      refine h_sipush (v := (nI 150)) dX10_readDraft_36 rfl ?_
      refine h_ic_gt 80 dX10_readDraft_39 (by decide) (fun h1 => ?_) (fun h1 => ?_)
      · refine h_iload_n dX10_readDraft_80 rfl rfl ?_
        exact h_iret dX10_readDraft_81 rfl rfl ⟨_, rfl⟩
      · have hd35 := zs_muB h1 (Nat.le_of_ble_eq_true rfl) hn35
        refine h_aload_n dX10_readDraft_42 rfl rfl ?_
        refine h_dup dX10_readDraft_43 rfl ?_
        refine h_getI 7 (C := RX10) (T := TX10) (N := 8) dX10_readDraft_44 (by decide) rfl rfl (by decide) rfl fl_RX10_50 (fun x2 => ?_)
        refine h_iconst (v := (nI 1)) dX10_readDraft_47 rfl ?_
        refine h_iadd dX10_readDraft_48 (fun x3 => ?_)
        refine h_putI 7 (C := RX10) (T := TX10) (N := 8) (ty := .int) dX10_readDraft_49 (by decide) rfl rfl (by decide) rfl fl_RX10_50 rfl (by decide +kernel) ⟨rfl, rfl⟩ rfl ?_
        refine h_aload_n dX10_readDraft_52 rfl rfl ?_
        refine h_callV (T := TX10) (NN := 8) [] (v_X10_token_43) dX10_readDraft_53 kk_X10_readDraft_X10_token ml_RX10_53 mwX10_token ewX10_token (by decide) rfl rfl rfl rfl (Nat.le_of_ble_eq_true rfl) ?_
        rintro _ ⟨x4, rfl⟩
        refine h_if_ne 62 dX10_readDraft_56 (by decide) (fun h5 => ?_) (fun h5 => ?_)
        · refine h_aload_n dX10_readDraft_62 rfl rfl ?_
          refine h_callV (T := TX10) (NN := 8) [] (v_X10_takeItem_43) dX10_readDraft_63 kk_X10_readDraft_X10_takeItem ml_RX10_63 mwX10_takeItem ewX10_takeItem (by decide) rfl rfl rfl rfl (Nat.le_of_ble_eq_true rfl) ?_
          rintro _ ⟨x6, rfl, bx6⟩
          refine h_if_ne 74 dX10_readDraft_66 (by decide) (fun h7 => ?_) (fun h7 => ?_)
          · refine h_iinc (v := (c35 + Int32.ofInt 1)) (lv' := [(1, .int (c35 + Int32.ofInt 1)), (0, .ref 43)]) dX10_readDraft_74 rfl rfl (by decide) rfl ?_
            refine h_goto 35 dX10_readDraft_77 (by decide) ?_
            exact zs_Wlv (ih35 (c35 + Int32.ofInt 1) hd35) (zs_mc 1 rfl (zs_mc 0 rfl zs_mn))
          · refine h_aload_n dX10_readDraft_69 rfl rfl ?_
            refine h_callV (T := TX10) (NN := 8) [] (v_X10_fault_43) dX10_readDraft_70 kk_X10_readDraft_X10_fault ml_RX10_60 mwX10_fault ewX10_fault (by decide) rfl rfl rfl rfl (Nat.le_of_ble_eq_true rfl) ?_
            rintro _ ⟨x8, rfl⟩
            exact h_iret dX10_readDraft_73 rfl rfl ⟨_, rfl⟩
        · refine h_goto 80 dX10_readDraft_59 (by decide) ?_
          refine h_iload_n dX10_readDraft_80 rfl rfl ?_
          exact h_iret dX10_readDraft_81 rfl rfl ⟨_, rfl⟩
  have j28 : zs_W MX10_readDraft 28 [(0, .ref 43)] [] zs_Ri := by
    refine h_aload_n dX10_readDraft_28 rfl rfl ?_
    refine h_callV (T := TX10) (NN := 8) [] (v_X10_fault_43) dX10_readDraft_29 kk_X10_readDraft_X10_fault ml_RX10_60 mwX10_fault ewX10_fault (by decide) rfl rfl rfl rfl (Nat.le_of_ble_eq_true rfl) ?_
    rintro _ ⟨x9, rfl⟩
    exact h_iret dX10_readDraft_32 rfl rfl ⟨_, rfl⟩
  refine h_aload_n dX10_readDraft_0 rfl rfl ?_
  refine h_aload_n dX10_readDraft_1 rfl rfl ?_
  refine h_callV (T := TX10) (NN := 8) [.ref 43] (v_X10_splitTokens_43) dX10_readDraft_2 kk_X10_readDraft_X10_splitTokens ml_RX10_42 mwX10_splitTokens ewX10_splitTokens (by decide) rfl rfl rfl rfl (Nat.le_of_ble_eq_true rfl) ?_
  rintro _ ⟨x10, rfl⟩
  refine h_callV (T := TX10) (NN := 8) [] (v_X10_nameTokens_43 x10) dX10_readDraft_5 kk_X10_readDraft_X10_nameTokens ml_RX10_46 mwX10_nameTokens ewX10_nameTokens (by decide) rfl rfl rfl rfl (Nat.le_of_ble_eq_true rfl) ?_
  rintro _ rfl
  refine h_aload_n dX10_readDraft_8 rfl rfl ?_
  refine h_iconst (v := (nI 0)) dX10_readDraft_9 rfl ?_
  refine h_putI 7 (C := RX10) (T := TX10) (N := 8) (ty := .int) dX10_readDraft_10 (by decide) rfl rfl (by decide) rfl fl_RX10_50 rfl (by decide +kernel) ⟨rfl, rfl⟩ rfl ?_
  refine h_aload_n dX10_readDraft_13 rfl rfl ?_
  refine h_callV (T := TX10) (NN := 8) [] (v_X10_token_43) dX10_readDraft_14 kk_X10_readDraft_X10_token ml_RX10_53 mwX10_token ewX10_token (by decide) rfl rfl rfl rfl (Nat.le_of_ble_eq_true rfl) ?_
  rintro _ ⟨x11, rfl⟩
  refine h_iconst (v := (nI 4)) dX10_readDraft_17 rfl ?_
  refine h_ic_ne 28 dX10_readDraft_18 (by decide) (fun h12 => ?_) (fun h12 => ?_)
  · exact j28 
  · refine h_aload_n dX10_readDraft_21 rfl rfl ?_
    refine h_callV (T := TX10) (NN := 8) [] (v_X10_takeDrum_43) dX10_readDraft_22 kk_X10_readDraft_X10_takeDrum ml_RX10_56 mwX10_takeDrum ewX10_takeDrum (by decide) rfl rfl rfl rfl (Nat.le_of_ble_eq_true rfl) ?_
    rintro _ ⟨x13, rfl, bx13⟩
    refine h_if_ne 33 dX10_readDraft_25 (by decide) (fun h14 => ?_) (fun h14 => ?_)
    · refine h_iconst (v := (nI 1)) dX10_readDraft_33 rfl ?_
      refine h_istore_n (lv' := [(1, .int (nI 1)), (0, .ref 43)]) dX10_readDraft_34 rfl (by decide) rfl ?_
      exact zs_Wlv (j35 _ (nI 1) (Nat.lt_succ_self _)) (zs_mc 1 rfl (zs_mc 0 rfl zs_mn))
    · exact j28 
set_option maxRecDepth 100000 in
theorem v_X3_become_3_47 : zs_Dd' MX3_become [.ref 3, .ref 47] zs_Rv := by
  refine zs_Wof (by decide) (Nat.le_of_ble_eq_true rfl) ?_
  show zs_W MX3_become 0 [(0, .ref 3), (1, .ref 47)] [] zs_Rv
  refine h_aload_n dX3_become_0 rfl rfl ?_
  refine h_aload_n dX3_become_1 rfl rfl ?_
  refine h_getI 0 (C := RX3) (T := TX3) (N := 6) dX3_become_2 (by decide) rfl rfl (by decide) rfl fl_RX3_25 (fun x1 => ?_)
  refine h_putI 0 (C := RX3) (T := TX3) (N := 6) (ty := .int) dX3_become_5 (by decide) rfl rfl (by decide) rfl fl_RX3_25 rfl (by decide +kernel) ⟨rfl, rfl⟩ rfl ?_
  refine h_aload_n dX3_become_8 rfl rfl ?_
  refine h_aload_n dX3_become_9 rfl rfl ?_
  refine h_getI 1 (C := RX3) (T := TX3) (N := 6) dX3_become_10 (by decide) rfl rfl (by decide) rfl fl_RX3_28 (fun x2 => ?_)
  refine h_putI 1 (C := RX3) (T := TX3) (N := 6) (ty := .int) dX3_become_13 (by decide) rfl rfl (by decide) rfl fl_RX3_28 rfl (by decide +kernel) ⟨rfl, rfl⟩ rfl ?_
  refine h_aload_n dX3_become_16 rfl rfl ?_
  refine h_aload_n dX3_become_17 rfl rfl ?_
  refine h_getI 2 (C := RX3) (T := TX3) (N := 6) dX3_become_18 (by decide) rfl rfl (by decide) rfl fl_RX3_9 (fun x3 => ?_)
  refine h_putI 2 (C := RX3) (T := TX3) (N := 6) (ty := .int) dX3_become_21 (by decide) rfl rfl (by decide) rfl fl_RX3_9 rfl (by decide +kernel) ⟨rfl, rfl⟩ rfl ?_
  refine h_aload_n dX3_become_24 rfl rfl ?_
  refine h_getR 3 48 (C := RX3) (T := TX3) (N := 6) dX3_become_25 (by decide) rfl rfl (by decide) rfl fl_RX3_15 ?_
  refine h_aload_n dX3_become_28 rfl rfl ?_
  refine h_getR 3 4 (C := RX3) (T := TX3) (N := 6) dX3_become_29 (by decide) rfl rfl (by decide) rfl fl_RX3_15 ?_
  refine h_callN [.ref 48, .ref 4] [] (v_copyRow 48 4 12 (by decide) rfl (by decide) rfl (by decide) (by decide) ⟨by decide, by decide, by decide⟩) dX3_become_32 kk_X3_become_X11_copyRow nl_RX3_35 swX11_copyRow rfl rfl (Nat.le_of_ble_eq_true rfl) ?_
  rintro _ rfl
  refine h_aload_n dX3_become_35 rfl rfl ?_
  refine h_getR 4 49 (C := RX3) (T := TX3) (N := 6) dX3_become_36 (by decide) rfl rfl (by decide) rfl fl_RX3_19 ?_
  refine h_aload_n dX3_become_39 rfl rfl ?_
  refine h_getR 4 5 (C := RX3) (T := TX3) (N := 6) dX3_become_40 (by decide) rfl rfl (by decide) rfl fl_RX3_19 ?_
  refine h_callN [.ref 49, .ref 5] [] (v_copyRow 49 5 5 (by decide) rfl (by decide) rfl (by decide) (by decide) ⟨by decide, by decide, by decide⟩) dX3_become_43 kk_X3_become_X11_copyRow nl_RX3_35 swX11_copyRow rfl rfl (Nat.le_of_ble_eq_true rfl) ?_
  rintro _ rfl
  refine h_aload_n dX3_become_46 rfl rfl ?_
  refine h_getR 5 50 (C := RX3) (T := TX3) (N := 6) dX3_become_47 (by decide) rfl rfl (by decide) rfl fl_RX3_22 ?_
  refine h_aload_n dX3_become_50 rfl rfl ?_
  refine h_getR 5 6 (C := RX3) (T := TX3) (N := 6) dX3_become_51 (by decide) rfl rfl (by decide) rfl fl_RX3_22 ?_
  refine h_callN [.ref 50, .ref 6] [] (v_copyRow 50 6 5 (by decide) rfl (by decide) rfl (by decide) (by decide) ⟨by decide, by decide, by decide⟩) dX3_become_54 kk_X3_become_X11_copyRow nl_RX3_35 swX11_copyRow rfl rfl (Nat.le_of_ble_eq_true rfl) ?_
  rintro _ rfl
  exact h_ret dX3_become_57 rfl rfl
set_option maxRecDepth 100000 in
theorem v_X4_become_7_51 : zs_Dd' MX4_become [.ref 7, .ref 51] zs_Rv := by
  refine zs_Wof (by decide) (Nat.le_of_ble_eq_true rfl) ?_
  show zs_W MX4_become 0 [(0, .ref 7), (1, .ref 51)] [] zs_Rv
  refine h_aload_n dX4_become_0 rfl rfl ?_
  refine h_getR 0 52 (C := RX4) (T := TX4) (N := 2) dX4_become_1 (by decide) rfl rfl (by decide) rfl fl_RX4_11 ?_
  refine h_aload_n dX4_become_4 rfl rfl ?_
  refine h_getR 0 8 (C := RX4) (T := TX4) (N := 2) dX4_become_5 (by decide) rfl rfl (by decide) rfl fl_RX4_11 ?_
  refine h_callN [.ref 52, .ref 8] [] (v_copyRow 52 8 200 (by decide) rfl (by decide) rfl (by decide) (by decide) ⟨by decide, by decide, by decide⟩) dX4_become_8 kk_X4_become_X11_copyRow nl_RX4_31 swX11_copyRow rfl rfl (Nat.le_of_ble_eq_true rfl) ?_
  rintro _ rfl
  refine h_aload_n dX4_become_11 rfl rfl ?_
  refine h_aload_n dX4_become_12 rfl rfl ?_
  refine h_getI 1 (C := RX4) (T := TX4) (N := 2) dX4_become_13 (by decide) rfl rfl (by decide) rfl fl_RX4_17 (fun x1 => ?_)
  refine h_putI 1 (C := RX4) (T := TX4) (N := 2) (ty := .int) dX4_become_16 (by decide) rfl rfl (by decide) rfl fl_RX4_17 rfl (by decide +kernel) ⟨rfl, rfl⟩ rfl ?_
  exact h_ret dX4_become_19 rfl rfl
set_option maxRecDepth 100000 in
theorem v_X5_become_9_53 : zs_Dd' MX5_become [.ref 9, .ref 53] zs_Rv := by
  refine zs_Wof (by decide) (Nat.le_of_ble_eq_true rfl) ?_
  show zs_W MX5_become 0 [(0, .ref 9), (1, .ref 53)] [] zs_Rv
  refine h_aload_n dX5_become_0 rfl rfl ?_
  refine h_getR 1 54 (C := RX5) (T := TX5) (N := 3) dX5_become_1 (by decide) rfl rfl (by decide) rfl fl_RX5_9 ?_
  refine h_aload_n dX5_become_4 rfl rfl ?_
  refine h_getR 1 10 (C := RX5) (T := TX5) (N := 3) dX5_become_5 (by decide) rfl rfl (by decide) rfl fl_RX5_9 ?_
  refine h_callN [.ref 54, .ref 10] [] (v_copyRow 54 10 24 (by decide) rfl (by decide) rfl (by decide) (by decide) ⟨by decide, by decide, by decide⟩) dX5_become_8 kk_X5_become_X11_copyRow nl_RX5_30 swX11_copyRow rfl rfl (Nat.le_of_ble_eq_true rfl) ?_
  rintro _ rfl
  refine h_aload_n dX5_become_11 rfl rfl ?_
  refine h_aload_n dX5_become_12 rfl rfl ?_
  refine h_getI 2 (C := RX5) (T := TX5) (N := 3) dX5_become_13 (by decide) rfl rfl (by decide) rfl fl_RX5_19 (fun x1 => ?_)
  refine h_putI 2 (C := RX5) (T := TX5) (N := 3) (ty := .int) dX5_become_16 (by decide) rfl rfl (by decide) rfl fl_RX5_19 rfl (by decide +kernel) ⟨rfl, rfl⟩ rfl ?_
  exact h_ret dX5_become_19 rfl rfl
set_option maxRecDepth 100000 in
theorem v_X5_become_11_55 : zs_Dd' MX5_become [.ref 11, .ref 55] zs_Rv := by
  refine zs_Wof (by decide) (Nat.le_of_ble_eq_true rfl) ?_
  show zs_W MX5_become 0 [(0, .ref 11), (1, .ref 55)] [] zs_Rv
  refine h_aload_n dX5_become_0 rfl rfl ?_
  refine h_getR 1 56 (C := RX5) (T := TX5) (N := 3) dX5_become_1 (by decide) rfl rfl (by decide) rfl fl_RX5_9 ?_
  refine h_aload_n dX5_become_4 rfl rfl ?_
  refine h_getR 1 12 (C := RX5) (T := TX5) (N := 3) dX5_become_5 (by decide) rfl rfl (by decide) rfl fl_RX5_9 ?_
  refine h_callN [.ref 56, .ref 12] [] (v_copyRow 56 12 24 (by decide) rfl (by decide) rfl (by decide) (by decide) ⟨by decide, by decide, by decide⟩) dX5_become_8 kk_X5_become_X11_copyRow nl_RX5_30 swX11_copyRow rfl rfl (Nat.le_of_ble_eq_true rfl) ?_
  rintro _ rfl
  refine h_aload_n dX5_become_11 rfl rfl ?_
  refine h_aload_n dX5_become_12 rfl rfl ?_
  refine h_getI 2 (C := RX5) (T := TX5) (N := 3) dX5_become_13 (by decide) rfl rfl (by decide) rfl fl_RX5_19 (fun x1 => ?_)
  refine h_putI 2 (C := RX5) (T := TX5) (N := 3) (ty := .int) dX5_become_16 (by decide) rfl rfl (by decide) rfl fl_RX5_19 rfl (by decide +kernel) ⟨rfl, rfl⟩ rfl ?_
  exact h_ret dX5_become_19 rfl rfl
set_option maxRecDepth 100000 in
theorem v_X5_become_13_57 : zs_Dd' MX5_become [.ref 13, .ref 57] zs_Rv := by
  refine zs_Wof (by decide) (Nat.le_of_ble_eq_true rfl) ?_
  show zs_W MX5_become 0 [(0, .ref 13), (1, .ref 57)] [] zs_Rv
  refine h_aload_n dX5_become_0 rfl rfl ?_
  refine h_getR 1 58 (C := RX5) (T := TX5) (N := 3) dX5_become_1 (by decide) rfl rfl (by decide) rfl fl_RX5_9 ?_
  refine h_aload_n dX5_become_4 rfl rfl ?_
  refine h_getR 1 14 (C := RX5) (T := TX5) (N := 3) dX5_become_5 (by decide) rfl rfl (by decide) rfl fl_RX5_9 ?_
  refine h_callN [.ref 58, .ref 14] [] (v_copyRow 58 14 24 (by decide) rfl (by decide) rfl (by decide) (by decide) ⟨by decide, by decide, by decide⟩) dX5_become_8 kk_X5_become_X11_copyRow nl_RX5_30 swX11_copyRow rfl rfl (Nat.le_of_ble_eq_true rfl) ?_
  rintro _ rfl
  refine h_aload_n dX5_become_11 rfl rfl ?_
  refine h_aload_n dX5_become_12 rfl rfl ?_
  refine h_getI 2 (C := RX5) (T := TX5) (N := 3) dX5_become_13 (by decide) rfl rfl (by decide) rfl fl_RX5_19 (fun x1 => ?_)
  refine h_putI 2 (C := RX5) (T := TX5) (N := 3) (ty := .int) dX5_become_16 (by decide) rfl rfl (by decide) rfl fl_RX5_19 rfl (by decide +kernel) ⟨rfl, rfl⟩ rfl ?_
  exact h_ret dX5_become_19 rfl rfl
set_option maxRecDepth 100000 in
theorem v_X6_become_1_45 : zs_Dd' MX6_become [.ref 1, .ref 45] zs_Rv := by
  refine zs_Wof (by decide) (Nat.le_of_ble_eq_true rfl) ?_
  show zs_W MX6_become 0 [(0, .ref 1), (1, .ref 45)] [] zs_Rv
  refine h_aload_n dX6_become_0 rfl rfl ?_
  refine h_aload_n dX6_become_1 rfl rfl ?_
  refine h_getI 0 (C := RX6) (T := TX6) (N := 9) dX6_become_2 (by decide) rfl rfl (by decide) rfl fl_RX6_9 (fun x1 => ?_)
  refine h_putI 0 (C := RX6) (T := TX6) (N := 9) (ty := .int) dX6_become_5 (by decide) rfl rfl (by decide) rfl fl_RX6_9 rfl (by decide +kernel) ⟨rfl, rfl⟩ rfl ?_
  refine h_aload_n dX6_become_8 rfl rfl ?_
  refine h_aload_n dX6_become_9 rfl rfl ?_
  refine h_getI 1 (C := RX6) (T := TX6) (N := 9) dX6_become_10 (by decide) rfl rfl (by decide) rfl fl_RX6_48 (fun x2 => ?_)
  refine h_putI 1 (C := RX6) (T := TX6) (N := 9) (ty := .int) dX6_become_13 (by decide) rfl rfl (by decide) rfl fl_RX6_48 rfl (by decide +kernel) ⟨rfl, rfl⟩ rfl ?_
  refine h_aload_n dX6_become_16 rfl rfl ?_
  refine h_aload_n dX6_become_17 rfl rfl ?_
  refine h_getI 2 (C := RX6) (T := TX6) (N := 9) dX6_become_18 (by decide) rfl rfl (by decide) rfl fl_RX6_51 (fun x3 => ?_)
  refine h_putI 2 (C := RX6) (T := TX6) (N := 9) (ty := .int) dX6_become_21 (by decide) rfl rfl (by decide) rfl fl_RX6_51 rfl (by decide +kernel) ⟨rfl, rfl⟩ rfl ?_
  refine h_aload_n dX6_become_24 rfl rfl ?_
  refine h_getR 3 46 (C := RX6) (T := TX6) (N := 9) dX6_become_25 (by decide) rfl rfl (by decide) rfl fl_RX6_15 ?_
  refine h_aload_n dX6_become_28 rfl rfl ?_
  refine h_getR 3 2 (C := RX6) (T := TX6) (N := 9) dX6_become_29 (by decide) rfl rfl (by decide) rfl fl_RX6_15 ?_
  refine h_callN [.ref 46, .ref 2] [] (v_copyRow 46 2 5 (by decide) rfl (by decide) rfl (by decide) (by decide) ⟨by decide, by decide, by decide⟩) dX6_become_32 kk_X6_become_X11_copyRow nl_RX6_67 swX11_copyRow rfl rfl (Nat.le_of_ble_eq_true rfl) ?_
  rintro _ rfl
  refine h_aload_n dX6_become_35 rfl rfl ?_
  refine h_getR 4 3 (C := RX6) (T := TX6) (N := 9) dX6_become_36 (by decide) rfl rfl (by decide) rfl fl_RX6_22 ?_
  refine h_aload_n dX6_become_39 rfl rfl ?_
  refine h_getR 4 47 (C := RX6) (T := TX6) (N := 9) dX6_become_40 (by decide) rfl rfl (by decide) rfl fl_RX6_22 ?_
  refine h_callV (T := TX3) (NN := 6) [] (v_X3_become_3_47) dX6_become_43 kk_X6_become_X3_become ml_RX6_71 mwX3_become ewX3_become (by decide) rfl rfl rfl rfl (Nat.le_of_ble_eq_true rfl) ?_
  rintro _ rfl
  refine h_aload_n dX6_become_46 rfl rfl ?_
  refine h_getR 5 7 (C := RX6) (T := TX6) (N := 9) dX6_become_47 (by decide) rfl rfl (by decide) rfl fl_RX6_29 ?_
  refine h_aload_n dX6_become_50 rfl rfl ?_
  refine h_getR 5 51 (C := RX6) (T := TX6) (N := 9) dX6_become_51 (by decide) rfl rfl (by decide) rfl fl_RX6_29 ?_
  refine h_callV (T := TX4) (NN := 2) [] (v_X4_become_7_51) dX6_become_54 kk_X6_become_X4_become ml_RX6_75 mwX4_become ewX4_become (by decide) rfl rfl rfl rfl (Nat.le_of_ble_eq_true rfl) ?_
  rintro _ rfl
  refine h_aload_n dX6_become_57 rfl rfl ?_
  refine h_getR 6 9 (C := RX6) (T := TX6) (N := 9) dX6_become_58 (by decide) rfl rfl (by decide) rfl fl_RX6_38 ?_
  refine h_aload_n dX6_become_61 rfl rfl ?_
  refine h_getR 6 53 (C := RX6) (T := TX6) (N := 9) dX6_become_62 (by decide) rfl rfl (by decide) rfl fl_RX6_38 ?_
  refine h_callV (T := TX5) (NN := 3) [] (v_X5_become_9_53) dX6_become_65 kk_X6_become_X5_become ml_RX6_78 mwX5_become ewX5_become (by decide) rfl rfl rfl rfl (Nat.le_of_ble_eq_true rfl) ?_
  rintro _ rfl
  refine h_aload_n dX6_become_68 rfl rfl ?_
  refine h_getR 7 11 (C := RX6) (T := TX6) (N := 9) dX6_become_69 (by decide) rfl rfl (by decide) rfl fl_RX6_42 ?_
  refine h_aload_n dX6_become_72 rfl rfl ?_
  refine h_getR 7 55 (C := RX6) (T := TX6) (N := 9) dX6_become_73 (by decide) rfl rfl (by decide) rfl fl_RX6_42 ?_
  refine h_callV (T := TX5) (NN := 3) [] (v_X5_become_11_55) dX6_become_76 kk_X6_become_X5_become ml_RX6_78 mwX5_become ewX5_become (by decide) rfl rfl rfl rfl (Nat.le_of_ble_eq_true rfl) ?_
  rintro _ rfl
  refine h_aload_n dX6_become_79 rfl rfl ?_
  refine h_getR 8 13 (C := RX6) (T := TX6) (N := 9) dX6_become_80 (by decide) rfl rfl (by decide) rfl fl_RX6_45 ?_
  refine h_aload_n dX6_become_83 rfl rfl ?_
  refine h_getR 8 57 (C := RX6) (T := TX6) (N := 9) dX6_become_84 (by decide) rfl rfl (by decide) rfl fl_RX6_45 ?_
  refine h_callV (T := TX5) (NN := 3) [] (v_X5_become_13_57) dX6_become_87 kk_X6_become_X5_become ml_RX6_78 mwX5_become ewX5_become (by decide) rfl rfl rfl rfl (Nat.le_of_ble_eq_true rfl) ?_
  rintro _ rfl
  exact h_ret dX6_become_90 rfl rfl
