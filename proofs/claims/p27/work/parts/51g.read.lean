set_option maxRecDepth 100000 in
theorem c_rempty_53 (S : zs_S) : zs_Ci MX5_empty [.ref 53] S (fun x S2 => x = S.1 53 2 ∧ S2 = (zs_up S.1 53 2 (nI 0), S.2)) := by
  refine zs_C.of (by decide) (Nat.le_of_ble_eq_true rfl) ?_
  show zs_P MX5_empty 0 [(0, .ref 53)] [] S _
  refine g_aload_n dX5_empty_0 rfl rfl ?_
  refine g_getI 2 (C := RX5) (T := TX5) (N := 3) dX5_empty_1 (by decide) rfl rfl (by decide) rfl fl_RX5_19 ?_
  refine g_istore_n (lv' := [(1, .int (S.1 53 2)), (0, .ref 53)]) dX5_empty_4 rfl (by decide) rfl ?_
  refine g_aload_n dX5_empty_5 rfl rfl ?_
  refine g_iconst (v := (nI 0)) dX5_empty_6 rfl ?_
  refine g_putI 2 (C := RX5) (T := TX5) (N := 3) (ty := .int) dX5_empty_7 (by decide) rfl rfl (by decide) rfl fl_RX5_19 rfl (by decide +kernel) ⟨rfl, rfl⟩ ?_
  refine g_iload_n dX5_empty_10 rfl rfl ?_
  refine g_iret dX5_empty_11 rfl rfl ?_
  exact ⟨_, rfl, rfl, rfl⟩
set_option maxRecDepth 100000 in
theorem c_rempty_55 (S : zs_S) : zs_Ci MX5_empty [.ref 55] S (fun x S2 => x = S.1 55 2 ∧ S2 = (zs_up S.1 55 2 (nI 0), S.2)) := by
  refine zs_C.of (by decide) (Nat.le_of_ble_eq_true rfl) ?_
  show zs_P MX5_empty 0 [(0, .ref 55)] [] S _
  refine g_aload_n dX5_empty_0 rfl rfl ?_
  refine g_getI 2 (C := RX5) (T := TX5) (N := 3) dX5_empty_1 (by decide) rfl rfl (by decide) rfl fl_RX5_19 ?_
  refine g_istore_n (lv' := [(1, .int (S.1 55 2)), (0, .ref 55)]) dX5_empty_4 rfl (by decide) rfl ?_
  refine g_aload_n dX5_empty_5 rfl rfl ?_
  refine g_iconst (v := (nI 0)) dX5_empty_6 rfl ?_
  refine g_putI 2 (C := RX5) (T := TX5) (N := 3) (ty := .int) dX5_empty_7 (by decide) rfl rfl (by decide) rfl fl_RX5_19 rfl (by decide +kernel) ⟨rfl, rfl⟩ ?_
  refine g_iload_n dX5_empty_10 rfl rfl ?_
  refine g_iret dX5_empty_11 rfl rfl ?_
  exact ⟨_, rfl, rfl, rfl⟩
set_option maxRecDepth 100000 in
theorem c_rempty_57 (S : zs_S) : zs_Ci MX5_empty [.ref 57] S (fun x S2 => x = S.1 57 2 ∧ S2 = (zs_up S.1 57 2 (nI 0), S.2)) := by
  refine zs_C.of (by decide) (Nat.le_of_ble_eq_true rfl) ?_
  show zs_P MX5_empty 0 [(0, .ref 57)] [] S _
  refine g_aload_n dX5_empty_0 rfl rfl ?_
  refine g_getI 2 (C := RX5) (T := TX5) (N := 3) dX5_empty_1 (by decide) rfl rfl (by decide) rfl fl_RX5_19 ?_
  refine g_istore_n (lv' := [(1, .int (S.1 57 2)), (0, .ref 57)]) dX5_empty_4 rfl (by decide) rfl ?_
  refine g_aload_n dX5_empty_5 rfl rfl ?_
  refine g_iconst (v := (nI 0)) dX5_empty_6 rfl ?_
  refine g_putI 2 (C := RX5) (T := TX5) (N := 3) (ty := .int) dX5_empty_7 (by decide) rfl rfl (by decide) rfl fl_RX5_19 rfl (by decide +kernel) ⟨rfl, rfl⟩ ?_
  refine g_iload_n dX5_empty_10 rfl rfl ?_
  refine g_iret dX5_empty_11 rfl rfl ?_
  exact ⟨_, rfl, rfl, rfl⟩
set_option maxRecDepth 100000 in
theorem c_begin (S : zs_S) (a b c : Int32) : zs_Cv MX6_begin [.ref 45, .int a, .int b, .int c] S (fun S2 => zs_o3 S S2 ∧ S2.1 43 7 = S.1 43 7 ∧ S2.1 45 0 = a ∧ S2.1 45 1 = b ∧ S2.1 45 2 = nI 0 ∧ zs_zr S2) := by
  refine zs_C.of (by decide) (Nat.le_of_ble_eq_true rfl) ?_
  show zs_P MX6_begin 0 [(0, .ref 45), (1, .int a), (2, .int b), (3, .int c)] [] S _
  refine g_aload_n dX6_begin_0 rfl rfl ?_
  refine g_iload_n dX6_begin_1 rfl rfl ?_
  refine g_putI 0 (C := RX6) (T := TX6) (N := 9) (ty := .int) dX6_begin_2 (by decide) rfl rfl (by decide) rfl fl_RX6_9 rfl (by decide +kernel) ⟨rfl, rfl⟩ ?_
  refine g_aload_n dX6_begin_5 rfl rfl ?_
  refine g_iload_n dX6_begin_6 rfl rfl ?_
  refine g_putI 1 (C := RX6) (T := TX6) (N := 9) (ty := .int) dX6_begin_7 (by decide) rfl rfl (by decide) rfl fl_RX6_48 rfl (by decide +kernel) ⟨rfl, rfl⟩ ?_
  refine g_aload_n dX6_begin_10 rfl rfl ?_
  refine g_iconst (v := (nI 0)) dX6_begin_11 rfl ?_
  refine g_putI 2 (C := RX6) (T := TX6) (N := 9) (ty := .int) dX6_begin_12 (by decide) rfl rfl (by decide) rfl fl_RX6_51 rfl (by decide +kernel) ⟨rfl, rfl⟩ ?_
  refine g_aload_n dX6_begin_15 rfl rfl ?_
  refine g_getR 3 (46) (C := RX6) (T := TX6) (N := 9) dX6_begin_16 (by decide) rfl rfl (by decide) rfl fl_RX6_15 ?_
  refine g_iconst (v := (nI 0)) dX6_begin_19 rfl ?_
  refine g_callN [.ref 46, .int (nI 0)] [] (v3_fill 46 5 (nI 0) (by decide) rfl (by decide) ⟨by decide, by decide, by decide⟩ (zs_up (zs_up (zs_up S.1 45 0 a, S.2).1 45 1 b, (zs_up S.1 45 0 a, S.2).2).1 45 2 (nI 0), (zs_up (zs_up S.1 45 0 a, S.2).1 45 1 b, (zs_up S.1 45 0 a, S.2).2).2)) dX6_begin_20 kk_X6_begin_X11_fill nl_RX6_54 swX11_fill rfl rfl (Nat.le_of_ble_eq_true rfl) ?_
  rintro _ S1 ⟨rfl, fS1⟩
  refine g_aload_n dX6_begin_23 rfl rfl ?_
  refine g_getR 4 (47) (C := RX6) (T := TX6) (N := 9) dX6_begin_24 (by decide) rfl rfl (by decide) rfl fl_RX6_22 ?_
  refine g_iload_n dX6_begin_27 rfl rfl ?_
  refine g_callV (T := TX3) (NN := 6) [] (v3_X3_begin_47 c S1) dX6_begin_28 kk_X6_begin_X3_begin ml_RX6_58 mwX3_begin ewX3_begin (by decide) rfl rfl rfl rfl (Nat.le_of_ble_eq_true rfl) ?_
  rintro _ S3 ⟨rfl, fS3⟩
  refine g_aload_n dX6_begin_31 rfl rfl ?_
  refine g_getR 5 (51) (C := RX6) (T := TX6) (N := 9) dX6_begin_32 (by decide) rfl rfl (by decide) rfl fl_RX6_29 ?_
  refine g_callV (T := TX4) (NN := 2) [] (v3_X4_empty_51 S3) dX6_begin_35 kk_X6_begin_X4_empty ml_RX6_61 mwX4_empty ewX4_empty (by decide) rfl rfl rfl rfl (Nat.le_of_ble_eq_true rfl) ?_
  rintro _ S5 ⟨rfl, fS5⟩
  refine g_aload_n dX6_begin_38 rfl rfl ?_
  refine g_getR 6 (53) (C := RX6) (T := TX6) (N := 9) dX6_begin_39 (by decide) rfl rfl (by decide) rfl fl_RX6_38 ?_
  refine g_callV (T := TX5) (NN := 3) [] (c_rempty_53 S5) dX6_begin_42 kk_X6_begin_X5_empty ml_RX6_64 mwX5_empty ewX5_empty (by decide) rfl rfl rfl rfl (Nat.le_of_ble_eq_true rfl) ?_
  rintro _ _ ⟨_, rfl, rfl, rfl⟩
  refine g_pop dX6_begin_45 rfl ?_
  refine g_aload_n dX6_begin_46 rfl rfl ?_
  refine g_getR 7 (55) (C := RX6) (T := TX6) (N := 9) dX6_begin_47 (by decide) rfl rfl (by decide) rfl fl_RX6_42 ?_
  refine g_callV (T := TX5) (NN := 3) [] (c_rempty_55 (zs_up S5.1 53 2 (nI 0), S5.2)) dX6_begin_50 kk_X6_begin_X5_empty ml_RX6_64 mwX5_empty ewX5_empty (by decide) rfl rfl rfl rfl (Nat.le_of_ble_eq_true rfl) ?_
  rintro _ _ ⟨_, rfl, rfl, rfl⟩
  refine g_pop dX6_begin_53 rfl ?_
  refine g_aload_n dX6_begin_54 rfl rfl ?_
  refine g_getR 8 (57) (C := RX6) (T := TX6) (N := 9) dX6_begin_55 (by decide) rfl rfl (by decide) rfl fl_RX6_45 ?_
  refine g_callV (T := TX5) (NN := 3) [] (c_rempty_57 (zs_up (zs_up S5.1 53 2 (nI 0), S5.2).1 55 2 (nI 0), (zs_up S5.1 53 2 (nI 0), S5.2).2)) dX6_begin_58 kk_X6_begin_X5_empty ml_RX6_64 mwX5_empty ewX5_empty (by decide) rfl rfl rfl rfl (Nat.le_of_ble_eq_true rfl) ?_
  rintro _ _ ⟨_, rfl, rfl, rfl⟩
  refine g_pop dX6_begin_61 rfl ?_
  refine g_ret dX6_begin_62 rfl ?_
  exact ⟨rfl, ((((((((((((((((((zs_o3.rf).ud (by decide) (by decide) (by decide))).ud (by decide) (by decide) (by decide))).ud (by decide) (by decide) (by decide))).w fS1)).w fS3)).w fS5)).uz (by decide) (by decide))).uz (by decide) (by decide))).uz (by decide) (by decide)), ((zs_up_m (by omega)).trans ((zs_up_m (by omega)).trans ((zs_up_m (by omega)).trans ((fS5.c 7).trans ((fS3.c 7).trans ((fS1.c 7).trans ((zs_up_m (by omega)).trans ((zs_up_m (by omega)).trans ((zs_up_m (by omega)).trans rfl))))))))), ((zs_up_m (by omega)).trans ((zs_up_m (by omega)).trans ((zs_up_m (by omega)).trans ((fS5.k 0).trans ((fS3.k 0).trans ((fS1.k 0).trans ((zs_up_m (by omega)).trans ((zs_up_m (by omega)).trans zs_up_q)))))))), ((zs_up_m (by omega)).trans ((zs_up_m (by omega)).trans ((zs_up_m (by omega)).trans ((fS5.k 1).trans ((fS3.k 1).trans ((fS1.k 1).trans ((zs_up_m (by omega)).trans zs_up_q))))))), ((zs_up_m (by omega)).trans ((zs_up_m (by omega)).trans ((zs_up_m (by omega)).trans ((fS5.k 2).trans ((fS3.k 2).trans ((fS1.k 2).trans zs_up_q)))))), ⟨((zs_up_m (by omega)).trans ((zs_up_m (by omega)).trans zs_up_q)), ((zs_up_m (by omega)).trans zs_up_q), zs_up_q⟩⟩
set_option maxRecDepth 100000 in
theorem c_addEye (S : zs_S) (a : Int32) (ey : Nat) (hey : S.1 45 2 = nI ey) : zs_Cv MX6_addEye [.ref 45, .int a] S (fun S2 => zs_o3 S S2 ∧ S2.1 43 7 = S.1 43 7 ∧ S2.1 45 0 = S.1 45 0 ∧ S2.1 45 1 = S.1 45 1 ∧ S2.1 45 2 = nI (ey + 1)) := by
  refine zs_C.of (by decide) (Nat.le_of_ble_eq_true rfl) ?_
  show zs_P MX6_addEye 0 [(0, .ref 45), (1, .int a)] [] S _
  refine g_aload_n dX6_addEye_0 rfl rfl ?_
  refine g_getR 3 (46) (C := RX6) (T := TX6) (N := 9) dX6_addEye_1 (by decide) rfl rfl (by decide) rfl fl_RX6_15 ?_
  refine g_aload_n dX6_addEye_4 rfl rfl ?_
  refine g_getV 2 (C := RX6) (T := TX6) (N := 9) (v := (nI ey)) dX6_addEye_5 (by decide) rfl rfl (by decide) rfl fl_RX6_51 hey ?_
  refine g_iload_n dX6_addEye_8 rfl rfl ?_
  refine g_callN [.ref 46, .int (nI ey), .int a] [] (v3_put 46 5 (nI ey) a (by decide) rfl (by decide) ⟨by decide, by decide, by decide⟩ S) dX6_addEye_9 kk_X6_addEye_X11_put nl_RX6_81 swX11_put rfl rfl (Nat.le_of_ble_eq_true rfl) ?_
  rintro _ S1 ⟨rfl, fS1⟩
  refine g_aload_n dX6_addEye_12 rfl rfl ?_
  refine g_getR 4 (47) (C := RX6) (T := TX6) (N := 9) dX6_addEye_13 (by decide) rfl rfl (by decide) rfl fl_RX6_22 ?_
  refine g_getR 4 (49) (C := RX3) (T := TX3) (N := 6) dX6_addEye_16 (by decide) rfl rfl (by decide) rfl fl_RX6_85 ?_
  refine g_aload_n dX6_addEye_19 rfl rfl ?_
  refine g_getV 2 (C := RX6) (T := TX6) (N := 9) (v := (nI ey)) dX6_addEye_20 (by decide) rfl rfl (by decide) rfl fl_RX6_51 ((fS1.k 2).trans hey) ?_
  refine g_iconst (v := (nI 0)) dX6_addEye_23 rfl ?_
  refine g_callN [.ref 49, .int (nI ey), .int (nI 0)] [] (v3_put 49 5 (nI ey) (nI 0) (by decide) rfl (by decide) ⟨by decide, by decide, by decide⟩ S1) dX6_addEye_24 kk_X6_addEye_X11_put nl_RX6_81 swX11_put rfl rfl (Nat.le_of_ble_eq_true rfl) ?_
  rintro _ S3 ⟨rfl, fS3⟩
  refine g_aload_n dX6_addEye_27 rfl rfl ?_
  refine g_getR 4 (47) (C := RX6) (T := TX6) (N := 9) dX6_addEye_28 (by decide) rfl rfl (by decide) rfl fl_RX6_22 ?_
  refine g_getR 5 (50) (C := RX3) (T := TX3) (N := 6) dX6_addEye_31 (by decide) rfl rfl (by decide) rfl fl_RX6_88 ?_
  refine g_aload_n dX6_addEye_34 rfl rfl ?_
  refine g_getV 2 (C := RX6) (T := TX6) (N := 9) (v := (nI ey)) dX6_addEye_35 (by decide) rfl rfl (by decide) rfl fl_RX6_51 ((fS3.k 2).trans ((fS1.k 2).trans hey)) ?_
  refine g_iconst (v := (nI 0)) dX6_addEye_38 rfl ?_
  refine g_callN [.ref 50, .int (nI ey), .int (nI 0)] [] (v3_put 50 5 (nI ey) (nI 0) (by decide) rfl (by decide) ⟨by decide, by decide, by decide⟩ S3) dX6_addEye_39 kk_X6_addEye_X11_put nl_RX6_81 swX11_put rfl rfl (Nat.le_of_ble_eq_true rfl) ?_
  rintro _ S5 ⟨rfl, fS5⟩
  refine g_aload_n dX6_addEye_42 rfl rfl ?_
  refine g_dup dX6_addEye_43 rfl ?_
  refine g_getV 2 (C := RX6) (T := TX6) (N := 9) (v := (nI ey)) dX6_addEye_44 (by decide) rfl rfl (by decide) rfl fl_RX6_51 ((fS5.k 2).trans ((fS3.k 2).trans ((fS1.k 2).trans hey))) ?_
  refine g_iconst (v := (nI 1)) dX6_addEye_47 rfl ?_
  refine g_iaddN dX6_addEye_48 ?_
  refine g_putI 2 (C := RX6) (T := TX6) (N := 9) (ty := .int) dX6_addEye_49 (by decide) rfl rfl (by decide) rfl fl_RX6_51 rfl (by decide +kernel) ⟨rfl, rfl⟩ ?_
  refine g_ret dX6_addEye_52 rfl ?_
  exact ⟨rfl, ((((((((zs_o3.rf).w fS1)).w fS3)).w fS5)).ud (by decide) (by decide) (by decide)), ((zs_up_m (by omega)).trans ((fS5.c 7).trans ((fS3.c 7).trans ((fS1.c 7).trans rfl)))), ((zs_up_m (by omega)).trans ((fS5.k 0).trans ((fS3.k 0).trans ((fS1.k 0).trans rfl)))), ((zs_up_m (by omega)).trans ((fS5.k 1).trans ((fS3.k 1).trans ((fS1.k 1).trans rfl)))), zs_up_q⟩
set_option maxRecDepth 100000 in
theorem c_takeDrum (B : Nat → Nat) (L n : Nat) (S : zs_S) (hk : zs_tk S B L n) (hj : S.1 43 7 = nI 0) (h0n : 0 < n) : zs_Ci MX10_takeDrum [.ref 43] S (fun x S2 => x = zs_b ((tp_drum (tx_k B L) (tx_v B L)).1 = true) ∧ zs_o3 S S2 ∧ S2.1 43 7 = nI (tp_drum (tx_k B L) (tx_v B L)).2 ∧ ((tp_drum (tx_k B L) (tx_v B L)).1 = true → S2.1 45 0 = nI (tx_v B L 1) ∧ S2.1 45 1 = nI (tx_v B L 2) ∧ S2.1 45 2 = nI 0 ∧ zs_zr S2)) := by
  have hn150 := hk.n
  refine zs_C.of (by decide) (Nat.le_of_ble_eq_true rfl) ?_
  show zs_P MX10_takeDrum 0 [(0, .ref 43)] [] S _
  refine g_aload_n dX10_takeDrum_0 rfl rfl ?_
  refine g_iconst (v := (nI 2)) dX10_takeDrum_1 rfl ?_
  refine g_bipush (v := (nI 12)) dX10_takeDrum_2 rfl ?_
  refine g_callV (T := TX10) (NN := 8) [] (c_takeNumber B L n 0 S (zs_o3.rf.t hk) hj (by omega) 2 12 (by decide) (by decide)) dX10_takeDrum_4 kk_X10_takeDrum_X10_takeNumber ml_RX10_70 mwX10_takeNumber ewX10_takeNumber (by decide) rfl rfl rfl rfl (Nat.le_of_ble_eq_true rfl) ?_
  rintro _ _ ⟨_, rfl, rfl, rfl⟩
  refine g_if_ne 12 dX10_takeDrum_7 (by decide) (fun h1 => ?_) (fun h1 => ?_)
  · have h1 := zs_b1 h1
    have lh1 : (0 + 1) < n := hk.lt (by omega) (by rw [(tp_tn1 h1).1]; decide)
    have vh1 := (tp_tn1 h1).2
    refine g_aload_n dX10_takeDrum_12 rfl rfl ?_
    refine g_callV (T := TX10) (NN := 8) [] (c_value B L n (0 + 1) (zs_up S.1 43 7 (nI (0 + 1)), S.2) ((zs_o3.rf).u7.t hk) zs_up_q (by omega) (tp_tn1 h1).1) dX10_takeDrum_13 kk_X10_takeDrum_X10_value ml_RX10_74 mwX10_value ewX10_value (by decide) rfl rfl rfl rfl (Nat.le_of_ble_eq_true rfl) ?_
    rintro _ _ ⟨_, rfl, rfl, rfl⟩
    refine g_istore_n (lv' := [(1, .int (nI (tx_v B L (0 + 1)))), (0, .ref 43)]) dX10_takeDrum_16 rfl (by decide) rfl ?_
    refine g_aload_n dX10_takeDrum_17 rfl rfl ?_
    refine g_iconst (v := (nI 0)) dX10_takeDrum_18 rfl ?_
    refine g_iconst (v := (nI 5)) dX10_takeDrum_19 rfl ?_
    refine g_callV (T := TX10) (NN := 8) [] (c_takeNumber B L n (0 + 1) (zs_up S.1 43 7 (nI (0 + 1)), S.2) ((zs_o3.rf).u7.t hk) zs_up_q (by omega) 0 5 (by decide) (by decide)) dX10_takeDrum_20 kk_X10_takeDrum_X10_takeNumber ml_RX10_70 mwX10_takeNumber ewX10_takeNumber (by decide) rfl rfl rfl rfl (Nat.le_of_ble_eq_true rfl) ?_
    rintro _ _ ⟨_, rfl, rfl, rfl⟩
    refine g_if_ne 28 dX10_takeDrum_23 (by decide) (fun h2 => ?_) (fun h2 => ?_)
    · have h2 := zs_b1 h2
      have lh2 : ((0 + 1) + 1) < n := hk.lt (by omega) (by rw [(tp_tn1 h2).1]; decide)
      have vh2 := (tp_tn1 h2).2
      refine g_aload_n dX10_takeDrum_28 rfl rfl ?_
      refine g_callV (T := TX10) (NN := 8) [] (c_value B L n ((0 + 1) + 1) (zs_up (zs_up S.1 43 7 (nI (0 + 1)), S.2).1 43 7 (nI ((0 + 1) + 1)), (zs_up S.1 43 7 (nI (0 + 1)), S.2).2) (((zs_o3.rf).u7).u7.t hk) zs_up_q (by omega) (tp_tn1 h2).1) dX10_takeDrum_29 kk_X10_takeDrum_X10_value ml_RX10_74 mwX10_value ewX10_value (by decide) rfl rfl rfl rfl (Nat.le_of_ble_eq_true rfl) ?_
      rintro _ _ ⟨_, rfl, rfl, rfl⟩
      refine g_istore_n (lv' := [(2, .int (nI (tx_v B L ((0 + 1) + 1)))), (1, .int (nI (tx_v B L (0 + 1)))), (0, .ref 43)]) dX10_takeDrum_32 rfl (by decide) rfl ?_
      refine g_aload_n dX10_takeDrum_33 rfl rfl ?_
      refine g_iconst (v := (nI 0)) dX10_takeDrum_34 rfl ?_
      refine g_bipush (v := (nI 11)) dX10_takeDrum_35 rfl ?_
      refine g_callV (T := TX10) (NN := 8) [] (c_takeNumber B L n ((0 + 1) + 1) (zs_up (zs_up S.1 43 7 (nI (0 + 1)), S.2).1 43 7 (nI ((0 + 1) + 1)), (zs_up S.1 43 7 (nI (0 + 1)), S.2).2) (((zs_o3.rf).u7).u7.t hk) zs_up_q (by omega) 0 11 (by decide) (by decide)) dX10_takeDrum_37 kk_X10_takeDrum_X10_takeNumber ml_RX10_70 mwX10_takeNumber ewX10_takeNumber (by decide) rfl rfl rfl rfl (Nat.le_of_ble_eq_true rfl) ?_
      rintro _ _ ⟨_, rfl, rfl, rfl⟩
      refine g_if_ne 45 dX10_takeDrum_40 (by decide) (fun h3 => ?_) (fun h3 => ?_)
      · have h3 := zs_b1 h3
        have lh3 : (((0 + 1) + 1) + 1) < n := hk.lt (by omega) (by rw [(tp_tn1 h3).1]; decide)
        have vh3 := (tp_tn1 h3).2
        refine g_aload_n dX10_takeDrum_45 rfl rfl ?_
        refine g_getR 2 (45) (C := RX10) (T := TX10) (N := 8) dX10_takeDrum_46 (by decide) rfl rfl (by decide) rfl fl_RX10_18 ?_
        refine g_iload_n dX10_takeDrum_49 rfl rfl ?_
        refine g_iload_n dX10_takeDrum_50 rfl rfl ?_
        refine g_aload_n dX10_takeDrum_51 rfl rfl ?_
        refine g_callV (T := TX10) (NN := 8) [.int (nI (tx_v B L ((0 + 1) + 1))), .int (nI (tx_v B L (0 + 1))), .ref 45] (c_value B L n (((0 + 1) + 1) + 1) (zs_up (zs_up (zs_up S.1 43 7 (nI (0 + 1)), S.2).1 43 7 (nI ((0 + 1) + 1)), (zs_up S.1 43 7 (nI (0 + 1)), S.2).2).1 43 7 (nI (((0 + 1) + 1) + 1)), (zs_up (zs_up S.1 43 7 (nI (0 + 1)), S.2).1 43 7 (nI ((0 + 1) + 1)), (zs_up S.1 43 7 (nI (0 + 1)), S.2).2).2) ((((zs_o3.rf).u7).u7).u7.t hk) zs_up_q (by omega) (tp_tn1 h3).1) dX10_takeDrum_52 kk_X10_takeDrum_X10_value ml_RX10_74 mwX10_value ewX10_value (by decide) rfl rfl rfl rfl (Nat.le_of_ble_eq_true rfl) ?_
        rintro _ _ ⟨_, rfl, rfl, rfl⟩
        refine g_callV (T := TX6) (NN := 9) [] (c_begin (zs_up (zs_up (zs_up S.1 43 7 (nI (0 + 1)), S.2).1 43 7 (nI ((0 + 1) + 1)), (zs_up S.1 43 7 (nI (0 + 1)), S.2).2).1 43 7 (nI (((0 + 1) + 1) + 1)), (zs_up (zs_up S.1 43 7 (nI (0 + 1)), S.2).1 43 7 (nI ((0 + 1) + 1)), (zs_up S.1 43 7 (nI (0 + 1)), S.2).2).2) (nI (tx_v B L (0 + 1))) (nI (tx_v B L ((0 + 1) + 1))) (nI (tx_v B L (((0 + 1) + 1) + 1)))) dX10_takeDrum_55 kk_X10_takeDrum_X6_begin ml_RX10_77 mwX6_begin ewX6_begin (by decide) rfl rfl rfl rfl (Nat.le_of_ble_eq_true rfl) ?_
        rintro _ S4 ⟨rfl, bS4⟩
        refine g_aload_n dX10_takeDrum_58 rfl rfl ?_
        refine g_callV (T := TX10) (NN := 8) [] (c_takeStop B L n (((0 + 1) + 1) + 1) S4 ((((((zs_o3.rf).u7).u7).u7).tr bS4.1).t hk) (bS4.2.1.trans zs_up_q) (by omega)) dX10_takeDrum_59 kk_X10_takeDrum_X10_takeStop ml_RX10_81 mwX10_takeStop ewX10_takeStop (by decide) rfl rfl rfl rfl (Nat.le_of_ble_eq_true rfl) ?_
        rintro _ _ ⟨_, rfl, rfl, rfl⟩
        refine g_iret dX10_takeDrum_62 rfl zs_bn ?_
        have hD : tp_drum (tx_k B L) (tx_v B L) = (decide (tx_k B L 4 = 2), 4) := (if_pos h1).trans ((if_pos h2).trans (if_pos h3))
        exact ⟨_, rfl, by rw [hD]; exact congrArg zs_b (propext decide_eq_true_iff.symm), ((((((zs_o3.rf).u7).u7).u7).tr bS4.1)).u7, by rw [hD]; exact zs_up_q, fun _ => ⟨((zs_up_m (by omega)).trans bS4.2.2.1), ((zs_up_m (by omega)).trans bS4.2.2.2.1), ((zs_up_m (by omega)).trans bS4.2.2.2.2.1), ⟨((zs_up_m (by omega)).trans bS4.2.2.2.2.2.1), ((zs_up_m (by omega)).trans bS4.2.2.2.2.2.2.1), ((zs_up_m (by omega)).trans bS4.2.2.2.2.2.2.2)⟩⟩⟩
      · have h3 := zs_b0 h3
        refine g_iconst (v := (nI 0)) dX10_takeDrum_43 rfl ?_
        refine g_iret dX10_takeDrum_44 rfl rfl ?_
        have hD : tp_drum (tx_k B L) (tx_v B L) = (false, 3) := (if_pos h1).trans ((if_pos h2).trans (if_neg h3))
        exact ⟨_, rfl, by rw [hD]; exact (zs_bf (by decide)).symm, (((zs_o3.rf).u7).u7).u7, by rw [hD]; exact zs_up_q, fun z => by rw [hD] at z; exact absurd z (by decide)⟩
    · have h2 := zs_b0 h2
      refine g_iconst (v := (nI 0)) dX10_takeDrum_26 rfl ?_
      refine g_iret dX10_takeDrum_27 rfl rfl ?_
      have hD : tp_drum (tx_k B L) (tx_v B L) = (false, 2) := (if_pos h1).trans (if_neg h2)
      exact ⟨_, rfl, by rw [hD]; exact (zs_bf (by decide)).symm, ((zs_o3.rf).u7).u7, by rw [hD]; exact zs_up_q, fun z => by rw [hD] at z; exact absurd z (by decide)⟩
  · have h1 := zs_b0 h1
    refine g_iconst (v := (nI 0)) dX10_takeDrum_10 rfl ?_
    refine g_iret dX10_takeDrum_11 rfl rfl ?_
    have hD : tp_drum (tx_k B L) (tx_v B L) = (false, 1) := if_neg h1
    exact ⟨_, rfl, by rw [hD]; exact (zs_bf (by decide)).symm, (zs_o3.rf).u7, by rw [hD]; exact zs_up_q, fun z => by rw [hD] at z; exact absurd z (by decide)⟩
