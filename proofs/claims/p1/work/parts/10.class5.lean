set_option maxRecDepth 100000 in
theorem v_turn_l (S0 : zs_S) (F : zs_F0 S0) (n : Nat) (hn : n ≤ 60) (Q : Option Value → zs_S → Prop) (hq : ∀ S, zs_nw S0 S (n % 2) n 1 → Q none S) : ∀ (d i : Nat), i + d = n → ∀ S, zs_nw S0 S (i % 2) i 1 → zs_P MX6_turn 2 [(2, .int (nI i)), (0, .ref 1), (1, .int (nI n))] [] S Q := by
  intro d
  induction d with
  | zero =>
    intro i hi S h
    obtain rfl : i = n := by omega
    refine g_iload_n dX6_turn_2 rfl rfl ?_
    refine g_iload_n dX6_turn_3 rfl rfl ?_
    refine g_ic_geN 34 dX6_turn_4 (by decide) (by omega) (by omega) (fun _ => ?_) (fun z => absurd z (by omega))
    refine g_ret dX6_turn_34 rfl ?_
    exact hq S h
  | succ d ih =>
    intro i hi S h
    refine g_iload_n dX6_turn_2 rfl rfl ?_
    refine g_iload_n dX6_turn_3 rfl rfl ?_
    refine g_ic_geN 34 dX6_turn_4 (by decide) (by omega) (by omega) (fun z => absurd z (by omega)) (fun _ => ?_)
    refine g_aload_n dX6_turn_7 rfl rfl ?_
    refine g_getR 4 (3) (C := RX6) (T := TX6) (N := 9) dX6_turn_8 (by decide) rfl rfl (by decide) rfl fl_RX6_22 ?_
    refine g_getV 1 (C := RX3) (T := TX3) (N := 6) (v := (nI i)) dX6_turn_11 (by decide) rfl rfl (by decide) rfl fl_RX6_91 h.2.2.1 ?_
    refine g_sipush (v := (nI 9999)) dX6_turn_14 rfl ?_
    refine g_ic_geN 34 dX6_turn_17 (by decide) (by omega) (by omega) (fun z => absurd z (by omega)) (fun _ => ?_)
    refine g_aload_n dX6_turn_20 rfl rfl ?_
    refine g_aload_n dX6_turn_21 rfl rfl ?_
    refine g_getR 4 (3) (C := RX6) (T := TX6) (N := 9) dX6_turn_22 (by decide) rfl rfl (by decide) rfl fl_RX6_22 ?_
    refine g_callV (T := TX6) (NN := 9) [] (v_flash_nw S0 S F (i % 2) i 1 (by omega) (by omega) (by omega) h) dX6_turn_25 kk_X6_turn_X6_flash ml_RX6_94 mwX6_flash ewX6_flash (by decide) rfl rfl rfl rfl (Nat.le_of_ble_eq_true rfl) ?_
    rintro _ S2 ⟨rfl, h2⟩
    refine g_iinc (v := (nI (i + 1))) (lv' := [(2, .int (nI (i + 1))), (0, .ref 1), (1, .int (nI n))]) dX6_turn_28 rfl (nI_1 i) (by decide) rfl ?_
    refine g_goto 2 dX6_turn_31 (by decide) ?_
    exact ih (i + 1) (by omega) S2 (by rw [show (i + 1) % 2 = (i % 2 + 1) % 2 by omega]; exact h2)
set_option maxRecDepth 100000 in
theorem v_turn (S0 S : zs_S) (F : zs_F0 S0) (n : Nat) (hn : n ≤ 60) (h : zs_nw S0 S 0 0 1) : zs_Cv MX6_turn [.ref 1, .int (nI n)] S (fun S2 => zs_nw S0 S2 (n % 2) n 1) := by
  refine zs_C.of (by decide) (Nat.le_of_ble_eq_true rfl) ?_
  show zs_P MX6_turn 0 [(0, .ref 1), (1, .int (nI n))] [] S _
  refine g_iconst (v := (nI 0)) dX6_turn_0 rfl ?_
  refine g_istore_n (lv' := [(2, .int (nI 0)), (0, .ref 1), (1, .int (nI n))]) dX6_turn_1 rfl (by decide) rfl ?_
  exact v_turn_l S0 F n hn _ (fun S2 h2 => ⟨rfl, h2⟩) n 0 (by omega) S h
set_option maxRecDepth 100000 in
theorem t_spins (S : zs_S) (F : zs_F0 S) (n : Int32) : zs_Ci MX11_spins [.ref 0, .int n] S (fun x S2 => x = zs_if (nI 1 ≤ n ∧ n ≤ nI 60) (zs_par n) (-2) ∧ zs_ch 0 80 S S2) := by
  refine zs_C.of (by decide) (Nat.le_of_ble_eq_true rfl) ?_
  show zs_P MX11_spins 0 [(0, .ref 0), (1, .int n)] [] S _
  refine g_iload_n dX11_spins_0 rfl rfl ?_
  refine g_iconst (v := (nI 1)) dX11_spins_1 rfl ?_
  refine g_bipush (v := (nI 60)) dX11_spins_2 rfl ?_
  refine g_callS [.int n, .int (nI 1), .int (nI 60)] [] (x_within S n (nI 1) (nI 60)) dX11_spins_4 kk_X11_spins_X11_within ml_RX11_75 swX11_within rfl rfl (Nat.le_of_ble_eq_true rfl) ?_
  rintro _ _ ⟨_, rfl, rfl, rfl⟩
  refine g_if_ne 17 dX11_spins_7 (by decide) (fun h1 => ?_) (fun h1 => ?_)
  · have h1 := zs_b1 h1
    obtain ⟨n', n'a, n'b, rfl⟩ := zs_rng h1 (by omega)
    refine g_aload_n dX11_spins_17 rfl rfl ?_
    refine g_getR 0 (1) (C := RX11) (T := TX11) (N := 18) dX11_spins_18 (by decide) rfl rfl (by decide) rfl fl_RX11_10 ?_
    refine g_getR 4 (3) (C := RX6) (T := TX6) (N := 9) dX11_spins_21 (by decide) rfl rfl (by decide) rfl fl_RX11_137 ?_
    refine g_getV 1 (C := RX3) (T := TX3) (N := 6) (v := (nI 0)) dX11_spins_24 (by decide) rfl rfl (by decide) rfl fl_RX11_140 (congrFun (F 3 (by decide)).1 1) ?_
    refine g_sipush (v := (nI 9999)) dX11_spins_27 rfl ?_
    refine g_ic_geN 50 dX11_spins_30 (by decide) (by omega) (by omega) (fun z => absurd z (by omega)) (fun _ => ?_)
    refine g_aload_n dX11_spins_33 rfl rfl ?_
    refine g_getR 0 (1) (C := RX11) (T := TX11) (N := 18) dX11_spins_34 (by decide) rfl rfl (by decide) rfl fl_RX11_10 ?_
    refine g_getR 5 (7) (C := RX6) (T := TX6) (N := 9) dX11_spins_37 (by decide) rfl rfl (by decide) rfl fl_RX11_101 ?_
    refine g_aload_n dX11_spins_40 rfl rfl ?_
    refine g_getR 0 (1) (C := RX11) (T := TX11) (N := 18) dX11_spins_41 (by decide) rfl rfl (by decide) rfl fl_RX11_10 ?_
    refine g_getR 4 (3) (C := RX6) (T := TX6) (N := 9) dX11_spins_44 (by decide) rfl rfl (by decide) rfl fl_RX11_137 ?_
    refine g_callV (T := TX4) (NN := 2) [] (p_push S 7 3 0 zs_Pa7 zs_Mo3 (congrFun (F 7 (by decide)).1 1) (by decide)) dX11_spins_47 kk_X11_spins_X4_push ml_RX11_143 mwX4_push ewX4_push (by decide) rfl rfl rfl rfl (Nat.le_of_ble_eq_true rfl) ?_
    rintro _ S2 ⟨rfl, c3⟩
    refine g_aload_n dX11_spins_50 rfl rfl ?_
    refine g_getR 0 (1) (C := RX11) (T := TX11) (N := 18) dX11_spins_51 (by decide) rfl rfl (by decide) rfl fl_RX11_10 ?_
    refine g_iload_n dX11_spins_54 rfl rfl ?_
    refine g_callV (T := TX6) (NN := 9) [] (v_turn S S2 F n' (by omega) ⟨c3.wide (by decide) (by decide), (congrFun (c3 3 (by omega)).1 0).trans (congrFun (F 3 (by decide)).1 0), (congrFun (c3 3 (by omega)).1 1).trans (congrFun (F 3 (by decide)).1 1), (congrFun (c3 3 (by omega)).1 2).trans (congrFun (F 3 (by decide)).1 2)⟩) dX11_spins_55 kk_X11_spins_X6_turn ml_RX11_147 mwX6_turn ewX6_turn (by decide) rfl rfl rfl rfl (Nat.le_of_ble_eq_true rfl) ?_
    rintro _ S4 ⟨rfl, t5⟩
    refine g_aload_n dX11_spins_58 rfl rfl ?_
    refine g_getR 0 (1) (C := RX11) (T := TX11) (N := 18) dX11_spins_59 (by decide) rfl rfl (by decide) rfl fl_RX11_10 ?_
    refine g_getR 4 (3) (C := RX6) (T := TX6) (N := 9) dX11_spins_62 (by decide) rfl rfl (by decide) rfl fl_RX11_137 ?_
    refine g_getV 0 (C := RX3) (T := TX3) (N := 6) (v := (nI (n' % 2))) dX11_spins_65 (by decide) rfl rfl (by decide) rfl fl_RX11_150 t5.2.1 ?_
    refine g_iret dX11_spins_68 rfl rfl ?_
    exact ⟨_, rfl, ((zs_it h1).trans (zs_par_nI (by omega))).symm, (zs_ch.rf.and t5.1 (by omega) (by omega))⟩
  · have h1 := zs_b0 h1
    refine g_aload_n dX11_spins_10 rfl rfl ?_
    refine g_bipush (v := (-2)) dX11_spins_11 rfl ?_
    refine g_callV (T := TX11) (NN := 18) [] (x_refuseBad S (-2)) dX11_spins_13 kk_X11_spins_X11_refuseBad ml_RX11_86 mwX11_refuseBad ewX11_refuseBad (by decide) rfl rfl rfl rfl (Nat.le_of_ble_eq_true rfl) ?_
    rintro _ _ ⟨_, rfl, rfl, rfl⟩
    refine g_iret dX11_spins_16 rfl rfl ?_
    exact ⟨_, rfl, (zs_ie h1).symm, (zs_ch.rf.up (by omega) (by omega))⟩
set_option maxRecDepth 100000 in
theorem v_moves3 (S : zs_S) (h : S.1 1 2 = nI 0) : zs_Ci MX6_movesTogether [.ref 1, .ref 3] S (fun x S2 => x = nI 0 ∧ S = S2) := by
  refine zs_C.of (by decide) (Nat.le_of_ble_eq_true rfl) ?_
  show zs_P MX6_movesTogether 0 [(0, .ref 1), (1, .ref 3)] [] S _
  refine g_iconst (v := (nI 0)) dX6_movesTogether_0 rfl ?_
  refine g_istore_n (lv' := [(2, .int (nI 0)), (0, .ref 1), (1, .ref 3)]) dX6_movesTogether_1 rfl (by decide) rfl ?_
  refine g_iconst (v := (nI 0)) dX6_movesTogether_2 rfl ?_
  refine g_istore_n (lv' := [(3, .int (nI 0)), (2, .int (nI 0)), (0, .ref 1), (1, .ref 3)]) dX6_movesTogether_3 rfl (by decide) rfl ?_
  refine g_iload_n dX6_movesTogether_4 rfl rfl ?_
  refine g_aload_n dX6_movesTogether_5 rfl rfl ?_
  refine g_getV 2 (C := RX6) (T := TX6) (N := 9) (v := (nI 0)) dX6_movesTogether_6 (by decide) rfl rfl (by decide) rfl fl_RX6_51 h ?_
  refine g_ic_geN 29 dX6_movesTogether_9 (by decide) (by omega) (by omega) (fun _ => ?_) (fun z => absurd z (by omega))
  refine g_iload_n dX6_movesTogether_29 rfl rfl ?_
  refine g_iret dX6_movesTogether_30 rfl rfl ?_
  exact ⟨_, rfl, rfl, rfl⟩
set_option maxRecDepth 100000 in
theorem v_moves63 (S : zs_S) (h : S.1 1 2 = nI 0) : zs_Ci MX6_movesTogether [.ref 1, .ref 63] S (fun x S2 => x = nI 0 ∧ S = S2) := by
  refine zs_C.of (by decide) (Nat.le_of_ble_eq_true rfl) ?_
  show zs_P MX6_movesTogether 0 [(0, .ref 1), (1, .ref 63)] [] S _
  refine g_iconst (v := (nI 0)) dX6_movesTogether_0 rfl ?_
  refine g_istore_n (lv' := [(2, .int (nI 0)), (0, .ref 1), (1, .ref 63)]) dX6_movesTogether_1 rfl (by decide) rfl ?_
  refine g_iconst (v := (nI 0)) dX6_movesTogether_2 rfl ?_
  refine g_istore_n (lv' := [(3, .int (nI 0)), (2, .int (nI 0)), (0, .ref 1), (1, .ref 63)]) dX6_movesTogether_3 rfl (by decide) rfl ?_
  refine g_iload_n dX6_movesTogether_4 rfl rfl ?_
  refine g_aload_n dX6_movesTogether_5 rfl rfl ?_
  refine g_getV 2 (C := RX6) (T := TX6) (N := 9) (v := (nI 0)) dX6_movesTogether_6 (by decide) rfl rfl (by decide) rfl fl_RX6_51 h ?_
  refine g_ic_geN 29 dX6_movesTogether_9 (by decide) (by omega) (by omega) (fun _ => ?_) (fun z => absurd z (by omega))
  refine g_iload_n dX6_movesTogether_29 rfl rfl ?_
  refine g_iret dX6_movesTogether_30 rfl rfl ?_
  exact ⟨_, rfl, rfl, rfl⟩
set_option maxRecDepth 100000 in
theorem v_count0 (S : zs_S) (F : zs_F0 S) : zs_Ci MX11_countOf [.ref 0, .int (nI 0)] S (fun x S2 => x = nI 2 ∧ S = S2) := by
  refine zs_C.of (by decide) (Nat.le_of_ble_eq_true rfl) ?_
  show zs_P MX11_countOf 0 [(0, .ref 0), (1, .int (nI 0))] [] S _
  refine g_iload_n dX11_countOf_0 rfl rfl ?_
  refine g_tin (off := 63) 64 dX11_countOf_1 (by decide) (by decide) (by decide +kernel) (by decide) ?_
  refine g_aload_n dX11_countOf_64 rfl rfl ?_
  refine g_getR 0 (1) (C := RX11) (T := TX11) (N := 18) dX11_countOf_65 (by decide) rfl rfl (by decide) rfl fl_RX11_10 ?_
  refine g_getV 0 (C := RX6) (T := TX6) (N := 9) (v := (nI 2)) dX11_countOf_68 (by decide) rfl rfl (by decide) rfl fl_RX11_210 (congrFun (F 1 (by decide)).1 0) ?_
  refine g_iret dX11_countOf_71 rfl rfl ?_
  exact ⟨_, rfl, rfl, rfl⟩
set_option maxRecDepth 100000 in
theorem v_count1 (S : zs_S) (F : zs_F0 S) : zs_Ci MX11_countOf [.ref 0, .int (nI 1)] S (fun x S2 => x = nI 0 ∧ S = S2) := by
  refine zs_C.of (by decide) (Nat.le_of_ble_eq_true rfl) ?_
  show zs_P MX11_countOf 0 [(0, .ref 0), (1, .int (nI 1))] [] S _
  refine g_iload_n dX11_countOf_0 rfl rfl ?_
  refine g_tin (off := 71) 72 dX11_countOf_1 (by decide) (by decide) (by decide +kernel) (by decide) ?_
  refine g_aload_n dX11_countOf_72 rfl rfl ?_
  refine g_getR 0 (1) (C := RX11) (T := TX11) (N := 18) dX11_countOf_73 (by decide) rfl rfl (by decide) rfl fl_RX11_10 ?_
  refine g_getV 1 (C := RX6) (T := TX6) (N := 9) (v := (nI 0)) dX11_countOf_76 (by decide) rfl rfl (by decide) rfl fl_RX11_98 (congrFun (F 1 (by decide)).1 1) ?_
  refine g_iret dX11_countOf_79 rfl rfl ?_
  exact ⟨_, rfl, rfl, rfl⟩
set_option maxRecDepth 100000 in
theorem v_count2 (S : zs_S) (F : zs_F0 S) : zs_Ci MX11_countOf [.ref 0, .int (nI 2)] S (fun x S2 => x = nI 1 ∧ S = S2) := by
  refine zs_C.of (by decide) (Nat.le_of_ble_eq_true rfl) ?_
  show zs_P MX11_countOf 0 [(0, .ref 0), (1, .int (nI 2))] [] S _
  refine g_iload_n dX11_countOf_0 rfl rfl ?_
  refine g_tin (off := 79) 80 dX11_countOf_1 (by decide) (by decide) (by decide +kernel) (by decide) ?_
  refine g_aload_n dX11_countOf_80 rfl rfl ?_
  refine g_getR 0 (1) (C := RX11) (T := TX11) (N := 18) dX11_countOf_81 (by decide) rfl rfl (by decide) rfl fl_RX11_10 ?_
  refine g_getR 4 (3) (C := RX6) (T := TX6) (N := 9) dX11_countOf_84 (by decide) rfl rfl (by decide) rfl fl_RX11_137 ?_
  refine g_getV 2 (C := RX3) (T := TX3) (N := 6) (v := (nI 1)) dX11_countOf_87 (by decide) rfl rfl (by decide) rfl fl_RX11_153 (congrFun (F 3 (by decide)).1 2) ?_
  refine g_iret dX11_countOf_90 rfl rfl ?_
  exact ⟨_, rfl, rfl, rfl⟩
set_option maxRecDepth 100000 in
theorem v_count3 (S : zs_S) (F : zs_F0 S) : zs_Ci MX11_countOf [.ref 0, .int (nI 3)] S (fun x S2 => x = nI 0 ∧ S = S2) := by
  refine zs_C.of (by decide) (Nat.le_of_ble_eq_true rfl) ?_
  show zs_P MX11_countOf 0 [(0, .ref 0), (1, .int (nI 3))] [] S _
  refine g_iload_n dX11_countOf_0 rfl rfl ?_
  refine g_tin (off := 90) 91 dX11_countOf_1 (by decide) (by decide) (by decide +kernel) (by decide) ?_
  refine g_aload_n dX11_countOf_91 rfl rfl ?_
  refine g_getR 0 (1) (C := RX11) (T := TX11) (N := 18) dX11_countOf_92 (by decide) rfl rfl (by decide) rfl fl_RX11_10 ?_
  refine g_getR 4 (3) (C := RX6) (T := TX6) (N := 9) dX11_countOf_95 (by decide) rfl rfl (by decide) rfl fl_RX11_137 ?_
  refine g_getV 0 (C := RX3) (T := TX3) (N := 6) (v := (nI 0)) dX11_countOf_98 (by decide) rfl rfl (by decide) rfl fl_RX11_150 (congrFun (F 3 (by decide)).1 0) ?_
  refine g_iret dX11_countOf_101 rfl rfl ?_
  exact ⟨_, rfl, rfl, rfl⟩
set_option maxRecDepth 100000 in
theorem v_count4 (S : zs_S) (F : zs_F0 S) : zs_Ci MX11_countOf [.ref 0, .int (nI 4)] S (fun x S2 => x = nI 0 ∧ S = S2) := by
  refine zs_C.of (by decide) (Nat.le_of_ble_eq_true rfl) ?_
  show zs_P MX11_countOf 0 [(0, .ref 0), (1, .int (nI 4))] [] S _
  refine g_iload_n dX11_countOf_0 rfl rfl ?_
  refine g_tin (off := 101) 102 dX11_countOf_1 (by decide) (by decide) (by decide +kernel) (by decide) ?_
  refine g_aload_n dX11_countOf_102 rfl rfl ?_
  refine g_getR 0 (1) (C := RX11) (T := TX11) (N := 18) dX11_countOf_103 (by decide) rfl rfl (by decide) rfl fl_RX11_10 ?_
  refine g_getR 4 (3) (C := RX6) (T := TX6) (N := 9) dX11_countOf_106 (by decide) rfl rfl (by decide) rfl fl_RX11_137 ?_
  refine g_getV 1 (C := RX3) (T := TX3) (N := 6) (v := (nI 0)) dX11_countOf_109 (by decide) rfl rfl (by decide) rfl fl_RX11_140 (congrFun (F 3 (by decide)).1 1) ?_
  refine g_iret dX11_countOf_112 rfl rfl ?_
  exact ⟨_, rfl, rfl, rfl⟩
set_option maxRecDepth 100000 in
theorem v_count5 (S : zs_S) (F : zs_F0 S) : zs_Ci MX11_countOf [.ref 0, .int (nI 5)] S (fun x S2 => x = nI 0 ∧ S = S2) := by
  refine zs_C.of (by decide) (Nat.le_of_ble_eq_true rfl) ?_
  show zs_P MX11_countOf 0 [(0, .ref 0), (1, .int (nI 5))] [] S _
  refine g_iload_n dX11_countOf_0 rfl rfl ?_
  refine g_tin (off := 112) 113 dX11_countOf_1 (by decide) (by decide) (by decide +kernel) (by decide) ?_
  refine g_aload_n dX11_countOf_113 rfl rfl ?_
  refine g_getR 0 (1) (C := RX11) (T := TX11) (N := 18) dX11_countOf_114 (by decide) rfl rfl (by decide) rfl fl_RX11_10 ?_
  refine g_getV 2 (C := RX6) (T := TX6) (N := 9) (v := (nI 0)) dX11_countOf_117 (by decide) rfl rfl (by decide) rfl fl_RX11_90 (congrFun (F 1 (by decide)).1 2) ?_
  refine g_iret dX11_countOf_120 rfl rfl ?_
  exact ⟨_, rfl, rfl, rfl⟩
set_option maxRecDepth 100000 in
theorem v_count6 (S : zs_S) (F : zs_F0 S) : zs_Ci MX11_countOf [.ref 0, .int (nI 6)] S (fun x S2 => x = nI 0 ∧ S = S2) := by
  refine zs_C.of (by decide) (Nat.le_of_ble_eq_true rfl) ?_
  show zs_P MX11_countOf 0 [(0, .ref 0), (1, .int (nI 6))] [] S _
  refine g_iload_n dX11_countOf_0 rfl rfl ?_
  refine g_tin (off := 120) 121 dX11_countOf_1 (by decide) (by decide) (by decide +kernel) (by decide) ?_
  refine g_aload_n dX11_countOf_121 rfl rfl ?_
  refine g_getR 0 (1) (C := RX11) (T := TX11) (N := 18) dX11_countOf_122 (by decide) rfl rfl (by decide) rfl fl_RX11_10 ?_
  refine g_aload_n dX11_countOf_125 rfl rfl ?_
  refine g_getR 0 (1) (C := RX11) (T := TX11) (N := 18) dX11_countOf_126 (by decide) rfl rfl (by decide) rfl fl_RX11_10 ?_
  refine g_getR 4 (3) (C := RX6) (T := TX6) (N := 9) dX11_countOf_129 (by decide) rfl rfl (by decide) rfl fl_RX11_137 ?_
  refine g_callV (T := TX6) (NN := 9) [] (v_moves3 S (congrFun (F 1 (by decide)).1 2)) dX11_countOf_132 kk_X11_countOf_X6_movesTogether ml_RX11_301 mwX6_movesTogether ewX6_movesTogether (by decide) rfl rfl rfl rfl (Nat.le_of_ble_eq_true rfl) ?_
  rintro _ _ ⟨_, rfl, rfl, rfl⟩
  refine g_iret dX11_countOf_135 rfl rfl ?_
  exact ⟨_, rfl, rfl, rfl⟩
set_option maxRecDepth 100000 in
theorem v_count7 (S : zs_S) (F : zs_F0 S) : zs_Ci MX11_countOf [.ref 0, .int (nI 7)] S (fun x S2 => x = nI 0 ∧ S = S2) := by
  refine zs_C.of (by decide) (Nat.le_of_ble_eq_true rfl) ?_
  show zs_P MX11_countOf 0 [(0, .ref 0), (1, .int (nI 7))] [] S _
  refine g_iload_n dX11_countOf_0 rfl rfl ?_
  refine g_tin (off := 135) 136 dX11_countOf_1 (by decide) (by decide) (by decide +kernel) (by decide) ?_
  refine g_aload_n dX11_countOf_136 rfl rfl ?_
  refine g_getR 0 (1) (C := RX11) (T := TX11) (N := 18) dX11_countOf_137 (by decide) rfl rfl (by decide) rfl fl_RX11_10 ?_
  refine g_getR 6 (9) (C := RX6) (T := TX6) (N := 9) dX11_countOf_140 (by decide) rfl rfl (by decide) rfl fl_RX11_223 ?_
  refine g_getV 2 (C := RX5) (T := TX5) (N := 3) (v := (nI 0)) dX11_countOf_143 (by decide) rfl rfl (by decide) rfl fl_RX11_348 (congrFun (F 9 (by decide)).1 2) ?_
  refine g_iret dX11_countOf_146 rfl rfl ?_
  exact ⟨_, rfl, rfl, rfl⟩
set_option maxRecDepth 100000 in
theorem v_count8 (S : zs_S) (F : zs_F0 S) : zs_Ci MX11_countOf [.ref 0, .int (nI 8)] S (fun x S2 => x = nI 0 ∧ S = S2) := by
  refine zs_C.of (by decide) (Nat.le_of_ble_eq_true rfl) ?_
  show zs_P MX11_countOf 0 [(0, .ref 0), (1, .int (nI 8))] [] S _
  refine g_iload_n dX11_countOf_0 rfl rfl ?_
  refine g_tin (off := 146) 147 dX11_countOf_1 (by decide) (by decide) (by decide +kernel) (by decide) ?_
  refine g_aload_n dX11_countOf_147 rfl rfl ?_
  refine g_getR 0 (1) (C := RX11) (T := TX11) (N := 18) dX11_countOf_148 (by decide) rfl rfl (by decide) rfl fl_RX11_10 ?_
  refine g_getR 7 (11) (C := RX6) (T := TX6) (N := 9) dX11_countOf_151 (by decide) rfl rfl (by decide) rfl fl_RX11_248 ?_
  refine g_getV 2 (C := RX5) (T := TX5) (N := 3) (v := (nI 0)) dX11_countOf_154 (by decide) rfl rfl (by decide) rfl fl_RX11_348 (congrFun (F 11 (by decide)).1 2) ?_
  refine g_iret dX11_countOf_157 rfl rfl ?_
  exact ⟨_, rfl, rfl, rfl⟩
set_option maxRecDepth 100000 in
theorem v_count9 (S : zs_S) (F : zs_F0 S) : zs_Ci MX11_countOf [.ref 0, .int (nI 9)] S (fun x S2 => x = nI 0 ∧ S = S2) := by
  refine zs_C.of (by decide) (Nat.le_of_ble_eq_true rfl) ?_
  show zs_P MX11_countOf 0 [(0, .ref 0), (1, .int (nI 9))] [] S _
  refine g_iload_n dX11_countOf_0 rfl rfl ?_
  refine g_tin (off := 157) 158 dX11_countOf_1 (by decide) (by decide) (by decide +kernel) (by decide) ?_
  refine g_aload_n dX11_countOf_158 rfl rfl ?_
  refine g_getR 0 (1) (C := RX11) (T := TX11) (N := 18) dX11_countOf_159 (by decide) rfl rfl (by decide) rfl fl_RX11_10 ?_
  refine g_getR 8 (13) (C := RX6) (T := TX6) (N := 9) dX11_countOf_162 (by decide) rfl rfl (by decide) rfl fl_RX11_251 ?_
  refine g_getV 2 (C := RX5) (T := TX5) (N := 3) (v := (nI 0)) dX11_countOf_165 (by decide) rfl rfl (by decide) rfl fl_RX11_348 (congrFun (F 13 (by decide)).1 2) ?_
  refine g_iret dX11_countOf_168 rfl rfl ?_
  exact ⟨_, rfl, rfl, rfl⟩
set_option maxRecDepth 100000 in
theorem v_count10 (S : zs_S) (F : zs_F0 S) : zs_Ci MX11_countOf [.ref 0, .int (nI 10)] S (fun x S2 => x = nI 0 ∧ S = S2) := by
  refine zs_C.of (by decide) (Nat.le_of_ble_eq_true rfl) ?_
  show zs_P MX11_countOf 0 [(0, .ref 0), (1, .int (nI 10))] [] S _
  refine g_iload_n dX11_countOf_0 rfl rfl ?_
  refine g_tin (off := 168) 169 dX11_countOf_1 (by decide) (by decide) (by decide +kernel) (by decide) ?_
  refine g_aload_n dX11_countOf_169 rfl rfl ?_
  refine g_getR 0 (1) (C := RX11) (T := TX11) (N := 18) dX11_countOf_170 (by decide) rfl rfl (by decide) rfl fl_RX11_10 ?_
  refine g_getR 5 (7) (C := RX6) (T := TX6) (N := 9) dX11_countOf_173 (by decide) rfl rfl (by decide) rfl fl_RX11_101 ?_
  refine g_getV 1 (C := RX4) (T := TX4) (N := 2) (v := (nI 0)) dX11_countOf_176 (by decide) rfl rfl (by decide) rfl fl_RX11_176 (congrFun (F 7 (by decide)).1 1) ?_
  refine g_iret dX11_countOf_179 rfl rfl ?_
  exact ⟨_, rfl, rfl, rfl⟩
set_option maxRecDepth 100000 in
theorem v_count11 (S : zs_S) (F : zs_F0 S) : zs_Ci MX11_countOf [.ref 0, .int (nI 11)] S (fun x S2 => x = nI 0 ∧ S = S2) := by
  refine zs_C.of (by decide) (Nat.le_of_ble_eq_true rfl) ?_
  show zs_P MX11_countOf 0 [(0, .ref 0), (1, .int (nI 11))] [] S _
  refine g_iload_n dX11_countOf_0 rfl rfl ?_
  refine g_tin (off := 179) 180 dX11_countOf_1 (by decide) (by decide) (by decide +kernel) (by decide) ?_
  refine g_aload_n dX11_countOf_180 rfl rfl ?_
  refine g_getR 5 (43) (C := RX11) (T := TX11) (N := 18) dX11_countOf_181 (by decide) rfl rfl (by decide) rfl fl_RX11_25 ?_
  refine g_getV 1 (C := RX10) (T := TX10) (N := 8) (v := (nI 0)) dX11_countOf_184 (by decide) rfl rfl (by decide) rfl fl_RX11_384 (congrFun (F 43 (by decide)).1 1) ?_
  refine g_iret dX11_countOf_187 rfl rfl ?_
  exact ⟨_, rfl, rfl, rfl⟩
def zs_cn (w : Int32) : Int32 := if w = nI 0 then nI 2 else if w = nI 2 then nI 1 else nI 0
theorem v_countOf (S : zs_S) (F : zs_F0 S) (k : Nat) (hk : k ≤ 11) : zs_Ci MX11_countOf [.ref 0, .int (nI k)] S (fun x S2 => x = zs_cn (nI k) ∧ S = S2) := by
  match k, hk with
  | 0, _ => exact v_count0 S F
  | 1, _ => exact v_count1 S F
  | 2, _ => exact v_count2 S F
  | 3, _ => exact v_count3 S F
  | 4, _ => exact v_count4 S F
  | 5, _ => exact v_count5 S F
  | 6, _ => exact v_count6 S F
  | 7, _ => exact v_count7 S F
  | 8, _ => exact v_count8 S F
  | 9, _ => exact v_count9 S F
  | 10, _ => exact v_count10 S F
  | 11, _ => exact v_count11 S F
set_option maxRecDepth 100000 in
theorem t_count (S : zs_S) (F : zs_F0 S) (w : Int32) : zs_Ci MX11_count [.ref 0, .int w] S (fun x S2 => x = zs_if (nI 0 ≤ w ∧ w ≤ nI 11) (zs_cn w) (-2) ∧ zs_ch 0 80 S S2) := by
  refine zs_C.of (by decide) (Nat.le_of_ble_eq_true rfl) ?_
  show zs_P MX11_count 0 [(0, .ref 0), (1, .int w)] [] S _
  refine g_iload_n dX11_count_0 rfl rfl ?_
  refine g_iconst (v := (nI 0)) dX11_count_1 rfl ?_
  refine g_bipush (v := (nI 11)) dX11_count_2 rfl ?_
  refine g_callS [.int w, .int (nI 0), .int (nI 11)] [] (x_within S w (nI 0) (nI 11)) dX11_count_4 kk_X11_count_X11_within ml_RX11_75 swX11_within rfl rfl (Nat.le_of_ble_eq_true rfl) ?_
  rintro _ _ ⟨_, rfl, rfl, rfl⟩
  refine g_if_eq 18 dX11_count_7 (by decide) (fun h1 => ?_) (fun h1 => ?_)
  · have h1 := zs_b0 h1
    refine g_aload_n dX11_count_18 rfl rfl ?_
    refine g_bipush (v := (-2)) dX11_count_19 rfl ?_
    refine g_callV (T := TX11) (NN := 18) [] (x_refuseBad S (-2)) dX11_count_21 kk_X11_count_X11_refuseBad ml_RX11_86 mwX11_refuseBad ewX11_refuseBad (by decide) rfl rfl rfl rfl (Nat.le_of_ble_eq_true rfl) ?_
    rintro _ _ ⟨_, rfl, rfl, rfl⟩
    refine g_iret dX11_count_24 rfl rfl ?_
    exact ⟨_, rfl, (zs_ie h1).symm, (zs_ch.rf.up (by omega) (by omega))⟩
  · have h1 := zs_b1 h1
    obtain ⟨w', w'a, w'b, rfl⟩ := zs_rng h1 (by omega)
    refine g_aload_n dX11_count_10 rfl rfl ?_
    refine g_iload_n dX11_count_11 rfl rfl ?_
    refine g_callV (T := TX11) (NN := 18) [] (v_countOf S F w' (by omega)) dX11_count_12 kk_X11_count_X11_countOf ml_RX11_323 mwX11_countOf ewX11_countOf (by decide) rfl rfl rfl rfl (Nat.le_of_ble_eq_true rfl) ?_
    rintro _ _ ⟨_, rfl, rfl, rfl⟩
    refine g_goto 24 dX11_count_15 (by decide) ?_
    refine g_iret dX11_count_24 rfl rfl ?_
    exact ⟨_, rfl, (zs_it h1).symm, zs_ch.rf⟩
noncomputable def zs_jf (p : Prop) (a b : Int64) : Int64 := @ite Int64 p (Classical.propDecidable p) a b
theorem zs_jt {p : Prop} {a b : Int64} (h : p) : zs_jf p a b = a := by unfold zs_jf; exact if_pos h
theorem zs_je {p : Prop} {a b : Int64} (h : ¬ p) : zs_jf p a b = b := by unfold zs_jf; exact if_neg h
set_option maxRecDepth 100000 in
theorem t_part (S : zs_S) (F : zs_F0 S) (w : Int32) : zs_Cl MX11_part [.ref 0, .int w] S (fun x S2 => x = zs_jf (w = nI 0) 0 (zs_jf (w = nI 1) 1 (-2)) ∧ zs_ch 0 80 S S2) := by
  refine zs_C.of (by decide) (Nat.le_of_ble_eq_true rfl) ?_
  show zs_P MX11_part 0 [(0, .ref 0), (1, .int w)] [] S _
  refine g_iload_n dX11_part_0 rfl rfl ?_
  by_cases h0 : w = nI 0
  · subst h0
    refine g_lsw (off := 27) 28 dX11_part_1 (by decide) (by decide) (by decide) ?_
    refine g_aload_n dX11_part_28 rfl rfl ?_
    refine g_getL 6 (C := RX11) (T := TX11) (N := 18) dX11_part_29 (by decide) rfl rfl (by decide) rfl fl_RX11_304 ?_
    refine g_lret dX11_part_32 rfl ?_
    exact ⟨_, rfl, (congrFun (F 0 (by decide)).2 6).trans (zs_jt rfl).symm, zs_ch.rf⟩
  · by_cases h1 : w = nI 1
    · subst h1
      refine g_lsw (off := 32) 33 dX11_part_1 (by decide) (by decide) (by decide) ?_
      refine g_aload_n dX11_part_33 rfl rfl ?_
      refine g_getL 7 (C := RX11) (T := TX11) (N := 18) dX11_part_34 (by decide) rfl rfl (by decide) rfl fl_RX11_29 ?_
      refine g_lret dX11_part_37 rfl ?_
      exact ⟨_, rfl, (congrFun (F 0 (by decide)).2 7).trans ((zs_je (by decide)).trans (zs_jt rfl)).symm, zs_ch.rf⟩
    · refine g_lsw (off := 37) 38 dX11_part_1 (by decide) ((lv_osw (k := nI 0) h0 rfl).trans ((lv_osw (k := nI 1) h1 rfl).trans rfl)) (by decide) ?_
      refine g_aload_n dX11_part_38 rfl rfl ?_
      refine g_bipush (v := (-2)) dX11_part_39 rfl ?_
      refine g_callV (T := TX11) (NN := 18) [] (x_refuseBad S (-2)) dX11_part_41 kk_X11_part_X11_refuseBad ml_RX11_86 mwX11_refuseBad ewX11_refuseBad (by decide) rfl rfl rfl rfl (Nat.le_of_ble_eq_true rfl) ?_
      rintro _ _ ⟨_, rfl, rfl, rfl⟩
      refine g_i2l dX11_part_44 rfl ?_
      refine g_lret dX11_part_45 rfl ?_
      exact ⟨_, rfl, (show Int32.toInt64 (-2) = -2 by decide).trans ((zs_je h0).trans (zs_je h1)).symm, (zs_ch.rf.up (by omega) (by omega))⟩
def zs_dg : Int64 := (2047405926612350553)
set_option maxRecDepth 100000 in
theorem v_onto9 (S : zs_S) (v : Int64) (hz : S.1 9 2 = nI 0) : zs_Cl MX5_digestOnto [.ref 9, .long v] S (fun x S2 => x = v ∧ S = S2) := by
  refine zs_C.of (by decide) (Nat.le_of_ble_eq_true rfl) ?_
  show zs_P MX5_digestOnto 0 [(0, .ref 9), (1, .long v)] [] S _
  refine g_iconst (v := (nI 0)) dX5_digestOnto_0 rfl ?_
  refine g_istore_n (lv' := [(3, .int (nI 0)), (0, .ref 9), (1, .long v)]) dX5_digestOnto_1 rfl (by decide) rfl ?_
  refine g_iload_n dX5_digestOnto_2 rfl rfl ?_
  refine g_aload_n dX5_digestOnto_3 rfl rfl ?_
  refine g_getV 2 (C := RX5) (T := TX5) (N := 3) (v := (nI 0)) dX5_digestOnto_4 (by decide) rfl rfl (by decide) rfl fl_RX5_19 hz ?_
  refine g_ic_geN 49 dX5_digestOnto_7 (by decide) (by omega) (by omega) (fun _ => ?_) (fun z => absurd z (by omega))
  refine g_lload_n dX5_digestOnto_49 rfl rfl ?_
  refine g_lret dX5_digestOnto_50 rfl ?_
  exact ⟨_, rfl, rfl, rfl⟩
set_option maxRecDepth 100000 in
theorem v_onto11 (S : zs_S) (v : Int64) (hz : S.1 11 2 = nI 0) : zs_Cl MX5_digestOnto [.ref 11, .long v] S (fun x S2 => x = v ∧ S = S2) := by
  refine zs_C.of (by decide) (Nat.le_of_ble_eq_true rfl) ?_
  show zs_P MX5_digestOnto 0 [(0, .ref 11), (1, .long v)] [] S _
  refine g_iconst (v := (nI 0)) dX5_digestOnto_0 rfl ?_
  refine g_istore_n (lv' := [(3, .int (nI 0)), (0, .ref 11), (1, .long v)]) dX5_digestOnto_1 rfl (by decide) rfl ?_
  refine g_iload_n dX5_digestOnto_2 rfl rfl ?_
  refine g_aload_n dX5_digestOnto_3 rfl rfl ?_
  refine g_getV 2 (C := RX5) (T := TX5) (N := 3) (v := (nI 0)) dX5_digestOnto_4 (by decide) rfl rfl (by decide) rfl fl_RX5_19 hz ?_
  refine g_ic_geN 49 dX5_digestOnto_7 (by decide) (by omega) (by omega) (fun _ => ?_) (fun z => absurd z (by omega))
  refine g_lload_n dX5_digestOnto_49 rfl rfl ?_
  refine g_lret dX5_digestOnto_50 rfl ?_
  exact ⟨_, rfl, rfl, rfl⟩
set_option maxRecDepth 100000 in
theorem v_onto13 (S : zs_S) (v : Int64) (hz : S.1 13 2 = nI 0) : zs_Cl MX5_digestOnto [.ref 13, .long v] S (fun x S2 => x = v ∧ S = S2) := by
  refine zs_C.of (by decide) (Nat.le_of_ble_eq_true rfl) ?_
  show zs_P MX5_digestOnto 0 [(0, .ref 13), (1, .long v)] [] S _
  refine g_iconst (v := (nI 0)) dX5_digestOnto_0 rfl ?_
  refine g_istore_n (lv' := [(3, .int (nI 0)), (0, .ref 13), (1, .long v)]) dX5_digestOnto_1 rfl (by decide) rfl ?_
  refine g_iload_n dX5_digestOnto_2 rfl rfl ?_
  refine g_aload_n dX5_digestOnto_3 rfl rfl ?_
  refine g_getV 2 (C := RX5) (T := TX5) (N := 3) (v := (nI 0)) dX5_digestOnto_4 (by decide) rfl rfl (by decide) rfl fl_RX5_19 hz ?_
  refine g_ic_geN 49 dX5_digestOnto_7 (by decide) (by omega) (by omega) (fun _ => ?_) (fun z => absurd z (by omega))
  refine g_lload_n dX5_digestOnto_49 rfl rfl ?_
  refine g_lret dX5_digestOnto_50 rfl ?_
  exact ⟨_, rfl, rfl, rfl⟩
set_option maxRecDepth 100000 in
theorem t_digest (S : zs_S) (F : zs_F0 S)  : zs_Cl MX11_digest [.ref 0] S (fun x S2 => x = zs_dg ∧ zs_ch 0 80 S S2) := by
  refine zs_C.of (by decide) (Nat.le_of_ble_eq_true rfl) ?_
  show zs_P MX11_digest 0 [(0, .ref 0)] [] S _
  refine g_ldc2 (v := 1787) dX11_digest_0 cl_RX11_326 ?_
  refine g_lstore_n (lv' := [(1, .long 1787), (0, .ref 0)]) dX11_digest_3 rfl (by decide) rfl ?_
  refine g_iconst (v := (nI 0)) dX11_digest_4 rfl ?_
  refine g_istore_n (lv' := [(3, .int (nI 0)), (1, .long 1787), (0, .ref 0)]) dX11_digest_5 rfl (by decide) rfl ?_
  refine g_iload_n dX11_digest_6 rfl rfl ?_
  refine g_bipush (v := (nI 12)) dX11_digest_7 rfl ?_
  refine g_ic_geN 31 dX11_digest_9 (by decide) (by omega) (by omega) (fun z => absurd z (by omega)) (fun _ => ?_)
  refine g_ldc2 (v := 31) dX11_digest_12 cl_RX11_328 ?_
  refine g_lload_n dX11_digest_15 rfl rfl ?_
  refine g_lmul dX11_digest_16 ?_
  refine g_aload_n dX11_digest_17 rfl rfl ?_
  refine g_iload_n dX11_digest_18 rfl rfl ?_
  refine g_callV (T := TX11) (NN := 18) [.long (31 * 1787)] (v_count0 S F) dX11_digest_19 kk_X11_digest_X11_countOf ml_RX11_323 mwX11_countOf ewX11_countOf (by decide) rfl rfl rfl rfl (Nat.le_of_ble_eq_true rfl) ?_
  rintro _ _ ⟨_, rfl, rfl, rfl⟩
  refine g_i2l dX11_digest_22 rfl ?_
  refine g_ladd dX11_digest_23 ?_
  refine g_lstore_n (lv' := [(1, .long ((31 * 1787) + (Int32.toInt64 (nI 2)))), (3, .int (nI 0)), (0, .ref 0)]) dX11_digest_24 rfl (by decide) rfl ?_
  refine g_iinc (v := (nI (0 + 1))) (lv' := [(3, .int (nI (0 + 1))), (1, .long ((31 * 1787) + (Int32.toInt64 (nI 2)))), (0, .ref 0)]) dX11_digest_25 rfl (nI_1 0) (by decide) rfl ?_
  refine g_goto 6 dX11_digest_28 (by decide) ?_
  refine g_iload_n dX11_digest_6 rfl rfl ?_
  refine g_bipush (v := (nI 12)) dX11_digest_7 rfl ?_
  refine g_ic_geN 31 dX11_digest_9 (by decide) (by omega) (by omega) (fun z => absurd z (by omega)) (fun _ => ?_)
  refine g_ldc2 (v := 31) dX11_digest_12 cl_RX11_328 ?_
  refine g_lload_n dX11_digest_15 rfl rfl ?_
  refine g_lmul dX11_digest_16 ?_
  refine g_aload_n dX11_digest_17 rfl rfl ?_
  refine g_iload_n dX11_digest_18 rfl rfl ?_
  refine g_callV (T := TX11) (NN := 18) [.long (31 * ((31 * 1787) + (Int32.toInt64 (nI 2))))] (v_count1 S F) dX11_digest_19 kk_X11_digest_X11_countOf ml_RX11_323 mwX11_countOf ewX11_countOf (by decide) rfl rfl rfl rfl (Nat.le_of_ble_eq_true rfl) ?_
  rintro _ _ ⟨_, rfl, rfl, rfl⟩
  refine g_i2l dX11_digest_22 rfl ?_
  refine g_ladd dX11_digest_23 ?_
  refine g_lstore_n (lv' := [(1, .long ((31 * ((31 * 1787) + (Int32.toInt64 (nI 2)))) + (Int32.toInt64 (nI 0)))), (3, .int (nI (0 + 1))), (0, .ref 0)]) dX11_digest_24 rfl (by decide) rfl ?_
  refine g_iinc (v := (nI (0 + 1 + 1))) (lv' := [(3, .int (nI (0 + 1 + 1))), (1, .long ((31 * ((31 * 1787) + (Int32.toInt64 (nI 2)))) + (Int32.toInt64 (nI 0)))), (0, .ref 0)]) dX11_digest_25 rfl (nI_1 (0 + 1)) (by decide) rfl ?_
  refine g_goto 6 dX11_digest_28 (by decide) ?_
  refine g_iload_n dX11_digest_6 rfl rfl ?_
  refine g_bipush (v := (nI 12)) dX11_digest_7 rfl ?_
  refine g_ic_geN 31 dX11_digest_9 (by decide) (by omega) (by omega) (fun z => absurd z (by omega)) (fun _ => ?_)
  refine g_ldc2 (v := 31) dX11_digest_12 cl_RX11_328 ?_
  refine g_lload_n dX11_digest_15 rfl rfl ?_
  refine g_lmul dX11_digest_16 ?_
  refine g_aload_n dX11_digest_17 rfl rfl ?_
  refine g_iload_n dX11_digest_18 rfl rfl ?_
  refine g_callV (T := TX11) (NN := 18) [.long (31 * ((31 * ((31 * 1787) + (Int32.toInt64 (nI 2)))) + (Int32.toInt64 (nI 0))))] (v_count2 S F) dX11_digest_19 kk_X11_digest_X11_countOf ml_RX11_323 mwX11_countOf ewX11_countOf (by decide) rfl rfl rfl rfl (Nat.le_of_ble_eq_true rfl) ?_
  rintro _ _ ⟨_, rfl, rfl, rfl⟩
  refine g_i2l dX11_digest_22 rfl ?_
  refine g_ladd dX11_digest_23 ?_
  refine g_lstore_n (lv' := [(1, .long ((31 * ((31 * ((31 * 1787) + (Int32.toInt64 (nI 2)))) + (Int32.toInt64 (nI 0)))) + (Int32.toInt64 (nI 1)))), (3, .int (nI (0 + 1 + 1))), (0, .ref 0)]) dX11_digest_24 rfl (by decide) rfl ?_
  refine g_iinc (v := (nI (0 + 1 + 1 + 1))) (lv' := [(3, .int (nI (0 + 1 + 1 + 1))), (1, .long ((31 * ((31 * ((31 * 1787) + (Int32.toInt64 (nI 2)))) + (Int32.toInt64 (nI 0)))) + (Int32.toInt64 (nI 1)))), (0, .ref 0)]) dX11_digest_25 rfl (nI_1 (0 + 1 + 1)) (by decide) rfl ?_
  refine g_goto 6 dX11_digest_28 (by decide) ?_
  refine g_iload_n dX11_digest_6 rfl rfl ?_
  refine g_bipush (v := (nI 12)) dX11_digest_7 rfl ?_
  refine g_ic_geN 31 dX11_digest_9 (by decide) (by omega) (by omega) (fun z => absurd z (by omega)) (fun _ => ?_)
  refine g_ldc2 (v := 31) dX11_digest_12 cl_RX11_328 ?_
  refine g_lload_n dX11_digest_15 rfl rfl ?_
  refine g_lmul dX11_digest_16 ?_
  refine g_aload_n dX11_digest_17 rfl rfl ?_
  refine g_iload_n dX11_digest_18 rfl rfl ?_
  refine g_callV (T := TX11) (NN := 18) [.long (31 * ((31 * ((31 * ((31 * 1787) + (Int32.toInt64 (nI 2)))) + (Int32.toInt64 (nI 0)))) + (Int32.toInt64 (nI 1))))] (v_count3 S F) dX11_digest_19 kk_X11_digest_X11_countOf ml_RX11_323 mwX11_countOf ewX11_countOf (by decide) rfl rfl rfl rfl (Nat.le_of_ble_eq_true rfl) ?_
  rintro _ _ ⟨_, rfl, rfl, rfl⟩
  refine g_i2l dX11_digest_22 rfl ?_
  refine g_ladd dX11_digest_23 ?_
  refine g_lstore_n (lv' := [(1, .long ((31 * ((31 * ((31 * ((31 * 1787) + (Int32.toInt64 (nI 2)))) + (Int32.toInt64 (nI 0)))) + (Int32.toInt64 (nI 1)))) + (Int32.toInt64 (nI 0)))), (3, .int (nI (0 + 1 + 1 + 1))), (0, .ref 0)]) dX11_digest_24 rfl (by decide) rfl ?_
  refine g_iinc (v := (nI (0 + 1 + 1 + 1 + 1))) (lv' := [(3, .int (nI (0 + 1 + 1 + 1 + 1))), (1, .long ((31 * ((31 * ((31 * ((31 * 1787) + (Int32.toInt64 (nI 2)))) + (Int32.toInt64 (nI 0)))) + (Int32.toInt64 (nI 1)))) + (Int32.toInt64 (nI 0)))), (0, .ref 0)]) dX11_digest_25 rfl (nI_1 (0 + 1 + 1 + 1)) (by decide) rfl ?_
  refine g_goto 6 dX11_digest_28 (by decide) ?_
  refine g_iload_n dX11_digest_6 rfl rfl ?_
  refine g_bipush (v := (nI 12)) dX11_digest_7 rfl ?_
  refine g_ic_geN 31 dX11_digest_9 (by decide) (by omega) (by omega) (fun z => absurd z (by omega)) (fun _ => ?_)
  refine g_ldc2 (v := 31) dX11_digest_12 cl_RX11_328 ?_
  refine g_lload_n dX11_digest_15 rfl rfl ?_
  refine g_lmul dX11_digest_16 ?_
  refine g_aload_n dX11_digest_17 rfl rfl ?_
  refine g_iload_n dX11_digest_18 rfl rfl ?_
  refine g_callV (T := TX11) (NN := 18) [.long (31 * ((31 * ((31 * ((31 * ((31 * 1787) + (Int32.toInt64 (nI 2)))) + (Int32.toInt64 (nI 0)))) + (Int32.toInt64 (nI 1)))) + (Int32.toInt64 (nI 0))))] (v_count4 S F) dX11_digest_19 kk_X11_digest_X11_countOf ml_RX11_323 mwX11_countOf ewX11_countOf (by decide) rfl rfl rfl rfl (Nat.le_of_ble_eq_true rfl) ?_
  rintro _ _ ⟨_, rfl, rfl, rfl⟩
  refine g_i2l dX11_digest_22 rfl ?_
  refine g_ladd dX11_digest_23 ?_
  refine g_lstore_n (lv' := [(1, .long ((31 * ((31 * ((31 * ((31 * ((31 * 1787) + (Int32.toInt64 (nI 2)))) + (Int32.toInt64 (nI 0)))) + (Int32.toInt64 (nI 1)))) + (Int32.toInt64 (nI 0)))) + (Int32.toInt64 (nI 0)))), (3, .int (nI (0 + 1 + 1 + 1 + 1))), (0, .ref 0)]) dX11_digest_24 rfl (by decide) rfl ?_
  refine g_iinc (v := (nI (0 + 1 + 1 + 1 + 1 + 1))) (lv' := [(3, .int (nI (0 + 1 + 1 + 1 + 1 + 1))), (1, .long ((31 * ((31 * ((31 * ((31 * ((31 * 1787) + (Int32.toInt64 (nI 2)))) + (Int32.toInt64 (nI 0)))) + (Int32.toInt64 (nI 1)))) + (Int32.toInt64 (nI 0)))) + (Int32.toInt64 (nI 0)))), (0, .ref 0)]) dX11_digest_25 rfl (nI_1 (0 + 1 + 1 + 1 + 1)) (by decide) rfl ?_
  refine g_goto 6 dX11_digest_28 (by decide) ?_
  refine g_iload_n dX11_digest_6 rfl rfl ?_
  refine g_bipush (v := (nI 12)) dX11_digest_7 rfl ?_
  refine g_ic_geN 31 dX11_digest_9 (by decide) (by omega) (by omega) (fun z => absurd z (by omega)) (fun _ => ?_)
  refine g_ldc2 (v := 31) dX11_digest_12 cl_RX11_328 ?_
  refine g_lload_n dX11_digest_15 rfl rfl ?_
  refine g_lmul dX11_digest_16 ?_
  refine g_aload_n dX11_digest_17 rfl rfl ?_
  refine g_iload_n dX11_digest_18 rfl rfl ?_
  refine g_callV (T := TX11) (NN := 18) [.long (31 * ((31 * ((31 * ((31 * ((31 * ((31 * 1787) + (Int32.toInt64 (nI 2)))) + (Int32.toInt64 (nI 0)))) + (Int32.toInt64 (nI 1)))) + (Int32.toInt64 (nI 0)))) + (Int32.toInt64 (nI 0))))] (v_count5 S F) dX11_digest_19 kk_X11_digest_X11_countOf ml_RX11_323 mwX11_countOf ewX11_countOf (by decide) rfl rfl rfl rfl (Nat.le_of_ble_eq_true rfl) ?_
  rintro _ _ ⟨_, rfl, rfl, rfl⟩
  refine g_i2l dX11_digest_22 rfl ?_
  refine g_ladd dX11_digest_23 ?_
  refine g_lstore_n (lv' := [(1, .long ((31 * ((31 * ((31 * ((31 * ((31 * ((31 * 1787) + (Int32.toInt64 (nI 2)))) + (Int32.toInt64 (nI 0)))) + (Int32.toInt64 (nI 1)))) + (Int32.toInt64 (nI 0)))) + (Int32.toInt64 (nI 0)))) + (Int32.toInt64 (nI 0)))), (3, .int (nI (0 + 1 + 1 + 1 + 1 + 1))), (0, .ref 0)]) dX11_digest_24 rfl (by decide) rfl ?_
  refine g_iinc (v := (nI (0 + 1 + 1 + 1 + 1 + 1 + 1))) (lv' := [(3, .int (nI (0 + 1 + 1 + 1 + 1 + 1 + 1))), (1, .long ((31 * ((31 * ((31 * ((31 * ((31 * ((31 * 1787) + (Int32.toInt64 (nI 2)))) + (Int32.toInt64 (nI 0)))) + (Int32.toInt64 (nI 1)))) + (Int32.toInt64 (nI 0)))) + (Int32.toInt64 (nI 0)))) + (Int32.toInt64 (nI 0)))), (0, .ref 0)]) dX11_digest_25 rfl (nI_1 (0 + 1 + 1 + 1 + 1 + 1)) (by decide) rfl ?_
  refine g_goto 6 dX11_digest_28 (by decide) ?_
  refine g_iload_n dX11_digest_6 rfl rfl ?_
  refine g_bipush (v := (nI 12)) dX11_digest_7 rfl ?_
  refine g_ic_geN 31 dX11_digest_9 (by decide) (by omega) (by omega) (fun z => absurd z (by omega)) (fun _ => ?_)
  refine g_ldc2 (v := 31) dX11_digest_12 cl_RX11_328 ?_
  refine g_lload_n dX11_digest_15 rfl rfl ?_
  refine g_lmul dX11_digest_16 ?_
  refine g_aload_n dX11_digest_17 rfl rfl ?_
  refine g_iload_n dX11_digest_18 rfl rfl ?_
  refine g_callV (T := TX11) (NN := 18) [.long (31 * ((31 * ((31 * ((31 * ((31 * ((31 * ((31 * 1787) + (Int32.toInt64 (nI 2)))) + (Int32.toInt64 (nI 0)))) + (Int32.toInt64 (nI 1)))) + (Int32.toInt64 (nI 0)))) + (Int32.toInt64 (nI 0)))) + (Int32.toInt64 (nI 0))))] (v_count6 S F) dX11_digest_19 kk_X11_digest_X11_countOf ml_RX11_323 mwX11_countOf ewX11_countOf (by decide) rfl rfl rfl rfl (Nat.le_of_ble_eq_true rfl) ?_
  rintro _ _ ⟨_, rfl, rfl, rfl⟩
  refine g_i2l dX11_digest_22 rfl ?_
  refine g_ladd dX11_digest_23 ?_
  refine g_lstore_n (lv' := [(1, .long ((31 * ((31 * ((31 * ((31 * ((31 * ((31 * ((31 * 1787) + (Int32.toInt64 (nI 2)))) + (Int32.toInt64 (nI 0)))) + (Int32.toInt64 (nI 1)))) + (Int32.toInt64 (nI 0)))) + (Int32.toInt64 (nI 0)))) + (Int32.toInt64 (nI 0)))) + (Int32.toInt64 (nI 0)))), (3, .int (nI (0 + 1 + 1 + 1 + 1 + 1 + 1))), (0, .ref 0)]) dX11_digest_24 rfl (by decide) rfl ?_
  refine g_iinc (v := (nI (0 + 1 + 1 + 1 + 1 + 1 + 1 + 1))) (lv' := [(3, .int (nI (0 + 1 + 1 + 1 + 1 + 1 + 1 + 1))), (1, .long ((31 * ((31 * ((31 * ((31 * ((31 * ((31 * ((31 * 1787) + (Int32.toInt64 (nI 2)))) + (Int32.toInt64 (nI 0)))) + (Int32.toInt64 (nI 1)))) + (Int32.toInt64 (nI 0)))) + (Int32.toInt64 (nI 0)))) + (Int32.toInt64 (nI 0)))) + (Int32.toInt64 (nI 0)))), (0, .ref 0)]) dX11_digest_25 rfl (nI_1 (0 + 1 + 1 + 1 + 1 + 1 + 1)) (by decide) rfl ?_
  refine g_goto 6 dX11_digest_28 (by decide) ?_
  refine g_iload_n dX11_digest_6 rfl rfl ?_
  refine g_bipush (v := (nI 12)) dX11_digest_7 rfl ?_
  refine g_ic_geN 31 dX11_digest_9 (by decide) (by omega) (by omega) (fun z => absurd z (by omega)) (fun _ => ?_)
  refine g_ldc2 (v := 31) dX11_digest_12 cl_RX11_328 ?_
  refine g_lload_n dX11_digest_15 rfl rfl ?_
  refine g_lmul dX11_digest_16 ?_
  refine g_aload_n dX11_digest_17 rfl rfl ?_
  refine g_iload_n dX11_digest_18 rfl rfl ?_
  refine g_callV (T := TX11) (NN := 18) [.long (31 * ((31 * ((31 * ((31 * ((31 * ((31 * ((31 * ((31 * 1787) + (Int32.toInt64 (nI 2)))) + (Int32.toInt64 (nI 0)))) + (Int32.toInt64 (nI 1)))) + (Int32.toInt64 (nI 0)))) + (Int32.toInt64 (nI 0)))) + (Int32.toInt64 (nI 0)))) + (Int32.toInt64 (nI 0))))] (v_count7 S F) dX11_digest_19 kk_X11_digest_X11_countOf ml_RX11_323 mwX11_countOf ewX11_countOf (by decide) rfl rfl rfl rfl (Nat.le_of_ble_eq_true rfl) ?_
  rintro _ _ ⟨_, rfl, rfl, rfl⟩
  refine g_i2l dX11_digest_22 rfl ?_
  refine g_ladd dX11_digest_23 ?_
  refine g_lstore_n (lv' := [(1, .long ((31 * ((31 * ((31 * ((31 * ((31 * ((31 * ((31 * ((31 * 1787) + (Int32.toInt64 (nI 2)))) + (Int32.toInt64 (nI 0)))) + (Int32.toInt64 (nI 1)))) + (Int32.toInt64 (nI 0)))) + (Int32.toInt64 (nI 0)))) + (Int32.toInt64 (nI 0)))) + (Int32.toInt64 (nI 0)))) + (Int32.toInt64 (nI 0)))), (3, .int (nI (0 + 1 + 1 + 1 + 1 + 1 + 1 + 1))), (0, .ref 0)]) dX11_digest_24 rfl (by decide) rfl ?_
  refine g_iinc (v := (nI (0 + 1 + 1 + 1 + 1 + 1 + 1 + 1 + 1))) (lv' := [(3, .int (nI (0 + 1 + 1 + 1 + 1 + 1 + 1 + 1 + 1))), (1, .long ((31 * ((31 * ((31 * ((31 * ((31 * ((31 * ((31 * ((31 * 1787) + (Int32.toInt64 (nI 2)))) + (Int32.toInt64 (nI 0)))) + (Int32.toInt64 (nI 1)))) + (Int32.toInt64 (nI 0)))) + (Int32.toInt64 (nI 0)))) + (Int32.toInt64 (nI 0)))) + (Int32.toInt64 (nI 0)))) + (Int32.toInt64 (nI 0)))), (0, .ref 0)]) dX11_digest_25 rfl (nI_1 (0 + 1 + 1 + 1 + 1 + 1 + 1 + 1)) (by decide) rfl ?_
  refine g_goto 6 dX11_digest_28 (by decide) ?_
  refine g_iload_n dX11_digest_6 rfl rfl ?_
  refine g_bipush (v := (nI 12)) dX11_digest_7 rfl ?_
  refine g_ic_geN 31 dX11_digest_9 (by decide) (by omega) (by omega) (fun z => absurd z (by omega)) (fun _ => ?_)
  refine g_ldc2 (v := 31) dX11_digest_12 cl_RX11_328 ?_
  refine g_lload_n dX11_digest_15 rfl rfl ?_
  refine g_lmul dX11_digest_16 ?_
  refine g_aload_n dX11_digest_17 rfl rfl ?_
  refine g_iload_n dX11_digest_18 rfl rfl ?_
  refine g_callV (T := TX11) (NN := 18) [.long (31 * ((31 * ((31 * ((31 * ((31 * ((31 * ((31 * ((31 * ((31 * 1787) + (Int32.toInt64 (nI 2)))) + (Int32.toInt64 (nI 0)))) + (Int32.toInt64 (nI 1)))) + (Int32.toInt64 (nI 0)))) + (Int32.toInt64 (nI 0)))) + (Int32.toInt64 (nI 0)))) + (Int32.toInt64 (nI 0)))) + (Int32.toInt64 (nI 0))))] (v_count8 S F) dX11_digest_19 kk_X11_digest_X11_countOf ml_RX11_323 mwX11_countOf ewX11_countOf (by decide) rfl rfl rfl rfl (Nat.le_of_ble_eq_true rfl) ?_
  rintro _ _ ⟨_, rfl, rfl, rfl⟩
  refine g_i2l dX11_digest_22 rfl ?_
  refine g_ladd dX11_digest_23 ?_
  refine g_lstore_n (lv' := [(1, .long ((31 * ((31 * ((31 * ((31 * ((31 * ((31 * ((31 * ((31 * ((31 * 1787) + (Int32.toInt64 (nI 2)))) + (Int32.toInt64 (nI 0)))) + (Int32.toInt64 (nI 1)))) + (Int32.toInt64 (nI 0)))) + (Int32.toInt64 (nI 0)))) + (Int32.toInt64 (nI 0)))) + (Int32.toInt64 (nI 0)))) + (Int32.toInt64 (nI 0)))) + (Int32.toInt64 (nI 0)))), (3, .int (nI (0 + 1 + 1 + 1 + 1 + 1 + 1 + 1 + 1))), (0, .ref 0)]) dX11_digest_24 rfl (by decide) rfl ?_
  refine g_iinc (v := (nI (0 + 1 + 1 + 1 + 1 + 1 + 1 + 1 + 1 + 1))) (lv' := [(3, .int (nI (0 + 1 + 1 + 1 + 1 + 1 + 1 + 1 + 1 + 1))), (1, .long ((31 * ((31 * ((31 * ((31 * ((31 * ((31 * ((31 * ((31 * ((31 * 1787) + (Int32.toInt64 (nI 2)))) + (Int32.toInt64 (nI 0)))) + (Int32.toInt64 (nI 1)))) + (Int32.toInt64 (nI 0)))) + (Int32.toInt64 (nI 0)))) + (Int32.toInt64 (nI 0)))) + (Int32.toInt64 (nI 0)))) + (Int32.toInt64 (nI 0)))) + (Int32.toInt64 (nI 0)))), (0, .ref 0)]) dX11_digest_25 rfl (nI_1 (0 + 1 + 1 + 1 + 1 + 1 + 1 + 1 + 1)) (by decide) rfl ?_
  refine g_goto 6 dX11_digest_28 (by decide) ?_
  refine g_iload_n dX11_digest_6 rfl rfl ?_
  refine g_bipush (v := (nI 12)) dX11_digest_7 rfl ?_
  refine g_ic_geN 31 dX11_digest_9 (by decide) (by omega) (by omega) (fun z => absurd z (by omega)) (fun _ => ?_)
  refine g_ldc2 (v := 31) dX11_digest_12 cl_RX11_328 ?_
  refine g_lload_n dX11_digest_15 rfl rfl ?_
  refine g_lmul dX11_digest_16 ?_
  refine g_aload_n dX11_digest_17 rfl rfl ?_
  refine g_iload_n dX11_digest_18 rfl rfl ?_
  refine g_callV (T := TX11) (NN := 18) [.long (31 * ((31 * ((31 * ((31 * ((31 * ((31 * ((31 * ((31 * ((31 * ((31 * 1787) + (Int32.toInt64 (nI 2)))) + (Int32.toInt64 (nI 0)))) + (Int32.toInt64 (nI 1)))) + (Int32.toInt64 (nI 0)))) + (Int32.toInt64 (nI 0)))) + (Int32.toInt64 (nI 0)))) + (Int32.toInt64 (nI 0)))) + (Int32.toInt64 (nI 0)))) + (Int32.toInt64 (nI 0))))] (v_count9 S F) dX11_digest_19 kk_X11_digest_X11_countOf ml_RX11_323 mwX11_countOf ewX11_countOf (by decide) rfl rfl rfl rfl (Nat.le_of_ble_eq_true rfl) ?_
  rintro _ _ ⟨_, rfl, rfl, rfl⟩
  refine g_i2l dX11_digest_22 rfl ?_
  refine g_ladd dX11_digest_23 ?_
  refine g_lstore_n (lv' := [(1, .long ((31 * ((31 * ((31 * ((31 * ((31 * ((31 * ((31 * ((31 * ((31 * ((31 * 1787) + (Int32.toInt64 (nI 2)))) + (Int32.toInt64 (nI 0)))) + (Int32.toInt64 (nI 1)))) + (Int32.toInt64 (nI 0)))) + (Int32.toInt64 (nI 0)))) + (Int32.toInt64 (nI 0)))) + (Int32.toInt64 (nI 0)))) + (Int32.toInt64 (nI 0)))) + (Int32.toInt64 (nI 0)))) + (Int32.toInt64 (nI 0)))), (3, .int (nI (0 + 1 + 1 + 1 + 1 + 1 + 1 + 1 + 1 + 1))), (0, .ref 0)]) dX11_digest_24 rfl (by decide) rfl ?_
  refine g_iinc (v := (nI (0 + 1 + 1 + 1 + 1 + 1 + 1 + 1 + 1 + 1 + 1))) (lv' := [(3, .int (nI (0 + 1 + 1 + 1 + 1 + 1 + 1 + 1 + 1 + 1 + 1))), (1, .long ((31 * ((31 * ((31 * ((31 * ((31 * ((31 * ((31 * ((31 * ((31 * ((31 * 1787) + (Int32.toInt64 (nI 2)))) + (Int32.toInt64 (nI 0)))) + (Int32.toInt64 (nI 1)))) + (Int32.toInt64 (nI 0)))) + (Int32.toInt64 (nI 0)))) + (Int32.toInt64 (nI 0)))) + (Int32.toInt64 (nI 0)))) + (Int32.toInt64 (nI 0)))) + (Int32.toInt64 (nI 0)))) + (Int32.toInt64 (nI 0)))), (0, .ref 0)]) dX11_digest_25 rfl (nI_1 (0 + 1 + 1 + 1 + 1 + 1 + 1 + 1 + 1 + 1)) (by decide) rfl ?_
  refine g_goto 6 dX11_digest_28 (by decide) ?_
  refine g_iload_n dX11_digest_6 rfl rfl ?_
  refine g_bipush (v := (nI 12)) dX11_digest_7 rfl ?_
  refine g_ic_geN 31 dX11_digest_9 (by decide) (by omega) (by omega) (fun z => absurd z (by omega)) (fun _ => ?_)
  refine g_ldc2 (v := 31) dX11_digest_12 cl_RX11_328 ?_
  refine g_lload_n dX11_digest_15 rfl rfl ?_
  refine g_lmul dX11_digest_16 ?_
  refine g_aload_n dX11_digest_17 rfl rfl ?_
  refine g_iload_n dX11_digest_18 rfl rfl ?_
  refine g_callV (T := TX11) (NN := 18) [.long (31 * ((31 * ((31 * ((31 * ((31 * ((31 * ((31 * ((31 * ((31 * ((31 * ((31 * 1787) + (Int32.toInt64 (nI 2)))) + (Int32.toInt64 (nI 0)))) + (Int32.toInt64 (nI 1)))) + (Int32.toInt64 (nI 0)))) + (Int32.toInt64 (nI 0)))) + (Int32.toInt64 (nI 0)))) + (Int32.toInt64 (nI 0)))) + (Int32.toInt64 (nI 0)))) + (Int32.toInt64 (nI 0)))) + (Int32.toInt64 (nI 0))))] (v_count10 S F) dX11_digest_19 kk_X11_digest_X11_countOf ml_RX11_323 mwX11_countOf ewX11_countOf (by decide) rfl rfl rfl rfl (Nat.le_of_ble_eq_true rfl) ?_
  rintro _ _ ⟨_, rfl, rfl, rfl⟩
  refine g_i2l dX11_digest_22 rfl ?_
  refine g_ladd dX11_digest_23 ?_
  refine g_lstore_n (lv' := [(1, .long ((31 * ((31 * ((31 * ((31 * ((31 * ((31 * ((31 * ((31 * ((31 * ((31 * ((31 * 1787) + (Int32.toInt64 (nI 2)))) + (Int32.toInt64 (nI 0)))) + (Int32.toInt64 (nI 1)))) + (Int32.toInt64 (nI 0)))) + (Int32.toInt64 (nI 0)))) + (Int32.toInt64 (nI 0)))) + (Int32.toInt64 (nI 0)))) + (Int32.toInt64 (nI 0)))) + (Int32.toInt64 (nI 0)))) + (Int32.toInt64 (nI 0)))) + (Int32.toInt64 (nI 0)))), (3, .int (nI (0 + 1 + 1 + 1 + 1 + 1 + 1 + 1 + 1 + 1 + 1))), (0, .ref 0)]) dX11_digest_24 rfl (by decide) rfl ?_
  refine g_iinc (v := (nI (0 + 1 + 1 + 1 + 1 + 1 + 1 + 1 + 1 + 1 + 1 + 1))) (lv' := [(3, .int (nI (0 + 1 + 1 + 1 + 1 + 1 + 1 + 1 + 1 + 1 + 1 + 1))), (1, .long ((31 * ((31 * ((31 * ((31 * ((31 * ((31 * ((31 * ((31 * ((31 * ((31 * ((31 * 1787) + (Int32.toInt64 (nI 2)))) + (Int32.toInt64 (nI 0)))) + (Int32.toInt64 (nI 1)))) + (Int32.toInt64 (nI 0)))) + (Int32.toInt64 (nI 0)))) + (Int32.toInt64 (nI 0)))) + (Int32.toInt64 (nI 0)))) + (Int32.toInt64 (nI 0)))) + (Int32.toInt64 (nI 0)))) + (Int32.toInt64 (nI 0)))) + (Int32.toInt64 (nI 0)))), (0, .ref 0)]) dX11_digest_25 rfl (nI_1 (0 + 1 + 1 + 1 + 1 + 1 + 1 + 1 + 1 + 1 + 1)) (by decide) rfl ?_
  refine g_goto 6 dX11_digest_28 (by decide) ?_
  refine g_iload_n dX11_digest_6 rfl rfl ?_
  refine g_bipush (v := (nI 12)) dX11_digest_7 rfl ?_
  refine g_ic_geN 31 dX11_digest_9 (by decide) (by omega) (by omega) (fun z => absurd z (by omega)) (fun _ => ?_)
  refine g_ldc2 (v := 31) dX11_digest_12 cl_RX11_328 ?_
  refine g_lload_n dX11_digest_15 rfl rfl ?_
  refine g_lmul dX11_digest_16 ?_
  refine g_aload_n dX11_digest_17 rfl rfl ?_
  refine g_iload_n dX11_digest_18 rfl rfl ?_
  refine g_callV (T := TX11) (NN := 18) [.long (31 * ((31 * ((31 * ((31 * ((31 * ((31 * ((31 * ((31 * ((31 * ((31 * ((31 * ((31 * 1787) + (Int32.toInt64 (nI 2)))) + (Int32.toInt64 (nI 0)))) + (Int32.toInt64 (nI 1)))) + (Int32.toInt64 (nI 0)))) + (Int32.toInt64 (nI 0)))) + (Int32.toInt64 (nI 0)))) + (Int32.toInt64 (nI 0)))) + (Int32.toInt64 (nI 0)))) + (Int32.toInt64 (nI 0)))) + (Int32.toInt64 (nI 0)))) + (Int32.toInt64 (nI 0))))] (v_count11 S F) dX11_digest_19 kk_X11_digest_X11_countOf ml_RX11_323 mwX11_countOf ewX11_countOf (by decide) rfl rfl rfl rfl (Nat.le_of_ble_eq_true rfl) ?_
  rintro _ _ ⟨_, rfl, rfl, rfl⟩
  refine g_i2l dX11_digest_22 rfl ?_
  refine g_ladd dX11_digest_23 ?_
  refine g_lstore_n (lv' := [(1, .long ((31 * ((31 * ((31 * ((31 * ((31 * ((31 * ((31 * ((31 * ((31 * ((31 * ((31 * ((31 * 1787) + (Int32.toInt64 (nI 2)))) + (Int32.toInt64 (nI 0)))) + (Int32.toInt64 (nI 1)))) + (Int32.toInt64 (nI 0)))) + (Int32.toInt64 (nI 0)))) + (Int32.toInt64 (nI 0)))) + (Int32.toInt64 (nI 0)))) + (Int32.toInt64 (nI 0)))) + (Int32.toInt64 (nI 0)))) + (Int32.toInt64 (nI 0)))) + (Int32.toInt64 (nI 0)))) + (Int32.toInt64 (nI 0)))), (3, .int (nI (0 + 1 + 1 + 1 + 1 + 1 + 1 + 1 + 1 + 1 + 1 + 1))), (0, .ref 0)]) dX11_digest_24 rfl (by decide) rfl ?_
  refine g_iinc (v := (nI (0 + 1 + 1 + 1 + 1 + 1 + 1 + 1 + 1 + 1 + 1 + 1 + 1))) (lv' := [(3, .int (nI (0 + 1 + 1 + 1 + 1 + 1 + 1 + 1 + 1 + 1 + 1 + 1 + 1))), (1, .long ((31 * ((31 * ((31 * ((31 * ((31 * ((31 * ((31 * ((31 * ((31 * ((31 * ((31 * ((31 * 1787) + (Int32.toInt64 (nI 2)))) + (Int32.toInt64 (nI 0)))) + (Int32.toInt64 (nI 1)))) + (Int32.toInt64 (nI 0)))) + (Int32.toInt64 (nI 0)))) + (Int32.toInt64 (nI 0)))) + (Int32.toInt64 (nI 0)))) + (Int32.toInt64 (nI 0)))) + (Int32.toInt64 (nI 0)))) + (Int32.toInt64 (nI 0)))) + (Int32.toInt64 (nI 0)))) + (Int32.toInt64 (nI 0)))), (0, .ref 0)]) dX11_digest_25 rfl (nI_1 (0 + 1 + 1 + 1 + 1 + 1 + 1 + 1 + 1 + 1 + 1 + 1)) (by decide) rfl ?_
  refine g_goto 6 dX11_digest_28 (by decide) ?_
  refine g_iload_n dX11_digest_6 rfl rfl ?_
  refine g_bipush (v := (nI 12)) dX11_digest_7 rfl ?_
  refine g_ic_geN 31 dX11_digest_9 (by decide) (by omega) (by omega) (fun _ => ?_) (fun z => absurd z (by omega))
  refine g_iconst (v := (nI 0)) dX11_digest_31 rfl ?_
  refine g_istore_n (lv' := [(3, .int (nI 0)), (1, .long ((31 * ((31 * ((31 * ((31 * ((31 * ((31 * ((31 * ((31 * ((31 * ((31 * ((31 * ((31 * 1787) + (Int32.toInt64 (nI 2)))) + (Int32.toInt64 (nI 0)))) + (Int32.toInt64 (nI 1)))) + (Int32.toInt64 (nI 0)))) + (Int32.toInt64 (nI 0)))) + (Int32.toInt64 (nI 0)))) + (Int32.toInt64 (nI 0)))) + (Int32.toInt64 (nI 0)))) + (Int32.toInt64 (nI 0)))) + (Int32.toInt64 (nI 0)))) + (Int32.toInt64 (nI 0)))) + (Int32.toInt64 (nI 0)))), (0, .ref 0)]) dX11_digest_32 rfl (by decide) rfl ?_
  refine g_iload_n dX11_digest_33 rfl rfl ?_
  refine g_aload_n dX11_digest_34 rfl rfl ?_
  refine g_getR 0 (1) (C := RX11) (T := TX11) (N := 18) dX11_digest_35 (by decide) rfl rfl (by decide) rfl fl_RX11_10 ?_
  refine g_getV 0 (C := RX6) (T := TX6) (N := 9) (v := (nI 2)) dX11_digest_38 (by decide) rfl rfl (by decide) rfl fl_RX11_210 (congrFun (F 1 (by decide)).1 0) ?_
  refine g_ic_geN 72 dX11_digest_41 (by decide) (by omega) (by omega) (fun z => absurd z (by omega)) (fun _ => ?_)
  refine g_ldc2 (v := 31) dX11_digest_44 cl_RX11_328 ?_
  refine g_lload_n dX11_digest_47 rfl rfl ?_
  refine g_lmul dX11_digest_48 ?_
  refine g_aload_n dX11_digest_49 rfl rfl ?_
  refine g_getR 0 (1) (C := RX11) (T := TX11) (N := 18) dX11_digest_50 (by decide) rfl rfl (by decide) rfl fl_RX11_10 ?_
  refine g_getR 4 (3) (C := RX6) (T := TX6) (N := 9) dX11_digest_53 (by decide) rfl rfl (by decide) rfl fl_RX11_137 ?_
  refine g_getR 3 (4) (C := RX3) (T := TX3) (N := 6) dX11_digest_56 (by decide) rfl rfl (by decide) rfl fl_RX11_165 ?_
  refine g_iload_n dX11_digest_59 rfl rfl ?_
  refine g_callS [.ref 4, .int (nI 0)] [.long (31 * ((31 * ((31 * ((31 * ((31 * ((31 * ((31 * ((31 * ((31 * ((31 * ((31 * ((31 * ((31 * 1787) + (Int32.toInt64 (nI 2)))) + (Int32.toInt64 (nI 0)))) + (Int32.toInt64 (nI 1)))) + (Int32.toInt64 (nI 0)))) + (Int32.toInt64 (nI 0)))) + (Int32.toInt64 (nI 0)))) + (Int32.toInt64 (nI 0)))) + (Int32.toInt64 (nI 0)))) + (Int32.toInt64 (nI 0)))) + (Int32.toInt64 (nI 0)))) + (Int32.toInt64 (nI 0)))) + (Int32.toInt64 (nI 0))))] (zs_cell0 S F (nI 0)) dX11_digest_60 kk_X11_digest_X11_cell ml_RX11_168 swX11_cell rfl rfl (Nat.le_of_ble_eq_true rfl) ?_
  rintro _ _ ⟨_, rfl, rfl, rfl⟩
  refine g_i2l dX11_digest_63 rfl ?_
  refine g_ladd dX11_digest_64 ?_
  refine g_lstore_n (lv' := [(1, .long ((31 * ((31 * ((31 * ((31 * ((31 * ((31 * ((31 * ((31 * ((31 * ((31 * ((31 * ((31 * ((31 * 1787) + (Int32.toInt64 (nI 2)))) + (Int32.toInt64 (nI 0)))) + (Int32.toInt64 (nI 1)))) + (Int32.toInt64 (nI 0)))) + (Int32.toInt64 (nI 0)))) + (Int32.toInt64 (nI 0)))) + (Int32.toInt64 (nI 0)))) + (Int32.toInt64 (nI 0)))) + (Int32.toInt64 (nI 0)))) + (Int32.toInt64 (nI 0)))) + (Int32.toInt64 (nI 0)))) + (Int32.toInt64 (nI 0)))) + (Int32.toInt64 (nI 0)))), (3, .int (nI 0)), (0, .ref 0)]) dX11_digest_65 rfl (by decide) rfl ?_
  refine g_iinc (v := (nI (0 + 1))) (lv' := [(3, .int (nI (0 + 1))), (1, .long ((31 * ((31 * ((31 * ((31 * ((31 * ((31 * ((31 * ((31 * ((31 * ((31 * ((31 * ((31 * ((31 * 1787) + (Int32.toInt64 (nI 2)))) + (Int32.toInt64 (nI 0)))) + (Int32.toInt64 (nI 1)))) + (Int32.toInt64 (nI 0)))) + (Int32.toInt64 (nI 0)))) + (Int32.toInt64 (nI 0)))) + (Int32.toInt64 (nI 0)))) + (Int32.toInt64 (nI 0)))) + (Int32.toInt64 (nI 0)))) + (Int32.toInt64 (nI 0)))) + (Int32.toInt64 (nI 0)))) + (Int32.toInt64 (nI 0)))) + (Int32.toInt64 (nI 0)))), (0, .ref 0)]) dX11_digest_66 rfl (nI_1 0) (by decide) rfl ?_
  refine g_goto 33 dX11_digest_69 (by decide) ?_
  refine g_iload_n dX11_digest_33 rfl rfl ?_
  refine g_aload_n dX11_digest_34 rfl rfl ?_
  refine g_getR 0 (1) (C := RX11) (T := TX11) (N := 18) dX11_digest_35 (by decide) rfl rfl (by decide) rfl fl_RX11_10 ?_
  refine g_getV 0 (C := RX6) (T := TX6) (N := 9) (v := (nI 2)) dX11_digest_38 (by decide) rfl rfl (by decide) rfl fl_RX11_210 (congrFun (F 1 (by decide)).1 0) ?_
  refine g_ic_geN 72 dX11_digest_41 (by decide) (by omega) (by omega) (fun z => absurd z (by omega)) (fun _ => ?_)
  refine g_ldc2 (v := 31) dX11_digest_44 cl_RX11_328 ?_
  refine g_lload_n dX11_digest_47 rfl rfl ?_
  refine g_lmul dX11_digest_48 ?_
  refine g_aload_n dX11_digest_49 rfl rfl ?_
  refine g_getR 0 (1) (C := RX11) (T := TX11) (N := 18) dX11_digest_50 (by decide) rfl rfl (by decide) rfl fl_RX11_10 ?_
  refine g_getR 4 (3) (C := RX6) (T := TX6) (N := 9) dX11_digest_53 (by decide) rfl rfl (by decide) rfl fl_RX11_137 ?_
  refine g_getR 3 (4) (C := RX3) (T := TX3) (N := 6) dX11_digest_56 (by decide) rfl rfl (by decide) rfl fl_RX11_165 ?_
  refine g_iload_n dX11_digest_59 rfl rfl ?_
  refine g_callS [.ref 4, .int (nI (0 + 1))] [.long (31 * ((31 * ((31 * ((31 * ((31 * ((31 * ((31 * ((31 * ((31 * ((31 * ((31 * ((31 * ((31 * ((31 * 1787) + (Int32.toInt64 (nI 2)))) + (Int32.toInt64 (nI 0)))) + (Int32.toInt64 (nI 1)))) + (Int32.toInt64 (nI 0)))) + (Int32.toInt64 (nI 0)))) + (Int32.toInt64 (nI 0)))) + (Int32.toInt64 (nI 0)))) + (Int32.toInt64 (nI 0)))) + (Int32.toInt64 (nI 0)))) + (Int32.toInt64 (nI 0)))) + (Int32.toInt64 (nI 0)))) + (Int32.toInt64 (nI 0)))) + (Int32.toInt64 (nI 0))))] (zs_cell0 S F (nI (0 + 1))) dX11_digest_60 kk_X11_digest_X11_cell ml_RX11_168 swX11_cell rfl rfl (Nat.le_of_ble_eq_true rfl) ?_
  rintro _ _ ⟨_, rfl, rfl, rfl⟩
  refine g_i2l dX11_digest_63 rfl ?_
  refine g_ladd dX11_digest_64 ?_
  refine g_lstore_n (lv' := [(1, .long ((31 * ((31 * ((31 * ((31 * ((31 * ((31 * ((31 * ((31 * ((31 * ((31 * ((31 * ((31 * ((31 * ((31 * 1787) + (Int32.toInt64 (nI 2)))) + (Int32.toInt64 (nI 0)))) + (Int32.toInt64 (nI 1)))) + (Int32.toInt64 (nI 0)))) + (Int32.toInt64 (nI 0)))) + (Int32.toInt64 (nI 0)))) + (Int32.toInt64 (nI 0)))) + (Int32.toInt64 (nI 0)))) + (Int32.toInt64 (nI 0)))) + (Int32.toInt64 (nI 0)))) + (Int32.toInt64 (nI 0)))) + (Int32.toInt64 (nI 0)))) + (Int32.toInt64 (nI 0)))) + (Int32.toInt64 (nI 0)))), (3, .int (nI (0 + 1))), (0, .ref 0)]) dX11_digest_65 rfl (by decide) rfl ?_
  refine g_iinc (v := (nI (0 + 1 + 1))) (lv' := [(3, .int (nI (0 + 1 + 1))), (1, .long ((31 * ((31 * ((31 * ((31 * ((31 * ((31 * ((31 * ((31 * ((31 * ((31 * ((31 * ((31 * ((31 * ((31 * 1787) + (Int32.toInt64 (nI 2)))) + (Int32.toInt64 (nI 0)))) + (Int32.toInt64 (nI 1)))) + (Int32.toInt64 (nI 0)))) + (Int32.toInt64 (nI 0)))) + (Int32.toInt64 (nI 0)))) + (Int32.toInt64 (nI 0)))) + (Int32.toInt64 (nI 0)))) + (Int32.toInt64 (nI 0)))) + (Int32.toInt64 (nI 0)))) + (Int32.toInt64 (nI 0)))) + (Int32.toInt64 (nI 0)))) + (Int32.toInt64 (nI 0)))) + (Int32.toInt64 (nI 0)))), (0, .ref 0)]) dX11_digest_66 rfl (nI_1 (0 + 1)) (by decide) rfl ?_
  refine g_goto 33 dX11_digest_69 (by decide) ?_
  refine g_iload_n dX11_digest_33 rfl rfl ?_
  refine g_aload_n dX11_digest_34 rfl rfl ?_
  refine g_getR 0 (1) (C := RX11) (T := TX11) (N := 18) dX11_digest_35 (by decide) rfl rfl (by decide) rfl fl_RX11_10 ?_
  refine g_getV 0 (C := RX6) (T := TX6) (N := 9) (v := (nI 2)) dX11_digest_38 (by decide) rfl rfl (by decide) rfl fl_RX11_210 (congrFun (F 1 (by decide)).1 0) ?_
  refine g_ic_geN 72 dX11_digest_41 (by decide) (by omega) (by omega) (fun _ => ?_) (fun z => absurd z (by omega))
  refine g_iconst (v := (nI 0)) dX11_digest_72 rfl ?_
  refine g_istore_n (lv' := [(3, .int (nI 0)), (1, .long ((31 * ((31 * ((31 * ((31 * ((31 * ((31 * ((31 * ((31 * ((31 * ((31 * ((31 * ((31 * ((31 * ((31 * 1787) + (Int32.toInt64 (nI 2)))) + (Int32.toInt64 (nI 0)))) + (Int32.toInt64 (nI 1)))) + (Int32.toInt64 (nI 0)))) + (Int32.toInt64 (nI 0)))) + (Int32.toInt64 (nI 0)))) + (Int32.toInt64 (nI 0)))) + (Int32.toInt64 (nI 0)))) + (Int32.toInt64 (nI 0)))) + (Int32.toInt64 (nI 0)))) + (Int32.toInt64 (nI 0)))) + (Int32.toInt64 (nI 0)))) + (Int32.toInt64 (nI 0)))) + (Int32.toInt64 (nI 0)))), (0, .ref 0)]) dX11_digest_73 rfl (by decide) rfl ?_
  refine g_iload_n dX11_digest_74 rfl rfl ?_
  refine g_aload_n dX11_digest_75 rfl rfl ?_
  refine g_getR 0 (1) (C := RX11) (T := TX11) (N := 18) dX11_digest_76 (by decide) rfl rfl (by decide) rfl fl_RX11_10 ?_
  refine g_getV 2 (C := RX6) (T := TX6) (N := 9) (v := (nI 0)) dX11_digest_79 (by decide) rfl rfl (by decide) rfl fl_RX11_90 (congrFun (F 1 (by decide)).1 2) ?_
  refine g_ic_geN 154 dX11_digest_82 (by decide) (by omega) (by omega) (fun _ => ?_) (fun z => absurd z (by omega))
  refine g_aload_n dX11_digest_154 rfl rfl ?_
  refine g_getR 0 (1) (C := RX11) (T := TX11) (N := 18) dX11_digest_155 (by decide) rfl rfl (by decide) rfl fl_RX11_10 ?_
  refine g_getR 6 (9) (C := RX6) (T := TX6) (N := 9) dX11_digest_158 (by decide) rfl rfl (by decide) rfl fl_RX11_223 ?_
  refine g_lload_n dX11_digest_161 rfl rfl ?_
  refine g_callV (T := TX5) (NN := 3) [] (v_onto9 S ((31 * ((31 * ((31 * ((31 * ((31 * ((31 * ((31 * ((31 * ((31 * ((31 * ((31 * ((31 * ((31 * ((31 * 1787) + (Int32.toInt64 (nI 2)))) + (Int32.toInt64 (nI 0)))) + (Int32.toInt64 (nI 1)))) + (Int32.toInt64 (nI 0)))) + (Int32.toInt64 (nI 0)))) + (Int32.toInt64 (nI 0)))) + (Int32.toInt64 (nI 0)))) + (Int32.toInt64 (nI 0)))) + (Int32.toInt64 (nI 0)))) + (Int32.toInt64 (nI 0)))) + (Int32.toInt64 (nI 0)))) + (Int32.toInt64 (nI 0)))) + (Int32.toInt64 (nI 0)))) + (Int32.toInt64 (nI 0))) (congrFun (F 9 (by decide)).1 2)) dX11_digest_162 kk_X11_digest_X5_digestOnto ml_RX11_330 mwX5_digestOnto ewX5_digestOnto (by decide) rfl rfl rfl rfl (Nat.le_of_ble_eq_true rfl) ?_
  rintro _ _ ⟨_, rfl, rfl, rfl⟩
  refine g_lstore_n (lv' := [(1, .long ((31 * ((31 * ((31 * ((31 * ((31 * ((31 * ((31 * ((31 * ((31 * ((31 * ((31 * ((31 * ((31 * ((31 * 1787) + (Int32.toInt64 (nI 2)))) + (Int32.toInt64 (nI 0)))) + (Int32.toInt64 (nI 1)))) + (Int32.toInt64 (nI 0)))) + (Int32.toInt64 (nI 0)))) + (Int32.toInt64 (nI 0)))) + (Int32.toInt64 (nI 0)))) + (Int32.toInt64 (nI 0)))) + (Int32.toInt64 (nI 0)))) + (Int32.toInt64 (nI 0)))) + (Int32.toInt64 (nI 0)))) + (Int32.toInt64 (nI 0)))) + (Int32.toInt64 (nI 0)))) + (Int32.toInt64 (nI 0)))), (3, .int (nI 0)), (0, .ref 0)]) dX11_digest_165 rfl (by decide) rfl ?_
  refine g_aload_n dX11_digest_166 rfl rfl ?_
  refine g_getR 0 (1) (C := RX11) (T := TX11) (N := 18) dX11_digest_167 (by decide) rfl rfl (by decide) rfl fl_RX11_10 ?_
  refine g_getR 7 (11) (C := RX6) (T := TX6) (N := 9) dX11_digest_170 (by decide) rfl rfl (by decide) rfl fl_RX11_248 ?_
  refine g_lload_n dX11_digest_173 rfl rfl ?_
  refine g_callV (T := TX5) (NN := 3) [] (v_onto11 S ((31 * ((31 * ((31 * ((31 * ((31 * ((31 * ((31 * ((31 * ((31 * ((31 * ((31 * ((31 * ((31 * ((31 * 1787) + (Int32.toInt64 (nI 2)))) + (Int32.toInt64 (nI 0)))) + (Int32.toInt64 (nI 1)))) + (Int32.toInt64 (nI 0)))) + (Int32.toInt64 (nI 0)))) + (Int32.toInt64 (nI 0)))) + (Int32.toInt64 (nI 0)))) + (Int32.toInt64 (nI 0)))) + (Int32.toInt64 (nI 0)))) + (Int32.toInt64 (nI 0)))) + (Int32.toInt64 (nI 0)))) + (Int32.toInt64 (nI 0)))) + (Int32.toInt64 (nI 0)))) + (Int32.toInt64 (nI 0))) (congrFun (F 11 (by decide)).1 2)) dX11_digest_174 kk_X11_digest_X5_digestOnto ml_RX11_330 mwX5_digestOnto ewX5_digestOnto (by decide) rfl rfl rfl rfl (Nat.le_of_ble_eq_true rfl) ?_
  rintro _ _ ⟨_, rfl, rfl, rfl⟩
  refine g_lstore_n (lv' := [(1, .long ((31 * ((31 * ((31 * ((31 * ((31 * ((31 * ((31 * ((31 * ((31 * ((31 * ((31 * ((31 * ((31 * ((31 * 1787) + (Int32.toInt64 (nI 2)))) + (Int32.toInt64 (nI 0)))) + (Int32.toInt64 (nI 1)))) + (Int32.toInt64 (nI 0)))) + (Int32.toInt64 (nI 0)))) + (Int32.toInt64 (nI 0)))) + (Int32.toInt64 (nI 0)))) + (Int32.toInt64 (nI 0)))) + (Int32.toInt64 (nI 0)))) + (Int32.toInt64 (nI 0)))) + (Int32.toInt64 (nI 0)))) + (Int32.toInt64 (nI 0)))) + (Int32.toInt64 (nI 0)))) + (Int32.toInt64 (nI 0)))), (3, .int (nI 0)), (0, .ref 0)]) dX11_digest_177 rfl (by decide) rfl ?_
  refine g_aload_n dX11_digest_178 rfl rfl ?_
  refine g_getR 0 (1) (C := RX11) (T := TX11) (N := 18) dX11_digest_179 (by decide) rfl rfl (by decide) rfl fl_RX11_10 ?_
  refine g_getR 8 (13) (C := RX6) (T := TX6) (N := 9) dX11_digest_182 (by decide) rfl rfl (by decide) rfl fl_RX11_251 ?_
  refine g_lload_n dX11_digest_185 rfl rfl ?_
  refine g_callV (T := TX5) (NN := 3) [] (v_onto13 S ((31 * ((31 * ((31 * ((31 * ((31 * ((31 * ((31 * ((31 * ((31 * ((31 * ((31 * ((31 * ((31 * ((31 * 1787) + (Int32.toInt64 (nI 2)))) + (Int32.toInt64 (nI 0)))) + (Int32.toInt64 (nI 1)))) + (Int32.toInt64 (nI 0)))) + (Int32.toInt64 (nI 0)))) + (Int32.toInt64 (nI 0)))) + (Int32.toInt64 (nI 0)))) + (Int32.toInt64 (nI 0)))) + (Int32.toInt64 (nI 0)))) + (Int32.toInt64 (nI 0)))) + (Int32.toInt64 (nI 0)))) + (Int32.toInt64 (nI 0)))) + (Int32.toInt64 (nI 0)))) + (Int32.toInt64 (nI 0))) (congrFun (F 13 (by decide)).1 2)) dX11_digest_186 kk_X11_digest_X5_digestOnto ml_RX11_330 mwX5_digestOnto ewX5_digestOnto (by decide) rfl rfl rfl rfl (Nat.le_of_ble_eq_true rfl) ?_
  rintro _ _ ⟨_, rfl, rfl, rfl⟩
  refine g_lstore_n (lv' := [(1, .long ((31 * ((31 * ((31 * ((31 * ((31 * ((31 * ((31 * ((31 * ((31 * ((31 * ((31 * ((31 * ((31 * ((31 * 1787) + (Int32.toInt64 (nI 2)))) + (Int32.toInt64 (nI 0)))) + (Int32.toInt64 (nI 1)))) + (Int32.toInt64 (nI 0)))) + (Int32.toInt64 (nI 0)))) + (Int32.toInt64 (nI 0)))) + (Int32.toInt64 (nI 0)))) + (Int32.toInt64 (nI 0)))) + (Int32.toInt64 (nI 0)))) + (Int32.toInt64 (nI 0)))) + (Int32.toInt64 (nI 0)))) + (Int32.toInt64 (nI 0)))) + (Int32.toInt64 (nI 0)))) + (Int32.toInt64 (nI 0)))), (3, .int (nI 0)), (0, .ref 0)]) dX11_digest_189 rfl (by decide) rfl ?_
  refine g_ldc2 (v := 31) dX11_digest_190 cl_RX11_328 ?_
  refine g_lload_n dX11_digest_193 rfl rfl ?_
  refine g_lmul dX11_digest_194 ?_
  refine g_aload_n dX11_digest_195 rfl rfl ?_
  refine g_getL 6 (C := RX11) (T := TX11) (N := 18) dX11_digest_196 (by decide) rfl rfl (by decide) rfl fl_RX11_304 ?_
  refine g_ladd dX11_digest_199 ?_
  refine g_lstore_n (lv' := [(1, .long ((31 * ((31 * ((31 * ((31 * ((31 * ((31 * ((31 * ((31 * ((31 * ((31 * ((31 * ((31 * ((31 * ((31 * ((31 * 1787) + (Int32.toInt64 (nI 2)))) + (Int32.toInt64 (nI 0)))) + (Int32.toInt64 (nI 1)))) + (Int32.toInt64 (nI 0)))) + (Int32.toInt64 (nI 0)))) + (Int32.toInt64 (nI 0)))) + (Int32.toInt64 (nI 0)))) + (Int32.toInt64 (nI 0)))) + (Int32.toInt64 (nI 0)))) + (Int32.toInt64 (nI 0)))) + (Int32.toInt64 (nI 0)))) + (Int32.toInt64 (nI 0)))) + (Int32.toInt64 (nI 0)))) + (Int32.toInt64 (nI 0)))) + (S.2 0 6))), (3, .int (nI 0)), (0, .ref 0)]) dX11_digest_200 rfl (by decide) rfl ?_
  refine g_ldc2 (v := 31) dX11_digest_201 cl_RX11_328 ?_
  refine g_lload_n dX11_digest_204 rfl rfl ?_
  refine g_lmul dX11_digest_205 ?_
  refine g_aload_n dX11_digest_206 rfl rfl ?_
  refine g_getL 7 (C := RX11) (T := TX11) (N := 18) dX11_digest_207 (by decide) rfl rfl (by decide) rfl fl_RX11_29 ?_
  refine g_ladd dX11_digest_210 ?_
  refine g_lret dX11_digest_211 rfl ?_
  refine ⟨_, rfl, ?_, zs_ch.rf⟩
  rw [show S.2 0 6 = 0 from congrFun (F 0 (by decide)).2 6, show S.2 0 7 = 1 from congrFun (F 0 (by decide)).2 7]
  decide
set_option maxRecDepth 100000 in
theorem v_lampFits (S : zs_S) (F : zs_F0 S) (v : Int32) : zs_Ci MX11_lampFits [.ref 0, .int v] S (fun x S2 => x = nI 1 ∧ S = S2) := by
  refine zs_C.of (by decide) (Nat.le_of_ble_eq_true rfl) ?_
  show zs_P MX11_lampFits 0 [(0, .ref 0), (1, .int v)] [] S _
  refine g_aload_n dX11_lampFits_0 rfl rfl ?_
  refine g_getR 0 (1) (C := RX11) (T := TX11) (N := 18) dX11_lampFits_1 (by decide) rfl rfl (by decide) rfl fl_RX11_10 ?_
  refine g_getR 8 (13) (C := RX6) (T := TX6) (N := 9) dX11_lampFits_4 (by decide) rfl rfl (by decide) rfl fl_RX11_251 ?_
  refine g_astore_n (lv' := [(2, .ref 13), (0, .ref 0), (1, .int v)]) dX11_lampFits_7 rfl (by decide) rfl ?_
  refine g_iconst (v := (nI 0)) dX11_lampFits_8 rfl ?_
  refine g_istore_n (lv' := [(3, .int (nI 0)), (2, .ref 13), (0, .ref 0), (1, .int v)]) dX11_lampFits_9 rfl (by decide) rfl ?_
  refine g_iload_n dX11_lampFits_10 rfl rfl ?_
  refine g_aload_n dX11_lampFits_11 rfl rfl ?_
  refine g_getV 2 (C := RX5) (T := TX5) (N := 3) (v := (nI 0)) dX11_lampFits_12 (by decide) rfl rfl (by decide) rfl fl_RX11_348 (congrFun (F 13 (by decide)).1 2) ?_
  refine g_ic_geN 51 dX11_lampFits_15 (by decide) (by omega) (by omega) (fun _ => ?_) (fun z => absurd z (by omega))
  refine g_iconst (v := (nI 1)) dX11_lampFits_51 rfl ?_
  refine g_iret dX11_lampFits_52 rfl rfl ?_
  exact ⟨_, rfl, rfl, rfl⟩
set_option maxRecDepth 100000 in
theorem v_lampKinds (S : zs_S) (F : zs_F0 S) : zs_Ci MX11_lampKinds [.ref 0] S (fun x S2 => x = nI 63 ∧ S = S2) := by
  refine zs_C.of (by decide) (Nat.le_of_ble_eq_true rfl) ?_
  show zs_P MX11_lampKinds 0 [(0, .ref 0)] [] S _
  refine g_iconst (v := (nI 0)) dX11_lampKinds_0 rfl ?_
  refine g_istore_n (lv' := [(1, .int (nI 0)), (0, .ref 0)]) dX11_lampKinds_1 rfl (by decide) rfl ?_
  refine g_iconst (v := (nI 0)) dX11_lampKinds_2 rfl ?_
  refine g_istore_n (lv' := [(2, .int (nI 0)), (1, .int (nI 0)), (0, .ref 0)]) dX11_lampKinds_3 rfl (by decide) rfl ?_
  refine g_iload_n dX11_lampKinds_4 rfl rfl ?_
  refine g_bipush (v := (nI 6)) dX11_lampKinds_5 rfl ?_
  refine g_ic_geN 30 dX11_lampKinds_7 (by decide) (by omega) (by omega) (fun z => absurd z (by omega)) (fun _ => ?_)
  refine g_aload_n dX11_lampKinds_10 rfl rfl ?_
  refine g_iload_n dX11_lampKinds_11 rfl rfl ?_
  refine g_callV (T := TX11) (NN := 18) [] (v_lampFits S F (nI 0)) dX11_lampKinds_12 kk_X11_lampKinds_X11_lampFits ml_RX11_365 mwX11_lampFits ewX11_lampFits (by decide) rfl rfl rfl rfl (Nat.le_of_ble_eq_true rfl) ?_
  rintro _ _ ⟨_, rfl, rfl, rfl⟩
  refine g_if_eqN 24 dX11_lampKinds_15 (by decide) (by omega) (fun z => absurd z (by omega)) (fun _ => ?_)
  refine g_iload_n dX11_lampKinds_18 rfl rfl ?_
  refine g_iconst (v := (nI 1)) dX11_lampKinds_19 rfl ?_
  refine g_iload_n dX11_lampKinds_20 rfl rfl ?_
  refine g_ishl dX11_lampKinds_21 ?_
  refine g_ior dX11_lampKinds_22 ?_
  refine g_istore_n (lv' := [(1, .int ((nI 0) ||| ((nI 1) <<< ((nI 0) &&& 31)))), (2, .int (nI 0)), (0, .ref 0)]) dX11_lampKinds_23 rfl (by decide) rfl ?_
  refine g_iinc (v := (nI (0 + 1))) (lv' := [(2, .int (nI (0 + 1))), (1, .int ((nI 0) ||| ((nI 1) <<< ((nI 0) &&& 31)))), (0, .ref 0)]) dX11_lampKinds_24 rfl (nI_1 0) (by decide) rfl ?_
  refine g_goto 4 dX11_lampKinds_27 (by decide) ?_
  refine g_iload_n dX11_lampKinds_4 rfl rfl ?_
  refine g_bipush (v := (nI 6)) dX11_lampKinds_5 rfl ?_
  refine g_ic_geN 30 dX11_lampKinds_7 (by decide) (by omega) (by omega) (fun z => absurd z (by omega)) (fun _ => ?_)
  refine g_aload_n dX11_lampKinds_10 rfl rfl ?_
  refine g_iload_n dX11_lampKinds_11 rfl rfl ?_
  refine g_callV (T := TX11) (NN := 18) [] (v_lampFits S F (nI (0 + 1))) dX11_lampKinds_12 kk_X11_lampKinds_X11_lampFits ml_RX11_365 mwX11_lampFits ewX11_lampFits (by decide) rfl rfl rfl rfl (Nat.le_of_ble_eq_true rfl) ?_
  rintro _ _ ⟨_, rfl, rfl, rfl⟩
  refine g_if_eqN 24 dX11_lampKinds_15 (by decide) (by omega) (fun z => absurd z (by omega)) (fun _ => ?_)
  refine g_iload_n dX11_lampKinds_18 rfl rfl ?_
  refine g_iconst (v := (nI 1)) dX11_lampKinds_19 rfl ?_
  refine g_iload_n dX11_lampKinds_20 rfl rfl ?_
  refine g_ishl dX11_lampKinds_21 ?_
  refine g_ior dX11_lampKinds_22 ?_
  refine g_istore_n (lv' := [(1, .int (((nI 0) ||| ((nI 1) <<< ((nI 0) &&& 31))) ||| ((nI 1) <<< ((nI (0 + 1)) &&& 31)))), (2, .int (nI (0 + 1))), (0, .ref 0)]) dX11_lampKinds_23 rfl (by decide) rfl ?_
  refine g_iinc (v := (nI (0 + 1 + 1))) (lv' := [(2, .int (nI (0 + 1 + 1))), (1, .int (((nI 0) ||| ((nI 1) <<< ((nI 0) &&& 31))) ||| ((nI 1) <<< ((nI (0 + 1)) &&& 31)))), (0, .ref 0)]) dX11_lampKinds_24 rfl (nI_1 (0 + 1)) (by decide) rfl ?_
  refine g_goto 4 dX11_lampKinds_27 (by decide) ?_
  refine g_iload_n dX11_lampKinds_4 rfl rfl ?_
  refine g_bipush (v := (nI 6)) dX11_lampKinds_5 rfl ?_
  refine g_ic_geN 30 dX11_lampKinds_7 (by decide) (by omega) (by omega) (fun z => absurd z (by omega)) (fun _ => ?_)
  refine g_aload_n dX11_lampKinds_10 rfl rfl ?_
  refine g_iload_n dX11_lampKinds_11 rfl rfl ?_
  refine g_callV (T := TX11) (NN := 18) [] (v_lampFits S F (nI (0 + 1 + 1))) dX11_lampKinds_12 kk_X11_lampKinds_X11_lampFits ml_RX11_365 mwX11_lampFits ewX11_lampFits (by decide) rfl rfl rfl rfl (Nat.le_of_ble_eq_true rfl) ?_
  rintro _ _ ⟨_, rfl, rfl, rfl⟩
  refine g_if_eqN 24 dX11_lampKinds_15 (by decide) (by omega) (fun z => absurd z (by omega)) (fun _ => ?_)
  refine g_iload_n dX11_lampKinds_18 rfl rfl ?_
  refine g_iconst (v := (nI 1)) dX11_lampKinds_19 rfl ?_
  refine g_iload_n dX11_lampKinds_20 rfl rfl ?_
  refine g_ishl dX11_lampKinds_21 ?_
  refine g_ior dX11_lampKinds_22 ?_
  refine g_istore_n (lv' := [(1, .int ((((nI 0) ||| ((nI 1) <<< ((nI 0) &&& 31))) ||| ((nI 1) <<< ((nI (0 + 1)) &&& 31))) ||| ((nI 1) <<< ((nI (0 + 1 + 1)) &&& 31)))), (2, .int (nI (0 + 1 + 1))), (0, .ref 0)]) dX11_lampKinds_23 rfl (by decide) rfl ?_
  refine g_iinc (v := (nI (0 + 1 + 1 + 1))) (lv' := [(2, .int (nI (0 + 1 + 1 + 1))), (1, .int ((((nI 0) ||| ((nI 1) <<< ((nI 0) &&& 31))) ||| ((nI 1) <<< ((nI (0 + 1)) &&& 31))) ||| ((nI 1) <<< ((nI (0 + 1 + 1)) &&& 31)))), (0, .ref 0)]) dX11_lampKinds_24 rfl (nI_1 (0 + 1 + 1)) (by decide) rfl ?_
  refine g_goto 4 dX11_lampKinds_27 (by decide) ?_
  refine g_iload_n dX11_lampKinds_4 rfl rfl ?_
  refine g_bipush (v := (nI 6)) dX11_lampKinds_5 rfl ?_
  refine g_ic_geN 30 dX11_lampKinds_7 (by decide) (by omega) (by omega) (fun z => absurd z (by omega)) (fun _ => ?_)
  refine g_aload_n dX11_lampKinds_10 rfl rfl ?_
  refine g_iload_n dX11_lampKinds_11 rfl rfl ?_
  refine g_callV (T := TX11) (NN := 18) [] (v_lampFits S F (nI (0 + 1 + 1 + 1))) dX11_lampKinds_12 kk_X11_lampKinds_X11_lampFits ml_RX11_365 mwX11_lampFits ewX11_lampFits (by decide) rfl rfl rfl rfl (Nat.le_of_ble_eq_true rfl) ?_
  rintro _ _ ⟨_, rfl, rfl, rfl⟩
  refine g_if_eqN 24 dX11_lampKinds_15 (by decide) (by omega) (fun z => absurd z (by omega)) (fun _ => ?_)
  refine g_iload_n dX11_lampKinds_18 rfl rfl ?_
  refine g_iconst (v := (nI 1)) dX11_lampKinds_19 rfl ?_
  refine g_iload_n dX11_lampKinds_20 rfl rfl ?_
  refine g_ishl dX11_lampKinds_21 ?_
  refine g_ior dX11_lampKinds_22 ?_
  refine g_istore_n (lv' := [(1, .int (((((nI 0) ||| ((nI 1) <<< ((nI 0) &&& 31))) ||| ((nI 1) <<< ((nI (0 + 1)) &&& 31))) ||| ((nI 1) <<< ((nI (0 + 1 + 1)) &&& 31))) ||| ((nI 1) <<< ((nI (0 + 1 + 1 + 1)) &&& 31)))), (2, .int (nI (0 + 1 + 1 + 1))), (0, .ref 0)]) dX11_lampKinds_23 rfl (by decide) rfl ?_
  refine g_iinc (v := (nI (0 + 1 + 1 + 1 + 1))) (lv' := [(2, .int (nI (0 + 1 + 1 + 1 + 1))), (1, .int (((((nI 0) ||| ((nI 1) <<< ((nI 0) &&& 31))) ||| ((nI 1) <<< ((nI (0 + 1)) &&& 31))) ||| ((nI 1) <<< ((nI (0 + 1 + 1)) &&& 31))) ||| ((nI 1) <<< ((nI (0 + 1 + 1 + 1)) &&& 31)))), (0, .ref 0)]) dX11_lampKinds_24 rfl (nI_1 (0 + 1 + 1 + 1)) (by decide) rfl ?_
  refine g_goto 4 dX11_lampKinds_27 (by decide) ?_
  refine g_iload_n dX11_lampKinds_4 rfl rfl ?_
  refine g_bipush (v := (nI 6)) dX11_lampKinds_5 rfl ?_
  refine g_ic_geN 30 dX11_lampKinds_7 (by decide) (by omega) (by omega) (fun z => absurd z (by omega)) (fun _ => ?_)
  refine g_aload_n dX11_lampKinds_10 rfl rfl ?_
  refine g_iload_n dX11_lampKinds_11 rfl rfl ?_
  refine g_callV (T := TX11) (NN := 18) [] (v_lampFits S F (nI (0 + 1 + 1 + 1 + 1))) dX11_lampKinds_12 kk_X11_lampKinds_X11_lampFits ml_RX11_365 mwX11_lampFits ewX11_lampFits (by decide) rfl rfl rfl rfl (Nat.le_of_ble_eq_true rfl) ?_
  rintro _ _ ⟨_, rfl, rfl, rfl⟩
  refine g_if_eqN 24 dX11_lampKinds_15 (by decide) (by omega) (fun z => absurd z (by omega)) (fun _ => ?_)
  refine g_iload_n dX11_lampKinds_18 rfl rfl ?_
  refine g_iconst (v := (nI 1)) dX11_lampKinds_19 rfl ?_
  refine g_iload_n dX11_lampKinds_20 rfl rfl ?_
  refine g_ishl dX11_lampKinds_21 ?_
  refine g_ior dX11_lampKinds_22 ?_
  refine g_istore_n (lv' := [(1, .int ((((((nI 0) ||| ((nI 1) <<< ((nI 0) &&& 31))) ||| ((nI 1) <<< ((nI (0 + 1)) &&& 31))) ||| ((nI 1) <<< ((nI (0 + 1 + 1)) &&& 31))) ||| ((nI 1) <<< ((nI (0 + 1 + 1 + 1)) &&& 31))) ||| ((nI 1) <<< ((nI (0 + 1 + 1 + 1 + 1)) &&& 31)))), (2, .int (nI (0 + 1 + 1 + 1 + 1))), (0, .ref 0)]) dX11_lampKinds_23 rfl (by decide) rfl ?_
  refine g_iinc (v := (nI (0 + 1 + 1 + 1 + 1 + 1))) (lv' := [(2, .int (nI (0 + 1 + 1 + 1 + 1 + 1))), (1, .int ((((((nI 0) ||| ((nI 1) <<< ((nI 0) &&& 31))) ||| ((nI 1) <<< ((nI (0 + 1)) &&& 31))) ||| ((nI 1) <<< ((nI (0 + 1 + 1)) &&& 31))) ||| ((nI 1) <<< ((nI (0 + 1 + 1 + 1)) &&& 31))) ||| ((nI 1) <<< ((nI (0 + 1 + 1 + 1 + 1)) &&& 31)))), (0, .ref 0)]) dX11_lampKinds_24 rfl (nI_1 (0 + 1 + 1 + 1 + 1)) (by decide) rfl ?_
  refine g_goto 4 dX11_lampKinds_27 (by decide) ?_
  refine g_iload_n dX11_lampKinds_4 rfl rfl ?_
  refine g_bipush (v := (nI 6)) dX11_lampKinds_5 rfl ?_
  refine g_ic_geN 30 dX11_lampKinds_7 (by decide) (by omega) (by omega) (fun z => absurd z (by omega)) (fun _ => ?_)
  refine g_aload_n dX11_lampKinds_10 rfl rfl ?_
  refine g_iload_n dX11_lampKinds_11 rfl rfl ?_
  refine g_callV (T := TX11) (NN := 18) [] (v_lampFits S F (nI (0 + 1 + 1 + 1 + 1 + 1))) dX11_lampKinds_12 kk_X11_lampKinds_X11_lampFits ml_RX11_365 mwX11_lampFits ewX11_lampFits (by decide) rfl rfl rfl rfl (Nat.le_of_ble_eq_true rfl) ?_
  rintro _ _ ⟨_, rfl, rfl, rfl⟩
  refine g_if_eqN 24 dX11_lampKinds_15 (by decide) (by omega) (fun z => absurd z (by omega)) (fun _ => ?_)
  refine g_iload_n dX11_lampKinds_18 rfl rfl ?_
  refine g_iconst (v := (nI 1)) dX11_lampKinds_19 rfl ?_
  refine g_iload_n dX11_lampKinds_20 rfl rfl ?_
  refine g_ishl dX11_lampKinds_21 ?_
  refine g_ior dX11_lampKinds_22 ?_
  refine g_istore_n (lv' := [(1, .int (((((((nI 0) ||| ((nI 1) <<< ((nI 0) &&& 31))) ||| ((nI 1) <<< ((nI (0 + 1)) &&& 31))) ||| ((nI 1) <<< ((nI (0 + 1 + 1)) &&& 31))) ||| ((nI 1) <<< ((nI (0 + 1 + 1 + 1)) &&& 31))) ||| ((nI 1) <<< ((nI (0 + 1 + 1 + 1 + 1)) &&& 31))) ||| ((nI 1) <<< ((nI (0 + 1 + 1 + 1 + 1 + 1)) &&& 31)))), (2, .int (nI (0 + 1 + 1 + 1 + 1 + 1))), (0, .ref 0)]) dX11_lampKinds_23 rfl (by decide) rfl ?_
  refine g_iinc (v := (nI (0 + 1 + 1 + 1 + 1 + 1 + 1))) (lv' := [(2, .int (nI (0 + 1 + 1 + 1 + 1 + 1 + 1))), (1, .int (((((((nI 0) ||| ((nI 1) <<< ((nI 0) &&& 31))) ||| ((nI 1) <<< ((nI (0 + 1)) &&& 31))) ||| ((nI 1) <<< ((nI (0 + 1 + 1)) &&& 31))) ||| ((nI 1) <<< ((nI (0 + 1 + 1 + 1)) &&& 31))) ||| ((nI 1) <<< ((nI (0 + 1 + 1 + 1 + 1)) &&& 31))) ||| ((nI 1) <<< ((nI (0 + 1 + 1 + 1 + 1 + 1)) &&& 31)))), (0, .ref 0)]) dX11_lampKinds_24 rfl (nI_1 (0 + 1 + 1 + 1 + 1 + 1)) (by decide) rfl ?_
  refine g_goto 4 dX11_lampKinds_27 (by decide) ?_
  refine g_iload_n dX11_lampKinds_4 rfl rfl ?_
  refine g_bipush (v := (nI 6)) dX11_lampKinds_5 rfl ?_
  refine g_ic_geN 30 dX11_lampKinds_7 (by decide) (by omega) (by omega) (fun _ => ?_) (fun z => absurd z (by omega))
  refine g_iload_n dX11_lampKinds_30 rfl rfl ?_
  refine g_iret dX11_lampKinds_31 rfl rfl ?_
  exact ⟨_, rfl, by decide, rfl⟩
set_option maxRecDepth 100000 in
theorem t_kinds (S : zs_S) (F : zs_F0 S)  : zs_Ci MX11_kinds [.ref 0] S (fun x S2 => x = nI 63 ∧ zs_ch 0 80 S S2) := by
  refine zs_C.of (by decide) (Nat.le_of_ble_eq_true rfl) ?_
  show zs_P MX11_kinds 0 [(0, .ref 0)] [] S _
  refine g_aload_n dX11_kinds_0 rfl rfl ?_
  refine g_callV (T := TX11) (NN := 18) [] (v_lampKinds S F) dX11_kinds_1 kk_X11_kinds_X11_lampKinds ml_RX11_261 mwX11_lampKinds ewX11_lampKinds (by decide) rfl rfl rfl rfl (Nat.le_of_ble_eq_true rfl) ?_
  rintro _ _ ⟨_, rfl, rfl, rfl⟩
  refine g_iret dX11_kinds_4 rfl rfl ?_
  exact ⟨_, rfl, rfl, zs_ch.rf⟩
set_option maxRecDepth 100000 in
theorem v_split (S : zs_S) (F : zs_F0 S) : zs_Ci MX10_splitTokens [.ref 43] S (fun x S2 => x = nI 0 ∧ S = S2) := by
  refine zs_C.of (by decide) (Nat.le_of_ble_eq_true rfl) ?_
  show zs_P MX10_splitTokens 0 [(0, .ref 43)] [] S _
  refine g_iconst (v := (nI 0)) dX10_splitTokens_0 rfl ?_
  refine g_istore_n (lv' := [(1, .int (nI 0)), (0, .ref 43)]) dX10_splitTokens_1 rfl (by decide) rfl ?_
  refine g_iconst (v := (nI 0)) dX10_splitTokens_2 rfl ?_
  refine g_istore_n (lv' := [(2, .int (nI 0)), (1, .int (nI 0)), (0, .ref 43)]) dX10_splitTokens_3 rfl (by decide) rfl ?_
  refine g_iconst (v := (nI 0)) dX10_splitTokens_4 rfl ?_
  refine g_istore_n (lv' := [(3, .int (nI 0)), (2, .int (nI 0)), (1, .int (nI 0)), (0, .ref 43)]) dX10_splitTokens_5 rfl (by decide) rfl ?_
  refine g_iload_n dX10_splitTokens_6 rfl rfl ?_
  refine g_aload_n dX10_splitTokens_7 rfl rfl ?_
  refine g_getV 1 (C := RX10) (T := TX10) (N := 8) (v := (nI 0)) dX10_splitTokens_8 (by decide) rfl rfl (by decide) rfl fl_RX10_34 (congrFun (F 43 (by decide)).1 1) ?_
  refine g_ic_geN 101 dX10_splitTokens_11 (by decide) (by omega) (by omega) (fun _ => ?_) (fun z => absurd z (by omega))
  refine g_iload_n dX10_splitTokens_101 rfl rfl ?_
  refine g_iret dX10_splitTokens_102 rfl rfl ?_
  exact ⟨_, rfl, rfl, rfl⟩
set_option maxRecDepth 100000 in
theorem v_names (S : zs_S) (F : zs_F0 S) : zs_Cv MX10_nameTokens [.ref 43, .int (nI 0)] S (fun S2 => S2 = zs_pu (zs_pu S 61 151 (nI 0) (nI 0)) 59 151 (nI 0) (nI 0)) := by
  refine zs_C.of (by decide) (Nat.le_of_ble_eq_true rfl) ?_
  show zs_P MX10_nameTokens 0 [(0, .ref 43), (1, .int (nI 0))] [] S _
  refine g_iconst (v := (nI 0)) dX10_nameTokens_0 rfl ?_
  refine g_istore_n (lv' := [(2, .int (nI 0)), (0, .ref 43), (1, .int (nI 0))]) dX10_nameTokens_1 rfl (by decide) rfl ?_
  refine g_iload_n dX10_nameTokens_2 rfl rfl ?_
  refine g_iload_n dX10_nameTokens_3 rfl rfl ?_
  refine g_ic_geN 69 dX10_nameTokens_4 (by decide) (by omega) (by omega) (fun _ => ?_) (fun z => absurd z (by omega))
  refine g_aload_n dX10_nameTokens_69 rfl rfl ?_
  refine g_getR 5 (61) (C := RX10) (T := TX10) (N := 8) dX10_nameTokens_70 (by decide) rfl rfl (by decide) rfl fl_RX10_28 ?_
  refine g_iload_n dX10_nameTokens_73 rfl rfl ?_
  refine g_iconst (v := (nI 0)) dX10_nameTokens_74 rfl ?_
  refine g_callN [.ref 61, .int (nI 0), .int (nI 0)] [] (x_put S 61 151 (nI 0) (nI 0) (by decide) rfl (by decide)) dX10_nameTokens_75 kk_X10_nameTokens_X11_put nl_RX10_38 swX11_put rfl rfl (Nat.le_of_ble_eq_true rfl) ?_
  rintro _ _ ⟨rfl, rfl⟩
  refine g_aload_n dX10_nameTokens_78 rfl rfl ?_
  refine g_getR 3 (59) (C := RX10) (T := TX10) (N := 8) dX10_nameTokens_79 (by decide) rfl rfl (by decide) rfl fl_RX10_22 ?_
  refine g_iload_n dX10_nameTokens_82 rfl rfl ?_
  refine g_aload_n dX10_nameTokens_83 rfl rfl ?_
  refine g_getV 1 (C := RX10) (T := TX10) (N := 8) (v := (nI 0)) dX10_nameTokens_84 (by decide) rfl rfl (by decide) rfl fl_RX10_34 ((zs_pu_o (by decide)).trans (congrFun (F 43 (by decide)).1 1)) ?_
  refine g_callN [.ref 59, .int (nI 0), .int (nI 0)] [] (x_put (zs_pu S 61 151 (nI 0) (nI 0)) 59 151 (nI 0) (nI 0) (by decide) rfl (by decide)) dX10_nameTokens_87 kk_X10_nameTokens_X11_put nl_RX10_38 swX11_put rfl rfl (Nat.le_of_ble_eq_true rfl) ?_
  rintro _ _ ⟨rfl, rfl⟩
  refine g_ret dX10_nameTokens_90 rfl ?_
  exact ⟨rfl, rfl⟩
set_option maxRecDepth 100000 in
theorem v_token (S : zs_S) : zs_Ci MX10_token [.ref 43] S (fun x S2 => x = zs_ce 151 (S.1 61) (S.1 43 7) ∧ S = S2) := by
  refine zs_C.of (by decide) (Nat.le_of_ble_eq_true rfl) ?_
  show zs_P MX10_token 0 [(0, .ref 43)] [] S _
  refine g_aload_n dX10_token_0 rfl rfl ?_
  refine g_getR 5 (61) (C := RX10) (T := TX10) (N := 8) dX10_token_1 (by decide) rfl rfl (by decide) rfl fl_RX10_28 ?_
  refine g_aload_n dX10_token_4 rfl rfl ?_
  refine g_getI 7 (C := RX10) (T := TX10) (N := 8) dX10_token_5 (by decide) rfl rfl (by decide) rfl fl_RX10_50 ?_
  refine g_callN [.ref 61, .int (S.1 43 7)] [] (x_cell S 61 151 (S.1 43 7) (by decide) rfl (by decide)) dX10_token_8 kk_X10_token_X11_cell nl_RX10_66 swX11_cell rfl rfl (Nat.le_of_ble_eq_true rfl) ?_
  rintro _ _ ⟨_, rfl, rfl, rfl⟩
  refine g_iret dX10_token_11 rfl rfl ?_
  exact ⟨_, rfl, rfl, rfl⟩
set_option maxRecDepth 100000 in
theorem v_fault (S : zs_S) : zs_Ci MX10_fault [.ref 43] S (fun x S2 => x = -10 - zs_ce 151 (S.1 59) (S.1 43 7) ∧ S = S2) := by
  refine zs_C.of (by decide) (Nat.le_of_ble_eq_true rfl) ?_
  show zs_P MX10_fault 0 [(0, .ref 43)] [] S _
  refine g_bipush (v := (-10)) dX10_fault_0 rfl ?_
  refine g_aload_n dX10_fault_2 rfl rfl ?_
  refine g_getR 3 (59) (C := RX10) (T := TX10) (N := 8) dX10_fault_3 (by decide) rfl rfl (by decide) rfl fl_RX10_22 ?_
  refine g_aload_n dX10_fault_6 rfl rfl ?_
  refine g_getI 7 (C := RX10) (T := TX10) (N := 8) dX10_fault_7 (by decide) rfl rfl (by decide) rfl fl_RX10_50 ?_
  refine g_callN [.ref 59, .int (S.1 43 7)] [.int (-10)] (x_cell S 59 151 (S.1 43 7) (by decide) rfl (by decide)) dX10_fault_10 kk_X10_fault_X11_cell nl_RX10_66 swX11_cell rfl rfl (Nat.le_of_ble_eq_true rfl) ?_
  rintro _ _ ⟨_, rfl, rfl, rfl⟩
  refine g_isub dX10_fault_13 ?_
  refine g_iret dX10_fault_14 rfl rfl ?_
  exact ⟨_, rfl, rfl, rfl⟩
theorem zs_pu0 {S : zs_S} {a n : Nat} (h : 0 < n) (hn : n < 2 ^ 31) {v : Int32} : zs_pu S a n (nI 0) v = (zs_up S.1 a 0 v, S.2) := zs_pu_nI h hn
set_option maxRecDepth 100000 in
theorem v_readDraft (S : zs_S) (F : zs_F0 S) : zs_Ci MX10_readDraft [.ref 43] S (fun x S2 => x = -10 ∧ zs_ch 43 63 S S2) := by
  refine zs_C.of (by decide) (Nat.le_of_ble_eq_true rfl) ?_
  show zs_P MX10_readDraft 0 [(0, .ref 43)] [] S _
  refine g_aload_n dX10_readDraft_0 rfl rfl ?_
  refine g_aload_n dX10_readDraft_1 rfl rfl ?_
  refine g_callV (T := TX10) (NN := 8) [.ref 43] (v_split S F) dX10_readDraft_2 kk_X10_readDraft_X10_splitTokens ml_RX10_42 mwX10_splitTokens ewX10_splitTokens (by decide) rfl rfl rfl rfl (Nat.le_of_ble_eq_true rfl) ?_
  rintro _ _ ⟨_, rfl, rfl, rfl⟩
  refine g_callV (T := TX10) (NN := 8) [] (v_names S F) dX10_readDraft_5 kk_X10_readDraft_X10_nameTokens ml_RX10_46 mwX10_nameTokens ewX10_nameTokens (by decide) rfl rfl rfl rfl (Nat.le_of_ble_eq_true rfl) ?_
  rintro _ _ ⟨rfl, rfl⟩
  refine g_aload_n dX10_readDraft_8 rfl rfl ?_
  refine g_iconst (v := (nI 0)) dX10_readDraft_9 rfl ?_
  refine g_putI 7 (C := RX10) (T := TX10) (N := 8) (ty := .int) dX10_readDraft_10 (by decide) rfl rfl (by decide) rfl fl_RX10_50 rfl (by decide +kernel) ⟨rfl, rfl⟩ ?_
  refine g_aload_n dX10_readDraft_13 rfl rfl ?_
  refine g_callV (T := TX10) (NN := 8) [] (v_token (zs_up (zs_pu (zs_pu S 61 151 (nI 0) (nI 0)) 59 151 (nI 0) (nI 0)).1 43 7 (nI 0), (zs_pu (zs_pu S 61 151 (nI 0) (nI 0)) 59 151 (nI 0) (nI 0)).2)) dX10_readDraft_14 kk_X10_readDraft_X10_token ml_RX10_53 mwX10_token ewX10_token (by decide) rfl rfl rfl rfl (Nat.le_of_ble_eq_true rfl) ?_
  rintro _ _ ⟨_, rfl, rfl, rfl⟩
  have e1 : zs_ce 151 ((zs_up (zs_pu (zs_pu S 61 151 (nI 0) (nI 0)) 59 151 (nI 0) (nI 0)).1 43 7 (nI 0), (zs_pu (zs_pu S 61 151 (nI 0) (nI 0)) 59 151 (nI 0) (nI 0)).2).1 61) ((zs_up (zs_pu (zs_pu S 61 151 (nI 0) (nI 0)) 59 151 (nI 0) (nI 0)).1 43 7 (nI 0), (zs_pu (zs_pu S 61 151 (nI 0) (nI 0)) 59 151 (nI 0) (nI 0)).2).1 43 7) = nI 0 := by rw [zs_up_q, zs_ce_nI (by decide) (by decide)]; exact (zs_up_m (by decide)).trans ((zs_pu_o (by decide)).trans (by rw [zs_pu0 (by decide) (by decide)]; exact zs_up_q))
  rw [e1]
  refine g_iconst (v := (nI 4)) dX10_readDraft_17 rfl ?_
  refine g_ic_neN 28 dX10_readDraft_18 (by decide) (by omega) (by omega) (fun _ => ?_) (fun z => absurd z (by omega))
  refine g_aload_n dX10_readDraft_28 rfl rfl ?_
  refine g_callV (T := TX10) (NN := 8) [] (v_fault (zs_up (zs_pu (zs_pu S 61 151 (nI 0) (nI 0)) 59 151 (nI 0) (nI 0)).1 43 7 (nI 0), (zs_pu (zs_pu S 61 151 (nI 0) (nI 0)) 59 151 (nI 0) (nI 0)).2)) dX10_readDraft_29 kk_X10_readDraft_X10_fault ml_RX10_60 mwX10_fault ewX10_fault (by decide) rfl rfl rfl rfl (Nat.le_of_ble_eq_true rfl) ?_
  rintro _ _ ⟨_, rfl, rfl, rfl⟩
  have e2 : -10 - zs_ce 151 ((zs_up (zs_pu (zs_pu S 61 151 (nI 0) (nI 0)) 59 151 (nI 0) (nI 0)).1 43 7 (nI 0), (zs_pu (zs_pu S 61 151 (nI 0) (nI 0)) 59 151 (nI 0) (nI 0)).2).1 59) ((zs_up (zs_pu (zs_pu S 61 151 (nI 0) (nI 0)) 59 151 (nI 0) (nI 0)).1 43 7 (nI 0), (zs_pu (zs_pu S 61 151 (nI 0) (nI 0)) 59 151 (nI 0) (nI 0)).2).1 43 7) = -10 := by rw [zs_up_q, zs_ce_nI (by decide) (by decide), show (zs_up (zs_pu (zs_pu S 61 151 (nI 0) (nI 0)) 59 151 (nI 0) (nI 0)).1 43 7 (nI 0), (zs_pu (zs_pu S 61 151 (nI 0) (nI 0)) 59 151 (nI 0) (nI 0)).2).1 59 0 = nI 0 from (zs_up_m (by decide)).trans (by rw [zs_pu0 (by decide) (by decide)]; exact zs_up_q)]; decide
  refine g_iret dX10_readDraft_32 rfl rfl ?_
  exact ⟨_, rfl, e2, (((zs_ch.rf.pu (by decide) (by decide)).pu (by decide) (by decide)).up (by decide) (by decide))⟩
set_option maxRecDepth 100000 in
theorem t_read (S : zs_S) (F : zs_F0 S)  : zs_Ci MX11_read [.ref 0] S (fun x S2 => x = (-10) ∧ zs_ch 0 80 S S2) := by
  refine zs_C.of (by decide) (Nat.le_of_ble_eq_true rfl) ?_
  show zs_P MX11_read 0 [(0, .ref 0)] [] S _
  refine g_aload_n dX11_read_0 rfl rfl ?_
  refine g_getR 5 (43) (C := RX11) (T := TX11) (N := 18) dX11_read_1 (by decide) rfl rfl (by decide) rfl fl_RX11_25 ?_
  refine g_callV (T := TX10) (NN := 8) [] (v_readDraft S F) dX11_read_4 kk_X11_read_X10_readDraft ml_RX11_127 mwX10_readDraft ewX10_readDraft (by decide) rfl rfl rfl rfl (Nat.le_of_ble_eq_true rfl) ?_
  rintro _ S1 ⟨_, rfl, rfl, c2⟩
  refine g_istore_n (lv' := [(1, .int (-10)), (0, .ref 0)]) dX11_read_7 rfl (by decide) rfl ?_
  refine g_iload_n dX11_read_8 rfl rfl ?_
  refine g_if_le 26 dX11_read_9 (by decide) (fun _ => ?_) (fun z => absurd (show (-10 : Int32) ≤ 0 by decide) z)
  refine g_iload_n dX11_read_26 rfl rfl ?_
  refine g_iret dX11_read_27 rfl rfl ?_
  exact ⟨_, rfl, rfl, (zs_ch.rf.and c2 (by omega) (by omega))⟩
