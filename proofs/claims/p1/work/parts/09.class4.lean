/-- the class is fresh but for the trial, which stands so -/
def zs_tr (S0 S : zs_S) (f k s : Nat) : Prop := zs_ch 63 67 S0 S ∧ S.1 63 0 = nI f ∧ S.1 63 1 = nI k ∧ S.1 63 2 = nI s ∧ ∀ j, j < 12 → S.1 64 j = nI 0
/-- the class is fresh but for its moment and its past -/
def zs_nw (S0 S : zs_S) (f k s : Nat) : Prop := zs_ch 3 9 S0 S ∧ S.1 3 0 = nI f ∧ S.1 3 1 = nI k ∧ S.1 3 2 = nI s
set_option maxRecDepth 100000 in
theorem v_flash_tr (S0 S : zs_S) (F : zs_F0 S0) (f k s : Nat) (hf : f < 2) (hk : k < 20000) (hs : s < 12) (h : zs_tr S0 S f k s) : zs_Cv MX6_flash [.ref 1, .ref 63] S (fun S2 => zs_tr S0 S2 ((f + s) % 2) (k + 1) s) := by
  refine zs_C.of (by decide) (Nat.le_of_ble_eq_true rfl) ?_
  show zs_P MX6_flash 0 [(0, .ref 1), (1, .ref 63)] [] S _
  refine g_aload_n dX6_flash_0 rfl rfl ?_
  refine g_dup dX6_flash_1 rfl ?_
  refine g_getV 1 (C := RX3) (T := TX3) (N := 6) (v := (nI k)) dX6_flash_2 (by decide) rfl rfl (by decide) rfl fl_RX6_91 h.2.2.1 ?_
  refine g_iconst (v := (nI 1)) dX6_flash_5 rfl ?_
  refine g_iaddN dX6_flash_6 ?_
  refine g_putI 1 (C := RX3) (T := TX3) (N := 6) (ty := .int) dX6_flash_7 (by decide) rfl rfl (by decide) rfl fl_RX6_91 rfl (by decide +kernel) ⟨rfl, rfl⟩ ?_
  refine g_aload_n dX6_flash_10 rfl rfl ?_
  refine g_aload_n dX6_flash_11 rfl rfl ?_
  refine g_getV 0 (C := RX3) (T := TX3) (N := 6) (v := (nI f)) dX6_flash_12 (by decide) rfl rfl (by decide) rfl fl_RX6_96 ((zs_up_m (by decide)).trans h.2.1) ?_
  refine g_aload_n dX6_flash_15 rfl rfl ?_
  refine g_getV 1 (C := RX6) (T := TX6) (N := 9) (v := (nI 0)) dX6_flash_16 (by decide) rfl rfl (by decide) rfl fl_RX6_48 ((zs_up_m (by decide)).trans ((congrFun (h.1 1 (by omega)).1 1).trans (congrFun (F 1 (by decide)).1 1))) ?_
  refine g_aload_n dX6_flash_19 rfl rfl ?_
  refine g_getV 2 (C := RX3) (T := TX3) (N := 6) (v := (nI s)) dX6_flash_20 (by decide) rfl rfl (by decide) rfl fl_RX6_99 ((zs_up_m (by decide)).trans h.2.2.2.1) ?_
  refine g_aload_n dX6_flash_23 rfl rfl ?_
  refine g_getV 1 (C := RX3) (T := TX3) (N := 6) (v := (nI (k + 1))) dX6_flash_24 (by decide) rfl rfl (by decide) rfl fl_RX6_91 zs_up_q ?_
  refine g_callS [.int (nI 0), .int (nI s), .int (nI (k + 1))] [.int (nI f), .ref 63] (x_pass0 (zs_up S.1 63 1 (nI (k + 1)), S.2) s (k + 1) (by omega) (by omega)) dX6_flash_27 kk_X6_flash_X2_passing ml_RX6_102 swX2_passing rfl rfl (Nat.le_of_ble_eq_true rfl) ?_
  rintro _ _ ⟨_, rfl, rfl, rfl⟩
  refine g_iaddN dX6_flash_30 ?_
  refine g_aload_n dX6_flash_31 rfl rfl ?_
  refine g_getV 0 (C := RX6) (T := TX6) (N := 9) (v := (nI 2)) dX6_flash_32 (by decide) rfl rfl (by decide) rfl fl_RX6_9 ((zs_up_m (by decide)).trans ((congrFun (h.1 1 (by omega)).1 0).trans (congrFun (F 1 (by decide)).1 0))) ?_
  refine g_callN [.int (nI (f + s)), .int (nI 2)] [.ref 63] (x_wrap (zs_up S.1 63 1 (nI (k + 1)), S.2) (f + s) 2 (by omega) (by decide) (by decide)) dX6_flash_35 kk_X6_flash_X11_wrap nl_RX6_108 swX11_wrap rfl rfl (Nat.le_of_ble_eq_true rfl) ?_
  rintro _ _ ⟨_, rfl, rfl, rfl⟩
  refine g_putI 0 (C := RX3) (T := TX3) (N := 6) (ty := .int) dX6_flash_38 (by decide) rfl rfl (by decide) rfl fl_RX6_96 rfl (by decide +kernel) ⟨rfl, rfl⟩ ?_
  refine g_aload_n dX6_flash_41 rfl rfl ?_
  refine g_aload_n dX6_flash_42 rfl rfl ?_
  refine g_callV (T := TX6) (NN := 9) [] (s_hand (zs_up (zs_up S.1 63 1 (nI (k + 1)), S.2).1 63 0 (nI ((f + s) % 2)), (zs_up S.1 63 1 (nI (k + 1)), S.2).2) 1 63 zs_Mo63) dX6_flash_43 kk_X6_flash_X6_drawingAtHand ml_RX6_112 mwX6_drawingAtHand ewX6_drawingAtHand (by decide) rfl rfl rfl rfl (Nat.le_of_ble_eq_true rfl) ?_
  rintro _ _ ⟨_, rfl, rfl, rfl⟩
  generalize zs_ce 12 _ _ = dr
  refine g_istore_n (lv' := [(2, .int dr), (0, .ref 1), (1, .ref 63)]) dX6_flash_46 rfl (by decide) rfl ?_
  refine g_iconst (v := (nI 0)) dX6_flash_47 rfl ?_
  refine g_istore_n (lv' := [(3, .int (nI 0)), (2, .int dr), (0, .ref 1), (1, .ref 63)]) dX6_flash_48 rfl (by decide) rfl ?_
  refine g_iload_n dX6_flash_49 rfl rfl ?_
  refine g_aload_n dX6_flash_50 rfl rfl ?_
  refine g_getV 2 (C := RX6) (T := TX6) (N := 9) (v := (nI 0)) dX6_flash_51 (by decide) rfl rfl (by decide) rfl fl_RX6_51 ((zs_up_m (by decide)).trans ((zs_up_m (by decide)).trans ((congrFun (h.1 1 (by omega)).1 2).trans (congrFun (F 1 (by decide)).1 2)))) ?_
  refine g_ic_geN 130 dX6_flash_54 (by decide) (by omega) (by omega) (fun _ => ?_) (fun z => absurd z (by omega))
  refine g_ret dX6_flash_130 rfl ?_
  exact ⟨rfl, (h.1.up (by omega) (by omega)).up (by omega) (by omega), zs_up_q, (zs_up_m (by decide)).trans zs_up_q, (zs_up_m (by decide)).trans ((zs_up_m (by decide)).trans h.2.2.2.1), fun j hj => (zs_up_m (by omega)).trans ((zs_up_m (by omega)).trans (h.2.2.2.2 j hj))⟩
set_option maxRecDepth 100000 in
theorem v_flash_nw (S0 S : zs_S) (F : zs_F0 S0) (f k s : Nat) (hf : f < 2) (hk : k < 20000) (hs : s < 12) (h : zs_nw S0 S f k s) : zs_Cv MX6_flash [.ref 1, .ref 3] S (fun S2 => zs_nw S0 S2 ((f + s) % 2) (k + 1) s) := by
  refine zs_C.of (by decide) (Nat.le_of_ble_eq_true rfl) ?_
  show zs_P MX6_flash 0 [(0, .ref 1), (1, .ref 3)] [] S _
  refine g_aload_n dX6_flash_0 rfl rfl ?_
  refine g_dup dX6_flash_1 rfl ?_
  refine g_getV 1 (C := RX3) (T := TX3) (N := 6) (v := (nI k)) dX6_flash_2 (by decide) rfl rfl (by decide) rfl fl_RX6_91 h.2.2.1 ?_
  refine g_iconst (v := (nI 1)) dX6_flash_5 rfl ?_
  refine g_iaddN dX6_flash_6 ?_
  refine g_putI 1 (C := RX3) (T := TX3) (N := 6) (ty := .int) dX6_flash_7 (by decide) rfl rfl (by decide) rfl fl_RX6_91 rfl (by decide +kernel) ⟨rfl, rfl⟩ ?_
  refine g_aload_n dX6_flash_10 rfl rfl ?_
  refine g_aload_n dX6_flash_11 rfl rfl ?_
  refine g_getV 0 (C := RX3) (T := TX3) (N := 6) (v := (nI f)) dX6_flash_12 (by decide) rfl rfl (by decide) rfl fl_RX6_96 ((zs_up_m (by decide)).trans h.2.1) ?_
  refine g_aload_n dX6_flash_15 rfl rfl ?_
  refine g_getV 1 (C := RX6) (T := TX6) (N := 9) (v := (nI 0)) dX6_flash_16 (by decide) rfl rfl (by decide) rfl fl_RX6_48 ((zs_up_m (by decide)).trans ((congrFun (h.1 1 (by omega)).1 1).trans (congrFun (F 1 (by decide)).1 1))) ?_
  refine g_aload_n dX6_flash_19 rfl rfl ?_
  refine g_getV 2 (C := RX3) (T := TX3) (N := 6) (v := (nI s)) dX6_flash_20 (by decide) rfl rfl (by decide) rfl fl_RX6_99 ((zs_up_m (by decide)).trans h.2.2.2) ?_
  refine g_aload_n dX6_flash_23 rfl rfl ?_
  refine g_getV 1 (C := RX3) (T := TX3) (N := 6) (v := (nI (k + 1))) dX6_flash_24 (by decide) rfl rfl (by decide) rfl fl_RX6_91 zs_up_q ?_
  refine g_callS [.int (nI 0), .int (nI s), .int (nI (k + 1))] [.int (nI f), .ref 3] (x_pass0 (zs_up S.1 3 1 (nI (k + 1)), S.2) s (k + 1) (by omega) (by omega)) dX6_flash_27 kk_X6_flash_X2_passing ml_RX6_102 swX2_passing rfl rfl (Nat.le_of_ble_eq_true rfl) ?_
  rintro _ _ ⟨_, rfl, rfl, rfl⟩
  refine g_iaddN dX6_flash_30 ?_
  refine g_aload_n dX6_flash_31 rfl rfl ?_
  refine g_getV 0 (C := RX6) (T := TX6) (N := 9) (v := (nI 2)) dX6_flash_32 (by decide) rfl rfl (by decide) rfl fl_RX6_9 ((zs_up_m (by decide)).trans ((congrFun (h.1 1 (by omega)).1 0).trans (congrFun (F 1 (by decide)).1 0))) ?_
  refine g_callN [.int (nI (f + s)), .int (nI 2)] [.ref 3] (x_wrap (zs_up S.1 3 1 (nI (k + 1)), S.2) (f + s) 2 (by omega) (by decide) (by decide)) dX6_flash_35 kk_X6_flash_X11_wrap nl_RX6_108 swX11_wrap rfl rfl (Nat.le_of_ble_eq_true rfl) ?_
  rintro _ _ ⟨_, rfl, rfl, rfl⟩
  refine g_putI 0 (C := RX3) (T := TX3) (N := 6) (ty := .int) dX6_flash_38 (by decide) rfl rfl (by decide) rfl fl_RX6_96 rfl (by decide +kernel) ⟨rfl, rfl⟩ ?_
  refine g_aload_n dX6_flash_41 rfl rfl ?_
  refine g_aload_n dX6_flash_42 rfl rfl ?_
  refine g_callV (T := TX6) (NN := 9) [] (s_hand (zs_up (zs_up S.1 3 1 (nI (k + 1)), S.2).1 3 0 (nI ((f + s) % 2)), (zs_up S.1 3 1 (nI (k + 1)), S.2).2) 1 3 zs_Mo3) dX6_flash_43 kk_X6_flash_X6_drawingAtHand ml_RX6_112 mwX6_drawingAtHand ewX6_drawingAtHand (by decide) rfl rfl rfl rfl (Nat.le_of_ble_eq_true rfl) ?_
  rintro _ _ ⟨_, rfl, rfl, rfl⟩
  generalize zs_ce 12 _ _ = dr
  refine g_istore_n (lv' := [(2, .int dr), (0, .ref 1), (1, .ref 3)]) dX6_flash_46 rfl (by decide) rfl ?_
  refine g_iconst (v := (nI 0)) dX6_flash_47 rfl ?_
  refine g_istore_n (lv' := [(3, .int (nI 0)), (2, .int dr), (0, .ref 1), (1, .ref 3)]) dX6_flash_48 rfl (by decide) rfl ?_
  refine g_iload_n dX6_flash_49 rfl rfl ?_
  refine g_aload_n dX6_flash_50 rfl rfl ?_
  refine g_getV 2 (C := RX6) (T := TX6) (N := 9) (v := (nI 0)) dX6_flash_51 (by decide) rfl rfl (by decide) rfl fl_RX6_51 ((zs_up_m (by decide)).trans ((zs_up_m (by decide)).trans ((congrFun (h.1 1 (by omega)).1 2).trans (congrFun (F 1 (by decide)).1 2)))) ?_
  refine g_ic_geN 130 dX6_flash_54 (by decide) (by omega) (by omega) (fun _ => ?_) (fun z => absurd z (by omega))
  refine g_ret dX6_flash_130 rfl ?_
  exact ⟨rfl, (h.1.up (by omega) (by omega)).up (by omega) (by omega), zs_up_q, (zs_up_m (by decide)).trans zs_up_q, (zs_up_m (by decide)).trans ((zs_up_m (by decide)).trans h.2.2.2)⟩
set_option maxRecDepth 100000 in
theorem v_start (S0 S : zs_S) (F : zs_F0 S0) (s : Nat) (h : zs_ch 63 67 S0 S) : zs_Cv MX11_startTrial [.ref 0, .int (nI s)] S (fun S2 => zs_tr S0 S2 0 0 s) := by
  refine zs_C.of (by decide) (Nat.le_of_ble_eq_true rfl) ?_
  show zs_P MX11_startTrial 0 [(0, .ref 0), (1, .int (nI s))] [] S _
  refine g_aload_n dX11_startTrial_0 rfl rfl ?_
  refine g_getR 11 (63) (C := RX11) (T := TX11) (N := 18) dX11_startTrial_1 (by decide) rfl rfl (by decide) rfl fl_RX11_36 ?_
  refine g_aload_n dX11_startTrial_4 rfl rfl ?_
  refine g_getR 0 (1) (C := RX11) (T := TX11) (N := 18) dX11_startTrial_5 (by decide) rfl rfl (by decide) rfl fl_RX11_10 ?_
  refine g_getR 4 (3) (C := RX6) (T := TX6) (N := 9) dX11_startTrial_8 (by decide) rfl rfl (by decide) rfl fl_RX11_137 ?_
  refine g_callV (T := TX3) (NN := 6) [] (m_become S 63 3 zs_Mo63 zs_Mo3 (by decide)) dX11_startTrial_11 kk_X11_startTrial_X3_become ml_RX11_340 mwX3_become ewX3_become (by decide) rfl rfl rfl rfl (Nat.le_of_ble_eq_true rfl) ?_
  rintro _ S1 ⟨rfl, c2, e0, e1, e2, -⟩
  refine g_aload_n dX11_startTrial_14 rfl rfl ?_
  refine g_getR 11 (63) (C := RX11) (T := TX11) (N := 18) dX11_startTrial_15 (by decide) rfl rfl (by decide) rfl fl_RX11_36 ?_
  refine g_iload_n dX11_startTrial_18 rfl rfl ?_
  refine g_putI 2 (C := RX3) (T := TX3) (N := 6) (ty := .int) dX11_startTrial_19 (by decide) rfl rfl (by decide) rfl fl_RX11_153 rfl (by decide +kernel) ⟨rfl, rfl⟩ ?_
  refine g_aload_n dX11_startTrial_22 rfl rfl ?_
  refine g_getR 11 (63) (C := RX11) (T := TX11) (N := 18) dX11_startTrial_23 (by decide) rfl rfl (by decide) rfl fl_RX11_36 ?_
  refine g_getR 5 (66) (C := RX3) (T := TX3) (N := 6) dX11_startTrial_26 (by decide) rfl rfl (by decide) rfl fl_RX11_191 ?_
  refine g_iconst (v := (nI 0)) dX11_startTrial_29 rfl ?_
  refine g_callS [.ref 66, .int (nI 0)] [] (x_fill (zs_up S1.1 63 2 (nI s), S1.2) 66 5 (nI 0) (by decide) rfl (by decide)) dX11_startTrial_30 kk_X11_startTrial_X11_fill ml_RX11_342 swX11_fill rfl rfl (Nat.le_of_ble_eq_true rfl) ?_
  rintro _ _ ⟨rfl, rfl⟩
  refine g_ret dX11_startTrial_33 rfl ?_
  refine ⟨rfl, ((h.and c2 (by omega) (by omega)).up (by omega) (by omega)).fi (by omega) (by omega), ?_, ?_, ?_, fun j hj => ?_⟩
  · exact (zs_fi_o (by decide)).trans ((zs_up_m (by decide)).trans (e0.trans ((congrFun (h 3 (by omega)).1 0).trans (congrFun (F 3 (by decide)).1 0))))
  · exact (zs_fi_o (by decide)).trans ((zs_up_m (by decide)).trans (e1.trans ((congrFun (h 3 (by omega)).1 1).trans (congrFun (F 3 (by decide)).1 1))))
  · exact (zs_fi_o (by decide)).trans zs_up_q
  · exact (zs_fi_o (by omega)).trans ((zs_up_m (by omega)).trans ((e2 j hj).trans ((congrFun (h 4 (by omega)).1 j).trans (congrFun (F 4 (by decide)).1 j))))
set_option maxRecDepth 100000 in
theorem v_try_l (S0 : zs_S) (F : zs_F0 S0) (n : Nat) (hn : n ≤ 60) (Q : Option Value → zs_S → Prop) (hq : ∀ S, zs_tr S0 S (n % 2) n 1 → Q none S) : ∀ (d i : Nat), i + d = n → ∀ S, zs_tr S0 S (i % 2) i 1 → zs_P MX11_tryFlashes 7 [(3, .int (nI i)), (0, .ref 0), (1, .int (nI 1)), (2, .int (nI n))] [] S Q := by
  intro d
  induction d with
  | zero =>
    intro i hi S h
    obtain rfl : i = n := by omega
    refine g_iload_n dX11_tryFlashes_7 rfl rfl ?_
    refine g_iload_n dX11_tryFlashes_8 rfl rfl ?_
    refine g_ic_geN 29 dX11_tryFlashes_9 (by decide) (by omega) (by omega) (fun _ => ?_) (fun z => absurd z (by omega))
    refine g_ret dX11_tryFlashes_29 rfl ?_
    exact hq S h
  | succ d ih =>
    intro i hi S h
    refine g_iload_n dX11_tryFlashes_7 rfl rfl ?_
    refine g_iload_n dX11_tryFlashes_8 rfl rfl ?_
    refine g_ic_geN 29 dX11_tryFlashes_9 (by decide) (by omega) (by omega) (fun z => absurd z (by omega)) (fun _ => ?_)
    refine g_aload_n dX11_tryFlashes_12 rfl rfl ?_
    refine g_getR 0 (1) (C := RX11) (T := TX11) (N := 18) dX11_tryFlashes_13 (by decide) rfl rfl (by decide) rfl fl_RX11_10 ?_
    refine g_aload_n dX11_tryFlashes_16 rfl rfl ?_
    refine g_getR 11 (63) (C := RX11) (T := TX11) (N := 18) dX11_tryFlashes_17 (by decide) rfl rfl (by decide) rfl fl_RX11_36 ?_
    refine g_callV (T := TX6) (NN := 9) [] (v_flash_tr S0 S F (i % 2) (i) 1 (by omega) (by omega) (by omega) h) dX11_tryFlashes_20 kk_X11_tryFlashes_X6_flash ml_RX11_201 mwX6_flash ewX6_flash (by decide) rfl rfl rfl rfl (Nat.le_of_ble_eq_true rfl) ?_
    rintro _ S2 ⟨rfl, h2⟩
    refine g_iinc (v := (nI (i + 1))) (lv' := [(3, .int (nI (i + 1))), (0, .ref 0), (1, .int (nI 1)), (2, .int (nI n))]) dX11_tryFlashes_23 rfl (nI_1 i) (by decide) rfl ?_
    refine g_goto 7 dX11_tryFlashes_26 (by decide) ?_
    exact ih (i + 1) (by omega) S2 (by rw [show (i + 1) % 2 = (i % 2 + 1) % 2 by omega]; exact h2)
set_option maxRecDepth 100000 in
theorem v_try (S0 : zs_S) (F : zs_F0 S0) (n : Nat) (hn : n ≤ 60) : zs_Cv MX11_tryFlashes [.ref 0, .int (nI 1), .int (nI n)] S0 (fun S2 => zs_tr S0 S2 (n % 2) n 1) := by
  refine zs_C.of (by decide) (Nat.le_of_ble_eq_true rfl) ?_
  show zs_P MX11_tryFlashes 0 [(0, .ref 0), (1, .int (nI 1)), (2, .int (nI n))] [] S0 _
  refine g_aload_n dX11_tryFlashes_0 rfl rfl ?_
  refine g_iload_n dX11_tryFlashes_1 rfl rfl ?_
  refine g_callV (T := TX11) (NN := 18) [] (v_start S0 S0 F 1 zs_ch.rf) dX11_tryFlashes_2 kk_X11_tryFlashes_X11_startTrial ml_RX11_198 mwX11_startTrial ewX11_startTrial (by decide) rfl rfl rfl rfl (Nat.le_of_ble_eq_true rfl) ?_
  rintro _ S1 ⟨rfl, t2⟩
  refine g_iconst (v := (nI 0)) dX11_tryFlashes_5 rfl ?_
  refine g_istore_n (lv' := [(3, .int (nI 0)), (0, .ref 0), (1, .int (nI 1)), (2, .int (nI n))]) dX11_tryFlashes_6 rfl (by decide) rfl ?_
  exact v_try_l S0 F n hn _ (fun S2 h2 => ⟨rfl, h2⟩) n 0 (by omega) _ t2
/-- where it is behind m flashes by step 1, two frames -/
def zs_par (m : Int32) : Int32 := nI (m.toNatClampNeg % 2)
theorem zs_par_nI {n : Nat} (h : n < 2 ^ 31) : zs_par (nI n) = nI (n % 2) := by unfold zs_par; rw [nI_clamp h]
set_option maxRecDepth 100000 in
theorem t_at (S : zs_S) (F : zs_F0 S) (m : Int32) : zs_Ci MX11_at [.ref 0, .int m] S (fun x S2 => x = zs_if (nI 0 ≤ m ∧ m ≤ nI 60) (zs_par m) (-2) ∧ zs_ch 0 80 S S2) := by
  refine zs_C.of (by decide) (Nat.le_of_ble_eq_true rfl) ?_
  show zs_P MX11_at 0 [(0, .ref 0), (1, .int m)] [] S _
  refine g_iload_n dX11_at_0 rfl rfl ?_
  refine g_iconst (v := (nI 0)) dX11_at_1 rfl ?_
  refine g_bipush (v := (nI 60)) dX11_at_2 rfl ?_
  refine g_callS [.int m, .int (nI 0), .int (nI 60)] [] (x_within S m (nI 0) (nI 60)) dX11_at_4 kk_X11_at_X11_within ml_RX11_75 swX11_within rfl rfl (Nat.le_of_ble_eq_true rfl) ?_
  rintro _ _ ⟨_, rfl, rfl, rfl⟩
  refine g_if_ne 17 dX11_at_7 (by decide) (fun h1 => ?_) (fun h1 => ?_)
  · have h1 := zs_b1 h1
    obtain ⟨m', m'a, m'b, rfl⟩ := zs_rng h1 (by omega)
    refine g_aload_n dX11_at_17 rfl rfl ?_
    refine g_aload_n dX11_at_18 rfl rfl ?_
    refine g_getR 0 (1) (C := RX11) (T := TX11) (N := 18) dX11_at_19 (by decide) rfl rfl (by decide) rfl fl_RX11_10 ?_
    refine g_getR 4 (3) (C := RX6) (T := TX6) (N := 9) dX11_at_22 (by decide) rfl rfl (by decide) rfl fl_RX11_137 ?_
    refine g_getV 2 (C := RX3) (T := TX3) (N := 6) (v := (nI 1)) dX11_at_25 (by decide) rfl rfl (by decide) rfl fl_RX11_153 (congrFun (F 3 (by decide)).1 2) ?_
    refine g_iload_n dX11_at_28 rfl rfl ?_
    refine g_callV (T := TX11) (NN := 18) [] (v_try S F m' (by omega)) dX11_at_29 kk_X11_at_X11_tryFlashes ml_RX11_194 mwX11_tryFlashes ewX11_tryFlashes (by decide) rfl rfl rfl rfl (Nat.le_of_ble_eq_true rfl) ?_
    rintro _ S2 ⟨rfl, t3⟩
    refine g_aload_n dX11_at_32 rfl rfl ?_
    refine g_getR 11 (63) (C := RX11) (T := TX11) (N := 18) dX11_at_33 (by decide) rfl rfl (by decide) rfl fl_RX11_36 ?_
    refine g_getV 0 (C := RX3) (T := TX3) (N := 6) (v := (nI (m' % 2))) dX11_at_36 (by decide) rfl rfl (by decide) rfl fl_RX11_150 t3.2.1 ?_
    refine g_iret dX11_at_39 rfl rfl ?_
    exact ⟨_, rfl, ((zs_it h1).trans (zs_par_nI (by omega))).symm, (zs_ch.rf.and t3.1 (by omega) (by omega))⟩
  · have h1 := zs_b0 h1
    refine g_aload_n dX11_at_10 rfl rfl ?_
    refine g_bipush (v := (-2)) dX11_at_11 rfl ?_
    refine g_callV (T := TX11) (NN := 18) [] (x_refuseBad S (-2)) dX11_at_13 kk_X11_at_X11_refuseBad ml_RX11_86 mwX11_refuseBad ewX11_refuseBad (by decide) rfl rfl rfl rfl (Nat.le_of_ble_eq_true rfl) ?_
    rintro _ _ ⟨_, rfl, rfl, rfl⟩
    refine g_iret dX11_at_16 rfl rfl ?_
    exact ⟨_, rfl, (zs_ie h1).symm, (zs_ch.rf.up (by omega) (by omega))⟩
set_option maxRecDepth 100000 in
theorem v_isAsNow (S0 S : zs_S) (F : zs_F0 S0) (f k s : Nat) (hf : f < 2) (h : zs_tr S0 S f k s) : zs_Ci MX11_trialIsAsNow [.ref 0] S (fun x S2 => x = zs_b (f = 0) ∧ S = S2) := by
  refine zs_C.of (by decide) (Nat.le_of_ble_eq_true rfl) ?_
  show zs_P MX11_trialIsAsNow 0 [(0, .ref 0)] [] S _
  refine g_aload_n dX11_trialIsAsNow_0 rfl rfl ?_
  refine g_getR 11 (63) (C := RX11) (T := TX11) (N := 18) dX11_trialIsAsNow_1 (by decide) rfl rfl (by decide) rfl fl_RX11_36 ?_
  refine g_getV 0 (C := RX3) (T := TX3) (N := 6) (v := (nI f)) dX11_trialIsAsNow_4 (by decide) rfl rfl (by decide) rfl fl_RX11_150 h.2.1 ?_
  refine g_aload_n dX11_trialIsAsNow_7 rfl rfl ?_
  refine g_getR 0 (1) (C := RX11) (T := TX11) (N := 18) dX11_trialIsAsNow_8 (by decide) rfl rfl (by decide) rfl fl_RX11_10 ?_
  refine g_getR 4 (3) (C := RX6) (T := TX6) (N := 9) dX11_trialIsAsNow_11 (by decide) rfl rfl (by decide) rfl fl_RX11_137 ?_
  refine g_getV 0 (C := RX3) (T := TX3) (N := 6) (v := (nI 0)) dX11_trialIsAsNow_14 (by decide) rfl rfl (by decide) rfl fl_RX11_150 ((congrFun (h.1 3 (by omega)).1 0).trans (congrFun (F 3 (by decide)).1 0)) ?_
  refine g_ic_eqN 22 dX11_trialIsAsNow_17 (by decide) (by omega) (by omega) (fun h1 => ?_) (fun h1 => ?_)
  · refine g_iconst (v := (nI 0)) dX11_trialIsAsNow_22 rfl ?_
    refine g_istore_n (lv' := [(1, .int (nI 0)), (0, .ref 0)]) dX11_trialIsAsNow_23 rfl (by decide) rfl ?_
    refine g_iload_n dX11_trialIsAsNow_24 rfl rfl ?_
    refine g_aload_n dX11_trialIsAsNow_25 rfl rfl ?_
    refine g_getR 0 (1) (C := RX11) (T := TX11) (N := 18) dX11_trialIsAsNow_26 (by decide) rfl rfl (by decide) rfl fl_RX11_10 ?_
    refine g_getV 2 (C := RX6) (T := TX6) (N := 9) (v := (nI 0)) dX11_trialIsAsNow_29 (by decide) rfl rfl (by decide) rfl fl_RX11_90 ((congrFun (h.1 1 (by omega)).1 2).trans (congrFun (F 1 (by decide)).1 2)) ?_
    refine g_ic_geN 71 dX11_trialIsAsNow_32 (by decide) (by omega) (by omega) (fun _ => ?_) (fun z => absurd z (by omega))
    refine g_iconst (v := (nI 1)) dX11_trialIsAsNow_71 rfl ?_
    refine g_iret dX11_trialIsAsNow_72 rfl rfl ?_
    exact ⟨_, rfl, (zs_bt h1).symm, rfl⟩
  · refine g_iconst (v := (nI 0)) dX11_trialIsAsNow_20 rfl ?_
    refine g_iret dX11_trialIsAsNow_21 rfl rfl ?_
    exact ⟨_, rfl, (zs_bf h1).symm, rfl⟩
set_option maxRecDepth 100000 in
theorem t_round (S : zs_S) (F : zs_F0 S)  : zs_Ci MX11_round [.ref 0] S (fun x S2 => x = nI 2 ∧ zs_ch 0 80 S S2) := by
  refine zs_C.of (by decide) (Nat.le_of_ble_eq_true rfl) ?_
  show zs_P MX11_round 0 [(0, .ref 0)] [] S _
  refine g_aload_n dX11_round_0 rfl rfl ?_
  refine g_aload_n dX11_round_1 rfl rfl ?_
  refine g_getR 0 (1) (C := RX11) (T := TX11) (N := 18) dX11_round_2 (by decide) rfl rfl (by decide) rfl fl_RX11_10 ?_
  refine g_getR 4 (3) (C := RX6) (T := TX6) (N := 9) dX11_round_5 (by decide) rfl rfl (by decide) rfl fl_RX11_137 ?_
  refine g_getV 2 (C := RX3) (T := TX3) (N := 6) (v := (nI 1)) dX11_round_8 (by decide) rfl rfl (by decide) rfl fl_RX11_153 (congrFun (F 3 (by decide)).1 2) ?_
  refine g_callV (T := TX11) (NN := 18) [] (v_start S S F 1 zs_ch.rf) dX11_round_11 kk_X11_round_X11_startTrial ml_RX11_198 mwX11_startTrial ewX11_startTrial (by decide) rfl rfl rfl rfl (Nat.le_of_ble_eq_true rfl) ?_
  rintro _ S1 ⟨rfl, t2⟩
  refine g_iconst (v := (nI 1)) dX11_round_14 rfl ?_
  refine g_istore_n (lv' := [(1, .int (nI 1)), (0, .ref 0)]) dX11_round_15 rfl (by decide) rfl ?_
  refine g_iload_n dX11_round_16 rfl rfl ?_
  refine g_bipush (v := (nI 60)) dX11_round_17 rfl ?_
  refine g_ic_gtN 48 dX11_round_19 (by decide) (by omega) (by omega) (fun z => absurd z (by omega)) (fun _ => ?_)
  refine g_aload_n dX11_round_22 rfl rfl ?_
  refine g_getR 0 (1) (C := RX11) (T := TX11) (N := 18) dX11_round_23 (by decide) rfl rfl (by decide) rfl fl_RX11_10 ?_
  refine g_aload_n dX11_round_26 rfl rfl ?_
  refine g_getR 11 (63) (C := RX11) (T := TX11) (N := 18) dX11_round_27 (by decide) rfl rfl (by decide) rfl fl_RX11_36 ?_
  refine g_callV (T := TX6) (NN := 9) [] (v_flash_tr S S1 F 0 0 1 (by decide) (by decide) (by decide) t2) dX11_round_30 kk_X11_round_X6_flash ml_RX11_201 mwX6_flash ewX6_flash (by decide) rfl rfl rfl rfl (Nat.le_of_ble_eq_true rfl) ?_
  rintro _ S3 ⟨rfl, t4⟩
  refine g_aload_n dX11_round_33 rfl rfl ?_
  refine g_callV (T := TX11) (NN := 18) [] (v_isAsNow S S3 F ((0 + 1) % 2) (0 + 1) 1 (by decide) t4) dX11_round_34 kk_X11_round_X11_trialIsAsNow ml_RX11_203 mwX11_trialIsAsNow ewX11_trialIsAsNow (by decide) rfl rfl rfl rfl (Nat.le_of_ble_eq_true rfl) ?_
  rintro _ _ ⟨_, rfl, rfl, rfl⟩
  refine g_if_eq 42 dX11_round_37 (by decide) (fun _ => ?_) (fun z => absurd (zs_bf (by decide)) z)
  refine g_iinc (v := (nI (1 + 1))) (lv' := [(1, .int (nI (1 + 1))), (0, .ref 0)]) dX11_round_42 rfl (nI_1 1) (by decide) rfl ?_
  refine g_goto 16 dX11_round_45 (by decide) ?_
  refine g_iload_n dX11_round_16 rfl rfl ?_
  refine g_bipush (v := (nI 60)) dX11_round_17 rfl ?_
  refine g_ic_gtN 48 dX11_round_19 (by decide) (by omega) (by omega) (fun z => absurd z (by omega)) (fun _ => ?_)
  refine g_aload_n dX11_round_22 rfl rfl ?_
  refine g_getR 0 (1) (C := RX11) (T := TX11) (N := 18) dX11_round_23 (by decide) rfl rfl (by decide) rfl fl_RX11_10 ?_
  refine g_aload_n dX11_round_26 rfl rfl ?_
  refine g_getR 11 (63) (C := RX11) (T := TX11) (N := 18) dX11_round_27 (by decide) rfl rfl (by decide) rfl fl_RX11_36 ?_
  refine g_callV (T := TX6) (NN := 9) [] (v_flash_tr S S3 F ((0 + 1) % 2) (0 + 1) 1 (by decide) (by decide) (by decide) t4) dX11_round_30 kk_X11_round_X6_flash ml_RX11_201 mwX6_flash ewX6_flash (by decide) rfl rfl rfl rfl (Nat.le_of_ble_eq_true rfl) ?_
  rintro _ S5 ⟨rfl, t6⟩
  refine g_aload_n dX11_round_33 rfl rfl ?_
  refine g_callV (T := TX11) (NN := 18) [] (v_isAsNow S S5 F ((((0 + 1) % 2) + 1) % 2) ((0 + 1) + 1) 1 (by decide) t6) dX11_round_34 kk_X11_round_X11_trialIsAsNow ml_RX11_203 mwX11_trialIsAsNow ewX11_trialIsAsNow (by decide) rfl rfl rfl rfl (Nat.le_of_ble_eq_true rfl) ?_
  rintro _ _ ⟨_, rfl, rfl, rfl⟩
  refine g_if_eq 42 dX11_round_37 (by decide) (fun z => absurd z (by rw [zs_bt (by decide)]; decide)) (fun _ => ?_)
  refine g_iload_n dX11_round_40 rfl rfl ?_
  refine g_iret dX11_round_41 rfl rfl ?_
  exact ⟨_, rfl, rfl, t6.1.wide (by decide) (by decide)⟩
theorem v_hand (S0 S : zs_S) (f k s : Nat) (hf : f < 2) (h : zs_tr S0 S f k s) : zs_Ci MX6_drawingAtHand [.ref 1, .ref 63] S (fun x S2 => x = nI 0 ∧ S = S2) := (s_hand S 1 63 zs_Mo63).mono (by
  rintro _ _ ⟨x, rfl, rfl, rfl⟩
  refine ⟨_, rfl, ?_, rfl⟩
  rw [h.2.1, zs_ce_nI (by omega) (by decide)]
  exact h.2.2.2.2 f (by omega))
theorem v_hand3 (S0 S : zs_S) (h : zs_ch 63 67 S0 S) (F : zs_F0 S0) : zs_Ci MX6_drawingAtHand [.ref 1, .ref 3] S (fun x S2 => x = nI 0 ∧ S = S2) := (s_hand S 1 3 zs_Mo3).mono (by
  rintro _ _ ⟨x, rfl, rfl, rfl⟩
  exact ⟨_, rfl, zs_ceF ((h 4 (by omega)).1.trans (F 4 (by decide)).1), rfl⟩)
set_option maxRecDepth 100000 in
theorem v_still_l (S0 : zs_S) (F : zs_F0 S0) (n s : Nat) (hn : n ≤ 60) (hs : s < 12) (Q : Option Value → zs_S → Prop) (hq : ∀ S, zs_ch 63 67 S0 S → Q (some (.int (nI 1))) S) : ∀ (d i : Nat), i + d = n → ∀ f, f < 2 → ∀ S, zs_tr S0 S f i s → zs_P MX11_standsStill 23 [(4, .int (nI i)), (3, .int (nI 0)), (0, .ref 0), (1, .int (nI s)), (2, .int (nI n))] [] S Q := by
  intro d
  induction d with
  | zero =>
    intro i hi f hf S h
    obtain rfl : i = n := by omega
    refine g_iload dX11_standsStill_23 rfl ?_
    refine g_iload_n dX11_standsStill_25 rfl rfl ?_
    refine g_ic_geN 63 dX11_standsStill_26 (by decide) (by omega) (by omega) (fun _ => ?_) (fun z => absurd z (by omega))
    refine g_iconst (v := (nI 1)) dX11_standsStill_63 rfl ?_
    refine g_iret dX11_standsStill_64 rfl rfl ?_
    exact hq S h.1
  | succ d ih =>
    intro i hi f hf S h
    refine g_iload dX11_standsStill_23 rfl ?_
    refine g_iload_n dX11_standsStill_25 rfl rfl ?_
    refine g_ic_geN 63 dX11_standsStill_26 (by decide) (by omega) (by omega) (fun z => absurd z (by omega)) (fun _ => ?_)
    refine g_aload_n dX11_standsStill_29 rfl rfl ?_
    refine g_getR 0 (1) (C := RX11) (T := TX11) (N := 18) dX11_standsStill_30 (by decide) rfl rfl (by decide) rfl fl_RX11_10 ?_
    refine g_aload_n dX11_standsStill_33 rfl rfl ?_
    refine g_getR 11 (63) (C := RX11) (T := TX11) (N := 18) dX11_standsStill_34 (by decide) rfl rfl (by decide) rfl fl_RX11_36 ?_
    refine g_callV (T := TX6) (NN := 9) [] (v_flash_tr S0 S F f i s hf (by omega) (by omega) h) dX11_standsStill_37 kk_X11_standsStill_X6_flash ml_RX11_201 mwX6_flash ewX6_flash (by decide) rfl rfl rfl rfl (Nat.le_of_ble_eq_true rfl) ?_
    rintro _ S2 ⟨rfl, h2⟩
    obtain ⟨f2, hf2, e2⟩ : ∃ f2, f2 < 2 ∧ f2 = (f + s) % 2 := ⟨_, Nat.mod_lt _ (by decide), rfl⟩
    rw [← e2] at h2
    refine g_aload_n dX11_standsStill_40 rfl rfl ?_
    refine g_getR 0 (1) (C := RX11) (T := TX11) (N := 18) dX11_standsStill_41 (by decide) rfl rfl (by decide) rfl fl_RX11_10 ?_
    refine g_aload_n dX11_standsStill_44 rfl rfl ?_
    refine g_getR 11 (63) (C := RX11) (T := TX11) (N := 18) dX11_standsStill_45 (by decide) rfl rfl (by decide) rfl fl_RX11_36 ?_
    refine g_callV (T := TX6) (NN := 9) [] (v_hand S0 S2 f2 (i + 1) s hf2 h2) dX11_standsStill_48 kk_X11_standsStill_X6_drawingAtHand ml_RX11_275 mwX6_drawingAtHand ewX6_drawingAtHand (by decide) rfl rfl rfl rfl (Nat.le_of_ble_eq_true rfl) ?_
    rintro _ _ ⟨_, rfl, rfl, rfl⟩
    refine g_iload_n dX11_standsStill_51 rfl rfl ?_
    refine g_ic_eqN 57 dX11_standsStill_52 (by decide) (by omega) (by omega) (fun _ => ?_) (fun z => absurd z (by omega))
    refine g_iinc (v := (nI (i + 1))) (lv' := [(4, .int (nI (i + 1))), (3, .int (nI 0)), (0, .ref 0), (1, .int (nI s)), (2, .int (nI n))]) dX11_standsStill_57 rfl (nI_1 i) (by decide) rfl ?_
    refine g_goto 23 dX11_standsStill_60 (by decide) ?_
    exact ih (i + 1) (by omega) f2 hf2 S2 h2
set_option maxRecDepth 100000 in
theorem v_stands (S0 S : zs_S) (F : zs_F0 S0) (n s : Nat) (hn : n ≤ 60) (hs : s < 12) (h : zs_ch 63 67 S0 S) : zs_Ci MX11_standsStill [.ref 0, .int (nI s), .int (nI n)] S (fun x S2 => x = nI 1 ∧ zs_ch 63 67 S0 S2) := by
  refine zs_C.of (by decide) (Nat.le_of_ble_eq_true rfl) ?_
  show zs_P MX11_standsStill 0 [(0, .ref 0), (1, .int (nI s)), (2, .int (nI n))] [] S _
  refine g_aload_n dX11_standsStill_0 rfl rfl ?_
  refine g_getR 0 (1) (C := RX11) (T := TX11) (N := 18) dX11_standsStill_1 (by decide) rfl rfl (by decide) rfl fl_RX11_10 ?_
  refine g_aload_n dX11_standsStill_4 rfl rfl ?_
  refine g_getR 0 (1) (C := RX11) (T := TX11) (N := 18) dX11_standsStill_5 (by decide) rfl rfl (by decide) rfl fl_RX11_10 ?_
  refine g_getR 4 (3) (C := RX6) (T := TX6) (N := 9) dX11_standsStill_8 (by decide) rfl rfl (by decide) rfl fl_RX11_137 ?_
  refine g_callV (T := TX6) (NN := 9) [] (v_hand3 S0 S h F) dX11_standsStill_11 kk_X11_standsStill_X6_drawingAtHand ml_RX11_275 mwX6_drawingAtHand ewX6_drawingAtHand (by decide) rfl rfl rfl rfl (Nat.le_of_ble_eq_true rfl) ?_
  rintro _ _ ⟨_, rfl, rfl, rfl⟩
  refine g_istore_n (lv' := [(3, .int (nI 0)), (0, .ref 0), (1, .int (nI s)), (2, .int (nI n))]) dX11_standsStill_14 rfl (by decide) rfl ?_
  refine g_aload_n dX11_standsStill_15 rfl rfl ?_
  refine g_iload_n dX11_standsStill_16 rfl rfl ?_
  refine g_callV (T := TX11) (NN := 18) [] (v_start S0 S F s h) dX11_standsStill_17 kk_X11_standsStill_X11_startTrial ml_RX11_198 mwX11_startTrial ewX11_startTrial (by decide) rfl rfl rfl rfl (Nat.le_of_ble_eq_true rfl) ?_
  rintro _ S1 ⟨rfl, h1⟩
  refine g_iconst (v := (nI 0)) dX11_standsStill_20 rfl ?_
  refine g_istore (lv' := [(4, .int (nI 0)), (3, .int (nI 0)), (0, .ref 0), (1, .int (nI s)), (2, .int (nI n))]) dX11_standsStill_21 (by decide) rfl ?_
  exact v_still_l S0 F n s hn hs _ (fun S2 h2 => ⟨_, rfl, rfl, h2⟩) n 0 (by omega) 0 (by decide) S1 h1
set_option maxRecDepth 100000 in
theorem t_still (S : zs_S) (F : zs_F0 S) (m : Int32) : zs_Ci MX11_still [.ref 0, .int m] S (fun x S2 => x = zs_if (nI 1 ≤ m ∧ m ≤ nI 60) (nI 4095) (-2) ∧ zs_ch 0 80 S S2) := by
  refine zs_C.of (by decide) (Nat.le_of_ble_eq_true rfl) ?_
  show zs_P MX11_still 0 [(0, .ref 0), (1, .int m)] [] S _
  refine g_iload_n dX11_still_0 rfl rfl ?_
  refine g_iconst (v := (nI 1)) dX11_still_1 rfl ?_
  refine g_bipush (v := (nI 60)) dX11_still_2 rfl ?_
  refine g_callS [.int m, .int (nI 1), .int (nI 60)] [] (x_within S m (nI 1) (nI 60)) dX11_still_4 kk_X11_still_X11_within ml_RX11_75 swX11_within rfl rfl (Nat.le_of_ble_eq_true rfl) ?_
  rintro _ _ ⟨_, rfl, rfl, rfl⟩
  refine g_if_ne 17 dX11_still_7 (by decide) (fun h1 => ?_) (fun h1 => ?_)
  · have h1 := zs_b1 h1
    obtain ⟨m', m'a, m'b, rfl⟩ := zs_rng h1 (by omega)
    refine g_iconst (v := (nI 0)) dX11_still_17 rfl ?_
    refine g_istore_n (lv' := [(2, .int (nI 0)), (0, .ref 0), (1, .int (nI m'))]) dX11_still_18 rfl (by decide) rfl ?_
    refine g_iconst (v := (nI 0)) dX11_still_19 rfl ?_
    refine g_istore_n (lv' := [(3, .int (nI 0)), (2, .int (nI 0)), (0, .ref 0), (1, .int (nI m'))]) dX11_still_20 rfl (by decide) rfl ?_
    refine g_iload_n dX11_still_21 rfl rfl ?_
    refine g_bipush (v := (nI 12)) dX11_still_22 rfl ?_
    refine g_ic_geN 48 dX11_still_24 (by decide) (by omega) (by omega) (fun z => absurd z (by omega)) (fun _ => ?_)
    refine g_aload_n dX11_still_27 rfl rfl ?_
    refine g_iload_n dX11_still_28 rfl rfl ?_
    refine g_iload_n dX11_still_29 rfl rfl ?_
    refine g_callV (T := TX11) (NN := 18) [] (v_stands S S F m' 0 (by omega) (by omega) zs_ch.rf) dX11_still_30 kk_X11_still_X11_standsStill ml_RX11_206 mwX11_standsStill ewX11_standsStill (by decide) rfl rfl rfl rfl (Nat.le_of_ble_eq_true rfl) ?_
    rintro _ S2 ⟨_, rfl, rfl, c3⟩
    refine g_if_eqN 42 dX11_still_33 (by decide) (by omega) (fun z => absurd z (by omega)) (fun _ => ?_)
    refine g_iload_n dX11_still_36 rfl rfl ?_
    refine g_iconst (v := (nI 1)) dX11_still_37 rfl ?_
    refine g_iload_n dX11_still_38 rfl rfl ?_
    refine g_ishl dX11_still_39 ?_
    refine g_ior dX11_still_40 ?_
    refine g_istore_n (lv' := [(2, .int ((nI 0) ||| ((nI 1) <<< ((nI 0) &&& 31)))), (3, .int (nI 0)), (0, .ref 0), (1, .int (nI m'))]) dX11_still_41 rfl (by decide) rfl ?_
    refine g_iinc (v := (nI (0 + 1))) (lv' := [(3, .int (nI (0 + 1))), (2, .int ((nI 0) ||| ((nI 1) <<< ((nI 0) &&& 31)))), (0, .ref 0), (1, .int (nI m'))]) dX11_still_42 rfl (nI_1 0) (by decide) rfl ?_
    refine g_goto 21 dX11_still_45 (by decide) ?_
    refine g_iload_n dX11_still_21 rfl rfl ?_
    refine g_bipush (v := (nI 12)) dX11_still_22 rfl ?_
    refine g_ic_geN 48 dX11_still_24 (by decide) (by omega) (by omega) (fun z => absurd z (by omega)) (fun _ => ?_)
    refine g_aload_n dX11_still_27 rfl rfl ?_
    refine g_iload_n dX11_still_28 rfl rfl ?_
    refine g_iload_n dX11_still_29 rfl rfl ?_
    refine g_callV (T := TX11) (NN := 18) [] (v_stands S S2 F m' (0 + 1) (by omega) (by omega) c3) dX11_still_30 kk_X11_still_X11_standsStill ml_RX11_206 mwX11_standsStill ewX11_standsStill (by decide) rfl rfl rfl rfl (Nat.le_of_ble_eq_true rfl) ?_
    rintro _ S4 ⟨_, rfl, rfl, c5⟩
    refine g_if_eqN 42 dX11_still_33 (by decide) (by omega) (fun z => absurd z (by omega)) (fun _ => ?_)
    refine g_iload_n dX11_still_36 rfl rfl ?_
    refine g_iconst (v := (nI 1)) dX11_still_37 rfl ?_
    refine g_iload_n dX11_still_38 rfl rfl ?_
    refine g_ishl dX11_still_39 ?_
    refine g_ior dX11_still_40 ?_
    refine g_istore_n (lv' := [(2, .int (((nI 0) ||| ((nI 1) <<< ((nI 0) &&& 31))) ||| ((nI 1) <<< ((nI (0 + 1)) &&& 31)))), (3, .int (nI (0 + 1))), (0, .ref 0), (1, .int (nI m'))]) dX11_still_41 rfl (by decide) rfl ?_
    refine g_iinc (v := (nI (0 + 1 + 1))) (lv' := [(3, .int (nI (0 + 1 + 1))), (2, .int (((nI 0) ||| ((nI 1) <<< ((nI 0) &&& 31))) ||| ((nI 1) <<< ((nI (0 + 1)) &&& 31)))), (0, .ref 0), (1, .int (nI m'))]) dX11_still_42 rfl (nI_1 (0 + 1)) (by decide) rfl ?_
    refine g_goto 21 dX11_still_45 (by decide) ?_
    refine g_iload_n dX11_still_21 rfl rfl ?_
    refine g_bipush (v := (nI 12)) dX11_still_22 rfl ?_
    refine g_ic_geN 48 dX11_still_24 (by decide) (by omega) (by omega) (fun z => absurd z (by omega)) (fun _ => ?_)
    refine g_aload_n dX11_still_27 rfl rfl ?_
    refine g_iload_n dX11_still_28 rfl rfl ?_
    refine g_iload_n dX11_still_29 rfl rfl ?_
    refine g_callV (T := TX11) (NN := 18) [] (v_stands S S4 F m' (0 + 1 + 1) (by omega) (by omega) c5) dX11_still_30 kk_X11_still_X11_standsStill ml_RX11_206 mwX11_standsStill ewX11_standsStill (by decide) rfl rfl rfl rfl (Nat.le_of_ble_eq_true rfl) ?_
    rintro _ S6 ⟨_, rfl, rfl, c7⟩
    refine g_if_eqN 42 dX11_still_33 (by decide) (by omega) (fun z => absurd z (by omega)) (fun _ => ?_)
    refine g_iload_n dX11_still_36 rfl rfl ?_
    refine g_iconst (v := (nI 1)) dX11_still_37 rfl ?_
    refine g_iload_n dX11_still_38 rfl rfl ?_
    refine g_ishl dX11_still_39 ?_
    refine g_ior dX11_still_40 ?_
    refine g_istore_n (lv' := [(2, .int ((((nI 0) ||| ((nI 1) <<< ((nI 0) &&& 31))) ||| ((nI 1) <<< ((nI (0 + 1)) &&& 31))) ||| ((nI 1) <<< ((nI (0 + 1 + 1)) &&& 31)))), (3, .int (nI (0 + 1 + 1))), (0, .ref 0), (1, .int (nI m'))]) dX11_still_41 rfl (by decide) rfl ?_
    refine g_iinc (v := (nI (0 + 1 + 1 + 1))) (lv' := [(3, .int (nI (0 + 1 + 1 + 1))), (2, .int ((((nI 0) ||| ((nI 1) <<< ((nI 0) &&& 31))) ||| ((nI 1) <<< ((nI (0 + 1)) &&& 31))) ||| ((nI 1) <<< ((nI (0 + 1 + 1)) &&& 31)))), (0, .ref 0), (1, .int (nI m'))]) dX11_still_42 rfl (nI_1 (0 + 1 + 1)) (by decide) rfl ?_
    refine g_goto 21 dX11_still_45 (by decide) ?_
    refine g_iload_n dX11_still_21 rfl rfl ?_
    refine g_bipush (v := (nI 12)) dX11_still_22 rfl ?_
    refine g_ic_geN 48 dX11_still_24 (by decide) (by omega) (by omega) (fun z => absurd z (by omega)) (fun _ => ?_)
    refine g_aload_n dX11_still_27 rfl rfl ?_
    refine g_iload_n dX11_still_28 rfl rfl ?_
    refine g_iload_n dX11_still_29 rfl rfl ?_
    refine g_callV (T := TX11) (NN := 18) [] (v_stands S S6 F m' (0 + 1 + 1 + 1) (by omega) (by omega) c7) dX11_still_30 kk_X11_still_X11_standsStill ml_RX11_206 mwX11_standsStill ewX11_standsStill (by decide) rfl rfl rfl rfl (Nat.le_of_ble_eq_true rfl) ?_
    rintro _ S8 ⟨_, rfl, rfl, c9⟩
    refine g_if_eqN 42 dX11_still_33 (by decide) (by omega) (fun z => absurd z (by omega)) (fun _ => ?_)
    refine g_iload_n dX11_still_36 rfl rfl ?_
    refine g_iconst (v := (nI 1)) dX11_still_37 rfl ?_
    refine g_iload_n dX11_still_38 rfl rfl ?_
    refine g_ishl dX11_still_39 ?_
    refine g_ior dX11_still_40 ?_
    refine g_istore_n (lv' := [(2, .int (((((nI 0) ||| ((nI 1) <<< ((nI 0) &&& 31))) ||| ((nI 1) <<< ((nI (0 + 1)) &&& 31))) ||| ((nI 1) <<< ((nI (0 + 1 + 1)) &&& 31))) ||| ((nI 1) <<< ((nI (0 + 1 + 1 + 1)) &&& 31)))), (3, .int (nI (0 + 1 + 1 + 1))), (0, .ref 0), (1, .int (nI m'))]) dX11_still_41 rfl (by decide) rfl ?_
    refine g_iinc (v := (nI (0 + 1 + 1 + 1 + 1))) (lv' := [(3, .int (nI (0 + 1 + 1 + 1 + 1))), (2, .int (((((nI 0) ||| ((nI 1) <<< ((nI 0) &&& 31))) ||| ((nI 1) <<< ((nI (0 + 1)) &&& 31))) ||| ((nI 1) <<< ((nI (0 + 1 + 1)) &&& 31))) ||| ((nI 1) <<< ((nI (0 + 1 + 1 + 1)) &&& 31)))), (0, .ref 0), (1, .int (nI m'))]) dX11_still_42 rfl (nI_1 (0 + 1 + 1 + 1)) (by decide) rfl ?_
    refine g_goto 21 dX11_still_45 (by decide) ?_
    refine g_iload_n dX11_still_21 rfl rfl ?_
    refine g_bipush (v := (nI 12)) dX11_still_22 rfl ?_
    refine g_ic_geN 48 dX11_still_24 (by decide) (by omega) (by omega) (fun z => absurd z (by omega)) (fun _ => ?_)
    refine g_aload_n dX11_still_27 rfl rfl ?_
    refine g_iload_n dX11_still_28 rfl rfl ?_
    refine g_iload_n dX11_still_29 rfl rfl ?_
    refine g_callV (T := TX11) (NN := 18) [] (v_stands S S8 F m' (0 + 1 + 1 + 1 + 1) (by omega) (by omega) c9) dX11_still_30 kk_X11_still_X11_standsStill ml_RX11_206 mwX11_standsStill ewX11_standsStill (by decide) rfl rfl rfl rfl (Nat.le_of_ble_eq_true rfl) ?_
    rintro _ S10 ⟨_, rfl, rfl, c11⟩
    refine g_if_eqN 42 dX11_still_33 (by decide) (by omega) (fun z => absurd z (by omega)) (fun _ => ?_)
    refine g_iload_n dX11_still_36 rfl rfl ?_
    refine g_iconst (v := (nI 1)) dX11_still_37 rfl ?_
    refine g_iload_n dX11_still_38 rfl rfl ?_
    refine g_ishl dX11_still_39 ?_
    refine g_ior dX11_still_40 ?_
    refine g_istore_n (lv' := [(2, .int ((((((nI 0) ||| ((nI 1) <<< ((nI 0) &&& 31))) ||| ((nI 1) <<< ((nI (0 + 1)) &&& 31))) ||| ((nI 1) <<< ((nI (0 + 1 + 1)) &&& 31))) ||| ((nI 1) <<< ((nI (0 + 1 + 1 + 1)) &&& 31))) ||| ((nI 1) <<< ((nI (0 + 1 + 1 + 1 + 1)) &&& 31)))), (3, .int (nI (0 + 1 + 1 + 1 + 1))), (0, .ref 0), (1, .int (nI m'))]) dX11_still_41 rfl (by decide) rfl ?_
    refine g_iinc (v := (nI (0 + 1 + 1 + 1 + 1 + 1))) (lv' := [(3, .int (nI (0 + 1 + 1 + 1 + 1 + 1))), (2, .int ((((((nI 0) ||| ((nI 1) <<< ((nI 0) &&& 31))) ||| ((nI 1) <<< ((nI (0 + 1)) &&& 31))) ||| ((nI 1) <<< ((nI (0 + 1 + 1)) &&& 31))) ||| ((nI 1) <<< ((nI (0 + 1 + 1 + 1)) &&& 31))) ||| ((nI 1) <<< ((nI (0 + 1 + 1 + 1 + 1)) &&& 31)))), (0, .ref 0), (1, .int (nI m'))]) dX11_still_42 rfl (nI_1 (0 + 1 + 1 + 1 + 1)) (by decide) rfl ?_
    refine g_goto 21 dX11_still_45 (by decide) ?_
    refine g_iload_n dX11_still_21 rfl rfl ?_
    refine g_bipush (v := (nI 12)) dX11_still_22 rfl ?_
    refine g_ic_geN 48 dX11_still_24 (by decide) (by omega) (by omega) (fun z => absurd z (by omega)) (fun _ => ?_)
    refine g_aload_n dX11_still_27 rfl rfl ?_
    refine g_iload_n dX11_still_28 rfl rfl ?_
    refine g_iload_n dX11_still_29 rfl rfl ?_
    refine g_callV (T := TX11) (NN := 18) [] (v_stands S S10 F m' (0 + 1 + 1 + 1 + 1 + 1) (by omega) (by omega) c11) dX11_still_30 kk_X11_still_X11_standsStill ml_RX11_206 mwX11_standsStill ewX11_standsStill (by decide) rfl rfl rfl rfl (Nat.le_of_ble_eq_true rfl) ?_
    rintro _ S12 ⟨_, rfl, rfl, c13⟩
    refine g_if_eqN 42 dX11_still_33 (by decide) (by omega) (fun z => absurd z (by omega)) (fun _ => ?_)
    refine g_iload_n dX11_still_36 rfl rfl ?_
    refine g_iconst (v := (nI 1)) dX11_still_37 rfl ?_
    refine g_iload_n dX11_still_38 rfl rfl ?_
    refine g_ishl dX11_still_39 ?_
    refine g_ior dX11_still_40 ?_
    refine g_istore_n (lv' := [(2, .int (((((((nI 0) ||| ((nI 1) <<< ((nI 0) &&& 31))) ||| ((nI 1) <<< ((nI (0 + 1)) &&& 31))) ||| ((nI 1) <<< ((nI (0 + 1 + 1)) &&& 31))) ||| ((nI 1) <<< ((nI (0 + 1 + 1 + 1)) &&& 31))) ||| ((nI 1) <<< ((nI (0 + 1 + 1 + 1 + 1)) &&& 31))) ||| ((nI 1) <<< ((nI (0 + 1 + 1 + 1 + 1 + 1)) &&& 31)))), (3, .int (nI (0 + 1 + 1 + 1 + 1 + 1))), (0, .ref 0), (1, .int (nI m'))]) dX11_still_41 rfl (by decide) rfl ?_
    refine g_iinc (v := (nI (0 + 1 + 1 + 1 + 1 + 1 + 1))) (lv' := [(3, .int (nI (0 + 1 + 1 + 1 + 1 + 1 + 1))), (2, .int (((((((nI 0) ||| ((nI 1) <<< ((nI 0) &&& 31))) ||| ((nI 1) <<< ((nI (0 + 1)) &&& 31))) ||| ((nI 1) <<< ((nI (0 + 1 + 1)) &&& 31))) ||| ((nI 1) <<< ((nI (0 + 1 + 1 + 1)) &&& 31))) ||| ((nI 1) <<< ((nI (0 + 1 + 1 + 1 + 1)) &&& 31))) ||| ((nI 1) <<< ((nI (0 + 1 + 1 + 1 + 1 + 1)) &&& 31)))), (0, .ref 0), (1, .int (nI m'))]) dX11_still_42 rfl (nI_1 (0 + 1 + 1 + 1 + 1 + 1)) (by decide) rfl ?_
    refine g_goto 21 dX11_still_45 (by decide) ?_
    refine g_iload_n dX11_still_21 rfl rfl ?_
    refine g_bipush (v := (nI 12)) dX11_still_22 rfl ?_
    refine g_ic_geN 48 dX11_still_24 (by decide) (by omega) (by omega) (fun z => absurd z (by omega)) (fun _ => ?_)
    refine g_aload_n dX11_still_27 rfl rfl ?_
    refine g_iload_n dX11_still_28 rfl rfl ?_
    refine g_iload_n dX11_still_29 rfl rfl ?_
    refine g_callV (T := TX11) (NN := 18) [] (v_stands S S12 F m' (0 + 1 + 1 + 1 + 1 + 1 + 1) (by omega) (by omega) c13) dX11_still_30 kk_X11_still_X11_standsStill ml_RX11_206 mwX11_standsStill ewX11_standsStill (by decide) rfl rfl rfl rfl (Nat.le_of_ble_eq_true rfl) ?_
    rintro _ S14 ⟨_, rfl, rfl, c15⟩
    refine g_if_eqN 42 dX11_still_33 (by decide) (by omega) (fun z => absurd z (by omega)) (fun _ => ?_)
    refine g_iload_n dX11_still_36 rfl rfl ?_
    refine g_iconst (v := (nI 1)) dX11_still_37 rfl ?_
    refine g_iload_n dX11_still_38 rfl rfl ?_
    refine g_ishl dX11_still_39 ?_
    refine g_ior dX11_still_40 ?_
    refine g_istore_n (lv' := [(2, .int ((((((((nI 0) ||| ((nI 1) <<< ((nI 0) &&& 31))) ||| ((nI 1) <<< ((nI (0 + 1)) &&& 31))) ||| ((nI 1) <<< ((nI (0 + 1 + 1)) &&& 31))) ||| ((nI 1) <<< ((nI (0 + 1 + 1 + 1)) &&& 31))) ||| ((nI 1) <<< ((nI (0 + 1 + 1 + 1 + 1)) &&& 31))) ||| ((nI 1) <<< ((nI (0 + 1 + 1 + 1 + 1 + 1)) &&& 31))) ||| ((nI 1) <<< ((nI (0 + 1 + 1 + 1 + 1 + 1 + 1)) &&& 31)))), (3, .int (nI (0 + 1 + 1 + 1 + 1 + 1 + 1))), (0, .ref 0), (1, .int (nI m'))]) dX11_still_41 rfl (by decide) rfl ?_
    refine g_iinc (v := (nI (0 + 1 + 1 + 1 + 1 + 1 + 1 + 1))) (lv' := [(3, .int (nI (0 + 1 + 1 + 1 + 1 + 1 + 1 + 1))), (2, .int ((((((((nI 0) ||| ((nI 1) <<< ((nI 0) &&& 31))) ||| ((nI 1) <<< ((nI (0 + 1)) &&& 31))) ||| ((nI 1) <<< ((nI (0 + 1 + 1)) &&& 31))) ||| ((nI 1) <<< ((nI (0 + 1 + 1 + 1)) &&& 31))) ||| ((nI 1) <<< ((nI (0 + 1 + 1 + 1 + 1)) &&& 31))) ||| ((nI 1) <<< ((nI (0 + 1 + 1 + 1 + 1 + 1)) &&& 31))) ||| ((nI 1) <<< ((nI (0 + 1 + 1 + 1 + 1 + 1 + 1)) &&& 31)))), (0, .ref 0), (1, .int (nI m'))]) dX11_still_42 rfl (nI_1 (0 + 1 + 1 + 1 + 1 + 1 + 1)) (by decide) rfl ?_
    refine g_goto 21 dX11_still_45 (by decide) ?_
    refine g_iload_n dX11_still_21 rfl rfl ?_
    refine g_bipush (v := (nI 12)) dX11_still_22 rfl ?_
    refine g_ic_geN 48 dX11_still_24 (by decide) (by omega) (by omega) (fun z => absurd z (by omega)) (fun _ => ?_)
    refine g_aload_n dX11_still_27 rfl rfl ?_
    refine g_iload_n dX11_still_28 rfl rfl ?_
    refine g_iload_n dX11_still_29 rfl rfl ?_
    refine g_callV (T := TX11) (NN := 18) [] (v_stands S S14 F m' (0 + 1 + 1 + 1 + 1 + 1 + 1 + 1) (by omega) (by omega) c15) dX11_still_30 kk_X11_still_X11_standsStill ml_RX11_206 mwX11_standsStill ewX11_standsStill (by decide) rfl rfl rfl rfl (Nat.le_of_ble_eq_true rfl) ?_
    rintro _ S16 ⟨_, rfl, rfl, c17⟩
    refine g_if_eqN 42 dX11_still_33 (by decide) (by omega) (fun z => absurd z (by omega)) (fun _ => ?_)
    refine g_iload_n dX11_still_36 rfl rfl ?_
    refine g_iconst (v := (nI 1)) dX11_still_37 rfl ?_
    refine g_iload_n dX11_still_38 rfl rfl ?_
    refine g_ishl dX11_still_39 ?_
    refine g_ior dX11_still_40 ?_
    refine g_istore_n (lv' := [(2, .int (((((((((nI 0) ||| ((nI 1) <<< ((nI 0) &&& 31))) ||| ((nI 1) <<< ((nI (0 + 1)) &&& 31))) ||| ((nI 1) <<< ((nI (0 + 1 + 1)) &&& 31))) ||| ((nI 1) <<< ((nI (0 + 1 + 1 + 1)) &&& 31))) ||| ((nI 1) <<< ((nI (0 + 1 + 1 + 1 + 1)) &&& 31))) ||| ((nI 1) <<< ((nI (0 + 1 + 1 + 1 + 1 + 1)) &&& 31))) ||| ((nI 1) <<< ((nI (0 + 1 + 1 + 1 + 1 + 1 + 1)) &&& 31))) ||| ((nI 1) <<< ((nI (0 + 1 + 1 + 1 + 1 + 1 + 1 + 1)) &&& 31)))), (3, .int (nI (0 + 1 + 1 + 1 + 1 + 1 + 1 + 1))), (0, .ref 0), (1, .int (nI m'))]) dX11_still_41 rfl (by decide) rfl ?_
    refine g_iinc (v := (nI (0 + 1 + 1 + 1 + 1 + 1 + 1 + 1 + 1))) (lv' := [(3, .int (nI (0 + 1 + 1 + 1 + 1 + 1 + 1 + 1 + 1))), (2, .int (((((((((nI 0) ||| ((nI 1) <<< ((nI 0) &&& 31))) ||| ((nI 1) <<< ((nI (0 + 1)) &&& 31))) ||| ((nI 1) <<< ((nI (0 + 1 + 1)) &&& 31))) ||| ((nI 1) <<< ((nI (0 + 1 + 1 + 1)) &&& 31))) ||| ((nI 1) <<< ((nI (0 + 1 + 1 + 1 + 1)) &&& 31))) ||| ((nI 1) <<< ((nI (0 + 1 + 1 + 1 + 1 + 1)) &&& 31))) ||| ((nI 1) <<< ((nI (0 + 1 + 1 + 1 + 1 + 1 + 1)) &&& 31))) ||| ((nI 1) <<< ((nI (0 + 1 + 1 + 1 + 1 + 1 + 1 + 1)) &&& 31)))), (0, .ref 0), (1, .int (nI m'))]) dX11_still_42 rfl (nI_1 (0 + 1 + 1 + 1 + 1 + 1 + 1 + 1)) (by decide) rfl ?_
    refine g_goto 21 dX11_still_45 (by decide) ?_
    refine g_iload_n dX11_still_21 rfl rfl ?_
    refine g_bipush (v := (nI 12)) dX11_still_22 rfl ?_
    refine g_ic_geN 48 dX11_still_24 (by decide) (by omega) (by omega) (fun z => absurd z (by omega)) (fun _ => ?_)
    refine g_aload_n dX11_still_27 rfl rfl ?_
    refine g_iload_n dX11_still_28 rfl rfl ?_
    refine g_iload_n dX11_still_29 rfl rfl ?_
    refine g_callV (T := TX11) (NN := 18) [] (v_stands S S16 F m' (0 + 1 + 1 + 1 + 1 + 1 + 1 + 1 + 1) (by omega) (by omega) c17) dX11_still_30 kk_X11_still_X11_standsStill ml_RX11_206 mwX11_standsStill ewX11_standsStill (by decide) rfl rfl rfl rfl (Nat.le_of_ble_eq_true rfl) ?_
    rintro _ S18 ⟨_, rfl, rfl, c19⟩
    refine g_if_eqN 42 dX11_still_33 (by decide) (by omega) (fun z => absurd z (by omega)) (fun _ => ?_)
    refine g_iload_n dX11_still_36 rfl rfl ?_
    refine g_iconst (v := (nI 1)) dX11_still_37 rfl ?_
    refine g_iload_n dX11_still_38 rfl rfl ?_
    refine g_ishl dX11_still_39 ?_
    refine g_ior dX11_still_40 ?_
    refine g_istore_n (lv' := [(2, .int ((((((((((nI 0) ||| ((nI 1) <<< ((nI 0) &&& 31))) ||| ((nI 1) <<< ((nI (0 + 1)) &&& 31))) ||| ((nI 1) <<< ((nI (0 + 1 + 1)) &&& 31))) ||| ((nI 1) <<< ((nI (0 + 1 + 1 + 1)) &&& 31))) ||| ((nI 1) <<< ((nI (0 + 1 + 1 + 1 + 1)) &&& 31))) ||| ((nI 1) <<< ((nI (0 + 1 + 1 + 1 + 1 + 1)) &&& 31))) ||| ((nI 1) <<< ((nI (0 + 1 + 1 + 1 + 1 + 1 + 1)) &&& 31))) ||| ((nI 1) <<< ((nI (0 + 1 + 1 + 1 + 1 + 1 + 1 + 1)) &&& 31))) ||| ((nI 1) <<< ((nI (0 + 1 + 1 + 1 + 1 + 1 + 1 + 1 + 1)) &&& 31)))), (3, .int (nI (0 + 1 + 1 + 1 + 1 + 1 + 1 + 1 + 1))), (0, .ref 0), (1, .int (nI m'))]) dX11_still_41 rfl (by decide) rfl ?_
    refine g_iinc (v := (nI (0 + 1 + 1 + 1 + 1 + 1 + 1 + 1 + 1 + 1))) (lv' := [(3, .int (nI (0 + 1 + 1 + 1 + 1 + 1 + 1 + 1 + 1 + 1))), (2, .int ((((((((((nI 0) ||| ((nI 1) <<< ((nI 0) &&& 31))) ||| ((nI 1) <<< ((nI (0 + 1)) &&& 31))) ||| ((nI 1) <<< ((nI (0 + 1 + 1)) &&& 31))) ||| ((nI 1) <<< ((nI (0 + 1 + 1 + 1)) &&& 31))) ||| ((nI 1) <<< ((nI (0 + 1 + 1 + 1 + 1)) &&& 31))) ||| ((nI 1) <<< ((nI (0 + 1 + 1 + 1 + 1 + 1)) &&& 31))) ||| ((nI 1) <<< ((nI (0 + 1 + 1 + 1 + 1 + 1 + 1)) &&& 31))) ||| ((nI 1) <<< ((nI (0 + 1 + 1 + 1 + 1 + 1 + 1 + 1)) &&& 31))) ||| ((nI 1) <<< ((nI (0 + 1 + 1 + 1 + 1 + 1 + 1 + 1 + 1)) &&& 31)))), (0, .ref 0), (1, .int (nI m'))]) dX11_still_42 rfl (nI_1 (0 + 1 + 1 + 1 + 1 + 1 + 1 + 1 + 1)) (by decide) rfl ?_
    refine g_goto 21 dX11_still_45 (by decide) ?_
    refine g_iload_n dX11_still_21 rfl rfl ?_
    refine g_bipush (v := (nI 12)) dX11_still_22 rfl ?_
    refine g_ic_geN 48 dX11_still_24 (by decide) (by omega) (by omega) (fun z => absurd z (by omega)) (fun _ => ?_)
    refine g_aload_n dX11_still_27 rfl rfl ?_
    refine g_iload_n dX11_still_28 rfl rfl ?_
    refine g_iload_n dX11_still_29 rfl rfl ?_
    refine g_callV (T := TX11) (NN := 18) [] (v_stands S S18 F m' (0 + 1 + 1 + 1 + 1 + 1 + 1 + 1 + 1 + 1) (by omega) (by omega) c19) dX11_still_30 kk_X11_still_X11_standsStill ml_RX11_206 mwX11_standsStill ewX11_standsStill (by decide) rfl rfl rfl rfl (Nat.le_of_ble_eq_true rfl) ?_
    rintro _ S20 ⟨_, rfl, rfl, c21⟩
    refine g_if_eqN 42 dX11_still_33 (by decide) (by omega) (fun z => absurd z (by omega)) (fun _ => ?_)
    refine g_iload_n dX11_still_36 rfl rfl ?_
    refine g_iconst (v := (nI 1)) dX11_still_37 rfl ?_
    refine g_iload_n dX11_still_38 rfl rfl ?_
    refine g_ishl dX11_still_39 ?_
    refine g_ior dX11_still_40 ?_
    refine g_istore_n (lv' := [(2, .int (((((((((((nI 0) ||| ((nI 1) <<< ((nI 0) &&& 31))) ||| ((nI 1) <<< ((nI (0 + 1)) &&& 31))) ||| ((nI 1) <<< ((nI (0 + 1 + 1)) &&& 31))) ||| ((nI 1) <<< ((nI (0 + 1 + 1 + 1)) &&& 31))) ||| ((nI 1) <<< ((nI (0 + 1 + 1 + 1 + 1)) &&& 31))) ||| ((nI 1) <<< ((nI (0 + 1 + 1 + 1 + 1 + 1)) &&& 31))) ||| ((nI 1) <<< ((nI (0 + 1 + 1 + 1 + 1 + 1 + 1)) &&& 31))) ||| ((nI 1) <<< ((nI (0 + 1 + 1 + 1 + 1 + 1 + 1 + 1)) &&& 31))) ||| ((nI 1) <<< ((nI (0 + 1 + 1 + 1 + 1 + 1 + 1 + 1 + 1)) &&& 31))) ||| ((nI 1) <<< ((nI (0 + 1 + 1 + 1 + 1 + 1 + 1 + 1 + 1 + 1)) &&& 31)))), (3, .int (nI (0 + 1 + 1 + 1 + 1 + 1 + 1 + 1 + 1 + 1))), (0, .ref 0), (1, .int (nI m'))]) dX11_still_41 rfl (by decide) rfl ?_
    refine g_iinc (v := (nI (0 + 1 + 1 + 1 + 1 + 1 + 1 + 1 + 1 + 1 + 1))) (lv' := [(3, .int (nI (0 + 1 + 1 + 1 + 1 + 1 + 1 + 1 + 1 + 1 + 1))), (2, .int (((((((((((nI 0) ||| ((nI 1) <<< ((nI 0) &&& 31))) ||| ((nI 1) <<< ((nI (0 + 1)) &&& 31))) ||| ((nI 1) <<< ((nI (0 + 1 + 1)) &&& 31))) ||| ((nI 1) <<< ((nI (0 + 1 + 1 + 1)) &&& 31))) ||| ((nI 1) <<< ((nI (0 + 1 + 1 + 1 + 1)) &&& 31))) ||| ((nI 1) <<< ((nI (0 + 1 + 1 + 1 + 1 + 1)) &&& 31))) ||| ((nI 1) <<< ((nI (0 + 1 + 1 + 1 + 1 + 1 + 1)) &&& 31))) ||| ((nI 1) <<< ((nI (0 + 1 + 1 + 1 + 1 + 1 + 1 + 1)) &&& 31))) ||| ((nI 1) <<< ((nI (0 + 1 + 1 + 1 + 1 + 1 + 1 + 1 + 1)) &&& 31))) ||| ((nI 1) <<< ((nI (0 + 1 + 1 + 1 + 1 + 1 + 1 + 1 + 1 + 1)) &&& 31)))), (0, .ref 0), (1, .int (nI m'))]) dX11_still_42 rfl (nI_1 (0 + 1 + 1 + 1 + 1 + 1 + 1 + 1 + 1 + 1)) (by decide) rfl ?_
    refine g_goto 21 dX11_still_45 (by decide) ?_
    refine g_iload_n dX11_still_21 rfl rfl ?_
    refine g_bipush (v := (nI 12)) dX11_still_22 rfl ?_
    refine g_ic_geN 48 dX11_still_24 (by decide) (by omega) (by omega) (fun z => absurd z (by omega)) (fun _ => ?_)
    refine g_aload_n dX11_still_27 rfl rfl ?_
    refine g_iload_n dX11_still_28 rfl rfl ?_
    refine g_iload_n dX11_still_29 rfl rfl ?_
    refine g_callV (T := TX11) (NN := 18) [] (v_stands S S20 F m' (0 + 1 + 1 + 1 + 1 + 1 + 1 + 1 + 1 + 1 + 1) (by omega) (by omega) c21) dX11_still_30 kk_X11_still_X11_standsStill ml_RX11_206 mwX11_standsStill ewX11_standsStill (by decide) rfl rfl rfl rfl (Nat.le_of_ble_eq_true rfl) ?_
    rintro _ S22 ⟨_, rfl, rfl, c23⟩
    refine g_if_eqN 42 dX11_still_33 (by decide) (by omega) (fun z => absurd z (by omega)) (fun _ => ?_)
    refine g_iload_n dX11_still_36 rfl rfl ?_
    refine g_iconst (v := (nI 1)) dX11_still_37 rfl ?_
    refine g_iload_n dX11_still_38 rfl rfl ?_
    refine g_ishl dX11_still_39 ?_
    refine g_ior dX11_still_40 ?_
    refine g_istore_n (lv' := [(2, .int ((((((((((((nI 0) ||| ((nI 1) <<< ((nI 0) &&& 31))) ||| ((nI 1) <<< ((nI (0 + 1)) &&& 31))) ||| ((nI 1) <<< ((nI (0 + 1 + 1)) &&& 31))) ||| ((nI 1) <<< ((nI (0 + 1 + 1 + 1)) &&& 31))) ||| ((nI 1) <<< ((nI (0 + 1 + 1 + 1 + 1)) &&& 31))) ||| ((nI 1) <<< ((nI (0 + 1 + 1 + 1 + 1 + 1)) &&& 31))) ||| ((nI 1) <<< ((nI (0 + 1 + 1 + 1 + 1 + 1 + 1)) &&& 31))) ||| ((nI 1) <<< ((nI (0 + 1 + 1 + 1 + 1 + 1 + 1 + 1)) &&& 31))) ||| ((nI 1) <<< ((nI (0 + 1 + 1 + 1 + 1 + 1 + 1 + 1 + 1)) &&& 31))) ||| ((nI 1) <<< ((nI (0 + 1 + 1 + 1 + 1 + 1 + 1 + 1 + 1 + 1)) &&& 31))) ||| ((nI 1) <<< ((nI (0 + 1 + 1 + 1 + 1 + 1 + 1 + 1 + 1 + 1 + 1)) &&& 31)))), (3, .int (nI (0 + 1 + 1 + 1 + 1 + 1 + 1 + 1 + 1 + 1 + 1))), (0, .ref 0), (1, .int (nI m'))]) dX11_still_41 rfl (by decide) rfl ?_
    refine g_iinc (v := (nI (0 + 1 + 1 + 1 + 1 + 1 + 1 + 1 + 1 + 1 + 1 + 1))) (lv' := [(3, .int (nI (0 + 1 + 1 + 1 + 1 + 1 + 1 + 1 + 1 + 1 + 1 + 1))), (2, .int ((((((((((((nI 0) ||| ((nI 1) <<< ((nI 0) &&& 31))) ||| ((nI 1) <<< ((nI (0 + 1)) &&& 31))) ||| ((nI 1) <<< ((nI (0 + 1 + 1)) &&& 31))) ||| ((nI 1) <<< ((nI (0 + 1 + 1 + 1)) &&& 31))) ||| ((nI 1) <<< ((nI (0 + 1 + 1 + 1 + 1)) &&& 31))) ||| ((nI 1) <<< ((nI (0 + 1 + 1 + 1 + 1 + 1)) &&& 31))) ||| ((nI 1) <<< ((nI (0 + 1 + 1 + 1 + 1 + 1 + 1)) &&& 31))) ||| ((nI 1) <<< ((nI (0 + 1 + 1 + 1 + 1 + 1 + 1 + 1)) &&& 31))) ||| ((nI 1) <<< ((nI (0 + 1 + 1 + 1 + 1 + 1 + 1 + 1 + 1)) &&& 31))) ||| ((nI 1) <<< ((nI (0 + 1 + 1 + 1 + 1 + 1 + 1 + 1 + 1 + 1)) &&& 31))) ||| ((nI 1) <<< ((nI (0 + 1 + 1 + 1 + 1 + 1 + 1 + 1 + 1 + 1 + 1)) &&& 31)))), (0, .ref 0), (1, .int (nI m'))]) dX11_still_42 rfl (nI_1 (0 + 1 + 1 + 1 + 1 + 1 + 1 + 1 + 1 + 1 + 1)) (by decide) rfl ?_
    refine g_goto 21 dX11_still_45 (by decide) ?_
    refine g_iload_n dX11_still_21 rfl rfl ?_
    refine g_bipush (v := (nI 12)) dX11_still_22 rfl ?_
    refine g_ic_geN 48 dX11_still_24 (by decide) (by omega) (by omega) (fun z => absurd z (by omega)) (fun _ => ?_)
    refine g_aload_n dX11_still_27 rfl rfl ?_
    refine g_iload_n dX11_still_28 rfl rfl ?_
    refine g_iload_n dX11_still_29 rfl rfl ?_
    refine g_callV (T := TX11) (NN := 18) [] (v_stands S S22 F m' (0 + 1 + 1 + 1 + 1 + 1 + 1 + 1 + 1 + 1 + 1 + 1) (by omega) (by omega) c23) dX11_still_30 kk_X11_still_X11_standsStill ml_RX11_206 mwX11_standsStill ewX11_standsStill (by decide) rfl rfl rfl rfl (Nat.le_of_ble_eq_true rfl) ?_
    rintro _ S24 ⟨_, rfl, rfl, c25⟩
    refine g_if_eqN 42 dX11_still_33 (by decide) (by omega) (fun z => absurd z (by omega)) (fun _ => ?_)
    refine g_iload_n dX11_still_36 rfl rfl ?_
    refine g_iconst (v := (nI 1)) dX11_still_37 rfl ?_
    refine g_iload_n dX11_still_38 rfl rfl ?_
    refine g_ishl dX11_still_39 ?_
    refine g_ior dX11_still_40 ?_
    refine g_istore_n (lv' := [(2, .int (((((((((((((nI 0) ||| ((nI 1) <<< ((nI 0) &&& 31))) ||| ((nI 1) <<< ((nI (0 + 1)) &&& 31))) ||| ((nI 1) <<< ((nI (0 + 1 + 1)) &&& 31))) ||| ((nI 1) <<< ((nI (0 + 1 + 1 + 1)) &&& 31))) ||| ((nI 1) <<< ((nI (0 + 1 + 1 + 1 + 1)) &&& 31))) ||| ((nI 1) <<< ((nI (0 + 1 + 1 + 1 + 1 + 1)) &&& 31))) ||| ((nI 1) <<< ((nI (0 + 1 + 1 + 1 + 1 + 1 + 1)) &&& 31))) ||| ((nI 1) <<< ((nI (0 + 1 + 1 + 1 + 1 + 1 + 1 + 1)) &&& 31))) ||| ((nI 1) <<< ((nI (0 + 1 + 1 + 1 + 1 + 1 + 1 + 1 + 1)) &&& 31))) ||| ((nI 1) <<< ((nI (0 + 1 + 1 + 1 + 1 + 1 + 1 + 1 + 1 + 1)) &&& 31))) ||| ((nI 1) <<< ((nI (0 + 1 + 1 + 1 + 1 + 1 + 1 + 1 + 1 + 1 + 1)) &&& 31))) ||| ((nI 1) <<< ((nI (0 + 1 + 1 + 1 + 1 + 1 + 1 + 1 + 1 + 1 + 1 + 1)) &&& 31)))), (3, .int (nI (0 + 1 + 1 + 1 + 1 + 1 + 1 + 1 + 1 + 1 + 1 + 1))), (0, .ref 0), (1, .int (nI m'))]) dX11_still_41 rfl (by decide) rfl ?_
    refine g_iinc (v := (nI (0 + 1 + 1 + 1 + 1 + 1 + 1 + 1 + 1 + 1 + 1 + 1 + 1))) (lv' := [(3, .int (nI (0 + 1 + 1 + 1 + 1 + 1 + 1 + 1 + 1 + 1 + 1 + 1 + 1))), (2, .int (((((((((((((nI 0) ||| ((nI 1) <<< ((nI 0) &&& 31))) ||| ((nI 1) <<< ((nI (0 + 1)) &&& 31))) ||| ((nI 1) <<< ((nI (0 + 1 + 1)) &&& 31))) ||| ((nI 1) <<< ((nI (0 + 1 + 1 + 1)) &&& 31))) ||| ((nI 1) <<< ((nI (0 + 1 + 1 + 1 + 1)) &&& 31))) ||| ((nI 1) <<< ((nI (0 + 1 + 1 + 1 + 1 + 1)) &&& 31))) ||| ((nI 1) <<< ((nI (0 + 1 + 1 + 1 + 1 + 1 + 1)) &&& 31))) ||| ((nI 1) <<< ((nI (0 + 1 + 1 + 1 + 1 + 1 + 1 + 1)) &&& 31))) ||| ((nI 1) <<< ((nI (0 + 1 + 1 + 1 + 1 + 1 + 1 + 1 + 1)) &&& 31))) ||| ((nI 1) <<< ((nI (0 + 1 + 1 + 1 + 1 + 1 + 1 + 1 + 1 + 1)) &&& 31))) ||| ((nI 1) <<< ((nI (0 + 1 + 1 + 1 + 1 + 1 + 1 + 1 + 1 + 1 + 1)) &&& 31))) ||| ((nI 1) <<< ((nI (0 + 1 + 1 + 1 + 1 + 1 + 1 + 1 + 1 + 1 + 1 + 1)) &&& 31)))), (0, .ref 0), (1, .int (nI m'))]) dX11_still_42 rfl (nI_1 (0 + 1 + 1 + 1 + 1 + 1 + 1 + 1 + 1 + 1 + 1 + 1)) (by decide) rfl ?_
    refine g_goto 21 dX11_still_45 (by decide) ?_
    refine g_iload_n dX11_still_21 rfl rfl ?_
    refine g_bipush (v := (nI 12)) dX11_still_22 rfl ?_
    refine g_ic_geN 48 dX11_still_24 (by decide) (by omega) (by omega) (fun _ => ?_) (fun z => absurd z (by omega))
    refine g_iload_n dX11_still_48 rfl rfl ?_
    refine g_iret dX11_still_49 rfl rfl ?_
    exact ⟨_, rfl, (by rw [zs_it h1]; decide), c25.wide (by decide) (by decide)⟩
  · have h1 := zs_b0 h1
    refine g_aload_n dX11_still_10 rfl rfl ?_
    refine g_bipush (v := (-2)) dX11_still_11 rfl ?_
    refine g_callV (T := TX11) (NN := 18) [] (x_refuseBad S (-2)) dX11_still_13 kk_X11_still_X11_refuseBad ml_RX11_86 mwX11_refuseBad ewX11_refuseBad (by decide) rfl rfl rfl rfl (Nat.le_of_ble_eq_true rfl) ?_
    rintro _ _ ⟨_, rfl, rfl, rfl⟩
    refine g_iret dX11_still_16 rfl rfl ?_
    exact ⟨_, rfl, (zs_ie h1).symm, (zs_ch.rf.up (by omega) (by omega))⟩
