set_option maxRecDepth 100000 in
theorem x_floorModA (S : zs_S) (x y : Int32) (hy : ¬ y = 0) : zs_Ci MJ9_floorMod_7cf53 [.int x, .int y] S (fun z S2 => S = S2) := by
  refine zs_CF (by decide +kernel) (Nat.le_of_ble_eq_true rfl) ?_
  show zs_P MJ9_floorMod_7cf53 0 [(0, .int x), (1, .int y)] [] S _
  refine g_iload_n dJ9_floorMod_7cf53_0 rfl rfl ?_
  refine g_iload_n dJ9_floorMod_7cf53_1 rfl rfl ?_
  refine g_irem dJ9_floorMod_7cf53_2 hy ?_
  refine g_istore_n (lv' := [(2, .int (x - x / y * y)), (0, .int x), (1, .int y)]) dJ9_floorMod_7cf53_3 rfl (by decide) rfl ?_
  refine g_iload_n dJ9_floorMod_7cf53_4 rfl rfl ?_
  refine g_iload_n dJ9_floorMod_7cf53_5 rfl rfl ?_
  refine g_ixor dJ9_floorMod_7cf53_6 ?_
  refine g_if_ge 18 dJ9_floorMod_7cf53_7 (by decide) (fun h1 => ?_) (fun h1 => ?_)
  · refine g_iload_n dJ9_floorMod_7cf53_18 rfl rfl ?_
    refine g_iret dJ9_floorMod_7cf53_19 rfl rfl ?_
    exact ⟨_, rfl, rfl⟩
  · refine g_iload_n dJ9_floorMod_7cf53_10 rfl rfl ?_
    refine g_if_eq 18 dJ9_floorMod_7cf53_11 (by decide) (fun h2 => ?_) (fun h2 => ?_)
    · refine g_iload_n dJ9_floorMod_7cf53_18 rfl rfl ?_
      refine g_iret dJ9_floorMod_7cf53_19 rfl rfl ?_
      exact ⟨_, rfl, rfl⟩
    · refine g_iload_n dJ9_floorMod_7cf53_14 rfl rfl ?_
      refine g_iload_n dJ9_floorMod_7cf53_15 rfl rfl ?_
      refine g_iadd dJ9_floorMod_7cf53_16 ?_
      refine g_iret dJ9_floorMod_7cf53_17 rfl rfl ?_
      exact ⟨_, rfl, rfl⟩
set_option maxRecDepth 100000 in
theorem x_wrapA (S : zs_S) (x : Int32) : zs_Ci MX11_wrap [.int x, .int (nI 2)] S (fun z S2 => S = S2) := by
  refine zs_C.of (by decide) (Nat.le_of_ble_eq_true rfl) ?_
  show zs_P MX11_wrap 0 [(0, .int x), (1, .int (nI 2))] [] S _
  refine g_iload_n dX11_wrap_0 rfl rfl ?_
  refine g_iconst (v := (nI 1)) dX11_wrap_1 rfl ?_
  refine g_ic_geN 9 dX11_wrap_2 (by decide) (by omega) (by omega) (fun _ => ?_) (fun z => absurd z (by omega))
  refine g_iload_n dX11_wrap_9 rfl rfl ?_
  refine g_iload_n dX11_wrap_10 rfl rfl ?_
  refine g_callS [.int x, .int (nI 2)] [] (x_floorModA S x (nI 2) (by decide)) dX11_wrap_11 kk_X11_wrap_J9_floorMod_7cf53 ml_RX11_334 swJ9_floorMod_7cf53 rfl rfl (Nat.le_of_ble_eq_true rfl) ?_
  rintro _ _ ⟨z, rfl, rfl⟩
  refine g_iret dX11_wrap_14 rfl rfl ?_
  exact ⟨_, rfl, rfl⟩
set_option maxRecDepth 100000 in
theorem b_fill_i (S0 : zs_S) (j : Nat) (hj : j < 12) (Q : Option Value → zs_S → Prop) (hk : ∀ v S, zs_ch 70 73 S0 S → zs_P MX0_fillPassed 51 [(4, .int (nI 31)), (3, .int v), (2, .int (nI j)), (0, .ref 70), (1, .int (nI 0))] [] S Q) : ∀ (d i : Nat), i + d = 31 → ∀ (v : Int32) S, zs_ch 70 73 S0 S → zs_P MX0_fillPassed 13 [(4, .int (nI i)), (3, .int v), (2, .int (nI j)), (0, .ref 70), (1, .int (nI 0))] [] S Q := by
  intro d
  induction d with
  | zero =>
    intro i hi v S hc
    obtain rfl : i = 31 := by omega
    refine g_iload dX0_fillPassed_13 rfl ?_
    refine g_bipush (v := (nI 30)) dX0_fillPassed_15 rfl ?_
    refine g_ic_gtN 51 dX0_fillPassed_17 (by decide) (by omega) (by omega) (fun _ => ?_) (fun z => absurd z (by omega))
    exact hk v S hc
  | succ d ih =>
    intro i hi v S hc
    refine g_iload dX0_fillPassed_13 rfl ?_
    refine g_bipush (v := (nI 30)) dX0_fillPassed_15 rfl ?_
    refine g_ic_gtN 51 dX0_fillPassed_17 (by decide) (by omega) (by omega) (fun z => absurd z (by omega)) (fun _ => ?_)
    refine g_iload_n dX0_fillPassed_20 rfl rfl ?_
    refine g_iload_n dX0_fillPassed_21 rfl rfl ?_
    refine g_iload_n dX0_fillPassed_22 rfl rfl ?_
    refine g_iload dX0_fillPassed_23 rfl ?_
    refine g_callS [.int (nI 0), .int (nI j), .int (nI i)] [.int v] (x_pass0 S j i (by omega) (by omega)) dX0_fillPassed_25 kk_X0_fillPassed_X2_passing ml_RX0_58 swX2_passing rfl rfl (Nat.le_of_ble_eq_true rfl) ?_
    rintro _ _ ⟨_, rfl, rfl, rfl⟩
    refine g_iadd dX0_fillPassed_28 ?_
    refine g_istore_n (lv' := [(3, .int (v + (nI j))), (4, .int (nI i)), (2, .int (nI j)), (0, .ref 70), (1, .int (nI 0))]) dX0_fillPassed_29 rfl (by decide) rfl ?_
    refine g_aload_n dX0_fillPassed_30 rfl rfl ?_
    refine g_getR 0 (71) (C := RX0) (T := TX0) (N := 3) dX0_fillPassed_31 (by decide) rfl rfl (by decide) rfl fl_RX0_9 ?_
    refine g_iload_n dX0_fillPassed_34 rfl rfl ?_
    refine g_bipush (v := (nI 31)) dX0_fillPassed_35 rfl ?_
    refine g_imulN dX0_fillPassed_37 ?_
    refine g_iload dX0_fillPassed_38 rfl ?_
    refine g_iaddN dX0_fillPassed_40 ?_
    refine g_iload_n dX0_fillPassed_41 rfl rfl ?_
    refine g_callN [.ref 71, .int (nI ((j * 31) + i)), .int (v + (nI j))] [] (x_put S 71 372 (nI ((j * 31) + i)) (v + (nI j)) (by decide) rfl (by decide)) dX0_fillPassed_42 kk_X0_fillPassed_X11_put nl_RX0_38 swX11_put rfl rfl (Nat.le_of_ble_eq_true rfl) ?_
    rintro _ _ ⟨rfl, rfl⟩
    refine g_iinc (v := (nI (i + 1))) (lv' := [(4, .int (nI (i + 1))), (3, .int (v + (nI j))), (2, .int (nI j)), (0, .ref 70), (1, .int (nI 0))]) dX0_fillPassed_45 rfl (nI_1 i) (by decide) rfl ?_
    refine g_goto 13 dX0_fillPassed_48 (by decide) ?_
    exact ih (i + 1) (by omega) _ _ (hc.pu (by omega) (by omega))
set_option maxRecDepth 100000 in
theorem b_fill_o (S0 : zs_S) (Q : Option Value → zs_S → Prop) (hq : ∀ S, zs_ch 70 73 S0 S → Q none S) : ∀ (d j : Nat), j + d = 12 → ∀ S, zs_ch 70 73 S0 S → zs_P MX0_fillPassed 2 [(2, .int (nI j)), (0, .ref 70), (1, .int (nI 0))] [] S Q := by
  intro d
  induction d with
  | zero =>
    intro j hj S hc
    obtain rfl : j = 12 := by omega
    refine g_iload_n dX0_fillPassed_2 rfl rfl ?_
    refine g_bipush (v := (nI 12)) dX0_fillPassed_3 rfl ?_
    refine g_ic_geN 57 dX0_fillPassed_5 (by decide) (by omega) (by omega) (fun _ => ?_) (fun z => absurd z (by omega))
    refine g_ret dX0_fillPassed_57 rfl ?_
    exact hq S hc
  | succ d ih =>
    intro j hj S hc
    refine g_iload_n dX0_fillPassed_2 rfl rfl ?_
    refine g_bipush (v := (nI 12)) dX0_fillPassed_3 rfl ?_
    refine g_ic_geN 57 dX0_fillPassed_5 (by decide) (by omega) (by omega) (fun z => absurd z (by omega)) (fun _ => ?_)
    refine g_iconst (v := (nI 0)) dX0_fillPassed_8 rfl ?_
    refine g_istore_n (lv' := [(3, .int (nI 0)), (2, .int (nI j)), (0, .ref 70), (1, .int (nI 0))]) dX0_fillPassed_9 rfl (by decide) rfl ?_
    refine g_iconst (v := (nI 1)) dX0_fillPassed_10 rfl ?_
    refine g_istore (lv' := [(4, .int (nI 1)), (3, .int (nI 0)), (2, .int (nI j)), (0, .ref 70), (1, .int (nI 0))]) dX0_fillPassed_11 (by decide) rfl ?_
    refine b_fill_i S0 j (by omega) _ (fun v S1 h1 => ?_) 30 1 (by omega) _ S hc
    refine g_iinc (v := (nI (j + 1))) (lv' := [(2, .int (nI (j + 1))), (4, .int (nI 31)), (3, .int v), (0, .ref 70), (1, .int (nI 0))]) dX0_fillPassed_51 rfl (nI_1 j) (by decide) rfl ?_
    refine g_goto 2 dX0_fillPassed_54 (by decide) ?_
    exact (ih (j + 1) (by omega) S1 h1).lv (by simp)
set_option maxRecDepth 100000 in
theorem b_fillPassed (S : zs_S) : zs_Cv MX0_fillPassed [.ref 70, .int (nI 0)] S (fun S2 => zs_ch 70 73 S S2) := by
  refine zs_C.of (by decide) (Nat.le_of_ble_eq_true rfl) ?_
  show zs_P MX0_fillPassed 0 [(0, .ref 70), (1, .int (nI 0))] [] S _
  refine g_iconst (v := (nI 0)) dX0_fillPassed_0 rfl ?_
  refine g_istore_n (lv' := [(2, .int (nI 0)), (0, .ref 70), (1, .int (nI 0))]) dX0_fillPassed_1 rfl (by decide) rfl ?_
  exact b_fill_o S _ (fun S2 h2 => ⟨rfl, h2⟩) 12 0 (by omega) S zs_ch.rf
set_option maxRecDepth 100000 in
theorem b_fits (S : zs_S) (v : Int32) (hz : S.1 9 2 = nI 0) : zs_Ci MX0_fits [.ref 70, .int v, .ref 1] S (fun x S2 => x = nI 1 ∧ S = S2) := by
  refine zs_C.of (by decide) (Nat.le_of_ble_eq_true rfl) ?_
  show zs_P MX0_fits 0 [(0, .ref 70), (1, .int v), (2, .ref 1)] [] S _
  refine g_iconst (v := (nI 0)) dX0_fits_0 rfl ?_
  refine g_istore_n (lv' := [(3, .int (nI 0)), (0, .ref 70), (1, .int v), (2, .ref 1)]) dX0_fits_1 rfl (by decide) rfl ?_
  refine g_iload_n dX0_fits_2 rfl rfl ?_
  refine g_aload_n dX0_fits_3 rfl rfl ?_
  refine g_getR 6 (9) (C := RX6) (T := TX6) (N := 9) dX0_fits_4 (by decide) rfl rfl (by decide) rfl fl_RX0_64 ?_
  refine g_getV 2 (C := RX5) (T := TX5) (N := 3) (v := (nI 0)) dX0_fits_7 (by decide) rfl rfl (by decide) rfl fl_RX0_68 hz ?_
  refine g_ic_geN 48 dX0_fits_10 (by decide) (by omega) (by omega) (fun _ => ?_) (fun z => absurd z (by omega))
  refine g_iconst (v := (nI 1)) dX0_fits_48 rfl ?_
  refine g_iret dX0_fits_49 rfl rfl ?_
  exact ⟨_, rfl, rfl, rfl⟩
/-- the class is fresh but for the beginnings, i of which are gathered -/
def zs_gt (S0 S : zs_S) (i : Nat) : Prop := zs_ch 70 73 S0 S ∧ S.1 70 2 = nI i ∧ ∀ j, j < i → S.1 72 j = nI j
set_option maxRecDepth 100000 in
theorem b_gather_l (S0 : zs_S) (F : zs_F0 S0) (Q : Option Value → zs_S → Prop) (hq : ∀ S, zs_gt S0 S 24 → Q none S) : ∀ (d i : Nat), i + d = 24 → ∀ S, zs_gt S0 S i → zs_P MX0_gather 15 [(2, .int (nI i)), (0, .ref 70), (1, .ref 1)] [] S Q := by
  intro d
  induction d with
  | zero =>
    intro i hi S h
    obtain rfl : i = 24 := by omega
    refine g_iload_n dX0_gather_15 rfl rfl ?_
    refine g_aload_n dX0_gather_16 rfl rfl ?_
    refine g_getV 0 (C := RX6) (T := TX6) (N := 9) (v := (nI 2)) dX0_gather_17 (by decide) rfl rfl (by decide) rfl fl_RX0_31 ((congrFun (h.1 1 (by omega)).1 0).trans (congrFun (F 1 (by decide)).1 0)) ?_
    refine g_bipush (v := (nI 12)) dX0_gather_20 rfl ?_
    refine g_imulN dX0_gather_22 ?_
    refine g_ic_geN 63 dX0_gather_23 (by decide) (by omega) (by omega) (fun _ => ?_) (fun z => absurd z (by omega))
    refine g_ret dX0_gather_63 rfl ?_
    exact hq S h
  | succ d ih =>
    intro i hi S h
    refine g_iload_n dX0_gather_15 rfl rfl ?_
    refine g_aload_n dX0_gather_16 rfl rfl ?_
    refine g_getV 0 (C := RX6) (T := TX6) (N := 9) (v := (nI 2)) dX0_gather_17 (by decide) rfl rfl (by decide) rfl fl_RX0_31 ((congrFun (h.1 1 (by omega)).1 0).trans (congrFun (F 1 (by decide)).1 0)) ?_
    refine g_bipush (v := (nI 12)) dX0_gather_20 rfl ?_
    refine g_imulN dX0_gather_22 ?_
    refine g_ic_geN 63 dX0_gather_23 (by decide) (by omega) (by omega) (fun z => absurd z (by omega)) (fun _ => ?_)
    refine g_aload_n dX0_gather_26 rfl rfl ?_
    refine g_iload_n dX0_gather_27 rfl rfl ?_
    refine g_aload_n dX0_gather_28 rfl rfl ?_
    refine g_callV (T := TX0) (NN := 3) [] (b_fits S (nI i) ((congrFun (h.1 9 (by omega)).1 2).trans (congrFun (F 9 (by decide)).1 2))) dX0_gather_29 kk_X0_gather_X0_fits ml_RX0_34 mwX0_fits ewX0_fits (by decide) rfl rfl rfl rfl (Nat.le_of_ble_eq_true rfl) ?_
    rintro _ _ ⟨_, rfl, rfl, rfl⟩
    refine g_if_eqN 57 dX0_gather_32 (by decide) (by omega) (fun z => absurd z (by omega)) (fun _ => ?_)
    refine g_aload_n dX0_gather_35 rfl rfl ?_
    refine g_getR 1 (72) (C := RX0) (T := TX0) (N := 3) dX0_gather_36 (by decide) rfl rfl (by decide) rfl fl_RX0_15 ?_
    refine g_aload_n dX0_gather_39 rfl rfl ?_
    refine g_getV 2 (C := RX0) (T := TX0) (N := 3) (v := (nI i)) dX0_gather_40 (by decide) rfl rfl (by decide) rfl fl_RX0_28 h.2.1 ?_
    refine g_iload_n dX0_gather_43 rfl rfl ?_
    refine g_callN [.ref 72, .int (nI i), .int (nI i)] [] (x_put S 72 144 (nI i) (nI i) (by decide) rfl (by decide)) dX0_gather_44 kk_X0_gather_X11_put nl_RX0_38 swX11_put rfl rfl (Nat.le_of_ble_eq_true rfl) ?_
    rintro _ _ ⟨rfl, rfl⟩
    refine g_aload_n dX0_gather_47 rfl rfl ?_
    refine g_dup dX0_gather_48 rfl ?_
    refine g_getV 2 (C := RX0) (T := TX0) (N := 3) (v := (nI i)) dX0_gather_49 (by decide) rfl rfl (by decide) rfl fl_RX0_28 ((zs_pu_o (by decide)).trans h.2.1) ?_
    refine g_iconst (v := (nI 1)) dX0_gather_52 rfl ?_
    refine g_iaddN dX0_gather_53 ?_
    refine g_putI 2 (C := RX0) (T := TX0) (N := 3) (ty := .int) dX0_gather_54 (by decide) rfl rfl (by decide) rfl fl_RX0_28 rfl (by decide +kernel) ⟨rfl, rfl⟩ ?_
    refine g_iinc (v := (nI (i + 1))) (lv' := [(2, .int (nI (i + 1))), (0, .ref 70), (1, .ref 1)]) dX0_gather_57 rfl (nI_1 i) (by decide) rfl ?_
    refine g_goto 15 dX0_gather_60 (by decide) ?_
    refine ih (i + 1) (by omega) _ ⟨(h.1.pu (by omega) (by omega)).up (by omega) (by omega), zs_up_q, fun j hj => ?_⟩
    refine (zs_up_m (by omega)).trans ?_
    rw [zs_pu_nI (by omega) (by decide)]
    by_cases e : j = i
    · rw [e]; exact zs_up_q
    · exact (zs_up_m (by omega)).trans (h.2.2 j (by omega))
set_option maxRecDepth 100000 in
theorem b_gather (S : zs_S) (F : zs_F0 S) : zs_Cv MX0_gather [.ref 70, .ref 1] S (fun S2 => zs_gt S S2 24) := by
  refine zs_C.of (by decide) (Nat.le_of_ble_eq_true rfl) ?_
  show zs_P MX0_gather 0 [(0, .ref 70), (1, .ref 1)] [] S _
  refine g_aload_n dX0_gather_0 rfl rfl ?_
  refine g_aload_n dX0_gather_1 rfl rfl ?_
  refine g_getV 1 (C := RX6) (T := TX6) (N := 9) (v := (nI 0)) dX0_gather_2 (by decide) rfl rfl (by decide) rfl fl_RX0_18 (congrFun (F 1 (by decide)).1 1) ?_
  refine g_callV (T := TX0) (NN := 3) [] (b_fillPassed S) dX0_gather_5 kk_X0_gather_X0_fillPassed ml_RX0_24 mwX0_fillPassed ewX0_fillPassed (by decide) rfl rfl rfl rfl (Nat.le_of_ble_eq_true rfl) ?_
  rintro _ S1 ⟨rfl, c1⟩
  refine g_aload_n dX0_gather_8 rfl rfl ?_
  refine g_iconst (v := (nI 0)) dX0_gather_9 rfl ?_
  refine g_putI 2 (C := RX0) (T := TX0) (N := 3) (ty := .int) dX0_gather_10 (by decide) rfl rfl (by decide) rfl fl_RX0_28 rfl (by decide +kernel) ⟨rfl, rfl⟩ ?_
  refine g_iconst (v := (nI 0)) dX0_gather_13 rfl ?_
  refine g_istore_n (lv' := [(2, .int (nI 0)), (0, .ref 70), (1, .ref 1)]) dX0_gather_14 rfl (by decide) rfl ?_
  exact b_gather_l S F _ (fun S2 h2 => ⟨rfl, h2⟩) 24 0 (by omega) _ ⟨c1.up (by omega) (by omega), zs_up_q, fun j hj => absurd hj (by omega)⟩
theorem zs_idx {j : Int32} {n : Nat} (h1 : (-1 : Int32) ≤ j) (h2 : ¬ j = -1) (h3 : ¬ nI n ≤ j) (hn : n < 2 ^ 31) : ∃ k, k < n ∧ j = nI k := by
  have e := nI_toInt hn
  have m1 : (-1 : Int32).toInt = -1 := by decide
  rw [Int32.le_iff_toInt_le, m1] at h1
  rw [Int32.le_iff_toInt_le, e] at h3
  have h4 : j.toInt ≠ -1 := fun q => h2 (Int32.toInt_inj.mp (q.trans m1.symm))
  have hv : ¬ j < 0 := by
    intro q
    have := Int32.lt_iff_toInt_lt.mp q
    have z : (0 : Int32).toInt = 0 := rfl
    omega
  obtain ⟨k, hk, rfl⟩ := nI_of hv
  rw [nI_toInt hk] at h3
  exact ⟨k, by omega, rfl⟩
set_option maxRecDepth 100000 in
theorem t_began (S : zs_S) (F : zs_F0 S) (j : Int32) : zs_Ci MX11_began [.ref 0, .int j] S (fun x S2 => x = zs_if ((-1 : Int32) ≤ j) (zs_if (j = -1) (nI 24) (zs_if (nI 24 ≤ j) (-5) j)) (-10) ∧ zs_ch 0 80 S S2) := by
  refine zs_C.of (by decide) (Nat.le_of_ble_eq_true rfl) ?_
  show zs_P MX11_began 0 [(0, .ref 0), (1, .int j)] [] S _
  refine g_iload_n dX11_began_0 rfl rfl ?_
  refine g_iconst (v := (-1)) dX11_began_1 rfl ?_
  refine g_ic_ge 12 dX11_began_2 (by decide) (fun h1 => ?_) (fun h1 => ?_)
  · refine g_aload_n dX11_began_12 rfl rfl ?_
    refine g_getR 13 (70) (C := RX11) (T := TX11) (N := 18) dX11_began_13 (by decide) rfl rfl (by decide) rfl fl_RX11_50 ?_
    refine g_aload_n dX11_began_16 rfl rfl ?_
    refine g_getR 0 (1) (C := RX11) (T := TX11) (N := 18) dX11_began_17 (by decide) rfl rfl (by decide) rfl fl_RX11_10 ?_
    refine g_callV (T := TX0) (NN := 3) [] (b_gather S F) dX11_began_20 kk_X11_began_X0_gather ml_RX11_233 mwX0_gather ewX0_gather (by decide) rfl rfl rfl rfl (Nat.le_of_ble_eq_true rfl) ?_
    rintro _ S2 ⟨rfl, g3⟩
    refine g_iload_n dX11_began_23 rfl rfl ?_
    refine g_iconst (v := (-1)) dX11_began_24 rfl ?_
    refine g_ic_ne 36 dX11_began_25 (by decide) (fun h4 => ?_) (fun h4 => ?_)
    · refine g_iload_n dX11_began_36 rfl rfl ?_
      refine g_aload_n dX11_began_37 rfl rfl ?_
      refine g_getR 13 (70) (C := RX11) (T := TX11) (N := 18) dX11_began_38 (by decide) rfl rfl (by decide) rfl fl_RX11_50 ?_
      refine g_getV 2 (C := RX0) (T := TX0) (N := 3) (v := (nI 24)) dX11_began_41 (by decide) rfl rfl (by decide) rfl fl_RX11_236 g3.2.1 ?_
      refine g_ic_ge 61 dX11_began_44 (by decide) (fun h5 => ?_) (fun h5 => ?_)
      · refine g_bipush (v := (-5)) dX11_began_61 rfl ?_
        refine g_iret dX11_began_63 rfl rfl ?_
        exact ⟨_, rfl, ((zs_it h1).trans ((zs_ie h4).trans (zs_it h5))).symm, (zs_ch.rf.and g3.1 (by omega) (by omega))⟩
      · refine g_aload_n dX11_began_47 rfl rfl ?_
        refine g_getR 13 (70) (C := RX11) (T := TX11) (N := 18) dX11_began_48 (by decide) rfl rfl (by decide) rfl fl_RX11_50 ?_
        refine g_getR 1 (72) (C := RX0) (T := TX0) (N := 3) dX11_began_51 (by decide) rfl rfl (by decide) rfl fl_RX11_237 ?_
        refine g_iload_n dX11_began_54 rfl rfl ?_
        refine g_callS [.ref 72, .int j] [] (x_cell S2 72 144 j (by decide) rfl (by decide)) dX11_began_55 kk_X11_began_X11_cell ml_RX11_168 swX11_cell rfl rfl (Nat.le_of_ble_eq_true rfl) ?_
        rintro _ _ ⟨_, rfl, rfl, rfl⟩
        refine g_goto 63 dX11_began_58 (by decide) ?_
        refine g_iret dX11_began_63 rfl rfl ?_
        refine ⟨_, rfl, ?_, (zs_ch.rf.and g3.1 (by omega) (by omega))⟩
        rw [zs_it h1, zs_ie h4, zs_ie h5]
        obtain ⟨k, hk, rfl⟩ := zs_idx h1 h4 h5 (by decide)
        rw [zs_ce_nI (by omega) (by decide)]
        exact g3.2.2 k hk
    · refine g_aload_n dX11_began_28 rfl rfl ?_
      refine g_getR 13 (70) (C := RX11) (T := TX11) (N := 18) dX11_began_29 (by decide) rfl rfl (by decide) rfl fl_RX11_50 ?_
      refine g_getV 2 (C := RX0) (T := TX0) (N := 3) (v := (nI 24)) dX11_began_32 (by decide) rfl rfl (by decide) rfl fl_RX11_236 g3.2.1 ?_
      refine g_iret dX11_began_35 rfl rfl ?_
      exact ⟨_, rfl, ((zs_it h1).trans (zs_it h4)).symm, (zs_ch.rf.and g3.1 (by omega) (by omega))⟩
  · refine g_aload_n dX11_began_5 rfl rfl ?_
    refine g_bipush (v := (-10)) dX11_began_6 rfl ?_
    refine g_callV (T := TX11) (NN := 18) [] (x_refuseBad S (-10)) dX11_began_8 kk_X11_began_X11_refuseBad ml_RX11_86 mwX11_refuseBad ewX11_refuseBad (by decide) rfl rfl rfl rfl (Nat.le_of_ble_eq_true rfl) ?_
    rintro _ _ ⟨_, rfl, rfl, rfl⟩
    refine g_iret dX11_began_11 rfl rfl ?_
    exact ⟨_, rfl, (zs_ie h1).symm, (zs_ch.rf.up (by omega) (by omega))⟩
/-- the tally: so often each number, the most so often -/
def zs_ta (S : zs_S) (g : Nat → Nat) (m : Nat) : Prop := (∀ j, j < 32 → S.1 74 j = nI (g j)) ∧ S.1 73 1 = nI m
set_option maxRecDepth 100000 in
theorem y_tbegin (S : zs_S) : zs_Cv MX9_begin [.ref 73] S (fun S2 => zs_ch 73 75 S S2 ∧ zs_ta S2 (fun _ => 0) 0) := by
  refine zs_C.of (by decide) (Nat.le_of_ble_eq_true rfl) ?_
  show zs_P MX9_begin 0 [(0, .ref 73)] [] S _
  refine g_aload_n dX9_begin_0 rfl rfl ?_
  refine g_getR 0 (74) (C := RX9) (T := TX9) (N := 2) dX9_begin_1 (by decide) rfl rfl (by decide) rfl fl_RX9_7 ?_
  refine g_iconst (v := (nI 0)) dX9_begin_4 rfl ?_
  refine g_callN [.ref 74, .int (nI 0)] [] (x_fill S 74 32 (nI 0) (by decide) rfl (by decide)) dX9_begin_5 kk_X9_begin_X11_fill nl_RX9_13 swX11_fill rfl rfl (Nat.le_of_ble_eq_true rfl) ?_
  rintro _ _ ⟨rfl, rfl⟩
  refine g_aload_n dX9_begin_8 rfl rfl ?_
  refine g_iconst (v := (nI 0)) dX9_begin_9 rfl ?_
  refine g_putI 1 (C := RX9) (T := TX9) (N := 2) (ty := .int) dX9_begin_10 (by decide) rfl rfl (by decide) rfl fl_RX9_19 rfl (by decide +kernel) ⟨rfl, rfl⟩ ?_
  refine g_ret dX9_begin_13 rfl ?_
  exact ⟨rfl, (zs_ch.rf.fi (by omega) (by omega)).up (by omega) (by omega), fun j hj => (zs_up_m (by omega)).trans (zs_fi_i hj), zs_up_q⟩
set_option maxRecDepth 100000 in
theorem y_tadd (S : zs_S) (g : Nat → Nat) (m x : Nat) (hx : x < 32) (hm : m < 2 ^ 20) (hg : ∀ j, g j < 2 ^ 20) (h : zs_ta S g m) : zs_Cv MX9_add [.ref 73, .int (nI x)] S (fun S2 => zs_ch 73 75 S S2 ∧ zs_ta S2 (fun j => if j = x then g j + 1 else g j) (max m (g x + 1))) := by
  refine zs_C.of (by decide) (Nat.le_of_ble_eq_true rfl) ?_
  show zs_P MX9_add 0 [(0, .ref 73), (1, .int (nI x))] [] S _
  refine g_aload_n dX9_add_0 rfl rfl ?_
  refine g_getR 0 (74) (C := RX9) (T := TX9) (N := 2) dX9_add_1 (by decide) rfl rfl (by decide) rfl fl_RX9_7 ?_
  refine g_iload_n dX9_add_4 rfl rfl ?_
  refine g_callN [.ref 74, .int (nI x)] [] (x_cell S 74 32 (nI x) (by decide) rfl (by decide)) dX9_add_5 kk_X9_add_X11_cell nl_RX9_23 swX11_cell rfl rfl (Nat.le_of_ble_eq_true rfl) ?_
  rintro _ _ ⟨_, rfl, rfl, rfl⟩
  rw [zs_ce_nI hx (by decide), h.1 x hx]
  refine g_iconst (v := (nI 1)) dX9_add_8 rfl ?_
  refine g_iaddN dX9_add_9 ?_
  refine g_istore_n (lv' := [(2, .int (nI ((g x) + 1))), (0, .ref 73), (1, .int (nI x))]) dX9_add_10 rfl (by decide) rfl ?_
  refine g_aload_n dX9_add_11 rfl rfl ?_
  refine g_getR 0 (74) (C := RX9) (T := TX9) (N := 2) dX9_add_12 (by decide) rfl rfl (by decide) rfl fl_RX9_7 ?_
  refine g_iload_n dX9_add_15 rfl rfl ?_
  refine g_iload_n dX9_add_16 rfl rfl ?_
  refine g_callN [.ref 74, .int (nI x), .int (nI ((g x) + 1))] [] (x_put S 74 32 (nI x) (nI ((g x) + 1)) (by decide) rfl (by decide)) dX9_add_17 kk_X9_add_X11_put nl_RX9_27 swX11_put rfl rfl (Nat.le_of_ble_eq_true rfl) ?_
  rintro _ _ ⟨rfl, rfl⟩
  refine g_aload_n dX9_add_20 rfl rfl ?_
  refine g_aload_n dX9_add_21 rfl rfl ?_
  refine g_getV 1 (C := RX9) (T := TX9) (N := 2) (v := (nI m)) dX9_add_22 (by decide) rfl rfl (by decide) rfl fl_RX9_19 ((zs_pu_o (by decide)).trans h.2) ?_
  refine g_iload_n dX9_add_25 rfl rfl ?_
  refine g_callS [.int (nI m), .int (nI ((g x) + 1))] [.ref 73] (x_maxN (zs_pu S 74 32 (nI x) (nI ((g x) + 1))) m (g x + 1) (by omega) (by have := hg x; omega)) dX9_add_26 kk_X9_add_J9_max_7cf53 ml_RX9_31 swJ9_max_7cf53 rfl rfl (Nat.le_of_ble_eq_true rfl) ?_
  rintro _ _ ⟨_, rfl, rfl, rfl⟩
  refine g_putI 1 (C := RX9) (T := TX9) (N := 2) (ty := .int) dX9_add_29 (by decide) rfl rfl (by decide) rfl fl_RX9_19 rfl (by decide +kernel) ⟨rfl, rfl⟩ ?_
  refine g_ret dX9_add_32 rfl ?_
  refine ⟨rfl, (zs_ch.rf.pu (by omega) (by omega)).up (by omega) (by omega), fun j hj => (zs_up_m (by omega)).trans ?_, zs_up_q⟩
  rw [zs_pu_nI hx (by decide)]
  show _ = nI (if j = x then g j + 1 else g j)
  by_cases e : j = x
  · rw [if_pos e, e]; exact zs_up_q
  · rw [if_neg e]; exact (zs_up_m (by omega)).trans (h.1 j hj)
set_option maxRecDepth 100000 in
theorem b_drawing (S : zs_S) (v t : Int32) (hn : S.1 1 0 = nI 2) (hd : S.1 4 = fun _ => nI 0) : zs_Ci MX0_drawingAt [.ref 70, .int v, .int t, .ref 1] S (fun x S2 => x = nI 0 ∧ S = S2) := by
  refine zs_C.of (by decide) (Nat.le_of_ble_eq_true rfl) ?_
  show zs_P MX0_drawingAt 0 [(0, .ref 70), (1, .int v), (2, .int t), (3, .ref 1)] [] S _
  refine g_aload_n dX0_drawingAt_0 rfl rfl ?_
  refine g_getR 0 (71) (C := RX0) (T := TX0) (N := 3) dX0_drawingAt_1 (by decide) rfl rfl (by decide) rfl fl_RX0_9 ?_
  refine g_iload_n dX0_drawingAt_4 rfl rfl ?_
  refine g_bipush (v := (nI 12)) dX0_drawingAt_5 rfl ?_
  refine g_irem dX0_drawingAt_7 (by decide) ?_
  refine g_bipush (v := (nI 31)) dX0_drawingAt_8 rfl ?_
  refine g_imul dX0_drawingAt_10 ?_
  refine g_iload_n dX0_drawingAt_11 rfl rfl ?_
  refine g_iadd dX0_drawingAt_12 ?_
  refine g_callN [.ref 71, .int (((v - v / (nI 12) * (nI 12)) * (nI 31)) + t)] [] (x_cell S 71 372 (((v - v / (nI 12) * (nI 12)) * (nI 31)) + t) (by decide) rfl (by decide)) dX0_drawingAt_13 kk_X0_drawingAt_X11_cell nl_RX0_47 swX11_cell rfl rfl (Nat.le_of_ble_eq_true rfl) ?_
  rintro _ _ ⟨_, rfl, rfl, rfl⟩
  refine g_istore (lv' := [(4, .int (zs_ce 372 (S.1 71) (((v - v / (nI 12) * (nI 12)) * (nI 31)) + t))), (0, .ref 70), (1, .int v), (2, .int t), (3, .ref 1)]) dX0_drawingAt_16 (by decide) rfl ?_
  refine g_aload_n dX0_drawingAt_18 rfl rfl ?_
  refine g_getR 4 (3) (C := RX6) (T := TX6) (N := 9) dX0_drawingAt_19 (by decide) rfl rfl (by decide) rfl fl_RX0_75 ?_
  refine g_getR 3 (4) (C := RX3) (T := TX3) (N := 6) dX0_drawingAt_22 (by decide) rfl rfl (by decide) rfl fl_RX0_79 ?_
  refine g_iload_n dX0_drawingAt_25 rfl rfl ?_
  refine g_bipush (v := (nI 12)) dX0_drawingAt_26 rfl ?_
  refine g_idiv dX0_drawingAt_28 (by decide) ?_
  refine g_iload dX0_drawingAt_29 rfl ?_
  refine g_iadd dX0_drawingAt_31 ?_
  refine g_aload_n dX0_drawingAt_32 rfl rfl ?_
  refine g_getV 0 (C := RX6) (T := TX6) (N := 9) (v := (nI 2)) dX0_drawingAt_33 (by decide) rfl rfl (by decide) rfl fl_RX0_31 hn ?_
  refine g_callN [.int ((v / (nI 12)) + (zs_ce 372 (S.1 71) (((v - v / (nI 12) * (nI 12)) * (nI 31)) + t))), .int (nI 2)] [.ref 4] (x_wrapA S ((v / (nI 12)) + (zs_ce 372 (S.1 71) (((v - v / (nI 12) * (nI 12)) * (nI 31)) + t)))) dX0_drawingAt_36 kk_X0_drawingAt_X11_wrap nl_RX0_84 swX11_wrap rfl rfl (Nat.le_of_ble_eq_true rfl) ?_
  rintro _ _ ⟨z, rfl, rfl⟩
  refine g_callN [.ref 4, .int z] [] (x_cell S 4 12 z (by decide) rfl (by decide)) dX0_drawingAt_39 kk_X0_drawingAt_X11_cell nl_RX0_47 swX11_cell rfl rfl (Nat.le_of_ble_eq_true rfl) ?_
  rintro _ _ ⟨_, rfl, rfl, rfl⟩
  refine g_iret dX0_drawingAt_42 rfl rfl ?_
  exact ⟨_, rfl, zs_ceF hd, rfl⟩
def zs_t0 (i : Nat) : Nat → Nat := fun j => if j = 0 then i else 0
theorem zs_t0s (i : Nat) : (fun j => if j = 0 then zs_t0 i j + 1 else zs_t0 i j) = zs_t0 (i + 1) := by
  funext j
  unfold zs_t0
  by_cases h : j = 0
  · simp [h]
  · simp [h]
theorem zs_t00 : (fun _ => 0) = zs_t0 0 := by
  funext j
  unfold zs_t0
  split <;> rfl
set_option maxRecDepth 100000 in
theorem b_tally_l (S0 : zs_S) (t : Int32) (h0 : S0.1 70 2 = nI 24) (hn : S0.1 1 0 = nI 2) (hd : S0.1 4 = fun _ => nI 0) (Q : Option Value → zs_S → Prop) (hq : ∀ S, zs_ch 73 75 S0 S → zs_ta S (zs_t0 24) 24 → Q none S) : ∀ (d i : Nat), i + d = 24 → ∀ S, zs_ch 73 75 S0 S → zs_ta S (zs_t0 i) i → zs_P MX0_tallyAt 7 [(4, .int (nI i)), (0, .ref 70), (1, .int t), (2, .ref 1), (3, .ref 73)] [] S Q := by
  intro d
  induction d with
  | zero =>
    intro i hi S hc ht
    obtain rfl : i = 24 := by omega
    refine g_iload dX0_tallyAt_7 rfl ?_
    refine g_aload_n dX0_tallyAt_9 rfl rfl ?_
    refine g_getV 2 (C := RX0) (T := TX0) (N := 3) (v := (nI 24)) dX0_tallyAt_10 (by decide) rfl rfl (by decide) rfl fl_RX0_28 ((congrFun (hc 70 (by omega)).1 2).trans h0) ?_
    refine g_ic_geN 41 dX0_tallyAt_13 (by decide) (by omega) (by omega) (fun _ => ?_) (fun z => absurd z (by omega))
    refine g_ret dX0_tallyAt_41 rfl ?_
    exact hq S hc ht
  | succ d ih =>
    intro i hi S hc ht
    refine g_iload dX0_tallyAt_7 rfl ?_
    refine g_aload_n dX0_tallyAt_9 rfl rfl ?_
    refine g_getV 2 (C := RX0) (T := TX0) (N := 3) (v := (nI 24)) dX0_tallyAt_10 (by decide) rfl rfl (by decide) rfl fl_RX0_28 ((congrFun (hc 70 (by omega)).1 2).trans h0) ?_
    refine g_ic_geN 41 dX0_tallyAt_13 (by decide) (by omega) (by omega) (fun z => absurd z (by omega)) (fun _ => ?_)
    refine g_aload_n dX0_tallyAt_16 rfl rfl ?_
    refine g_aload_n dX0_tallyAt_17 rfl rfl ?_
    refine g_aload_n dX0_tallyAt_18 rfl rfl ?_
    refine g_getR 1 (72) (C := RX0) (T := TX0) (N := 3) dX0_tallyAt_19 (by decide) rfl rfl (by decide) rfl fl_RX0_15 ?_
    refine g_iload dX0_tallyAt_22 rfl ?_
    refine g_callN [.ref 72, .int (nI i)] [.ref 70, .ref 73] (x_cell S 72 144 (nI i) (by decide) rfl (by decide)) dX0_tallyAt_24 kk_X0_tallyAt_X11_cell nl_RX0_47 swX11_cell rfl rfl (Nat.le_of_ble_eq_true rfl) ?_
    rintro _ _ ⟨_, rfl, rfl, rfl⟩
    refine g_iload_n dX0_tallyAt_27 rfl rfl ?_
    refine g_aload_n dX0_tallyAt_28 rfl rfl ?_
    refine g_callV (T := TX0) (NN := 3) [.ref 73] (b_drawing S (zs_ce 144 (S.1 72) (nI i)) t ((congrFun (hc 1 (by omega)).1 0).trans hn) ((hc 4 (by omega)).1.trans hd)) dX0_tallyAt_29 kk_X0_tallyAt_X0_drawingAt ml_RX0_51 mwX0_drawingAt ewX0_drawingAt (by decide) rfl rfl rfl rfl (Nat.le_of_ble_eq_true rfl) ?_
    rintro _ _ ⟨_, rfl, rfl, rfl⟩
    refine g_callV (T := TX9) (NN := 2) [] (y_tadd S (zs_t0 i) i 0 (by decide) (by omega) (fun j => by unfold zs_t0; split <;> omega) ht) dX0_tallyAt_32 kk_X0_tallyAt_X9_add ml_RX0_55 mwX9_add ewX9_add (by decide) rfl rfl rfl rfl (Nat.le_of_ble_eq_true rfl) ?_
    rintro _ S2 ⟨rfl, c2, t2⟩
    refine g_iinc (v := (nI (i + 1))) (lv' := [(4, .int (nI (i + 1))), (0, .ref 70), (1, .int t), (2, .ref 1), (3, .ref 73)]) dX0_tallyAt_35 rfl (nI_1 i) (by decide) rfl ?_
    refine g_goto 7 dX0_tallyAt_38 (by decide) ?_
    rw [zs_t0s, show max i (zs_t0 i 0 + 1) = i + 1 by unfold zs_t0; simp] at t2
    exact ih (i + 1) (by omega) S2 (hc.trans c2) t2
set_option maxRecDepth 100000 in
theorem b_tallyAt (S : zs_S) (t : Int32) (h0 : S.1 70 2 = nI 24) (hn : S.1 1 0 = nI 2) (hd : S.1 4 = fun _ => nI 0) : zs_Cv MX0_tallyAt [.ref 70, .int t, .ref 1, .ref 73] S (fun S2 => zs_ch 73 75 S S2 ∧ S2.1 73 1 = nI 24) := by
  refine zs_C.of (by decide) (Nat.le_of_ble_eq_true rfl) ?_
  show zs_P MX0_tallyAt 0 [(0, .ref 70), (1, .int t), (2, .ref 1), (3, .ref 73)] [] S _
  refine g_aload_n dX0_tallyAt_0 rfl rfl ?_
  refine g_callV (T := TX9) (NN := 2) [] (y_tbegin S) dX0_tallyAt_1 kk_X0_tallyAt_X9_begin ml_RX0_42 mwX9_begin ewX9_begin (by decide) rfl rfl rfl rfl (Nat.le_of_ble_eq_true rfl) ?_
  rintro _ S1 ⟨rfl, c1, t1⟩
  refine g_iconst (v := (nI 0)) dX0_tallyAt_4 rfl ?_
  refine g_istore (lv' := [(4, .int (nI 0)), (0, .ref 70), (1, .int t), (2, .ref 1), (3, .ref 73)]) dX0_tallyAt_5 (by decide) rfl ?_
  exact b_tally_l S t h0 hn hd _ (fun S2 h2 h3 => ⟨rfl, h2, h3.2⟩) 24 0 (by omega) S1 c1 (zs_t00 ▸ t1)
set_option maxRecDepth 100000 in
theorem b_tell_l (S0 : zs_S) (h0 : S0.1 70 2 = nI 24) (hn : S0.1 1 0 = nI 2) (hd : S0.1 4 = fun _ => nI 0) (Q : Option Value → zs_S → Prop) (hq : ∀ S, zs_ch 73 75 S0 S → Q (some (.int (nI 1))) S) : ∀ (d k : Nat), k + d = 31 → ∀ S, zs_ch 73 75 S0 S → zs_P MX11_tell 31 [(3, .int (nI k)), (1, .int (nI 1)), (2, .int (nI 24)), (0, .ref 0)] [] S Q := by
  intro d
  induction d with
  | zero =>
    intro k hk S hc
    obtain rfl : k = 31 := by omega
    refine g_iload_n dX11_tell_31 rfl rfl ?_
    refine g_bipush (v := (nI 30)) dX11_tell_32 rfl ?_
    refine g_ic_gtN 80 dX11_tell_34 (by decide) (by omega) (by omega) (fun _ => ?_) (fun z => absurd z (by omega))
    refine g_iload_n dX11_tell_80 rfl rfl ?_
    refine g_iret dX11_tell_81 rfl rfl ?_
    exact hq S hc
  | succ d ih =>
    intro k hk S hc
    refine g_iload_n dX11_tell_31 rfl rfl ?_
    refine g_bipush (v := (nI 30)) dX11_tell_32 rfl ?_
    refine g_ic_gtN 80 dX11_tell_34 (by decide) (by omega) (by omega) (fun z => absurd z (by omega)) (fun _ => ?_)
    refine g_aload_n dX11_tell_37 rfl rfl ?_
    refine g_getR 13 (70) (C := RX11) (T := TX11) (N := 18) dX11_tell_38 (by decide) rfl rfl (by decide) rfl fl_RX11_50 ?_
    refine g_iload_n dX11_tell_41 rfl rfl ?_
    refine g_aload_n dX11_tell_42 rfl rfl ?_
    refine g_getR 0 (1) (C := RX11) (T := TX11) (N := 18) dX11_tell_43 (by decide) rfl rfl (by decide) rfl fl_RX11_10 ?_
    refine g_aload_n dX11_tell_46 rfl rfl ?_
    refine g_getR 14 (73) (C := RX11) (T := TX11) (N := 18) dX11_tell_47 (by decide) rfl rfl (by decide) rfl fl_RX11_57 ?_
    refine g_callV (T := TX0) (NN := 3) [] (b_tallyAt S (nI k) ((congrFun (hc 70 (by omega)).1 2).trans h0) ((congrFun (hc 1 (by omega)).1 0).trans hn) ((hc 4 (by omega)).1.trans hd)) dX11_tell_50 kk_X11_tell_X0_tallyAt ml_RX11_241 mwX0_tallyAt ewX0_tallyAt (by decide) rfl rfl rfl rfl (Nat.le_of_ble_eq_true rfl) ?_
    rintro _ S2 ⟨rfl, c2, e2⟩
    refine g_aload_n dX11_tell_53 rfl rfl ?_
    refine g_getR 14 (73) (C := RX11) (T := TX11) (N := 18) dX11_tell_54 (by decide) rfl rfl (by decide) rfl fl_RX11_57 ?_
    refine g_getV 1 (C := RX9) (T := TX9) (N := 2) (v := (nI 24)) dX11_tell_57 (by decide) rfl rfl (by decide) rfl fl_RX11_245 e2 ?_
    refine g_iload_n dX11_tell_60 rfl rfl ?_
    refine g_ic_geN 74 dX11_tell_61 (by decide) (by omega) (by omega) (fun _ => ?_) (fun z => absurd z (by omega))
    refine g_iinc (v := (nI (k + 1))) (lv' := [(3, .int (nI (k + 1))), (1, .int (nI 1)), (2, .int (nI 24)), (0, .ref 0)]) dX11_tell_74 rfl (nI_1 k) (by decide) rfl ?_
    refine g_goto 31 dX11_tell_77 (by decide) ?_
    exact ih (k + 1) (by omega) S2 (hc.trans c2)
set_option maxRecDepth 100000 in
theorem t_tell (S : zs_S) (F : zs_F0 S) : zs_Ci MX11_tell [.ref 0] S (fun x S2 => x = nI 1 ∧ zs_ch 0 80 S S2) := by
  refine zs_C.of (by decide) (Nat.le_of_ble_eq_true rfl) ?_
  show zs_P MX11_tell 0 [(0, .ref 0)] [] S _
  refine g_aload_n dX11_tell_0 rfl rfl ?_
  refine g_getR 13 (70) (C := RX11) (T := TX11) (N := 18) dX11_tell_1 (by decide) rfl rfl (by decide) rfl fl_RX11_50 ?_
  refine g_aload_n dX11_tell_4 rfl rfl ?_
  refine g_getR 0 (1) (C := RX11) (T := TX11) (N := 18) dX11_tell_5 (by decide) rfl rfl (by decide) rfl fl_RX11_10 ?_
  refine g_callV (T := TX0) (NN := 3) [] (b_gather S F) dX11_tell_8 kk_X11_tell_X0_gather ml_RX11_233 mwX0_gather ewX0_gather (by decide) rfl rfl rfl rfl (Nat.le_of_ble_eq_true rfl) ?_
  rintro _ S1 ⟨rfl, g2⟩
  refine g_aload_n dX11_tell_11 rfl rfl ?_
  refine g_getR 13 (70) (C := RX11) (T := TX11) (N := 18) dX11_tell_12 (by decide) rfl rfl (by decide) rfl fl_RX11_50 ?_
  refine g_getV 2 (C := RX0) (T := TX0) (N := 3) (v := (nI 24)) dX11_tell_15 (by decide) rfl rfl (by decide) rfl fl_RX11_236 g2.2.1 ?_
  refine g_iconst (v := (nI 1)) dX11_tell_18 rfl ?_
  refine g_ic_geN 24 dX11_tell_19 (by decide) (by omega) (by omega) (fun _ => ?_) (fun z => absurd z (by omega))
  refine g_iconst (v := (-1)) dX11_tell_24 rfl ?_
  refine g_istore_n (lv' := [(1, .int (-1)), (0, .ref 0)]) dX11_tell_25 rfl (by decide) rfl ?_
  refine g_ldc (v := (nI 1000000)) dX11_tell_26 cl_RX11_240 ?_
  refine g_istore_n (lv' := [(2, .int (nI 1000000)), (1, .int (-1)), (0, .ref 0)]) dX11_tell_28 rfl (by decide) rfl ?_
  refine g_iconst (v := (nI 1)) dX11_tell_29 rfl ?_
  refine g_istore_n (lv' := [(3, .int (nI 1)), (2, .int (nI 1000000)), (1, .int (-1)), (0, .ref 0)]) dX11_tell_30 rfl (by decide) rfl ?_
  refine g_iload_n dX11_tell_31 rfl rfl ?_
  refine g_bipush (v := (nI 30)) dX11_tell_32 rfl ?_
  refine g_ic_gtN 80 dX11_tell_34 (by decide) (by omega) (by omega) (fun z => absurd z (by omega)) (fun _ => ?_)
  refine g_aload_n dX11_tell_37 rfl rfl ?_
  refine g_getR 13 (70) (C := RX11) (T := TX11) (N := 18) dX11_tell_38 (by decide) rfl rfl (by decide) rfl fl_RX11_50 ?_
  refine g_iload_n dX11_tell_41 rfl rfl ?_
  refine g_aload_n dX11_tell_42 rfl rfl ?_
  refine g_getR 0 (1) (C := RX11) (T := TX11) (N := 18) dX11_tell_43 (by decide) rfl rfl (by decide) rfl fl_RX11_10 ?_
  refine g_aload_n dX11_tell_46 rfl rfl ?_
  refine g_getR 14 (73) (C := RX11) (T := TX11) (N := 18) dX11_tell_47 (by decide) rfl rfl (by decide) rfl fl_RX11_57 ?_
  refine g_callV (T := TX0) (NN := 3) [] (b_tallyAt S1 (nI 1) g2.2.1 ((congrFun (g2.1 1 (by omega)).1 0).trans (congrFun (F 1 (by decide)).1 0)) ((g2.1 4 (by omega)).1.trans (F 4 (by decide)).1)) dX11_tell_50 kk_X11_tell_X0_tallyAt ml_RX11_241 mwX0_tallyAt ewX0_tallyAt (by decide) rfl rfl rfl rfl (Nat.le_of_ble_eq_true rfl) ?_
  rintro _ S2 ⟨rfl, c2, e2⟩
  refine g_aload_n dX11_tell_53 rfl rfl ?_
  refine g_getR 14 (73) (C := RX11) (T := TX11) (N := 18) dX11_tell_54 (by decide) rfl rfl (by decide) rfl fl_RX11_57 ?_
  refine g_getV 1 (C := RX9) (T := TX9) (N := 2) (v := (nI 24)) dX11_tell_57 (by decide) rfl rfl (by decide) rfl fl_RX11_245 e2 ?_
  refine g_iload_n dX11_tell_60 rfl rfl ?_
  refine g_ic_geN 74 dX11_tell_61 (by decide) (by omega) (by omega) (fun z => absurd z (by omega)) (fun _ => ?_)
  refine g_aload_n dX11_tell_64 rfl rfl ?_
  refine g_getR 14 (73) (C := RX11) (T := TX11) (N := 18) dX11_tell_65 (by decide) rfl rfl (by decide) rfl fl_RX11_57 ?_
  refine g_getV 1 (C := RX9) (T := TX9) (N := 2) (v := (nI 24)) dX11_tell_68 (by decide) rfl rfl (by decide) rfl fl_RX11_245 e2 ?_
  refine g_istore_n (lv' := [(2, .int (nI 24)), (3, .int (nI 1)), (1, .int (-1)), (0, .ref 0)]) dX11_tell_71 rfl (by decide) rfl ?_
  refine g_iload_n dX11_tell_72 rfl rfl ?_
  refine g_istore_n (lv' := [(1, .int (nI 1)), (2, .int (nI 24)), (3, .int (nI 1)), (0, .ref 0)]) dX11_tell_73 rfl (by decide) rfl ?_
  refine g_iinc (v := (nI (1 + 1))) (lv' := [(3, .int (nI (1 + 1))), (1, .int (nI 1)), (2, .int (nI 24)), (0, .ref 0)]) dX11_tell_74 rfl (nI_1 1) (by decide) rfl ?_
  refine g_goto 31 dX11_tell_77 (by decide) ?_
  exact (b_tell_l S2 ((congrFun (c2 70 (by omega)).1 2).trans g2.2.1) ((congrFun (c2 1 (by omega)).1 0).trans ((congrFun (g2.1 1 (by omega)).1 0).trans (congrFun (F 1 (by decide)).1 0))) ((c2 4 (by omega)).1.trans ((g2.1 4 (by omega)).1.trans (F 4 (by decide)).1)) _ (fun S3 h3 => ⟨_, rfl, rfl, (((g2.1.wide (by decide) (by decide)).and c2 (by decide) (by decide)).and h3 (by decide) (by decide))⟩) 29 2 (by omega) S2 zs_ch.rf).lv (by simp)
