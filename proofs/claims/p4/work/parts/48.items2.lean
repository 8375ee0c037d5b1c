theorem zs_cmp0 {x y : Int64} (h : lg_cmp x y = 0) : x = y := by
  rcases Int.lt_trichotomy x.toInt y.toInt with z | z | z
  · have := (lg_cmp_lt x y).mpr (Int64.lt_iff_toInt_lt.mpr z)
    rw [h] at this; exact absurd this (by decide)
  · exact Int64.toInt_inj.mp z
  · have := (lg_cmp_gt x y).mpr (Int64.lt_iff_toInt_lt.mpr z)
    rw [h] at this; exact absurd this (by decide)
def zs_oI (S0 S : zs_S) : Prop := zs_J S ∧ zs_fm S0 S ∧ S.1 80 8 = S0.1 80 8 ∧ ∃ q0 q, q0 ≤ 150 ∧ q ≤ 150 ∧ S0.1 80 5 = nI q0 ∧ S.1 80 5 = nI q ∧ q0 ≤ q
theorem zs_oW.i {S0 S : zs_S} (h : zs_oW S0 S) : zs_oI S0 S := ⟨h.1, h.2.1, h.2.2.2.1 8 (by omega), h.2.2.2.2⟩
theorem zs_oI.tr {S S1 S2 : zs_S} (h : zs_oI S S1) (k : zs_oI S1 S2) : zs_oI S S2 := by
  obtain ⟨a1, a2, a4, q0, q1, a5, a6, a7, a8, a9⟩ := h
  obtain ⟨b1, b2, b4, q2, q3, b5, b6, b7, b8, b9⟩ := k
  have e := (nI_eq (by omega) (by omega)).mp (a8.symm.trans b7)
  exact ⟨b1, a2.tr b2, b4.trans a4, q0, q3, a5, b6, a7, b8, by omega⟩
theorem zs_oI.rf {S : zs_S} (hJ : zs_J S) : zs_oI S S := (zs_oW.rf hJ).i
theorem zs_oI.up {S0 S : zs_S} {a j : Nat} {v : Int32} (h : zs_oI S0 S) (hv : zs_ok a j v) (hp : zs_pm a j = false) (h1 : ¬ (80 = a ∧ 5 = j)) (h2 : ¬ (80 = a ∧ 8 = j)) : zs_oI S0 (zs_up S.1 a j v, S.2) := by
  obtain ⟨a1, a2, a4, q0, q1, a5, a6, a7, a8, a9⟩ := h
  exact ⟨a1.up hv, a2.tr (zs_fm.up hp), (zs_up_m h2).trans a4, q0, q1, a5, a6, a7, (zs_up_m h1).trans a8, a9⟩
theorem zs_oI.o {S0 S S2 : zs_S} (h : zs_oI S0 S) (hJ : zs_J S2) (hf : zs_fm S S2) (h8 : S2.1 80 = S.1 80) : zs_oI S0 S2 := by
  obtain ⟨a1, a2, a4, q0, q1, a5, a6, a7, a8, a9⟩ := h
  exact ⟨hJ, a2.tr hf, (congrFun h8 8).trans a4, q0, q1, a5, a6, a7, (congrFun h8 5).trans a8, a9⟩
set_option maxRecDepth 100000 in
theorem y_drumItem (S : zs_S) (hJ : zs_J S) : zs_Cv MX12_drumItem [.ref 80] S (fun S2 => zs_oI S S2 ∧ S2.1 80 9 = S.1 80 9 ∧ (¬ S.1 80 8 = nI 0 → S2.1 80 7 = nI 0 → S2.1 82 2 = nI 0)) := by
  obtain ⟨dn, -, hdn1, hdn⟩ := hJ.1 80 8 0 1 rfl
  obtain ⟨ev, -, hev1, hev⟩ := hJ.1 80 9 0 5 rfl
  refine zs_C.of (by decide) (Nat.le_of_ble_eq_true rfl) ?_
  show zs_P MX12_drumItem 0 [(0, .ref 80)] [] S _
  refine g_aload_n dX12_drumItem_0 rfl rfl ?_
  refine g_iconst (v := (nI 2)) dX12_drumItem_1 rfl ?_
  refine g_bipush (v := (nI 12)) dX12_drumItem_2 rfl ?_
  refine g_callV (T := TX12) (NN := 19) [] (y_wants 2 12 (by decide) (by decide) S hJ) dX12_drumItem_4 kk_X12_drumItem_X12_wants ml_RX12_112 mwX12_wants ewX12_wants (by decide) rfl rfl rfl rfl (Nat.le_of_ble_eq_true rfl) ?_
  rintro _ S1 ⟨_, rfl, oS1, r2, lS1, rfl, fS1⟩
  obtain ⟨wS1, -, kS1, eS1⟩ := oS1.1.1 80 7 0 1 rfl
  refine g_istore_n (lv' := [(1, .int (nI r2)), (0, .ref 80)]) dX12_drumItem_7 rfl (by decide) rfl ?_
  refine g_aload_n dX12_drumItem_8 rfl rfl ?_
  refine g_iconst (v := (nI 0)) dX12_drumItem_9 rfl ?_
  refine g_iconst (v := (nI 5)) dX12_drumItem_10 rfl ?_
  refine g_callV (T := TX12) (NN := 19) [] (y_wants 0 5 (by decide) (by decide) S1 oS1.1) dX12_drumItem_11 kk_X12_drumItem_X12_wants ml_RX12_112 mwX12_wants ewX12_wants (by decide) rfl rfl rfl rfl (Nat.le_of_ble_eq_true rfl) ?_
  rintro _ S3 ⟨_, rfl, oS3, r4, lS3, rfl, fS3⟩
  obtain ⟨wS3, -, kS3, eS3⟩ := oS3.1.1 80 7 0 1 rfl
  refine g_istore_n (lv' := [(2, .int (nI r4)), (1, .int (nI r2)), (0, .ref 80)]) dX12_drumItem_14 rfl (by decide) rfl ?_
  refine g_aload_n dX12_drumItem_15 rfl rfl ?_
  refine g_iconst (v := (nI 0)) dX12_drumItem_16 rfl ?_
  refine g_bipush (v := (nI 11)) dX12_drumItem_17 rfl ?_
  refine g_callV (T := TX12) (NN := 19) [] (y_wants 0 11 (by decide) (by decide) S3 oS3.1) dX12_drumItem_19 kk_X12_drumItem_X12_wants ml_RX12_112 mwX12_wants ewX12_wants (by decide) rfl rfl rfl rfl (Nat.le_of_ble_eq_true rfl) ?_
  rintro _ S5 ⟨_, rfl, oS5, r6, lS5, rfl, fS5⟩
  obtain ⟨wS5, -, kS5, eS5⟩ := oS5.1.1 80 7 0 1 rfl
  refine g_istore_n (lv' := [(3, .int (nI r6)), (2, .int (nI r4)), (1, .int (nI r2)), (0, .ref 80)]) dX12_drumItem_22 rfl (by decide) rfl ?_
  refine g_aload_n dX12_drumItem_23 rfl rfl ?_
  refine g_iload_n dX12_drumItem_24 rfl rfl ?_
  refine g_putI 10 (C := RX12) (T := TX12) (N := 19) (ty := .int) dX12_drumItem_25 (by decide) rfl rfl (by decide) rfl fl_RX12_115 rfl (by decide +kernel) ⟨rfl, rfl⟩ ?_
  refine g_aload_n dX12_drumItem_28 rfl rfl ?_
  refine g_getV 8 (C := RX12) (T := TX12) (N := 19) (v := (nI dn)) dX12_drumItem_29 (by decide) rfl rfl (by decide) rfl fl_RX12_118 ((zs_up_m (by omega)).trans ((oS5.2.2.2.1 8 (by omega)).trans ((oS3.2.2.2.1 8 (by omega)).trans ((oS1.2.2.2.1 8 (by omega)).trans hdn)))) ?_
  refine g_if_eqN 49 dX12_drumItem_32 (by decide) (by omega) (fun h7 => ?_) (fun h7 => ?_)
  · refine g_ret dX12_drumItem_49 rfl ?_
    exact ⟨rfl, (((((((((zs_oI.rf hJ)).tr oS1.i)).tr oS3.i)).tr oS5.i)).up (zs_okR rfl (by omega) (by omega) (by decide) (by decide)) rfl (by omega) (by omega)), (((zs_up_m (by omega)).trans ((oS5.2.2.2.1 9 (by omega)).trans ((oS3.2.2.2.1 9 (by omega)).trans ((oS1.2.2.2.1 9 (by omega)).trans hev))))).trans hev.symm, fun z _ => absurd (by rw [hdn, show dn = 0 by omega]) z⟩
  · refine g_aload_n dX12_drumItem_35 rfl rfl ?_
    refine g_getV 7 (C := RX12) (T := TX12) (N := 19) (v := (nI wS5)) dX12_drumItem_36 (by decide) rfl rfl (by decide) rfl fl_RX12_105 ((zs_up_m (by omega)).trans eS5) ?_
    refine g_if_neN 49 dX12_drumItem_39 (by decide) (by omega) (fun h8 => ?_) (fun h8 => ?_)
    · refine g_ret dX12_drumItem_49 rfl ?_
      exact ⟨rfl, (((((((((zs_oI.rf hJ)).tr oS1.i)).tr oS3.i)).tr oS5.i)).up (zs_okR rfl (by omega) (by omega) (by decide) (by decide)) rfl (by omega) (by omega)), (((zs_up_m (by omega)).trans ((oS5.2.2.2.1 9 (by omega)).trans ((oS3.2.2.2.1 9 (by omega)).trans ((oS1.2.2.2.1 9 (by omega)).trans hev))))).trans hev.symm, fun _ z => absurd ((nI_eq (by omega) (by omega)).mp ((((zs_up_m (by omega)).trans eS5)).symm.trans z)) (by omega)⟩
    · have hn2 := (fS1 ((fS3 ((fS5 (by rw [eS5, show wS5 = 0 by omega])).2)).2)).1
      refine g_aload_n dX12_drumItem_42 rfl rfl ?_
      refine g_iload_n dX12_drumItem_43 rfl rfl ?_
      refine g_iload_n dX12_drumItem_44 rfl rfl ?_
      refine g_iload_n dX12_drumItem_45 rfl rfl ?_
      refine g_callV (T := TX12) (NN := 19) [] (y_beginsX r2 r6 (nI r4) (by omega) (by omega) (by omega) (zs_up S5.1 80 10 (nI r2), S5.2) ((oS5.1).up (zs_okR rfl (by omega) (by omega) (by decide) (by decide)))) dX12_drumItem_46 kk_X12_drumItem_X12_begins ml_RX12_42 mwX12_begins ewX12_begins (by decide) rfl rfl rfl rfl (Nat.le_of_ble_eq_true rfl) ?_
      rintro _ S9 ⟨rfl, bS9⟩
      refine g_ret dX12_drumItem_49 rfl ?_
      exact ⟨rfl, (((((((((((zs_oI.rf hJ)).tr oS1.i)).tr oS3.i)).tr oS5.i)).up (zs_okR rfl (by omega) (by omega) (by decide) (by decide)) rfl (by omega) (by omega))).o bS9.1 bS9.2.1 bS9.2.2.2), (((congrFun bS9.2.2.2 9).trans ((zs_up_m (by omega)).trans ((oS5.2.2.2.1 9 (by omega)).trans ((oS3.2.2.2.1 9 (by omega)).trans ((oS1.2.2.2.1 9 (by omega)).trans hev)))))).trans hev.symm, fun _ _ => bS9.2.2.1⟩
def zs_oR (S0 S : zs_S) : Prop := zs_oI S0 S ∧ S.1 82 = S0.1 82 ∧ S.1 80 9 = S0.1 80 9 ∧ S.1 80 10 = S0.1 80 10
theorem zs_oR.tT {S0 S S2 : zs_S} {q0 q : Nat} (h : zs_oR S0 S) (o : zs_oT S S2) (h0 : S.1 80 5 = nI q0) (h1 : q0 ≤ 150) (h2 : S2.1 80 5 = nI q) (h3 : q ≤ 150) (h4 : q0 ≤ q) : zs_oR S0 S2 := ⟨h.1.tr (o.w h0 h1 h2 h3 h4).i, (o.2.2.1 82 (by decide)).trans h.2.1, (o.2.2.2 9 (by omega)).trans h.2.2.1, (o.2.2.2 10 (by omega)).trans h.2.2.2⟩
theorem zs_oR.u7 {S0 S : zs_S} {k : Nat} (h : zs_oR S0 S) (hk : k ≤ 1) : zs_oR S0 (zs_up S.1 80 7 (nI k), S.2) := ⟨h.1.up (zs_okR rfl (Nat.zero_le _) hk (by decide) (by decide)) rfl (by omega) (by omega), (zs_uo (f := S.1) (a := 80) (j := 7) (v := nI k) (b := 82) (by decide)).trans h.2.1, (zs_up_m (by omega)).trans h.2.2.1, (zs_up_m (by omega)).trans h.2.2.2⟩
theorem zs_oR.u81 {S0 S : zs_S} {j : Nat} {v : Int32} (h : zs_oR S0 S) (hv : zs_ok 81 j v) : zs_oR S0 (zs_up S.1 81 j v, S.2) := ⟨h.1.up hv rfl (by omega) (by omega), (zs_uo (f := S.1) (a := 81) (j := j) (v := v) (b := 82) (by decide)).trans h.2.1, (zs_up_m (by omega)).trans h.2.2.1, (zs_up_m (by omega)).trans h.2.2.2⟩
theorem zs_oR.rf {S : zs_S} (hJ : zs_J S) : zs_oR S S := ⟨zs_oI.rf hJ, rfl, rfl, rfl⟩
set_option maxRecDepth 100000 in
theorem z_draw_l (S0 : zs_S) (dn fr : Nat) (hdn1 : dn ≤ 1) (hfr1 : fr ≤ 12) : ∀ (d f : Nat), f + d = 13 → ∀ tt, tt ≤ 4 → ∀ w q, ∀ S, zs_oR S0 S → S.1 80 7 = nI w → S.1 80 8 = nI dn → S.1 80 10 = nI fr → S.1 80 5 = nI q → w ≤ 1 → q ≤ 150 → (w = 0 → f ≤ fr) → zs_P MX12_drawItem 7 [(2, .int (nI tt)), (1, .int (nI f)), (0, .ref 80)] [] S (fun v S2 => v = none ∧ zs_oR S0 S2) := by
  intro d
  induction d with
  | zero =>
    intro f hf tt ht w q S hS hw hdn hfr hq hw1 hq1 hwf
    refine g_aload_n dX12_drawItem_7 rfl rfl ?_
    refine g_getV 7 (C := RX12) (T := TX12) (N := 19) (v := (nI w)) dX12_drawItem_8 (by decide) rfl rfl (by decide) rfl fl_RX12_105 hw ?_
    refine g_if_neN 99 dX12_drawItem_11 (by decide) (by omega) (fun _ => ?_) (fun z => absurd z (by omega))
    refine g_aload_n dX12_drawItem_99 rfl rfl ?_
    refine g_aload_n dX12_drawItem_100 rfl rfl ?_
    refine g_getV 7 (C := RX12) (T := TX12) (N := 19) (v := (nI w)) dX12_drawItem_101 (by decide) rfl rfl (by decide) rfl fl_RX12_105 hw ?_
    refine g_if_neN 116 dX12_drawItem_104 (by decide) (by omega) (fun _ => ?_) (fun z => absurd z (by omega))
    refine g_iconst (v := (nI 1)) dX12_drawItem_116 rfl ?_
    refine g_goto 121 dX12_drawItem_117 (by decide) ?_
    refine g_putI 7 (C := RX12) (T := TX12) (N := 19) (ty := .boolean) dX12_drawItem_121 (by decide) rfl rfl (by decide) rfl fl_RX12_105 rfl (by decide +kernel) ⟨rfl, rfl⟩ ?_
    refine g_ret dX12_drawItem_124 rfl ?_
    exact ⟨rfl, ((hS).u7 (by omega))⟩
  | succ d ih =>
    intro f hf tt ht w q S hS hw hdn hfr hq hw1 hq1 hwf
    have ih : ∀ f, f + d = 13 → ∀ tt, tt ≤ 4 → ∀ w q, ∀ S, zs_oR S0 S → S.1 80 7 = nI w → S.1 80 8 = nI dn → S.1 80 10 = nI fr → S.1 80 5 = nI q → w ≤ 1 → q ≤ 150 → (w = 0 → f ≤ fr) → zs_P MX12_drawItem 7 [(2, .int (nI tt)), (1, .int (nI f)), (0, .ref 80)] [] S (fun v S2 => v = none ∧ zs_oR S0 S2) := ih
    refine g_aload_n dX12_drawItem_7 rfl rfl ?_
    refine g_getV 7 (C := RX12) (T := TX12) (N := 19) (v := (nI w)) dX12_drawItem_8 (by decide) rfl rfl (by decide) rfl fl_RX12_105 hw ?_
    refine g_if_neN 99 dX12_drawItem_11 (by decide) (by omega) (fun h1 => ?_) (fun h1 => ?_)
    · refine g_aload_n dX12_drawItem_99 rfl rfl ?_
      refine g_aload_n dX12_drawItem_100 rfl rfl ?_
      refine g_getV 7 (C := RX12) (T := TX12) (N := 19) (v := (nI w)) dX12_drawItem_101 (by decide) rfl rfl (by decide) rfl fl_RX12_105 hw ?_
      refine g_if_neN 116 dX12_drawItem_104 (by decide) (by omega) (fun h2 => ?_) (fun h2 => ?_)
      · refine g_iconst (v := (nI 1)) dX12_drawItem_116 rfl ?_
        refine g_goto 121 dX12_drawItem_117 (by decide) ?_
        refine g_putI 7 (C := RX12) (T := TX12) (N := 19) (ty := .boolean) dX12_drawItem_121 (by decide) rfl rfl (by decide) rfl fl_RX12_105 rfl (by decide +kernel) ⟨rfl, rfl⟩ ?_
        refine g_ret dX12_drawItem_124 rfl ?_
        exact ⟨rfl, ((hS).u7 (by omega))⟩
      · refine g_iload_n dX12_drawItem_107 rfl rfl ?_
        refine g_if_eqN 116 dX12_drawItem_108 (by decide) (by omega) (fun h3 => ?_) (fun h3 => ?_)
        · refine g_iconst (v := (nI 1)) dX12_drawItem_116 rfl ?_
          refine g_goto 121 dX12_drawItem_117 (by decide) ?_
          refine g_putI 7 (C := RX12) (T := TX12) (N := 19) (ty := .boolean) dX12_drawItem_121 (by decide) rfl rfl (by decide) rfl fl_RX12_105 rfl (by decide +kernel) ⟨rfl, rfl⟩ ?_
          refine g_ret dX12_drawItem_124 rfl ?_
          exact ⟨rfl, ((hS).u7 (by omega))⟩
        · refine g_iload_n dX12_drawItem_111 rfl rfl ?_
          refine g_iconst (v := (nI 2)) dX12_drawItem_112 rfl ?_
          refine g_ic_eqN 120 dX12_drawItem_113 (by decide) (by omega) (by omega) (fun h4 => ?_) (fun h4 => ?_)
          · refine g_iconst (v := (nI 0)) dX12_drawItem_120 rfl ?_
            refine g_putI 7 (C := RX12) (T := TX12) (N := 19) (ty := .boolean) dX12_drawItem_121 (by decide) rfl rfl (by decide) rfl fl_RX12_105 rfl (by decide +kernel) ⟨rfl, rfl⟩ ?_
            refine g_ret dX12_drawItem_124 rfl ?_
            exact ⟨rfl, ((hS).u7 (by omega))⟩
          · refine g_iconst (v := (nI 1)) dX12_drawItem_116 rfl ?_
            refine g_goto 121 dX12_drawItem_117 (by decide) ?_
            refine g_putI 7 (C := RX12) (T := TX12) (N := 19) (ty := .boolean) dX12_drawItem_121 (by decide) rfl rfl (by decide) rfl fl_RX12_105 rfl (by decide +kernel) ⟨rfl, rfl⟩ ?_
            refine g_ret dX12_drawItem_124 rfl ?_
            exact ⟨rfl, ((hS).u7 (by omega))⟩
    · refine g_iload_n dX12_drawItem_14 rfl rfl ?_
      refine g_iconst (v := (nI 1)) dX12_drawItem_15 rfl ?_
      refine g_ic_neN 99 dX12_drawItem_16 (by decide) (by omega) (by omega) (fun h5 => ?_) (fun h5 => ?_)
      · refine g_aload_n dX12_drawItem_99 rfl rfl ?_
        refine g_aload_n dX12_drawItem_100 rfl rfl ?_
        refine g_getV 7 (C := RX12) (T := TX12) (N := 19) (v := (nI w)) dX12_drawItem_101 (by decide) rfl rfl (by decide) rfl fl_RX12_105 hw ?_
        refine g_if_neN 116 dX12_drawItem_104 (by decide) (by omega) (fun h6 => ?_) (fun h6 => ?_)
        · refine g_iconst (v := (nI 1)) dX12_drawItem_116 rfl ?_
          refine g_goto 121 dX12_drawItem_117 (by decide) ?_
          refine g_putI 7 (C := RX12) (T := TX12) (N := 19) (ty := .boolean) dX12_drawItem_121 (by decide) rfl rfl (by decide) rfl fl_RX12_105 rfl (by decide +kernel) ⟨rfl, rfl⟩ ?_
          refine g_ret dX12_drawItem_124 rfl ?_
          exact ⟨rfl, ((hS).u7 (by omega))⟩
        · refine g_iload_n dX12_drawItem_107 rfl rfl ?_
          refine g_if_eqN 116 dX12_drawItem_108 (by decide) (by omega) (fun h7 => ?_) (fun h7 => ?_)
          · refine g_iconst (v := (nI 1)) dX12_drawItem_116 rfl ?_
            refine g_goto 121 dX12_drawItem_117 (by decide) ?_
            refine g_putI 7 (C := RX12) (T := TX12) (N := 19) (ty := .boolean) dX12_drawItem_121 (by decide) rfl rfl (by decide) rfl fl_RX12_105 rfl (by decide +kernel) ⟨rfl, rfl⟩ ?_
            refine g_ret dX12_drawItem_124 rfl ?_
            exact ⟨rfl, ((hS).u7 (by omega))⟩
          · refine g_iload_n dX12_drawItem_111 rfl rfl ?_
            refine g_iconst (v := (nI 2)) dX12_drawItem_112 rfl ?_
            refine g_ic_eqN 120 dX12_drawItem_113 (by decide) (by omega) (by omega) (fun h8 => ?_) (fun h8 => ?_)
            · refine g_iconst (v := (nI 0)) dX12_drawItem_120 rfl ?_
              refine g_putI 7 (C := RX12) (T := TX12) (N := 19) (ty := .boolean) dX12_drawItem_121 (by decide) rfl rfl (by decide) rfl fl_RX12_105 rfl (by decide +kernel) ⟨rfl, rfl⟩ ?_
              refine g_ret dX12_drawItem_124 rfl ?_
              exact ⟨rfl, ((hS).u7 (by omega))⟩
            · refine g_iconst (v := (nI 1)) dX12_drawItem_116 rfl ?_
              refine g_goto 121 dX12_drawItem_117 (by decide) ?_
              refine g_putI 7 (C := RX12) (T := TX12) (N := 19) (ty := .boolean) dX12_drawItem_121 (by decide) rfl rfl (by decide) rfl fl_RX12_105 rfl (by decide +kernel) ⟨rfl, rfl⟩ ?_
              refine g_ret dX12_drawItem_124 rfl ?_
              exact ⟨rfl, ((hS).u7 (by omega))⟩
      · refine g_aload_n dX12_drawItem_19 rfl rfl ?_
        refine g_iload_n dX12_drawItem_20 rfl rfl ?_
        refine g_aload_n dX12_drawItem_21 rfl rfl ?_
        refine g_getV 10 (C := RX12) (T := TX12) (N := 19) (v := (nI fr)) dX12_drawItem_22 (by decide) rfl rfl (by decide) rfl fl_RX12_115 hfr ?_
        refine g_ic_eqN 43 dX12_drawItem_25 (by decide) (by omega) (by omega) (fun h9 => ?_) (fun h9 => ?_)
        · refine g_iconst (v := (nI 1)) dX12_drawItem_43 rfl ?_
          refine g_goto 48 dX12_drawItem_44 (by decide) ?_
          refine g_putI 7 (C := RX12) (T := TX12) (N := 19) (ty := .boolean) dX12_drawItem_48 (by decide) rfl rfl (by decide) rfl fl_RX12_105 rfl (by decide +kernel) ⟨rfl, rfl⟩ ?_
          refine g_aload_n dX12_drawItem_51 rfl rfl ?_
          refine g_getV 8 (C := RX12) (T := TX12) (N := 19) (v := (nI dn)) dX12_drawItem_52 (by decide) rfl rfl (by decide) rfl fl_RX12_118 ((zs_up_m (by omega)).trans hdn) ?_
          refine g_if_eqN 77 dX12_drawItem_55 (by decide) (by omega) (fun h10 => ?_) (fun h10 => ?_)
          · refine g_iinc (v := (nI (f + 1))) (lv' := [(1, .int (nI (f + 1))), (2, .int (nI tt)), (0, .ref 80)]) dX12_drawItem_77 rfl (nI_1 f) (by decide) rfl ?_
            refine g_aload_n dX12_drawItem_80 rfl rfl ?_
            refine g_getV 7 (C := RX12) (T := TX12) (N := 19) (v := (nI 1)) dX12_drawItem_81 (by decide) rfl rfl (by decide) rfl fl_RX12_105 zs_up_q ?_
            refine g_if_eqN 91 dX12_drawItem_84 (by decide) (by omega) (fun z => absurd z (by omega)) (fun _ => ?_)
            refine g_iload_n dX12_drawItem_87 rfl rfl ?_
            refine g_goto 95 dX12_drawItem_88 (by decide) ?_
            refine g_istore_n (lv' := [(2, .int (nI tt)), (1, .int (nI (f + 1))), (0, .ref 80)]) dX12_drawItem_95 rfl (by decide) rfl ?_
            refine g_goto 7 dX12_drawItem_96 (by decide) ?_
            exact ih (f + 1) (by omega) tt (by omega) 1 q _ ((hS).u7 (by omega)) zs_up_q ((zs_up_m (by omega)).trans hdn) ((zs_up_m (by omega)).trans hfr) ((zs_up_m (by omega)).trans hq) (by omega) (by omega) (by omega)
          · refine g_aload_n dX12_drawItem_58 rfl rfl ?_
            refine g_getV 7 (C := RX12) (T := TX12) (N := 19) (v := (nI 1)) dX12_drawItem_59 (by decide) rfl rfl (by decide) rfl fl_RX12_105 zs_up_q ?_
            refine g_if_neN 77 dX12_drawItem_62 (by decide) (by omega) (fun _ => ?_) (fun z => absurd z (by omega))
            refine g_iinc (v := (nI (f + 1))) (lv' := [(1, .int (nI (f + 1))), (2, .int (nI tt)), (0, .ref 80)]) dX12_drawItem_77 rfl (nI_1 f) (by decide) rfl ?_
            refine g_aload_n dX12_drawItem_80 rfl rfl ?_
            refine g_getV 7 (C := RX12) (T := TX12) (N := 19) (v := (nI 1)) dX12_drawItem_81 (by decide) rfl rfl (by decide) rfl fl_RX12_105 zs_up_q ?_
            refine g_if_eqN 91 dX12_drawItem_84 (by decide) (by omega) (fun z => absurd z (by omega)) (fun _ => ?_)
            refine g_iload_n dX12_drawItem_87 rfl rfl ?_
            refine g_goto 95 dX12_drawItem_88 (by decide) ?_
            refine g_istore_n (lv' := [(2, .int (nI tt)), (1, .int (nI (f + 1))), (0, .ref 80)]) dX12_drawItem_95 rfl (by decide) rfl ?_
            refine g_goto 7 dX12_drawItem_96 (by decide) ?_
            exact ih (f + 1) (by omega) tt (by omega) 1 q _ ((hS).u7 (by omega)) zs_up_q ((zs_up_m (by omega)).trans hdn) ((zs_up_m (by omega)).trans hfr) ((zs_up_m (by omega)).trans hq) (by omega) (by omega) (by omega)
        · skip
          refine g_aload_n dX12_drawItem_28 rfl rfl ?_
          refine g_getI 11 (C := RX12) (T := TX12) (N := 19) dX12_drawItem_29 (by decide) rfl rfl (by decide) rfl fl_RX12_96 ?_
          refine g_i2l dX12_drawItem_32 rfl ?_
          refine g_lconst (v := 0) dX12_drawItem_33 (by decide) ?_
          refine g_ldc2 (v := 9) dX12_drawItem_34 cl_RX12_121 ?_
          refine g_callS [.long (Int32.toInt64 (S.1 80 11)), .long 0, .long 9] [.ref 80] (z_in S (S.1 80 11) 0 9 (by decide) (by decide)) dX12_drawItem_37 kk_X12_drawItem_X12_in ml_RX12_54 swX12_in rfl rfl (Nat.le_of_ble_eq_true rfl) ?_
          rintro _ _ ⟨_, rfl, rfl, rfl⟩
          refine g_if_ne 47 dX12_drawItem_40 (by decide) (fun h13 => ?_) (fun h13 => ?_)
          · have h13 := zs_b1 h13
            obtain ⟨r, -, hr1, hr⟩ := zs_rng h13 (by omega)
            refine g_iconst (v := (nI 0)) dX12_drawItem_47 rfl ?_
            refine g_putI 7 (C := RX12) (T := TX12) (N := 19) (ty := .boolean) dX12_drawItem_48 (by decide) rfl rfl (by decide) rfl fl_RX12_105 rfl (by decide +kernel) ⟨rfl, rfl⟩ ?_
            refine g_aload_n dX12_drawItem_51 rfl rfl ?_
            refine g_getV 8 (C := RX12) (T := TX12) (N := 19) (v := (nI dn)) dX12_drawItem_52 (by decide) rfl rfl (by decide) rfl fl_RX12_118 ((zs_up_m (by omega)).trans hdn) ?_
            refine g_if_eqN 77 dX12_drawItem_55 (by decide) (by omega) (fun h14 => ?_) (fun h14 => ?_)
            · refine g_iinc (v := (nI (f + 1))) (lv' := [(1, .int (nI (f + 1))), (2, .int (nI tt)), (0, .ref 80)]) dX12_drawItem_77 rfl (nI_1 f) (by decide) rfl ?_
              refine g_aload_n dX12_drawItem_80 rfl rfl ?_
              refine g_getV 7 (C := RX12) (T := TX12) (N := 19) (v := (nI 0)) dX12_drawItem_81 (by decide) rfl rfl (by decide) rfl fl_RX12_105 zs_up_q ?_
              refine g_if_eqN 91 dX12_drawItem_84 (by decide) (by omega) (fun _ => ?_) (fun z => absurd z (by omega))
              refine g_aload_n dX12_drawItem_91 rfl rfl ?_
              refine g_callV (T := TX12) (NN := 19) [] (y_token q (zs_up S.1 80 7 (nI 0), S.2) ((hS.1.1).up (zs_okR rfl (by omega) (by omega) (by decide) (by decide))) ((zs_up_m (by omega)).trans hq) (by omega)) dX12_drawItem_92 kk_X12_drawItem_X12_token ml_RX12_109 mwX12_token ewX12_token (by decide) rfl rfl rfl rfl (Nat.le_of_ble_eq_true rfl) ?_
              rintro _ S15 ⟨_, rfl, oS15, t16, qS15, lS15, rfl, eS15, kS15, mS15, nS15⟩
              refine g_istore_n (lv' := [(2, .int (nI t16)), (1, .int (nI (f + 1))), (0, .ref 80)]) dX12_drawItem_95 rfl (by decide) rfl ?_
              refine g_goto 7 dX12_drawItem_96 (by decide) ?_
              exact ih (f + 1) (by omega) t16 (by omega) 0 qS15 _ ((((hS).u7 (by omega))).tT oS15 ((zs_up_m (by omega)).trans hq) (by omega) eS15 (by omega) (by omega)) ((oS15.2.2.2 7 (by omega)).trans zs_up_q) ((oS15.2.2.2 8 (by omega)).trans ((zs_up_m (by omega)).trans hdn)) ((oS15.2.2.2 10 (by omega)).trans ((zs_up_m (by omega)).trans hfr)) eS15 (by omega) (by omega) (by omega)
            · refine g_aload_n dX12_drawItem_58 rfl rfl ?_
              refine g_getV 7 (C := RX12) (T := TX12) (N := 19) (v := (nI 0)) dX12_drawItem_59 (by decide) rfl rfl (by decide) rfl fl_RX12_105 zs_up_q ?_
              refine g_if_neN 77 dX12_drawItem_62 (by decide) (by omega) (fun z => absurd z (by omega)) (fun _ => ?_)
              refine g_aload_n dX12_drawItem_65 rfl rfl ?_
              refine g_getR 0 (81) (C := RX12) (T := TX12) (N := 19) dX12_drawItem_66 (by decide) rfl rfl (by decide) rfl fl_RX12_7 ?_
              refine g_iconst (v := (nI 3)) dX12_drawItem_69 rfl ?_
              refine g_iload_n dX12_drawItem_70 rfl rfl ?_
              refine g_iaddN dX12_drawItem_71 ?_
              refine g_aload_n dX12_drawItem_72 rfl rfl ?_
              refine g_getV 11 (C := RX12) (T := TX12) (N := 19) (v := (nI r)) dX12_drawItem_73 (by decide) rfl rfl (by decide) rfl fl_RX12_96 ((zs_up_m (by omega)).trans hr) ?_
              refine g_iastN dX12_drawItem_76 (by decide) rfl (by omega) (by decide) ?_
              refine g_iinc (v := (nI (f + 1))) (lv' := [(1, .int (nI (f + 1))), (2, .int (nI tt)), (0, .ref 80)]) dX12_drawItem_77 rfl (nI_1 f) (by decide) rfl ?_
              refine g_aload_n dX12_drawItem_80 rfl rfl ?_
              refine g_getV 7 (C := RX12) (T := TX12) (N := 19) (v := (nI 0)) dX12_drawItem_81 (by decide) rfl rfl (by decide) rfl fl_RX12_105 ((zs_up_m (by omega)).trans zs_up_q) ?_
              refine g_if_eqN 91 dX12_drawItem_84 (by decide) (by omega) (fun _ => ?_) (fun z => absurd z (by omega))
              refine g_aload_n dX12_drawItem_91 rfl rfl ?_
              refine g_callV (T := TX12) (NN := 19) [] (y_token q (zs_up (zs_up S.1 80 7 (nI 0), S.2).1 81 (3 + f) (nI r), (zs_up S.1 80 7 (nI 0), S.2).2) ((((hS.1.1).up (zs_okR rfl (by omega) (by omega) (by decide) (by decide)))).up (zs_okR (rg_81_3_14 _ (by omega) (by omega)) (by omega) (by omega) (by decide) (by decide))) ((zs_up_m (by omega)).trans ((zs_up_m (by omega)).trans hq)) (by omega)) dX12_drawItem_92 kk_X12_drawItem_X12_token ml_RX12_109 mwX12_token ewX12_token (by decide) rfl rfl rfl rfl (Nat.le_of_ble_eq_true rfl) ?_
              rintro _ S17 ⟨_, rfl, oS17, t18, qS17, lS17, rfl, eS17, kS17, mS17, nS17⟩
              refine g_istore_n (lv' := [(2, .int (nI t18)), (1, .int (nI (f + 1))), (0, .ref 80)]) dX12_drawItem_95 rfl (by decide) rfl ?_
              refine g_goto 7 dX12_drawItem_96 (by decide) ?_
              exact ih (f + 1) (by omega) t18 (by omega) 0 qS17 _ ((((((hS).u7 (by omega))).u81 (zs_okR (rg_81_3_14 _ (by omega) (by omega)) (by omega) (by omega) (by decide) (by decide)))).tT oS17 ((zs_up_m (by omega)).trans ((zs_up_m (by omega)).trans hq)) (by omega) eS17 (by omega) (by omega)) ((oS17.2.2.2 7 (by omega)).trans ((zs_up_m (by omega)).trans zs_up_q)) ((oS17.2.2.2 8 (by omega)).trans ((zs_up_m (by omega)).trans ((zs_up_m (by omega)).trans hdn))) ((oS17.2.2.2 10 (by omega)).trans ((zs_up_m (by omega)).trans ((zs_up_m (by omega)).trans hfr))) eS17 (by omega) (by omega) (by omega)
          · have h13 := zs_b0 h13
            refine g_iconst (v := (nI 1)) dX12_drawItem_43 rfl ?_
            refine g_goto 48 dX12_drawItem_44 (by decide) ?_
            refine g_putI 7 (C := RX12) (T := TX12) (N := 19) (ty := .boolean) dX12_drawItem_48 (by decide) rfl rfl (by decide) rfl fl_RX12_105 rfl (by decide +kernel) ⟨rfl, rfl⟩ ?_
            refine g_aload_n dX12_drawItem_51 rfl rfl ?_
            refine g_getV 8 (C := RX12) (T := TX12) (N := 19) (v := (nI dn)) dX12_drawItem_52 (by decide) rfl rfl (by decide) rfl fl_RX12_118 ((zs_up_m (by omega)).trans hdn) ?_
            refine g_if_eqN 77 dX12_drawItem_55 (by decide) (by omega) (fun h19 => ?_) (fun h19 => ?_)
            · refine g_iinc (v := (nI (f + 1))) (lv' := [(1, .int (nI (f + 1))), (2, .int (nI tt)), (0, .ref 80)]) dX12_drawItem_77 rfl (nI_1 f) (by decide) rfl ?_
              refine g_aload_n dX12_drawItem_80 rfl rfl ?_
              refine g_getV 7 (C := RX12) (T := TX12) (N := 19) (v := (nI 1)) dX12_drawItem_81 (by decide) rfl rfl (by decide) rfl fl_RX12_105 zs_up_q ?_
              refine g_if_eqN 91 dX12_drawItem_84 (by decide) (by omega) (fun z => absurd z (by omega)) (fun _ => ?_)
              refine g_iload_n dX12_drawItem_87 rfl rfl ?_
              refine g_goto 95 dX12_drawItem_88 (by decide) ?_
              refine g_istore_n (lv' := [(2, .int (nI tt)), (1, .int (nI (f + 1))), (0, .ref 80)]) dX12_drawItem_95 rfl (by decide) rfl ?_
              refine g_goto 7 dX12_drawItem_96 (by decide) ?_
              exact ih (f + 1) (by omega) tt (by omega) 1 q _ ((hS).u7 (by omega)) zs_up_q ((zs_up_m (by omega)).trans hdn) ((zs_up_m (by omega)).trans hfr) ((zs_up_m (by omega)).trans hq) (by omega) (by omega) (by omega)
            · refine g_aload_n dX12_drawItem_58 rfl rfl ?_
              refine g_getV 7 (C := RX12) (T := TX12) (N := 19) (v := (nI 1)) dX12_drawItem_59 (by decide) rfl rfl (by decide) rfl fl_RX12_105 zs_up_q ?_
              refine g_if_neN 77 dX12_drawItem_62 (by decide) (by omega) (fun _ => ?_) (fun z => absurd z (by omega))
              refine g_iinc (v := (nI (f + 1))) (lv' := [(1, .int (nI (f + 1))), (2, .int (nI tt)), (0, .ref 80)]) dX12_drawItem_77 rfl (nI_1 f) (by decide) rfl ?_
              refine g_aload_n dX12_drawItem_80 rfl rfl ?_
              refine g_getV 7 (C := RX12) (T := TX12) (N := 19) (v := (nI 1)) dX12_drawItem_81 (by decide) rfl rfl (by decide) rfl fl_RX12_105 zs_up_q ?_
              refine g_if_eqN 91 dX12_drawItem_84 (by decide) (by omega) (fun z => absurd z (by omega)) (fun _ => ?_)
              refine g_iload_n dX12_drawItem_87 rfl rfl ?_
              refine g_goto 95 dX12_drawItem_88 (by decide) ?_
              refine g_istore_n (lv' := [(2, .int (nI tt)), (1, .int (nI (f + 1))), (0, .ref 80)]) dX12_drawItem_95 rfl (by decide) rfl ?_
              refine g_goto 7 dX12_drawItem_96 (by decide) ?_
              exact ih (f + 1) (by omega) tt (by omega) 1 q _ ((hS).u7 (by omega)) zs_up_q ((zs_up_m (by omega)).trans hdn) ((zs_up_m (by omega)).trans hfr) ((zs_up_m (by omega)).trans hq) (by omega) (by omega) (by omega)
set_option maxRecDepth 100000 in
theorem y_drawItem (S : zs_S) (hJ : zs_J S) : zs_Cv MX12_drawItem [.ref 80] S (fun S2 => zs_oR S S2) := by
  obtain ⟨dn, -, hdn1, hdn⟩ := hJ.1 80 8 0 1 rfl
  obtain ⟨w, -, hw1, hw⟩ := hJ.1 80 7 0 1 rfl
  obtain ⟨fr, -, hfr1, hfr⟩ := hJ.1 80 10 0 12 rfl
  obtain ⟨q, -, hq1, hq⟩ := hJ.1 80 5 0 150 rfl
  refine zs_C.of (by decide) (Nat.le_of_ble_eq_true rfl) ?_
  show zs_P MX12_drawItem 0 [(0, .ref 80)] [] S _
  refine g_iconst (v := (nI 0)) dX12_drawItem_0 rfl ?_
  refine g_istore_n (lv' := [(1, .int (nI 0)), (0, .ref 80)]) dX12_drawItem_1 rfl (by decide) rfl ?_
  refine g_aload_n dX12_drawItem_2 rfl rfl ?_
  refine g_callV (T := TX12) (NN := 19) [] (y_token q S hJ hq (by omega)) dX12_drawItem_3 kk_X12_drawItem_X12_token ml_RX12_109 mwX12_token ewX12_token (by decide) rfl rfl rfl rfl (Nat.le_of_ble_eq_true rfl) ?_
  rintro _ S1 ⟨_, rfl, oS1, t2, qS1, lS1, rfl, eS1, kS1, mS1, nS1⟩
  refine g_istore_n (lv' := [(2, .int (nI t2)), (1, .int (nI 0)), (0, .ref 80)]) dX12_drawItem_6 rfl (by decide) rfl ?_
  exact z_draw_l S dn fr (by omega) (by omega) 13 0 (by omega) t2 (by omega) w qS1 _ (((zs_oR.rf hJ)).tT oS1 hq (by omega) eS1 (by omega) (by omega)) ((oS1.2.2.2 7 (by omega)).trans hw) ((oS1.2.2.2 8 (by omega)).trans hdn) ((oS1.2.2.2 10 (by omega)).trans hfr) eS1 (by omega) (by omega) (by omega)
