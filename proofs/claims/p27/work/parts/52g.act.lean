def zs_oF (S0 S : zs_S) : Prop := zs_J S ∧ zs_fm S0 S ∧ S.1 82 = S0.1 82 ∧ S.1 80 = S0.1 80 ∧ S.1 84 = S0.1 84
theorem zs_oF.rf {S : zs_S} (hJ : zs_J S) : zs_oF S S := ⟨hJ, zs_fm.rf, rfl, rfl, rfl⟩
theorem zs_oF.tr {S S1 S2 : zs_S} (h : zs_oF S S1) (k : zs_oF S1 S2) : zs_oF S S2 := ⟨k.1, h.2.1.tr k.2.1, k.2.2.1.trans h.2.2.1, k.2.2.2.1.trans h.2.2.2.1, k.2.2.2.2.trans h.2.2.2.2⟩
theorem y_flashE (s : Nat) (hs : s ≤ 11) (v : Int32) (S : zs_S) (hJ : zs_J S) : zs_Cv MX12_flash [.ref 80, .int (nI 0), .int (nI s), .int v] S (fun S2 => zs_oF S S2) := (y2_X12_flash_0 s (Nat.zero_le _) hs v S hJ).mono (fun _ _ q => ⟨q.1, q.2.1, q.2.2.m, q.2.2.b (by decide), q.2.2.b (by decide), q.2.2.b (by decide)⟩)
def zs_it (S S2 : zs_S) (B : Nat → Nat) (L dn : Nat) (b : Bool) (j fr ev : Nat) : Prop := zs_oY S S2 ∧ zs_mp S2 B L (tp_b b) j ∧ (b = true → S2.1 80 9 = nI ev ∧ S2.1 80 10 = nI fr ∧ (dn ≠ 0 → S2.1 82 2 = nI ev) ∧ S2.1 82 0 = S.1 82 0 ∧ S2.1 82 1 = S.1 82 1)
set_option maxRecDepth 100000 in
theorem z_actE_l (S0 : zs_S) (its : Int64) (dn w r : Nat) (hdn : S0.1 80 8 = nI dn) (hw : S0.1 80 7 = nI w) (h8 : dn ≤ 1) (h9 : w ≤ 1) (h7 : r ≤ 99) : ∀ (d i : Nat), i + d = r → ∀ S, zs_oF S0 S → zs_P MX12_act 116 [(4, .int (nI i)), (3, .int (nI r)), (0, .ref 80), (1, .long its)] [] S (fun v S2 => v = none ∧ zs_oF S0 S2) := by
  intro d
  induction d with
  | zero =>
    intro i hi S hS
    refine g_iload dX12_act_116 rfl ?_
    refine g_iload_n dX12_act_118 rfl rfl ?_
    refine g_ic_geN 154 dX12_act_119 (by decide) (by omega) (by omega) (fun _ => ?_) (fun z => absurd z (by omega))
    refine g_goto 162 dX12_act_154 (by decide) ?_
    refine g_ret dX12_act_162 rfl ?_
    exact ⟨rfl, hS⟩
  | succ d ih =>
    intro i hi S hS
    obtain ⟨st, -, hst1, hst⟩ := hS.1.1 81 2 0 11 rfl
    refine g_iload dX12_act_116 rfl ?_
    refine g_iload_n dX12_act_118 rfl rfl ?_
    refine g_ic_geN 154 dX12_act_119 (by decide) (by omega) (by omega) (fun h1 => ?_) (fun h1 => ?_)
    · refine g_goto 162 dX12_act_154 (by decide) ?_
      refine g_ret dX12_act_162 rfl ?_
      exact ⟨rfl, hS⟩
    · refine g_aload_n dX12_act_122 rfl rfl ?_
      refine g_getV 8 (C := RX12) (T := TX12) (N := 19) (v := (nI dn)) dX12_act_123 (by decide) rfl rfl (by decide) rfl fl_RX12_118 ((congrFun hS.2.2.2.1 8).trans hdn) ?_
      refine g_if_eqN 154 dX12_act_126 (by decide) (by omega) (fun h2 => ?_) (fun h2 => ?_)
      · refine g_goto 162 dX12_act_154 (by decide) ?_
        refine g_ret dX12_act_162 rfl ?_
        exact ⟨rfl, hS⟩
      · refine g_aload_n dX12_act_129 rfl rfl ?_
        refine g_getV 7 (C := RX12) (T := TX12) (N := 19) (v := (nI w)) dX12_act_130 (by decide) rfl rfl (by decide) rfl fl_RX12_105 ((congrFun hS.2.2.2.1 7).trans hw) ?_
        refine g_if_neN 154 dX12_act_133 (by decide) (by omega) (fun h3 => ?_) (fun h3 => ?_)
        · refine g_goto 162 dX12_act_154 (by decide) ?_
          refine g_ret dX12_act_162 rfl ?_
          exact ⟨rfl, hS⟩
        · refine g_aload_n dX12_act_136 rfl rfl ?_
          refine g_iconst (v := (nI 0)) dX12_act_137 rfl ?_
          refine g_aload_n dX12_act_138 rfl rfl ?_
          refine g_getR 0 (81) (C := RX12) (T := TX12) (N := 19) dX12_act_139 (by decide) rfl rfl (by decide) rfl fl_RX12_7 ?_
          refine g_iconst (v := (nI 2)) dX12_act_142 rfl ?_
          refine g_ialdN (v := (nI st)) dX12_act_143 (by decide) rfl (by omega) (by decide) hst ?_
          refine g_iconst (v := (nI 1)) dX12_act_144 rfl ?_
          refine g_callV (T := TX12) (NN := 19) [] (y_flashE st (by omega) (nI 1) S hS.1) dX12_act_145 kk_X12_act_X12_flash ml_RX12_132 mwX12_flash ewX12_flash (by decide) rfl rfl rfl rfl (Nat.le_of_ble_eq_true rfl) ?_
          rintro _ S4 ⟨rfl, oS4⟩
          refine g_iinc (v := (nI (i + 1))) (lv' := [(4, .int (nI (i + 1))), (3, .int (nI r)), (0, .ref 80), (1, .long its)]) dX12_act_148 rfl (nI_1 i) (by decide) rfl ?_
          refine g_goto 116 dX12_act_151 (by decide) ?_
          exact ih (i + 1) (by omega) _ (hS.tr oS4)
set_option maxRecDepth 100000 in
theorem y_actE6T (B : Nat → Nat) (L : Nat) (S : zs_S) (hT : zs_tm S B L) (hJ : zs_J S) (its : Int64) (j dn ev fr : Nat) (hdn1 : dn ≤ 1) (hdn : S.1 80 8 = nI dn) (hev1 : ev ≤ 4) (hev : S.1 80 9 = nI ev) (hfr1 : fr ≤ 12) (hfr : S.1 80 10 = nI fr) (hC : dn ≠ 0 → S.1 82 2 = nI ev) (hmp : zs_mp S B L 0 j) (h6 : lg_cmp its 5925 = 0) (ht : tp_tn (tx_k B L) (tx_v B L) j 0 5 = true) : zs_Cv MX12_act [.ref 80, .long its] S (fun S2 => zs_it S S2 B L dn true (j + 1) fr (ev + 1)) := by
  obtain ⟨st, -, hst1, hst⟩ := hJ.1 81 2 0 11 rfl
  refine zs_C.of (by decide) (Nat.le_of_ble_eq_true rfl) ?_
  show zs_P MX12_act 0 [(0, .ref 80), (1, .long its)] [] S _
  refine g_lload_n dX12_act_0 rfl rfl ?_
  refine g_ldc2 (v := 5925) dX12_act_1 cl_RX12_123 ?_
  refine g_lcmp dX12_act_4 ?_
  refine g_if_ne 48 dX12_act_5 (by decide) (fun z => absurd h6 z) (fun _ => ?_)
  refine g_aload_n dX12_act_8 rfl rfl ?_
  refine g_dup dX12_act_9 rfl ?_
  refine g_getV 9 (C := RX12) (T := TX12) (N := 19) (v := (nI ev)) dX12_act_10 (by decide) rfl rfl (by decide) rfl fl_RX12_125 hev ?_
  refine g_iconst (v := (nI 1)) dX12_act_13 rfl ?_
  refine g_iaddN dX12_act_14 ?_
  refine g_putI 9 (C := RX12) (T := TX12) (N := 19) (ty := .int) dX12_act_15 (by decide) rfl rfl (by decide) rfl fl_RX12_125 rfl (by decide +kernel) ⟨rfl, rfl⟩ ?_
  refine g_aload_n dX12_act_18 rfl rfl ?_
  refine g_iconst (v := (nI 0)) dX12_act_19 rfl ?_
  refine g_iconst (v := (nI 5)) dX12_act_20 rfl ?_
  refine g_callV (T := TX12) (NN := 19) [] (y_wantsT B L (zs_up S.1 80 9 (nI (ev + 1)), S.2) (((((zs_oY.rf hJ)).up (zs_okR rfl (by omega) (by omega) (by decide) (by decide)) rfl (by decide) (by omega) (by omega) (by decide))).y hT) ((hJ).up (zs_okR rfl (by omega) (by omega) (by decide) (by decide))) j 0 5 (by omega) (by omega) ⟨((zs_up_m (by omega)).trans hmp.1), ((zs_up_m (by omega)).trans hmp.2.1), ((zs_up_m (by omega)).trans hmp.2.2)⟩ ht) dX12_act_21 kk_X12_act_X12_wants ml_RX12_112 mwX12_wants ewX12_wants (by decide) rfl rfl rfl rfl (Nat.le_of_ble_eq_true rfl) ?_
  rintro _ S1 ⟨_, rfl, oS1, pS1, rfl⟩
  have vS1 : _ ∧ 0 ≤ tx_v B L (j + 1) ∧ tx_v B L (j + 1) ≤ 5 := tp_tn1 ht
  refine g_istore_n (lv' := [(3, .int (nI (tx_v B L (j + 1)))), (0, .ref 80), (1, .long its)]) dX12_act_24 rfl (by decide) rfl ?_
  refine g_aload_n dX12_act_25 rfl rfl ?_
  refine g_getV 8 (C := RX12) (T := TX12) (N := 19) (v := (nI dn)) dX12_act_26 (by decide) rfl rfl (by decide) rfl fl_RX12_118 ((oS1.2.2.2 8 (by omega)).trans ((zs_up_m (by omega)).trans hdn)) ?_
  refine g_if_eqN 45 dX12_act_29 (by decide) (by omega) (fun h2 => ?_) (fun h2 => ?_)
  · refine g_goto 162 dX12_act_45 (by decide) ?_
    refine g_ret dX12_act_162 rfl ?_
    exact ⟨rfl, (((((zs_oY.rf hJ)).up (zs_okR rfl (by omega) (by omega) (by decide) (by decide)) rfl (by decide) (by omega) (by omega) (by decide))).tr oS1.g), ⟨pS1.1, pS1.2.1, pS1.2.2⟩, fun _ => ⟨((oS1.2.2.2 9 (by omega)).trans zs_up_q), ((oS1.2.2.2 10 (by omega)).trans ((zs_up_m (by omega)).trans hfr)), fun z => absurd z (by omega), ((congrFun (oS1.2.2.1 82 (by decide)) 0).trans ((zs_up_m (by omega)).trans rfl)), ((congrFun (oS1.2.2.1 82 (by decide)) 1).trans ((zs_up_m (by omega)).trans rfl))⟩⟩
  · refine g_aload_n dX12_act_32 rfl rfl ?_
    refine g_getV 7 (C := RX12) (T := TX12) (N := 19) (v := (nI 0)) dX12_act_33 (by decide) rfl rfl (by decide) rfl fl_RX12_105 pS1.1 ?_
    refine g_if_neN 45 dX12_act_36 (by decide) (by omega) (fun z => absurd z (by omega)) (fun _ => ?_)
    refine g_aload_n dX12_act_39 rfl rfl ?_
    refine g_iload_n dX12_act_40 rfl rfl ?_
    refine g_callV (T := TX12) (NN := 19) [] (y_comesE (nI (tx_v B L (j + 1))) ev (by omega) S1 oS1.1 (by have := hC (by omega); exact (congrFun (oS1.2.2.1 82 (by decide)) 2).trans ((zs_up_m (by omega)).trans this))) dX12_act_41 kk_X12_act_X12_comes ml_RX12_69 mwX12_comes ewX12_comes (by decide) rfl rfl rfl rfl (Nat.le_of_ble_eq_true rfl) ?_
    rintro _ S3 ⟨_, rfl, rfl, bS3⟩
    refine g_pop dX12_act_44 rfl ?_
    refine g_goto 162 dX12_act_45 (by decide) ?_
    refine g_ret dX12_act_162 rfl ?_
    exact ⟨rfl, (((((((zs_oY.rf hJ)).up (zs_okR rfl (by omega) (by omega) (by decide) (by decide)) rfl (by decide) (by omega) (by omega) (by decide))).tr oS1.g)).o bS3.1 bS3.2.1 bS3.2.2.2.1 bS3.2.2.2.2.1 (fun z => absurd ((nI_eq (by omega) (by omega)).mp (Eq.trans (Eq.symm ((oS1.2.2.2 8 (by omega)).trans ((zs_up_m (by omega)).trans hdn))) z)) (by omega)) (fun z => ⟨(bS3.2.2.2.2.2.2.2 8 (by omega) (by omega)).trans z.1, (bS3.2.2.2.2.2.2.2 21 (by omega) (by omega)).trans z.2.1, (bS3.2.2.2.2.2.2.2 46 (by omega) (by omega)).trans z.2.2⟩) (fun i hi => bS3.2.2.2.2.2.2.2 i (by omega) (by omega))), ⟨((congrFun bS3.2.2.2.1 7).trans pS1.1), ((congrFun bS3.2.2.2.1 5).trans pS1.2.1), ((congrFun bS3.2.2.2.1 6).trans pS1.2.2)⟩, fun _ => ⟨((congrFun bS3.2.2.2.1 9).trans ((oS1.2.2.2 9 (by omega)).trans zs_up_q)), ((congrFun bS3.2.2.2.1 10).trans ((oS1.2.2.2 10 (by omega)).trans ((zs_up_m (by omega)).trans hfr))), fun _ => bS3.2.2.1, (bS3.2.2.2.2.2.1.trans ((congrFun (oS1.2.2.1 82 (by decide)) 0).trans ((zs_up_m (by omega)).trans rfl))), (bS3.2.2.2.2.2.2.1.trans ((congrFun (oS1.2.2.1 82 (by decide)) 1).trans ((zs_up_m (by omega)).trans rfl)))⟩⟩
set_option maxRecDepth 100000 in
theorem y_actE6F (B : Nat → Nat) (L : Nat) (S : zs_S) (hT : zs_tm S B L) (hJ : zs_J S) (its : Int64) (j dn ev fr : Nat) (hdn1 : dn ≤ 1) (hdn : S.1 80 8 = nI dn) (hev1 : ev ≤ 4) (hev : S.1 80 9 = nI ev) (hfr1 : fr ≤ 12) (hfr : S.1 80 10 = nI fr) (hC : dn ≠ 0 → S.1 82 2 = nI ev) (hmp : zs_mp S B L 0 j) (h6 : lg_cmp its 5925 = 0) (ht : ¬ tp_tn (tx_k B L) (tx_v B L) j 0 5 = true) : zs_Cv MX12_act [.ref 80, .long its] S (fun S2 => zs_it S S2 B L dn false (j + 1) fr ev) := by
  obtain ⟨st, -, hst1, hst⟩ := hJ.1 81 2 0 11 rfl
  refine zs_C.of (by decide) (Nat.le_of_ble_eq_true rfl) ?_
  show zs_P MX12_act 0 [(0, .ref 80), (1, .long its)] [] S _
  refine g_lload_n dX12_act_0 rfl rfl ?_
  refine g_ldc2 (v := 5925) dX12_act_1 cl_RX12_123 ?_
  refine g_lcmp dX12_act_4 ?_
  refine g_if_ne 48 dX12_act_5 (by decide) (fun z => absurd h6 z) (fun _ => ?_)
  refine g_aload_n dX12_act_8 rfl rfl ?_
  refine g_dup dX12_act_9 rfl ?_
  refine g_getV 9 (C := RX12) (T := TX12) (N := 19) (v := (nI ev)) dX12_act_10 (by decide) rfl rfl (by decide) rfl fl_RX12_125 hev ?_
  refine g_iconst (v := (nI 1)) dX12_act_13 rfl ?_
  refine g_iaddN dX12_act_14 ?_
  refine g_putI 9 (C := RX12) (T := TX12) (N := 19) (ty := .int) dX12_act_15 (by decide) rfl rfl (by decide) rfl fl_RX12_125 rfl (by decide +kernel) ⟨rfl, rfl⟩ ?_
  refine g_aload_n dX12_act_18 rfl rfl ?_
  refine g_iconst (v := (nI 0)) dX12_act_19 rfl ?_
  refine g_iconst (v := (nI 5)) dX12_act_20 rfl ?_
  refine g_callV (T := TX12) (NN := 19) [] (y_wantsF B L (zs_up S.1 80 9 (nI (ev + 1)), S.2) (((((zs_oY.rf hJ)).up (zs_okR rfl (by omega) (by omega) (by decide) (by decide)) rfl (by decide) (by omega) (by omega) (by decide))).y hT) ((hJ).up (zs_okR rfl (by omega) (by omega) (by decide) (by decide))) j 0 5 (by omega) (by omega) ⟨((zs_up_m (by omega)).trans hmp.1), ((zs_up_m (by omega)).trans hmp.2.1), ((zs_up_m (by omega)).trans hmp.2.2)⟩ ht) dX12_act_21 kk_X12_act_X12_wants ml_RX12_112 mwX12_wants ewX12_wants (by decide) rfl rfl rfl rfl (Nat.le_of_ble_eq_true rfl) ?_
  rintro _ S1 ⟨_, rfl, oS1, pS1, rfl⟩
  refine g_istore_n (lv' := [(3, .int (nI 0)), (0, .ref 80), (1, .long its)]) dX12_act_24 rfl (by decide) rfl ?_
  refine g_aload_n dX12_act_25 rfl rfl ?_
  refine g_getV 8 (C := RX12) (T := TX12) (N := 19) (v := (nI dn)) dX12_act_26 (by decide) rfl rfl (by decide) rfl fl_RX12_118 ((oS1.2.2.2 8 (by omega)).trans ((zs_up_m (by omega)).trans hdn)) ?_
  refine g_if_eqN 45 dX12_act_29 (by decide) (by omega) (fun h2 => ?_) (fun h2 => ?_)
  · refine g_goto 162 dX12_act_45 (by decide) ?_
    refine g_ret dX12_act_162 rfl ?_
    exact ⟨rfl, (((((zs_oY.rf hJ)).up (zs_okR rfl (by omega) (by omega) (by decide) (by decide)) rfl (by decide) (by omega) (by omega) (by decide))).tr oS1.g), ⟨pS1.1, pS1.2.1, pS1.2.2⟩, fun z => absurd z (by decide)⟩
  · refine g_aload_n dX12_act_32 rfl rfl ?_
    refine g_getV 7 (C := RX12) (T := TX12) (N := 19) (v := (nI 1)) dX12_act_33 (by decide) rfl rfl (by decide) rfl fl_RX12_105 pS1.1 ?_
    refine g_if_neN 45 dX12_act_36 (by decide) (by omega) (fun _ => ?_) (fun z => absurd z (by omega))
    refine g_goto 162 dX12_act_45 (by decide) ?_
    refine g_ret dX12_act_162 rfl ?_
    exact ⟨rfl, (((((zs_oY.rf hJ)).up (zs_okR rfl (by omega) (by omega) (by decide) (by decide)) rfl (by decide) (by omega) (by omega) (by decide))).tr oS1.g), ⟨pS1.1, pS1.2.1, pS1.2.2⟩, fun z => absurd z (by decide)⟩
set_option maxRecDepth 100000 in
theorem y_actE7T (B : Nat → Nat) (L : Nat) (S : zs_S) (hT : zs_tm S B L) (hJ : zs_J S) (its : Int64) (j dn ev fr : Nat) (hdn1 : dn ≤ 1) (hdn : S.1 80 8 = nI dn) (hev1 : ev ≤ 5) (hev : S.1 80 9 = nI ev) (hfr1 : fr ≤ 12) (hfr : S.1 80 10 = nI fr) (hC : dn ≠ 0 → S.1 82 2 = nI ev) (hmp : zs_mp S B L 0 j) (h6 : ¬ lg_cmp its 5925 = 0) (h7 : lg_cmp its 643248 = 0) (ht : tp_tn (tx_k B L) (tx_v B L) j 0 11 = true) : zs_Cv MX12_act [.ref 80, .long its] S (fun S2 => zs_it S S2 B L dn true (j + 1) fr ev) := by
  obtain ⟨st, -, hst1, hst⟩ := hJ.1 81 2 0 11 rfl
  refine zs_C.of (by decide) (Nat.le_of_ble_eq_true rfl) ?_
  show zs_P MX12_act 0 [(0, .ref 80), (1, .long its)] [] S _
  refine g_lload_n dX12_act_0 rfl rfl ?_
  refine g_ldc2 (v := 5925) dX12_act_1 cl_RX12_123 ?_
  refine g_lcmp dX12_act_4 ?_
  refine g_if_ne 48 dX12_act_5 (by decide) (fun _ => ?_) (fun z => absurd z h6)
  refine g_lload_n dX12_act_48 rfl rfl ?_
  refine g_ldc2 (v := 643248) dX12_act_49 cl_RX12_128 ?_
  refine g_lcmp dX12_act_52 ?_
  refine g_if_ne 97 dX12_act_53 (by decide) (fun z => absurd h7 z) (fun _ => ?_)
  refine g_aload_n dX12_act_56 rfl rfl ?_
  refine g_iconst (v := (nI 0)) dX12_act_57 rfl ?_
  refine g_bipush (v := (nI 11)) dX12_act_58 rfl ?_
  refine g_callV (T := TX12) (NN := 19) [] (y_wantsT B L S (((zs_oY.rf hJ)).y hT) hJ j 0 11 (by omega) (by omega) ⟨hmp.1, hmp.2.1, hmp.2.2⟩ ht) dX12_act_60 kk_X12_act_X12_wants ml_RX12_112 mwX12_wants ewX12_wants (by decide) rfl rfl rfl rfl (Nat.le_of_ble_eq_true rfl) ?_
  rintro _ S1 ⟨_, rfl, oS1, pS1, rfl⟩
  have vS1 : _ ∧ 0 ≤ tx_v B L (j + 1) ∧ tx_v B L (j + 1) ≤ 11 := tp_tn1 ht
  refine g_istore_n (lv' := [(3, .int (nI (tx_v B L (j + 1)))), (0, .ref 80), (1, .long its)]) dX12_act_63 rfl (by decide) rfl ?_
  obtain ⟨st2, -, hst21, hst2⟩ := (oS1.1).1 81 2 0 11 rfl
  refine g_aload_n dX12_act_64 rfl rfl ?_
  refine g_getR 0 (81) (C := RX12) (T := TX12) (N := 19) dX12_act_65 (by decide) rfl rfl (by decide) rfl fl_RX12_7 ?_
  refine g_iconst (v := (nI 2)) dX12_act_68 rfl ?_
  refine g_aload_n dX12_act_69 rfl rfl ?_
  refine g_getV 8 (C := RX12) (T := TX12) (N := 19) (v := (nI dn)) dX12_act_70 (by decide) rfl rfl (by decide) rfl fl_RX12_118 ((oS1.2.2.2 8 (by omega)).trans hdn) ?_
  refine g_if_eqN 87 dX12_act_73 (by decide) (by omega) (fun h2 => ?_) (fun h2 => ?_)
  · refine g_aload_n dX12_act_87 rfl rfl ?_
    refine g_getR 0 (81) (C := RX12) (T := TX12) (N := 19) dX12_act_88 (by decide) rfl rfl (by decide) rfl fl_RX12_7 ?_
    refine g_iconst (v := (nI 2)) dX12_act_91 rfl ?_
    refine g_ialdN (v := (nI st2)) dX12_act_92 (by decide) rfl (by omega) (by decide) hst2 ?_
    refine g_iastN dX12_act_93 (by decide) rfl (by omega) (by decide) ?_
    refine g_goto 162 dX12_act_94 (by decide) ?_
    refine g_ret dX12_act_162 rfl ?_
    exact ⟨rfl, (((((zs_oY.rf hJ)).tr oS1.g)).up (zs_okR rfl (by omega) (by omega) (by decide) (by decide)) rfl (by decide) (by omega) (by omega) (by decide)), ⟨((zs_up_m (by omega)).trans pS1.1), ((zs_up_m (by omega)).trans pS1.2.1), ((zs_up_m (by omega)).trans pS1.2.2)⟩, fun _ => ⟨((zs_up_m (by omega)).trans ((oS1.2.2.2 9 (by omega)).trans hev)), ((zs_up_m (by omega)).trans ((oS1.2.2.2 10 (by omega)).trans hfr)), fun z9 => ((zs_up_m (by omega)).trans ((congrFun (oS1.2.2.1 82 (by decide)) 2).trans (hC z9))), ((zs_up_m (by omega)).trans ((congrFun (oS1.2.2.1 82 (by decide)) 0).trans rfl)), ((zs_up_m (by omega)).trans ((congrFun (oS1.2.2.1 82 (by decide)) 1).trans rfl))⟩⟩
  · refine g_aload_n dX12_act_76 rfl rfl ?_
    refine g_getV 7 (C := RX12) (T := TX12) (N := 19) (v := (nI 0)) dX12_act_77 (by decide) rfl rfl (by decide) rfl fl_RX12_105 pS1.1 ?_
    refine g_if_neN 87 dX12_act_80 (by decide) (by omega) (fun z => absurd z (by omega)) (fun _ => ?_)
    refine g_iload_n dX12_act_83 rfl rfl ?_
    refine g_goto 93 dX12_act_84 (by decide) ?_
    refine g_iastN dX12_act_93 (by decide) rfl (by omega) (by decide) ?_
    refine g_goto 162 dX12_act_94 (by decide) ?_
    refine g_ret dX12_act_162 rfl ?_
    exact ⟨rfl, (((((zs_oY.rf hJ)).tr oS1.g)).up (zs_okR rfl (by omega) (by omega) (by decide) (by decide)) rfl (by decide) (by omega) (by omega) (by decide)), ⟨((zs_up_m (by omega)).trans pS1.1), ((zs_up_m (by omega)).trans pS1.2.1), ((zs_up_m (by omega)).trans pS1.2.2)⟩, fun _ => ⟨((zs_up_m (by omega)).trans ((oS1.2.2.2 9 (by omega)).trans hev)), ((zs_up_m (by omega)).trans ((oS1.2.2.2 10 (by omega)).trans hfr)), fun z9 => ((zs_up_m (by omega)).trans ((congrFun (oS1.2.2.1 82 (by decide)) 2).trans (hC z9))), ((zs_up_m (by omega)).trans ((congrFun (oS1.2.2.1 82 (by decide)) 0).trans rfl)), ((zs_up_m (by omega)).trans ((congrFun (oS1.2.2.1 82 (by decide)) 1).trans rfl))⟩⟩
set_option maxRecDepth 100000 in
theorem y_actE7F (B : Nat → Nat) (L : Nat) (S : zs_S) (hT : zs_tm S B L) (hJ : zs_J S) (its : Int64) (j dn ev fr : Nat) (hdn1 : dn ≤ 1) (hdn : S.1 80 8 = nI dn) (hev1 : ev ≤ 5) (hev : S.1 80 9 = nI ev) (hfr1 : fr ≤ 12) (hfr : S.1 80 10 = nI fr) (hC : dn ≠ 0 → S.1 82 2 = nI ev) (hmp : zs_mp S B L 0 j) (h6 : ¬ lg_cmp its 5925 = 0) (h7 : lg_cmp its 643248 = 0) (ht : ¬ tp_tn (tx_k B L) (tx_v B L) j 0 11 = true) : zs_Cv MX12_act [.ref 80, .long its] S (fun S2 => zs_it S S2 B L dn false (j + 1) fr ev) := by
  obtain ⟨st, -, hst1, hst⟩ := hJ.1 81 2 0 11 rfl
  refine zs_C.of (by decide) (Nat.le_of_ble_eq_true rfl) ?_
  show zs_P MX12_act 0 [(0, .ref 80), (1, .long its)] [] S _
  refine g_lload_n dX12_act_0 rfl rfl ?_
  refine g_ldc2 (v := 5925) dX12_act_1 cl_RX12_123 ?_
  refine g_lcmp dX12_act_4 ?_
  refine g_if_ne 48 dX12_act_5 (by decide) (fun _ => ?_) (fun z => absurd z h6)
  refine g_lload_n dX12_act_48 rfl rfl ?_
  refine g_ldc2 (v := 643248) dX12_act_49 cl_RX12_128 ?_
  refine g_lcmp dX12_act_52 ?_
  refine g_if_ne 97 dX12_act_53 (by decide) (fun z => absurd h7 z) (fun _ => ?_)
  refine g_aload_n dX12_act_56 rfl rfl ?_
  refine g_iconst (v := (nI 0)) dX12_act_57 rfl ?_
  refine g_bipush (v := (nI 11)) dX12_act_58 rfl ?_
  refine g_callV (T := TX12) (NN := 19) [] (y_wantsF B L S (((zs_oY.rf hJ)).y hT) hJ j 0 11 (by omega) (by omega) ⟨hmp.1, hmp.2.1, hmp.2.2⟩ ht) dX12_act_60 kk_X12_act_X12_wants ml_RX12_112 mwX12_wants ewX12_wants (by decide) rfl rfl rfl rfl (Nat.le_of_ble_eq_true rfl) ?_
  rintro _ S1 ⟨_, rfl, oS1, pS1, rfl⟩
  refine g_istore_n (lv' := [(3, .int (nI 0)), (0, .ref 80), (1, .long its)]) dX12_act_63 rfl (by decide) rfl ?_
  obtain ⟨st2, -, hst21, hst2⟩ := (oS1.1).1 81 2 0 11 rfl
  refine g_aload_n dX12_act_64 rfl rfl ?_
  refine g_getR 0 (81) (C := RX12) (T := TX12) (N := 19) dX12_act_65 (by decide) rfl rfl (by decide) rfl fl_RX12_7 ?_
  refine g_iconst (v := (nI 2)) dX12_act_68 rfl ?_
  refine g_aload_n dX12_act_69 rfl rfl ?_
  refine g_getV 8 (C := RX12) (T := TX12) (N := 19) (v := (nI dn)) dX12_act_70 (by decide) rfl rfl (by decide) rfl fl_RX12_118 ((oS1.2.2.2 8 (by omega)).trans hdn) ?_
  refine g_if_eqN 87 dX12_act_73 (by decide) (by omega) (fun h2 => ?_) (fun h2 => ?_)
  · refine g_aload_n dX12_act_87 rfl rfl ?_
    refine g_getR 0 (81) (C := RX12) (T := TX12) (N := 19) dX12_act_88 (by decide) rfl rfl (by decide) rfl fl_RX12_7 ?_
    refine g_iconst (v := (nI 2)) dX12_act_91 rfl ?_
    refine g_ialdN (v := (nI st2)) dX12_act_92 (by decide) rfl (by omega) (by decide) hst2 ?_
    refine g_iastN dX12_act_93 (by decide) rfl (by omega) (by decide) ?_
    refine g_goto 162 dX12_act_94 (by decide) ?_
    refine g_ret dX12_act_162 rfl ?_
    exact ⟨rfl, (((((zs_oY.rf hJ)).tr oS1.g)).up (zs_okR rfl (by omega) (by omega) (by decide) (by decide)) rfl (by decide) (by omega) (by omega) (by decide)), ⟨((zs_up_m (by omega)).trans pS1.1), ((zs_up_m (by omega)).trans pS1.2.1), ((zs_up_m (by omega)).trans pS1.2.2)⟩, fun z => absurd z (by decide)⟩
  · refine g_aload_n dX12_act_76 rfl rfl ?_
    refine g_getV 7 (C := RX12) (T := TX12) (N := 19) (v := (nI 1)) dX12_act_77 (by decide) rfl rfl (by decide) rfl fl_RX12_105 pS1.1 ?_
    refine g_if_neN 87 dX12_act_80 (by decide) (by omega) (fun _ => ?_) (fun z => absurd z (by omega))
    refine g_aload_n dX12_act_87 rfl rfl ?_
    refine g_getR 0 (81) (C := RX12) (T := TX12) (N := 19) dX12_act_88 (by decide) rfl rfl (by decide) rfl fl_RX12_7 ?_
    refine g_iconst (v := (nI 2)) dX12_act_91 rfl ?_
    refine g_ialdN (v := (nI st2)) dX12_act_92 (by decide) rfl (by omega) (by decide) hst2 ?_
    refine g_iastN dX12_act_93 (by decide) rfl (by omega) (by decide) ?_
    refine g_goto 162 dX12_act_94 (by decide) ?_
    refine g_ret dX12_act_162 rfl ?_
    exact ⟨rfl, (((((zs_oY.rf hJ)).tr oS1.g)).up (zs_okR rfl (by omega) (by omega) (by decide) (by decide)) rfl (by decide) (by omega) (by omega) (by decide)), ⟨((zs_up_m (by omega)).trans pS1.1), ((zs_up_m (by omega)).trans pS1.2.1), ((zs_up_m (by omega)).trans pS1.2.2)⟩, fun z => absurd z (by decide)⟩
set_option maxRecDepth 100000 in
theorem y_actE8T (B : Nat → Nat) (L : Nat) (S : zs_S) (hT : zs_tm S B L) (hJ : zs_J S) (its : Int64) (j dn ev fr : Nat) (hdn1 : dn ≤ 1) (hdn : S.1 80 8 = nI dn) (hev1 : ev ≤ 5) (hev : S.1 80 9 = nI ev) (hfr1 : fr ≤ 12) (hfr : S.1 80 10 = nI fr) (hC : dn ≠ 0 → S.1 82 2 = nI ev) (hmp : zs_mp S B L 0 j) (h6 : ¬ lg_cmp its 5925 = 0) (h7 : ¬ lg_cmp its 643248 = 0) (h8 : lg_cmp its 677454 = 0) (ht : tp_tn (tx_k B L) (tx_v B L) j 1 99 = true) : zs_Cv MX12_act [.ref 80, .long its] S (fun S2 => zs_it S S2 B L dn true (j + 1) fr ev) := by
  obtain ⟨st, -, hst1, hst⟩ := hJ.1 81 2 0 11 rfl
  refine zs_C.of (by decide) (Nat.le_of_ble_eq_true rfl) ?_
  show zs_P MX12_act 0 [(0, .ref 80), (1, .long its)] [] S _
  refine g_lload_n dX12_act_0 rfl rfl ?_
  refine g_ldc2 (v := 5925) dX12_act_1 cl_RX12_123 ?_
  refine g_lcmp dX12_act_4 ?_
  refine g_if_ne 48 dX12_act_5 (by decide) (fun _ => ?_) (fun z => absurd z h6)
  refine g_lload_n dX12_act_48 rfl rfl ?_
  refine g_ldc2 (v := 643248) dX12_act_49 cl_RX12_128 ?_
  refine g_lcmp dX12_act_52 ?_
  refine g_if_ne 97 dX12_act_53 (by decide) (fun _ => ?_) (fun z => absurd z h7)
  refine g_lload_n dX12_act_97 rfl rfl ?_
  refine g_ldc2 (v := 677454) dX12_act_98 cl_RX12_130 ?_
  refine g_lcmp dX12_act_101 ?_
  refine g_if_ne 157 dX12_act_102 (by decide) (fun z => absurd h8 z) (fun _ => ?_)
  refine g_aload_n dX12_act_105 rfl rfl ?_
  refine g_iconst (v := (nI 1)) dX12_act_106 rfl ?_
  refine g_bipush (v := (nI 99)) dX12_act_107 rfl ?_
  refine g_callV (T := TX12) (NN := 19) [] (y_wantsT B L S (((zs_oY.rf hJ)).y hT) hJ j 1 99 (by omega) (by omega) ⟨hmp.1, hmp.2.1, hmp.2.2⟩ ht) dX12_act_109 kk_X12_act_X12_wants ml_RX12_112 mwX12_wants ewX12_wants (by decide) rfl rfl rfl rfl (Nat.le_of_ble_eq_true rfl) ?_
  rintro _ S1 ⟨_, rfl, oS1, pS1, rfl⟩
  have vS1 : _ ∧ 1 ≤ tx_v B L (j + 1) ∧ tx_v B L (j + 1) ≤ 99 := tp_tn1 ht
  refine g_istore_n (lv' := [(3, .int (nI (tx_v B L (j + 1)))), (0, .ref 80), (1, .long its)]) dX12_act_112 rfl (by decide) rfl ?_
  refine g_iconst (v := (nI 0)) dX12_act_113 rfl ?_
  refine g_istore (lv' := [(4, .int (nI 0)), (3, .int (nI (tx_v B L (j + 1)))), (0, .ref 80), (1, .long its)]) dX12_act_114 (by decide) rfl ?_
  refine ((z_actE_l S1 its dn 0 (tx_v B L (j + 1)) ((oS1.2.2.2 8 (by omega)).trans hdn) pS1.1 (by omega) (by omega) (by omega) (tx_v B L (j + 1)) 0 (by omega) _ (zs_oF.rf oS1.1)).lv (zs_mc 0 rfl (zs_mc 1 rfl (zs_mc 2 rfl (zs_mc 3 rfl zs_mn))))).mono (fun _ _ z => ⟨z.1, ((((zs_oY.rf hJ)).tr oS1.g)).o z.2.1 z.2.2.1 z.2.2.2.2.1 z.2.2.2.2.2 (fun _ => z.2.2.2.1) (fun y => (show zs_zm _ by unfold zs_zm; rw [z.2.2.2.1]; exact y)) (fun i _ => congrFun z.2.2.2.1 i), ⟨((congrFun z.2.2.2.2.1 7).trans pS1.1), ((congrFun z.2.2.2.2.1 5).trans pS1.2.1), ((congrFun z.2.2.2.2.1 6).trans pS1.2.2)⟩, fun _ => ⟨((congrFun z.2.2.2.2.1 9).trans ((oS1.2.2.2 9 (by omega)).trans hev)), ((congrFun z.2.2.2.2.1 10).trans ((oS1.2.2.2 10 (by omega)).trans hfr)), fun z9 => (congrFun z.2.2.2.1 2).trans ((congrFun (oS1.2.2.1 82 (by decide)) 2).trans (hC z9)), (congrFun z.2.2.2.1 0).trans ((congrFun (oS1.2.2.1 82 (by decide)) 0).trans rfl), (congrFun z.2.2.2.1 1).trans ((congrFun (oS1.2.2.1 82 (by decide)) 1).trans rfl)⟩⟩)
set_option maxRecDepth 100000 in
theorem y_actE8F (B : Nat → Nat) (L : Nat) (S : zs_S) (hT : zs_tm S B L) (hJ : zs_J S) (its : Int64) (j dn ev fr : Nat) (hdn1 : dn ≤ 1) (hdn : S.1 80 8 = nI dn) (hev1 : ev ≤ 5) (hev : S.1 80 9 = nI ev) (hfr1 : fr ≤ 12) (hfr : S.1 80 10 = nI fr) (hC : dn ≠ 0 → S.1 82 2 = nI ev) (hmp : zs_mp S B L 0 j) (h6 : ¬ lg_cmp its 5925 = 0) (h7 : ¬ lg_cmp its 643248 = 0) (h8 : lg_cmp its 677454 = 0) (ht : ¬ tp_tn (tx_k B L) (tx_v B L) j 1 99 = true) : zs_Cv MX12_act [.ref 80, .long its] S (fun S2 => zs_it S S2 B L dn false (j + 1) fr ev) := by
  obtain ⟨st, -, hst1, hst⟩ := hJ.1 81 2 0 11 rfl
  refine zs_C.of (by decide) (Nat.le_of_ble_eq_true rfl) ?_
  show zs_P MX12_act 0 [(0, .ref 80), (1, .long its)] [] S _
  refine g_lload_n dX12_act_0 rfl rfl ?_
  refine g_ldc2 (v := 5925) dX12_act_1 cl_RX12_123 ?_
  refine g_lcmp dX12_act_4 ?_
  refine g_if_ne 48 dX12_act_5 (by decide) (fun _ => ?_) (fun z => absurd z h6)
  refine g_lload_n dX12_act_48 rfl rfl ?_
  refine g_ldc2 (v := 643248) dX12_act_49 cl_RX12_128 ?_
  refine g_lcmp dX12_act_52 ?_
  refine g_if_ne 97 dX12_act_53 (by decide) (fun _ => ?_) (fun z => absurd z h7)
  refine g_lload_n dX12_act_97 rfl rfl ?_
  refine g_ldc2 (v := 677454) dX12_act_98 cl_RX12_130 ?_
  refine g_lcmp dX12_act_101 ?_
  refine g_if_ne 157 dX12_act_102 (by decide) (fun z => absurd h8 z) (fun _ => ?_)
  refine g_aload_n dX12_act_105 rfl rfl ?_
  refine g_iconst (v := (nI 1)) dX12_act_106 rfl ?_
  refine g_bipush (v := (nI 99)) dX12_act_107 rfl ?_
  refine g_callV (T := TX12) (NN := 19) [] (y_wantsF B L S (((zs_oY.rf hJ)).y hT) hJ j 1 99 (by omega) (by omega) ⟨hmp.1, hmp.2.1, hmp.2.2⟩ ht) dX12_act_109 kk_X12_act_X12_wants ml_RX12_112 mwX12_wants ewX12_wants (by decide) rfl rfl rfl rfl (Nat.le_of_ble_eq_true rfl) ?_
  rintro _ S1 ⟨_, rfl, oS1, pS1, rfl⟩
  refine g_istore_n (lv' := [(3, .int (nI 0)), (0, .ref 80), (1, .long its)]) dX12_act_112 rfl (by decide) rfl ?_
  refine g_iconst (v := (nI 0)) dX12_act_113 rfl ?_
  refine g_istore (lv' := [(4, .int (nI 0)), (3, .int (nI 0)), (0, .ref 80), (1, .long its)]) dX12_act_114 (by decide) rfl ?_
  refine ((z_actE_l S1 its dn 1 0 ((oS1.2.2.2 8 (by omega)).trans hdn) pS1.1 (by omega) (by omega) (by omega) 0 0 (by omega) _ (zs_oF.rf oS1.1)).lv (zs_mc 0 rfl (zs_mc 1 rfl (zs_mc 2 rfl (zs_mc 3 rfl zs_mn))))).mono (fun _ _ z => ⟨z.1, ((((zs_oY.rf hJ)).tr oS1.g)).o z.2.1 z.2.2.1 z.2.2.2.2.1 z.2.2.2.2.2 (fun _ => z.2.2.2.1) (fun y => (show zs_zm _ by unfold zs_zm; rw [z.2.2.2.1]; exact y)) (fun i _ => congrFun z.2.2.2.1 i), ⟨((congrFun z.2.2.2.2.1 7).trans pS1.1), ((congrFun z.2.2.2.2.1 5).trans pS1.2.1), ((congrFun z.2.2.2.2.1 6).trans pS1.2.2)⟩, fun z => absurd z (by decide)⟩)
set_option maxRecDepth 100000 in
theorem y_actE3 (B : Nat → Nat) (L : Nat) (S : zs_S) (hT : zs_tm S B L) (hJ : zs_J S) (its : Int64) (j dn ev fr : Nat) (hdn1 : dn ≤ 1) (hdn : S.1 80 8 = nI dn) (hev1 : ev ≤ 5) (hev : S.1 80 9 = nI ev) (hfr1 : fr ≤ 12) (hfr : S.1 80 10 = nI fr) (hC : dn ≠ 0 → S.1 82 2 = nI ev) (hmp : zs_mp S B L 0 j) (h6 : ¬ lg_cmp its 5925 = 0) (h7 : ¬ lg_cmp its 643248 = 0) (h8 : ¬ lg_cmp its 677454 = 0) : zs_Cv MX12_act [.ref 80, .long its] S (fun S2 => zs_it S S2 B L dn false j fr ev) := by
  obtain ⟨st, -, hst1, hst⟩ := hJ.1 81 2 0 11 rfl
  refine zs_C.of (by decide) (Nat.le_of_ble_eq_true rfl) ?_
  show zs_P MX12_act 0 [(0, .ref 80), (1, .long its)] [] S _
  refine g_lload_n dX12_act_0 rfl rfl ?_
  refine g_ldc2 (v := 5925) dX12_act_1 cl_RX12_123 ?_
  refine g_lcmp dX12_act_4 ?_
  refine g_if_ne 48 dX12_act_5 (by decide) (fun _ => ?_) (fun z => absurd z h6)
  refine g_lload_n dX12_act_48 rfl rfl ?_
  refine g_ldc2 (v := 643248) dX12_act_49 cl_RX12_128 ?_
  refine g_lcmp dX12_act_52 ?_
  refine g_if_ne 97 dX12_act_53 (by decide) (fun _ => ?_) (fun z => absurd z h7)
  refine g_lload_n dX12_act_97 rfl rfl ?_
  refine g_ldc2 (v := 677454) dX12_act_98 cl_RX12_130 ?_
  refine g_lcmp dX12_act_101 ?_
  refine g_if_ne 157 dX12_act_102 (by decide) (fun _ => ?_) (fun z => absurd z h8)
  refine g_aload_n dX12_act_157 rfl rfl ?_
  refine g_iconst (v := (nI 1)) dX12_act_158 rfl ?_
  refine g_putI 7 (C := RX12) (T := TX12) (N := 19) (ty := .boolean) dX12_act_159 (by decide) rfl rfl (by decide) rfl fl_RX12_105 rfl (by decide +kernel) ⟨rfl, rfl⟩ ?_
  refine g_ret dX12_act_162 rfl ?_
  exact ⟨rfl, (((zs_oY.rf hJ)).up (zs_okR rfl (by omega) (by omega) (by decide) (by decide)) rfl (by decide) (by omega) (by omega) (by decide)), ⟨zs_up_q, ((zs_up_m (by omega)).trans hmp.2.1), ((zs_up_m (by omega)).trans hmp.2.2)⟩, fun z => absurd z (by decide)⟩
