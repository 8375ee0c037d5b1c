theorem zs_oS.tr {S S1 S2 : zs_S} (h : zs_oS S S1) (k : zs_oS S1 S2) : zs_oS S S2 := ⟨k.1, h.2.1.tr k.2.1, k.2.2.1.trans h.2.2.1, k.2.2.2.trans h.2.2.2⟩
set_option maxRecDepth 100000 in
theorem z_act_l (S0 : zs_S) (its : Int64) (dn w r : Nat) (hdn : S0.1 80 8 = nI dn) (hw : S0.1 80 7 = nI w) (h8 : dn ≤ 1) (h9 : w ≤ 1) (h7 : r ≤ 99) : ∀ (d i : Nat), i + d = r → ∀ S, zs_oS S0 S → zs_P MX12_act 116 [(4, .int (nI i)), (3, .int (nI r)), (0, .ref 80), (1, .long its)] [] S (fun v S2 => v = none ∧ zs_oS S0 S2) := by
  intro d
  induction d with
  | zero =>
    intro i hi S hS
    refine g_iload dX12_act_116 rfl ?_
    refine g_iload_n dX12_act_118 rfl rfl ?_
    refine g_ic_geN 154 dX12_act_119 (by decide) (by omega) (by omega) (fun _ => ?_) (fun z => absurd z (by omega))
    refine g_goto 162 dX12_act_154 (by decide) ?_
    refine g_ret dX12_act_162 rfl ?_
    exact ⟨rfl, hS⟩
  | succ d ih =>
    intro i hi S hS
    obtain ⟨st, -, hst1, hst⟩ := hS.1.1 81 2 0 11 rfl
    refine g_iload dX12_act_116 rfl ?_
    refine g_iload_n dX12_act_118 rfl rfl ?_
    refine g_ic_geN 154 dX12_act_119 (by decide) (by omega) (by omega) (fun h1 => ?_) (fun h1 => ?_)
    · refine g_goto 162 dX12_act_154 (by decide) ?_
      refine g_ret dX12_act_162 rfl ?_
      exact ⟨rfl, hS⟩
    · refine g_aload_n dX12_act_122 rfl rfl ?_
      refine g_getV 8 (C := RX12) (T := TX12) (N := 19) (v := (nI dn)) dX12_act_123 (by decide) rfl rfl (by decide) rfl fl_RX12_118 ((congrFun hS.2.2.2 8).trans hdn) ?_
      refine g_if_eqN 154 dX12_act_126 (by decide) (by omega) (fun h2 => ?_) (fun h2 => ?_)
      · refine g_goto 162 dX12_act_154 (by decide) ?_
        refine g_ret dX12_act_162 rfl ?_
        exact ⟨rfl, hS⟩
      · refine g_aload_n dX12_act_129 rfl rfl ?_
        refine g_getV 7 (C := RX12) (T := TX12) (N := 19) (v := (nI w)) dX12_act_130 (by decide) rfl rfl (by decide) rfl fl_RX12_105 ((congrFun hS.2.2.2 7).trans hw) ?_
        refine g_if_neN 154 dX12_act_133 (by decide) (by omega) (fun h3 => ?_) (fun h3 => ?_)
        · refine g_goto 162 dX12_act_154 (by decide) ?_
          refine g_ret dX12_act_162 rfl ?_
          exact ⟨rfl, hS⟩
        · refine g_aload_n dX12_act_136 rfl rfl ?_
          refine g_iconst (v := (nI 0)) dX12_act_137 rfl ?_
          refine g_aload_n dX12_act_138 rfl rfl ?_
          refine g_getR 0 (81) (C := RX12) (T := TX12) (N := 19) dX12_act_139 (by decide) rfl rfl (by decide) rfl fl_RX12_7 ?_
          refine g_iconst (v := (nI 2)) dX12_act_142 rfl ?_
          refine g_ialdN (v := (nI st)) dX12_act_143 (by decide) rfl (by omega) (by decide) hst ?_
          refine g_iconst (v := (nI 1)) dX12_act_144 rfl ?_
          refine g_callV (T := TX12) (NN := 19) [] (y_flash0 st (by omega) (nI 1) S hS.1) dX12_act_145 kk_X12_act_X12_flash ml_RX12_132 mwX12_flash ewX12_flash (by decide) rfl rfl rfl rfl (Nat.le_of_ble_eq_true rfl) ?_
          rintro _ S4 ⟨rfl, oS4⟩
          refine g_iinc (v := (nI (i + 1))) (lv' := [(4, .int (nI (i + 1))), (3, .int (nI r)), (0, .ref 80), (1, .long its)]) dX12_act_148 rfl (nI_1 i) (by decide) rfl ?_
          refine g_goto 116 dX12_act_151 (by decide) ?_
          exact ih (i + 1) (by omega) _ (hS.tr oS4)
set_option maxRecDepth 100000 in
theorem y_act (its : Int64) (ev dn : Nat) (S : zs_S) (hJ : zs_J S) (hev : S.1 80 9 = nI ev) (hev1 : ev ≤ 5) (hdn : S.1 80 8 = nI dn) (hdn1 : dn ≤ 1) (hE : lg_cmp its 5925 = 0 → ev ≤ 4) (hC : ¬ dn = 0 → S.1 82 2 = nI ev) : zs_Cv MX12_act [.ref 80, .long its] S (fun S2 => zs_oI S S2 ∧ (¬ dn = 0 → S2.1 80 7 = nI 0 → S2.1 82 2 = S2.1 80 9)) := by
  refine zs_C.of (by decide) (Nat.le_of_ble_eq_true rfl) ?_
  show zs_P MX12_act 0 [(0, .ref 80), (1, .long its)] [] S _
  refine g_lload_n dX12_act_0 rfl rfl ?_
  refine g_ldc2 (v := 5925) dX12_act_1 cl_RX12_123 ?_
  refine g_lcmp dX12_act_4 ?_
  refine g_if_ne 48 dX12_act_5 (by decide) (fun h1 => ?_) (fun h1 => ?_)
  · refine g_lload_n dX12_act_48 rfl rfl ?_
    refine g_ldc2 (v := 643248) dX12_act_49 cl_RX12_128 ?_
    refine g_lcmp dX12_act_52 ?_
    refine g_if_ne 97 dX12_act_53 (by decide) (fun h2 => ?_) (fun h2 => ?_)
    · refine g_lload_n dX12_act_97 rfl rfl ?_
      refine g_ldc2 (v := 677454) dX12_act_98 cl_RX12_130 ?_
      refine g_lcmp dX12_act_101 ?_
      refine g_if_ne 157 dX12_act_102 (by decide) (fun h3 => ?_) (fun h3 => ?_)
      · refine g_aload_n dX12_act_157 rfl rfl ?_
        refine g_iconst (v := (nI 1)) dX12_act_158 rfl ?_
        refine g_putI 7 (C := RX12) (T := TX12) (N := 19) (ty := .boolean) dX12_act_159 (by decide) rfl rfl (by decide) rfl fl_RX12_105 rfl (by decide +kernel) ⟨rfl, rfl⟩ ?_
        refine g_ret dX12_act_162 rfl ?_
        exact ⟨rfl, (((zs_oI.rf hJ)).up (zs_okR rfl (by omega) (by omega) (by decide) (by decide)) rfl (by omega) (by omega)), fun _ z => absurd ((zs_up_q).symm.trans z) (by decide)⟩
      · refine g_aload_n dX12_act_105 rfl rfl ?_
        refine g_iconst (v := (nI 1)) dX12_act_106 rfl ?_
        refine g_bipush (v := (nI 99)) dX12_act_107 rfl ?_
        refine g_callV (T := TX12) (NN := 19) [] (y_wants 1 99 (by decide) (by decide) S hJ) dX12_act_109 kk_X12_act_X12_wants ml_RX12_112 mwX12_wants ewX12_wants (by decide) rfl rfl rfl rfl (Nat.le_of_ble_eq_true rfl) ?_
        rintro _ S4 ⟨_, rfl, oS4, r5, lS4, rfl, fS4⟩
        obtain ⟨wS4, -, kS4, eS4⟩ := oS4.1.1 80 7 0 1 rfl
        refine g_istore_n (lv' := [(3, .int (nI r5)), (0, .ref 80), (1, .long its)]) dX12_act_112 rfl (by decide) rfl ?_
        refine g_iconst (v := (nI 0)) dX12_act_113 rfl ?_
        refine g_istore (lv' := [(4, .int (nI 0)), (3, .int (nI r5)), (0, .ref 80), (1, .long its)]) dX12_act_114 (by decide) rfl ?_
        refine ((z_act_l S4 its dn wS4 r5 ((oS4.2.2.2.1 8 (by omega)).trans hdn) eS4 (by omega) (by omega) (by omega) r5 0 (by omega) _ (zs_oS.rf oS4.1)).lv (zs_mc 0 rfl (zs_mc 1 rfl (zs_mc 2 rfl (zs_mc 3 rfl zs_mn))))).mono (fun _ _ z => ⟨z.1, ((((zs_oI.rf hJ)).tr oS4.i)).o z.2.1 z.2.2.1 z.2.2.2.2, fun z9 _ => ?_⟩)
        exact ((congrFun z.2.2.2.1 2).trans (((congrFun (oS4.2.2.1 82 (by decide)) 2).trans (hC z9)))).trans ((congrFun z.2.2.2.2 9).trans (((oS4.2.2.2.1 9 (by omega)).trans hev))).symm
    · refine g_aload_n dX12_act_56 rfl rfl ?_
      refine g_iconst (v := (nI 0)) dX12_act_57 rfl ?_
      refine g_bipush (v := (nI 11)) dX12_act_58 rfl ?_
      refine g_callV (T := TX12) (NN := 19) [] (y_wants 0 11 (by decide) (by decide) S hJ) dX12_act_60 kk_X12_act_X12_wants ml_RX12_112 mwX12_wants ewX12_wants (by decide) rfl rfl rfl rfl (Nat.le_of_ble_eq_true rfl) ?_
      rintro _ S6 ⟨_, rfl, oS6, r7, lS6, rfl, fS6⟩
      obtain ⟨wS6, -, kS6, eS6⟩ := oS6.1.1 80 7 0 1 rfl
      refine g_istore_n (lv' := [(3, .int (nI r7)), (0, .ref 80), (1, .long its)]) dX12_act_63 rfl (by decide) rfl ?_
      obtain ⟨st, -, hst1, hst⟩ := (oS6.1).1 81 2 0 11 rfl
      refine g_aload_n dX12_act_64 rfl rfl ?_
      refine g_getR 0 (81) (C := RX12) (T := TX12) (N := 19) dX12_act_65 (by decide) rfl rfl (by decide) rfl fl_RX12_7 ?_
      refine g_iconst (v := (nI 2)) dX12_act_68 rfl ?_
      refine g_aload_n dX12_act_69 rfl rfl ?_
      refine g_getV 8 (C := RX12) (T := TX12) (N := 19) (v := (nI dn)) dX12_act_70 (by decide) rfl rfl (by decide) rfl fl_RX12_118 ((oS6.2.2.2.1 8 (by omega)).trans hdn) ?_
      refine g_if_eqN 87 dX12_act_73 (by decide) (by omega) (fun h8 => ?_) (fun h8 => ?_)
      · refine g_aload_n dX12_act_87 rfl rfl ?_
        refine g_getR 0 (81) (C := RX12) (T := TX12) (N := 19) dX12_act_88 (by decide) rfl rfl (by decide) rfl fl_RX12_7 ?_
        refine g_iconst (v := (nI 2)) dX12_act_91 rfl ?_
        refine g_ialdN (v := (nI st)) dX12_act_92 (by decide) rfl (by omega) (by decide) hst ?_
        refine g_iastN dX12_act_93 (by decide) rfl (by omega) (by decide) ?_
        refine g_goto 162 dX12_act_94 (by decide) ?_
        refine g_ret dX12_act_162 rfl ?_
        exact ⟨rfl, (((((zs_oI.rf hJ)).tr oS6.i)).up (zs_okR rfl (by omega) (by omega) (by decide) (by decide)) rfl (by omega) (by omega)), fun z _ => absurd (show dn = 0 by omega) z⟩
      · refine g_aload_n dX12_act_76 rfl rfl ?_
        refine g_getV 7 (C := RX12) (T := TX12) (N := 19) (v := (nI wS6)) dX12_act_77 (by decide) rfl rfl (by decide) rfl fl_RX12_105 eS6 ?_
        refine g_if_neN 87 dX12_act_80 (by decide) (by omega) (fun h9 => ?_) (fun h9 => ?_)
        · refine g_aload_n dX12_act_87 rfl rfl ?_
          refine g_getR 0 (81) (C := RX12) (T := TX12) (N := 19) dX12_act_88 (by decide) rfl rfl (by decide) rfl fl_RX12_7 ?_
          refine g_iconst (v := (nI 2)) dX12_act_91 rfl ?_
          refine g_ialdN (v := (nI st)) dX12_act_92 (by decide) rfl (by omega) (by decide) hst ?_
          refine g_iastN dX12_act_93 (by decide) rfl (by omega) (by decide) ?_
          refine g_goto 162 dX12_act_94 (by decide) ?_
          refine g_ret dX12_act_162 rfl ?_
          exact ⟨rfl, (((((zs_oI.rf hJ)).tr oS6.i)).up (zs_okR rfl (by omega) (by omega) (by decide) (by decide)) rfl (by omega) (by omega)), fun _ z => absurd ((nI_eq (by omega) (by omega)).mp ((((zs_up_m (by omega)).trans eS6)).symm.trans z)) (by omega)⟩
        · refine g_iload_n dX12_act_83 rfl rfl ?_
          refine g_goto 93 dX12_act_84 (by decide) ?_
          refine g_iastN dX12_act_93 (by decide) rfl (by omega) (by decide) ?_
          refine g_goto 162 dX12_act_94 (by decide) ?_
          refine g_ret dX12_act_162 rfl ?_
          exact ⟨rfl, (((((zs_oI.rf hJ)).tr oS6.i)).up (zs_okR rfl (by omega) (by omega) (by decide) (by decide)) rfl (by omega) (by omega)), fun z9 _ => (((zs_up_m (by omega)).trans ((congrFun (oS6.2.2.1 82 (by decide)) 2).trans (hC z9)))).trans (((zs_up_m (by omega)).trans ((oS6.2.2.2.1 9 (by omega)).trans hev))).symm⟩
  · have hE4 := hE h1
    refine g_aload_n dX12_act_8 rfl rfl ?_
    refine g_dup dX12_act_9 rfl ?_
    refine g_getV 9 (C := RX12) (T := TX12) (N := 19) (v := (nI ev)) dX12_act_10 (by decide) rfl rfl (by decide) rfl fl_RX12_125 hev ?_
    refine g_iconst (v := (nI 1)) dX12_act_13 rfl ?_
    refine g_iaddN dX12_act_14 ?_
    refine g_putI 9 (C := RX12) (T := TX12) (N := 19) (ty := .int) dX12_act_15 (by decide) rfl rfl (by decide) rfl fl_RX12_125 rfl (by decide +kernel) ⟨rfl, rfl⟩ ?_
    refine g_aload_n dX12_act_18 rfl rfl ?_
    refine g_iconst (v := (nI 0)) dX12_act_19 rfl ?_
    refine g_iconst (v := (nI 5)) dX12_act_20 rfl ?_
    refine g_callV (T := TX12) (NN := 19) [] (y_wants 0 5 (by decide) (by decide) (zs_up S.1 80 9 (nI (ev + 1)), S.2) ((hJ).up (zs_okR rfl (by omega) (by omega) (by decide) (by decide)))) dX12_act_21 kk_X12_act_X12_wants ml_RX12_112 mwX12_wants ewX12_wants (by decide) rfl rfl rfl rfl (Nat.le_of_ble_eq_true rfl) ?_
    rintro _ S10 ⟨_, rfl, oS10, r11, lS10, rfl, fS10⟩
    obtain ⟨wS10, -, kS10, eS10⟩ := oS10.1.1 80 7 0 1 rfl
    refine g_istore_n (lv' := [(3, .int (nI r11)), (0, .ref 80), (1, .long its)]) dX12_act_24 rfl (by decide) rfl ?_
    refine g_aload_n dX12_act_25 rfl rfl ?_
    refine g_getV 8 (C := RX12) (T := TX12) (N := 19) (v := (nI dn)) dX12_act_26 (by decide) rfl rfl (by decide) rfl fl_RX12_118 ((oS10.2.2.2.1 8 (by omega)).trans ((zs_up_m (by omega)).trans hdn)) ?_
    refine g_if_eqN 45 dX12_act_29 (by decide) (by omega) (fun h12 => ?_) (fun h12 => ?_)
    · refine g_goto 162 dX12_act_45 (by decide) ?_
      refine g_ret dX12_act_162 rfl ?_
      exact ⟨rfl, (((((zs_oI.rf hJ)).up (zs_okR rfl (by omega) (by omega) (by decide) (by decide)) rfl (by omega) (by omega))).tr oS10.i), fun z _ => absurd (show dn = 0 by omega) z⟩
    · refine g_aload_n dX12_act_32 rfl rfl ?_
      refine g_getV 7 (C := RX12) (T := TX12) (N := 19) (v := (nI wS10)) dX12_act_33 (by decide) rfl rfl (by decide) rfl fl_RX12_105 eS10 ?_
      refine g_if_neN 45 dX12_act_36 (by decide) (by omega) (fun h13 => ?_) (fun h13 => ?_)
      · refine g_goto 162 dX12_act_45 (by decide) ?_
        refine g_ret dX12_act_162 rfl ?_
        exact ⟨rfl, (((((zs_oI.rf hJ)).up (zs_okR rfl (by omega) (by omega) (by decide) (by decide)) rfl (by omega) (by omega))).tr oS10.i), fun _ z => absurd ((nI_eq (by omega) (by omega)).mp ((eS10).symm.trans z)) (by omega)⟩
      · refine g_aload_n dX12_act_39 rfl rfl ?_
        refine g_iload_n dX12_act_40 rfl rfl ?_
        refine g_callV (T := TX12) (NN := 19) [] (y_comes (nI r11) ev (by omega) S10 oS10.1 ((congrFun (oS10.2.2.1 82 (by decide)) 2).trans ((zs_up_m (by omega)).trans (hC (by omega))))) dX12_act_41 kk_X12_act_X12_comes ml_RX12_69 mwX12_comes ewX12_comes (by decide) rfl rfl rfl rfl (Nat.le_of_ble_eq_true rfl) ?_
        rintro _ S14 ⟨_, rfl, rfl, bS14⟩
        refine g_pop dX12_act_44 rfl ?_
        refine g_goto 162 dX12_act_45 (by decide) ?_
        refine g_ret dX12_act_162 rfl ?_
        exact ⟨rfl, (((((((zs_oI.rf hJ)).up (zs_okR rfl (by omega) (by omega) (by decide) (by decide)) rfl (by omega) (by omega))).tr oS10.i)).o bS14.1 bS14.2.1 bS14.2.2.2), fun z9 _ => (bS14.2.2.1).trans (((congrFun bS14.2.2.2 9).trans ((oS10.2.2.2.1 9 (by omega)).trans zs_up_q))).symm⟩
set_option maxRecDepth 100000 in
theorem y_item (m : Int32) (ev dn : Nat) (S : zs_S) (hJ : zs_J S) (hev : S.1 80 9 = nI ev) (hev1 : ev ≤ 5) (hdn : S.1 80 8 = nI dn) (hdn1 : dn ≤ 1) (hw : S.1 80 7 = nI 0) (hm0 : m = 0 → ev = 0) (hC : ¬ m = 0 → ¬ dn = 0 → S.1 82 2 = nI ev) : zs_Cv MX12_item [.ref 80, .int m] S (fun S2 => zs_oI S S2 ∧ (¬ dn = 0 → S2.1 80 7 = nI 0 → S2.1 82 2 = S2.1 80 9)) := by
  refine zs_C.of (by decide) (Nat.le_of_ble_eq_true rfl) ?_
  show zs_P MX12_item 0 [(0, .ref 80), (1, .int m)] [] S _
  refine g_aload_n dX12_item_0 rfl rfl ?_
  refine g_callV (T := TX12) (NN := 19) [] (y_word S hJ) dX12_item_1 kk_X12_item_X12_word ml_RX12_136 mwX12_word ewX12_word (by decide) rfl rfl rfl rfl (Nat.le_of_ble_eq_true rfl) ?_
  rintro _ _ ⟨y1, rfl, rfl⟩
  refine g_lstore_n (lv' := [(2, .long y1), (0, .ref 80), (1, .int m)]) dX12_item_4 rfl (by decide) rfl ?_
  refine g_iload_n dX12_item_5 rfl rfl ?_
  refine g_if_ne 13 dX12_item_6 (by decide) (fun h2 => ?_) (fun h2 => ?_)
  · refine g_iconst (v := (nI 0)) dX12_item_13 rfl ?_
    refine g_lload_n dX12_item_14 rfl rfl ?_
    refine g_ldc2 (v := 150189) dX12_item_15 cl_RX12_140 ?_
    refine g_lcmp dX12_item_18 ?_
    refine g_if_ne 26 dX12_item_19 (by decide) (fun h3 => ?_) (fun h3 => ?_)
    · refine g_iconst (v := (nI 0)) dX12_item_26 rfl ?_
      refine g_ic_neN 46 dX12_item_27 (by decide) (by omega) (by omega) (fun z => absurd z (by omega)) (fun _ => ?_)
      refine g_lload_n dX12_item_30 rfl rfl ?_
      refine g_ldc2 (v := 5925) dX12_item_31 cl_RX12_123 ?_
      refine g_lcmp dX12_item_34 ?_
      refine g_if_ne 54 dX12_item_35 (by decide) (fun h4 => ?_) (fun h4 => ?_)
      · refine g_lload_n dX12_item_54 rfl rfl ?_
        refine g_ldc2 (v := 149559) dX12_item_55 cl_RX12_142 ?_
        refine g_lcmp dX12_item_58 ?_
        refine g_if_ne 69 dX12_item_59 (by decide) (fun h5 => ?_) (fun h5 => ?_)
        · refine g_iload_n dX12_item_69 rfl rfl ?_
          refine g_if_ne 80 dX12_item_70 (by decide) (fun _ => ?_) (fun z => absurd z h2)
          refine g_aload_n dX12_item_80 rfl rfl ?_
          refine g_lload_n dX12_item_81 rfl rfl ?_
          skip
          refine g_callV (T := TX12) (NN := 19) [] (y_act y1 ev dn S hJ hev hev1 hdn hdn1 (fun z => absurd z h4) (hC h2)) dX12_item_82 kk_X12_item_X12_act ml_RX12_150 mwX12_act ewX12_act (by decide) rfl rfl rfl rfl (Nat.le_of_ble_eq_true rfl) ?_
          rintro _ S6 ⟨rfl, oS6⟩
          obtain ⟨wS6, -, kS6, eS6⟩ := (oS6.1.1).1 80 7 0 1 rfl
          obtain ⟨qS6, -, pS6, gS6⟩ := (oS6.1.1).1 80 5 0 150 rfl
          refine g_aload_n dX12_item_85 rfl rfl ?_
          refine g_aload_n dX12_item_86 rfl rfl ?_
          refine g_getV 7 (C := RX12) (T := TX12) (N := 19) (v := (nI wS6)) dX12_item_87 (by decide) rfl rfl (by decide) rfl fl_RX12_105 eS6 ?_
          refine g_if_neN 101 dX12_item_90 (by decide) (by omega) (fun h7 => ?_) (fun h7 => ?_)
          · refine g_iconst (v := (nI 1)) dX12_item_101 rfl ?_
            refine g_goto 106 dX12_item_102 (by decide) ?_
            refine g_putI 7 (C := RX12) (T := TX12) (N := 19) (ty := .boolean) dX12_item_106 (by decide) rfl rfl (by decide) rfl fl_RX12_105 rfl (by decide +kernel) ⟨rfl, rfl⟩ ?_
            refine g_ret dX12_item_109 rfl ?_
            exact ⟨rfl, (((((zs_oI.rf hJ)).tr oS6.1)).up (zs_okR rfl (by omega) (by omega) (by decide) (by decide)) rfl (by omega) (by omega)), fun _ z => absurd (zs_up_q.symm.trans z) (by decide)⟩
          · refine g_aload_n dX12_item_93 rfl rfl ?_
            refine g_callV (T := TX12) (NN := 19) [.ref 80] (y_token qS6 S6 oS6.1.1 gS6 (by omega)) dX12_item_94 kk_X12_item_X12_token ml_RX12_109 mwX12_token ewX12_token (by decide) rfl rfl rfl rfl (Nat.le_of_ble_eq_true rfl) ?_
            rintro _ S8 ⟨_, rfl, uS8, t9, zS8, yS8, rfl, vS8, aS8, xS8, -⟩
            refine g_iconst (v := (nI 2)) dX12_item_97 rfl ?_
            refine g_ic_eqN 105 dX12_item_98 (by decide) (by omega) (by omega) (fun h10 => ?_) (fun h10 => ?_)
            · refine g_iconst (v := (nI 0)) dX12_item_105 rfl ?_
              refine g_putI 7 (C := RX12) (T := TX12) (N := 19) (ty := .boolean) dX12_item_106 (by decide) rfl rfl (by decide) rfl fl_RX12_105 rfl (by decide +kernel) ⟨rfl, rfl⟩ ?_
              refine g_ret dX12_item_109 rfl ?_
              exact ⟨rfl, (((((((zs_oI.rf hJ)).tr oS6.1)).tr (uS8.w gS6 (by omega) vS8 (by omega) (by omega)).i)).up (zs_okR rfl (by omega) (by omega) (by decide) (by decide)) rfl (by omega) (by omega)), fun z9 _ => (((zs_up_m (by omega)).trans (congrFun (uS8.2.2.1 82 (by decide)) 2)).trans (oS6.2 z9 (by rw [eS6, show wS6 = 0 by omega]))).trans ((zs_up_m (by omega)).trans (uS8.2.2.2 9 (by omega))).symm⟩
            · refine g_iconst (v := (nI 1)) dX12_item_101 rfl ?_
              refine g_goto 106 dX12_item_102 (by decide) ?_
              refine g_putI 7 (C := RX12) (T := TX12) (N := 19) (ty := .boolean) dX12_item_106 (by decide) rfl rfl (by decide) rfl fl_RX12_105 rfl (by decide +kernel) ⟨rfl, rfl⟩ ?_
              refine g_ret dX12_item_109 rfl ?_
              exact ⟨rfl, (((((((zs_oI.rf hJ)).tr oS6.1)).tr (uS8.w gS6 (by omega) vS8 (by omega) (by omega)).i)).up (zs_okR rfl (by omega) (by omega) (by decide) (by decide)) rfl (by omega) (by omega)), fun _ z => absurd (zs_up_q.symm.trans z) (by decide)⟩
        · refine g_aload_n dX12_item_62 rfl rfl ?_
          refine g_callV (T := TX12) (NN := 19) [] (y_drawItem S hJ) dX12_item_63 kk_X12_item_X12_drawItem ml_RX12_144 mwX12_drawItem ewX12_drawItem (by decide) rfl rfl rfl rfl (Nat.le_of_ble_eq_true rfl) ?_
          rintro _ S11 ⟨rfl, oS11⟩
          obtain ⟨wS11, -, kS11, eS11⟩ := (oS11.1.1).1 80 7 0 1 rfl
          obtain ⟨qS11, -, pS11, gS11⟩ := (oS11.1.1).1 80 5 0 150 rfl
          refine g_goto 109 dX12_item_66 (by decide) ?_
          refine g_ret dX12_item_109 rfl ?_
          exact ⟨rfl, (((zs_oI.rf hJ)).tr oS11.1), fun z9 _ => ((congrFun oS11.2.1 2).trans (hC h2 z9)).trans (oS11.2.2.1.trans hev).symm⟩
      · refine g_aload_n dX12_item_38 rfl rfl ?_
        refine g_getV 9 (C := RX12) (T := TX12) (N := 19) (v := (nI ev)) dX12_item_39 (by decide) rfl rfl (by decide) rfl fl_RX12_125 hev ?_
        refine g_iconst (v := (nI 5)) dX12_item_42 rfl ?_
        refine g_ic_neN 54 dX12_item_43 (by decide) (by omega) (by omega) (fun h12 => ?_) (fun h12 => ?_)
        · refine g_lload_n dX12_item_54 rfl rfl ?_
          refine g_ldc2 (v := 149559) dX12_item_55 cl_RX12_142 ?_
          refine g_lcmp dX12_item_58 ?_
          refine g_if_ne 69 dX12_item_59 (by decide) (fun h13 => ?_) (fun h13 => ?_)
          · refine g_iload_n dX12_item_69 rfl rfl ?_
            refine g_if_ne 80 dX12_item_70 (by decide) (fun _ => ?_) (fun z => absurd z h2)
            refine g_aload_n dX12_item_80 rfl rfl ?_
            refine g_lload_n dX12_item_81 rfl rfl ?_
            skip
            refine g_callV (T := TX12) (NN := 19) [] (y_act y1 ev dn S hJ hev hev1 hdn hdn1 (fun _ => by omega) (hC h2)) dX12_item_82 kk_X12_item_X12_act ml_RX12_150 mwX12_act ewX12_act (by decide) rfl rfl rfl rfl (Nat.le_of_ble_eq_true rfl) ?_
            rintro _ S14 ⟨rfl, oS14⟩
            obtain ⟨wS14, -, kS14, eS14⟩ := (oS14.1.1).1 80 7 0 1 rfl
            obtain ⟨qS14, -, pS14, gS14⟩ := (oS14.1.1).1 80 5 0 150 rfl
            refine g_aload_n dX12_item_85 rfl rfl ?_
            refine g_aload_n dX12_item_86 rfl rfl ?_
            refine g_getV 7 (C := RX12) (T := TX12) (N := 19) (v := (nI wS14)) dX12_item_87 (by decide) rfl rfl (by decide) rfl fl_RX12_105 eS14 ?_
            refine g_if_neN 101 dX12_item_90 (by decide) (by omega) (fun h15 => ?_) (fun h15 => ?_)
            · refine g_iconst (v := (nI 1)) dX12_item_101 rfl ?_
              refine g_goto 106 dX12_item_102 (by decide) ?_
              refine g_putI 7 (C := RX12) (T := TX12) (N := 19) (ty := .boolean) dX12_item_106 (by decide) rfl rfl (by decide) rfl fl_RX12_105 rfl (by decide +kernel) ⟨rfl, rfl⟩ ?_
              refine g_ret dX12_item_109 rfl ?_
              exact ⟨rfl, (((((zs_oI.rf hJ)).tr oS14.1)).up (zs_okR rfl (by omega) (by omega) (by decide) (by decide)) rfl (by omega) (by omega)), fun _ z => absurd (zs_up_q.symm.trans z) (by decide)⟩
            · refine g_aload_n dX12_item_93 rfl rfl ?_
              refine g_callV (T := TX12) (NN := 19) [.ref 80] (y_token qS14 S14 oS14.1.1 gS14 (by omega)) dX12_item_94 kk_X12_item_X12_token ml_RX12_109 mwX12_token ewX12_token (by decide) rfl rfl rfl rfl (Nat.le_of_ble_eq_true rfl) ?_
              rintro _ S16 ⟨_, rfl, uS16, t17, zS16, yS16, rfl, vS16, aS16, xS16, -⟩
              refine g_iconst (v := (nI 2)) dX12_item_97 rfl ?_
              refine g_ic_eqN 105 dX12_item_98 (by decide) (by omega) (by omega) (fun h18 => ?_) (fun h18 => ?_)
              · refine g_iconst (v := (nI 0)) dX12_item_105 rfl ?_
                refine g_putI 7 (C := RX12) (T := TX12) (N := 19) (ty := .boolean) dX12_item_106 (by decide) rfl rfl (by decide) rfl fl_RX12_105 rfl (by decide +kernel) ⟨rfl, rfl⟩ ?_
                refine g_ret dX12_item_109 rfl ?_
                exact ⟨rfl, (((((((zs_oI.rf hJ)).tr oS14.1)).tr (uS16.w gS14 (by omega) vS16 (by omega) (by omega)).i)).up (zs_okR rfl (by omega) (by omega) (by decide) (by decide)) rfl (by omega) (by omega)), fun z9 _ => (((zs_up_m (by omega)).trans (congrFun (uS16.2.2.1 82 (by decide)) 2)).trans (oS14.2 z9 (by rw [eS14, show wS14 = 0 by omega]))).trans ((zs_up_m (by omega)).trans (uS16.2.2.2 9 (by omega))).symm⟩
              · refine g_iconst (v := (nI 1)) dX12_item_101 rfl ?_
                refine g_goto 106 dX12_item_102 (by decide) ?_
                refine g_putI 7 (C := RX12) (T := TX12) (N := 19) (ty := .boolean) dX12_item_106 (by decide) rfl rfl (by decide) rfl fl_RX12_105 rfl (by decide +kernel) ⟨rfl, rfl⟩ ?_
                refine g_ret dX12_item_109 rfl ?_
                exact ⟨rfl, (((((((zs_oI.rf hJ)).tr oS14.1)).tr (uS16.w gS14 (by omega) vS16 (by omega) (by omega)).i)).up (zs_okR rfl (by omega) (by omega) (by decide) (by decide)) rfl (by omega) (by omega)), fun _ z => absurd (zs_up_q.symm.trans z) (by decide)⟩
          · refine g_aload_n dX12_item_62 rfl rfl ?_
            refine g_callV (T := TX12) (NN := 19) [] (y_drawItem S hJ) dX12_item_63 kk_X12_item_X12_drawItem ml_RX12_144 mwX12_drawItem ewX12_drawItem (by decide) rfl rfl rfl rfl (Nat.le_of_ble_eq_true rfl) ?_
            rintro _ S19 ⟨rfl, oS19⟩
            obtain ⟨wS19, -, kS19, eS19⟩ := (oS19.1.1).1 80 7 0 1 rfl
            obtain ⟨qS19, -, pS19, gS19⟩ := (oS19.1.1).1 80 5 0 150 rfl
            refine g_goto 109 dX12_item_66 (by decide) ?_
            refine g_ret dX12_item_109 rfl ?_
            exact ⟨rfl, (((zs_oI.rf hJ)).tr oS19.1), fun z9 _ => ((congrFun oS19.2.1 2).trans (hC h2 z9)).trans (oS19.2.2.1.trans hev).symm⟩
        · refine g_aload_n dX12_item_46 rfl rfl ?_
          refine g_iconst (v := (nI 1)) dX12_item_47 rfl ?_
          refine g_putI 7 (C := RX12) (T := TX12) (N := 19) (ty := .boolean) dX12_item_48 (by decide) rfl rfl (by decide) rfl fl_RX12_105 rfl (by decide +kernel) ⟨rfl, rfl⟩ ?_
          refine g_goto 109 dX12_item_51 (by decide) ?_
          refine g_ret dX12_item_109 rfl ?_
          exact ⟨rfl, (((zs_oI.rf hJ)).up (zs_okR rfl (by omega) (by omega) (by decide) (by decide)) rfl (by omega) (by omega)), fun _ z => absurd (zs_up_q.symm.trans z) (by decide)⟩
    · refine g_iconst (v := (nI 1)) dX12_item_22 rfl ?_
      refine g_goto 27 dX12_item_23 (by decide) ?_
      refine g_ic_neN 46 dX12_item_27 (by decide) (by omega) (by omega) (fun _ => ?_) (fun z => absurd z (by omega))
      refine g_aload_n dX12_item_46 rfl rfl ?_
      refine g_iconst (v := (nI 1)) dX12_item_47 rfl ?_
      refine g_putI 7 (C := RX12) (T := TX12) (N := 19) (ty := .boolean) dX12_item_48 (by decide) rfl rfl (by decide) rfl fl_RX12_105 rfl (by decide +kernel) ⟨rfl, rfl⟩ ?_
      refine g_goto 109 dX12_item_51 (by decide) ?_
      refine g_ret dX12_item_109 rfl ?_
      exact ⟨rfl, (((zs_oI.rf hJ)).up (zs_okR rfl (by omega) (by omega) (by decide) (by decide)) rfl (by omega) (by omega)), fun _ z => absurd (zs_up_q.symm.trans z) (by decide)⟩
  · refine g_iconst (v := (nI 1)) dX12_item_9 rfl ?_
    refine g_goto 14 dX12_item_10 (by decide) ?_
    refine g_lload_n dX12_item_14 rfl rfl ?_
    refine g_ldc2 (v := 150189) dX12_item_15 cl_RX12_140 ?_
    refine g_lcmp dX12_item_18 ?_
    refine g_if_ne 26 dX12_item_19 (by decide) (fun h20 => ?_) (fun h20 => ?_)
    · refine g_iconst (v := (nI 0)) dX12_item_26 rfl ?_
      refine g_ic_neN 46 dX12_item_27 (by decide) (by omega) (by omega) (fun _ => ?_) (fun z => absurd z (by omega))
      refine g_aload_n dX12_item_46 rfl rfl ?_
      refine g_iconst (v := (nI 1)) dX12_item_47 rfl ?_
      refine g_putI 7 (C := RX12) (T := TX12) (N := 19) (ty := .boolean) dX12_item_48 (by decide) rfl rfl (by decide) rfl fl_RX12_105 rfl (by decide +kernel) ⟨rfl, rfl⟩ ?_
      refine g_goto 109 dX12_item_51 (by decide) ?_
      refine g_ret dX12_item_109 rfl ?_
      exact ⟨rfl, (((zs_oI.rf hJ)).up (zs_okR rfl (by omega) (by omega) (by decide) (by decide)) rfl (by omega) (by omega)), fun _ z => absurd (zs_up_q.symm.trans z) (by decide)⟩
    · refine g_iconst (v := (nI 1)) dX12_item_22 rfl ?_
      refine g_goto 27 dX12_item_23 (by decide) ?_
      refine g_ic_neN 46 dX12_item_27 (by decide) (by omega) (by omega) (fun z => absurd z (by omega)) (fun _ => ?_)
      refine g_lload_n dX12_item_30 rfl rfl ?_
      refine g_ldc2 (v := 5925) dX12_item_31 cl_RX12_123 ?_
      refine g_lcmp dX12_item_34 ?_
      refine g_if_ne 54 dX12_item_35 (by decide) (fun h21 => ?_) (fun h21 => ?_)
      · refine g_lload_n dX12_item_54 rfl rfl ?_
        refine g_ldc2 (v := 149559) dX12_item_55 cl_RX12_142 ?_
        refine g_lcmp dX12_item_58 ?_
        refine g_if_ne 69 dX12_item_59 (by decide) (fun h22 => ?_) (fun h22 => ?_)
        · refine g_iload_n dX12_item_69 rfl rfl ?_
          refine g_if_ne 80 dX12_item_70 (by decide) (fun z => absurd h2 z) (fun _ => ?_)
          refine g_aload_n dX12_item_73 rfl rfl ?_
          refine g_callV (T := TX12) (NN := 19) [] (y_drumItem S hJ) dX12_item_74 kk_X12_item_X12_drumItem ml_RX12_147 mwX12_drumItem ewX12_drumItem (by decide) rfl rfl rfl rfl (Nat.le_of_ble_eq_true rfl) ?_
          rintro _ S23 ⟨rfl, oS23⟩
          obtain ⟨wS23, -, kS23, eS23⟩ := (oS23.1.1).1 80 7 0 1 rfl
          obtain ⟨qS23, -, pS23, gS23⟩ := (oS23.1.1).1 80 5 0 150 rfl
          refine g_goto 85 dX12_item_77 (by decide) ?_
          refine g_aload_n dX12_item_85 rfl rfl ?_
          refine g_aload_n dX12_item_86 rfl rfl ?_
          refine g_getV 7 (C := RX12) (T := TX12) (N := 19) (v := (nI wS23)) dX12_item_87 (by decide) rfl rfl (by decide) rfl fl_RX12_105 eS23 ?_
          refine g_if_neN 101 dX12_item_90 (by decide) (by omega) (fun h24 => ?_) (fun h24 => ?_)
          · refine g_iconst (v := (nI 1)) dX12_item_101 rfl ?_
            refine g_goto 106 dX12_item_102 (by decide) ?_
            refine g_putI 7 (C := RX12) (T := TX12) (N := 19) (ty := .boolean) dX12_item_106 (by decide) rfl rfl (by decide) rfl fl_RX12_105 rfl (by decide +kernel) ⟨rfl, rfl⟩ ?_
            refine g_ret dX12_item_109 rfl ?_
            exact ⟨rfl, (((((zs_oI.rf hJ)).tr oS23.1)).up (zs_okR rfl (by omega) (by omega) (by decide) (by decide)) rfl (by omega) (by omega)), fun _ z => absurd (zs_up_q.symm.trans z) (by decide)⟩
          · refine g_aload_n dX12_item_93 rfl rfl ?_
            refine g_callV (T := TX12) (NN := 19) [.ref 80] (y_token qS23 S23 oS23.1.1 gS23 (by omega)) dX12_item_94 kk_X12_item_X12_token ml_RX12_109 mwX12_token ewX12_token (by decide) rfl rfl rfl rfl (Nat.le_of_ble_eq_true rfl) ?_
            rintro _ S25 ⟨_, rfl, uS25, t26, zS25, yS25, rfl, vS25, aS25, xS25, -⟩
            refine g_iconst (v := (nI 2)) dX12_item_97 rfl ?_
            refine g_ic_eqN 105 dX12_item_98 (by decide) (by omega) (by omega) (fun h27 => ?_) (fun h27 => ?_)
            · refine g_iconst (v := (nI 0)) dX12_item_105 rfl ?_
              refine g_putI 7 (C := RX12) (T := TX12) (N := 19) (ty := .boolean) dX12_item_106 (by decide) rfl rfl (by decide) rfl fl_RX12_105 rfl (by decide +kernel) ⟨rfl, rfl⟩ ?_
              refine g_ret dX12_item_109 rfl ?_
              exact ⟨rfl, (((((((zs_oI.rf hJ)).tr oS23.1)).tr (uS25.w gS23 (by omega) vS25 (by omega) (by omega)).i)).up (zs_okR rfl (by omega) (by omega) (by decide) (by decide)) rfl (by omega) (by omega)), fun z9 _ => (((zs_up_m (by omega)).trans (congrFun (uS25.2.2.1 82 (by decide)) 2)).trans (oS23.2.2 (fun z => z9 ((nI_eq (by omega) (by omega)).mp (hdn.symm.trans z))) (by rw [eS23, show wS23 = 0 by omega]))).trans ((((zs_up_m (by omega)).trans (uS25.2.2.2 9 (by omega))).trans (oS23.2.1.trans (hev.trans (by rw [hm0 h2]))))).symm⟩
            · refine g_iconst (v := (nI 1)) dX12_item_101 rfl ?_
              refine g_goto 106 dX12_item_102 (by decide) ?_
              refine g_putI 7 (C := RX12) (T := TX12) (N := 19) (ty := .boolean) dX12_item_106 (by decide) rfl rfl (by decide) rfl fl_RX12_105 rfl (by decide +kernel) ⟨rfl, rfl⟩ ?_
              refine g_ret dX12_item_109 rfl ?_
              exact ⟨rfl, (((((((zs_oI.rf hJ)).tr oS23.1)).tr (uS25.w gS23 (by omega) vS25 (by omega) (by omega)).i)).up (zs_okR rfl (by omega) (by omega) (by decide) (by decide)) rfl (by omega) (by omega)), fun _ z => absurd (zs_up_q.symm.trans z) (by decide)⟩
        · refine g_aload_n dX12_item_62 rfl rfl ?_
          refine g_callV (T := TX12) (NN := 19) [] (y_drawItem S hJ) dX12_item_63 kk_X12_item_X12_drawItem ml_RX12_144 mwX12_drawItem ewX12_drawItem (by decide) rfl rfl rfl rfl (Nat.le_of_ble_eq_true rfl) ?_
          rintro _ S28 ⟨rfl, oS28⟩
          obtain ⟨wS28, -, kS28, eS28⟩ := (oS28.1.1).1 80 7 0 1 rfl
          obtain ⟨qS28, -, pS28, gS28⟩ := (oS28.1.1).1 80 5 0 150 rfl
          refine g_goto 109 dX12_item_66 (by decide) ?_
          refine g_ret dX12_item_109 rfl ?_
          exact absurd ((zs_cmp0 h20).symm.trans (zs_cmp0 h22)) (by decide)
      · refine g_aload_n dX12_item_38 rfl rfl ?_
        refine g_getV 9 (C := RX12) (T := TX12) (N := 19) (v := (nI ev)) dX12_item_39 (by decide) rfl rfl (by decide) rfl fl_RX12_125 hev ?_
        refine g_iconst (v := (nI 5)) dX12_item_42 rfl ?_
        refine g_ic_neN 54 dX12_item_43 (by decide) (by omega) (by omega) (fun h29 => ?_) (fun h29 => ?_)
        · refine g_lload_n dX12_item_54 rfl rfl ?_
          refine g_ldc2 (v := 149559) dX12_item_55 cl_RX12_142 ?_
          refine g_lcmp dX12_item_58 ?_
          refine g_if_ne 69 dX12_item_59 (by decide) (fun h30 => ?_) (fun h30 => ?_)
          · refine g_iload_n dX12_item_69 rfl rfl ?_
            refine g_if_ne 80 dX12_item_70 (by decide) (fun z => absurd h2 z) (fun _ => ?_)
            refine g_aload_n dX12_item_73 rfl rfl ?_
            refine g_callV (T := TX12) (NN := 19) [] (y_drumItem S hJ) dX12_item_74 kk_X12_item_X12_drumItem ml_RX12_147 mwX12_drumItem ewX12_drumItem (by decide) rfl rfl rfl rfl (Nat.le_of_ble_eq_true rfl) ?_
            rintro _ S31 ⟨rfl, oS31⟩
            obtain ⟨wS31, -, kS31, eS31⟩ := (oS31.1.1).1 80 7 0 1 rfl
            obtain ⟨qS31, -, pS31, gS31⟩ := (oS31.1.1).1 80 5 0 150 rfl
            refine g_goto 85 dX12_item_77 (by decide) ?_
            refine g_aload_n dX12_item_85 rfl rfl ?_
            refine g_aload_n dX12_item_86 rfl rfl ?_
            refine g_getV 7 (C := RX12) (T := TX12) (N := 19) (v := (nI wS31)) dX12_item_87 (by decide) rfl rfl (by decide) rfl fl_RX12_105 eS31 ?_
            refine g_if_neN 101 dX12_item_90 (by decide) (by omega) (fun h32 => ?_) (fun h32 => ?_)
            · refine g_iconst (v := (nI 1)) dX12_item_101 rfl ?_
              refine g_goto 106 dX12_item_102 (by decide) ?_
              refine g_putI 7 (C := RX12) (T := TX12) (N := 19) (ty := .boolean) dX12_item_106 (by decide) rfl rfl (by decide) rfl fl_RX12_105 rfl (by decide +kernel) ⟨rfl, rfl⟩ ?_
              refine g_ret dX12_item_109 rfl ?_
              exact ⟨rfl, (((((zs_oI.rf hJ)).tr oS31.1)).up (zs_okR rfl (by omega) (by omega) (by decide) (by decide)) rfl (by omega) (by omega)), fun _ z => absurd (zs_up_q.symm.trans z) (by decide)⟩
            · refine g_aload_n dX12_item_93 rfl rfl ?_
              refine g_callV (T := TX12) (NN := 19) [.ref 80] (y_token qS31 S31 oS31.1.1 gS31 (by omega)) dX12_item_94 kk_X12_item_X12_token ml_RX12_109 mwX12_token ewX12_token (by decide) rfl rfl rfl rfl (Nat.le_of_ble_eq_true rfl) ?_
              rintro _ S33 ⟨_, rfl, uS33, t34, zS33, yS33, rfl, vS33, aS33, xS33, -⟩
              refine g_iconst (v := (nI 2)) dX12_item_97 rfl ?_
              refine g_ic_eqN 105 dX12_item_98 (by decide) (by omega) (by omega) (fun h35 => ?_) (fun h35 => ?_)
              · refine g_iconst (v := (nI 0)) dX12_item_105 rfl ?_
                refine g_putI 7 (C := RX12) (T := TX12) (N := 19) (ty := .boolean) dX12_item_106 (by decide) rfl rfl (by decide) rfl fl_RX12_105 rfl (by decide +kernel) ⟨rfl, rfl⟩ ?_
                refine g_ret dX12_item_109 rfl ?_
                exact ⟨rfl, (((((((zs_oI.rf hJ)).tr oS31.1)).tr (uS33.w gS31 (by omega) vS33 (by omega) (by omega)).i)).up (zs_okR rfl (by omega) (by omega) (by decide) (by decide)) rfl (by omega) (by omega)), fun z9 _ => (((zs_up_m (by omega)).trans (congrFun (uS33.2.2.1 82 (by decide)) 2)).trans (oS31.2.2 (fun z => z9 ((nI_eq (by omega) (by omega)).mp (hdn.symm.trans z))) (by rw [eS31, show wS31 = 0 by omega]))).trans ((((zs_up_m (by omega)).trans (uS33.2.2.2 9 (by omega))).trans (oS31.2.1.trans (hev.trans (by rw [hm0 h2]))))).symm⟩
              · refine g_iconst (v := (nI 1)) dX12_item_101 rfl ?_
                refine g_goto 106 dX12_item_102 (by decide) ?_
                refine g_putI 7 (C := RX12) (T := TX12) (N := 19) (ty := .boolean) dX12_item_106 (by decide) rfl rfl (by decide) rfl fl_RX12_105 rfl (by decide +kernel) ⟨rfl, rfl⟩ ?_
                refine g_ret dX12_item_109 rfl ?_
                exact ⟨rfl, (((((((zs_oI.rf hJ)).tr oS31.1)).tr (uS33.w gS31 (by omega) vS33 (by omega) (by omega)).i)).up (zs_okR rfl (by omega) (by omega) (by decide) (by decide)) rfl (by omega) (by omega)), fun _ z => absurd (zs_up_q.symm.trans z) (by decide)⟩
          · refine g_aload_n dX12_item_62 rfl rfl ?_
            refine g_callV (T := TX12) (NN := 19) [] (y_drawItem S hJ) dX12_item_63 kk_X12_item_X12_drawItem ml_RX12_144 mwX12_drawItem ewX12_drawItem (by decide) rfl rfl rfl rfl (Nat.le_of_ble_eq_true rfl) ?_
            rintro _ S36 ⟨rfl, oS36⟩
            obtain ⟨wS36, -, kS36, eS36⟩ := (oS36.1.1).1 80 7 0 1 rfl
            obtain ⟨qS36, -, pS36, gS36⟩ := (oS36.1.1).1 80 5 0 150 rfl
            refine g_goto 109 dX12_item_66 (by decide) ?_
            refine g_ret dX12_item_109 rfl ?_
            exact absurd ((zs_cmp0 h20).symm.trans (zs_cmp0 h30)) (by decide)
        · refine g_aload_n dX12_item_46 rfl rfl ?_
          refine g_iconst (v := (nI 1)) dX12_item_47 rfl ?_
          refine g_putI 7 (C := RX12) (T := TX12) (N := 19) (ty := .boolean) dX12_item_48 (by decide) rfl rfl (by decide) rfl fl_RX12_105 rfl (by decide +kernel) ⟨rfl, rfl⟩ ?_
          refine g_goto 109 dX12_item_51 (by decide) ?_
          refine g_ret dX12_item_109 rfl ?_
          exact ⟨rfl, (((zs_oI.rf hJ)).up (zs_okR rfl (by omega) (by omega) (by decide) (by decide)) rfl (by omega) (by omega)), fun _ z => absurd (zs_up_q.symm.trans z) (by decide)⟩
def zs_oG (S0 S : zs_S) : Prop := zs_J S ∧ zs_fm S0 S
set_option maxRecDepth 100000 in
theorem z_go_x (S0 : zs_S) (b tt k w : Nat) (S : zs_S) (hJ : zs_J S) (hf : zs_fm S0 S) (hw : S.1 80 7 = nI w) (hw1 : w ≤ 1) (hk : k ≤ 200) : zs_P MX12_goesThrough 91 [(3, .int (nI tt)), (2, .int (nI k)), (0, .ref 80), (1, .int (nI b))] [] S (fun v S2 => (∃ x, v = some (.int x)) ∧ zs_J S2 ∧ zs_fm S0 S2) := by
  refine g_aload_n dX12_goesThrough_91 rfl rfl ?_
  refine g_aload_n dX12_goesThrough_92 rfl rfl ?_
  refine g_getV 7 (C := RX12) (T := TX12) (N := 19) (v := (nI w)) dX12_goesThrough_93 (by decide) rfl rfl (by decide) rfl fl_RX12_105 hw ?_
  refine g_if_neN 103 dX12_goesThrough_96 (by decide) (by omega) (fun h1 => ?_) (fun h1 => ?_)
  · refine g_iconst (v := (nI 1)) dX12_goesThrough_103 rfl ?_
    refine g_goto 108 dX12_goesThrough_104 (by decide) ?_
    refine g_putI 7 (C := RX12) (T := TX12) (N := 19) (ty := .boolean) dX12_goesThrough_108 (by decide) rfl rfl (by decide) rfl fl_RX12_105 rfl (by decide +kernel) ⟨rfl, rfl⟩ ?_
    refine g_iload_n dX12_goesThrough_111 rfl rfl ?_
    refine g_iret dX12_goesThrough_112 rfl rfl ?_
    exact ⟨⟨_, rfl⟩, ((hJ).up (zs_okR rfl (by omega) (by omega) (by decide) (by decide))), ((hf).tr (zs_fm.up rfl))⟩
  · refine g_iload_n dX12_goesThrough_99 rfl rfl ?_
    refine g_if_neN 107 dX12_goesThrough_100 (by decide) (by omega) (fun h2 => ?_) (fun h2 => ?_)
    · refine g_iconst (v := (nI 0)) dX12_goesThrough_107 rfl ?_
      refine g_putI 7 (C := RX12) (T := TX12) (N := 19) (ty := .boolean) dX12_goesThrough_108 (by decide) rfl rfl (by decide) rfl fl_RX12_105 rfl (by decide +kernel) ⟨rfl, rfl⟩ ?_
      refine g_iload_n dX12_goesThrough_111 rfl rfl ?_
      refine g_iret dX12_goesThrough_112 rfl rfl ?_
      exact ⟨⟨_, rfl⟩, ((hJ).up (zs_okR rfl (by omega) (by omega) (by decide) (by decide))), ((hf).tr (zs_fm.up rfl))⟩
    · refine g_iconst (v := (nI 1)) dX12_goesThrough_103 rfl ?_
      refine g_goto 108 dX12_goesThrough_104 (by decide) ?_
      refine g_putI 7 (C := RX12) (T := TX12) (N := 19) (ty := .boolean) dX12_goesThrough_108 (by decide) rfl rfl (by decide) rfl fl_RX12_105 rfl (by decide +kernel) ⟨rfl, rfl⟩ ?_
      refine g_iload_n dX12_goesThrough_111 rfl rfl ?_
      refine g_iret dX12_goesThrough_112 rfl rfl ?_
      exact ⟨⟨_, rfl⟩, ((hJ).up (zs_okR rfl (by omega) (by omega) (by decide) (by decide))), ((hf).tr (zs_fm.up rfl))⟩
set_option maxRecDepth 100000 in
theorem z_go_4 (S0 : zs_S) (b tt k w : Nat) (S : zs_S) (hJ : zs_J S) (hf : zs_fm S0 S) (hw : S.1 80 7 = nI w) (hw1 : w ≤ 1) (h4 : tt = 4) (h44 : tt ≤ 4) (hk : k ≤ 200) : zs_P MX12_goesThrough 32 [(3, .int (nI tt)), (2, .int (nI k)), (0, .ref 80), (1, .int (nI b))] [] S (fun v S2 => (∃ x, v = some (.int x)) ∧ zs_J S2 ∧ zs_fm S0 S2) := by
  refine g_iload_n dX12_goesThrough_32 rfl rfl ?_
  refine g_iconst (v := (nI 4)) dX12_goesThrough_33 rfl ?_
  refine g_ic_eqN 91 dX12_goesThrough_34 (by decide) (by omega) (by omega) (fun _ => ?_) (fun z => absurd z (by omega))
  exact z_go_x S0 b tt k w S hJ hf hw hw1 hk
set_option maxRecDepth 100000 in
theorem z_go_w (S0 : zs_S) (b tt k w : Nat) (S : zs_S) (hJ : zs_J S) (hf : zs_fm S0 S) (hw : S.1 80 7 = nI w) (hw1 : w ≤ 1) (h4 : w ≠ 0) (h44 : tt ≤ 4) (hk : k ≤ 200) : zs_P MX12_goesThrough 32 [(3, .int (nI tt)), (2, .int (nI k)), (0, .ref 80), (1, .int (nI b))] [] S (fun v S2 => (∃ x, v = some (.int x)) ∧ zs_J S2 ∧ zs_fm S0 S2) := by
  refine g_iload_n dX12_goesThrough_32 rfl rfl ?_
  refine g_iconst (v := (nI 4)) dX12_goesThrough_33 rfl ?_
  refine g_ic_eqN 91 dX12_goesThrough_34 (by decide) (by omega) (by omega) (fun h1 => ?_) (fun h1 => ?_)
  · exact z_go_x S0 b tt k w S hJ hf hw hw1 hk
  · refine g_aload_n dX12_goesThrough_37 rfl rfl ?_
    refine g_getV 7 (C := RX12) (T := TX12) (N := 19) (v := (nI w)) dX12_goesThrough_38 (by decide) rfl rfl (by decide) rfl fl_RX12_105 hw ?_
    refine g_if_neN 91 dX12_goesThrough_41 (by decide) (by omega) (fun _ => ?_) (fun z => absurd z (by omega))
    exact z_go_x S0 b tt k w S hJ hf hw hw1 hk
set_option maxRecDepth 100000 in
theorem z_go_l (S0 : zs_S) (b : Nat) (hb1 : b ≤ 1) : ∀ (d q : Nat), 151 - q ≤ d → ∀ tt, tt ≤ 4 → ∀ k w ev, ∀ S, zs_J S → zs_fm S0 S → S.1 80 7 = nI w → S.1 80 8 = nI b → S.1 80 9 = nI ev → S.1 80 5 = nI q → w ≤ 1 → ev ≤ 5 → q ≤ 150 → k ≤ 150 → (tt ≠ 4 → w = 0 → k < q) → (k = 0 → ev = 0) → (¬ k = 0 → ¬ b = 0 → w = 0 → S.1 82 2 = nI ev) → zs_P MX12_goesThrough 32 [(3, .int (nI tt)), (2, .int (nI k)), (0, .ref 80), (1, .int (nI b))] [] S (fun v S2 => (∃ x, v = some (.int x)) ∧ zs_J S2 ∧ zs_fm S0 S2) := by
  intro d
  induction d with
  | zero =>
    intro q hd tt ht k w ev S hJ hf hw hb hev hq hw1 hev1 hq1 hk1 hkq hm0 hC
    exact absurd hq1 (by omega)
  | succ d ih =>
    intro q hd tt ht k w ev S hJ hf hw hb hev hq hw1 hev1 hq1 hk1 hkq hm0 hC
    have ih : ∀ q, 151 - q ≤ d → ∀ tt, tt ≤ 4 → ∀ k w ev, ∀ S, zs_J S → zs_fm S0 S → S.1 80 7 = nI w → S.1 80 8 = nI b → S.1 80 9 = nI ev → S.1 80 5 = nI q → w ≤ 1 → ev ≤ 5 → q ≤ 150 → k ≤ 150 → (tt ≠ 4 → w = 0 → k < q) → (k = 0 → ev = 0) → (¬ k = 0 → ¬ b = 0 → w = 0 → S.1 82 2 = nI ev) → zs_P MX12_goesThrough 32 [(3, .int (nI tt)), (2, .int (nI k)), (0, .ref 80), (1, .int (nI b))] [] S (fun v S2 => (∃ x, v = some (.int x)) ∧ zs_J S2 ∧ zs_fm S0 S2) := ih
    refine g_iload_n dX12_goesThrough_32 rfl rfl ?_
    refine g_iconst (v := (nI 4)) dX12_goesThrough_33 rfl ?_
    refine g_ic_eqN 91 dX12_goesThrough_34 (by decide) (by omega) (by omega) (fun h1 => ?_) (fun h1 => ?_)
    · exact (z_go_x S0 b tt k w _ hJ hf hw (by omega) (by omega)).lv (zs_mc 0 rfl (zs_mc 1 rfl (zs_mc 2 rfl (zs_mc 3 rfl zs_mn))))
    · refine g_aload_n dX12_goesThrough_37 rfl rfl ?_
      refine g_getV 7 (C := RX12) (T := TX12) (N := 19) (v := (nI w)) dX12_goesThrough_38 (by decide) rfl rfl (by decide) rfl fl_RX12_105 hw ?_
      refine g_if_neN 91 dX12_goesThrough_41 (by decide) (by omega) (fun h2 => ?_) (fun h2 => ?_)
      · exact (z_go_x S0 b tt k w _ hJ hf hw (by omega) (by omega)).lv (zs_mc 0 rfl (zs_mc 1 rfl (zs_mc 2 rfl (zs_mc 3 rfl zs_mn))))
      · refine g_aload_n dX12_goesThrough_44 rfl rfl ?_
        refine g_iload_n dX12_goesThrough_45 rfl rfl ?_
        refine g_if_eqN 53 dX12_goesThrough_46 (by decide) (by omega) (fun h3 => ?_) (fun h3 => ?_)
        · refine g_iconst (v := (nI 0)) dX12_goesThrough_53 rfl ?_
          refine g_putI 7 (C := RX12) (T := TX12) (N := 19) (ty := .boolean) dX12_goesThrough_54 (by decide) rfl rfl (by decide) rfl fl_RX12_105 rfl (by decide +kernel) ⟨rfl, rfl⟩ ?_
          refine g_aload_n dX12_goesThrough_57 rfl rfl ?_
          refine g_getV 7 (C := RX12) (T := TX12) (N := 19) (v := (nI 0)) dX12_goesThrough_58 (by decide) rfl rfl (by decide) rfl fl_RX12_105 zs_up_q ?_
          refine g_if_neN 72 dX12_goesThrough_61 (by decide) (by omega) (fun z => absurd z (by omega)) (fun _ => ?_)
          refine g_aload_n dX12_goesThrough_64 rfl rfl ?_
          refine g_iload_n dX12_goesThrough_65 rfl rfl ?_
          refine g_callV (T := TX12) (NN := 19) [] (y_item (nI k) ev b (zs_up S.1 80 7 (nI 0), S.2) ((hJ).up (zs_okR rfl (by omega) (by omega) (by decide) (by decide))) ((zs_up_m (by omega)).trans hev) hev1 ((zs_up_m (by omega)).trans hb) hb1 zs_up_q (fun z => hm0 ((nI_eq (by omega) (by omega)).mp z)) (fun z z9 => (zs_up_m (by omega)).trans (hC (fun y => z (by rw [y]; rfl)) z9 (by omega)))) dX12_goesThrough_66 kk_X12_goesThrough_X12_item ml_RX12_154 mwX12_item ewX12_item (by decide) rfl rfl rfl rfl (Nat.le_of_ble_eq_true rfl) ?_
          rintro _ S4 ⟨rfl, oS4⟩
          obtain ⟨wS4, -, kS4, eS4⟩ := (oS4.1.1).1 80 7 0 1 rfl
          obtain ⟨vS4, -, jS4, iS4⟩ := (oS4.1.1).1 80 9 0 5 rfl
          obtain ⟨qaS4, qS4, paS4, pS4, gaS4, gS4, mS4⟩ := oS4.1.2.2.2
          have hqqS4 := (nI_eq (by omega) (by omega)).mp (gaS4.symm.trans ((zs_up_m (by omega)).trans hq))
          refine g_iinc (v := (nI (k + 1))) (lv' := [(2, .int (nI (k + 1))), (3, .int (nI tt)), (0, .ref 80), (1, .int (nI b))]) dX12_goesThrough_69 rfl (nI_1 k) (by decide) rfl ?_
          refine g_aload_n dX12_goesThrough_72 rfl rfl ?_
          refine g_getV 7 (C := RX12) (T := TX12) (N := 19) (v := (nI wS4)) dX12_goesThrough_73 (by decide) rfl rfl (by decide) rfl fl_RX12_105 eS4 ?_
          refine g_if_eqN 83 dX12_goesThrough_76 (by decide) (by omega) (fun h5 => ?_) (fun h5 => ?_)
          · refine g_aload_n dX12_goesThrough_83 rfl rfl ?_
            refine g_callV (T := TX12) (NN := 19) [] (y_token qS4 S4 oS4.1.1 gS4 (by omega)) dX12_goesThrough_84 kk_X12_goesThrough_X12_token ml_RX12_109 mwX12_token ewX12_token (by decide) rfl rfl rfl rfl (Nat.le_of_ble_eq_true rfl) ?_
            rintro _ S6 ⟨_, rfl, uS6, t7, zS6, yS6, rfl, vS6, aS6, xS6, cS6⟩
            refine g_istore_n (lv' := [(3, .int (nI t7)), (2, .int (nI (k + 1))), (0, .ref 80), (1, .int (nI b))]) dX12_goesThrough_87 rfl (by decide) rfl ?_
            refine g_goto 32 dX12_goesThrough_88 (by decide) ?_
            by_cases h4 : t7 = 4
            · exact z_go_4 S0 b t7 (k + 1) wS4 _ uS6.1 ((((((hf).tr (zs_fm.up rfl))).tr oS4.1.2.1)).tr uS6.2.1) ((uS6.2.2.2 7 (by omega)).trans eS4) (by omega) h4 (by omega) (by omega)
            have h5 := cS6 h4
            exact ih zS6 (by omega) t7 (by omega) (k + 1) wS4 vS4 _ uS6.1 ((((((hf).tr (zs_fm.up rfl))).tr oS4.1.2.1)).tr uS6.2.1) ((uS6.2.2.2 7 (by omega)).trans eS4) ((uS6.2.2.2 8 (by omega)).trans (oS4.1.2.2.1.trans ((zs_up_m (by omega)).trans hb))) ((uS6.2.2.2 9 (by omega)).trans iS4) vS6 (by omega) (by omega) (by omega) (by omega) (by omega) (fun z => absurd z (by omega)) (fun _ z9 _ => (congrFun (uS6.2.2.1 82 (by decide)) 2).trans ((oS4.2 z9 (by rw [eS4, show wS4 = 0 by omega])).trans iS4))
          · refine g_iload_n dX12_goesThrough_79 rfl rfl ?_
            refine g_goto 87 dX12_goesThrough_80 (by decide) ?_
            refine g_istore_n (lv' := [(3, .int (nI tt)), (2, .int (nI (k + 1))), (0, .ref 80), (1, .int (nI b))]) dX12_goesThrough_87 rfl (by decide) rfl ?_
            refine g_goto 32 dX12_goesThrough_88 (by decide) ?_
            exact z_go_w S0 b tt (k + 1) wS4 _ oS4.1.1 ((((hf).tr (zs_fm.up rfl))).tr oS4.1.2.1) eS4 (by omega) (by omega) (by omega) (by omega)
        · refine g_iconst (v := (nI 1)) dX12_goesThrough_49 rfl ?_
          refine g_goto 54 dX12_goesThrough_50 (by decide) ?_
          refine g_putI 7 (C := RX12) (T := TX12) (N := 19) (ty := .boolean) dX12_goesThrough_54 (by decide) rfl rfl (by decide) rfl fl_RX12_105 rfl (by decide +kernel) ⟨rfl, rfl⟩ ?_
          refine g_aload_n dX12_goesThrough_57 rfl rfl ?_
          refine g_getV 7 (C := RX12) (T := TX12) (N := 19) (v := (nI 1)) dX12_goesThrough_58 (by decide) rfl rfl (by decide) rfl fl_RX12_105 zs_up_q ?_
          refine g_if_neN 72 dX12_goesThrough_61 (by decide) (by omega) (fun _ => ?_) (fun z => absurd z (by omega))
          refine g_aload_n dX12_goesThrough_72 rfl rfl ?_
          refine g_getV 7 (C := RX12) (T := TX12) (N := 19) (v := (nI 1)) dX12_goesThrough_73 (by decide) rfl rfl (by decide) rfl fl_RX12_105 zs_up_q ?_
          refine g_if_eqN 83 dX12_goesThrough_76 (by decide) (by omega) (fun z => absurd z (by omega)) (fun _ => ?_)
          refine g_iload_n dX12_goesThrough_79 rfl rfl ?_
          refine g_goto 87 dX12_goesThrough_80 (by decide) ?_
          refine g_istore_n (lv' := [(3, .int (nI tt)), (2, .int (nI k)), (0, .ref 80), (1, .int (nI b))]) dX12_goesThrough_87 rfl (by decide) rfl ?_
          refine g_goto 32 dX12_goesThrough_88 (by decide) ?_
          exact z_go_w S0 b tt k 1 _ ((hJ).up (zs_okR rfl (by omega) (by omega) (by decide) (by decide))) ((hf).tr (zs_fm.up rfl)) zs_up_q (by omega) (by omega) (by omega) (by omega)
set_option maxRecDepth 100000 in
theorem y_goesThrough (b : Nat) (hb1 : b ≤ 1) : zs_U MX12_goesThrough [.ref 80, .int (nI b)] zs_Ri := by
  intro S hJ
  refine zs_C.of (by decide) (Nat.le_of_ble_eq_true rfl) ?_
  show zs_P MX12_goesThrough 0 [(0, .ref 80), (1, .int (nI b))] [] S _
  refine g_aload_n dX12_goesThrough_0 rfl rfl ?_
  refine g_iconst (v := (nI 0)) dX12_goesThrough_1 rfl ?_
  refine g_putI 5 (C := RX12) (T := TX12) (N := 19) (ty := .int) dX12_goesThrough_2 (by decide) rfl rfl (by decide) rfl fl_RX12_79 rfl (by decide +kernel) ⟨rfl, rfl⟩ ?_
  refine g_aload_n dX12_goesThrough_5 rfl rfl ?_
  refine g_iconst (v := (nI 0)) dX12_goesThrough_6 rfl ?_
  refine g_putI 7 (C := RX12) (T := TX12) (N := 19) (ty := .boolean) dX12_goesThrough_7 (by decide) rfl rfl (by decide) rfl fl_RX12_105 rfl (by decide +kernel) ⟨rfl, rfl⟩ ?_
  refine g_aload_n dX12_goesThrough_10 rfl rfl ?_
  refine g_iload_n dX12_goesThrough_11 rfl rfl ?_
  refine g_putI 8 (C := RX12) (T := TX12) (N := 19) (ty := .boolean) dX12_goesThrough_12 (by decide) rfl rfl (by decide) rfl fl_RX12_118 rfl (by decide +kernel) (zs_nb2 hb1) ?_
  refine g_aload_n dX12_goesThrough_15 rfl rfl ?_
  refine g_iconst (v := (nI 0)) dX12_goesThrough_16 rfl ?_
  refine g_putI 9 (C := RX12) (T := TX12) (N := 19) (ty := .int) dX12_goesThrough_17 (by decide) rfl rfl (by decide) rfl fl_RX12_125 rfl (by decide +kernel) ⟨rfl, rfl⟩ ?_
  refine g_aload_n dX12_goesThrough_20 rfl rfl ?_
  refine g_iconst (v := (nI 0)) dX12_goesThrough_21 rfl ?_
  refine g_putI 10 (C := RX12) (T := TX12) (N := 19) (ty := .int) dX12_goesThrough_22 (by decide) rfl rfl (by decide) rfl fl_RX12_115 rfl (by decide +kernel) ⟨rfl, rfl⟩ ?_
  refine g_iconst (v := (nI 0)) dX12_goesThrough_25 rfl ?_
  refine g_istore_n (lv' := [(2, .int (nI 0)), (0, .ref 80), (1, .int (nI b))]) dX12_goesThrough_26 rfl (by decide) rfl ?_
  refine g_aload_n dX12_goesThrough_27 rfl rfl ?_
  refine g_callV (T := TX12) (NN := 19) [] (y_token 0 (zs_up (zs_up (zs_up (zs_up (zs_up S.1 80 5 (nI 0), S.2).1 80 7 (nI 0), (zs_up S.1 80 5 (nI 0), S.2).2).1 80 8 (nI b), (zs_up (zs_up S.1 80 5 (nI 0), S.2).1 80 7 (nI 0), (zs_up S.1 80 5 (nI 0), S.2).2).2).1 80 9 (nI 0), (zs_up (zs_up (zs_up S.1 80 5 (nI 0), S.2).1 80 7 (nI 0), (zs_up S.1 80 5 (nI 0), S.2).2).1 80 8 (nI b), (zs_up (zs_up S.1 80 5 (nI 0), S.2).1 80 7 (nI 0), (zs_up S.1 80 5 (nI 0), S.2).2).2).2).1 80 10 (nI 0), (zs_up (zs_up (zs_up (zs_up S.1 80 5 (nI 0), S.2).1 80 7 (nI 0), (zs_up S.1 80 5 (nI 0), S.2).2).1 80 8 (nI b), (zs_up (zs_up S.1 80 5 (nI 0), S.2).1 80 7 (nI 0), (zs_up S.1 80 5 (nI 0), S.2).2).2).1 80 9 (nI 0), (zs_up (zs_up (zs_up S.1 80 5 (nI 0), S.2).1 80 7 (nI 0), (zs_up S.1 80 5 (nI 0), S.2).2).1 80 8 (nI b), (zs_up (zs_up S.1 80 5 (nI 0), S.2).1 80 7 (nI 0), (zs_up S.1 80 5 (nI 0), S.2).2).2).2).2) ((((((((((hJ).up (zs_okR rfl (by omega) (by omega) (by decide) (by decide)))).up (zs_okR rfl (by omega) (by omega) (by decide) (by decide)))).up (zs_okR rfl (by omega) (by omega) (by decide) (by decide)))).up (zs_okR rfl (by omega) (by omega) (by decide) (by decide)))).up (zs_okR rfl (by omega) (by omega) (by decide) (by decide))) ((zs_up_m (by omega)).trans ((zs_up_m (by omega)).trans ((zs_up_m (by omega)).trans ((zs_up_m (by omega)).trans zs_up_q)))) (by omega)) dX12_goesThrough_28 kk_X12_goesThrough_X12_token ml_RX12_109 mwX12_token ewX12_token (by decide) rfl rfl rfl rfl (Nat.le_of_ble_eq_true rfl) ?_
  rintro _ S1 ⟨_, rfl, uS1, t2, zS1, yS1, rfl, vS1, aS1, xS1, cS1⟩
  refine g_istore_n (lv' := [(3, .int (nI t2)), (2, .int (nI 0)), (0, .ref 80), (1, .int (nI b))]) dX12_goesThrough_31 rfl (by decide) rfl ?_
  exact (z_go_l S b hb1 151 zS1 (by omega) t2 (by omega) 0 0 0 _ uS1.1 ((((((((((((zs_fm.rf).tr (zs_fm.up rfl))).tr (zs_fm.up rfl))).tr (zs_fm.up rfl))).tr (zs_fm.up rfl))).tr (zs_fm.up rfl))).tr uS1.2.1) ((uS1.2.2.2 7 (by omega)).trans ((zs_up_m (by omega)).trans ((zs_up_m (by omega)).trans ((zs_up_m (by omega)).trans zs_up_q)))) ((uS1.2.2.2 8 (by omega)).trans ((zs_up_m (by omega)).trans ((zs_up_m (by omega)).trans zs_up_q))) ((uS1.2.2.2 9 (by omega)).trans ((zs_up_m (by omega)).trans zs_up_q)) vS1 (by omega) (by omega) (by omega) (by omega) (by omega) (fun _ => rfl) (fun z => absurd rfl z)).lv (zs_mc 0 rfl (zs_mc 1 rfl (zs_mc 2 rfl (zs_mc 3 rfl zs_mn))))
set_option maxRecDepth 100000 in
theorem y_X12_read : zs_U MX12_read [.ref 80] zs_Ri := by
  refine zs_Vof (by decide) (Nat.le_of_ble_eq_true rfl) ?_
  show zs_V MX12_read 0 [(0, .ref 80)] [] zs_Ri
  refine n_aload_n dX12_read_0 rfl rfl ?_
  refine n_iconst (v := (nI 0)) dX12_read_1 rfl ?_
  refine n_callV (T := TX12) (NN := 19) [] (y_goesThrough 0 (by decide)) dX12_read_2 kk_X12_read_X12_goesThrough ml_RX12_158 mwX12_goesThrough ewX12_goesThrough (by decide) rfl rfl rfl rfl (Nat.le_of_ble_eq_true rfl) ?_
  rintro _ ⟨x1, rfl⟩
  refine n_pop dX12_read_5 rfl ?_
  refine n_aload_n dX12_read_6 rfl rfl ?_
  refine n_getIR (lo := 0) (up := 1) 7 (C := RX12) (T := TX12) (N := 19) dX12_read_7 (by decide) rfl rfl (by decide) rfl fl_RX12_105 rfl (fun m2 hm2 km2 => ?_)
  refine n_if_eqN 23 dX12_read_10 (by decide) (by omega) (fun h3 => ?_) (fun h3 => ?_)
  · refine n_aload_n dX12_read_23 rfl rfl ?_
    refine n_iconst (v := (nI 1)) dX12_read_24 rfl ?_
    refine n_callV (T := TX12) (NN := 19) [] (y_goesThrough 1 (by decide)) dX12_read_25 kk_X12_read_X12_goesThrough ml_RX12_158 mwX12_goesThrough ewX12_goesThrough (by decide) rfl rfl rfl rfl (Nat.le_of_ble_eq_true rfl) ?_
    rintro _ ⟨x4, rfl⟩
    exact n_iret dX12_read_28 rfl rfl ⟨_, rfl⟩
  · refine n_bipush (v := (-10)) dX12_read_13 rfl ?_
    refine n_aload_n dX12_read_15 rfl rfl ?_
    refine n_getIR (lo := 0) (up := 150) 6 (C := RX12) (T := TX12) (N := 19) dX12_read_16 (by decide) rfl rfl (by decide) rfl fl_RX12_85 rfl (fun m5 hm5 km5 => ?_)
    refine n_isub dX12_read_19 (fun x6 => ?_)
    refine n_goto 28 dX12_read_20 (by decide) ?_
    exact n_iret dX12_read_28 rfl rfl ⟨_, rfl⟩
