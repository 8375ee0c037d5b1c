theorem tp_itN {B : Nat → Nat} {L fr ey j : Nat} (h : tx_mt B L j ≠ 0) : tp_item (tx_k B L) (tx_v B L) fr ey j = (false, j) := by
  have hk : ¬ 4 ≤ tx_k B L j := fun z => h (tx_mkw z)
  exact (if_neg (by omega)).trans ((if_neg (by omega)).trans ((if_neg (by omega)).trans (if_neg (by omega))))
theorem tp_al0 {K V : Nat → Nat} {fr d m ey j : Nat} (h : K (j + 1) = 0) : tp_all K V fr (d + 1) m ey j = (true, m, j + 1, ey) := if_pos h
theorem tp_alF {K V : Nat → Nat} {fr d m ey j : Nat} (h : K (j + 1) ≠ 0) (hi : ¬ (tp_item K V fr ey (j + 1)).1 = true) : tp_all K V fr (d + 1) m ey j = (false, m, (tp_item K V fr ey (j + 1)).2, ey) := (if_neg h).trans (if_neg hi)
theorem tp_alT {K V : Nat → Nat} {fr d m ey j : Nat} (h : K (j + 1) ≠ 0) (hi : (tp_item K V fr ey (j + 1)).1 = true) : tp_all K V fr (d + 1) m ey j = tp_all K V fr d (m + 1) (tp_ey K ey (j + 1)) (tp_item K V fr ey (j + 1)).2 := (if_neg h).trans (if_pos hi)
def zs_gr (S0 S2 : zs_S) (v : Option Value) (B : Nat → Nat) (L dn fr lm : Nat) (R : Bool × Nat × Nat × Nat) : Prop := zs_oY S0 S2 ∧ zs_mp S2 B L (tp_b R.1) R.2.2.1 ∧ ∃ x, v = some (.int x) ∧ (R.1 = true → x = nI R.2.1 ∧ (dn ≠ 0 → S2.1 82 2 = nI R.2.2.2 ∧ S2.1 82 0 = nI fr ∧ S2.1 82 1 = nI lm))
set_option maxRecDepth 100000 in
theorem z_gE_w (B : Nat → Nat) (L j k tt dn : Nat) (S0 S : zs_S) (ht4 : tt ≤ 4) (hS : zs_oY S0 S) (hmp : zs_mp S B L 1 j) : zs_P MX12_goesThrough 32 [(3, .int (nI tt)), (2, .int (nI k)), (0, .ref 80), (1, .int (nI dn))] [] S (fun v S2 => zs_oY S0 S2 ∧ zs_mp S2 B L 1 j ∧ ∃ x, v = some (.int x)) := by
  refine g_iload_n dX12_goesThrough_32 rfl rfl ?_
  refine g_iconst (v := (nI 4)) dX12_goesThrough_33 rfl ?_
  refine g_ic_eqN 91 dX12_goesThrough_34 (by decide) (by omega) (by omega) (fun h1 => ?_) (fun h1 => ?_)
  · refine g_aload_n dX12_goesThrough_91 rfl rfl ?_
    refine g_aload_n dX12_goesThrough_92 rfl rfl ?_
    refine g_getV 7 (C := RX12) (T := TX12) (N := 19) (v := (nI 1)) dX12_goesThrough_93 (by decide) rfl rfl (by decide) rfl fl_RX12_105 hmp.1 ?_
    refine g_if_neN 103 dX12_goesThrough_96 (by decide) (by omega) (fun _ => ?_) (fun z => absurd z (by omega))
    refine g_iconst (v := (nI 1)) dX12_goesThrough_103 rfl ?_
    refine g_goto 108 dX12_goesThrough_104 (by decide) ?_
    refine g_putI 7 (C := RX12) (T := TX12) (N := 19) (ty := .boolean) dX12_goesThrough_108 (by decide) rfl rfl (by decide) rfl fl_RX12_105 rfl (by decide +kernel) ⟨rfl, rfl⟩ ?_
    refine g_iload_n dX12_goesThrough_111 rfl rfl ?_
    refine g_iret dX12_goesThrough_112 rfl rfl ?_
    exact ⟨((hS).up (zs_okR rfl (by omega) (by omega) (by decide) (by decide)) rfl (by decide) (by omega) (by omega) (by decide)), ⟨zs_up_q, ((zs_up_m (by omega)).trans hmp.2.1), ((zs_up_m (by omega)).trans hmp.2.2)⟩, _, rfl⟩
  · refine g_aload_n dX12_goesThrough_37 rfl rfl ?_
    refine g_getV 7 (C := RX12) (T := TX12) (N := 19) (v := (nI 1)) dX12_goesThrough_38 (by decide) rfl rfl (by decide) rfl fl_RX12_105 hmp.1 ?_
    refine g_if_neN 91 dX12_goesThrough_41 (by decide) (by omega) (fun _ => ?_) (fun z => absurd z (by omega))
    refine g_aload_n dX12_goesThrough_91 rfl rfl ?_
    refine g_aload_n dX12_goesThrough_92 rfl rfl ?_
    refine g_getV 7 (C := RX12) (T := TX12) (N := 19) (v := (nI 1)) dX12_goesThrough_93 (by decide) rfl rfl (by decide) rfl fl_RX12_105 hmp.1 ?_
    refine g_if_neN 103 dX12_goesThrough_96 (by decide) (by omega) (fun _ => ?_) (fun z => absurd z (by omega))
    refine g_iconst (v := (nI 1)) dX12_goesThrough_103 rfl ?_
    refine g_goto 108 dX12_goesThrough_104 (by decide) ?_
    refine g_putI 7 (C := RX12) (T := TX12) (N := 19) (ty := .boolean) dX12_goesThrough_108 (by decide) rfl rfl (by decide) rfl fl_RX12_105 rfl (by decide +kernel) ⟨rfl, rfl⟩ ?_
    refine g_iload_n dX12_goesThrough_111 rfl rfl ?_
    refine g_iret dX12_goesThrough_112 rfl rfl ?_
    exact ⟨((hS).up (zs_okR rfl (by omega) (by omega) (by decide) (by decide)) rfl (by decide) (by omega) (by omega) (by decide)), ⟨zs_up_q, ((zs_up_m (by omega)).trans hmp.2.1), ((zs_up_m (by omega)).trans hmp.2.2)⟩, _, rfl⟩
set_option maxRecDepth 100000 in
theorem z_gE (B : Nat → Nat) (L dn fr lm : Nat) (S0 : zs_S) (hT : zs_tm S0 B L) (hdn1 : dn ≤ 1) (hfr0 : 1 ≤ fr) (hfr1 : fr ≤ 12) : ∀ (d m ey j : Nat) (S : zs_S), zs_oY S0 S → zs_mp S B L 0 (j + 1) → S.1 80 8 = nI dn → S.1 80 9 = nI ey → S.1 80 10 = nI fr → (dn ≠ 0 → S.1 82 2 = nI ey ∧ S.1 82 0 = nI fr ∧ S.1 82 1 = nI lm) → ey ≤ 5 → 1 ≤ m → m ≤ j → L + 1 ≤ d + j → tx_k B L j ≠ 0 → zs_P MX12_goesThrough 32 [(3, .int (nI (tx_mt B L (j + 1)))), (2, .int (nI m)), (0, .ref 80), (1, .int (nI dn))] [] S (fun v S2 => zs_gr S0 S2 v B L dn fr lm (tp_all (tx_k B L) (tx_v B L) fr d m ey j)) := by
  have hL := hT.1
  intro d
  induction d with
  | zero =>
    intro m ey j S hS hmp hdn hey hfr hC hey1 hm1 hmj hd hkj
    exact absurd (tx_kL hkj) (by omega)
  | succ d ih =>
    intro m ey j S hS hmp hdn hey hfr hC hey1 hm1 hmj hd hkj
    have hjL := tx_kL hkj
    have m4 := tx_mt4 (B := B) (L := L) (j := j + 1)
    by_cases h4 : tx_mt B L (j + 1) = 4
    · rw [tp_al0 (tx_mk0.mp h4)]
      refine g_iload_n dX12_goesThrough_32 rfl rfl ?_
      refine g_iconst (v := (nI 4)) dX12_goesThrough_33 rfl ?_
      refine g_ic_eqN 91 dX12_goesThrough_34 (by decide) (by omega) (by omega) (fun _ => ?_) (fun z => absurd z (by omega))
      refine g_aload_n dX12_goesThrough_91 rfl rfl ?_
      refine g_aload_n dX12_goesThrough_92 rfl rfl ?_
      refine g_getV 7 (C := RX12) (T := TX12) (N := 19) (v := (nI 0)) dX12_goesThrough_93 (by decide) rfl rfl (by decide) rfl fl_RX12_105 hmp.1 ?_
      refine g_if_neN 103 dX12_goesThrough_96 (by decide) (by omega) (fun z => absurd z (by omega)) (fun _ => ?_)
      refine g_iload_n dX12_goesThrough_99 rfl rfl ?_
      refine g_if_neN 107 dX12_goesThrough_100 (by decide) (by omega) (fun _ => ?_) (fun z => absurd z (by omega))
      refine g_iconst (v := (nI 0)) dX12_goesThrough_107 rfl ?_
      refine g_putI 7 (C := RX12) (T := TX12) (N := 19) (ty := .boolean) dX12_goesThrough_108 (by decide) rfl rfl (by decide) rfl fl_RX12_105 rfl (by decide +kernel) ⟨rfl, rfl⟩ ?_
      refine g_iload_n dX12_goesThrough_111 rfl rfl ?_
      refine g_iret dX12_goesThrough_112 rfl rfl ?_
      exact ⟨((hS).up (zs_okR rfl (by omega) (by omega) (by decide) (by decide)) rfl (by decide) (by omega) (by omega) (by decide)), ⟨zs_up_q, ((zs_up_m (by omega)).trans hmp.2.1), ((zs_up_m (by omega)).trans hmp.2.2)⟩, _, rfl, fun _ => ⟨rfl, fun z => ⟨(zs_up_m (by omega)).trans (hC z).1, (zs_up_m (by omega)).trans (hC z).2.1, (zs_up_m (by omega)).trans (hC z).2.2⟩⟩⟩
    have hk0 : tx_k B L (j + 1) ≠ 0 := fun z => h4 (tx_mk0.mpr z)
    by_cases hm0 : tx_mt B L (j + 1) = 0
    · by_cases hit : (tp_item (tx_k B L) (tx_v B L) fr ey (j + 1)).1 = true
      · rw [tp_alT hk0 hit]
        have hG := tp_itemG hit
        refine g_iload_n dX12_goesThrough_32 rfl rfl ?_
        refine g_iconst (v := (nI 4)) dX12_goesThrough_33 rfl ?_
        refine g_ic_eqN 91 dX12_goesThrough_34 (by decide) (by omega) (by omega) (fun z => absurd z (by omega)) (fun _ => ?_)
        refine g_aload_n dX12_goesThrough_37 rfl rfl ?_
        refine g_getV 7 (C := RX12) (T := TX12) (N := 19) (v := (nI 0)) dX12_goesThrough_38 (by decide) rfl rfl (by decide) rfl fl_RX12_105 hmp.1 ?_
        refine g_if_neN 91 dX12_goesThrough_41 (by decide) (by omega) (fun z => absurd z (by omega)) (fun _ => ?_)
        refine g_aload_n dX12_goesThrough_44 rfl rfl ?_
        refine g_iload_n dX12_goesThrough_45 rfl rfl ?_
        refine g_if_eqN 53 dX12_goesThrough_46 (by decide) (by omega) (fun _ => ?_) (fun z => absurd z (by omega))
        refine g_iconst (v := (nI 0)) dX12_goesThrough_53 rfl ?_
        refine g_putI 7 (C := RX12) (T := TX12) (N := 19) (ty := .boolean) dX12_goesThrough_54 (by decide) rfl rfl (by decide) rfl fl_RX12_105 rfl (by decide +kernel) ⟨rfl, rfl⟩ ?_
        refine g_aload_n dX12_goesThrough_57 rfl rfl ?_
        refine g_getV 7 (C := RX12) (T := TX12) (N := 19) (v := (nI 0)) dX12_goesThrough_58 (by decide) rfl rfl (by decide) rfl fl_RX12_105 zs_up_q ?_
        refine g_if_neN 72 dX12_goesThrough_61 (by decide) (by omega) (fun z => absurd z (by omega)) (fun _ => ?_)
        refine g_aload_n dX12_goesThrough_64 rfl rfl ?_
        refine g_iload_n dX12_goesThrough_65 rfl rfl ?_
        refine g_callV (T := TX12) (NN := 19) [] (y_itemE B L (zs_up S.1 80 7 (nI 0), S.2) ((((hS).up (zs_okR rfl (by omega) (by omega) (by decide) (by decide)) rfl (by decide) (by omega) (by omega) (by decide))).y hT) ((hS.1).up (zs_okR rfl (by omega) (by omega) (by decide) (by decide))) m (j + 1) dn ey fr (by omega) (by omega) hdn1 ((zs_up_m (by omega)).trans hdn) hey1 ((zs_up_m (by omega)).trans hey) hfr0 hfr1 ((zs_up_m (by omega)).trans hfr) (fun z => (zs_up_m (by omega)).trans (hC z).1) ⟨zs_up_q, ((zs_up_m (by omega)).trans hmp.2.1), ((zs_up_m (by omega)).trans hmp.2.2)⟩ hm0) dX12_goesThrough_66 kk_X12_goesThrough_X12_item ml_RX12_154 mwX12_item ewX12_item (by decide) rfl rfl rfl rfl (Nat.le_of_ble_eq_true rfl) ?_
        rintro _ S1 ⟨rfl, oS1⟩
        have pS1 := oS1.2.1
        rw [tp_bT hit] at pS1
        refine g_iinc (v := (nI (m + 1))) (lv' := [(2, .int (nI (m + 1))), (3, .int (nI (tx_mt B L (j + 1)))), (0, .ref 80), (1, .int (nI dn))]) dX12_goesThrough_69 rfl (nI_1 m) (by decide) rfl ?_
        refine g_aload_n dX12_goesThrough_72 rfl rfl ?_
        refine g_getV 7 (C := RX12) (T := TX12) (N := 19) (v := (nI 0)) dX12_goesThrough_73 (by decide) rfl rfl (by decide) rfl fl_RX12_105 pS1.1 ?_
        refine g_if_eqN 83 dX12_goesThrough_76 (by decide) (by omega) (fun _ => ?_) (fun z => absurd z (by omega))
        refine g_aload_n dX12_goesThrough_83 rfl rfl ?_
        refine g_callV (T := TX12) (NN := 19) [] (y_tokenE B L ((tp_item (tx_k B L) (tx_v B L) fr ey (j + 1)).2 + 1) S1 ((((((hS).up (zs_okR rfl (by omega) (by omega) (by decide) (by decide)) rfl (by decide) (by omega) (by omega) (by decide))).tr oS1.1)).y hT) oS1.1.1 pS1.2.1) dX12_goesThrough_84 kk_X12_goesThrough_X12_token ml_RX12_109 mwX12_token ewX12_token (by decide) rfl rfl rfl rfl (Nat.le_of_ble_eq_true rfl) ?_
        rintro _ S2 ⟨_, rfl, oS2, rfl, pS2, qS2, -⟩
        refine g_istore_n (lv' := [(3, .int (nI (tx_mt B L ((tp_item (tx_k B L) (tx_v B L) fr ey (j + 1)).2 + 1)))), (2, .int (nI (m + 1))), (0, .ref 80), (1, .int (nI dn))]) dX12_goesThrough_87 rfl (by decide) rfl ?_
        refine g_goto 32 dX12_goesThrough_88 (by decide) ?_
        exact (ih (m + 1) (tp_ey (tx_k B L) ey (j + 1)) (tp_item (tx_k B L) (tx_v B L) fr ey (j + 1)).2 _ ((((((hS).up (zs_okR rfl (by omega) (by omega) (by decide) (by decide)) rfl (by decide) (by omega) (by omega) (by decide))).tr oS1.1)).tr oS2.ox.g) ⟨((oS2.2.2.2 7 (by omega)).trans pS1.1), pS2, qS2⟩ ((oS2.2.2.2 8 (by omega)).trans (oS1.1.e8.trans ((zs_up_m (by omega)).trans hdn))) ((oS2.2.2.2 9 (by omega)).trans (oS1.2.2 hit).1) ((oS2.2.2.2 10 (by omega)).trans (oS1.2.2 hit).2.1) (fun z => ⟨((congrFun (oS2.2.2.1 82 (by decide)) 2).trans ((oS1.2.2 hit).2.2.1 z)), ((congrFun (oS2.2.2.1 82 (by decide)) 0).trans ((oS1.2.2 hit).2.2.2.1.trans ((zs_up_m (by omega)).trans (hC z).2.1))), ((congrFun (oS2.2.2.1 82 (by decide)) 1).trans ((oS1.2.2 hit).2.2.2.2.trans ((zs_up_m (by omega)).trans (hC z).2.2)))⟩) (tp_eyB hit hey1) (by omega) (by omega) (by omega) (by rw [tp_item2 hit]; omega)).lv (zs_mc 0 rfl (zs_mc 1 rfl (zs_mc 2 rfl (zs_mc 3 rfl zs_mn))))
      · rw [tp_alF hk0 hit]
        suffices hz : zs_P MX12_goesThrough 32 [(3, .int (nI (tx_mt B L (j + 1)))), (2, .int (nI m)), (0, .ref 80), (1, .int (nI dn))] [] S (fun v S2 => zs_oY S0 S2 ∧ zs_mp S2 B L 1 (tp_item (tx_k B L) (tx_v B L) fr ey (j + 1)).2 ∧ ∃ x, v = some (.int x)) from hz.mono (fun _ _ q => ⟨q.1, q.2.1, q.2.2.choose, q.2.2.choose_spec, fun z => absurd z Bool.false_ne_true⟩)
        refine g_iload_n dX12_goesThrough_32 rfl rfl ?_
        refine g_iconst (v := (nI 4)) dX12_goesThrough_33 rfl ?_
        refine g_ic_eqN 91 dX12_goesThrough_34 (by decide) (by omega) (by omega) (fun z => absurd z (by omega)) (fun _ => ?_)
        refine g_aload_n dX12_goesThrough_37 rfl rfl ?_
        refine g_getV 7 (C := RX12) (T := TX12) (N := 19) (v := (nI 0)) dX12_goesThrough_38 (by decide) rfl rfl (by decide) rfl fl_RX12_105 hmp.1 ?_
        refine g_if_neN 91 dX12_goesThrough_41 (by decide) (by omega) (fun z => absurd z (by omega)) (fun _ => ?_)
        refine g_aload_n dX12_goesThrough_44 rfl rfl ?_
        refine g_iload_n dX12_goesThrough_45 rfl rfl ?_
        refine g_if_eqN 53 dX12_goesThrough_46 (by decide) (by omega) (fun _ => ?_) (fun z => absurd z (by omega))
        refine g_iconst (v := (nI 0)) dX12_goesThrough_53 rfl ?_
        refine g_putI 7 (C := RX12) (T := TX12) (N := 19) (ty := .boolean) dX12_goesThrough_54 (by decide) rfl rfl (by decide) rfl fl_RX12_105 rfl (by decide +kernel) ⟨rfl, rfl⟩ ?_
        refine g_aload_n dX12_goesThrough_57 rfl rfl ?_
        refine g_getV 7 (C := RX12) (T := TX12) (N := 19) (v := (nI 0)) dX12_goesThrough_58 (by decide) rfl rfl (by decide) rfl fl_RX12_105 zs_up_q ?_
        refine g_if_neN 72 dX12_goesThrough_61 (by decide) (by omega) (fun z => absurd z (by omega)) (fun _ => ?_)
        refine g_aload_n dX12_goesThrough_64 rfl rfl ?_
        refine g_iload_n dX12_goesThrough_65 rfl rfl ?_
        refine g_callV (T := TX12) (NN := 19) [] (y_itemE B L (zs_up S.1 80 7 (nI 0), S.2) ((((hS).up (zs_okR rfl (by omega) (by omega) (by decide) (by decide)) rfl (by decide) (by omega) (by omega) (by decide))).y hT) ((hS.1).up (zs_okR rfl (by omega) (by omega) (by decide) (by decide))) m (j + 1) dn ey fr (by omega) (by omega) hdn1 ((zs_up_m (by omega)).trans hdn) hey1 ((zs_up_m (by omega)).trans hey) hfr0 hfr1 ((zs_up_m (by omega)).trans hfr) (fun z => (zs_up_m (by omega)).trans (hC z).1) ⟨zs_up_q, ((zs_up_m (by omega)).trans hmp.2.1), ((zs_up_m (by omega)).trans hmp.2.2)⟩ hm0) dX12_goesThrough_66 kk_X12_goesThrough_X12_item ml_RX12_154 mwX12_item ewX12_item (by decide) rfl rfl rfl rfl (Nat.le_of_ble_eq_true rfl) ?_
        rintro _ S1 ⟨rfl, oS1⟩
        have pS1 := oS1.2.1
        rw [tp_bF hit] at pS1
        refine g_iinc (v := (nI (m + 1))) (lv' := [(2, .int (nI (m + 1))), (3, .int (nI (tx_mt B L (j + 1)))), (0, .ref 80), (1, .int (nI dn))]) dX12_goesThrough_69 rfl (nI_1 m) (by decide) rfl ?_
        refine g_aload_n dX12_goesThrough_72 rfl rfl ?_
        refine g_getV 7 (C := RX12) (T := TX12) (N := 19) (v := (nI 1)) dX12_goesThrough_73 (by decide) rfl rfl (by decide) rfl fl_RX12_105 pS1.1 ?_
        refine g_if_eqN 83 dX12_goesThrough_76 (by decide) (by omega) (fun z => absurd z (by omega)) (fun _ => ?_)
        refine g_iload_n dX12_goesThrough_79 rfl rfl ?_
        refine g_goto 87 dX12_goesThrough_80 (by decide) ?_
        refine g_istore_n (lv' := [(3, .int (nI (tx_mt B L (j + 1)))), (2, .int (nI (m + 1))), (0, .ref 80), (1, .int (nI dn))]) dX12_goesThrough_87 rfl (by decide) rfl ?_
        refine g_goto 32 dX12_goesThrough_88 (by decide) ?_
        exact (z_gE_w B L (tp_item (tx_k B L) (tx_v B L) fr ey (j + 1)).2 (m + 1) (tx_mt B L (j + 1)) dn S0 _ (by omega) ((((hS).up (zs_okR rfl (by omega) (by omega) (by decide) (by decide)) rfl (by decide) (by omega) (by omega) (by decide))).tr oS1.1) ⟨pS1.1, pS1.2.1, pS1.2.2⟩).lv (zs_mc 0 rfl (zs_mc 1 rfl (zs_mc 2 rfl (zs_mc 3 rfl zs_mn))))
    · rw [tp_alF hk0 (by rw [tp_itN hm0]; exact Bool.false_ne_true), tp_itN hm0]
      suffices hz : zs_P MX12_goesThrough 32 [(3, .int (nI (tx_mt B L (j + 1)))), (2, .int (nI m)), (0, .ref 80), (1, .int (nI dn))] [] S (fun v S2 => zs_oY S0 S2 ∧ zs_mp S2 B L 1 (j + 1) ∧ ∃ x, v = some (.int x)) from hz.mono (fun _ _ q => ⟨q.1, q.2.1, q.2.2.choose, q.2.2.choose_spec, fun z => absurd z Bool.false_ne_true⟩)
      refine g_iload_n dX12_goesThrough_32 rfl rfl ?_
      refine g_iconst (v := (nI 4)) dX12_goesThrough_33 rfl ?_
      refine g_ic_eqN 91 dX12_goesThrough_34 (by decide) (by omega) (by omega) (fun z => absurd z (by omega)) (fun _ => ?_)
      refine g_aload_n dX12_goesThrough_37 rfl rfl ?_
      refine g_getV 7 (C := RX12) (T := TX12) (N := 19) (v := (nI 0)) dX12_goesThrough_38 (by decide) rfl rfl (by decide) rfl fl_RX12_105 hmp.1 ?_
      refine g_if_neN 91 dX12_goesThrough_41 (by decide) (by omega) (fun z => absurd z (by omega)) (fun _ => ?_)
      refine g_aload_n dX12_goesThrough_44 rfl rfl ?_
      refine g_iload_n dX12_goesThrough_45 rfl rfl ?_
      refine g_if_eqN 53 dX12_goesThrough_46 (by decide) (by omega) (fun z => absurd z (by omega)) (fun _ => ?_)
      refine g_iconst (v := (nI 1)) dX12_goesThrough_49 rfl ?_
      refine g_goto 54 dX12_goesThrough_50 (by decide) ?_
      refine g_putI 7 (C := RX12) (T := TX12) (N := 19) (ty := .boolean) dX12_goesThrough_54 (by decide) rfl rfl (by decide) rfl fl_RX12_105 rfl (by decide +kernel) ⟨rfl, rfl⟩ ?_
      refine g_aload_n dX12_goesThrough_57 rfl rfl ?_
      refine g_getV 7 (C := RX12) (T := TX12) (N := 19) (v := (nI 1)) dX12_goesThrough_58 (by decide) rfl rfl (by decide) rfl fl_RX12_105 zs_up_q ?_
      refine g_if_neN 72 dX12_goesThrough_61 (by decide) (by omega) (fun _ => ?_) (fun z => absurd z (by omega))
      refine g_aload_n dX12_goesThrough_72 rfl rfl ?_
      refine g_getV 7 (C := RX12) (T := TX12) (N := 19) (v := (nI 1)) dX12_goesThrough_73 (by decide) rfl rfl (by decide) rfl fl_RX12_105 zs_up_q ?_
      refine g_if_eqN 83 dX12_goesThrough_76 (by decide) (by omega) (fun z => absurd z (by omega)) (fun _ => ?_)
      refine g_iload_n dX12_goesThrough_79 rfl rfl ?_
      refine g_goto 87 dX12_goesThrough_80 (by decide) ?_
      refine g_istore_n (lv' := [(3, .int (nI (tx_mt B L (j + 1)))), (2, .int (nI m)), (0, .ref 80), (1, .int (nI dn))]) dX12_goesThrough_87 rfl (by decide) rfl ?_
      refine g_goto 32 dX12_goesThrough_88 (by decide) ?_
      exact (z_gE_w B L (j + 1) m (tx_mt B L (j + 1)) dn S0 _ (by omega) ((hS).up (zs_okR rfl (by omega) (by omega) (by decide) (by decide)) rfl (by decide) (by omega) (by omega) (by decide)) ⟨zs_up_q, ((zs_up_m (by omega)).trans hmp.2.1), ((zs_up_m (by omega)).trans hmp.2.2)⟩).lv (zs_mc 0 rfl (zs_mc 1 rfl (zs_mc 2 rfl (zs_mc 3 rfl zs_mn))))
