theorem tx_jL {B : Nat → Nat} {L : Nat} : ∀ j, tx_p B L j < L → j ≤ tx_p B L j := by
  intro j
  induction j with
  | zero => intro _; omega
  | succ j ih =>
    intro h
    by_cases y : tx_p B L j < L
    · have h1 := ih y
      have h2 := tx_q_gt y
      have h3 : tx_q B L (j + 1) ≤ tx_p B L (j + 1) := tx_p_ge
      omega
    · have h1 : tx_q B L (j + 1) = L := if_neg y
      have h3 : tx_q B L (j + 1) ≤ tx_p B L (j + 1) := tx_p_ge
      omega
theorem tx_kL {B : Nat → Nat} {L j : Nat} (h : tx_k B L j ≠ 0) : j < L := by
  have h0 : tx_p B L j < L := Classical.byContradiction fun z => h (tx_kz.mpr z)
  have := tx_jL j h0
  omega
theorem tp_drawG {K V : Nat → Nat} : ∀ (d f j : Nat), j + 1 ≤ (tp_draw K V d f j).2 := by
  intro d
  induction d with
  | zero => intro f j; exact Nat.le_refl _
  | succ d ih =>
    intro f j
    by_cases h : tp_tn K V j 0 9 = true
    · rw [tp_drS h]; have := ih (f + 1) (j + 1); omega
    · rw [tp_drN h]; exact Nat.le_refl _
theorem tp_itemG {K V : Nat → Nat} {fr ey j : Nat} (h : (tp_item K V fr ey j).1 = true) : j + 1 ≤ (tp_item K V fr ey j).2 := by
  by_cases c5 : K j = 5
  · rw [show tp_item K V fr ey j = tp_draw K V fr 0 j from if_pos c5]; exact tp_drawG _ _ _
  have three : ∀ (p : Prop) [Decidable p] (b : Bool), ((if p then (b, j + 2) else (false, j + 1)) : Bool × Nat).1 = true → j + 1 ≤ ((if p then (b, j + 2) else (false, j + 1)) : Bool × Nat).2 := by
    intro p _ b _
    split
    · show j + 1 ≤ j + 2; omega
    · exact Nat.le_refl _
  by_cases c6 : K j = 6
  · by_cases h5 : 5 ≤ ey
    · rw [show tp_item K V fr ey j = (false, j) from (if_neg c5).trans ((if_pos c6).trans (if_pos h5))] at h; cases h
    · have e : tp_item K V fr ey j = (if tp_tn K V j 0 5 = true then (decide (K (j + 2) = 2), j + 2) else (false, j + 1)) := (if_neg c5).trans ((if_pos c6).trans (if_neg h5))
      rw [e] at h ⊢; exact three _ _ h
  by_cases c7 : K j = 7
  · have e : tp_item K V fr ey j = (if tp_tn K V j 0 11 = true then (decide (K (j + 2) = 2), j + 2) else (false, j + 1)) := (if_neg c5).trans ((if_neg c6).trans (if_pos c7))
    rw [e] at h ⊢; exact three _ _ h
  by_cases c8 : K j = 8
  · have e : tp_item K V fr ey j = (if tp_tn K V j 1 99 = true then (decide (K (j + 2) = 2), j + 2) else (false, j + 1)) := (if_neg c5).trans ((if_neg c6).trans ((if_neg c7).trans (if_pos c8)))
    rw [e] at h ⊢; exact three _ _ h
  rw [show tp_item K V fr ey j = (false, j) from (if_neg c5).trans ((if_neg c6).trans ((if_neg c7).trans (if_neg c8)))] at h; cases h
def zs_irF (S S2 : zs_S) (B : Nat → Nat) (L dn : Nat) (b : Bool) (j : Nat) : Prop := zs_oY S S2 ∧ zs_mp S2 B L (tp_b b) j ∧ (b = true → S2.1 80 9 = nI 0 ∧ S2.1 80 10 = nI (tx_v B L 1) ∧ (dn ≠ 0 → S2.1 82 2 = nI 0 ∧ S2.1 82 0 = nI (tx_v B L 1) ∧ S2.1 82 1 = nI (tx_v B L 2) ∧ zs_zm S2))
set_option maxRecDepth 100000 in
theorem y_item0x (B : Nat → Nat) (L : Nat) (S : zs_S) (hT : zs_tm S B L) (hJ : zs_J S) (dn : Nat) (hdn1 : dn ≤ 1) (hdn : S.1 80 8 = nI dn) (hev : S.1 80 9 = nI 0) (hmp : zs_mp S B L 0 0) (hmt : tx_mt B L 0 = 0) (hk : tx_k B L 0 ≠ 4) : zs_Cv MX12_item [.ref 80, .int (nI 0)] S (fun S2 => zs_irF S S2 B L dn false 0) := by
  obtain ⟨hpl, hlt, -⟩ := tx_wd hmt
  have hpq : tx_p B L 0 ≤ tx_q B L (0 + 1) := Nat.le_of_lt (tx_q_gt hpl)
  refine zs_C.of (by decide) (Nat.le_of_ble_eq_true rfl) ?_
  show zs_P MX12_item 0 [(0, .ref 80), (1, .int (nI 0))] [] S _
  refine g_aload_n dX12_item_0 rfl rfl ?_
  refine g_callV (T := TX12) (NN := 19) [] (y_wordE B L (tx_p B L 0) (tx_q B L (0 + 1)) S hT hpq (tx_q_le _) hmp.2.1 hmp.2.2 hlt) dX12_item_1 kk_X12_item_X12_word ml_RX12_136 mwX12_word ewX12_word (by decide) rfl rfl rfl rfl (Nat.le_of_ble_eq_true rfl) ?_
  rintro _ _ ⟨_, rfl, rfl, rfl⟩
  refine g_lstore_n (lv' := [(2, .long (lN (tx_wv B (tx_p B L 0) (tx_q B L (0 + 1) - tx_p B L 0)))), (0, .ref 80), (1, .int (nI 0))]) dX12_item_4 rfl (by decide) rfl ?_
  refine g_iload_n dX12_item_5 rfl rfl ?_
  refine g_if_neN 13 dX12_item_6 (by decide) (by omega) (fun z => absurd z (by omega)) (fun _ => ?_)
  refine g_iconst (v := (nI 1)) dX12_item_9 rfl ?_
  refine g_goto 14 dX12_item_10 (by decide) ?_
  refine g_lload_n dX12_item_14 rfl rfl ?_
  refine g_ldc2 (v := 150189) dX12_item_15 cl_RX12_140 ?_
  refine g_lcmp dX12_item_18 ?_
  refine g_if_ne 26 dX12_item_19 (by decide) (fun _ => ?_) (fun z => absurd z (fun z => absurd ((tx_kc4 hmt).mp z) (by omega)))
  refine g_iconst (v := (nI 0)) dX12_item_26 rfl ?_
  refine g_ic_neN 46 dX12_item_27 (by decide) (by omega) (by omega) (fun _ => ?_) (fun z => absurd z (by omega))
  refine g_aload_n dX12_item_46 rfl rfl ?_
  refine g_iconst (v := (nI 1)) dX12_item_47 rfl ?_
  refine g_putI 7 (C := RX12) (T := TX12) (N := 19) (ty := .boolean) dX12_item_48 (by decide) rfl rfl (by decide) rfl fl_RX12_105 rfl (by decide +kernel) ⟨rfl, rfl⟩ ?_
  refine g_goto 109 dX12_item_51 (by decide) ?_
  refine g_ret dX12_item_109 rfl ?_
  exact ⟨rfl, (((zs_oY.rf hJ)).up (zs_okR rfl (by omega) (by omega) (by decide) (by decide)) rfl (by decide) (by omega) (by omega) (by decide)), ⟨zs_up_q, ((zs_up_m (by omega)).trans hmp.2.1), ((zs_up_m (by omega)).trans hmp.2.2)⟩, fun z => absurd z Bool.false_ne_true⟩
set_option maxRecDepth 100000 in
theorem y_item00 (B : Nat → Nat) (L : Nat) (S : zs_S) (hT : zs_tm S B L) (hJ : zs_J S) (dn : Nat) (hdn1 : dn ≤ 1) (hdn : S.1 80 8 = nI dn) (hev : S.1 80 9 = nI 0) (hmp : zs_mp S B L 0 0) (hmt : tx_mt B L 0 = 0) (hk : tx_k B L 0 = 4) (t1 : ¬ tp_tn (tx_k B L) (tx_v B L) 0 2 12 = true) : zs_Cv MX12_item [.ref 80, .int (nI 0)] S (fun S2 => zs_irF S S2 B L dn false 1) := by
  obtain ⟨hpl, hlt, -⟩ := tx_wd hmt
  have hpq : tx_p B L 0 ≤ tx_q B L (0 + 1) := Nat.le_of_lt (tx_q_gt hpl)
  refine zs_C.of (by decide) (Nat.le_of_ble_eq_true rfl) ?_
  show zs_P MX12_item 0 [(0, .ref 80), (1, .int (nI 0))] [] S _
  refine g_aload_n dX12_item_0 rfl rfl ?_
  refine g_callV (T := TX12) (NN := 19) [] (y_wordE B L (tx_p B L 0) (tx_q B L (0 + 1)) S hT hpq (tx_q_le _) hmp.2.1 hmp.2.2 hlt) dX12_item_1 kk_X12_item_X12_word ml_RX12_136 mwX12_word ewX12_word (by decide) rfl rfl rfl rfl (Nat.le_of_ble_eq_true rfl) ?_
  rintro _ _ ⟨_, rfl, rfl, rfl⟩
  refine g_lstore_n (lv' := [(2, .long (lN (tx_wv B (tx_p B L 0) (tx_q B L (0 + 1) - tx_p B L 0)))), (0, .ref 80), (1, .int (nI 0))]) dX12_item_4 rfl (by decide) rfl ?_
  refine g_iload_n dX12_item_5 rfl rfl ?_
  refine g_if_neN 13 dX12_item_6 (by decide) (by omega) (fun z => absurd z (by omega)) (fun _ => ?_)
  refine g_iconst (v := (nI 1)) dX12_item_9 rfl ?_
  refine g_goto 14 dX12_item_10 (by decide) ?_
  refine g_lload_n dX12_item_14 rfl rfl ?_
  refine g_ldc2 (v := 150189) dX12_item_15 cl_RX12_140 ?_
  refine g_lcmp dX12_item_18 ?_
  refine g_if_ne 26 dX12_item_19 (by decide) (fun z => absurd ((tx_kc4 hmt).mpr (by omega)) z) (fun _ => ?_)
  refine g_iconst (v := (nI 1)) dX12_item_22 rfl ?_
  refine g_goto 27 dX12_item_23 (by decide) ?_
  refine g_ic_neN 46 dX12_item_27 (by decide) (by omega) (by omega) (fun z => absurd z (by omega)) (fun _ => ?_)
  refine g_lload_n dX12_item_30 rfl rfl ?_
  refine g_ldc2 (v := 5925) dX12_item_31 cl_RX12_123 ?_
  refine g_lcmp dX12_item_34 ?_
  refine g_if_ne 54 dX12_item_35 (by decide) (fun _ => ?_) (fun z => absurd z (fun z => absurd ((tx_kc6 hmt).mp z) (by omega)))
  refine g_lload_n dX12_item_54 rfl rfl ?_
  refine g_ldc2 (v := 149559) dX12_item_55 cl_RX12_142 ?_
  refine g_lcmp dX12_item_58 ?_
  refine g_if_ne 69 dX12_item_59 (by decide) (fun _ => ?_) (fun z => absurd z (fun z => absurd ((tx_kc5 hmt).mp z) (by omega)))
  refine g_iload_n dX12_item_69 rfl rfl ?_
  refine g_if_neN 80 dX12_item_70 (by decide) (by omega) (fun z => absurd z (by omega)) (fun _ => ?_)
  refine g_aload_n dX12_item_73 rfl rfl ?_
  refine g_callV (T := TX12) (NN := 19) [] (y_drumE0 B L S hT hJ dn hdn1 hdn hmp t1) dX12_item_74 kk_X12_item_X12_drumItem ml_RX12_147 mwX12_drumItem ewX12_drumItem (by decide) rfl rfl rfl rfl (Nat.le_of_ble_eq_true rfl) ?_
  rintro _ S1 ⟨rfl, oS1⟩
  refine g_goto 85 dX12_item_77 (by decide) ?_
  refine g_aload_n dX12_item_85 rfl rfl ?_
  refine g_aload_n dX12_item_86 rfl rfl ?_
  refine g_getV 7 (C := RX12) (T := TX12) (N := 19) (v := (nI 1)) dX12_item_87 (by decide) rfl rfl (by decide) rfl fl_RX12_105 oS1.2.2.1 ?_
  refine g_if_neN 101 dX12_item_90 (by decide) (by omega) (fun _ => ?_) (fun z => absurd z (by omega))
  refine g_iconst (v := (nI 1)) dX12_item_101 rfl ?_
  refine g_goto 106 dX12_item_102 (by decide) ?_
  refine g_putI 7 (C := RX12) (T := TX12) (N := 19) (ty := .boolean) dX12_item_106 (by decide) rfl rfl (by decide) rfl fl_RX12_105 rfl (by decide +kernel) ⟨rfl, rfl⟩ ?_
  refine g_ret dX12_item_109 rfl ?_
  exact ⟨rfl, ((oS1.1).up (zs_okR rfl (by omega) (by omega) (by decide) (by decide)) rfl (by decide) (by omega) (by omega) (by decide)), ⟨zs_up_q, ((zs_up_m (by omega)).trans oS1.2.2.2.1), ((zs_up_m (by omega)).trans oS1.2.2.2.2)⟩, fun z => absurd z Bool.false_ne_true⟩
set_option maxRecDepth 100000 in
theorem y_item01 (B : Nat → Nat) (L : Nat) (S : zs_S) (hT : zs_tm S B L) (hJ : zs_J S) (dn : Nat) (hdn1 : dn ≤ 1) (hdn : S.1 80 8 = nI dn) (hev : S.1 80 9 = nI 0) (hmp : zs_mp S B L 0 0) (hmt : tx_mt B L 0 = 0) (hk : tx_k B L 0 = 4) (t1 : tp_tn (tx_k B L) (tx_v B L) 0 2 12 = true) (t2 : ¬ tp_tn (tx_k B L) (tx_v B L) 1 0 5 = true) : zs_Cv MX12_item [.ref 80, .int (nI 0)] S (fun S2 => zs_irF S S2 B L dn false 2) := by
  obtain ⟨hpl, hlt, -⟩ := tx_wd hmt
  have hpq : tx_p B L 0 ≤ tx_q B L (0 + 1) := Nat.le_of_lt (tx_q_gt hpl)
  refine zs_C.of (by decide) (Nat.le_of_ble_eq_true rfl) ?_
  show zs_P MX12_item 0 [(0, .ref 80), (1, .int (nI 0))] [] S _
  refine g_aload_n dX12_item_0 rfl rfl ?_
  refine g_callV (T := TX12) (NN := 19) [] (y_wordE B L (tx_p B L 0) (tx_q B L (0 + 1)) S hT hpq (tx_q_le _) hmp.2.1 hmp.2.2 hlt) dX12_item_1 kk_X12_item_X12_word ml_RX12_136 mwX12_word ewX12_word (by decide) rfl rfl rfl rfl (Nat.le_of_ble_eq_true rfl) ?_
  rintro _ _ ⟨_, rfl, rfl, rfl⟩
  refine g_lstore_n (lv' := [(2, .long (lN (tx_wv B (tx_p B L 0) (tx_q B L (0 + 1) - tx_p B L 0)))), (0, .ref 80), (1, .int (nI 0))]) dX12_item_4 rfl (by decide) rfl ?_
  refine g_iload_n dX12_item_5 rfl rfl ?_
  refine g_if_neN 13 dX12_item_6 (by decide) (by omega) (fun z => absurd z (by omega)) (fun _ => ?_)
  refine g_iconst (v := (nI 1)) dX12_item_9 rfl ?_
  refine g_goto 14 dX12_item_10 (by decide) ?_
  refine g_lload_n dX12_item_14 rfl rfl ?_
  refine g_ldc2 (v := 150189) dX12_item_15 cl_RX12_140 ?_
  refine g_lcmp dX12_item_18 ?_
  refine g_if_ne 26 dX12_item_19 (by decide) (fun z => absurd ((tx_kc4 hmt).mpr (by omega)) z) (fun _ => ?_)
  refine g_iconst (v := (nI 1)) dX12_item_22 rfl ?_
  refine g_goto 27 dX12_item_23 (by decide) ?_
  refine g_ic_neN 46 dX12_item_27 (by decide) (by omega) (by omega) (fun z => absurd z (by omega)) (fun _ => ?_)
  refine g_lload_n dX12_item_30 rfl rfl ?_
  refine g_ldc2 (v := 5925) dX12_item_31 cl_RX12_123 ?_
  refine g_lcmp dX12_item_34 ?_
  refine g_if_ne 54 dX12_item_35 (by decide) (fun _ => ?_) (fun z => absurd z (fun z => absurd ((tx_kc6 hmt).mp z) (by omega)))
  refine g_lload_n dX12_item_54 rfl rfl ?_
  refine g_ldc2 (v := 149559) dX12_item_55 cl_RX12_142 ?_
  refine g_lcmp dX12_item_58 ?_
  refine g_if_ne 69 dX12_item_59 (by decide) (fun _ => ?_) (fun z => absurd z (fun z => absurd ((tx_kc5 hmt).mp z) (by omega)))
  refine g_iload_n dX12_item_69 rfl rfl ?_
  refine g_if_neN 80 dX12_item_70 (by decide) (by omega) (fun z => absurd z (by omega)) (fun _ => ?_)
  refine g_aload_n dX12_item_73 rfl rfl ?_
  refine g_callV (T := TX12) (NN := 19) [] (y_drumE1 B L S hT hJ dn hdn1 hdn hmp t1 t2) dX12_item_74 kk_X12_item_X12_drumItem ml_RX12_147 mwX12_drumItem ewX12_drumItem (by decide) rfl rfl rfl rfl (Nat.le_of_ble_eq_true rfl) ?_
  rintro _ S1 ⟨rfl, oS1⟩
  refine g_goto 85 dX12_item_77 (by decide) ?_
  refine g_aload_n dX12_item_85 rfl rfl ?_
  refine g_aload_n dX12_item_86 rfl rfl ?_
  refine g_getV 7 (C := RX12) (T := TX12) (N := 19) (v := (nI 1)) dX12_item_87 (by decide) rfl rfl (by decide) rfl fl_RX12_105 oS1.2.2.1 ?_
  refine g_if_neN 101 dX12_item_90 (by decide) (by omega) (fun _ => ?_) (fun z => absurd z (by omega))
  refine g_iconst (v := (nI 1)) dX12_item_101 rfl ?_
  refine g_goto 106 dX12_item_102 (by decide) ?_
  refine g_putI 7 (C := RX12) (T := TX12) (N := 19) (ty := .boolean) dX12_item_106 (by decide) rfl rfl (by decide) rfl fl_RX12_105 rfl (by decide +kernel) ⟨rfl, rfl⟩ ?_
  refine g_ret dX12_item_109 rfl ?_
  exact ⟨rfl, ((oS1.1).up (zs_okR rfl (by omega) (by omega) (by decide) (by decide)) rfl (by decide) (by omega) (by omega) (by decide)), ⟨zs_up_q, ((zs_up_m (by omega)).trans oS1.2.2.2.1), ((zs_up_m (by omega)).trans oS1.2.2.2.2)⟩, fun z => absurd z Bool.false_ne_true⟩
set_option maxRecDepth 100000 in
theorem y_item02 (B : Nat → Nat) (L : Nat) (S : zs_S) (hT : zs_tm S B L) (hJ : zs_J S) (dn : Nat) (hdn1 : dn ≤ 1) (hdn : S.1 80 8 = nI dn) (hev : S.1 80 9 = nI 0) (hmp : zs_mp S B L 0 0) (hmt : tx_mt B L 0 = 0) (hk : tx_k B L 0 = 4) (t1 : tp_tn (tx_k B L) (tx_v B L) 0 2 12 = true) (t2 : tp_tn (tx_k B L) (tx_v B L) 1 0 5 = true) (t3 : ¬ tp_tn (tx_k B L) (tx_v B L) 2 0 11 = true) : zs_Cv MX12_item [.ref 80, .int (nI 0)] S (fun S2 => zs_irF S S2 B L dn false 3) := by
  obtain ⟨hpl, hlt, -⟩ := tx_wd hmt
  have hpq : tx_p B L 0 ≤ tx_q B L (0 + 1) := Nat.le_of_lt (tx_q_gt hpl)
  refine zs_C.of (by decide) (Nat.le_of_ble_eq_true rfl) ?_
  show zs_P MX12_item 0 [(0, .ref 80), (1, .int (nI 0))] [] S _
  refine g_aload_n dX12_item_0 rfl rfl ?_
  refine g_callV (T := TX12) (NN := 19) [] (y_wordE B L (tx_p B L 0) (tx_q B L (0 + 1)) S hT hpq (tx_q_le _) hmp.2.1 hmp.2.2 hlt) dX12_item_1 kk_X12_item_X12_word ml_RX12_136 mwX12_word ewX12_word (by decide) rfl rfl rfl rfl (Nat.le_of_ble_eq_true rfl) ?_
  rintro _ _ ⟨_, rfl, rfl, rfl⟩
  refine g_lstore_n (lv' := [(2, .long (lN (tx_wv B (tx_p B L 0) (tx_q B L (0 + 1) - tx_p B L 0)))), (0, .ref 80), (1, .int (nI 0))]) dX12_item_4 rfl (by decide) rfl ?_
  refine g_iload_n dX12_item_5 rfl rfl ?_
  refine g_if_neN 13 dX12_item_6 (by decide) (by omega) (fun z => absurd z (by omega)) (fun _ => ?_)
  refine g_iconst (v := (nI 1)) dX12_item_9 rfl ?_
  refine g_goto 14 dX12_item_10 (by decide) ?_
  refine g_lload_n dX12_item_14 rfl rfl ?_
  refine g_ldc2 (v := 150189) dX12_item_15 cl_RX12_140 ?_
  refine g_lcmp dX12_item_18 ?_
  refine g_if_ne 26 dX12_item_19 (by decide) (fun z => absurd ((tx_kc4 hmt).mpr (by omega)) z) (fun _ => ?_)
  refine g_iconst (v := (nI 1)) dX12_item_22 rfl ?_
  refine g_goto 27 dX12_item_23 (by decide) ?_
  refine g_ic_neN 46 dX12_item_27 (by decide) (by omega) (by omega) (fun z => absurd z (by omega)) (fun _ => ?_)
  refine g_lload_n dX12_item_30 rfl rfl ?_
  refine g_ldc2 (v := 5925) dX12_item_31 cl_RX12_123 ?_
  refine g_lcmp dX12_item_34 ?_
  refine g_if_ne 54 dX12_item_35 (by decide) (fun _ => ?_) (fun z => absurd z (fun z => absurd ((tx_kc6 hmt).mp z) (by omega)))
  refine g_lload_n dX12_item_54 rfl rfl ?_
  refine g_ldc2 (v := 149559) dX12_item_55 cl_RX12_142 ?_
  refine g_lcmp dX12_item_58 ?_
  refine g_if_ne 69 dX12_item_59 (by decide) (fun _ => ?_) (fun z => absurd z (fun z => absurd ((tx_kc5 hmt).mp z) (by omega)))
  refine g_iload_n dX12_item_69 rfl rfl ?_
  refine g_if_neN 80 dX12_item_70 (by decide) (by omega) (fun z => absurd z (by omega)) (fun _ => ?_)
  refine g_aload_n dX12_item_73 rfl rfl ?_
  refine g_callV (T := TX12) (NN := 19) [] (y_drumE2 B L S hT hJ dn hdn1 hdn hmp t1 t2 t3) dX12_item_74 kk_X12_item_X12_drumItem ml_RX12_147 mwX12_drumItem ewX12_drumItem (by decide) rfl rfl rfl rfl (Nat.le_of_ble_eq_true rfl) ?_
  rintro _ S1 ⟨rfl, oS1⟩
  refine g_goto 85 dX12_item_77 (by decide) ?_
  refine g_aload_n dX12_item_85 rfl rfl ?_
  refine g_aload_n dX12_item_86 rfl rfl ?_
  refine g_getV 7 (C := RX12) (T := TX12) (N := 19) (v := (nI 1)) dX12_item_87 (by decide) rfl rfl (by decide) rfl fl_RX12_105 oS1.2.2.1 ?_
  refine g_if_neN 101 dX12_item_90 (by decide) (by omega) (fun _ => ?_) (fun z => absurd z (by omega))
  refine g_iconst (v := (nI 1)) dX12_item_101 rfl ?_
  refine g_goto 106 dX12_item_102 (by decide) ?_
  refine g_putI 7 (C := RX12) (T := TX12) (N := 19) (ty := .boolean) dX12_item_106 (by decide) rfl rfl (by decide) rfl fl_RX12_105 rfl (by decide +kernel) ⟨rfl, rfl⟩ ?_
  refine g_ret dX12_item_109 rfl ?_
  exact ⟨rfl, ((oS1.1).up (zs_okR rfl (by omega) (by omega) (by decide) (by decide)) rfl (by decide) (by omega) (by omega) (by decide)), ⟨zs_up_q, ((zs_up_m (by omega)).trans oS1.2.2.2.1), ((zs_up_m (by omega)).trans oS1.2.2.2.2)⟩, fun z => absurd z Bool.false_ne_true⟩
set_option maxRecDepth 100000 in
theorem y_item03 (B : Nat → Nat) (L : Nat) (S : zs_S) (hT : zs_tm S B L) (hJ : zs_J S) (dn : Nat) (hdn1 : dn ≤ 1) (hdn : S.1 80 8 = nI dn) (hev : S.1 80 9 = nI 0) (hmp : zs_mp S B L 0 0) (hmt : tx_mt B L 0 = 0) (hk : tx_k B L 0 = 4) (t1 : tp_tn (tx_k B L) (tx_v B L) 0 2 12 = true) (t2 : tp_tn (tx_k B L) (tx_v B L) 1 0 5 = true) (t3 : tp_tn (tx_k B L) (tx_v B L) 2 0 11 = true) : zs_Cv MX12_item [.ref 80, .int (nI 0)] S (fun S2 => zs_irF S S2 B L dn (decide (tx_k B L 4 = 2)) 4) := by
  obtain ⟨hpl, hlt, -⟩ := tx_wd hmt
  have hpq : tx_p B L 0 ≤ tx_q B L (0 + 1) := Nat.le_of_lt (tx_q_gt hpl)
  refine zs_C.of (by decide) (Nat.le_of_ble_eq_true rfl) ?_
  show zs_P MX12_item 0 [(0, .ref 80), (1, .int (nI 0))] [] S _
  refine g_aload_n dX12_item_0 rfl rfl ?_
  refine g_callV (T := TX12) (NN := 19) [] (y_wordE B L (tx_p B L 0) (tx_q B L (0 + 1)) S hT hpq (tx_q_le _) hmp.2.1 hmp.2.2 hlt) dX12_item_1 kk_X12_item_X12_word ml_RX12_136 mwX12_word ewX12_word (by decide) rfl rfl rfl rfl (Nat.le_of_ble_eq_true rfl) ?_
  rintro _ _ ⟨_, rfl, rfl, rfl⟩
  refine g_lstore_n (lv' := [(2, .long (lN (tx_wv B (tx_p B L 0) (tx_q B L (0 + 1) - tx_p B L 0)))), (0, .ref 80), (1, .int (nI 0))]) dX12_item_4 rfl (by decide) rfl ?_
  refine g_iload_n dX12_item_5 rfl rfl ?_
  refine g_if_neN 13 dX12_item_6 (by decide) (by omega) (fun z => absurd z (by omega)) (fun _ => ?_)
  refine g_iconst (v := (nI 1)) dX12_item_9 rfl ?_
  refine g_goto 14 dX12_item_10 (by decide) ?_
  refine g_lload_n dX12_item_14 rfl rfl ?_
  refine g_ldc2 (v := 150189) dX12_item_15 cl_RX12_140 ?_
  refine g_lcmp dX12_item_18 ?_
  refine g_if_ne 26 dX12_item_19 (by decide) (fun z => absurd ((tx_kc4 hmt).mpr (by omega)) z) (fun _ => ?_)
  refine g_iconst (v := (nI 1)) dX12_item_22 rfl ?_
  refine g_goto 27 dX12_item_23 (by decide) ?_
  refine g_ic_neN 46 dX12_item_27 (by decide) (by omega) (by omega) (fun z => absurd z (by omega)) (fun _ => ?_)
  refine g_lload_n dX12_item_30 rfl rfl ?_
  refine g_ldc2 (v := 5925) dX12_item_31 cl_RX12_123 ?_
  refine g_lcmp dX12_item_34 ?_
  refine g_if_ne 54 dX12_item_35 (by decide) (fun _ => ?_) (fun z => absurd z (fun z => absurd ((tx_kc6 hmt).mp z) (by omega)))
  refine g_lload_n dX12_item_54 rfl rfl ?_
  refine g_ldc2 (v := 149559) dX12_item_55 cl_RX12_142 ?_
  refine g_lcmp dX12_item_58 ?_
  refine g_if_ne 69 dX12_item_59 (by decide) (fun _ => ?_) (fun z => absurd z (fun z => absurd ((tx_kc5 hmt).mp z) (by omega)))
  refine g_iload_n dX12_item_69 rfl rfl ?_
  refine g_if_neN 80 dX12_item_70 (by decide) (by omega) (fun z => absurd z (by omega)) (fun _ => ?_)
  refine g_aload_n dX12_item_73 rfl rfl ?_
  refine g_callV (T := TX12) (NN := 19) [] (y_drumE3 B L S hT hJ dn hdn1 hdn hmp t1 t2 t3) dX12_item_74 kk_X12_item_X12_drumItem ml_RX12_147 mwX12_drumItem ewX12_drumItem (by decide) rfl rfl rfl rfl (Nat.le_of_ble_eq_true rfl) ?_
  rintro _ S1 ⟨rfl, oS1⟩
  refine g_goto 85 dX12_item_77 (by decide) ?_
  refine g_aload_n dX12_item_85 rfl rfl ?_
  refine g_aload_n dX12_item_86 rfl rfl ?_
  refine g_getV 7 (C := RX12) (T := TX12) (N := 19) (v := (nI 0)) dX12_item_87 (by decide) rfl rfl (by decide) rfl fl_RX12_105 oS1.2.2.1.1 ?_
  refine g_if_neN 101 dX12_item_90 (by decide) (by omega) (fun z => absurd z (by omega)) (fun _ => ?_)
  refine g_aload_n dX12_item_93 rfl rfl ?_
  refine g_callV (T := TX12) (NN := 19) [.ref 80] (y_tokenE B L 4 S1 ((oS1.1).y hT) oS1.1.1 oS1.2.2.1.2.1) dX12_item_94 kk_X12_item_X12_token ml_RX12_109 mwX12_token ewX12_token (by decide) rfl rfl rfl rfl (Nat.le_of_ble_eq_true rfl) ?_
  rintro _ S2 ⟨_, rfl, oS2, rfl, pS2, qS2, -⟩
  have m4 := tx_mt4 (B := B) (L := L) (j := 4)
  refine g_iconst (v := (nI 2)) dX12_item_97 rfl ?_
  refine g_ic_eqN 105 dX12_item_98 (by decide) (by omega) (by omega) (fun h3 => ?_) (fun h3 => ?_)
  · refine g_iconst (v := (nI 0)) dX12_item_105 rfl ?_
    refine g_putI 7 (C := RX12) (T := TX12) (N := 19) (ty := .boolean) dX12_item_106 (by decide) rfl rfl (by decide) rfl fl_RX12_105 rfl (by decide +kernel) ⟨rfl, rfl⟩ ?_
    refine g_ret dX12_item_109 rfl ?_
    exact ⟨rfl, ((((oS1.1).tr oS2.ox.g)).up (zs_okR rfl (by omega) (by omega) (by decide) (by decide)) rfl (by decide) (by omega) (by omega) (by decide)), by rw [tp_bT (decide_eq_true (tx_mk2.mp (by omega)))]; exact ⟨zs_up_q, ((zs_up_m (by omega)).trans pS2), ((zs_up_m (by omega)).trans qS2)⟩, fun _ => ⟨(zs_up_m (by omega)).trans ((oS2.2.2.2 9 (by omega)).trans (oS1.2.1.trans hev)), (zs_up_m (by omega)).trans ((oS2.2.2.2 10 (by omega)).trans oS1.2.2.2.1), fun z => ⟨(zs_up_m (by omega)).trans ((congrFun (oS2.2.2.1 82 (by decide)) 2).trans (oS1.2.2.2.2 z).1), (zs_up_m (by omega)).trans ((congrFun (oS2.2.2.1 82 (by decide)) 0).trans (oS1.2.2.2.2 z).2.1), (zs_up_m (by omega)).trans ((congrFun (oS2.2.2.1 82 (by decide)) 1).trans (oS1.2.2.2.2 z).2.2.1), ⟨(zs_up_m (by omega)).trans ((congrFun (oS2.2.2.1 82 (by decide)) 8).trans (oS1.2.2.2.2 z).2.2.2.1), (zs_up_m (by omega)).trans ((congrFun (oS2.2.2.1 82 (by decide)) 21).trans (oS1.2.2.2.2 z).2.2.2.2.1), (zs_up_m (by omega)).trans ((congrFun (oS2.2.2.1 82 (by decide)) 46).trans (oS1.2.2.2.2 z).2.2.2.2.2)⟩⟩⟩⟩
  · refine g_iconst (v := (nI 1)) dX12_item_101 rfl ?_
    refine g_goto 106 dX12_item_102 (by decide) ?_
    refine g_putI 7 (C := RX12) (T := TX12) (N := 19) (ty := .boolean) dX12_item_106 (by decide) rfl rfl (by decide) rfl fl_RX12_105 rfl (by decide +kernel) ⟨rfl, rfl⟩ ?_
    refine g_ret dX12_item_109 rfl ?_
    exact ⟨rfl, ((((oS1.1).tr oS2.ox.g)).up (zs_okR rfl (by omega) (by omega) (by decide) (by decide)) rfl (by decide) (by omega) (by omega) (by decide)), by rw [tp_bF (fun z => absurd (tx_mk2.mpr (of_decide_eq_true z)) (by omega))]; exact ⟨zs_up_q, ((zs_up_m (by omega)).trans pS2), ((zs_up_m (by omega)).trans qS2)⟩, fun z => absurd (tx_mk2.mpr (of_decide_eq_true z)) (by omega)⟩
theorem y_item0 (B : Nat → Nat) (L : Nat) (S : zs_S) (hT : zs_tm S B L) (hJ : zs_J S) (dn : Nat) (hdn1 : dn ≤ 1) (hdn : S.1 80 8 = nI dn) (hev : S.1 80 9 = nI 0) (hmp : zs_mp S B L 0 0) (hmt : tx_mt B L 0 = 0) (hk : tx_k B L 0 = 4) : zs_Cv MX12_item [.ref 80, .int (nI 0)] S (fun S2 => zs_irF S S2 B L dn (tp_drum (tx_k B L) (tx_v B L)).1 (tp_drum (tx_k B L) (tx_v B L)).2) := by
  unfold tp_drum
  by_cases t1 : tp_tn (tx_k B L) (tx_v B L) 0 2 12 = true
  · rw [if_pos t1]
    by_cases t2 : tp_tn (tx_k B L) (tx_v B L) 1 0 5 = true
    · rw [if_pos t2]
      by_cases t3 : tp_tn (tx_k B L) (tx_v B L) 2 0 11 = true
      · rw [if_pos t3]; exact y_item03 B L S hT hJ dn hdn1 hdn hev hmp hmt hk t1 t2 t3
      · rw [if_neg t3]; exact y_item02 B L S hT hJ dn hdn1 hdn hev hmp hmt hk t1 t2 t3
    · rw [if_neg t2]; exact y_item01 B L S hT hJ dn hdn1 hdn hev hmp hmt hk t1 t2
  · rw [if_neg t1]; exact y_item00 B L S hT hJ dn hdn1 hdn hev hmp hmt hk t1
