theorem tx_kc4 {B : Nat → Nat} {L j : Nat} (hm : tx_mt B L j = 0) : lg_cmp (lN (tx_wv B (tx_p B L j) (tx_q B L (j + 1) - tx_p B L j))) 150189 = 0 ↔ tx_k B L j = 4 := by
  obtain ⟨-, hl, hk⟩ := tx_wd hm
  have hb : (tx_wv B (tx_p B L j) (tx_q B L (j + 1) - tx_p B L j)) ≤ 32000000031 := tx_wvB _ (fun k hk => by have := hl k hk; omega)
  rw [show (150189 : Int64) = lN 150189 from rfl, tx_cmpE hb (by omega), tx_cd0 hl, ← tx_wcE (by omega : 0 < 5), hk]
theorem tx_kc5 {B : Nat → Nat} {L j : Nat} (hm : tx_mt B L j = 0) : lg_cmp (lN (tx_wv B (tx_p B L j) (tx_q B L (j + 1) - tx_p B L j))) 149559 = 0 ↔ tx_k B L j = 5 := by
  obtain ⟨-, hl, hk⟩ := tx_wd hm
  have hb : (tx_wv B (tx_p B L j) (tx_q B L (j + 1) - tx_p B L j)) ≤ 32000000031 := tx_wvB _ (fun k hk => by have := hl k hk; omega)
  rw [show (149559 : Int64) = lN 149559 from rfl, tx_cmpE hb (by omega), tx_cd1 hl, ← tx_wcE (by omega : 1 < 5), hk]
theorem tx_kc6 {B : Nat → Nat} {L j : Nat} (hm : tx_mt B L j = 0) : lg_cmp (lN (tx_wv B (tx_p B L j) (tx_q B L (j + 1) - tx_p B L j))) 5925 = 0 ↔ tx_k B L j = 6 := by
  obtain ⟨-, hl, hk⟩ := tx_wd hm
  have hb : (tx_wv B (tx_p B L j) (tx_q B L (j + 1) - tx_p B L j)) ≤ 32000000031 := tx_wvB _ (fun k hk => by have := hl k hk; omega)
  rw [show (5925 : Int64) = lN 5925 from rfl, tx_cmpE hb (by omega), tx_cd2 hl, ← tx_wcE (by omega : 2 < 5), hk]
theorem tx_kc7 {B : Nat → Nat} {L j : Nat} (hm : tx_mt B L j = 0) : lg_cmp (lN (tx_wv B (tx_p B L j) (tx_q B L (j + 1) - tx_p B L j))) 643248 = 0 ↔ tx_k B L j = 7 := by
  obtain ⟨-, hl, hk⟩ := tx_wd hm
  have hb : (tx_wv B (tx_p B L j) (tx_q B L (j + 1) - tx_p B L j)) ≤ 32000000031 := tx_wvB _ (fun k hk => by have := hl k hk; omega)
  rw [show (643248 : Int64) = lN 643248 from rfl, tx_cmpE hb (by omega), tx_cd3 hl, ← tx_wcE (by omega : 3 < 5), hk]
theorem tx_kc8 {B : Nat → Nat} {L j : Nat} (hm : tx_mt B L j = 0) : lg_cmp (lN (tx_wv B (tx_p B L j) (tx_q B L (j + 1) - tx_p B L j))) 677454 = 0 ↔ tx_k B L j = 8 := by
  obtain ⟨-, hl, hk⟩ := tx_wd hm
  have hb : (tx_wv B (tx_p B L j) (tx_q B L (j + 1) - tx_p B L j)) ≤ 32000000031 := tx_wvB _ (fun k hk => by have := hl k hk; omega)
  rw [show (677454 : Int64) = lN 677454 from rfl, tx_cmpE hb (by omega), tx_cd4 hl, ← tx_wcE (by omega : 4 < 5), hk]
theorem tx_k38 {B : Nat → Nat} {L j : Nat} (hm : tx_mt B L j = 0) : 3 ≤ tx_k B L j ∧ tx_k B L j ≤ 8 := by
  rw [(tx_wd hm).2.2]
  exact tx_wc3
theorem zs_oZ.it {S S2 : zs_S} {B : Nat → Nat} {L dn j fr ev : Nat} {b : Bool} (h : zs_oZ S S2) (hm : zs_mp S2 B L (tp_b b) j) (h9 : S.1 80 9 = nI ev) (h10 : S.1 80 10 = nI fr) (hC : dn ≠ 0 → S.1 82 2 = nI ev) : zs_it S S2 B L dn b j fr ev := ⟨h.1, hm, fun _ => ⟨h.2.2.1.trans h9, h.2.2.2.trans h10, fun z => (congrFun h.2.1 2).trans (hC z), congrFun h.2.1 0, congrFun h.2.1 1⟩⟩
set_option maxRecDepth 100000 in
theorem y_itemE4 (B : Nat → Nat) (L : Nat) (S : zs_S) (hT : zs_tm S B L) (hJ : zs_J S) (m j dn ev fr : Nat) (hm1 : 1 ≤ m) (hm2 : m ≤ 150) (hdn1 : dn ≤ 1) (hdn : S.1 80 8 = nI dn) (hev1 : ev ≤ 5) (hev : S.1 80 9 = nI ev) (hfr0 : 1 ≤ fr) (hfr1 : fr ≤ 12) (hfr : S.1 80 10 = nI fr) (hC : dn ≠ 0 → S.1 82 2 = nI ev) (hmp : zs_mp S B L 0 j) (hmt : tx_mt B L j = 0) (hk : tx_k B L j = 4) : zs_Cv MX12_item [.ref 80, .int (nI m)] S (fun S2 => zs_it S S2 B L dn false j fr ev) := by
  obtain ⟨hpl, hlt, -⟩ := tx_wd hmt
  have hpq : tx_p B L j ≤ tx_q B L (j + 1) := Nat.le_of_lt (tx_q_gt hpl)
  refine zs_C.of (by decide) (Nat.le_of_ble_eq_true rfl) ?_
  show zs_P MX12_item 0 [(0, .ref 80), (1, .int (nI m))] [] S _
  refine g_aload_n dX12_item_0 rfl rfl ?_
  refine g_callV (T := TX12) (NN := 19) [] (y_wordE B L (tx_p B L j) (tx_q B L (j + 1)) S hT hpq (tx_q_le _) hmp.2.1 hmp.2.2 hlt) dX12_item_1 kk_X12_item_X12_word ml_RX12_136 mwX12_word ewX12_word (by decide) rfl rfl rfl rfl (Nat.le_of_ble_eq_true rfl) ?_
  rintro _ _ ⟨_, rfl, rfl, rfl⟩
  refine g_lstore_n (lv' := [(2, .long (lN (tx_wv B (tx_p B L j) (tx_q B L (j + 1) - tx_p B L j)))), (0, .ref 80), (1, .int (nI m))]) dX12_item_4 rfl (by decide) rfl ?_
  refine g_iload_n dX12_item_5 rfl rfl ?_
  refine g_if_neN 13 dX12_item_6 (by decide) (by omega) (fun _ => ?_) (fun z => absurd z (by omega))
  refine g_iconst (v := (nI 0)) dX12_item_13 rfl ?_
  refine g_lload_n dX12_item_14 rfl rfl ?_
  refine g_ldc2 (v := 150189) dX12_item_15 cl_RX12_140 ?_
  refine g_lcmp dX12_item_18 ?_
  refine g_if_ne 26 dX12_item_19 (by decide) (fun z => absurd ((tx_kc4 hmt).mpr (by omega)) z) (fun _ => ?_)
  refine g_iconst (v := (nI 1)) dX12_item_22 rfl ?_
  refine g_goto 27 dX12_item_23 (by decide) ?_
  refine g_ic_neN 46 dX12_item_27 (by decide) (by omega) (by omega) (fun _ => ?_) (fun z => absurd z (by omega))
  refine g_aload_n dX12_item_46 rfl rfl ?_
  refine g_iconst (v := (nI 1)) dX12_item_47 rfl ?_
  refine g_putI 7 (C := RX12) (T := TX12) (N := 19) (ty := .boolean) dX12_item_48 (by decide) rfl rfl (by decide) rfl fl_RX12_105 rfl (by decide +kernel) ⟨rfl, rfl⟩ ?_
  refine g_goto 109 dX12_item_51 (by decide) ?_
  refine g_ret dX12_item_109 rfl ?_
  exact ⟨rfl, (((zs_oY.rf hJ)).up (zs_okR rfl (by omega) (by omega) (by decide) (by decide)) rfl (by decide) (by omega) (by omega) (by decide)), ⟨zs_up_q, ((zs_up_m (by omega)).trans hmp.2.1), ((zs_up_m (by omega)).trans hmp.2.2)⟩, fun z => absurd z (by decide)⟩
set_option maxRecDepth 100000 in
theorem y_itemE5 (B : Nat → Nat) (L : Nat) (S : zs_S) (hT : zs_tm S B L) (hJ : zs_J S) (m j dn ev fr : Nat) (hm1 : 1 ≤ m) (hm2 : m ≤ 150) (hdn1 : dn ≤ 1) (hdn : S.1 80 8 = nI dn) (hev1 : ev ≤ 5) (hev : S.1 80 9 = nI ev) (hfr0 : 1 ≤ fr) (hfr1 : fr ≤ 12) (hfr : S.1 80 10 = nI fr) (hC : dn ≠ 0 → S.1 82 2 = nI ev) (hmp : zs_mp S B L 0 j) (hmt : tx_mt B L j = 0) (hk : tx_k B L j = 5) : zs_Cv MX12_item [.ref 80, .int (nI m)] S (fun S2 => zs_it S S2 B L dn (tp_draw (tx_k B L) (tx_v B L) fr 0 j).1 (tp_draw (tx_k B L) (tx_v B L) fr 0 j).2 fr ev) := by
  obtain ⟨hpl, hlt, -⟩ := tx_wd hmt
  have hpq : tx_p B L j ≤ tx_q B L (j + 1) := Nat.le_of_lt (tx_q_gt hpl)
  refine zs_C.of (by decide) (Nat.le_of_ble_eq_true rfl) ?_
  show zs_P MX12_item 0 [(0, .ref 80), (1, .int (nI m))] [] S _
  refine g_aload_n dX12_item_0 rfl rfl ?_
  refine g_callV (T := TX12) (NN := 19) [] (y_wordE B L (tx_p B L j) (tx_q B L (j + 1)) S hT hpq (tx_q_le _) hmp.2.1 hmp.2.2 hlt) dX12_item_1 kk_X12_item_X12_word ml_RX12_136 mwX12_word ewX12_word (by decide) rfl rfl rfl rfl (Nat.le_of_ble_eq_true rfl) ?_
  rintro _ _ ⟨_, rfl, rfl, rfl⟩
  refine g_lstore_n (lv' := [(2, .long (lN (tx_wv B (tx_p B L j) (tx_q B L (j + 1) - tx_p B L j)))), (0, .ref 80), (1, .int (nI m))]) dX12_item_4 rfl (by decide) rfl ?_
  refine g_iload_n dX12_item_5 rfl rfl ?_
  refine g_if_neN 13 dX12_item_6 (by decide) (by omega) (fun _ => ?_) (fun z => absurd z (by omega))
  refine g_iconst (v := (nI 0)) dX12_item_13 rfl ?_
  refine g_lload_n dX12_item_14 rfl rfl ?_
  refine g_ldc2 (v := 150189) dX12_item_15 cl_RX12_140 ?_
  refine g_lcmp dX12_item_18 ?_
  refine g_if_ne 26 dX12_item_19 (by decide) (fun _ => ?_) (fun z => absurd z (fun z => absurd ((tx_kc4 hmt).mp z) (by omega)))
  refine g_iconst (v := (nI 0)) dX12_item_26 rfl ?_
  refine g_ic_neN 46 dX12_item_27 (by decide) (by omega) (by omega) (fun z => absurd z (by omega)) (fun _ => ?_)
  refine g_lload_n dX12_item_30 rfl rfl ?_
  refine g_ldc2 (v := 5925) dX12_item_31 cl_RX12_123 ?_
  refine g_lcmp dX12_item_34 ?_
  refine g_if_ne 54 dX12_item_35 (by decide) (fun _ => ?_) (fun z => absurd z (fun z => absurd ((tx_kc6 hmt).mp z) (by omega)))
  refine g_lload_n dX12_item_54 rfl rfl ?_
  refine g_ldc2 (v := 149559) dX12_item_55 cl_RX12_142 ?_
  refine g_lcmp dX12_item_58 ?_
  refine g_if_ne 69 dX12_item_59 (by decide) (fun z => absurd ((tx_kc5 hmt).mpr (by omega)) z) (fun _ => ?_)
  refine g_aload_n dX12_item_62 rfl rfl ?_
  refine g_callV (T := TX12) (NN := 19) [] (y_drawE B L S hT hJ j dn fr hdn1 hfr0 hfr1 hdn hfr hmp) dX12_item_63 kk_X12_item_X12_drawItem ml_RX12_144 mwX12_drawItem ewX12_drawItem (by decide) rfl rfl rfl rfl (Nat.le_of_ble_eq_true rfl) ?_
  rintro _ S1 ⟨rfl, oS1⟩
  refine g_goto 109 dX12_item_66 (by decide) ?_
  refine g_ret dX12_item_109 rfl ?_
  exact ⟨rfl, oS1.1.it oS1.2 hev hfr hC⟩
set_option maxRecDepth 100000 in
theorem y_itemE6x (B : Nat → Nat) (L : Nat) (S : zs_S) (hT : zs_tm S B L) (hJ : zs_J S) (m j dn ev fr : Nat) (hm1 : 1 ≤ m) (hm2 : m ≤ 150) (hdn1 : dn ≤ 1) (hdn : S.1 80 8 = nI dn) (hev1 : ev ≤ 5) (hev : S.1 80 9 = nI ev) (hfr0 : 1 ≤ fr) (hfr1 : fr ≤ 12) (hfr : S.1 80 10 = nI fr) (hC : dn ≠ 0 → S.1 82 2 = nI ev) (hmp : zs_mp S B L 0 j) (hmt : tx_mt B L j = 0) (hk : tx_k B L j = 6) (h5 : 5 ≤ ev) : zs_Cv MX12_item [.ref 80, .int (nI m)] S (fun S2 => zs_it S S2 B L dn false j fr ev) := by
  obtain ⟨hpl, hlt, -⟩ := tx_wd hmt
  have hpq : tx_p B L j ≤ tx_q B L (j + 1) := Nat.le_of_lt (tx_q_gt hpl)
  refine zs_C.of (by decide) (Nat.le_of_ble_eq_true rfl) ?_
  show zs_P MX12_item 0 [(0, .ref 80), (1, .int (nI m))] [] S _
  refine g_aload_n dX12_item_0 rfl rfl ?_
  refine g_callV (T := TX12) (NN := 19) [] (y_wordE B L (tx_p B L j) (tx_q B L (j + 1)) S hT hpq (tx_q_le _) hmp.2.1 hmp.2.2 hlt) dX12_item_1 kk_X12_item_X12_word ml_RX12_136 mwX12_word ewX12_word (by decide) rfl rfl rfl rfl (Nat.le_of_ble_eq_true rfl) ?_
  rintro _ _ ⟨_, rfl, rfl, rfl⟩
  refine g_lstore_n (lv' := [(2, .long (lN (tx_wv B (tx_p B L j) (tx_q B L (j + 1) - tx_p B L j)))), (0, .ref 80), (1, .int (nI m))]) dX12_item_4 rfl (by decide) rfl ?_
  refine g_iload_n dX12_item_5 rfl rfl ?_
  refine g_if_neN 13 dX12_item_6 (by decide) (by omega) (fun _ => ?_) (fun z => absurd z (by omega))
  refine g_iconst (v := (nI 0)) dX12_item_13 rfl ?_
  refine g_lload_n dX12_item_14 rfl rfl ?_
  refine g_ldc2 (v := 150189) dX12_item_15 cl_RX12_140 ?_
  refine g_lcmp dX12_item_18 ?_
  refine g_if_ne 26 dX12_item_19 (by decide) (fun _ => ?_) (fun z => absurd z (fun z => absurd ((tx_kc4 hmt).mp z) (by omega)))
  refine g_iconst (v := (nI 0)) dX12_item_26 rfl ?_
  refine g_ic_neN 46 dX12_item_27 (by decide) (by omega) (by omega) (fun z => absurd z (by omega)) (fun _ => ?_)
  refine g_lload_n dX12_item_30 rfl rfl ?_
  refine g_ldc2 (v := 5925) dX12_item_31 cl_RX12_123 ?_
  refine g_lcmp dX12_item_34 ?_
  refine g_if_ne 54 dX12_item_35 (by decide) (fun z => absurd ((tx_kc6 hmt).mpr (by omega)) z) (fun _ => ?_)
  refine g_aload_n dX12_item_38 rfl rfl ?_
  refine g_getV 9 (C := RX12) (T := TX12) (N := 19) (v := (nI ev)) dX12_item_39 (by decide) rfl rfl (by decide) rfl fl_RX12_125 hev ?_
  refine g_iconst (v := (nI 5)) dX12_item_42 rfl ?_
  refine g_ic_neN 54 dX12_item_43 (by decide) (by omega) (by omega) (fun z => absurd z (by omega)) (fun _ => ?_)
  refine g_aload_n dX12_item_46 rfl rfl ?_
  refine g_iconst (v := (nI 1)) dX12_item_47 rfl ?_
  refine g_putI 7 (C := RX12) (T := TX12) (N := 19) (ty := .boolean) dX12_item_48 (by decide) rfl rfl (by decide) rfl fl_RX12_105 rfl (by decide +kernel) ⟨rfl, rfl⟩ ?_
  refine g_goto 109 dX12_item_51 (by decide) ?_
  refine g_ret dX12_item_109 rfl ?_
  exact ⟨rfl, (((zs_oY.rf hJ)).up (zs_okR rfl (by omega) (by omega) (by decide) (by decide)) rfl (by decide) (by omega) (by omega) (by decide)), ⟨zs_up_q, ((zs_up_m (by omega)).trans hmp.2.1), ((zs_up_m (by omega)).trans hmp.2.2)⟩, fun z => absurd z (by decide)⟩
set_option maxRecDepth 100000 in
theorem y_itemE6T (B : Nat → Nat) (L : Nat) (S : zs_S) (hT : zs_tm S B L) (hJ : zs_J S) (m j dn ev fr : Nat) (hm1 : 1 ≤ m) (hm2 : m ≤ 150) (hdn1 : dn ≤ 1) (hdn : S.1 80 8 = nI dn) (hev1 : ev ≤ 5) (hev : S.1 80 9 = nI ev) (hfr0 : 1 ≤ fr) (hfr1 : fr ≤ 12) (hfr : S.1 80 10 = nI fr) (hC : dn ≠ 0 → S.1 82 2 = nI ev) (hmp : zs_mp S B L 0 j) (hmt : tx_mt B L j = 0) (hk : tx_k B L j = 6) (h5 : ev ≤ 4) (ht : tp_tn (tx_k B L) (tx_v B L) j 0 5 = true) : zs_Cv MX12_item [.ref 80, .int (nI m)] S (fun S2 => zs_it S S2 B L dn (decide (tx_k B L (j + 1 + 1) = 2)) (j + 1 + 1) fr (ev + 1)) := by
  obtain ⟨hpl, hlt, -⟩ := tx_wd hmt
  have hpq : tx_p B L j ≤ tx_q B L (j + 1) := Nat.le_of_lt (tx_q_gt hpl)
  refine zs_C.of (by decide) (Nat.le_of_ble_eq_true rfl) ?_
  show zs_P MX12_item 0 [(0, .ref 80), (1, .int (nI m))] [] S _
  refine g_aload_n dX12_item_0 rfl rfl ?_
  refine g_callV (T := TX12) (NN := 19) [] (y_wordE B L (tx_p B L j) (tx_q B L (j + 1)) S hT hpq (tx_q_le _) hmp.2.1 hmp.2.2 hlt) dX12_item_1 kk_X12_item_X12_word ml_RX12_136 mwX12_word ewX12_word (by decide) rfl rfl rfl rfl (Nat.le_of_ble_eq_true rfl) ?_
  rintro _ _ ⟨_, rfl, rfl, rfl⟩
  refine g_lstore_n (lv' := [(2, .long (lN (tx_wv B (tx_p B L j) (tx_q B L (j + 1) - tx_p B L j)))), (0, .ref 80), (1, .int (nI m))]) dX12_item_4 rfl (by decide) rfl ?_
  refine g_iload_n dX12_item_5 rfl rfl ?_
  refine g_if_neN 13 dX12_item_6 (by decide) (by omega) (fun _ => ?_) (fun z => absurd z (by omega))
  refine g_iconst (v := (nI 0)) dX12_item_13 rfl ?_
  refine g_lload_n dX12_item_14 rfl rfl ?_
  refine g_ldc2 (v := 150189) dX12_item_15 cl_RX12_140 ?_
  refine g_lcmp dX12_item_18 ?_
  refine g_if_ne 26 dX12_item_19 (by decide) (fun _ => ?_) (fun z => absurd z (fun z => absurd ((tx_kc4 hmt).mp z) (by omega)))
  refine g_iconst (v := (nI 0)) dX12_item_26 rfl ?_
  refine g_ic_neN 46 dX12_item_27 (by decide) (by omega) (by omega) (fun z => absurd z (by omega)) (fun _ => ?_)
  refine g_lload_n dX12_item_30 rfl rfl ?_
  refine g_ldc2 (v := 5925) dX12_item_31 cl_RX12_123 ?_
  refine g_lcmp dX12_item_34 ?_
  refine g_if_ne 54 dX12_item_35 (by decide) (fun z => absurd ((tx_kc6 hmt).mpr (by omega)) z) (fun _ => ?_)
  refine g_aload_n dX12_item_38 rfl rfl ?_
  refine g_getV 9 (C := RX12) (T := TX12) (N := 19) (v := (nI ev)) dX12_item_39 (by decide) rfl rfl (by decide) rfl fl_RX12_125 hev ?_
  refine g_iconst (v := (nI 5)) dX12_item_42 rfl ?_
  refine g_ic_neN 54 dX12_item_43 (by decide) (by omega) (by omega) (fun _ => ?_) (fun z => absurd z (by omega))
  refine g_lload_n dX12_item_54 rfl rfl ?_
  refine g_ldc2 (v := 149559) dX12_item_55 cl_RX12_142 ?_
  refine g_lcmp dX12_item_58 ?_
  refine g_if_ne 69 dX12_item_59 (by decide) (fun _ => ?_) (fun z => absurd z (fun z => absurd ((tx_kc5 hmt).mp z) (by omega)))
  refine g_iload_n dX12_item_69 rfl rfl ?_
  refine g_if_neN 80 dX12_item_70 (by decide) (by omega) (fun _ => ?_) (fun z => absurd z (by omega))
  refine g_aload_n dX12_item_80 rfl rfl ?_
  refine g_lload_n dX12_item_81 rfl rfl ?_
  refine g_callV (T := TX12) (NN := 19) [] (y_actE6T B L S hT hJ _ j dn ev fr hdn1 hdn (by omega) hev hfr1 hfr hC hmp ((tx_kc6 hmt).mpr (by omega)) ht) dX12_item_82 kk_X12_item_X12_act ml_RX12_150 mwX12_act ewX12_act (by decide) rfl rfl rfl rfl (Nat.le_of_ble_eq_true rfl) ?_
  rintro _ S1 ⟨rfl, oS1⟩
  refine g_aload_n dX12_item_85 rfl rfl ?_
  refine g_aload_n dX12_item_86 rfl rfl ?_
  refine g_getV 7 (C := RX12) (T := TX12) (N := 19) (v := (nI 0)) dX12_item_87 (by decide) rfl rfl (by decide) rfl fl_RX12_105 oS1.2.1.1 ?_
  refine g_if_neN 101 dX12_item_90 (by decide) (by omega) (fun z => absurd z (by omega)) (fun _ => ?_)
  refine g_aload_n dX12_item_93 rfl rfl ?_
  refine g_callV (T := TX12) (NN := 19) [.ref 80] (y_tokenE B L (j + 1 + 1) S1 ((oS1.1).y hT) oS1.1.1 oS1.2.1.2.1) dX12_item_94 kk_X12_item_X12_token ml_RX12_109 mwX12_token ewX12_token (by decide) rfl rfl rfl rfl (Nat.le_of_ble_eq_true rfl) ?_
  rintro _ S2 ⟨_, rfl, oS2, rfl, pS2, qS2, -⟩
  have m4 := tx_mt4 (B := B) (L := L) (j := j + 1 + 1)
  refine g_iconst (v := (nI 2)) dX12_item_97 rfl ?_
  refine g_ic_eqN 105 dX12_item_98 (by decide) (by omega) (by omega) (fun h3 => ?_) (fun h3 => ?_)
  · refine g_iconst (v := (nI 0)) dX12_item_105 rfl ?_
    refine g_putI 7 (C := RX12) (T := TX12) (N := 19) (ty := .boolean) dX12_item_106 (by decide) rfl rfl (by decide) rfl fl_RX12_105 rfl (by decide +kernel) ⟨rfl, rfl⟩ ?_
    refine g_ret dX12_item_109 rfl ?_
    exact ⟨rfl, ((((oS1.1).tr oS2.ox.g)).up (zs_okR rfl (by omega) (by omega) (by decide) (by decide)) rfl (by decide) (by omega) (by omega) (by decide)), by rw [tp_bT (decide_eq_true (tx_mk2.mp (by omega)))]; exact ⟨zs_up_q, ((zs_up_m (by omega)).trans pS2), ((zs_up_m (by omega)).trans qS2)⟩, fun _ => ⟨(zs_up_m (by omega)).trans ((oS2.2.2.2 9 (by omega)).trans (oS1.2.2 rfl).1), (zs_up_m (by omega)).trans ((oS2.2.2.2 10 (by omega)).trans (oS1.2.2 rfl).2.1), fun z => (zs_up_m (by omega)).trans ((congrFun (oS2.2.2.1 82 (by decide)) 2).trans ((oS1.2.2 rfl).2.2.1 z)), (zs_up_m (by omega)).trans ((congrFun (oS2.2.2.1 82 (by decide)) 0).trans (oS1.2.2 rfl).2.2.2.1), (zs_up_m (by omega)).trans ((congrFun (oS2.2.2.1 82 (by decide)) 1).trans (oS1.2.2 rfl).2.2.2.2)⟩⟩
  · refine g_iconst (v := (nI 1)) dX12_item_101 rfl ?_
    refine g_goto 106 dX12_item_102 (by decide) ?_
    refine g_putI 7 (C := RX12) (T := TX12) (N := 19) (ty := .boolean) dX12_item_106 (by decide) rfl rfl (by decide) rfl fl_RX12_105 rfl (by decide +kernel) ⟨rfl, rfl⟩ ?_
    refine g_ret dX12_item_109 rfl ?_
    exact ⟨rfl, ((((oS1.1).tr oS2.ox.g)).up (zs_okR rfl (by omega) (by omega) (by decide) (by decide)) rfl (by decide) (by omega) (by omega) (by decide)), by rw [tp_bF (fun z => absurd (tx_mk2.mpr (of_decide_eq_true z)) (by omega))]; exact ⟨zs_up_q, ((zs_up_m (by omega)).trans pS2), ((zs_up_m (by omega)).trans qS2)⟩, fun z => absurd (tx_mk2.mpr (of_decide_eq_true z)) (by omega)⟩
set_option maxRecDepth 100000 in
theorem y_itemE6F (B : Nat → Nat) (L : Nat) (S : zs_S) (hT : zs_tm S B L) (hJ : zs_J S) (m j dn ev fr : Nat) (hm1 : 1 ≤ m) (hm2 : m ≤ 150) (hdn1 : dn ≤ 1) (hdn : S.1 80 8 = nI dn) (hev1 : ev ≤ 5) (hev : S.1 80 9 = nI ev) (hfr0 : 1 ≤ fr) (hfr1 : fr ≤ 12) (hfr : S.1 80 10 = nI fr) (hC : dn ≠ 0 → S.1 82 2 = nI ev) (hmp : zs_mp S B L 0 j) (hmt : tx_mt B L j = 0) (hk : tx_k B L j = 6) (h5 : ev ≤ 4) (ht : ¬ tp_tn (tx_k B L) (tx_v B L) j 0 5 = true) : zs_Cv MX12_item [.ref 80, .int (nI m)] S (fun S2 => zs_it S S2 B L dn false (j + 1) fr ev) := by
  obtain ⟨hpl, hlt, -⟩ := tx_wd hmt
  have hpq : tx_p B L j ≤ tx_q B L (j + 1) := Nat.le_of_lt (tx_q_gt hpl)
  refine zs_C.of (by decide) (Nat.le_of_ble_eq_true rfl) ?_
  show zs_P MX12_item 0 [(0, .ref 80), (1, .int (nI m))] [] S _
  refine g_aload_n dX12_item_0 rfl rfl ?_
  refine g_callV (T := TX12) (NN := 19) [] (y_wordE B L (tx_p B L j) (tx_q B L (j + 1)) S hT hpq (tx_q_le _) hmp.2.1 hmp.2.2 hlt) dX12_item_1 kk_X12_item_X12_word ml_RX12_136 mwX12_word ewX12_word (by decide) rfl rfl rfl rfl (Nat.le_of_ble_eq_true rfl) ?_
  rintro _ _ ⟨_, rfl, rfl, rfl⟩
  refine g_lstore_n (lv' := [(2, .long (lN (tx_wv B (tx_p B L j) (tx_q B L (j + 1) - tx_p B L j)))), (0, .ref 80), (1, .int (nI m))]) dX12_item_4 rfl (by decide) rfl ?_
  refine g_iload_n dX12_item_5 rfl rfl ?_
  refine g_if_neN 13 dX12_item_6 (by decide) (by omega) (fun _ => ?_) (fun z => absurd z (by omega))
  refine g_iconst (v := (nI 0)) dX12_item_13 rfl ?_
  refine g_lload_n dX12_item_14 rfl rfl ?_
  refine g_ldc2 (v := 150189) dX12_item_15 cl_RX12_140 ?_
  refine g_lcmp dX12_item_18 ?_
  refine g_if_ne 26 dX12_item_19 (by decide) (fun _ => ?_) (fun z => absurd z (fun z => absurd ((tx_kc4 hmt).mp z) (by omega)))
  refine g_iconst (v := (nI 0)) dX12_item_26 rfl ?_
  refine g_ic_neN 46 dX12_item_27 (by decide) (by omega) (by omega) (fun z => absurd z (by omega)) (fun _ => ?_)
  refine g_lload_n dX12_item_30 rfl rfl ?_
  refine g_ldc2 (v := 5925) dX12_item_31 cl_RX12_123 ?_
  refine g_lcmp dX12_item_34 ?_
  refine g_if_ne 54 dX12_item_35 (by decide) (fun z => absurd ((tx_kc6 hmt).mpr (by omega)) z) (fun _ => ?_)
  refine g_aload_n dX12_item_38 rfl rfl ?_
  refine g_getV 9 (C := RX12) (T := TX12) (N := 19) (v := (nI ev)) dX12_item_39 (by decide) rfl rfl (by decide) rfl fl_RX12_125 hev ?_
  refine g_iconst (v := (nI 5)) dX12_item_42 rfl ?_
  refine g_ic_neN 54 dX12_item_43 (by decide) (by omega) (by omega) (fun _ => ?_) (fun z => absurd z (by omega))
  refine g_lload_n dX12_item_54 rfl rfl ?_
  refine g_ldc2 (v := 149559) dX12_item_55 cl_RX12_142 ?_
  refine g_lcmp dX12_item_58 ?_
  refine g_if_ne 69 dX12_item_59 (by decide) (fun _ => ?_) (fun z => absurd z (fun z => absurd ((tx_kc5 hmt).mp z) (by omega)))
  refine g_iload_n dX12_item_69 rfl rfl ?_
  refine g_if_neN 80 dX12_item_70 (by decide) (by omega) (fun _ => ?_) (fun z => absurd z (by omega))
  refine g_aload_n dX12_item_80 rfl rfl ?_
  refine g_lload_n dX12_item_81 rfl rfl ?_
  refine g_callV (T := TX12) (NN := 19) [] (y_actE6F B L S hT hJ _ j dn ev fr hdn1 hdn (by omega) hev hfr1 hfr hC hmp ((tx_kc6 hmt).mpr (by omega)) ht) dX12_item_82 kk_X12_item_X12_act ml_RX12_150 mwX12_act ewX12_act (by decide) rfl rfl rfl rfl (Nat.le_of_ble_eq_true rfl) ?_
  rintro _ S1 ⟨rfl, oS1⟩
  refine g_aload_n dX12_item_85 rfl rfl ?_
  refine g_aload_n dX12_item_86 rfl rfl ?_
  refine g_getV 7 (C := RX12) (T := TX12) (N := 19) (v := (nI 1)) dX12_item_87 (by decide) rfl rfl (by decide) rfl fl_RX12_105 oS1.2.1.1 ?_
  refine g_if_neN 101 dX12_item_90 (by decide) (by omega) (fun _ => ?_) (fun z => absurd z (by omega))
  refine g_iconst (v := (nI 1)) dX12_item_101 rfl ?_
  refine g_goto 106 dX12_item_102 (by decide) ?_
  refine g_putI 7 (C := RX12) (T := TX12) (N := 19) (ty := .boolean) dX12_item_106 (by decide) rfl rfl (by decide) rfl fl_RX12_105 rfl (by decide +kernel) ⟨rfl, rfl⟩ ?_
  refine g_ret dX12_item_109 rfl ?_
  exact ⟨rfl, ((oS1.1).up (zs_okR rfl (by omega) (by omega) (by decide) (by decide)) rfl (by decide) (by omega) (by omega) (by decide)), ⟨zs_up_q, ((zs_up_m (by omega)).trans oS1.2.1.2.1), ((zs_up_m (by omega)).trans oS1.2.1.2.2)⟩, fun z => absurd z (by decide)⟩
set_option maxRecDepth 100000 in
theorem y_itemE7T (B : Nat → Nat) (L : Nat) (S : zs_S) (hT : zs_tm S B L) (hJ : zs_J S) (m j dn ev fr : Nat) (hm1 : 1 ≤ m) (hm2 : m ≤ 150) (hdn1 : dn ≤ 1) (hdn : S.1 80 8 = nI dn) (hev1 : ev ≤ 5) (hev : S.1 80 9 = nI ev) (hfr0 : 1 ≤ fr) (hfr1 : fr ≤ 12) (hfr : S.1 80 10 = nI fr) (hC : dn ≠ 0 → S.1 82 2 = nI ev) (hmp : zs_mp S B L 0 j) (hmt : tx_mt B L j = 0) (hk : tx_k B L j = 7) (ht : tp_tn (tx_k B L) (tx_v B L) j 0 11 = true) : zs_Cv MX12_item [.ref 80, .int (nI m)] S (fun S2 => zs_it S S2 B L dn (decide (tx_k B L (j + 1 + 1) = 2)) (j + 1 + 1) fr ev) := by
  obtain ⟨hpl, hlt, -⟩ := tx_wd hmt
  have hpq : tx_p B L j ≤ tx_q B L (j + 1) := Nat.le_of_lt (tx_q_gt hpl)
  refine zs_C.of (by decide) (Nat.le_of_ble_eq_true rfl) ?_
  show zs_P MX12_item 0 [(0, .ref 80), (1, .int (nI m))] [] S _
  refine g_aload_n dX12_item_0 rfl rfl ?_
  refine g_callV (T := TX12) (NN := 19) [] (y_wordE B L (tx_p B L j) (tx_q B L (j + 1)) S hT hpq (tx_q_le _) hmp.2.1 hmp.2.2 hlt) dX12_item_1 kk_X12_item_X12_word ml_RX12_136 mwX12_word ewX12_word (by decide) rfl rfl rfl rfl (Nat.le_of_ble_eq_true rfl) ?_
  rintro _ _ ⟨_, rfl, rfl, rfl⟩
  refine g_lstore_n (lv' := [(2, .long (lN (tx_wv B (tx_p B L j) (tx_q B L (j + 1) - tx_p B L j)))), (0, .ref 80), (1, .int (nI m))]) dX12_item_4 rfl (by decide) rfl ?_
  refine g_iload_n dX12_item_5 rfl rfl ?_
  refine g_if_neN 13 dX12_item_6 (by decide) (by omega) (fun _ => ?_) (fun z => absurd z (by omega))
  refine g_iconst (v := (nI 0)) dX12_item_13 rfl ?_
  refine g_lload_n dX12_item_14 rfl rfl ?_
  refine g_ldc2 (v := 150189) dX12_item_15 cl_RX12_140 ?_
  refine g_lcmp dX12_item_18 ?_
  refine g_if_ne 26 dX12_item_19 (by decide) (fun _ => ?_) (fun z => absurd z (fun z => absurd ((tx_kc4 hmt).mp z) (by omega)))
  refine g_iconst (v := (nI 0)) dX12_item_26 rfl ?_
  refine g_ic_neN 46 dX12_item_27 (by decide) (by omega) (by omega) (fun z => absurd z (by omega)) (fun _ => ?_)
  refine g_lload_n dX12_item_30 rfl rfl ?_
  refine g_ldc2 (v := 5925) dX12_item_31 cl_RX12_123 ?_
  refine g_lcmp dX12_item_34 ?_
  refine g_if_ne 54 dX12_item_35 (by decide) (fun _ => ?_) (fun z => absurd z (fun z => absurd ((tx_kc6 hmt).mp z) (by omega)))
  refine g_lload_n dX12_item_54 rfl rfl ?_
  refine g_ldc2 (v := 149559) dX12_item_55 cl_RX12_142 ?_
  refine g_lcmp dX12_item_58 ?_
  refine g_if_ne 69 dX12_item_59 (by decide) (fun _ => ?_) (fun z => absurd z (fun z => absurd ((tx_kc5 hmt).mp z) (by omega)))
  refine g_iload_n dX12_item_69 rfl rfl ?_
  refine g_if_neN 80 dX12_item_70 (by decide) (by omega) (fun _ => ?_) (fun z => absurd z (by omega))
  refine g_aload_n dX12_item_80 rfl rfl ?_
  refine g_lload_n dX12_item_81 rfl rfl ?_
  refine g_callV (T := TX12) (NN := 19) [] (y_actE7T B L S hT hJ _ j dn ev fr hdn1 hdn (by omega) hev hfr1 hfr hC hmp (fun z => absurd ((tx_kc6 hmt).mp z) (by omega)) ((tx_kc7 hmt).mpr (by omega)) ht) dX12_item_82 kk_X12_item_X12_act ml_RX12_150 mwX12_act ewX12_act (by decide) rfl rfl rfl rfl (Nat.le_of_ble_eq_true rfl) ?_
  rintro _ S1 ⟨rfl, oS1⟩
  refine g_aload_n dX12_item_85 rfl rfl ?_
  refine g_aload_n dX12_item_86 rfl rfl ?_
  refine g_getV 7 (C := RX12) (T := TX12) (N := 19) (v := (nI 0)) dX12_item_87 (by decide) rfl rfl (by decide) rfl fl_RX12_105 oS1.2.1.1 ?_
  refine g_if_neN 101 dX12_item_90 (by decide) (by omega) (fun z => absurd z (by omega)) (fun _ => ?_)
  refine g_aload_n dX12_item_93 rfl rfl ?_
  refine g_callV (T := TX12) (NN := 19) [.ref 80] (y_tokenE B L (j + 1 + 1) S1 ((oS1.1).y hT) oS1.1.1 oS1.2.1.2.1) dX12_item_94 kk_X12_item_X12_token ml_RX12_109 mwX12_token ewX12_token (by decide) rfl rfl rfl rfl (Nat.le_of_ble_eq_true rfl) ?_
  rintro _ S2 ⟨_, rfl, oS2, rfl, pS2, qS2, -⟩
  have m4 := tx_mt4 (B := B) (L := L) (j := j + 1 + 1)
  refine g_iconst (v := (nI 2)) dX12_item_97 rfl ?_
  refine g_ic_eqN 105 dX12_item_98 (by decide) (by omega) (by omega) (fun h3 => ?_) (fun h3 => ?_)
  · refine g_iconst (v := (nI 0)) dX12_item_105 rfl ?_
    refine g_putI 7 (C := RX12) (T := TX12) (N := 19) (ty := .boolean) dX12_item_106 (by decide) rfl rfl (by decide) rfl fl_RX12_105 rfl (by decide +kernel) ⟨rfl, rfl⟩ ?_
    refine g_ret dX12_item_109 rfl ?_
    exact ⟨rfl, ((((oS1.1).tr oS2.ox.g)).up (zs_okR rfl (by omega) (by omega) (by decide) (by decide)) rfl (by decide) (by omega) (by omega) (by decide)), by rw [tp_bT (decide_eq_true (tx_mk2.mp (by omega)))]; exact ⟨zs_up_q, ((zs_up_m (by omega)).trans pS2), ((zs_up_m (by omega)).trans qS2)⟩, fun _ => ⟨(zs_up_m (by omega)).trans ((oS2.2.2.2 9 (by omega)).trans (oS1.2.2 rfl).1), (zs_up_m (by omega)).trans ((oS2.2.2.2 10 (by omega)).trans (oS1.2.2 rfl).2.1), fun z => (zs_up_m (by omega)).trans ((congrFun (oS2.2.2.1 82 (by decide)) 2).trans ((oS1.2.2 rfl).2.2.1 z)), (zs_up_m (by omega)).trans ((congrFun (oS2.2.2.1 82 (by decide)) 0).trans (oS1.2.2 rfl).2.2.2.1), (zs_up_m (by omega)).trans ((congrFun (oS2.2.2.1 82 (by decide)) 1).trans (oS1.2.2 rfl).2.2.2.2)⟩⟩
  · refine g_iconst (v := (nI 1)) dX12_item_101 rfl ?_
    refine g_goto 106 dX12_item_102 (by decide) ?_
    refine g_putI 7 (C := RX12) (T := TX12) (N := 19) (ty := .boolean) dX12_item_106 (by decide) rfl rfl (by decide) rfl fl_RX12_105 rfl (by decide +kernel) ⟨rfl, rfl⟩ ?_
    refine g_ret dX12_item_109 rfl ?_
    exact ⟨rfl, ((((oS1.1).tr oS2.ox.g)).up (zs_okR rfl (by omega) (by omega) (by decide) (by decide)) rfl (by decide) (by omega) (by omega) (by decide)), by rw [tp_bF (fun z => absurd (tx_mk2.mpr (of_decide_eq_true z)) (by omega))]; exact ⟨zs_up_q, ((zs_up_m (by omega)).trans pS2), ((zs_up_m (by omega)).trans qS2)⟩, fun z => absurd (tx_mk2.mpr (of_decide_eq_true z)) (by omega)⟩
set_option maxRecDepth 100000 in
theorem y_itemE7F (B : Nat → Nat) (L : Nat) (S : zs_S) (hT : zs_tm S B L) (hJ : zs_J S) (m j dn ev fr : Nat) (hm1 : 1 ≤ m) (hm2 : m ≤ 150) (hdn1 : dn ≤ 1) (hdn : S.1 80 8 = nI dn) (hev1 : ev ≤ 5) (hev : S.1 80 9 = nI ev) (hfr0 : 1 ≤ fr) (hfr1 : fr ≤ 12) (hfr : S.1 80 10 = nI fr) (hC : dn ≠ 0 → S.1 82 2 = nI ev) (hmp : zs_mp S B L 0 j) (hmt : tx_mt B L j = 0) (hk : tx_k B L j = 7) (ht : ¬ tp_tn (tx_k B L) (tx_v B L) j 0 11 = true) : zs_Cv MX12_item [.ref 80, .int (nI m)] S (fun S2 => zs_it S S2 B L dn false (j + 1) fr ev) := by
  obtain ⟨hpl, hlt, -⟩ := tx_wd hmt
  have hpq : tx_p B L j ≤ tx_q B L (j + 1) := Nat.le_of_lt (tx_q_gt hpl)
  refine zs_C.of (by decide) (Nat.le_of_ble_eq_true rfl) ?_
  show zs_P MX12_item 0 [(0, .ref 80), (1, .int (nI m))] [] S _
  refine g_aload_n dX12_item_0 rfl rfl ?_
  refine g_callV (T := TX12) (NN := 19) [] (y_wordE B L (tx_p B L j) (tx_q B L (j + 1)) S hT hpq (tx_q_le _) hmp.2.1 hmp.2.2 hlt) dX12_item_1 kk_X12_item_X12_word ml_RX12_136 mwX12_word ewX12_word (by decide) rfl rfl rfl rfl (Nat.le_of_ble_eq_true rfl) ?_
  rintro _ _ ⟨_, rfl, rfl, rfl⟩
  refine g_lstore_n (lv' := [(2, .long (lN (tx_wv B (tx_p B L j) (tx_q B L (j + 1) - tx_p B L j)))), (0, .ref 80), (1, .int (nI m))]) dX12_item_4 rfl (by decide) rfl ?_
  refine g_iload_n dX12_item_5 rfl rfl ?_
  refine g_if_neN 13 dX12_item_6 (by decide) (by omega) (fun _ => ?_) (fun z => absurd z (by omega))
  refine g_iconst (v := (nI 0)) dX12_item_13 rfl ?_
  refine g_lload_n dX12_item_14 rfl rfl ?_
  refine g_ldc2 (v := 150189) dX12_item_15 cl_RX12_140 ?_
  refine g_lcmp dX12_item_18 ?_
  refine g_if_ne 26 dX12_item_19 (by decide) (fun _ => ?_) (fun z => absurd z (fun z => absurd ((tx_kc4 hmt).mp z) (by omega)))
  refine g_iconst (v := (nI 0)) dX12_item_26 rfl ?_
  refine g_ic_neN 46 dX12_item_27 (by decide) (by omega) (by omega) (fun z => absurd z (by omega)) (fun _ => ?_)
  refine g_lload_n dX12_item_30 rfl rfl ?_
  refine g_ldc2 (v := 5925) dX12_item_31 cl_RX12_123 ?_
  refine g_lcmp dX12_item_34 ?_
  refine g_if_ne 54 dX12_item_35 (by decide) (fun _ => ?_) (fun z => absurd z (fun z => absurd ((tx_kc6 hmt).mp z) (by omega)))
  refine g_lload_n dX12_item_54 rfl rfl ?_
  refine g_ldc2 (v := 149559) dX12_item_55 cl_RX12_142 ?_
  refine g_lcmp dX12_item_58 ?_
  refine g_if_ne 69 dX12_item_59 (by decide) (fun _ => ?_) (fun z => absurd z (fun z => absurd ((tx_kc5 hmt).mp z) (by omega)))
  refine g_iload_n dX12_item_69 rfl rfl ?_
  refine g_if_neN 80 dX12_item_70 (by decide) (by omega) (fun _ => ?_) (fun z => absurd z (by omega))
  refine g_aload_n dX12_item_80 rfl rfl ?_
  refine g_lload_n dX12_item_81 rfl rfl ?_
  refine g_callV (T := TX12) (NN := 19) [] (y_actE7F B L S hT hJ _ j dn ev fr hdn1 hdn (by omega) hev hfr1 hfr hC hmp (fun z => absurd ((tx_kc6 hmt).mp z) (by omega)) ((tx_kc7 hmt).mpr (by omega)) ht) dX12_item_82 kk_X12_item_X12_act ml_RX12_150 mwX12_act ewX12_act (by decide) rfl rfl rfl rfl (Nat.le_of_ble_eq_true rfl) ?_
  rintro _ S1 ⟨rfl, oS1⟩
  refine g_aload_n dX12_item_85 rfl rfl ?_
  refine g_aload_n dX12_item_86 rfl rfl ?_
  refine g_getV 7 (C := RX12) (T := TX12) (N := 19) (v := (nI 1)) dX12_item_87 (by decide) rfl rfl (by decide) rfl fl_RX12_105 oS1.2.1.1 ?_
  refine g_if_neN 101 dX12_item_90 (by decide) (by omega) (fun _ => ?_) (fun z => absurd z (by omega))
  refine g_iconst (v := (nI 1)) dX12_item_101 rfl ?_
  refine g_goto 106 dX12_item_102 (by decide) ?_
  refine g_putI 7 (C := RX12) (T := TX12) (N := 19) (ty := .boolean) dX12_item_106 (by decide) rfl rfl (by decide) rfl fl_RX12_105 rfl (by decide +kernel) ⟨rfl, rfl⟩ ?_
  refine g_ret dX12_item_109 rfl ?_
  exact ⟨rfl, ((oS1.1).up (zs_okR rfl (by omega) (by omega) (by decide) (by decide)) rfl (by decide) (by omega) (by omega) (by decide)), ⟨zs_up_q, ((zs_up_m (by omega)).trans oS1.2.1.2.1), ((zs_up_m (by omega)).trans oS1.2.1.2.2)⟩, fun z => absurd z (by decide)⟩
set_option maxRecDepth 100000 in
theorem y_itemE8T (B : Nat → Nat) (L : Nat) (S : zs_S) (hT : zs_tm S B L) (hJ : zs_J S) (m j dn ev fr : Nat) (hm1 : 1 ≤ m) (hm2 : m ≤ 150) (hdn1 : dn ≤ 1) (hdn : S.1 80 8 = nI dn) (hev1 : ev ≤ 5) (hev : S.1 80 9 = nI ev) (hfr0 : 1 ≤ fr) (hfr1 : fr ≤ 12) (hfr : S.1 80 10 = nI fr) (hC : dn ≠ 0 → S.1 82 2 = nI ev) (hmp : zs_mp S B L 0 j) (hmt : tx_mt B L j = 0) (hk : tx_k B L j = 8) (ht : tp_tn (tx_k B L) (tx_v B L) j 1 99 = true) : zs_Cv MX12_item [.ref 80, .int (nI m)] S (fun S2 => zs_it S S2 B L dn (decide (tx_k B L (j + 1 + 1) = 2)) (j + 1 + 1) fr ev) := by
  obtain ⟨hpl, hlt, -⟩ := tx_wd hmt
  have hpq : tx_p B L j ≤ tx_q B L (j + 1) := Nat.le_of_lt (tx_q_gt hpl)
  refine zs_C.of (by decide) (Nat.le_of_ble_eq_true rfl) ?_
  show zs_P MX12_item 0 [(0, .ref 80), (1, .int (nI m))] [] S _
  refine g_aload_n dX12_item_0 rfl rfl ?_
  refine g_callV (T := TX12) (NN := 19) [] (y_wordE B L (tx_p B L j) (tx_q B L (j + 1)) S hT hpq (tx_q_le _) hmp.2.1 hmp.2.2 hlt) dX12_item_1 kk_X12_item_X12_word ml_RX12_136 mwX12_word ewX12_word (by decide) rfl rfl rfl rfl (Nat.le_of_ble_eq_true rfl) ?_
  rintro _ _ ⟨_, rfl, rfl, rfl⟩
  refine g_lstore_n (lv' := [(2, .long (lN (tx_wv B (tx_p B L j) (tx_q B L (j + 1) - tx_p B L j)))), (0, .ref 80), (1, .int (nI m))]) dX12_item_4 rfl (by decide) rfl ?_
  refine g_iload_n dX12_item_5 rfl rfl ?_
  refine g_if_neN 13 dX12_item_6 (by decide) (by omega) (fun _ => ?_) (fun z => absurd z (by omega))
  refine g_iconst (v := (nI 0)) dX12_item_13 rfl ?_
  refine g_lload_n dX12_item_14 rfl rfl ?_
  refine g_ldc2 (v := 150189) dX12_item_15 cl_RX12_140 ?_
  refine g_lcmp dX12_item_18 ?_
  refine g_if_ne 26 dX12_item_19 (by decide) (fun _ => ?_) (fun z => absurd z (fun z => absurd ((tx_kc4 hmt).mp z) (by omega)))
  refine g_iconst (v := (nI 0)) dX12_item_26 rfl ?_
  refine g_ic_neN 46 dX12_item_27 (by decide) (by omega) (by omega) (fun z => absurd z (by omega)) (fun _ => ?_)
  refine g_lload_n dX12_item_30 rfl rfl ?_
  refine g_ldc2 (v := 5925) dX12_item_31 cl_RX12_123 ?_
  refine g_lcmp dX12_item_34 ?_
  refine g_if_ne 54 dX12_item_35 (by decide) (fun _ => ?_) (fun z => absurd z (fun z => absurd ((tx_kc6 hmt).mp z) (by omega)))
  refine g_lload_n dX12_item_54 rfl rfl ?_
  refine g_ldc2 (v := 149559) dX12_item_55 cl_RX12_142 ?_
  refine g_lcmp dX12_item_58 ?_
  refine g_if_ne 69 dX12_item_59 (by decide) (fun _ => ?_) (fun z => absurd z (fun z => absurd ((tx_kc5 hmt).mp z) (by omega)))
  refine g_iload_n dX12_item_69 rfl rfl ?_
  refine g_if_neN 80 dX12_item_70 (by decide) (by omega) (fun _ => ?_) (fun z => absurd z (by omega))
  refine g_aload_n dX12_item_80 rfl rfl ?_
  refine g_lload_n dX12_item_81 rfl rfl ?_
  refine g_callV (T := TX12) (NN := 19) [] (y_actE8T B L S hT hJ _ j dn ev fr hdn1 hdn (by omega) hev hfr1 hfr hC hmp (fun z => absurd ((tx_kc6 hmt).mp z) (by omega)) (fun z => absurd ((tx_kc7 hmt).mp z) (by omega)) ((tx_kc8 hmt).mpr (by omega)) ht) dX12_item_82 kk_X12_item_X12_act ml_RX12_150 mwX12_act ewX12_act (by decide) rfl rfl rfl rfl (Nat.le_of_ble_eq_true rfl) ?_
  rintro _ S1 ⟨rfl, oS1⟩
  refine g_aload_n dX12_item_85 rfl rfl ?_
  refine g_aload_n dX12_item_86 rfl rfl ?_
  refine g_getV 7 (C := RX12) (T := TX12) (N := 19) (v := (nI 0)) dX12_item_87 (by decide) rfl rfl (by decide) rfl fl_RX12_105 oS1.2.1.1 ?_
  refine g_if_neN 101 dX12_item_90 (by decide) (by omega) (fun z => absurd z (by omega)) (fun _ => ?_)
  refine g_aload_n dX12_item_93 rfl rfl ?_
  refine g_callV (T := TX12) (NN := 19) [.ref 80] (y_tokenE B L (j + 1 + 1) S1 ((oS1.1).y hT) oS1.1.1 oS1.2.1.2.1) dX12_item_94 kk_X12_item_X12_token ml_RX12_109 mwX12_token ewX12_token (by decide) rfl rfl rfl rfl (Nat.le_of_ble_eq_true rfl) ?_
  rintro _ S2 ⟨_, rfl, oS2, rfl, pS2, qS2, -⟩
  have m4 := tx_mt4 (B := B) (L := L) (j := j + 1 + 1)
  refine g_iconst (v := (nI 2)) dX12_item_97 rfl ?_
  refine g_ic_eqN 105 dX12_item_98 (by decide) (by omega) (by omega) (fun h3 => ?_) (fun h3 => ?_)
  · refine g_iconst (v := (nI 0)) dX12_item_105 rfl ?_
    refine g_putI 7 (C := RX12) (T := TX12) (N := 19) (ty := .boolean) dX12_item_106 (by decide) rfl rfl (by decide) rfl fl_RX12_105 rfl (by decide +kernel) ⟨rfl, rfl⟩ ?_
    refine g_ret dX12_item_109 rfl ?_
    exact ⟨rfl, ((((oS1.1).tr oS2.ox.g)).up (zs_okR rfl (by omega) (by omega) (by decide) (by decide)) rfl (by decide) (by omega) (by omega) (by decide)), by rw [tp_bT (decide_eq_true (tx_mk2.mp (by omega)))]; exact ⟨zs_up_q, ((zs_up_m (by omega)).trans pS2), ((zs_up_m (by omega)).trans qS2)⟩, fun _ => ⟨(zs_up_m (by omega)).trans ((oS2.2.2.2 9 (by omega)).trans (oS1.2.2 rfl).1), (zs_up_m (by omega)).trans ((oS2.2.2.2 10 (by omega)).trans (oS1.2.2 rfl).2.1), fun z => (zs_up_m (by omega)).trans ((congrFun (oS2.2.2.1 82 (by decide)) 2).trans ((oS1.2.2 rfl).2.2.1 z)), (zs_up_m (by omega)).trans ((congrFun (oS2.2.2.1 82 (by decide)) 0).trans (oS1.2.2 rfl).2.2.2.1), (zs_up_m (by omega)).trans ((congrFun (oS2.2.2.1 82 (by decide)) 1).trans (oS1.2.2 rfl).2.2.2.2)⟩⟩
  · refine g_iconst (v := (nI 1)) dX12_item_101 rfl ?_
    refine g_goto 106 dX12_item_102 (by decide) ?_
    refine g_putI 7 (C := RX12) (T := TX12) (N := 19) (ty := .boolean) dX12_item_106 (by decide) rfl rfl (by decide) rfl fl_RX12_105 rfl (by decide +kernel) ⟨rfl, rfl⟩ ?_
    refine g_ret dX12_item_109 rfl ?_
    exact ⟨rfl, ((((oS1.1).tr oS2.ox.g)).up (zs_okR rfl (by omega) (by omega) (by decide) (by decide)) rfl (by decide) (by omega) (by omega) (by decide)), by rw [tp_bF (fun z => absurd (tx_mk2.mpr (of_decide_eq_true z)) (by omega))]; exact ⟨zs_up_q, ((zs_up_m (by omega)).trans pS2), ((zs_up_m (by omega)).trans qS2)⟩, fun z => absurd (tx_mk2.mpr (of_decide_eq_true z)) (by omega)⟩
set_option maxRecDepth 100000 in
theorem y_itemE8F (B : Nat → Nat) (L : Nat) (S : zs_S) (hT : zs_tm S B L) (hJ : zs_J S) (m j dn ev fr : Nat) (hm1 : 1 ≤ m) (hm2 : m ≤ 150) (hdn1 : dn ≤ 1) (hdn : S.1 80 8 = nI dn) (hev1 : ev ≤ 5) (hev : S.1 80 9 = nI ev) (hfr0 : 1 ≤ fr) (hfr1 : fr ≤ 12) (hfr : S.1 80 10 = nI fr) (hC : dn ≠ 0 → S.1 82 2 = nI ev) (hmp : zs_mp S B L 0 j) (hmt : tx_mt B L j = 0) (hk : tx_k B L j = 8) (ht : ¬ tp_tn (tx_k B L) (tx_v B L) j 1 99 = true) : zs_Cv MX12_item [.ref 80, .int (nI m)] S (fun S2 => zs_it S S2 B L dn false (j + 1) fr ev) := by
  obtain ⟨hpl, hlt, -⟩ := tx_wd hmt
  have hpq : tx_p B L j ≤ tx_q B L (j + 1) := Nat.le_of_lt (tx_q_gt hpl)
  refine zs_C.of (by decide) (Nat.le_of_ble_eq_true rfl) ?_
  show zs_P MX12_item 0 [(0, .ref 80), (1, .int (nI m))] [] S _
  refine g_aload_n dX12_item_0 rfl rfl ?_
  refine g_callV (T := TX12) (NN := 19) [] (y_wordE B L (tx_p B L j) (tx_q B L (j + 1)) S hT hpq (tx_q_le _) hmp.2.1 hmp.2.2 hlt) dX12_item_1 kk_X12_item_X12_word ml_RX12_136 mwX12_word ewX12_word (by decide) rfl rfl rfl rfl (Nat.le_of_ble_eq_true rfl) ?_
  rintro _ _ ⟨_, rfl, rfl, rfl⟩
  refine g_lstore_n (lv' := [(2, .long (lN (tx_wv B (tx_p B L j) (tx_q B L (j + 1) - tx_p B L j)))), (0, .ref 80), (1, .int (nI m))]) dX12_item_4 rfl (by decide) rfl ?_
  refine g_iload_n dX12_item_5 rfl rfl ?_
  refine g_if_neN 13 dX12_item_6 (by decide) (by omega) (fun _ => ?_) (fun z => absurd z (by omega))
  refine g_iconst (v := (nI 0)) dX12_item_13 rfl ?_
  refine g_lload_n dX12_item_14 rfl rfl ?_
  refine g_ldc2 (v := 150189) dX12_item_15 cl_RX12_140 ?_
  refine g_lcmp dX12_item_18 ?_
  refine g_if_ne 26 dX12_item_19 (by decide) (fun _ => ?_) (fun z => absurd z (fun z => absurd ((tx_kc4 hmt).mp z) (by omega)))
  refine g_iconst (v := (nI 0)) dX12_item_26 rfl ?_
  refine g_ic_neN 46 dX12_item_27 (by decide) (by omega) (by omega) (fun z => absurd z (by omega)) (fun _ => ?_)
  refine g_lload_n dX12_item_30 rfl rfl ?_
  refine g_ldc2 (v := 5925) dX12_item_31 cl_RX12_123 ?_
  refine g_lcmp dX12_item_34 ?_
  refine g_if_ne 54 dX12_item_35 (by decide) (fun _ => ?_) (fun z => absurd z (fun z => absurd ((tx_kc6 hmt).mp z) (by omega)))
  refine g_lload_n dX12_item_54 rfl rfl ?_
  refine g_ldc2 (v := 149559) dX12_item_55 cl_RX12_142 ?_
  refine g_lcmp dX12_item_58 ?_
  refine g_if_ne 69 dX12_item_59 (by decide) (fun _ => ?_) (fun z => absurd z (fun z => absurd ((tx_kc5 hmt).mp z) (by omega)))
  refine g_iload_n dX12_item_69 rfl rfl ?_
  refine g_if_neN 80 dX12_item_70 (by decide) (by omega) (fun _ => ?_) (fun z => absurd z (by omega))
  refine g_aload_n dX12_item_80 rfl rfl ?_
  refine g_lload_n dX12_item_81 rfl rfl ?_
  refine g_callV (T := TX12) (NN := 19) [] (y_actE8F B L S hT hJ _ j dn ev fr hdn1 hdn (by omega) hev hfr1 hfr hC hmp (fun z => absurd ((tx_kc6 hmt).mp z) (by omega)) (fun z => absurd ((tx_kc7 hmt).mp z) (by omega)) ((tx_kc8 hmt).mpr (by omega)) ht) dX12_item_82 kk_X12_item_X12_act ml_RX12_150 mwX12_act ewX12_act (by decide) rfl rfl rfl rfl (Nat.le_of_ble_eq_true rfl) ?_
  rintro _ S1 ⟨rfl, oS1⟩
  refine g_aload_n dX12_item_85 rfl rfl ?_
  refine g_aload_n dX12_item_86 rfl rfl ?_
  refine g_getV 7 (C := RX12) (T := TX12) (N := 19) (v := (nI 1)) dX12_item_87 (by decide) rfl rfl (by decide) rfl fl_RX12_105 oS1.2.1.1 ?_
  refine g_if_neN 101 dX12_item_90 (by decide) (by omega) (fun _ => ?_) (fun z => absurd z (by omega))
  refine g_iconst (v := (nI 1)) dX12_item_101 rfl ?_
  refine g_goto 106 dX12_item_102 (by decide) ?_
  refine g_putI 7 (C := RX12) (T := TX12) (N := 19) (ty := .boolean) dX12_item_106 (by decide) rfl rfl (by decide) rfl fl_RX12_105 rfl (by decide +kernel) ⟨rfl, rfl⟩ ?_
  refine g_ret dX12_item_109 rfl ?_
  exact ⟨rfl, ((oS1.1).up (zs_okR rfl (by omega) (by omega) (by decide) (by decide)) rfl (by decide) (by omega) (by omega) (by decide)), ⟨zs_up_q, ((zs_up_m (by omega)).trans oS1.2.1.2.1), ((zs_up_m (by omega)).trans oS1.2.1.2.2)⟩, fun z => absurd z (by decide)⟩
set_option maxRecDepth 100000 in
theorem y_itemE3 (B : Nat → Nat) (L : Nat) (S : zs_S) (hT : zs_tm S B L) (hJ : zs_J S) (m j dn ev fr : Nat) (hm1 : 1 ≤ m) (hm2 : m ≤ 150) (hdn1 : dn ≤ 1) (hdn : S.1 80 8 = nI dn) (hev1 : ev ≤ 5) (hev : S.1 80 9 = nI ev) (hfr0 : 1 ≤ fr) (hfr1 : fr ≤ 12) (hfr : S.1 80 10 = nI fr) (hC : dn ≠ 0 → S.1 82 2 = nI ev) (hmp : zs_mp S B L 0 j) (hmt : tx_mt B L j = 0) (hk : tx_k B L j = 3) : zs_Cv MX12_item [.ref 80, .int (nI m)] S (fun S2 => zs_it S S2 B L dn false j fr ev) := by
  obtain ⟨hpl, hlt, -⟩ := tx_wd hmt
  have hpq : tx_p B L j ≤ tx_q B L (j + 1) := Nat.le_of_lt (tx_q_gt hpl)
  refine zs_C.of (by decide) (Nat.le_of_ble_eq_true rfl) ?_
  show zs_P MX12_item 0 [(0, .ref 80), (1, .int (nI m))] [] S _
  refine g_aload_n dX12_item_0 rfl rfl ?_
  refine g_callV (T := TX12) (NN := 19) [] (y_wordE B L (tx_p B L j) (tx_q B L (j + 1)) S hT hpq (tx_q_le _) hmp.2.1 hmp.2.2 hlt) dX12_item_1 kk_X12_item_X12_word ml_RX12_136 mwX12_word ewX12_word (by decide) rfl rfl rfl rfl (Nat.le_of_ble_eq_true rfl) ?_
  rintro _ _ ⟨_, rfl, rfl, rfl⟩
  refine g_lstore_n (lv' := [(2, .long (lN (tx_wv B (tx_p B L j) (tx_q B L (j + 1) - tx_p B L j)))), (0, .ref 80), (1, .int (nI m))]) dX12_item_4 rfl (by decide) rfl ?_
  refine g_iload_n dX12_item_5 rfl rfl ?_
  refine g_if_neN 13 dX12_item_6 (by decide) (by omega) (fun _ => ?_) (fun z => absurd z (by omega))
  refine g_iconst (v := (nI 0)) dX12_item_13 rfl ?_
  refine g_lload_n dX12_item_14 rfl rfl ?_
  refine g_ldc2 (v := 150189) dX12_item_15 cl_RX12_140 ?_
  refine g_lcmp dX12_item_18 ?_
  refine g_if_ne 26 dX12_item_19 (by decide) (fun _ => ?_) (fun z => absurd z (fun z => absurd ((tx_kc4 hmt).mp z) (by omega)))
  refine g_iconst (v := (nI 0)) dX12_item_26 rfl ?_
  refine g_ic_neN 46 dX12_item_27 (by decide) (by omega) (by omega) (fun z => absurd z (by omega)) (fun _ => ?_)
  refine g_lload_n dX12_item_30 rfl rfl ?_
  refine g_ldc2 (v := 5925) dX12_item_31 cl_RX12_123 ?_
  refine g_lcmp dX12_item_34 ?_
  refine g_if_ne 54 dX12_item_35 (by decide) (fun _ => ?_) (fun z => absurd z (fun z => absurd ((tx_kc6 hmt).mp z) (by omega)))
  refine g_lload_n dX12_item_54 rfl rfl ?_
  refine g_ldc2 (v := 149559) dX12_item_55 cl_RX12_142 ?_
  refine g_lcmp dX12_item_58 ?_
  refine g_if_ne 69 dX12_item_59 (by decide) (fun _ => ?_) (fun z => absurd z (fun z => absurd ((tx_kc5 hmt).mp z) (by omega)))
  refine g_iload_n dX12_item_69 rfl rfl ?_
  refine g_if_neN 80 dX12_item_70 (by decide) (by omega) (fun _ => ?_) (fun z => absurd z (by omega))
  refine g_aload_n dX12_item_80 rfl rfl ?_
  refine g_lload_n dX12_item_81 rfl rfl ?_
  refine g_callV (T := TX12) (NN := 19) [] (y_actE3 B L S hT hJ _ j dn ev fr hdn1 hdn (by omega) hev hfr1 hfr hC hmp (fun z => absurd ((tx_kc6 hmt).mp z) (by omega)) (fun z => absurd ((tx_kc7 hmt).mp z) (by omega)) (fun z => absurd ((tx_kc8 hmt).mp z) (by omega))) dX12_item_82 kk_X12_item_X12_act ml_RX12_150 mwX12_act ewX12_act (by decide) rfl rfl rfl rfl (Nat.le_of_ble_eq_true rfl) ?_
  rintro _ S1 ⟨rfl, oS1⟩
  refine g_aload_n dX12_item_85 rfl rfl ?_
  refine g_aload_n dX12_item_86 rfl rfl ?_
  refine g_getV 7 (C := RX12) (T := TX12) (N := 19) (v := (nI 1)) dX12_item_87 (by decide) rfl rfl (by decide) rfl fl_RX12_105 oS1.2.1.1 ?_
  refine g_if_neN 101 dX12_item_90 (by decide) (by omega) (fun _ => ?_) (fun z => absurd z (by omega))
  refine g_iconst (v := (nI 1)) dX12_item_101 rfl ?_
  refine g_goto 106 dX12_item_102 (by decide) ?_
  refine g_putI 7 (C := RX12) (T := TX12) (N := 19) (ty := .boolean) dX12_item_106 (by decide) rfl rfl (by decide) rfl fl_RX12_105 rfl (by decide +kernel) ⟨rfl, rfl⟩ ?_
  refine g_ret dX12_item_109 rfl ?_
  exact ⟨rfl, ((oS1.1).up (zs_okR rfl (by omega) (by omega) (by decide) (by decide)) rfl (by decide) (by omega) (by omega) (by decide)), ⟨zs_up_q, ((zs_up_m (by omega)).trans oS1.2.1.2.1), ((zs_up_m (by omega)).trans oS1.2.1.2.2)⟩, fun z => absurd z (by decide)⟩
theorem y_itemE (B : Nat → Nat) (L : Nat) (S : zs_S) (hT : zs_tm S B L) (hJ : zs_J S) (m j dn ev fr : Nat) (hm1 : 1 ≤ m) (hm2 : m ≤ 150) (hdn1 : dn ≤ 1) (hdn : S.1 80 8 = nI dn) (hev1 : ev ≤ 5) (hev : S.1 80 9 = nI ev) (hfr0 : 1 ≤ fr) (hfr1 : fr ≤ 12) (hfr : S.1 80 10 = nI fr) (hC : dn ≠ 0 → S.1 82 2 = nI ev) (hmp : zs_mp S B L 0 j) (hmt : tx_mt B L j = 0) : zs_Cv MX12_item [.ref 80, .int (nI m)] S (fun S2 => zs_it S S2 B L dn (tp_item (tx_k B L) (tx_v B L) fr ev j).1 (tp_item (tx_k B L) (tx_v B L) fr ev j).2 fr (tp_ey (tx_k B L) ev j)) := by
  have h38 := tx_k38 hmt
  unfold tp_item tp_ey
  by_cases k5 : tx_k B L j = 5
  · rw [if_pos k5, if_neg (by omega)]
    exact y_itemE5 B L S hT hJ m j dn ev fr hm1 hm2 hdn1 hdn hev1 hev hfr0 hfr1 hfr hC hmp hmt k5
  rw [if_neg k5]
  by_cases k6 : tx_k B L j = 6
  · rw [if_pos k6, if_pos k6]
    by_cases h5 : 5 ≤ ev
    · rw [if_pos h5]
      exact (y_itemE6x B L S hT hJ m j dn ev fr hm1 hm2 hdn1 hdn hev1 hev hfr0 hfr1 hfr hC hmp hmt k6 h5).mono (fun _ _ q => ⟨q.1, q.2.1, q.2.2.1, fun z => absurd z Bool.false_ne_true⟩)
    · rw [if_neg h5]
      by_cases ht : tp_tn (tx_k B L) (tx_v B L) j 0 5 = true
      · rw [if_pos ht]
        exact y_itemE6T B L S hT hJ m j dn ev fr hm1 hm2 hdn1 hdn hev1 hev hfr0 hfr1 hfr hC hmp hmt k6 (by omega) ht
      · rw [if_neg ht]
        exact (y_itemE6F B L S hT hJ m j dn ev fr hm1 hm2 hdn1 hdn hev1 hev hfr0 hfr1 hfr hC hmp hmt k6 (by omega) ht).mono (fun _ _ q => ⟨q.1, q.2.1, q.2.2.1, fun z => absurd z Bool.false_ne_true⟩)
  rw [if_neg k6, if_neg k6]
  by_cases k7 : tx_k B L j = 7
  · rw [if_pos k7]
    by_cases ht : tp_tn (tx_k B L) (tx_v B L) j 0 11 = true
    · rw [if_pos ht]
      exact y_itemE7T B L S hT hJ m j dn ev fr hm1 hm2 hdn1 hdn hev1 hev hfr0 hfr1 hfr hC hmp hmt k7 ht
    · rw [if_neg ht]
      exact y_itemE7F B L S hT hJ m j dn ev fr hm1 hm2 hdn1 hdn hev1 hev hfr0 hfr1 hfr hC hmp hmt k7 ht
  rw [if_neg k7]
  by_cases k8 : tx_k B L j = 8
  · rw [if_pos k8]
    by_cases ht : tp_tn (tx_k B L) (tx_v B L) j 1 99 = true
    · rw [if_pos ht]
      exact y_itemE8T B L S hT hJ m j dn ev fr hm1 hm2 hdn1 hdn hev1 hev hfr0 hfr1 hfr hC hmp hmt k8 ht
    · rw [if_neg ht]
      exact y_itemE8F B L S hT hJ m j dn ev fr hm1 hm2 hdn1 hdn hev1 hev hfr0 hfr1 hfr hC hmp hmt k8 ht
  rw [if_neg k8]
  by_cases k4 : tx_k B L j = 4
  · exact y_itemE4 B L S hT hJ m j dn ev fr hm1 hm2 hdn1 hdn hev1 hev hfr0 hfr1 hfr hC hmp hmt k4
  · exact y_itemE3 B L S hT hJ m j dn ev fr hm1 hm2 hdn1 hdn hev1 hev hfr0 hfr1 hfr hC hmp hmt (by omega)
