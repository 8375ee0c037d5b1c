theorem tp_rdN {K V : Nat → Nat} (h : K 0 ≠ 4) : tp_read K V = (false, 0, 0, 0) := if_neg h
theorem tp_rdF {K V : Nat → Nat} (h : K 0 = 4) (hd : ¬ (tp_drum K V).1 = true) : tp_read K V = (false, 0, (tp_drum K V).2, 0) := (if_pos h).trans (if_neg hd)
theorem tp_rdT {K V : Nat → Nat} (h : K 0 = 4) (hd : (tp_drum K V).1 = true) : tp_read K V = tp_all K V (V 1) 150 1 0 4 := ((if_pos h).trans (if_pos hd)).trans (by rw [(tp_drumB hd).1])
theorem zs_tm.up {S : zs_S} {B : Nat → Nat} {L j : Nat} {v : Int32} (h : zs_tm S B L) (hj : ¬ 3 = j) : zs_tm (zs_up S.1 80 j v, S.2) B L := ⟨h.1, (zs_up_m (by omega)).trans h.2.1, fun i hi => ⟨(h.2.2 i hi).1, (zs_up_m (by omega)).trans (h.2.2 i hi).2⟩⟩
set_option maxRecDepth 100000 in
theorem z_gE0 (B : Nat → Nat) (L : Nat) (S : zs_S) (hT : zs_tm S B L) (hJ : zs_J S) (dn : Nat) (hdn1 : dn ≤ 1) (h5 : S.1 80 5 = nI (tx_q B L 0)) (h7 : S.1 80 7 = nI 0) (hdn : S.1 80 8 = nI dn) (h9 : S.1 80 9 = nI 0) : zs_P MX12_goesThrough 27 [(2, .int (nI 0)), (0, .ref 80), (1, .int (nI dn))] [] S (fun v S2 => zs_gr S S2 v B L dn (tx_v B L 1) (tx_v B L 2) (tp_read (tx_k B L) (tx_v B L)) ∧ ((tp_read (tx_k B L) (tx_v B L)).1 = true → dn ≠ 0 → zs_zm S2)) := by
  have hL := hT.1
  have m4 := tx_mt4 (B := B) (L := L) (j := 0)
  by_cases h4 : tx_mt B L 0 = 4
  · rw [tp_rdN (by rw [tx_mk0.mp h4]; omega)]
    · suffices hz : zs_P MX12_goesThrough 27 [(2, .int (nI 0)), (0, .ref 80), (1, .int (nI dn))] [] S (fun v S2 => zs_oY S S2 ∧ zs_mp S2 B L 1 0 ∧ ∃ x, v = some (.int x)) from (hz.mono (fun _ _ q => ⟨q.1, q.2.1, q.2.2.choose, q.2.2.choose_spec, fun z => absurd z Bool.false_ne_true⟩)).mono (fun _ _ q => ⟨q, fun z => absurd z Bool.false_ne_true⟩)
      refine g_aload_n dX12_goesThrough_27 rfl rfl ?_
      refine g_callV (T := TX12) (NN := 19) [] (y_tokenE B L 0 S (((zs_oY.rf hJ)).y hT) hJ h5) dX12_goesThrough_28 kk_X12_goesThrough_X12_token ml_RX12_109 mwX12_token ewX12_token (by decide) rfl rfl rfl rfl (Nat.le_of_ble_eq_true rfl) ?_
      rintro _ S1 ⟨_, rfl, oS1, rfl, pS1, qS1, -⟩
      refine g_istore_n (lv' := [(3, .int (nI (tx_mt B L 0))), (2, .int (nI 0)), (0, .ref 80), (1, .int (nI dn))]) dX12_goesThrough_31 rfl (by decide) rfl ?_
      refine g_iload_n dX12_goesThrough_32 rfl rfl ?_
      refine g_iconst (v := (nI 4)) dX12_goesThrough_33 rfl ?_
      refine g_ic_eqN 91 dX12_goesThrough_34 (by decide) (by omega) (by omega) (fun _ => ?_) (fun z => absurd z (by omega))
      refine g_aload_n dX12_goesThrough_91 rfl rfl ?_
      refine g_aload_n dX12_goesThrough_92 rfl rfl ?_
      refine g_getV 7 (C := RX12) (T := TX12) (N := 19) (v := (nI 0)) dX12_goesThrough_93 (by decide) rfl rfl (by decide) rfl fl_RX12_105 ((oS1.2.2.2 7 (by omega)).trans h7) ?_
      refine g_if_neN 103 dX12_goesThrough_96 (by decide) (by omega) (fun z => absurd z (by omega)) (fun _ => ?_)
      refine g_iload_n dX12_goesThrough_99 rfl rfl ?_
      refine g_if_neN 107 dX12_goesThrough_100 (by decide) (by omega) (fun z => absurd z (by omega)) (fun _ => ?_)
      refine g_iconst (v := (nI 1)) dX12_goesThrough_103 rfl ?_
      refine g_goto 108 dX12_goesThrough_104 (by decide) ?_
      refine g_putI 7 (C := RX12) (T := TX12) (N := 19) (ty := .boolean) dX12_goesThrough_108 (by decide) rfl rfl (by decide) rfl fl_RX12_105 rfl (by decide +kernel) ⟨rfl, rfl⟩ ?_
      refine g_iload_n dX12_goesThrough_111 rfl rfl ?_
      refine g_iret dX12_goesThrough_112 rfl rfl ?_
      exact ⟨(((((zs_oY.rf hJ)).tr oS1.ox.g)).up (zs_okR rfl (by omega) (by omega) (by decide) (by decide)) rfl (by decide) (by omega) (by omega) (by decide)), ⟨zs_up_q, ((zs_up_m (by omega)).trans pS1), ((zs_up_m (by omega)).trans qS1)⟩, _, rfl⟩
  by_cases hm0 : tx_mt B L 0 = 0
  · by_cases hk : tx_k B L 0 = 4
    · by_cases hit : (tp_drum (tx_k B L) (tx_v B L)).1 = true
      · rw [tp_rdT hk hit]
        obtain ⟨hd4, hb1, hb2, hb3, -⟩ := tp_drumB hit
        refine g_aload_n dX12_goesThrough_27 rfl rfl ?_
        refine g_callV (T := TX12) (NN := 19) [] (y_tokenE B L 0 S (((zs_oY.rf hJ)).y hT) hJ h5) dX12_goesThrough_28 kk_X12_goesThrough_X12_token ml_RX12_109 mwX12_token ewX12_token (by decide) rfl rfl rfl rfl (Nat.le_of_ble_eq_true rfl) ?_
        rintro _ S1 ⟨_, rfl, oS1, rfl, pS1, qS1, -⟩
        refine g_istore_n (lv' := [(3, .int (nI (tx_mt B L 0))), (2, .int (nI 0)), (0, .ref 80), (1, .int (nI dn))]) dX12_goesThrough_31 rfl (by decide) rfl ?_
        refine g_iload_n dX12_goesThrough_32 rfl rfl ?_
        refine g_iconst (v := (nI 4)) dX12_goesThrough_33 rfl ?_
        refine g_ic_eqN 91 dX12_goesThrough_34 (by decide) (by omega) (by omega) (fun z => absurd z (by omega)) (fun _ => ?_)
        refine g_aload_n dX12_goesThrough_37 rfl rfl ?_
        refine g_getV 7 (C := RX12) (T := TX12) (N := 19) (v := (nI 0)) dX12_goesThrough_38 (by decide) rfl rfl (by decide) rfl fl_RX12_105 ((oS1.2.2.2 7 (by omega)).trans h7) ?_
        refine g_if_neN 91 dX12_goesThrough_41 (by decide) (by omega) (fun z => absurd z (by omega)) (fun _ => ?_)
        refine g_aload_n dX12_goesThrough_44 rfl rfl ?_
        refine g_iload_n dX12_goesThrough_45 rfl rfl ?_
        refine g_if_eqN 53 dX12_goesThrough_46 (by decide) (by omega) (fun _ => ?_) (fun z => absurd z (by omega))
        refine g_iconst (v := (nI 0)) dX12_goesThrough_53 rfl ?_
        refine g_putI 7 (C := RX12) (T := TX12) (N := 19) (ty := .boolean) dX12_goesThrough_54 (by decide) rfl rfl (by decide) rfl fl_RX12_105 rfl (by decide +kernel) ⟨rfl, rfl⟩ ?_
        refine g_aload_n dX12_goesThrough_57 rfl rfl ?_
        refine g_getV 7 (C := RX12) (T := TX12) (N := 19) (v := (nI 0)) dX12_goesThrough_58 (by decide) rfl rfl (by decide) rfl fl_RX12_105 zs_up_q ?_
        refine g_if_neN 72 dX12_goesThrough_61 (by decide) (by omega) (fun z => absurd z (by omega)) (fun _ => ?_)
        refine g_aload_n dX12_goesThrough_64 rfl rfl ?_
        refine g_iload_n dX12_goesThrough_65 rfl rfl ?_
        refine g_callV (T := TX12) (NN := 19) [] (y_item0 B L (zs_up S1.1 80 7 (nI 0), S1.2) (((((((zs_oY.rf hJ)).tr oS1.ox.g)).up (zs_okR rfl (by omega) (by omega) (by decide) (by decide)) rfl (by decide) (by omega) (by omega) (by decide))).y hT) ((oS1.1).up (zs_okR rfl (by omega) (by omega) (by decide) (by decide))) dn hdn1 ((zs_up_m (by omega)).trans ((oS1.2.2.2 8 (by omega)).trans hdn)) ((zs_up_m (by omega)).trans ((oS1.2.2.2 9 (by omega)).trans h9)) ⟨zs_up_q, ((zs_up_m (by omega)).trans pS1), ((zs_up_m (by omega)).trans qS1)⟩ hm0 hk) dX12_goesThrough_66 kk_X12_goesThrough_X12_item ml_RX12_154 mwX12_item ewX12_item (by decide) rfl rfl rfl rfl (Nat.le_of_ble_eq_true rfl) ?_
        rintro _ S2 ⟨rfl, oS2⟩
        have pS2 := oS2.2.1
        rw [tp_bT hit, hd4] at pS2
        refine g_iinc (v := (nI (0 + 1))) (lv' := [(2, .int (nI (0 + 1))), (3, .int (nI (tx_mt B L 0))), (0, .ref 80), (1, .int (nI dn))]) dX12_goesThrough_69 rfl (nI_1 0) (by decide) rfl ?_
        refine g_aload_n dX12_goesThrough_72 rfl rfl ?_
        refine g_getV 7 (C := RX12) (T := TX12) (N := 19) (v := (nI 0)) dX12_goesThrough_73 (by decide) rfl rfl (by decide) rfl fl_RX12_105 pS2.1 ?_
        refine g_if_eqN 83 dX12_goesThrough_76 (by decide) (by omega) (fun _ => ?_) (fun z => absurd z (by omega))
        refine g_aload_n dX12_goesThrough_83 rfl rfl ?_
        refine g_callV (T := TX12) (NN := 19) [] (y_tokenE B L 5 S2 (((((((((zs_oY.rf hJ)).tr oS1.ox.g)).up (zs_okR rfl (by omega) (by omega) (by decide) (by decide)) rfl (by decide) (by omega) (by omega) (by decide))).tr oS2.1)).y hT) oS2.1.1 pS2.2.1) dX12_goesThrough_84 kk_X12_goesThrough_X12_token ml_RX12_109 mwX12_token ewX12_token (by decide) rfl rfl rfl rfl (Nat.le_of_ble_eq_true rfl) ?_
        rintro _ S3 ⟨_, rfl, oS3, rfl, pS3, qS3, -⟩
        refine g_istore_n (lv' := [(3, .int (nI (tx_mt B L 5))), (2, .int (nI (0 + 1))), (0, .ref 80), (1, .int (nI dn))]) dX12_goesThrough_87 rfl (by decide) rfl ?_
        refine g_goto 32 dX12_goesThrough_88 (by decide) ?_
        exact ((z_gE B L dn (tx_v B L 1) (tx_v B L 2) S3 (((((((((((zs_oY.rf hJ)).tr oS1.ox.g)).up (zs_okR rfl (by omega) (by omega) (by decide) (by decide)) rfl (by decide) (by omega) (by omega) (by decide))).tr oS2.1)).tr oS3.ox.g)).y hT) hdn1 (by omega) (by omega) 150 1 0 4 S3 (zs_oY.rf oS3.1) ⟨((oS3.2.2.2 7 (by omega)).trans pS2.1), pS3, qS3⟩ ((oS3.2.2.2 8 (by omega)).trans (oS2.1.e8.trans ((zs_up_m (by omega)).trans ((oS1.2.2.2 8 (by omega)).trans hdn)))) ((oS3.2.2.2 9 (by omega)).trans (oS2.2.2 hit).1) ((oS3.2.2.2 10 (by omega)).trans (oS2.2.2 hit).2.1) (fun z => ⟨((congrFun (oS3.2.2.1 82 (by decide)) 2).trans ((oS2.2.2 hit).2.2 z).1), ((congrFun (oS3.2.2.1 82 (by decide)) 0).trans ((oS2.2.2 hit).2.2 z).2.1), ((congrFun (oS3.2.2.1 82 (by decide)) 1).trans ((oS2.2.2 hit).2.2 z).2.2.1)⟩) (by omega) (by omega) (by omega) (by omega) (by omega)).lv (zs_mc 0 rfl (zs_mc 1 rfl (zs_mc 2 rfl (zs_mc 3 rfl zs_mn))))).mono (fun _ _ q => ⟨⟨((((((((((zs_oY.rf hJ)).tr oS1.ox.g)).up (zs_okR rfl (by omega) (by omega) (by decide) (by decide)) rfl (by decide) (by omega) (by omega) (by decide))).tr oS2.1)).tr oS3.ox.g)).tr q.1, q.2⟩, fun _ z => q.1.2.2.2.2.2.2.1 ⟨((congrFun (oS3.2.2.1 82 (by decide)) 8).trans ((oS2.2.2 hit).2.2 z).2.2.2.1), ((congrFun (oS3.2.2.1 82 (by decide)) 21).trans ((oS2.2.2 hit).2.2 z).2.2.2.2.1), ((congrFun (oS3.2.2.1 82 (by decide)) 46).trans ((oS2.2.2 hit).2.2 z).2.2.2.2.2)⟩⟩)
      · rw [tp_rdF hk hit]
        suffices hz : zs_P MX12_goesThrough 27 [(2, .int (nI 0)), (0, .ref 80), (1, .int (nI dn))] [] S (fun v S2 => zs_oY S S2 ∧ zs_mp S2 B L 1 (tp_drum (tx_k B L) (tx_v B L)).2 ∧ ∃ x, v = some (.int x)) from (hz.mono (fun _ _ q => ⟨q.1, q.2.1, q.2.2.choose, q.2.2.choose_spec, fun z => absurd z Bool.false_ne_true⟩)).mono (fun _ _ q => ⟨q, fun z => absurd z Bool.false_ne_true⟩)
        refine g_aload_n dX12_goesThrough_27 rfl rfl ?_
        refine g_callV (T := TX12) (NN := 19) [] (y_tokenE B L 0 S (((zs_oY.rf hJ)).y hT) hJ h5) dX12_goesThrough_28 kk_X12_goesThrough_X12_token ml_RX12_109 mwX12_token ewX12_token (by decide) rfl rfl rfl rfl (Nat.le_of_ble_eq_true rfl) ?_
        rintro _ S1 ⟨_, rfl, oS1, rfl, pS1, qS1, -⟩
        refine g_istore_n (lv' := [(3, .int (nI (tx_mt B L 0))), (2, .int (nI 0)), (0, .ref 80), (1, .int (nI dn))]) dX12_goesThrough_31 rfl (by decide) rfl ?_
        refine g_iload_n dX12_goesThrough_32 rfl rfl ?_
        refine g_iconst (v := (nI 4)) dX12_goesThrough_33 rfl ?_
        refine g_ic_eqN 91 dX12_goesThrough_34 (by decide) (by omega) (by omega) (fun z => absurd z (by omega)) (fun _ => ?_)
        refine g_aload_n dX12_goesThrough_37 rfl rfl ?_
        refine g_getV 7 (C := RX12) (T := TX12) (N := 19) (v := (nI 0)) dX12_goesThrough_38 (by decide) rfl rfl (by decide) rfl fl_RX12_105 ((oS1.2.2.2 7 (by omega)).trans h7) ?_
        refine g_if_neN 91 dX12_goesThrough_41 (by decide) (by omega) (fun z => absurd z (by omega)) (fun _ => ?_)
        refine g_aload_n dX12_goesThrough_44 rfl rfl ?_
        refine g_iload_n dX12_goesThrough_45 rfl rfl ?_
        refine g_if_eqN 53 dX12_goesThrough_46 (by decide) (by omega) (fun _ => ?_) (fun z => absurd z (by omega))
        refine g_iconst (v := (nI 0)) dX12_goesThrough_53 rfl ?_
        refine g_putI 7 (C := RX12) (T := TX12) (N := 19) (ty := .boolean) dX12_goesThrough_54 (by decide) rfl rfl (by decide) rfl fl_RX12_105 rfl (by decide +kernel) ⟨rfl, rfl⟩ ?_
        refine g_aload_n dX12_goesThrough_57 rfl rfl ?_
        refine g_getV 7 (C := RX12) (T := TX12) (N := 19) (v := (nI 0)) dX12_goesThrough_58 (by decide) rfl rfl (by decide) rfl fl_RX12_105 zs_up_q ?_
        refine g_if_neN 72 dX12_goesThrough_61 (by decide) (by omega) (fun z => absurd z (by omega)) (fun _ => ?_)
        refine g_aload_n dX12_goesThrough_64 rfl rfl ?_
        refine g_iload_n dX12_goesThrough_65 rfl rfl ?_
        refine g_callV (T := TX12) (NN := 19) [] (y_item0 B L (zs_up S1.1 80 7 (nI 0), S1.2) (((((((zs_oY.rf hJ)).tr oS1.ox.g)).up (zs_okR rfl (by omega) (by omega) (by decide) (by decide)) rfl (by decide) (by omega) (by omega) (by decide))).y hT) ((oS1.1).up (zs_okR rfl (by omega) (by omega) (by decide) (by decide))) dn hdn1 ((zs_up_m (by omega)).trans ((oS1.2.2.2 8 (by omega)).trans hdn)) ((zs_up_m (by omega)).trans ((oS1.2.2.2 9 (by omega)).trans h9)) ⟨zs_up_q, ((zs_up_m (by omega)).trans pS1), ((zs_up_m (by omega)).trans qS1)⟩ hm0 hk) dX12_goesThrough_66 kk_X12_goesThrough_X12_item ml_RX12_154 mwX12_item ewX12_item (by decide) rfl rfl rfl rfl (Nat.le_of_ble_eq_true rfl) ?_
        rintro _ S2 ⟨rfl, oS2⟩
        have pS2 := oS2.2.1
        rw [tp_bF hit] at pS2
        refine g_iinc (v := (nI (0 + 1))) (lv' := [(2, .int (nI (0 + 1))), (3, .int (nI (tx_mt B L 0))), (0, .ref 80), (1, .int (nI dn))]) dX12_goesThrough_69 rfl (nI_1 0) (by decide) rfl ?_
        refine g_aload_n dX12_goesThrough_72 rfl rfl ?_
        refine g_getV 7 (C := RX12) (T := TX12) (N := 19) (v := (nI 1)) dX12_goesThrough_73 (by decide) rfl rfl (by decide) rfl fl_RX12_105 pS2.1 ?_
        refine g_if_eqN 83 dX12_goesThrough_76 (by decide) (by omega) (fun z => absurd z (by omega)) (fun _ => ?_)
        refine g_iload_n dX12_goesThrough_79 rfl rfl ?_
        refine g_goto 87 dX12_goesThrough_80 (by decide) ?_
        refine g_istore_n (lv' := [(3, .int (nI (tx_mt B L 0))), (2, .int (nI (0 + 1))), (0, .ref 80), (1, .int (nI dn))]) dX12_goesThrough_87 rfl (by decide) rfl ?_
        refine g_goto 32 dX12_goesThrough_88 (by decide) ?_
        exact (z_gE_w B L (tp_drum (tx_k B L) (tx_v B L)).2 (0 + 1) (tx_mt B L 0) dn S _ (by omega) (((((((zs_oY.rf hJ)).tr oS1.ox.g)).up (zs_okR rfl (by omega) (by omega) (by decide) (by decide)) rfl (by decide) (by omega) (by omega) (by decide))).tr oS2.1) ⟨pS2.1, pS2.2.1, pS2.2.2⟩).lv (zs_mc 0 rfl (zs_mc 1 rfl (zs_mc 2 rfl (zs_mc 3 rfl zs_mn))))
    · rw [tp_rdN hk]
      suffices hz : zs_P MX12_goesThrough 27 [(2, .int (nI 0)), (0, .ref 80), (1, .int (nI dn))] [] S (fun v S2 => zs_oY S S2 ∧ zs_mp S2 B L 1 0 ∧ ∃ x, v = some (.int x)) from (hz.mono (fun _ _ q => ⟨q.1, q.2.1, q.2.2.choose, q.2.2.choose_spec, fun z => absurd z Bool.false_ne_true⟩)).mono (fun _ _ q => ⟨q, fun z => absurd z Bool.false_ne_true⟩)
      refine g_aload_n dX12_goesThrough_27 rfl rfl ?_
      refine g_callV (T := TX12) (NN := 19) [] (y_tokenE B L 0 S (((zs_oY.rf hJ)).y hT) hJ h5) dX12_goesThrough_28 kk_X12_goesThrough_X12_token ml_RX12_109 mwX12_token ewX12_token (by decide) rfl rfl rfl rfl (Nat.le_of_ble_eq_true rfl) ?_
      rintro _ S1 ⟨_, rfl, oS1, rfl, pS1, qS1, -⟩
      refine g_istore_n (lv' := [(3, .int (nI (tx_mt B L 0))), (2, .int (nI 0)), (0, .ref 80), (1, .int (nI dn))]) dX12_goesThrough_31 rfl (by decide) rfl ?_
      refine g_iload_n dX12_goesThrough_32 rfl rfl ?_
      refine g_iconst (v := (nI 4)) dX12_goesThrough_33 rfl ?_
      refine g_ic_eqN 91 dX12_goesThrough_34 (by decide) (by omega) (by omega) (fun z => absurd z (by omega)) (fun _ => ?_)
      refine g_aload_n dX12_goesThrough_37 rfl rfl ?_
      refine g_getV 7 (C := RX12) (T := TX12) (N := 19) (v := (nI 0)) dX12_goesThrough_38 (by decide) rfl rfl (by decide) rfl fl_RX12_105 ((oS1.2.2.2 7 (by omega)).trans h7) ?_
      refine g_if_neN 91 dX12_goesThrough_41 (by decide) (by omega) (fun z => absurd z (by omega)) (fun _ => ?_)
      refine g_aload_n dX12_goesThrough_44 rfl rfl ?_
      refine g_iload_n dX12_goesThrough_45 rfl rfl ?_
      refine g_if_eqN 53 dX12_goesThrough_46 (by decide) (by omega) (fun _ => ?_) (fun z => absurd z (by omega))
      refine g_iconst (v := (nI 0)) dX12_goesThrough_53 rfl ?_
      refine g_putI 7 (C := RX12) (T := TX12) (N := 19) (ty := .boolean) dX12_goesThrough_54 (by decide) rfl rfl (by decide) rfl fl_RX12_105 rfl (by decide +kernel) ⟨rfl, rfl⟩ ?_
      refine g_aload_n dX12_goesThrough_57 rfl rfl ?_
      refine g_getV 7 (C := RX12) (T := TX12) (N := 19) (v := (nI 0)) dX12_goesThrough_58 (by decide) rfl rfl (by decide) rfl fl_RX12_105 zs_up_q ?_
      refine g_if_neN 72 dX12_goesThrough_61 (by decide) (by omega) (fun z => absurd z (by omega)) (fun _ => ?_)
      refine g_aload_n dX12_goesThrough_64 rfl rfl ?_
      refine g_iload_n dX12_goesThrough_65 rfl rfl ?_
      refine g_callV (T := TX12) (NN := 19) [] (y_item0x B L (zs_up S1.1 80 7 (nI 0), S1.2) (((((((zs_oY.rf hJ)).tr oS1.ox.g)).up (zs_okR rfl (by omega) (by omega) (by decide) (by decide)) rfl (by decide) (by omega) (by omega) (by decide))).y hT) ((oS1.1).up (zs_okR rfl (by omega) (by omega) (by decide) (by decide))) dn hdn1 ((zs_up_m (by omega)).trans ((oS1.2.2.2 8 (by omega)).trans hdn)) ((zs_up_m (by omega)).trans ((oS1.2.2.2 9 (by omega)).trans h9)) ⟨zs_up_q, ((zs_up_m (by omega)).trans pS1), ((zs_up_m (by omega)).trans qS1)⟩ hm0 hk) dX12_goesThrough_66 kk_X12_goesThrough_X12_item ml_RX12_154 mwX12_item ewX12_item (by decide) rfl rfl rfl rfl (Nat.le_of_ble_eq_true rfl) ?_
      rintro _ S2 ⟨rfl, oS2⟩
      have pS2 := oS2.2.1
      refine g_iinc (v := (nI (0 + 1))) (lv' := [(2, .int (nI (0 + 1))), (3, .int (nI (tx_mt B L 0))), (0, .ref 80), (1, .int (nI dn))]) dX12_goesThrough_69 rfl (nI_1 0) (by decide) rfl ?_
      refine g_aload_n dX12_goesThrough_72 rfl rfl ?_
      refine g_getV 7 (C := RX12) (T := TX12) (N := 19) (v := (nI 1)) dX12_goesThrough_73 (by decide) rfl rfl (by decide) rfl fl_RX12_105 pS2.1 ?_
      refine g_if_eqN 83 dX12_goesThrough_76 (by decide) (by omega) (fun z => absurd z (by omega)) (fun _ => ?_)
      refine g_iload_n dX12_goesThrough_79 rfl rfl ?_
      refine g_goto 87 dX12_goesThrough_80 (by decide) ?_
      refine g_istore_n (lv' := [(3, .int (nI (tx_mt B L 0))), (2, .int (nI (0 + 1))), (0, .ref 80), (1, .int (nI dn))]) dX12_goesThrough_87 rfl (by decide) rfl ?_
      refine g_goto 32 dX12_goesThrough_88 (by decide) ?_
      exact (z_gE_w B L 0 (0 + 1) (tx_mt B L 0) dn S _ (by omega) (((((((zs_oY.rf hJ)).tr oS1.ox.g)).up (zs_okR rfl (by omega) (by omega) (by decide) (by decide)) rfl (by decide) (by omega) (by omega) (by decide))).tr oS2.1) ⟨pS2.1, pS2.2.1, pS2.2.2⟩).lv (zs_mc 0 rfl (zs_mc 1 rfl (zs_mc 2 rfl (zs_mc 3 rfl zs_mn))))
  · rw [tp_rdN (fun z => hm0 (tx_mkw (by omega)))]
    · suffices hz : zs_P MX12_goesThrough 27 [(2, .int (nI 0)), (0, .ref 80), (1, .int (nI dn))] [] S (fun v S2 => zs_oY S S2 ∧ zs_mp S2 B L 1 0 ∧ ∃ x, v = some (.int x)) from (hz.mono (fun _ _ q => ⟨q.1, q.2.1, q.2.2.choose, q.2.2.choose_spec, fun z => absurd z Bool.false_ne_true⟩)).mono (fun _ _ q => ⟨q, fun z => absurd z Bool.false_ne_true⟩)
      refine g_aload_n dX12_goesThrough_27 rfl rfl ?_
      refine g_callV (T := TX12) (NN := 19) [] (y_tokenE B L 0 S (((zs_oY.rf hJ)).y hT) hJ h5) dX12_goesThrough_28 kk_X12_goesThrough_X12_token ml_RX12_109 mwX12_token ewX12_token (by decide) rfl rfl rfl rfl (Nat.le_of_ble_eq_true rfl) ?_
      rintro _ S1 ⟨_, rfl, oS1, rfl, pS1, qS1, -⟩
      refine g_istore_n (lv' := [(3, .int (nI (tx_mt B L 0))), (2, .int (nI 0)), (0, .ref 80), (1, .int (nI dn))]) dX12_goesThrough_31 rfl (by decide) rfl ?_
      refine g_iload_n dX12_goesThrough_32 rfl rfl ?_
      refine g_iconst (v := (nI 4)) dX12_goesThrough_33 rfl ?_
      refine g_ic_eqN 91 dX12_goesThrough_34 (by decide) (by omega) (by omega) (fun z => absurd z (by omega)) (fun _ => ?_)
      refine g_aload_n dX12_goesThrough_37 rfl rfl ?_
      refine g_getV 7 (C := RX12) (T := TX12) (N := 19) (v := (nI 0)) dX12_goesThrough_38 (by decide) rfl rfl (by decide) rfl fl_RX12_105 ((oS1.2.2.2 7 (by omega)).trans h7) ?_
      refine g_if_neN 91 dX12_goesThrough_41 (by decide) (by omega) (fun z => absurd z (by omega)) (fun _ => ?_)
      refine g_aload_n dX12_goesThrough_44 rfl rfl ?_
      refine g_iload_n dX12_goesThrough_45 rfl rfl ?_
      refine g_if_eqN 53 dX12_goesThrough_46 (by decide) (by omega) (fun z => absurd z (by omega)) (fun _ => ?_)
      refine g_iconst (v := (nI 1)) dX12_goesThrough_49 rfl ?_
      refine g_goto 54 dX12_goesThrough_50 (by decide) ?_
      refine g_putI 7 (C := RX12) (T := TX12) (N := 19) (ty := .boolean) dX12_goesThrough_54 (by decide) rfl rfl (by decide) rfl fl_RX12_105 rfl (by decide +kernel) ⟨rfl, rfl⟩ ?_
      refine g_aload_n dX12_goesThrough_57 rfl rfl ?_
      refine g_getV 7 (C := RX12) (T := TX12) (N := 19) (v := (nI 1)) dX12_goesThrough_58 (by decide) rfl rfl (by decide) rfl fl_RX12_105 zs_up_q ?_
      refine g_if_neN 72 dX12_goesThrough_61 (by decide) (by omega) (fun _ => ?_) (fun z => absurd z (by omega))
      refine g_aload_n dX12_goesThrough_72 rfl rfl ?_
      refine g_getV 7 (C := RX12) (T := TX12) (N := 19) (v := (nI 1)) dX12_goesThrough_73 (by decide) rfl rfl (by decide) rfl fl_RX12_105 zs_up_q ?_
      refine g_if_eqN 83 dX12_goesThrough_76 (by decide) (by omega) (fun z => absurd z (by omega)) (fun _ => ?_)
      refine g_iload_n dX12_goesThrough_79 rfl rfl ?_
      refine g_goto 87 dX12_goesThrough_80 (by decide) ?_
      refine g_istore_n (lv' := [(3, .int (nI (tx_mt B L 0))), (2, .int (nI 0)), (0, .ref 80), (1, .int (nI dn))]) dX12_goesThrough_87 rfl (by decide) rfl ?_
      refine g_goto 32 dX12_goesThrough_88 (by decide) ?_
      exact (z_gE_w B L 0 0 (tx_mt B L 0) dn S _ (by omega) (((((zs_oY.rf hJ)).tr oS1.ox.g)).up (zs_okR rfl (by omega) (by omega) (by decide) (by decide)) rfl (by decide) (by omega) (by omega) (by decide)) ⟨zs_up_q, ((zs_up_m (by omega)).trans pS1), ((zs_up_m (by omega)).trans qS1)⟩).lv (zs_mc 0 rfl (zs_mc 1 rfl (zs_mc 2 rfl (zs_mc 3 rfl zs_mn))))
set_option maxRecDepth 100000 in
theorem y_goesE (B : Nat → Nat) (L : Nat) (S : zs_S) (hT : zs_tm S B L) (hJ : zs_J S) (dn : Nat) (hdn1 : dn ≤ 1) : zs_C MX12_goesThrough [.ref 80, .int (nI dn)] S (fun v S2 => zs_J S2 ∧ zs_fm S S2 ∧ zs_tm S2 B L ∧ (dn = 0 → S2.1 82 = S.1 82) ∧ (((tp_read (tx_k B L) (tx_v B L)).1 = true → dn ≠ 0 → zs_zm S2) ∧ zs_im S S2) ∧ zs_mp S2 B L (tp_b (tp_read (tx_k B L) (tx_v B L)).1) (tp_read (tx_k B L) (tx_v B L)).2.2.1 ∧ ∃ x, v = some (.int x) ∧ ((tp_read (tx_k B L) (tx_v B L)).1 = true → x = nI (tp_read (tx_k B L) (tx_v B L)).2.1 ∧ (dn ≠ 0 → S2.1 82 2 = nI (tp_read (tx_k B L) (tx_v B L)).2.2.2 ∧ S2.1 82 0 = nI (tx_v B L 1) ∧ S2.1 82 1 = nI (tx_v B L 2)))) := by
  refine zs_C.of (by decide) (Nat.le_of_ble_eq_true rfl) ?_
  show zs_P MX12_goesThrough 0 [(0, .ref 80), (1, .int (nI dn))] [] S _
  refine g_aload_n dX12_goesThrough_0 rfl rfl ?_
  refine g_iconst (v := (nI 0)) dX12_goesThrough_1 rfl ?_
  refine g_putI 5 (C := RX12) (T := TX12) (N := 19) (ty := .int) dX12_goesThrough_2 (by decide) rfl rfl (by decide) rfl fl_RX12_79 rfl (by decide +kernel) ⟨rfl, rfl⟩ ?_
  refine g_aload_n dX12_goesThrough_5 rfl rfl ?_
  refine g_iconst (v := (nI 0)) dX12_goesThrough_6 rfl ?_
  refine g_putI 7 (C := RX12) (T := TX12) (N := 19) (ty := .boolean) dX12_goesThrough_7 (by decide) rfl rfl (by decide) rfl fl_RX12_105 rfl (by decide +kernel) ⟨rfl, rfl⟩ ?_
  refine g_aload_n dX12_goesThrough_10 rfl rfl ?_
  refine g_iload_n dX12_goesThrough_11 rfl rfl ?_
  refine g_putI 8 (C := RX12) (T := TX12) (N := 19) (ty := .boolean) dX12_goesThrough_12 (by decide) rfl rfl (by decide) rfl fl_RX12_118 rfl (by decide +kernel) (zs_nb2 hdn1) ?_
  refine g_aload_n dX12_goesThrough_15 rfl rfl ?_
  refine g_iconst (v := (nI 0)) dX12_goesThrough_16 rfl ?_
  refine g_putI 9 (C := RX12) (T := TX12) (N := 19) (ty := .int) dX12_goesThrough_17 (by decide) rfl rfl (by decide) rfl fl_RX12_125 rfl (by decide +kernel) ⟨rfl, rfl⟩ ?_
  refine g_aload_n dX12_goesThrough_20 rfl rfl ?_
  refine g_iconst (v := (nI 0)) dX12_goesThrough_21 rfl ?_
  refine g_putI 10 (C := RX12) (T := TX12) (N := 19) (ty := .int) dX12_goesThrough_22 (by decide) rfl rfl (by decide) rfl fl_RX12_115 rfl (by decide +kernel) ⟨rfl, rfl⟩ ?_
  refine g_iconst (v := (nI 0)) dX12_goesThrough_25 rfl ?_
  refine g_istore_n (lv' := [(2, .int (nI 0)), (0, .ref 80), (1, .int (nI dn))]) dX12_goesThrough_26 rfl (by decide) rfl ?_
  exact ((z_gE0 B L (zs_up (zs_up (zs_up (zs_up (zs_up S.1 80 5 (nI 0), S.2).1 80 7 (nI 0), (zs_up S.1 80 5 (nI 0), S.2).2).1 80 8 (nI dn), (zs_up (zs_up S.1 80 5 (nI 0), S.2).1 80 7 (nI 0), (zs_up S.1 80 5 (nI 0), S.2).2).2).1 80 9 (nI 0), (zs_up (zs_up (zs_up S.1 80 5 (nI 0), S.2).1 80 7 (nI 0), (zs_up S.1 80 5 (nI 0), S.2).2).1 80 8 (nI dn), (zs_up (zs_up S.1 80 5 (nI 0), S.2).1 80 7 (nI 0), (zs_up S.1 80 5 (nI 0), S.2).2).2).2).1 80 10 (nI 0), (zs_up (zs_up (zs_up (zs_up S.1 80 5 (nI 0), S.2).1 80 7 (nI 0), (zs_up S.1 80 5 (nI 0), S.2).2).1 80 8 (nI dn), (zs_up (zs_up S.1 80 5 (nI 0), S.2).1 80 7 (nI 0), (zs_up S.1 80 5 (nI 0), S.2).2).2).1 80 9 (nI 0), (zs_up (zs_up (zs_up S.1 80 5 (nI 0), S.2).1 80 7 (nI 0), (zs_up S.1 80 5 (nI 0), S.2).2).1 80 8 (nI dn), (zs_up (zs_up S.1 80 5 (nI 0), S.2).1 80 7 (nI 0), (zs_up S.1 80 5 (nI 0), S.2).2).2).2).2) ((((((((((hT).up (by omega))).up (by omega))).up (by omega))).up (by omega))).up (by omega)) ((((((((((hJ).up (zs_okR rfl (by omega) (by omega) (by decide) (by decide)))).up (zs_okR rfl (by omega) (by omega) (by decide) (by decide)))).up (zs_okR rfl (by omega) (by omega) (by decide) (by decide)))).up (zs_okR rfl (by omega) (by omega) (by decide) (by decide)))).up (zs_okR rfl (by omega) (by omega) (by decide) (by decide))) dn hdn1 ((zs_up_m (by omega)).trans ((zs_up_m (by omega)).trans ((zs_up_m (by omega)).trans ((zs_up_m (by omega)).trans zs_up_q)))) ((zs_up_m (by omega)).trans ((zs_up_m (by omega)).trans ((zs_up_m (by omega)).trans zs_up_q))) ((zs_up_m (by omega)).trans ((zs_up_m (by omega)).trans zs_up_q)) ((zs_up_m (by omega)).trans zs_up_q)).lv (zs_mc 0 rfl (zs_mc 1 rfl (zs_mc 2 rfl zs_mn)))).mono (fun _ _ q => ⟨q.1.1.1, (((((((((((zs_fm.rf).tr (zs_fm.up rfl))).tr (zs_fm.up rfl))).tr (zs_fm.up rfl))).tr (zs_fm.up rfl))).tr (zs_fm.up rfl))).tr q.1.1.2.1, q.1.1.y ((((((((((hT).up (by omega))).up (by omega))).up (by omega))).up (by omega))).up (by omega)), fun z => (q.1.1.2.2.2.2.2.1 (by rw [((zs_up_m (by omega)).trans ((zs_up_m (by omega)).trans zs_up_q)), z])).trans (funext fun i => (zs_up_m (by omega)).trans ((zs_up_m (by omega)).trans ((zs_up_m (by omega)).trans ((zs_up_m (by omega)).trans (zs_up_m (by omega)))))), ⟨q.2, fun i hi => (q.1.1.2.2.2.2.2.2.2 i hi).trans (congrFun (funext fun i => (zs_up_m (by omega)).trans ((zs_up_m (by omega)).trans ((zs_up_m (by omega)).trans ((zs_up_m (by omega)).trans (zs_up_m (by omega)))))) i)⟩, q.1.2⟩)
set_option maxRecDepth 100000 in
theorem y_readE (B : Nat → Nat) (L : Nat) (S : zs_S) (hT : zs_tm S B L) (hJ : zs_J S) : zs_C MX12_read [.ref 80] S (fun v S2 => ∃ x, v = some (.int x) ∧ zs_J S2 ∧ zs_fm S S2 ∧ zs_tm S2 B L ∧ ((tp_read (tx_k B L) (tx_v B L)).1 = true → x = nI (tp_read (tx_k B L) (tx_v B L)).2.1 ∧ S2.1 82 2 = nI (tp_read (tx_k B L) (tx_v B L)).2.2.2 ∧ S2.1 82 0 = nI (tx_v B L 1) ∧ S2.1 82 1 = nI (tx_v B L 2) ∧ zs_zm S2 ∧ zs_im S S2) ∧ ((tp_read (tx_k B L) (tx_v B L)).1 = false → x = (-10) - nI (tx_p B L (tp_read (tx_k B L) (tx_v B L)).2.2.1) ∧ S2.1 82 = S.1 82)) := by
  refine zs_C.of (by decide) (Nat.le_of_ble_eq_true rfl) ?_
  show zs_P MX12_read 0 [(0, .ref 80)] [] S _
  by_cases hR : (tp_read (tx_k B L) (tx_v B L)).1 = true
  · skip
    refine g_aload_n dX12_read_0 rfl rfl ?_
    refine g_iconst (v := (nI 0)) dX12_read_1 rfl ?_
    refine g_callV (T := TX12) (NN := 19) [] (y_goesE B L S hT hJ 0 (by omega)) dX12_read_2 kk_X12_read_X12_goesThrough ml_RX12_158 mwX12_goesThrough ewX12_goesThrough (by decide) rfl rfl rfl rfl (Nat.le_of_ble_eq_true rfl) ?_
    rintro _ S1 ⟨aS1, fS1, tS1, kS1, iS1, pS1, y2, rfl, zS1⟩
    rw [tp_bT hR] at pS1
    refine g_pop dX12_read_5 rfl ?_
    refine g_aload_n dX12_read_6 rfl rfl ?_
    refine g_getV 7 (C := RX12) (T := TX12) (N := 19) (v := (nI 0)) dX12_read_7 (by decide) rfl rfl (by decide) rfl fl_RX12_105 pS1.1 ?_
    refine g_if_eqN 23 dX12_read_10 (by decide) (by omega) (fun _ => ?_) (fun z => absurd z (by omega))
    refine g_aload_n dX12_read_23 rfl rfl ?_
    refine g_iconst (v := (nI 1)) dX12_read_24 rfl ?_
    refine g_callV (T := TX12) (NN := 19) [] (y_goesE B L S1 tS1 aS1 1 (by omega)) dX12_read_25 kk_X12_read_X12_goesThrough ml_RX12_158 mwX12_goesThrough ewX12_goesThrough (by decide) rfl rfl rfl rfl (Nat.le_of_ble_eq_true rfl) ?_
    rintro _ S3 ⟨aS3, fS3, tS3, kS3, iS3, pS3, y4, rfl, zS3⟩
    rw [tp_bT hR] at pS3
    refine g_iret dX12_read_28 rfl rfl ?_
    exact ⟨_, rfl, aS3, (fS1.tr fS3), tS3, fun _ => ⟨(zS3 hR).1, ((zS3 hR).2 (by omega)).1, ((zS3 hR).2 (by omega)).2.1, ((zS3 hR).2 (by omega)).2.2, iS3.1 hR (by omega), fun i hi => (iS3.2 i hi).trans (iS1.2 i hi)⟩, fun z => absurd hR (by rw [z]; exact Bool.false_ne_true)⟩
  · skip
    refine g_aload_n dX12_read_0 rfl rfl ?_
    refine g_iconst (v := (nI 0)) dX12_read_1 rfl ?_
    refine g_callV (T := TX12) (NN := 19) [] (y_goesE B L S hT hJ 0 (by omega)) dX12_read_2 kk_X12_read_X12_goesThrough ml_RX12_158 mwX12_goesThrough ewX12_goesThrough (by decide) rfl rfl rfl rfl (Nat.le_of_ble_eq_true rfl) ?_
    rintro _ S1 ⟨aS1, fS1, tS1, kS1, iS1, pS1, y2, rfl, zS1⟩
    rw [tp_bF hR] at pS1
    refine g_pop dX12_read_5 rfl ?_
    refine g_aload_n dX12_read_6 rfl rfl ?_
    refine g_getV 7 (C := RX12) (T := TX12) (N := 19) (v := (nI 1)) dX12_read_7 (by decide) rfl rfl (by decide) rfl fl_RX12_105 pS1.1 ?_
    refine g_if_eqN 23 dX12_read_10 (by decide) (by omega) (fun z => absurd z (by omega)) (fun _ => ?_)
    refine g_bipush (v := (-10)) dX12_read_13 rfl ?_
    refine g_aload_n dX12_read_15 rfl rfl ?_
    refine g_getV 6 (C := RX12) (T := TX12) (N := 19) (v := (nI (tx_p B L (tp_read (tx_k B L) (tx_v B L)).2.2.1))) dX12_read_16 (by decide) rfl rfl (by decide) rfl fl_RX12_85 pS1.2.2 ?_
    refine g_isub dX12_read_19 ?_
    refine g_goto 28 dX12_read_20 (by decide) ?_
    refine g_iret dX12_read_28 rfl rfl ?_
    exact ⟨_, rfl, aS1, fS1, tS1, fun z => absurd z hR, fun _ => ⟨rfl, kS1 rfl⟩⟩
