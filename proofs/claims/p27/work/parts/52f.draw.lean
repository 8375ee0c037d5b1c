theorem zs_in9 {v : Nat} (h : v < 2 ^ 31) : ((0 : Int64) ≤ (nI v).toInt64 ∧ (nI v).toInt64 ≤ 9) ↔ v ≤ 9 := by
  rw [nI_l h, show (0 : Int64) = lN 0 from rfl, show (9 : Int64) = lN 9 from rfl, lN_le (by omega) h, lN_le h (by omega)]
  exact ⟨fun z => z.2, fun z => ⟨Nat.zero_le _, z⟩⟩
def zs_oZ (S0 S : zs_S) : Prop := zs_oY S0 S ∧ S.1 82 = S0.1 82 ∧ S.1 80 9 = S0.1 80 9 ∧ S.1 80 10 = S0.1 80 10
theorem zs_oZ.rf {S : zs_S} (hJ : zs_J S) : zs_oZ S S := ⟨zs_oY.rf hJ, rfl, rfl, rfl⟩
theorem zs_oZ.tX {S0 S S2 : zs_S} (h : zs_oZ S0 S) (k : zs_oX S S2) : zs_oZ S0 S2 := ⟨h.1.tr k.g, (k.2.2.1 82 (by decide)).trans h.2.1, (k.2.2.2 9 (by omega)).trans h.2.2.1, (k.2.2.2 10 (by omega)).trans h.2.2.2⟩
theorem zs_oZ.up {S0 S : zs_S} {a j : Nat} {v : Int32} (h : zs_oZ S0 S) (hv : zs_ok a j v) (hp : zs_pm a j = false) (h1 : (84 : Nat) ≠ a) (h2 : ¬ (80 = a ∧ 3 = j)) (h3 : ¬ (80 = a ∧ 8 = j)) (h4 : (82 : Nat) ≠ a) (h5 : ¬ (80 = a ∧ 9 = j)) (h6 : ¬ (80 = a ∧ 10 = j)) : zs_oZ S0 (zs_up S.1 a j v, S.2) := ⟨h.1.up hv hp h1 h2 h3 h4, (zs_uo (f := S.1) (a := a) (j := j) (v := v) (b := 82) h4).trans h.2.1, (zs_up_m h5).trans h.2.2.1, (zs_up_m h6).trans h.2.2.2⟩
def tp_b (b : Bool) : Nat := if b = true then 0 else 1
theorem tp_bT {b : Bool} (h : b = true) : tp_b b = 0 := if_pos h
theorem tp_bF {b : Bool} (h : ¬ b = true) : tp_b b = 1 := if_neg h
set_option maxRecDepth 100000 in
theorem z_drE_w (B : Nat → Nat) (L j f tt : Nat) (S0 S : zs_S) (hS : zs_oZ S0 S) (hmp : zs_mp S B L 1 (j + 1)) : zs_P MX12_drawItem 7 [(2, .int (nI tt)), (1, .int (nI f)), (0, .ref 80)] [] S (fun v S2 => v = none ∧ zs_oZ S0 S2 ∧ zs_mp S2 B L 1 (j + 1)) := by
  refine g_aload_n dX12_drawItem_7 rfl rfl ?_
  refine g_getV 7 (C := RX12) (T := TX12) (N := 19) (v := (nI 1)) dX12_drawItem_8 (by decide) rfl rfl (by decide) rfl fl_RX12_105 hmp.1 ?_
  refine g_if_neN 99 dX12_drawItem_11 (by decide) (by omega) (fun _ => ?_) (fun z => absurd z (by omega))
  refine g_aload_n dX12_drawItem_99 rfl rfl ?_
  refine g_aload_n dX12_drawItem_100 rfl rfl ?_
  refine g_getV 7 (C := RX12) (T := TX12) (N := 19) (v := (nI 1)) dX12_drawItem_101 (by decide) rfl rfl (by decide) rfl fl_RX12_105 hmp.1 ?_
  refine g_if_neN 116 dX12_drawItem_104 (by decide) (by omega) (fun _ => ?_) (fun z => absurd z (by omega))
  refine g_iconst (v := (nI 1)) dX12_drawItem_116 rfl ?_
  refine g_goto 121 dX12_drawItem_117 (by decide) ?_
  refine g_putI 7 (C := RX12) (T := TX12) (N := 19) (ty := .boolean) dX12_drawItem_121 (by decide) rfl rfl (by decide) rfl fl_RX12_105 rfl (by decide +kernel) ⟨rfl, rfl⟩ ?_
  refine g_ret dX12_drawItem_124 rfl ?_
  exact ⟨rfl, ((hS).up (zs_okR rfl (by omega) (by omega) (by decide) (by decide)) rfl (by decide) (by omega) (by omega) (by decide) (by omega) (by omega)), ⟨zs_up_q, ((zs_up_m (by omega)).trans hmp.2.1), ((zs_up_m (by omega)).trans hmp.2.2)⟩⟩
theorem tp_drS {K V : Nat → Nat} {d f j : Nat} (h : tp_tn K V j 0 9 = true) : tp_draw K V (d + 1) f j = tp_draw K V d (f + 1) (j + 1) := if_pos h
theorem tp_drN {K V : Nat → Nat} {d f j : Nat} (h : ¬ tp_tn K V j 0 9 = true) : tp_draw K V (d + 1) f j = (decide (0 < f ∧ K (j + 1) = 2), j + 1) := if_neg h
set_option maxRecDepth 100000 in
theorem z_drE (B : Nat → Nat) (L dn fr : Nat) (S0 : zs_S) (hT : zs_tm S0 B L) (hdn1 : dn ≤ 1) (hfr1 : 1 ≤ fr) (hfr2 : fr ≤ 12) : ∀ (d f j : Nat) (S : zs_S), zs_oZ S0 S → zs_mp S B L 0 (j + 1) → (tx_mt B L (j + 1) = 1 → S.1 80 11 = nI (tx_nv B (tx_p B L (j + 1)) (tx_q B L (j + 1 + 1)))) → S.1 80 8 = nI dn → S.1 80 10 = nI fr → f + d = fr → (f + d = fr) → zs_P MX12_drawItem 7 [(2, .int (nI (tx_mt B L (j + 1)))), (1, .int (nI f)), (0, .ref 80)] [] S (fun v S2 => v = none ∧ zs_oZ S0 S2 ∧ zs_mp S2 B L (tp_b (tp_draw (tx_k B L) (tx_v B L) d f j).1) (tp_draw (tx_k B L) (tx_v B L) d f j).2) := by
  intro d
  induction d with
  | zero =>
    intro f j S hS hmp hn hdn hfr hf hf2
    have m4 := tx_mt4 (B := B) (L := L) (j := j + 1)
    have m5 := tx_nvL (j := j + 1) hT
    show zs_P _ _ _ _ _ (fun v S2 => v = none ∧ zs_oZ S0 S2 ∧ zs_mp S2 B L (tp_b ((decide (tx_k B L (j + 1) = 2), j + 1)).1) ((decide (tx_k B L (j + 1) = 2), j + 1)).2)
    by_cases hm : tx_mt B L (j + 1) = 1
    · suffices hz : zs_P MX12_drawItem 7 [(2, .int (nI (tx_mt B L (j + 1)))), (1, .int (nI f)), (0, .ref 80)] [] S (fun v S2 => v = none ∧ zs_oZ S0 S2 ∧ zs_mp S2 B L 1 (j + 1)) from hz.mono (fun _ _ q => ⟨q.1, q.2.1, by rw [tp_bF (fun z => absurd (tx_mk2.mpr (of_decide_eq_true z)) (by omega))]; exact q.2.2⟩)
      refine g_aload_n dX12_drawItem_7 rfl rfl ?_
      refine g_getV 7 (C := RX12) (T := TX12) (N := 19) (v := (nI 0)) dX12_drawItem_8 (by decide) rfl rfl (by decide) rfl fl_RX12_105 hmp.1 ?_
      refine g_if_neN 99 dX12_drawItem_11 (by decide) (by omega) (fun z => absurd z (by omega)) (fun _ => ?_)
      refine g_iload_n dX12_drawItem_14 rfl rfl ?_
      refine g_iconst (v := (nI 1)) dX12_drawItem_15 rfl ?_
      refine g_ic_neN 99 dX12_drawItem_16 (by decide) (by omega) (by omega) (fun z => absurd z (by omega)) (fun _ => ?_)
      refine g_aload_n dX12_drawItem_19 rfl rfl ?_
      refine g_iload_n dX12_drawItem_20 rfl rfl ?_
      refine g_aload_n dX12_drawItem_21 rfl rfl ?_
      refine g_getV 10 (C := RX12) (T := TX12) (N := 19) (v := (nI fr)) dX12_drawItem_22 (by decide) rfl rfl (by decide) rfl fl_RX12_115 hfr ?_
      refine g_ic_eqN 43 dX12_drawItem_25 (by decide) (by omega) (by omega) (fun _ => ?_) (fun z => absurd z (by omega))
      refine g_iconst (v := (nI 1)) dX12_drawItem_43 rfl ?_
      refine g_goto 48 dX12_drawItem_44 (by decide) ?_
      refine g_putI 7 (C := RX12) (T := TX12) (N := 19) (ty := .boolean) dX12_drawItem_48 (by decide) rfl rfl (by decide) rfl fl_RX12_105 rfl (by decide +kernel) ⟨rfl, rfl⟩ ?_
      refine g_aload_n dX12_drawItem_51 rfl rfl ?_
      refine g_getV 8 (C := RX12) (T := TX12) (N := 19) (v := (nI dn)) dX12_drawItem_52 (by decide) rfl rfl (by decide) rfl fl_RX12_118 ((zs_up_m (by omega)).trans hdn) ?_
      refine g_if_eqN 77 dX12_drawItem_55 (by decide) (by omega) (fun h1 => ?_) (fun h1 => ?_)
      · refine g_iinc (v := (nI (f + 1))) (lv' := [(1, .int (nI (f + 1))), (2, .int (nI (tx_mt B L (j + 1)))), (0, .ref 80)]) dX12_drawItem_77 rfl (nI_1 f) (by decide) rfl ?_
        refine g_aload_n dX12_drawItem_80 rfl rfl ?_
        refine g_getV 7 (C := RX12) (T := TX12) (N := 19) (v := (nI 1)) dX12_drawItem_81 (by decide) rfl rfl (by decide) rfl fl_RX12_105 zs_up_q ?_
        refine g_if_eqN 91 dX12_drawItem_84 (by decide) (by omega) (fun z => absurd z (by omega)) (fun _ => ?_)
        refine g_iload_n dX12_drawItem_87 rfl rfl ?_
        refine g_goto 95 dX12_drawItem_88 (by decide) ?_
        refine g_istore_n (lv' := [(2, .int (nI (tx_mt B L (j + 1)))), (1, .int (nI (f + 1))), (0, .ref 80)]) dX12_drawItem_95 rfl (by decide) rfl ?_
        refine g_goto 7 dX12_drawItem_96 (by decide) ?_
        exact (z_drE_w B L j (f + 1) (tx_mt B L (j + 1)) S0 _ ((hS).up (zs_okR rfl (by omega) (by omega) (by decide) (by decide)) rfl (by decide) (by omega) (by omega) (by decide) (by omega) (by omega)) ⟨zs_up_q, ((zs_up_m (by omega)).trans hmp.2.1), ((zs_up_m (by omega)).trans hmp.2.2)⟩).lv (zs_mc 0 rfl (zs_mc 1 rfl (zs_mc 2 rfl zs_mn)))
      · refine g_aload_n dX12_drawItem_58 rfl rfl ?_
        refine g_getV 7 (C := RX12) (T := TX12) (N := 19) (v := (nI 1)) dX12_drawItem_59 (by decide) rfl rfl (by decide) rfl fl_RX12_105 zs_up_q ?_
        refine g_if_neN 77 dX12_drawItem_62 (by decide) (by omega) (fun _ => ?_) (fun z => absurd z (by omega))
        refine g_iinc (v := (nI (f + 1))) (lv' := [(1, .int (nI (f + 1))), (2, .int (nI (tx_mt B L (j + 1)))), (0, .ref 80)]) dX12_drawItem_77 rfl (nI_1 f) (by decide) rfl ?_
        refine g_aload_n dX12_drawItem_80 rfl rfl ?_
        refine g_getV 7 (C := RX12) (T := TX12) (N := 19) (v := (nI 1)) dX12_drawItem_81 (by decide) rfl rfl (by decide) rfl fl_RX12_105 zs_up_q ?_
        refine g_if_eqN 91 dX12_drawItem_84 (by decide) (by omega) (fun z => absurd z (by omega)) (fun _ => ?_)
        refine g_iload_n dX12_drawItem_87 rfl rfl ?_
        refine g_goto 95 dX12_drawItem_88 (by decide) ?_
        refine g_istore_n (lv' := [(2, .int (nI (tx_mt B L (j + 1)))), (1, .int (nI (f + 1))), (0, .ref 80)]) dX12_drawItem_95 rfl (by decide) rfl ?_
        refine g_goto 7 dX12_drawItem_96 (by decide) ?_
        exact (z_drE_w B L j (f + 1) (tx_mt B L (j + 1)) S0 _ ((hS).up (zs_okR rfl (by omega) (by omega) (by decide) (by decide)) rfl (by decide) (by omega) (by omega) (by decide) (by omega) (by omega)) ⟨zs_up_q, ((zs_up_m (by omega)).trans hmp.2.1), ((zs_up_m (by omega)).trans hmp.2.2)⟩).lv (zs_mc 0 rfl (zs_mc 1 rfl (zs_mc 2 rfl zs_mn)))
    · skip
      refine g_aload_n dX12_drawItem_7 rfl rfl ?_
      refine g_getV 7 (C := RX12) (T := TX12) (N := 19) (v := (nI 0)) dX12_drawItem_8 (by decide) rfl rfl (by decide) rfl fl_RX12_105 hmp.1 ?_
      refine g_if_neN 99 dX12_drawItem_11 (by decide) (by omega) (fun z => absurd z (by omega)) (fun _ => ?_)
      refine g_iload_n dX12_drawItem_14 rfl rfl ?_
      refine g_iconst (v := (nI 1)) dX12_drawItem_15 rfl ?_
      refine g_ic_neN 99 dX12_drawItem_16 (by decide) (by omega) (by omega) (fun _ => ?_) (fun z => absurd z (by omega))
      refine g_aload_n dX12_drawItem_99 rfl rfl ?_
      refine g_aload_n dX12_drawItem_100 rfl rfl ?_
      refine g_getV 7 (C := RX12) (T := TX12) (N := 19) (v := (nI 0)) dX12_drawItem_101 (by decide) rfl rfl (by decide) rfl fl_RX12_105 hmp.1 ?_
      refine g_if_neN 116 dX12_drawItem_104 (by decide) (by omega) (fun z => absurd z (by omega)) (fun _ => ?_)
      refine g_iload_n dX12_drawItem_107 rfl rfl ?_
      refine g_if_eqN 116 dX12_drawItem_108 (by decide) (by omega) (fun z => absurd z (by omega)) (fun _ => ?_)
      refine g_iload_n dX12_drawItem_111 rfl rfl ?_
      refine g_iconst (v := (nI 2)) dX12_drawItem_112 rfl ?_
      refine g_ic_eqN 120 dX12_drawItem_113 (by decide) (by omega) (by omega) (fun h1 => ?_) (fun h1 => ?_)
      · refine g_iconst (v := (nI 0)) dX12_drawItem_120 rfl ?_
        refine g_putI 7 (C := RX12) (T := TX12) (N := 19) (ty := .boolean) dX12_drawItem_121 (by decide) rfl rfl (by decide) rfl fl_RX12_105 rfl (by decide +kernel) ⟨rfl, rfl⟩ ?_
        refine g_ret dX12_drawItem_124 rfl ?_
        exact ⟨rfl, ((hS).up (zs_okR rfl (by omega) (by omega) (by decide) (by decide)) rfl (by decide) (by omega) (by omega) (by decide) (by omega) (by omega)), by rw [tp_bT (decide_eq_true (tx_mk2.mp (by omega)))]; exact ⟨zs_up_q, ((zs_up_m (by omega)).trans hmp.2.1), ((zs_up_m (by omega)).trans hmp.2.2)⟩⟩
      · refine g_iconst (v := (nI 1)) dX12_drawItem_116 rfl ?_
        refine g_goto 121 dX12_drawItem_117 (by decide) ?_
        refine g_putI 7 (C := RX12) (T := TX12) (N := 19) (ty := .boolean) dX12_drawItem_121 (by decide) rfl rfl (by decide) rfl fl_RX12_105 rfl (by decide +kernel) ⟨rfl, rfl⟩ ?_
        refine g_ret dX12_drawItem_124 rfl ?_
        exact ⟨rfl, ((hS).up (zs_okR rfl (by omega) (by omega) (by decide) (by decide)) rfl (by decide) (by omega) (by omega) (by decide) (by omega) (by omega)), by rw [tp_bF (fun z => absurd (tx_mk2.mpr (of_decide_eq_true z)) (by omega))]; exact ⟨zs_up_q, ((zs_up_m (by omega)).trans hmp.2.1), ((zs_up_m (by omega)).trans hmp.2.2)⟩⟩
  | succ d ih =>
    intro f j S hS hmp hn hdn hfr hf hf2
    have m4 := tx_mt4 (B := B) (L := L) (j := j + 1)
    have m5 := tx_nvL (j := j + 1) hT
    by_cases ht : tp_tn (tx_k B L) (tx_v B L) j 0 9 = true
    · rw [tp_drS ht]
      have hk := (tx_mkn (B := B) (L := L) (j := j + 1) (lo := 0) (hi := 9) (by omega)).mpr (tp_tn1 ht)
      have hm := hk.1
      have hk3 := hk.2.2
      refine g_aload_n dX12_drawItem_7 rfl rfl ?_
      refine g_getV 7 (C := RX12) (T := TX12) (N := 19) (v := (nI 0)) dX12_drawItem_8 (by decide) rfl rfl (by decide) rfl fl_RX12_105 hmp.1 ?_
      refine g_if_neN 99 dX12_drawItem_11 (by decide) (by omega) (fun z => absurd z (by omega)) (fun _ => ?_)
      refine g_iload_n dX12_drawItem_14 rfl rfl ?_
      refine g_iconst (v := (nI 1)) dX12_drawItem_15 rfl ?_
      refine g_ic_neN 99 dX12_drawItem_16 (by decide) (by omega) (by omega) (fun z => absurd z (by omega)) (fun _ => ?_)
      refine g_aload_n dX12_drawItem_19 rfl rfl ?_
      refine g_iload_n dX12_drawItem_20 rfl rfl ?_
      refine g_aload_n dX12_drawItem_21 rfl rfl ?_
      refine g_getV 10 (C := RX12) (T := TX12) (N := 19) (v := (nI fr)) dX12_drawItem_22 (by decide) rfl rfl (by decide) rfl fl_RX12_115 hfr ?_
      refine g_ic_eqN 43 dX12_drawItem_25 (by decide) (by omega) (by omega) (fun z => absurd z (by omega)) (fun _ => ?_)
      refine g_aload_n dX12_drawItem_28 rfl rfl ?_
      refine g_getV 11 (C := RX12) (T := TX12) (N := 19) (v := (nI (tx_nv B (tx_p B L (j + 1)) (tx_q B L (j + 1 + 1))))) dX12_drawItem_29 (by decide) rfl rfl (by decide) rfl fl_RX12_96 (hn hm) ?_
      refine g_i2l dX12_drawItem_32 rfl ?_
      refine g_lconst (v := 0) dX12_drawItem_33 (by decide) ?_
      refine g_ldc2 (v := 9) dX12_drawItem_34 cl_RX12_121 ?_
      refine g_callS [.long (Int32.toInt64 (nI (tx_nv B (tx_p B L (j + 1)) (tx_q B L (j + 1 + 1))))), .long 0, .long 9] [.ref 80] (z_inL S (Int32.toInt64 (nI (tx_nv B (tx_p B L (j + 1)) (tx_q B L (j + 1 + 1))))) 0 9) dX12_drawItem_37 kk_X12_drawItem_X12_in ml_RX12_54 swX12_in rfl rfl (Nat.le_of_ble_eq_true rfl) ?_
      rintro _ _ ⟨x1, rfl, hx, rfl⟩
      obtain rfl : x1 = nI 1 := hx.trans (zs_bt ((zs_in9 (by omega)).mpr (by omega)))
      refine g_if_neN 47 dX12_drawItem_40 (by decide) (by omega) (fun _ => ?_) (fun z => absurd z (by omega))
      refine g_iconst (v := (nI 0)) dX12_drawItem_47 rfl ?_
      refine g_putI 7 (C := RX12) (T := TX12) (N := 19) (ty := .boolean) dX12_drawItem_48 (by decide) rfl rfl (by decide) rfl fl_RX12_105 rfl (by decide +kernel) ⟨rfl, rfl⟩ ?_
      refine g_aload_n dX12_drawItem_51 rfl rfl ?_
      refine g_getV 8 (C := RX12) (T := TX12) (N := 19) (v := (nI dn)) dX12_drawItem_52 (by decide) rfl rfl (by decide) rfl fl_RX12_118 ((zs_up_m (by omega)).trans hdn) ?_
      refine g_if_eqN 77 dX12_drawItem_55 (by decide) (by omega) (fun h2 => ?_) (fun h2 => ?_)
      · refine g_iinc (v := (nI (f + 1))) (lv' := [(1, .int (nI (f + 1))), (2, .int (nI (tx_mt B L (j + 1)))), (0, .ref 80)]) dX12_drawItem_77 rfl (nI_1 f) (by decide) rfl ?_
        refine g_aload_n dX12_drawItem_80 rfl rfl ?_
        refine g_getV 7 (C := RX12) (T := TX12) (N := 19) (v := (nI 0)) dX12_drawItem_81 (by decide) rfl rfl (by decide) rfl fl_RX12_105 zs_up_q ?_
        refine g_if_eqN 91 dX12_drawItem_84 (by decide) (by omega) (fun _ => ?_) (fun z => absurd z (by omega))
        refine g_aload_n dX12_drawItem_91 rfl rfl ?_
        refine g_callV (T := TX12) (NN := 19) [] (y_tokenE B L (j + 1 + 1) (zs_up S.1 80 7 (nI 0), S.2) ((((hS).up (zs_okR rfl (by omega) (by omega) (by decide) (by decide)) rfl (by decide) (by omega) (by omega) (by decide) (by omega) (by omega))).1.y hT) ((hS.1.1).up (zs_okR rfl (by omega) (by omega) (by decide) (by decide))) ((zs_up_m (by omega)).trans hmp.2.1)) dX12_drawItem_92 kk_X12_drawItem_X12_token ml_RX12_109 mwX12_token ewX12_token (by decide) rfl rfl rfl rfl (Nat.le_of_ble_eq_true rfl) ?_
        rintro _ S3 ⟨_, rfl, oS3, rfl, pS3, qS3, nS3⟩
        refine g_istore_n (lv' := [(2, .int (nI (tx_mt B L (j + 1 + 1)))), (1, .int (nI (f + 1))), (0, .ref 80)]) dX12_drawItem_95 rfl (by decide) rfl ?_
        refine g_goto 7 dX12_drawItem_96 (by decide) ?_
        exact ih (f + 1) (j + 1) _ ((((hS).up (zs_okR rfl (by omega) (by omega) (by decide) (by decide)) rfl (by decide) (by omega) (by omega) (by decide) (by omega) (by omega))).tX oS3.ox) ⟨((oS3.2.2.2 7 (by omega)).trans zs_up_q), pS3, qS3⟩ nS3 ((oS3.2.2.2 8 (by omega)).trans ((zs_up_m (by omega)).trans hdn)) ((oS3.2.2.2 10 (by omega)).trans ((zs_up_m (by omega)).trans hfr)) (by omega) (by omega)
      · refine g_aload_n dX12_drawItem_58 rfl rfl ?_
        refine g_getV 7 (C := RX12) (T := TX12) (N := 19) (v := (nI 0)) dX12_drawItem_59 (by decide) rfl rfl (by decide) rfl fl_RX12_105 zs_up_q ?_
        refine g_if_neN 77 dX12_drawItem_62 (by decide) (by omega) (fun z => absurd z (by omega)) (fun _ => ?_)
        refine g_aload_n dX12_drawItem_65 rfl rfl ?_
        refine g_getR 0 (81) (C := RX12) (T := TX12) (N := 19) dX12_drawItem_66 (by decide) rfl rfl (by decide) rfl fl_RX12_7 ?_
        refine g_iconst (v := (nI 3)) dX12_drawItem_69 rfl ?_
        refine g_iload_n dX12_drawItem_70 rfl rfl ?_
        refine g_iaddN dX12_drawItem_71 ?_
        refine g_aload_n dX12_drawItem_72 rfl rfl ?_
        refine g_getV 11 (C := RX12) (T := TX12) (N := 19) (v := (nI (tx_nv B (tx_p B L (j + 1)) (tx_q B L (j + 1 + 1))))) dX12_drawItem_73 (by decide) rfl rfl (by decide) rfl fl_RX12_96 ((zs_up_m (by omega)).trans (hn hm)) ?_
        refine g_iastN dX12_drawItem_76 (by decide) rfl (by omega) (by decide) ?_
        refine g_iinc (v := (nI (f + 1))) (lv' := [(1, .int (nI (f + 1))), (2, .int (nI (tx_mt B L (j + 1)))), (0, .ref 80)]) dX12_drawItem_77 rfl (nI_1 f) (by decide) rfl ?_
        refine g_aload_n dX12_drawItem_80 rfl rfl ?_
        refine g_getV 7 (C := RX12) (T := TX12) (N := 19) (v := (nI 0)) dX12_drawItem_81 (by decide) rfl rfl (by decide) rfl fl_RX12_105 ((zs_up_m (by omega)).trans zs_up_q) ?_
        refine g_if_eqN 91 dX12_drawItem_84 (by decide) (by omega) (fun _ => ?_) (fun z => absurd z (by omega))
        refine g_aload_n dX12_drawItem_91 rfl rfl ?_
        refine g_callV (T := TX12) (NN := 19) [] (y_tokenE B L (j + 1 + 1) (zs_up (zs_up S.1 80 7 (nI 0), S.2).1 81 (3 + f) (nI (tx_nv B (tx_p B L (j + 1)) (tx_q B L (j + 1 + 1)))), (zs_up S.1 80 7 (nI 0), S.2).2) ((((((hS).up (zs_okR rfl (by omega) (by omega) (by decide) (by decide)) rfl (by decide) (by omega) (by omega) (by decide) (by omega) (by omega))).up (zs_okR (rg_81_3_14 _ (by omega) (by omega)) (by omega) (by omega) (by decide) (by decide)) rfl (by decide) (by omega) (by omega) (by decide) (by omega) (by omega))).1.y hT) ((((hS.1.1).up (zs_okR rfl (by omega) (by omega) (by decide) (by decide)))).up (zs_okR (rg_81_3_14 _ (by omega) (by omega)) (by omega) (by omega) (by decide) (by decide))) ((zs_up_m (by omega)).trans ((zs_up_m (by omega)).trans hmp.2.1))) dX12_drawItem_92 kk_X12_drawItem_X12_token ml_RX12_109 mwX12_token ewX12_token (by decide) rfl rfl rfl rfl (Nat.le_of_ble_eq_true rfl) ?_
        rintro _ S4 ⟨_, rfl, oS4, rfl, pS4, qS4, nS4⟩
        refine g_istore_n (lv' := [(2, .int (nI (tx_mt B L (j + 1 + 1)))), (1, .int (nI (f + 1))), (0, .ref 80)]) dX12_drawItem_95 rfl (by decide) rfl ?_
        refine g_goto 7 dX12_drawItem_96 (by decide) ?_
        exact ih (f + 1) (j + 1) _ ((((((hS).up (zs_okR rfl (by omega) (by omega) (by decide) (by decide)) rfl (by decide) (by omega) (by omega) (by decide) (by omega) (by omega))).up (zs_okR (rg_81_3_14 _ (by omega) (by omega)) (by omega) (by omega) (by decide) (by decide)) rfl (by decide) (by omega) (by omega) (by decide) (by omega) (by omega))).tX oS4.ox) ⟨((oS4.2.2.2 7 (by omega)).trans ((zs_up_m (by omega)).trans zs_up_q)), pS4, qS4⟩ nS4 ((oS4.2.2.2 8 (by omega)).trans ((zs_up_m (by omega)).trans ((zs_up_m (by omega)).trans hdn))) ((oS4.2.2.2 10 (by omega)).trans ((zs_up_m (by omega)).trans ((zs_up_m (by omega)).trans hfr))) (by omega) (by omega)
    · rw [tp_drN ht]
      by_cases hm : tx_mt B L (j + 1) = 1
      · have hk3 : ¬ tx_nv B (tx_p B L (j + 1)) (tx_q B L (j + 1 + 1)) ≤ 9 := fun z => ht (decide_eq_true ((tx_mkn (B := B) (L := L) (j := j + 1) (lo := 0) (hi := 9) (by omega)).mp ⟨hm, Nat.zero_le _, z⟩))
        suffices hz : zs_P MX12_drawItem 7 [(2, .int (nI (tx_mt B L (j + 1)))), (1, .int (nI f)), (0, .ref 80)] [] S (fun v S2 => v = none ∧ zs_oZ S0 S2 ∧ zs_mp S2 B L 1 (j + 1)) from hz.mono (fun _ _ q => ⟨q.1, q.2.1, by rw [tp_bF (fun z => absurd (tx_mk2.mpr (of_decide_eq_true z).2) (by omega))]; exact q.2.2⟩)
        refine g_aload_n dX12_drawItem_7 rfl rfl ?_
        refine g_getV 7 (C := RX12) (T := TX12) (N := 19) (v := (nI 0)) dX12_drawItem_8 (by decide) rfl rfl (by decide) rfl fl_RX12_105 hmp.1 ?_
        refine g_if_neN 99 dX12_drawItem_11 (by decide) (by omega) (fun z => absurd z (by omega)) (fun _ => ?_)
        refine g_iload_n dX12_drawItem_14 rfl rfl ?_
        refine g_iconst (v := (nI 1)) dX12_drawItem_15 rfl ?_
        refine g_ic_neN 99 dX12_drawItem_16 (by decide) (by omega) (by omega) (fun z => absurd z (by omega)) (fun _ => ?_)
        refine g_aload_n dX12_drawItem_19 rfl rfl ?_
        refine g_iload_n dX12_drawItem_20 rfl rfl ?_
        refine g_aload_n dX12_drawItem_21 rfl rfl ?_
        refine g_getV 10 (C := RX12) (T := TX12) (N := 19) (v := (nI fr)) dX12_drawItem_22 (by decide) rfl rfl (by decide) rfl fl_RX12_115 hfr ?_
        refine g_ic_eqN 43 dX12_drawItem_25 (by decide) (by omega) (by omega) (fun z => absurd z (by omega)) (fun _ => ?_)
        refine g_aload_n dX12_drawItem_28 rfl rfl ?_
        refine g_getV 11 (C := RX12) (T := TX12) (N := 19) (v := (nI (tx_nv B (tx_p B L (j + 1)) (tx_q B L (j + 1 + 1))))) dX12_drawItem_29 (by decide) rfl rfl (by decide) rfl fl_RX12_96 (hn hm) ?_
        refine g_i2l dX12_drawItem_32 rfl ?_
        refine g_lconst (v := 0) dX12_drawItem_33 (by decide) ?_
        refine g_ldc2 (v := 9) dX12_drawItem_34 cl_RX12_121 ?_
        refine g_callS [.long (Int32.toInt64 (nI (tx_nv B (tx_p B L (j + 1)) (tx_q B L (j + 1 + 1))))), .long 0, .long 9] [.ref 80] (z_inL S (Int32.toInt64 (nI (tx_nv B (tx_p B L (j + 1)) (tx_q B L (j + 1 + 1))))) 0 9) dX12_drawItem_37 kk_X12_drawItem_X12_in ml_RX12_54 swX12_in rfl rfl (Nat.le_of_ble_eq_true rfl) ?_
        rintro _ _ ⟨x1, rfl, hx, rfl⟩
        obtain rfl : x1 = nI 0 := hx.trans (zs_bf (fun z => absurd ((zs_in9 (by omega)).mp z) (by omega)))
        refine g_if_neN 47 dX12_drawItem_40 (by decide) (by omega) (fun z => absurd z (by omega)) (fun _ => ?_)
        refine g_iconst (v := (nI 1)) dX12_drawItem_43 rfl ?_
        refine g_goto 48 dX12_drawItem_44 (by decide) ?_
        refine g_putI 7 (C := RX12) (T := TX12) (N := 19) (ty := .boolean) dX12_drawItem_48 (by decide) rfl rfl (by decide) rfl fl_RX12_105 rfl (by decide +kernel) ⟨rfl, rfl⟩ ?_
        refine g_aload_n dX12_drawItem_51 rfl rfl ?_
        refine g_getV 8 (C := RX12) (T := TX12) (N := 19) (v := (nI dn)) dX12_drawItem_52 (by decide) rfl rfl (by decide) rfl fl_RX12_118 ((zs_up_m (by omega)).trans hdn) ?_
        refine g_if_eqN 77 dX12_drawItem_55 (by decide) (by omega) (fun h2 => ?_) (fun h2 => ?_)
        · refine g_iinc (v := (nI (f + 1))) (lv' := [(1, .int (nI (f + 1))), (2, .int (nI (tx_mt B L (j + 1)))), (0, .ref 80)]) dX12_drawItem_77 rfl (nI_1 f) (by decide) rfl ?_
          refine g_aload_n dX12_drawItem_80 rfl rfl ?_
          refine g_getV 7 (C := RX12) (T := TX12) (N := 19) (v := (nI 1)) dX12_drawItem_81 (by decide) rfl rfl (by decide) rfl fl_RX12_105 zs_up_q ?_
          refine g_if_eqN 91 dX12_drawItem_84 (by decide) (by omega) (fun z => absurd z (by omega)) (fun _ => ?_)
          refine g_iload_n dX12_drawItem_87 rfl rfl ?_
          refine g_goto 95 dX12_drawItem_88 (by decide) ?_
          refine g_istore_n (lv' := [(2, .int (nI (tx_mt B L (j + 1)))), (1, .int (nI (f + 1))), (0, .ref 80)]) dX12_drawItem_95 rfl (by decide) rfl ?_
          refine g_goto 7 dX12_drawItem_96 (by decide) ?_
          exact (z_drE_w B L j (f + 1) (tx_mt B L (j + 1)) S0 _ ((hS).up (zs_okR rfl (by omega) (by omega) (by decide) (by decide)) rfl (by decide) (by omega) (by omega) (by decide) (by omega) (by omega)) ⟨zs_up_q, ((zs_up_m (by omega)).trans hmp.2.1), ((zs_up_m (by omega)).trans hmp.2.2)⟩).lv (zs_mc 0 rfl (zs_mc 1 rfl (zs_mc 2 rfl zs_mn)))
        · refine g_aload_n dX12_drawItem_58 rfl rfl ?_
          refine g_getV 7 (C := RX12) (T := TX12) (N := 19) (v := (nI 1)) dX12_drawItem_59 (by decide) rfl rfl (by decide) rfl fl_RX12_105 zs_up_q ?_
          refine g_if_neN 77 dX12_drawItem_62 (by decide) (by omega) (fun _ => ?_) (fun z => absurd z (by omega))
          refine g_iinc (v := (nI (f + 1))) (lv' := [(1, .int (nI (f + 1))), (2, .int (nI (tx_mt B L (j + 1)))), (0, .ref 80)]) dX12_drawItem_77 rfl (nI_1 f) (by decide) rfl ?_
          refine g_aload_n dX12_drawItem_80 rfl rfl ?_
          refine g_getV 7 (C := RX12) (T := TX12) (N := 19) (v := (nI 1)) dX12_drawItem_81 (by decide) rfl rfl (by decide) rfl fl_RX12_105 zs_up_q ?_
          refine g_if_eqN 91 dX12_drawItem_84 (by decide) (by omega) (fun z => absurd z (by omega)) (fun _ => ?_)
          refine g_iload_n dX12_drawItem_87 rfl rfl ?_
          refine g_goto 95 dX12_drawItem_88 (by decide) ?_
          refine g_istore_n (lv' := [(2, .int (nI (tx_mt B L (j + 1)))), (1, .int (nI (f + 1))), (0, .ref 80)]) dX12_drawItem_95 rfl (by decide) rfl ?_
          refine g_goto 7 dX12_drawItem_96 (by decide) ?_
          exact (z_drE_w B L j (f + 1) (tx_mt B L (j + 1)) S0 _ ((hS).up (zs_okR rfl (by omega) (by omega) (by decide) (by decide)) rfl (by decide) (by omega) (by omega) (by decide) (by omega) (by omega)) ⟨zs_up_q, ((zs_up_m (by omega)).trans hmp.2.1), ((zs_up_m (by omega)).trans hmp.2.2)⟩).lv (zs_mc 0 rfl (zs_mc 1 rfl (zs_mc 2 rfl zs_mn)))
      · skip
        refine g_aload_n dX12_drawItem_7 rfl rfl ?_
        refine g_getV 7 (C := RX12) (T := TX12) (N := 19) (v := (nI 0)) dX12_drawItem_8 (by decide) rfl rfl (by decide) rfl fl_RX12_105 hmp.1 ?_
        refine g_if_neN 99 dX12_drawItem_11 (by decide) (by omega) (fun z => absurd z (by omega)) (fun _ => ?_)
        refine g_iload_n dX12_drawItem_14 rfl rfl ?_
        refine g_iconst (v := (nI 1)) dX12_drawItem_15 rfl ?_
        refine g_ic_neN 99 dX12_drawItem_16 (by decide) (by omega) (by omega) (fun _ => ?_) (fun z => absurd z (by omega))
        refine g_aload_n dX12_drawItem_99 rfl rfl ?_
        refine g_aload_n dX12_drawItem_100 rfl rfl ?_
        refine g_getV 7 (C := RX12) (T := TX12) (N := 19) (v := (nI 0)) dX12_drawItem_101 (by decide) rfl rfl (by decide) rfl fl_RX12_105 hmp.1 ?_
        refine g_if_neN 116 dX12_drawItem_104 (by decide) (by omega) (fun z => absurd z (by omega)) (fun _ => ?_)
        refine g_iload_n dX12_drawItem_107 rfl rfl ?_
        refine g_if_eqN 116 dX12_drawItem_108 (by decide) (by omega) (fun h1 => ?_) (fun h1 => ?_)
        · refine g_iconst (v := (nI 1)) dX12_drawItem_116 rfl ?_
          refine g_goto 121 dX12_drawItem_117 (by decide) ?_
          refine g_putI 7 (C := RX12) (T := TX12) (N := 19) (ty := .boolean) dX12_drawItem_121 (by decide) rfl rfl (by decide) rfl fl_RX12_105 rfl (by decide +kernel) ⟨rfl, rfl⟩ ?_
          refine g_ret dX12_drawItem_124 rfl ?_
          exact ⟨rfl, ((hS).up (zs_okR rfl (by omega) (by omega) (by decide) (by decide)) rfl (by decide) (by omega) (by omega) (by decide) (by omega) (by omega)), by rw [tp_bF (fun z => absurd (And.imp_right tx_mk2.mpr (of_decide_eq_true z)) (by omega))]; exact ⟨zs_up_q, ((zs_up_m (by omega)).trans hmp.2.1), ((zs_up_m (by omega)).trans hmp.2.2)⟩⟩
        · refine g_iload_n dX12_drawItem_111 rfl rfl ?_
          refine g_iconst (v := (nI 2)) dX12_drawItem_112 rfl ?_
          refine g_ic_eqN 120 dX12_drawItem_113 (by decide) (by omega) (by omega) (fun h2 => ?_) (fun h2 => ?_)
          · refine g_iconst (v := (nI 0)) dX12_drawItem_120 rfl ?_
            refine g_putI 7 (C := RX12) (T := TX12) (N := 19) (ty := .boolean) dX12_drawItem_121 (by decide) rfl rfl (by decide) rfl fl_RX12_105 rfl (by decide +kernel) ⟨rfl, rfl⟩ ?_
            refine g_ret dX12_drawItem_124 rfl ?_
            exact ⟨rfl, ((hS).up (zs_okR rfl (by omega) (by omega) (by decide) (by decide)) rfl (by decide) (by omega) (by omega) (by decide) (by omega) (by omega)), by rw [tp_bT (decide_eq_true ⟨by omega, tx_mk2.mp (by omega)⟩)]; exact ⟨zs_up_q, ((zs_up_m (by omega)).trans hmp.2.1), ((zs_up_m (by omega)).trans hmp.2.2)⟩⟩
          · refine g_iconst (v := (nI 1)) dX12_drawItem_116 rfl ?_
            refine g_goto 121 dX12_drawItem_117 (by decide) ?_
            refine g_putI 7 (C := RX12) (T := TX12) (N := 19) (ty := .boolean) dX12_drawItem_121 (by decide) rfl rfl (by decide) rfl fl_RX12_105 rfl (by decide +kernel) ⟨rfl, rfl⟩ ?_
            refine g_ret dX12_drawItem_124 rfl ?_
            exact ⟨rfl, ((hS).up (zs_okR rfl (by omega) (by omega) (by decide) (by decide)) rfl (by decide) (by omega) (by omega) (by decide) (by omega) (by omega)), by rw [tp_bF (fun z => absurd (And.imp_right tx_mk2.mpr (of_decide_eq_true z)) (by omega))]; exact ⟨zs_up_q, ((zs_up_m (by omega)).trans hmp.2.1), ((zs_up_m (by omega)).trans hmp.2.2)⟩⟩
set_option maxRecDepth 100000 in
theorem y_drawE (B : Nat → Nat) (L : Nat) (S : zs_S) (hT : zs_tm S B L) (hJ : zs_J S) (j dn fr : Nat) (hdn1 : dn ≤ 1) (hfr1 : 1 ≤ fr) (hfr2 : fr ≤ 12) (hdn : S.1 80 8 = nI dn) (hfr : S.1 80 10 = nI fr) (hmp : zs_mp S B L 0 j) : zs_Cv MX12_drawItem [.ref 80] S (fun S2 => zs_oZ S S2 ∧ zs_mp S2 B L (tp_b (tp_draw (tx_k B L) (tx_v B L) fr 0 j).1) (tp_draw (tx_k B L) (tx_v B L) fr 0 j).2) := by
  refine zs_C.of (by decide) (Nat.le_of_ble_eq_true rfl) ?_
  show zs_P MX12_drawItem 0 [(0, .ref 80)] [] S _
  refine g_iconst (v := (nI 0)) dX12_drawItem_0 rfl ?_
  refine g_istore_n (lv' := [(1, .int (nI 0)), (0, .ref 80)]) dX12_drawItem_1 rfl (by decide) rfl ?_
  refine g_aload_n dX12_drawItem_2 rfl rfl ?_
  refine g_callV (T := TX12) (NN := 19) [] (y_tokenE B L (j + 1) S (((zs_oZ.rf hJ)).1.y hT) hJ hmp.2.1) dX12_drawItem_3 kk_X12_drawItem_X12_token ml_RX12_109 mwX12_token ewX12_token (by decide) rfl rfl rfl rfl (Nat.le_of_ble_eq_true rfl) ?_
  rintro _ S1 ⟨_, rfl, oS1, rfl, pS1, qS1, nS1⟩
  refine g_istore_n (lv' := [(2, .int (nI (tx_mt B L (j + 1)))), (1, .int (nI 0)), (0, .ref 80)]) dX12_drawItem_6 rfl (by decide) rfl ?_
  exact (z_drE B L dn fr S hT hdn1 hfr1 hfr2 fr 0 j _ (((zs_oZ.rf hJ)).tX oS1.ox) ⟨((oS1.2.2.2 7 (by omega)).trans hmp.1), pS1, qS1⟩ nS1 ((oS1.2.2.2 8 (by omega)).trans hdn) ((oS1.2.2.2 10 (by omega)).trans hfr) (by omega) (by omega)).lv (zs_mc 0 rfl (zs_mc 1 rfl (zs_mc 2 rfl zs_mn)))
