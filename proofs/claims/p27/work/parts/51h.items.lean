theorem tp_draw2 {K V : Nat → Nat} : ∀ (d f j : Nat), (tp_draw K V d f j).1 = true → K (tp_draw K V d f j).2 = 2 := by
  intro d
  induction d with
  | zero => intro f j h; exact of_decide_eq_true h
  | succ d ih =>
    intro f j h
    by_cases z : tp_tn K V j 0 9 = true
    · have e : tp_draw K V (d + 1) f j = tp_draw K V d (f + 1) (j + 1) := if_pos z
      rw [e] at h ⊢
      exact ih _ _ h
    · have e : tp_draw K V (d + 1) f j = (decide (0 < f ∧ K (j + 1) = 2), j + 1) := if_neg z
      rw [e] at h ⊢
      exact (of_decide_eq_true h).2
theorem tp_item2 {K V : Nat → Nat} {fr ey j : Nat} (h : (tp_item K V fr ey j).1 = true) : K (tp_item K V fr ey j).2 = 2 := by
  by_cases c5 : K j = 5
  · have e : tp_item K V fr ey j = tp_draw K V fr 0 j := if_pos c5
    rw [e] at h ⊢
    exact tp_draw2 _ _ _ h
  · by_cases c6 : K j = 6
    · by_cases z : 5 ≤ ey
      · have e : tp_item K V fr ey j = (false, j) := (if_neg c5).trans ((if_pos c6).trans (if_pos z))
        rw [e] at h; cases h
      · by_cases y : tp_tn K V j 0 5 = true
        · have e : tp_item K V fr ey j = (decide (K (j + 2) = 2), j + 2) := (if_neg c5).trans ((if_pos c6).trans ((if_neg z).trans (if_pos y)))
          rw [e] at h ⊢; exact of_decide_eq_true h
        · have e : tp_item K V fr ey j = (false, j + 1) := (if_neg c5).trans ((if_pos c6).trans ((if_neg z).trans (if_neg y)))
          rw [e] at h; cases h
    · by_cases c7 : K j = 7
      · by_cases y : tp_tn K V j 0 11 = true
        · have e : tp_item K V fr ey j = (decide (K (j + 2) = 2), j + 2) := (if_neg c5).trans ((if_neg c6).trans ((if_pos c7).trans (if_pos y)))
          rw [e] at h ⊢; exact of_decide_eq_true h
        · have e : tp_item K V fr ey j = (false, j + 1) := (if_neg c5).trans ((if_neg c6).trans ((if_pos c7).trans (if_neg y)))
          rw [e] at h; cases h
      · by_cases c8 : K j = 8
        · by_cases y : tp_tn K V j 1 99 = true
          · have e : tp_item K V fr ey j = (decide (K (j + 2) = 2), j + 2) := (if_neg c5).trans ((if_neg c6).trans ((if_neg c7).trans ((if_pos c8).trans (if_pos y))))
            rw [e] at h ⊢; exact of_decide_eq_true h
          · have e : tp_item K V fr ey j = (false, j + 1) := (if_neg c5).trans ((if_neg c6).trans ((if_neg c7).trans ((if_pos c8).trans (if_neg y))))
            rw [e] at h; cases h
        · have e : tp_item K V fr ey j = (false, j) := (if_neg c5).trans ((if_neg c6).trans ((if_neg c7).trans (if_neg c8)))
          rw [e] at h; cases h
set_option maxRecDepth 100000 in
theorem c_draw_l (B : Nat → Nat) (L n fr lm ey : Nat) (S0 : zs_S) (hk : zs_tk S0 B L n) (hfr1 : fr ≤ 12) : ∀ (d f j : Nat), ∀ S, f + d = fr → zs_o3 S0 S → S.1 43 7 = nI j → j < n → S.1 45 0 = nI fr → S.1 45 1 = nI lm → S.1 45 2 = nI ey → zs_P MX10_takeDraw 2 [(1, .int (nI f)), (0, .ref 43)] [] S (fun v S2 => ∃ x, v = some (.int x) ∧ x = zs_b ((tp_draw (tx_k B L) (tx_v B L) d f j).1 = true) ∧ zs_o3 S0 S2 ∧ S2.1 43 7 = nI (tp_draw (tx_k B L) (tx_v B L) d f j).2 ∧ S2.1 45 0 = nI fr ∧ S2.1 45 1 = nI lm ∧ S2.1 45 2 = nI ey) := by
  have hn150 := hk.n
  intro d
  induction d with
  | zero =>
    intro f j S hf ho hj hjn hfr hlm hey
    refine g_iload_n dX10_takeDraw_2 rfl rfl ?_
    refine g_aload_n dX10_takeDraw_3 rfl rfl ?_
    refine g_getR 2 (45) (C := RX10) (T := TX10) (N := 8) dX10_takeDraw_4 (by decide) rfl rfl (by decide) rfl fl_RX10_18 ?_
    refine g_getV 0 (C := RX6) (T := TX6) (N := 9) (v := (nI fr)) dX10_takeDraw_7 (by decide) rfl rfl (by decide) rfl fl_RX10_105 hfr ?_
    refine g_ic_geN 65 dX10_takeDraw_10 (by decide) (by omega) (by omega) (fun _ => ?_) (fun z => absurd z (by omega))
    refine g_aload_n dX10_takeDraw_65 rfl rfl ?_
    refine g_callV (T := TX10) (NN := 8) [] (c_takeStop B L n j S (ho.t hk) hj (by omega)) dX10_takeDraw_66 kk_X10_takeDraw_X10_takeStop ml_RX10_81 mwX10_takeStop ewX10_takeStop (by decide) rfl rfl rfl rfl (Nat.le_of_ble_eq_true rfl) ?_
    rintro _ _ ⟨_, rfl, rfl, rfl⟩
    refine g_iret dX10_takeDraw_69 rfl zs_bn ?_
    exact ⟨_, rfl, congrArg zs_b (propext decide_eq_true_iff.symm), (ho).u7, zs_up_q, ((zs_up_m (by omega)).trans hfr), ((zs_up_m (by omega)).trans hlm), ((zs_up_m (by omega)).trans hey)⟩
  | succ d ih =>
    intro f j S hf ho hj hjn hfr hlm hey
    have ih : ∀ f j, ∀ S, f + d = fr → zs_o3 S0 S → S.1 43 7 = nI j → j < n → S.1 45 0 = nI fr → S.1 45 1 = nI lm → S.1 45 2 = nI ey → zs_P MX10_takeDraw 2 [(1, .int (nI f)), (0, .ref 43)] [] S (fun v S2 => ∃ x, v = some (.int x) ∧ x = zs_b ((tp_draw (tx_k B L) (tx_v B L) d f j).1 = true) ∧ zs_o3 S0 S2 ∧ S2.1 43 7 = nI (tp_draw (tx_k B L) (tx_v B L) d f j).2 ∧ S2.1 45 0 = nI fr ∧ S2.1 45 1 = nI lm ∧ S2.1 45 2 = nI ey) := ih
    refine g_iload_n dX10_takeDraw_2 rfl rfl ?_
    refine g_aload_n dX10_takeDraw_3 rfl rfl ?_
    refine g_getR 2 (45) (C := RX10) (T := TX10) (N := 8) dX10_takeDraw_4 (by decide) rfl rfl (by decide) rfl fl_RX10_18 ?_
    refine g_getV 0 (C := RX6) (T := TX6) (N := 9) (v := (nI fr)) dX10_takeDraw_7 (by decide) rfl rfl (by decide) rfl fl_RX10_105 hfr ?_
    refine g_ic_geN 65 dX10_takeDraw_10 (by decide) (by omega) (by omega) (fun z => absurd z (by omega)) (fun _ => ?_)
    refine g_aload_n dX10_takeDraw_13 rfl rfl ?_
    refine g_iconst (v := (nI 0)) dX10_takeDraw_14 rfl ?_
    refine g_bipush (v := (nI 9)) dX10_takeDraw_15 rfl ?_
    refine g_callV (T := TX10) (NN := 8) [] (c_takeNumber B L n j S (ho.t hk) hj (by omega) 0 9 (by decide) (by decide)) dX10_takeDraw_17 kk_X10_takeDraw_X10_takeNumber ml_RX10_70 mwX10_takeNumber ewX10_takeNumber (by decide) rfl rfl rfl rfl (Nat.le_of_ble_eq_true rfl) ?_
    rintro _ _ ⟨_, rfl, rfl, rfl⟩
    refine g_if_ne 41 dX10_takeDraw_20 (by decide) (fun h1 => ?_) (fun h1 => ?_)
    · have h1 := zs_b1 h1
      have lh1 : (j + 1) < n := hk.lt (by omega) (by rw [(tp_tn1 h1).1]; decide)
      have vh1 := (tp_tn1 h1).2
      refine g_aload_n dX10_takeDraw_41 rfl rfl ?_
      refine g_getR 2 (45) (C := RX10) (T := TX10) (N := 8) dX10_takeDraw_42 (by decide) rfl rfl (by decide) rfl fl_RX10_18 ?_
      refine g_getR 4 (47) (C := RX6) (T := TX6) (N := 9) dX10_takeDraw_45 (by decide) rfl rfl (by decide) rfl fl_RX10_93 ?_
      refine g_getR 3 (48) (C := RX3) (T := TX3) (N := 6) dX10_takeDraw_48 (by decide) rfl rfl (by decide) rfl fl_RX10_108 ?_
      refine g_iload_n dX10_takeDraw_51 rfl rfl ?_
      refine g_aload_n dX10_takeDraw_52 rfl rfl ?_
      refine g_callV (T := TX10) (NN := 8) [.int (nI f), .ref 48] (c_value B L n (j + 1) (zs_up S.1 43 7 (nI (j + 1)), S.2) ((ho).u7.t hk) zs_up_q (by omega) (tp_tn1 h1).1) dX10_takeDraw_53 kk_X10_takeDraw_X10_value ml_RX10_74 mwX10_value ewX10_value (by decide) rfl rfl rfl rfl (Nat.le_of_ble_eq_true rfl) ?_
      rintro _ _ ⟨_, rfl, rfl, rfl⟩
      refine g_callN [.ref 48, .int (nI f), .int (nI (tx_v B L (j + 1)))] [] (v3_put 48 12 (nI f) (nI (tx_v B L (j + 1))) (by decide) rfl (by decide) ⟨by decide, by decide, by decide⟩ (zs_up S.1 43 7 (nI (j + 1)), S.2)) dX10_takeDraw_56 kk_X10_takeDraw_X11_put nl_RX10_38 swX11_put rfl rfl (Nat.le_of_ble_eq_true rfl) ?_
      rintro _ S2 ⟨rfl, fS2⟩
      refine g_iinc (v := (nI (f + 1))) (lv' := [(1, .int (nI (f + 1))), (0, .ref 43)]) dX10_takeDraw_59 rfl (nI_1 f) (by decide) rfl ?_
      refine g_goto 2 dX10_takeDraw_62 (by decide) ?_
      have hD : tp_draw (tx_k B L) (tx_v B L) (d + 1) f j = tp_draw (tx_k B L) (tx_v B L) d (f + 1) (j + 1) := if_pos h1
      rw [hD]
      exact ih (f + 1) (j + 1) _ (by omega) (((ho).u7).w fS2) ((fS2.c 7).trans zs_up_q) (by omega) ((fS2.k 0).trans ((zs_up_m (by omega)).trans hfr)) ((fS2.k 1).trans ((zs_up_m (by omega)).trans hlm)) ((fS2.k 2).trans ((zs_up_m (by omega)).trans hey))
    · have h1 := zs_b0 h1
      refine g_iload_n dX10_takeDraw_23 rfl rfl ?_
      refine g_if_leN 39 dX10_takeDraw_24 (by decide) (by omega) (fun h4 => ?_) (fun h4 => ?_)
      · refine g_iconst (v := (nI 0)) dX10_takeDraw_39 rfl ?_
        refine g_iret dX10_takeDraw_40 rfl rfl ?_
        have hD : tp_draw (tx_k B L) (tx_v B L) (d + 1) f j = (decide (0 < f ∧ tx_k B L (j + 1) = 2), j + 1) := if_neg h1
        rw [hD]
        exact ⟨_, rfl, (zs_bf (fun z => absurd (of_decide_eq_true z) (by omega))).symm, (ho).u7, zs_up_q, ((zs_up_m (by omega)).trans hfr), ((zs_up_m (by omega)).trans hlm), ((zs_up_m (by omega)).trans hey)⟩
      · refine g_aload_n dX10_takeDraw_27 rfl rfl ?_
        refine g_callV (T := TX10) (NN := 8) [] (c_token B L n (j + 1) (zs_up S.1 43 7 (nI (j + 1)), S.2) ((ho).u7.t hk) zs_up_q (by omega)) dX10_takeDraw_28 kk_X10_takeDraw_X10_token ml_RX10_53 mwX10_token ewX10_token (by decide) rfl rfl rfl rfl (Nat.le_of_ble_eq_true rfl) ?_
        rintro _ _ ⟨_, rfl, rfl, rfl⟩
        have k8q5 := tx_k8 (B := B) (L := L) (j := (j + 1))
        refine g_iconst (v := (nI 2)) dX10_takeDraw_31 rfl ?_
        refine g_ic_neN 39 dX10_takeDraw_32 (by decide) (by omega) (by omega) (fun h6 => ?_) (fun h6 => ?_)
        · refine g_iconst (v := (nI 0)) dX10_takeDraw_39 rfl ?_
          refine g_iret dX10_takeDraw_40 rfl rfl ?_
          have hD : tp_draw (tx_k B L) (tx_v B L) (d + 1) f j = (decide (0 < f ∧ tx_k B L (j + 1) = 2), j + 1) := if_neg h1
          rw [hD]
          exact ⟨_, rfl, (zs_bf (fun z => absurd (of_decide_eq_true z) (by omega))).symm, (ho).u7, zs_up_q, ((zs_up_m (by omega)).trans hfr), ((zs_up_m (by omega)).trans hlm), ((zs_up_m (by omega)).trans hey)⟩
        · refine g_iconst (v := (nI 1)) dX10_takeDraw_35 rfl ?_
          refine g_goto 40 dX10_takeDraw_36 (by decide) ?_
          refine g_iret dX10_takeDraw_40 rfl rfl ?_
          have hD : tp_draw (tx_k B L) (tx_v B L) (d + 1) f j = (decide (0 < f ∧ tx_k B L (j + 1) = 2), j + 1) := if_neg h1
          rw [hD]
          exact ⟨_, rfl, (zs_bt (decide_eq_true ⟨by omega, by omega⟩)).symm, (ho).u7, zs_up_q, ((zs_up_m (by omega)).trans hfr), ((zs_up_m (by omega)).trans hlm), ((zs_up_m (by omega)).trans hey)⟩
theorem c_takeDraw (B : Nat → Nat) (L n fr lm ey j : Nat) (S : zs_S) (hk : zs_tk S B L n) (hfr1 : fr ≤ 12) (hj : S.1 43 7 = nI j) (hjn : j < n) (hfr : S.1 45 0 = nI fr) (hlm : S.1 45 1 = nI lm) (hey : S.1 45 2 = nI ey) : zs_Ci MX10_takeDraw [.ref 43] S (fun x S2 => x = zs_b ((tp_draw (tx_k B L) (tx_v B L) fr 0 j).1 = true) ∧ zs_o3 S S2 ∧ S2.1 43 7 = nI (tp_draw (tx_k B L) (tx_v B L) fr 0 j).2 ∧ S2.1 45 0 = nI fr ∧ S2.1 45 1 = nI lm ∧ S2.1 45 2 = nI ey) := by
  refine zs_C.of (by decide) (Nat.le_of_ble_eq_true rfl) ?_
  show zs_P MX10_takeDraw 0 [(0, .ref 43)] [] S _
  refine g_iconst (v := nI 0) dX10_takeDraw_0 rfl ?_
  refine g_istore_n (lv' := [(1, .int (nI 0)), (0, .ref 43)]) dX10_takeDraw_1 rfl (by decide) rfl ?_
  exact c_draw_l B L n fr lm ey S hk hfr1 fr 0 j S (by omega) zs_o3.rf hj hjn hfr hlm hey
set_option maxRecDepth 100000 in
theorem c_takeItem (B : Nat → Nat) (L n fr lm ey j : Nat) (S : zs_S) (hk : zs_tk S B L n) (hfr1 : fr ≤ 12) (hey1 : ey ≤ 5) (hj : S.1 43 7 = nI j) (hjn : j < n) (hfr : S.1 45 0 = nI fr) (hlm : S.1 45 1 = nI lm) (hey : S.1 45 2 = nI ey) : zs_Ci MX10_takeItem [.ref 43] S (fun x S2 => x = zs_b ((tp_item (tx_k B L) (tx_v B L) fr ey j).1 = true) ∧ zs_o3 S S2 ∧ S2.1 43 7 = nI (tp_item (tx_k B L) (tx_v B L) fr ey j).2 ∧ S2.1 45 0 = nI fr ∧ S2.1 45 1 = nI lm ∧ ((tp_item (tx_k B L) (tx_v B L) fr ey j).1 = true → S2.1 45 2 = nI (tp_ey (tx_k B L) ey j))) := by
  have hn150 := hk.n
  refine zs_C.of (by decide) (Nat.le_of_ble_eq_true rfl) ?_
  show zs_P MX10_takeItem 0 [(0, .ref 43)] [] S _
  refine g_aload_n dX10_takeItem_0 rfl rfl ?_
  refine g_callV (T := TX10) (NN := 8) [] (c_token B L n j S (zs_o3.rf.t hk) hj (by omega)) dX10_takeItem_1 kk_X10_takeItem_X10_token ml_RX10_53 mwX10_token ewX10_token (by decide) rfl rfl rfl rfl (Nat.le_of_ble_eq_true rfl) ?_
  rintro _ _ ⟨_, rfl, rfl, rfl⟩
  have k8q1 := tx_k8 (B := B) (L := L) (j := j)
  by_cases c5 : tx_k B L j = 5
  · rw [c5]
    refine g_tin (off := 32) 36 dX10_takeItem_4 (by decide) (by decide) (by decide +kernel) (by decide) ?_
    refine g_aload_n dX10_takeItem_36 rfl rfl ?_
    refine g_callV (T := TX10) (NN := 8) [] (c_takeDraw B L n fr lm ey j S (zs_o3.rf.t hk) hfr1 hj hjn hfr hlm hey) dX10_takeItem_37 kk_X10_takeItem_X10_takeDraw ml_RX10_84 mwX10_takeDraw ewX10_takeDraw (by decide) rfl rfl rfl rfl (Nat.le_of_ble_eq_true rfl) ?_
    rintro _ S2 ⟨_, rfl, rfl, bS2⟩
    refine g_iret dX10_takeItem_40 rfl zs_bn ?_
    have hD : tp_item (tx_k B L) (tx_v B L) fr ey j = tp_draw (tx_k B L) (tx_v B L) fr 0 j := if_pos c5
    rw [hD]
    exact ⟨_, rfl, rfl, ((zs_o3.rf).tr bS2.1), bS2.2.1, bS2.2.2.1, bS2.2.2.2.1, fun _ => by unfold tp_ey; rw [if_neg (by omega)]; exact bS2.2.2.2.2⟩
  by_cases c6 : tx_k B L j = 6
  · rw [c6]
    refine g_tin (off := 37) 41 dX10_takeItem_4 (by decide) (by decide) (by decide +kernel) (by decide) ?_
    refine g_aload_n dX10_takeItem_41 rfl rfl ?_
    refine g_getR 2 (45) (C := RX10) (T := TX10) (N := 8) dX10_takeItem_42 (by decide) rfl rfl (by decide) rfl fl_RX10_18 ?_
    refine g_getV 2 (C := RX6) (T := TX6) (N := 9) (v := (nI ey)) dX10_takeItem_45 (by decide) rfl rfl (by decide) rfl fl_RX10_87 hey ?_
    refine g_iconst (v := (nI 5)) dX10_takeItem_48 rfl ?_
    refine g_ic_geN 61 dX10_takeItem_49 (by decide) (by omega) (by omega) (fun h3 => ?_) (fun h3 => ?_)
    · refine g_iconst (v := (nI 0)) dX10_takeItem_61 rfl ?_
      refine g_iret dX10_takeItem_62 rfl rfl ?_
      have hD : tp_item (tx_k B L) (tx_v B L) fr ey j = (false, j) := (if_neg c5).trans ((if_pos c6).trans (if_pos h3))
      rw [hD]
      exact ⟨_, rfl, (zs_bf Bool.false_ne_true).symm, zs_o3.rf, hj, hfr, hlm, fun z => absurd z Bool.false_ne_true⟩
    · refine g_aload_n dX10_takeItem_52 rfl rfl ?_
      refine g_iconst (v := (nI 0)) dX10_takeItem_53 rfl ?_
      refine g_iconst (v := (nI 5)) dX10_takeItem_54 rfl ?_
      refine g_callV (T := TX10) (NN := 8) [] (c_takeNumber B L n j S (zs_o3.rf.t hk) hj (by omega) 0 5 (by decide) (by decide)) dX10_takeItem_55 kk_X10_takeItem_X10_takeNumber ml_RX10_70 mwX10_takeNumber ewX10_takeNumber (by decide) rfl rfl rfl rfl (Nat.le_of_ble_eq_true rfl) ?_
      rintro _ _ ⟨_, rfl, rfl, rfl⟩
      refine g_if_ne 63 dX10_takeItem_58 (by decide) (fun h4 => ?_) (fun h4 => ?_)
      · have h4 := zs_b1 h4
        have lh4 : (j + 1) < n := hk.lt (by omega) (by rw [(tp_tn1 h4).1]; decide)
        have vh4 := (tp_tn1 h4).2
        refine g_aload_n dX10_takeItem_63 rfl rfl ?_
        refine g_getR 2 (45) (C := RX10) (T := TX10) (N := 8) dX10_takeItem_64 (by decide) rfl rfl (by decide) rfl fl_RX10_18 ?_
        refine g_aload_n dX10_takeItem_67 rfl rfl ?_
        refine g_callV (T := TX10) (NN := 8) [.ref 45] (c_value B L n (j + 1) (zs_up S.1 43 7 (nI (j + 1)), S.2) ((zs_o3.rf).u7.t hk) zs_up_q (by omega) (tp_tn1 h4).1) dX10_takeItem_68 kk_X10_takeItem_X10_value ml_RX10_74 mwX10_value ewX10_value (by decide) rfl rfl rfl rfl (Nat.le_of_ble_eq_true rfl) ?_
        rintro _ _ ⟨_, rfl, rfl, rfl⟩
        refine g_callV (T := TX6) (NN := 9) [] (c_addEye (zs_up S.1 43 7 (nI (j + 1)), S.2) (nI (tx_v B L (j + 1))) ey ((zs_up_m (by omega)).trans hey)) dX10_takeItem_71 kk_X10_takeItem_X6_addEye ml_RX10_90 mwX6_addEye ewX6_addEye (by decide) rfl rfl rfl rfl (Nat.le_of_ble_eq_true rfl) ?_
        rintro _ S5 ⟨rfl, bS5⟩
        refine g_aload_n dX10_takeItem_74 rfl rfl ?_
        refine g_callV (T := TX10) (NN := 8) [] (c_takeStop B L n (j + 1) S5 ((((zs_o3.rf).u7).tr bS5.1).t hk) (bS5.2.1.trans zs_up_q) (by omega)) dX10_takeItem_75 kk_X10_takeItem_X10_takeStop ml_RX10_81 mwX10_takeStop ewX10_takeStop (by decide) rfl rfl rfl rfl (Nat.le_of_ble_eq_true rfl) ?_
        rintro _ _ ⟨_, rfl, rfl, rfl⟩
        refine g_iret dX10_takeItem_78 rfl zs_bn ?_
        have hD : tp_item (tx_k B L) (tx_v B L) fr ey j = (decide (tx_k B L (j + 2) = 2), j + 2) := (if_neg c5).trans ((if_pos c6).trans ((if_neg (by omega)).trans (if_pos h4)))
        rw [hD]
        exact ⟨_, rfl, congrArg zs_b (propext decide_eq_true_iff.symm), ((((zs_o3.rf).u7).tr bS5.1)).u7, zs_up_q, ((zs_up_m (by omega)).trans (bS5.2.2.1.trans ((zs_up_m (by omega)).trans hfr))), ((zs_up_m (by omega)).trans (bS5.2.2.2.1.trans ((zs_up_m (by omega)).trans hlm))), fun _ => by unfold tp_ey; rw [if_pos (by omega)]; exact ((zs_up_m (by omega)).trans bS5.2.2.2.2)⟩
      · have h4 := zs_b0 h4
        refine g_iconst (v := (nI 0)) dX10_takeItem_61 rfl ?_
        refine g_iret dX10_takeItem_62 rfl rfl ?_
        have hD : tp_item (tx_k B L) (tx_v B L) fr ey j = (false, j + 1) := (if_neg c5).trans ((if_pos c6).trans ((if_neg (by omega)).trans (if_neg h4)))
        rw [hD]
        exact ⟨_, rfl, (zs_bf Bool.false_ne_true).symm, (zs_o3.rf).u7, zs_up_q, ((zs_up_m (by omega)).trans hfr), ((zs_up_m (by omega)).trans hlm), fun z => absurd z Bool.false_ne_true⟩
  by_cases c7 : tx_k B L j = 7
  · rw [c7]
    refine g_tin (off := 75) 79 dX10_takeItem_4 (by decide) (by decide) (by decide +kernel) (by decide) ?_
    refine g_aload_n dX10_takeItem_79 rfl rfl ?_
    refine g_iconst (v := (nI 0)) dX10_takeItem_80 rfl ?_
    refine g_bipush (v := (nI 11)) dX10_takeItem_81 rfl ?_
    refine g_callV (T := TX10) (NN := 8) [] (c_takeNumber B L n j S (zs_o3.rf.t hk) hj (by omega) 0 11 (by decide) (by decide)) dX10_takeItem_83 kk_X10_takeItem_X10_takeNumber ml_RX10_70 mwX10_takeNumber ewX10_takeNumber (by decide) rfl rfl rfl rfl (Nat.le_of_ble_eq_true rfl) ?_
    rintro _ _ ⟨_, rfl, rfl, rfl⟩
    refine g_if_ne 91 dX10_takeItem_86 (by decide) (fun h6 => ?_) (fun h6 => ?_)
    · have h6 := zs_b1 h6
      have lh6 : (j + 1) < n := hk.lt (by omega) (by rw [(tp_tn1 h6).1]; decide)
      have vh6 := (tp_tn1 h6).2
      refine g_aload_n dX10_takeItem_91 rfl rfl ?_
      refine g_getR 2 (45) (C := RX10) (T := TX10) (N := 8) dX10_takeItem_92 (by decide) rfl rfl (by decide) rfl fl_RX10_18 ?_
      refine g_getR 4 (47) (C := RX6) (T := TX6) (N := 9) dX10_takeItem_95 (by decide) rfl rfl (by decide) rfl fl_RX10_93 ?_
      refine g_aload_n dX10_takeItem_98 rfl rfl ?_
      refine g_callV (T := TX10) (NN := 8) [.ref 47] (c_value B L n (j + 1) (zs_up S.1 43 7 (nI (j + 1)), S.2) ((zs_o3.rf).u7.t hk) zs_up_q (by omega) (tp_tn1 h6).1) dX10_takeItem_99 kk_X10_takeItem_X10_value ml_RX10_74 mwX10_value ewX10_value (by decide) rfl rfl rfl rfl (Nat.le_of_ble_eq_true rfl) ?_
      rintro _ _ ⟨_, rfl, rfl, rfl⟩
      refine g_putI 2 (C := RX3) (T := TX3) (N := 6) (ty := .int) dX10_takeItem_102 (by decide) rfl rfl (by decide) rfl fl_RX10_97 rfl (by decide +kernel) ⟨rfl, rfl⟩ ?_
      refine g_aload_n dX10_takeItem_105 rfl rfl ?_
      refine g_callV (T := TX10) (NN := 8) [] (c_takeStop B L n (j + 1) (zs_up (zs_up S.1 43 7 (nI (j + 1)), S.2).1 47 2 (nI (tx_v B L (j + 1))), (zs_up S.1 43 7 (nI (j + 1)), S.2).2) ((((zs_o3.rf).u7).ud (by decide) (by decide) (by decide)).t hk) ((zs_up_m (by omega)).trans zs_up_q) (by omega)) dX10_takeItem_106 kk_X10_takeItem_X10_takeStop ml_RX10_81 mwX10_takeStop ewX10_takeStop (by decide) rfl rfl rfl rfl (Nat.le_of_ble_eq_true rfl) ?_
      rintro _ _ ⟨_, rfl, rfl, rfl⟩
      refine g_iret dX10_takeItem_109 rfl zs_bn ?_
      have hD : tp_item (tx_k B L) (tx_v B L) fr ey j = (decide (tx_k B L (j + 2) = 2), j + 2) := (if_neg c5).trans ((if_neg c6).trans ((if_pos c7).trans (if_pos h6)))
      rw [hD]
      exact ⟨_, rfl, congrArg zs_b (propext decide_eq_true_iff.symm), ((((zs_o3.rf).u7).ud (by decide) (by decide) (by decide))).u7, zs_up_q, ((zs_up_m (by omega)).trans ((zs_up_m (by omega)).trans ((zs_up_m (by omega)).trans hfr))), ((zs_up_m (by omega)).trans ((zs_up_m (by omega)).trans ((zs_up_m (by omega)).trans hlm))), fun _ => by unfold tp_ey; rw [if_neg (by omega)]; exact ((zs_up_m (by omega)).trans ((zs_up_m (by omega)).trans ((zs_up_m (by omega)).trans hey)))⟩
    · have h6 := zs_b0 h6
      refine g_iconst (v := (nI 0)) dX10_takeItem_89 rfl ?_
      refine g_iret dX10_takeItem_90 rfl rfl ?_
      have hD : tp_item (tx_k B L) (tx_v B L) fr ey j = (false, j + 1) := (if_neg c5).trans ((if_neg c6).trans ((if_pos c7).trans (if_neg h6)))
      rw [hD]
      exact ⟨_, rfl, (zs_bf Bool.false_ne_true).symm, (zs_o3.rf).u7, zs_up_q, ((zs_up_m (by omega)).trans hfr), ((zs_up_m (by omega)).trans hlm), fun z => absurd z Bool.false_ne_true⟩
  by_cases c8 : tx_k B L j = 8
  · rw [c8]
    refine g_tin (off := 106) 110 dX10_takeItem_4 (by decide) (by decide) (by decide +kernel) (by decide) ?_
    refine g_aload_n dX10_takeItem_110 rfl rfl ?_
    refine g_iconst (v := (nI 1)) dX10_takeItem_111 rfl ?_
    refine g_bipush (v := (nI 99)) dX10_takeItem_112 rfl ?_
    refine g_callV (T := TX10) (NN := 8) [] (c_takeNumber B L n j S (zs_o3.rf.t hk) hj (by omega) 1 99 (by decide) (by decide)) dX10_takeItem_114 kk_X10_takeItem_X10_takeNumber ml_RX10_70 mwX10_takeNumber ewX10_takeNumber (by decide) rfl rfl rfl rfl (Nat.le_of_ble_eq_true rfl) ?_
    rintro _ _ ⟨_, rfl, rfl, rfl⟩
    refine g_if_ne 122 dX10_takeItem_117 (by decide) (fun h7 => ?_) (fun h7 => ?_)
    · have h7 := zs_b1 h7
      have lh7 : (j + 1) < n := hk.lt (by omega) (by rw [(tp_tn1 h7).1]; decide)
      have vh7 := (tp_tn1 h7).2
      refine g_aload_n dX10_takeItem_122 rfl rfl ?_
      refine g_getR 2 (45) (C := RX10) (T := TX10) (N := 8) dX10_takeItem_123 (by decide) rfl rfl (by decide) rfl fl_RX10_18 ?_
      refine g_aload_n dX10_takeItem_126 rfl rfl ?_
      refine g_callV (T := TX10) (NN := 8) [.ref 45] (c_value B L n (j + 1) (zs_up S.1 43 7 (nI (j + 1)), S.2) ((zs_o3.rf).u7.t hk) zs_up_q (by omega) (tp_tn1 h7).1) dX10_takeItem_127 kk_X10_takeItem_X10_value ml_RX10_74 mwX10_value ewX10_value (by decide) rfl rfl rfl rfl (Nat.le_of_ble_eq_true rfl) ?_
      rintro _ _ ⟨_, rfl, rfl, rfl⟩
      refine g_callV (T := TX6) (NN := 9) [] (v3_X6_turn_45 (nI (tx_v B L (j + 1))) (zs_up S.1 43 7 (nI (j + 1)), S.2)) dX10_takeItem_130 kk_X10_takeItem_X6_turn ml_RX10_102 mwX6_turn ewX6_turn (by decide) rfl rfl rfl rfl (Nat.le_of_ble_eq_true rfl) ?_
      rintro _ S8 ⟨rfl, fS8⟩
      refine g_aload_n dX10_takeItem_133 rfl rfl ?_
      refine g_callV (T := TX10) (NN := 8) [] (c_takeStop B L n (j + 1) S8 ((((zs_o3.rf).u7).w fS8).t hk) ((fS8.c 7).trans zs_up_q) (by omega)) dX10_takeItem_134 kk_X10_takeItem_X10_takeStop ml_RX10_81 mwX10_takeStop ewX10_takeStop (by decide) rfl rfl rfl rfl (Nat.le_of_ble_eq_true rfl) ?_
      rintro _ _ ⟨_, rfl, rfl, rfl⟩
      refine g_iret dX10_takeItem_137 rfl zs_bn ?_
      have hD : tp_item (tx_k B L) (tx_v B L) fr ey j = (decide (tx_k B L (j + 2) = 2), j + 2) := (if_neg c5).trans ((if_neg c6).trans ((if_neg c7).trans ((if_pos c8).trans (if_pos h7))))
      rw [hD]
      exact ⟨_, rfl, congrArg zs_b (propext decide_eq_true_iff.symm), ((((zs_o3.rf).u7).w fS8)).u7, zs_up_q, ((zs_up_m (by omega)).trans ((fS8.k 0).trans ((zs_up_m (by omega)).trans hfr))), ((zs_up_m (by omega)).trans ((fS8.k 1).trans ((zs_up_m (by omega)).trans hlm))), fun _ => by unfold tp_ey; rw [if_neg (by omega)]; exact ((zs_up_m (by omega)).trans ((fS8.k 2).trans ((zs_up_m (by omega)).trans hey)))⟩
    · have h7 := zs_b0 h7
      refine g_iconst (v := (nI 0)) dX10_takeItem_120 rfl ?_
      refine g_iret dX10_takeItem_121 rfl rfl ?_
      have hD : tp_item (tx_k B L) (tx_v B L) fr ey j = (false, j + 1) := (if_neg c5).trans ((if_neg c6).trans ((if_neg c7).trans ((if_pos c8).trans (if_neg h7))))
      rw [hD]
      exact ⟨_, rfl, (zs_bf Bool.false_ne_true).symm, (zs_o3.rf).u7, zs_up_q, ((zs_up_m (by omega)).trans hfr), ((zs_up_m (by omega)).trans hlm), fun z => absurd z Bool.false_ne_true⟩
  refine g_tout 138 dX10_takeItem_4 (by rw [nI_toInt (by omega)]; omega) (by decide) ?_
  refine g_iconst (v := (nI 0)) dX10_takeItem_138 rfl ?_
  refine g_iret dX10_takeItem_139 rfl rfl ?_
  have hD : tp_item (tx_k B L) (tx_v B L) fr ey j = (false, j) := (if_neg c5).trans ((if_neg c6).trans ((if_neg c7).trans (if_neg c8)))
  rw [hD]
  exact ⟨_, rfl, (zs_bf Bool.false_ne_true).symm, zs_o3.rf, hj, hfr, hlm, fun z => absurd z Bool.false_ne_true⟩
