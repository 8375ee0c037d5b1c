/-- what reading may change in the class: the token at hand, the drum apart, the tokens -/
def zs_o4 (S0 S : zs_S) : Prop := (∀ b, (b < 45 ∨ 62 < b) → b ≠ 43 → S.1 b = S0.1 b) ∧ (∀ i, i ≠ 7 → S.1 43 i = S0.1 43 i) ∧ (∀ b, (b < 45 ∨ 62 < b) → S.2 b = S0.2 b) ∧ (zs_zr S0 → zs_zr S)
theorem zs_o2.r {S0 S : zs_S} (h : zs_o2 S0 S) : zs_o4 S0 S := ⟨fun b h1 _ => h.1 b (by omega) (by omega) (by omega) (by omega), fun i _ => by rw [h.1 43 (by decide) (by decide) (by decide) (by decide)], fun b _ => by rw [h.2], fun z => ⟨by rw [h.1 53 (by decide) (by decide) (by decide) (by decide)]; exact z.1, by rw [h.1 55 (by decide) (by decide) (by decide) (by decide)]; exact z.2.1, by rw [h.1 57 (by decide) (by decide) (by decide) (by decide)]; exact z.2.2⟩⟩
theorem zs_o4.rf {S : zs_S} : zs_o4 S S := ⟨fun _ _ _ => rfl, fun _ _ => rfl, fun _ _ => rfl, id⟩
theorem zs_o3.r {S0 S : zs_S} (h : zs_o3 S0 S) : zs_o4 S0 S := ⟨fun b h1 h2 => h.1 b (by omega) h2, h.2.1, fun b h1 => h.2.2.1 b (by omega), h.2.2.2⟩
theorem zs_o4.tr {S S1 S2 : zs_S} (h : zs_o4 S S1) (k : zs_o4 S1 S2) : zs_o4 S S2 := ⟨fun b h1 h2 => (k.1 b h1 h2).trans (h.1 b h1 h2), fun i hi => (k.2.1 i hi).trans (h.2.1 i hi), fun b hb => (k.2.2.1 b hb).trans (h.2.2.1 b hb), fun z => k.2.2.2 (h.2.2.2 z)⟩
theorem tp_drumB {K V : Nat → Nat} (h : (tp_drum K V).1 = true) : (tp_drum K V).2 = 4 ∧ K 4 = 2 ∧ 2 ≤ V 1 ∧ V 1 ≤ 12 ∧ V 2 ≤ 5 ∧ V 3 ≤ 11 ∧ K 1 = 1 ∧ K 2 = 1 ∧ K 3 = 1 := by
  by_cases z1 : tp_tn K V 0 2 12 = true
  · by_cases z2 : tp_tn K V 1 0 5 = true
    · by_cases z3 : tp_tn K V 2 0 11 = true
      · have e : tp_drum K V = (decide (K 4 = 2), 4) := (if_pos z1).trans ((if_pos z2).trans (if_pos z3))
        rw [e] at h ⊢
        exact ⟨rfl, of_decide_eq_true h, (tp_tn1 z1).2.1, (tp_tn1 z1).2.2, (tp_tn1 z2).2.2, (tp_tn1 z3).2.2, (tp_tn1 z1).1, (tp_tn1 z2).1, (tp_tn1 z3).1⟩
      · have e : tp_drum K V = (false, 3) := (if_pos z1).trans ((if_pos z2).trans (if_neg z3))
        rw [e] at h; cases h
    · have e : tp_drum K V = (false, 2) := (if_pos z1).trans (if_neg z2)
      rw [e] at h; cases h
  · have e : tp_drum K V = (false, 1) := if_neg z1
    rw [e] at h; cases h
theorem tp_eyB {K V : Nat → Nat} {fr ey j : Nat} (h : (tp_item K V fr ey j).1 = true) (he : ey ≤ 5) : tp_ey K ey j ≤ 5 := by
  unfold tp_ey
  by_cases c6 : K j = 6
  · rw [if_pos c6]
    by_cases z : 5 ≤ ey
    · have e : tp_item K V fr ey j = (false, j) := (if_neg (by omega)).trans ((if_pos c6).trans (if_pos z))
      rw [e] at h; cases h
    · omega
  · rw [if_neg c6]; exact he
theorem tp_itemB {B : Nat → Nat} {L n fr ey j : Nat} {S : zs_S} (hk : zs_tk S B L n) (hj : j < n) : (tp_item (tx_k B L) (tx_v B L) fr ey j).2 ≤ n := by
  have two : ∀ lo hi, tp_tn (tx_k B L) (tx_v B L) j lo hi = true → j + 2 ≤ n := fun lo hi h => by
    have := hk.lt (j := j + 1) (by omega) (by rw [(tp_tn1 h).1]; decide)
    omega
  have dr : ∀ (d f i : Nat), i < n → (tp_draw (tx_k B L) (tx_v B L) d f i).2 ≤ n := by
    intro d
    induction d with
    | zero => intro f i hi; exact hi
    | succ d ih =>
      intro f i hi
      by_cases z : tp_tn (tx_k B L) (tx_v B L) i 0 9 = true
      · rw [show tp_draw (tx_k B L) (tx_v B L) (d + 1) f i = tp_draw (tx_k B L) (tx_v B L) d (f + 1) (i + 1) from if_pos z]
        exact ih _ _ (hk.lt (j := i + 1) (by omega) (by rw [(tp_tn1 z).1]; decide))
      · rw [show tp_draw (tx_k B L) (tx_v B L) (d + 1) f i = (decide (0 < f ∧ tx_k B L (i + 1) = 2), i + 1) from if_neg z]
        exact hi
  by_cases c5 : tx_k B L j = 5
  · rw [show tp_item (tx_k B L) (tx_v B L) fr ey j = tp_draw (tx_k B L) (tx_v B L) fr 0 j from if_pos c5]
    exact dr _ _ _ hj
  by_cases c6 : tx_k B L j = 6
  · by_cases z : 5 ≤ ey
    · rw [show tp_item (tx_k B L) (tx_v B L) fr ey j = (false, j) from (if_neg c5).trans ((if_pos c6).trans (if_pos z))]
      exact Nat.le_of_lt hj
    · by_cases y : tp_tn (tx_k B L) (tx_v B L) j 0 5 = true
      · rw [show tp_item (tx_k B L) (tx_v B L) fr ey j = (decide (tx_k B L (j + 2) = 2), j + 2) from (if_neg c5).trans ((if_pos c6).trans ((if_neg z).trans (if_pos y)))]
        exact two _ _ y
      · rw [show tp_item (tx_k B L) (tx_v B L) fr ey j = (false, j + 1) from (if_neg c5).trans ((if_pos c6).trans ((if_neg z).trans (if_neg y)))]
        exact hj
  by_cases c7 : tx_k B L j = 7
  · by_cases y : tp_tn (tx_k B L) (tx_v B L) j 0 11 = true
    · rw [show tp_item (tx_k B L) (tx_v B L) fr ey j = (decide (tx_k B L (j + 2) = 2), j + 2) from (if_neg c5).trans ((if_neg c6).trans ((if_pos c7).trans (if_pos y)))]
      exact two _ _ y
    · rw [show tp_item (tx_k B L) (tx_v B L) fr ey j = (false, j + 1) from (if_neg c5).trans ((if_neg c6).trans ((if_pos c7).trans (if_neg y)))]
      exact hj
  by_cases c8 : tx_k B L j = 8
  · by_cases y : tp_tn (tx_k B L) (tx_v B L) j 1 99 = true
    · rw [show tp_item (tx_k B L) (tx_v B L) fr ey j = (decide (tx_k B L (j + 2) = 2), j + 2) from (if_neg c5).trans ((if_neg c6).trans ((if_neg c7).trans ((if_pos c8).trans (if_pos y))))]
      exact two _ _ y
    · rw [show tp_item (tx_k B L) (tx_v B L) fr ey j = (false, j + 1) from (if_neg c5).trans ((if_neg c6).trans ((if_neg c7).trans ((if_pos c8).trans (if_neg y))))]
      exact hj
  rw [show tp_item (tx_k B L) (tx_v B L) fr ey j = (false, j) from (if_neg c5).trans ((if_neg c6).trans ((if_neg c7).trans (if_neg c8)))]
  exact Nat.le_of_lt hj
set_option maxRecDepth 100000 in
theorem c_read_l (B : Nat → Nat) (L n fr lm : Nat) (S0 : zs_S) (hfr1 : fr ≤ 12) : ∀ (d m : Nat), m + d = 151 → ∀ ey j, ∀ S, zs_tk S B L n → zs_o4 S0 S → S.1 43 7 = nI j → j < n → S.1 45 0 = nI fr → S.1 45 1 = nI lm → S.1 45 2 = nI ey → ey ≤ 5 → zs_P MX10_readDraft 35 [(1, .int (nI m)), (0, .ref 43)] [] S (fun v S2 => ∃ x, v = some (.int x) ∧ zs_o4 S0 S2 ∧ ((tp_all (tx_k B L) (tx_v B L) fr d m ey j).1 = true → x = nI (tp_all (tx_k B L) (tx_v B L) fr d m ey j).2.1 ∧ S2.1 45 0 = nI fr ∧ S2.1 45 1 = nI lm ∧ S2.1 45 2 = nI (tp_all (tx_k B L) (tx_v B L) fr d m ey j).2.2.2) ∧ ((tp_all (tx_k B L) (tx_v B L) fr d m ey j).1 = false → x = (-10) - nI (tx_p B L (tp_all (tx_k B L) (tx_v B L) fr d m ey j).2.2.1))) := by
  intro d
  induction d with
  | zero =>
    intro m hm ey j S hk hz hj hjn hfr hlm hey hey1
    refine g_iload_n dX10_readDraft_35 rfl rfl ?_
    refine g_sipush (v := (nI 150)) dX10_readDraft_36 rfl ?_
    refine g_ic_gtN 80 dX10_readDraft_39 (by decide) (by omega) (by omega) (fun _ => ?_) (fun z => absurd z (by omega))
    refine g_iload_n dX10_readDraft_80 rfl rfl ?_
    refine g_iret dX10_readDraft_81 rfl rfl ?_
    exact ⟨_, rfl, hz, fun _ => ⟨rfl, hfr, hlm, hey⟩, fun z => absurd z.symm Bool.false_ne_true⟩
  | succ d ih =>
    intro m hm ey j S hk hz hj hjn hfr hlm hey hey1
    have hn150 := hk.n
    have ih : ∀ m, m + d = 151 → ∀ ey j, ∀ S, zs_tk S B L n → zs_o4 S0 S → S.1 43 7 = nI j → j < n → S.1 45 0 = nI fr → S.1 45 1 = nI lm → S.1 45 2 = nI ey → ey ≤ 5 → zs_P MX10_readDraft 35 [(1, .int (nI m)), (0, .ref 43)] [] S (fun v S2 => ∃ x, v = some (.int x) ∧ zs_o4 S0 S2 ∧ ((tp_all (tx_k B L) (tx_v B L) fr d m ey j).1 = true → x = nI (tp_all (tx_k B L) (tx_v B L) fr d m ey j).2.1 ∧ S2.1 45 0 = nI fr ∧ S2.1 45 1 = nI lm ∧ S2.1 45 2 = nI (tp_all (tx_k B L) (tx_v B L) fr d m ey j).2.2.2) ∧ ((tp_all (tx_k B L) (tx_v B L) fr d m ey j).1 = false → x = (-10) - nI (tx_p B L (tp_all (tx_k B L) (tx_v B L) fr d m ey j).2.2.1))) := ih
    refine g_iload_n dX10_readDraft_35 rfl rfl ?_
    refine g_sipush (v := (nI 150)) dX10_readDraft_36 rfl ?_
    refine g_ic_gtN 80 dX10_readDraft_39 (by decide) (by omega) (by omega) (fun z => absurd z (by omega)) (fun _ => ?_)
    refine g_aload_n dX10_readDraft_42 rfl rfl ?_
    refine g_dup dX10_readDraft_43 rfl ?_
    refine g_getV 7 (C := RX10) (T := TX10) (N := 8) (v := (nI j)) dX10_readDraft_44 (by decide) rfl rfl (by decide) rfl fl_RX10_50 hj ?_
    refine g_iconst (v := (nI 1)) dX10_readDraft_47 rfl ?_
    refine g_iaddN dX10_readDraft_48 ?_
    refine g_putI 7 (C := RX10) (T := TX10) (N := 8) (ty := .int) dX10_readDraft_49 (by decide) rfl rfl (by decide) rfl fl_RX10_50 rfl (by decide +kernel) ⟨rfl, rfl⟩ ?_
    refine g_aload_n dX10_readDraft_52 rfl rfl ?_
    refine g_callV (T := TX10) (NN := 8) [] (c_token B L n (j + 1) (zs_up S.1 43 7 (nI (j + 1)), S.2) ((zs_o3.rf).u7.t hk) zs_up_q (by omega)) dX10_readDraft_53 kk_X10_readDraft_X10_token ml_RX10_53 mwX10_token ewX10_token (by decide) rfl rfl rfl rfl (Nat.le_of_ble_eq_true rfl) ?_
    rintro _ _ ⟨_, rfl, rfl, rfl⟩
    have k8q1 := tx_k8 (B := B) (L := L) (j := (j + 1))
    refine g_if_neN 62 dX10_readDraft_56 (by decide) (by omega) (fun h2 => ?_) (fun h2 => ?_)
    · refine g_aload_n dX10_readDraft_62 rfl rfl ?_
      refine g_callV (T := TX10) (NN := 8) [] (c_takeItem B L n fr lm ey (j + 1) (zs_up S.1 43 7 (nI (j + 1)), S.2) ((zs_o3.rf).u7.t hk) hfr1 hey1 zs_up_q (hk.lt (by omega) (by omega)) ((zs_up_m (by omega)).trans hfr) ((zs_up_m (by omega)).trans hlm) ((zs_up_m (by omega)).trans hey)) dX10_readDraft_63 kk_X10_readDraft_X10_takeItem ml_RX10_63 mwX10_takeItem ewX10_takeItem (by decide) rfl rfl rfl rfl (Nat.le_of_ble_eq_true rfl) ?_
      rintro _ S3 ⟨_, rfl, rfl, bS3⟩
      refine g_if_ne 74 dX10_readDraft_66 (by decide) (fun h4 => ?_) (fun h4 => ?_)
      · have h4 := zs_b1 h4
        refine g_iinc (v := (nI (m + 1))) (lv' := [(1, .int (nI (m + 1))), (0, .ref 43)]) dX10_readDraft_74 rfl (nI_1 m) (by decide) rfl ?_
        refine g_goto 35 dX10_readDraft_77 (by decide) ?_
        have hD : (tp_all (tx_k B L) (tx_v B L) fr (d + 1) m ey j) = tp_all (tx_k B L) (tx_v B L) fr d (m + 1) (tp_ey (tx_k B L) ey (j + 1)) (tp_item (tx_k B L) (tx_v B L) fr ey (j + 1)).2 := (if_neg h2).trans (if_pos h4)
        rw [hD]
        exact ih (m + 1) (by omega) _ _ S3 ((((zs_o3.rf).u7).tr bS3.1).t hk) (hz.tr ((((zs_o3.rf).u7).tr bS3.1)).r) bS3.2.1 (hk.lt (tp_itemB hk (hk.lt (by omega) h2)) (by rw [tp_item2 h4]; decide)) bS3.2.2.1 bS3.2.2.2.1 (bS3.2.2.2.2 h4) (tp_eyB h4 hey1)
      · have h4 := zs_b0 h4
        refine g_aload_n dX10_readDraft_69 rfl rfl ?_
        refine g_callV (T := TX10) (NN := 8) [] (c_fault B L n ((tp_item (tx_k B L) (tx_v B L) fr ey (j + 1)).2) S3 ((((zs_o3.rf).u7).tr bS3.1).t hk) bS3.2.1 (tp_itemB hk (hk.lt (by omega) (by omega)))) dX10_readDraft_70 kk_X10_readDraft_X10_fault ml_RX10_60 mwX10_fault ewX10_fault (by decide) rfl rfl rfl rfl (Nat.le_of_ble_eq_true rfl) ?_
        rintro _ _ ⟨_, rfl, rfl, rfl⟩
        refine g_iret dX10_readDraft_73 rfl rfl ?_
        have hD : (tp_all (tx_k B L) (tx_v B L) fr (d + 1) m ey j) = (false, m, (tp_item (tx_k B L) (tx_v B L) fr ey (j + 1)).2, ey) := ((if_neg h2).trans (if_neg h4))
        rw [hD]
        exact ⟨_, rfl, hz.tr ((((zs_o3.rf).u7).tr bS3.1)).r, fun z => absurd z Bool.false_ne_true, fun _ => rfl⟩
    · refine g_goto 80 dX10_readDraft_59 (by decide) ?_
      refine g_iload_n dX10_readDraft_80 rfl rfl ?_
      refine g_iret dX10_readDraft_81 rfl rfl ?_
      have hD : (tp_all (tx_k B L) (tx_v B L) fr (d + 1) m ey j) = (true, m, j + 1, ey) := if_pos h2
      rw [hD]
      exact ⟨_, rfl, hz.tr ((zs_o3.rf).u7).r, fun _ => ⟨rfl, ((zs_up_m (by omega)).trans hfr), ((zs_up_m (by omega)).trans hlm), ((zs_up_m (by omega)).trans hey)⟩, fun z => absurd z.symm Bool.false_ne_true⟩
theorem tp_drumN {B : Nat → Nat} {L n : Nat} {S : zs_S} (hk : zs_tk S B L n) (h0 : 0 < n) : (tp_drum (tx_k B L) (tx_v B L)).2 ≤ n := by
  have st : ∀ j lo hi, j < n → tp_tn (tx_k B L) (tx_v B L) j lo hi = true → j + 1 < n := fun j lo hi hj h => hk.lt (j := j + 1) (by omega) (by rw [(tp_tn1 h).1]; decide)
  by_cases z1 : tp_tn (tx_k B L) (tx_v B L) 0 2 12 = true
  · have n1 := st 0 _ _ h0 z1
    by_cases z2 : tp_tn (tx_k B L) (tx_v B L) 1 0 5 = true
    · have n2 := st 1 _ _ n1 z2
      by_cases z3 : tp_tn (tx_k B L) (tx_v B L) 2 0 11 = true
      · have n3 := st 2 _ _ n2 z3
        rw [show tp_drum (tx_k B L) (tx_v B L) = (decide (tx_k B L 4 = 2), 4) from (if_pos z1).trans ((if_pos z2).trans (if_pos z3))]
        show 4 ≤ n
        omega
      · rw [show tp_drum (tx_k B L) (tx_v B L) = (false, 3) from (if_pos z1).trans ((if_pos z2).trans (if_neg z3))]
        show 3 ≤ n
        omega
    · rw [show tp_drum (tx_k B L) (tx_v B L) = (false, 2) from (if_pos z1).trans (if_neg z2)]
      show 2 ≤ n
      omega
  · rw [show tp_drum (tx_k B L) (tx_v B L) = (false, 1) from if_neg z1]
    exact h0
set_option maxRecDepth 100000 in
theorem c_readDraft (B : Nat → Nat) (L : Nat) (S : zs_S) (hT : zs_tx S B L) : zs_C MX10_readDraft [.ref 43] S (fun v S2 => ∃ x, v = some (.int x) ∧ zs_o4 S S2 ∧ ((tp_read (tx_k B L) (tx_v B L)).1 = true → x = nI (tp_read (tx_k B L) (tx_v B L)).2.1 ∧ S2.1 45 0 = nI (tx_v B L 1) ∧ S2.1 45 1 = nI (tx_v B L 2) ∧ S2.1 45 2 = nI (tp_read (tx_k B L) (tx_v B L)).2.2.2 ∧ zs_zr S2) ∧ ((tp_read (tx_k B L) (tx_v B L)).1 = false → x = (-10) - nI (tx_p B L (tp_read (tx_k B L) (tx_v B L)).2.2.1))) := by
  refine zs_C.of (by decide) (Nat.le_of_ble_eq_true rfl) ?_
  show zs_P MX10_readDraft 0 [(0, .ref 43)] [] S _
  refine g_aload_n dX10_readDraft_0 rfl rfl ?_
  refine g_aload_n dX10_readDraft_1 rfl rfl ?_
  refine g_callV (T := TX10) (NN := 8) [.ref 43] (c_split S B L hT) dX10_readDraft_2 kk_X10_readDraft_X10_splitTokens ml_RX10_42 mwX10_splitTokens ewX10_splitTokens (by decide) rfl rfl rfl rfl (Nat.le_of_ble_eq_true rfl) ?_
  rintro _ S1 ⟨_, rfl, n, rfl, hn, hpn, hA, oS1⟩
  refine g_callV (T := TX10) (NN := 8) [] (c_name S1 B L n (oS1.x hT) hn hpn hA) dX10_readDraft_5 kk_X10_readDraft_X10_nameTokens ml_RX10_46 mwX10_nameTokens ewX10_nameTokens (by decide) rfl rfl rfl rfl (Nat.le_of_ble_eq_true rfl) ?_
  rintro _ S2 ⟨rfl, oS2, hk⟩
  have hz := oS1.r.tr oS2.r
  have hn150 := hk.n
  refine g_aload_n dX10_readDraft_8 rfl rfl ?_
  refine g_iconst (v := (nI 0)) dX10_readDraft_9 rfl ?_
  refine g_putI 7 (C := RX10) (T := TX10) (N := 8) (ty := .int) dX10_readDraft_10 (by decide) rfl rfl (by decide) rfl fl_RX10_50 rfl (by decide +kernel) ⟨rfl, rfl⟩ ?_
  refine g_aload_n dX10_readDraft_13 rfl rfl ?_
  refine g_callV (T := TX10) (NN := 8) [] (c_token B L n 0 (zs_up S2.1 43 7 (nI 0), S2.2) ((zs_o3.rf).u7.t hk) zs_up_q (by omega)) dX10_readDraft_14 kk_X10_readDraft_X10_token ml_RX10_53 mwX10_token ewX10_token (by decide) rfl rfl rfl rfl (Nat.le_of_ble_eq_true rfl) ?_
  rintro _ _ ⟨_, rfl, rfl, rfl⟩
  have k8q3 := tx_k8 (B := B) (L := L) (j := 0)
  refine g_iconst (v := (nI 4)) dX10_readDraft_17 rfl ?_
  refine g_ic_neN 28 dX10_readDraft_18 (by decide) (by omega) (by omega) (fun h4 => ?_) (fun h4 => ?_)
  · refine g_aload_n dX10_readDraft_28 rfl rfl ?_
    refine g_callV (T := TX10) (NN := 8) [] (c_fault B L n 0 (zs_up S2.1 43 7 (nI 0), S2.2) ((zs_o3.rf).u7.t hk) zs_up_q (by omega)) dX10_readDraft_29 kk_X10_readDraft_X10_fault ml_RX10_60 mwX10_fault ewX10_fault (by decide) rfl rfl rfl rfl (Nat.le_of_ble_eq_true rfl) ?_
    rintro _ _ ⟨_, rfl, rfl, rfl⟩
    refine g_iret dX10_readDraft_32 rfl rfl ?_
    have hD : tp_read (tx_k B L) (tx_v B L) = (false, 0, 0, 0) := if_neg (by omega)
    rw [hD]
    exact ⟨_, rfl, hz.tr ((zs_o3.rf).u7).r, fun z => absurd z Bool.false_ne_true, fun _ => rfl⟩
  · have h0n : 0 < n := hk.lt (by omega) (by omega)
    refine g_aload_n dX10_readDraft_21 rfl rfl ?_
    refine g_callV (T := TX10) (NN := 8) [] (c_takeDrum B L n (zs_up S2.1 43 7 (nI 0), S2.2) (((zs_o3.rf).u7).t hk) zs_up_q h0n) dX10_readDraft_22 kk_X10_readDraft_X10_takeDrum ml_RX10_56 mwX10_takeDrum ewX10_takeDrum (by decide) rfl rfl rfl rfl (Nat.le_of_ble_eq_true rfl) ?_
    rintro _ S5 ⟨_, rfl, rfl, bS5⟩
    refine g_if_ne 33 dX10_readDraft_25 (by decide) (fun h6 => ?_) (fun h6 => ?_)
    · have h6 := zs_b1 h6
      refine g_iconst (v := (nI 1)) dX10_readDraft_33 rfl ?_
      refine g_istore_n (lv' := [(1, .int (nI 1)), (0, .ref 43)]) dX10_readDraft_34 rfl (by decide) rfl ?_
      have hD : tp_read (tx_k B L) (tx_v B L) = tp_all (tx_k B L) (tx_v B L) (tx_v B L 1) 150 1 0 (tp_drum (tx_k B L) (tx_v B L)).2 := (if_pos h4).trans (if_pos h6)
      rw [hD]
      have hB := tp_drumB h6
      have hw := bS5.2.2 h6
      refine ((c_read_l B L n (tx_v B L 1) (tx_v B L 2) S5 (by omega) 150 1 (by omega) 0 (tp_drum (tx_k B L) (tx_v B L)).2 S5 (((((zs_o3.rf).u7).tr bS5.1)).t hk) zs_o4.rf bS5.2.1 (hk.lt (tp_drumN hk h0n) (by rw [hB.1, hB.2.1]; decide)) hw.1 hw.2.1 hw.2.2.1 (by omega)).lv (zs_mc 0 rfl (zs_mc 1 rfl zs_mn))).mono (fun _ _ q => ?_)
      obtain ⟨x9, q1, q2, q3, q4⟩ := q
      exact ⟨x9, q1, (hz.tr ((((zs_o3.rf).u7).tr bS5.1)).r).tr q2, fun z => ⟨(q3 z).1, (q3 z).2.1, (q3 z).2.2.1, (q3 z).2.2.2, q2.2.2.2 hw.2.2.2⟩, q4⟩
    · have h6 := zs_b0 h6
      refine g_aload_n dX10_readDraft_28 rfl rfl ?_
      refine g_callV (T := TX10) (NN := 8) [] (c_fault B L n ((tp_drum (tx_k B L) (tx_v B L)).2) S5 ((((zs_o3.rf).u7).tr bS5.1).t hk) bS5.2.1 (tp_drumN hk h0n)) dX10_readDraft_29 kk_X10_readDraft_X10_fault ml_RX10_60 mwX10_fault ewX10_fault (by decide) rfl rfl rfl rfl (Nat.le_of_ble_eq_true rfl) ?_
      rintro _ _ ⟨_, rfl, rfl, rfl⟩
      refine g_iret dX10_readDraft_32 rfl rfl ?_
      have hD : tp_read (tx_k B L) (tx_v B L) = (false, 0, (tp_drum (tx_k B L) (tx_v B L)).2, 0) := (if_pos h4).trans (if_neg h6)
      rw [hD]
      exact ⟨_, rfl, hz.tr ((((zs_o3.rf).u7).tr bS5.1)).r, fun z => absurd z Bool.false_ne_true, fun _ => rfl⟩
