def zs_mp (S : zs_S) (B : Nat → Nat) (L w j : Nat) : Prop := S.1 80 7 = nI w ∧ S.1 80 5 = nI (tx_q B L (j + 1)) ∧ S.1 80 6 = nI (tx_p B L j)
def zs_oX (S0 S : zs_S) : Prop := zs_J S ∧ zs_fm S0 S ∧ (∀ b, b ≠ 80 → S.1 b = S0.1 b) ∧ ∀ j, (j = 3 ∨ j = 8 ∨ j = 9 ∨ j = 10) → S.1 80 j = S0.1 80 j
theorem zs_oX.rf {S : zs_S} (hJ : zs_J S) : zs_oX S S := ⟨hJ, zs_fm.rf, fun _ _ => rfl, fun _ _ => rfl⟩
theorem zs_oX.tr {S S1 S2 : zs_S} (h : zs_oX S S1) (k : zs_oX S1 S2) : zs_oX S S2 := ⟨k.1, h.2.1.tr k.2.1, fun b hb => (k.2.2.1 b hb).trans (h.2.2.1 b hb), fun j hj => (k.2.2.2 j hj).trans (h.2.2.2 j hj)⟩
theorem zs_oT.ox {S0 S : zs_S} (h : zs_oT S0 S) : zs_oX S0 S := ⟨h.1, h.2.1, h.2.2.1, fun j hj => h.2.2.2 j (by omega)⟩
theorem zs_oX.u7 {S0 S : zs_S} {k : Nat} (h : zs_oX S0 S) (hk : k ≤ 1) : zs_oX S0 (zs_up S.1 80 7 (nI k), S.2) := ⟨h.1.up (zs_okR rfl (Nat.zero_le _) hk (by decide) (by decide)), h.2.1.tr (zs_fm.up rfl), fun b hb => (zs_uo (f := S.1) (a := 80) (j := 7) (v := nI k) (b := b) hb).trans (h.2.2.1 b hb), fun j hj => (zs_up_m (by omega)).trans (h.2.2.2 j hj)⟩
theorem zs_oX.y {S0 S : zs_S} {B : Nat → Nat} {L : Nat} (h : zs_oX S0 S) (k : zs_tm S0 B L) : zs_tm S B L := ⟨k.1, (h.2.2.2 3 (by omega)).trans k.2.1, fun i hi => ⟨(k.2.2 i hi).1, by rw [h.2.2.1 84 (by decide)]; exact (k.2.2 i hi).2⟩⟩
theorem tx_nvE {B : Nat → Nat} {L j : Nat} (hk : tx_k B L j = 1) : tx_nv B (tx_p B L j) (tx_q B L (j + 1)) = tx_v B L j := by
  have h0 : tx_p B L j < L := by
    by_cases y : tx_p B L j < L
    · exact y
    · rw [tx_kz.mpr y] at hk; omega
  have hv := tx_vB h0 hk
  have h := (tx_mkn (B := B) (L := L) (j := j) (lo := tx_v B L j) (hi := tx_v B L j) hv).mpr ⟨hk, Nat.le_refl _, Nat.le_refl _⟩
  omega
theorem zs_inE3 {lo v hi : Nat} (h1 : lo < 2 ^ 31) (h2 : v < 2 ^ 31) (h3 : hi < 2 ^ 31) : ((nI lo).toInt64 ≤ (nI v).toInt64 ∧ (nI v).toInt64 ≤ (nI hi).toInt64) ↔ (lo ≤ v ∧ v ≤ hi) := by
  rw [nI_l h1, nI_l h2, nI_l h3, lN_le h1 h2, lN_le h2 h3]
theorem tx_nvL {B : Nat → Nat} {L j : Nat} {S : zs_S} (hT : zs_tm S B L) : tx_nv B (tx_p B L j) (tx_q B L (j + 1)) ≤ 1000 := by
  have h1 := tx_q_le (B := B) (L := L) (j + 1)
  by_cases h : tx_p B L j ≤ tx_q B L (j + 1)
  · exact tx_nvB (fun i hi1 hi2 => (hT.2.2 i (by omega)).1) h
  · unfold tx_nv
    rw [if_pos (by omega)]
    omega
set_option maxRecDepth 100000 in
theorem y_wantsE (B : Nat → Nat) (L : Nat) (S : zs_S) (hT : zs_tm S B L) (hJ : zs_J S) (w j lo hi : Nat) (hw1 : w ≤ 1) (hlo : lo ≤ 99) (hhi : hi ≤ 99) (hmp : zs_mp S B L w j) : zs_Ci MX12_wants [.ref 80, .int (nI lo), .int (nI hi)] S (fun x S2 => zs_oX S S2 ∧ (w = 0 → tp_tn (tx_k B L) (tx_v B L) j lo hi = true → zs_mp S2 B L 0 (j + 1) ∧ x = nI (tx_v B L (j + 1))) ∧ (w = 0 → ¬ tp_tn (tx_k B L) (tx_v B L) j lo hi = true → zs_mp S2 B L 1 (j + 1) ∧ x = nI 0) ∧ (w ≠ 0 → zs_mp S2 B L 1 j ∧ x = nI 0)) := by
  refine zs_C.of (by decide) (Nat.le_of_ble_eq_true rfl) ?_
  show zs_P MX12_wants 0 [(0, .ref 80), (1, .int (nI lo)), (2, .int (nI hi))] [] S _
  refine g_aload_n dX12_wants_0 rfl rfl ?_
  refine g_getV 7 (C := RX12) (T := TX12) (N := 19) (v := (nI w)) dX12_wants_1 (by decide) rfl rfl (by decide) rfl fl_RX12_105 hmp.1 ?_
  refine g_if_neN 34 dX12_wants_4 (by decide) (by omega) (fun h1 => ?_) (fun h1 => ?_)
  · refine g_iconst (v := (nI 0)) dX12_wants_34 rfl ?_
    refine g_istore_n (lv' := [(3, .int (nI 0)), (0, .ref 80), (1, .int (nI lo)), (2, .int (nI hi))]) dX12_wants_35 rfl (by decide) rfl ?_
    refine g_aload_n dX12_wants_36 rfl rfl ?_
    refine g_aload_n dX12_wants_37 rfl rfl ?_
    refine g_getV 7 (C := RX12) (T := TX12) (N := 19) (v := (nI w)) dX12_wants_38 (by decide) rfl rfl (by decide) rfl fl_RX12_105 hmp.1 ?_
    refine g_if_neN 48 dX12_wants_41 (by decide) (by omega) (fun h2 => ?_) (fun h2 => ?_)
    · refine g_iconst (v := (nI 1)) dX12_wants_48 rfl ?_
      refine g_goto 53 dX12_wants_49 (by decide) ?_
      refine g_putI 7 (C := RX12) (T := TX12) (N := 19) (ty := .boolean) dX12_wants_53 (by decide) rfl rfl (by decide) rfl fl_RX12_105 rfl (by decide +kernel) ⟨rfl, rfl⟩ ?_
      refine g_iload_n dX12_wants_56 rfl rfl ?_
      refine g_if_eqN 67 dX12_wants_57 (by decide) (by omega) (fun _ => ?_) (fun z => absurd z (by omega))
      refine g_iconst (v := (nI 0)) dX12_wants_67 rfl ?_
      refine g_iret dX12_wants_68 rfl rfl ?_
      exact ⟨_, rfl, (((zs_oX.rf hJ)).u7 (by omega)), fun z => absurd z (by omega), fun z => absurd z (by omega), fun _ => ⟨⟨zs_up_q, ((zs_up_m (by omega)).trans hmp.2.1), ((zs_up_m (by omega)).trans hmp.2.2)⟩, rfl⟩⟩
    · refine g_iload_n dX12_wants_44 rfl rfl ?_
      refine g_if_neN 52 dX12_wants_45 (by decide) (by omega) (fun z => absurd z (by omega)) (fun _ => ?_)
      refine g_iconst (v := (nI 1)) dX12_wants_48 rfl ?_
      refine g_goto 53 dX12_wants_49 (by decide) ?_
      refine g_putI 7 (C := RX12) (T := TX12) (N := 19) (ty := .boolean) dX12_wants_53 (by decide) rfl rfl (by decide) rfl fl_RX12_105 rfl (by decide +kernel) ⟨rfl, rfl⟩ ?_
      refine g_iload_n dX12_wants_56 rfl rfl ?_
      refine g_if_eqN 67 dX12_wants_57 (by decide) (by omega) (fun _ => ?_) (fun z => absurd z (by omega))
      refine g_iconst (v := (nI 0)) dX12_wants_67 rfl ?_
      refine g_iret dX12_wants_68 rfl rfl ?_
      omega
  · refine g_aload_n dX12_wants_7 rfl rfl ?_
    refine g_callV (T := TX12) (NN := 19) [] (y_tokenE B L (j + 1) S (((zs_oX.rf hJ)).y hT) hJ hmp.2.1) dX12_wants_8 kk_X12_wants_X12_token ml_RX12_109 mwX12_token ewX12_token (by decide) rfl rfl rfl rfl (Nat.le_of_ble_eq_true rfl) ?_
    rintro _ S3 ⟨_, rfl, oS3, rfl, pS3, qS3, nS3⟩
    have mS3 := tx_mt4 (B := B) (L := L) (j := (j + 1))
    have zS3 := tx_nvL (j := (j + 1)) hT
    refine g_iconst (v := (nI 1)) dX12_wants_11 rfl ?_
    refine g_ic_neN 34 dX12_wants_12 (by decide) (by omega) (by omega) (fun h4 => ?_) (fun h4 => ?_)
    · refine g_iconst (v := (nI 0)) dX12_wants_34 rfl ?_
      refine g_istore_n (lv' := [(3, .int (nI 0)), (0, .ref 80), (1, .int (nI lo)), (2, .int (nI hi))]) dX12_wants_35 rfl (by decide) rfl ?_
      refine g_aload_n dX12_wants_36 rfl rfl ?_
      refine g_aload_n dX12_wants_37 rfl rfl ?_
      refine g_getV 7 (C := RX12) (T := TX12) (N := 19) (v := (nI w)) dX12_wants_38 (by decide) rfl rfl (by decide) rfl fl_RX12_105 ((oS3.2.2.2 7 (by omega)).trans hmp.1) ?_
      refine g_if_neN 48 dX12_wants_41 (by decide) (by omega) (fun h5 => ?_) (fun h5 => ?_)
      · refine g_iconst (v := (nI 1)) dX12_wants_48 rfl ?_
        refine g_goto 53 dX12_wants_49 (by decide) ?_
        refine g_putI 7 (C := RX12) (T := TX12) (N := 19) (ty := .boolean) dX12_wants_53 (by decide) rfl rfl (by decide) rfl fl_RX12_105 rfl (by decide +kernel) ⟨rfl, rfl⟩ ?_
        refine g_iload_n dX12_wants_56 rfl rfl ?_
        refine g_if_eqN 67 dX12_wants_57 (by decide) (by omega) (fun _ => ?_) (fun z => absurd z (by omega))
        refine g_iconst (v := (nI 0)) dX12_wants_67 rfl ?_
        refine g_iret dX12_wants_68 rfl rfl ?_
        omega
      · refine g_iload_n dX12_wants_44 rfl rfl ?_
        refine g_if_neN 52 dX12_wants_45 (by decide) (by omega) (fun z => absurd z (by omega)) (fun _ => ?_)
        refine g_iconst (v := (nI 1)) dX12_wants_48 rfl ?_
        refine g_goto 53 dX12_wants_49 (by decide) ?_
        refine g_putI 7 (C := RX12) (T := TX12) (N := 19) (ty := .boolean) dX12_wants_53 (by decide) rfl rfl (by decide) rfl fl_RX12_105 rfl (by decide +kernel) ⟨rfl, rfl⟩ ?_
        refine g_iload_n dX12_wants_56 rfl rfl ?_
        refine g_if_eqN 67 dX12_wants_57 (by decide) (by omega) (fun _ => ?_) (fun z => absurd z (by omega))
        refine g_iconst (v := (nI 0)) dX12_wants_67 rfl ?_
        refine g_iret dX12_wants_68 rfl rfl ?_
        exact ⟨_, rfl, (((((zs_oX.rf hJ)).tr oS3.ox)).u7 (by omega)), fun _ z => absurd ((tx_mkn hhi).mpr (tp_tn1 z)).1 (by omega), fun _ _ => ⟨⟨zs_up_q, ((zs_up_m (by omega)).trans pS3), ((zs_up_m (by omega)).trans qS3)⟩, rfl⟩, fun z => absurd z (by omega)⟩
    · skip
      refine g_aload_n dX12_wants_15 rfl rfl ?_
      refine g_getV 11 (C := RX12) (T := TX12) (N := 19) (v := (nI (tx_nv B (tx_p B L (j + 1)) (tx_q B L ((j + 1) + 1))))) dX12_wants_16 (by decide) rfl rfl (by decide) rfl fl_RX12_96 (nS3 h4) ?_
      refine g_i2l dX12_wants_19 rfl ?_
      refine g_iload_n dX12_wants_20 rfl rfl ?_
      refine g_i2l dX12_wants_21 rfl ?_
      refine g_iload_n dX12_wants_22 rfl rfl ?_
      refine g_i2l dX12_wants_23 rfl ?_
      refine g_callS [.long (Int32.toInt64 (nI (tx_nv B (tx_p B L (j + 1)) (tx_q B L ((j + 1) + 1))))), .long (Int32.toInt64 (nI lo)), .long (Int32.toInt64 (nI hi))] [] (z_inL S3 (Int32.toInt64 (nI (tx_nv B (tx_p B L (j + 1)) (tx_q B L ((j + 1) + 1))))) (Int32.toInt64 (nI lo)) (Int32.toInt64 (nI hi))) dX12_wants_24 kk_X12_wants_X12_in ml_RX12_54 swX12_in rfl rfl (Nat.le_of_ble_eq_true rfl) ?_
      rintro _ _ ⟨_, rfl, rfl, rfl⟩
      rw [propext (zs_inE3 (lo := lo) (v := tx_nv B (tx_p B L (j + 1)) (tx_q B L ((j + 1) + 1))) (hi := hi) (by omega) (by omega) (by omega))]
      refine g_if_eq 34 dX12_wants_27 (by decide) (fun h6 => ?_) (fun h6 => ?_)
      · refine g_iconst (v := (nI 0)) dX12_wants_34 rfl ?_
        refine g_istore_n (lv' := [(3, .int (nI 0)), (0, .ref 80), (1, .int (nI lo)), (2, .int (nI hi))]) dX12_wants_35 rfl (by decide) rfl ?_
        refine g_aload_n dX12_wants_36 rfl rfl ?_
        refine g_aload_n dX12_wants_37 rfl rfl ?_
        refine g_getV 7 (C := RX12) (T := TX12) (N := 19) (v := (nI w)) dX12_wants_38 (by decide) rfl rfl (by decide) rfl fl_RX12_105 ((oS3.2.2.2 7 (by omega)).trans hmp.1) ?_
        refine g_if_neN 48 dX12_wants_41 (by decide) (by omega) (fun h7 => ?_) (fun h7 => ?_)
        · refine g_iconst (v := (nI 1)) dX12_wants_48 rfl ?_
          refine g_goto 53 dX12_wants_49 (by decide) ?_
          refine g_putI 7 (C := RX12) (T := TX12) (N := 19) (ty := .boolean) dX12_wants_53 (by decide) rfl rfl (by decide) rfl fl_RX12_105 rfl (by decide +kernel) ⟨rfl, rfl⟩ ?_
          refine g_iload_n dX12_wants_56 rfl rfl ?_
          refine g_if_eqN 67 dX12_wants_57 (by decide) (by omega) (fun _ => ?_) (fun z => absurd z (by omega))
          refine g_iconst (v := (nI 0)) dX12_wants_67 rfl ?_
          refine g_iret dX12_wants_68 rfl rfl ?_
          omega
        · refine g_iload_n dX12_wants_44 rfl rfl ?_
          refine g_if_neN 52 dX12_wants_45 (by decide) (by omega) (fun z => absurd z (by omega)) (fun _ => ?_)
          refine g_iconst (v := (nI 1)) dX12_wants_48 rfl ?_
          refine g_goto 53 dX12_wants_49 (by decide) ?_
          refine g_putI 7 (C := RX12) (T := TX12) (N := 19) (ty := .boolean) dX12_wants_53 (by decide) rfl rfl (by decide) rfl fl_RX12_105 rfl (by decide +kernel) ⟨rfl, rfl⟩ ?_
          refine g_iload_n dX12_wants_56 rfl rfl ?_
          refine g_if_eqN 67 dX12_wants_57 (by decide) (by omega) (fun _ => ?_) (fun z => absurd z (by omega))
          refine g_iconst (v := (nI 0)) dX12_wants_67 rfl ?_
          refine g_iret dX12_wants_68 rfl rfl ?_
          exact ⟨_, rfl, (((((zs_oX.rf hJ)).tr oS3.ox)).u7 (by omega)), fun _ z => absurd ((tx_mkn hhi).mpr (tp_tn1 z)).2 (zs_b0 h6), fun _ _ => ⟨⟨zs_up_q, ((zs_up_m (by omega)).trans pS3), ((zs_up_m (by omega)).trans qS3)⟩, rfl⟩, fun z => absurd z (by omega)⟩
      · refine g_iconst (v := (nI 1)) dX12_wants_30 rfl ?_
        refine g_goto 35 dX12_wants_31 (by decide) ?_
        refine g_istore_n (lv' := [(3, .int (nI 1)), (0, .ref 80), (1, .int (nI lo)), (2, .int (nI hi))]) dX12_wants_35 rfl (by decide) rfl ?_
        refine g_aload_n dX12_wants_36 rfl rfl ?_
        refine g_aload_n dX12_wants_37 rfl rfl ?_
        refine g_getV 7 (C := RX12) (T := TX12) (N := 19) (v := (nI w)) dX12_wants_38 (by decide) rfl rfl (by decide) rfl fl_RX12_105 ((oS3.2.2.2 7 (by omega)).trans hmp.1) ?_
        refine g_if_neN 48 dX12_wants_41 (by decide) (by omega) (fun h8 => ?_) (fun h8 => ?_)
        · refine g_iconst (v := (nI 1)) dX12_wants_48 rfl ?_
          refine g_goto 53 dX12_wants_49 (by decide) ?_
          refine g_putI 7 (C := RX12) (T := TX12) (N := 19) (ty := .boolean) dX12_wants_53 (by decide) rfl rfl (by decide) rfl fl_RX12_105 rfl (by decide +kernel) ⟨rfl, rfl⟩ ?_
          refine g_iload_n dX12_wants_56 rfl rfl ?_
          refine g_if_eqN 67 dX12_wants_57 (by decide) (by omega) (fun z => absurd z (by omega)) (fun _ => ?_)
          refine g_aload_n dX12_wants_60 rfl rfl ?_
          refine g_getV 11 (C := RX12) (T := TX12) (N := 19) (v := (nI (tx_nv B (tx_p B L (j + 1)) (tx_q B L ((j + 1) + 1))))) dX12_wants_61 (by decide) rfl rfl (by decide) rfl fl_RX12_96 ((zs_up_m (by omega)).trans (nS3 h4)) ?_
          refine g_goto 68 dX12_wants_64 (by decide) ?_
          refine g_iret dX12_wants_68 rfl rfl ?_
          omega
        · refine g_iload_n dX12_wants_44 rfl rfl ?_
          refine g_if_neN 52 dX12_wants_45 (by decide) (by omega) (fun _ => ?_) (fun z => absurd z (by omega))
          refine g_iconst (v := (nI 0)) dX12_wants_52 rfl ?_
          refine g_putI 7 (C := RX12) (T := TX12) (N := 19) (ty := .boolean) dX12_wants_53 (by decide) rfl rfl (by decide) rfl fl_RX12_105 rfl (by decide +kernel) ⟨rfl, rfl⟩ ?_
          refine g_iload_n dX12_wants_56 rfl rfl ?_
          refine g_if_eqN 67 dX12_wants_57 (by decide) (by omega) (fun z => absurd z (by omega)) (fun _ => ?_)
          refine g_aload_n dX12_wants_60 rfl rfl ?_
          refine g_getV 11 (C := RX12) (T := TX12) (N := 19) (v := (nI (tx_nv B (tx_p B L (j + 1)) (tx_q B L ((j + 1) + 1))))) dX12_wants_61 (by decide) rfl rfl (by decide) rfl fl_RX12_96 ((zs_up_m (by omega)).trans (nS3 h4)) ?_
          refine g_goto 68 dX12_wants_64 (by decide) ?_
          refine g_iret dX12_wants_68 rfl rfl ?_
          have hin := (tx_mkn (B := B) (L := L) (j := j + 1) hhi).mp ⟨by omega, (zs_b1 h6).1, (zs_b1 h6).2⟩
          exact ⟨_, rfl, (((((zs_oX.rf hJ)).tr oS3.ox)).u7 (by omega)), fun _ _ => ⟨⟨zs_up_q, ((zs_up_m (by omega)).trans pS3), ((zs_up_m (by omega)).trans qS3)⟩, by rw [tx_nvE hin.1]⟩, fun _ z => absurd (decide_eq_true hin) z, fun z => absurd z (by omega)⟩
