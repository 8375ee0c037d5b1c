theorem y_byteAt (q : Nat) (h : q ≤ 150) : zs_U MX12_byteAt [.ref 80, .int (nI q)] zs_Ri := fun S hJ => by
  obtain ⟨L, -, hv8, hL⟩ := hJ.1 80 3 0 150 rfl
  exact (z_byteAt q L S hL hv8 h).mono (fun _ _ z => by
    obtain ⟨x, rfl, -, rfl⟩ := z
    exact ⟨⟨_, rfl⟩, hJ, zs_fm.rf⟩)
theorem zs_rfS {S : zs_S} : zs_fm2 S S := fun _ _ _ => ⟨rfl, rfl⟩
set_option maxRecDepth 100000 in
theorem z_word_l (S : zs_S) (q L : Nat) (hq : S.1 80 5 = nI q) (hL : S.1 80 3 = nI L) (hq1 : q ≤ 150) (hv8 : L ≤ 150) : ∀ (d i : Nat), i + d = 151 → ∀ v : Int64, zs_P MX12_word 7 [(3, .int (nI i)), (1, .long v), (0, .ref 80)] [] S (fun r S2 => ∃ x, r = some (.long x) ∧ S = S2) := by
  intro d
  induction d with
  | zero =>
    intro i hi v
    refine g_iload_n dX12_word_7 rfl rfl ?_
    refine g_aload_n dX12_word_8 rfl rfl ?_
    refine g_getV 5 (C := RX12) (T := TX12) (N := 19) (v := (nI q)) dX12_word_9 (by decide) rfl rfl (by decide) rfl fl_RX12_79 hq ?_
    refine g_ic_geN 50 dX12_word_12 (by decide) (by omega) (by omega) (fun _ => ?_) (fun z => absurd z (by omega))
    refine g_lload_n dX12_word_50 rfl rfl ?_
    refine g_lret dX12_word_51 rfl ?_
    exact ⟨_, rfl, rfl⟩
  | succ d ih =>
    intro i hi v
    refine g_iload_n dX12_word_7 rfl rfl ?_
    refine g_aload_n dX12_word_8 rfl rfl ?_
    refine g_getV 5 (C := RX12) (T := TX12) (N := 19) (v := (nI q)) dX12_word_9 (by decide) rfl rfl (by decide) rfl fl_RX12_79 hq ?_
    refine g_ic_geN 50 dX12_word_12 (by decide) (by omega) (by omega) (fun h1 => ?_) (fun h1 => ?_)
    · refine g_lload_n dX12_word_50 rfl rfl ?_
      refine g_lret dX12_word_51 rfl ?_
      exact ⟨_, rfl, rfl⟩
    · refine g_lload_n dX12_word_15 rfl rfl ?_
      refine g_ldc2 (v := 1000000000) dX12_word_16 cl_RX12_99 ?_
      refine g_lcmp dX12_word_19 ?_
      refine g_if_le 27 dX12_word_20 (by decide) (fun h2 => ?_) (fun h2 => ?_)
      · refine g_ldc2 (v := 32) dX12_word_27 cl_RX12_101 ?_
        refine g_lload_n dX12_word_30 rfl rfl ?_
        refine g_lmul dX12_word_31 ?_
        refine g_aload_n dX12_word_32 rfl rfl ?_
        refine g_iload_n dX12_word_33 rfl rfl ?_
        refine g_callV (T := TX12) (NN := 19) [.long (32 * v)] (z_byteAt i L S hL hv8 (by omega)) dX12_word_34 kk_X12_word_X12_byteAt ml_RX12_82 mwX12_byteAt ewX12_byteAt (by decide) rfl rfl rfl rfl (Nat.le_of_ble_eq_true rfl) ?_
        rintro _ _ ⟨x3, rfl, bx3, rfl⟩
        refine g_i2l dX12_word_37 rfl ?_
        refine g_ladd dX12_word_38 ?_
        refine g_ldc2 (v := 96) dX12_word_39 cl_RX12_103 ?_
        refine g_lsub dX12_word_42 ?_
        refine g_lstore_n (lv' := [(1, .long (((32 * v) + (Int32.toInt64 x3)) - 96)), (3, .int (nI i)), (0, .ref 80)]) dX12_word_43 rfl (by decide) rfl ?_
        refine g_iinc (v := (nI (i + 1))) (lv' := [(3, .int (nI (i + 1))), (1, .long (((32 * v) + (Int32.toInt64 x3)) - 96)), (0, .ref 80)]) dX12_word_44 rfl (nI_1 i) (by decide) rfl ?_
        refine g_goto 7 dX12_word_47 (by decide) ?_
        exact (ih (i + 1) (by omega) _).lv (zs_mc 0 rfl (zs_mc 1 rfl (zs_mc 2 rfl zs_mn)))
      · refine g_lload_n dX12_word_23 rfl rfl ?_
        refine g_goto 43 dX12_word_24 (by decide) ?_
        refine g_lstore_n (lv' := [(1, .long v), (3, .int (nI i)), (0, .ref 80)]) dX12_word_43 rfl (by decide) rfl ?_
        refine g_iinc (v := (nI (i + 1))) (lv' := [(3, .int (nI (i + 1))), (1, .long v), (0, .ref 80)]) dX12_word_44 rfl (nI_1 i) (by decide) rfl ?_
        refine g_goto 7 dX12_word_47 (by decide) ?_
        exact (ih (i + 1) (by omega) _).lv (zs_mc 0 rfl (zs_mc 1 rfl (zs_mc 2 rfl zs_mn)))
theorem y_word (S : zs_S) (hJ : zs_J S) : zs_Cl MX12_word [.ref 80] S (fun x S2 => S = S2) := by
  obtain ⟨L, -, hv8, hL⟩ := hJ.1 80 3 0 150 rfl
  obtain ⟨q, -, hq1, hq⟩ := hJ.1 80 5 0 150 rfl
  obtain ⟨p, -, hp1, hp⟩ := hJ.1 80 6 0 150 rfl
  refine zs_C.of (by decide) (Nat.le_of_ble_eq_true rfl) ?_
  show zs_P MX12_word 0 [(0, .ref 80)] [] S _
  refine g_lconst (v := 0) dX12_word_0 (by decide) ?_
  refine g_lstore_n (lv' := [(1, .long 0), (0, .ref 80)]) dX12_word_1 rfl (by decide) rfl ?_
  refine g_aload_n dX12_word_2 rfl rfl ?_
  refine g_getV 6 (C := RX12) (T := TX12) (N := 19) (v := (nI p)) dX12_word_3 (by decide) rfl rfl (by decide) rfl fl_RX12_85 hp ?_
  refine g_istore_n (lv' := [(3, .int (nI p)), (1, .long 0), (0, .ref 80)]) dX12_word_6 rfl (by decide) rfl ?_
  exact (z_word_l S q L hq hL hq1 hv8 (151 - p) p (by omega) _).lv (zs_mc 0 rfl (zs_mc 1 rfl (zs_mc 2 rfl zs_mn)))
def zs_oW (S0 S : zs_S) : Prop := zs_J S ∧ zs_fm S0 S ∧ (∀ b, b ≠ 80 → S.1 b = S0.1 b) ∧ (∀ j, (j = 3 ∨ j = 8 ∨ j = 9 ∨ j = 10) → S.1 80 j = S0.1 80 j) ∧ ∃ q0 q, q0 ≤ 150 ∧ q ≤ 150 ∧ S0.1 80 5 = nI q0 ∧ S.1 80 5 = nI q ∧ q0 ≤ q
theorem zs_oW.rf {S : zs_S} (hJ : zs_J S) : zs_oW S S := by
  obtain ⟨q, -, hq1, hq⟩ := hJ.1 80 5 0 150 rfl
  exact ⟨hJ, zs_fm.rf, fun _ _ => rfl, fun _ _ => rfl, q, q, hq1, hq1, hq, hq, Nat.le_refl _⟩
theorem zs_oW.tr {S S1 S2 : zs_S} (h : zs_oW S S1) (k : zs_oW S1 S2) : zs_oW S S2 := by
  obtain ⟨a1, a2, a3, a4, q0, q1, a5, a6, a7, a8, a9⟩ := h
  obtain ⟨b1, b2, b3, b4, q2, q3, b5, b6, b7, b8, b9⟩ := k
  have e := (nI_eq (by omega) (by omega)).mp (a8.symm.trans b7)
  exact ⟨b1, a2.tr b2, fun b hb => (b3 b hb).trans (a3 b hb), fun j hj => (b4 j hj).trans (a4 j hj), q0, q3, a5, b6, a7, b8, by omega⟩
theorem zs_oT.w {S0 S : zs_S} {q0 q : Nat} (h : zs_oT S0 S) (h0 : S0.1 80 5 = nI q0) (h1 : q0 ≤ 150) (h2 : S.1 80 5 = nI q) (h3 : q ≤ 150) (h4 : q0 ≤ q) : zs_oW S0 S := ⟨h.1, h.2.1, h.2.2.1, fun j hj => h.2.2.2 j (by omega), q0, q, h1, h3, h0, h2, h4⟩
theorem zs_oW.up {S0 S : zs_S} {k : Nat} (h : zs_oW S0 S) (hk : k ≤ 1) : zs_oW S0 (zs_up S.1 80 7 (nI k), S.2) := by
  obtain ⟨a1, a2, a3, a4, q0, q1, a5, a6, a7, a8, a9⟩ := h
  exact ⟨a1.up (zs_okR rfl (Nat.zero_le _) hk (by decide) (by decide)), a2.tr (zs_fm.up rfl), fun b hb => (zs_uo (f := S.1) (a := 80) (j := 7) (v := nI k) (b := b) hb).trans (a3 b hb), fun j hj => (zs_up_m (by omega)).trans (a4 j hj), q0, q1, a5, a6, a7, (zs_up_m (by omega)).trans a8, a9⟩
theorem zs_inL2 {v : Int32} {lo hi : Nat} (h : (nI lo).toInt64 ≤ v.toInt64 ∧ v.toInt64 ≤ (nI hi).toInt64) (h1 : lo < 2 ^ 31) (h2 : hi < 2 ^ 31) : ∃ k : Nat, lo ≤ k ∧ k ≤ hi ∧ v = nI k := by
  rw [nI_l h1, nI_l h2] at h
  exact zs_inR h h1 h2
set_option maxRecDepth 100000 in
theorem y_wants (lo hi : Nat) (h8 : lo ≤ 100) (h9 : hi ≤ 100) (S : zs_S) (hJ : zs_J S) : zs_Ci MX12_wants [.ref 80, .int (nI lo), .int (nI hi)] S (fun x S2 => zs_oW S S2 ∧ ∃ r, r ≤ hi ∧ x = nI r ∧ (S2.1 80 7 = nI 0 → lo ≤ r ∧ S.1 80 7 = nI 0)) := by
  obtain ⟨w, -, hw1, hw⟩ := hJ.1 80 7 0 1 rfl
  obtain ⟨q0, -, hq1, hq0⟩ := hJ.1 80 5 0 150 rfl
  refine zs_C.of (by decide) (Nat.le_of_ble_eq_true rfl) ?_
  show zs_P MX12_wants 0 [(0, .ref 80), (1, .int (nI lo)), (2, .int (nI hi))] [] S _
  refine g_aload_n dX12_wants_0 rfl rfl ?_
  refine g_getV 7 (C := RX12) (T := TX12) (N := 19) (v := (nI w)) dX12_wants_1 (by decide) rfl rfl (by decide) rfl fl_RX12_105 hw ?_
  refine g_if_neN 34 dX12_wants_4 (by decide) (by omega) (fun h1 => ?_) (fun h1 => ?_)
  · refine g_iconst (v := (nI 0)) dX12_wants_34 rfl ?_
    refine g_istore_n (lv' := [(3, .int (nI 0)), (0, .ref 80), (1, .int (nI lo)), (2, .int (nI hi))]) dX12_wants_35 rfl (by decide) rfl ?_
    refine g_aload_n dX12_wants_36 rfl rfl ?_
    refine g_aload_n dX12_wants_37 rfl rfl ?_
    refine g_getV 7 (C := RX12) (T := TX12) (N := 19) (v := (nI w)) dX12_wants_38 (by decide) rfl rfl (by decide) rfl fl_RX12_105 hw ?_
    refine g_if_neN 48 dX12_wants_41 (by decide) (by omega) (fun h2 => ?_) (fun h2 => ?_)
    · refine g_iconst (v := (nI 1)) dX12_wants_48 rfl ?_
      refine g_goto 53 dX12_wants_49 (by decide) ?_
      refine g_putI 7 (C := RX12) (T := TX12) (N := 19) (ty := .boolean) dX12_wants_53 (by decide) rfl rfl (by decide) rfl fl_RX12_105 rfl (by decide +kernel) ⟨rfl, rfl⟩ ?_
      refine g_iload_n dX12_wants_56 rfl rfl ?_
      refine g_if_eqN 67 dX12_wants_57 (by decide) (by omega) (fun _ => ?_) (fun z => absurd z (by omega))
      refine g_iconst (v := (nI 0)) dX12_wants_67 rfl ?_
      refine g_iret dX12_wants_68 rfl rfl ?_
      exact ⟨_, rfl, (((zs_oW.rf hJ)).up (by omega)), 0, by omega, rfl, fun z => absurd (zs_up_q.symm.trans z) (by decide)⟩
    · refine g_iload_n dX12_wants_44 rfl rfl ?_
      refine g_if_neN 52 dX12_wants_45 (by decide) (by omega) (fun z => absurd z (by omega)) (fun _ => ?_)
      refine g_iconst (v := (nI 1)) dX12_wants_48 rfl ?_
      refine g_goto 53 dX12_wants_49 (by decide) ?_
      refine g_putI 7 (C := RX12) (T := TX12) (N := 19) (ty := .boolean) dX12_wants_53 (by decide) rfl rfl (by decide) rfl fl_RX12_105 rfl (by decide +kernel) ⟨rfl, rfl⟩ ?_
      refine g_iload_n dX12_wants_56 rfl rfl ?_
      refine g_if_eqN 67 dX12_wants_57 (by decide) (by omega) (fun _ => ?_) (fun z => absurd z (by omega))
      refine g_iconst (v := (nI 0)) dX12_wants_67 rfl ?_
      refine g_iret dX12_wants_68 rfl rfl ?_
      exact ⟨_, rfl, (((zs_oW.rf hJ)).up (by omega)), 0, by omega, rfl, fun z => absurd (zs_up_q.symm.trans z) (by decide)⟩
  · refine g_aload_n dX12_wants_7 rfl rfl ?_
    refine g_callV (T := TX12) (NN := 19) [] (y_token q0 S hJ hq0 (by omega)) dX12_wants_8 kk_X12_wants_X12_token ml_RX12_109 mwX12_token ewX12_token (by decide) rfl rfl rfl rfl (Nat.le_of_ble_eq_true rfl) ?_
    rintro _ S3 ⟨_, rfl, oS3, t4, qS3, lS3, rfl, eS3, kS3, mS3, nS3⟩
    refine g_iconst (v := (nI 1)) dX12_wants_11 rfl ?_
    refine g_ic_neN 34 dX12_wants_12 (by decide) (by omega) (by omega) (fun h5 => ?_) (fun h5 => ?_)
    · refine g_iconst (v := (nI 0)) dX12_wants_34 rfl ?_
      refine g_istore_n (lv' := [(3, .int (nI 0)), (0, .ref 80), (1, .int (nI lo)), (2, .int (nI hi))]) dX12_wants_35 rfl (by decide) rfl ?_
      refine g_aload_n dX12_wants_36 rfl rfl ?_
      refine g_aload_n dX12_wants_37 rfl rfl ?_
      refine g_getV 7 (C := RX12) (T := TX12) (N := 19) (v := (nI w)) dX12_wants_38 (by decide) rfl rfl (by decide) rfl fl_RX12_105 ((oS3.2.2.2 7 (by omega)).trans hw) ?_
      refine g_if_neN 48 dX12_wants_41 (by decide) (by omega) (fun h6 => ?_) (fun h6 => ?_)
      · refine g_iconst (v := (nI 1)) dX12_wants_48 rfl ?_
        refine g_goto 53 dX12_wants_49 (by decide) ?_
        refine g_putI 7 (C := RX12) (T := TX12) (N := 19) (ty := .boolean) dX12_wants_53 (by decide) rfl rfl (by decide) rfl fl_RX12_105 rfl (by decide +kernel) ⟨rfl, rfl⟩ ?_
        refine g_iload_n dX12_wants_56 rfl rfl ?_
        refine g_if_eqN 67 dX12_wants_57 (by decide) (by omega) (fun _ => ?_) (fun z => absurd z (by omega))
        refine g_iconst (v := (nI 0)) dX12_wants_67 rfl ?_
        refine g_iret dX12_wants_68 rfl rfl ?_
        exact ⟨_, rfl, (((((zs_oW.rf hJ)).tr (oS3.w hq0 (by omega) eS3 (by omega) (by omega)))).up (by omega)), 0, by omega, rfl, fun z => absurd (zs_up_q.symm.trans z) (by decide)⟩
      · refine g_iload_n dX12_wants_44 rfl rfl ?_
        refine g_if_neN 52 dX12_wants_45 (by decide) (by omega) (fun z => absurd z (by omega)) (fun _ => ?_)
        refine g_iconst (v := (nI 1)) dX12_wants_48 rfl ?_
        refine g_goto 53 dX12_wants_49 (by decide) ?_
        refine g_putI 7 (C := RX12) (T := TX12) (N := 19) (ty := .boolean) dX12_wants_53 (by decide) rfl rfl (by decide) rfl fl_RX12_105 rfl (by decide +kernel) ⟨rfl, rfl⟩ ?_
        refine g_iload_n dX12_wants_56 rfl rfl ?_
        refine g_if_eqN 67 dX12_wants_57 (by decide) (by omega) (fun _ => ?_) (fun z => absurd z (by omega))
        refine g_iconst (v := (nI 0)) dX12_wants_67 rfl ?_
        refine g_iret dX12_wants_68 rfl rfl ?_
        exact ⟨_, rfl, (((((zs_oW.rf hJ)).tr (oS3.w hq0 (by omega) eS3 (by omega) (by omega)))).up (by omega)), 0, by omega, rfl, fun z => absurd (zs_up_q.symm.trans z) (by decide)⟩
    · refine g_aload_n dX12_wants_15 rfl rfl ?_
      refine g_getI 11 (C := RX12) (T := TX12) (N := 19) dX12_wants_16 (by decide) rfl rfl (by decide) rfl fl_RX12_96 ?_
      refine g_i2l dX12_wants_19 rfl ?_
      refine g_iload_n dX12_wants_20 rfl rfl ?_
      refine g_i2l dX12_wants_21 rfl ?_
      refine g_iload_n dX12_wants_22 rfl rfl ?_
      refine g_i2l dX12_wants_23 rfl ?_
      refine g_callS [.long (Int32.toInt64 (S3.1 80 11)), .long (Int32.toInt64 (nI lo)), .long (Int32.toInt64 (nI hi))] [] (z_inL S3 (Int32.toInt64 (S3.1 80 11)) (Int32.toInt64 (nI lo)) (Int32.toInt64 (nI hi))) dX12_wants_24 kk_X12_wants_X12_in ml_RX12_54 swX12_in rfl rfl (Nat.le_of_ble_eq_true rfl) ?_
      rintro _ _ ⟨_, rfl, rfl, rfl⟩
      refine g_if_eq 34 dX12_wants_27 (by decide) (fun h7 => ?_) (fun h7 => ?_)
      · have h7 := zs_b0 h7
        refine g_iconst (v := (nI 0)) dX12_wants_34 rfl ?_
        refine g_istore_n (lv' := [(3, .int (nI 0)), (0, .ref 80), (1, .int (nI lo)), (2, .int (nI hi))]) dX12_wants_35 rfl (by decide) rfl ?_
        refine g_aload_n dX12_wants_36 rfl rfl ?_
        refine g_aload_n dX12_wants_37 rfl rfl ?_
        refine g_getV 7 (C := RX12) (T := TX12) (N := 19) (v := (nI w)) dX12_wants_38 (by decide) rfl rfl (by decide) rfl fl_RX12_105 ((oS3.2.2.2 7 (by omega)).trans hw) ?_
        refine g_if_neN 48 dX12_wants_41 (by decide) (by omega) (fun h8 => ?_) (fun h8 => ?_)
        · refine g_iconst (v := (nI 1)) dX12_wants_48 rfl ?_
          refine g_goto 53 dX12_wants_49 (by decide) ?_
          refine g_putI 7 (C := RX12) (T := TX12) (N := 19) (ty := .boolean) dX12_wants_53 (by decide) rfl rfl (by decide) rfl fl_RX12_105 rfl (by decide +kernel) ⟨rfl, rfl⟩ ?_
          refine g_iload_n dX12_wants_56 rfl rfl ?_
          refine g_if_eqN 67 dX12_wants_57 (by decide) (by omega) (fun _ => ?_) (fun z => absurd z (by omega))
          refine g_iconst (v := (nI 0)) dX12_wants_67 rfl ?_
          refine g_iret dX12_wants_68 rfl rfl ?_
          exact ⟨_, rfl, (((((zs_oW.rf hJ)).tr (oS3.w hq0 (by omega) eS3 (by omega) (by omega)))).up (by omega)), 0, by omega, rfl, fun z => absurd (zs_up_q.symm.trans z) (by decide)⟩
        · refine g_iload_n dX12_wants_44 rfl rfl ?_
          refine g_if_neN 52 dX12_wants_45 (by decide) (by omega) (fun z => absurd z (by omega)) (fun _ => ?_)
          refine g_iconst (v := (nI 1)) dX12_wants_48 rfl ?_
          refine g_goto 53 dX12_wants_49 (by decide) ?_
          refine g_putI 7 (C := RX12) (T := TX12) (N := 19) (ty := .boolean) dX12_wants_53 (by decide) rfl rfl (by decide) rfl fl_RX12_105 rfl (by decide +kernel) ⟨rfl, rfl⟩ ?_
          refine g_iload_n dX12_wants_56 rfl rfl ?_
          refine g_if_eqN 67 dX12_wants_57 (by decide) (by omega) (fun _ => ?_) (fun z => absurd z (by omega))
          refine g_iconst (v := (nI 0)) dX12_wants_67 rfl ?_
          refine g_iret dX12_wants_68 rfl rfl ?_
          exact ⟨_, rfl, (((((zs_oW.rf hJ)).tr (oS3.w hq0 (by omega) eS3 (by omega) (by omega)))).up (by omega)), 0, by omega, rfl, fun z => absurd (zs_up_q.symm.trans z) (by decide)⟩
      · have h7 := zs_b1 h7
        refine g_iconst (v := (nI 1)) dX12_wants_30 rfl ?_
        refine g_goto 35 dX12_wants_31 (by decide) ?_
        refine g_istore_n (lv' := [(3, .int (nI 1)), (0, .ref 80), (1, .int (nI lo)), (2, .int (nI hi))]) dX12_wants_35 rfl (by decide) rfl ?_
        refine g_aload_n dX12_wants_36 rfl rfl ?_
        refine g_aload_n dX12_wants_37 rfl rfl ?_
        refine g_getV 7 (C := RX12) (T := TX12) (N := 19) (v := (nI w)) dX12_wants_38 (by decide) rfl rfl (by decide) rfl fl_RX12_105 ((oS3.2.2.2 7 (by omega)).trans hw) ?_
        refine g_if_neN 48 dX12_wants_41 (by decide) (by omega) (fun h9 => ?_) (fun h9 => ?_)
        · refine g_iconst (v := (nI 1)) dX12_wants_48 rfl ?_
          refine g_goto 53 dX12_wants_49 (by decide) ?_
          refine g_putI 7 (C := RX12) (T := TX12) (N := 19) (ty := .boolean) dX12_wants_53 (by decide) rfl rfl (by decide) rfl fl_RX12_105 rfl (by decide +kernel) ⟨rfl, rfl⟩ ?_
          refine g_iload_n dX12_wants_56 rfl rfl ?_
          refine g_if_eqN 67 dX12_wants_57 (by decide) (by omega) (fun z => absurd z (by omega)) (fun _ => ?_)
          refine g_aload_n dX12_wants_60 rfl rfl ?_
          refine g_getI 11 (C := RX12) (T := TX12) (N := 19) dX12_wants_61 (by decide) rfl rfl (by decide) rfl fl_RX12_96 ?_
          refine g_goto 68 dX12_wants_64 (by decide) ?_
          refine g_iret dX12_wants_68 rfl rfl ?_
          obtain ⟨r, hr1, hr2, hr3⟩ := zs_inL2 h7 (by omega) (by omega)
          exact ⟨_, rfl, (((((zs_oW.rf hJ)).tr (oS3.w hq0 (by omega) eS3 (by omega) (by omega)))).up (by omega)), r, hr2, (zs_up_m (by omega)).trans hr3, fun _ => ⟨hr1, by rw [hw, show w = 0 by omega]⟩⟩
        · refine g_iload_n dX12_wants_44 rfl rfl ?_
          refine g_if_neN 52 dX12_wants_45 (by decide) (by omega) (fun _ => ?_) (fun z => absurd z (by omega))
          refine g_iconst (v := (nI 0)) dX12_wants_52 rfl ?_
          refine g_putI 7 (C := RX12) (T := TX12) (N := 19) (ty := .boolean) dX12_wants_53 (by decide) rfl rfl (by decide) rfl fl_RX12_105 rfl (by decide +kernel) ⟨rfl, rfl⟩ ?_
          refine g_iload_n dX12_wants_56 rfl rfl ?_
          refine g_if_eqN 67 dX12_wants_57 (by decide) (by omega) (fun z => absurd z (by omega)) (fun _ => ?_)
          refine g_aload_n dX12_wants_60 rfl rfl ?_
          refine g_getI 11 (C := RX12) (T := TX12) (N := 19) dX12_wants_61 (by decide) rfl rfl (by decide) rfl fl_RX12_96 ?_
          refine g_goto 68 dX12_wants_64 (by decide) ?_
          refine g_iret dX12_wants_68 rfl rfl ?_
          obtain ⟨r, hr1, hr2, hr3⟩ := zs_inL2 h7 (by omega) (by omega)
          exact ⟨_, rfl, (((((zs_oW.rf hJ)).tr (oS3.w hq0 (by omega) eS3 (by omega) (by omega)))).up (by omega)), r, hr2, (zs_up_m (by omega)).trans hr3, fun _ => ⟨hr1, by rw [hw, show w = 0 by omega]⟩⟩
