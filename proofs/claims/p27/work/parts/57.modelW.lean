theorem zs_pmW {b i : Nat} (h : zs_pm b i = true) : zs_pm_W b i = true := by
  simp only [zs_pm, zs_pm_W, Bool.or_eq_true, Bool.and_eq_true, Nat.ble_eq, Nat.beq_eq] at h ⊢
  omega
theorem zs_fm_W.n {S S2 : zs_S} (h : zs_fm_W S S2) : zs_fm S S2 := fun b i hb => h b i (zs_pmW hb)
/-- what is told beside stays, but where P says -/
def zs_mk (P : Nat → Prop) (S S2 : zs_S) : Prop := ∀ i, i % 66 ≠ 65 → ¬ P i → S2.1 82 i = S.1 82 i
theorem zs_fm_W.m {P : Nat → Prop} {S S2 : zs_S} (h : zs_fm_W S S2) : zs_mk P S S2 := fun i hi _ => (h 82 i (by
  unfold zs_pm_W
  rw [show Nat.ble (i % 66) 64 = true from Nat.ble_eq_true_of_le (by omega)]; rfl)).1
theorem zs_mk.e {P : Nat → Prop} {S S2 : zs_S} (h : S2.1 82 = S.1 82) : zs_mk P S S2 := fun i _ _ => by rw [h]
def zs_N0 : Nat → Prop := fun _ => False
theorem z_isEye (S : zs_S) (v : Int32) : zs_Ci MX12_isEye [.ref 80, .int v] S (fun x S2 => x = zs_b (nI 0 ≤ v ∧ v ≤ S.1 82 2 - nI 1) ∧ S = S2) := by
  refine zs_C.of (by decide) (Nat.le_of_ble_eq_true rfl) ?_
  show zs_P MX12_isEye 0 [(0, .ref 80), (1, .int v)] [] S _
  refine g_iload_n dX12_isEye_0 rfl rfl ?_
  refine g_i2l dX12_isEye_1 rfl ?_
  refine g_lconst (v := 0) dX12_isEye_2 (by decide) ?_
  refine g_aload_n dX12_isEye_3 rfl rfl ?_
  refine g_getR 1 (82) (C := RX12) (T := TX12) (N := 19) dX12_isEye_4 (by decide) rfl rfl (by decide) rfl fl_RX12_13 ?_
  refine g_iconst (v := (nI 2)) dX12_isEye_7 rfl ?_
  refine g_ialdN (v := (S.1 82 2)) dX12_isEye_8 (by decide) rfl (by omega) (by decide) rfl ?_
  refine g_iconst (v := (nI 1)) dX12_isEye_9 rfl ?_
  refine g_isub dX12_isEye_10 ?_
  refine g_i2l dX12_isEye_11 rfl ?_
  refine g_callS [.long (Int32.toInt64 v), .long 0, .long (Int32.toInt64 ((S.1 82 2) - (nI 1)))] [] (z_inL S (Int32.toInt64 v) 0 (Int32.toInt64 ((S.1 82 2) - (nI 1)))) dX12_isEye_12 kk_X12_isEye_X12_in ml_RX12_54 swX12_in rfl rfl (Nat.le_of_ble_eq_true rfl) ?_
  rintro _ _ ⟨_, rfl, rfl, rfl⟩
  refine g_iret dX12_isEye_15 rfl zs_bn ?_
  refine ⟨_, rfl, congrArg zs_b ?_, rfl⟩
  rw [Int64.le_iff_toInt_le, Int64.le_iff_toInt_le, Int32.le_iff_toInt_le, Int32.le_iff_toInt_le, Int32.toInt_toInt64, Int32.toInt_toInt64]
  rfl
theorem g_aldT2 {M : zs_M} {pc : Nat} {lv : List (Nat × Value)} {st : List Value} {S : zs_S} {Q : Option Value → zs_S → Prop} {i j : Nat} (hJ : zs_J S) (hd : decode M.2.1 pc = .ok (.iaload, 1)) (hi : i < 198) (hj : i % 66 = j % 66) (h0 : j % 66 ≠ 0) (k : zs_ok 82 j (S.1 82 i) → zs_P M (pc + 1) lv (.int (S.1 82 i) :: st) S Q) : zs_P M pc lv (.int (nI i) :: .ref 82 :: st) S Q := g_ialdN (v := S.1 82 i) hd (by decide) rfl hi (by decide) rfl (k ⟨fun lo up hr => hJ.1 82 i lo up ((zs_rgt hj (by omega) (by omega)).trans hr), fun _ => by omega, by decide⟩)
def zs_oD (S0 S : zs_S) (f g m i : Nat) : Prop := zs_oC S0 S g m ∧ (∀ k, k < i → S.1 82 (g + k) = S0.1 82 (f + k)) ∧ ∀ k, (k < g ∨ g + i ≤ k) → S.1 82 k = S0.1 82 k
theorem zs_oD.st {S0 S : zs_S} {f g m i : Nat} (h : zs_oD S0 S f g m i) (h1 : 1 ≤ i) (hi : i < 66) (hfg : f + 66 ≤ g ∨ g + 66 ≤ f) (hv : zs_ok 82 (g + i) (S.1 82 (f + i))) : zs_oD S0 (zs_up S.1 82 (g + i) (S.1 82 (f + i)), S.2) f g m (i + 1) := by
  refine ⟨⟨h.1.1.up hv, h.1.2.1.tr (zs_fm.up rfl), (zs_up_m (by omega)).trans h.1.2.2⟩, fun k hk => ?_, fun k hk => (zs_up_m (by omega)).trans (h.2.2 k (by omega))⟩
  by_cases e : k = i
  · subst e; exact zs_up_s.trans (h.2.2 (f + k) (by omega))
  · exact (zs_up_m (by omega)).trans (h.2.1 k (by omega))
theorem zs_oD.s0 {S0 S : zs_S} {f g m : Nat} (h : zs_oS S0 S) (h0 : S0.1 82 f = nI m) (hg : g = 0 ∨ g = 66 ∨ g = 132) (h1 : 1 ≤ m) (h2 : m ≤ 12) : zs_oD S0 (zs_up S.1 82 (g + 0) (nI m), S.2) f g m 1 := by
  refine ⟨⟨h.1.upF hg h1 h2, h.2.1.tr (zs_fm.up rfl), zs_up_q⟩, fun k hk => ?_, fun k hk => (zs_up_m (by omega)).trans (by rw [h.2.2.1])⟩
  obtain rfl : k = 0 := by omega
  exact zs_up_s.trans h0.symm
theorem q_badW (S : zs_S) (hJ : zs_J S) : zs_Ci MX12_bad [.ref 80] S (fun x S2 => x = (-2) ∧ zs_J S2 ∧ zs_fm_W S S2) := by
  refine zs_C.of (by decide) (Nat.le_of_ble_eq_true rfl) ?_
  show zs_P MX12_bad 0 [(0, .ref 80)] [] S _
  refine g_aload_n dX12_bad_0 rfl rfl ?_
  refine g_getR 14 (85) (C := RX12) (T := TX12) (N := 19) dX12_bad_1 (by decide) rfl rfl (by decide) rfl fl_RX12_27 ?_
  refine g_iconst (v := (nI 0)) dX12_bad_4 rfl ?_
  refine g_dup2 dX12_bad_5 rfl rfl ?_
  refine g_ialdN (v := (S.1 85 0)) dX12_bad_6 (by decide) rfl (by omega) (by decide) rfl ?_
  refine g_iconst (v := (nI 1)) dX12_bad_7 rfl ?_
  refine g_iadd dX12_bad_8 ?_
  refine g_iastN dX12_bad_9 (by decide) rfl (by omega) (by decide) ?_
  refine g_bipush (v := (-2)) dX12_bad_10 rfl ?_
  refine g_iret dX12_bad_12 rfl rfl ?_
  exact ⟨_, rfl, rfl, ((hJ).up (zs_okN rfl (by decide) (by decide))), ((zs_fm_W.rf).tr (zs_fm_W.up rfl))⟩
theorem q_noW (S : zs_S) (hJ : zs_J S) : zs_Ci MX12_no [.ref 80] S (fun x S2 => x = (-3) ∧ zs_J S2 ∧ zs_fm_W S S2) := by
  refine zs_C.of (by decide) (Nat.le_of_ble_eq_true rfl) ?_
  show zs_P MX12_no 0 [(0, .ref 80)] [] S _
  refine g_aload_n dX12_no_0 rfl rfl ?_
  refine g_getR 14 (85) (C := RX12) (T := TX12) (N := 19) dX12_no_1 (by decide) rfl rfl (by decide) rfl fl_RX12_27 ?_
  refine g_iconst (v := (nI 1)) dX12_no_4 rfl ?_
  refine g_dup2 dX12_no_5 rfl rfl ?_
  refine g_ialdN (v := (S.1 85 1)) dX12_no_6 (by decide) rfl (by omega) (by decide) rfl ?_
  refine g_iconst (v := (nI 1)) dX12_no_7 rfl ?_
  refine g_iadd dX12_no_8 ?_
  refine g_iastN dX12_no_9 (by decide) rfl (by omega) (by decide) ?_
  refine g_bipush (v := (-3)) dX12_no_10 rfl ?_
  refine g_iret dX12_no_12 rfl rfl ?_
  exact ⟨_, rfl, rfl, ((hJ).up (zs_okN rfl (by decide) (by decide))), ((zs_fm_W.rf).tr (zs_fm_W.up rfl))⟩
theorem q_fullW (S : zs_S) (hJ : zs_J S) : zs_Ci MX12_full [.ref 80] S (fun x S2 => x = (-4) ∧ zs_J S2 ∧ zs_fm_W S S2) := by
  refine zs_C.of (by decide) (Nat.le_of_ble_eq_true rfl) ?_
  show zs_P MX12_full 0 [(0, .ref 80)] [] S _
  refine g_aload_n dX12_full_0 rfl rfl ?_
  refine g_getR 14 (85) (C := RX12) (T := TX12) (N := 19) dX12_full_1 (by decide) rfl rfl (by decide) rfl fl_RX12_27 ?_
  refine g_iconst (v := (nI 2)) dX12_full_4 rfl ?_
  refine g_dup2 dX12_full_5 rfl rfl ?_
  refine g_ialdN (v := (S.1 85 2)) dX12_full_6 (by decide) rfl (by omega) (by decide) rfl ?_
  refine g_iconst (v := (nI 1)) dX12_full_7 rfl ?_
  refine g_iadd dX12_full_8 ?_
  refine g_iastN dX12_full_9 (by decide) rfl (by omega) (by decide) ?_
  refine g_bipush (v := (-4)) dX12_full_10 rfl ?_
  refine g_iret dX12_full_12 rfl rfl ?_
  exact ⟨_, rfl, rfl, ((hJ).up (zs_okN rfl (by decide) (by decide))), ((zs_fm_W.rf).tr (zs_fm_W.up rfl))⟩
set_option maxRecDepth 100000 in
theorem y_drumW (n : Int32) (k : Int32) (t : Int32) (S : zs_S) (hJ : zs_J S) : zs_Ci MX12_drum [.ref 80, .int n, .int k, .int t] S (fun x S2 => zs_J S2 ∧ zs_fm S S2 ∧ zs_mk (fun i => i < 66) S S2 ∧ ((zs_q 2 12 n && (zs_q 0 5 k && (zs_q 0 11 t))) = false → x = (-2) ∧ zs_mk zs_N0 S S2) ∧ ((zs_q 2 12 n && (zs_q 0 5 k && (zs_q 0 11 t))) = true → x = S.1 82 2 ∧ S2.1 82 0 = n ∧ S2.1 82 1 = k ∧ S2.1 82 2 = nI 0 ∧ zs_zm S2)) := by
  refine zs_C.of (by decide) (Nat.le_of_ble_eq_true rfl) ?_
  show zs_P MX12_drum 0 [(0, .ref 80), (1, .int n), (2, .int k), (3, .int t)] [] S _
  refine g_iload_n dX12_drum_0 rfl rfl ?_
  refine g_i2l dX12_drum_1 rfl ?_
  refine g_ldc2 (v := 2) dX12_drum_2 cl_RX12_50 ?_
  refine g_ldc2 (v := 12) dX12_drum_5 cl_RX12_52 ?_
  refine g_callS [.long (Int32.toInt64 n), .long 2, .long 12] [] (z_in S n 2 12 (by decide) (by decide)) dX12_drum_8 kk_X12_drum_X12_in ml_RX12_54 swX12_in rfl rfl (Nat.le_of_ble_eq_true rfl) ?_
  rintro _ _ ⟨_, rfl, rfl, rfl⟩
  refine g_if_eq 38 dX12_drum_11 (by decide) (fun h3 => ?_) (fun h3 => ?_)
  · have h3 := zs_b0 h3
    refine g_aload_n dX12_drum_38 rfl rfl ?_
    refine g_callV (T := TX12) (NN := 19) [] (q_badW S hJ) dX12_drum_39 kk_X12_drum_X12_bad ml_RX12_62 mwX12_bad ewX12_bad (by decide) rfl rfl rfl rfl (Nat.le_of_ble_eq_true rfl) ?_
    rintro _ S4 ⟨x5, rfl, ex5, jS4, fS4⟩
    refine g_iret dX12_drum_42 rfl rfl ?_
    have q0 : zs_q 2 12 n = false := zs_qF h3
    exact ⟨_, rfl, jS4, fS4.n, fS4.m, fun _ => ⟨ex5, fS4.m⟩, fun z => absurd z (by rw [q0]; exact Bool.false_ne_true)⟩
  · have h3 := zs_b1 h3
    obtain ⟨n', n'a, n'b, rfl⟩ := zs_rng h3 (by omega)
    refine g_iload_n dX12_drum_14 rfl rfl ?_
    refine g_i2l dX12_drum_15 rfl ?_
    refine g_lconst (v := 0) dX12_drum_16 (by decide) ?_
    refine g_ldc2 (v := 5) dX12_drum_17 cl_RX12_58 ?_
    refine g_callS [.long (Int32.toInt64 k), .long 0, .long 5] [] (z_in S k 0 5 (by decide) (by decide)) dX12_drum_20 kk_X12_drum_X12_in ml_RX12_54 swX12_in rfl rfl (Nat.le_of_ble_eq_true rfl) ?_
    rintro _ _ ⟨_, rfl, rfl, rfl⟩
    refine g_if_eq 38 dX12_drum_23 (by decide) (fun h8 => ?_) (fun h8 => ?_)
    · have h8 := zs_b0 h8
      refine g_aload_n dX12_drum_38 rfl rfl ?_
      refine g_callV (T := TX12) (NN := 19) [] (q_badW S hJ) dX12_drum_39 kk_X12_drum_X12_bad ml_RX12_62 mwX12_bad ewX12_bad (by decide) rfl rfl rfl rfl (Nat.le_of_ble_eq_true rfl) ?_
      rintro _ S9 ⟨x10, rfl, ex10, jS9, fS9⟩
      refine g_iret dX12_drum_42 rfl rfl ?_
      have q0 : zs_q 2 12 (nI n') = true := zs_qN (by omega) (by omega) (by decide)
      have q1 : zs_q 0 5 k = false := zs_qF h8
      exact ⟨_, rfl, jS9, fS9.n, fS9.m, fun _ => ⟨ex10, fS9.m⟩, fun z => absurd z (by rw [q0, q1]; exact Bool.false_ne_true)⟩
    · have h8 := zs_b1 h8
      obtain ⟨k', k'a, k'b, rfl⟩ := zs_rng h8 (by omega)
      refine g_iload_n dX12_drum_26 rfl rfl ?_
      refine g_i2l dX12_drum_27 rfl ?_
      refine g_lconst (v := 0) dX12_drum_28 (by decide) ?_
      refine g_ldc2 (v := 11) dX12_drum_29 cl_RX12_60 ?_
      refine g_callS [.long (Int32.toInt64 t), .long 0, .long 11] [] (z_in S t 0 11 (by decide) (by decide)) dX12_drum_32 kk_X12_drum_X12_in ml_RX12_54 swX12_in rfl rfl (Nat.le_of_ble_eq_true rfl) ?_
      rintro _ _ ⟨_, rfl, rfl, rfl⟩
      refine g_if_ne 43 dX12_drum_35 (by decide) (fun h13 => ?_) (fun h13 => ?_)
      · have h13 := zs_b1 h13
        obtain ⟨t', t'a, t'b, rfl⟩ := zs_rng h13 (by omega)
        refine g_aload_n dX12_drum_43 rfl rfl ?_
        refine g_getR 1 (82) (C := RX12) (T := TX12) (N := 19) dX12_drum_44 (by decide) rfl rfl (by decide) rfl fl_RX12_13 ?_
        refine g_iconst (v := (nI 2)) dX12_drum_47 rfl ?_
        refine g_ialdN (v := (S.1 82 2)) dX12_drum_48 (by decide) rfl (by omega) (by decide) rfl ?_
        refine g_istore (lv' := [(4, .int (S.1 82 2)), (0, .ref 80), (1, .int (nI n')), (2, .int (nI k')), (3, .int (nI t'))]) dX12_drum_49 (by decide) rfl ?_
        refine g_aload_n dX12_drum_51 rfl rfl ?_
        refine g_iload_n dX12_drum_52 rfl rfl ?_
        refine g_iload_n dX12_drum_53 rfl rfl ?_
        refine g_iload_n dX12_drum_54 rfl rfl ?_
        refine g_callV (T := TX12) (NN := 19) [] (y_beginsE n' t' (nI k') (by omega) (by omega) (by omega) S hJ) dX12_drum_55 kk_X12_drum_X12_begins ml_RX12_42 mwX12_begins ewX12_begins (by decide) rfl rfl rfl rfl (Nat.le_of_ble_eq_true rfl) ?_
        rintro _ S14 ⟨rfl, bS14⟩
        refine g_iload dX12_drum_58 rfl ?_
        refine g_iret dX12_drum_60 rfl rfl ?_
        have q0 : zs_q 2 12 (nI n') = true := zs_qN (by omega) (by omega) (by decide)
        have q1 : zs_q 0 5 (nI k') = true := zs_qN (by omega) (by omega) (by decide)
        have q2 : zs_q 0 11 (nI t') = true := zs_qN (by omega) (by omega) (by decide)
        exact ⟨_, rfl, bS14.1, bS14.2.1, fun i _ hp => bS14.2.2.2.2.2.2.2.2 i (Nat.le_of_not_lt hp), fun z => absurd z (by rw [q0, q1, q2]; decide), fun _ => ⟨rfl, bS14.2.2.2.1, bS14.2.2.2.2.1, bS14.2.2.1, bS14.2.2.2.2.2.2.2.1⟩⟩
      · have h13 := zs_b0 h13
        refine g_aload_n dX12_drum_38 rfl rfl ?_
        refine g_callV (T := TX12) (NN := 19) [] (q_badW S hJ) dX12_drum_39 kk_X12_drum_X12_bad ml_RX12_62 mwX12_bad ewX12_bad (by decide) rfl rfl rfl rfl (Nat.le_of_ble_eq_true rfl) ?_
        rintro _ S15 ⟨x16, rfl, ex16, jS15, fS15⟩
        refine g_iret dX12_drum_42 rfl rfl ?_
        have q0 : zs_q 2 12 (nI n') = true := zs_qN (by omega) (by omega) (by decide)
        have q1 : zs_q 0 5 (nI k') = true := zs_qN (by omega) (by omega) (by decide)
        have q2 : zs_q 0 11 t = false := zs_qF h13
        exact ⟨_, rfl, jS15, fS15.n, fS15.m, fun _ => ⟨ex16, fS15.m⟩, fun z => absurd z (by rw [q0, q1, q2]; exact Bool.false_ne_true)⟩
set_option maxRecDepth 100000 in
theorem y_lampW (k : Int32) (S : zs_S) (hJ : zs_J S) : zs_Ci MX12_lamp [.ref 80, .int k] S (fun x S2 => zs_J S2 ∧ zs_fm S S2 ∧ zs_mk (fun i => i = 1) S S2 ∧ ((zs_q 0 5 k) = false → x = (-2) ∧ zs_mk zs_N0 S S2) ∧ ((zs_q 0 5 k) = true → x = S.1 82 1 ∧ S2.1 82 1 = k)) := by
  refine zs_C.of (by decide) (Nat.le_of_ble_eq_true rfl) ?_
  show zs_P MX12_lamp 0 [(0, .ref 80), (1, .int k)] [] S _
  refine g_iload_n dX12_lamp_0 rfl rfl ?_
  refine g_i2l dX12_lamp_1 rfl ?_
  refine g_lconst (v := 0) dX12_lamp_2 (by decide) ?_
  refine g_ldc2 (v := 5) dX12_lamp_3 cl_RX12_58 ?_
  refine g_callS [.long (Int32.toInt64 k), .long 0, .long 5] [] (z_in S k 0 5 (by decide) (by decide)) dX12_lamp_6 kk_X12_lamp_X12_in ml_RX12_54 swX12_in rfl rfl (Nat.le_of_ble_eq_true rfl) ?_
  rintro _ _ ⟨_, rfl, rfl, rfl⟩
  refine g_if_ne 17 dX12_lamp_9 (by decide) (fun h3 => ?_) (fun h3 => ?_)
  · have h3 := zs_b1 h3
    obtain ⟨k', k'a, k'b, rfl⟩ := zs_rng h3 (by omega)
    refine g_aload_n dX12_lamp_17 rfl rfl ?_
    refine g_getR 1 (82) (C := RX12) (T := TX12) (N := 19) dX12_lamp_18 (by decide) rfl rfl (by decide) rfl fl_RX12_13 ?_
    refine g_iconst (v := (nI 1)) dX12_lamp_21 rfl ?_
    refine g_ialdN (v := (S.1 82 1)) dX12_lamp_22 (by decide) rfl (by omega) (by decide) rfl ?_
    refine g_istore_n (lv' := [(2, .int (S.1 82 1)), (0, .ref 80), (1, .int (nI k'))]) dX12_lamp_23 rfl (by decide) rfl ?_
    refine g_aload_n dX12_lamp_24 rfl rfl ?_
    refine g_getR 1 (82) (C := RX12) (T := TX12) (N := 19) dX12_lamp_25 (by decide) rfl rfl (by decide) rfl fl_RX12_13 ?_
    refine g_iconst (v := (nI 1)) dX12_lamp_28 rfl ?_
    refine g_iload_n dX12_lamp_29 rfl rfl ?_
    refine g_iastN dX12_lamp_30 (by decide) rfl (by omega) (by decide) ?_
    refine g_aload_n dX12_lamp_31 rfl rfl ?_
    refine g_getR 1 (82) (C := RX12) (T := TX12) (N := 19) dX12_lamp_32 (by decide) rfl rfl (by decide) rfl fl_RX12_13 ?_
    refine g_bipush (v := (nI 65)) dX12_lamp_35 rfl ?_
    refine g_iconst (v := (nI 0)) dX12_lamp_37 rfl ?_
    refine g_iastN dX12_lamp_38 (by decide) rfl (by omega) (by decide) ?_
    refine g_iload_n dX12_lamp_39 rfl rfl ?_
    refine g_iret dX12_lamp_40 rfl rfl ?_
    have q0 : zs_q 0 5 (nI k') = true := zs_qN (by omega) (by omega) (by decide)
    exact ⟨_, rfl, ((((hJ).up (zs_okN2 rfl (by omega)))).up (zs_okR2 rfl (by omega) (by omega) (by omega))), ((((zs_fm.rf).tr (zs_fm.up rfl))).tr (zs_fm.up rfl)), fun i h65 hp => by
      have hp : ¬ i = 1 := hp
      exact (zs_up_m (by omega)).trans ((zs_up_m (by omega))), fun z => absurd z (by rw [q0]; decide), fun _ => ⟨rfl, (zs_up_m (by omega)).trans (zs_up_q)⟩⟩
  · have h3 := zs_b0 h3
    refine g_aload_n dX12_lamp_12 rfl rfl ?_
    refine g_callV (T := TX12) (NN := 19) [] (q_badW S hJ) dX12_lamp_13 kk_X12_lamp_X12_bad ml_RX12_62 mwX12_bad ewX12_bad (by decide) rfl rfl rfl rfl (Nat.le_of_ble_eq_true rfl) ?_
    rintro _ S4 ⟨x5, rfl, ex5, jS4, fS4⟩
    refine g_iret dX12_lamp_16 rfl rfl ?_
    have q0 : zs_q 0 5 k = false := zs_qF h3
    exact ⟨_, rfl, jS4, fS4.n, fS4.m, fun _ => ⟨ex5, fS4.m⟩, fun z => absurd z (by rw [q0]; exact Bool.false_ne_true)⟩
theorem y_comesE2 (k : Int32) (e : Nat) (he : e ≤ 4) (S : zs_S) (hJ : zs_J S) (h3 : S.1 82 2 = nI e) : zs_Ci MX12_comes [.ref 80, .int k] S (fun x S2 => x = nI e ∧ zs_J S2 ∧ zs_fm S S2 ∧ S2.1 82 2 = nI (e + 1) ∧ ∀ i, i ≠ 65 → i ≠ 2 → ¬ (3 ≤ i ∧ i ≤ 7) → S2.1 82 i = S.1 82 i) := (y_comesE k e he S hJ h3).mono (fun _ _ q => by
  obtain ⟨x, q1, q2, q3, q4, q5, q6, q7, q8, q9, q10⟩ := q
  refine ⟨x, q1, q2, q3, q4, q5, fun i h1 h2 h3 => ?_⟩
  rcases Nat.lt_or_ge i 8 with z | z
  · obtain rfl | rfl : i = 0 ∨ i = 1 := by omega
    · exact q8
    · exact q9
  · exact q10 i z h1)
set_option maxRecDepth 100000 in
theorem y_eyeW (k : Int32) (S : zs_S) (hJ : zs_J S) (m : Nat) (hm : S.1 82 2 = nI m) (h5 : m ≤ 5) : zs_Ci MX12_eye [.ref 80, .int k] S (fun x S2 => zs_J S2 ∧ zs_fm S S2 ∧ zs_mk (fun i => 2 ≤ i ∧ i ≤ 7) S S2 ∧ ((zs_q 0 5 k) = false → x = (-2) ∧ zs_mk zs_N0 S S2) ∧ ((zs_q 0 5 k) = true → (5 ≤ m → x = (-4) ∧ zs_mk zs_N0 S S2) ∧ (m < 5 → x = nI m ∧ S2.1 82 2 = nI (m + 1)))) := by
  refine zs_C.of (by decide) (Nat.le_of_ble_eq_true rfl) ?_
  show zs_P MX12_eye 0 [(0, .ref 80), (1, .int k)] [] S _
  refine g_iload_n dX12_eye_0 rfl rfl ?_
  refine g_i2l dX12_eye_1 rfl ?_
  refine g_lconst (v := 0) dX12_eye_2 (by decide) ?_
  refine g_ldc2 (v := 5) dX12_eye_3 cl_RX12_58 ?_
  refine g_callS [.long (Int32.toInt64 k), .long 0, .long 5] [] (z_in S k 0 5 (by decide) (by decide)) dX12_eye_6 kk_X12_eye_X12_in ml_RX12_54 swX12_in rfl rfl (Nat.le_of_ble_eq_true rfl) ?_
  rintro _ _ ⟨_, rfl, rfl, rfl⟩
  refine g_if_ne 17 dX12_eye_9 (by decide) (fun h3 => ?_) (fun h3 => ?_)
  · have h3 := zs_b1 h3
    obtain ⟨k', k'a, k'b, rfl⟩ := zs_rng h3 (by omega)
    refine g_aload_n dX12_eye_17 rfl rfl ?_
    refine g_getR 1 (82) (C := RX12) (T := TX12) (N := 19) dX12_eye_18 (by decide) rfl rfl (by decide) rfl fl_RX12_13 ?_
    refine g_iconst (v := (nI 2)) dX12_eye_21 rfl ?_
    refine g_ialdN (v := (nI m)) dX12_eye_22 (by decide) rfl (by omega) (by decide) hm ?_
    refine g_iconst (v := (nI 5)) dX12_eye_23 rfl ?_
    refine g_ic_neN 34 dX12_eye_24 (by decide) (by omega) (by omega) (fun h4 => ?_) (fun h4 => ?_)
    · refine g_aload_n dX12_eye_34 rfl rfl ?_
      refine g_iload_n dX12_eye_35 rfl rfl ?_
      refine g_callV (T := TX12) (NN := 19) [] (y_comesE2 (nI k') m (by omega) S hJ hm) dX12_eye_36 kk_X12_eye_X12_comes ml_RX12_69 mwX12_comes ewX12_comes (by decide) rfl rfl rfl rfl (Nat.le_of_ble_eq_true rfl) ?_
      rintro _ S5 ⟨_, rfl, rfl, bS5⟩
      refine g_iret dX12_eye_39 rfl rfl ?_
      have q0 : zs_q 0 5 (nI k') = true := zs_qN (by omega) (by omega) (by decide)
      exact ⟨_, rfl, bS5.1, bS5.2.1, fun i h65 hp => by
        have hp : ¬ (2 ≤ i ∧ i ≤ 7) := hp
        exact bS5.2.2.2 i (by omega) (by omega) (by omega), fun z => absurd z (by rw [q0]; decide), fun _ => ⟨fun z => absurd z (by omega), fun _ => ⟨rfl, bS5.2.2.1⟩⟩⟩
    · refine g_aload_n dX12_eye_27 rfl rfl ?_
      refine g_callV (T := TX12) (NN := 19) [] (q_fullW S hJ) dX12_eye_28 kk_X12_eye_X12_full ml_RX12_66 mwX12_full ewX12_full (by decide) rfl rfl rfl rfl (Nat.le_of_ble_eq_true rfl) ?_
      rintro _ S6 ⟨x7, rfl, ex7, jS6, fS6⟩
      refine g_goto 39 dX12_eye_31 (by decide) ?_
      refine g_iret dX12_eye_39 rfl rfl ?_
      have q0 : zs_q 0 5 (nI k') = true := zs_qN (by omega) (by omega) (by decide)
      exact ⟨_, rfl, jS6, fS6.n, fS6.m, fun z => absurd z (by rw [q0]; decide), fun _ => ⟨fun _ => ⟨ex7, fS6.m⟩, fun z => absurd z (by omega)⟩⟩
  · have h3 := zs_b0 h3
    refine g_aload_n dX12_eye_12 rfl rfl ?_
    refine g_callV (T := TX12) (NN := 19) [] (q_badW S hJ) dX12_eye_13 kk_X12_eye_X12_bad ml_RX12_62 mwX12_bad ewX12_bad (by decide) rfl rfl rfl rfl (Nat.le_of_ble_eq_true rfl) ?_
    rintro _ S8 ⟨x9, rfl, ex9, jS8, fS8⟩
    refine g_iret dX12_eye_16 rfl rfl ?_
    have q0 : zs_q 0 5 k = false := zs_qF h3
    exact ⟨_, rfl, jS8, fS8.n, fS8.m, fun _ => ⟨ex9, fS8.m⟩, fun z => absurd z (by rw [q0]; exact Bool.false_ne_true)⟩
set_option maxRecDepth 100000 in
theorem y_seenW (k : Int32) (p : Int32) (S : zs_S) (hJ : zs_J S) (m : Nat) (hm : S.1 82 8 = nI m) (h6 : m ≤ 6) : zs_Ci MX12_seen [.ref 80, .int k, .int p] S (fun x S2 => zs_J S2 ∧ zs_fm S S2 ∧ zs_mk (fun i => i = 8 ∨ i = 9 + m ∨ i = 15 + m) S S2 ∧ ((zs_q 1 30 k && (zs_q 0 9 p)) = false → x = (-2) ∧ zs_mk zs_N0 S S2) ∧ ((zs_q 1 30 k && (zs_q 0 9 p)) = true → (6 ≤ m → x = (-4) ∧ zs_mk zs_N0 S S2) ∧ (m < 6 → x = nI (m + 1) ∧ S2.1 82 8 = nI (m + 1) ∧ S2.1 82 (9 + m) = k ∧ S2.1 82 (15 + m) = p))) := by
  refine zs_C.of (by decide) (Nat.le_of_ble_eq_true rfl) ?_
  show zs_P MX12_seen 0 [(0, .ref 80), (1, .int k), (2, .int p)] [] S _
  refine g_iload_n dX12_seen_0 rfl rfl ?_
  refine g_i2l dX12_seen_1 rfl ?_
  refine g_lconst (v := 1) dX12_seen_2 (by decide) ?_
  refine g_ldc2 (v := 30) dX12_seen_3 cl_RX12_202 ?_
  refine g_callS [.long (Int32.toInt64 k), .long 1, .long 30] [] (z_in S k 1 30 (by decide) (by decide)) dX12_seen_6 kk_X12_seen_X12_in ml_RX12_54 swX12_in rfl rfl (Nat.le_of_ble_eq_true rfl) ?_
  rintro _ _ ⟨_, rfl, rfl, rfl⟩
  refine g_if_eq 24 dX12_seen_9 (by decide) (fun h3 => ?_) (fun h3 => ?_)
  · have h3 := zs_b0 h3
    refine g_aload_n dX12_seen_24 rfl rfl ?_
    refine g_callV (T := TX12) (NN := 19) [] (q_badW S hJ) dX12_seen_25 kk_X12_seen_X12_bad ml_RX12_62 mwX12_bad ewX12_bad (by decide) rfl rfl rfl rfl (Nat.le_of_ble_eq_true rfl) ?_
    rintro _ S4 ⟨x5, rfl, ex5, jS4, fS4⟩
    refine g_iret dX12_seen_28 rfl rfl ?_
    have q0 : zs_q 1 30 k = false := zs_qF h3
    exact ⟨_, rfl, jS4, fS4.n, fS4.m, fun _ => ⟨ex5, fS4.m⟩, fun z => absurd z (by rw [q0]; exact Bool.false_ne_true)⟩
  · have h3 := zs_b1 h3
    obtain ⟨k', k'a, k'b, rfl⟩ := zs_rng h3 (by omega)
    refine g_iload_n dX12_seen_12 rfl rfl ?_
    refine g_i2l dX12_seen_13 rfl ?_
    refine g_lconst (v := 0) dX12_seen_14 (by decide) ?_
    refine g_ldc2 (v := 9) dX12_seen_15 cl_RX12_121 ?_
    refine g_callS [.long (Int32.toInt64 p), .long 0, .long 9] [] (z_in S p 0 9 (by decide) (by decide)) dX12_seen_18 kk_X12_seen_X12_in ml_RX12_54 swX12_in rfl rfl (Nat.le_of_ble_eq_true rfl) ?_
    rintro _ _ ⟨_, rfl, rfl, rfl⟩
    refine g_if_ne 29 dX12_seen_21 (by decide) (fun h8 => ?_) (fun h8 => ?_)
    · have h8 := zs_b1 h8
      obtain ⟨p', p'a, p'b, rfl⟩ := zs_rng h8 (by omega)
      refine g_aload_n dX12_seen_29 rfl rfl ?_
      refine g_getR 1 (82) (C := RX12) (T := TX12) (N := 19) dX12_seen_30 (by decide) rfl rfl (by decide) rfl fl_RX12_13 ?_
      refine g_bipush (v := (nI 8)) dX12_seen_33 rfl ?_
      refine g_ialdN (v := (nI m)) dX12_seen_35 (by decide) rfl (by omega) (by decide) hm ?_
      refine g_istore_n (lv' := [(3, .int (nI m)), (0, .ref 80), (1, .int (nI k')), (2, .int (nI p'))]) dX12_seen_36 rfl (by decide) rfl ?_
      refine g_iload_n dX12_seen_37 rfl rfl ?_
      refine g_bipush (v := (nI 6)) dX12_seen_38 rfl ?_
      refine g_ic_neN 48 dX12_seen_40 (by decide) (by omega) (by omega) (fun h9 => ?_) (fun h9 => ?_)
      · refine g_aload_n dX12_seen_48 rfl rfl ?_
        refine g_getR 1 (82) (C := RX12) (T := TX12) (N := 19) dX12_seen_49 (by decide) rfl rfl (by decide) rfl fl_RX12_13 ?_
        refine g_bipush (v := (nI 9)) dX12_seen_52 rfl ?_
        refine g_iload_n dX12_seen_54 rfl rfl ?_
        refine g_iaddN dX12_seen_55 ?_
        refine g_iload_n dX12_seen_56 rfl rfl ?_
        refine g_iastN dX12_seen_57 (by decide) rfl (by omega) (by decide) ?_
        refine g_aload_n dX12_seen_58 rfl rfl ?_
        refine g_getR 1 (82) (C := RX12) (T := TX12) (N := 19) dX12_seen_59 (by decide) rfl rfl (by decide) rfl fl_RX12_13 ?_
        refine g_bipush (v := (nI 15)) dX12_seen_62 rfl ?_
        refine g_iload_n dX12_seen_64 rfl rfl ?_
        refine g_iaddN dX12_seen_65 ?_
        refine g_iload_n dX12_seen_66 rfl rfl ?_
        refine g_iastN dX12_seen_67 (by decide) rfl (by omega) (by decide) ?_
        refine g_aload_n dX12_seen_68 rfl rfl ?_
        refine g_getR 1 (82) (C := RX12) (T := TX12) (N := 19) dX12_seen_69 (by decide) rfl rfl (by decide) rfl fl_RX12_13 ?_
        refine g_bipush (v := (nI 8)) dX12_seen_72 rfl ?_
        refine g_dup2 dX12_seen_74 rfl rfl ?_
        refine g_ialdN (v := (nI m)) dX12_seen_75 (by decide) rfl (by omega) (by decide) ((zs_up_m (by omega)).trans ((zs_up_m (by omega)).trans hm)) ?_
        refine g_iconst (v := (nI 1)) dX12_seen_76 rfl ?_
        refine g_iaddN dX12_seen_77 ?_
        refine g_iastN dX12_seen_78 (by decide) rfl (by omega) (by decide) ?_
        refine g_aload_n dX12_seen_79 rfl rfl ?_
        refine g_getR 1 (82) (C := RX12) (T := TX12) (N := 19) dX12_seen_80 (by decide) rfl rfl (by decide) rfl fl_RX12_13 ?_
        refine g_bipush (v := (nI 8)) dX12_seen_83 rfl ?_
        refine g_ialdN (v := (nI (m + 1))) dX12_seen_85 (by decide) rfl (by omega) (by decide) zs_up_q ?_
        refine g_iret dX12_seen_86 rfl rfl ?_
        have q0 : zs_q 1 30 (nI k') = true := zs_qN (by omega) (by omega) (by decide)
        have q1 : zs_q 0 9 (nI p') = true := zs_qN (by omega) (by omega) (by decide)
        exact ⟨_, rfl, ((((((hJ).up (zs_okR2 (rg_82_9_14 _ (by omega) (by omega)) (by omega) (by omega) (by omega)))).up (zs_okN2 (rg_82_15_20 _ (by omega) (by omega)) (by omega)))).up (zs_okR2 rfl (by omega) (by omega) (by omega))), ((((((zs_fm.rf).tr (zs_fm.up rfl))).tr (zs_fm.up rfl))).tr (zs_fm.up rfl)), fun i h65 hp => by
          have hp : ¬ (i = 8 ∨ i = 9 + m ∨ i = 15 + m) := hp
          exact (zs_up_m (by omega)).trans ((zs_up_m (by omega)).trans ((zs_up_m (by omega)))), fun z => absurd z (by rw [q0, q1]; decide), fun _ => ⟨fun z => absurd z (by omega), fun _ => ⟨rfl, zs_up_q, (zs_up_m (by omega)).trans ((zs_up_m (by omega)).trans (zs_up_q)), (zs_up_m (by omega)).trans (zs_up_q)⟩⟩⟩
      · refine g_aload_n dX12_seen_43 rfl rfl ?_
        refine g_callV (T := TX12) (NN := 19) [] (q_fullW S hJ) dX12_seen_44 kk_X12_seen_X12_full ml_RX12_66 mwX12_full ewX12_full (by decide) rfl rfl rfl rfl (Nat.le_of_ble_eq_true rfl) ?_
        rintro _ S10 ⟨x11, rfl, ex11, jS10, fS10⟩
        refine g_iret dX12_seen_47 rfl rfl ?_
        have q0 : zs_q 1 30 (nI k') = true := zs_qN (by omega) (by omega) (by decide)
        have q1 : zs_q 0 9 (nI p') = true := zs_qN (by omega) (by omega) (by decide)
        exact ⟨_, rfl, jS10, fS10.n, fS10.m, fun z => absurd z (by rw [q0, q1]; decide), fun _ => ⟨fun _ => ⟨ex11, fS10.m⟩, fun z => absurd z (by omega)⟩⟩
    · have h8 := zs_b0 h8
      refine g_aload_n dX12_seen_24 rfl rfl ?_
      refine g_callV (T := TX12) (NN := 19) [] (q_badW S hJ) dX12_seen_25 kk_X12_seen_X12_bad ml_RX12_62 mwX12_bad ewX12_bad (by decide) rfl rfl rfl rfl (Nat.le_of_ble_eq_true rfl) ?_
      rintro _ S12 ⟨x13, rfl, ex13, jS12, fS12⟩
      refine g_iret dX12_seen_28 rfl rfl ?_
      have q0 : zs_q 1 30 (nI k') = true := zs_qN (by omega) (by omega) (by decide)
      have q1 : zs_q 0 9 p = false := zs_qF h8
      exact ⟨_, rfl, jS12, fS12.n, fS12.m, fun _ => ⟨ex13, fS12.m⟩, fun z => absurd z (by rw [q0, q1]; exact Bool.false_ne_true)⟩
set_option maxRecDepth 100000 in
theorem y_noteW (e : Int32) (p : Int32) (q : Int32) (y : Int32) (S : zs_S) (hJ : zs_J S) (m : Nat) (hm : S.1 82 21 = nI m) (h6 : m ≤ 6) : zs_Ci MX12_note [.ref 80, .int e, .int p, .int q, .int y] S (fun x S2 => zs_J S2 ∧ zs_fm S S2 ∧ zs_mk (fun i => i = 21 ∨ i = 22 + m ∨ i = 28 + m ∨ i = 34 + m ∨ i = 40 + m) S S2 ∧ ((zs_qe (S.1 82 2) e && (zs_q 0 9 p && (zs_q 0 9 q && (zs_q 0 9 y)))) = false → x = (-2) ∧ zs_mk zs_N0 S S2) ∧ ((zs_qe (S.1 82 2) e && (zs_q 0 9 p && (zs_q 0 9 q && (zs_q 0 9 y)))) = true → (6 ≤ m → x = (-4) ∧ zs_mk zs_N0 S S2) ∧ (m < 6 → x = nI (m + 1) ∧ S2.1 82 21 = nI (m + 1) ∧ S2.1 82 (22 + m) = e ∧ S2.1 82 (28 + m) = p ∧ S2.1 82 (34 + m) = q ∧ S2.1 82 (40 + m) = y))) := by
  refine zs_C.of (by decide) (Nat.le_of_ble_eq_true rfl) ?_
  show zs_P MX12_note 0 [(0, .ref 80), (1, .int e), (2, .int p), (3, .int q), (4, .int y)] [] S _
  refine g_aload_n dX12_note_0 rfl rfl ?_
  refine g_iload_n dX12_note_1 rfl rfl ?_
  refine g_callV (T := TX12) (NN := 19) [] (z_isEye S e) dX12_note_2 kk_X12_note_X12_isEye ml_RX12_185 mwX12_isEye ewX12_isEye (by decide) rfl rfl rfl rfl (Nat.le_of_ble_eq_true rfl) ?_
  rintro _ _ ⟨_, rfl, rfl, rfl⟩
  refine g_if_eq 45 dX12_note_5 (by decide) (fun h1 => ?_) (fun h1 => ?_)
  · have h1 := zs_b0 h1
    refine g_aload_n dX12_note_45 rfl rfl ?_
    refine g_callV (T := TX12) (NN := 19) [] (q_badW S hJ) dX12_note_46 kk_X12_note_X12_bad ml_RX12_62 mwX12_bad ewX12_bad (by decide) rfl rfl rfl rfl (Nat.le_of_ble_eq_true rfl) ?_
    rintro _ S2 ⟨x3, rfl, ex3, jS2, fS2⟩
    refine g_iret dX12_note_49 rfl rfl ?_
    have q0 : zs_qe (S.1 82 2) e = false := zs_qeF h1
    exact ⟨_, rfl, jS2, fS2.n, fS2.m, fun _ => ⟨ex3, fS2.m⟩, fun z => absurd z (by rw [q0]; exact Bool.false_ne_true)⟩
  · have h1 := zs_b1 h1
    refine g_iload_n dX12_note_8 rfl rfl ?_
    refine g_i2l dX12_note_9 rfl ?_
    refine g_lconst (v := 0) dX12_note_10 (by decide) ?_
    refine g_ldc2 (v := 9) dX12_note_11 cl_RX12_121 ?_
    refine g_callS [.long (Int32.toInt64 p), .long 0, .long 9] [] (z_in S p 0 9 (by decide) (by decide)) dX12_note_14 kk_X12_note_X12_in ml_RX12_54 swX12_in rfl rfl (Nat.le_of_ble_eq_true rfl) ?_
    rintro _ _ ⟨_, rfl, rfl, rfl⟩
    refine g_if_eq 45 dX12_note_17 (by decide) (fun h6 => ?_) (fun h6 => ?_)
    · have h6 := zs_b0 h6
      refine g_aload_n dX12_note_45 rfl rfl ?_
      refine g_callV (T := TX12) (NN := 19) [] (q_badW S hJ) dX12_note_46 kk_X12_note_X12_bad ml_RX12_62 mwX12_bad ewX12_bad (by decide) rfl rfl rfl rfl (Nat.le_of_ble_eq_true rfl) ?_
      rintro _ S7 ⟨x8, rfl, ex8, jS7, fS7⟩
      refine g_iret dX12_note_49 rfl rfl ?_
      have q0 : zs_qe (S.1 82 2) e = true := zs_qeT h1
      have q1 : zs_q 0 9 p = false := zs_qF h6
      exact ⟨_, rfl, jS7, fS7.n, fS7.m, fun _ => ⟨ex8, fS7.m⟩, fun z => absurd z (by rw [q0, q1]; exact Bool.false_ne_true)⟩
    · have h6 := zs_b1 h6
      obtain ⟨p', p'a, p'b, rfl⟩ := zs_rng h6 (by omega)
      refine g_iload_n dX12_note_20 rfl rfl ?_
      refine g_i2l dX12_note_21 rfl ?_
      refine g_lconst (v := 0) dX12_note_22 (by decide) ?_
      refine g_ldc2 (v := 9) dX12_note_23 cl_RX12_121 ?_
      refine g_callS [.long (Int32.toInt64 q), .long 0, .long 9] [] (z_in S q 0 9 (by decide) (by decide)) dX12_note_26 kk_X12_note_X12_in ml_RX12_54 swX12_in rfl rfl (Nat.le_of_ble_eq_true rfl) ?_
      rintro _ _ ⟨_, rfl, rfl, rfl⟩
      refine g_if_eq 45 dX12_note_29 (by decide) (fun h11 => ?_) (fun h11 => ?_)
      · have h11 := zs_b0 h11
        refine g_aload_n dX12_note_45 rfl rfl ?_
        refine g_callV (T := TX12) (NN := 19) [] (q_badW S hJ) dX12_note_46 kk_X12_note_X12_bad ml_RX12_62 mwX12_bad ewX12_bad (by decide) rfl rfl rfl rfl (Nat.le_of_ble_eq_true rfl) ?_
        rintro _ S12 ⟨x13, rfl, ex13, jS12, fS12⟩
        refine g_iret dX12_note_49 rfl rfl ?_
        have q0 : zs_qe (S.1 82 2) e = true := zs_qeT h1
        have q1 : zs_q 0 9 (nI p') = true := zs_qN (by omega) (by omega) (by decide)
        have q2 : zs_q 0 9 q = false := zs_qF h11
        exact ⟨_, rfl, jS12, fS12.n, fS12.m, fun _ => ⟨ex13, fS12.m⟩, fun z => absurd z (by rw [q0, q1, q2]; exact Bool.false_ne_true)⟩
      · have h11 := zs_b1 h11
        obtain ⟨q', q'a, q'b, rfl⟩ := zs_rng h11 (by omega)
        refine g_iload dX12_note_32 rfl ?_
        refine g_i2l dX12_note_34 rfl ?_
        refine g_lconst (v := 0) dX12_note_35 (by decide) ?_
        refine g_ldc2 (v := 9) dX12_note_36 cl_RX12_121 ?_
        refine g_callS [.long (Int32.toInt64 y), .long 0, .long 9] [] (z_in S y 0 9 (by decide) (by decide)) dX12_note_39 kk_X12_note_X12_in ml_RX12_54 swX12_in rfl rfl (Nat.le_of_ble_eq_true rfl) ?_
        rintro _ _ ⟨_, rfl, rfl, rfl⟩
        refine g_if_ne 50 dX12_note_42 (by decide) (fun h16 => ?_) (fun h16 => ?_)
        · have h16 := zs_b1 h16
          obtain ⟨y', y'a, y'b, rfl⟩ := zs_rng h16 (by omega)
          refine g_aload_n dX12_note_50 rfl rfl ?_
          refine g_getR 1 (82) (C := RX12) (T := TX12) (N := 19) dX12_note_51 (by decide) rfl rfl (by decide) rfl fl_RX12_13 ?_
          refine g_bipush (v := (nI 21)) dX12_note_54 rfl ?_
          refine g_ialdN (v := (nI m)) dX12_note_56 (by decide) rfl (by omega) (by decide) hm ?_
          refine g_istore (lv' := [(5, .int (nI m)), (0, .ref 80), (1, .int e), (2, .int (nI p')), (3, .int (nI q')), (4, .int (nI y'))]) dX12_note_57 (by decide) rfl ?_
          refine g_iload dX12_note_59 rfl ?_
          refine g_bipush (v := (nI 6)) dX12_note_61 rfl ?_
          refine g_ic_neN 71 dX12_note_63 (by decide) (by omega) (by omega) (fun h17 => ?_) (fun h17 => ?_)
          · refine g_aload_n dX12_note_71 rfl rfl ?_
            refine g_getR 1 (82) (C := RX12) (T := TX12) (N := 19) dX12_note_72 (by decide) rfl rfl (by decide) rfl fl_RX12_13 ?_
            refine g_bipush (v := (nI 22)) dX12_note_75 rfl ?_
            refine g_iload dX12_note_77 rfl ?_
            refine g_iaddN dX12_note_79 ?_
            refine g_iload_n dX12_note_80 rfl rfl ?_
            refine g_iastN dX12_note_81 (by decide) rfl (by omega) (by decide) ?_
            refine g_aload_n dX12_note_82 rfl rfl ?_
            refine g_getR 1 (82) (C := RX12) (T := TX12) (N := 19) dX12_note_83 (by decide) rfl rfl (by decide) rfl fl_RX12_13 ?_
            refine g_bipush (v := (nI 28)) dX12_note_86 rfl ?_
            refine g_iload dX12_note_88 rfl ?_
            refine g_iaddN dX12_note_90 ?_
            refine g_iload_n dX12_note_91 rfl rfl ?_
            refine g_iastN dX12_note_92 (by decide) rfl (by omega) (by decide) ?_
            refine g_aload_n dX12_note_93 rfl rfl ?_
            refine g_getR 1 (82) (C := RX12) (T := TX12) (N := 19) dX12_note_94 (by decide) rfl rfl (by decide) rfl fl_RX12_13 ?_
            refine g_bipush (v := (nI 34)) dX12_note_97 rfl ?_
            refine g_iload dX12_note_99 rfl ?_
            refine g_iaddN dX12_note_101 ?_
            refine g_iload_n dX12_note_102 rfl rfl ?_
            refine g_iastN dX12_note_103 (by decide) rfl (by omega) (by decide) ?_
            refine g_aload_n dX12_note_104 rfl rfl ?_
            refine g_getR 1 (82) (C := RX12) (T := TX12) (N := 19) dX12_note_105 (by decide) rfl rfl (by decide) rfl fl_RX12_13 ?_
            refine g_bipush (v := (nI 40)) dX12_note_108 rfl ?_
            refine g_iload dX12_note_110 rfl ?_
            refine g_iaddN dX12_note_112 ?_
            refine g_iload dX12_note_113 rfl ?_
            refine g_iastN dX12_note_115 (by decide) rfl (by omega) (by decide) ?_
            refine g_aload_n dX12_note_116 rfl rfl ?_
            refine g_getR 1 (82) (C := RX12) (T := TX12) (N := 19) dX12_note_117 (by decide) rfl rfl (by decide) rfl fl_RX12_13 ?_
            refine g_bipush (v := (nI 21)) dX12_note_120 rfl ?_
            refine g_dup2 dX12_note_122 rfl rfl ?_
            refine g_ialdN (v := (nI m)) dX12_note_123 (by decide) rfl (by omega) (by decide) ((zs_up_m (by omega)).trans ((zs_up_m (by omega)).trans ((zs_up_m (by omega)).trans ((zs_up_m (by omega)).trans hm)))) ?_
            refine g_iconst (v := (nI 1)) dX12_note_124 rfl ?_
            refine g_iaddN dX12_note_125 ?_
            refine g_iastN dX12_note_126 (by decide) rfl (by omega) (by decide) ?_
            refine g_aload_n dX12_note_127 rfl rfl ?_
            refine g_getR 1 (82) (C := RX12) (T := TX12) (N := 19) dX12_note_128 (by decide) rfl rfl (by decide) rfl fl_RX12_13 ?_
            refine g_bipush (v := (nI 21)) dX12_note_131 rfl ?_
            refine g_ialdN (v := (nI (m + 1))) dX12_note_133 (by decide) rfl (by omega) (by decide) zs_up_q ?_
            refine g_iret dX12_note_134 rfl rfl ?_
            have q0 : zs_qe (S.1 82 2) e = true := zs_qeT h1
            have q1 : zs_q 0 9 (nI p') = true := zs_qN (by omega) (by omega) (by decide)
            have q2 : zs_q 0 9 (nI q') = true := zs_qN (by omega) (by omega) (by decide)
            have q3 : zs_q 0 9 (nI y') = true := zs_qN (by omega) (by omega) (by decide)
            exact ⟨_, rfl, ((((((((((hJ).up (zs_okN2 (rg_82_22_27 _ (by omega) (by omega)) (by omega)))).up (zs_okN2 (rg_82_28_33 _ (by omega) (by omega)) (by omega)))).up (zs_okN2 (rg_82_34_39 _ (by omega) (by omega)) (by omega)))).up (zs_okN2 (rg_82_40_45 _ (by omega) (by omega)) (by omega)))).up (zs_okR2 rfl (by omega) (by omega) (by omega))), ((((((((((zs_fm.rf).tr (zs_fm.up rfl))).tr (zs_fm.up rfl))).tr (zs_fm.up rfl))).tr (zs_fm.up rfl))).tr (zs_fm.up rfl)), fun i h65 hp => by
              have hp : ¬ (i = 21 ∨ i = 22 + m ∨ i = 28 + m ∨ i = 34 + m ∨ i = 40 + m) := hp
              exact (zs_up_m (by omega)).trans ((zs_up_m (by omega)).trans ((zs_up_m (by omega)).trans ((zs_up_m (by omega)).trans ((zs_up_m (by omega)))))), fun z => absurd z (by rw [q0, q1, q2, q3]; decide), fun _ => ⟨fun z => absurd z (by omega), fun _ => ⟨rfl, zs_up_q, (zs_up_m (by omega)).trans ((zs_up_m (by omega)).trans ((zs_up_m (by omega)).trans ((zs_up_m (by omega)).trans (zs_up_q)))), (zs_up_m (by omega)).trans ((zs_up_m (by omega)).trans ((zs_up_m (by omega)).trans (zs_up_q))), (zs_up_m (by omega)).trans ((zs_up_m (by omega)).trans (zs_up_q)), (zs_up_m (by omega)).trans (zs_up_q)⟩⟩⟩
          · refine g_aload_n dX12_note_66 rfl rfl ?_
            refine g_callV (T := TX12) (NN := 19) [] (q_fullW S hJ) dX12_note_67 kk_X12_note_X12_full ml_RX12_66 mwX12_full ewX12_full (by decide) rfl rfl rfl rfl (Nat.le_of_ble_eq_true rfl) ?_
            rintro _ S18 ⟨x19, rfl, ex19, jS18, fS18⟩
            refine g_iret dX12_note_70 rfl rfl ?_
            have q0 : zs_qe (S.1 82 2) e = true := zs_qeT h1
            have q1 : zs_q 0 9 (nI p') = true := zs_qN (by omega) (by omega) (by decide)
            have q2 : zs_q 0 9 (nI q') = true := zs_qN (by omega) (by omega) (by decide)
            have q3 : zs_q 0 9 (nI y') = true := zs_qN (by omega) (by omega) (by decide)
            exact ⟨_, rfl, jS18, fS18.n, fS18.m, fun z => absurd z (by rw [q0, q1, q2, q3]; decide), fun _ => ⟨fun _ => ⟨ex19, fS18.m⟩, fun z => absurd z (by omega)⟩⟩
        · have h16 := zs_b0 h16
          refine g_aload_n dX12_note_45 rfl rfl ?_
          refine g_callV (T := TX12) (NN := 19) [] (q_badW S hJ) dX12_note_46 kk_X12_note_X12_bad ml_RX12_62 mwX12_bad ewX12_bad (by decide) rfl rfl rfl rfl (Nat.le_of_ble_eq_true rfl) ?_
          rintro _ S20 ⟨x21, rfl, ex21, jS20, fS20⟩
          refine g_iret dX12_note_49 rfl rfl ?_
          have q0 : zs_qe (S.1 82 2) e = true := zs_qeT h1
          have q1 : zs_q 0 9 (nI p') = true := zs_qN (by omega) (by omega) (by decide)
          have q2 : zs_q 0 9 (nI q') = true := zs_qN (by omega) (by omega) (by decide)
          have q3 : zs_q 0 9 y = false := zs_qF h16
          exact ⟨_, rfl, jS20, fS20.n, fS20.m, fun _ => ⟨ex21, fS20.m⟩, fun z => absurd z (by rw [q0, q1, q2, q3]; exact Bool.false_ne_true)⟩
set_option maxRecDepth 100000 in
theorem y_markW (s : Int32) (k : Int32) (y : Int32) (S : zs_S) (hJ : zs_J S) (m : Nat) (hm : S.1 82 46 = nI m) (h6 : m ≤ 6) : zs_Ci MX12_mark [.ref 80, .int s, .int k, .int y] S (fun x S2 => zs_J S2 ∧ zs_fm S S2 ∧ zs_mk (fun i => i = 46 ∨ i = 47 + m ∨ i = 53 + m ∨ i = 59 + m) S S2 ∧ ((zs_q 0 11 s && (zs_q 0 99 k && (zs_q 0 30 y))) = false → x = (-2) ∧ zs_mk zs_N0 S S2) ∧ ((zs_q 0 11 s && (zs_q 0 99 k && (zs_q 0 30 y))) = true → (6 ≤ m → x = (-4) ∧ zs_mk zs_N0 S S2) ∧ (m < 6 → x = nI (m + 1) ∧ S2.1 82 46 = nI (m + 1) ∧ S2.1 82 (47 + m) = s ∧ S2.1 82 (53 + m) = k ∧ S2.1 82 (59 + m) = y))) := by
  refine zs_C.of (by decide) (Nat.le_of_ble_eq_true rfl) ?_
  show zs_P MX12_mark 0 [(0, .ref 80), (1, .int s), (2, .int k), (3, .int y)] [] S _
  refine g_iload_n dX12_mark_0 rfl rfl ?_
  refine g_i2l dX12_mark_1 rfl ?_
  refine g_lconst (v := 0) dX12_mark_2 (by decide) ?_
  refine g_ldc2 (v := 11) dX12_mark_3 cl_RX12_60 ?_
  refine g_callS [.long (Int32.toInt64 s), .long 0, .long 11] [] (z_in S s 0 11 (by decide) (by decide)) dX12_mark_6 kk_X12_mark_X12_in ml_RX12_54 swX12_in rfl rfl (Nat.le_of_ble_eq_true rfl) ?_
  rintro _ _ ⟨_, rfl, rfl, rfl⟩
  refine g_if_eq 36 dX12_mark_9 (by decide) (fun h3 => ?_) (fun h3 => ?_)
  · have h3 := zs_b0 h3
    refine g_aload_n dX12_mark_36 rfl rfl ?_
    refine g_callV (T := TX12) (NN := 19) [] (q_badW S hJ) dX12_mark_37 kk_X12_mark_X12_bad ml_RX12_62 mwX12_bad ewX12_bad (by decide) rfl rfl rfl rfl (Nat.le_of_ble_eq_true rfl) ?_
    rintro _ S4 ⟨x5, rfl, ex5, jS4, fS4⟩
    refine g_iret dX12_mark_40 rfl rfl ?_
    have q0 : zs_q 0 11 s = false := zs_qF h3
    exact ⟨_, rfl, jS4, fS4.n, fS4.m, fun _ => ⟨ex5, fS4.m⟩, fun z => absurd z (by rw [q0]; exact Bool.false_ne_true)⟩
  · have h3 := zs_b1 h3
    obtain ⟨s', s'a, s'b, rfl⟩ := zs_rng h3 (by omega)
    refine g_iload_n dX12_mark_12 rfl rfl ?_
    refine g_i2l dX12_mark_13 rfl ?_
    refine g_lconst (v := 0) dX12_mark_14 (by decide) ?_
    refine g_ldc2 (v := 99) dX12_mark_15 cl_RX12_210 ?_
    refine g_callS [.long (Int32.toInt64 k), .long 0, .long 99] [] (z_in S k 0 99 (by decide) (by decide)) dX12_mark_18 kk_X12_mark_X12_in ml_RX12_54 swX12_in rfl rfl (Nat.le_of_ble_eq_true rfl) ?_
    rintro _ _ ⟨_, rfl, rfl, rfl⟩
    refine g_if_eq 36 dX12_mark_21 (by decide) (fun h8 => ?_) (fun h8 => ?_)
    · have h8 := zs_b0 h8
      refine g_aload_n dX12_mark_36 rfl rfl ?_
      refine g_callV (T := TX12) (NN := 19) [] (q_badW S hJ) dX12_mark_37 kk_X12_mark_X12_bad ml_RX12_62 mwX12_bad ewX12_bad (by decide) rfl rfl rfl rfl (Nat.le_of_ble_eq_true rfl) ?_
      rintro _ S9 ⟨x10, rfl, ex10, jS9, fS9⟩
      refine g_iret dX12_mark_40 rfl rfl ?_
      have q0 : zs_q 0 11 (nI s') = true := zs_qN (by omega) (by omega) (by decide)
      have q1 : zs_q 0 99 k = false := zs_qF h8
      exact ⟨_, rfl, jS9, fS9.n, fS9.m, fun _ => ⟨ex10, fS9.m⟩, fun z => absurd z (by rw [q0, q1]; exact Bool.false_ne_true)⟩
    · have h8 := zs_b1 h8
      obtain ⟨k', k'a, k'b, rfl⟩ := zs_rng h8 (by omega)
      refine g_iload_n dX12_mark_24 rfl rfl ?_
      refine g_i2l dX12_mark_25 rfl ?_
      refine g_lconst (v := 0) dX12_mark_26 (by decide) ?_
      refine g_ldc2 (v := 30) dX12_mark_27 cl_RX12_202 ?_
      refine g_callS [.long (Int32.toInt64 y), .long 0, .long 30] [] (z_in S y 0 30 (by decide) (by decide)) dX12_mark_30 kk_X12_mark_X12_in ml_RX12_54 swX12_in rfl rfl (Nat.le_of_ble_eq_true rfl) ?_
      rintro _ _ ⟨_, rfl, rfl, rfl⟩
      refine g_if_ne 41 dX12_mark_33 (by decide) (fun h13 => ?_) (fun h13 => ?_)
      · have h13 := zs_b1 h13
        obtain ⟨y', y'a, y'b, rfl⟩ := zs_rng h13 (by omega)
        refine g_aload_n dX12_mark_41 rfl rfl ?_
        refine g_getR 1 (82) (C := RX12) (T := TX12) (N := 19) dX12_mark_42 (by decide) rfl rfl (by decide) rfl fl_RX12_13 ?_
        refine g_bipush (v := (nI 46)) dX12_mark_45 rfl ?_
        refine g_ialdN (v := (nI m)) dX12_mark_47 (by decide) rfl (by omega) (by decide) hm ?_
        refine g_istore (lv' := [(4, .int (nI m)), (0, .ref 80), (1, .int (nI s')), (2, .int (nI k')), (3, .int (nI y'))]) dX12_mark_48 (by decide) rfl ?_
        refine g_iload dX12_mark_50 rfl ?_
        refine g_bipush (v := (nI 6)) dX12_mark_52 rfl ?_
        refine g_ic_neN 62 dX12_mark_54 (by decide) (by omega) (by omega) (fun h14 => ?_) (fun h14 => ?_)
        · refine g_aload_n dX12_mark_62 rfl rfl ?_
          refine g_getR 1 (82) (C := RX12) (T := TX12) (N := 19) dX12_mark_63 (by decide) rfl rfl (by decide) rfl fl_RX12_13 ?_
          refine g_bipush (v := (nI 47)) dX12_mark_66 rfl ?_
          refine g_iload dX12_mark_68 rfl ?_
          refine g_iaddN dX12_mark_70 ?_
          refine g_iload_n dX12_mark_71 rfl rfl ?_
          refine g_iastN dX12_mark_72 (by decide) rfl (by omega) (by decide) ?_
          refine g_aload_n dX12_mark_73 rfl rfl ?_
          refine g_getR 1 (82) (C := RX12) (T := TX12) (N := 19) dX12_mark_74 (by decide) rfl rfl (by decide) rfl fl_RX12_13 ?_
          refine g_bipush (v := (nI 53)) dX12_mark_77 rfl ?_
          refine g_iload dX12_mark_79 rfl ?_
          refine g_iaddN dX12_mark_81 ?_
          refine g_iload_n dX12_mark_82 rfl rfl ?_
          refine g_iastN dX12_mark_83 (by decide) rfl (by omega) (by decide) ?_
          refine g_aload_n dX12_mark_84 rfl rfl ?_
          refine g_getR 1 (82) (C := RX12) (T := TX12) (N := 19) dX12_mark_85 (by decide) rfl rfl (by decide) rfl fl_RX12_13 ?_
          refine g_bipush (v := (nI 59)) dX12_mark_88 rfl ?_
          refine g_iload dX12_mark_90 rfl ?_
          refine g_iaddN dX12_mark_92 ?_
          refine g_iload_n dX12_mark_93 rfl rfl ?_
          refine g_iastN dX12_mark_94 (by decide) rfl (by omega) (by decide) ?_
          refine g_aload_n dX12_mark_95 rfl rfl ?_
          refine g_getR 1 (82) (C := RX12) (T := TX12) (N := 19) dX12_mark_96 (by decide) rfl rfl (by decide) rfl fl_RX12_13 ?_
          refine g_bipush (v := (nI 46)) dX12_mark_99 rfl ?_
          refine g_dup2 dX12_mark_101 rfl rfl ?_
          refine g_ialdN (v := (nI m)) dX12_mark_102 (by decide) rfl (by omega) (by decide) ((zs_up_m (by omega)).trans ((zs_up_m (by omega)).trans ((zs_up_m (by omega)).trans hm))) ?_
          refine g_iconst (v := (nI 1)) dX12_mark_103 rfl ?_
          refine g_iaddN dX12_mark_104 ?_
          refine g_iastN dX12_mark_105 (by decide) rfl (by omega) (by decide) ?_
          refine g_aload_n dX12_mark_106 rfl rfl ?_
          refine g_getR 1 (82) (C := RX12) (T := TX12) (N := 19) dX12_mark_107 (by decide) rfl rfl (by decide) rfl fl_RX12_13 ?_
          refine g_bipush (v := (nI 46)) dX12_mark_110 rfl ?_
          refine g_ialdN (v := (nI (m + 1))) dX12_mark_112 (by decide) rfl (by omega) (by decide) zs_up_q ?_
          refine g_iret dX12_mark_113 rfl rfl ?_
          have q0 : zs_q 0 11 (nI s') = true := zs_qN (by omega) (by omega) (by decide)
          have q1 : zs_q 0 99 (nI k') = true := zs_qN (by omega) (by omega) (by decide)
          have q2 : zs_q 0 30 (nI y') = true := zs_qN (by omega) (by omega) (by decide)
          exact ⟨_, rfl, ((((((((hJ).up (zs_okN2 (rg_82_47_52 _ (by omega) (by omega)) (by omega)))).up (zs_okN2 (rg_82_53_58 _ (by omega) (by omega)) (by omega)))).up (zs_okN2 (rg_82_59_64 _ (by omega) (by omega)) (by omega)))).up (zs_okR2 rfl (by omega) (by omega) (by omega))), ((((((((zs_fm.rf).tr (zs_fm.up rfl))).tr (zs_fm.up rfl))).tr (zs_fm.up rfl))).tr (zs_fm.up rfl)), fun i h65 hp => by
            have hp : ¬ (i = 46 ∨ i = 47 + m ∨ i = 53 + m ∨ i = 59 + m) := hp
            exact (zs_up_m (by omega)).trans ((zs_up_m (by omega)).trans ((zs_up_m (by omega)).trans ((zs_up_m (by omega))))), fun z => absurd z (by rw [q0, q1, q2]; decide), fun _ => ⟨fun z => absurd z (by omega), fun _ => ⟨rfl, zs_up_q, (zs_up_m (by omega)).trans ((zs_up_m (by omega)).trans ((zs_up_m (by omega)).trans (zs_up_q))), (zs_up_m (by omega)).trans ((zs_up_m (by omega)).trans (zs_up_q)), (zs_up_m (by omega)).trans (zs_up_q)⟩⟩⟩
        · refine g_aload_n dX12_mark_57 rfl rfl ?_
          refine g_callV (T := TX12) (NN := 19) [] (q_fullW S hJ) dX12_mark_58 kk_X12_mark_X12_full ml_RX12_66 mwX12_full ewX12_full (by decide) rfl rfl rfl rfl (Nat.le_of_ble_eq_true rfl) ?_
          rintro _ S15 ⟨x16, rfl, ex16, jS15, fS15⟩
          refine g_iret dX12_mark_61 rfl rfl ?_
          have q0 : zs_q 0 11 (nI s') = true := zs_qN (by omega) (by omega) (by decide)
          have q1 : zs_q 0 99 (nI k') = true := zs_qN (by omega) (by omega) (by decide)
          have q2 : zs_q 0 30 (nI y') = true := zs_qN (by omega) (by omega) (by decide)
          exact ⟨_, rfl, jS15, fS15.n, fS15.m, fun z => absurd z (by rw [q0, q1, q2]; decide), fun _ => ⟨fun _ => ⟨ex16, fS15.m⟩, fun z => absurd z (by omega)⟩⟩
      · have h13 := zs_b0 h13
        refine g_aload_n dX12_mark_36 rfl rfl ?_
        refine g_callV (T := TX12) (NN := 19) [] (q_badW S hJ) dX12_mark_37 kk_X12_mark_X12_bad ml_RX12_62 mwX12_bad ewX12_bad (by decide) rfl rfl rfl rfl (Nat.le_of_ble_eq_true rfl) ?_
        rintro _ S17 ⟨x18, rfl, ex18, jS17, fS17⟩
        refine g_iret dX12_mark_40 rfl rfl ?_
        have q0 : zs_q 0 11 (nI s') = true := zs_qN (by omega) (by omega) (by decide)
        have q1 : zs_q 0 99 (nI k') = true := zs_qN (by omega) (by omega) (by decide)
        have q2 : zs_q 0 30 y = false := zs_qF h13
        exact ⟨_, rfl, jS17, fS17.n, fS17.m, fun _ => ⟨ex18, fS17.m⟩, fun z => absurd z (by rw [q0, q1, q2]; exact Bool.false_ne_true)⟩
def zs_wh (k : Nat) : Nat := if k = 0 then 8 else if k = 1 then 21 else 46
set_option maxRecDepth 100000 in
theorem y_forgetW (w : Int32) (S : zs_S) (hJ : zs_J S) : zs_Ci MX12_forget [.ref 80, .int w] S (fun x S2 => zs_J S2 ∧ zs_fm S S2 ∧ (zs_q 0 2 w = false → x = (-2) ∧ zs_mk zs_N0 S S2) ∧ ∀ k, k < 3 → w = nI k → x = S.1 82 (zs_wh k) ∧ S2.1 82 (zs_wh k) = nI 0 ∧ zs_mk (fun i => i = zs_wh k) S S2) := by
  refine zs_C.of (by decide) (Nat.le_of_ble_eq_true rfl) ?_
  show zs_P MX12_forget 0 [(0, .ref 80), (1, .int w)] [] S _
  refine g_iload_n dX12_forget_0 rfl rfl ?_
  refine g_i2l dX12_forget_1 rfl ?_
  refine g_lconst (v := 0) dX12_forget_2 (by decide) ?_
  refine g_ldc2 (v := 2) dX12_forget_3 cl_RX12_50 ?_
  refine g_callS [.long (Int32.toInt64 w), .long 0, .long 2] [] (z_in S w 0 2 (by decide) (by decide)) dX12_forget_6 kk_X12_forget_X12_in ml_RX12_54 swX12_in rfl rfl (Nat.le_of_ble_eq_true rfl) ?_
  rintro _ _ ⟨_, rfl, rfl, rfl⟩
  refine g_if_ne 17 dX12_forget_9 (by decide) (fun h3 => ?_) (fun h3 => ?_)
  · have h3 := zs_b1 h3
    obtain ⟨w', w'a, w'b, rfl⟩ := zs_rng h3 (by omega)
    refine g_iload_n dX12_forget_17 rfl rfl ?_
    refine g_if_neN 26 dX12_forget_18 (by decide) (by omega) (fun h4 => ?_) (fun h4 => ?_)
    · refine g_iload_n dX12_forget_26 rfl rfl ?_
      refine g_iconst (v := (nI 1)) dX12_forget_27 rfl ?_
      refine g_ic_neN 36 dX12_forget_28 (by decide) (by omega) (by omega) (fun h5 => ?_) (fun h5 => ?_)
      · refine g_bipush (v := (nI 46)) dX12_forget_36 rfl ?_
        refine g_istore_n (lv' := [(2, .int (nI 46)), (0, .ref 80), (1, .int (nI w'))]) dX12_forget_38 rfl (by decide) rfl ?_
        refine g_aload_n dX12_forget_39 rfl rfl ?_
        refine g_getR 1 (82) (C := RX12) (T := TX12) (N := 19) dX12_forget_40 (by decide) rfl rfl (by decide) rfl fl_RX12_13 ?_
        refine g_iload_n dX12_forget_43 rfl rfl ?_
        refine g_ialdN (v := (S.1 82 46)) dX12_forget_44 (by decide) rfl (by omega) (by decide) rfl ?_
        refine g_istore_n (lv' := [(3, .int (S.1 82 46)), (2, .int (nI 46)), (0, .ref 80), (1, .int (nI w'))]) dX12_forget_45 rfl (by decide) rfl ?_
        refine g_aload_n dX12_forget_46 rfl rfl ?_
        refine g_getR 1 (82) (C := RX12) (T := TX12) (N := 19) dX12_forget_47 (by decide) rfl rfl (by decide) rfl fl_RX12_13 ?_
        refine g_iload_n dX12_forget_50 rfl rfl ?_
        refine g_iconst (v := (nI 0)) dX12_forget_51 rfl ?_
        refine g_iastN dX12_forget_52 (by decide) rfl (by omega) (by decide) ?_
        refine g_iload_n dX12_forget_53 rfl rfl ?_
        refine g_iret dX12_forget_54 rfl rfl ?_
        have q0 : zs_q 0 2 (nI w') = true := zs_qN (by omega) (by omega) (by decide)
        exact ⟨_, rfl, ((hJ).up (zs_okR2 rfl (by omega) (by omega) (by omega))), ((zs_fm.rf).tr (zs_fm.up rfl)), fun z => absurd z (by rw [q0]; decide), fun k hk z => by
          obtain rfl : 2 = k := by
            have := (nI_eq (by omega) (by omega)).mp z
            omega
          exact ⟨rfl, zs_up_q, fun i h65 hp => by
            have hp : ¬ i = 46 := hp
            exact zs_up_m (by omega)⟩⟩
      · refine g_bipush (v := (nI 21)) dX12_forget_31 rfl ?_
        refine g_goto 38 dX12_forget_33 (by decide) ?_
        refine g_istore_n (lv' := [(2, .int (nI 21)), (0, .ref 80), (1, .int (nI w'))]) dX12_forget_38 rfl (by decide) rfl ?_
        refine g_aload_n dX12_forget_39 rfl rfl ?_
        refine g_getR 1 (82) (C := RX12) (T := TX12) (N := 19) dX12_forget_40 (by decide) rfl rfl (by decide) rfl fl_RX12_13 ?_
        refine g_iload_n dX12_forget_43 rfl rfl ?_
        refine g_ialdN (v := (S.1 82 21)) dX12_forget_44 (by decide) rfl (by omega) (by decide) rfl ?_
        refine g_istore_n (lv' := [(3, .int (S.1 82 21)), (2, .int (nI 21)), (0, .ref 80), (1, .int (nI w'))]) dX12_forget_45 rfl (by decide) rfl ?_
        refine g_aload_n dX12_forget_46 rfl rfl ?_
        refine g_getR 1 (82) (C := RX12) (T := TX12) (N := 19) dX12_forget_47 (by decide) rfl rfl (by decide) rfl fl_RX12_13 ?_
        refine g_iload_n dX12_forget_50 rfl rfl ?_
        refine g_iconst (v := (nI 0)) dX12_forget_51 rfl ?_
        refine g_iastN dX12_forget_52 (by decide) rfl (by omega) (by decide) ?_
        refine g_iload_n dX12_forget_53 rfl rfl ?_
        refine g_iret dX12_forget_54 rfl rfl ?_
        have q0 : zs_q 0 2 (nI w') = true := zs_qN (by omega) (by omega) (by decide)
        exact ⟨_, rfl, ((hJ).up (zs_okR2 rfl (by omega) (by omega) (by omega))), ((zs_fm.rf).tr (zs_fm.up rfl)), fun z => absurd z (by rw [q0]; decide), fun k hk z => by
          obtain rfl : 1 = k := by
            have := (nI_eq (by omega) (by omega)).mp z
            omega
          exact ⟨rfl, zs_up_q, fun i h65 hp => by
            have hp : ¬ i = 21 := hp
            exact zs_up_m (by omega)⟩⟩
    · refine g_bipush (v := (nI 8)) dX12_forget_21 rfl ?_
      refine g_goto 38 dX12_forget_23 (by decide) ?_
      refine g_istore_n (lv' := [(2, .int (nI 8)), (0, .ref 80), (1, .int (nI w'))]) dX12_forget_38 rfl (by decide) rfl ?_
      refine g_aload_n dX12_forget_39 rfl rfl ?_
      refine g_getR 1 (82) (C := RX12) (T := TX12) (N := 19) dX12_forget_40 (by decide) rfl rfl (by decide) rfl fl_RX12_13 ?_
      refine g_iload_n dX12_forget_43 rfl rfl ?_
      refine g_ialdN (v := (S.1 82 8)) dX12_forget_44 (by decide) rfl (by omega) (by decide) rfl ?_
      refine g_istore_n (lv' := [(3, .int (S.1 82 8)), (2, .int (nI 8)), (0, .ref 80), (1, .int (nI w'))]) dX12_forget_45 rfl (by decide) rfl ?_
      refine g_aload_n dX12_forget_46 rfl rfl ?_
      refine g_getR 1 (82) (C := RX12) (T := TX12) (N := 19) dX12_forget_47 (by decide) rfl rfl (by decide) rfl fl_RX12_13 ?_
      refine g_iload_n dX12_forget_50 rfl rfl ?_
      refine g_iconst (v := (nI 0)) dX12_forget_51 rfl ?_
      refine g_iastN dX12_forget_52 (by decide) rfl (by omega) (by decide) ?_
      refine g_iload_n dX12_forget_53 rfl rfl ?_
      refine g_iret dX12_forget_54 rfl rfl ?_
      have q0 : zs_q 0 2 (nI w') = true := zs_qN (by omega) (by omega) (by decide)
      exact ⟨_, rfl, ((hJ).up (zs_okR2 rfl (by omega) (by omega) (by omega))), ((zs_fm.rf).tr (zs_fm.up rfl)), fun z => absurd z (by rw [q0]; decide), fun k hk z => by
        obtain rfl : 0 = k := by
          have := (nI_eq (by omega) (by omega)).mp z
          omega
        exact ⟨rfl, zs_up_q, fun i h65 hp => by
          have hp : ¬ i = 8 := hp
          exact zs_up_m (by omega)⟩⟩
  · have h3 := zs_b0 h3
    refine g_aload_n dX12_forget_12 rfl rfl ?_
    refine g_callV (T := TX12) (NN := 19) [] (q_badW S hJ) dX12_forget_13 kk_X12_forget_X12_bad ml_RX12_62 mwX12_bad ewX12_bad (by decide) rfl rfl rfl rfl (Nat.le_of_ble_eq_true rfl) ?_
    rintro _ S6 ⟨x7, rfl, ex7, jS6, fS6⟩
    refine g_iret dX12_forget_16 rfl rfl ?_
    have q0 : zs_q 0 2 w = false := zs_qF h3
    exact ⟨_, rfl, jS6, fS6.n, fun _ => ⟨ex7, fS6.m⟩, fun k hk z => absurd q0 (by rw [z, zs_qN (by omega) (by omega) (by decide)]; decide)⟩
set_option maxRecDepth 100000 in
theorem y_carriesE (b t f g m : Nat) (hb : b % 25 = 0) (ht : t % 25 = 0) (hb2 : b ≤ 450) (ht2 : t ≤ 450) (hf : f = 0 ∨ f = 66 ∨ f = 132) (hg : g = 0 ∨ g = 66 ∨ g = 132) (hfg : f + 66 ≤ g ∨ g + 66 ≤ f) (h1 : 1 ≤ m) (h2 : m ≤ 12) (S0 : zs_S) (hJ0 : zs_J S0) (h0 : S0.1 82 f = nI m) : zs_Cv MX12_carries [.ref 80, .int (nI b), .int (nI t), .int (nI f), .int (nI g)] S0 (fun S2 => zs_oD S0 S2 f g m 66) := by
  refine zs_C.of (by decide) (Nat.le_of_ble_eq_true rfl) ?_
  show zs_P MX12_carries 0 [(0, .ref 80), (1, .int (nI b)), (2, .int (nI t)), (3, .int (nI f)), (4, .int (nI g))] [] S0 _
  have key2 : ∀ (d i : Nat), 1 ≤ i → i + d = 66 → ∀ S, zs_oD S0 S f g m i → zs_P MX12_carries 38 [(5, .int (nI i)), (0, .ref 80), (1, .int (nI b)), (2, .int (nI t)), (3, .int (nI f)), (4, .int (nI g))] [] S (fun v S' => v = none ∧ zs_oD S0 S' f g m 66) := by
    intro d
    induction d with
    | zero =>
      intro i h3 hi S hS
      obtain rfl : i = 66 := by omega
      refine g_iload dX12_carries_38 rfl ?_
      refine g_bipush (v := (nI 66)) dX12_carries_40 rfl ?_
      refine g_ic_geN 70 dX12_carries_42 (by decide) (by omega) (by omega) (fun _ => ?_) (fun z => absurd z (by omega))
      refine g_ret dX12_carries_70 rfl ?_
      exact ⟨rfl, hS⟩
    | succ d ih =>
      intro i h3 hi S hS
      refine g_iload dX12_carries_38 rfl ?_
      refine g_bipush (v := (nI 66)) dX12_carries_40 rfl ?_
      refine g_ic_geN 70 dX12_carries_42 (by decide) (by omega) (by omega) (fun z => absurd z (by omega)) (fun _ => ?_)
      refine g_aload_n dX12_carries_45 rfl rfl ?_
      refine g_getR 1 (82) (C := RX12) (T := TX12) (N := 19) dX12_carries_46 (by decide) rfl rfl (by decide) rfl fl_RX12_13 ?_
      refine g_iload dX12_carries_49 rfl ?_
      refine g_iload dX12_carries_51 rfl ?_
      refine g_iaddN dX12_carries_53 ?_
      refine g_aload_n dX12_carries_54 rfl rfl ?_
      refine g_getR 1 (82) (C := RX12) (T := TX12) (N := 19) dX12_carries_55 (by decide) rfl rfl (by decide) rfl fl_RX12_13 ?_
      refine g_iload_n dX12_carries_58 rfl rfl ?_
      refine g_iload dX12_carries_59 rfl ?_
      refine g_iaddN dX12_carries_61 ?_
      refine g_aldT2 (j := g + i) hS.1.1 dX12_carries_62 (by omega) (by omega) (by omega) (fun hv => ?_)
      refine g_iastN dX12_carries_63 (by decide) rfl (by omega) (by decide) ?_
      refine g_iinc (v := (nI (i + 1))) (lv' := [(5, .int (nI (i + 1))), (0, .ref 80), (1, .int (nI b)), (2, .int (nI t)), (3, .int (nI f)), (4, .int (nI g))]) dX12_carries_64 rfl (nI_1 i) (by decide) rfl ?_
      refine g_goto 38 dX12_carries_67 (by decide) ?_
      exact ih (i + 1) (by omega) (by omega) _ (hS.st (by omega) (by omega) hfg hv)
  have hk : ∀ S, zs_oS S0 S → zs_P MX12_carries 35 [(5, .int (nI 225)), (0, .ref 80), (1, .int (nI b)), (2, .int (nI t)), (3, .int (nI f)), (4, .int (nI g))] [] S (fun v S' => v = none ∧ zs_oD S0 S' f g m 66) := by
    intro S hS
    refine g_iconst (v := (nI 0)) dX12_carries_35 rfl ?_
    refine g_istore (lv' := [(5, .int (nI 0)), (0, .ref 80), (1, .int (nI b)), (2, .int (nI t)), (3, .int (nI f)), (4, .int (nI g))]) dX12_carries_36 (by decide) rfl ?_
    refine g_iload dX12_carries_38 rfl ?_
    refine g_bipush (v := (nI 66)) dX12_carries_40 rfl ?_
    refine g_ic_geN 70 dX12_carries_42 (by decide) (by omega) (by omega) (fun z => absurd z (by omega)) (fun _ => ?_)
    refine g_aload_n dX12_carries_45 rfl rfl ?_
    refine g_getR 1 (82) (C := RX12) (T := TX12) (N := 19) dX12_carries_46 (by decide) rfl rfl (by decide) rfl fl_RX12_13 ?_
    refine g_iload dX12_carries_49 rfl ?_
    refine g_iload dX12_carries_51 rfl ?_
    refine g_iaddN dX12_carries_53 ?_
    refine g_aload_n dX12_carries_54 rfl rfl ?_
    refine g_getR 1 (82) (C := RX12) (T := TX12) (N := 19) dX12_carries_55 (by decide) rfl rfl (by decide) rfl fl_RX12_13 ?_
    refine g_iload_n dX12_carries_58 rfl rfl ?_
    refine g_iload dX12_carries_59 rfl ?_
    refine g_iaddN dX12_carries_61 ?_
    refine g_ialdN (v := (nI m)) dX12_carries_62 (by decide) rfl (by omega) (by decide) (by rw [hS.2.2.1, Nat.add_zero]; exact h0) ?_
    refine g_iastN dX12_carries_63 (by decide) rfl (by omega) (by decide) ?_
    refine g_iinc (v := (nI (0 + 1))) (lv' := [(5, .int (nI (0 + 1))), (0, .ref 80), (1, .int (nI b)), (2, .int (nI t)), (3, .int (nI f)), (4, .int (nI g))]) dX12_carries_64 rfl (nI_1 0) (by decide) rfl ?_
    refine g_goto 38 dX12_carries_67 (by decide) ?_
    exact key2 65 1 (by omega) (by omega) _ (zs_oD.s0 hS h0 hg h1 h2)
  have key1 : ∀ (d i : Nat), i + d = 225 → ∀ S, zs_oS S0 S → zs_P MX12_carries 3 [(5, .int (nI i)), (0, .ref 80), (1, .int (nI b)), (2, .int (nI t)), (3, .int (nI f)), (4, .int (nI g))] [] S (fun v S' => v = none ∧ zs_oD S0 S' f g m 66) := by
    intro d
    induction d with
    | zero =>
      intro i hi S hS
      obtain rfl : i = 225 := by omega
      refine g_iload dX12_carries_3 rfl ?_
      refine g_sipush (v := (nI 225)) dX12_carries_5 rfl ?_
      refine g_ic_geN 35 dX12_carries_8 (by decide) (by omega) (by omega) (fun _ => ?_) (fun z => absurd z (by omega))
      exact hk S hS
    | succ d ih =>
      intro i hi S hS
      refine g_iload dX12_carries_3 rfl ?_
      refine g_sipush (v := (nI 225)) dX12_carries_5 rfl ?_
      refine g_ic_geN 35 dX12_carries_8 (by decide) (by omega) (by omega) (fun z => absurd z (by omega)) (fun _ => ?_)
      refine g_aload_n dX12_carries_11 rfl rfl ?_
      refine g_getR 0 (81) (C := RX12) (T := TX12) (N := 19) dX12_carries_12 (by decide) rfl rfl (by decide) rfl fl_RX12_7 ?_
      refine g_iload_n dX12_carries_15 rfl rfl ?_
      refine g_iload dX12_carries_16 rfl ?_
      refine g_iaddN dX12_carries_18 ?_
      refine g_aload_n dX12_carries_19 rfl rfl ?_
      refine g_getR 0 (81) (C := RX12) (T := TX12) (N := 19) dX12_carries_20 (by decide) rfl rfl (by decide) rfl fl_RX12_7 ?_
      refine g_iload_n dX12_carries_23 rfl rfl ?_
      refine g_iload dX12_carries_24 rfl ?_
      refine g_iaddN dX12_carries_26 ?_
      refine g_aldX (j := t + i) hS.1 dX12_carries_27 (by omega) (by omega) (fun v hv => ?_)
      refine g_iastN dX12_carries_28 (by decide) rfl (by omega) (by decide) ?_
      refine g_iinc (v := (nI (i + 1))) (lv' := [(5, .int (nI (i + 1))), (0, .ref 80), (1, .int (nI b)), (2, .int (nI t)), (3, .int (nI f)), (4, .int (nI g))]) dX12_carries_29 rfl (nI_1 i) (by decide) rfl ?_
      refine g_goto 3 dX12_carries_32 (by decide) ?_
      exact ih (i + 1) (by omega) _ (hS.up hv)
  refine g_iconst (v := nI 0) dX12_carries_0 rfl ?_
  refine g_istore (lv' := [(5, .int (nI 0)), (0, .ref 80), (1, .int (nI b)), (2, .int (nI t)), (3, .int (nI f)), (4, .int (nI g))]) dX12_carries_1 (by decide) rfl ?_
  exact key1 225 0 (by omega) S0 (zs_oS.rf hJ0)
set_option maxRecDepth 100000 in
theorem y_imageW (a : Int32) (S : zs_S) (hJ : zs_J S) : zs_Ci MX12_image [.ref 80, .int a] S (fun x S2 => ((zs_q 0 1 a = false → zs_mk zs_N0 S S2) ∧ ∀ k, k < 2 → a = nI k → (∀ i, i < 66 → S2.1 82 (66 * (k + 1) + i) = S.1 82 i) ∧ ∀ i, (i < 66 * (k + 1) ∨ 66 * (k + 1) + 66 ≤ i) → S2.1 82 i = S.1 82 i) ∧ S2.1 84 = S.1 84 ∧ zs_J S2 ∧ zs_fx S S2 ∧ S2.1 80 3 = S.1 80 3 ∧ ((∃ k, k < 2 ∧ a = nI k ∧ x = nI 1 ∧ ∀ i, S2.1 83 i = if i = k then nI 1 else S.1 83 i) ∨ (¬ (nI 0 ≤ a ∧ a ≤ nI 1) ∧ x = (-2) ∧ ∀ i, S2.1 83 i = S.1 83 i))) := by
  obtain ⟨m, g1, g2, g3⟩ := hJ.1 82 0 1 12 rfl
  refine zs_C.of (by decide) (Nat.le_of_ble_eq_true rfl) ?_
  show zs_P MX12_image 0 [(0, .ref 80), (1, .int a)] [] S _
  refine g_iload_n dX12_image_0 rfl rfl ?_
  refine g_i2l dX12_image_1 rfl ?_
  refine g_lconst (v := 0) dX12_image_2 (by decide) ?_
  refine g_lconst (v := 1) dX12_image_3 (by decide) ?_
  refine g_callS [.long (Int32.toInt64 a), .long 0, .long 1] [] (z_in S a 0 1 (by decide) (by decide)) dX12_image_4 kk_X12_image_X12_in ml_RX12_54 swX12_in rfl rfl (Nat.le_of_ble_eq_true rfl) ?_
  rintro _ _ ⟨_, rfl, rfl, rfl⟩
  refine g_if_ne 15 dX12_image_7 (by decide) (fun h3 => ?_) (fun h3 => ?_)
  · have h3 := zs_b1 h3
    obtain ⟨a', a'a, a'b, rfl⟩ := zs_rng h3 (by omega)
    refine g_aload_n dX12_image_15 rfl rfl ?_
    refine g_iconst (v := (nI 0)) dX12_image_16 rfl ?_
    refine g_sipush (v := (nI 225)) dX12_image_17 rfl ?_
    refine g_iload_n dX12_image_20 rfl rfl ?_
    refine g_iconst (v := (nI 1)) dX12_image_21 rfl ?_
    refine g_iaddN dX12_image_22 ?_
    refine g_imulN dX12_image_23 ?_
    refine g_iconst (v := (nI 0)) dX12_image_24 rfl ?_
    refine g_bipush (v := (nI 66)) dX12_image_25 rfl ?_
    refine g_iload_n dX12_image_27 rfl rfl ?_
    refine g_iconst (v := (nI 1)) dX12_image_28 rfl ?_
    refine g_iaddN dX12_image_29 ?_
    refine g_imulN dX12_image_30 ?_
    refine g_callV (T := TX12) (NN := 19) [] (y_carriesE 0 (225 * (a' + 1)) 0 (66 * (a' + 1)) m (by omega) (by omega) (by omega) (by omega) (by omega) (by omega) (by omega) g1 g2 S hJ g3) dX12_image_31 kk_X12_image_X12_carries ml_RX12_245 mwX12_carries ewX12_carries (by decide) rfl rfl rfl rfl (Nat.le_of_ble_eq_true rfl) ?_
    rintro _ S4 ⟨rfl, jS4, kS4, lS4⟩
    refine g_aload_n dX12_image_34 rfl rfl ?_
    refine g_getR 2 (83) (C := RX12) (T := TX12) (N := 19) dX12_image_35 (by decide) rfl rfl (by decide) rfl fl_RX12_16 ?_
    refine g_iload_n dX12_image_38 rfl rfl ?_
    refine g_iconst (v := (nI 1)) dX12_image_39 rfl ?_
    refine g_iastN dX12_image_40 (by decide) rfl (by omega) (by decide) ?_
    refine g_iconst (v := (nI 1)) dX12_image_41 rfl ?_
    refine g_iret dX12_image_42 rfl rfl ?_
    exact ⟨_, rfl, ⟨fun z => absurd z (by rw [zs_qN (by omega) (by omega) (by decide)]; decide), fun k hk z => by
        obtain rfl : a' = k := (nI_eq (by omega) (by omega)).mp z
        exact ⟨fun i hi => (zs_up_m (by omega)).trans ((kS4 i hi).trans (by rw [Nat.zero_add])), fun i hi => (zs_up_m (by omega)).trans (lS4 i (by omega))⟩⟩, funext fun i => (zs_up_m (by omega)).trans (congrFun jS4.2.1.t i), jS4.1.kp (fun _ => ⟨m, g1, g2, jS4.2.2⟩), fun b i hb => ⟨(zs_up_m (by omega)).trans (jS4.2.1.x b i hb).1, (jS4.2.1.x b i hb).2⟩, (zs_up_m (by omega)).trans jS4.2.1.l, Or.inl ⟨a', by omega, rfl, rfl, fun i => by
        show zs_up S4.1 83 a' (nI 1) 83 i = _
        by_cases hi : i = a'
        · rw [if_pos hi, hi]; exact zs_up_s
        · rw [if_neg hi]; exact (zs_up_n (fun q => hi q.2)).trans (jS4.2.1.k i)⟩⟩
  · have h3 := zs_b0 h3
    refine g_aload_n dX12_image_10 rfl rfl ?_
    refine g_callV (T := TX12) (NN := 19) [] (q_badW S hJ) dX12_image_11 kk_X12_image_X12_bad ml_RX12_62 mwX12_bad ewX12_bad (by decide) rfl rfl rfl rfl (Nat.le_of_ble_eq_true rfl) ?_
    rintro _ S5 ⟨x6, rfl, ex6, jS5, fS5⟩
    refine g_iret dX12_image_14 rfl rfl ?_
    exact ⟨_, rfl, ⟨fun _ => fS5.m, fun k hk z => absurd (show nI 0 ≤ a ∧ a ≤ nI 1 from by rw [z]; exact ⟨nI_le (by omega) (by omega), nI_le (by omega) (by omega)⟩) h3⟩, (fS5.n).t, jS5, (fS5.n).x, (fS5.n).l, Or.inr ⟨h3, ex6, (fS5.n).k⟩⟩
set_option maxRecDepth 100000 in
theorem y_fromW (a : Int32) (S : zs_S) (hJ : zs_J S) : zs_Ci MX12_from [.ref 80, .int a] S (fun x S2 => (((∀ k, k < 2 → a = nI k → S.1 83 k = 0) → zs_mk zs_N0 S S2) ∧ ∀ k, k < 2 → a = nI k → ¬ S.1 83 k = 0 → (∀ i, i < 66 → S2.1 82 i = S.1 82 (66 * (k + 1) + i)) ∧ ∀ i, 66 ≤ i → S2.1 82 i = S.1 82 i) ∧ zs_J S2 ∧ zs_fm S S2 ∧ ((¬ (nI 0 ≤ a ∧ a ≤ nI 1) ∧ x = (-2)) ∨ ∃ k, k < 2 ∧ a = nI k ∧ ((S.1 83 k = 0 ∧ x = (-3)) ∨ (¬ S.1 83 k = 0 ∧ x = nI 1)))) := by
  refine zs_C.of (by decide) (Nat.le_of_ble_eq_true rfl) ?_
  show zs_P MX12_from 0 [(0, .ref 80), (1, .int a)] [] S _
  refine g_iload_n dX12_from_0 rfl rfl ?_
  refine g_i2l dX12_from_1 rfl ?_
  refine g_lconst (v := 0) dX12_from_2 (by decide) ?_
  refine g_lconst (v := 1) dX12_from_3 (by decide) ?_
  refine g_callS [.long (Int32.toInt64 a), .long 0, .long 1] [] (z_in S a 0 1 (by decide) (by decide)) dX12_from_4 kk_X12_from_X12_in ml_RX12_54 swX12_in rfl rfl (Nat.le_of_ble_eq_true rfl) ?_
  rintro _ _ ⟨_, rfl, rfl, rfl⟩
  refine g_if_ne 15 dX12_from_7 (by decide) (fun h3 => ?_) (fun h3 => ?_)
  · have h3 := zs_b1 h3
    obtain ⟨a', a'a, a'b, rfl⟩ := zs_rng h3 (by omega)
    refine g_aload_n dX12_from_15 rfl rfl ?_
    refine g_getR 2 (83) (C := RX12) (T := TX12) (N := 19) dX12_from_16 (by decide) rfl rfl (by decide) rfl fl_RX12_16 ?_
    refine g_iload_n dX12_from_19 rfl rfl ?_
    refine g_ialdN (v := (S.1 83 a')) dX12_from_20 (by decide) rfl (by omega) (by decide) rfl ?_
    refine g_if_ne 29 dX12_from_21 (by decide) (fun h4 => ?_) (fun h4 => ?_)
    · obtain ⟨m, g1, g2, g3⟩ := (hJ.2 a' (by omega)).resolve_left h4
      refine g_aload_n dX12_from_29 rfl rfl ?_
      refine g_sipush (v := (nI 225)) dX12_from_30 rfl ?_
      refine g_iload_n dX12_from_33 rfl rfl ?_
      refine g_iconst (v := (nI 1)) dX12_from_34 rfl ?_
      refine g_iaddN dX12_from_35 ?_
      refine g_imulN dX12_from_36 ?_
      refine g_iconst (v := (nI 0)) dX12_from_37 rfl ?_
      refine g_bipush (v := (nI 66)) dX12_from_38 rfl ?_
      refine g_iload_n dX12_from_40 rfl rfl ?_
      refine g_iconst (v := (nI 1)) dX12_from_41 rfl ?_
      refine g_iaddN dX12_from_42 ?_
      refine g_imulN dX12_from_43 ?_
      refine g_iconst (v := (nI 0)) dX12_from_44 rfl ?_
      refine g_callV (T := TX12) (NN := 19) [] (y_carriesE (225 * (a' + 1)) 0 (66 * (a' + 1)) 0 m (by omega) (by omega) (by omega) (by omega) (by omega) (by omega) (by omega) g1 g2 S hJ g3) dX12_from_45 kk_X12_from_X12_carries ml_RX12_245 mwX12_carries ewX12_carries (by decide) rfl rfl rfl rfl (Nat.le_of_ble_eq_true rfl) ?_
      rintro _ S5 ⟨rfl, jS5, kS5, lS5⟩
      refine g_iconst (v := (nI 1)) dX12_from_48 rfl ?_
      refine g_iret dX12_from_49 rfl rfl ?_
      exact ⟨_, rfl, ⟨fun y => absurd (y a' (by omega) rfl) h4, fun k hk z y => by
          obtain rfl : a' = k := (nI_eq (by omega) (by omega)).mp z
          exact ⟨fun i hi => by
            have := kS5 i hi
            rw [Nat.zero_add] at this
            exact this, fun i hi => lS5 i (by omega)⟩⟩, jS5.1, ((zs_fm.rf).tr jS5.2.1), Or.inr ⟨a', by omega, rfl, Or.inr ⟨h4, rfl⟩⟩⟩
    · refine g_aload_n dX12_from_24 rfl rfl ?_
      refine g_callV (T := TX12) (NN := 19) [] (q_noW S hJ) dX12_from_25 kk_X12_from_X12_no ml_RX12_178 mwX12_no ewX12_no (by decide) rfl rfl rfl rfl (Nat.le_of_ble_eq_true rfl) ?_
      rintro _ S6 ⟨x7, rfl, ex7, jS6, fS6⟩
      refine g_iret dX12_from_28 rfl rfl ?_
      exact ⟨_, rfl, ⟨fun _ => fS6.m, fun k hk z y => by
          obtain rfl : a' = k := (nI_eq (by omega) (by omega)).mp z
          exact absurd h4 y⟩, jS6, fS6.n, Or.inr ⟨a', by omega, rfl, Or.inl ⟨h4, ex7⟩⟩⟩
  · have h3 := zs_b0 h3
    refine g_aload_n dX12_from_10 rfl rfl ?_
    refine g_callV (T := TX12) (NN := 19) [] (q_badW S hJ) dX12_from_11 kk_X12_from_X12_bad ml_RX12_62 mwX12_bad ewX12_bad (by decide) rfl rfl rfl rfl (Nat.le_of_ble_eq_true rfl) ?_
    rintro _ S8 ⟨x9, rfl, ex9, jS8, fS8⟩
    refine g_iret dX12_from_14 rfl rfl ?_
    exact ⟨_, rfl, ⟨fun _ => fS8.m, fun k hk z _ => absurd (show nI 0 ≤ a ∧ a ≤ nI 1 from by rw [z]; exact ⟨nI_le (by omega) (by omega), nI_le (by omega) (by omega)⟩) h3⟩, jS8, fS8.n, Or.inl ⟨h3, ex9⟩⟩
theorem y_clearW (S : zs_S) (hJ : zs_J S) : zs_Ci MX12_clear [.ref 80] S (fun x S2 => zs_mk zs_N0 S S2 ∧ zs_J S2 ∧ zs_fx S S2 ∧ (∀ i, S2.1 83 i = S.1 83 i) ∧ S2.1 80 3 = nI 0 ∧ x = S.1 80 3) := by
  obtain ⟨m, h1, h2, h3⟩ := hJ.1 80 3 0 150 rfl
  refine zs_C.of (by decide) (Nat.le_of_ble_eq_true rfl) ?_
  show zs_P MX12_clear 0 [(0, .ref 80)] [] S _
  refine g_aload_n dX12_clear_0 rfl rfl ?_
  refine g_getV 3 (C := RX12) (T := TX12) (N := 19) (v := (nI m)) dX12_clear_1 (by decide) rfl rfl (by decide) rfl fl_RX12_75 h3 ?_
  refine g_istore_n (lv' := [(1, .int (nI m)), (0, .ref 80)]) dX12_clear_4 rfl (by decide) rfl ?_
  refine g_aload_n dX12_clear_5 rfl rfl ?_
  refine g_iconst (v := (nI 0)) dX12_clear_6 rfl ?_
  refine g_putI 3 (C := RX12) (T := TX12) (N := 19) (ty := .int) dX12_clear_7 (by decide) rfl rfl (by decide) rfl fl_RX12_75 rfl (by decide +kernel) ⟨rfl, rfl⟩ ?_
  refine g_iload_n dX12_clear_10 rfl rfl ?_
  refine g_iret dX12_clear_11 rfl rfl ?_
  exact ⟨_, rfl, fun i _ _ => zs_up_m (by omega), hJ.ln (by omega), fun b i hb => ⟨zs_up_m (by omega), rfl⟩, fun i => zs_up_m (by omega), zs_up_q, h3.symm⟩
set_option maxRecDepth 100000 in
theorem y_typeW (c : Int32) (m : Nat) (S : zs_S) (hJ : zs_J S) (g3 : S.1 80 3 = nI m) (hm : m ≤ 150) : zs_Ci MX12_type [.ref 80, .int c] S (fun x S2 => zs_mk zs_N0 S S2 ∧ zs_J S2 ∧ zs_fx S S2 ∧ (∀ i, S2.1 83 i = S.1 83 i) ∧ ((¬ (nI 0 ≤ c ∧ c ≤ nI 127) ∧ x = (-2) ∧ S2.1 80 3 = S.1 80 3 ∧ S2.1 84 = S.1 84) ∨ ((nI 0 ≤ c ∧ c ≤ nI 127) ∧ ((150 ≤ m ∧ x = (-4) ∧ S2.1 80 3 = S.1 80 3 ∧ S2.1 84 = S.1 84) ∨ (m < 150 ∧ x = nI (m + 1) ∧ S2.1 80 3 = nI (m + 1) ∧ S2.1 84 m = c ∧ ∀ i, i ≠ m → S2.1 84 i = S.1 84 i))))) := by
  have hmN : (nI m).toNatClampNeg = m := Int32.toNatClampNeg_ofNat_of_lt (by omega)
  refine zs_C.of (by decide) (Nat.le_of_ble_eq_true rfl) ?_
  show zs_P MX12_type 0 [(0, .ref 80), (1, .int c)] [] S _
  refine g_iload_n dX12_type_0 rfl rfl ?_
  refine g_i2l dX12_type_1 rfl ?_
  refine g_lconst (v := 0) dX12_type_2 (by decide) ?_
  refine g_ldc2 (v := 127) dX12_type_3 cl_RX12_73 ?_
  refine g_callS [.long (Int32.toInt64 c), .long 0, .long 127] [] (z_in S c 0 127 (by decide) (by decide)) dX12_type_6 kk_X12_type_X12_in ml_RX12_54 swX12_in rfl rfl (Nat.le_of_ble_eq_true rfl) ?_
  rintro _ _ ⟨_, rfl, rfl, rfl⟩
  refine g_if_ne 17 dX12_type_9 (by decide) (fun h3 => ?_) (fun h3 => ?_)
  · have h3 := zs_b1 h3
    obtain ⟨c', c'a, c'b, rfl⟩ := zs_rng h3 (by omega)
    have hcc : nI 0 ≤ (nI c') ∧ (nI c') ≤ nI 127 := ⟨nI_le (by omega) (by omega), nI_le (by omega) (by omega)⟩
    refine g_aload_n dX12_type_17 rfl rfl ?_
    refine g_getV 3 (C := RX12) (T := TX12) (N := 19) (v := (nI m)) dX12_type_18 (by decide) rfl rfl (by decide) rfl fl_RX12_75 g3 ?_
    refine g_sipush (v := (nI 150)) dX12_type_21 rfl ?_
    refine g_ic_neN 32 dX12_type_24 (by decide) (by omega) (by omega) (fun h4 => ?_) (fun h4 => ?_)
    · refine g_aload_n dX12_type_32 rfl rfl ?_
      refine g_getR 4 (84) (C := RX12) (T := TX12) (N := 19) dX12_type_33 (by decide) rfl rfl (by decide) rfl fl_RX12_19 ?_
      refine g_aload_n dX12_type_36 rfl rfl ?_
      refine g_getV 3 (C := RX12) (T := TX12) (N := 19) (v := (nI m)) dX12_type_37 (by decide) rfl rfl (by decide) rfl fl_RX12_75 g3 ?_
      refine g_iload_n dX12_type_40 rfl rfl ?_
      refine g_i2b dX12_type_41 rfl ?_
      refine g_bast dX12_type_42 (by decide) rfl (vp_in_nI (by omega) (by omega)) ?_
      refine g_aload_n dX12_type_43 rfl rfl ?_
      refine g_dup dX12_type_44 rfl ?_
      refine g_getV 3 (C := RX12) (T := TX12) (N := 19) (v := (nI m)) dX12_type_45 (by decide) rfl rfl (by decide) rfl fl_RX12_75 ((zs_up_m (by omega)).trans g3) ?_
      refine g_iconst (v := (nI 1)) dX12_type_48 rfl ?_
      refine g_iaddN dX12_type_49 ?_
      refine g_putI 3 (C := RX12) (T := TX12) (N := 19) (ty := .int) dX12_type_50 (by decide) rfl rfl (by decide) rfl fl_RX12_75 rfl (by decide +kernel) ⟨rfl, rfl⟩ ?_
      refine g_aload_n dX12_type_53 rfl rfl ?_
      refine g_getV 3 (C := RX12) (T := TX12) (N := 19) (v := (nI (m + 1))) dX12_type_54 (by decide) rfl rfl (by decide) rfl fl_RX12_75 zs_up_q ?_
      refine g_iret dX12_type_57 rfl rfl ?_
      exact ⟨_, rfl, fun i _ _ => (zs_up_m (by omega)).trans (zs_up_m (by omega)), (hJ.up (zs_okN rfl (by decide) (by decide))).ln (by omega), fun b i hb => ⟨(zs_up_m (by omega)).trans (zs_up_m (by omega)), rfl⟩, fun i => (zs_up_m (by omega)).trans (zs_up_m (by omega)), Or.inr ⟨hcc, Or.inr ⟨by omega, rfl, zs_up_q, by rw [zs_up_m (by omega), zs_nb8 c' (by omega), hmN]; exact zs_up_q, fun i hi => (zs_up_m (by omega)).trans (zs_up_m (by rw [hmN]; omega))⟩⟩⟩
    · refine g_aload_n dX12_type_27 rfl rfl ?_
      refine g_callV (T := TX12) (NN := 19) [] (q_fullW S hJ) dX12_type_28 kk_X12_type_X12_full ml_RX12_66 mwX12_full ewX12_full (by decide) rfl rfl rfl rfl (Nat.le_of_ble_eq_true rfl) ?_
      rintro _ S5 ⟨x6, rfl, ex6, jS5, fS5⟩
      refine g_iret dX12_type_31 rfl rfl ?_
      exact ⟨_, rfl, fS5.m, jS5, (fS5.n).x, (fS5.n).k, Or.inr ⟨hcc, Or.inl ⟨by omega, ex6, (fS5.n).l, (fS5.n).t⟩⟩⟩
  · have h3 := zs_b0 h3
    refine g_aload_n dX12_type_12 rfl rfl ?_
    refine g_callV (T := TX12) (NN := 19) [] (q_badW S hJ) dX12_type_13 kk_X12_type_X12_bad ml_RX12_62 mwX12_bad ewX12_bad (by decide) rfl rfl rfl rfl (Nat.le_of_ble_eq_true rfl) ?_
    rintro _ S7 ⟨x8, rfl, ex8, jS7, fS7⟩
    refine g_iret dX12_type_16 rfl rfl ?_
    exact ⟨_, rfl, fS7.m, jS7, (fS7.n).x, (fS7.n).k, Or.inl ⟨h3, ex8, (fS7.n).l, (fS7.n).t⟩⟩
