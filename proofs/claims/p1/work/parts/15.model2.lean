/-- slot 0 is at t too, up to i; all else as it was -/
def zs_cy (S0 S : zs_S) (t i : Nat) : Prop := zs_ch 81 82 S0 S ∧ (∀ j, j < i → S.1 81 (t + j) = S0.1 81 j) ∧ ∀ j, (j < t ∨ t + 25 ≤ j) → S.1 81 j = S0.1 81 j
set_option maxRecDepth 100000 in
theorem z_copies_l (S0 : zs_S) (t : Nat) (ht : 25 ≤ t ∧ t + 25 ≤ 700) (Q : Option Value → zs_S → Prop) (hq : ∀ S, zs_cy S0 S t 25 → Q none S) : ∀ (d i : Nat), i + d = 25 → ∀ S, zs_cy S0 S t i → zs_P MX12_copies 2 [(3, .int (nI i)), (0, .ref 80), (1, .int (nI 0)), (2, .int (nI t))] [] S Q := by
  intro d
  induction d with
  | zero =>
    intro i hi S h
    obtain rfl : i = 25 := by omega
    refine g_iload_n dX12_copies_2 rfl rfl ?_
    refine g_bipush (v := (nI 25)) dX12_copies_3 rfl ?_
    refine g_ic_geN 30 dX12_copies_5 (by decide) (by omega) (by omega) (fun _ => ?_) (fun z => absurd z (by omega))
    refine g_ret dX12_copies_30 rfl ?_
    exact hq S h
  | succ d ih =>
    intro i hi S h
    refine g_iload_n dX12_copies_2 rfl rfl ?_
    refine g_bipush (v := (nI 25)) dX12_copies_3 rfl ?_
    refine g_ic_geN 30 dX12_copies_5 (by decide) (by omega) (by omega) (fun z => absurd z (by omega)) (fun _ => ?_)
    refine g_aload_n dX12_copies_8 rfl rfl ?_
    refine g_getR 0 (81) (C := RX12) (T := TX12) (N := 19) dX12_copies_9 (by decide) rfl rfl (by decide) rfl fl_RX12_7 ?_
    refine g_iload_n dX12_copies_12 rfl rfl ?_
    refine g_iload_n dX12_copies_13 rfl rfl ?_
    refine g_iaddN dX12_copies_14 ?_
    refine g_aload_n dX12_copies_15 rfl rfl ?_
    refine g_getR 0 (81) (C := RX12) (T := TX12) (N := 19) dX12_copies_16 (by decide) rfl rfl (by decide) rfl fl_RX12_7 ?_
    refine g_iload_n dX12_copies_19 rfl rfl ?_
    refine g_iload_n dX12_copies_20 rfl rfl ?_
    refine g_iaddN dX12_copies_21 ?_
    refine g_ialdN (v := (S.1 81 (0 + i))) dX12_copies_22 (by decide) rfl (by omega) (by decide) rfl ?_
    refine g_iastN dX12_copies_23 (by decide) rfl (by omega) (by decide) ?_
    refine g_iinc (v := (nI (i + 1))) (lv' := [(3, .int (nI (i + 1))), (0, .ref 80), (1, .int (nI 0)), (2, .int (nI t))]) dX12_copies_24 rfl (nI_1 i) (by decide) rfl ?_
    refine g_goto 2 dX12_copies_27 (by decide) ?_
    refine ih (i + 1) (by omega) _ ⟨h.1.up (by omega) (by omega), fun j hj => ?_, fun j hj => (zs_up_m (by omega)).trans (h.2.2 j hj)⟩
    by_cases e : j = i
    · subst e; exact zs_up_q.trans (h.2.2 _ (by omega) |>.trans (by rw [Nat.zero_add]))
    · exact (zs_up_m (by omega)).trans (h.2.1 j (by omega))
set_option maxRecDepth 100000 in
theorem z_copies (S : zs_S) (t : Nat) (ht : 25 ≤ t ∧ t + 25 ≤ 700) : zs_Cv MX12_copies [.ref 80, .int (nI 0), .int (nI t)] S (fun S2 => zs_cy S S2 t 25) := by
  refine zs_C.of (by decide) (Nat.le_of_ble_eq_true rfl) ?_
  show zs_P MX12_copies 0 [(0, .ref 80), (1, .int (nI 0)), (2, .int (nI t))] [] S _
  refine g_iconst (v := (nI 0)) dX12_copies_0 rfl ?_
  refine g_istore_n (lv' := [(3, .int (nI 0)), (0, .ref 80), (1, .int (nI 0)), (2, .int (nI t))]) dX12_copies_1 rfl (by decide) rfl ?_
  exact z_copies_l S t ht _ (fun S2 h2 => ⟨rfl, h2⟩) 25 0 (by omega) S ⟨zs_ch.rf, fun j hj => absurd hj (by omega), fun j hj => rfl⟩
set_option maxRecDepth 100000 in
theorem z_known (S : zs_S) (F : zs_F1 S) : zs_Cv MX12_known [.ref 80] S (fun S2 => (∀ j, j < 25 → S2.1 81 j = S.1 81 j) ∧ (∀ j, j < 65 → S2.1 82 j = S.1 82 j)) := by
  refine zs_C.of (by decide) (Nat.le_of_ble_eq_true rfl) ?_
  show zs_P MX12_known 0 [(0, .ref 80)] [] S _
  refine g_aload_n dX12_known_0 rfl rfl ?_
  refine g_getR 1 (82) (C := RX12) (T := TX12) (N := 19) dX12_known_1 (by decide) rfl rfl (by decide) rfl fl_RX12_13 ?_
  refine g_bipush (v := (nI 65)) dX12_known_4 rfl ?_
  refine g_ialdN (v := (nI 0)) dX12_known_6 (by decide) rfl (by omega) (by decide) (congrFun (F 82 (by decide)).1 65) ?_
  refine g_bipush (v := (nI 8)) dX12_known_7 rfl ?_
  refine g_ic_neN 52 dX12_known_9 (by decide) (by omega) (by omega) (fun _ => ?_) (fun z => absurd z (by omega))
  refine g_aload_n dX12_known_52 rfl rfl ?_
  refine g_getR 1 (82) (C := RX12) (T := TX12) (N := 19) dX12_known_53 (by decide) rfl rfl (by decide) rfl fl_RX12_13 ?_
  refine g_bipush (v := (nI 65)) dX12_known_56 rfl ?_
  refine g_dup2 dX12_known_58 rfl rfl ?_
  refine g_ialdN (v := (nI 0)) dX12_known_59 (by decide) rfl (by omega) (by decide) (congrFun (F 82 (by decide)).1 65) ?_
  refine g_iconst (v := (nI 1)) dX12_known_60 rfl ?_
  refine g_iaddN dX12_known_61 ?_
  refine g_iastN dX12_known_62 (by decide) rfl (by omega) (by decide) ?_
  refine g_aload_n dX12_known_63 rfl rfl ?_
  refine g_iconst (v := (nI 0)) dX12_known_64 rfl ?_
  refine g_aload_n dX12_known_65 rfl rfl ?_
  refine g_getR 1 (82) (C := RX12) (T := TX12) (N := 19) dX12_known_66 (by decide) rfl rfl (by decide) rfl fl_RX12_13 ?_
  refine g_bipush (v := (nI 65)) dX12_known_69 rfl ?_
  refine g_ialdN (v := (nI 1)) dX12_known_71 (by decide) rfl (by omega) (by decide) zs_up_q ?_
  refine g_bipush (v := (nI 25)) dX12_known_72 rfl ?_
  refine g_imulN dX12_known_74 ?_
  refine g_callV (T := TX12) (NN := 19) [] (z_copies (zs_up S.1 82 65 (nI 1), S.2) 25 (by decide)) dX12_known_75 kk_X12_known_X12_copies ml_RX12_169 mwX12_copies ewX12_copies (by decide) rfl rfl rfl rfl (Nat.le_of_ble_eq_true rfl) ?_
  rintro _ S2 ⟨rfl, h2⟩
  refine g_ret dX12_known_78 rfl ?_
  exact ⟨rfl, fun j hj => (h2.2.2 j (by omega)).trans (zs_up_m (by omega)), fun j hj => (congrFun (h2.1 82 (by omega)).1 j).trans (zs_up_m (by omega))⟩
set_option maxRecDepth 100000 in
theorem w_steps (S : zs_S) (F : zs_F1 S) (t : Int32) : zs_Ci MX12_steps [.ref 80, .int t] S (fun x _ => x = zs_if (nI 0 ≤ t ∧ t ≤ nI 11) (zs_if (t = nI 1) (-3) (nI 1)) (-2)) := by
  refine zs_C.of (by decide) (Nat.le_of_ble_eq_true rfl) ?_
  show zs_P MX12_steps 0 [(0, .ref 80), (1, .int t)] [] S _
  refine g_iload_n dX12_steps_0 rfl rfl ?_
  refine g_i2l dX12_steps_1 rfl ?_
  refine g_lconst (v := 0) dX12_steps_2 (by decide) ?_
  refine g_ldc2 (v := 11) dX12_steps_3 cl_RX12_60 ?_
  refine g_callS [.long (Int32.toInt64 t), .long 0, .long 11] [] (z_in S t 0 11 (by decide) (by decide)) dX12_steps_6 kk_X12_steps_X12_in ml_RX12_54 swX12_in rfl rfl (Nat.le_of_ble_eq_true rfl) ?_
  rintro _ _ ⟨_, rfl, rfl, rfl⟩
  refine g_if_ne 17 dX12_steps_9 (by decide) (fun h1 => ?_) (fun h1 => ?_)
  · have h1 := zs_b1 h1
    obtain ⟨t', t'a, t'b, rfl⟩ := zs_rng h1 (by omega)
    refine g_aload_n dX12_steps_17 rfl rfl ?_
    refine g_getR 0 (81) (C := RX12) (T := TX12) (N := 19) dX12_steps_18 (by decide) rfl rfl (by decide) rfl fl_RX12_7 ?_
    refine g_iconst (v := (nI 2)) dX12_steps_21 rfl ?_
    refine g_ialdN (v := (nI 1)) dX12_steps_22 (by decide) rfl (by omega) (by decide) (congrFun (F 81 (by decide)).1 2) ?_
    refine g_iload_n dX12_steps_23 rfl rfl ?_
    refine g_ic_neN 32 dX12_steps_24 (by decide) (by omega) (by omega) (fun h2 => ?_) (fun h2 => ?_)
    · refine g_aload_n dX12_steps_32 rfl rfl ?_
      refine g_callV (T := TX12) (NN := 19) [] (z_known S F) dX12_steps_33 kk_X12_steps_X12_known ml_RX12_175 mwX12_known ewX12_known (by decide) rfl rfl rfl rfl (Nat.le_of_ble_eq_true rfl) ?_
      rintro _ S8 ⟨rfl, k81, k82⟩
      refine g_aload_n dX12_steps_36 rfl rfl ?_
      refine g_getR 0 (81) (C := RX12) (T := TX12) (N := 19) dX12_steps_37 (by decide) rfl rfl (by decide) rfl fl_RX12_7 ?_
      refine g_iconst (v := (nI 2)) dX12_steps_40 rfl ?_
      refine g_ialdN (v := (nI 1)) dX12_steps_41 (by decide) rfl (by omega) (by decide) ((k81 2 (by omega)).trans (congrFun (F 81 (by decide)).1 2)) ?_
      refine g_istore_n (lv' := [(2, .int (nI 1)), (0, .ref 80), (1, .int (nI t'))]) dX12_steps_42 rfl (by decide) rfl ?_
      refine g_aload_n dX12_steps_43 rfl rfl ?_
      refine g_getR 0 (81) (C := RX12) (T := TX12) (N := 19) dX12_steps_44 (by decide) rfl rfl (by decide) rfl fl_RX12_7 ?_
      refine g_iconst (v := (nI 2)) dX12_steps_47 rfl ?_
      refine g_iload_n dX12_steps_48 rfl rfl ?_
      refine g_iastN dX12_steps_49 (by decide) rfl (by omega) (by decide) ?_
      refine g_iload_n dX12_steps_50 rfl rfl ?_
      refine g_iret dX12_steps_51 rfl rfl ?_
      exact ⟨_, rfl, ((zs_it h1).trans (zs_ie (fun q => h2 ((nI_eq (by omega) (by decide)).mp q).symm))).symm⟩
    · refine g_aload_n dX12_steps_27 rfl rfl ?_
      refine g_callV (T := TX12) (NN := 19) [] (z_no S) dX12_steps_28 kk_X12_steps_X12_no ml_RX12_178 mwX12_no ewX12_no (by decide) rfl rfl rfl rfl (Nat.le_of_ble_eq_true rfl) ?_
      rintro _ S3 ⟨_, rfl, rfl⟩
      refine g_iret dX12_steps_31 rfl rfl ?_
      exact ⟨_, rfl, ((zs_it h1).trans (zs_it (congrArg nI h2.symm))).symm⟩
  · have h1 := zs_b0 h1
    refine g_aload_n dX12_steps_12 rfl rfl ?_
    refine g_callV (T := TX12) (NN := 19) [] (z_bad S) dX12_steps_13 kk_X12_steps_X12_bad ml_RX12_62 mwX12_bad ewX12_bad (by decide) rfl rfl rfl rfl (Nat.le_of_ble_eq_true rfl) ?_
    rintro _ S4 ⟨_, rfl, rfl⟩
    refine g_iret dX12_steps_16 rfl rfl ?_
    exact ⟨_, rfl, (zs_ie h1).symm⟩
set_option maxRecDepth 100000 in
theorem w_draws (S : zs_S) (F : zs_F1 S) (f p : Int32) : zs_Ci MX12_draws [.ref 80, .int f, .int p] S (fun x _ => x = zs_if ((nI 0 ≤ f ∧ f ≤ nI 1) ∧ (nI 0 ≤ p ∧ p ≤ nI 9)) (zs_if (p = nI 0) (-3) (nI 0)) (-2)) := by
  refine zs_C.of (by decide) (Nat.le_of_ble_eq_true rfl) ?_
  show zs_P MX12_draws 0 [(0, .ref 80), (1, .int f), (2, .int p)] [] S _
  refine g_aload_n dX12_draws_0 rfl rfl ?_
  refine g_iload_n dX12_draws_1 rfl rfl ?_
  refine g_callV (T := TX12) (NN := 19) [] (z_isFrame S f F) dX12_draws_2 kk_X12_draws_X12_isFrame ml_RX12_181 mwX12_isFrame ewX12_isFrame (by decide) rfl rfl rfl rfl (Nat.le_of_ble_eq_true rfl) ?_
  rintro _ _ ⟨_, rfl, rfl, rfl⟩
  refine g_if_eq 20 dX12_draws_5 (by decide) (fun h1 => ?_) (fun h1 => ?_)
  · have h1 := zs_b0 h1
    refine g_aload_n dX12_draws_20 rfl rfl ?_
    refine g_callV (T := TX12) (NN := 19) [] (z_bad S) dX12_draws_21 kk_X12_draws_X12_bad ml_RX12_62 mwX12_bad ewX12_bad (by decide) rfl rfl rfl rfl (Nat.le_of_ble_eq_true rfl) ?_
    rintro _ S2 ⟨_, rfl, rfl⟩
    refine g_iret dX12_draws_24 rfl rfl ?_
    exact ⟨_, rfl, (zs_ie (fun q => h1 q.1)).symm⟩
  · have h1 := zs_b1 h1
    obtain ⟨f', f'a, f'b, rfl⟩ := zs_rng h1 (by omega)
    refine g_iload_n dX12_draws_8 rfl rfl ?_
    refine g_i2l dX12_draws_9 rfl ?_
    refine g_lconst (v := 0) dX12_draws_10 (by decide) ?_
    refine g_ldc2 (v := 9) dX12_draws_11 cl_RX12_121 ?_
    refine g_callS [.long (Int32.toInt64 p), .long 0, .long 9] [] (z_in S p 0 9 (by decide) (by decide)) dX12_draws_14 kk_X12_draws_X12_in ml_RX12_54 swX12_in rfl rfl (Nat.le_of_ble_eq_true rfl) ?_
    rintro _ _ ⟨_, rfl, rfl, rfl⟩
    refine g_if_ne 25 dX12_draws_17 (by decide) (fun h3 => ?_) (fun h3 => ?_)
    · have h3 := zs_b1 h3
      obtain ⟨p', p'a, p'b, rfl⟩ := zs_rng h3 (by omega)
      refine g_aload_n dX12_draws_25 rfl rfl ?_
      refine g_getR 0 (81) (C := RX12) (T := TX12) (N := 19) dX12_draws_26 (by decide) rfl rfl (by decide) rfl fl_RX12_7 ?_
      refine g_iconst (v := (nI 3)) dX12_draws_29 rfl ?_
      refine g_iload_n dX12_draws_30 rfl rfl ?_
      refine g_iaddN dX12_draws_31 ?_
      refine g_ialdN (v := (nI 0)) dX12_draws_32 (by decide) rfl (by omega) (by decide) ((congrFun (F 81 (by decide)).1 (3 + f')).trans (if_neg (by omega))) ?_
      refine g_iload_n dX12_draws_33 rfl rfl ?_
      refine g_ic_neN 42 dX12_draws_34 (by decide) (by omega) (by omega) (fun h4 => ?_) (fun h4 => ?_)
      · refine g_aload_n dX12_draws_42 rfl rfl ?_
        refine g_callV (T := TX12) (NN := 19) [] (z_known S F) dX12_draws_43 kk_X12_draws_X12_known ml_RX12_175 mwX12_known ewX12_known (by decide) rfl rfl rfl rfl (Nat.le_of_ble_eq_true rfl) ?_
        rintro _ S8 ⟨rfl, k81, k82⟩
        refine g_aload_n dX12_draws_46 rfl rfl ?_
        refine g_getR 0 (81) (C := RX12) (T := TX12) (N := 19) dX12_draws_47 (by decide) rfl rfl (by decide) rfl fl_RX12_7 ?_
        refine g_iconst (v := (nI 3)) dX12_draws_50 rfl ?_
        refine g_iload_n dX12_draws_51 rfl rfl ?_
        refine g_iaddN dX12_draws_52 ?_
        refine g_ialdN (v := (nI 0)) dX12_draws_53 (by decide) rfl (by omega) (by decide) ((k81 (3 + f') (by omega)).trans ((congrFun (F 81 (by decide)).1 (3 + f')).trans (if_neg (by omega)))) ?_
        refine g_istore_n (lv' := [(3, .int (nI 0)), (0, .ref 80), (1, .int (nI f')), (2, .int (nI p'))]) dX12_draws_54 rfl (by decide) rfl ?_
        refine g_aload_n dX12_draws_55 rfl rfl ?_
        refine g_getR 0 (81) (C := RX12) (T := TX12) (N := 19) dX12_draws_56 (by decide) rfl rfl (by decide) rfl fl_RX12_7 ?_
        refine g_iconst (v := (nI 3)) dX12_draws_59 rfl ?_
        refine g_iload_n dX12_draws_60 rfl rfl ?_
        refine g_iaddN dX12_draws_61 ?_
        refine g_iload_n dX12_draws_62 rfl rfl ?_
        refine g_iastN dX12_draws_63 (by decide) rfl (by omega) (by decide) ?_
        refine g_iload_n dX12_draws_64 rfl rfl ?_
        refine g_iret dX12_draws_65 rfl rfl ?_
        exact ⟨_, rfl, ((zs_it ⟨h1, h3⟩).trans (zs_ie (fun q => h4 ((nI_eq (by omega) (by decide)).mp q).symm))).symm⟩
      · refine g_aload_n dX12_draws_37 rfl rfl ?_
        refine g_callV (T := TX12) (NN := 19) [] (z_no S) dX12_draws_38 kk_X12_draws_X12_no ml_RX12_178 mwX12_no ewX12_no (by decide) rfl rfl rfl rfl (Nat.le_of_ble_eq_true rfl) ?_
        rintro _ S5 ⟨_, rfl, rfl⟩
        refine g_iret dX12_draws_41 rfl rfl ?_
        exact ⟨_, rfl, ((zs_it ⟨h1, h3⟩).trans (zs_it (congrArg nI h4.symm))).symm⟩
    · have h3 := zs_b0 h3
      refine g_aload_n dX12_draws_20 rfl rfl ?_
      refine g_callV (T := TX12) (NN := 19) [] (z_bad S) dX12_draws_21 kk_X12_draws_X12_bad ml_RX12_62 mwX12_bad ewX12_bad (by decide) rfl rfl rfl rfl (Nat.le_of_ble_eq_true rfl) ?_
      rintro _ S6 ⟨_, rfl, rfl⟩
      refine g_iret dX12_draws_24 rfl rfl ?_
      exact ⟨_, rfl, (zs_ie (fun q => h3 q.2)).symm⟩
set_option maxRecDepth 100000 in
theorem z_pass0 (S : zs_S) (s k : Nat) (hs : s < 2 ^ 20) (hk : k < 2 ^ 30) : zs_Ci MX12_passes [.int (nI 0), .int (nI s), .int (nI k)] S (fun z S2 => z = nI (zs_pas 0 s k) ∧ S = S2) := by
  refine zs_C.of (by decide) (Nat.le_of_ble_eq_true rfl) ?_
  show zs_P MX12_passes 0 [(0, .int (nI 0)), (1, .int (nI s)), (2, .int (nI k))] [] S _
  refine g_iload_n dX12_passes_0 rfl rfl ?_
  refine g_iconst (v := (nI 1)) dX12_passes_1 rfl ?_
  refine g_ic_eqN 10 dX12_passes_2 (by decide) (by omega) (by omega) (fun z => absurd z (by omega)) (fun _ => ?_)
  refine g_iload_n dX12_passes_5 rfl rfl ?_
  refine g_iconst (v := (nI 3)) dX12_passes_6 rfl ?_
  refine g_ic_neN 16 dX12_passes_7 (by decide) (by omega) (by omega) (fun _ => ?_) (fun z => absurd z (by omega))
  refine g_iload_n dX12_passes_16 rfl rfl ?_
  refine g_istore_n (lv' := [(3, .int (nI s)), (0, .int (nI 0)), (1, .int (nI s)), (2, .int (nI k))]) dX12_passes_17 rfl (by decide) rfl ?_
  refine g_iload_n dX12_passes_18 rfl rfl ?_
  refine g_iload_n dX12_passes_19 rfl rfl ?_
  refine g_iconst (v := (nI 2)) dX12_passes_20 rfl ?_
  refine g_ic_eqN 29 dX12_passes_21 (by decide) (by omega) (by omega) (fun z => absurd z (by omega)) (fun _ => ?_)
  refine g_iload_n dX12_passes_24 rfl rfl ?_
  refine g_iconst (v := (nI 4)) dX12_passes_25 rfl ?_
  refine g_ic_neN 40 dX12_passes_26 (by decide) (by omega) (by omega) (fun _ => ?_) (fun z => absurd z (by omega))
  refine g_iconst (v := (nI 0)) dX12_passes_40 rfl ?_
  refine g_iaddN dX12_passes_41 ?_
  refine g_istore_n (lv' := [(3, .int (nI (s + 0))), (0, .int (nI 0)), (1, .int (nI s)), (2, .int (nI k))]) dX12_passes_42 rfl (by decide) rfl ?_
  refine g_iload_n dX12_passes_43 rfl rfl ?_
  refine g_iload_n dX12_passes_44 rfl rfl ?_
  refine g_iconst (v := (nI 3)) dX12_passes_45 rfl ?_
  refine g_ic_neN 59 dX12_passes_46 (by decide) (by omega) (by omega) (fun _ => ?_) (fun z => absurd z (by omega))
  refine g_iconst (v := (nI 0)) dX12_passes_59 rfl ?_
  refine g_iaddN dX12_passes_60 ?_
  refine g_istore_n (lv' := [(3, .int (nI ((s + 0) + 0))), (0, .int (nI 0)), (1, .int (nI s)), (2, .int (nI k))]) dX12_passes_61 rfl (by decide) rfl ?_
  refine g_iload_n dX12_passes_62 rfl rfl ?_
  refine g_iconst (v := (nI 4)) dX12_passes_63 rfl ?_
  refine g_ic_neN 78 dX12_passes_64 (by decide) (by omega) (by omega) (fun _ => ?_) (fun z => absurd z (by omega))
  refine g_iload_n dX12_passes_78 rfl rfl ?_
  refine g_istore_n (lv' := [(3, .int (nI ((s + 0) + 0))), (0, .int (nI 0)), (1, .int (nI s)), (2, .int (nI k))]) dX12_passes_79 rfl (by decide) rfl ?_
  refine g_iload_n dX12_passes_80 rfl rfl ?_
  refine g_iconst (v := (nI 5)) dX12_passes_81 rfl ?_
  refine g_ic_neN 94 dX12_passes_82 (by decide) (by omega) (by omega) (fun _ => ?_) (fun z => absurd z (by omega))
  refine g_iload_n dX12_passes_94 rfl rfl ?_
  refine g_iret dX12_passes_95 rfl rfl ?_
  exact ⟨_, rfl, congrArg nI (by simp only [zs_pas] <;> (repeat' split) <;> omega), rfl⟩
set_option maxRecDepth 100000 in
theorem z_pass1 (S : zs_S) (s k : Nat) (hs : s < 2 ^ 20) (hk : k < 2 ^ 30) : zs_Ci MX12_passes [.int (nI 1), .int (nI s), .int (nI k)] S (fun z S2 => z = nI (zs_pas 1 s k) ∧ S = S2) := by
  refine zs_C.of (by decide) (Nat.le_of_ble_eq_true rfl) ?_
  show zs_P MX12_passes 0 [(0, .int (nI 1)), (1, .int (nI s)), (2, .int (nI k))] [] S _
  refine g_iload_n dX12_passes_0 rfl rfl ?_
  refine g_iconst (v := (nI 1)) dX12_passes_1 rfl ?_
  refine g_ic_eqN 10 dX12_passes_2 (by decide) (by omega) (by omega) (fun _ => ?_) (fun z => absurd z (by omega))
  refine g_iconst (v := (nI 2)) dX12_passes_10 rfl ?_
  refine g_iload_n dX12_passes_11 rfl rfl ?_
  refine g_imulN dX12_passes_12 ?_
  refine g_goto 17 dX12_passes_13 (by decide) ?_
  refine g_istore_n (lv' := [(3, .int (nI (2 * s))), (0, .int (nI 1)), (1, .int (nI s)), (2, .int (nI k))]) dX12_passes_17 rfl (by decide) rfl ?_
  refine g_iload_n dX12_passes_18 rfl rfl ?_
  refine g_iload_n dX12_passes_19 rfl rfl ?_
  refine g_iconst (v := (nI 2)) dX12_passes_20 rfl ?_
  refine g_ic_eqN 29 dX12_passes_21 (by decide) (by omega) (by omega) (fun z => absurd z (by omega)) (fun _ => ?_)
  refine g_iload_n dX12_passes_24 rfl rfl ?_
  refine g_iconst (v := (nI 4)) dX12_passes_25 rfl ?_
  refine g_ic_neN 40 dX12_passes_26 (by decide) (by omega) (by omega) (fun _ => ?_) (fun z => absurd z (by omega))
  refine g_iconst (v := (nI 0)) dX12_passes_40 rfl ?_
  refine g_iaddN dX12_passes_41 ?_
  refine g_istore_n (lv' := [(3, .int (nI ((2 * s) + 0))), (0, .int (nI 1)), (1, .int (nI s)), (2, .int (nI k))]) dX12_passes_42 rfl (by decide) rfl ?_
  refine g_iload_n dX12_passes_43 rfl rfl ?_
  refine g_iload_n dX12_passes_44 rfl rfl ?_
  refine g_iconst (v := (nI 3)) dX12_passes_45 rfl ?_
  refine g_ic_neN 59 dX12_passes_46 (by decide) (by omega) (by omega) (fun _ => ?_) (fun z => absurd z (by omega))
  refine g_iconst (v := (nI 0)) dX12_passes_59 rfl ?_
  refine g_iaddN dX12_passes_60 ?_
  refine g_istore_n (lv' := [(3, .int (nI (((2 * s) + 0) + 0))), (0, .int (nI 1)), (1, .int (nI s)), (2, .int (nI k))]) dX12_passes_61 rfl (by decide) rfl ?_
  refine g_iload_n dX12_passes_62 rfl rfl ?_
  refine g_iconst (v := (nI 4)) dX12_passes_63 rfl ?_
  refine g_ic_neN 78 dX12_passes_64 (by decide) (by omega) (by omega) (fun _ => ?_) (fun z => absurd z (by omega))
  refine g_iload_n dX12_passes_78 rfl rfl ?_
  refine g_istore_n (lv' := [(3, .int (nI (((2 * s) + 0) + 0))), (0, .int (nI 1)), (1, .int (nI s)), (2, .int (nI k))]) dX12_passes_79 rfl (by decide) rfl ?_
  refine g_iload_n dX12_passes_80 rfl rfl ?_
  refine g_iconst (v := (nI 5)) dX12_passes_81 rfl ?_
  refine g_ic_neN 94 dX12_passes_82 (by decide) (by omega) (by omega) (fun _ => ?_) (fun z => absurd z (by omega))
  refine g_iload_n dX12_passes_94 rfl rfl ?_
  refine g_iret dX12_passes_95 rfl rfl ?_
  exact ⟨_, rfl, congrArg nI (by simp only [zs_pas] <;> (repeat' split) <;> omega), rfl⟩
set_option maxRecDepth 100000 in
theorem z_pass2 (S : zs_S) (s k : Nat) (hs : s < 2 ^ 20) (hk : k < 2 ^ 30) : zs_Ci MX12_passes [.int (nI 2), .int (nI s), .int (nI k)] S (fun z S2 => z = nI (zs_pas 2 s k) ∧ S = S2) := by
  refine zs_C.of (by decide) (Nat.le_of_ble_eq_true rfl) ?_
  show zs_P MX12_passes 0 [(0, .int (nI 2)), (1, .int (nI s)), (2, .int (nI k))] [] S _
  refine g_iload_n dX12_passes_0 rfl rfl ?_
  refine g_iconst (v := (nI 1)) dX12_passes_1 rfl ?_
  refine g_ic_eqN 10 dX12_passes_2 (by decide) (by omega) (by omega) (fun z => absurd z (by omega)) (fun _ => ?_)
  refine g_iload_n dX12_passes_5 rfl rfl ?_
  refine g_iconst (v := (nI 3)) dX12_passes_6 rfl ?_
  refine g_ic_neN 16 dX12_passes_7 (by decide) (by omega) (by omega) (fun _ => ?_) (fun z => absurd z (by omega))
  refine g_iload_n dX12_passes_16 rfl rfl ?_
  refine g_istore_n (lv' := [(3, .int (nI s)), (0, .int (nI 2)), (1, .int (nI s)), (2, .int (nI k))]) dX12_passes_17 rfl (by decide) rfl ?_
  refine g_iload_n dX12_passes_18 rfl rfl ?_
  refine g_iload_n dX12_passes_19 rfl rfl ?_
  refine g_iconst (v := (nI 2)) dX12_passes_20 rfl ?_
  refine g_ic_eqN 29 dX12_passes_21 (by decide) (by omega) (by omega) (fun _ => ?_) (fun z => absurd z (by omega))
  refine g_iload_n dX12_passes_29 rfl rfl ?_
  refine g_iconst (v := (nI 2)) dX12_passes_30 rfl ?_
  refine g_iremN dX12_passes_31 (by omega) (by omega) (by omega) ?_
  refine g_iconst (v := (nI 1)) dX12_passes_32 rfl ?_
  refine g_ic_neN 40 dX12_passes_33 (by decide) (by omega) (by omega) (fun h1 => ?_) (fun h1 => ?_)
  · refine g_iconst (v := (nI 0)) dX12_passes_40 rfl ?_
    refine g_iaddN dX12_passes_41 ?_
    refine g_istore_n (lv' := [(3, .int (nI (s + 0))), (0, .int (nI 2)), (1, .int (nI s)), (2, .int (nI k))]) dX12_passes_42 rfl (by decide) rfl ?_
    refine g_iload_n dX12_passes_43 rfl rfl ?_
    refine g_iload_n dX12_passes_44 rfl rfl ?_
    refine g_iconst (v := (nI 3)) dX12_passes_45 rfl ?_
    refine g_ic_neN 59 dX12_passes_46 (by decide) (by omega) (by omega) (fun _ => ?_) (fun z => absurd z (by omega))
    refine g_iconst (v := (nI 0)) dX12_passes_59 rfl ?_
    refine g_iaddN dX12_passes_60 ?_
    refine g_istore_n (lv' := [(3, .int (nI ((s + 0) + 0))), (0, .int (nI 2)), (1, .int (nI s)), (2, .int (nI k))]) dX12_passes_61 rfl (by decide) rfl ?_
    refine g_iload_n dX12_passes_62 rfl rfl ?_
    refine g_iconst (v := (nI 4)) dX12_passes_63 rfl ?_
    refine g_ic_neN 78 dX12_passes_64 (by decide) (by omega) (by omega) (fun _ => ?_) (fun z => absurd z (by omega))
    refine g_iload_n dX12_passes_78 rfl rfl ?_
    refine g_istore_n (lv' := [(3, .int (nI ((s + 0) + 0))), (0, .int (nI 2)), (1, .int (nI s)), (2, .int (nI k))]) dX12_passes_79 rfl (by decide) rfl ?_
    refine g_iload_n dX12_passes_80 rfl rfl ?_
    refine g_iconst (v := (nI 5)) dX12_passes_81 rfl ?_
    refine g_ic_neN 94 dX12_passes_82 (by decide) (by omega) (by omega) (fun _ => ?_) (fun z => absurd z (by omega))
    refine g_iload_n dX12_passes_94 rfl rfl ?_
    refine g_iret dX12_passes_95 rfl rfl ?_
    exact ⟨_, rfl, congrArg nI (by simp only [zs_pas] <;> (repeat' split) <;> omega), rfl⟩
  · refine g_iconst (v := (nI 1)) dX12_passes_36 rfl ?_
    refine g_goto 41 dX12_passes_37 (by decide) ?_
    refine g_iaddN dX12_passes_41 ?_
    refine g_istore_n (lv' := [(3, .int (nI (s + 1))), (0, .int (nI 2)), (1, .int (nI s)), (2, .int (nI k))]) dX12_passes_42 rfl (by decide) rfl ?_
    refine g_iload_n dX12_passes_43 rfl rfl ?_
    refine g_iload_n dX12_passes_44 rfl rfl ?_
    refine g_iconst (v := (nI 3)) dX12_passes_45 rfl ?_
    refine g_ic_neN 59 dX12_passes_46 (by decide) (by omega) (by omega) (fun _ => ?_) (fun z => absurd z (by omega))
    refine g_iconst (v := (nI 0)) dX12_passes_59 rfl ?_
    refine g_iaddN dX12_passes_60 ?_
    refine g_istore_n (lv' := [(3, .int (nI ((s + 1) + 0))), (0, .int (nI 2)), (1, .int (nI s)), (2, .int (nI k))]) dX12_passes_61 rfl (by decide) rfl ?_
    refine g_iload_n dX12_passes_62 rfl rfl ?_
    refine g_iconst (v := (nI 4)) dX12_passes_63 rfl ?_
    refine g_ic_neN 78 dX12_passes_64 (by decide) (by omega) (by omega) (fun _ => ?_) (fun z => absurd z (by omega))
    refine g_iload_n dX12_passes_78 rfl rfl ?_
    refine g_istore_n (lv' := [(3, .int (nI ((s + 1) + 0))), (0, .int (nI 2)), (1, .int (nI s)), (2, .int (nI k))]) dX12_passes_79 rfl (by decide) rfl ?_
    refine g_iload_n dX12_passes_80 rfl rfl ?_
    refine g_iconst (v := (nI 5)) dX12_passes_81 rfl ?_
    refine g_ic_neN 94 dX12_passes_82 (by decide) (by omega) (by omega) (fun _ => ?_) (fun z => absurd z (by omega))
    refine g_iload_n dX12_passes_94 rfl rfl ?_
    refine g_iret dX12_passes_95 rfl rfl ?_
    exact ⟨_, rfl, congrArg nI (by simp only [zs_pas] <;> (repeat' split) <;> omega), rfl⟩
set_option maxRecDepth 100000 in
theorem z_pass3 (S : zs_S) (s k : Nat) (hs : s < 2 ^ 20) (hk : k < 2 ^ 30) : zs_Ci MX12_passes [.int (nI 3), .int (nI s), .int (nI k)] S (fun z S2 => z = nI (zs_pas 3 s k) ∧ S = S2) := by
  refine zs_C.of (by decide) (Nat.le_of_ble_eq_true rfl) ?_
  show zs_P MX12_passes 0 [(0, .int (nI 3)), (1, .int (nI s)), (2, .int (nI k))] [] S _
  refine g_iload_n dX12_passes_0 rfl rfl ?_
  refine g_iconst (v := (nI 1)) dX12_passes_1 rfl ?_
  refine g_ic_eqN 10 dX12_passes_2 (by decide) (by omega) (by omega) (fun z => absurd z (by omega)) (fun _ => ?_)
  refine g_iload_n dX12_passes_5 rfl rfl ?_
  refine g_iconst (v := (nI 3)) dX12_passes_6 rfl ?_
  refine g_ic_neN 16 dX12_passes_7 (by decide) (by omega) (by omega) (fun z => absurd z (by omega)) (fun _ => ?_)
  refine g_iconst (v := (nI 2)) dX12_passes_10 rfl ?_
  refine g_iload_n dX12_passes_11 rfl rfl ?_
  refine g_imulN dX12_passes_12 ?_
  refine g_goto 17 dX12_passes_13 (by decide) ?_
  refine g_istore_n (lv' := [(3, .int (nI (2 * s))), (0, .int (nI 3)), (1, .int (nI s)), (2, .int (nI k))]) dX12_passes_17 rfl (by decide) rfl ?_
  refine g_iload_n dX12_passes_18 rfl rfl ?_
  refine g_iload_n dX12_passes_19 rfl rfl ?_
  refine g_iconst (v := (nI 2)) dX12_passes_20 rfl ?_
  refine g_ic_eqN 29 dX12_passes_21 (by decide) (by omega) (by omega) (fun z => absurd z (by omega)) (fun _ => ?_)
  refine g_iload_n dX12_passes_24 rfl rfl ?_
  refine g_iconst (v := (nI 4)) dX12_passes_25 rfl ?_
  refine g_ic_neN 40 dX12_passes_26 (by decide) (by omega) (by omega) (fun _ => ?_) (fun z => absurd z (by omega))
  refine g_iconst (v := (nI 0)) dX12_passes_40 rfl ?_
  refine g_iaddN dX12_passes_41 ?_
  refine g_istore_n (lv' := [(3, .int (nI ((2 * s) + 0))), (0, .int (nI 3)), (1, .int (nI s)), (2, .int (nI k))]) dX12_passes_42 rfl (by decide) rfl ?_
  refine g_iload_n dX12_passes_43 rfl rfl ?_
  refine g_iload_n dX12_passes_44 rfl rfl ?_
  refine g_iconst (v := (nI 3)) dX12_passes_45 rfl ?_
  refine g_ic_neN 59 dX12_passes_46 (by decide) (by omega) (by omega) (fun z => absurd z (by omega)) (fun _ => ?_)
  refine g_iload_n dX12_passes_49 rfl rfl ?_
  refine g_iconst (v := (nI 4)) dX12_passes_50 rfl ?_
  refine g_iremN dX12_passes_51 (by omega) (by omega) (by omega) ?_
  refine g_if_neN 59 dX12_passes_52 (by decide) (by omega) (fun h1 => ?_) (fun h1 => ?_)
  · refine g_iconst (v := (nI 0)) dX12_passes_59 rfl ?_
    refine g_iaddN dX12_passes_60 ?_
    refine g_istore_n (lv' := [(3, .int (nI (((2 * s) + 0) + 0))), (0, .int (nI 3)), (1, .int (nI s)), (2, .int (nI k))]) dX12_passes_61 rfl (by decide) rfl ?_
    refine g_iload_n dX12_passes_62 rfl rfl ?_
    refine g_iconst (v := (nI 4)) dX12_passes_63 rfl ?_
    refine g_ic_neN 78 dX12_passes_64 (by decide) (by omega) (by omega) (fun _ => ?_) (fun z => absurd z (by omega))
    refine g_iload_n dX12_passes_78 rfl rfl ?_
    refine g_istore_n (lv' := [(3, .int (nI (((2 * s) + 0) + 0))), (0, .int (nI 3)), (1, .int (nI s)), (2, .int (nI k))]) dX12_passes_79 rfl (by decide) rfl ?_
    refine g_iload_n dX12_passes_80 rfl rfl ?_
    refine g_iconst (v := (nI 5)) dX12_passes_81 rfl ?_
    refine g_ic_neN 94 dX12_passes_82 (by decide) (by omega) (by omega) (fun _ => ?_) (fun z => absurd z (by omega))
    refine g_iload_n dX12_passes_94 rfl rfl ?_
    refine g_iret dX12_passes_95 rfl rfl ?_
    exact ⟨_, rfl, congrArg nI (by simp only [zs_pas] <;> (repeat' split) <;> omega), rfl⟩
  · refine g_iconst (v := (nI 1)) dX12_passes_55 rfl ?_
    refine g_goto 60 dX12_passes_56 (by decide) ?_
    refine g_iaddN dX12_passes_60 ?_
    refine g_istore_n (lv' := [(3, .int (nI (((2 * s) + 0) + 1))), (0, .int (nI 3)), (1, .int (nI s)), (2, .int (nI k))]) dX12_passes_61 rfl (by decide) rfl ?_
    refine g_iload_n dX12_passes_62 rfl rfl ?_
    refine g_iconst (v := (nI 4)) dX12_passes_63 rfl ?_
    refine g_ic_neN 78 dX12_passes_64 (by decide) (by omega) (by omega) (fun _ => ?_) (fun z => absurd z (by omega))
    refine g_iload_n dX12_passes_78 rfl rfl ?_
    refine g_istore_n (lv' := [(3, .int (nI (((2 * s) + 0) + 1))), (0, .int (nI 3)), (1, .int (nI s)), (2, .int (nI k))]) dX12_passes_79 rfl (by decide) rfl ?_
    refine g_iload_n dX12_passes_80 rfl rfl ?_
    refine g_iconst (v := (nI 5)) dX12_passes_81 rfl ?_
    refine g_ic_neN 94 dX12_passes_82 (by decide) (by omega) (by omega) (fun _ => ?_) (fun z => absurd z (by omega))
    refine g_iload_n dX12_passes_94 rfl rfl ?_
    refine g_iret dX12_passes_95 rfl rfl ?_
    exact ⟨_, rfl, congrArg nI (by simp only [zs_pas] <;> (repeat' split) <;> omega), rfl⟩
set_option maxRecDepth 100000 in
theorem z_pass4 (S : zs_S) (s k : Nat) (hs : s < 2 ^ 20) (hk : k < 2 ^ 30) : zs_Ci MX12_passes [.int (nI 4), .int (nI s), .int (nI k)] S (fun z S2 => z = nI (zs_pas 4 s k) ∧ S = S2) := by
  refine zs_C.of (by decide) (Nat.le_of_ble_eq_true rfl) ?_
  show zs_P MX12_passes 0 [(0, .int (nI 4)), (1, .int (nI s)), (2, .int (nI k))] [] S _
  refine g_iload_n dX12_passes_0 rfl rfl ?_
  refine g_iconst (v := (nI 1)) dX12_passes_1 rfl ?_
  refine g_ic_eqN 10 dX12_passes_2 (by decide) (by omega) (by omega) (fun z => absurd z (by omega)) (fun _ => ?_)
  refine g_iload_n dX12_passes_5 rfl rfl ?_
  refine g_iconst (v := (nI 3)) dX12_passes_6 rfl ?_
  refine g_ic_neN 16 dX12_passes_7 (by decide) (by omega) (by omega) (fun _ => ?_) (fun z => absurd z (by omega))
  refine g_iload_n dX12_passes_16 rfl rfl ?_
  refine g_istore_n (lv' := [(3, .int (nI s)), (0, .int (nI 4)), (1, .int (nI s)), (2, .int (nI k))]) dX12_passes_17 rfl (by decide) rfl ?_
  refine g_iload_n dX12_passes_18 rfl rfl ?_
  refine g_iload_n dX12_passes_19 rfl rfl ?_
  refine g_iconst (v := (nI 2)) dX12_passes_20 rfl ?_
  refine g_ic_eqN 29 dX12_passes_21 (by decide) (by omega) (by omega) (fun z => absurd z (by omega)) (fun _ => ?_)
  refine g_iload_n dX12_passes_24 rfl rfl ?_
  refine g_iconst (v := (nI 4)) dX12_passes_25 rfl ?_
  refine g_ic_neN 40 dX12_passes_26 (by decide) (by omega) (by omega) (fun z => absurd z (by omega)) (fun _ => ?_)
  refine g_iload_n dX12_passes_29 rfl rfl ?_
  refine g_iconst (v := (nI 2)) dX12_passes_30 rfl ?_
  refine g_iremN dX12_passes_31 (by omega) (by omega) (by omega) ?_
  refine g_iconst (v := (nI 1)) dX12_passes_32 rfl ?_
  refine g_ic_neN 40 dX12_passes_33 (by decide) (by omega) (by omega) (fun h1 => ?_) (fun h1 => ?_)
  · refine g_iconst (v := (nI 0)) dX12_passes_40 rfl ?_
    refine g_iaddN dX12_passes_41 ?_
    refine g_istore_n (lv' := [(3, .int (nI (s + 0))), (0, .int (nI 4)), (1, .int (nI s)), (2, .int (nI k))]) dX12_passes_42 rfl (by decide) rfl ?_
    refine g_iload_n dX12_passes_43 rfl rfl ?_
    refine g_iload_n dX12_passes_44 rfl rfl ?_
    refine g_iconst (v := (nI 3)) dX12_passes_45 rfl ?_
    refine g_ic_neN 59 dX12_passes_46 (by decide) (by omega) (by omega) (fun _ => ?_) (fun z => absurd z (by omega))
    refine g_iconst (v := (nI 0)) dX12_passes_59 rfl ?_
    refine g_iaddN dX12_passes_60 ?_
    refine g_istore_n (lv' := [(3, .int (nI ((s + 0) + 0))), (0, .int (nI 4)), (1, .int (nI s)), (2, .int (nI k))]) dX12_passes_61 rfl (by decide) rfl ?_
    refine g_iload_n dX12_passes_62 rfl rfl ?_
    refine g_iconst (v := (nI 4)) dX12_passes_63 rfl ?_
    refine g_ic_neN 78 dX12_passes_64 (by decide) (by omega) (by omega) (fun z => absurd z (by omega)) (fun _ => ?_)
    refine g_iload_n dX12_passes_67 rfl rfl ?_
    refine g_iconst (v := (nI 5)) dX12_passes_68 rfl ?_
    refine g_iremN dX12_passes_69 (by omega) (by omega) (by omega) ?_
    refine g_iconst (v := (nI 4)) dX12_passes_70 rfl ?_
    refine g_ic_neN 78 dX12_passes_71 (by decide) (by omega) (by omega) (fun h2 => ?_) (fun h2 => ?_)
    · refine g_iload_n dX12_passes_78 rfl rfl ?_
      refine g_istore_n (lv' := [(3, .int (nI ((s + 0) + 0))), (0, .int (nI 4)), (1, .int (nI s)), (2, .int (nI k))]) dX12_passes_79 rfl (by decide) rfl ?_
      refine g_iload_n dX12_passes_80 rfl rfl ?_
      refine g_iconst (v := (nI 5)) dX12_passes_81 rfl ?_
      refine g_ic_neN 94 dX12_passes_82 (by decide) (by omega) (by omega) (fun _ => ?_) (fun z => absurd z (by omega))
      refine g_iload_n dX12_passes_94 rfl rfl ?_
      refine g_iret dX12_passes_95 rfl rfl ?_
      exact ⟨_, rfl, congrArg nI (by simp only [zs_pas] <;> (repeat' split) <;> omega), rfl⟩
    · refine g_iconst (v := (nI 0)) dX12_passes_74 rfl ?_
      refine g_goto 79 dX12_passes_75 (by decide) ?_
      refine g_istore_n (lv' := [(3, .int (nI 0)), (0, .int (nI 4)), (1, .int (nI s)), (2, .int (nI k))]) dX12_passes_79 rfl (by decide) rfl ?_
      refine g_iload_n dX12_passes_80 rfl rfl ?_
      refine g_iconst (v := (nI 5)) dX12_passes_81 rfl ?_
      refine g_ic_neN 94 dX12_passes_82 (by decide) (by omega) (by omega) (fun _ => ?_) (fun z => absurd z (by omega))
      refine g_iload_n dX12_passes_94 rfl rfl ?_
      refine g_iret dX12_passes_95 rfl rfl ?_
      exact ⟨_, rfl, congrArg nI (by simp only [zs_pas] <;> (repeat' split) <;> omega), rfl⟩
  · refine g_iconst (v := (nI 1)) dX12_passes_36 rfl ?_
    refine g_goto 41 dX12_passes_37 (by decide) ?_
    refine g_iaddN dX12_passes_41 ?_
    refine g_istore_n (lv' := [(3, .int (nI (s + 1))), (0, .int (nI 4)), (1, .int (nI s)), (2, .int (nI k))]) dX12_passes_42 rfl (by decide) rfl ?_
    refine g_iload_n dX12_passes_43 rfl rfl ?_
    refine g_iload_n dX12_passes_44 rfl rfl ?_
    refine g_iconst (v := (nI 3)) dX12_passes_45 rfl ?_
    refine g_ic_neN 59 dX12_passes_46 (by decide) (by omega) (by omega) (fun _ => ?_) (fun z => absurd z (by omega))
    refine g_iconst (v := (nI 0)) dX12_passes_59 rfl ?_
    refine g_iaddN dX12_passes_60 ?_
    refine g_istore_n (lv' := [(3, .int (nI ((s + 1) + 0))), (0, .int (nI 4)), (1, .int (nI s)), (2, .int (nI k))]) dX12_passes_61 rfl (by decide) rfl ?_
    refine g_iload_n dX12_passes_62 rfl rfl ?_
    refine g_iconst (v := (nI 4)) dX12_passes_63 rfl ?_
    refine g_ic_neN 78 dX12_passes_64 (by decide) (by omega) (by omega) (fun z => absurd z (by omega)) (fun _ => ?_)
    refine g_iload_n dX12_passes_67 rfl rfl ?_
    refine g_iconst (v := (nI 5)) dX12_passes_68 rfl ?_
    refine g_iremN dX12_passes_69 (by omega) (by omega) (by omega) ?_
    refine g_iconst (v := (nI 4)) dX12_passes_70 rfl ?_
    refine g_ic_neN 78 dX12_passes_71 (by decide) (by omega) (by omega) (fun h3 => ?_) (fun h3 => ?_)
    · refine g_iload_n dX12_passes_78 rfl rfl ?_
      refine g_istore_n (lv' := [(3, .int (nI ((s + 1) + 0))), (0, .int (nI 4)), (1, .int (nI s)), (2, .int (nI k))]) dX12_passes_79 rfl (by decide) rfl ?_
      refine g_iload_n dX12_passes_80 rfl rfl ?_
      refine g_iconst (v := (nI 5)) dX12_passes_81 rfl ?_
      refine g_ic_neN 94 dX12_passes_82 (by decide) (by omega) (by omega) (fun _ => ?_) (fun z => absurd z (by omega))
      refine g_iload_n dX12_passes_94 rfl rfl ?_
      refine g_iret dX12_passes_95 rfl rfl ?_
      exact ⟨_, rfl, congrArg nI (by simp only [zs_pas] <;> (repeat' split) <;> omega), rfl⟩
    · refine g_iconst (v := (nI 0)) dX12_passes_74 rfl ?_
      refine g_goto 79 dX12_passes_75 (by decide) ?_
      refine g_istore_n (lv' := [(3, .int (nI 0)), (0, .int (nI 4)), (1, .int (nI s)), (2, .int (nI k))]) dX12_passes_79 rfl (by decide) rfl ?_
      refine g_iload_n dX12_passes_80 rfl rfl ?_
      refine g_iconst (v := (nI 5)) dX12_passes_81 rfl ?_
      refine g_ic_neN 94 dX12_passes_82 (by decide) (by omega) (by omega) (fun _ => ?_) (fun z => absurd z (by omega))
      refine g_iload_n dX12_passes_94 rfl rfl ?_
      refine g_iret dX12_passes_95 rfl rfl ?_
      exact ⟨_, rfl, congrArg nI (by simp only [zs_pas] <;> (repeat' split) <;> omega), rfl⟩
set_option maxRecDepth 100000 in
theorem z_pass5 (S : zs_S) (s k : Nat) (hs : s < 2 ^ 20) (hk : k < 2 ^ 30) : zs_Ci MX12_passes [.int (nI 5), .int (nI s), .int (nI k)] S (fun z S2 => z = nI (zs_pas 5 s k) ∧ S = S2) := by
  refine zs_C.of (by decide) (Nat.le_of_ble_eq_true rfl) ?_
  show zs_P MX12_passes 0 [(0, .int (nI 5)), (1, .int (nI s)), (2, .int (nI k))] [] S _
  refine g_iload_n dX12_passes_0 rfl rfl ?_
  refine g_iconst (v := (nI 1)) dX12_passes_1 rfl ?_
  refine g_ic_eqN 10 dX12_passes_2 (by decide) (by omega) (by omega) (fun z => absurd z (by omega)) (fun _ => ?_)
  refine g_iload_n dX12_passes_5 rfl rfl ?_
  refine g_iconst (v := (nI 3)) dX12_passes_6 rfl ?_
  refine g_ic_neN 16 dX12_passes_7 (by decide) (by omega) (by omega) (fun _ => ?_) (fun z => absurd z (by omega))
  refine g_iload_n dX12_passes_16 rfl rfl ?_
  refine g_istore_n (lv' := [(3, .int (nI s)), (0, .int (nI 5)), (1, .int (nI s)), (2, .int (nI k))]) dX12_passes_17 rfl (by decide) rfl ?_
  refine g_iload_n dX12_passes_18 rfl rfl ?_
  refine g_iload_n dX12_passes_19 rfl rfl ?_
  refine g_iconst (v := (nI 2)) dX12_passes_20 rfl ?_
  refine g_ic_eqN 29 dX12_passes_21 (by decide) (by omega) (by omega) (fun z => absurd z (by omega)) (fun _ => ?_)
  refine g_iload_n dX12_passes_24 rfl rfl ?_
  refine g_iconst (v := (nI 4)) dX12_passes_25 rfl ?_
  refine g_ic_neN 40 dX12_passes_26 (by decide) (by omega) (by omega) (fun _ => ?_) (fun z => absurd z (by omega))
  refine g_iconst (v := (nI 0)) dX12_passes_40 rfl ?_
  refine g_iaddN dX12_passes_41 ?_
  refine g_istore_n (lv' := [(3, .int (nI (s + 0))), (0, .int (nI 5)), (1, .int (nI s)), (2, .int (nI k))]) dX12_passes_42 rfl (by decide) rfl ?_
  refine g_iload_n dX12_passes_43 rfl rfl ?_
  refine g_iload_n dX12_passes_44 rfl rfl ?_
  refine g_iconst (v := (nI 3)) dX12_passes_45 rfl ?_
  refine g_ic_neN 59 dX12_passes_46 (by decide) (by omega) (by omega) (fun _ => ?_) (fun z => absurd z (by omega))
  refine g_iconst (v := (nI 0)) dX12_passes_59 rfl ?_
  refine g_iaddN dX12_passes_60 ?_
  refine g_istore_n (lv' := [(3, .int (nI ((s + 0) + 0))), (0, .int (nI 5)), (1, .int (nI s)), (2, .int (nI k))]) dX12_passes_61 rfl (by decide) rfl ?_
  refine g_iload_n dX12_passes_62 rfl rfl ?_
  refine g_iconst (v := (nI 4)) dX12_passes_63 rfl ?_
  refine g_ic_neN 78 dX12_passes_64 (by decide) (by omega) (by omega) (fun _ => ?_) (fun z => absurd z (by omega))
  refine g_iload_n dX12_passes_78 rfl rfl ?_
  refine g_istore_n (lv' := [(3, .int (nI ((s + 0) + 0))), (0, .int (nI 5)), (1, .int (nI s)), (2, .int (nI k))]) dX12_passes_79 rfl (by decide) rfl ?_
  refine g_iload_n dX12_passes_80 rfl rfl ?_
  refine g_iconst (v := (nI 5)) dX12_passes_81 rfl ?_
  refine g_ic_neN 94 dX12_passes_82 (by decide) (by omega) (by omega) (fun z => absurd z (by omega)) (fun _ => ?_)
  refine g_iload_n dX12_passes_85 rfl rfl ?_
  refine g_iconst (v := (nI 1)) dX12_passes_86 rfl ?_
  refine g_ic_geN 94 dX12_passes_87 (by decide) (by omega) (by omega) (fun h1 => ?_) (fun h1 => ?_)
  · refine g_iload_n dX12_passes_94 rfl rfl ?_
    refine g_iret dX12_passes_95 rfl rfl ?_
    exact ⟨_, rfl, congrArg nI (by simp only [zs_pas] <;> (repeat' split) <;> omega), rfl⟩
  · refine g_iconst (v := (nI 1)) dX12_passes_90 rfl ?_
    refine g_goto 95 dX12_passes_91 (by decide) ?_
    refine g_iret dX12_passes_95 rfl rfl ?_
    exact ⟨_, rfl, congrArg nI (by simp only [zs_pas] <;> (repeat' split) <;> omega), rfl⟩
theorem z_p0 (S : zs_S) (s k : Nat) (hs : s < 2 ^ 20) (hk : k < 2 ^ 30) : zs_Ci MX12_passes [.int (nI 0), .int (nI s), .int (nI k)] S (fun z S2 => z = nI s ∧ S = S2) := z_pass0 S s k hs hk
set_option maxRecDepth 100000 in
theorem z_flash0 (S : zs_S) (f k s : Nat) (bf : f < 2) (bk : k < 20000) (bs : s < 12) (h0 : S.1 82 0 = nI 2) (h1 : S.1 82 1 = nI 0) (h2 : S.1 82 2 = nI 0) (hf : S.1 81 0 = nI f) (hk : S.1 81 1 = nI k) : zs_Cv MX12_flash [.ref 80, .int (nI 0), .int (nI s), .int (nI 1)] S (fun S2 => S2 = (zs_up (zs_up S.1 81 1 (nI (k + 1))) 81 0 (nI ((f + s) % 2)), S.2)) := by
  refine zs_C.of (by decide) (Nat.le_of_ble_eq_true rfl) ?_
  show zs_P MX12_flash 0 [(0, .ref 80), (1, .int (nI 0)), (2, .int (nI s)), (3, .int (nI 1))] [] S _
  refine g_aload_n dX12_flash_0 rfl rfl ?_
  refine g_getR 0 (81) (C := RX12) (T := TX12) (N := 19) dX12_flash_1 (by decide) rfl rfl (by decide) rfl fl_RX12_7 ?_
  refine g_iload_n dX12_flash_4 rfl rfl ?_
  refine g_iconst (v := (nI 1)) dX12_flash_5 rfl ?_
  refine g_iaddN dX12_flash_6 ?_
  refine g_dup2 dX12_flash_7 rfl rfl ?_
  refine g_ialdN (v := (nI k)) dX12_flash_8 (by decide) rfl (by omega) (by decide) hk ?_
  refine g_iconst (v := (nI 1)) dX12_flash_9 rfl ?_
  refine g_iaddN dX12_flash_10 ?_
  refine g_iastN dX12_flash_11 (by decide) rfl (by omega) (by decide) ?_
  refine g_aload_n dX12_flash_12 rfl rfl ?_
  refine g_getR 0 (81) (C := RX12) (T := TX12) (N := 19) dX12_flash_13 (by decide) rfl rfl (by decide) rfl fl_RX12_7 ?_
  refine g_iload_n dX12_flash_16 rfl rfl ?_
  refine g_iconst (v := (nI 0)) dX12_flash_17 rfl ?_
  refine g_iaddN dX12_flash_18 ?_
  refine g_aload_n dX12_flash_19 rfl rfl ?_
  refine g_getR 0 (81) (C := RX12) (T := TX12) (N := 19) dX12_flash_20 (by decide) rfl rfl (by decide) rfl fl_RX12_7 ?_
  refine g_iload_n dX12_flash_23 rfl rfl ?_
  refine g_iconst (v := (nI 0)) dX12_flash_24 rfl ?_
  refine g_iaddN dX12_flash_25 ?_
  refine g_ialdN (v := (nI f)) dX12_flash_26 (by decide) rfl (by omega) (by decide) ((zs_up_m (by omega)).trans hf) ?_
  refine g_aload_n dX12_flash_27 rfl rfl ?_
  refine g_getR 1 (82) (C := RX12) (T := TX12) (N := 19) dX12_flash_28 (by decide) rfl rfl (by decide) rfl fl_RX12_13 ?_
  refine g_iconst (v := (nI 1)) dX12_flash_31 rfl ?_
  refine g_ialdN (v := (nI 0)) dX12_flash_32 (by decide) rfl (by omega) (by decide) ((zs_up_m (by omega)).trans h1) ?_
  refine g_iload_n dX12_flash_33 rfl rfl ?_
  refine g_aload_n dX12_flash_34 rfl rfl ?_
  refine g_getR 0 (81) (C := RX12) (T := TX12) (N := 19) dX12_flash_35 (by decide) rfl rfl (by decide) rfl fl_RX12_7 ?_
  refine g_iload_n dX12_flash_38 rfl rfl ?_
  refine g_iconst (v := (nI 1)) dX12_flash_39 rfl ?_
  refine g_iaddN dX12_flash_40 ?_
  refine g_ialdN (v := (nI (k + 1))) dX12_flash_41 (by decide) rfl (by omega) (by decide) zs_up_q ?_
  refine g_callS [.int (nI 0), .int (nI s), .int (nI (k + 1))] [.int (nI f), .int (nI 0), .ref 81] (z_p0 (zs_up S.1 81 1 (nI (k + 1)), S.2) s (k + 1) (by omega) (by omega)) dX12_flash_42 kk_X12_flash_X12_passes ml_RX12_162 swX12_passes rfl rfl (Nat.le_of_ble_eq_true rfl) ?_
  rintro _ _ ⟨_, rfl, rfl, rfl⟩
  refine g_iaddN dX12_flash_45 ?_
  refine g_aload_n dX12_flash_46 rfl rfl ?_
  refine g_getR 1 (82) (C := RX12) (T := TX12) (N := 19) dX12_flash_47 (by decide) rfl rfl (by decide) rfl fl_RX12_13 ?_
  refine g_iconst (v := (nI 0)) dX12_flash_50 rfl ?_
  refine g_ialdN (v := (nI 2)) dX12_flash_51 (by decide) rfl (by omega) (by decide) ((zs_up_m (by omega)).trans h0) ?_
  refine g_iremN dX12_flash_52 (by omega) (by omega) (by omega) ?_
  refine g_iastN dX12_flash_53 (by decide) rfl (by omega) (by decide) ?_
  refine g_iconst (v := (nI 0)) dX12_flash_54 rfl ?_
  refine g_istore (lv' := [(4, .int (nI 0)), (0, .ref 80), (1, .int (nI 0)), (2, .int (nI s)), (3, .int (nI 1))]) dX12_flash_55 (by decide) rfl ?_
  refine g_iload dX12_flash_57 rfl ?_
  refine g_aload_n dX12_flash_59 rfl rfl ?_
  refine g_getR 1 (82) (C := RX12) (T := TX12) (N := 19) dX12_flash_60 (by decide) rfl rfl (by decide) rfl fl_RX12_13 ?_
  refine g_iconst (v := (nI 2)) dX12_flash_63 rfl ?_
  refine g_ialdN (v := (nI 0)) dX12_flash_64 (by decide) rfl (by omega) (by decide) ((zs_up_m (by omega)).trans ((zs_up_m (by omega)).trans h2)) ?_
  refine g_ic_geN 209 dX12_flash_65 (by decide) (by omega) (by omega) (fun _ => ?_) (fun z => absurd z (by omega))
  refine g_ret dX12_flash_209 rfl ?_
  exact ⟨rfl, rfl⟩
set_option maxRecDepth 100000 in
theorem z_flash675 (S : zs_S) (f k s : Nat) (bf : f < 2) (bk : k < 20000) (bs : s < 12) (h0 : S.1 82 0 = nI 2) (h1 : S.1 82 1 = nI 0) (h2 : S.1 82 2 = nI 0) (hf : S.1 81 675 = nI f) (hk : S.1 81 676 = nI k) : zs_Cv MX12_flash [.ref 80, .int (nI 675), .int (nI s), .int (nI 1)] S (fun S2 => S2 = (zs_up (zs_up S.1 81 676 (nI (k + 1))) 81 675 (nI ((f + s) % 2)), S.2)) := by
  refine zs_C.of (by decide) (Nat.le_of_ble_eq_true rfl) ?_
  show zs_P MX12_flash 0 [(0, .ref 80), (1, .int (nI 675)), (2, .int (nI s)), (3, .int (nI 1))] [] S _
  refine g_aload_n dX12_flash_0 rfl rfl ?_
  refine g_getR 0 (81) (C := RX12) (T := TX12) (N := 19) dX12_flash_1 (by decide) rfl rfl (by decide) rfl fl_RX12_7 ?_
  refine g_iload_n dX12_flash_4 rfl rfl ?_
  refine g_iconst (v := (nI 1)) dX12_flash_5 rfl ?_
  refine g_iaddN dX12_flash_6 ?_
  refine g_dup2 dX12_flash_7 rfl rfl ?_
  refine g_ialdN (v := (nI k)) dX12_flash_8 (by decide) rfl (by omega) (by decide) hk ?_
  refine g_iconst (v := (nI 1)) dX12_flash_9 rfl ?_
  refine g_iaddN dX12_flash_10 ?_
  refine g_iastN dX12_flash_11 (by decide) rfl (by omega) (by decide) ?_
  refine g_aload_n dX12_flash_12 rfl rfl ?_
  refine g_getR 0 (81) (C := RX12) (T := TX12) (N := 19) dX12_flash_13 (by decide) rfl rfl (by decide) rfl fl_RX12_7 ?_
  refine g_iload_n dX12_flash_16 rfl rfl ?_
  refine g_iconst (v := (nI 0)) dX12_flash_17 rfl ?_
  refine g_iaddN dX12_flash_18 ?_
  refine g_aload_n dX12_flash_19 rfl rfl ?_
  refine g_getR 0 (81) (C := RX12) (T := TX12) (N := 19) dX12_flash_20 (by decide) rfl rfl (by decide) rfl fl_RX12_7 ?_
  refine g_iload_n dX12_flash_23 rfl rfl ?_
  refine g_iconst (v := (nI 0)) dX12_flash_24 rfl ?_
  refine g_iaddN dX12_flash_25 ?_
  refine g_ialdN (v := (nI f)) dX12_flash_26 (by decide) rfl (by omega) (by decide) ((zs_up_m (by omega)).trans hf) ?_
  refine g_aload_n dX12_flash_27 rfl rfl ?_
  refine g_getR 1 (82) (C := RX12) (T := TX12) (N := 19) dX12_flash_28 (by decide) rfl rfl (by decide) rfl fl_RX12_13 ?_
  refine g_iconst (v := (nI 1)) dX12_flash_31 rfl ?_
  refine g_ialdN (v := (nI 0)) dX12_flash_32 (by decide) rfl (by omega) (by decide) ((zs_up_m (by omega)).trans h1) ?_
  refine g_iload_n dX12_flash_33 rfl rfl ?_
  refine g_aload_n dX12_flash_34 rfl rfl ?_
  refine g_getR 0 (81) (C := RX12) (T := TX12) (N := 19) dX12_flash_35 (by decide) rfl rfl (by decide) rfl fl_RX12_7 ?_
  refine g_iload_n dX12_flash_38 rfl rfl ?_
  refine g_iconst (v := (nI 1)) dX12_flash_39 rfl ?_
  refine g_iaddN dX12_flash_40 ?_
  refine g_ialdN (v := (nI (k + 1))) dX12_flash_41 (by decide) rfl (by omega) (by decide) zs_up_q ?_
  refine g_callS [.int (nI 0), .int (nI s), .int (nI (k + 1))] [.int (nI f), .int (nI 675), .ref 81] (z_p0 (zs_up S.1 81 676 (nI (k + 1)), S.2) s (k + 1) (by omega) (by omega)) dX12_flash_42 kk_X12_flash_X12_passes ml_RX12_162 swX12_passes rfl rfl (Nat.le_of_ble_eq_true rfl) ?_
  rintro _ _ ⟨_, rfl, rfl, rfl⟩
  refine g_iaddN dX12_flash_45 ?_
  refine g_aload_n dX12_flash_46 rfl rfl ?_
  refine g_getR 1 (82) (C := RX12) (T := TX12) (N := 19) dX12_flash_47 (by decide) rfl rfl (by decide) rfl fl_RX12_13 ?_
  refine g_iconst (v := (nI 0)) dX12_flash_50 rfl ?_
  refine g_ialdN (v := (nI 2)) dX12_flash_51 (by decide) rfl (by omega) (by decide) ((zs_up_m (by omega)).trans h0) ?_
  refine g_iremN dX12_flash_52 (by omega) (by omega) (by omega) ?_
  refine g_iastN dX12_flash_53 (by decide) rfl (by omega) (by decide) ?_
  refine g_iconst (v := (nI 0)) dX12_flash_54 rfl ?_
  refine g_istore (lv' := [(4, .int (nI 0)), (0, .ref 80), (1, .int (nI 675)), (2, .int (nI s)), (3, .int (nI 1))]) dX12_flash_55 (by decide) rfl ?_
  refine g_iload dX12_flash_57 rfl ?_
  refine g_aload_n dX12_flash_59 rfl rfl ?_
  refine g_getR 1 (82) (C := RX12) (T := TX12) (N := 19) dX12_flash_60 (by decide) rfl rfl (by decide) rfl fl_RX12_13 ?_
  refine g_iconst (v := (nI 2)) dX12_flash_63 rfl ?_
  refine g_ialdN (v := (nI 0)) dX12_flash_64 (by decide) rfl (by omega) (by decide) ((zs_up_m (by omega)).trans ((zs_up_m (by omega)).trans h2)) ?_
  refine g_ic_geN 209 dX12_flash_65 (by decide) (by omega) (by omega) (fun _ => ?_) (fun z => absurd z (by omega))
  refine g_ret dX12_flash_209 rfl ?_
  exact ⟨rfl, rfl⟩
/-- the model, fresh but for where it is and the flash (and what may be undone) -/
def zs_ms (S : zs_S) (f k : Nat) : Prop := S.1 82 0 = nI 2 ∧ S.1 82 1 = nI 0 ∧ S.1 82 2 = nI 0 ∧ S.1 81 0 = nI f ∧ S.1 81 1 = nI k ∧ S.1 81 2 = nI 1
/-- the model, fresh but for the trial: where it is there, and the flash -/
def zs_mt (S0 S : zs_S) (f k : Nat) : Prop := zs_ch 81 82 S0 S ∧ (∀ j, j < 675 → S.1 81 j = S0.1 81 j) ∧ S.1 81 675 = nI f ∧ S.1 81 676 = nI k
set_option maxRecDepth 100000 in
theorem z_spins_l (n : Nat) (hn : n ≤ 60) (Q : Option Value → zs_S → Prop) (hq : ∀ S, Q (some (.int (nI (n % 2)))) S) : ∀ (d i : Nat), i + d = n → ∀ S, zs_ms S (i % 2) i → zs_P MX12_spins 23 [(2, .int (nI i)), (0, .ref 80), (1, .int (nI n))] [] S Q := by
  intro d
  induction d with
  | zero =>
    intro i hi S h
    obtain rfl : i = n := by omega
    refine g_iload_n dX12_spins_23 rfl rfl ?_
    refine g_iload_n dX12_spins_24 rfl rfl ?_
    refine g_ic_geN 58 dX12_spins_25 (by decide) (by omega) (by omega) (fun _ => ?_) (fun z => absurd z (by omega))
    refine g_aload_n dX12_spins_58 rfl rfl ?_
    refine g_getR 0 (81) (C := RX12) (T := TX12) (N := 19) dX12_spins_59 (by decide) rfl rfl (by decide) rfl fl_RX12_7 ?_
    refine g_iconst (v := (nI 0)) dX12_spins_62 rfl ?_
    refine g_ialdN (v := (nI (i % 2))) dX12_spins_63 (by decide) rfl (by omega) (by decide) h.2.2.2.1 ?_
    refine g_iret dX12_spins_64 rfl rfl ?_
    exact hq S
  | succ d ih =>
    intro i hi S h
    refine g_iload_n dX12_spins_23 rfl rfl ?_
    refine g_iload_n dX12_spins_24 rfl rfl ?_
    refine g_ic_geN 58 dX12_spins_25 (by decide) (by omega) (by omega) (fun z => absurd z (by omega)) (fun _ => ?_)
    refine g_aload_n dX12_spins_28 rfl rfl ?_
    refine g_getR 0 (81) (C := RX12) (T := TX12) (N := 19) dX12_spins_29 (by decide) rfl rfl (by decide) rfl fl_RX12_7 ?_
    refine g_iconst (v := (nI 1)) dX12_spins_32 rfl ?_
    refine g_ialdN (v := (nI i)) dX12_spins_33 (by decide) rfl (by omega) (by decide) h.2.2.2.2.1 ?_
    refine g_sipush (v := (nI 9999)) dX12_spins_34 rfl ?_
    refine g_ic_geN 58 dX12_spins_37 (by decide) (by omega) (by omega) (fun z => absurd z (by omega)) (fun _ => ?_)
    refine g_aload_n dX12_spins_40 rfl rfl ?_
    refine g_iconst (v := (nI 0)) dX12_spins_41 rfl ?_
    refine g_aload_n dX12_spins_42 rfl rfl ?_
    refine g_getR 0 (81) (C := RX12) (T := TX12) (N := 19) dX12_spins_43 (by decide) rfl rfl (by decide) rfl fl_RX12_7 ?_
    refine g_iconst (v := (nI 2)) dX12_spins_46 rfl ?_
    refine g_ialdN (v := (nI 1)) dX12_spins_47 (by decide) rfl (by omega) (by decide) h.2.2.2.2.2 ?_
    refine g_iconst (v := (nI 1)) dX12_spins_48 rfl ?_
    refine g_callV (T := TX12) (NN := 19) [] (z_flash0 S (i % 2) i 1 (by omega) (by omega) (by omega) h.1 h.2.1 h.2.2.1 h.2.2.2.1 h.2.2.2.2.1) dX12_spins_49 kk_X12_spins_X12_flash ml_RX12_132 mwX12_flash ewX12_flash (by decide) rfl rfl rfl rfl (Nat.le_of_ble_eq_true rfl) ?_
    rintro _ _ ⟨rfl, rfl⟩
    refine g_iinc (v := (nI (i + 1))) (lv' := [(2, .int (nI (i + 1))), (0, .ref 80), (1, .int (nI n))]) dX12_spins_52 rfl (nI_1 i) (by decide) rfl ?_
    refine g_goto 23 dX12_spins_55 (by decide) ?_
    exact ih (i + 1) (by omega) _ ⟨(zs_up_m (by decide)).trans ((zs_up_n (by decide)).trans h.1), (zs_up_m (by decide)).trans ((zs_up_n (by decide)).trans h.2.1), (zs_up_m (by decide)).trans ((zs_up_n (by decide)).trans h.2.2.1), zs_up_q.trans (by rw [show (i % 2 + 1) % 2 = (i + 1) % 2 by omega]), (zs_up_m (by decide)).trans zs_up_s, (zs_up_m (by decide)).trans ((zs_up_n (by decide)).trans h.2.2.2.2.2)⟩
set_option maxRecDepth 100000 in
theorem w_spins (S : zs_S) (F : zs_F1 S) (n : Int32) : zs_Ci MX12_spins [.ref 80, .int n] S (fun x _ => x = zs_if (nI 1 ≤ n ∧ n ≤ nI 60) (zs_par n) (-2)) := by
  refine zs_C.of (by decide) (Nat.le_of_ble_eq_true rfl) ?_
  show zs_P MX12_spins 0 [(0, .ref 80), (1, .int n)] [] S _
  refine g_iload_n dX12_spins_0 rfl rfl ?_
  refine g_i2l dX12_spins_1 rfl ?_
  refine g_lconst (v := 1) dX12_spins_2 (by decide) ?_
  refine g_ldc2 (v := 60) dX12_spins_3 cl_RX12_173 ?_
  refine g_callS [.long (Int32.toInt64 n), .long 1, .long 60] [] (z_in S n 1 60 (by decide) (by decide)) dX12_spins_6 kk_X12_spins_X12_in ml_RX12_54 swX12_in rfl rfl (Nat.le_of_ble_eq_true rfl) ?_
  rintro _ _ ⟨_, rfl, rfl, rfl⟩
  refine g_if_ne 17 dX12_spins_9 (by decide) (fun h1 => ?_) (fun h1 => ?_)
  · have h1 := zs_b1 h1
    obtain ⟨n', n'a, n'b, rfl⟩ := zs_rng h1 (by omega)
    refine g_aload_n dX12_spins_17 rfl rfl ?_
    refine g_callV (T := TX12) (NN := 19) [] (z_known S F) dX12_spins_18 kk_X12_spins_X12_known ml_RX12_175 mwX12_known ewX12_known (by decide) rfl rfl rfl rfl (Nat.le_of_ble_eq_true rfl) ?_
    rintro _ S8 ⟨rfl, k81, k82⟩
    refine g_iconst (v := (nI 0)) dX12_spins_21 rfl ?_
    refine g_istore_n (lv' := [(2, .int (nI 0)), (0, .ref 80), (1, .int (nI n'))]) dX12_spins_22 rfl (by decide) rfl ?_
    exact z_spins_l n' (by omega) _ (fun S2 => ⟨_, rfl, ((zs_it h1).trans (zs_par_nI (by omega))).symm⟩) n' 0 (by omega) _ ⟨((k82 0 (by decide)).trans (congrFun (F 82 (by decide)).1 0)), ((k82 1 (by decide)).trans (congrFun (F 82 (by decide)).1 1)), ((k82 2 (by decide)).trans (congrFun (F 82 (by decide)).1 2)), ((k81 0 (by decide)).trans (congrFun (F 81 (by decide)).1 0)), ((k81 1 (by decide)).trans (congrFun (F 81 (by decide)).1 1)), ((k81 2 (by decide)).trans (congrFun (F 81 (by decide)).1 2))⟩
  · have h1 := zs_b0 h1
    refine g_aload_n dX12_spins_12 rfl rfl ?_
    refine g_callV (T := TX12) (NN := 19) [] (z_bad S) dX12_spins_13 kk_X12_spins_X12_bad ml_RX12_62 mwX12_bad ewX12_bad (by decide) rfl rfl rfl rfl (Nat.le_of_ble_eq_true rfl) ?_
    rintro _ S2 ⟨_, rfl, rfl⟩
    refine g_iret dX12_spins_16 rfl rfl ?_
    exact ⟨_, rfl, (zs_ie (fun q => h1 q)).symm⟩
set_option maxRecDepth 100000 in
theorem z_tries_l (S0 : zs_S) (f k : Nat) (Q : Option Value → zs_S → Prop) (hq : ∀ S, zs_mt S0 S f k → Q none S) : ∀ (d i : Nat), i + d = 5 → ∀ S, zs_mt S0 S f k → zs_P MX12_tries 10 [(1, .int (nI i)), (0, .ref 80)] [] S Q := by
  intro d
  induction d with
  | zero =>
    intro i hi S h
    obtain rfl : i = 5 := by omega
    refine g_iload_n dX12_tries_10 rfl rfl ?_
    refine g_iconst (v := (nI 5)) dX12_tries_11 rfl ?_
    refine g_ic_geN 32 dX12_tries_12 (by decide) (by omega) (by omega) (fun _ => ?_) (fun z => absurd z (by omega))
    refine g_ret dX12_tries_32 rfl ?_
    exact hq S h
  | succ d ih =>
    intro i hi S h
    refine g_iload_n dX12_tries_10 rfl rfl ?_
    refine g_iconst (v := (nI 5)) dX12_tries_11 rfl ?_
    refine g_ic_geN 32 dX12_tries_12 (by decide) (by omega) (by omega) (fun z => absurd z (by omega)) (fun _ => ?_)
    refine g_aload_n dX12_tries_15 rfl rfl ?_
    refine g_getR 0 (81) (C := RX12) (T := TX12) (N := 19) dX12_tries_16 (by decide) rfl rfl (by decide) rfl fl_RX12_7 ?_
    refine g_sipush (v := (nI 695)) dX12_tries_19 rfl ?_
    refine g_iload_n dX12_tries_22 rfl rfl ?_
    refine g_iaddN dX12_tries_23 ?_
    refine g_iconst (v := (nI 0)) dX12_tries_24 rfl ?_
    refine g_iastN dX12_tries_25 (by decide) rfl (by omega) (by decide) ?_
    refine g_iinc (v := (nI (i + 1))) (lv' := [(1, .int (nI (i + 1))), (0, .ref 80)]) dX12_tries_26 rfl (nI_1 i) (by decide) rfl ?_
    refine g_goto 10 dX12_tries_29 (by decide) ?_
    exact ih (i + 1) (by omega) _ ⟨h.1.up (by omega) (by omega), fun j hj => (zs_up_m (by omega)).trans (h.2.1 j hj), (zs_up_m (by omega)).trans h.2.2.1, (zs_up_m (by omega)).trans h.2.2.2⟩
set_option maxRecDepth 100000 in
theorem z_tries (S0 S : zs_S) (F : zs_F1 S0) (h : zs_ch 81 82 S0 S) (h2 : ∀ j, j < 675 → S.1 81 j = S0.1 81 j) : zs_Cv MX12_tries [.ref 80] S (fun S2 => zs_mt S0 S2 0 0) := by
  refine zs_C.of (by decide) (Nat.le_of_ble_eq_true rfl) ?_
  show zs_P MX12_tries 0 [(0, .ref 80)] [] S _
  refine g_aload_n dX12_tries_0 rfl rfl ?_
  refine g_iconst (v := (nI 0)) dX12_tries_1 rfl ?_
  refine g_sipush (v := (nI 675)) dX12_tries_2 rfl ?_
  refine g_callV (T := TX12) (NN := 19) [] (z_copies S 675 (by decide)) dX12_tries_5 kk_X12_tries_X12_copies ml_RX12_169 mwX12_copies ewX12_copies (by decide) rfl rfl rfl rfl (Nat.le_of_ble_eq_true rfl) ?_
  rintro _ S1 ⟨rfl, c1⟩
  refine g_iconst (v := (nI 0)) dX12_tries_8 rfl ?_
  refine g_istore_n (lv' := [(1, .int (nI 0)), (0, .ref 80)]) dX12_tries_9 rfl (by decide) rfl ?_
  exact z_tries_l S0 0 0 _ (fun S3 h3 => ⟨rfl, h3⟩) 5 0 (by omega) S1 ⟨h.trans c1.1, fun j hj => (c1.2.2 j (by omega)).trans (h2 j hj), (c1.2.1 0 (by omega)).trans ((h2 0 (by omega)).trans (congrFun (F 81 (by decide)).1 0)), (c1.2.1 1 (by omega)).trans ((h2 1 (by omega)).trans (congrFun (F 81 (by decide)).1 1))⟩
theorem z_flashT (S0 S : zs_S) (F : zs_F1 S0) (f k s : Nat) (bf : f < 2) (bk : k < 20000) (bs : s < 12) (h : zs_mt S0 S f k) : zs_Cv MX12_flash [.ref 80, .int (nI 675), .int (nI s), .int (nI 1)] S (fun S2 => zs_mt S0 S2 ((f + s) % 2) (k + 1)) := (z_flash675 S f k s bf bk bs ((congrFun (h.1 82 (by omega)).1 0).trans (congrFun (F 82 (by decide)).1 0)) ((congrFun (h.1 82 (by omega)).1 1).trans (congrFun (F 82 (by decide)).1 1)) ((congrFun (h.1 82 (by omega)).1 2).trans (congrFun (F 82 (by decide)).1 2)) h.2.2.1 h.2.2.2).mono (by
  rintro _ _ ⟨rfl, rfl⟩
  exact ⟨rfl, (h.1.up (j := 676) (v := nI (k + 1)) (by omega) (by omega)).up (by omega) (by omega), fun j hj => (zs_up_m (by omega)).trans ((zs_up_n (by omega)).trans (h.2.1 j hj)), zs_up_q, (zs_up_m (by decide)).trans zs_up_s⟩)
def zs_fm (s f : Nat) : Nat → Nat
  | 0 => f
  | n + 1 => (zs_fm s f n + s) % 2
theorem zs_fm_lt {s f : Nat} (hf : f < 2) : ∀ n, zs_fm s f n < 2
  | 0 => hf
  | n + 1 => Nat.mod_lt _ (by decide)
theorem zs_fm1 : ∀ n, zs_fm 1 0 n = n % 2
  | 0 => rfl
  | n + 1 => by show (zs_fm 1 0 n + 1) % 2 = _; rw [zs_fm1 n]; omega
set_option maxRecDepth 100000 in
theorem z_flashes_l (S0 : zs_S) (F : zs_F1 S0) (f k s n : Nat) (bf : f < 2) (bk : k < 10000) (bs : s < 12) (hn : n ≤ 60) (Q : Option Value → zs_S → Prop) (hq : ∀ S, zs_mt S0 S (zs_fm s f n) (k + n) → Q none S) : ∀ (d i : Nat), i + d = n → ∀ S, zs_mt S0 S (zs_fm s f i) (k + i) → zs_P MX12_flashes 2 [(3, .int (nI i)), (0, .ref 80), (1, .int (nI n)), (2, .int (nI s))] [] S Q := by
  intro d
  induction d with
  | zero =>
    intro i hi S h
    obtain rfl : i = n := by omega
    refine g_iload_n dX12_flashes_2 rfl rfl ?_
    refine g_iload_n dX12_flashes_3 rfl rfl ?_
    refine g_ic_geN 22 dX12_flashes_4 (by decide) (by omega) (by omega) (fun _ => ?_) (fun z => absurd z (by omega))
    refine g_ret dX12_flashes_22 rfl ?_
    exact hq S h
  | succ d ih =>
    intro i hi S h
    refine g_iload_n dX12_flashes_2 rfl rfl ?_
    refine g_iload_n dX12_flashes_3 rfl rfl ?_
    refine g_ic_geN 22 dX12_flashes_4 (by decide) (by omega) (by omega) (fun z => absurd z (by omega)) (fun _ => ?_)
    refine g_aload_n dX12_flashes_7 rfl rfl ?_
    refine g_sipush (v := (nI 675)) dX12_flashes_8 rfl ?_
    refine g_iload_n dX12_flashes_11 rfl rfl ?_
    refine g_iconst (v := (nI 1)) dX12_flashes_12 rfl ?_
    refine g_callV (T := TX12) (NN := 19) [] (z_flashT S0 S F (zs_fm s f i) (k + i) s (zs_fm_lt bf i) (by omega) bs h) dX12_flashes_13 kk_X12_flashes_X12_flash ml_RX12_132 mwX12_flash ewX12_flash (by decide) rfl rfl rfl rfl (Nat.le_of_ble_eq_true rfl) ?_
    rintro _ S2 ⟨rfl, h2⟩
    refine g_iinc (v := (nI (i + 1))) (lv' := [(3, .int (nI (i + 1))), (0, .ref 80), (1, .int (nI n)), (2, .int (nI s))]) dX12_flashes_16 rfl (nI_1 i) (by decide) rfl ?_
    refine g_goto 2 dX12_flashes_19 (by decide) ?_
    exact ih (i + 1) (by omega) S2 h2
set_option maxRecDepth 100000 in
theorem z_flashes (S0 S : zs_S) (F : zs_F1 S0) (f k s n : Nat) (bf : f < 2) (bk : k < 10000) (bs : s < 12) (hn : n ≤ 60) (h : zs_mt S0 S f k) : zs_Cv MX12_flashes [.ref 80, .int (nI n), .int (nI s)] S (fun S2 => zs_mt S0 S2 (zs_fm s f n) (k + n)) := by
  refine zs_C.of (by decide) (Nat.le_of_ble_eq_true rfl) ?_
  show zs_P MX12_flashes 0 [(0, .ref 80), (1, .int (nI n)), (2, .int (nI s))] [] S _
  refine g_iconst (v := (nI 0)) dX12_flashes_0 rfl ?_
  refine g_istore_n (lv' := [(3, .int (nI 0)), (0, .ref 80), (1, .int (nI n)), (2, .int (nI s))]) dX12_flashes_1 rfl (by decide) rfl ?_
  exact z_flashes_l S0 F f k s n bf bk bs hn _ (fun S2 h2 => ⟨rfl, h2⟩) n 0 (by omega) S h
set_option maxRecDepth 100000 in
theorem w_at (S : zs_S) (F : zs_F1 S) (m : Int32) : zs_Ci MX12_at [.ref 80, .int m] S (fun x _ => x = zs_if (nI 0 ≤ m ∧ m ≤ nI 60) (zs_par m) (-2)) := by
  refine zs_C.of (by decide) (Nat.le_of_ble_eq_true rfl) ?_
  show zs_P MX12_at 0 [(0, .ref 80), (1, .int m)] [] S _
  refine g_iload_n dX12_at_0 rfl rfl ?_
  refine g_i2l dX12_at_1 rfl ?_
  refine g_lconst (v := 0) dX12_at_2 (by decide) ?_
  refine g_ldc2 (v := 60) dX12_at_3 cl_RX12_173 ?_
  refine g_callS [.long (Int32.toInt64 m), .long 0, .long 60] [] (z_in S m 0 60 (by decide) (by decide)) dX12_at_6 kk_X12_at_X12_in ml_RX12_54 swX12_in rfl rfl (Nat.le_of_ble_eq_true rfl) ?_
  rintro _ _ ⟨_, rfl, rfl, rfl⟩
  refine g_if_ne 17 dX12_at_9 (by decide) (fun h1 => ?_) (fun h1 => ?_)
  · have h1 := zs_b1 h1
    obtain ⟨m', m'a, m'b, rfl⟩ := zs_rng h1 (by omega)
    refine g_aload_n dX12_at_17 rfl rfl ?_
    refine g_callV (T := TX12) (NN := 19) [] (z_tries S S F zs_ch.rf (fun _ _ => rfl)) dX12_at_18 kk_X12_at_X12_tries ml_RX12_188 mwX12_tries ewX12_tries (by decide) rfl rfl rfl rfl (Nat.le_of_ble_eq_true rfl) ?_
    rintro _ S1 ⟨rfl, t1⟩
    refine g_aload_n dX12_at_21 rfl rfl ?_
    refine g_iload_n dX12_at_22 rfl rfl ?_
    refine g_aload_n dX12_at_23 rfl rfl ?_
    refine g_getR 0 (81) (C := RX12) (T := TX12) (N := 19) dX12_at_24 (by decide) rfl rfl (by decide) rfl fl_RX12_7 ?_
    refine g_iconst (v := (nI 2)) dX12_at_27 rfl ?_
    refine g_ialdN (v := (nI 1)) dX12_at_28 (by decide) rfl (by omega) (by decide) ((t1.2.1 2 (by omega)).trans (congrFun (F 81 (by decide)).1 2)) ?_
    refine g_callV (T := TX12) (NN := 19) [] (z_flashes S S1 F 0 0 1 m' (by decide) (by decide) (by decide) (by omega) t1) dX12_at_29 kk_X12_at_X12_flashes ml_RX12_191 mwX12_flashes ewX12_flashes (by decide) rfl rfl rfl rfl (Nat.le_of_ble_eq_true rfl) ?_
    rintro _ S2 ⟨rfl, t2⟩
    refine g_aload_n dX12_at_32 rfl rfl ?_
    refine g_getR 0 (81) (C := RX12) (T := TX12) (N := 19) dX12_at_33 (by decide) rfl rfl (by decide) rfl fl_RX12_7 ?_
    refine g_sipush (v := (nI 675)) dX12_at_36 rfl ?_
    refine g_ialdN (v := (nI (zs_fm 1 0 m'))) dX12_at_39 (by decide) rfl (by omega) (by decide) t2.2.2.1 ?_
    refine g_iret dX12_at_40 rfl rfl ?_
    exact ⟨_, rfl, (by rw [zs_it h1, zs_par_nI (by omega), zs_fm1])⟩
  · have h1 := zs_b0 h1
    refine g_aload_n dX12_at_12 rfl rfl ?_
    refine g_callV (T := TX12) (NN := 19) [] (z_bad S) dX12_at_13 kk_X12_at_X12_bad ml_RX12_62 mwX12_bad ewX12_bad (by decide) rfl rfl rfl rfl (Nat.le_of_ble_eq_true rfl) ?_
    rintro _ S2 ⟨_, rfl, rfl⟩
    refine g_iret dX12_at_16 rfl rfl ?_
    exact ⟨_, rfl, (zs_ie h1).symm⟩
