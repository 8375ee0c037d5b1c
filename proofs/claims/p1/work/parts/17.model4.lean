set_option maxRecDepth 100000 in
theorem z_isSo (S : zs_S) (v : Int32) (h : S.1 82 8 = nI 0) : zs_Ci MX12_isSo [.ref 80, .int v] S (fun x S2 => x = nI 1 ∧ S = S2) := by
  refine zs_C.of (by decide) (Nat.le_of_ble_eq_true rfl) ?_
  show zs_P MX12_isSo 0 [(0, .ref 80), (1, .int v)] [] S _
  refine g_iconst (v := (nI 1)) dX12_isSo_0 rfl ?_
  refine g_istore_n (lv' := [(2, .int (nI 1)), (0, .ref 80), (1, .int v)]) dX12_isSo_1 rfl (by decide) rfl ?_
  refine g_iconst (v := (nI 0)) dX12_isSo_2 rfl ?_
  refine g_istore_n (lv' := [(3, .int (nI 0)), (2, .int (nI 1)), (0, .ref 80), (1, .int v)]) dX12_isSo_3 rfl (by decide) rfl ?_
  refine g_iload_n dX12_isSo_4 rfl rfl ?_
  refine g_aload_n dX12_isSo_5 rfl rfl ?_
  refine g_getR 1 (82) (C := RX12) (T := TX12) (N := 19) dX12_isSo_6 (by decide) rfl rfl (by decide) rfl fl_RX12_13 ?_
  refine g_bipush (v := (nI 8)) dX12_isSo_9 rfl ?_
  refine g_ialdN (v := (nI 0)) dX12_isSo_11 (by decide) rfl (by omega) (by decide) h ?_
  refine g_ic_geN 57 dX12_isSo_12 (by decide) (by omega) (by omega) (fun _ => ?_) (fun z => absurd z (by omega))
  refine g_iload_n dX12_isSo_57 rfl rfl ?_
  refine g_iret dX12_isSo_58 rfl rfl ?_
  exact ⟨_, rfl, rfl, rfl⟩
set_option maxRecDepth 100000 in
theorem z_shown_l (S : zs_S) (c t : Nat) (hc : c < 24) (ht : t ≤ 30) (h0 : S.1 82 0 = nI 2) (h1 : S.1 82 1 = nI 0) (hd : ∀ j, 3 ≤ j → j < 15 → S.1 81 j = nI 0) (Q : Option Value → zs_S → Prop) (hq : Q (some (.int (nI 0))) S) : ∀ (d i : Nat), i + d = t + 1 → ∀ f, f < 2 → zs_P MX12_shown 8 [(4, .int (nI i)), (3, .int (nI f)), (0, .ref 80), (1, .int (nI c)), (2, .int (nI t))] [] S Q := by
  intro d
  induction d with
  | zero =>
    intro i hi f bf
    obtain rfl : i = t + 1 := by omega
    refine g_iload dX12_shown_8 rfl ?_
    refine g_iload_n dX12_shown_10 rfl rfl ?_
    refine g_ic_gtN 45 dX12_shown_11 (by decide) (by omega) (by omega) (fun _ => ?_) (fun z => absurd z (by omega))
    refine g_aload_n dX12_shown_45 rfl rfl ?_
    refine g_getR 0 (81) (C := RX12) (T := TX12) (N := 19) dX12_shown_46 (by decide) rfl rfl (by decide) rfl fl_RX12_7 ?_
    refine g_iconst (v := (nI 3)) dX12_shown_49 rfl ?_
    refine g_iload_n dX12_shown_50 rfl rfl ?_
    refine g_iaddN dX12_shown_51 ?_
    refine g_ialdN (v := (nI 0)) dX12_shown_52 (by decide) rfl (by omega) (by decide) (hd (3 + f) (by omega) (by omega)) ?_
    refine g_iret dX12_shown_53 rfl rfl ?_
    exact hq
  | succ d ih =>
    intro i hi f bf
    refine g_iload dX12_shown_8 rfl ?_
    refine g_iload_n dX12_shown_10 rfl rfl ?_
    refine g_ic_gtN 45 dX12_shown_11 (by decide) (by omega) (by omega) (fun z => absurd z (by omega)) (fun _ => ?_)
    refine g_iload_n dX12_shown_14 rfl rfl ?_
    refine g_aload_n dX12_shown_15 rfl rfl ?_
    refine g_getR 1 (82) (C := RX12) (T := TX12) (N := 19) dX12_shown_16 (by decide) rfl rfl (by decide) rfl fl_RX12_13 ?_
    refine g_iconst (v := (nI 1)) dX12_shown_19 rfl ?_
    refine g_ialdN (v := (nI 0)) dX12_shown_20 (by decide) rfl (by omega) (by decide) h1 ?_
    refine g_iload_n dX12_shown_21 rfl rfl ?_
    refine g_bipush (v := (nI 12)) dX12_shown_22 rfl ?_
    refine g_iremN dX12_shown_24 (by omega) (by omega) (by omega) ?_
    refine g_iload dX12_shown_25 rfl ?_
    refine g_callS [.int (nI 0), .int (nI (c % 12)), .int (nI i)] [.int (nI f)] (z_p0 S (c % 12) i (by omega) (by omega)) dX12_shown_27 kk_X12_shown_X12_passes ml_RX12_162 swX12_passes rfl rfl (Nat.le_of_ble_eq_true rfl) ?_
    rintro _ _ ⟨_, rfl, rfl, rfl⟩
    refine g_iaddN dX12_shown_30 ?_
    refine g_aload_n dX12_shown_31 rfl rfl ?_
    refine g_getR 1 (82) (C := RX12) (T := TX12) (N := 19) dX12_shown_32 (by decide) rfl rfl (by decide) rfl fl_RX12_13 ?_
    refine g_iconst (v := (nI 0)) dX12_shown_35 rfl ?_
    refine g_ialdN (v := (nI 2)) dX12_shown_36 (by decide) rfl (by omega) (by decide) h0 ?_
    refine g_iremN dX12_shown_37 (by omega) (by omega) (by omega) ?_
    refine g_istore_n (lv' := [(3, .int (nI ((f + (c % 12)) % 2))), (4, .int (nI i)), (0, .ref 80), (1, .int (nI c)), (2, .int (nI t))]) dX12_shown_38 rfl (by decide) rfl ?_
    refine g_iinc (v := (nI (i + 1))) (lv' := [(4, .int (nI (i + 1))), (3, .int (nI ((f + (c % 12)) % 2))), (0, .ref 80), (1, .int (nI c)), (2, .int (nI t))]) dX12_shown_39 rfl (nI_1 i) (by decide) rfl ?_
    refine g_goto 8 dX12_shown_42 (by decide) ?_
    exact ih (i + 1) (by omega) ((f + c % 12) % 2) (Nat.mod_lt _ (by decide))
set_option maxRecDepth 100000 in
theorem z_shown (S : zs_S) (c t : Nat) (hc : c < 24) (ht : t ≤ 30) (h0 : S.1 82 0 = nI 2) (h1 : S.1 82 1 = nI 0) (hd : ∀ j, 3 ≤ j → j < 15 → S.1 81 j = nI 0) : zs_Ci MX12_shown [.ref 80, .int (nI c), .int (nI t)] S (fun x S2 => x = nI 0 ∧ S = S2) := by
  refine zs_C.of (by decide) (Nat.le_of_ble_eq_true rfl) ?_
  show zs_P MX12_shown 0 [(0, .ref 80), (1, .int (nI c)), (2, .int (nI t))] [] S _
  refine g_iload_n dX12_shown_0 rfl rfl ?_
  refine g_bipush (v := (nI 12)) dX12_shown_1 rfl ?_
  refine g_idivN dX12_shown_3 (by omega) (by omega) (by omega) ?_
  refine g_istore_n (lv' := [(3, .int (nI (c / 12))), (0, .ref 80), (1, .int (nI c)), (2, .int (nI t))]) dX12_shown_4 rfl (by decide) rfl ?_
  refine g_iconst (v := (nI 1)) dX12_shown_5 rfl ?_
  refine g_istore (lv' := [(4, .int (nI 1)), (3, .int (nI (c / 12))), (0, .ref 80), (1, .int (nI c)), (2, .int (nI t))]) dX12_shown_6 (by decide) rfl ?_
  exact z_shown_l S c t hc ht h0 h1 hd _ ⟨_, rfl, rfl, rfl⟩ t 1 (by omega) (c / 12) (by omega)
set_option maxRecDepth 100000 in
theorem z_began_l (S : zs_S) (F : zs_F1 S) (j : Int32) (Q : Option Value → zs_S → Prop) (hq : ∀ i, i < 24 → nI i = j → Q (some (.int (nI i))) S) (hn : (∀ t, t < 24 → ¬ nI t = j) → 0 ≤ j → Q (some (.int (-5))) S) (hm : ¬ 0 ≤ j → Q (some (.int (nI 24))) S) : ∀ (d i : Nat), i + d = 24 → (∀ t, t < i → ¬ nI t = j) → zs_P MX12_began 14 [(3, .int (nI i)), (2, .int (nI i)), (0, .ref 80), (1, .int j)] [] S Q := by
  intro d
  induction d with
  | zero =>
    intro i hi hno
    obtain rfl : i = 24 := by omega
    refine g_iload_n dX12_began_14 rfl rfl ?_
    refine g_bipush (v := (nI 12)) dX12_began_15 rfl ?_
    refine g_aload_n dX12_began_17 rfl rfl ?_
    refine g_getR 1 (82) (C := RX12) (T := TX12) (N := 19) dX12_began_18 (by decide) rfl rfl (by decide) rfl fl_RX12_13 ?_
    refine g_iconst (v := (nI 0)) dX12_began_21 rfl ?_
    refine g_ialdN (v := (nI 2)) dX12_began_22 (by decide) rfl (by omega) (by decide) (congrFun (F 82 (by decide)).1 0) ?_
    refine g_imulN dX12_began_23 ?_
    refine g_ic_geN 51 dX12_began_24 (by decide) (by omega) (by omega) (fun _ => ?_) (fun z => absurd z (by omega))
    refine g_iload_n dX12_began_51 rfl rfl ?_
    refine g_if_ge 59 dX12_began_52 (by decide) (fun h1 => ?_) (fun h1 => ?_)
    · refine g_bipush (v := (-5)) dX12_began_59 rfl ?_
      refine g_iret dX12_began_61 rfl rfl ?_
      exact hn hno h1
    · refine g_iload_n dX12_began_55 rfl rfl ?_
      refine g_goto 61 dX12_began_56 (by decide) ?_
      refine g_iret dX12_began_61 rfl rfl ?_
      exact hm h1
  | succ d ih =>
    intro i hi hno
    refine g_iload_n dX12_began_14 rfl rfl ?_
    refine g_bipush (v := (nI 12)) dX12_began_15 rfl ?_
    refine g_aload_n dX12_began_17 rfl rfl ?_
    refine g_getR 1 (82) (C := RX12) (T := TX12) (N := 19) dX12_began_18 (by decide) rfl rfl (by decide) rfl fl_RX12_13 ?_
    refine g_iconst (v := (nI 0)) dX12_began_21 rfl ?_
    refine g_ialdN (v := (nI 2)) dX12_began_22 (by decide) rfl (by omega) (by decide) (congrFun (F 82 (by decide)).1 0) ?_
    refine g_imulN dX12_began_23 ?_
    refine g_ic_geN 51 dX12_began_24 (by decide) (by omega) (by omega) (fun z => absurd z (by omega)) (fun _ => ?_)
    refine g_aload_n dX12_began_27 rfl rfl ?_
    refine g_iload_n dX12_began_28 rfl rfl ?_
    refine g_callV (T := TX12) (NN := 19) [] (z_isSo S (nI i) (congrFun (F 82 (by decide)).1 8)) dX12_began_29 kk_X12_began_X12_isSo ml_RX12_207 mwX12_isSo ewX12_isSo (by decide) rfl rfl rfl rfl (Nat.le_of_ble_eq_true rfl) ?_
    rintro _ _ ⟨_, rfl, rfl, rfl⟩
    refine g_if_eqN 45 dX12_began_32 (by decide) (by omega) (fun z => absurd z (by omega)) (fun _ => ?_)
    refine g_iload_n dX12_began_35 rfl rfl ?_
    refine g_iload_n dX12_began_36 rfl rfl ?_
    refine g_ic_ne 42 dX12_began_37 (by decide) (fun h1 => ?_) (fun h1 => ?_)
    · refine g_iinc (v := (nI (i + 1))) (lv' := [(2, .int (nI (i + 1))), (3, .int (nI i)), (0, .ref 80), (1, .int j)]) dX12_began_42 rfl (nI_1 i) (by decide) rfl ?_
      refine g_iinc (v := (nI (i + 1))) (lv' := [(3, .int (nI (i + 1))), (2, .int (nI (i + 1))), (0, .ref 80), (1, .int j)]) dX12_began_45 rfl (nI_1 i) (by decide) rfl ?_
      refine g_goto 14 dX12_began_48 (by decide) ?_
      exact (ih (i + 1) (by omega) (fun t ht => by
        by_cases e : t = i
        · rw [e]; exact h1
        · exact hno t (by omega))).lv (by simp)
    · refine g_iload_n dX12_began_40 rfl rfl ?_
      refine g_iret dX12_began_41 rfl rfl ?_
      exact hq i (by omega) h1
theorem zs_m1 {j : Int32} (h1 : (-1 : Int32) ≤ j) (h2 : ¬ 0 ≤ j) : j = -1 := by
  have m1 : (-1 : Int32).toInt = -1 := by decide
  have z : (0 : Int32).toInt = 0 := rfl
  rw [Int32.le_iff_toInt_le] at h1 h2
  exact Int32.toInt_inj.mp (by omega)
theorem zs_m0 {j : Int32} (h : 0 ≤ j) : ¬ j = -1 := fun e => by rw [e] at h; exact absurd h (by decide)
theorem zs_g24 {j : Int32} (h : ∀ t, t < 24 → ¬ nI t = j) (h0 : 0 ≤ j) : nI 24 ≤ j := by
  obtain ⟨k, hk, rfl⟩ := nI_of (x := j) (fun q => absurd h0 (Int32.not_le.mpr q))
  refine nI_le ?_ hk
  rcases Nat.lt_or_ge k 24 with q | q
  · exact absurd rfl (h k q)
  · exact q
set_option maxRecDepth 100000 in
theorem w_began (S : zs_S) (F : zs_F1 S) (j : Int32) : zs_Ci MX12_began [.ref 80, .int j] S (fun x _ => x = zs_if ((-1 : Int32) ≤ j) (zs_if (j = -1) (nI 24) (zs_if (nI 24 ≤ j) (-5) j)) (-10)) := by
  refine zs_C.of (by decide) (Nat.le_of_ble_eq_true rfl) ?_
  show zs_P MX12_began 0 [(0, .ref 80), (1, .int j)] [] S _
  refine g_iload_n dX12_began_0 rfl rfl ?_
  refine g_iconst (v := (-1)) dX12_began_1 rfl ?_
  refine g_ic_ge 10 dX12_began_2 (by decide) (fun h1 => ?_) (fun h1 => ?_)
  · refine g_iconst (v := (nI 0)) dX12_began_10 rfl ?_
    refine g_istore_n (lv' := [(2, .int (nI 0)), (0, .ref 80), (1, .int j)]) dX12_began_11 rfl (by decide) rfl ?_
    refine g_iconst (v := (nI 0)) dX12_began_12 rfl ?_
    refine g_istore_n (lv' := [(3, .int (nI 0)), (2, .int (nI 0)), (0, .ref 80), (1, .int j)]) dX12_began_13 rfl (by decide) rfl ?_
    exact z_began_l S F j _ (fun i hi e => ⟨_, rfl, by
      subst e
      rw [zs_it h1, zs_ie (zs_m0 (nI_pos' (by omega))), zs_ie (nI_ge hi (by decide))]⟩) (fun hno h0 => ⟨_, rfl, by
      rw [zs_it h1, zs_ie (zs_m0 h0), zs_it (zs_g24 hno h0)]⟩) (fun h0 => ⟨_, rfl, by
      rw [zs_it h1, zs_it (zs_m1 h1 h0)]⟩) 24 0 (by omega) (fun t ht => absurd ht (by omega))
  · refine g_aload_n dX12_began_5 rfl rfl ?_
    refine g_callV (T := TX12) (NN := 19) [] (z_bad10 S) dX12_began_6 kk_X12_began_X12_bad10 ml_RX12_196 mwX12_bad10 ewX12_bad10 (by decide) rfl rfl rfl rfl (Nat.le_of_ble_eq_true rfl) ?_
    rintro _ S2 ⟨_, rfl, rfl⟩
    refine g_iret dX12_began_9 rfl rfl ?_
    exact ⟨_, rfl, (zs_ie h1).symm⟩
set_option maxRecDepth 100000 in
theorem z_tell_z (S0 : zs_S) (k : Nat) (w b : Int32) (Q : Option Value → zs_S → Prop) (hk : ∀ S, zs_ch 87 88 S0 S → S.1 87 0 = nI 0 → zs_P MX12_tell 38 [(4, .int (nI 10)), (3, .int (nI k)), (2, .int w), (1, .int b), (0, .ref 80)] [] S Q) : ∀ (d i : Nat), i + d = 10 → ∀ S, zs_ch 87 88 S0 S → (∀ j, j < i → S.1 87 j = nI 0) → zs_P MX12_tell 17 [(4, .int (nI i)), (3, .int (nI k)), (2, .int w), (1, .int b), (0, .ref 80)] [] S Q := by
  intro d
  induction d with
  | zero =>
    intro i hi S hc hz
    obtain rfl : i = 10 := by omega
    refine g_iload dX12_tell_17 rfl ?_
    refine g_bipush (v := (nI 10)) dX12_tell_19 rfl ?_
    refine g_ic_geN 38 dX12_tell_21 (by decide) (by omega) (by omega) (fun _ => ?_) (fun z => absurd z (by omega))
    exact hk S hc (hz 0 (by omega))
  | succ d ih =>
    intro i hi S hc hz
    refine g_iload dX12_tell_17 rfl ?_
    refine g_bipush (v := (nI 10)) dX12_tell_19 rfl ?_
    refine g_ic_geN 38 dX12_tell_21 (by decide) (by omega) (by omega) (fun z => absurd z (by omega)) (fun _ => ?_)
    refine g_aload_n dX12_tell_24 rfl rfl ?_
    refine g_getR 16 (87) (C := RX12) (T := TX12) (N := 19) dX12_tell_25 (by decide) rfl rfl (by decide) rfl fl_RX12_33 ?_
    refine g_iload dX12_tell_28 rfl ?_
    refine g_iconst (v := (nI 0)) dX12_tell_30 rfl ?_
    refine g_iastN dX12_tell_31 (by decide) rfl (by omega) (by decide) ?_
    refine g_iinc (v := (nI (i + 1))) (lv' := [(4, .int (nI (i + 1))), (3, .int (nI k)), (2, .int w), (1, .int b), (0, .ref 80)]) dX12_tell_32 rfl (nI_1 i) (by decide) rfl ?_
    refine g_goto 17 dX12_tell_35 (by decide) ?_
    exact ih (i + 1) (by omega) _ (hc.up (by omega) (by omega)) (fun j hj => by
      by_cases e : j = i
      · subst e; exact zs_up_q
      · exact (zs_up_m (by omega)).trans (hz j (by omega)))
set_option maxRecDepth 100000 in
theorem z_tell_c (S0 : zs_S) (F : zs_F1 S0) (k : Nat) (hk30 : k ≤ 30) (w b : Int32) (Q : Option Value → zs_S → Prop) (hk : ∀ S, zs_ch 87 88 S0 S → zs_P MX12_tell 119 [(5, .int (nI 24)), (4, .int (nI 24)), (3, .int (nI k)), (2, .int w), (1, .int b), (0, .ref 80)] [] S Q) : ∀ (d i : Nat), i + d = 24 → ∀ S, zs_ch 87 88 S0 S → S.1 87 0 = nI i → zs_P MX12_tell 44 [(5, .int (nI i)), (4, .int (nI i)), (3, .int (nI k)), (2, .int w), (1, .int b), (0, .ref 80)] [] S Q := by
  intro d
  induction d with
  | zero =>
    intro i hi S hc ho
    obtain rfl : i = 24 := by omega
    refine g_iload dX12_tell_44 rfl ?_
    refine g_bipush (v := (nI 12)) dX12_tell_46 rfl ?_
    refine g_aload_n dX12_tell_48 rfl rfl ?_
    refine g_getR 1 (82) (C := RX12) (T := TX12) (N := 19) dX12_tell_49 (by decide) rfl rfl (by decide) rfl fl_RX12_13 ?_
    refine g_iconst (v := (nI 0)) dX12_tell_52 rfl ?_
    refine g_ialdN (v := (nI 2)) dX12_tell_53 (by decide) rfl (by omega) (by decide) ((congrFun (hc 82 (by omega)).1 0).trans (congrFun (F 82 (by decide)).1 0)) ?_
    refine g_imulN dX12_tell_54 ?_
    refine g_ic_geN 119 dX12_tell_55 (by decide) (by omega) (by omega) (fun _ => ?_) (fun z => absurd z (by omega))
    exact hk S hc
  | succ d ih =>
    intro i hi S hc ho
    refine g_iload dX12_tell_44 rfl ?_
    refine g_bipush (v := (nI 12)) dX12_tell_46 rfl ?_
    refine g_aload_n dX12_tell_48 rfl rfl ?_
    refine g_getR 1 (82) (C := RX12) (T := TX12) (N := 19) dX12_tell_49 (by decide) rfl rfl (by decide) rfl fl_RX12_13 ?_
    refine g_iconst (v := (nI 0)) dX12_tell_52 rfl ?_
    refine g_ialdN (v := (nI 2)) dX12_tell_53 (by decide) rfl (by omega) (by decide) ((congrFun (hc 82 (by omega)).1 0).trans (congrFun (F 82 (by decide)).1 0)) ?_
    refine g_imulN dX12_tell_54 ?_
    refine g_ic_geN 119 dX12_tell_55 (by decide) (by omega) (by omega) (fun z => absurd z (by omega)) (fun _ => ?_)
    refine g_aload_n dX12_tell_58 rfl rfl ?_
    refine g_iload dX12_tell_59 rfl ?_
    refine g_callV (T := TX12) (NN := 19) [] (z_isSo S (nI i) ((congrFun (hc 82 (by omega)).1 8).trans (congrFun (F 82 (by decide)).1 8))) dX12_tell_61 kk_X12_tell_X12_isSo ml_RX12_207 mwX12_isSo ewX12_isSo (by decide) rfl rfl rfl rfl (Nat.le_of_ble_eq_true rfl) ?_
    rintro _ _ ⟨_, rfl, rfl, rfl⟩
    refine g_if_eqN 113 dX12_tell_64 (by decide) (by omega) (fun z => absurd z (by omega)) (fun _ => ?_)
    refine g_aload_n dX12_tell_67 rfl rfl ?_
    refine g_iload dX12_tell_68 rfl ?_
    refine g_iload_n dX12_tell_70 rfl rfl ?_
    refine g_callV (T := TX12) (NN := 19) [] (z_shown S i k (by omega) (by omega) ((congrFun (hc 82 (by omega)).1 0).trans (congrFun (F 82 (by decide)).1 0)) ((congrFun (hc 82 (by omega)).1 1).trans (congrFun (F 82 (by decide)).1 1)) (fun j h3 h15 => (congrFun (hc 81 (by omega)).1 j).trans ((congrFun (F 81 (by decide)).1 j).trans (if_neg (by omega))))) dX12_tell_71 kk_X12_tell_X12_shown ml_RX12_204 mwX12_shown ewX12_shown (by decide) rfl rfl rfl rfl (Nat.le_of_ble_eq_true rfl) ?_
    rintro _ _ ⟨_, rfl, rfl, rfl⟩
    refine g_istore (lv' := [(6, .int (nI 0)), (5, .int (nI i)), (4, .int (nI i)), (3, .int (nI k)), (2, .int w), (1, .int b), (0, .ref 80)]) dX12_tell_74 (by decide) rfl ?_
    refine g_aload_n dX12_tell_76 rfl rfl ?_
    refine g_getR 16 (87) (C := RX12) (T := TX12) (N := 19) dX12_tell_77 (by decide) rfl rfl (by decide) rfl fl_RX12_33 ?_
    refine g_iload dX12_tell_80 rfl ?_
    refine g_dup2 dX12_tell_82 rfl rfl ?_
    refine g_ialdN (v := (nI i)) dX12_tell_83 (by decide) rfl (by omega) (by decide) ho ?_
    refine g_iconst (v := (nI 1)) dX12_tell_84 rfl ?_
    refine g_iaddN dX12_tell_85 ?_
    refine g_iastN dX12_tell_86 (by decide) rfl (by omega) (by decide) ?_
    refine g_aload_n dX12_tell_87 rfl rfl ?_
    refine g_getR 16 (87) (C := RX12) (T := TX12) (N := 19) dX12_tell_88 (by decide) rfl rfl (by decide) rfl fl_RX12_33 ?_
    refine g_iload dX12_tell_91 rfl ?_
    refine g_ialdN (v := (nI (i + 1))) dX12_tell_93 (by decide) rfl (by omega) (by decide) zs_up_q ?_
    refine g_iload dX12_tell_94 rfl ?_
    refine g_ic_leN 109 dX12_tell_96 (by decide) (by omega) (by omega) (fun z => absurd z (by omega)) (fun _ => ?_)
    refine g_aload_n dX12_tell_99 rfl rfl ?_
    refine g_getR 16 (87) (C := RX12) (T := TX12) (N := 19) dX12_tell_100 (by decide) rfl rfl (by decide) rfl fl_RX12_33 ?_
    refine g_iload dX12_tell_103 rfl ?_
    refine g_ialdN (v := (nI (i + 1))) dX12_tell_105 (by decide) rfl (by omega) (by decide) zs_up_q ?_
    refine g_goto 111 dX12_tell_106 (by decide) ?_
    refine g_istore (lv' := [(4, .int (nI (i + 1))), (6, .int (nI 0)), (5, .int (nI i)), (3, .int (nI k)), (2, .int w), (1, .int b), (0, .ref 80)]) dX12_tell_111 (by decide) rfl ?_
    refine g_iinc (v := (nI (i + 1))) (lv' := [(5, .int (nI (i + 1))), (4, .int (nI (i + 1))), (6, .int (nI 0)), (3, .int (nI k)), (2, .int w), (1, .int b), (0, .ref 80)]) dX12_tell_113 rfl (nI_1 i) (by decide) rfl ?_
    refine g_goto 44 dX12_tell_116 (by decide) ?_
    exact (ih (i + 1) (by omega) _ (hc.up (by omega) (by omega)) zs_up_q).lv (by simp)
set_option maxRecDepth 100000 in
theorem z_tell_b (S0 : zs_S) (F : zs_F1 S0) (k : Nat) (hk30 : k ≤ 30) (w b : Int32) (Q : Option Value → zs_S → Prop) (hk : ∀ S, zs_ch 87 88 S0 S → zs_P MX12_tell 119 [(5, .int (nI 24)), (4, .int (nI 24)), (3, .int (nI k)), (2, .int w), (1, .int b), (0, .ref 80)] [] S Q) (S : zs_S) (hc : zs_ch 87 88 S0 S) : zs_P MX12_tell 14 [(3, .int (nI k)), (2, .int w), (1, .int b), (0, .ref 80)] [] S Q := by
  refine g_iconst (v := (nI 0)) dX12_tell_14 rfl ?_
  refine g_istore (lv' := [(4, .int (nI 0)), (3, .int (nI k)), (2, .int w), (1, .int b), (0, .ref 80)]) dX12_tell_15 (by decide) rfl ?_
  refine z_tell_z S0 k w b _ (fun S1 c1 o1 => ?_) 10 0 (by omega) S hc (fun j hj => absurd hj (by omega))
  refine g_iconst (v := (nI 0)) dX12_tell_38 rfl ?_
  refine g_istore (lv' := [(4, .int (nI 0)), (3, .int (nI k)), (2, .int w), (1, .int b), (0, .ref 80)]) dX12_tell_39 (by decide) rfl ?_
  refine g_iconst (v := (nI 0)) dX12_tell_41 rfl ?_
  refine g_istore (lv' := [(5, .int (nI 0)), (4, .int (nI 0)), (3, .int (nI k)), (2, .int w), (1, .int b), (0, .ref 80)]) dX12_tell_42 (by decide) rfl ?_
  exact z_tell_c S0 F k hk30 w b _ hk 24 0 (by omega) S1 c1 o1
set_option maxRecDepth 100000 in
theorem z_tell_l (S0 : zs_S) (F : zs_F1 S0) (Q : Option Value → zs_S → Prop) (hq : ∀ S, Q (some (.int (nI 1))) S) : ∀ (d k : Nat), k + d = 31 → ∀ S, zs_ch 87 88 S0 S → zs_P MX12_tell 8 [(3, .int (nI k)), (2, .int (nI 24)), (1, .int (nI 1)), (0, .ref 80)] [] S Q := by
  intro d
  induction d with
  | zero =>
    intro k hk S hc
    obtain rfl : k = 31 := by omega
    refine g_iload_n dX12_tell_8 rfl rfl ?_
    refine g_bipush (v := (nI 30)) dX12_tell_9 rfl ?_
    refine g_ic_gtN 160 dX12_tell_11 (by decide) (by omega) (by omega) (fun _ => ?_) (fun z => absurd z (by omega))
    refine g_iload_n dX12_tell_160 rfl rfl ?_
    refine g_iret dX12_tell_161 rfl rfl ?_
    exact hq S
  | succ d ih =>
    intro k hk S hc
    refine g_iload_n dX12_tell_8 rfl rfl ?_
    refine g_bipush (v := (nI 30)) dX12_tell_9 rfl ?_
    refine g_ic_gtN 160 dX12_tell_11 (by decide) (by omega) (by omega) (fun z => absurd z (by omega)) (fun _ => ?_)
    refine z_tell_b S0 F k (by omega) _ _ _ (fun S1 c1 => ?_) S hc
    refine g_iload dX12_tell_119 rfl ?_
    refine g_if_leN 134 dX12_tell_121 (by decide) (by omega) (fun z => absurd z (by omega)) (fun _ => ?_)
    refine g_iload dX12_tell_124 rfl ?_
    refine g_iload_n dX12_tell_126 rfl rfl ?_
    refine g_ic_geN 134 dX12_tell_127 (by decide) (by omega) (by omega) (fun _ => ?_) (fun z => absurd z (by omega))
    refine g_iload_n dX12_tell_134 rfl rfl ?_
    refine g_istore_n (lv' := [(1, .int (nI 1)), (5, .int (nI 24)), (4, .int (nI 24)), (3, .int (nI k)), (2, .int (nI 24)), (0, .ref 80)]) dX12_tell_135 rfl (by decide) rfl ?_
    refine g_iload dX12_tell_136 rfl ?_
    refine g_if_leN 152 dX12_tell_138 (by decide) (by omega) (fun z => absurd z (by omega)) (fun _ => ?_)
    refine g_iload dX12_tell_141 rfl ?_
    refine g_iload_n dX12_tell_143 rfl rfl ?_
    refine g_ic_geN 152 dX12_tell_144 (by decide) (by omega) (by omega) (fun _ => ?_) (fun z => absurd z (by omega))
    refine g_iload_n dX12_tell_152 rfl rfl ?_
    refine g_istore_n (lv' := [(2, .int (nI 24)), (1, .int (nI 1)), (5, .int (nI 24)), (4, .int (nI 24)), (3, .int (nI k)), (0, .ref 80)]) dX12_tell_153 rfl (by decide) rfl ?_
    refine g_iinc (v := (nI (k + 1))) (lv' := [(3, .int (nI (k + 1))), (2, .int (nI 24)), (1, .int (nI 1)), (5, .int (nI 24)), (4, .int (nI 24)), (0, .ref 80)]) dX12_tell_154 rfl (nI_1 k) (by decide) rfl ?_
    refine g_goto 8 dX12_tell_157 (by decide) ?_
    exact (ih (k + 1) (by omega) S1 c1).lv (by simp)
set_option maxRecDepth 100000 in
theorem w_tell (S : zs_S) (F : zs_F1 S) : zs_Ci MX12_tell [.ref 80] S (fun x _ => x = nI 1) := by
  refine zs_C.of (by decide) (Nat.le_of_ble_eq_true rfl) ?_
  show zs_P MX12_tell 0 [(0, .ref 80)] [] S _
  refine g_iconst (v := (-1)) dX12_tell_0 rfl ?_
  refine g_istore_n (lv' := [(1, .int (-1)), (0, .ref 80)]) dX12_tell_1 rfl (by decide) rfl ?_
  refine g_sipush (v := (nI 999)) dX12_tell_2 rfl ?_
  refine g_istore_n (lv' := [(2, .int (nI 999)), (1, .int (-1)), (0, .ref 80)]) dX12_tell_5 rfl (by decide) rfl ?_
  refine g_iconst (v := (nI 1)) dX12_tell_6 rfl ?_
  refine g_istore_n (lv' := [(3, .int (nI 1)), (2, .int (nI 999)), (1, .int (-1)), (0, .ref 80)]) dX12_tell_7 rfl (by decide) rfl ?_
  refine g_iload_n dX12_tell_8 rfl rfl ?_
  refine g_bipush (v := (nI 30)) dX12_tell_9 rfl ?_
  refine g_ic_gtN 160 dX12_tell_11 (by decide) (by omega) (by omega) (fun z => absurd z (by omega)) (fun _ => ?_)
  refine z_tell_b S F 1 (by decide) _ _ _ (fun S1 c1 => ?_) S zs_ch.rf
  refine g_iload dX12_tell_119 rfl ?_
  refine g_if_leN 134 dX12_tell_121 (by decide) (by omega) (fun z => absurd z (by omega)) (fun _ => ?_)
  refine g_iload dX12_tell_124 rfl ?_
  refine g_iload_n dX12_tell_126 rfl rfl ?_
  refine g_ic_geN 134 dX12_tell_127 (by decide) (by omega) (by omega) (fun z => absurd z (by omega)) (fun _ => ?_)
  refine g_iload_n dX12_tell_130 rfl rfl ?_
  refine g_goto 135 dX12_tell_131 (by decide) ?_
  refine g_istore_n (lv' := [(1, .int (nI 1)), (5, .int (nI 24)), (4, .int (nI 24)), (3, .int (nI 1)), (2, .int (nI 999)), (0, .ref 80)]) dX12_tell_135 rfl (by decide) rfl ?_
  refine g_iload dX12_tell_136 rfl ?_
  refine g_if_leN 152 dX12_tell_138 (by decide) (by omega) (fun z => absurd z (by omega)) (fun _ => ?_)
  refine g_iload dX12_tell_141 rfl ?_
  refine g_iload_n dX12_tell_143 rfl rfl ?_
  refine g_ic_geN 152 dX12_tell_144 (by decide) (by omega) (by omega) (fun z => absurd z (by omega)) (fun _ => ?_)
  refine g_iload dX12_tell_147 rfl ?_
  refine g_goto 153 dX12_tell_149 (by decide) ?_
  refine g_istore_n (lv' := [(2, .int (nI 24)), (1, .int (nI 1)), (5, .int (nI 24)), (4, .int (nI 24)), (3, .int (nI 1)), (0, .ref 80)]) dX12_tell_153 rfl (by decide) rfl ?_
  refine g_iinc (v := (nI 2)) (lv' := [(3, .int (nI 2)), (2, .int (nI 24)), (1, .int (nI 1)), (5, .int (nI 24)), (4, .int (nI 24)), (0, .ref 80)]) dX12_tell_154 rfl (nI_1 1) (by decide) rfl ?_
  refine g_goto 8 dX12_tell_157 (by decide) ?_
  exact (z_tell_l S F _ (fun S2 => ⟨_, rfl, rfl⟩) 29 2 (by omega) S1 c1).lv (by simp)
set_option maxRecDepth 100000 in
theorem z_nights_l (S0 : zs_S) (F : zs_F1 S0) (n : Nat) (hn : n ≤ 60) (z : Int32) (Q : Option Value → zs_S → Prop) (hq : ∀ S, Q (some (.int (nI 0))) S) : ∀ (d i : Nat), i + d = n → ∀ v, v < 2147483648 → ∀ f, f < 2 → ∀ S, zs_mt S0 S f i → zs_P MX12_nights 39 [(5, .int (nI i)), (3, .long (lN v)), (0, .ref 80), (1, .int z), (2, .int (nI n))] [] S Q := by
  intro d
  induction d with
  | zero =>
    intro i hi v hv f hf S h
    obtain rfl : i = n := by omega
    refine g_iload dX12_nights_39 rfl ?_
    refine g_iload_n dX12_nights_41 rfl rfl ?_
    refine g_ic_geN 83 dX12_nights_42 (by decide) (by omega) (by omega) (fun _ => ?_) (fun z => absurd z (by omega))
    refine g_aload_n dX12_nights_83 rfl rfl ?_
    refine g_sipush (v := (nI 675)) dX12_nights_84 rfl ?_
    refine g_callV (T := TX12) (NN := 19) [] (z_moves0 S (nI 675) ((congrFun (h.1 82 (by omega)).1 2).trans (congrFun (F 82 (by decide)).1 2))) dX12_nights_87 kk_X12_nights_X12_movesOf ml_RX12_242 mwX12_movesOf ewX12_movesOf (by decide) rfl rfl rfl rfl (Nat.le_of_ble_eq_true rfl) ?_
    rintro _ _ ⟨_, rfl, rfl, rfl⟩
    refine g_iret dX12_nights_90 rfl rfl ?_
    exact hq S
  | succ d ih =>
    intro i hi v hv f hf S h
    refine g_iload dX12_nights_39 rfl ?_
    refine g_iload_n dX12_nights_41 rfl rfl ?_
    refine g_ic_geN 83 dX12_nights_42 (by decide) (by omega) (by omega) (fun z => absurd z (by omega)) (fun _ => ?_)
    refine g_lload_n dX12_nights_45 rfl rfl ?_
    refine g_ldc2 (v := 1103515245) dX12_nights_46 cl_RX12_234 ?_
    refine g_lmul dX12_nights_49 ?_
    refine g_ldc2 (v := 12345) dX12_nights_50 cl_RX12_236 ?_
    refine g_ladd dX12_nights_53 ?_
    refine g_ldc2 (v := 2147483648) dX12_nights_54 cl_RX12_238 ?_
    refine g_lrem dX12_nights_57 (by decide) ?_
    rw [zs_lcg hv]
    obtain ⟨v2, hv2, ev2⟩ : ∃ v2, v2 < 2147483648 ∧ v2 = (v * 1103515245 + 12345) % 2147483648 := ⟨_, Nat.mod_lt _ (by decide), rfl⟩
    rw [← ev2]
    refine g_lstore_n (lv' := [(3, .long (lN v2)), (5, .int (nI i)), (0, .ref 80), (1, .int z), (2, .int (nI n))]) dX12_nights_58 rfl (by decide) rfl ?_
    refine g_aload_n dX12_nights_59 rfl rfl ?_
    refine g_sipush (v := (nI 675)) dX12_nights_60 rfl ?_
    refine g_lload_n dX12_nights_63 rfl rfl ?_
    refine g_ldc2 (v := 65536) dX12_nights_64 cl_RX12_240 ?_
    refine g_ldiv dX12_nights_67 (by decide) ?_
    refine g_ldc2 (v := 12) dX12_nights_68 cl_RX12_52 ?_
    refine g_lrem dX12_nights_71 (by decide) ?_
    refine g_l2i dX12_nights_72 rfl ?_
    rw [zs_stp hv2]
    obtain ⟨s2, hs2, es2⟩ : ∃ s2, s2 < 12 ∧ s2 = v2 / 65536 % 12 := ⟨_, Nat.mod_lt _ (by decide), rfl⟩
    rw [← es2]
    refine g_iconst (v := (nI 1)) dX12_nights_73 rfl ?_
    refine g_callV (T := TX12) (NN := 19) [] (z_flashT S0 S F f i s2 hf (by omega) hs2 h) dX12_nights_74 kk_X12_nights_X12_flash ml_RX12_132 mwX12_flash ewX12_flash (by decide) rfl rfl rfl rfl (Nat.le_of_ble_eq_true rfl) ?_
    rintro _ S2 ⟨rfl, h2⟩
    refine g_iinc (v := (nI (i + 1))) (lv' := [(5, .int (nI (i + 1))), (3, .long (lN v2)), (0, .ref 80), (1, .int z), (2, .int (nI n))]) dX12_nights_77 rfl (nI_1 i) (by decide) rfl ?_
    refine g_goto 39 dX12_nights_80 (by decide) ?_
    exact ih (i + 1) (by omega) v2 hv2 ((f + s2) % 2) (Nat.mod_lt _ (by decide)) S2 h2
set_option maxRecDepth 100000 in
theorem w_nights (S : zs_S) (F : zs_F1 S) (z n : Int32) : zs_Ci MX12_nights [.ref 80, .int z, .int n] S (fun x _ => x = zs_if ((nI 0 ≤ z ∧ z ≤ nI 999999) ∧ (nI 0 ≤ n ∧ n ≤ nI 60)) (nI 0) (-2)) := by
  refine zs_C.of (by decide) (Nat.le_of_ble_eq_true rfl) ?_
  show zs_P MX12_nights 0 [(0, .ref 80), (1, .int z), (2, .int n)] [] S _
  refine g_iload_n dX12_nights_0 rfl rfl ?_
  refine g_i2l dX12_nights_1 rfl ?_
  refine g_lconst (v := 0) dX12_nights_2 (by decide) ?_
  refine g_ldc2 (v := 999999) dX12_nights_3 cl_RX12_232 ?_
  refine g_callS [.long (Int32.toInt64 z), .long 0, .long 999999] [] (z_in S z 0 999999 (by decide) (by decide)) dX12_nights_6 kk_X12_nights_X12_in ml_RX12_54 swX12_in rfl rfl (Nat.le_of_ble_eq_true rfl) ?_
  rintro _ _ ⟨_, rfl, rfl, rfl⟩
  refine g_if_eq 24 dX12_nights_9 (by decide) (fun h1 => ?_) (fun h1 => ?_)
  · have h1 := zs_b0 h1
    refine g_aload_n dX12_nights_24 rfl rfl ?_
    refine g_callV (T := TX12) (NN := 19) [] (z_bad S) dX12_nights_25 kk_X12_nights_X12_bad ml_RX12_62 mwX12_bad ewX12_bad (by decide) rfl rfl rfl rfl (Nat.le_of_ble_eq_true rfl) ?_
    rintro _ S2 ⟨_, rfl, rfl⟩
    refine g_iret dX12_nights_28 rfl rfl ?_
    exact ⟨_, rfl, (zs_ie (fun q => h1 q.1)).symm⟩
  · have h1 := zs_b1 h1
    obtain ⟨z', z'a, z'b, rfl⟩ := zs_rng h1 (by omega)
    refine g_iload_n dX12_nights_12 rfl rfl ?_
    refine g_i2l dX12_nights_13 rfl ?_
    refine g_lconst (v := 0) dX12_nights_14 (by decide) ?_
    refine g_ldc2 (v := 60) dX12_nights_15 cl_RX12_173 ?_
    refine g_callS [.long (Int32.toInt64 n), .long 0, .long 60] [] (z_in S n 0 60 (by decide) (by decide)) dX12_nights_18 kk_X12_nights_X12_in ml_RX12_54 swX12_in rfl rfl (Nat.le_of_ble_eq_true rfl) ?_
    rintro _ _ ⟨_, rfl, rfl, rfl⟩
    refine g_if_ne 29 dX12_nights_21 (by decide) (fun h3 => ?_) (fun h3 => ?_)
    · have h3 := zs_b1 h3
      obtain ⟨n', n'a, n'b, rfl⟩ := zs_rng h3 (by omega)
      refine g_aload_n dX12_nights_29 rfl rfl ?_
      refine g_callV (T := TX12) (NN := 19) [] (z_tries S S F zs_ch.rf (fun _ _ => rfl)) dX12_nights_30 kk_X12_nights_X12_tries ml_RX12_188 mwX12_tries ewX12_tries (by decide) rfl rfl rfl rfl (Nat.le_of_ble_eq_true rfl) ?_
      rintro _ Sa ⟨rfl, ta⟩
      refine g_iload_n dX12_nights_33 rfl rfl ?_
      refine g_i2l dX12_nights_34 rfl ?_
      rw [nI_l (by omega)]
      refine g_lstore_n (lv' := [(3, .long (lN z')), (0, .ref 80), (1, .int (nI z')), (2, .int (nI n'))]) dX12_nights_35 rfl (by decide) rfl ?_
      refine g_iconst (v := (nI 0)) dX12_nights_36 rfl ?_
      refine g_istore (lv' := [(5, .int (nI 0)), (3, .long (lN z')), (0, .ref 80), (1, .int (nI z')), (2, .int (nI n'))]) dX12_nights_37 (by decide) rfl ?_
      exact z_nights_l S F n' (by omega) _ _ (fun S2 => ⟨_, rfl, (zs_it ⟨h1, h3⟩).symm⟩) n' 0 (by omega) z' (by omega) 0 (by decide) Sa ta
    · have h3 := zs_b0 h3
      refine g_aload_n dX12_nights_24 rfl rfl ?_
      refine g_callV (T := TX12) (NN := 19) [] (z_bad S) dX12_nights_25 kk_X12_nights_X12_bad ml_RX12_62 mwX12_bad ewX12_bad (by decide) rfl rfl rfl rfl (Nat.le_of_ble_eq_true rfl) ?_
      rintro _ S4 ⟨_, rfl, rfl⟩
      refine g_iret dX12_nights_28 rfl rfl ?_
      exact ⟨_, rfl, (zs_ie (fun q => h3 q.2)).symm⟩
