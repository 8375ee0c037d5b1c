set_option maxRecDepth 100000 in
theorem z_inL (S : zs_S) (v lo hi : Int64) : zs_Ci MX12_in [.long v, .long lo, .long hi] S (fun x S2 => x = zs_b (lo ≤ v ∧ v ≤ hi) ∧ S = S2) := by
  refine zs_C.of (by decide) (Nat.le_of_ble_eq_true rfl) ?_
  show zs_P MX12_in 0 [(0, .long v), (2, .long lo), (4, .long hi)] [] S _
  refine g_lload_n dX12_in_0 rfl rfl ?_
  refine g_lload_n dX12_in_1 rfl rfl ?_
  refine g_lcmp dX12_in_2 ?_
  refine g_if_lt 17 dX12_in_3 (by decide) (fun h1 => ?_) (fun h1 => ?_)
  · refine g_iconst (v := (nI 0)) dX12_in_17 rfl ?_
    refine g_iret dX12_in_18 rfl rfl ?_
    exact ⟨_, rfl, (zs_bf (fun q => absurd q.1 (Int64.not_le.mpr ((lg_cmp_lt _ _).mp h1)))).symm, rfl⟩
  · refine g_lload_n dX12_in_6 rfl rfl ?_
    refine g_lload dX12_in_7 rfl ?_
    refine g_lcmp dX12_in_9 ?_
    refine g_if_gt 17 dX12_in_10 (by decide) (fun h2 => ?_) (fun h2 => ?_)
    · refine g_iconst (v := (nI 0)) dX12_in_17 rfl ?_
      refine g_iret dX12_in_18 rfl rfl ?_
      exact ⟨_, rfl, (zs_bf (fun q => absurd q.2 (Int64.not_le.mpr ((lg_cmp_gt _ _).mp h2)))).symm, rfl⟩
    · refine g_iconst (v := (nI 1)) dX12_in_13 rfl ?_
      refine g_goto 18 dX12_in_14 (by decide) ?_
      refine g_iret dX12_in_18 rfl rfl ?_
      exact ⟨_, rfl, (zs_bt ⟨Int64.not_lt.mp (mt (lg_cmp_lt _ _).mpr h1), Int64.not_lt.mp (mt (lg_cmp_gt _ _).mpr h2)⟩).symm, rfl⟩
theorem y_in (v lo hi : Int64) : zs_U MX12_in [.long v, .long lo, .long hi] (zs_Rp (lo ≤ v ∧ v ≤ hi)) := fun S hJ => (z_inL S v lo hi).mono (fun _ _ q => by
  obtain ⟨x, rfl, rfl, rfl⟩ := q
  exact ⟨⟨_, rfl, zs_bn, zs_b1⟩, hJ, zs_fm.rf⟩)
theorem zs_lo0 {a j lo up : Nat} (h : zs_rg a j = some (lo, up)) (hn : ¬ (a = 82 ∧ j = 0)) : lo = 0 := by
  unfold zs_rg at h
  cases e1 : Nat.beq a 81 with
  | true =>
    rw [e1] at h
    cases e2 : (Nat.beq (j % 25) 0 || Nat.beq (j % 25) 2) with
    | true => rw [e2] at h; simp only [cond_true, Option.some.injEq, Prod.mk.injEq] at h; exact h.1.symm
    | false =>
      rw [e2] at h
      cases e3 : (Nat.ble 3 (j % 25) && Nat.ble (j % 25) 14) with
      | true => rw [e3] at h; simp only [cond_true, cond_false, Option.some.injEq, Prod.mk.injEq] at h; exact h.1.symm
      | false => rw [e3] at h; simp at h
  | false =>
    rw [e1] at h
    cases e4 : Nat.beq a 82 with
    | true =>
      have ha : a = 82 := Nat.eq_of_beq_eq_true e4
      have e0 : Nat.beq j 0 = false := by rw [Bool.eq_false_iff]; exact fun z => hn ⟨ha, Nat.eq_of_beq_eq_true z⟩
      rw [e4, e0] at h
      cases e5 : Nat.beq (j % 66) 0 with
      | true => rw [e5] at h; simp only [cond_true, cond_false, Option.some.injEq, Prod.mk.injEq] at h; exact h.1.symm
      | false =>
        rw [e5] at h
        cases e6 : Nat.beq (j % 66) 2 with
        | true => rw [e6] at h; simp only [cond_true, cond_false, Option.some.injEq, Prod.mk.injEq] at h; exact h.1.symm
        | false =>
          rw [e6] at h
          cases e7 : (Nat.beq (j % 66) 8 || Nat.beq (j % 66) 21 || Nat.beq (j % 66) 46) with
          | true => rw [e7] at h; simp only [cond_true, cond_false, Option.some.injEq, Prod.mk.injEq] at h; exact h.1.symm
          | false =>
            rw [e7] at h
            cases e8 : (Nat.ble 9 (j % 66) && Nat.ble (j % 66) 14) with
            | true => rw [e8] at h; simp only [cond_true, cond_false, Option.some.injEq, Prod.mk.injEq] at h; exact h.1.symm
            | false =>
              rw [e8] at h
              cases e9 : Nat.beq (j % 66) 65 with
              | true => rw [e9] at h; simp only [cond_true, cond_false, Option.some.injEq, Prod.mk.injEq] at h; exact h.1.symm
              | false => rw [e9] at h; simp at h
    | false =>
      rw [e4] at h
      cases e5 : Nat.beq a 80 with
      | false => rw [e5] at h; simp at h
      | true =>
        rw [e5] at h
        cases e6 : (Nat.beq j 3 || Nat.beq j 5 || Nat.beq j 6) with
        | true => rw [e6] at h; simp only [cond_true, cond_false, Option.some.injEq, Prod.mk.injEq] at h; exact h.1.symm
        | false =>
          rw [e6] at h
          cases e7 : (Nat.beq j 7 || Nat.beq j 8) with
          | true => rw [e7] at h; simp only [cond_true, cond_false, Option.some.injEq, Prod.mk.injEq] at h; exact h.1.symm
          | false =>
            rw [e7] at h
            cases e8 : Nat.beq j 9 with
            | true => rw [e8] at h; simp only [cond_true, cond_false, Option.some.injEq, Prod.mk.injEq] at h; exact h.1.symm
            | false =>
              rw [e8] at h
              cases e9 : Nat.beq j 10 with
              | true => rw [e9] at h; simp only [cond_true, cond_false, Option.some.injEq, Prod.mk.injEq] at h; exact h.1.symm
              | false => rw [e9] at h; simp at h
theorem zs_ok0 {i : Nat} : zs_ok 81 i (nI 0) := ⟨fun lo up hr => ⟨0, by have := zs_lo0 hr (fun q => absurd q.1 (by decide)); omega, Nat.zero_le _, rfl⟩, fun z => absurd z (by decide), by decide⟩
theorem zs_ok02 {i : Nat} (h1 : 1 ≤ i) (h2 : i < 66) : zs_ok 82 i (nI 0) := ⟨fun lo up hr => ⟨0, by have := zs_lo0 hr (fun q => by omega); omega, Nat.zero_le _, rfl⟩, fun _ => by omega, by decide⟩
set_option maxRecDepth 100000 in
theorem y_isEye (v : Int32) : zs_U MX12_isEye [.ref 80, .int v] (zs_Rp (∃ k, k ≤ 4 ∧ v = nI k)) := by
  refine zs_Vof (by decide) (Nat.le_of_ble_eq_true rfl) ?_
  show zs_V MX12_isEye 0 [(0, .ref 80), (1, .int v)] [] _
  intro S hJ
  obtain ⟨m, h1, h2, h3⟩ := hJ.1 82 2 0 5 rfl
  refine g_iload_n dX12_isEye_0 rfl rfl ?_
  refine g_i2l dX12_isEye_1 rfl ?_
  refine g_lconst (v := 0) dX12_isEye_2 (by decide) ?_
  refine g_aload_n dX12_isEye_3 rfl rfl ?_
  refine g_getR 1 (82) (C := RX12) (T := TX12) (N := 19) dX12_isEye_4 (by decide) rfl rfl (by decide) rfl fl_RX12_13 ?_
  refine g_iconst (v := (nI 2)) dX12_isEye_7 rfl ?_
  refine g_ialdN (v := (nI m)) dX12_isEye_8 (by decide) rfl (by omega) (by decide) h3 ?_
  refine g_iconst (v := (nI 1)) dX12_isEye_9 rfl ?_
  refine g_isub dX12_isEye_10 ?_
  refine g_i2l dX12_isEye_11 rfl ?_
  refine g_callS [.long (Int32.toInt64 v), .long 0, .long (Int32.toInt64 (nI m - nI 1))] [] (y_in (Int32.toInt64 v) 0 (Int32.toInt64 (nI m - nI 1)) S hJ) dX12_isEye_12 kk_X12_isEye_X12_in ml_RX12_54 swX12_in rfl rfl (Nat.le_of_ble_eq_true rfl) ?_
  rintro _ S2 ⟨⟨x, rfl, hb, hf⟩, hJ2, hm⟩
  exact g_iret dX12_isEye_15 rfl hb ⟨⟨_, rfl, hb, fun z => by
    obtain ⟨k, hk, hv⟩ := zs_inE (m := m) (hf z) (by omega)
    exact ⟨k, by omega, hv⟩⟩, hJ2, hm⟩
set_option maxRecDepth 100000 in
theorem y_isFrame (v : Int32) : zs_U MX12_isFrame [.ref 80, .int v] (zs_Rp (∃ k, k ≤ 11 ∧ v = nI k)) := by
  refine zs_Vof (by decide) (Nat.le_of_ble_eq_true rfl) ?_
  show zs_V MX12_isFrame 0 [(0, .ref 80), (1, .int v)] [] _
  intro S hJ
  obtain ⟨m, h1, h2, h3⟩ := hJ.1 82 0 1 12 rfl
  refine g_iload_n dX12_isFrame_0 rfl rfl ?_
  refine g_i2l dX12_isFrame_1 rfl ?_
  refine g_lconst (v := 0) dX12_isFrame_2 (by decide) ?_
  refine g_aload_n dX12_isFrame_3 rfl rfl ?_
  refine g_getR 1 (82) (C := RX12) (T := TX12) (N := 19) dX12_isFrame_4 (by decide) rfl rfl (by decide) rfl fl_RX12_13 ?_
  refine g_iconst (v := (nI 0)) dX12_isFrame_7 rfl ?_
  refine g_ialdN (v := (nI m)) dX12_isFrame_8 (by decide) rfl (by omega) (by decide) h3 ?_
  refine g_iconst (v := (nI 1)) dX12_isFrame_9 rfl ?_
  refine g_isub dX12_isFrame_10 ?_
  refine g_i2l dX12_isFrame_11 rfl ?_
  refine g_callS [.long (Int32.toInt64 v), .long 0, .long (Int32.toInt64 (nI m - nI 1))] [] (y_in (Int32.toInt64 v) 0 (Int32.toInt64 (nI m - nI 1)) S hJ) dX12_isFrame_12 kk_X12_isFrame_X12_in ml_RX12_54 swX12_in rfl rfl (Nat.le_of_ble_eq_true rfl) ?_
  rintro _ S2 ⟨⟨x, rfl, hb, hf⟩, hJ2, hm⟩
  exact g_iret dX12_isFrame_15 rfl hb ⟨⟨_, rfl, hb, fun z => by
    obtain ⟨k, hk, hv⟩ := zs_inE (m := m) (hf z) (by omega)
    exact ⟨k, by omega, hv⟩⟩, hJ2, hm⟩
theorem zs_rgc {i j : Nat} (h : i % 25 = j % 25) : zs_rg 81 i = zs_rg 81 j := by
  show (bif Nat.beq (i % 25) 0 || Nat.beq (i % 25) 2 then some (0, 11) else bif Nat.ble 3 (i % 25) && Nat.ble (i % 25) 14 then some (0, 9) else none) = (bif Nat.beq (j % 25) 0 || Nat.beq (j % 25) 2 then some (0, 11) else bif Nat.ble 3 (j % 25) && Nat.ble (j % 25) 14 then some (0, 9) else none)
  rw [h]
theorem n_aldX {M : zs_M} {pc : Nat} {lv : List (Nat × Value)} {st : List Value} {R : Option Value → Prop} {i j : Nat} (hd : decode M.2.1 pc = .ok (.iaload, 1)) (hi : i < 700) (hj : i % 25 = j % 25) (k : ∀ v, zs_ok 81 j v → zs_V M (pc + 1) lv (.int v :: st) R) : zs_V M pc lv (.int (nI i) :: .ref 81 :: st) R := fun S hJ => g_ialdN (v := S.1 81 i) hd (by decide) rfl hi (by decide) rfl (k _ ⟨fun lo up hr => hJ.1 81 i lo up ((zs_rgc hj).trans hr), fun z => absurd z (by decide), by decide⟩ S hJ)
theorem g_aldX {M : zs_M} {pc : Nat} {lv : List (Nat × Value)} {st : List Value} {S : zs_S} {Q : Option Value → zs_S → Prop} {i j : Nat} (hJ : zs_J S) (hd : decode M.2.1 pc = .ok (.iaload, 1)) (hi : i < 700) (hj : i % 25 = j % 25) (k : ∀ v, zs_ok 81 j v → zs_P M (pc + 1) lv (.int v :: st) S Q) : zs_P M pc lv (.int (nI i) :: .ref 81 :: st) S Q := g_ialdN (v := S.1 81 i) hd (by decide) rfl hi (by decide) rfl (k _ ⟨fun lo up hr => hJ.1 81 i lo up ((zs_rgc hj).trans hr), fun z => absurd z (by decide), by decide⟩)
/-- only the slots have changed -/
def zs_oS (S S2 : zs_S) : Prop := zs_J S2 ∧ zs_fm S S2 ∧ S2.1 82 = S.1 82 ∧ S2.1 80 = S.1 80
theorem zs_uo {f : Nat → Nat → Int32} {a j b : Nat} {v : Int32} (h : b ≠ a) : zs_up f a j v b = f b := funext fun i => zs_up_n (fun q => h q.1)
theorem zs_oS.up {S0 S : zs_S} {i : Nat} {v : Int32} (h : zs_oS S0 S) (hv : zs_ok 81 i v) : zs_oS S0 (zs_up S.1 81 i v, S.2) := ⟨h.1.up hv, h.2.1.tr (zs_fm.up rfl), (zs_uo (f := S.1) (a := 81) (j := i) (v := v) (b := 82) (by decide)).trans h.2.2.1, (zs_uo (f := S.1) (a := 81) (j := i) (v := v) (b := 80) (by decide)).trans h.2.2.2⟩
theorem zs_oS.rf {S : zs_S} (hJ : zs_J S) : zs_oS S S := ⟨hJ, zs_fm.rf, rfl, rfl⟩
set_option maxRecDepth 100000 in
theorem y_copiesX (b t : Nat) (hb : b % 25 = 0) (ht : t % 25 = 0) (hb2 : b ≤ 675) (ht2 : t ≤ 675) (S0 : zs_S) (hJ0 : zs_J S0) : zs_Cv MX12_copies [.ref 80, .int (nI b), .int (nI t)] S0 (fun S2 => zs_oS S0 S2) := by
  refine zs_C.of (by decide) (Nat.le_of_ble_eq_true rfl) ?_
  show zs_P MX12_copies 0 [(0, .ref 80), (1, .int (nI b)), (2, .int (nI t))] [] S0 _
  have key : ∀ (d i : Nat), i + d = 25 → ∀ S, zs_oS S0 S → zs_P MX12_copies 2 [(3, .int (nI i)), (0, .ref 80), (1, .int (nI b)), (2, .int (nI t))] [] S (fun v S' => v = none ∧ zs_oS S0 S') := by
    intro d
    induction d with
    | zero =>
      intro i hi S hS
      refine g_iload_n dX12_copies_2 rfl rfl ?_
      refine g_bipush (v := nI 25) dX12_copies_3 rfl ?_
      refine g_ic_geN 30 dX12_copies_5 (by decide) (by omega) (by omega) (fun _ => ?_) (fun z => absurd z (by omega))
      exact g_ret dX12_copies_30 rfl ⟨rfl, hS⟩
    | succ d ih =>
      intro i hi S hS
      refine g_iload_n dX12_copies_2 rfl rfl ?_
      refine g_bipush (v := nI 25) dX12_copies_3 rfl ?_
      refine g_ic_geN 30 dX12_copies_5 (by decide) (by omega) (by omega) (fun z => absurd z (by omega)) (fun _ => ?_)
      refine g_aload_n dX12_copies_8 rfl rfl ?_
      refine g_getR 0 81 (C := RX12) (T := TX12) (N := 19) dX12_copies_9 (by decide) rfl rfl (by decide) rfl fl_RX12_7 ?_
      refine g_iload_n dX12_copies_12 rfl rfl ?_
      refine g_iload_n dX12_copies_13 rfl rfl ?_
      refine g_iaddN dX12_copies_14 ?_
      refine g_aload_n dX12_copies_15 rfl rfl ?_
      refine g_getR 0 81 (C := RX12) (T := TX12) (N := 19) dX12_copies_16 (by decide) rfl rfl (by decide) rfl fl_RX12_7 ?_
      refine g_iload_n dX12_copies_19 rfl rfl ?_
      refine g_iload_n dX12_copies_20 rfl rfl ?_
      refine g_iaddN dX12_copies_21 ?_
      refine g_aldX (j := t + i) hS.1 dX12_copies_22 (by omega) (by omega) (fun v hv => ?_)
      refine g_iastN dX12_copies_23 (by decide) rfl (by omega) (by decide) ?_
      refine g_iinc (v := nI (i + 1)) (lv' := [(3, .int (nI (i + 1))), (0, .ref 80), (1, .int (nI b)), (2, .int (nI t))]) dX12_copies_24 rfl (nI_1 i) (by decide) rfl ?_
      refine g_goto 2 dX12_copies_27 (by decide) ?_
      exact ih (i + 1) (by omega) _ (hS.up hv)
  refine g_iconst (v := nI 0) dX12_copies_0 rfl ?_
  refine g_istore_n (lv' := [(3, .int (nI 0)), (0, .ref 80), (1, .int (nI b)), (2, .int (nI t))]) dX12_copies_1 rfl (by decide) rfl ?_
  exact key 25 0 (by omega) S0 (zs_oS.rf hJ0)
theorem y_copies (b t : Nat) (hb : b % 25 = 0) (ht : t % 25 = 0) (hb2 : b ≤ 675) (ht2 : t ≤ 675) : zs_U MX12_copies [.ref 80, .int (nI b), .int (nI t)] zs_Rv := fun S hJ => (y_copiesX b t hb ht hb2 ht2 S hJ).mono (fun _ _ q => ⟨q.1, q.2.1, q.2.2.1⟩)
set_option maxRecDepth 100000 in
theorem y_X12_bad : zs_U MX12_bad [.ref 80] zs_Ri := by
  refine zs_Vof (by decide) (Nat.le_of_ble_eq_true rfl) ?_
  show zs_V MX12_bad 0 [(0, .ref 80)] [] zs_Ri
  refine n_aload_n dX12_bad_0 rfl rfl ?_
  refine n_getR 14 85 (C := RX12) (T := TX12) (N := 19) dX12_bad_1 (by decide) rfl rfl (by decide) rfl fl_RX12_27 ?_
  refine n_iconst (v := (nI 0)) dX12_bad_4 rfl ?_
  refine n_dup2 dX12_bad_5 rfl rfl ?_
  refine n_ald dX12_bad_6 (by decide) rfl (by omega) (by decide) (fun x1 => ?_)
  refine n_iconst (v := (nI 1)) dX12_bad_7 rfl ?_
  refine n_iadd dX12_bad_8 (fun x2 => ?_)
  refine n_ast dX12_bad_9 (by decide) rfl (by omega) (by decide) rfl (zs_okN rfl (by decide) (by decide)) ?_
  refine n_bipush (v := (-2)) dX12_bad_10 rfl ?_
  exact n_iret dX12_bad_12 rfl rfl ⟨_, rfl⟩
set_option maxRecDepth 100000 in
theorem y_X12_no : zs_U MX12_no [.ref 80] zs_Ri := by
  refine zs_Vof (by decide) (Nat.le_of_ble_eq_true rfl) ?_
  show zs_V MX12_no 0 [(0, .ref 80)] [] zs_Ri
  refine n_aload_n dX12_no_0 rfl rfl ?_
  refine n_getR 14 85 (C := RX12) (T := TX12) (N := 19) dX12_no_1 (by decide) rfl rfl (by decide) rfl fl_RX12_27 ?_
  refine n_iconst (v := (nI 1)) dX12_no_4 rfl ?_
  refine n_dup2 dX12_no_5 rfl rfl ?_
  refine n_ald dX12_no_6 (by decide) rfl (by omega) (by decide) (fun x1 => ?_)
  refine n_iconst (v := (nI 1)) dX12_no_7 rfl ?_
  refine n_iadd dX12_no_8 (fun x2 => ?_)
  refine n_ast dX12_no_9 (by decide) rfl (by omega) (by decide) rfl (zs_okN rfl (by decide) (by decide)) ?_
  refine n_bipush (v := (-3)) dX12_no_10 rfl ?_
  exact n_iret dX12_no_12 rfl rfl ⟨_, rfl⟩
set_option maxRecDepth 100000 in
theorem y_X12_full : zs_U MX12_full [.ref 80] zs_Ri := by
  refine zs_Vof (by decide) (Nat.le_of_ble_eq_true rfl) ?_
  show zs_V MX12_full 0 [(0, .ref 80)] [] zs_Ri
  refine n_aload_n dX12_full_0 rfl rfl ?_
  refine n_getR 14 85 (C := RX12) (T := TX12) (N := 19) dX12_full_1 (by decide) rfl rfl (by decide) rfl fl_RX12_27 ?_
  refine n_iconst (v := (nI 2)) dX12_full_4 rfl ?_
  refine n_dup2 dX12_full_5 rfl rfl ?_
  refine n_ald dX12_full_6 (by decide) rfl (by omega) (by decide) (fun x1 => ?_)
  refine n_iconst (v := (nI 1)) dX12_full_7 rfl ?_
  refine n_iadd dX12_full_8 (fun x2 => ?_)
  refine n_ast dX12_full_9 (by decide) rfl (by omega) (by decide) rfl (zs_okN rfl (by decide) (by decide)) ?_
  refine n_bipush (v := (-4)) dX12_full_10 rfl ?_
  exact n_iret dX12_full_12 rfl rfl ⟨_, rfl⟩
set_option maxRecDepth 100000 in
theorem y_X12_bad10 : zs_U MX12_bad10 [.ref 80] zs_Ri := by
  refine zs_Vof (by decide) (Nat.le_of_ble_eq_true rfl) ?_
  show zs_V MX12_bad10 0 [(0, .ref 80)] [] zs_Ri
  refine n_aload_n dX12_bad10_0 rfl rfl ?_
  refine n_getR 14 85 (C := RX12) (T := TX12) (N := 19) dX12_bad10_1 (by decide) rfl rfl (by decide) rfl fl_RX12_27 ?_
  refine n_iconst (v := (nI 0)) dX12_bad10_4 rfl ?_
  refine n_dup2 dX12_bad10_5 rfl rfl ?_
  refine n_ald dX12_bad10_6 (by decide) rfl (by omega) (by decide) (fun x1 => ?_)
  refine n_iconst (v := (nI 1)) dX12_bad10_7 rfl ?_
  refine n_iadd dX12_bad10_8 (fun x2 => ?_)
  refine n_ast dX12_bad10_9 (by decide) rfl (by omega) (by decide) rfl (zs_okN rfl (by decide) (by decide)) ?_
  refine n_bipush (v := (-10)) dX12_bad10_10 rfl ?_
  exact n_iret dX12_bad10_12 rfl rfl ⟨_, rfl⟩
set_option maxRecDepth 100000 in
theorem y_X12_movesOf_675 : zs_U MX12_movesOf [.ref 80, .int (nI 675)] zs_Ri := by
  refine zs_Vof (by decide) (Nat.le_of_ble_eq_true rfl) ?_
  show zs_V MX12_movesOf 0 [(0, .ref 80), (1, .int (nI 675))] [] zs_Ri
  have j4 : ∀ (n4 : Nat) (v4_2 : Int32) (c4 : Nat), 0 ≤ c4 → c4 ≤ 5 → 5 - c4 < n4 → zs_V MX12_movesOf 4 [(0, .ref 80), (1, .int (nI 675)), (2, .int v4_2), (3, .int (nI c4))] [] zs_Ri := by
    intro n4
    induction n4 with
    | zero => intro v4_2 c4 lc4 uc4 hn4; exact absurd hn4 (Nat.not_lt_zero _)
    | succ n4 ih4 =>
      intro v4_2 c4 lc4 uc4 hn4
      refine n_iload_n dX12_movesOf_4 rfl rfl ?_
      refine n_aload_n dX12_movesOf_5 rfl rfl ?_
      refine n_getR 1 82 (C := RX12) (T := TX12) (N := 19) dX12_movesOf_6 (by decide) rfl rfl (by decide) rfl fl_RX12_13 ?_
      refine n_iconst (v := (nI 2)) dX12_movesOf_9 rfl ?_
      refine n_aldR (lo := 0) (up := 5) dX12_movesOf_10 (by decide) rfl (by omega) (by decide) rfl (fun m1 hm1 km1 => ?_)
      refine n_ic_geN 34 dX12_movesOf_11 (by decide) (by omega) (by omega) (fun h2 => ?_) (fun h2 => ?_)
      · refine n_iload_n dX12_movesOf_34 rfl rfl ?_
        exact n_iret dX12_movesOf_35 rfl rfl ⟨_, rfl⟩
      · refine n_iload_n dX12_movesOf_14 rfl rfl ?_
        refine n_aload_n dX12_movesOf_15 rfl rfl ?_
        refine n_getR 0 81 (C := RX12) (T := TX12) (N := 19) dX12_movesOf_16 (by decide) rfl rfl (by decide) rfl fl_RX12_7 ?_
        refine n_iload_n dX12_movesOf_19 rfl rfl ?_
        refine n_bipush (v := (nI 20)) dX12_movesOf_20 rfl ?_
        refine n_iaddN dX12_movesOf_22 ?_
        refine n_iload_n dX12_movesOf_23 rfl rfl ?_
        refine n_iaddN dX12_movesOf_24 ?_
        refine n_ald dX12_movesOf_25 (by decide) rfl (by omega) (by decide) (fun x3 => ?_)
        refine n_iadd dX12_movesOf_26 (fun x4 => ?_)
        refine n_istore_n (lv' := [(2, .int x4), (0, .ref 80), (1, .int (nI 675)), (3, .int (nI c4))]) dX12_movesOf_27 rfl (by decide) rfl ?_
        refine n_iinc (v := (nI (c4 + 1))) (lv' := [(3, .int (nI (c4 + 1))), (2, .int x4), (0, .ref 80), (1, .int (nI 675))]) dX12_movesOf_28 rfl (nI_1 c4) (by decide) rfl ?_
        refine n_goto 4 dX12_movesOf_31 (by decide) ?_
        exact zs_Vlv (ih4 x4 (c4 + 1) (by omega) (by omega) (by omega)) (zs_mc 2 rfl (zs_mc 3 rfl (zs_mc 1 rfl (zs_mc 0 rfl zs_mn))))
  refine n_iconst (v := (nI 0)) dX12_movesOf_0 rfl ?_
  refine n_istore_n (lv' := [(2, .int (nI 0)), (0, .ref 80), (1, .int (nI 675))]) dX12_movesOf_1 rfl (by decide) rfl ?_
  refine n_iconst (v := (nI 0)) dX12_movesOf_2 rfl ?_
  refine n_istore_n (lv' := [(3, .int (nI 0)), (2, .int (nI 0)), (0, .ref 80), (1, .int (nI 675))]) dX12_movesOf_3 rfl (by decide) rfl ?_
  exact zs_Vlv (j4 _ (nI 0) 0 (by omega) (by omega) (Nat.lt_succ_self _)) (zs_mc 2 rfl (zs_mc 3 rfl (zs_mc 1 rfl (zs_mc 0 rfl zs_mn))))
theorem rg_81_695_699 (j : Nat) (h1 : 695 ≤ j) (h2 : j ≤ 699) : zs_rg 81 j = none := by
  obtain rfl | rfl | rfl | rfl | rfl : j = 695 ∨ j = 696 ∨ j = 697 ∨ j = 698 ∨ j = 699 := by omega
  all_goals rfl
set_option maxRecDepth 100000 in
theorem y_X12_tries : zs_U MX12_tries [.ref 80] zs_Rv := by
  refine zs_Vof (by decide) (Nat.le_of_ble_eq_true rfl) ?_
  show zs_V MX12_tries 0 [(0, .ref 80)] [] zs_Rv
  have j10 : ∀ (n10 : Nat) (c10 : Nat), 0 ≤ c10 → c10 ≤ 5 → 5 - c10 < n10 → zs_V MX12_tries 10 [(0, .ref 80), (1, .int (nI c10))] [] zs_Rv := by
    intro n10
    induction n10 with
    | zero => intro c10 lc10 uc10 hn10; exact absurd hn10 (Nat.not_lt_zero _)
    | succ n10 ih10 =>
      intro c10 lc10 uc10 hn10
      refine n_iload_n dX12_tries_10 rfl rfl ?_
      refine n_iconst (v := (nI 5)) dX12_tries_11 rfl ?_
      refine n_ic_geN 32 dX12_tries_12 (by decide) (by omega) (by omega) (fun h1 => ?_) (fun h1 => ?_)
      · exact n_ret dX12_tries_32 rfl rfl
      · refine n_aload_n dX12_tries_15 rfl rfl ?_
        refine n_getR 0 81 (C := RX12) (T := TX12) (N := 19) dX12_tries_16 (by decide) rfl rfl (by decide) rfl fl_RX12_7 ?_
        refine n_sipush (v := (nI 695)) dX12_tries_19 rfl ?_
        refine n_iload_n dX12_tries_22 rfl rfl ?_
        refine n_iaddN dX12_tries_23 ?_
        refine n_iconst (v := (nI 0)) dX12_tries_24 rfl ?_
        refine n_ast dX12_tries_25 (by decide) rfl (by omega) (by decide) rfl (zs_okN (rg_81_695_699 _ (by omega) (by omega)) (by decide) (by decide)) ?_
        refine n_iinc (v := (nI (c10 + 1))) (lv' := [(1, .int (nI (c10 + 1))), (0, .ref 80)]) dX12_tries_26 rfl (nI_1 c10) (by decide) rfl ?_
        refine n_goto 10 dX12_tries_29 (by decide) ?_
        exact zs_Vlv (ih10 (c10 + 1) (by omega) (by omega) (by omega)) (zs_mc 1 rfl (zs_mc 0 rfl zs_mn))
  refine n_aload_n dX12_tries_0 rfl rfl ?_
  refine n_iconst (v := (nI 0)) dX12_tries_1 rfl ?_
  refine n_sipush (v := (nI 675)) dX12_tries_2 rfl ?_
  refine n_callV (T := TX12) (NN := 19) [] (y_copies 0 675 (by omega) (by omega) (by omega) (by omega)) dX12_tries_5 kk_X12_tries_X12_copies ml_RX12_169 mwX12_copies ewX12_copies (by decide) rfl rfl rfl rfl (Nat.le_of_ble_eq_true rfl) ?_
  rintro _ rfl
  refine n_iconst (v := (nI 0)) dX12_tries_8 rfl ?_
  refine n_istore_n (lv' := [(1, .int (nI 0)), (0, .ref 80)]) dX12_tries_9 rfl (by decide) rfl ?_
  exact zs_Vlv (j10 _ 0 (by omega) (by omega) (Nat.lt_succ_self _)) (zs_mc 1 rfl (zs_mc 0 rfl zs_mn))
theorem rg_81_690_694 (j : Nat) (h1 : 690 ≤ j) (h2 : j ≤ 694) : zs_rg 81 j = none := by
  obtain rfl | rfl | rfl | rfl | rfl : j = 690 ∨ j = 691 ∨ j = 692 ∨ j = 693 ∨ j = 694 := by omega
  all_goals rfl
theorem rg_81_675_675 (j : Nat) (h1 : 675 ≤ j) (h2 : j ≤ 675) : zs_rg 81 j = some (0, 11) := by
  obtain rfl : j = 675 := by omega
  all_goals rfl
theorem rg_81_678_689 (j : Nat) (h1 : 678 ≤ j) (h2 : j ≤ 689) : zs_rg 81 j = some (0, 9) := by
  obtain rfl | rfl | rfl | rfl | rfl | rfl | rfl | rfl | rfl | rfl | rfl | rfl : j = 678 ∨ j = 679 ∨ j = 680 ∨ j = 681 ∨ j = 682 ∨ j = 683 ∨ j = 684 ∨ j = 685 ∨ j = 686 ∨ j = 687 ∨ j = 688 ∨ j = 689 := by omega
  all_goals rfl
set_option maxRecDepth 100000 in
theorem y_X12_apart (a1 : Int32) (a2 : Int32) : zs_U MX12_apart [.int a1, .int a2] zs_Ri := by
  refine zs_Vof (by decide) (Nat.le_of_ble_eq_true rfl) ?_
  show zs_V MX12_apart 0 [(0, .int a1), (1, .int a2)] [] zs_Ri
  refine n_iload_n dX12_apart_0 rfl rfl ?_
  refine n_iload_n dX12_apart_1 rfl rfl ?_
  refine n_ic_ge 11 dX12_apart_2 (by decide) (fun h1 => ?_) (fun h1 => ?_)
  · refine n_iload_n dX12_apart_11 rfl rfl ?_
    refine n_iload_n dX12_apart_12 rfl rfl ?_
    refine n_isub dX12_apart_13 (fun x2 => ?_)
    exact n_iret dX12_apart_14 rfl rfl ⟨_, rfl⟩
  · refine n_iload_n dX12_apart_5 rfl rfl ?_
    refine n_iload_n dX12_apart_6 rfl rfl ?_
    refine n_isub dX12_apart_7 (fun x3 => ?_)
    refine n_goto 14 dX12_apart_8 (by decide) ?_
    exact n_iret dX12_apart_14 rfl rfl ⟨_, rfl⟩
set_option maxRecDepth 100000 in
theorem y_X12_looks (a1 : Int32) (a2 : Int32) (a3 : Int32) : zs_U MX12_looks [.int a1, .int a2, .int a3] zs_Ri := by
  refine zs_Vof (by decide) (Nat.le_of_ble_eq_true rfl) ?_
  show zs_V MX12_looks 0 [(0, .int a1), (1, .int a2), (2, .int a3)] [] zs_Ri
  have j81 : ∀ (v81_3 : Int32) (s81_0 : Int32) (s81_1 : Int32), zs_V MX12_looks 81 [(0, .int a1), (1, .int a2), (2, .int a3), (3, .int v81_3)] [.int s81_0, .int s81_1] zs_Ri := by
    intro v81_3 s81_0 s81_1
    refine n_iadd dX12_looks_81 (fun x1 => ?_)
    refine n_istore_n (lv' := [(3, .int x1), (0, .int a1), (1, .int a2), (2, .int a3)]) dX12_looks_82 rfl (by decide) rfl ?_
    refine n_goto 102 dX12_looks_83 (by decide) ?_
    refine n_iload_n dX12_looks_102 rfl rfl ?_
    exact n_iret dX12_looks_103 rfl rfl ⟨_, rfl⟩
  have j80 : ∀ (v80_3 : Int32) (s80_0 : Int32), zs_V MX12_looks 80 [(0, .int a1), (1, .int a2), (2, .int a3), (3, .int v80_3)] [.int s80_0] zs_Ri := by
    intro v80_3 s80_0
    refine n_iconst (v := (nI 0)) dX12_looks_80 rfl ?_
    exact j81 v80_3 (nI 0) s80_0
  have j58 : ∀ (v58_3 : Int32) (s58_0 : Int32), zs_V MX12_looks 58 [(0, .int a1), (1, .int a2), (2, .int a3), (3, .int v58_3)] [.int s58_0] zs_Ri := by
    intro v58_3 s58_0
    refine n_istore_n (lv' := [(3, .int s58_0), (0, .int a1), (1, .int a2), (2, .int a3)]) dX12_looks_58 rfl (by decide) rfl ?_
    refine n_iload_n dX12_looks_59 rfl rfl ?_
    refine n_iload_n dX12_looks_60 rfl rfl ?_
    refine n_iconst (v := (nI 4)) dX12_looks_61 rfl ?_
    refine n_ic_ne 80 dX12_looks_62 (by decide) (fun h2 => ?_) (fun h2 => ?_)
    · exact zs_Vlv (j80 s58_0 s58_0) (zs_mc 1 rfl (zs_mc 2 rfl (zs_mc 3 rfl (zs_mc 0 rfl zs_mn))))
    · refine n_iload_n dX12_looks_65 rfl rfl ?_
      refine n_iload_n dX12_looks_66 rfl rfl ?_
      refine n_ic_le 80 dX12_looks_67 (by decide) (fun h3 => ?_) (fun h3 => ?_)
      · exact zs_Vlv (j80 s58_0 s58_0) (zs_mc 1 rfl (zs_mc 2 rfl (zs_mc 3 rfl (zs_mc 0 rfl zs_mn))))
      · refine n_iload_n dX12_looks_70 rfl rfl ?_
        refine n_bipush (v := (nI 9)) dX12_looks_71 rfl ?_
        refine n_ic_ge 80 dX12_looks_73 (by decide) (fun h4 => ?_) (fun h4 => ?_)
        · exact zs_Vlv (j80 s58_0 s58_0) (zs_mc 1 rfl (zs_mc 2 rfl (zs_mc 3 rfl (zs_mc 0 rfl zs_mn))))
        · refine n_iconst (v := (nI 1)) dX12_looks_76 rfl ?_
          refine n_goto 81 dX12_looks_77 (by decide) ?_
          exact zs_Vlv (j81 s58_0 (nI 1) s58_0) (zs_mc 1 rfl (zs_mc 2 rfl (zs_mc 3 rfl (zs_mc 0 rfl zs_mn))))
  have j44 : ∀ (v44_3 : Int32), zs_V MX12_looks 44 [(0, .int a1), (1, .int a2), (2, .int a3), (3, .int v44_3)] [] zs_Ri := by
    intro v44_3
    refine n_iload_n dX12_looks_44 rfl rfl ?_
    refine n_iload_n dX12_looks_45 rfl rfl ?_
    refine n_callS [.int a2, .int a3] [] (y_X12_apart a2 a3) dX12_looks_46 kk_X12_looks_X12_apart ml_RX12_46 swX12_apart rfl rfl (Nat.le_of_ble_eq_true rfl) ?_
    rintro _ ⟨x5, rfl⟩
    refine n_iconst (v := (nI 1)) dX12_looks_49 rfl ?_
    refine n_ic_ne 57 dX12_looks_50 (by decide) (fun h6 => ?_) (fun h6 => ?_)
    · refine n_iload_n dX12_looks_57 rfl rfl ?_
      exact j58 v44_3 a2
    · refine n_iload_n dX12_looks_53 rfl rfl ?_
      refine n_goto 58 dX12_looks_54 (by decide) ?_
      exact j58 v44_3 a3
  have j30 : ∀ (v30_3 : Int32) (s30_0 : Int32), zs_V MX12_looks 30 [(0, .int a1), (1, .int a2), (2, .int a3), (3, .int v30_3)] [.int s30_0] zs_Ri := by
    intro v30_3 s30_0
    refine n_istore_n (lv' := [(3, .int s30_0), (0, .int a1), (1, .int a2), (2, .int a3)]) dX12_looks_30 rfl (by decide) rfl ?_
    refine n_goto 102 dX12_looks_31 (by decide) ?_
    refine n_iload_n dX12_looks_102 rfl rfl ?_
    exact n_iret dX12_looks_103 rfl rfl ⟨_, rfl⟩
  have j25 : ∀ (v25_3 : Int32), zs_V MX12_looks 25 [(0, .int a1), (1, .int a2), (2, .int a3), (3, .int v25_3)] [] zs_Ri := by
    intro v25_3
    refine n_iload_n dX12_looks_25 rfl rfl ?_
    refine n_iload_n dX12_looks_26 rfl rfl ?_
    refine n_iadd dX12_looks_27 (fun x7 => ?_)
    refine n_iconst (v := (nI 2)) dX12_looks_28 rfl ?_
    refine n_idiv dX12_looks_29 (by decide) (fun x8 => ?_)
    exact j30 v25_3 x8
  have j12 : ∀ (v12_3 : Int32), zs_V MX12_looks 12 [(0, .int a1), (1, .int a2), (2, .int a3), (3, .int v12_3)] [] zs_Ri := by
    intro v12_3
    refine n_iload_n dX12_looks_12 rfl rfl ?_
    refine n_iconst (v := (nI 3)) dX12_looks_13 rfl ?_
    refine n_ic_ne 25 dX12_looks_14 (by decide) (fun h9 => ?_) (fun h9 => ?_)
    · exact j25 v12_3
    · refine n_iload_n dX12_looks_17 rfl rfl ?_
      refine n_if_ne 25 dX12_looks_18 (by decide) (fun h10 => ?_) (fun h10 => ?_)
      · exact j25 v12_3
      · refine n_iload_n dX12_looks_21 rfl rfl ?_
        refine n_goto 30 dX12_looks_22 (by decide) ?_
        exact j30 v12_3 a3
  refine n_iload_n dX12_looks_0 rfl rfl ?_
  refine n_istore_n (lv' := [(3, .int a2), (0, .int a1), (1, .int a2), (2, .int a3)]) dX12_looks_1 rfl (by decide) rfl ?_
  refine n_iload_n dX12_looks_2 rfl rfl ?_
  refine n_iconst (v := (nI 1)) dX12_looks_3 rfl ?_
  refine n_ic_eq 12 dX12_looks_4 (by decide) (fun h11 => ?_) (fun h11 => ?_)
  · exact zs_Vlv (j12 a2) (zs_mc 1 rfl (zs_mc 2 rfl (zs_mc 3 rfl (zs_mc 0 rfl zs_mn))))
  · refine n_iload_n dX12_looks_7 rfl rfl ?_
    refine n_iconst (v := (nI 3)) dX12_looks_8 rfl ?_
    refine n_ic_ne 34 dX12_looks_9 (by decide) (fun h12 => ?_) (fun h12 => ?_)
    · refine n_iload_n dX12_looks_34 rfl rfl ?_
      refine n_iconst (v := (nI 2)) dX12_looks_35 rfl ?_
      refine n_ic_eq 44 dX12_looks_36 (by decide) (fun h13 => ?_) (fun h13 => ?_)
      · exact zs_Vlv (j44 a2) (zs_mc 1 rfl (zs_mc 2 rfl (zs_mc 3 rfl (zs_mc 0 rfl zs_mn))))
      · refine n_iload_n dX12_looks_39 rfl rfl ?_
        refine n_iconst (v := (nI 4)) dX12_looks_40 rfl ?_
        refine n_ic_ne 86 dX12_looks_41 (by decide) (fun h14 => ?_) (fun h14 => ?_)
        · refine n_iload_n dX12_looks_86 rfl rfl ?_
          refine n_iconst (v := (nI 5)) dX12_looks_87 rfl ?_
          refine n_ic_ne 102 dX12_looks_88 (by decide) (fun h15 => ?_) (fun h15 => ?_)
          · refine n_iload_n dX12_looks_102 rfl rfl ?_
            exact n_iret dX12_looks_103 rfl rfl ⟨_, rfl⟩
          · refine n_iload_n dX12_looks_91 rfl rfl ?_
            refine n_iload_n dX12_looks_92 rfl rfl ?_
            refine n_ic_ne 100 dX12_looks_93 (by decide) (fun h16 => ?_) (fun h16 => ?_)
            · refine n_iload_n dX12_looks_100 rfl rfl ?_
              refine n_istore_n (lv' := [(3, .int a2), (0, .int a1), (1, .int a2), (2, .int a3)]) dX12_looks_101 rfl (by decide) rfl ?_
              refine n_iload_n dX12_looks_102 rfl rfl ?_
              exact n_iret dX12_looks_103 rfl rfl ⟨_, rfl⟩
            · refine n_iconst (v := (nI 0)) dX12_looks_96 rfl ?_
              refine n_goto 101 dX12_looks_97 (by decide) ?_
              refine n_istore_n (lv' := [(3, .int (nI 0)), (0, .int a1), (1, .int a2), (2, .int a3)]) dX12_looks_101 rfl (by decide) rfl ?_
              refine n_iload_n dX12_looks_102 rfl rfl ?_
              exact n_iret dX12_looks_103 rfl rfl ⟨_, rfl⟩
        · exact zs_Vlv (j44 a2) (zs_mc 1 rfl (zs_mc 2 rfl (zs_mc 3 rfl (zs_mc 0 rfl zs_mn))))
    · exact zs_Vlv (j12 a2) (zs_mc 1 rfl (zs_mc 2 rfl (zs_mc 3 rfl (zs_mc 0 rfl zs_mn))))
theorem rg_81_676_676 (j : Nat) (h1 : 676 ≤ j) (h2 : j ≤ 676) : zs_rg 81 j = none := by
  obtain rfl : j = 676 := by omega
  all_goals rfl
set_option maxRecDepth 100000 in
theorem y_X12_passes (a1 : Int32) (a2 : Nat) (la2 : 0 ≤ a2) (ua2 : a2 ≤ 11) (a3 : Int32) : zs_U MX12_passes [.int a1, .int (nI a2), .int a3] (zs_Rn 0 24) := by
  refine zs_Vof (by decide) (Nat.le_of_ble_eq_true rfl) ?_
  show zs_V MX12_passes 0 [(0, .int a1), (1, .int (nI a2)), (2, .int a3)] [] (zs_Rn 0 24)
  have j79 : ∀ (v79_3 : Nat) (s79_0 : Nat), 0 ≤ v79_3 → v79_3 ≤ 24 → 0 ≤ s79_0 → s79_0 ≤ 24 → zs_V MX12_passes 79 [(0, .int a1), (1, .int (nI a2)), (2, .int a3), (3, .int (nI v79_3))] [.int (nI s79_0)] (zs_Rn 0 24) := by
    intro v79_3 s79_0 lv79_3 uv79_3 ls79_0 us79_0
    refine n_istore_n (lv' := [(3, .int (nI s79_0)), (0, .int a1), (1, .int (nI a2)), (2, .int a3)]) dX12_passes_79 rfl (by decide) rfl ?_
    refine n_iload_n dX12_passes_80 rfl rfl ?_
    refine n_iconst (v := (nI 5)) dX12_passes_81 rfl ?_
    refine n_ic_ne 94 dX12_passes_82 (by decide) (fun h1 => ?_) (fun h1 => ?_)
    · refine n_iload_n dX12_passes_94 rfl rfl ?_
      exact n_iret dX12_passes_95 rfl rfl ⟨_, by omega, by omega, rfl⟩
    · refine n_iload_n dX12_passes_85 rfl rfl ?_
      refine n_iconst (v := (nI 1)) dX12_passes_86 rfl ?_
      refine n_ic_geN 94 dX12_passes_87 (by decide) (by omega) (by omega) (fun h2 => ?_) (fun h2 => ?_)
      · refine n_iload_n dX12_passes_94 rfl rfl ?_
        exact n_iret dX12_passes_95 rfl rfl ⟨_, by omega, by omega, rfl⟩
      · refine n_iconst (v := (nI 1)) dX12_passes_90 rfl ?_
        refine n_goto 95 dX12_passes_91 (by decide) ?_
        exact n_iret dX12_passes_95 rfl rfl ⟨_, by omega, by omega, rfl⟩
  have j78 : ∀ (v78_3 : Nat), 0 ≤ v78_3 → v78_3 ≤ 24 → zs_V MX12_passes 78 [(0, .int a1), (1, .int (nI a2)), (2, .int a3), (3, .int (nI v78_3))] [] (zs_Rn 0 24) := by
    intro v78_3 lv78_3 uv78_3
    refine n_iload_n dX12_passes_78 rfl rfl ?_
    exact j79 v78_3 v78_3 (by omega) (by omega) (by omega) (by omega)
  have j60 : ∀ (v60_3 : Nat) (s60_0 : Nat) (s60_1 : Nat), 0 ≤ v60_3 → v60_3 ≤ 23 → 0 ≤ s60_0 → s60_0 ≤ 1 → 0 ≤ s60_1 → s60_1 ≤ 23 → zs_V MX12_passes 60 [(0, .int a1), (1, .int (nI a2)), (2, .int a3), (3, .int (nI v60_3))] [.int (nI s60_0), .int (nI s60_1)] (zs_Rn 0 24) := by
    intro v60_3 s60_0 s60_1 lv60_3 uv60_3 ls60_0 us60_0 ls60_1 us60_1
    refine n_iaddN dX12_passes_60 ?_
    refine n_istore_n (lv' := [(3, .int (nI (s60_1 + s60_0))), (0, .int a1), (1, .int (nI a2)), (2, .int a3)]) dX12_passes_61 rfl (by decide) rfl ?_
    refine n_iload_n dX12_passes_62 rfl rfl ?_
    refine n_iconst (v := (nI 4)) dX12_passes_63 rfl ?_
    refine n_ic_ne 78 dX12_passes_64 (by decide) (fun h3 => ?_) (fun h3 => ?_)
    · exact zs_Vlv (j78 (s60_1 + s60_0) (by omega) (by omega)) (zs_mc 1 rfl (zs_mc 2 rfl (zs_mc 3 rfl (zs_mc 0 rfl zs_mn))))
    · refine n_iload_n dX12_passes_67 rfl rfl ?_
      refine n_iconst (v := (nI 5)) dX12_passes_68 rfl ?_
      refine n_irem dX12_passes_69 (by decide) (fun x4 => ?_)
      refine n_iconst (v := (nI 4)) dX12_passes_70 rfl ?_
      refine n_ic_ne 78 dX12_passes_71 (by decide) (fun h5 => ?_) (fun h5 => ?_)
      · exact zs_Vlv (j78 (s60_1 + s60_0) (by omega) (by omega)) (zs_mc 1 rfl (zs_mc 2 rfl (zs_mc 3 rfl (zs_mc 0 rfl zs_mn))))
      · refine n_iconst (v := (nI 0)) dX12_passes_74 rfl ?_
        refine n_goto 79 dX12_passes_75 (by decide) ?_
        exact zs_Vlv (j79 (s60_1 + s60_0) 0 (by omega) (by omega) (by omega) (by omega)) (zs_mc 1 rfl (zs_mc 2 rfl (zs_mc 3 rfl (zs_mc 0 rfl zs_mn))))
  have j59 : ∀ (v59_3 : Nat) (s59_0 : Nat), 0 ≤ v59_3 → v59_3 ≤ 23 → 0 ≤ s59_0 → s59_0 ≤ 23 → zs_V MX12_passes 59 [(0, .int a1), (1, .int (nI a2)), (2, .int a3), (3, .int (nI v59_3))] [.int (nI s59_0)] (zs_Rn 0 24) := by
    intro v59_3 s59_0 lv59_3 uv59_3 ls59_0 us59_0
    refine n_iconst (v := (nI 0)) dX12_passes_59 rfl ?_
    exact j60 v59_3 0 s59_0 (by omega) (by omega) (by omega) (by omega) (by omega) (by omega)
  have j41 : ∀ (v41_3 : Nat) (s41_0 : Nat) (s41_1 : Nat), 0 ≤ v41_3 → v41_3 ≤ 22 → 0 ≤ s41_0 → s41_0 ≤ 1 → 0 ≤ s41_1 → s41_1 ≤ 22 → zs_V MX12_passes 41 [(0, .int a1), (1, .int (nI a2)), (2, .int a3), (3, .int (nI v41_3))] [.int (nI s41_0), .int (nI s41_1)] (zs_Rn 0 24) := by
    intro v41_3 s41_0 s41_1 lv41_3 uv41_3 ls41_0 us41_0 ls41_1 us41_1
    refine n_iaddN dX12_passes_41 ?_
    refine n_istore_n (lv' := [(3, .int (nI (s41_1 + s41_0))), (0, .int a1), (1, .int (nI a2)), (2, .int a3)]) dX12_passes_42 rfl (by decide) rfl ?_
    refine n_iload_n dX12_passes_43 rfl rfl ?_
    refine n_iload_n dX12_passes_44 rfl rfl ?_
    refine n_iconst (v := (nI 3)) dX12_passes_45 rfl ?_
    refine n_ic_ne 59 dX12_passes_46 (by decide) (fun h6 => ?_) (fun h6 => ?_)
    · exact zs_Vlv (j59 (s41_1 + s41_0) (s41_1 + s41_0) (by omega) (by omega) (by omega) (by omega)) (zs_mc 1 rfl (zs_mc 2 rfl (zs_mc 3 rfl (zs_mc 0 rfl zs_mn))))
    · refine n_iload_n dX12_passes_49 rfl rfl ?_
      refine n_iconst (v := (nI 4)) dX12_passes_50 rfl ?_
      refine n_irem dX12_passes_51 (by decide) (fun x7 => ?_)
      refine n_if_ne 59 dX12_passes_52 (by decide) (fun h8 => ?_) (fun h8 => ?_)
      · exact zs_Vlv (j59 (s41_1 + s41_0) (s41_1 + s41_0) (by omega) (by omega) (by omega) (by omega)) (zs_mc 1 rfl (zs_mc 2 rfl (zs_mc 3 rfl (zs_mc 0 rfl zs_mn))))
      · refine n_iconst (v := (nI 1)) dX12_passes_55 rfl ?_
        refine n_goto 60 dX12_passes_56 (by decide) ?_
        exact zs_Vlv (j60 (s41_1 + s41_0) 1 (s41_1 + s41_0) (by omega) (by omega) (by omega) (by omega) (by omega) (by omega)) (zs_mc 1 rfl (zs_mc 2 rfl (zs_mc 3 rfl (zs_mc 0 rfl zs_mn))))
  have j40 : ∀ (v40_3 : Nat) (s40_0 : Nat), 0 ≤ v40_3 → v40_3 ≤ 22 → 0 ≤ s40_0 → s40_0 ≤ 22 → zs_V MX12_passes 40 [(0, .int a1), (1, .int (nI a2)), (2, .int a3), (3, .int (nI v40_3))] [.int (nI s40_0)] (zs_Rn 0 24) := by
    intro v40_3 s40_0 lv40_3 uv40_3 ls40_0 us40_0
    refine n_iconst (v := (nI 0)) dX12_passes_40 rfl ?_
    exact j41 v40_3 0 s40_0 (by omega) (by omega) (by omega) (by omega) (by omega) (by omega)
  have j29 : ∀ (v29_3 : Nat) (s29_0 : Nat), 0 ≤ v29_3 → v29_3 ≤ 22 → 0 ≤ s29_0 → s29_0 ≤ 22 → zs_V MX12_passes 29 [(0, .int a1), (1, .int (nI a2)), (2, .int a3), (3, .int (nI v29_3))] [.int (nI s29_0)] (zs_Rn 0 24) := by
    intro v29_3 s29_0 lv29_3 uv29_3 ls29_0 us29_0
    refine n_iload_n dX12_passes_29 rfl rfl ?_
    refine n_iconst (v := (nI 2)) dX12_passes_30 rfl ?_
    refine n_irem dX12_passes_31 (by decide) (fun x9 => ?_)
    refine n_iconst (v := (nI 1)) dX12_passes_32 rfl ?_
    refine n_ic_ne 40 dX12_passes_33 (by decide) (fun h10 => ?_) (fun h10 => ?_)
    · exact j40 v29_3 s29_0 (by omega) (by omega) (by omega) (by omega)
    · refine n_iconst (v := (nI 1)) dX12_passes_36 rfl ?_
      refine n_goto 41 dX12_passes_37 (by decide) ?_
      exact j41 v29_3 1 s29_0 (by omega) (by omega) (by omega) (by omega) (by omega) (by omega)
  have j17 : ∀ (s17_0 : Nat), 0 ≤ s17_0 → s17_0 ≤ 22 → zs_V MX12_passes 17 [(0, .int a1), (1, .int (nI a2)), (2, .int a3)] [.int (nI s17_0)] (zs_Rn 0 24) := by
    intro s17_0 ls17_0 us17_0
    refine n_istore_n (lv' := [(3, .int (nI s17_0)), (0, .int a1), (1, .int (nI a2)), (2, .int a3)]) dX12_passes_17 rfl (by decide) rfl ?_
    refine n_iload_n dX12_passes_18 rfl rfl ?_
    refine n_iload_n dX12_passes_19 rfl rfl ?_
    refine n_iconst (v := (nI 2)) dX12_passes_20 rfl ?_
    refine n_ic_eq 29 dX12_passes_21 (by decide) (fun h11 => ?_) (fun h11 => ?_)
    · exact zs_Vlv (j29 s17_0 s17_0 (by omega) (by omega) (by omega) (by omega)) (zs_mc 1 rfl (zs_mc 2 rfl (zs_mc 3 rfl (zs_mc 0 rfl zs_mn))))
    · refine n_iload_n dX12_passes_24 rfl rfl ?_
      refine n_iconst (v := (nI 4)) dX12_passes_25 rfl ?_
      refine n_ic_ne 40 dX12_passes_26 (by decide) (fun h12 => ?_) (fun h12 => ?_)
      · exact zs_Vlv (j40 s17_0 s17_0 (by omega) (by omega) (by omega) (by omega)) (zs_mc 1 rfl (zs_mc 2 rfl (zs_mc 3 rfl (zs_mc 0 rfl zs_mn))))
      · exact zs_Vlv (j29 s17_0 s17_0 (by omega) (by omega) (by omega) (by omega)) (zs_mc 1 rfl (zs_mc 2 rfl (zs_mc 3 rfl (zs_mc 0 rfl zs_mn))))
  have j10 : zs_V MX12_passes 10 [(0, .int a1), (1, .int (nI a2)), (2, .int a3)] [] (zs_Rn 0 24) := by
    refine n_iconst (v := (nI 2)) dX12_passes_10 rfl ?_
    refine n_iload_n dX12_passes_11 rfl rfl ?_
    refine n_imulN dX12_passes_12 ?_
    refine n_goto 17 dX12_passes_13 (by decide) ?_
    exact j17 (2 * a2) (by omega) (by omega)
  refine n_iload_n dX12_passes_0 rfl rfl ?_
  refine n_iconst (v := (nI 1)) dX12_passes_1 rfl ?_
  refine n_ic_eq 10 dX12_passes_2 (by decide) (fun h13 => ?_) (fun h13 => ?_)
  · exact j10 
  · refine n_iload_n dX12_passes_5 rfl rfl ?_
    refine n_iconst (v := (nI 3)) dX12_passes_6 rfl ?_
    refine n_ic_ne 16 dX12_passes_7 (by decide) (fun h14 => ?_) (fun h14 => ?_)
    · refine n_iload_n dX12_passes_16 rfl rfl ?_
      exact j17 a2 (by omega) (by omega)
    · exact j10 
set_option maxRecDepth 100000 in
theorem y_X12_flash_675 (a2 : Nat) (la2 : 0 ≤ a2) (ua2 : a2 ≤ 11) (a3 : Int32) : zs_U MX12_flash [.ref 80, .int (nI 675), .int (nI a2), .int a3] zs_Rv := by
  refine zs_Vof (by decide) (Nat.le_of_ble_eq_true rfl) ?_
  show zs_V MX12_flash 0 [(0, .ref 80), (1, .int (nI 675)), (2, .int (nI a2)), (3, .int a3)] [] zs_Rv
  have j57 : ∀ (n57 : Nat) (c57 : Nat), 0 ≤ c57 → c57 ≤ 5 → 5 - c57 < n57 → zs_V MX12_flash 57 [(0, .ref 80), (1, .int (nI 675)), (2, .int (nI a2)), (3, .int a3), (4, .int (nI c57))] [] zs_Rv := by
    intro n57
    induction n57 with
    | zero => intro c57 lc57 uc57 hn57; exact absurd hn57 (Nat.not_lt_zero _)
    | succ n57 ih57 =>
      intro c57 lc57 uc57 hn57
      have j187 : c57 + 1 ≤ 5 → ∀ (v187_5 : Int32) (v187_6 : Int32) (s187_0 : Int32) (s187_1 : Int32) (s187_2 : Nat), 695 ≤ s187_2 → s187_2 ≤ 699 → zs_V MX12_flash 187 [(0, .ref 80), (1, .int (nI 675)), (2, .int (nI a2)), (3, .int a3), (4, .int (nI c57)), (5, .int v187_5), (6, .int v187_6)] [.int s187_0, .int s187_1, .int (nI s187_2), .ref 81] zs_Rv := by
        intro hd57 v187_5 v187_6 s187_0 s187_1 s187_2 ls187_2 us187_2
        refine n_iadd dX12_flash_187 (fun x1 => ?_)
        refine n_ast dX12_flash_188 (by decide) rfl (by omega) (by decide) rfl (zs_okN (rg_81_695_699 _ (by omega) (by omega)) (by decide) (by decide)) ?_
        refine n_aload_n dX12_flash_189 rfl rfl ?_
        refine n_getR 0 81 (C := RX12) (T := TX12) (N := 19) dX12_flash_190 (by decide) rfl rfl (by decide) rfl fl_RX12_7 ?_
        refine n_iload_n dX12_flash_193 rfl rfl ?_
        refine n_bipush (v := (nI 15)) dX12_flash_194 rfl ?_
        refine n_iaddN dX12_flash_196 ?_
        refine n_iload dX12_flash_197 rfl ?_
        refine n_iaddN dX12_flash_199 ?_
        refine n_iload dX12_flash_200 rfl ?_
        refine n_ast dX12_flash_202 (by decide) rfl (by omega) (by decide) rfl (zs_okN (rg_81_690_694 _ (by omega) (by omega)) (by decide) (by decide)) ?_
        refine n_iinc (v := (nI (c57 + 1))) (lv' := [(4, .int (nI (c57 + 1))), (0, .ref 80), (1, .int (nI 675)), (2, .int (nI a2)), (3, .int a3), (5, .int v187_5), (6, .int v187_6)]) dX12_flash_203 rfl (nI_1 c57) (by decide) rfl ?_
        refine n_goto 57 dX12_flash_206 (by decide) ?_
        exact zs_Vlv (ih57 (c57 + 1) (by omega) (by omega) (by omega)) (zs_mc 1 rfl (zs_mc 2 rfl (zs_mc 3 rfl (zs_mc 4 rfl (zs_mc 0 rfl zs_mn)))))
      have j162 : c57 + 1 ≤ 5 → ∀ (v162_5 : Int32) (s162_0 : Int32), zs_V MX12_flash 162 [(0, .ref 80), (1, .int (nI 675)), (2, .int (nI a2)), (3, .int a3), (4, .int (nI c57)), (5, .int v162_5)] [.int s162_0] zs_Rv := by
        intro hd57 v162_5 s162_0
        refine n_istore (lv' := [(6, .int s162_0), (0, .ref 80), (1, .int (nI 675)), (2, .int (nI a2)), (3, .int a3), (4, .int (nI c57)), (5, .int v162_5)]) dX12_flash_162 (by decide) rfl ?_
        refine n_aload_n dX12_flash_164 rfl rfl ?_
        refine n_getR 0 81 (C := RX12) (T := TX12) (N := 19) dX12_flash_165 (by decide) rfl rfl (by decide) rfl fl_RX12_7 ?_
        refine n_iload_n dX12_flash_168 rfl rfl ?_
        refine n_bipush (v := (nI 20)) dX12_flash_169 rfl ?_
        refine n_iaddN dX12_flash_171 ?_
        refine n_iload dX12_flash_172 rfl ?_
        refine n_iaddN dX12_flash_174 ?_
        refine n_dup2 dX12_flash_175 rfl rfl ?_
        refine n_ald dX12_flash_176 (by decide) rfl (by omega) (by decide) (fun x2 => ?_)
        refine n_iload dX12_flash_177 rfl ?_
        refine n_if_eq 186 dX12_flash_179 (by decide) (fun h3 => ?_) (fun h3 => ?_)
        · refine n_iconst (v := (nI 0)) dX12_flash_186 rfl ?_
          exact zs_Vlv (j187 (by omega) v162_5 s162_0 (nI 0) x2 ((675 + 20) + c57) (by omega) (by omega)) (zs_mc 1 rfl (zs_mc 2 rfl (zs_mc 3 rfl (zs_mc 4 rfl (zs_mc 5 rfl (zs_mc 6 rfl (zs_mc 0 rfl zs_mn)))))))
        · refine n_iconst (v := (nI 1)) dX12_flash_182 rfl ?_
          refine n_goto 187 dX12_flash_183 (by decide) ?_
          exact zs_Vlv (j187 (by omega) v162_5 s162_0 (nI 1) x2 ((675 + 20) + c57) (by omega) (by omega)) (zs_mc 1 rfl (zs_mc 2 rfl (zs_mc 3 rfl (zs_mc 4 rfl (zs_mc 5 rfl (zs_mc 6 rfl (zs_mc 0 rfl zs_mn)))))))
      have j161 : c57 + 1 ≤ 5 → ∀ (v161_5 : Int32), zs_V MX12_flash 161 [(0, .ref 80), (1, .int (nI 675)), (2, .int (nI a2)), (3, .int a3), (4, .int (nI c57)), (5, .int v161_5)] [] zs_Rv := by
        intro hd57 v161_5
        refine n_iconst (v := (nI 0)) dX12_flash_161 rfl ?_
        exact j162 (by omega) v161_5 (nI 0)
      have j157 : c57 + 1 ≤ 5 → ∀ (v157_5 : Int32), zs_V MX12_flash 157 [(0, .ref 80), (1, .int (nI 675)), (2, .int (nI a2)), (3, .int a3), (4, .int (nI c57)), (5, .int v157_5)] [] zs_Rv := by
        intro hd57 v157_5
        refine n_iconst (v := (nI 1)) dX12_flash_157 rfl ?_
        refine n_goto 162 dX12_flash_158 (by decide) ?_
        exact j162 (by omega) v157_5 (nI 1)
      refine n_iload dX12_flash_57 rfl ?_
      refine n_aload_n dX12_flash_59 rfl rfl ?_
      refine n_getR 1 82 (C := RX12) (T := TX12) (N := 19) dX12_flash_60 (by decide) rfl rfl (by decide) rfl fl_RX12_13 ?_
      refine n_iconst (v := (nI 2)) dX12_flash_63 rfl ?_
      refine n_aldR (lo := 0) (up := 5) dX12_flash_64 (by decide) rfl (by omega) (by decide) rfl (fun m4 hm4 km4 => ?_)
      refine n_ic_geN 209 dX12_flash_65 (by decide) (by omega) (by omega) (fun h5 => ?_) (fun h5 => ?_)
      · exact n_ret dX12_flash_209 rfl rfl
      · refine n_iload_n dX12_flash_68 rfl rfl ?_
        refine n_if_eq 209 dX12_flash_69 (by decide) (fun h6 => ?_) (fun h6 => ?_)
        · exact n_ret dX12_flash_209 rfl rfl
        · refine n_aload_n dX12_flash_72 rfl rfl ?_
          refine n_getR 1 82 (C := RX12) (T := TX12) (N := 19) dX12_flash_73 (by decide) rfl rfl (by decide) rfl fl_RX12_13 ?_
          refine n_iconst (v := (nI 3)) dX12_flash_76 rfl ?_
          refine n_iload dX12_flash_77 rfl ?_
          refine n_iaddN dX12_flash_79 ?_
          refine n_ald dX12_flash_80 (by decide) rfl (by omega) (by decide) (fun x7 => ?_)
          refine n_aload_n dX12_flash_81 rfl rfl ?_
          refine n_getR 0 81 (C := RX12) (T := TX12) (N := 19) dX12_flash_82 (by decide) rfl rfl (by decide) rfl fl_RX12_7 ?_
          refine n_iload_n dX12_flash_85 rfl rfl ?_
          refine n_iconst (v := (nI 3)) dX12_flash_86 rfl ?_
          refine n_iaddN dX12_flash_87 ?_
          refine n_aload_n dX12_flash_88 rfl rfl ?_
          refine n_getR 0 81 (C := RX12) (T := TX12) (N := 19) dX12_flash_89 (by decide) rfl rfl (by decide) rfl fl_RX12_7 ?_
          refine n_iload_n dX12_flash_92 rfl rfl ?_
          refine n_iconst (v := (nI 0)) dX12_flash_93 rfl ?_
          refine n_iaddN dX12_flash_94 ?_
          refine n_aldR (lo := 0) (up := 11) dX12_flash_95 (by decide) rfl (by omega) (by decide) (rg_81_675_675 _ (by omega) (by omega)) (fun m8 hm8 km8 => ?_)
          refine n_iaddN dX12_flash_96 ?_
          refine n_aldR (lo := 0) (up := 9) dX12_flash_97 (by decide) rfl (by omega) (by decide) (rg_81_678_689 _ (by omega) (by omega)) (fun m9 hm9 km9 => ?_)
          refine n_aload_n dX12_flash_98 rfl rfl ?_
          refine n_getR 0 81 (C := RX12) (T := TX12) (N := 19) dX12_flash_99 (by decide) rfl rfl (by decide) rfl fl_RX12_7 ?_
          refine n_iload_n dX12_flash_102 rfl rfl ?_
          refine n_bipush (v := (nI 15)) dX12_flash_103 rfl ?_
          refine n_iaddN dX12_flash_105 ?_
          refine n_iload dX12_flash_106 rfl ?_
          refine n_iaddN dX12_flash_108 ?_
          refine n_ald dX12_flash_109 (by decide) rfl (by omega) (by decide) (fun x10 => ?_)
          refine n_callS [.int x7, .int (nI m9), .int x10] [] (y_X12_looks x7 (nI m9) x10) dX12_flash_110 kk_X12_flash_X12_looks ml_RX12_166 swX12_looks rfl rfl (Nat.le_of_ble_eq_true rfl) ?_
          rintro _ ⟨x11, rfl⟩
          refine n_istore (lv' := [(5, .int x11), (0, .ref 80), (1, .int (nI 675)), (2, .int (nI a2)), (3, .int a3), (4, .int (nI c57))]) dX12_flash_113 (by decide) rfl ?_
          refine n_iload dX12_flash_115 rfl ?_
          refine n_aload_n dX12_flash_117 rfl rfl ?_
          refine n_getR 0 81 (C := RX12) (T := TX12) (N := 19) dX12_flash_118 (by decide) rfl rfl (by decide) rfl fl_RX12_7 ?_
          refine n_iload_n dX12_flash_121 rfl rfl ?_
          refine n_bipush (v := (nI 15)) dX12_flash_122 rfl ?_
          refine n_iaddN dX12_flash_124 ?_
          refine n_iload dX12_flash_125 rfl ?_
          refine n_iaddN dX12_flash_127 ?_
          refine n_ald dX12_flash_128 (by decide) rfl (by omega) (by decide) (fun x12 => ?_)
          refine n_ic_eq 161 dX12_flash_129 (by decide) (fun h13 => ?_) (fun h13 => ?_)
          · exact zs_Vlv (j161 (by omega) x11) (zs_mc 1 rfl (zs_mc 2 rfl (zs_mc 3 rfl (zs_mc 4 rfl (zs_mc 5 rfl (zs_mc 0 rfl zs_mn))))))
          · refine n_iload_n dX12_flash_132 rfl rfl ?_
            refine n_sipush (v := (nI 675)) dX12_flash_133 rfl ?_
            refine n_ic_eqN 157 dX12_flash_136 (by decide) (by omega) (by omega) (fun h14 => ?_) (fun h14 => ?_)
            · exact zs_Vlv (j157 (by omega) x11) (zs_mc 1 rfl (zs_mc 2 rfl (zs_mc 3 rfl (zs_mc 4 rfl (zs_mc 5 rfl (zs_mc 0 rfl zs_mn))))))
            · exact absurd h14 (by omega)
  refine n_aload_n dX12_flash_0 rfl rfl ?_
  refine n_getR 0 81 (C := RX12) (T := TX12) (N := 19) dX12_flash_1 (by decide) rfl rfl (by decide) rfl fl_RX12_7 ?_
  refine n_iload_n dX12_flash_4 rfl rfl ?_
  refine n_iconst (v := (nI 1)) dX12_flash_5 rfl ?_
  refine n_iaddN dX12_flash_6 ?_
  refine n_dup2 dX12_flash_7 rfl rfl ?_
  refine n_ald dX12_flash_8 (by decide) rfl (by omega) (by decide) (fun x15 => ?_)
  refine n_iconst (v := (nI 1)) dX12_flash_9 rfl ?_
  refine n_iadd dX12_flash_10 (fun x16 => ?_)
  refine n_ast dX12_flash_11 (by decide) rfl (by omega) (by decide) rfl (zs_okN (rg_81_676_676 _ (by omega) (by omega)) (by decide) (by decide)) ?_
  refine n_aload_n dX12_flash_12 rfl rfl ?_
  refine n_getR 0 81 (C := RX12) (T := TX12) (N := 19) dX12_flash_13 (by decide) rfl rfl (by decide) rfl fl_RX12_7 ?_
  refine n_iload_n dX12_flash_16 rfl rfl ?_
  refine n_iconst (v := (nI 0)) dX12_flash_17 rfl ?_
  refine n_iaddN dX12_flash_18 ?_
  refine n_aload_n dX12_flash_19 rfl rfl ?_
  refine n_getR 0 81 (C := RX12) (T := TX12) (N := 19) dX12_flash_20 (by decide) rfl rfl (by decide) rfl fl_RX12_7 ?_
  refine n_iload_n dX12_flash_23 rfl rfl ?_
  refine n_iconst (v := (nI 0)) dX12_flash_24 rfl ?_
  refine n_iaddN dX12_flash_25 ?_
  refine n_aldR (lo := 0) (up := 11) dX12_flash_26 (by decide) rfl (by omega) (by decide) (rg_81_675_675 _ (by omega) (by omega)) (fun m17 hm17 km17 => ?_)
  refine n_aload_n dX12_flash_27 rfl rfl ?_
  refine n_getR 1 82 (C := RX12) (T := TX12) (N := 19) dX12_flash_28 (by decide) rfl rfl (by decide) rfl fl_RX12_13 ?_
  refine n_iconst (v := (nI 1)) dX12_flash_31 rfl ?_
  refine n_ald dX12_flash_32 (by decide) rfl (by omega) (by decide) (fun x18 => ?_)
  refine n_iload_n dX12_flash_33 rfl rfl ?_
  refine n_aload_n dX12_flash_34 rfl rfl ?_
  refine n_getR 0 81 (C := RX12) (T := TX12) (N := 19) dX12_flash_35 (by decide) rfl rfl (by decide) rfl fl_RX12_7 ?_
  refine n_iload_n dX12_flash_38 rfl rfl ?_
  refine n_iconst (v := (nI 1)) dX12_flash_39 rfl ?_
  refine n_iaddN dX12_flash_40 ?_
  refine n_ald dX12_flash_41 (by decide) rfl (by omega) (by decide) (fun x19 => ?_)
  refine n_callS [.int x18, .int (nI a2), .int x19] [.int (nI m17), .int (nI (675 + 0)), .ref 81] (y_X12_passes x18 a2 (by omega) (by omega) x19) dX12_flash_42 kk_X12_flash_X12_passes ml_RX12_162 swX12_passes rfl rfl (Nat.le_of_ble_eq_true rfl) ?_
  rintro _ ⟨m20, hm20, km20, rfl⟩
  refine n_iaddN dX12_flash_45 ?_
  refine n_aload_n dX12_flash_46 rfl rfl ?_
  refine n_getR 1 82 (C := RX12) (T := TX12) (N := 19) dX12_flash_47 (by decide) rfl rfl (by decide) rfl fl_RX12_13 ?_
  refine n_iconst (v := (nI 0)) dX12_flash_50 rfl ?_
  refine n_aldR (lo := 1) (up := 12) dX12_flash_51 (by decide) rfl (by omega) (by decide) rfl (fun m21 hm21 km21 => ?_)
  refine n_iremN dX12_flash_52 (by omega) (by omega) (by omega) ?_
  have hm22 := Nat.mod_lt (m17 + m20) (show m21 > 0 by omega)
  generalize (m17 + m20) % m21 = m22 at hm22 ⊢
  refine n_ast dX12_flash_53 (by decide) rfl (by omega) (by decide) rfl (zs_okR (rg_81_675_675 _ (by omega) (by omega)) (by omega) (by omega) (by decide) (by decide)) ?_
  refine n_iconst (v := (nI 0)) dX12_flash_54 rfl ?_
  refine n_istore (lv' := [(4, .int (nI 0)), (0, .ref 80), (1, .int (nI 675)), (2, .int (nI a2)), (3, .int a3)]) dX12_flash_55 (by decide) rfl ?_
  exact zs_Vlv (j57 _ 0 (by omega) (by omega) (Nat.lt_succ_self _)) (zs_mc 1 rfl (zs_mc 2 rfl (zs_mc 3 rfl (zs_mc 4 rfl (zs_mc 0 rfl zs_mn)))))
set_option maxRecDepth 100000 in
theorem y_X12_flashes (a1 : Int32) (a2 : Nat) (la2 : 0 ≤ a2) (ua2 : a2 ≤ 11) : zs_U MX12_flashes [.ref 80, .int a1, .int (nI a2)] zs_Rv := by
  refine zs_Vof (by decide) (Nat.le_of_ble_eq_true rfl) ?_
  show zs_V MX12_flashes 0 [(0, .ref 80), (1, .int a1), (2, .int (nI a2))] [] zs_Rv
  have j2 : ∀ (n2 : Nat) (c2 : Int32), zs_mu c2 < n2 → zs_V MX12_flashes 2 [(0, .ref 80), (1, .int a1), (2, .int (nI a2)), (3, .int c2)] [] zs_Rv := by
    intro n2
    induction n2 with
    | zero => intro c2 hn2; exact absurd hn2 (Nat.not_lt_zero _)
    | succ n2 ih2 =>
      intro c2 hn2
      refine n_iload_n dX12_flashes_2 rfl rfl ?_
      refine n_iload_n dX12_flashes_3 rfl rfl ?_
      refine n_ic_ge 22 dX12_flashes_4 (by decide) (fun h1 => ?_) (fun h1 => ?_)
      · exact n_ret dX12_flashes_22 rfl rfl
      · have hd2 := zs_muA h1 hn2
        refine n_aload_n dX12_flashes_7 rfl rfl ?_
        refine n_sipush (v := (nI 675)) dX12_flashes_8 rfl ?_
        refine n_iload_n dX12_flashes_11 rfl rfl ?_
        refine n_iconst (v := (nI 1)) dX12_flashes_12 rfl ?_
        refine n_callV (T := TX12) (NN := 19) [] (y_X12_flash_675 a2 (by omega) (by omega) (nI 1)) dX12_flashes_13 kk_X12_flashes_X12_flash ml_RX12_132 mwX12_flash ewX12_flash (by decide) rfl rfl rfl rfl (Nat.le_of_ble_eq_true rfl) ?_
        rintro _ rfl
        refine n_iinc (v := (c2 + Int32.ofInt 1)) (lv' := [(3, .int (c2 + Int32.ofInt 1)), (0, .ref 80), (1, .int a1), (2, .int (nI a2))]) dX12_flashes_16 rfl rfl (by decide) rfl ?_
        refine n_goto 2 dX12_flashes_19 (by decide) ?_
        exact zs_Vlv (ih2 (c2 + Int32.ofInt 1) hd2) (zs_mc 1 rfl (zs_mc 2 rfl (zs_mc 3 rfl (zs_mc 0 rfl zs_mn))))
  refine n_iconst (v := (nI 0)) dX12_flashes_0 rfl ?_
  refine n_istore_n (lv' := [(3, .int (nI 0)), (0, .ref 80), (1, .int a1), (2, .int (nI a2))]) dX12_flashes_1 rfl (by decide) rfl ?_
  exact zs_Vlv (j2 _ (nI 0) (Nat.lt_succ_self _)) (zs_mc 1 rfl (zs_mc 2 rfl (zs_mc 3 rfl (zs_mc 0 rfl zs_mn))))
set_option maxRecDepth 100000 in
theorem y_X12_at (a1 : Int32) : zs_U MX12_at [.ref 80, .int a1] zs_Ri := by
  refine zs_Vof (by decide) (Nat.le_of_ble_eq_true rfl) ?_
  show zs_V MX12_at 0 [(0, .ref 80), (1, .int a1)] [] zs_Ri
  refine n_iload_n dX12_at_0 rfl rfl ?_
  refine n_i2l dX12_at_1 ?_
  refine n_lconst (v := 0) dX12_at_2 (by decide) ?_
  refine n_ldc2 (v := 60) dX12_at_3 cl_RX12_173 ?_
  refine n_callS [.long (Int32.toInt64 a1), .long 0, .long 60] [] (y_in (Int32.toInt64 a1) 0 60) dX12_at_6 kk_X12_at_X12_in ml_RX12_54 swX12_in rfl rfl (Nat.le_of_ble_eq_true rfl) ?_
  rintro _ ⟨x1, rfl, bx1, fx1⟩
  refine n_if_ne 17 dX12_at_9 (by decide) (fun h2 => ?_) (fun h2 => ?_)
  · obtain ⟨k3, lk3, uk3, rfl⟩ := zs_inR (lo := 0) (hi := 60) (fx1 h2) (by decide) (by decide)
    refine n_aload_n dX12_at_17 rfl rfl ?_
    refine n_callV (T := TX12) (NN := 19) [] (y_X12_tries) dX12_at_18 kk_X12_at_X12_tries ml_RX12_188 mwX12_tries ewX12_tries (by decide) rfl rfl rfl rfl (Nat.le_of_ble_eq_true rfl) ?_
    rintro _ rfl
    refine n_aload_n dX12_at_21 rfl rfl ?_
    refine n_iload_n dX12_at_22 rfl rfl ?_
    refine n_aload_n dX12_at_23 rfl rfl ?_
    refine n_getR 0 81 (C := RX12) (T := TX12) (N := 19) dX12_at_24 (by decide) rfl rfl (by decide) rfl fl_RX12_7 ?_
    refine n_iconst (v := (nI 2)) dX12_at_27 rfl ?_
    refine n_aldR (lo := 0) (up := 11) dX12_at_28 (by decide) rfl (by omega) (by decide) rfl (fun m4 hm4 km4 => ?_)
    refine n_callV (T := TX12) (NN := 19) [] (y_X12_flashes (nI k3) m4 (by omega) (by omega)) dX12_at_29 kk_X12_at_X12_flashes ml_RX12_191 mwX12_flashes ewX12_flashes (by decide) rfl rfl rfl rfl (Nat.le_of_ble_eq_true rfl) ?_
    rintro _ rfl
    refine n_aload_n dX12_at_32 rfl rfl ?_
    refine n_getR 0 81 (C := RX12) (T := TX12) (N := 19) dX12_at_33 (by decide) rfl rfl (by decide) rfl fl_RX12_7 ?_
    refine n_sipush (v := (nI 675)) dX12_at_36 rfl ?_
    refine n_aldR (lo := 0) (up := 11) dX12_at_39 (by decide) rfl (by omega) (by decide) rfl (fun m5 hm5 km5 => ?_)
    exact n_iret dX12_at_40 rfl rfl ⟨_, rfl⟩
  · refine n_aload_n dX12_at_12 rfl rfl ?_
    refine n_callV (T := TX12) (NN := 19) [] (y_X12_bad) dX12_at_13 kk_X12_at_X12_bad ml_RX12_62 mwX12_bad ewX12_bad (by decide) rfl rfl rfl rfl (Nat.le_of_ble_eq_true rfl) ?_
    rintro _ ⟨x6, rfl⟩
    exact n_iret dX12_at_16 rfl rfl ⟨_, rfl⟩
set_option maxRecDepth 100000 in
theorem y_X12_sees (a1 : Int32) (a2 : Int32) : zs_U MX12_sees [.ref 80, .int a1, .int a2] zs_Ri := by
  refine zs_Vof (by decide) (Nat.le_of_ble_eq_true rfl) ?_
  show zs_V MX12_sees 0 [(0, .ref 80), (1, .int a1), (2, .int a2)] [] zs_Ri
  refine n_aload_n dX12_sees_0 rfl rfl ?_
  refine n_iload_n dX12_sees_1 rfl rfl ?_
  refine n_callV (T := TX12) (NN := 19) [] (y_isEye a1) dX12_sees_2 kk_X12_sees_X12_isEye ml_RX12_185 mwX12_isEye ewX12_isEye (by decide) rfl rfl rfl rfl (Nat.le_of_ble_eq_true rfl) ?_
  rintro _ ⟨x1, rfl, bx1, fx1⟩
  refine n_if_eq 20 dX12_sees_5 (by decide) (fun h2 => ?_) (fun h2 => ?_)
  · refine n_aload_n dX12_sees_20 rfl rfl ?_
    refine n_callV (T := TX12) (NN := 19) [] (y_X12_bad) dX12_sees_21 kk_X12_sees_X12_bad ml_RX12_62 mwX12_bad ewX12_bad (by decide) rfl rfl rfl rfl (Nat.le_of_ble_eq_true rfl) ?_
    rintro _ ⟨x3, rfl⟩
    exact n_iret dX12_sees_24 rfl rfl ⟨_, rfl⟩
  · obtain ⟨k4, uk4, rfl⟩ := fx1 h2
    refine n_iload_n dX12_sees_8 rfl rfl ?_
    refine n_i2l dX12_sees_9 ?_
    refine n_lconst (v := 0) dX12_sees_10 (by decide) ?_
    refine n_ldc2 (v := 60) dX12_sees_11 cl_RX12_173 ?_
    refine n_callS [.long (Int32.toInt64 a2), .long 0, .long 60] [] (y_in (Int32.toInt64 a2) 0 60) dX12_sees_14 kk_X12_sees_X12_in ml_RX12_54 swX12_in rfl rfl (Nat.le_of_ble_eq_true rfl) ?_
    rintro _ ⟨x5, rfl, bx5, fx5⟩
    refine n_if_ne 25 dX12_sees_17 (by decide) (fun h6 => ?_) (fun h6 => ?_)
    · obtain ⟨k7, lk7, uk7, rfl⟩ := zs_inR (lo := 0) (hi := 60) (fx5 h6) (by decide) (by decide)
      refine n_aload_n dX12_sees_25 rfl rfl ?_
      refine n_callV (T := TX12) (NN := 19) [] (y_X12_tries) dX12_sees_26 kk_X12_sees_X12_tries ml_RX12_188 mwX12_tries ewX12_tries (by decide) rfl rfl rfl rfl (Nat.le_of_ble_eq_true rfl) ?_
      rintro _ rfl
      refine n_aload_n dX12_sees_29 rfl rfl ?_
      refine n_iload_n dX12_sees_30 rfl rfl ?_
      refine n_aload_n dX12_sees_31 rfl rfl ?_
      refine n_getR 0 81 (C := RX12) (T := TX12) (N := 19) dX12_sees_32 (by decide) rfl rfl (by decide) rfl fl_RX12_7 ?_
      refine n_iconst (v := (nI 2)) dX12_sees_35 rfl ?_
      refine n_aldR (lo := 0) (up := 11) dX12_sees_36 (by decide) rfl (by omega) (by decide) rfl (fun m8 hm8 km8 => ?_)
      refine n_callV (T := TX12) (NN := 19) [] (y_X12_flashes (nI k7) m8 (by omega) (by omega)) dX12_sees_37 kk_X12_sees_X12_flashes ml_RX12_191 mwX12_flashes ewX12_flashes (by decide) rfl rfl rfl rfl (Nat.le_of_ble_eq_true rfl) ?_
      rintro _ rfl
      refine n_aload_n dX12_sees_40 rfl rfl ?_
      refine n_getR 0 81 (C := RX12) (T := TX12) (N := 19) dX12_sees_41 (by decide) rfl rfl (by decide) rfl fl_RX12_7 ?_
      refine n_sipush (v := (nI 690)) dX12_sees_44 rfl ?_
      refine n_iload_n dX12_sees_47 rfl rfl ?_
      refine n_iaddN dX12_sees_48 ?_
      refine n_ald dX12_sees_49 (by decide) rfl (by omega) (by decide) (fun x9 => ?_)
      exact n_iret dX12_sees_50 rfl rfl ⟨_, rfl⟩
    · refine n_aload_n dX12_sees_20 rfl rfl ?_
      refine n_callV (T := TX12) (NN := 19) [] (y_X12_bad) dX12_sees_21 kk_X12_sees_X12_bad ml_RX12_62 mwX12_bad ewX12_bad (by decide) rfl rfl rfl rfl (Nat.le_of_ble_eq_true rfl) ?_
      rintro _ ⟨x10, rfl⟩
      exact n_iret dX12_sees_24 rfl rfl ⟨_, rfl⟩
set_option maxRecDepth 100000 in
theorem y_X12_round : zs_U MX12_round [.ref 80] zs_Ri := by
  refine zs_Vof (by decide) (Nat.le_of_ble_eq_true rfl) ?_
  show zs_V MX12_round 0 [(0, .ref 80)] [] zs_Ri
  have j6 : ∀ (n6 : Nat) (c6 : Int32), zs_mu c6 < n6 → zs_V MX12_round 6 [(0, .ref 80), (1, .int c6)] [] zs_Ri := by
    intro n6
    induction n6 with
    | zero => intro c6 hn6; exact absurd hn6 (Nat.not_lt_zero _)
    | succ n6 ih6 =>
      intro c6 hn6
      have j48 : zs_mu (c6 + Int32.ofInt 1) < n6 → ∀ (n48 : Nat) (v48_2 : Int32) (c48 : Nat), 0 ≤ c48 → c48 ≤ 5 → 5 - c48 < n48 → zs_V MX12_round 48 [(0, .ref 80), (1, .int c6), (2, .int v48_2), (3, .int (nI c48))] [] zs_Ri := by
        intro hd6 n48
        induction n48 with
        | zero => intro v48_2 c48 lc48 uc48 hn48; exact absurd hn48 (Nat.not_lt_zero _)
        | succ n48 ih48 =>
          intro v48_2 c48 lc48 uc48 hn48
          have j89 : zs_mu (c6 + Int32.ofInt 1) < n6 → c48 + 1 ≤ 5 → ∀ (v89_2 : Int32) (s89_0 : Int32), zs_V MX12_round 89 [(0, .ref 80), (1, .int c6), (2, .int v89_2), (3, .int (nI c48))] [.int s89_0] zs_Ri := by
            intro hd6 hd48 v89_2 s89_0
            refine n_istore_n (lv' := [(2, .int s89_0), (0, .ref 80), (1, .int c6), (3, .int (nI c48))]) dX12_round_89 rfl (by decide) rfl ?_
            refine n_iinc (v := (nI (c48 + 1))) (lv' := [(3, .int (nI (c48 + 1))), (2, .int s89_0), (0, .ref 80), (1, .int c6)]) dX12_round_90 rfl (nI_1 c48) (by decide) rfl ?_
            refine n_goto 48 dX12_round_93 (by decide) ?_
            exact zs_Vlv (ih48 s89_0 (c48 + 1) (by omega) (by omega) (by omega)) (zs_mc 2 rfl (zs_mc 3 rfl (zs_mc 1 rfl (zs_mc 0 rfl zs_mn))))
          have j88 : zs_mu (c6 + Int32.ofInt 1) < n6 → c48 + 1 ≤ 5 → ∀ (v88_2 : Int32), zs_V MX12_round 88 [(0, .ref 80), (1, .int c6), (2, .int v88_2), (3, .int (nI c48))] [] zs_Ri := by
            intro hd6 hd48 v88_2
            refine n_iconst (v := (nI 0)) dX12_round_88 rfl ?_
            exact j89 hd6 (by omega) v88_2 (nI 0)
          refine n_iload_n dX12_round_48 rfl rfl ?_
          refine n_aload_n dX12_round_49 rfl rfl ?_
          refine n_getR 1 82 (C := RX12) (T := TX12) (N := 19) dX12_round_50 (by decide) rfl rfl (by decide) rfl fl_RX12_13 ?_
          refine n_iconst (v := (nI 2)) dX12_round_53 rfl ?_
          refine n_aldR (lo := 0) (up := 5) dX12_round_54 (by decide) rfl (by omega) (by decide) rfl (fun m1 hm1 km1 => ?_)
          refine n_ic_geN 96 dX12_round_55 (by decide) (by omega) (by omega) (fun h2 => ?_) (fun h2 => ?_)
          · refine n_iload_n dX12_round_96 rfl rfl ?_
            refine n_if_eq 102 dX12_round_97 (by decide) (fun h3 => ?_) (fun h3 => ?_)
            · refine n_iinc (v := (c6 + Int32.ofInt 1)) (lv' := [(1, .int (c6 + Int32.ofInt 1)), (0, .ref 80), (2, .int v48_2), (3, .int (nI c48))]) dX12_round_102 rfl rfl (by decide) rfl ?_
              refine n_goto 6 dX12_round_105 (by decide) ?_
              exact zs_Vlv (ih6 (c6 + Int32.ofInt 1) hd6) (zs_mc 1 rfl (zs_mc 0 rfl zs_mn))
            · refine n_iload_n dX12_round_100 rfl rfl ?_
              exact n_iret dX12_round_101 rfl rfl ⟨_, rfl⟩
          · refine n_iload_n dX12_round_58 rfl rfl ?_
            refine n_if_eq 88 dX12_round_59 (by decide) (fun h4 => ?_) (fun h4 => ?_)
            · exact j88 hd6 (by omega) v48_2
            · refine n_aload_n dX12_round_62 rfl rfl ?_
              refine n_getR 0 81 (C := RX12) (T := TX12) (N := 19) dX12_round_63 (by decide) rfl rfl (by decide) rfl fl_RX12_7 ?_
              refine n_sipush (v := (nI 690)) dX12_round_66 rfl ?_
              refine n_iload_n dX12_round_69 rfl rfl ?_
              refine n_iaddN dX12_round_70 ?_
              refine n_ald dX12_round_71 (by decide) rfl (by omega) (by decide) (fun x5 => ?_)
              refine n_aload_n dX12_round_72 rfl rfl ?_
              refine n_getR 0 81 (C := RX12) (T := TX12) (N := 19) dX12_round_73 (by decide) rfl rfl (by decide) rfl fl_RX12_7 ?_
              refine n_bipush (v := (nI 15)) dX12_round_76 rfl ?_
              refine n_iload_n dX12_round_78 rfl rfl ?_
              refine n_iaddN dX12_round_79 ?_
              refine n_ald dX12_round_80 (by decide) rfl (by omega) (by decide) (fun x6 => ?_)
              refine n_ic_ne 88 dX12_round_81 (by decide) (fun h7 => ?_) (fun h7 => ?_)
              · exact j88 hd6 (by omega) v48_2
              · refine n_iconst (v := (nI 1)) dX12_round_84 rfl ?_
                refine n_goto 89 dX12_round_85 (by decide) ?_
                exact j89 hd6 (by omega) v48_2 (nI 1)
      have j45 : zs_mu (c6 + Int32.ofInt 1) < n6 → ∀ (s45_0 : Int32), zs_V MX12_round 45 [(0, .ref 80), (1, .int c6)] [.int s45_0] zs_Ri := by
        intro hd6 s45_0
        refine n_istore_n (lv' := [(2, .int s45_0), (0, .ref 80), (1, .int c6)]) dX12_round_45 rfl (by decide) rfl ?_
        refine n_iconst (v := (nI 0)) dX12_round_46 rfl ?_
        refine n_istore_n (lv' := [(3, .int (nI 0)), (2, .int s45_0), (0, .ref 80), (1, .int c6)]) dX12_round_47 rfl (by decide) rfl ?_
        exact zs_Vlv (j48 hd6 _ s45_0 0 (by omega) (by omega) (Nat.lt_succ_self _)) (zs_mc 2 rfl (zs_mc 3 rfl (zs_mc 1 rfl (zs_mc 0 rfl zs_mn))))
      refine n_iload_n dX12_round_6 rfl rfl ?_
      refine n_bipush (v := (nI 60)) dX12_round_7 rfl ?_
      refine n_ic_gt 108 dX12_round_9 (by decide) (fun h8 => ?_) (fun h8 => ?_)
      · refine n_iconst (v := (-1)) dX12_round_108 rfl ?_
        exact n_iret dX12_round_109 rfl rfl ⟨_, rfl⟩
      · have hd6 := zs_muB h8 (Nat.le_of_ble_eq_true rfl) hn6
        refine n_aload_n dX12_round_12 rfl rfl ?_
        refine n_iconst (v := (nI 1)) dX12_round_13 rfl ?_
        refine n_aload_n dX12_round_14 rfl rfl ?_
        refine n_getR 0 81 (C := RX12) (T := TX12) (N := 19) dX12_round_15 (by decide) rfl rfl (by decide) rfl fl_RX12_7 ?_
        refine n_iconst (v := (nI 2)) dX12_round_18 rfl ?_
        refine n_aldR (lo := 0) (up := 11) dX12_round_19 (by decide) rfl (by omega) (by decide) rfl (fun m9 hm9 km9 => ?_)
        refine n_callV (T := TX12) (NN := 19) [] (y_X12_flashes (nI 1) m9 (by omega) (by omega)) dX12_round_20 kk_X12_round_X12_flashes ml_RX12_191 mwX12_flashes ewX12_flashes (by decide) rfl rfl rfl rfl (Nat.le_of_ble_eq_true rfl) ?_
        rintro _ rfl
        refine n_aload_n dX12_round_23 rfl rfl ?_
        refine n_getR 0 81 (C := RX12) (T := TX12) (N := 19) dX12_round_24 (by decide) rfl rfl (by decide) rfl fl_RX12_7 ?_
        refine n_sipush (v := (nI 675)) dX12_round_27 rfl ?_
        refine n_aldR (lo := 0) (up := 11) dX12_round_30 (by decide) rfl (by omega) (by decide) rfl (fun m10 hm10 km10 => ?_)
        refine n_aload_n dX12_round_31 rfl rfl ?_
        refine n_getR 0 81 (C := RX12) (T := TX12) (N := 19) dX12_round_32 (by decide) rfl rfl (by decide) rfl fl_RX12_7 ?_
        refine n_iconst (v := (nI 0)) dX12_round_35 rfl ?_
        refine n_aldR (lo := 0) (up := 11) dX12_round_36 (by decide) rfl (by omega) (by decide) rfl (fun m11 hm11 km11 => ?_)
        refine n_ic_neN 44 dX12_round_37 (by decide) (by omega) (by omega) (fun h12 => ?_) (fun h12 => ?_)
        · refine n_iconst (v := (nI 0)) dX12_round_44 rfl ?_
          exact j45 hd6 (nI 0)
        · refine n_iconst (v := (nI 1)) dX12_round_40 rfl ?_
          refine n_goto 45 dX12_round_41 (by decide) ?_
          exact j45 hd6 (nI 1)
  refine n_aload_n dX12_round_0 rfl rfl ?_
  refine n_callV (T := TX12) (NN := 19) [] (y_X12_tries) dX12_round_1 kk_X12_round_X12_tries ml_RX12_188 mwX12_tries ewX12_tries (by decide) rfl rfl rfl rfl (Nat.le_of_ble_eq_true rfl) ?_
  rintro _ rfl
  refine n_iconst (v := (nI 1)) dX12_round_4 rfl ?_
  refine n_istore_n (lv' := [(1, .int (nI 1)), (0, .ref 80)]) dX12_round_5 rfl (by decide) rfl ?_
  exact zs_Vlv (j6 _ (nI 1) (Nat.lt_succ_self _)) (zs_mc 1 rfl (zs_mc 0 rfl zs_mn))
theorem rg_81_3_14 (j : Nat) (h1 : 3 ≤ j) (h2 : j ≤ 14) : zs_rg 81 j = some (0, 9) := by
  obtain rfl | rfl | rfl | rfl | rfl | rfl | rfl | rfl | rfl | rfl | rfl | rfl : j = 3 ∨ j = 4 ∨ j = 5 ∨ j = 6 ∨ j = 7 ∨ j = 8 ∨ j = 9 ∨ j = 10 ∨ j = 11 ∨ j = 12 ∨ j = 13 ∨ j = 14 := by omega
  all_goals rfl
set_option maxRecDepth 100000 in
theorem y_X12_still (a1 : Int32) : zs_U MX12_still [.ref 80, .int a1] zs_Ri := by
  refine zs_Vof (by decide) (Nat.le_of_ble_eq_true rfl) ?_
  show zs_V MX12_still 0 [(0, .ref 80), (1, .int a1)] [] zs_Ri
  refine n_iload_n dX12_still_0 rfl rfl ?_
  refine n_i2l dX12_still_1 ?_
  refine n_lconst (v := 1) dX12_still_2 (by decide) ?_
  refine n_ldc2 (v := 60) dX12_still_3 cl_RX12_173 ?_
  refine n_callS [.long (Int32.toInt64 a1), .long 1, .long 60] [] (y_in (Int32.toInt64 a1) 1 60) dX12_still_6 kk_X12_still_X12_in ml_RX12_54 swX12_in rfl rfl (Nat.le_of_ble_eq_true rfl) ?_
  rintro _ ⟨x1, rfl, bx1, fx1⟩
  refine n_if_ne 17 dX12_still_9 (by decide) (fun h2 => ?_) (fun h2 => ?_)
  · obtain ⟨k3, lk3, uk3, rfl⟩ := zs_inR (lo := 1) (hi := 60) (fx1 h2) (by decide) (by decide)
    have j21 : ∀ (n21 : Nat) (v21_2 : Int32) (c21 : Nat), 0 ≤ c21 → c21 ≤ 12 → 12 - c21 < n21 → zs_V MX12_still 21 [(0, .ref 80), (1, .int (nI k3)), (2, .int v21_2), (3, .int (nI c21))] [] zs_Ri := by
      intro n21
      induction n21 with
      | zero => intro v21_2 c21 lc21 uc21 hn21; exact absurd hn21 (Nat.not_lt_zero _)
      | succ n21 ih21 =>
        intro v21_2 c21 lc21 uc21 hn21
        have j111 : c21 + 1 ≤ 12 → ∀ (v111_2 : Int32) (v111_4 : Int32) (v111_5 : Int32) (s111_0 : Int32) (s111_1 : Int32), zs_V MX12_still 111 [(0, .ref 80), (1, .int (nI k3)), (2, .int v111_2), (3, .int (nI c21)), (4, .int v111_4), (5, .int v111_5)] [.int s111_0, .int s111_1] zs_Ri := by
          intro hd21 v111_2 v111_4 v111_5 s111_0 s111_1
          refine n_ior dX12_still_111 (fun x4 => ?_)
          refine n_istore_n (lv' := [(2, .int x4), (0, .ref 80), (1, .int (nI k3)), (3, .int (nI c21)), (4, .int v111_4), (5, .int v111_5)]) dX12_still_112 rfl (by decide) rfl ?_
          refine n_iinc (v := (nI (c21 + 1))) (lv' := [(3, .int (nI (c21 + 1))), (2, .int x4), (0, .ref 80), (1, .int (nI k3)), (4, .int v111_4), (5, .int v111_5)]) dX12_still_113 rfl (nI_1 c21) (by decide) rfl ?_
          refine n_goto 21 dX12_still_116 (by decide) ?_
          exact zs_Vlv (ih21 x4 (c21 + 1) (by omega) (by omega) (by omega)) (zs_mc 2 rfl (zs_mc 3 rfl (zs_mc 1 rfl (zs_mc 0 rfl zs_mn))))
        have j37 : c21 + 1 ≤ 12 → ∀ (n37 : Nat) (v37_2 : Int32) (v37_4 : Int32) (c37 : Int32), zs_mu c37 < n37 → zs_V MX12_still 37 [(0, .ref 80), (1, .int (nI k3)), (2, .int v37_2), (3, .int (nI c21)), (4, .int v37_4), (5, .int c37)] [] zs_Ri := by
          intro hd21 n37
          induction n37 with
          | zero => intro v37_2 v37_4 c37 hn37; exact absurd hn37 (Nat.not_lt_zero _)
          | succ n37 ih37 =>
            intro v37_2 v37_4 c37 hn37
            have j90 : c21 + 1 ≤ 12 → zs_mu (c37 + Int32.ofInt 1) < n37 → ∀ (v90_2 : Int32) (v90_4 : Int32) (s90_0 : Int32), zs_V MX12_still 90 [(0, .ref 80), (1, .int (nI k3)), (2, .int v90_2), (3, .int (nI c21)), (4, .int v90_4), (5, .int c37)] [.int s90_0] zs_Ri := by
              intro hd21 hd37 v90_2 v90_4 s90_0
              refine n_istore (lv' := [(4, .int s90_0), (0, .ref 80), (1, .int (nI k3)), (2, .int v90_2), (3, .int (nI c21)), (5, .int c37)]) dX12_still_90 (by decide) rfl ?_
              refine n_iinc (v := (c37 + Int32.ofInt 1)) (lv' := [(5, .int (c37 + Int32.ofInt 1)), (4, .int s90_0), (0, .ref 80), (1, .int (nI k3)), (2, .int v90_2), (3, .int (nI c21))]) dX12_still_92 rfl rfl (by decide) rfl ?_
              refine n_goto 37 dX12_still_95 (by decide) ?_
              exact zs_Vlv (ih37 v90_2 s90_0 (c37 + Int32.ofInt 1) hd37) (zs_mc 2 rfl (zs_mc 3 rfl (zs_mc 4 rfl (zs_mc 5 rfl (zs_mc 1 rfl (zs_mc 0 rfl zs_mn))))))
            have j89 : c21 + 1 ≤ 12 → zs_mu (c37 + Int32.ofInt 1) < n37 → ∀ (v89_2 : Int32) (v89_4 : Int32), zs_V MX12_still 89 [(0, .ref 80), (1, .int (nI k3)), (2, .int v89_2), (3, .int (nI c21)), (4, .int v89_4), (5, .int c37)] [] zs_Ri := by
              intro hd21 hd37 v89_2 v89_4
              refine n_iconst (v := (nI 0)) dX12_still_89 rfl ?_
              exact j90 (by omega) hd37 v89_2 v89_4 (nI 0)
            refine n_iload dX12_still_37 rfl ?_
            refine n_iload_n dX12_still_39 rfl rfl ?_
            refine n_ic_ge 98 dX12_still_40 (by decide) (fun h5 => ?_) (fun h5 => ?_)
            · refine n_iload_n dX12_still_98 rfl rfl ?_
              refine n_iload dX12_still_99 rfl ?_
              refine n_if_eq 110 dX12_still_101 (by decide) (fun h6 => ?_) (fun h6 => ?_)
              · refine n_iconst (v := (nI 0)) dX12_still_110 rfl ?_
                exact j111 (by omega) v37_2 v37_4 c37 (nI 0) v37_2
              · refine n_iconst (v := (nI 1)) dX12_still_104 rfl ?_
                refine n_iload_n dX12_still_105 rfl rfl ?_
                refine n_ishl dX12_still_106 (fun x7 => ?_)
                refine n_goto 111 dX12_still_107 (by decide) ?_
                exact j111 (by omega) v37_2 v37_4 c37 x7 v37_2
            · have hd37 := zs_muA h5 hn37
              refine n_aload_n dX12_still_43 rfl rfl ?_
              refine n_iconst (v := (nI 1)) dX12_still_44 rfl ?_
              refine n_iload_n dX12_still_45 rfl rfl ?_
              refine n_callV (T := TX12) (NN := 19) [] (y_X12_flashes (nI 1) c21 (by omega) (by omega)) dX12_still_46 kk_X12_still_X12_flashes ml_RX12_191 mwX12_flashes ewX12_flashes (by decide) rfl rfl rfl rfl (Nat.le_of_ble_eq_true rfl) ?_
              rintro _ rfl
              refine n_iload dX12_still_49 rfl ?_
              refine n_if_eq 89 dX12_still_51 (by decide) (fun h8 => ?_) (fun h8 => ?_)
              · exact j89 (by omega) hd37 v37_2 v37_4
              · refine n_aload_n dX12_still_54 rfl rfl ?_
                refine n_getR 0 81 (C := RX12) (T := TX12) (N := 19) dX12_still_55 (by decide) rfl rfl (by decide) rfl fl_RX12_7 ?_
                refine n_iconst (v := (nI 3)) dX12_still_58 rfl ?_
                refine n_aload_n dX12_still_59 rfl rfl ?_
                refine n_getR 0 81 (C := RX12) (T := TX12) (N := 19) dX12_still_60 (by decide) rfl rfl (by decide) rfl fl_RX12_7 ?_
                refine n_sipush (v := (nI 675)) dX12_still_63 rfl ?_
                refine n_aldR (lo := 0) (up := 11) dX12_still_66 (by decide) rfl (by omega) (by decide) rfl (fun m9 hm9 km9 => ?_)
                refine n_iaddN dX12_still_67 ?_
                refine n_aldR (lo := 0) (up := 9) dX12_still_68 (by decide) rfl (by omega) (by decide) (rg_81_3_14 _ (by omega) (by omega)) (fun m10 hm10 km10 => ?_)
                refine n_aload_n dX12_still_69 rfl rfl ?_
                refine n_getR 0 81 (C := RX12) (T := TX12) (N := 19) dX12_still_70 (by decide) rfl rfl (by decide) rfl fl_RX12_7 ?_
                refine n_iconst (v := (nI 3)) dX12_still_73 rfl ?_
                refine n_aload_n dX12_still_74 rfl rfl ?_
                refine n_getR 0 81 (C := RX12) (T := TX12) (N := 19) dX12_still_75 (by decide) rfl rfl (by decide) rfl fl_RX12_7 ?_
                refine n_iconst (v := (nI 0)) dX12_still_78 rfl ?_
                refine n_aldR (lo := 0) (up := 11) dX12_still_79 (by decide) rfl (by omega) (by decide) rfl (fun m11 hm11 km11 => ?_)
                refine n_iaddN dX12_still_80 ?_
                refine n_aldR (lo := 0) (up := 9) dX12_still_81 (by decide) rfl (by omega) (by decide) (rg_81_3_14 _ (by omega) (by omega)) (fun m12 hm12 km12 => ?_)
                refine n_ic_neN 89 dX12_still_82 (by decide) (by omega) (by omega) (fun h13 => ?_) (fun h13 => ?_)
                · exact j89 (by omega) hd37 v37_2 v37_4
                · refine n_iconst (v := (nI 1)) dX12_still_85 rfl ?_
                  refine n_goto 90 dX12_still_86 (by decide) ?_
                  exact j90 (by omega) hd37 v37_2 v37_4 (nI 1)
        refine n_iload_n dX12_still_21 rfl rfl ?_
        refine n_bipush (v := (nI 12)) dX12_still_22 rfl ?_
        refine n_ic_geN 119 dX12_still_24 (by decide) (by omega) (by omega) (fun h14 => ?_) (fun h14 => ?_)
        · refine n_iload_n dX12_still_119 rfl rfl ?_
          exact n_iret dX12_still_120 rfl rfl ⟨_, rfl⟩
        · refine n_aload_n dX12_still_27 rfl rfl ?_
          refine n_callV (T := TX12) (NN := 19) [] (y_X12_tries) dX12_still_28 kk_X12_still_X12_tries ml_RX12_188 mwX12_tries ewX12_tries (by decide) rfl rfl rfl rfl (Nat.le_of_ble_eq_true rfl) ?_
          rintro _ rfl
          refine n_iconst (v := (nI 1)) dX12_still_31 rfl ?_
          refine n_istore (lv' := [(4, .int (nI 1)), (0, .ref 80), (1, .int (nI k3)), (2, .int v21_2), (3, .int (nI c21))]) dX12_still_32 (by decide) rfl ?_
          refine n_iconst (v := (nI 0)) dX12_still_34 rfl ?_
          refine n_istore (lv' := [(5, .int (nI 0)), (4, .int (nI 1)), (0, .ref 80), (1, .int (nI k3)), (2, .int v21_2), (3, .int (nI c21))]) dX12_still_35 (by decide) rfl ?_
          exact zs_Vlv (j37 (by omega) _ v21_2 (nI 1) (nI 0) (Nat.lt_succ_self _)) (zs_mc 2 rfl (zs_mc 3 rfl (zs_mc 4 rfl (zs_mc 5 rfl (zs_mc 1 rfl (zs_mc 0 rfl zs_mn))))))
    refine n_iconst (v := (nI 0)) dX12_still_17 rfl ?_
    refine n_istore_n (lv' := [(2, .int (nI 0)), (0, .ref 80), (1, .int (nI k3))]) dX12_still_18 rfl (by decide) rfl ?_
    refine n_iconst (v := (nI 0)) dX12_still_19 rfl ?_
    refine n_istore_n (lv' := [(3, .int (nI 0)), (2, .int (nI 0)), (0, .ref 80), (1, .int (nI k3))]) dX12_still_20 rfl (by decide) rfl ?_
    exact zs_Vlv (j21 _ (nI 0) 0 (by omega) (by omega) (Nat.lt_succ_self _)) (zs_mc 2 rfl (zs_mc 3 rfl (zs_mc 1 rfl (zs_mc 0 rfl zs_mn))))
  · refine n_aload_n dX12_still_12 rfl rfl ?_
    refine n_callV (T := TX12) (NN := 19) [] (y_X12_bad) dX12_still_13 kk_X12_still_X12_bad ml_RX12_62 mwX12_bad ewX12_bad (by decide) rfl rfl rfl rfl (Nat.le_of_ble_eq_true rfl) ?_
    rintro _ ⟨x15, rfl⟩
    exact n_iret dX12_still_16 rfl rfl ⟨_, rfl⟩
set_option maxRecDepth 100000 in
theorem y_X12_most (a1 : Int32) (a2 : Int32) (a3 : Int32) : zs_U MX12_most [.ref 80, .int a1, .int a2, .int a3] zs_Ri := by
  refine zs_Vof (by decide) (Nat.le_of_ble_eq_true rfl) ?_
  show zs_V MX12_most 0 [(0, .ref 80), (1, .int a1), (2, .int a2), (3, .int a3)] [] zs_Ri
  refine n_aload_n dX12_most_0 rfl rfl ?_
  refine n_iload_n dX12_most_1 rfl rfl ?_
  refine n_callV (T := TX12) (NN := 19) [] (y_isEye a1) dX12_most_2 kk_X12_most_X12_isEye ml_RX12_185 mwX12_isEye ewX12_isEye (by decide) rfl rfl rfl rfl (Nat.le_of_ble_eq_true rfl) ?_
  rintro _ ⟨x1, rfl, bx1, fx1⟩
  refine n_if_eq 30 dX12_most_5 (by decide) (fun h2 => ?_) (fun h2 => ?_)
  · refine n_aload_n dX12_most_30 rfl rfl ?_
    refine n_callV (T := TX12) (NN := 19) [] (y_X12_bad) dX12_most_31 kk_X12_most_X12_bad ml_RX12_62 mwX12_bad ewX12_bad (by decide) rfl rfl rfl rfl (Nat.le_of_ble_eq_true rfl) ?_
    rintro _ ⟨x3, rfl⟩
    exact n_iret dX12_most_34 rfl rfl ⟨_, rfl⟩
  · obtain ⟨k4, uk4, rfl⟩ := fx1 h2
    refine n_iload_n dX12_most_8 rfl rfl ?_
    refine n_i2l dX12_most_9 ?_
    refine n_lconst (v := 1) dX12_most_10 (by decide) ?_
    refine n_ldc2 (v := 60) dX12_most_11 cl_RX12_173 ?_
    refine n_callS [.long (Int32.toInt64 a2), .long 1, .long 60] [] (y_in (Int32.toInt64 a2) 1 60) dX12_most_14 kk_X12_most_X12_in ml_RX12_54 swX12_in rfl rfl (Nat.le_of_ble_eq_true rfl) ?_
    rintro _ ⟨x5, rfl, bx5, fx5⟩
    refine n_if_eq 30 dX12_most_17 (by decide) (fun h6 => ?_) (fun h6 => ?_)
    · refine n_aload_n dX12_most_30 rfl rfl ?_
      refine n_callV (T := TX12) (NN := 19) [] (y_X12_bad) dX12_most_31 kk_X12_most_X12_bad ml_RX12_62 mwX12_bad ewX12_bad (by decide) rfl rfl rfl rfl (Nat.le_of_ble_eq_true rfl) ?_
      rintro _ ⟨x7, rfl⟩
      exact n_iret dX12_most_34 rfl rfl ⟨_, rfl⟩
    · obtain ⟨k8, lk8, uk8, rfl⟩ := zs_inR (lo := 1) (hi := 60) (fx5 h6) (by decide) (by decide)
      refine n_iload_n dX12_most_20 rfl rfl ?_
      refine n_i2l dX12_most_21 ?_
      refine n_lconst (v := 0) dX12_most_22 (by decide) ?_
      refine n_lconst (v := 1) dX12_most_23 (by decide) ?_
      refine n_callS [.long (Int32.toInt64 a3), .long 0, .long 1] [] (y_in (Int32.toInt64 a3) 0 1) dX12_most_24 kk_X12_most_X12_in ml_RX12_54 swX12_in rfl rfl (Nat.le_of_ble_eq_true rfl) ?_
      rintro _ ⟨x9, rfl, bx9, fx9⟩
      refine n_if_ne 35 dX12_most_27 (by decide) (fun h10 => ?_) (fun h10 => ?_)
      · obtain ⟨k11, lk11, uk11, rfl⟩ := zs_inR (lo := 0) (hi := 1) (fx9 h10) (by decide) (by decide)
        have j44 : ∀ (n44 : Nat) (v44_4 : Int32) (v44_5 : Int32) (c44 : Nat), 0 ≤ c44 → c44 ≤ 12 → 12 - c44 < n44 → zs_V MX12_most 44 [(0, .ref 80), (1, .int (nI k4)), (2, .int (nI k8)), (3, .int (nI k11)), (4, .int v44_4), (5, .int v44_5), (6, .int (nI c44))] [] zs_Ri := by
          intro n44
          induction n44 with
          | zero => intro v44_4 v44_5 c44 lc44 uc44 hn44; exact absurd hn44 (Nat.not_lt_zero _)
          | succ n44 ih44 =>
            intro v44_4 v44_5 c44 lc44 uc44 hn44
            have j104 : c44 + 1 ≤ 12 → ∀ (v104_4 : Int32) (v104_5 : Int32) (v104_7 : Int32) (s104_0 : Int32), zs_V MX12_most 104 [(0, .ref 80), (1, .int (nI k4)), (2, .int (nI k8)), (3, .int (nI k11)), (4, .int v104_4), (5, .int v104_5), (6, .int (nI c44)), (7, .int v104_7)] [.int s104_0] zs_Ri := by
              intro hd44 v104_4 v104_5 v104_7 s104_0
              refine n_istore (lv' := [(5, .int s104_0), (0, .ref 80), (1, .int (nI k4)), (2, .int (nI k8)), (3, .int (nI k11)), (4, .int v104_4), (6, .int (nI c44)), (7, .int v104_7)]) dX12_most_104 (by decide) rfl ?_
              refine n_iinc (v := (nI (c44 + 1))) (lv' := [(6, .int (nI (c44 + 1))), (5, .int s104_0), (0, .ref 80), (1, .int (nI k4)), (2, .int (nI k8)), (3, .int (nI k11)), (4, .int v104_4), (7, .int v104_7)]) dX12_most_106 rfl (nI_1 c44) (by decide) rfl ?_
              refine n_goto 44 dX12_most_109 (by decide) ?_
              exact zs_Vlv (ih44 v104_4 s104_0 (c44 + 1) (by omega) (by omega) (by omega)) (zs_mc 2 rfl (zs_mc 3 rfl (zs_mc 4 rfl (zs_mc 5 rfl (zs_mc 6 rfl (zs_mc 1 rfl (zs_mc 0 rfl zs_mn)))))))
            have j88 : c44 + 1 ≤ 12 → ∀ (v88_4 : Int32) (v88_5 : Int32) (v88_7 : Int32) (s88_0 : Int32), zs_V MX12_most 88 [(0, .ref 80), (1, .int (nI k4)), (2, .int (nI k8)), (3, .int (nI k11)), (4, .int v88_4), (5, .int v88_5), (6, .int (nI c44)), (7, .int v88_7)] [.int s88_0] zs_Ri := by
              intro hd44 v88_4 v88_5 v88_7 s88_0
              refine n_istore (lv' := [(4, .int s88_0), (0, .ref 80), (1, .int (nI k4)), (2, .int (nI k8)), (3, .int (nI k11)), (5, .int v88_5), (6, .int (nI c44)), (7, .int v88_7)]) dX12_most_88 (by decide) rfl ?_
              refine n_iload dX12_most_90 rfl ?_
              refine n_iload dX12_most_92 rfl ?_
              refine n_ic_le 102 dX12_most_94 (by decide) (fun h12 => ?_) (fun h12 => ?_)
              · refine n_iload dX12_most_102 rfl ?_
                exact zs_Vlv (j104 (by omega) s88_0 v88_5 v88_7 v88_5) (zs_mc 1 rfl (zs_mc 2 rfl (zs_mc 3 rfl (zs_mc 4 rfl (zs_mc 0 rfl (zs_mc 5 rfl (zs_mc 6 rfl (zs_mc 7 rfl zs_mn))))))))
              · refine n_iload dX12_most_97 rfl ?_
                refine n_goto 104 dX12_most_99 (by decide) ?_
                exact zs_Vlv (j104 (by omega) s88_0 v88_5 v88_7 v88_7) (zs_mc 1 rfl (zs_mc 2 rfl (zs_mc 3 rfl (zs_mc 4 rfl (zs_mc 0 rfl (zs_mc 5 rfl (zs_mc 6 rfl (zs_mc 7 rfl zs_mn))))))))
            refine n_iload dX12_most_44 rfl ?_
            refine n_bipush (v := (nI 12)) dX12_most_46 rfl ?_
            refine n_ic_geN 112 dX12_most_48 (by decide) (by omega) (by omega) (fun h13 => ?_) (fun h13 => ?_)
            · refine n_iload_n dX12_most_112 rfl rfl ?_
              refine n_if_neN 121 dX12_most_113 (by decide) (by omega) (fun h14 => ?_) (fun h14 => ?_)
              · refine n_iload dX12_most_121 rfl ?_
                exact n_iret dX12_most_123 rfl rfl ⟨_, rfl⟩
              · refine n_iload dX12_most_116 rfl ?_
                refine n_goto 123 dX12_most_118 (by decide) ?_
                exact n_iret dX12_most_123 rfl rfl ⟨_, rfl⟩
            · refine n_aload_n dX12_most_51 rfl rfl ?_
              refine n_callV (T := TX12) (NN := 19) [] (y_X12_tries) dX12_most_52 kk_X12_most_X12_tries ml_RX12_188 mwX12_tries ewX12_tries (by decide) rfl rfl rfl rfl (Nat.le_of_ble_eq_true rfl) ?_
              rintro _ rfl
              refine n_aload_n dX12_most_55 rfl rfl ?_
              refine n_iload_n dX12_most_56 rfl rfl ?_
              refine n_iload dX12_most_57 rfl ?_
              refine n_callV (T := TX12) (NN := 19) [] (y_X12_flashes (nI k8) c44 (by omega) (by omega)) dX12_most_59 kk_X12_most_X12_flashes ml_RX12_191 mwX12_flashes ewX12_flashes (by decide) rfl rfl rfl rfl (Nat.le_of_ble_eq_true rfl) ?_
              rintro _ rfl
              refine n_aload_n dX12_most_62 rfl rfl ?_
              refine n_getR 0 81 (C := RX12) (T := TX12) (N := 19) dX12_most_63 (by decide) rfl rfl (by decide) rfl fl_RX12_7 ?_
              refine n_sipush (v := (nI 695)) dX12_most_66 rfl ?_
              refine n_iload_n dX12_most_69 rfl rfl ?_
              refine n_iaddN dX12_most_70 ?_
              refine n_ald dX12_most_71 (by decide) rfl (by omega) (by decide) (fun x15 => ?_)
              refine n_istore (lv' := [(7, .int x15), (0, .ref 80), (1, .int (nI k4)), (2, .int (nI k8)), (3, .int (nI k11)), (4, .int v44_4), (5, .int v44_5), (6, .int (nI c44))]) dX12_most_72 (by decide) rfl ?_
              refine n_iload dX12_most_74 rfl ?_
              refine n_iload dX12_most_76 rfl ?_
              refine n_ic_le 86 dX12_most_78 (by decide) (fun h16 => ?_) (fun h16 => ?_)
              · refine n_iload dX12_most_86 rfl ?_
                exact zs_Vlv (j88 (by omega) v44_4 v44_5 x15 v44_4) (zs_mc 1 rfl (zs_mc 2 rfl (zs_mc 3 rfl (zs_mc 4 rfl (zs_mc 5 rfl (zs_mc 6 rfl (zs_mc 7 rfl (zs_mc 0 rfl zs_mn))))))))
              · refine n_iload dX12_most_81 rfl ?_
                refine n_goto 88 dX12_most_83 (by decide) ?_
                exact zs_Vlv (j88 (by omega) v44_4 v44_5 x15 (nI c44)) (zs_mc 1 rfl (zs_mc 2 rfl (zs_mc 3 rfl (zs_mc 4 rfl (zs_mc 5 rfl (zs_mc 6 rfl (zs_mc 7 rfl (zs_mc 0 rfl zs_mn))))))))
        refine n_iconst (v := (nI 0)) dX12_most_35 rfl ?_
        refine n_istore (lv' := [(4, .int (nI 0)), (0, .ref 80), (1, .int (nI k4)), (2, .int (nI k8)), (3, .int (nI k11))]) dX12_most_36 (by decide) rfl ?_
        refine n_iconst (v := (-1)) dX12_most_38 rfl ?_
        refine n_istore (lv' := [(5, .int (-1)), (4, .int (nI 0)), (0, .ref 80), (1, .int (nI k4)), (2, .int (nI k8)), (3, .int (nI k11))]) dX12_most_39 (by decide) rfl ?_
        refine n_iconst (v := (nI 0)) dX12_most_41 rfl ?_
        refine n_istore (lv' := [(6, .int (nI 0)), (5, .int (-1)), (4, .int (nI 0)), (0, .ref 80), (1, .int (nI k4)), (2, .int (nI k8)), (3, .int (nI k11))]) dX12_most_42 (by decide) rfl ?_
        exact zs_Vlv (j44 _ (nI 0) (-1) 0 (by omega) (by omega) (Nat.lt_succ_self _)) (zs_mc 3 rfl (zs_mc 4 rfl (zs_mc 5 rfl (zs_mc 6 rfl (zs_mc 2 rfl (zs_mc 1 rfl (zs_mc 0 rfl zs_mn)))))))
      · refine n_aload_n dX12_most_30 rfl rfl ?_
        refine n_callV (T := TX12) (NN := 19) [] (y_X12_bad) dX12_most_31 kk_X12_most_X12_bad ml_RX12_62 mwX12_bad ewX12_bad (by decide) rfl rfl rfl rfl (Nat.le_of_ble_eq_true rfl) ?_
        rintro _ ⟨x17, rfl⟩
        exact n_iret dX12_most_34 rfl rfl ⟨_, rfl⟩
theorem rg_82_9_14 (j : Nat) (h1 : 9 ≤ j) (h2 : j ≤ 14) : zs_rg 82 j = some (0, 30) := by
  obtain rfl | rfl | rfl | rfl | rfl | rfl : j = 9 ∨ j = 10 ∨ j = 11 ∨ j = 12 ∨ j = 13 ∨ j = 14 := by omega
  all_goals rfl
set_option maxRecDepth 100000 in
theorem y_X12_shown (a1 : Nat) (la1 : 0 ≤ a1) (ua1 : a1 ≤ 143) (a2 : Nat) (la2 : 0 ≤ a2) (ua2 : a2 ≤ 30) : zs_U MX12_shown [.ref 80, .int (nI a1), .int (nI a2)] (zs_Rn 0 9) := by
  refine zs_Vof (by decide) (Nat.le_of_ble_eq_true rfl) ?_
  show zs_V MX12_shown 0 [(0, .ref 80), (1, .int (nI a1)), (2, .int (nI a2))] [] (zs_Rn 0 9)
  have j8 : ∀ (n8 : Nat) (v8_3 : Nat) (c8 : Nat), 0 ≤ v8_3 → v8_3 ≤ 11 → 1 ≤ c8 → c8 ≤ 31 → 31 - c8 < n8 → zs_V MX12_shown 8 [(0, .ref 80), (1, .int (nI a1)), (2, .int (nI a2)), (3, .int (nI v8_3)), (4, .int (nI c8))] [] (zs_Rn 0 9) := by
    intro n8
    induction n8 with
    | zero => intro v8_3 c8 lv8_3 uv8_3 lc8 uc8 hn8; exact absurd hn8 (Nat.not_lt_zero _)
    | succ n8 ih8 =>
      intro v8_3 c8 lv8_3 uv8_3 lc8 uc8 hn8
      refine n_iload dX12_shown_8 rfl ?_
      refine n_iload_n dX12_shown_10 rfl rfl ?_
      refine n_ic_gtN 45 dX12_shown_11 (by decide) (by omega) (by omega) (fun h1 => ?_) (fun h1 => ?_)
      · refine n_aload_n dX12_shown_45 rfl rfl ?_
        refine n_getR 0 81 (C := RX12) (T := TX12) (N := 19) dX12_shown_46 (by decide) rfl rfl (by decide) rfl fl_RX12_7 ?_
        refine n_iconst (v := (nI 3)) dX12_shown_49 rfl ?_
        refine n_iload_n dX12_shown_50 rfl rfl ?_
        refine n_iaddN dX12_shown_51 ?_
        refine n_aldR (lo := 0) (up := 9) dX12_shown_52 (by decide) rfl (by omega) (by decide) (rg_81_3_14 _ (by omega) (by omega)) (fun m2 hm2 km2 => ?_)
        exact n_iret dX12_shown_53 rfl rfl ⟨_, by omega, by omega, rfl⟩
      · refine n_iload_n dX12_shown_14 rfl rfl ?_
        refine n_aload_n dX12_shown_15 rfl rfl ?_
        refine n_getR 1 82 (C := RX12) (T := TX12) (N := 19) dX12_shown_16 (by decide) rfl rfl (by decide) rfl fl_RX12_13 ?_
        refine n_iconst (v := (nI 1)) dX12_shown_19 rfl ?_
        refine n_ald dX12_shown_20 (by decide) rfl (by omega) (by decide) (fun x3 => ?_)
        refine n_iload_n dX12_shown_21 rfl rfl ?_
        refine n_bipush (v := (nI 12)) dX12_shown_22 rfl ?_
        refine n_iremN dX12_shown_24 (by omega) (by omega) (by omega) ?_
        refine n_iload dX12_shown_25 rfl ?_
        refine n_callS [.int x3, .int (nI (a1 % 12)), .int (nI c8)] [.int (nI v8_3)] (y_X12_passes x3 (a1 % 12) (by omega) (by omega) (nI c8)) dX12_shown_27 kk_X12_shown_X12_passes ml_RX12_162 swX12_passes rfl rfl (Nat.le_of_ble_eq_true rfl) ?_
        rintro _ ⟨m4, hm4, km4, rfl⟩
        refine n_iaddN dX12_shown_30 ?_
        refine n_aload_n dX12_shown_31 rfl rfl ?_
        refine n_getR 1 82 (C := RX12) (T := TX12) (N := 19) dX12_shown_32 (by decide) rfl rfl (by decide) rfl fl_RX12_13 ?_
        refine n_iconst (v := (nI 0)) dX12_shown_35 rfl ?_
        refine n_aldR (lo := 1) (up := 12) dX12_shown_36 (by decide) rfl (by omega) (by decide) rfl (fun m5 hm5 km5 => ?_)
        refine n_iremN dX12_shown_37 (by omega) (by omega) (by omega) ?_
        have hm6 := Nat.mod_lt (v8_3 + m4) (show m5 > 0 by omega)
        generalize (v8_3 + m4) % m5 = m6 at hm6 ⊢
        refine n_istore_n (lv' := [(3, .int (nI m6)), (0, .ref 80), (1, .int (nI a1)), (2, .int (nI a2)), (4, .int (nI c8))]) dX12_shown_38 rfl (by decide) rfl ?_
        refine n_iinc (v := (nI (c8 + 1))) (lv' := [(4, .int (nI (c8 + 1))), (3, .int (nI m6)), (0, .ref 80), (1, .int (nI a1)), (2, .int (nI a2))]) dX12_shown_39 rfl (nI_1 c8) (by decide) rfl ?_
        refine n_goto 8 dX12_shown_42 (by decide) ?_
        exact zs_Vlv (ih8 m6 (c8 + 1) (by omega) (by omega) (by omega) (by omega) (by omega)) (zs_mc 2 rfl (zs_mc 3 rfl (zs_mc 4 rfl (zs_mc 1 rfl (zs_mc 0 rfl zs_mn)))))
  refine n_iload_n dX12_shown_0 rfl rfl ?_
  refine n_bipush (v := (nI 12)) dX12_shown_1 rfl ?_
  refine n_idivN dX12_shown_3 (by omega) (by omega) (by omega) ?_
  refine n_istore_n (lv' := [(3, .int (nI (a1 / 12))), (0, .ref 80), (1, .int (nI a1)), (2, .int (nI a2))]) dX12_shown_4 rfl (by decide) rfl ?_
  refine n_iconst (v := (nI 1)) dX12_shown_5 rfl ?_
  refine n_istore (lv' := [(4, .int (nI 1)), (3, .int (nI (a1 / 12))), (0, .ref 80), (1, .int (nI a1)), (2, .int (nI a2))]) dX12_shown_6 (by decide) rfl ?_
  exact zs_Vlv (j8 _ (a1 / 12) 1 (by omega) (by omega) (by omega) (by omega) (Nat.lt_succ_self _)) (zs_mc 2 rfl (zs_mc 3 rfl (zs_mc 4 rfl (zs_mc 1 rfl (zs_mc 0 rfl zs_mn)))))
set_option maxRecDepth 100000 in
theorem y_X12_isSo (a1 : Nat) (la1 : 0 ≤ a1) (ua1 : a1 ≤ 143) : zs_U MX12_isSo [.ref 80, .int (nI a1)] zs_Rb := by
  refine zs_Vof (by decide) (Nat.le_of_ble_eq_true rfl) ?_
  show zs_V MX12_isSo 0 [(0, .ref 80), (1, .int (nI a1))] [] zs_Rb
  have j4 : ∀ (n4 : Nat) (v4_2 : Nat) (c4 : Nat), 0 ≤ v4_2 → v4_2 ≤ 1 → 0 ≤ c4 → c4 ≤ 6 → 6 - c4 < n4 → zs_V MX12_isSo 4 [(0, .ref 80), (1, .int (nI a1)), (2, .int (nI v4_2)), (3, .int (nI c4))] [] zs_Rb := by
    intro n4
    induction n4 with
    | zero => intro v4_2 c4 lv4_2 uv4_2 lc4 uc4 hn4; exact absurd hn4 (Nat.not_lt_zero _)
    | succ n4 ih4 =>
      intro v4_2 c4 lv4_2 uv4_2 lc4 uc4 hn4
      have j50 : c4 + 1 ≤ 6 → ∀ (v50_2 : Nat) (s50_0 : Nat), 0 ≤ v50_2 → v50_2 ≤ 1 → 0 ≤ s50_0 → s50_0 ≤ 1 → zs_V MX12_isSo 50 [(0, .ref 80), (1, .int (nI a1)), (2, .int (nI v50_2)), (3, .int (nI c4))] [.int (nI s50_0)] zs_Rb := by
        intro hd4 v50_2 s50_0 lv50_2 uv50_2 ls50_0 us50_0
        refine n_istore_n (lv' := [(2, .int (nI s50_0)), (0, .ref 80), (1, .int (nI a1)), (3, .int (nI c4))]) dX12_isSo_50 rfl (by decide) rfl ?_
        refine n_iinc (v := (nI (c4 + 1))) (lv' := [(3, .int (nI (c4 + 1))), (2, .int (nI s50_0)), (0, .ref 80), (1, .int (nI a1))]) dX12_isSo_51 rfl (nI_1 c4) (by decide) rfl ?_
        refine n_goto 4 dX12_isSo_54 (by decide) ?_
        exact zs_Vlv (ih4 s50_0 (c4 + 1) (by omega) (by omega) (by omega) (by omega) (by omega)) (zs_mc 2 rfl (zs_mc 3 rfl (zs_mc 1 rfl (zs_mc 0 rfl zs_mn))))
      have j49 : c4 + 1 ≤ 6 → ∀ (v49_2 : Nat), 0 ≤ v49_2 → v49_2 ≤ 1 → zs_V MX12_isSo 49 [(0, .ref 80), (1, .int (nI a1)), (2, .int (nI v49_2)), (3, .int (nI c4))] [] zs_Rb := by
        intro hd4 v49_2 lv49_2 uv49_2
        refine n_iconst (v := (nI 0)) dX12_isSo_49 rfl ?_
        exact j50 (by omega) v49_2 0 (by omega) (by omega) (by omega) (by omega)
      refine n_iload_n dX12_isSo_4 rfl rfl ?_
      refine n_aload_n dX12_isSo_5 rfl rfl ?_
      refine n_getR 1 82 (C := RX12) (T := TX12) (N := 19) dX12_isSo_6 (by decide) rfl rfl (by decide) rfl fl_RX12_13 ?_
      refine n_bipush (v := (nI 8)) dX12_isSo_9 rfl ?_
      refine n_aldR (lo := 0) (up := 6) dX12_isSo_11 (by decide) rfl (by omega) (by decide) rfl (fun m1 hm1 km1 => ?_)
      refine n_ic_geN 57 dX12_isSo_12 (by decide) (by omega) (by omega) (fun h2 => ?_) (fun h2 => ?_)
      · refine n_iload_n dX12_isSo_57 rfl rfl ?_
        exact n_iret dX12_isSo_58 rfl (zs_nb (by omega)) ⟨_, rfl, (zs_nb (by omega))⟩
      · refine n_iload_n dX12_isSo_15 rfl rfl ?_
        refine n_if_eqN 49 dX12_isSo_16 (by decide) (by omega) (fun h3 => ?_) (fun h3 => ?_)
        · exact j49 (by omega) v4_2 (by omega) (by omega)
        · refine n_aload_n dX12_isSo_19 rfl rfl ?_
          refine n_iload_n dX12_isSo_20 rfl rfl ?_
          refine n_aload_n dX12_isSo_21 rfl rfl ?_
          refine n_getR 1 82 (C := RX12) (T := TX12) (N := 19) dX12_isSo_22 (by decide) rfl rfl (by decide) rfl fl_RX12_13 ?_
          refine n_bipush (v := (nI 9)) dX12_isSo_25 rfl ?_
          refine n_iload_n dX12_isSo_27 rfl rfl ?_
          refine n_iaddN dX12_isSo_28 ?_
          refine n_aldR (lo := 0) (up := 30) dX12_isSo_29 (by decide) rfl (by omega) (by decide) (rg_82_9_14 _ (by omega) (by omega)) (fun m4 hm4 km4 => ?_)
          refine n_callV (T := TX12) (NN := 19) [] (y_X12_shown a1 (by omega) (by omega) m4 (by omega) (by omega)) dX12_isSo_30 kk_X12_isSo_X12_shown ml_RX12_204 mwX12_shown ewX12_shown (by decide) rfl rfl rfl rfl (Nat.le_of_ble_eq_true rfl) ?_
          rintro _ ⟨m5, hm5, km5, rfl⟩
          refine n_aload_n dX12_isSo_33 rfl rfl ?_
          refine n_getR 1 82 (C := RX12) (T := TX12) (N := 19) dX12_isSo_34 (by decide) rfl rfl (by decide) rfl fl_RX12_13 ?_
          refine n_bipush (v := (nI 15)) dX12_isSo_37 rfl ?_
          refine n_iload_n dX12_isSo_39 rfl rfl ?_
          refine n_iaddN dX12_isSo_40 ?_
          refine n_ald dX12_isSo_41 (by decide) rfl (by omega) (by decide) (fun x6 => ?_)
          refine n_ic_ne 49 dX12_isSo_42 (by decide) (fun h7 => ?_) (fun h7 => ?_)
          · exact j49 (by omega) v4_2 (by omega) (by omega)
          · refine n_iconst (v := (nI 1)) dX12_isSo_45 rfl ?_
            refine n_goto 50 dX12_isSo_46 (by decide) ?_
            exact j50 (by omega) v4_2 1 (by omega) (by omega) (by omega) (by omega)
  refine n_iconst (v := (nI 1)) dX12_isSo_0 rfl ?_
  refine n_istore_n (lv' := [(2, .int (nI 1)), (0, .ref 80), (1, .int (nI a1))]) dX12_isSo_1 rfl (by decide) rfl ?_
  refine n_iconst (v := (nI 0)) dX12_isSo_2 rfl ?_
  refine n_istore_n (lv' := [(3, .int (nI 0)), (2, .int (nI 1)), (0, .ref 80), (1, .int (nI a1))]) dX12_isSo_3 rfl (by decide) rfl ?_
  exact zs_Vlv (j4 _ 1 0 (by omega) (by omega) (by omega) (by omega) (Nat.lt_succ_self _)) (zs_mc 2 rfl (zs_mc 3 rfl (zs_mc 1 rfl (zs_mc 0 rfl zs_mn))))
set_option maxRecDepth 100000 in
theorem y_X12_began (a1 : Int32) : zs_U MX12_began [.ref 80, .int a1] zs_Ri := by
  refine zs_Vof (by decide) (Nat.le_of_ble_eq_true rfl) ?_
  show zs_V MX12_began 0 [(0, .ref 80), (1, .int a1)] [] zs_Ri
  refine n_iload_n dX12_began_0 rfl rfl ?_
  refine n_iconst (v := (-1)) dX12_began_1 rfl ?_
  refine n_ic_ge 10 dX12_began_2 (by decide) (fun h1 => ?_) (fun h1 => ?_)
  · have j14 : ∀ (n14 : Nat) (v14_2 : Int32) (c14 : Nat), 0 ≤ c14 → c14 ≤ 144 → 144 - c14 < n14 → zs_V MX12_began 14 [(0, .ref 80), (1, .int a1), (2, .int v14_2), (3, .int (nI c14))] [] zs_Ri := by
      intro n14
      induction n14 with
      | zero => intro v14_2 c14 lc14 uc14 hn14; exact absurd hn14 (Nat.not_lt_zero _)
      | succ n14 ih14 =>
        intro v14_2 c14 lc14 uc14 hn14
        have j45 : c14 + 1 ≤ 144 → ∀ (v45_2 : Int32), zs_V MX12_began 45 [(0, .ref 80), (1, .int a1), (2, .int v45_2), (3, .int (nI c14))] [] zs_Ri := by
          intro hd14 v45_2
          refine n_iinc (v := (nI (c14 + 1))) (lv' := [(3, .int (nI (c14 + 1))), (0, .ref 80), (1, .int a1), (2, .int v45_2)]) dX12_began_45 rfl (nI_1 c14) (by decide) rfl ?_
          refine n_goto 14 dX12_began_48 (by decide) ?_
          exact zs_Vlv (ih14 v45_2 (c14 + 1) (by omega) (by omega) (by omega)) (zs_mc 1 rfl (zs_mc 2 rfl (zs_mc 3 rfl (zs_mc 0 rfl zs_mn))))
        refine n_iload_n dX12_began_14 rfl rfl ?_
        refine n_bipush (v := (nI 12)) dX12_began_15 rfl ?_
        refine n_aload_n dX12_began_17 rfl rfl ?_
        refine n_getR 1 82 (C := RX12) (T := TX12) (N := 19) dX12_began_18 (by decide) rfl rfl (by decide) rfl fl_RX12_13 ?_
        refine n_iconst (v := (nI 0)) dX12_began_21 rfl ?_
        refine n_aldR (lo := 1) (up := 12) dX12_began_22 (by decide) rfl (by omega) (by decide) rfl (fun m2 hm2 km2 => ?_)
        refine n_imulN dX12_began_23 ?_
        refine n_ic_geN 51 dX12_began_24 (by decide) (by omega) (by omega) (fun h3 => ?_) (fun h3 => ?_)
        · refine n_iload_n dX12_began_51 rfl rfl ?_
          refine n_if_ge 59 dX12_began_52 (by decide) (fun h4 => ?_) (fun h4 => ?_)
          · refine n_bipush (v := (-5)) dX12_began_59 rfl ?_
            exact n_iret dX12_began_61 rfl rfl ⟨_, rfl⟩
          · refine n_iload_n dX12_began_55 rfl rfl ?_
            refine n_goto 61 dX12_began_56 (by decide) ?_
            exact n_iret dX12_began_61 rfl rfl ⟨_, rfl⟩
        · refine n_aload_n dX12_began_27 rfl rfl ?_
          refine n_iload_n dX12_began_28 rfl rfl ?_
          refine n_callV (T := TX12) (NN := 19) [] (y_X12_isSo c14 (by omega) (by omega)) dX12_began_29 kk_X12_began_X12_isSo ml_RX12_207 mwX12_isSo ewX12_isSo (by decide) rfl rfl rfl rfl (Nat.le_of_ble_eq_true rfl) ?_
          rintro _ ⟨x5, rfl, bx5⟩
          refine n_if_eq 45 dX12_began_32 (by decide) (fun h6 => ?_) (fun h6 => ?_)
          · exact j45 (by omega) v14_2
          · refine n_iload_n dX12_began_35 rfl rfl ?_
            refine n_iload_n dX12_began_36 rfl rfl ?_
            refine n_ic_ne 42 dX12_began_37 (by decide) (fun h7 => ?_) (fun h7 => ?_)
            · refine n_iinc (v := (v14_2 + Int32.ofInt 1)) (lv' := [(2, .int (v14_2 + Int32.ofInt 1)), (0, .ref 80), (1, .int a1), (3, .int (nI c14))]) dX12_began_42 rfl rfl (by decide) rfl ?_
              exact zs_Vlv (j45 (by omega) (v14_2 + Int32.ofInt 1)) (zs_mc 1 rfl (zs_mc 2 rfl (zs_mc 0 rfl (zs_mc 3 rfl zs_mn))))
            · refine n_iload_n dX12_began_40 rfl rfl ?_
              exact n_iret dX12_began_41 rfl rfl ⟨_, rfl⟩
    refine n_iconst (v := (nI 0)) dX12_began_10 rfl ?_
    refine n_istore_n (lv' := [(2, .int (nI 0)), (0, .ref 80), (1, .int a1)]) dX12_began_11 rfl (by decide) rfl ?_
    refine n_iconst (v := (nI 0)) dX12_began_12 rfl ?_
    refine n_istore_n (lv' := [(3, .int (nI 0)), (2, .int (nI 0)), (0, .ref 80), (1, .int a1)]) dX12_began_13 rfl (by decide) rfl ?_
    exact zs_Vlv (j14 _ (nI 0) 0 (by omega) (by omega) (Nat.lt_succ_self _)) (zs_mc 2 rfl (zs_mc 3 rfl (zs_mc 1 rfl (zs_mc 0 rfl zs_mn))))
  · refine n_aload_n dX12_began_5 rfl rfl ?_
    refine n_callV (T := TX12) (NN := 19) [] (y_X12_bad10) dX12_began_6 kk_X12_began_X12_bad10 ml_RX12_196 mwX12_bad10 ewX12_bad10 (by decide) rfl rfl rfl rfl (Nat.le_of_ble_eq_true rfl) ?_
    rintro _ ⟨x8, rfl⟩
    exact n_iret dX12_began_9 rfl rfl ⟨_, rfl⟩
set_option maxRecDepth 100000 in
theorem y_X12_tell : zs_U MX12_tell [.ref 80] zs_Ri := by
  refine zs_Vof (by decide) (Nat.le_of_ble_eq_true rfl) ?_
  show zs_V MX12_tell 0 [(0, .ref 80)] [] zs_Ri
  have j8 : ∀ (n8 : Nat) (v8_1 : Int32) (v8_2 : Int32) (c8 : Nat), 1 ≤ c8 → c8 ≤ 31 → 31 - c8 < n8 → zs_V MX12_tell 8 [(0, .ref 80), (1, .int v8_1), (2, .int v8_2), (3, .int (nI c8))] [] zs_Ri := by
    intro n8
    induction n8 with
    | zero => intro v8_1 v8_2 c8 lc8 uc8 hn8; exact absurd hn8 (Nat.not_lt_zero _)
    | succ n8 ih8 =>
      intro v8_1 v8_2 c8 lc8 uc8 hn8
      have j153 : c8 + 1 ≤ 31 → ∀ (v153_1 : Int32) (v153_2 : Int32) (v153_4 : Int32) (v153_5 : Int32) (s153_0 : Int32), zs_V MX12_tell 153 [(0, .ref 80), (1, .int v153_1), (2, .int v153_2), (3, .int (nI c8)), (4, .int v153_4), (5, .int v153_5)] [.int s153_0] zs_Ri := by
        intro hd8 v153_1 v153_2 v153_4 v153_5 s153_0
        refine n_istore_n (lv' := [(2, .int s153_0), (0, .ref 80), (1, .int v153_1), (3, .int (nI c8)), (4, .int v153_4), (5, .int v153_5)]) dX12_tell_153 rfl (by decide) rfl ?_
        refine n_iinc (v := (nI (c8 + 1))) (lv' := [(3, .int (nI (c8 + 1))), (2, .int s153_0), (0, .ref 80), (1, .int v153_1), (4, .int v153_4), (5, .int v153_5)]) dX12_tell_154 rfl (nI_1 c8) (by decide) rfl ?_
        refine n_goto 8 dX12_tell_157 (by decide) ?_
        exact zs_Vlv (ih8 v153_1 s153_0 (c8 + 1) (by omega) (by omega) (by omega)) (zs_mc 2 rfl (zs_mc 3 rfl (zs_mc 1 rfl (zs_mc 0 rfl zs_mn))))
      have j152 : c8 + 1 ≤ 31 → ∀ (v152_1 : Int32) (v152_2 : Int32) (v152_4 : Int32) (v152_5 : Int32), zs_V MX12_tell 152 [(0, .ref 80), (1, .int v152_1), (2, .int v152_2), (3, .int (nI c8)), (4, .int v152_4), (5, .int v152_5)] [] zs_Ri := by
        intro hd8 v152_1 v152_2 v152_4 v152_5
        refine n_iload_n dX12_tell_152 rfl rfl ?_
        exact j153 (by omega) v152_1 v152_2 v152_4 v152_5 v152_2
      have j135 : c8 + 1 ≤ 31 → ∀ (v135_1 : Int32) (v135_2 : Int32) (v135_4 : Int32) (v135_5 : Int32) (s135_0 : Int32), zs_V MX12_tell 135 [(0, .ref 80), (1, .int v135_1), (2, .int v135_2), (3, .int (nI c8)), (4, .int v135_4), (5, .int v135_5)] [.int s135_0] zs_Ri := by
        intro hd8 v135_1 v135_2 v135_4 v135_5 s135_0
        refine n_istore_n (lv' := [(1, .int s135_0), (0, .ref 80), (2, .int v135_2), (3, .int (nI c8)), (4, .int v135_4), (5, .int v135_5)]) dX12_tell_135 rfl (by decide) rfl ?_
        refine n_iload dX12_tell_136 rfl ?_
        refine n_if_le 152 dX12_tell_138 (by decide) (fun h1 => ?_) (fun h1 => ?_)
        · exact zs_Vlv (j152 (by omega) s135_0 v135_2 v135_4 v135_5) (zs_mc 1 rfl (zs_mc 0 rfl (zs_mc 2 rfl (zs_mc 3 rfl (zs_mc 4 rfl (zs_mc 5 rfl zs_mn))))))
        · refine n_iload dX12_tell_141 rfl ?_
          refine n_iload_n dX12_tell_143 rfl rfl ?_
          refine n_ic_ge 152 dX12_tell_144 (by decide) (fun h2 => ?_) (fun h2 => ?_)
          · exact zs_Vlv (j152 (by omega) s135_0 v135_2 v135_4 v135_5) (zs_mc 1 rfl (zs_mc 0 rfl (zs_mc 2 rfl (zs_mc 3 rfl (zs_mc 4 rfl (zs_mc 5 rfl zs_mn))))))
          · refine n_iload dX12_tell_147 rfl ?_
            refine n_goto 153 dX12_tell_149 (by decide) ?_
            exact zs_Vlv (j153 (by omega) s135_0 v135_2 v135_4 v135_5 v135_4) (zs_mc 1 rfl (zs_mc 0 rfl (zs_mc 2 rfl (zs_mc 3 rfl (zs_mc 4 rfl (zs_mc 5 rfl zs_mn))))))
      have j134 : c8 + 1 ≤ 31 → ∀ (v134_1 : Int32) (v134_2 : Int32) (v134_4 : Int32) (v134_5 : Int32), zs_V MX12_tell 134 [(0, .ref 80), (1, .int v134_1), (2, .int v134_2), (3, .int (nI c8)), (4, .int v134_4), (5, .int v134_5)] [] zs_Ri := by
        intro hd8 v134_1 v134_2 v134_4 v134_5
        refine n_iload_n dX12_tell_134 rfl rfl ?_
        exact j135 (by omega) v134_1 v134_2 v134_4 v134_5 v134_1
      have j44 : c8 + 1 ≤ 31 → ∀ (n44 : Nat) (v44_1 : Int32) (v44_2 : Int32) (v44_4 : Int32) (c44 : Nat), 0 ≤ c44 → c44 ≤ 144 → 144 - c44 < n44 → zs_V MX12_tell 44 [(0, .ref 80), (1, .int v44_1), (2, .int v44_2), (3, .int (nI c8)), (4, .int v44_4), (5, .int (nI c44))] [] zs_Ri := by
        intro hd8 n44
        induction n44 with
        | zero => intro v44_1 v44_2 v44_4 c44 lc44 uc44 hn44; exact absurd hn44 (Nat.not_lt_zero _)
        | succ n44 ih44 =>
          intro v44_1 v44_2 v44_4 c44 lc44 uc44 hn44
          have j113 : c8 + 1 ≤ 31 → c44 + 1 ≤ 144 → ∀ (v113_1 : Int32) (v113_2 : Int32) (v113_4 : Int32), zs_V MX12_tell 113 [(0, .ref 80), (1, .int v113_1), (2, .int v113_2), (3, .int (nI c8)), (4, .int v113_4), (5, .int (nI c44))] [] zs_Ri := by
            intro hd8 hd44 v113_1 v113_2 v113_4
            refine n_iinc (v := (nI (c44 + 1))) (lv' := [(5, .int (nI (c44 + 1))), (0, .ref 80), (1, .int v113_1), (2, .int v113_2), (3, .int (nI c8)), (4, .int v113_4)]) dX12_tell_113 rfl (nI_1 c44) (by decide) rfl ?_
            refine n_goto 44 dX12_tell_116 (by decide) ?_
            exact zs_Vlv (ih44 v113_1 v113_2 v113_4 (c44 + 1) (by omega) (by omega) (by omega)) (zs_mc 1 rfl (zs_mc 2 rfl (zs_mc 3 rfl (zs_mc 4 rfl (zs_mc 5 rfl (zs_mc 0 rfl zs_mn))))))
          have j111 : c8 + 1 ≤ 31 → c44 + 1 ≤ 144 → ∀ (v111_1 : Int32) (v111_2 : Int32) (v111_4 : Int32) (v111_6 : Int32) (s111_0 : Int32), zs_V MX12_tell 111 [(0, .ref 80), (1, .int v111_1), (2, .int v111_2), (3, .int (nI c8)), (4, .int v111_4), (5, .int (nI c44)), (6, .int v111_6)] [.int s111_0] zs_Ri := by
            intro hd8 hd44 v111_1 v111_2 v111_4 v111_6 s111_0
            refine n_istore (lv' := [(4, .int s111_0), (0, .ref 80), (1, .int v111_1), (2, .int v111_2), (3, .int (nI c8)), (5, .int (nI c44)), (6, .int v111_6)]) dX12_tell_111 (by decide) rfl ?_
            exact zs_Vlv (j113 (by omega) (by omega) v111_1 v111_2 s111_0) (zs_mc 1 rfl (zs_mc 2 rfl (zs_mc 3 rfl (zs_mc 4 rfl (zs_mc 0 rfl (zs_mc 5 rfl zs_mn))))))
          refine n_iload dX12_tell_44 rfl ?_
          refine n_bipush (v := (nI 12)) dX12_tell_46 rfl ?_
          refine n_aload_n dX12_tell_48 rfl rfl ?_
          refine n_getR 1 82 (C := RX12) (T := TX12) (N := 19) dX12_tell_49 (by decide) rfl rfl (by decide) rfl fl_RX12_13 ?_
          refine n_iconst (v := (nI 0)) dX12_tell_52 rfl ?_
          refine n_aldR (lo := 1) (up := 12) dX12_tell_53 (by decide) rfl (by omega) (by decide) rfl (fun m3 hm3 km3 => ?_)
          refine n_imulN dX12_tell_54 ?_
          refine n_ic_geN 119 dX12_tell_55 (by decide) (by omega) (by omega) (fun h4 => ?_) (fun h4 => ?_)
          · refine n_iload dX12_tell_119 rfl ?_
            refine n_if_le 134 dX12_tell_121 (by decide) (fun h5 => ?_) (fun h5 => ?_)
            · exact j134 (by omega) v44_1 v44_2 v44_4 (nI c44)
            · refine n_iload dX12_tell_124 rfl ?_
              refine n_iload_n dX12_tell_126 rfl rfl ?_
              refine n_ic_ge 134 dX12_tell_127 (by decide) (fun h6 => ?_) (fun h6 => ?_)
              · exact j134 (by omega) v44_1 v44_2 v44_4 (nI c44)
              · refine n_iload_n dX12_tell_130 rfl rfl ?_
                refine n_goto 135 dX12_tell_131 (by decide) ?_
                exact j135 (by omega) v44_1 v44_2 v44_4 (nI c44) (nI c8)
          · refine n_aload_n dX12_tell_58 rfl rfl ?_
            refine n_iload dX12_tell_59 rfl ?_
            refine n_callV (T := TX12) (NN := 19) [] (y_X12_isSo c44 (by omega) (by omega)) dX12_tell_61 kk_X12_tell_X12_isSo ml_RX12_207 mwX12_isSo ewX12_isSo (by decide) rfl rfl rfl rfl (Nat.le_of_ble_eq_true rfl) ?_
            rintro _ ⟨x7, rfl, bx7⟩
            refine n_if_eq 113 dX12_tell_64 (by decide) (fun h8 => ?_) (fun h8 => ?_)
            · exact j113 (by omega) (by omega) v44_1 v44_2 v44_4
            · refine n_aload_n dX12_tell_67 rfl rfl ?_
              refine n_iload dX12_tell_68 rfl ?_
              refine n_iload_n dX12_tell_70 rfl rfl ?_
              refine n_callV (T := TX12) (NN := 19) [] (y_X12_shown c44 (by omega) (by omega) c8 (by omega) (by omega)) dX12_tell_71 kk_X12_tell_X12_shown ml_RX12_204 mwX12_shown ewX12_shown (by decide) rfl rfl rfl rfl (Nat.le_of_ble_eq_true rfl) ?_
              rintro _ ⟨m9, hm9, km9, rfl⟩
              refine n_istore (lv' := [(6, .int (nI m9)), (0, .ref 80), (1, .int v44_1), (2, .int v44_2), (3, .int (nI c8)), (4, .int v44_4), (5, .int (nI c44))]) dX12_tell_74 (by decide) rfl ?_
              refine n_aload_n dX12_tell_76 rfl rfl ?_
              refine n_getR 16 87 (C := RX12) (T := TX12) (N := 19) dX12_tell_77 (by decide) rfl rfl (by decide) rfl fl_RX12_33 ?_
              refine n_iload dX12_tell_80 rfl ?_
              refine n_dup2 dX12_tell_82 rfl rfl ?_
              refine n_ald dX12_tell_83 (by decide) rfl (by omega) (by decide) (fun x10 => ?_)
              refine n_iconst (v := (nI 1)) dX12_tell_84 rfl ?_
              refine n_iadd dX12_tell_85 (fun x11 => ?_)
              refine n_ast dX12_tell_86 (by decide) rfl (by omega) (by decide) rfl (zs_okN rfl (by decide) (by decide)) ?_
              refine n_aload_n dX12_tell_87 rfl rfl ?_
              refine n_getR 16 87 (C := RX12) (T := TX12) (N := 19) dX12_tell_88 (by decide) rfl rfl (by decide) rfl fl_RX12_33 ?_
              refine n_iload dX12_tell_91 rfl ?_
              refine n_ald dX12_tell_93 (by decide) rfl (by omega) (by decide) (fun x12 => ?_)
              refine n_iload dX12_tell_94 rfl ?_
              refine n_ic_le 109 dX12_tell_96 (by decide) (fun h13 => ?_) (fun h13 => ?_)
              · refine n_iload dX12_tell_109 rfl ?_
                exact zs_Vlv (j111 (by omega) (by omega) v44_1 v44_2 v44_4 (nI m9) v44_4) (zs_mc 1 rfl (zs_mc 2 rfl (zs_mc 3 rfl (zs_mc 4 rfl (zs_mc 5 rfl (zs_mc 6 rfl (zs_mc 0 rfl zs_mn)))))))
              · refine n_aload_n dX12_tell_99 rfl rfl ?_
                refine n_getR 16 87 (C := RX12) (T := TX12) (N := 19) dX12_tell_100 (by decide) rfl rfl (by decide) rfl fl_RX12_33 ?_
                refine n_iload dX12_tell_103 rfl ?_
                refine n_ald dX12_tell_105 (by decide) rfl (by omega) (by decide) (fun x14 => ?_)
                refine n_goto 111 dX12_tell_106 (by decide) ?_
                exact zs_Vlv (j111 (by omega) (by omega) v44_1 v44_2 v44_4 (nI m9) x14) (zs_mc 1 rfl (zs_mc 2 rfl (zs_mc 3 rfl (zs_mc 4 rfl (zs_mc 5 rfl (zs_mc 6 rfl (zs_mc 0 rfl zs_mn)))))))
      have j17 : c8 + 1 ≤ 31 → ∀ (n17 : Nat) (v17_1 : Int32) (v17_2 : Int32) (c17 : Nat), 0 ≤ c17 → c17 ≤ 10 → 10 - c17 < n17 → zs_V MX12_tell 17 [(0, .ref 80), (1, .int v17_1), (2, .int v17_2), (3, .int (nI c8)), (4, .int (nI c17))] [] zs_Ri := by
        intro hd8 n17
        induction n17 with
        | zero => intro v17_1 v17_2 c17 lc17 uc17 hn17; exact absurd hn17 (Nat.not_lt_zero _)
        | succ n17 ih17 =>
          intro v17_1 v17_2 c17 lc17 uc17 hn17
          refine n_iload dX12_tell_17 rfl ?_
          refine n_bipush (v := (nI 10)) dX12_tell_19 rfl ?_
          refine n_ic_geN 38 dX12_tell_21 (by decide) (by omega) (by omega) (fun h15 => ?_) (fun h15 => ?_)
          · refine n_iconst (v := (nI 0)) dX12_tell_38 rfl ?_
            refine n_istore (lv' := [(4, .int (nI 0)), (0, .ref 80), (1, .int v17_1), (2, .int v17_2), (3, .int (nI c8))]) dX12_tell_39 (by decide) rfl ?_
            refine n_iconst (v := (nI 0)) dX12_tell_41 rfl ?_
            refine n_istore (lv' := [(5, .int (nI 0)), (4, .int (nI 0)), (0, .ref 80), (1, .int v17_1), (2, .int v17_2), (3, .int (nI c8))]) dX12_tell_42 (by decide) rfl ?_
            exact zs_Vlv (j44 (by omega) _ v17_1 v17_2 (nI 0) 0 (by omega) (by omega) (Nat.lt_succ_self _)) (zs_mc 2 rfl (zs_mc 3 rfl (zs_mc 4 rfl (zs_mc 5 rfl (zs_mc 1 rfl (zs_mc 0 rfl zs_mn))))))
          · refine n_aload_n dX12_tell_24 rfl rfl ?_
            refine n_getR 16 87 (C := RX12) (T := TX12) (N := 19) dX12_tell_25 (by decide) rfl rfl (by decide) rfl fl_RX12_33 ?_
            refine n_iload dX12_tell_28 rfl ?_
            refine n_iconst (v := (nI 0)) dX12_tell_30 rfl ?_
            refine n_ast dX12_tell_31 (by decide) rfl (by omega) (by decide) rfl (zs_okN rfl (by decide) (by decide)) ?_
            refine n_iinc (v := (nI (c17 + 1))) (lv' := [(4, .int (nI (c17 + 1))), (0, .ref 80), (1, .int v17_1), (2, .int v17_2), (3, .int (nI c8))]) dX12_tell_32 rfl (nI_1 c17) (by decide) rfl ?_
            refine n_goto 17 dX12_tell_35 (by decide) ?_
            exact zs_Vlv (ih17 v17_1 v17_2 (c17 + 1) (by omega) (by omega) (by omega)) (zs_mc 1 rfl (zs_mc 2 rfl (zs_mc 3 rfl (zs_mc 4 rfl (zs_mc 0 rfl zs_mn)))))
      refine n_iload_n dX12_tell_8 rfl rfl ?_
      refine n_bipush (v := (nI 30)) dX12_tell_9 rfl ?_
      refine n_ic_gtN 160 dX12_tell_11 (by decide) (by omega) (by omega) (fun h16 => ?_) (fun h16 => ?_)
      · refine n_iload_n dX12_tell_160 rfl rfl ?_
        exact n_iret dX12_tell_161 rfl rfl ⟨_, rfl⟩
      · refine n_iconst (v := (nI 0)) dX12_tell_14 rfl ?_
        refine n_istore (lv' := [(4, .int (nI 0)), (0, .ref 80), (1, .int v8_1), (2, .int v8_2), (3, .int (nI c8))]) dX12_tell_15 (by decide) rfl ?_
        exact zs_Vlv (j17 (by omega) _ v8_1 v8_2 0 (by omega) (by omega) (Nat.lt_succ_self _)) (zs_mc 1 rfl (zs_mc 2 rfl (zs_mc 3 rfl (zs_mc 4 rfl (zs_mc 0 rfl zs_mn)))))
  refine n_iconst (v := (-1)) dX12_tell_0 rfl ?_
  refine n_istore_n (lv' := [(1, .int (-1)), (0, .ref 80)]) dX12_tell_1 rfl (by decide) rfl ?_
  refine n_sipush (v := (nI 999)) dX12_tell_2 rfl ?_
  refine n_istore_n (lv' := [(2, .int (nI 999)), (1, .int (-1)), (0, .ref 80)]) dX12_tell_5 rfl (by decide) rfl ?_
  refine n_iconst (v := (nI 1)) dX12_tell_6 rfl ?_
  refine n_istore_n (lv' := [(3, .int (nI 1)), (2, .int (nI 999)), (1, .int (-1)), (0, .ref 80)]) dX12_tell_7 rfl (by decide) rfl ?_
  exact zs_Vlv (j8 _ (-1) (nI 999) 1 (by omega) (by omega) (Nat.lt_succ_self _)) (zs_mc 3 rfl (zs_mc 2 rfl (zs_mc 1 rfl (zs_mc 0 rfl zs_mn))))
set_option maxRecDepth 100000 in
theorem y_X12_eyesThat (a1 : Int32) : zs_U MX12_eyesThat [.ref 80, .int a1] zs_Ri := by
  refine zs_Vof (by decide) (Nat.le_of_ble_eq_true rfl) ?_
  show zs_V MX12_eyesThat 0 [(0, .ref 80), (1, .int a1)] [] zs_Ri
  have j4 : ∀ (n4 : Nat) (v4_2 : Int32) (c4 : Int32), zs_mu c4 < n4 → zs_V MX12_eyesThat 4 [(0, .ref 80), (1, .int a1), (2, .int v4_2), (3, .int c4)] [] zs_Ri := by
    intro n4
    induction n4 with
    | zero => intro v4_2 c4 hn4; exact absurd hn4 (Nat.not_lt_zero _)
    | succ n4 ih4 =>
      intro v4_2 c4 hn4
      have j110 : zs_mu (c4 + Int32.ofInt 1) < n4 → ∀ (v110_2 : Int32) (v110_4 : Int32) (v110_5 : Int32) (s110_0 : Int32) (s110_1 : Int32), zs_V MX12_eyesThat 110 [(0, .ref 80), (1, .int a1), (2, .int v110_2), (3, .int c4), (4, .int v110_4), (5, .int v110_5)] [.int s110_0, .int s110_1] zs_Ri := by
        intro hd4 v110_2 v110_4 v110_5 s110_0 s110_1
        refine n_ior dX12_eyesThat_110 (fun x1 => ?_)
        refine n_istore_n (lv' := [(2, .int x1), (0, .ref 80), (1, .int a1), (3, .int c4), (4, .int v110_4), (5, .int v110_5)]) dX12_eyesThat_111 rfl (by decide) rfl ?_
        refine n_iinc (v := (c4 + Int32.ofInt 1)) (lv' := [(3, .int (c4 + Int32.ofInt 1)), (2, .int x1), (0, .ref 80), (1, .int a1), (4, .int v110_4), (5, .int v110_5)]) dX12_eyesThat_112 rfl rfl (by decide) rfl ?_
        refine n_goto 4 dX12_eyesThat_115 (by decide) ?_
        exact zs_Vlv (ih4 x1 (c4 + Int32.ofInt 1) hd4) (zs_mc 2 rfl (zs_mc 3 rfl (zs_mc 1 rfl (zs_mc 0 rfl zs_mn))))
      have j16 : zs_mu (c4 + Int32.ofInt 1) < n4 → ∀ (n16 : Nat) (v16_2 : Int32) (v16_4 : Int32) (c16 : Nat), 0 ≤ c16 → c16 ≤ 6 → 6 - c16 < n16 → zs_V MX12_eyesThat 16 [(0, .ref 80), (1, .int a1), (2, .int v16_2), (3, .int c4), (4, .int v16_4), (5, .int (nI c16))] [] zs_Ri := by
        intro hd4 n16
        induction n16 with
        | zero => intro v16_2 v16_4 c16 lc16 uc16 hn16; exact absurd hn16 (Nat.not_lt_zero _)
        | succ n16 ih16 =>
          intro v16_2 v16_4 c16 lc16 uc16 hn16
          have j89 : zs_mu (c4 + Int32.ofInt 1) < n4 → c16 + 1 ≤ 6 → ∀ (v89_2 : Int32) (v89_4 : Int32) (s89_0 : Int32), zs_V MX12_eyesThat 89 [(0, .ref 80), (1, .int a1), (2, .int v89_2), (3, .int c4), (4, .int v89_4), (5, .int (nI c16))] [.int s89_0] zs_Ri := by
            intro hd4 hd16 v89_2 v89_4 s89_0
            refine n_istore (lv' := [(4, .int s89_0), (0, .ref 80), (1, .int a1), (2, .int v89_2), (3, .int c4), (5, .int (nI c16))]) dX12_eyesThat_89 (by decide) rfl ?_
            refine n_iinc (v := (nI (c16 + 1))) (lv' := [(5, .int (nI (c16 + 1))), (4, .int s89_0), (0, .ref 80), (1, .int a1), (2, .int v89_2), (3, .int c4)]) dX12_eyesThat_91 rfl (nI_1 c16) (by decide) rfl ?_
            refine n_goto 16 dX12_eyesThat_94 (by decide) ?_
            exact zs_Vlv (ih16 v89_2 s89_0 (c16 + 1) (by omega) (by omega) (by omega)) (zs_mc 2 rfl (zs_mc 3 rfl (zs_mc 4 rfl (zs_mc 5 rfl (zs_mc 1 rfl (zs_mc 0 rfl zs_mn))))))
          have j88 : zs_mu (c4 + Int32.ofInt 1) < n4 → c16 + 1 ≤ 6 → ∀ (v88_2 : Int32) (v88_4 : Int32), zs_V MX12_eyesThat 88 [(0, .ref 80), (1, .int a1), (2, .int v88_2), (3, .int c4), (4, .int v88_4), (5, .int (nI c16))] [] zs_Ri := by
            intro hd4 hd16 v88_2 v88_4
            refine n_iconst (v := (nI 0)) dX12_eyesThat_88 rfl ?_
            exact j89 hd4 (by omega) v88_2 v88_4 (nI 0)
          have j84 : zs_mu (c4 + Int32.ofInt 1) < n4 → c16 + 1 ≤ 6 → ∀ (v84_2 : Int32) (v84_4 : Int32), zs_V MX12_eyesThat 84 [(0, .ref 80), (1, .int a1), (2, .int v84_2), (3, .int c4), (4, .int v84_4), (5, .int (nI c16))] [] zs_Ri := by
            intro hd4 hd16 v84_2 v84_4
            refine n_iconst (v := (nI 1)) dX12_eyesThat_84 rfl ?_
            refine n_goto 89 dX12_eyesThat_85 (by decide) ?_
            exact j89 hd4 (by omega) v84_2 v84_4 (nI 1)
          refine n_iload dX12_eyesThat_16 rfl ?_
          refine n_aload_n dX12_eyesThat_18 rfl rfl ?_
          refine n_getR 1 82 (C := RX12) (T := TX12) (N := 19) dX12_eyesThat_19 (by decide) rfl rfl (by decide) rfl fl_RX12_13 ?_
          refine n_bipush (v := (nI 21)) dX12_eyesThat_22 rfl ?_
          refine n_aldR (lo := 0) (up := 6) dX12_eyesThat_24 (by decide) rfl (by omega) (by decide) rfl (fun m2 hm2 km2 => ?_)
          refine n_ic_geN 97 dX12_eyesThat_25 (by decide) (by omega) (by omega) (fun h3 => ?_) (fun h3 => ?_)
          · refine n_iload_n dX12_eyesThat_97 rfl rfl ?_
            refine n_iload dX12_eyesThat_98 rfl ?_
            refine n_if_eq 109 dX12_eyesThat_100 (by decide) (fun h4 => ?_) (fun h4 => ?_)
            · refine n_iconst (v := (nI 0)) dX12_eyesThat_109 rfl ?_
              exact j110 hd4 v16_2 v16_4 (nI c16) (nI 0) v16_2
            · refine n_iconst (v := (nI 1)) dX12_eyesThat_103 rfl ?_
              refine n_iload_n dX12_eyesThat_104 rfl rfl ?_
              refine n_ishl dX12_eyesThat_105 (fun x5 => ?_)
              refine n_goto 110 dX12_eyesThat_106 (by decide) ?_
              exact j110 hd4 v16_2 v16_4 (nI c16) x5 v16_2
          · refine n_iload dX12_eyesThat_28 rfl ?_
            refine n_if_eq 88 dX12_eyesThat_30 (by decide) (fun h6 => ?_) (fun h6 => ?_)
            · exact j88 hd4 (by omega) v16_2 v16_4
            · refine n_aload_n dX12_eyesThat_33 rfl rfl ?_
              refine n_getR 1 82 (C := RX12) (T := TX12) (N := 19) dX12_eyesThat_34 (by decide) rfl rfl (by decide) rfl fl_RX12_13 ?_
              refine n_bipush (v := (nI 22)) dX12_eyesThat_37 rfl ?_
              refine n_iload dX12_eyesThat_39 rfl ?_
              refine n_iaddN dX12_eyesThat_41 ?_
              refine n_ald dX12_eyesThat_42 (by decide) rfl (by omega) (by decide) (fun x7 => ?_)
              refine n_iload_n dX12_eyesThat_43 rfl rfl ?_
              refine n_ic_ne 84 dX12_eyesThat_44 (by decide) (fun h8 => ?_) (fun h8 => ?_)
              · exact j84 hd4 (by omega) v16_2 v16_4
              · refine n_iload_n dX12_eyesThat_47 rfl rfl ?_
                refine n_aload_n dX12_eyesThat_48 rfl rfl ?_
                refine n_getR 1 82 (C := RX12) (T := TX12) (N := 19) dX12_eyesThat_49 (by decide) rfl rfl (by decide) rfl fl_RX12_13 ?_
                refine n_bipush (v := (nI 28)) dX12_eyesThat_52 rfl ?_
                refine n_iload dX12_eyesThat_54 rfl ?_
                refine n_iaddN dX12_eyesThat_56 ?_
                refine n_ald dX12_eyesThat_57 (by decide) rfl (by omega) (by decide) (fun x9 => ?_)
                refine n_aload_n dX12_eyesThat_58 rfl rfl ?_
                refine n_getR 1 82 (C := RX12) (T := TX12) (N := 19) dX12_eyesThat_59 (by decide) rfl rfl (by decide) rfl fl_RX12_13 ?_
                refine n_bipush (v := (nI 34)) dX12_eyesThat_62 rfl ?_
                refine n_iload dX12_eyesThat_64 rfl ?_
                refine n_iaddN dX12_eyesThat_66 ?_
                refine n_ald dX12_eyesThat_67 (by decide) rfl (by omega) (by decide) (fun x10 => ?_)
                refine n_callS [.int c4, .int x9, .int x10] [] (y_X12_looks c4 x9 x10) dX12_eyesThat_68 kk_X12_eyesThat_X12_looks ml_RX12_166 swX12_looks rfl rfl (Nat.le_of_ble_eq_true rfl) ?_
                rintro _ ⟨x11, rfl⟩
                refine n_aload_n dX12_eyesThat_71 rfl rfl ?_
                refine n_getR 1 82 (C := RX12) (T := TX12) (N := 19) dX12_eyesThat_72 (by decide) rfl rfl (by decide) rfl fl_RX12_13 ?_
                refine n_bipush (v := (nI 40)) dX12_eyesThat_75 rfl ?_
                refine n_iload dX12_eyesThat_77 rfl ?_
                refine n_iaddN dX12_eyesThat_79 ?_
                refine n_ald dX12_eyesThat_80 (by decide) rfl (by omega) (by decide) (fun x12 => ?_)
                refine n_ic_ne 88 dX12_eyesThat_81 (by decide) (fun h13 => ?_) (fun h13 => ?_)
                · exact j88 hd4 (by omega) v16_2 v16_4
                · exact j84 hd4 (by omega) v16_2 v16_4
      refine n_iload_n dX12_eyesThat_4 rfl rfl ?_
      refine n_bipush (v := (nI 6)) dX12_eyesThat_5 rfl ?_
      refine n_ic_ge 118 dX12_eyesThat_7 (by decide) (fun h14 => ?_) (fun h14 => ?_)
      · refine n_iload_n dX12_eyesThat_118 rfl rfl ?_
        exact n_iret dX12_eyesThat_119 rfl rfl ⟨_, rfl⟩
      · have hd4 := zs_muA h14 hn4
        refine n_iconst (v := (nI 1)) dX12_eyesThat_10 rfl ?_
        refine n_istore (lv' := [(4, .int (nI 1)), (0, .ref 80), (1, .int a1), (2, .int v4_2), (3, .int c4)]) dX12_eyesThat_11 (by decide) rfl ?_
        refine n_iconst (v := (nI 0)) dX12_eyesThat_13 rfl ?_
        refine n_istore (lv' := [(5, .int (nI 0)), (4, .int (nI 1)), (0, .ref 80), (1, .int a1), (2, .int v4_2), (3, .int c4)]) dX12_eyesThat_14 (by decide) rfl ?_
        exact zs_Vlv (j16 hd4 _ v4_2 (nI 1) 0 (by omega) (by omega) (Nat.lt_succ_self _)) (zs_mc 2 rfl (zs_mc 3 rfl (zs_mc 4 rfl (zs_mc 5 rfl (zs_mc 1 rfl (zs_mc 0 rfl zs_mn))))))
  refine n_iconst (v := (nI 0)) dX12_eyesThat_0 rfl ?_
  refine n_istore_n (lv' := [(2, .int (nI 0)), (0, .ref 80), (1, .int a1)]) dX12_eyesThat_1 rfl (by decide) rfl ?_
  refine n_iconst (v := (nI 0)) dX12_eyesThat_2 rfl ?_
  refine n_istore_n (lv' := [(3, .int (nI 0)), (2, .int (nI 0)), (0, .ref 80), (1, .int a1)]) dX12_eyesThat_3 rfl (by decide) rfl ?_
  exact zs_Vlv (j4 _ (nI 0) (nI 0) (Nat.lt_succ_self _)) (zs_mc 2 rfl (zs_mc 3 rfl (zs_mc 1 rfl (zs_mc 0 rfl zs_mn))))
set_option maxRecDepth 100000 in
theorem y_X12_is (a1 : Int32) : zs_U MX12_is [.ref 80, .int a1] zs_Ri := by
  refine zs_Vof (by decide) (Nat.le_of_ble_eq_true rfl) ?_
  show zs_V MX12_is 0 [(0, .ref 80), (1, .int a1)] [] zs_Ri
  refine n_aload_n dX12_is_0 rfl rfl ?_
  refine n_iload_n dX12_is_1 rfl rfl ?_
  refine n_callV (T := TX12) (NN := 19) [] (y_isEye a1) dX12_is_2 kk_X12_is_X12_isEye ml_RX12_185 mwX12_isEye ewX12_isEye (by decide) rfl rfl rfl rfl (Nat.le_of_ble_eq_true rfl) ?_
  rintro _ ⟨x1, rfl, bx1, fx1⟩
  refine n_if_eq 16 dX12_is_5 (by decide) (fun h2 => ?_) (fun h2 => ?_)
  · refine n_aload_n dX12_is_16 rfl rfl ?_
    refine n_callV (T := TX12) (NN := 19) [] (y_X12_bad) dX12_is_17 kk_X12_is_X12_bad ml_RX12_62 mwX12_bad ewX12_bad (by decide) rfl rfl rfl rfl (Nat.le_of_ble_eq_true rfl) ?_
    rintro _ ⟨x3, rfl⟩
    exact n_iret dX12_is_20 rfl rfl ⟨_, rfl⟩
  · obtain ⟨k4, uk4, rfl⟩ := fx1 h2
    refine n_aload_n dX12_is_8 rfl rfl ?_
    refine n_iload_n dX12_is_9 rfl rfl ?_
    refine n_callV (T := TX12) (NN := 19) [] (y_X12_eyesThat (nI k4)) dX12_is_10 kk_X12_is_X12_eyesThat ml_RX12_212 mwX12_eyesThat ewX12_eyesThat (by decide) rfl rfl rfl rfl (Nat.le_of_ble_eq_true rfl) ?_
    rintro _ ⟨x5, rfl⟩
    refine n_goto 20 dX12_is_13 (by decide) ?_
    exact n_iret dX12_is_20 rfl rfl ⟨_, rfl⟩
set_option maxRecDepth 100000 in
theorem y_X12_has (a1 : Int32) (a2 : Int32) : zs_U MX12_has [.int a1, .int a2] zs_Rb := by
  refine zs_Vof (by decide) (Nat.le_of_ble_eq_true rfl) ?_
  show zs_V MX12_has 0 [(0, .int a1), (1, .int a2)] [] zs_Rb
  refine n_iload_n dX12_has_0 rfl rfl ?_
  refine n_iload_n dX12_has_1 rfl rfl ?_
  refine n_ishr dX12_has_2 (fun x1 => ?_)
  refine n_iconst (v := (nI 1)) dX12_has_3 rfl ?_
  refine n_iand dX12_has_4 (fun x2 => ?_)
  refine n_iconst (v := (nI 1)) dX12_has_5 rfl ?_
  refine n_ic_ne 13 dX12_has_6 (by decide) (fun h3 => ?_) (fun h3 => ?_)
  · refine n_iconst (v := (nI 0)) dX12_has_13 rfl ?_
    exact n_iret dX12_has_14 rfl rfl ⟨_, rfl, rfl⟩
  · refine n_iconst (v := (nI 1)) dX12_has_9 rfl ?_
    refine n_goto 14 dX12_has_10 (by decide) ?_
    exact n_iret dX12_has_14 rfl rfl ⟨_, rfl, rfl⟩
set_option maxRecDepth 100000 in
theorem y_X12_look (a1 : Int32) : zs_U MX12_look [.ref 80, .int a1] zs_Ri := by
  refine zs_Vof (by decide) (Nat.le_of_ble_eq_true rfl) ?_
  show zs_V MX12_look 0 [(0, .ref 80), (1, .int a1)] [] zs_Ri
  refine n_aload_n dX12_look_0 rfl rfl ?_
  refine n_iload_n dX12_look_1 rfl rfl ?_
  refine n_callV (T := TX12) (NN := 19) [] (y_isEye a1) dX12_look_2 kk_X12_look_X12_isEye ml_RX12_185 mwX12_isEye ewX12_isEye (by decide) rfl rfl rfl rfl (Nat.le_of_ble_eq_true rfl) ?_
  rintro _ ⟨x1, rfl, bx1, fx1⟩
  refine n_if_ne 13 dX12_look_5 (by decide) (fun h2 => ?_) (fun h2 => ?_)
  · obtain ⟨k3, uk3, rfl⟩ := fx1 h2
    have j28 : ∀ (n28 : Nat) (v28_2 : Int32) (v28_3 : Int32) (v28_4 : Int32) (c28 : Int32), zs_mu c28 < n28 → zs_V MX12_look 28 [(0, .ref 80), (1, .int (nI k3)), (2, .int v28_2), (3, .int v28_3), (4, .int v28_4), (5, .int c28)] [] zs_Ri := by
      intro n28
      induction n28 with
      | zero => intro v28_2 v28_3 v28_4 c28 hn28; exact absurd hn28 (Nat.not_lt_zero _)
      | succ n28 ih28 =>
        intro v28_2 v28_3 v28_4 c28 hn28
        have j182 : zs_mu (c28 + Int32.ofInt 1) < n28 → ∀ (v182_2 : Int32) (v182_3 : Int32) (v182_4 : Int32) (v182_6 : Int32) (v182_7 : Int32) (s182_0 : Int32), zs_V MX12_look 182 [(0, .ref 80), (1, .int (nI k3)), (2, .int v182_2), (3, .int v182_3), (4, .int v182_4), (5, .int c28), (6, .int v182_6), (7, .int v182_7)] [.int s182_0] zs_Ri := by
          intro hd28 v182_2 v182_3 v182_4 v182_6 v182_7 s182_0
          refine n_istore (lv' := [(4, .int s182_0), (0, .ref 80), (1, .int (nI k3)), (2, .int v182_2), (3, .int v182_3), (5, .int c28), (6, .int v182_6), (7, .int v182_7)]) dX12_look_182 (by decide) rfl ?_
          refine n_iinc (v := (c28 + Int32.ofInt 1)) (lv' := [(5, .int (c28 + Int32.ofInt 1)), (4, .int s182_0), (0, .ref 80), (1, .int (nI k3)), (2, .int v182_2), (3, .int v182_3), (6, .int v182_6), (7, .int v182_7)]) dX12_look_184 rfl rfl (by decide) rfl ?_
          refine n_goto 28 dX12_look_187 (by decide) ?_
          exact zs_Vlv (ih28 v182_2 v182_3 s182_0 (c28 + Int32.ofInt 1) hd28) (zs_mc 2 rfl (zs_mc 3 rfl (zs_mc 4 rfl (zs_mc 5 rfl (zs_mc 1 rfl (zs_mc 0 rfl zs_mn))))))
        have j167 : zs_mu (c28 + Int32.ofInt 1) < n28 → ∀ (v167_2 : Int32) (v167_3 : Int32) (v167_4 : Int32) (v167_6 : Int32) (v167_7 : Int32) (s167_0 : Int32), zs_V MX12_look 167 [(0, .ref 80), (1, .int (nI k3)), (2, .int v167_2), (3, .int v167_3), (4, .int v167_4), (5, .int c28), (6, .int v167_6), (7, .int v167_7)] [.int s167_0] zs_Ri := by
          intro hd28 v167_2 v167_3 v167_4 v167_6 v167_7 s167_0
          refine n_istore_n (lv' := [(3, .int s167_0), (0, .ref 80), (1, .int (nI k3)), (2, .int v167_2), (4, .int v167_4), (5, .int c28), (6, .int v167_6), (7, .int v167_7)]) dX12_look_167 rfl (by decide) rfl ?_
          refine n_iload dX12_look_168 rfl ?_
          refine n_iload dX12_look_170 rfl ?_
          refine n_ic_ge 180 dX12_look_172 (by decide) (fun h4 => ?_) (fun h4 => ?_)
          · refine n_iload dX12_look_180 rfl ?_
            exact zs_Vlv (j182 hd28 v167_2 s167_0 v167_4 v167_6 v167_7 v167_4) (zs_mc 1 rfl (zs_mc 2 rfl (zs_mc 3 rfl (zs_mc 0 rfl (zs_mc 4 rfl (zs_mc 5 rfl (zs_mc 6 rfl (zs_mc 7 rfl zs_mn))))))))
          · refine n_iload dX12_look_175 rfl ?_
            refine n_goto 182 dX12_look_177 (by decide) ?_
            exact zs_Vlv (j182 hd28 v167_2 s167_0 v167_4 v167_6 v167_7 v167_6) (zs_mc 1 rfl (zs_mc 2 rfl (zs_mc 3 rfl (zs_mc 0 rfl (zs_mc 4 rfl (zs_mc 5 rfl (zs_mc 6 rfl (zs_mc 7 rfl zs_mn))))))))
        have j45 : zs_mu (c28 + Int32.ofInt 1) < n28 → ∀ (n45 : Nat) (v45_2 : Int32) (v45_3 : Int32) (v45_4 : Int32) (v45_6 : Int32) (c45 : Int32), zs_mu c45 < n45 → zs_V MX12_look 45 [(0, .ref 80), (1, .int (nI k3)), (2, .int v45_2), (3, .int v45_3), (4, .int v45_4), (5, .int c28), (6, .int v45_6), (7, .int c45)] [] zs_Ri := by
          intro hd28 n45
          induction n45 with
          | zero => intro v45_2 v45_3 v45_4 v45_6 c45 hn45; exact absurd hn45 (Nat.not_lt_zero _)
          | succ n45 ih45 =>
            intro v45_2 v45_3 v45_4 v45_6 c45 hn45
            have j146 : zs_mu (c28 + Int32.ofInt 1) < n28 → zs_mu (c45 + Int32.ofInt 1) < n45 → ∀ (v146_2 : Int32) (v146_3 : Int32) (v146_4 : Int32) (v146_6 : Int32) (v146_8 : Int32) (v146_9 : Int32) (s146_0 : Int32), zs_V MX12_look 146 [(0, .ref 80), (1, .int (nI k3)), (2, .int v146_2), (3, .int v146_3), (4, .int v146_4), (5, .int c28), (6, .int v146_6), (7, .int c45), (8, .int v146_8), (9, .int v146_9)] [.int s146_0] zs_Ri := by
              intro hd28 hd45 v146_2 v146_3 v146_4 v146_6 v146_8 v146_9 s146_0
              refine n_istore (lv' := [(6, .int s146_0), (0, .ref 80), (1, .int (nI k3)), (2, .int v146_2), (3, .int v146_3), (4, .int v146_4), (5, .int c28), (7, .int c45), (8, .int v146_8), (9, .int v146_9)]) dX12_look_146 (by decide) rfl ?_
              refine n_iinc (v := (c45 + Int32.ofInt 1)) (lv' := [(7, .int (c45 + Int32.ofInt 1)), (6, .int s146_0), (0, .ref 80), (1, .int (nI k3)), (2, .int v146_2), (3, .int v146_3), (4, .int v146_4), (5, .int c28), (8, .int v146_8), (9, .int v146_9)]) dX12_look_148 rfl rfl (by decide) rfl ?_
              refine n_goto 45 dX12_look_151 (by decide) ?_
              exact zs_Vlv (ih45 v146_2 v146_3 v146_4 s146_0 (c45 + Int32.ofInt 1) hd45) (zs_mc 2 rfl (zs_mc 3 rfl (zs_mc 4 rfl (zs_mc 5 rfl (zs_mc 6 rfl (zs_mc 7 rfl (zs_mc 1 rfl (zs_mc 0 rfl zs_mn))))))))
            have j58 : zs_mu (c28 + Int32.ofInt 1) < n28 → zs_mu (c45 + Int32.ofInt 1) < n45 → ∀ (n58 : Nat) (v58_2 : Int32) (v58_3 : Int32) (v58_4 : Int32) (v58_6 : Int32) (v58_8 : Int32) (c58 : Int32), zs_mu c58 < n58 → zs_V MX12_look 58 [(0, .ref 80), (1, .int (nI k3)), (2, .int v58_2), (3, .int v58_3), (4, .int v58_4), (5, .int c28), (6, .int v58_6), (7, .int c45), (8, .int v58_8), (9, .int c58)] [] zs_Ri := by
              intro hd28 hd45 n58
              induction n58 with
              | zero => intro v58_2 v58_3 v58_4 v58_6 v58_8 c58 hn58; exact absurd hn58 (Nat.not_lt_zero _)
              | succ n58 ih58 =>
                intro v58_2 v58_3 v58_4 v58_6 v58_8 c58 hn58
                have j123 : zs_mu (c28 + Int32.ofInt 1) < n28 → zs_mu (c45 + Int32.ofInt 1) < n45 → zs_mu (c58 + Int32.ofInt 1) < n58 → ∀ (v123_2 : Int32) (v123_3 : Int32) (v123_4 : Int32) (v123_6 : Int32) (v123_8 : Int32) (s123_0 : Int32) (s123_1 : Int32), zs_V MX12_look 123 [(0, .ref 80), (1, .int (nI k3)), (2, .int v123_2), (3, .int v123_3), (4, .int v123_4), (5, .int c28), (6, .int v123_6), (7, .int c45), (8, .int v123_8), (9, .int c58)] [.int s123_0, .int s123_1] zs_Ri := by
                  intro hd28 hd45 hd58 v123_2 v123_3 v123_4 v123_6 v123_8 s123_0 s123_1
                  refine n_iadd dX12_look_123 (fun x5 => ?_)
                  refine n_istore (lv' := [(8, .int x5), (0, .ref 80), (1, .int (nI k3)), (2, .int v123_2), (3, .int v123_3), (4, .int v123_4), (5, .int c28), (6, .int v123_6), (7, .int c45), (9, .int c58)]) dX12_look_124 (by decide) rfl ?_
                  refine n_iinc (v := (c58 + Int32.ofInt 1)) (lv' := [(9, .int (c58 + Int32.ofInt 1)), (8, .int x5), (0, .ref 80), (1, .int (nI k3)), (2, .int v123_2), (3, .int v123_3), (4, .int v123_4), (5, .int c28), (6, .int v123_6), (7, .int c45)]) dX12_look_126 rfl rfl (by decide) rfl ?_
                  refine n_goto 58 dX12_look_129 (by decide) ?_
                  exact zs_Vlv (ih58 v123_2 v123_3 v123_4 v123_6 x5 (c58 + Int32.ofInt 1) hd58) (zs_mc 2 rfl (zs_mc 3 rfl (zs_mc 4 rfl (zs_mc 5 rfl (zs_mc 6 rfl (zs_mc 7 rfl (zs_mc 8 rfl (zs_mc 9 rfl (zs_mc 1 rfl (zs_mc 0 rfl zs_mn))))))))))
                have j122 : zs_mu (c28 + Int32.ofInt 1) < n28 → zs_mu (c45 + Int32.ofInt 1) < n45 → zs_mu (c58 + Int32.ofInt 1) < n58 → ∀ (v122_2 : Int32) (v122_3 : Int32) (v122_4 : Int32) (v122_6 : Int32) (v122_8 : Int32) (s122_0 : Int32), zs_V MX12_look 122 [(0, .ref 80), (1, .int (nI k3)), (2, .int v122_2), (3, .int v122_3), (4, .int v122_4), (5, .int c28), (6, .int v122_6), (7, .int c45), (8, .int v122_8), (9, .int c58)] [.int s122_0] zs_Ri := by
                  intro hd28 hd45 hd58 v122_2 v122_3 v122_4 v122_6 v122_8 s122_0
                  refine n_iconst (v := (nI 0)) dX12_look_122 rfl ?_
                  exact j123 hd28 hd45 hd58 v122_2 v122_3 v122_4 v122_6 v122_8 (nI 0) s122_0
                refine n_iload dX12_look_58 rfl ?_
                refine n_bipush (v := (nI 6)) dX12_look_60 rfl ?_
                refine n_ic_ge 132 dX12_look_62 (by decide) (fun h6 => ?_) (fun h6 => ?_)
                · refine n_iload dX12_look_132 rfl ?_
                  refine n_iload dX12_look_134 rfl ?_
                  refine n_ic_le 144 dX12_look_136 (by decide) (fun h7 => ?_) (fun h7 => ?_)
                  · refine n_iload dX12_look_144 rfl ?_
                    exact j146 hd28 hd45 v58_2 v58_3 v58_4 v58_6 v58_8 c58 v58_6
                  · refine n_iload dX12_look_139 rfl ?_
                    refine n_goto 146 dX12_look_141 (by decide) ?_
                    exact j146 hd28 hd45 v58_2 v58_3 v58_4 v58_6 v58_8 c58 v58_8
                · have hd58 := zs_muA h6 hn58
                  refine n_iload dX12_look_65 rfl ?_
                  refine n_iload_n dX12_look_67 rfl rfl ?_
                  refine n_iload dX12_look_68 rfl ?_
                  refine n_callS [.int v58_2, .int c45] [.int v58_8] (y_X12_has v58_2 c45) dX12_look_70 kk_X12_look_X12_has ml_RX12_215 swX12_has rfl rfl (Nat.le_of_ble_eq_true rfl) ?_
                  rintro _ ⟨x8, rfl, bx8⟩
                  refine n_if_eq 122 dX12_look_73 (by decide) (fun h9 => ?_) (fun h9 => ?_)
                  · exact j122 hd28 hd45 hd58 v58_2 v58_3 v58_4 v58_6 v58_8 v58_8
                  · refine n_iload_n dX12_look_76 rfl rfl ?_
                    refine n_iload dX12_look_77 rfl ?_
                    refine n_callS [.int v58_2, .int c58] [.int v58_8] (y_X12_has v58_2 c58) dX12_look_79 kk_X12_look_X12_has ml_RX12_215 swX12_has rfl rfl (Nat.le_of_ble_eq_true rfl) ?_
                    rintro _ ⟨x10, rfl, bx10⟩
                    refine n_if_eq 122 dX12_look_82 (by decide) (fun h11 => ?_) (fun h11 => ?_)
                    · exact j122 hd28 hd45 hd58 v58_2 v58_3 v58_4 v58_6 v58_8 v58_8
                    · refine n_iload dX12_look_85 rfl ?_
                      refine n_iload dX12_look_87 rfl ?_
                      refine n_bipush (v := (nI 10)) dX12_look_89 rfl ?_
                      refine n_idiv dX12_look_91 (by decide) (fun x12 => ?_)
                      refine n_iload dX12_look_92 rfl ?_
                      refine n_bipush (v := (nI 10)) dX12_look_94 rfl ?_
                      refine n_irem dX12_look_96 (by decide) (fun x13 => ?_)
                      refine n_callS [.int c45, .int x12, .int x13] [.int v58_8] (y_X12_looks c45 x12 x13) dX12_look_97 kk_X12_look_X12_looks ml_RX12_166 swX12_looks rfl rfl (Nat.le_of_ble_eq_true rfl) ?_
                      rintro _ ⟨x14, rfl⟩
                      refine n_iload dX12_look_100 rfl ?_
                      refine n_iload dX12_look_102 rfl ?_
                      refine n_bipush (v := (nI 10)) dX12_look_104 rfl ?_
                      refine n_idiv dX12_look_106 (by decide) (fun x15 => ?_)
                      refine n_iload dX12_look_107 rfl ?_
                      refine n_bipush (v := (nI 10)) dX12_look_109 rfl ?_
                      refine n_irem dX12_look_111 (by decide) (fun x16 => ?_)
                      refine n_callS [.int c58, .int x15, .int x16] [.int x14, .int v58_8] (y_X12_looks c58 x15 x16) dX12_look_112 kk_X12_look_X12_looks ml_RX12_166 swX12_looks rfl rfl (Nat.le_of_ble_eq_true rfl) ?_
                      rintro _ ⟨x17, rfl⟩
                      refine n_ic_ne 122 dX12_look_115 (by decide) (fun h18 => ?_) (fun h18 => ?_)
                      · exact j122 hd28 hd45 hd58 v58_2 v58_3 v58_4 v58_6 v58_8 v58_8
                      · refine n_iconst (v := (nI 1)) dX12_look_118 rfl ?_
                        refine n_goto 123 dX12_look_119 (by decide) ?_
                        exact j123 hd28 hd45 hd58 v58_2 v58_3 v58_4 v58_6 v58_8 (nI 1) v58_8
            refine n_iload dX12_look_45 rfl ?_
            refine n_bipush (v := (nI 6)) dX12_look_47 rfl ?_
            refine n_ic_ge 154 dX12_look_49 (by decide) (fun h19 => ?_) (fun h19 => ?_)
            · refine n_iload dX12_look_154 rfl ?_
              refine n_iload dX12_look_156 rfl ?_
              refine n_ic_ge 166 dX12_look_158 (by decide) (fun h20 => ?_) (fun h20 => ?_)
              · refine n_iload_n dX12_look_166 rfl rfl ?_
                exact j167 hd28 v45_2 v45_3 v45_4 v45_6 c45 v45_3
              · refine n_iload dX12_look_161 rfl ?_
                refine n_goto 167 dX12_look_163 (by decide) ?_
                exact j167 hd28 v45_2 v45_3 v45_4 v45_6 c45 c28
            · have hd45 := zs_muA h19 hn45
              refine n_iconst (v := (nI 0)) dX12_look_52 rfl ?_
              refine n_istore (lv' := [(8, .int (nI 0)), (0, .ref 80), (1, .int (nI k3)), (2, .int v45_2), (3, .int v45_3), (4, .int v45_4), (5, .int c28), (6, .int v45_6), (7, .int c45)]) dX12_look_53 (by decide) rfl ?_
              refine n_iconst (v := (nI 0)) dX12_look_55 rfl ?_
              refine n_istore (lv' := [(9, .int (nI 0)), (8, .int (nI 0)), (0, .ref 80), (1, .int (nI k3)), (2, .int v45_2), (3, .int v45_3), (4, .int v45_4), (5, .int c28), (6, .int v45_6), (7, .int c45)]) dX12_look_56 (by decide) rfl ?_
              exact zs_Vlv (j58 hd28 hd45 _ v45_2 v45_3 v45_4 v45_6 (nI 0) (nI 0) (Nat.lt_succ_self _)) (zs_mc 2 rfl (zs_mc 3 rfl (zs_mc 4 rfl (zs_mc 5 rfl (zs_mc 6 rfl (zs_mc 7 rfl (zs_mc 8 rfl (zs_mc 9 rfl (zs_mc 1 rfl (zs_mc 0 rfl zs_mn))))))))))
        refine n_iload dX12_look_28 rfl ?_
        refine n_bipush (v := (nI 100)) dX12_look_30 rfl ?_
        refine n_ic_ge 190 dX12_look_32 (by decide) (fun h21 => ?_) (fun h21 => ?_)
        · refine n_iload_n dX12_look_190 rfl rfl ?_
          exact n_iret dX12_look_191 rfl rfl ⟨_, rfl⟩
        · have hd28 := zs_muA h21 hn28
          refine n_iload_n dX12_look_35 rfl rfl ?_
          refine n_if_le 190 dX12_look_36 (by decide) (fun h22 => ?_) (fun h22 => ?_)
          · refine n_iload_n dX12_look_190 rfl rfl ?_
            exact n_iret dX12_look_191 rfl rfl ⟨_, rfl⟩
          · refine n_iconst (v := (nI 0)) dX12_look_39 rfl ?_
            refine n_istore (lv' := [(6, .int (nI 0)), (0, .ref 80), (1, .int (nI k3)), (2, .int v28_2), (3, .int v28_3), (4, .int v28_4), (5, .int c28)]) dX12_look_40 (by decide) rfl ?_
            refine n_iconst (v := (nI 0)) dX12_look_42 rfl ?_
            refine n_istore (lv' := [(7, .int (nI 0)), (6, .int (nI 0)), (0, .ref 80), (1, .int (nI k3)), (2, .int v28_2), (3, .int v28_3), (4, .int v28_4), (5, .int c28)]) dX12_look_43 (by decide) rfl ?_
            exact zs_Vlv (j45 hd28 _ v28_2 v28_3 v28_4 (nI 0) (nI 0) (Nat.lt_succ_self _)) (zs_mc 2 rfl (zs_mc 3 rfl (zs_mc 4 rfl (zs_mc 5 rfl (zs_mc 6 rfl (zs_mc 7 rfl (zs_mc 1 rfl (zs_mc 0 rfl zs_mn))))))))
    refine n_aload_n dX12_look_13 rfl rfl ?_
    refine n_iload_n dX12_look_14 rfl rfl ?_
    refine n_callV (T := TX12) (NN := 19) [] (y_X12_eyesThat (nI k3)) dX12_look_15 kk_X12_look_X12_eyesThat ml_RX12_212 mwX12_eyesThat ewX12_eyesThat (by decide) rfl rfl rfl rfl (Nat.le_of_ble_eq_true rfl) ?_
    rintro _ ⟨x23, rfl⟩
    refine n_istore_n (lv' := [(2, .int x23), (0, .ref 80), (1, .int (nI k3))]) dX12_look_18 rfl (by decide) rfl ?_
    refine n_iconst (v := (-1)) dX12_look_19 rfl ?_
    refine n_istore_n (lv' := [(3, .int (-1)), (2, .int x23), (0, .ref 80), (1, .int (nI k3))]) dX12_look_20 rfl (by decide) rfl ?_
    refine n_bipush (v := (nI 99)) dX12_look_21 rfl ?_
    refine n_istore (lv' := [(4, .int (nI 99)), (3, .int (-1)), (2, .int x23), (0, .ref 80), (1, .int (nI k3))]) dX12_look_23 (by decide) rfl ?_
    refine n_iconst (v := (nI 0)) dX12_look_25 rfl ?_
    refine n_istore (lv' := [(5, .int (nI 0)), (4, .int (nI 99)), (3, .int (-1)), (2, .int x23), (0, .ref 80), (1, .int (nI k3))]) dX12_look_26 (by decide) rfl ?_
    exact zs_Vlv (j28 _ x23 (-1) (nI 99) (nI 0) (Nat.lt_succ_self _)) (zs_mc 4 rfl (zs_mc 5 rfl (zs_mc 3 rfl (zs_mc 2 rfl (zs_mc 1 rfl (zs_mc 0 rfl zs_mn))))))
  · refine n_aload_n dX12_look_8 rfl rfl ?_
    refine n_callV (T := TX12) (NN := 19) [] (y_X12_bad) dX12_look_9 kk_X12_look_X12_bad ml_RX12_62 mwX12_bad ewX12_bad (by decide) rfl rfl rfl rfl (Nat.le_of_ble_eq_true rfl) ?_
    rintro _ ⟨x24, rfl⟩
    exact n_iret dX12_look_12 rfl rfl ⟨_, rfl⟩
set_option maxRecDepth 100000 in
theorem y_X12_passes_1 (a1 : Int32) (a2 : Int32) (a3 : Int32) : zs_U MX12_passes [.int a1, .int a2, .int a3] zs_Ri := by
  refine zs_Vof (by decide) (Nat.le_of_ble_eq_true rfl) ?_
  show zs_V MX12_passes 0 [(0, .int a1), (1, .int a2), (2, .int a3)] [] zs_Ri
  have j79 : ∀ (v79_3 : Int32) (s79_0 : Int32), zs_V MX12_passes 79 [(0, .int a1), (1, .int a2), (2, .int a3), (3, .int v79_3)] [.int s79_0] zs_Ri := by
    intro v79_3 s79_0
    refine n_istore_n (lv' := [(3, .int s79_0), (0, .int a1), (1, .int a2), (2, .int a3)]) dX12_passes_79 rfl (by decide) rfl ?_
    refine n_iload_n dX12_passes_80 rfl rfl ?_
    refine n_iconst (v := (nI 5)) dX12_passes_81 rfl ?_
    refine n_ic_ne 94 dX12_passes_82 (by decide) (fun h1 => ?_) (fun h1 => ?_)
    · refine n_iload_n dX12_passes_94 rfl rfl ?_
      exact n_iret dX12_passes_95 rfl rfl ⟨_, rfl⟩
    · refine n_iload_n dX12_passes_85 rfl rfl ?_
      refine n_iconst (v := (nI 1)) dX12_passes_86 rfl ?_
      refine n_ic_ge 94 dX12_passes_87 (by decide) (fun h2 => ?_) (fun h2 => ?_)
      · refine n_iload_n dX12_passes_94 rfl rfl ?_
        exact n_iret dX12_passes_95 rfl rfl ⟨_, rfl⟩
      · refine n_iconst (v := (nI 1)) dX12_passes_90 rfl ?_
        refine n_goto 95 dX12_passes_91 (by decide) ?_
        exact n_iret dX12_passes_95 rfl rfl ⟨_, rfl⟩
  have j78 : ∀ (v78_3 : Int32), zs_V MX12_passes 78 [(0, .int a1), (1, .int a2), (2, .int a3), (3, .int v78_3)] [] zs_Ri := by
    intro v78_3
    refine n_iload_n dX12_passes_78 rfl rfl ?_
    exact j79 v78_3 v78_3
  have j60 : ∀ (v60_3 : Int32) (s60_0 : Int32) (s60_1 : Int32), zs_V MX12_passes 60 [(0, .int a1), (1, .int a2), (2, .int a3), (3, .int v60_3)] [.int s60_0, .int s60_1] zs_Ri := by
    intro v60_3 s60_0 s60_1
    refine n_iadd dX12_passes_60 (fun x3 => ?_)
    refine n_istore_n (lv' := [(3, .int x3), (0, .int a1), (1, .int a2), (2, .int a3)]) dX12_passes_61 rfl (by decide) rfl ?_
    refine n_iload_n dX12_passes_62 rfl rfl ?_
    refine n_iconst (v := (nI 4)) dX12_passes_63 rfl ?_
    refine n_ic_ne 78 dX12_passes_64 (by decide) (fun h4 => ?_) (fun h4 => ?_)
    · exact zs_Vlv (j78 x3) (zs_mc 1 rfl (zs_mc 2 rfl (zs_mc 3 rfl (zs_mc 0 rfl zs_mn))))
    · refine n_iload_n dX12_passes_67 rfl rfl ?_
      refine n_iconst (v := (nI 5)) dX12_passes_68 rfl ?_
      refine n_irem dX12_passes_69 (by decide) (fun x5 => ?_)
      refine n_iconst (v := (nI 4)) dX12_passes_70 rfl ?_
      refine n_ic_ne 78 dX12_passes_71 (by decide) (fun h6 => ?_) (fun h6 => ?_)
      · exact zs_Vlv (j78 x3) (zs_mc 1 rfl (zs_mc 2 rfl (zs_mc 3 rfl (zs_mc 0 rfl zs_mn))))
      · refine n_iconst (v := (nI 0)) dX12_passes_74 rfl ?_
        refine n_goto 79 dX12_passes_75 (by decide) ?_
        exact zs_Vlv (j79 x3 (nI 0)) (zs_mc 1 rfl (zs_mc 2 rfl (zs_mc 3 rfl (zs_mc 0 rfl zs_mn))))
  have j59 : ∀ (v59_3 : Int32) (s59_0 : Int32), zs_V MX12_passes 59 [(0, .int a1), (1, .int a2), (2, .int a3), (3, .int v59_3)] [.int s59_0] zs_Ri := by
    intro v59_3 s59_0
    refine n_iconst (v := (nI 0)) dX12_passes_59 rfl ?_
    exact j60 v59_3 (nI 0) s59_0
  have j41 : ∀ (v41_3 : Int32) (s41_0 : Int32) (s41_1 : Int32), zs_V MX12_passes 41 [(0, .int a1), (1, .int a2), (2, .int a3), (3, .int v41_3)] [.int s41_0, .int s41_1] zs_Ri := by
    intro v41_3 s41_0 s41_1
    refine n_iadd dX12_passes_41 (fun x7 => ?_)
    refine n_istore_n (lv' := [(3, .int x7), (0, .int a1), (1, .int a2), (2, .int a3)]) dX12_passes_42 rfl (by decide) rfl ?_
    refine n_iload_n dX12_passes_43 rfl rfl ?_
    refine n_iload_n dX12_passes_44 rfl rfl ?_
    refine n_iconst (v := (nI 3)) dX12_passes_45 rfl ?_
    refine n_ic_ne 59 dX12_passes_46 (by decide) (fun h8 => ?_) (fun h8 => ?_)
    · exact zs_Vlv (j59 x7 x7) (zs_mc 1 rfl (zs_mc 2 rfl (zs_mc 3 rfl (zs_mc 0 rfl zs_mn))))
    · refine n_iload_n dX12_passes_49 rfl rfl ?_
      refine n_iconst (v := (nI 4)) dX12_passes_50 rfl ?_
      refine n_irem dX12_passes_51 (by decide) (fun x9 => ?_)
      refine n_if_ne 59 dX12_passes_52 (by decide) (fun h10 => ?_) (fun h10 => ?_)
      · exact zs_Vlv (j59 x7 x7) (zs_mc 1 rfl (zs_mc 2 rfl (zs_mc 3 rfl (zs_mc 0 rfl zs_mn))))
      · refine n_iconst (v := (nI 1)) dX12_passes_55 rfl ?_
        refine n_goto 60 dX12_passes_56 (by decide) ?_
        exact zs_Vlv (j60 x7 (nI 1) x7) (zs_mc 1 rfl (zs_mc 2 rfl (zs_mc 3 rfl (zs_mc 0 rfl zs_mn))))
  have j40 : ∀ (v40_3 : Int32) (s40_0 : Int32), zs_V MX12_passes 40 [(0, .int a1), (1, .int a2), (2, .int a3), (3, .int v40_3)] [.int s40_0] zs_Ri := by
    intro v40_3 s40_0
    refine n_iconst (v := (nI 0)) dX12_passes_40 rfl ?_
    exact j41 v40_3 (nI 0) s40_0
  have j29 : ∀ (v29_3 : Int32) (s29_0 : Int32), zs_V MX12_passes 29 [(0, .int a1), (1, .int a2), (2, .int a3), (3, .int v29_3)] [.int s29_0] zs_Ri := by
    intro v29_3 s29_0
    refine n_iload_n dX12_passes_29 rfl rfl ?_
    refine n_iconst (v := (nI 2)) dX12_passes_30 rfl ?_
    refine n_irem dX12_passes_31 (by decide) (fun x11 => ?_)
    refine n_iconst (v := (nI 1)) dX12_passes_32 rfl ?_
    refine n_ic_ne 40 dX12_passes_33 (by decide) (fun h12 => ?_) (fun h12 => ?_)
    · exact j40 v29_3 s29_0
    · refine n_iconst (v := (nI 1)) dX12_passes_36 rfl ?_
      refine n_goto 41 dX12_passes_37 (by decide) ?_
      exact j41 v29_3 (nI 1) s29_0
  have j17 : ∀ (s17_0 : Int32), zs_V MX12_passes 17 [(0, .int a1), (1, .int a2), (2, .int a3)] [.int s17_0] zs_Ri := by
    intro s17_0
    refine n_istore_n (lv' := [(3, .int s17_0), (0, .int a1), (1, .int a2), (2, .int a3)]) dX12_passes_17 rfl (by decide) rfl ?_
    refine n_iload_n dX12_passes_18 rfl rfl ?_
    refine n_iload_n dX12_passes_19 rfl rfl ?_
    refine n_iconst (v := (nI 2)) dX12_passes_20 rfl ?_
    refine n_ic_eq 29 dX12_passes_21 (by decide) (fun h13 => ?_) (fun h13 => ?_)
    · exact zs_Vlv (j29 s17_0 s17_0) (zs_mc 1 rfl (zs_mc 2 rfl (zs_mc 3 rfl (zs_mc 0 rfl zs_mn))))
    · refine n_iload_n dX12_passes_24 rfl rfl ?_
      refine n_iconst (v := (nI 4)) dX12_passes_25 rfl ?_
      refine n_ic_ne 40 dX12_passes_26 (by decide) (fun h14 => ?_) (fun h14 => ?_)
      · exact zs_Vlv (j40 s17_0 s17_0) (zs_mc 1 rfl (zs_mc 2 rfl (zs_mc 3 rfl (zs_mc 0 rfl zs_mn))))
      · exact zs_Vlv (j29 s17_0 s17_0) (zs_mc 1 rfl (zs_mc 2 rfl (zs_mc 3 rfl (zs_mc 0 rfl zs_mn))))
  have j10 : zs_V MX12_passes 10 [(0, .int a1), (1, .int a2), (2, .int a3)] [] zs_Ri := by
    refine n_iconst (v := (nI 2)) dX12_passes_10 rfl ?_
    refine n_iload_n dX12_passes_11 rfl rfl ?_
    refine n_imul dX12_passes_12 (fun x15 => ?_)
    refine n_goto 17 dX12_passes_13 (by decide) ?_
    exact j17 x15
  refine n_iload_n dX12_passes_0 rfl rfl ?_
  refine n_iconst (v := (nI 1)) dX12_passes_1 rfl ?_
  refine n_ic_eq 10 dX12_passes_2 (by decide) (fun h16 => ?_) (fun h16 => ?_)
  · exact j10 
  · refine n_iload_n dX12_passes_5 rfl rfl ?_
    refine n_iconst (v := (nI 3)) dX12_passes_6 rfl ?_
    refine n_ic_ne 16 dX12_passes_7 (by decide) (fun h17 => ?_) (fun h17 => ?_)
    · refine n_iload_n dX12_passes_16 rfl rfl ?_
      exact j17 a2
    · exact j10 
set_option maxRecDepth 100000 in
theorem y_X12_kinds : zs_U MX12_kinds [.ref 80] zs_Ri := by
  refine zs_Vof (by decide) (Nat.le_of_ble_eq_true rfl) ?_
  show zs_V MX12_kinds 0 [(0, .ref 80)] [] zs_Ri
  have j4 : ∀ (n4 : Nat) (v4_1 : Int32) (c4 : Int32), zs_mu c4 < n4 → zs_V MX12_kinds 4 [(0, .ref 80), (1, .int v4_1), (2, .int c4)] [] zs_Ri := by
    intro n4
    induction n4 with
    | zero => intro v4_1 c4 hn4; exact absurd hn4 (Nat.not_lt_zero _)
    | succ n4 ih4 =>
      intro v4_1 c4 hn4
      have j92 : zs_mu (c4 + Int32.ofInt 1) < n4 → ∀ (v92_1 : Int32) (v92_3 : Int32) (v92_4 : Int32) (s92_0 : Int32) (s92_1 : Int32), zs_V MX12_kinds 92 [(0, .ref 80), (1, .int v92_1), (2, .int c4), (3, .int v92_3), (4, .int v92_4)] [.int s92_0, .int s92_1] zs_Ri := by
        intro hd4 v92_1 v92_3 v92_4 s92_0 s92_1
        refine n_ior dX12_kinds_92 (fun x1 => ?_)
        refine n_istore_n (lv' := [(1, .int x1), (0, .ref 80), (2, .int c4), (3, .int v92_3), (4, .int v92_4)]) dX12_kinds_93 rfl (by decide) rfl ?_
        refine n_iinc (v := (c4 + Int32.ofInt 1)) (lv' := [(2, .int (c4 + Int32.ofInt 1)), (1, .int x1), (0, .ref 80), (3, .int v92_3), (4, .int v92_4)]) dX12_kinds_94 rfl rfl (by decide) rfl ?_
        refine n_goto 4 dX12_kinds_97 (by decide) ?_
        exact zs_Vlv (ih4 x1 (c4 + Int32.ofInt 1) hd4) (zs_mc 2 rfl (zs_mc 1 rfl (zs_mc 0 rfl zs_mn)))
      have j15 : zs_mu (c4 + Int32.ofInt 1) < n4 → ∀ (n15 : Nat) (v15_1 : Int32) (v15_3 : Int32) (c15 : Nat), 0 ≤ c15 → c15 ≤ 6 → 6 - c15 < n15 → zs_V MX12_kinds 15 [(0, .ref 80), (1, .int v15_1), (2, .int c4), (3, .int v15_3), (4, .int (nI c15))] [] zs_Ri := by
        intro hd4 n15
        induction n15 with
        | zero => intro v15_1 v15_3 c15 lc15 uc15 hn15; exact absurd hn15 (Nat.not_lt_zero _)
        | succ n15 ih15 =>
          intro v15_1 v15_3 c15 lc15 uc15 hn15
          have j73 : zs_mu (c4 + Int32.ofInt 1) < n4 → c15 + 1 ≤ 6 → ∀ (v73_1 : Int32) (v73_3 : Int32) (s73_0 : Int32), zs_V MX12_kinds 73 [(0, .ref 80), (1, .int v73_1), (2, .int c4), (3, .int v73_3), (4, .int (nI c15))] [.int s73_0] zs_Ri := by
            intro hd4 hd15 v73_1 v73_3 s73_0
            refine n_istore_n (lv' := [(3, .int s73_0), (0, .ref 80), (1, .int v73_1), (2, .int c4), (4, .int (nI c15))]) dX12_kinds_73 rfl (by decide) rfl ?_
            refine n_iinc (v := (nI (c15 + 1))) (lv' := [(4, .int (nI (c15 + 1))), (3, .int s73_0), (0, .ref 80), (1, .int v73_1), (2, .int c4)]) dX12_kinds_74 rfl (nI_1 c15) (by decide) rfl ?_
            refine n_goto 15 dX12_kinds_77 (by decide) ?_
            exact zs_Vlv (ih15 v73_1 s73_0 (c15 + 1) (by omega) (by omega) (by omega)) (zs_mc 2 rfl (zs_mc 3 rfl (zs_mc 4 rfl (zs_mc 1 rfl (zs_mc 0 rfl zs_mn)))))
          have j72 : zs_mu (c4 + Int32.ofInt 1) < n4 → c15 + 1 ≤ 6 → ∀ (v72_1 : Int32) (v72_3 : Int32), zs_V MX12_kinds 72 [(0, .ref 80), (1, .int v72_1), (2, .int c4), (3, .int v72_3), (4, .int (nI c15))] [] zs_Ri := by
            intro hd4 hd15 v72_1 v72_3
            refine n_iconst (v := (nI 0)) dX12_kinds_72 rfl ?_
            exact j73 hd4 (by omega) v72_1 v72_3 (nI 0)
          refine n_iload dX12_kinds_15 rfl ?_
          refine n_aload_n dX12_kinds_17 rfl rfl ?_
          refine n_getR 1 82 (C := RX12) (T := TX12) (N := 19) dX12_kinds_18 (by decide) rfl rfl (by decide) rfl fl_RX12_13 ?_
          refine n_bipush (v := (nI 46)) dX12_kinds_21 rfl ?_
          refine n_aldR (lo := 0) (up := 6) dX12_kinds_23 (by decide) rfl (by omega) (by decide) rfl (fun m2 hm2 km2 => ?_)
          refine n_ic_geN 80 dX12_kinds_24 (by decide) (by omega) (by omega) (fun h3 => ?_) (fun h3 => ?_)
          · refine n_iload_n dX12_kinds_80 rfl rfl ?_
            refine n_iload_n dX12_kinds_81 rfl rfl ?_
            refine n_if_eq 91 dX12_kinds_82 (by decide) (fun h4 => ?_) (fun h4 => ?_)
            · refine n_iconst (v := (nI 0)) dX12_kinds_91 rfl ?_
              exact j92 hd4 v15_1 v15_3 (nI c15) (nI 0) v15_1
            · refine n_iconst (v := (nI 1)) dX12_kinds_85 rfl ?_
              refine n_iload_n dX12_kinds_86 rfl rfl ?_
              refine n_ishl dX12_kinds_87 (fun x5 => ?_)
              refine n_goto 92 dX12_kinds_88 (by decide) ?_
              exact j92 hd4 v15_1 v15_3 (nI c15) x5 v15_1
          · refine n_iload_n dX12_kinds_27 rfl rfl ?_
            refine n_if_eq 72 dX12_kinds_28 (by decide) (fun h6 => ?_) (fun h6 => ?_)
            · exact j72 hd4 (by omega) v15_1 v15_3
            · refine n_iload_n dX12_kinds_31 rfl rfl ?_
              refine n_aload_n dX12_kinds_32 rfl rfl ?_
              refine n_getR 1 82 (C := RX12) (T := TX12) (N := 19) dX12_kinds_33 (by decide) rfl rfl (by decide) rfl fl_RX12_13 ?_
              refine n_bipush (v := (nI 47)) dX12_kinds_36 rfl ?_
              refine n_iload dX12_kinds_38 rfl ?_
              refine n_iaddN dX12_kinds_40 ?_
              refine n_ald dX12_kinds_41 (by decide) rfl (by omega) (by decide) (fun x7 => ?_)
              refine n_aload_n dX12_kinds_42 rfl rfl ?_
              refine n_getR 1 82 (C := RX12) (T := TX12) (N := 19) dX12_kinds_43 (by decide) rfl rfl (by decide) rfl fl_RX12_13 ?_
              refine n_bipush (v := (nI 53)) dX12_kinds_46 rfl ?_
              refine n_iload dX12_kinds_48 rfl ?_
              refine n_iaddN dX12_kinds_50 ?_
              refine n_ald dX12_kinds_51 (by decide) rfl (by omega) (by decide) (fun x8 => ?_)
              refine n_callS [.int c4, .int x7, .int x8] [] (y_X12_passes_1 c4 x7 x8) dX12_kinds_52 kk_X12_kinds_X12_passes ml_RX12_162 swX12_passes rfl rfl (Nat.le_of_ble_eq_true rfl) ?_
              rintro _ ⟨x9, rfl⟩
              refine n_aload_n dX12_kinds_55 rfl rfl ?_
              refine n_getR 1 82 (C := RX12) (T := TX12) (N := 19) dX12_kinds_56 (by decide) rfl rfl (by decide) rfl fl_RX12_13 ?_
              refine n_bipush (v := (nI 59)) dX12_kinds_59 rfl ?_
              refine n_iload dX12_kinds_61 rfl ?_
              refine n_iaddN dX12_kinds_63 ?_
              refine n_ald dX12_kinds_64 (by decide) rfl (by omega) (by decide) (fun x10 => ?_)
              refine n_ic_ne 72 dX12_kinds_65 (by decide) (fun h11 => ?_) (fun h11 => ?_)
              · exact j72 hd4 (by omega) v15_1 v15_3
              · refine n_iconst (v := (nI 1)) dX12_kinds_68 rfl ?_
                refine n_goto 73 dX12_kinds_69 (by decide) ?_
                exact j73 hd4 (by omega) v15_1 v15_3 (nI 1)
      refine n_iload_n dX12_kinds_4 rfl rfl ?_
      refine n_bipush (v := (nI 6)) dX12_kinds_5 rfl ?_
      refine n_ic_ge 100 dX12_kinds_7 (by decide) (fun h12 => ?_) (fun h12 => ?_)
      · refine n_iload_n dX12_kinds_100 rfl rfl ?_
        exact n_iret dX12_kinds_101 rfl rfl ⟨_, rfl⟩
      · have hd4 := zs_muA h12 hn4
        refine n_iconst (v := (nI 1)) dX12_kinds_10 rfl ?_
        refine n_istore_n (lv' := [(3, .int (nI 1)), (0, .ref 80), (1, .int v4_1), (2, .int c4)]) dX12_kinds_11 rfl (by decide) rfl ?_
        refine n_iconst (v := (nI 0)) dX12_kinds_12 rfl ?_
        refine n_istore (lv' := [(4, .int (nI 0)), (3, .int (nI 1)), (0, .ref 80), (1, .int v4_1), (2, .int c4)]) dX12_kinds_13 (by decide) rfl ?_
        exact zs_Vlv (j15 hd4 _ v4_1 (nI 1) 0 (by omega) (by omega) (Nat.lt_succ_self _)) (zs_mc 2 rfl (zs_mc 3 rfl (zs_mc 4 rfl (zs_mc 1 rfl (zs_mc 0 rfl zs_mn)))))
  refine n_iconst (v := (nI 0)) dX12_kinds_0 rfl ?_
  refine n_istore_n (lv' := [(1, .int (nI 0)), (0, .ref 80)]) dX12_kinds_1 rfl (by decide) rfl ?_
  refine n_iconst (v := (nI 0)) dX12_kinds_2 rfl ?_
  refine n_istore_n (lv' := [(2, .int (nI 0)), (1, .int (nI 0)), (0, .ref 80)]) dX12_kinds_3 rfl (by decide) rfl ?_
  exact zs_Vlv (j4 _ (nI 0) (nI 0) (Nat.lt_succ_self _)) (zs_mc 2 rfl (zs_mc 1 rfl (zs_mc 0 rfl zs_mn)))
set_option maxRecDepth 100000 in
theorem y_X12_ask : zs_U MX12_ask [.ref 80] zs_Ri := by
  refine zs_Vof (by decide) (Nat.le_of_ble_eq_true rfl) ?_
  show zs_V MX12_ask 0 [(0, .ref 80)] [] zs_Ri
  have j13 : ∀ (n13 : Nat) (v13_1 : Int32) (v13_2 : Int32) (v13_3 : Int32) (c13 : Int32), zs_mu c13 < n13 → zs_V MX12_ask 13 [(0, .ref 80), (1, .int v13_1), (2, .int v13_2), (3, .int v13_3), (4, .int c13)] [] zs_Ri := by
    intro n13
    induction n13 with
    | zero => intro v13_1 v13_2 v13_3 c13 hn13; exact absurd hn13 (Nat.not_lt_zero _)
    | succ n13 ih13 =>
      intro v13_1 v13_2 v13_3 c13 hn13
      have j173 : zs_mu (c13 + Int32.ofInt 1) < n13 → ∀ (v173_1 : Int32) (v173_2 : Int32) (v173_3 : Int32) (v173_5 : Int32) (v173_6 : Int32) (v173_7 : Int32) (v173_8 : Int32) (s173_0 : Int32), zs_V MX12_ask 173 [(0, .ref 80), (1, .int v173_1), (2, .int v173_2), (3, .int v173_3), (4, .int c13), (5, .int v173_5), (6, .int v173_6), (7, .int v173_7), (8, .int v173_8)] [.int s173_0] zs_Ri := by
        intro hd13 v173_1 v173_2 v173_3 v173_5 v173_6 v173_7 v173_8 s173_0
        refine n_istore_n (lv' := [(3, .int s173_0), (0, .ref 80), (1, .int v173_1), (2, .int v173_2), (4, .int c13), (5, .int v173_5), (6, .int v173_6), (7, .int v173_7), (8, .int v173_8)]) dX12_ask_173 rfl (by decide) rfl ?_
        refine n_iinc (v := (c13 + Int32.ofInt 1)) (lv' := [(4, .int (c13 + Int32.ofInt 1)), (3, .int s173_0), (0, .ref 80), (1, .int v173_1), (2, .int v173_2), (5, .int v173_5), (6, .int v173_6), (7, .int v173_7), (8, .int v173_8)]) dX12_ask_174 rfl rfl (by decide) rfl ?_
        refine n_goto 13 dX12_ask_177 (by decide) ?_
        exact zs_Vlv (ih13 v173_1 v173_2 s173_0 (c13 + Int32.ofInt 1) hd13) (zs_mc 2 rfl (zs_mc 3 rfl (zs_mc 4 rfl (zs_mc 1 rfl (zs_mc 0 rfl zs_mn)))))
      have j160 : zs_mu (c13 + Int32.ofInt 1) < n13 → ∀ (v160_1 : Int32) (v160_2 : Int32) (v160_3 : Int32) (v160_5 : Int32) (v160_6 : Int32) (v160_7 : Int32) (v160_8 : Int32) (s160_0 : Int32), zs_V MX12_ask 160 [(0, .ref 80), (1, .int v160_1), (2, .int v160_2), (3, .int v160_3), (4, .int c13), (5, .int v160_5), (6, .int v160_6), (7, .int v160_7), (8, .int v160_8)] [.int s160_0] zs_Ri := by
        intro hd13 v160_1 v160_2 v160_3 v160_5 v160_6 v160_7 v160_8 s160_0
        refine n_istore_n (lv' := [(2, .int s160_0), (0, .ref 80), (1, .int v160_1), (3, .int v160_3), (4, .int c13), (5, .int v160_5), (6, .int v160_6), (7, .int v160_7), (8, .int v160_8)]) dX12_ask_160 rfl (by decide) rfl ?_
        refine n_iload dX12_ask_161 rfl ?_
        refine n_iload_n dX12_ask_163 rfl rfl ?_
        refine n_ic_ge 172 dX12_ask_164 (by decide) (fun h1 => ?_) (fun h1 => ?_)
        · refine n_iload_n dX12_ask_172 rfl rfl ?_
          exact zs_Vlv (j173 hd13 v160_1 s160_0 v160_3 v160_5 v160_6 v160_7 v160_8 v160_3) (zs_mc 1 rfl (zs_mc 2 rfl (zs_mc 0 rfl (zs_mc 3 rfl (zs_mc 4 rfl (zs_mc 5 rfl (zs_mc 6 rfl (zs_mc 7 rfl (zs_mc 8 rfl zs_mn)))))))))
        · refine n_iload dX12_ask_167 rfl ?_
          refine n_goto 173 dX12_ask_169 (by decide) ?_
          exact zs_Vlv (j173 hd13 v160_1 s160_0 v160_3 v160_5 v160_6 v160_7 v160_8 v160_7) (zs_mc 1 rfl (zs_mc 2 rfl (zs_mc 0 rfl (zs_mc 3 rfl (zs_mc 4 rfl (zs_mc 5 rfl (zs_mc 6 rfl (zs_mc 7 rfl (zs_mc 8 rfl zs_mn)))))))))
      have j45 : zs_mu (c13 + Int32.ofInt 1) < n13 → ∀ (n45 : Nat) (v45_1 : Int32) (v45_2 : Int32) (v45_3 : Int32) (v45_5 : Int32) (v45_6 : Int32) (v45_7 : Int32) (c45 : Int32), zs_mu c45 < n45 → zs_V MX12_ask 45 [(0, .ref 80), (1, .int v45_1), (2, .int v45_2), (3, .int v45_3), (4, .int c13), (5, .int v45_5), (6, .int v45_6), (7, .int v45_7), (8, .int c45)] [] zs_Ri := by
        intro hd13 n45
        induction n45 with
        | zero => intro v45_1 v45_2 v45_3 v45_5 v45_6 v45_7 c45 hn45; exact absurd hn45 (Nat.not_lt_zero _)
        | succ n45 ih45 =>
          intro v45_1 v45_2 v45_3 v45_5 v45_6 v45_7 c45 hn45
          have j134 : zs_mu (c13 + Int32.ofInt 1) < n13 → zs_mu (c45 + Int32.ofInt 1) < n45 → ∀ (v134_1 : Int32) (v134_2 : Int32) (v134_3 : Int32) (v134_5 : Int32) (v134_6 : Int32) (v134_7 : Int32) (v134_9 : Int32) (v134_10 : Int32) (s134_0 : Int32), zs_V MX12_ask 134 [(0, .ref 80), (1, .int v134_1), (2, .int v134_2), (3, .int v134_3), (4, .int c13), (5, .int v134_5), (6, .int v134_6), (7, .int v134_7), (8, .int c45), (9, .int v134_9), (10, .int v134_10)] [.int s134_0] zs_Ri := by
            intro hd13 hd45 v134_1 v134_2 v134_3 v134_5 v134_6 v134_7 v134_9 v134_10 s134_0
            refine n_istore (lv' := [(7, .int s134_0), (0, .ref 80), (1, .int v134_1), (2, .int v134_2), (3, .int v134_3), (4, .int c13), (5, .int v134_5), (6, .int v134_6), (8, .int c45), (9, .int v134_9), (10, .int v134_10)]) dX12_ask_134 (by decide) rfl ?_
            refine n_iinc (v := (c45 + Int32.ofInt 1)) (lv' := [(8, .int (c45 + Int32.ofInt 1)), (7, .int s134_0), (0, .ref 80), (1, .int v134_1), (2, .int v134_2), (3, .int v134_3), (4, .int c13), (5, .int v134_5), (6, .int v134_6), (9, .int v134_9), (10, .int v134_10)]) dX12_ask_136 rfl rfl (by decide) rfl ?_
            refine n_goto 45 dX12_ask_139 (by decide) ?_
            exact zs_Vlv (ih45 v134_1 v134_2 v134_3 v134_5 v134_6 s134_0 (c45 + Int32.ofInt 1) hd45) (zs_mc 2 rfl (zs_mc 3 rfl (zs_mc 4 rfl (zs_mc 5 rfl (zs_mc 6 rfl (zs_mc 7 rfl (zs_mc 8 rfl (zs_mc 1 rfl (zs_mc 0 rfl zs_mn)))))))))
          have j58 : zs_mu (c13 + Int32.ofInt 1) < n13 → zs_mu (c45 + Int32.ofInt 1) < n45 → ∀ (n58 : Nat) (v58_1 : Int32) (v58_2 : Int32) (v58_3 : Int32) (v58_5 : Int32) (v58_6 : Int32) (v58_7 : Int32) (v58_9 : Int32) (c58 : Int32), zs_mu c58 < n58 → zs_V MX12_ask 58 [(0, .ref 80), (1, .int v58_1), (2, .int v58_2), (3, .int v58_3), (4, .int c13), (5, .int v58_5), (6, .int v58_6), (7, .int v58_7), (8, .int c45), (9, .int v58_9), (10, .int c58)] [] zs_Ri := by
            intro hd13 hd45 n58
            induction n58 with
            | zero => intro v58_1 v58_2 v58_3 v58_5 v58_6 v58_7 v58_9 c58 hn58; exact absurd hn58 (Nat.not_lt_zero _)
            | succ n58 ih58 =>
              intro v58_1 v58_2 v58_3 v58_5 v58_6 v58_7 v58_9 c58 hn58
              have j111 : zs_mu (c13 + Int32.ofInt 1) < n13 → zs_mu (c45 + Int32.ofInt 1) < n45 → zs_mu (c58 + Int32.ofInt 1) < n58 → ∀ (v111_1 : Int32) (v111_2 : Int32) (v111_3 : Int32) (v111_5 : Int32) (v111_6 : Int32) (v111_7 : Int32) (v111_9 : Int32) (s111_0 : Int32) (s111_1 : Int32), zs_V MX12_ask 111 [(0, .ref 80), (1, .int v111_1), (2, .int v111_2), (3, .int v111_3), (4, .int c13), (5, .int v111_5), (6, .int v111_6), (7, .int v111_7), (8, .int c45), (9, .int v111_9), (10, .int c58)] [.int s111_0, .int s111_1] zs_Ri := by
                intro hd13 hd45 hd58 v111_1 v111_2 v111_3 v111_5 v111_6 v111_7 v111_9 s111_0 s111_1
                refine n_iadd dX12_ask_111 (fun x2 => ?_)
                refine n_istore (lv' := [(9, .int x2), (0, .ref 80), (1, .int v111_1), (2, .int v111_2), (3, .int v111_3), (4, .int c13), (5, .int v111_5), (6, .int v111_6), (7, .int v111_7), (8, .int c45), (10, .int c58)]) dX12_ask_112 (by decide) rfl ?_
                refine n_iinc (v := (c58 + Int32.ofInt 1)) (lv' := [(10, .int (c58 + Int32.ofInt 1)), (9, .int x2), (0, .ref 80), (1, .int v111_1), (2, .int v111_2), (3, .int v111_3), (4, .int c13), (5, .int v111_5), (6, .int v111_6), (7, .int v111_7), (8, .int c45)]) dX12_ask_114 rfl rfl (by decide) rfl ?_
                refine n_goto 58 dX12_ask_117 (by decide) ?_
                exact zs_Vlv (ih58 v111_1 v111_2 v111_3 v111_5 v111_6 v111_7 x2 (c58 + Int32.ofInt 1) hd58) (zs_mc 2 rfl (zs_mc 3 rfl (zs_mc 4 rfl (zs_mc 5 rfl (zs_mc 6 rfl (zs_mc 7 rfl (zs_mc 8 rfl (zs_mc 9 rfl (zs_mc 10 rfl (zs_mc 1 rfl (zs_mc 0 rfl zs_mn)))))))))))
              have j110 : zs_mu (c13 + Int32.ofInt 1) < n13 → zs_mu (c45 + Int32.ofInt 1) < n45 → zs_mu (c58 + Int32.ofInt 1) < n58 → ∀ (v110_1 : Int32) (v110_2 : Int32) (v110_3 : Int32) (v110_5 : Int32) (v110_6 : Int32) (v110_7 : Int32) (v110_9 : Int32) (s110_0 : Int32), zs_V MX12_ask 110 [(0, .ref 80), (1, .int v110_1), (2, .int v110_2), (3, .int v110_3), (4, .int c13), (5, .int v110_5), (6, .int v110_6), (7, .int v110_7), (8, .int c45), (9, .int v110_9), (10, .int c58)] [.int s110_0] zs_Ri := by
                intro hd13 hd45 hd58 v110_1 v110_2 v110_3 v110_5 v110_6 v110_7 v110_9 s110_0
                refine n_iconst (v := (nI 0)) dX12_ask_110 rfl ?_
                exact j111 hd13 hd45 hd58 v110_1 v110_2 v110_3 v110_5 v110_6 v110_7 v110_9 (nI 0) s110_0
              refine n_iload dX12_ask_58 rfl ?_
              refine n_bipush (v := (nI 6)) dX12_ask_60 rfl ?_
              refine n_ic_ge 120 dX12_ask_62 (by decide) (fun h3 => ?_) (fun h3 => ?_)
              · refine n_iload dX12_ask_120 rfl ?_
                refine n_iload dX12_ask_122 rfl ?_
                refine n_ic_le 132 dX12_ask_124 (by decide) (fun h4 => ?_) (fun h4 => ?_)
                · refine n_iload dX12_ask_132 rfl ?_
                  exact j134 hd13 hd45 v58_1 v58_2 v58_3 v58_5 v58_6 v58_7 v58_9 c58 v58_7
                · refine n_iload dX12_ask_127 rfl ?_
                  refine n_goto 134 dX12_ask_129 (by decide) ?_
                  exact j134 hd13 hd45 v58_1 v58_2 v58_3 v58_5 v58_6 v58_7 v58_9 c58 v58_9
              · have hd58 := zs_muA h3 hn58
                refine n_iload dX12_ask_65 rfl ?_
                refine n_iload_n dX12_ask_67 rfl rfl ?_
                refine n_iload dX12_ask_68 rfl ?_
                refine n_callS [.int v58_1, .int c45] [.int v58_9] (y_X12_has v58_1 c45) dX12_ask_70 kk_X12_ask_X12_has ml_RX12_215 swX12_has rfl rfl (Nat.le_of_ble_eq_true rfl) ?_
                rintro _ ⟨x5, rfl, bx5⟩
                refine n_if_eq 110 dX12_ask_73 (by decide) (fun h6 => ?_) (fun h6 => ?_)
                · exact j110 hd13 hd45 hd58 v58_1 v58_2 v58_3 v58_5 v58_6 v58_7 v58_9 v58_9
                · refine n_iload_n dX12_ask_76 rfl rfl ?_
                  refine n_iload dX12_ask_77 rfl ?_
                  refine n_callS [.int v58_1, .int c58] [.int v58_9] (y_X12_has v58_1 c58) dX12_ask_79 kk_X12_ask_X12_has ml_RX12_215 swX12_has rfl rfl (Nat.le_of_ble_eq_true rfl) ?_
                  rintro _ ⟨x7, rfl, bx7⟩
                  refine n_if_eq 110 dX12_ask_82 (by decide) (fun h8 => ?_) (fun h8 => ?_)
                  · exact j110 hd13 hd45 hd58 v58_1 v58_2 v58_3 v58_5 v58_6 v58_7 v58_9 v58_9
                  · refine n_iload dX12_ask_85 rfl ?_
                    refine n_iload dX12_ask_87 rfl ?_
                    refine n_iload dX12_ask_89 rfl ?_
                    refine n_callS [.int c45, .int v58_5, .int v58_6] [.int v58_9] (y_X12_passes_1 c45 v58_5 v58_6) dX12_ask_91 kk_X12_ask_X12_passes ml_RX12_162 swX12_passes rfl rfl (Nat.le_of_ble_eq_true rfl) ?_
                    rintro _ ⟨x9, rfl⟩
                    refine n_iload dX12_ask_94 rfl ?_
                    refine n_iload dX12_ask_96 rfl ?_
                    refine n_iload dX12_ask_98 rfl ?_
                    refine n_callS [.int c58, .int v58_5, .int v58_6] [.int x9, .int v58_9] (y_X12_passes_1 c58 v58_5 v58_6) dX12_ask_100 kk_X12_ask_X12_passes ml_RX12_162 swX12_passes rfl rfl (Nat.le_of_ble_eq_true rfl) ?_
                    rintro _ ⟨x10, rfl⟩
                    refine n_ic_ne 110 dX12_ask_103 (by decide) (fun h11 => ?_) (fun h11 => ?_)
                    · exact j110 hd13 hd45 hd58 v58_1 v58_2 v58_3 v58_5 v58_6 v58_7 v58_9 v58_9
                    · refine n_iconst (v := (nI 1)) dX12_ask_106 rfl ?_
                      refine n_goto 111 dX12_ask_107 (by decide) ?_
                      exact j111 hd13 hd45 hd58 v58_1 v58_2 v58_3 v58_5 v58_6 v58_7 v58_9 (nI 1) v58_9
          refine n_iload dX12_ask_45 rfl ?_
          refine n_bipush (v := (nI 6)) dX12_ask_47 rfl ?_
          refine n_ic_ge 142 dX12_ask_49 (by decide) (fun h12 => ?_) (fun h12 => ?_)
          · refine n_iload dX12_ask_142 rfl ?_
            refine n_iload_n dX12_ask_144 rfl rfl ?_
            refine n_ic_ge 159 dX12_ask_145 (by decide) (fun h13 => ?_) (fun h13 => ?_)
            · refine n_iload_n dX12_ask_159 rfl rfl ?_
              exact j160 hd13 v45_1 v45_2 v45_3 v45_5 v45_6 v45_7 c45 v45_2
            · refine n_bipush (v := (nI 100)) dX12_ask_148 rfl ?_
              refine n_iload dX12_ask_150 rfl ?_
              refine n_imul dX12_ask_152 (fun x14 => ?_)
              refine n_iload dX12_ask_153 rfl ?_
              refine n_iadd dX12_ask_155 (fun x15 => ?_)
              refine n_goto 160 dX12_ask_156 (by decide) ?_
              exact j160 hd13 v45_1 v45_2 v45_3 v45_5 v45_6 v45_7 c45 x15
          · have hd45 := zs_muA h12 hn45
            refine n_iconst (v := (nI 0)) dX12_ask_52 rfl ?_
            refine n_istore (lv' := [(9, .int (nI 0)), (0, .ref 80), (1, .int v45_1), (2, .int v45_2), (3, .int v45_3), (4, .int c13), (5, .int v45_5), (6, .int v45_6), (7, .int v45_7), (8, .int c45)]) dX12_ask_53 (by decide) rfl ?_
            refine n_iconst (v := (nI 0)) dX12_ask_55 rfl ?_
            refine n_istore (lv' := [(10, .int (nI 0)), (9, .int (nI 0)), (0, .ref 80), (1, .int v45_1), (2, .int v45_2), (3, .int v45_3), (4, .int c13), (5, .int v45_5), (6, .int v45_6), (7, .int v45_7), (8, .int c45)]) dX12_ask_56 (by decide) rfl ?_
            exact zs_Vlv (j58 hd13 hd45 _ v45_1 v45_2 v45_3 v45_5 v45_6 v45_7 (nI 0) (nI 0) (Nat.lt_succ_self _)) (zs_mc 2 rfl (zs_mc 3 rfl (zs_mc 4 rfl (zs_mc 5 rfl (zs_mc 6 rfl (zs_mc 7 rfl (zs_mc 8 rfl (zs_mc 9 rfl (zs_mc 10 rfl (zs_mc 1 rfl (zs_mc 0 rfl zs_mn)))))))))))
      refine n_iload dX12_ask_13 rfl ?_
      refine n_sipush (v := (nI 240)) dX12_ask_15 rfl ?_
      refine n_ic_ge 180 dX12_ask_18 (by decide) (fun h16 => ?_) (fun h16 => ?_)
      · refine n_iload_n dX12_ask_180 rfl rfl ?_
        exact n_iret dX12_ask_181 rfl rfl ⟨_, rfl⟩
      · have hd13 := zs_muA h16 hn13
        refine n_iload_n dX12_ask_21 rfl rfl ?_
        refine n_if_le 180 dX12_ask_22 (by decide) (fun h17 => ?_) (fun h17 => ?_)
        · refine n_iload_n dX12_ask_180 rfl rfl ?_
          exact n_iret dX12_ask_181 rfl rfl ⟨_, rfl⟩
        · refine n_iload dX12_ask_25 rfl ?_
          refine n_bipush (v := (nI 20)) dX12_ask_27 rfl ?_
          refine n_idiv dX12_ask_29 (by decide) (fun x18 => ?_)
          refine n_istore (lv' := [(5, .int x18), (0, .ref 80), (1, .int v13_1), (2, .int v13_2), (3, .int v13_3), (4, .int c13)]) dX12_ask_30 (by decide) rfl ?_
          refine n_iload dX12_ask_32 rfl ?_
          refine n_bipush (v := (nI 20)) dX12_ask_34 rfl ?_
          refine n_irem dX12_ask_36 (by decide) (fun x19 => ?_)
          refine n_istore (lv' := [(6, .int x19), (5, .int x18), (0, .ref 80), (1, .int v13_1), (2, .int v13_2), (3, .int v13_3), (4, .int c13)]) dX12_ask_37 (by decide) rfl ?_
          refine n_iconst (v := (nI 0)) dX12_ask_39 rfl ?_
          refine n_istore (lv' := [(7, .int (nI 0)), (6, .int x19), (5, .int x18), (0, .ref 80), (1, .int v13_1), (2, .int v13_2), (3, .int v13_3), (4, .int c13)]) dX12_ask_40 (by decide) rfl ?_
          refine n_iconst (v := (nI 0)) dX12_ask_42 rfl ?_
          refine n_istore (lv' := [(8, .int (nI 0)), (7, .int (nI 0)), (6, .int x19), (5, .int x18), (0, .ref 80), (1, .int v13_1), (2, .int v13_2), (3, .int v13_3), (4, .int c13)]) dX12_ask_43 (by decide) rfl ?_
          exact zs_Vlv (j45 hd13 _ v13_1 v13_2 v13_3 x18 x19 (nI 0) (nI 0) (Nat.lt_succ_self _)) (zs_mc 4 rfl (zs_mc 5 rfl (zs_mc 6 rfl (zs_mc 7 rfl (zs_mc 8 rfl (zs_mc 3 rfl (zs_mc 2 rfl (zs_mc 1 rfl (zs_mc 0 rfl zs_mn)))))))))
  refine n_aload_n dX12_ask_0 rfl rfl ?_
  refine n_callV (T := TX12) (NN := 19) [] (y_X12_kinds) dX12_ask_1 kk_X12_ask_X12_kinds ml_RX12_219 mwX12_kinds ewX12_kinds (by decide) rfl rfl rfl rfl (Nat.le_of_ble_eq_true rfl) ?_
  rintro _ ⟨x20, rfl⟩
  refine n_istore_n (lv' := [(1, .int x20), (0, .ref 80)]) dX12_ask_4 rfl (by decide) rfl ?_
  refine n_iconst (v := (-1)) dX12_ask_5 rfl ?_
  refine n_istore_n (lv' := [(2, .int (-1)), (1, .int x20), (0, .ref 80)]) dX12_ask_6 rfl (by decide) rfl ?_
  refine n_bipush (v := (nI 99)) dX12_ask_7 rfl ?_
  refine n_istore_n (lv' := [(3, .int (nI 99)), (2, .int (-1)), (1, .int x20), (0, .ref 80)]) dX12_ask_9 rfl (by decide) rfl ?_
  refine n_iconst (v := (nI 0)) dX12_ask_10 rfl ?_
  refine n_istore (lv' := [(4, .int (nI 0)), (3, .int (nI 99)), (2, .int (-1)), (1, .int x20), (0, .ref 80)]) dX12_ask_11 (by decide) rfl ?_
  exact zs_Vlv (j13 _ x20 (-1) (nI 99) (nI 0) (Nat.lt_succ_self _)) (zs_mc 4 rfl (zs_mc 3 rfl (zs_mc 2 rfl (zs_mc 1 rfl (zs_mc 0 rfl zs_mn)))))
set_option maxRecDepth 100000 in
theorem y_X12_rests (a1 : Nat) (la1 : 0 ≤ a1) (ua1 : a1 ≤ 3) (a2 : Nat) (la2 : 0 ≤ a2) (ua2 : a2 ≤ 3) : zs_U MX12_rests [.ref 80, .int (nI a1), .int (nI a2)] zs_Rb := by
  refine zs_Vof (by decide) (Nat.le_of_ble_eq_true rfl) ?_
  show zs_V MX12_rests 0 [(0, .ref 80), (1, .int (nI a1)), (2, .int (nI a2))] [] zs_Rb
  have j5 : ∀ (n5 : Nat) (v5_3 : Nat) (c5 : Nat), 0 ≤ v5_3 → v5_3 ≤ 1 → 0 ≤ c5 → c5 ≤ 4 → 4 - c5 < n5 → zs_V MX12_rests 5 [(0, .ref 80), (1, .int (nI a1)), (2, .int (nI a2)), (3, .int (nI v5_3)), (4, .int (nI c5))] [] zs_Rb := by
    intro n5
    induction n5 with
    | zero => intro v5_3 c5 lv5_3 uv5_3 lc5 uc5 hn5; exact absurd hn5 (Nat.not_lt_zero _)
    | succ n5 ih5 =>
      intro v5_3 c5 lv5_3 uv5_3 lc5 uc5 hn5
      have j68 : c5 + 1 ≤ 4 → ∀ (v68_3 : Nat) (s68_0 : Nat), 0 ≤ v68_3 → v68_3 ≤ 1 → 0 ≤ s68_0 → s68_0 ≤ 1 → zs_V MX12_rests 68 [(0, .ref 80), (1, .int (nI a1)), (2, .int (nI a2)), (3, .int (nI v68_3)), (4, .int (nI c5))] [.int (nI s68_0)] zs_Rb := by
        intro hd5 v68_3 s68_0 lv68_3 uv68_3 ls68_0 us68_0
        refine n_istore_n (lv' := [(3, .int (nI s68_0)), (0, .ref 80), (1, .int (nI a1)), (2, .int (nI a2)), (4, .int (nI c5))]) dX12_rests_68 rfl (by decide) rfl ?_
        refine n_iinc (v := (nI (c5 + 1))) (lv' := [(4, .int (nI (c5 + 1))), (3, .int (nI s68_0)), (0, .ref 80), (1, .int (nI a1)), (2, .int (nI a2))]) dX12_rests_69 rfl (nI_1 c5) (by decide) rfl ?_
        refine n_goto 5 dX12_rests_72 (by decide) ?_
        exact zs_Vlv (ih5 s68_0 (c5 + 1) (by omega) (by omega) (by omega) (by omega) (by omega)) (zs_mc 2 rfl (zs_mc 3 rfl (zs_mc 4 rfl (zs_mc 1 rfl (zs_mc 0 rfl zs_mn)))))
      have j67 : c5 + 1 ≤ 4 → ∀ (v67_3 : Nat), 0 ≤ v67_3 → v67_3 ≤ 1 → zs_V MX12_rests 67 [(0, .ref 80), (1, .int (nI a1)), (2, .int (nI a2)), (3, .int (nI v67_3)), (4, .int (nI c5))] [] zs_Rb := by
        intro hd5 v67_3 lv67_3 uv67_3
        refine n_iconst (v := (nI 0)) dX12_rests_67 rfl ?_
        exact j68 (by omega) v67_3 0 (by omega) (by omega) (by omega) (by omega)
      refine n_iload dX12_rests_5 rfl ?_
      refine n_iconst (v := (nI 4)) dX12_rests_7 rfl ?_
      refine n_ic_geN 75 dX12_rests_8 (by decide) (by omega) (by omega) (fun h1 => ?_) (fun h1 => ?_)
      · refine n_iload_n dX12_rests_75 rfl rfl ?_
        exact n_iret dX12_rests_76 rfl (zs_nb (by omega)) ⟨_, rfl, (zs_nb (by omega))⟩
      · refine n_iload_n dX12_rests_11 rfl rfl ?_
        refine n_if_eqN 67 dX12_rests_12 (by decide) (by omega) (fun h2 => ?_) (fun h2 => ?_)
        · exact j67 (by omega) v5_3 (by omega) (by omega)
        · refine n_aload_n dX12_rests_15 rfl rfl ?_
          refine n_getR 17 88 (C := RX12) (T := TX12) (N := 19) dX12_rests_16 (by decide) rfl rfl (by decide) rfl fl_RX12_36 ?_
          refine n_iconst (v := (nI 4)) dX12_rests_19 rfl ?_
          refine n_iload dX12_rests_20 rfl ?_
          refine n_imulN dX12_rests_22 ?_
          refine n_iload_n dX12_rests_23 rfl rfl ?_
          refine n_iaddN dX12_rests_24 ?_
          refine n_ald dX12_rests_25 (by decide) rfl (by omega) (by decide) (fun x3 => ?_)
          refine n_aload_n dX12_rests_26 rfl rfl ?_
          refine n_getR 17 88 (C := RX12) (T := TX12) (N := 19) dX12_rests_27 (by decide) rfl rfl (by decide) rfl fl_RX12_36 ?_
          refine n_iconst (v := (nI 4)) dX12_rests_30 rfl ?_
          refine n_iload_n dX12_rests_31 rfl rfl ?_
          refine n_imulN dX12_rests_32 ?_
          refine n_iload_n dX12_rests_33 rfl rfl ?_
          refine n_iaddN dX12_rests_34 ?_
          refine n_ald dX12_rests_35 (by decide) rfl (by omega) (by decide) (fun x4 => ?_)
          refine n_ic_gt 67 dX12_rests_36 (by decide) (fun h5 => ?_) (fun h5 => ?_)
          · exact j67 (by omega) v5_3 (by omega) (by omega)
          · refine n_aload_n dX12_rests_39 rfl rfl ?_
            refine n_getR 18 89 (C := RX12) (T := TX12) (N := 19) dX12_rests_40 (by decide) rfl rfl (by decide) rfl fl_RX12_39 ?_
            refine n_iconst (v := (nI 4)) dX12_rests_43 rfl ?_
            refine n_iload_n dX12_rests_44 rfl rfl ?_
            refine n_imulN dX12_rests_45 ?_
            refine n_iload dX12_rests_46 rfl ?_
            refine n_iaddN dX12_rests_48 ?_
            refine n_ald dX12_rests_49 (by decide) rfl (by omega) (by decide) (fun x6 => ?_)
            refine n_aload_n dX12_rests_50 rfl rfl ?_
            refine n_getR 18 89 (C := RX12) (T := TX12) (N := 19) dX12_rests_51 (by decide) rfl rfl (by decide) rfl fl_RX12_39 ?_
            refine n_iconst (v := (nI 4)) dX12_rests_54 rfl ?_
            refine n_iload_n dX12_rests_55 rfl rfl ?_
            refine n_imulN dX12_rests_56 ?_
            refine n_iload_n dX12_rests_57 rfl rfl ?_
            refine n_iaddN dX12_rests_58 ?_
            refine n_ald dX12_rests_59 (by decide) rfl (by omega) (by decide) (fun x7 => ?_)
            refine n_ic_gt 67 dX12_rests_60 (by decide) (fun h8 => ?_) (fun h8 => ?_)
            · exact j67 (by omega) v5_3 (by omega) (by omega)
            · refine n_iconst (v := (nI 1)) dX12_rests_63 rfl ?_
              refine n_goto 68 dX12_rests_64 (by decide) ?_
              exact j68 (by omega) v5_3 1 (by omega) (by omega) (by omega) (by omega)
  refine n_iconst (v := (nI 1)) dX12_rests_0 rfl ?_
  refine n_istore_n (lv' := [(3, .int (nI 1)), (0, .ref 80), (1, .int (nI a1)), (2, .int (nI a2))]) dX12_rests_1 rfl (by decide) rfl ?_
  refine n_iconst (v := (nI 0)) dX12_rests_2 rfl ?_
  refine n_istore (lv' := [(4, .int (nI 0)), (3, .int (nI 1)), (0, .ref 80), (1, .int (nI a1)), (2, .int (nI a2))]) dX12_rests_3 (by decide) rfl ?_
  exact zs_Vlv (j5 _ 1 0 (by omega) (by omega) (by omega) (by omega) (Nat.lt_succ_self _)) (zs_mc 2 rfl (zs_mc 3 rfl (zs_mc 4 rfl (zs_mc 1 rfl (zs_mc 0 rfl zs_mn)))))
set_option maxRecDepth 100000 in
theorem y_X12_hands (a1 : Int32) (a2 : Int32) (a3 : Int32) : zs_U MX12_hands [.ref 80, .int a1, .int a2, .int a3] zs_Ri := by
  refine zs_Vof (by decide) (Nat.le_of_ble_eq_true rfl) ?_
  show zs_V MX12_hands 0 [(0, .ref 80), (1, .int a1), (2, .int a2), (3, .int a3)] [] zs_Ri
  refine n_aload_n dX12_hands_0 rfl rfl ?_
  refine n_iload_n dX12_hands_1 rfl rfl ?_
  refine n_callV (T := TX12) (NN := 19) [] (y_isEye a1) dX12_hands_2 kk_X12_hands_X12_isEye ml_RX12_185 mwX12_isEye ewX12_isEye (by decide) rfl rfl rfl rfl (Nat.le_of_ble_eq_true rfl) ?_
  rintro _ ⟨x1, rfl, bx1, fx1⟩
  refine n_if_eq 26 dX12_hands_5 (by decide) (fun h2 => ?_) (fun h2 => ?_)
  · refine n_aload_n dX12_hands_26 rfl rfl ?_
    refine n_callV (T := TX12) (NN := 19) [] (y_X12_bad10) dX12_hands_27 kk_X12_hands_X12_bad10 ml_RX12_196 mwX12_bad10 ewX12_bad10 (by decide) rfl rfl rfl rfl (Nat.le_of_ble_eq_true rfl) ?_
    rintro _ ⟨x3, rfl⟩
    exact n_iret dX12_hands_30 rfl rfl ⟨_, rfl⟩
  · obtain ⟨k4, uk4, rfl⟩ := fx1 h2
    refine n_aload_n dX12_hands_8 rfl rfl ?_
    refine n_iload_n dX12_hands_9 rfl rfl ?_
    refine n_callV (T := TX12) (NN := 19) [] (y_isEye a2) dX12_hands_10 kk_X12_hands_X12_isEye ml_RX12_185 mwX12_isEye ewX12_isEye (by decide) rfl rfl rfl rfl (Nat.le_of_ble_eq_true rfl) ?_
    rintro _ ⟨x5, rfl, bx5, fx5⟩
    refine n_if_eq 26 dX12_hands_13 (by decide) (fun h6 => ?_) (fun h6 => ?_)
    · refine n_aload_n dX12_hands_26 rfl rfl ?_
      refine n_callV (T := TX12) (NN := 19) [] (y_X12_bad10) dX12_hands_27 kk_X12_hands_X12_bad10 ml_RX12_196 mwX12_bad10 ewX12_bad10 (by decide) rfl rfl rfl rfl (Nat.le_of_ble_eq_true rfl) ?_
      rintro _ ⟨x7, rfl⟩
      exact n_iret dX12_hands_30 rfl rfl ⟨_, rfl⟩
    · obtain ⟨k8, uk8, rfl⟩ := fx5 h6
      refine n_iload_n dX12_hands_16 rfl rfl ?_
      refine n_iload_n dX12_hands_17 rfl rfl ?_
      refine n_ic_eqN 26 dX12_hands_18 (by decide) (by omega) (by omega) (fun h9 => ?_) (fun h9 => ?_)
      · refine n_aload_n dX12_hands_26 rfl rfl ?_
        refine n_callV (T := TX12) (NN := 19) [] (y_X12_bad10) dX12_hands_27 kk_X12_hands_X12_bad10 ml_RX12_196 mwX12_bad10 ewX12_bad10 (by decide) rfl rfl rfl rfl (Nat.le_of_ble_eq_true rfl) ?_
        rintro _ ⟨x10, rfl⟩
        exact n_iret dX12_hands_30 rfl rfl ⟨_, rfl⟩
      · refine n_iload_n dX12_hands_21 rfl rfl ?_
        refine n_iconst (v := (-1)) dX12_hands_22 rfl ?_
        refine n_ic_ge 31 dX12_hands_23 (by decide) (fun h11 => ?_) (fun h11 => ?_)
        · have j133 : ∀ (n133 : Nat) (v133_4 : Int32) (c133 : Nat), 0 ≤ c133 → c133 ≤ 16 → 16 - c133 < n133 → zs_V MX12_hands 133 [(0, .ref 80), (1, .int (nI k4)), (2, .int (nI k8)), (3, .int a3), (4, .int v133_4), (5, .int (nI c133))] [] zs_Ri := by
            intro n133
            induction n133 with
            | zero => intro v133_4 c133 lc133 uc133 hn133; exact absurd hn133 (Nat.not_lt_zero _)
            | succ n133 ih133 =>
              intro v133_4 c133 lc133 uc133 hn133
              have j177 : c133 + 1 ≤ 16 → ∀ (v177_4 : Int32), zs_V MX12_hands 177 [(0, .ref 80), (1, .int (nI k4)), (2, .int (nI k8)), (3, .int a3), (4, .int v177_4), (5, .int (nI c133))] [] zs_Ri := by
                intro hd133 v177_4
                refine n_iinc (v := (nI (c133 + 1))) (lv' := [(5, .int (nI (c133 + 1))), (0, .ref 80), (1, .int (nI k4)), (2, .int (nI k8)), (3, .int a3), (4, .int v177_4)]) dX12_hands_177 rfl (nI_1 c133) (by decide) rfl ?_
                refine n_goto 133 dX12_hands_180 (by decide) ?_
                exact zs_Vlv (ih133 v177_4 (c133 + 1) (by omega) (by omega) (by omega)) (zs_mc 1 rfl (zs_mc 2 rfl (zs_mc 3 rfl (zs_mc 4 rfl (zs_mc 5 rfl (zs_mc 0 rfl zs_mn))))))
              refine n_iload dX12_hands_133 rfl ?_
              refine n_bipush (v := (nI 16)) dX12_hands_135 rfl ?_
              refine n_ic_geN 183 dX12_hands_137 (by decide) (by omega) (by omega) (fun h12 => ?_) (fun h12 => ?_)
              · refine n_iload_n dX12_hands_183 rfl rfl ?_
                refine n_if_ge 192 dX12_hands_184 (by decide) (fun h13 => ?_) (fun h13 => ?_)
                · refine n_bipush (v := (-5)) dX12_hands_192 rfl ?_
                  exact n_iret dX12_hands_194 rfl rfl ⟨_, rfl⟩
                · refine n_iload dX12_hands_187 rfl ?_
                  refine n_goto 194 dX12_hands_189 (by decide) ?_
                  exact n_iret dX12_hands_194 rfl rfl ⟨_, rfl⟩
              · refine n_aload_n dX12_hands_140 rfl rfl ?_
                refine n_iload dX12_hands_141 rfl ?_
                refine n_iconst (v := (nI 4)) dX12_hands_143 rfl ?_
                refine n_idivN dX12_hands_144 (by omega) (by omega) (by omega) ?_
                refine n_iload dX12_hands_145 rfl ?_
                refine n_iconst (v := (nI 4)) dX12_hands_147 rfl ?_
                refine n_iremN dX12_hands_148 (by omega) (by omega) (by omega) ?_
                refine n_callV (T := TX12) (NN := 19) [] (y_X12_rests (c133 / 4) (by omega) (by omega) (c133 % 4) (by omega) (by omega)) dX12_hands_149 kk_X12_hands_X12_rests ml_RX12_222 mwX12_rests ewX12_rests (by decide) rfl rfl rfl rfl (Nat.le_of_ble_eq_true rfl) ?_
                rintro _ ⟨x14, rfl, bx14⟩
                refine n_if_eq 177 dX12_hands_152 (by decide) (fun h15 => ?_) (fun h15 => ?_)
                · exact j177 (by omega) v133_4
                · refine n_iload dX12_hands_155 rfl ?_
                  refine n_iload_n dX12_hands_157 rfl rfl ?_
                  refine n_ic_ne 174 dX12_hands_158 (by decide) (fun h16 => ?_) (fun h16 => ?_)
                  · refine n_iinc (v := (v133_4 + Int32.ofInt 1)) (lv' := [(4, .int (v133_4 + Int32.ofInt 1)), (0, .ref 80), (1, .int (nI k4)), (2, .int (nI k8)), (3, .int a3), (5, .int (nI c133))]) dX12_hands_174 rfl rfl (by decide) rfl ?_
                    exact zs_Vlv (j177 (by omega) (v133_4 + Int32.ofInt 1)) (zs_mc 1 rfl (zs_mc 2 rfl (zs_mc 3 rfl (zs_mc 4 rfl (zs_mc 0 rfl (zs_mc 5 rfl zs_mn))))))
                  · refine n_bipush (v := (nI 10)) dX12_hands_161 rfl ?_
                    refine n_iload dX12_hands_163 rfl ?_
                    refine n_iconst (v := (nI 4)) dX12_hands_165 rfl ?_
                    refine n_idivN dX12_hands_166 (by omega) (by omega) (by omega) ?_
                    refine n_imulN dX12_hands_167 ?_
                    refine n_iload dX12_hands_168 rfl ?_
                    refine n_iconst (v := (nI 4)) dX12_hands_170 rfl ?_
                    refine n_iremN dX12_hands_171 (by omega) (by omega) (by omega) ?_
                    refine n_iaddN dX12_hands_172 ?_
                    exact n_iret dX12_hands_173 rfl rfl ⟨_, rfl⟩
          have j34 : ∀ (n34 : Nat) (c34 : Nat), 0 ≤ c34 → c34 ≤ 16 → 16 - c34 < n34 → zs_V MX12_hands 34 [(0, .ref 80), (1, .int (nI k4)), (2, .int (nI k8)), (3, .int a3), (4, .int (nI c34))] [] zs_Ri := by
            intro n34
            induction n34 with
            | zero => intro c34 lc34 uc34 hn34; exact absurd hn34 (Nat.not_lt_zero _)
            | succ n34 ih34 =>
              intro c34 lc34 uc34 hn34
              have j119 : c34 + 1 ≤ 16 → ∀ (s119_0 : Int32) (s119_1 : Int32) (s119_2 : Nat), 0 ≤ s119_2 → s119_2 ≤ 15 → zs_V MX12_hands 119 [(0, .ref 80), (1, .int (nI k4)), (2, .int (nI k8)), (3, .int a3), (4, .int (nI c34))] [.int s119_0, .int s119_1, .int (nI s119_2), .ref 89] zs_Ri := by
                intro hd34 s119_0 s119_1 s119_2 ls119_2 us119_2
                refine n_isub dX12_hands_119 (fun x17 => ?_)
                refine n_ast dX12_hands_120 (by decide) rfl (by omega) (by decide) rfl (zs_okN rfl (by decide) (by decide)) ?_
                refine n_iinc (v := (nI (c34 + 1))) (lv' := [(4, .int (nI (c34 + 1))), (0, .ref 80), (1, .int (nI k4)), (2, .int (nI k8)), (3, .int a3)]) dX12_hands_121 rfl (nI_1 c34) (by decide) rfl ?_
                refine n_goto 34 dX12_hands_124 (by decide) ?_
                exact zs_Vlv (ih34 (c34 + 1) (by omega) (by omega) (by omega)) (zs_mc 1 rfl (zs_mc 2 rfl (zs_mc 3 rfl (zs_mc 4 rfl (zs_mc 0 rfl zs_mn)))))
              have j88 : c34 + 1 ≤ 16 → ∀ (s88_0 : Int32) (s88_1 : Int32) (s88_2 : Nat), 0 ≤ s88_2 → s88_2 ≤ 15 → zs_V MX12_hands 88 [(0, .ref 80), (1, .int (nI k4)), (2, .int (nI k8)), (3, .int a3), (4, .int (nI c34))] [.int s88_0, .int s88_1, .int (nI s88_2), .ref 88] zs_Ri := by
                intro hd34 s88_0 s88_1 s88_2 ls88_2 us88_2
                refine n_isub dX12_hands_88 (fun x18 => ?_)
                refine n_ast dX12_hands_89 (by decide) rfl (by omega) (by decide) rfl (zs_okN rfl (by decide) (by decide)) ?_
                refine n_aload_n dX12_hands_90 rfl rfl ?_
                refine n_getR 18 89 (C := RX12) (T := TX12) (N := 19) dX12_hands_91 (by decide) rfl rfl (by decide) rfl fl_RX12_39 ?_
                refine n_iload dX12_hands_94 rfl ?_
                refine n_aload_n dX12_hands_96 rfl rfl ?_
                refine n_getR 0 81 (C := RX12) (T := TX12) (N := 19) dX12_hands_97 (by decide) rfl rfl (by decide) rfl fl_RX12_7 ?_
                refine n_sipush (v := (nI 695)) dX12_hands_100 rfl ?_
                refine n_iload_n dX12_hands_103 rfl rfl ?_
                refine n_iaddN dX12_hands_104 ?_
                refine n_ald dX12_hands_105 (by decide) rfl (by omega) (by decide) (fun x19 => ?_)
                refine n_iload dX12_hands_106 rfl ?_
                refine n_iconst (v := (nI 4)) dX12_hands_108 rfl ?_
                refine n_iremN dX12_hands_109 (by omega) (by omega) (by omega) ?_
                refine n_iconst (v := (nI 3)) dX12_hands_110 rfl ?_
                refine n_ic_neN 118 dX12_hands_111 (by decide) (by omega) (by omega) (fun h20 => ?_) (fun h20 => ?_)
                · refine n_iconst (v := (nI 0)) dX12_hands_118 rfl ?_
                  exact j119 (by omega) (nI 0) x19 c34 (by omega) (by omega)
                · refine n_iconst (v := (nI 1)) dX12_hands_114 rfl ?_
                  refine n_goto 119 dX12_hands_115 (by decide) ?_
                  exact j119 (by omega) (nI 1) x19 c34 (by omega) (by omega)
              refine n_iload dX12_hands_34 rfl ?_
              refine n_bipush (v := (nI 16)) dX12_hands_36 rfl ?_
              refine n_ic_geN 127 dX12_hands_38 (by decide) (by omega) (by omega) (fun h21 => ?_) (fun h21 => ?_)
              · refine n_iconst (v := (nI 0)) dX12_hands_127 rfl ?_
                refine n_istore (lv' := [(4, .int (nI 0)), (0, .ref 80), (1, .int (nI k4)), (2, .int (nI k8)), (3, .int a3)]) dX12_hands_128 (by decide) rfl ?_
                refine n_iconst (v := (nI 0)) dX12_hands_130 rfl ?_
                refine n_istore (lv' := [(5, .int (nI 0)), (4, .int (nI 0)), (0, .ref 80), (1, .int (nI k4)), (2, .int (nI k8)), (3, .int a3)]) dX12_hands_131 (by decide) rfl ?_
                exact zs_Vlv (j133 _ (nI 0) 0 (by omega) (by omega) (Nat.lt_succ_self _)) (zs_mc 2 rfl (zs_mc 3 rfl (zs_mc 4 rfl (zs_mc 5 rfl (zs_mc 1 rfl (zs_mc 0 rfl zs_mn))))))
              · refine n_aload_n dX12_hands_41 rfl rfl ?_
                refine n_callV (T := TX12) (NN := 19) [] (y_X12_tries) dX12_hands_42 kk_X12_hands_X12_tries ml_RX12_188 mwX12_tries ewX12_tries (by decide) rfl rfl rfl rfl (Nat.le_of_ble_eq_true rfl) ?_
                rintro _ rfl
                refine n_aload_n dX12_hands_45 rfl rfl ?_
                refine n_iconst (v := (nI 4)) dX12_hands_46 rfl ?_
                refine n_iload dX12_hands_47 rfl ?_
                refine n_iconst (v := (nI 4)) dX12_hands_49 rfl ?_
                refine n_idivN dX12_hands_50 (by omega) (by omega) (by omega) ?_
                refine n_iload dX12_hands_51 rfl ?_
                refine n_iconst (v := (nI 4)) dX12_hands_53 rfl ?_
                refine n_iremN dX12_hands_54 (by omega) (by omega) (by omega) ?_
                refine n_iaddN dX12_hands_55 ?_
                refine n_callV (T := TX12) (NN := 19) [] (y_X12_flashes (nI 4) ((c34 / 4) + (c34 % 4)) (by omega) (by omega)) dX12_hands_56 kk_X12_hands_X12_flashes ml_RX12_191 mwX12_flashes ewX12_flashes (by decide) rfl rfl rfl rfl (Nat.le_of_ble_eq_true rfl) ?_
                rintro _ rfl
                refine n_aload_n dX12_hands_59 rfl rfl ?_
                refine n_getR 17 88 (C := RX12) (T := TX12) (N := 19) dX12_hands_60 (by decide) rfl rfl (by decide) rfl fl_RX12_36 ?_
                refine n_iload dX12_hands_63 rfl ?_
                refine n_aload_n dX12_hands_65 rfl rfl ?_
                refine n_getR 0 81 (C := RX12) (T := TX12) (N := 19) dX12_hands_66 (by decide) rfl rfl (by decide) rfl fl_RX12_7 ?_
                refine n_sipush (v := (nI 695)) dX12_hands_69 rfl ?_
                refine n_iload_n dX12_hands_72 rfl rfl ?_
                refine n_iaddN dX12_hands_73 ?_
                refine n_ald dX12_hands_74 (by decide) rfl (by omega) (by decide) (fun x22 => ?_)
                refine n_iload dX12_hands_75 rfl ?_
                refine n_iconst (v := (nI 4)) dX12_hands_77 rfl ?_
                refine n_idivN dX12_hands_78 (by omega) (by omega) (by omega) ?_
                refine n_iconst (v := (nI 3)) dX12_hands_79 rfl ?_
                refine n_ic_neN 87 dX12_hands_80 (by decide) (by omega) (by omega) (fun h23 => ?_) (fun h23 => ?_)
                · refine n_iconst (v := (nI 0)) dX12_hands_87 rfl ?_
                  exact j88 (by omega) (nI 0) x22 c34 (by omega) (by omega)
                · refine n_iconst (v := (nI 1)) dX12_hands_83 rfl ?_
                  refine n_goto 88 dX12_hands_84 (by decide) ?_
                  exact j88 (by omega) (nI 1) x22 c34 (by omega) (by omega)
          refine n_iconst (v := (nI 0)) dX12_hands_31 rfl ?_
          refine n_istore (lv' := [(4, .int (nI 0)), (0, .ref 80), (1, .int (nI k4)), (2, .int (nI k8)), (3, .int a3)]) dX12_hands_32 (by decide) rfl ?_
          exact zs_Vlv (j34 _ 0 (by omega) (by omega) (Nat.lt_succ_self _)) (zs_mc 1 rfl (zs_mc 2 rfl (zs_mc 3 rfl (zs_mc 4 rfl (zs_mc 0 rfl zs_mn)))))
        · refine n_aload_n dX12_hands_26 rfl rfl ?_
          refine n_callV (T := TX12) (NN := 19) [] (y_X12_bad10) dX12_hands_27 kk_X12_hands_X12_bad10 ml_RX12_196 mwX12_bad10 ewX12_bad10 (by decide) rfl rfl rfl rfl (Nat.le_of_ble_eq_true rfl) ?_
          rintro _ ⟨x24, rfl⟩
          exact n_iret dX12_hands_30 rfl rfl ⟨_, rfl⟩
set_option maxRecDepth 100000 in
theorem y_X12_part (a1 : Int32) : zs_U MX12_part [.ref 80, .int a1] zs_Rl := by
  refine zs_Vof (by decide) (Nat.le_of_ble_eq_true rfl) ?_
  show zs_V MX12_part 0 [(0, .ref 80), (1, .int a1)] [] zs_Rl
  refine n_iload_n dX12_part_0 rfl rfl ?_
  refine n_i2l dX12_part_1 ?_
  refine n_lconst (v := 0) dX12_part_2 (by decide) ?_
  refine n_lconst (v := 1) dX12_part_3 (by decide) ?_
  refine n_callS [.long (Int32.toInt64 a1), .long 0, .long 1] [] (y_in (Int32.toInt64 a1) 0 1) dX12_part_4 kk_X12_part_X12_in ml_RX12_54 swX12_in rfl rfl (Nat.le_of_ble_eq_true rfl) ?_
  rintro _ ⟨x1, rfl, bx1, fx1⟩
  refine n_if_ne 16 dX12_part_7 (by decide) (fun h2 => ?_) (fun h2 => ?_)
  · obtain ⟨k3, lk3, uk3, rfl⟩ := zs_inR (lo := 0) (hi := 1) (fx1 h2) (by decide) (by decide)
    refine n_iload_n dX12_part_16 rfl rfl ?_
    refine n_if_neN 27 dX12_part_17 (by decide) (by omega) (fun h4 => ?_) (fun h4 => ?_)
    · refine n_aload_n dX12_part_27 rfl rfl ?_
      refine n_getL 13 (C := RX12) (T := TX12) (N := 19) dX12_part_28 (by decide) rfl rfl (by decide) rfl fl_RX12_23 (fun x5 => ?_)
      exact n_lret dX12_part_31 rfl ⟨_, rfl⟩
    · refine n_aload_n dX12_part_20 rfl rfl ?_
      refine n_getL 12 (C := RX12) (T := TX12) (N := 19) dX12_part_21 (by decide) rfl rfl (by decide) rfl fl_RX12_229 (fun x6 => ?_)
      refine n_goto 31 dX12_part_24 (by decide) ?_
      exact n_lret dX12_part_31 rfl ⟨_, rfl⟩
  · refine n_aload_n dX12_part_10 rfl rfl ?_
    refine n_callV (T := TX12) (NN := 19) [] (y_X12_bad) dX12_part_11 kk_X12_part_X12_bad ml_RX12_62 mwX12_bad ewX12_bad (by decide) rfl rfl rfl rfl (Nat.le_of_ble_eq_true rfl) ?_
    rintro _ ⟨x7, rfl⟩
    refine n_i2l dX12_part_14 ?_
    exact n_lret dX12_part_15 rfl ⟨_, rfl⟩
set_option maxRecDepth 100000 in
theorem y_X12_status (a1 : Int32) : zs_U MX12_status [.ref 80, .int a1] zs_Ri := by
  refine zs_Vof (by decide) (Nat.le_of_ble_eq_true rfl) ?_
  show zs_V MX12_status 0 [(0, .ref 80), (1, .int a1)] [] zs_Ri
  refine n_iload_n dX12_status_0 rfl rfl ?_
  refine n_i2l dX12_status_1 ?_
  refine n_lconst (v := 0) dX12_status_2 (by decide) ?_
  refine n_ldc2 (v := 2) dX12_status_3 cl_RX12_50 ?_
  refine n_callS [.long (Int32.toInt64 a1), .long 0, .long 2] [] (y_in (Int32.toInt64 a1) 0 2) dX12_status_6 kk_X12_status_X12_in ml_RX12_54 swX12_in rfl rfl (Nat.le_of_ble_eq_true rfl) ?_
  rintro _ ⟨x1, rfl, bx1, fx1⟩
  refine n_if_ne 24 dX12_status_9 (by decide) (fun h2 => ?_) (fun h2 => ?_)
  · obtain ⟨k3, lk3, uk3, rfl⟩ := zs_inR (lo := 0) (hi := 2) (fx1 h2) (by decide) (by decide)
    refine n_aload_n dX12_status_24 rfl rfl ?_
    refine n_getR 14 85 (C := RX12) (T := TX12) (N := 19) dX12_status_25 (by decide) rfl rfl (by decide) rfl fl_RX12_27 ?_
    refine n_iload_n dX12_status_28 rfl rfl ?_
    refine n_ald dX12_status_29 (by decide) rfl (by omega) (by decide) (fun x4 => ?_)
    exact n_iret dX12_status_30 rfl rfl ⟨_, rfl⟩
  · refine n_aload_n dX12_status_12 rfl rfl ?_
    refine n_getR 14 85 (C := RX12) (T := TX12) (N := 19) dX12_status_13 (by decide) rfl rfl (by decide) rfl fl_RX12_27 ?_
    refine n_iconst (v := (nI 0)) dX12_status_16 rfl ?_
    refine n_dup2 dX12_status_17 rfl rfl ?_
    refine n_ald dX12_status_18 (by decide) rfl (by omega) (by decide) (fun x5 => ?_)
    refine n_iconst (v := (nI 1)) dX12_status_19 rfl ?_
    refine n_iadd dX12_status_20 (fun x6 => ?_)
    refine n_ast dX12_status_21 (by decide) rfl (by omega) (by decide) rfl (zs_okN rfl (by decide) (by decide)) ?_
    refine n_iconst (v := (-1)) dX12_status_22 rfl ?_
    exact n_iret dX12_status_23 rfl rfl ⟨_, rfl⟩
set_option maxRecDepth 100000 in
theorem y_X12_movesOf_0 : zs_U MX12_movesOf [.ref 80, .int (nI 0)] zs_Ri := by
  refine zs_Vof (by decide) (Nat.le_of_ble_eq_true rfl) ?_
  show zs_V MX12_movesOf 0 [(0, .ref 80), (1, .int (nI 0))] [] zs_Ri
  have j4 : ∀ (n4 : Nat) (v4_2 : Int32) (c4 : Nat), 0 ≤ c4 → c4 ≤ 5 → 5 - c4 < n4 → zs_V MX12_movesOf 4 [(0, .ref 80), (1, .int (nI 0)), (2, .int v4_2), (3, .int (nI c4))] [] zs_Ri := by
    intro n4
    induction n4 with
    | zero => intro v4_2 c4 lc4 uc4 hn4; exact absurd hn4 (Nat.not_lt_zero _)
    | succ n4 ih4 =>
      intro v4_2 c4 lc4 uc4 hn4
      refine n_iload_n dX12_movesOf_4 rfl rfl ?_
      refine n_aload_n dX12_movesOf_5 rfl rfl ?_
      refine n_getR 1 82 (C := RX12) (T := TX12) (N := 19) dX12_movesOf_6 (by decide) rfl rfl (by decide) rfl fl_RX12_13 ?_
      refine n_iconst (v := (nI 2)) dX12_movesOf_9 rfl ?_
      refine n_aldR (lo := 0) (up := 5) dX12_movesOf_10 (by decide) rfl (by omega) (by decide) rfl (fun m1 hm1 km1 => ?_)
      refine n_ic_geN 34 dX12_movesOf_11 (by decide) (by omega) (by omega) (fun h2 => ?_) (fun h2 => ?_)
      · refine n_iload_n dX12_movesOf_34 rfl rfl ?_
        exact n_iret dX12_movesOf_35 rfl rfl ⟨_, rfl⟩
      · refine n_iload_n dX12_movesOf_14 rfl rfl ?_
        refine n_aload_n dX12_movesOf_15 rfl rfl ?_
        refine n_getR 0 81 (C := RX12) (T := TX12) (N := 19) dX12_movesOf_16 (by decide) rfl rfl (by decide) rfl fl_RX12_7 ?_
        refine n_iload_n dX12_movesOf_19 rfl rfl ?_
        refine n_bipush (v := (nI 20)) dX12_movesOf_20 rfl ?_
        refine n_iaddN dX12_movesOf_22 ?_
        refine n_iload_n dX12_movesOf_23 rfl rfl ?_
        refine n_iaddN dX12_movesOf_24 ?_
        refine n_ald dX12_movesOf_25 (by decide) rfl (by omega) (by decide) (fun x3 => ?_)
        refine n_iadd dX12_movesOf_26 (fun x4 => ?_)
        refine n_istore_n (lv' := [(2, .int x4), (0, .ref 80), (1, .int (nI 0)), (3, .int (nI c4))]) dX12_movesOf_27 rfl (by decide) rfl ?_
        refine n_iinc (v := (nI (c4 + 1))) (lv' := [(3, .int (nI (c4 + 1))), (2, .int x4), (0, .ref 80), (1, .int (nI 0))]) dX12_movesOf_28 rfl (nI_1 c4) (by decide) rfl ?_
        refine n_goto 4 dX12_movesOf_31 (by decide) ?_
        exact zs_Vlv (ih4 x4 (c4 + 1) (by omega) (by omega) (by omega)) (zs_mc 2 rfl (zs_mc 3 rfl (zs_mc 1 rfl (zs_mc 0 rfl zs_mn))))
  refine n_iconst (v := (nI 0)) dX12_movesOf_0 rfl ?_
  refine n_istore_n (lv' := [(2, .int (nI 0)), (0, .ref 80), (1, .int (nI 0))]) dX12_movesOf_1 rfl (by decide) rfl ?_
  refine n_iconst (v := (nI 0)) dX12_movesOf_2 rfl ?_
  refine n_istore_n (lv' := [(3, .int (nI 0)), (2, .int (nI 0)), (0, .ref 80), (1, .int (nI 0))]) dX12_movesOf_3 rfl (by decide) rfl ?_
  exact zs_Vlv (j4 _ (nI 0) 0 (by omega) (by omega) (Nat.lt_succ_self _)) (zs_mc 2 rfl (zs_mc 3 rfl (zs_mc 1 rfl (zs_mc 0 rfl zs_mn))))
set_option maxRecDepth 100000 in
theorem y_X12_countOf (a1 : Int32) : zs_U MX12_countOf [.ref 80, .int a1] zs_Ri := by
  refine zs_Vof (by decide) (Nat.le_of_ble_eq_true rfl) ?_
  show zs_V MX12_countOf 0 [(0, .ref 80), (1, .int a1)] [] zs_Ri
  refine n_iload_n dX12_countOf_0 rfl rfl ?_
  refine n_if_ne 13 dX12_countOf_1 (by decide) (fun h1 => ?_) (fun h1 => ?_)
  · refine n_iload_n dX12_countOf_13 rfl rfl ?_
    refine n_iconst (v := (nI 1)) dX12_countOf_14 rfl ?_
    refine n_ic_ne 27 dX12_countOf_15 (by decide) (fun h2 => ?_) (fun h2 => ?_)
    · refine n_iload_n dX12_countOf_27 rfl rfl ?_
      refine n_iconst (v := (nI 2)) dX12_countOf_28 rfl ?_
      refine n_ic_ne 41 dX12_countOf_29 (by decide) (fun h3 => ?_) (fun h3 => ?_)
      · refine n_iload_n dX12_countOf_41 rfl rfl ?_
        refine n_iconst (v := (nI 3)) dX12_countOf_42 rfl ?_
        refine n_ic_ne 55 dX12_countOf_43 (by decide) (fun h4 => ?_) (fun h4 => ?_)
        · refine n_iload_n dX12_countOf_55 rfl rfl ?_
          refine n_iconst (v := (nI 4)) dX12_countOf_56 rfl ?_
          refine n_ic_ne 69 dX12_countOf_57 (by decide) (fun h5 => ?_) (fun h5 => ?_)
          · refine n_iload_n dX12_countOf_69 rfl rfl ?_
            refine n_iconst (v := (nI 5)) dX12_countOf_70 rfl ?_
            refine n_ic_ne 83 dX12_countOf_71 (by decide) (fun h6 => ?_) (fun h6 => ?_)
            · refine n_iload_n dX12_countOf_83 rfl rfl ?_
              refine n_bipush (v := (nI 6)) dX12_countOf_84 rfl ?_
              refine n_ic_ne 97 dX12_countOf_86 (by decide) (fun h7 => ?_) (fun h7 => ?_)
              · refine n_iload_n dX12_countOf_97 rfl rfl ?_
                refine n_bipush (v := (nI 7)) dX12_countOf_98 rfl ?_
                refine n_ic_ne 113 dX12_countOf_100 (by decide) (fun h8 => ?_) (fun h8 => ?_)
                · refine n_iload_n dX12_countOf_113 rfl rfl ?_
                  refine n_bipush (v := (nI 8)) dX12_countOf_114 rfl ?_
                  refine n_ic_ne 129 dX12_countOf_116 (by decide) (fun h9 => ?_) (fun h9 => ?_)
                  · refine n_iload_n dX12_countOf_129 rfl rfl ?_
                    refine n_bipush (v := (nI 9)) dX12_countOf_130 rfl ?_
                    refine n_ic_ne 145 dX12_countOf_132 (by decide) (fun h10 => ?_) (fun h10 => ?_)
                    · refine n_iload_n dX12_countOf_145 rfl rfl ?_
                      refine n_bipush (v := (nI 10)) dX12_countOf_146 rfl ?_
                      refine n_ic_ne 161 dX12_countOf_148 (by decide) (fun h11 => ?_) (fun h11 => ?_)
                      · refine n_aload_n dX12_countOf_161 rfl rfl ?_
                        refine n_getIR (lo := 0) (up := 150) 3 (C := RX12) (T := TX12) (N := 19) dX12_countOf_162 (by decide) rfl rfl (by decide) rfl fl_RX12_75 rfl (fun m12 hm12 km12 => ?_)
                        exact n_iret dX12_countOf_165 rfl rfl ⟨_, rfl⟩
                      · refine n_aload_n dX12_countOf_151 rfl rfl ?_
                        refine n_getR 1 82 (C := RX12) (T := TX12) (N := 19) dX12_countOf_152 (by decide) rfl rfl (by decide) rfl fl_RX12_13 ?_
                        refine n_bipush (v := (nI 65)) dX12_countOf_155 rfl ?_
                        refine n_aldR (lo := 0) (up := 8) dX12_countOf_157 (by decide) rfl (by omega) (by decide) rfl (fun m13 hm13 km13 => ?_)
                        refine n_goto 165 dX12_countOf_158 (by decide) ?_
                        exact n_iret dX12_countOf_165 rfl rfl ⟨_, rfl⟩
                    · refine n_aload_n dX12_countOf_135 rfl rfl ?_
                      refine n_getR 1 82 (C := RX12) (T := TX12) (N := 19) dX12_countOf_136 (by decide) rfl rfl (by decide) rfl fl_RX12_13 ?_
                      refine n_bipush (v := (nI 46)) dX12_countOf_139 rfl ?_
                      refine n_aldR (lo := 0) (up := 6) dX12_countOf_141 (by decide) rfl (by omega) (by decide) rfl (fun m14 hm14 km14 => ?_)
                      refine n_goto 165 dX12_countOf_142 (by decide) ?_
                      exact n_iret dX12_countOf_165 rfl rfl ⟨_, rfl⟩
                  · refine n_aload_n dX12_countOf_119 rfl rfl ?_
                    refine n_getR 1 82 (C := RX12) (T := TX12) (N := 19) dX12_countOf_120 (by decide) rfl rfl (by decide) rfl fl_RX12_13 ?_
                    refine n_bipush (v := (nI 21)) dX12_countOf_123 rfl ?_
                    refine n_aldR (lo := 0) (up := 6) dX12_countOf_125 (by decide) rfl (by omega) (by decide) rfl (fun m15 hm15 km15 => ?_)
                    refine n_goto 165 dX12_countOf_126 (by decide) ?_
                    exact n_iret dX12_countOf_165 rfl rfl ⟨_, rfl⟩
                · refine n_aload_n dX12_countOf_103 rfl rfl ?_
                  refine n_getR 1 82 (C := RX12) (T := TX12) (N := 19) dX12_countOf_104 (by decide) rfl rfl (by decide) rfl fl_RX12_13 ?_
                  refine n_bipush (v := (nI 8)) dX12_countOf_107 rfl ?_
                  refine n_aldR (lo := 0) (up := 6) dX12_countOf_109 (by decide) rfl (by omega) (by decide) rfl (fun m16 hm16 km16 => ?_)
                  refine n_goto 165 dX12_countOf_110 (by decide) ?_
                  exact n_iret dX12_countOf_165 rfl rfl ⟨_, rfl⟩
              · refine n_aload_n dX12_countOf_89 rfl rfl ?_
                refine n_iconst (v := (nI 0)) dX12_countOf_90 rfl ?_
                refine n_callV (T := TX12) (NN := 19) [] (y_X12_movesOf_0) dX12_countOf_91 kk_X12_countOf_X12_movesOf ml_RX12_242 mwX12_movesOf ewX12_movesOf (by decide) rfl rfl rfl rfl (Nat.le_of_ble_eq_true rfl) ?_
                rintro _ ⟨x17, rfl⟩
                refine n_goto 165 dX12_countOf_94 (by decide) ?_
                exact n_iret dX12_countOf_165 rfl rfl ⟨_, rfl⟩
            · refine n_aload_n dX12_countOf_74 rfl rfl ?_
              refine n_getR 1 82 (C := RX12) (T := TX12) (N := 19) dX12_countOf_75 (by decide) rfl rfl (by decide) rfl fl_RX12_13 ?_
              refine n_iconst (v := (nI 2)) dX12_countOf_78 rfl ?_
              refine n_aldR (lo := 0) (up := 5) dX12_countOf_79 (by decide) rfl (by omega) (by decide) rfl (fun m18 hm18 km18 => ?_)
              refine n_goto 165 dX12_countOf_80 (by decide) ?_
              exact n_iret dX12_countOf_165 rfl rfl ⟨_, rfl⟩
          · refine n_aload_n dX12_countOf_60 rfl rfl ?_
            refine n_getR 0 81 (C := RX12) (T := TX12) (N := 19) dX12_countOf_61 (by decide) rfl rfl (by decide) rfl fl_RX12_7 ?_
            refine n_iconst (v := (nI 1)) dX12_countOf_64 rfl ?_
            refine n_ald dX12_countOf_65 (by decide) rfl (by omega) (by decide) (fun x19 => ?_)
            refine n_goto 165 dX12_countOf_66 (by decide) ?_
            exact n_iret dX12_countOf_165 rfl rfl ⟨_, rfl⟩
        · refine n_aload_n dX12_countOf_46 rfl rfl ?_
          refine n_getR 0 81 (C := RX12) (T := TX12) (N := 19) dX12_countOf_47 (by decide) rfl rfl (by decide) rfl fl_RX12_7 ?_
          refine n_iconst (v := (nI 0)) dX12_countOf_50 rfl ?_
          refine n_aldR (lo := 0) (up := 11) dX12_countOf_51 (by decide) rfl (by omega) (by decide) rfl (fun m20 hm20 km20 => ?_)
          refine n_goto 165 dX12_countOf_52 (by decide) ?_
          exact n_iret dX12_countOf_165 rfl rfl ⟨_, rfl⟩
      · refine n_aload_n dX12_countOf_32 rfl rfl ?_
        refine n_getR 0 81 (C := RX12) (T := TX12) (N := 19) dX12_countOf_33 (by decide) rfl rfl (by decide) rfl fl_RX12_7 ?_
        refine n_iconst (v := (nI 2)) dX12_countOf_36 rfl ?_
        refine n_aldR (lo := 0) (up := 11) dX12_countOf_37 (by decide) rfl (by omega) (by decide) rfl (fun m21 hm21 km21 => ?_)
        refine n_goto 165 dX12_countOf_38 (by decide) ?_
        exact n_iret dX12_countOf_165 rfl rfl ⟨_, rfl⟩
    · refine n_aload_n dX12_countOf_18 rfl rfl ?_
      refine n_getR 1 82 (C := RX12) (T := TX12) (N := 19) dX12_countOf_19 (by decide) rfl rfl (by decide) rfl fl_RX12_13 ?_
      refine n_iconst (v := (nI 1)) dX12_countOf_22 rfl ?_
      refine n_ald dX12_countOf_23 (by decide) rfl (by omega) (by decide) (fun x22 => ?_)
      refine n_goto 165 dX12_countOf_24 (by decide) ?_
      exact n_iret dX12_countOf_165 rfl rfl ⟨_, rfl⟩
  · refine n_aload_n dX12_countOf_4 rfl rfl ?_
    refine n_getR 1 82 (C := RX12) (T := TX12) (N := 19) dX12_countOf_5 (by decide) rfl rfl (by decide) rfl fl_RX12_13 ?_
    refine n_iconst (v := (nI 0)) dX12_countOf_8 rfl ?_
    refine n_aldR (lo := 1) (up := 12) dX12_countOf_9 (by decide) rfl (by omega) (by decide) rfl (fun m23 hm23 km23 => ?_)
    refine n_goto 165 dX12_countOf_10 (by decide) ?_
    exact n_iret dX12_countOf_165 rfl rfl ⟨_, rfl⟩
set_option maxRecDepth 100000 in
theorem y_X12_count (a1 : Int32) : zs_U MX12_count [.ref 80, .int a1] zs_Ri := by
  refine zs_Vof (by decide) (Nat.le_of_ble_eq_true rfl) ?_
  show zs_V MX12_count 0 [(0, .ref 80), (1, .int a1)] [] zs_Ri
  refine n_iload_n dX12_count_0 rfl rfl ?_
  refine n_i2l dX12_count_1 ?_
  refine n_lconst (v := 0) dX12_count_2 (by decide) ?_
  refine n_ldc2 (v := 11) dX12_count_3 cl_RX12_60 ?_
  refine n_callS [.long (Int32.toInt64 a1), .long 0, .long 11] [] (y_in (Int32.toInt64 a1) 0 11) dX12_count_6 kk_X12_count_X12_in ml_RX12_54 swX12_in rfl rfl (Nat.le_of_ble_eq_true rfl) ?_
  rintro _ ⟨x1, rfl, bx1, fx1⟩
  refine n_if_eq 20 dX12_count_9 (by decide) (fun h2 => ?_) (fun h2 => ?_)
  · refine n_aload_n dX12_count_20 rfl rfl ?_
    refine n_callV (T := TX12) (NN := 19) [] (y_X12_bad) dX12_count_21 kk_X12_count_X12_bad ml_RX12_62 mwX12_bad ewX12_bad (by decide) rfl rfl rfl rfl (Nat.le_of_ble_eq_true rfl) ?_
    rintro _ ⟨x3, rfl⟩
    exact n_iret dX12_count_24 rfl rfl ⟨_, rfl⟩
  · obtain ⟨k4, lk4, uk4, rfl⟩ := zs_inR (lo := 0) (hi := 11) (fx1 h2) (by decide) (by decide)
    refine n_aload_n dX12_count_12 rfl rfl ?_
    refine n_iload_n dX12_count_13 rfl rfl ?_
    refine n_callV (T := TX12) (NN := 19) [] (y_X12_countOf (nI k4)) dX12_count_14 kk_X12_count_X12_countOf ml_RX12_249 mwX12_countOf ewX12_countOf (by decide) rfl rfl rfl rfl (Nat.le_of_ble_eq_true rfl) ?_
    rintro _ ⟨x5, rfl⟩
    refine n_goto 24 dX12_count_17 (by decide) ?_
    exact n_iret dX12_count_24 rfl rfl ⟨_, rfl⟩
set_option maxRecDepth 100000 in
theorem y_X12_digest : zs_U MX12_digest [.ref 80] zs_Rl := by
  refine zs_Vof (by decide) (Nat.le_of_ble_eq_true rfl) ?_
  show zs_V MX12_digest 0 [(0, .ref 80)] [] zs_Rl
  have j263 : ∀ (n263 : Nat) (v263_1 : Int64) (c263 : Nat), 0 ≤ c263 → c263 ≤ 6 → 6 - c263 < n263 → zs_V MX12_digest 263 [(0, .ref 80), (1, .long v263_1), (3, .int (nI c263))] [] zs_Rl := by
    intro n263
    induction n263 with
    | zero => intro v263_1 c263 lc263 uc263 hn263; exact absurd hn263 (Nat.not_lt_zero _)
    | succ n263 ih263 =>
      intro v263_1 c263 lc263 uc263 hn263
      refine n_iload_n dX12_digest_263 rfl rfl ?_
      refine n_aload_n dX12_digest_264 rfl rfl ?_
      refine n_getR 1 82 (C := RX12) (T := TX12) (N := 19) dX12_digest_265 (by decide) rfl rfl (by decide) rfl fl_RX12_13 ?_
      refine n_bipush (v := (nI 46)) dX12_digest_268 rfl ?_
      refine n_aldR (lo := 0) (up := 6) dX12_digest_270 (by decide) rfl (by omega) (by decide) rfl (fun m1 hm1 km1 => ?_)
      refine n_ic_geN 327 dX12_digest_271 (by decide) (by omega) (by omega) (fun h2 => ?_) (fun h2 => ?_)
      · refine n_ldc2 (v := 31) dX12_digest_327 cl_RX12_254 ?_
        refine n_ldc2 (v := 31) dX12_digest_330 cl_RX12_254 ?_
        refine n_lload_n dX12_digest_333 rfl rfl ?_
        refine n_lmul dX12_digest_334 (fun x3 => ?_)
        refine n_aload_n dX12_digest_335 rfl rfl ?_
        refine n_getL 12 (C := RX12) (T := TX12) (N := 19) dX12_digest_336 (by decide) rfl rfl (by decide) rfl fl_RX12_229 (fun x4 => ?_)
        refine n_ladd dX12_digest_339 (fun x5 => ?_)
        refine n_lmul dX12_digest_340 (fun x6 => ?_)
        refine n_aload_n dX12_digest_341 rfl rfl ?_
        refine n_getL 13 (C := RX12) (T := TX12) (N := 19) dX12_digest_342 (by decide) rfl rfl (by decide) rfl fl_RX12_23 (fun x7 => ?_)
        refine n_ladd dX12_digest_345 (fun x8 => ?_)
        exact n_lret dX12_digest_346 rfl ⟨_, rfl⟩
      · refine n_ldc2 (v := 31) dX12_digest_274 cl_RX12_254 ?_
        refine n_ldc2 (v := 31) dX12_digest_277 cl_RX12_254 ?_
        refine n_ldc2 (v := 31) dX12_digest_280 cl_RX12_254 ?_
        refine n_lload_n dX12_digest_283 rfl rfl ?_
        refine n_lmul dX12_digest_284 (fun x9 => ?_)
        refine n_aload_n dX12_digest_285 rfl rfl ?_
        refine n_getR 1 82 (C := RX12) (T := TX12) (N := 19) dX12_digest_286 (by decide) rfl rfl (by decide) rfl fl_RX12_13 ?_
        refine n_bipush (v := (nI 47)) dX12_digest_289 rfl ?_
        refine n_iload_n dX12_digest_291 rfl rfl ?_
        refine n_iaddN dX12_digest_292 ?_
        refine n_ald dX12_digest_293 (by decide) rfl (by omega) (by decide) (fun x10 => ?_)
        refine n_i2l dX12_digest_294 ?_
        refine n_ladd dX12_digest_295 (fun x11 => ?_)
        refine n_lmul dX12_digest_296 (fun x12 => ?_)
        refine n_aload_n dX12_digest_297 rfl rfl ?_
        refine n_getR 1 82 (C := RX12) (T := TX12) (N := 19) dX12_digest_298 (by decide) rfl rfl (by decide) rfl fl_RX12_13 ?_
        refine n_bipush (v := (nI 53)) dX12_digest_301 rfl ?_
        refine n_iload_n dX12_digest_303 rfl rfl ?_
        refine n_iaddN dX12_digest_304 ?_
        refine n_ald dX12_digest_305 (by decide) rfl (by omega) (by decide) (fun x13 => ?_)
        refine n_i2l dX12_digest_306 ?_
        refine n_ladd dX12_digest_307 (fun x14 => ?_)
        refine n_lmul dX12_digest_308 (fun x15 => ?_)
        refine n_aload_n dX12_digest_309 rfl rfl ?_
        refine n_getR 1 82 (C := RX12) (T := TX12) (N := 19) dX12_digest_310 (by decide) rfl rfl (by decide) rfl fl_RX12_13 ?_
        refine n_bipush (v := (nI 59)) dX12_digest_313 rfl ?_
        refine n_iload_n dX12_digest_315 rfl rfl ?_
        refine n_iaddN dX12_digest_316 ?_
        refine n_ald dX12_digest_317 (by decide) rfl (by omega) (by decide) (fun x16 => ?_)
        refine n_i2l dX12_digest_318 ?_
        refine n_ladd dX12_digest_319 (fun x17 => ?_)
        refine n_lstore_n (lv' := [(1, .long x17), (0, .ref 80), (3, .int (nI c263))]) dX12_digest_320 rfl (by decide) rfl ?_
        refine n_iinc (v := (nI (c263 + 1))) (lv' := [(3, .int (nI (c263 + 1))), (1, .long x17), (0, .ref 80)]) dX12_digest_321 rfl (nI_1 c263) (by decide) rfl ?_
        refine n_goto 263 dX12_digest_324 (by decide) ?_
        exact zs_Vlv (ih263 x17 (c263 + 1) (by omega) (by omega) (by omega)) (zs_mc 2 rfl (zs_mc 1 rfl (zs_mc 0 rfl zs_mn)))
  have j182 : ∀ (n182 : Nat) (v182_1 : Int64) (c182 : Nat), 0 ≤ c182 → c182 ≤ 6 → 6 - c182 < n182 → zs_V MX12_digest 182 [(0, .ref 80), (1, .long v182_1), (3, .int (nI c182))] [] zs_Rl := by
    intro n182
    induction n182 with
    | zero => intro v182_1 c182 lc182 uc182 hn182; exact absurd hn182 (Nat.not_lt_zero _)
    | succ n182 ih182 =>
      intro v182_1 c182 lc182 uc182 hn182
      refine n_iload_n dX12_digest_182 rfl rfl ?_
      refine n_aload_n dX12_digest_183 rfl rfl ?_
      refine n_getR 1 82 (C := RX12) (T := TX12) (N := 19) dX12_digest_184 (by decide) rfl rfl (by decide) rfl fl_RX12_13 ?_
      refine n_bipush (v := (nI 21)) dX12_digest_187 rfl ?_
      refine n_aldR (lo := 0) (up := 6) dX12_digest_189 (by decide) rfl (by omega) (by decide) rfl (fun m18 hm18 km18 => ?_)
      refine n_ic_geN 261 dX12_digest_190 (by decide) (by omega) (by omega) (fun h19 => ?_) (fun h19 => ?_)
      · refine n_iconst (v := (nI 0)) dX12_digest_261 rfl ?_
        refine n_istore_n (lv' := [(3, .int (nI 0)), (0, .ref 80), (1, .long v182_1)]) dX12_digest_262 rfl (by decide) rfl ?_
        exact zs_Vlv (j263 _ v182_1 0 (by omega) (by omega) (Nat.lt_succ_self _)) (zs_mc 1 rfl (zs_mc 2 rfl (zs_mc 0 rfl zs_mn)))
      · refine n_ldc2 (v := 31) dX12_digest_193 cl_RX12_254 ?_
        refine n_ldc2 (v := 31) dX12_digest_196 cl_RX12_254 ?_
        refine n_ldc2 (v := 31) dX12_digest_199 cl_RX12_254 ?_
        refine n_ldc2 (v := 31) dX12_digest_202 cl_RX12_254 ?_
        refine n_lload_n dX12_digest_205 rfl rfl ?_
        refine n_lmul dX12_digest_206 (fun x20 => ?_)
        refine n_aload_n dX12_digest_207 rfl rfl ?_
        refine n_getR 1 82 (C := RX12) (T := TX12) (N := 19) dX12_digest_208 (by decide) rfl rfl (by decide) rfl fl_RX12_13 ?_
        refine n_bipush (v := (nI 22)) dX12_digest_211 rfl ?_
        refine n_iload_n dX12_digest_213 rfl rfl ?_
        refine n_iaddN dX12_digest_214 ?_
        refine n_ald dX12_digest_215 (by decide) rfl (by omega) (by decide) (fun x21 => ?_)
        refine n_i2l dX12_digest_216 ?_
        refine n_ladd dX12_digest_217 (fun x22 => ?_)
        refine n_lmul dX12_digest_218 (fun x23 => ?_)
        refine n_aload_n dX12_digest_219 rfl rfl ?_
        refine n_getR 1 82 (C := RX12) (T := TX12) (N := 19) dX12_digest_220 (by decide) rfl rfl (by decide) rfl fl_RX12_13 ?_
        refine n_bipush (v := (nI 28)) dX12_digest_223 rfl ?_
        refine n_iload_n dX12_digest_225 rfl rfl ?_
        refine n_iaddN dX12_digest_226 ?_
        refine n_ald dX12_digest_227 (by decide) rfl (by omega) (by decide) (fun x24 => ?_)
        refine n_i2l dX12_digest_228 ?_
        refine n_ladd dX12_digest_229 (fun x25 => ?_)
        refine n_lmul dX12_digest_230 (fun x26 => ?_)
        refine n_aload_n dX12_digest_231 rfl rfl ?_
        refine n_getR 1 82 (C := RX12) (T := TX12) (N := 19) dX12_digest_232 (by decide) rfl rfl (by decide) rfl fl_RX12_13 ?_
        refine n_bipush (v := (nI 34)) dX12_digest_235 rfl ?_
        refine n_iload_n dX12_digest_237 rfl rfl ?_
        refine n_iaddN dX12_digest_238 ?_
        refine n_ald dX12_digest_239 (by decide) rfl (by omega) (by decide) (fun x27 => ?_)
        refine n_i2l dX12_digest_240 ?_
        refine n_ladd dX12_digest_241 (fun x28 => ?_)
        refine n_lmul dX12_digest_242 (fun x29 => ?_)
        refine n_aload_n dX12_digest_243 rfl rfl ?_
        refine n_getR 1 82 (C := RX12) (T := TX12) (N := 19) dX12_digest_244 (by decide) rfl rfl (by decide) rfl fl_RX12_13 ?_
        refine n_bipush (v := (nI 40)) dX12_digest_247 rfl ?_
        refine n_iload_n dX12_digest_249 rfl rfl ?_
        refine n_iaddN dX12_digest_250 ?_
        refine n_ald dX12_digest_251 (by decide) rfl (by omega) (by decide) (fun x30 => ?_)
        refine n_i2l dX12_digest_252 ?_
        refine n_ladd dX12_digest_253 (fun x31 => ?_)
        refine n_lstore_n (lv' := [(1, .long x31), (0, .ref 80), (3, .int (nI c182))]) dX12_digest_254 rfl (by decide) rfl ?_
        refine n_iinc (v := (nI (c182 + 1))) (lv' := [(3, .int (nI (c182 + 1))), (1, .long x31), (0, .ref 80)]) dX12_digest_255 rfl (nI_1 c182) (by decide) rfl ?_
        refine n_goto 182 dX12_digest_258 (by decide) ?_
        exact zs_Vlv (ih182 x31 (c182 + 1) (by omega) (by omega) (by omega)) (zs_mc 2 rfl (zs_mc 1 rfl (zs_mc 0 rfl zs_mn)))
  have j131 : ∀ (n131 : Nat) (v131_1 : Int64) (c131 : Nat), 0 ≤ c131 → c131 ≤ 6 → 6 - c131 < n131 → zs_V MX12_digest 131 [(0, .ref 80), (1, .long v131_1), (3, .int (nI c131))] [] zs_Rl := by
    intro n131
    induction n131 with
    | zero => intro v131_1 c131 lc131 uc131 hn131; exact absurd hn131 (Nat.not_lt_zero _)
    | succ n131 ih131 =>
      intro v131_1 c131 lc131 uc131 hn131
      refine n_iload_n dX12_digest_131 rfl rfl ?_
      refine n_aload_n dX12_digest_132 rfl rfl ?_
      refine n_getR 1 82 (C := RX12) (T := TX12) (N := 19) dX12_digest_133 (by decide) rfl rfl (by decide) rfl fl_RX12_13 ?_
      refine n_bipush (v := (nI 8)) dX12_digest_136 rfl ?_
      refine n_aldR (lo := 0) (up := 6) dX12_digest_138 (by decide) rfl (by omega) (by decide) rfl (fun m32 hm32 km32 => ?_)
      refine n_ic_geN 180 dX12_digest_139 (by decide) (by omega) (by omega) (fun h33 => ?_) (fun h33 => ?_)
      · refine n_iconst (v := (nI 0)) dX12_digest_180 rfl ?_
        refine n_istore_n (lv' := [(3, .int (nI 0)), (0, .ref 80), (1, .long v131_1)]) dX12_digest_181 rfl (by decide) rfl ?_
        exact zs_Vlv (j182 _ v131_1 0 (by omega) (by omega) (Nat.lt_succ_self _)) (zs_mc 1 rfl (zs_mc 2 rfl (zs_mc 0 rfl zs_mn)))
      · refine n_ldc2 (v := 31) dX12_digest_142 cl_RX12_254 ?_
        refine n_ldc2 (v := 31) dX12_digest_145 cl_RX12_254 ?_
        refine n_lload_n dX12_digest_148 rfl rfl ?_
        refine n_lmul dX12_digest_149 (fun x34 => ?_)
        refine n_aload_n dX12_digest_150 rfl rfl ?_
        refine n_getR 1 82 (C := RX12) (T := TX12) (N := 19) dX12_digest_151 (by decide) rfl rfl (by decide) rfl fl_RX12_13 ?_
        refine n_bipush (v := (nI 9)) dX12_digest_154 rfl ?_
        refine n_iload_n dX12_digest_156 rfl rfl ?_
        refine n_iaddN dX12_digest_157 ?_
        refine n_aldR (lo := 0) (up := 30) dX12_digest_158 (by decide) rfl (by omega) (by decide) (rg_82_9_14 _ (by omega) (by omega)) (fun m35 hm35 km35 => ?_)
        refine n_i2l dX12_digest_159 ?_
        refine n_ladd dX12_digest_160 (fun x36 => ?_)
        refine n_lmul dX12_digest_161 (fun x37 => ?_)
        refine n_aload_n dX12_digest_162 rfl rfl ?_
        refine n_getR 1 82 (C := RX12) (T := TX12) (N := 19) dX12_digest_163 (by decide) rfl rfl (by decide) rfl fl_RX12_13 ?_
        refine n_bipush (v := (nI 15)) dX12_digest_166 rfl ?_
        refine n_iload_n dX12_digest_168 rfl rfl ?_
        refine n_iaddN dX12_digest_169 ?_
        refine n_ald dX12_digest_170 (by decide) rfl (by omega) (by decide) (fun x38 => ?_)
        refine n_i2l dX12_digest_171 ?_
        refine n_ladd dX12_digest_172 (fun x39 => ?_)
        refine n_lstore_n (lv' := [(1, .long x39), (0, .ref 80), (3, .int (nI c131))]) dX12_digest_173 rfl (by decide) rfl ?_
        refine n_iinc (v := (nI (c131 + 1))) (lv' := [(3, .int (nI (c131 + 1))), (1, .long x39), (0, .ref 80)]) dX12_digest_174 rfl (nI_1 c131) (by decide) rfl ?_
        refine n_goto 131 dX12_digest_177 (by decide) ?_
        exact zs_Vlv (ih131 x39 (c131 + 1) (by omega) (by omega) (by omega)) (zs_mc 2 rfl (zs_mc 1 rfl (zs_mc 0 rfl zs_mn)))
  have j67 : ∀ (n67 : Nat) (v67_1 : Int64) (c67 : Nat), 0 ≤ c67 → c67 ≤ 5 → 5 - c67 < n67 → zs_V MX12_digest 67 [(0, .ref 80), (1, .long v67_1), (3, .int (nI c67))] [] zs_Rl := by
    intro n67
    induction n67 with
    | zero => intro v67_1 c67 lc67 uc67 hn67; exact absurd hn67 (Nat.not_lt_zero _)
    | succ n67 ih67 =>
      intro v67_1 c67 lc67 uc67 hn67
      refine n_iload_n dX12_digest_67 rfl rfl ?_
      refine n_aload_n dX12_digest_68 rfl rfl ?_
      refine n_getR 1 82 (C := RX12) (T := TX12) (N := 19) dX12_digest_69 (by decide) rfl rfl (by decide) rfl fl_RX12_13 ?_
      refine n_iconst (v := (nI 2)) dX12_digest_72 rfl ?_
      refine n_aldR (lo := 0) (up := 5) dX12_digest_73 (by decide) rfl (by omega) (by decide) rfl (fun m40 hm40 km40 => ?_)
      refine n_ic_geN 129 dX12_digest_74 (by decide) (by omega) (by omega) (fun h41 => ?_) (fun h41 => ?_)
      · refine n_iconst (v := (nI 0)) dX12_digest_129 rfl ?_
        refine n_istore_n (lv' := [(3, .int (nI 0)), (0, .ref 80), (1, .long v67_1)]) dX12_digest_130 rfl (by decide) rfl ?_
        exact zs_Vlv (j131 _ v67_1 0 (by omega) (by omega) (Nat.lt_succ_self _)) (zs_mc 1 rfl (zs_mc 2 rfl (zs_mc 0 rfl zs_mn)))
      · refine n_ldc2 (v := 31) dX12_digest_77 cl_RX12_254 ?_
        refine n_ldc2 (v := 31) dX12_digest_80 cl_RX12_254 ?_
        refine n_ldc2 (v := 31) dX12_digest_83 cl_RX12_254 ?_
        refine n_lload_n dX12_digest_86 rfl rfl ?_
        refine n_lmul dX12_digest_87 (fun x42 => ?_)
        refine n_aload_n dX12_digest_88 rfl rfl ?_
        refine n_getR 1 82 (C := RX12) (T := TX12) (N := 19) dX12_digest_89 (by decide) rfl rfl (by decide) rfl fl_RX12_13 ?_
        refine n_iconst (v := (nI 3)) dX12_digest_92 rfl ?_
        refine n_iload_n dX12_digest_93 rfl rfl ?_
        refine n_iaddN dX12_digest_94 ?_
        refine n_ald dX12_digest_95 (by decide) rfl (by omega) (by decide) (fun x43 => ?_)
        refine n_i2l dX12_digest_96 ?_
        refine n_ladd dX12_digest_97 (fun x44 => ?_)
        refine n_lmul dX12_digest_98 (fun x45 => ?_)
        refine n_aload_n dX12_digest_99 rfl rfl ?_
        refine n_getR 0 81 (C := RX12) (T := TX12) (N := 19) dX12_digest_100 (by decide) rfl rfl (by decide) rfl fl_RX12_7 ?_
        refine n_bipush (v := (nI 15)) dX12_digest_103 rfl ?_
        refine n_iload_n dX12_digest_105 rfl rfl ?_
        refine n_iaddN dX12_digest_106 ?_
        refine n_ald dX12_digest_107 (by decide) rfl (by omega) (by decide) (fun x46 => ?_)
        refine n_i2l dX12_digest_108 ?_
        refine n_ladd dX12_digest_109 (fun x47 => ?_)
        refine n_lmul dX12_digest_110 (fun x48 => ?_)
        refine n_aload_n dX12_digest_111 rfl rfl ?_
        refine n_getR 0 81 (C := RX12) (T := TX12) (N := 19) dX12_digest_112 (by decide) rfl rfl (by decide) rfl fl_RX12_7 ?_
        refine n_bipush (v := (nI 20)) dX12_digest_115 rfl ?_
        refine n_iload_n dX12_digest_117 rfl rfl ?_
        refine n_iaddN dX12_digest_118 ?_
        refine n_ald dX12_digest_119 (by decide) rfl (by omega) (by decide) (fun x49 => ?_)
        refine n_i2l dX12_digest_120 ?_
        refine n_ladd dX12_digest_121 (fun x50 => ?_)
        refine n_lstore_n (lv' := [(1, .long x50), (0, .ref 80), (3, .int (nI c67))]) dX12_digest_122 rfl (by decide) rfl ?_
        refine n_iinc (v := (nI (c67 + 1))) (lv' := [(3, .int (nI (c67 + 1))), (1, .long x50), (0, .ref 80)]) dX12_digest_123 rfl (nI_1 c67) (by decide) rfl ?_
        refine n_goto 67 dX12_digest_126 (by decide) ?_
        exact zs_Vlv (ih67 x50 (c67 + 1) (by omega) (by omega) (by omega)) (zs_mc 2 rfl (zs_mc 1 rfl (zs_mc 0 rfl zs_mn)))
  have j33 : ∀ (n33 : Nat) (v33_1 : Int64) (c33 : Nat), 0 ≤ c33 → c33 ≤ 12 → 12 - c33 < n33 → zs_V MX12_digest 33 [(0, .ref 80), (1, .long v33_1), (3, .int (nI c33))] [] zs_Rl := by
    intro n33
    induction n33 with
    | zero => intro v33_1 c33 lc33 uc33 hn33; exact absurd hn33 (Nat.not_lt_zero _)
    | succ n33 ih33 =>
      intro v33_1 c33 lc33 uc33 hn33
      refine n_iload_n dX12_digest_33 rfl rfl ?_
      refine n_aload_n dX12_digest_34 rfl rfl ?_
      refine n_getR 1 82 (C := RX12) (T := TX12) (N := 19) dX12_digest_35 (by decide) rfl rfl (by decide) rfl fl_RX12_13 ?_
      refine n_iconst (v := (nI 0)) dX12_digest_38 rfl ?_
      refine n_aldR (lo := 1) (up := 12) dX12_digest_39 (by decide) rfl (by omega) (by decide) rfl (fun m51 hm51 km51 => ?_)
      refine n_ic_geN 65 dX12_digest_40 (by decide) (by omega) (by omega) (fun h52 => ?_) (fun h52 => ?_)
      · refine n_iconst (v := (nI 0)) dX12_digest_65 rfl ?_
        refine n_istore_n (lv' := [(3, .int (nI 0)), (0, .ref 80), (1, .long v33_1)]) dX12_digest_66 rfl (by decide) rfl ?_
        exact zs_Vlv (j67 _ v33_1 0 (by omega) (by omega) (Nat.lt_succ_self _)) (zs_mc 1 rfl (zs_mc 2 rfl (zs_mc 0 rfl zs_mn)))
      · refine n_ldc2 (v := 31) dX12_digest_43 cl_RX12_254 ?_
        refine n_lload_n dX12_digest_46 rfl rfl ?_
        refine n_lmul dX12_digest_47 (fun x53 => ?_)
        refine n_aload_n dX12_digest_48 rfl rfl ?_
        refine n_getR 0 81 (C := RX12) (T := TX12) (N := 19) dX12_digest_49 (by decide) rfl rfl (by decide) rfl fl_RX12_7 ?_
        refine n_iconst (v := (nI 3)) dX12_digest_52 rfl ?_
        refine n_iload_n dX12_digest_53 rfl rfl ?_
        refine n_iaddN dX12_digest_54 ?_
        refine n_aldR (lo := 0) (up := 9) dX12_digest_55 (by decide) rfl (by omega) (by decide) (rg_81_3_14 _ (by omega) (by omega)) (fun m54 hm54 km54 => ?_)
        refine n_i2l dX12_digest_56 ?_
        refine n_ladd dX12_digest_57 (fun x55 => ?_)
        refine n_lstore_n (lv' := [(1, .long x55), (0, .ref 80), (3, .int (nI c33))]) dX12_digest_58 rfl (by decide) rfl ?_
        refine n_iinc (v := (nI (c33 + 1))) (lv' := [(3, .int (nI (c33 + 1))), (1, .long x55), (0, .ref 80)]) dX12_digest_59 rfl (nI_1 c33) (by decide) rfl ?_
        refine n_goto 33 dX12_digest_62 (by decide) ?_
        exact zs_Vlv (ih33 x55 (c33 + 1) (by omega) (by omega) (by omega)) (zs_mc 2 rfl (zs_mc 1 rfl (zs_mc 0 rfl zs_mn)))
  have j6 : ∀ (n6 : Nat) (v6_1 : Int64) (c6 : Int32), zs_mu c6 < n6 → zs_V MX12_digest 6 [(0, .ref 80), (1, .long v6_1), (3, .int c6)] [] zs_Rl := by
    intro n6
    induction n6 with
    | zero => intro v6_1 c6 hn6; exact absurd hn6 (Nat.not_lt_zero _)
    | succ n6 ih6 =>
      intro v6_1 c6 hn6
      refine n_iload_n dX12_digest_6 rfl rfl ?_
      refine n_bipush (v := (nI 12)) dX12_digest_7 rfl ?_
      refine n_ic_ge 31 dX12_digest_9 (by decide) (fun h56 => ?_) (fun h56 => ?_)
      · refine n_iconst (v := (nI 0)) dX12_digest_31 rfl ?_
        refine n_istore_n (lv' := [(3, .int (nI 0)), (0, .ref 80), (1, .long v6_1)]) dX12_digest_32 rfl (by decide) rfl ?_
        exact zs_Vlv (j33 _ v6_1 0 (by omega) (by omega) (Nat.lt_succ_self _)) (zs_mc 1 rfl (zs_mc 2 rfl (zs_mc 0 rfl zs_mn)))
      · have hd6 := zs_muA h56 hn6
        refine n_ldc2 (v := 31) dX12_digest_12 cl_RX12_254 ?_
        refine n_lload_n dX12_digest_15 rfl rfl ?_
        refine n_lmul dX12_digest_16 (fun x57 => ?_)
        refine n_aload_n dX12_digest_17 rfl rfl ?_
        refine n_iload_n dX12_digest_18 rfl rfl ?_
        refine n_callV (T := TX12) (NN := 19) [.long x57] (y_X12_countOf c6) dX12_digest_19 kk_X12_digest_X12_countOf ml_RX12_249 mwX12_countOf ewX12_countOf (by decide) rfl rfl rfl rfl (Nat.le_of_ble_eq_true rfl) ?_
        rintro _ ⟨x58, rfl⟩
        refine n_i2l dX12_digest_22 ?_
        refine n_ladd dX12_digest_23 (fun x59 => ?_)
        refine n_lstore_n (lv' := [(1, .long x59), (0, .ref 80), (3, .int c6)]) dX12_digest_24 rfl (by decide) rfl ?_
        refine n_iinc (v := (c6 + Int32.ofInt 1)) (lv' := [(3, .int (c6 + Int32.ofInt 1)), (1, .long x59), (0, .ref 80)]) dX12_digest_25 rfl rfl (by decide) rfl ?_
        refine n_goto 6 dX12_digest_28 (by decide) ?_
        exact zs_Vlv (ih6 x59 (c6 + Int32.ofInt 1) hd6) (zs_mc 2 rfl (zs_mc 1 rfl (zs_mc 0 rfl zs_mn)))
  refine n_ldc2 (v := 1787) dX12_digest_0 cl_RX12_252 ?_
  refine n_lstore_n (lv' := [(1, .long 1787), (0, .ref 80)]) dX12_digest_3 rfl (by decide) rfl ?_
  refine n_iconst (v := (nI 0)) dX12_digest_4 rfl ?_
  refine n_istore_n (lv' := [(3, .int (nI 0)), (1, .long 1787), (0, .ref 80)]) dX12_digest_5 rfl (by decide) rfl ?_
  exact zs_Vlv (j6 _ 1787 (nI 0) (Nat.lt_succ_self _)) (zs_mc 2 rfl (zs_mc 1 rfl (zs_mc 0 rfl zs_mn)))
set_option maxRecDepth 100000 in
theorem y_X12_of (a1 : Int32) (a2 : Int32) : zs_U MX12_of [.ref 80, .int a1, .int a2] zs_Ri := by
  refine zs_Vof (by decide) (Nat.le_of_ble_eq_true rfl) ?_
  show zs_V MX12_of 0 [(0, .ref 80), (1, .int a1), (2, .int a2)] [] zs_Ri
  refine n_aload_n dX12_of_0 rfl rfl ?_
  refine n_iload_n dX12_of_1 rfl rfl ?_
  refine n_callV (T := TX12) (NN := 19) [] (y_isEye a1) dX12_of_2 kk_X12_of_X12_isEye ml_RX12_185 mwX12_isEye ewX12_isEye (by decide) rfl rfl rfl rfl (Nat.le_of_ble_eq_true rfl) ?_
  rintro _ ⟨x1, rfl, bx1, fx1⟩
  refine n_if_eq 20 dX12_of_5 (by decide) (fun h2 => ?_) (fun h2 => ?_)
  · refine n_aload_n dX12_of_20 rfl rfl ?_
    refine n_callV (T := TX12) (NN := 19) [] (y_X12_bad) dX12_of_21 kk_X12_of_X12_bad ml_RX12_62 mwX12_bad ewX12_bad (by decide) rfl rfl rfl rfl (Nat.le_of_ble_eq_true rfl) ?_
    rintro _ ⟨x3, rfl⟩
    exact n_iret dX12_of_24 rfl rfl ⟨_, rfl⟩
  · obtain ⟨k4, uk4, rfl⟩ := fx1 h2
    refine n_iload_n dX12_of_8 rfl rfl ?_
    refine n_i2l dX12_of_9 ?_
    refine n_lconst (v := 0) dX12_of_10 (by decide) ?_
    refine n_ldc2 (v := 2) dX12_of_11 cl_RX12_50 ?_
    refine n_callS [.long (Int32.toInt64 a2), .long 0, .long 2] [] (y_in (Int32.toInt64 a2) 0 2) dX12_of_14 kk_X12_of_X12_in ml_RX12_54 swX12_in rfl rfl (Nat.le_of_ble_eq_true rfl) ?_
    rintro _ ⟨x5, rfl, bx5, fx5⟩
    refine n_if_ne 25 dX12_of_17 (by decide) (fun h6 => ?_) (fun h6 => ?_)
    · obtain ⟨k7, lk7, uk7, rfl⟩ := zs_inR (lo := 0) (hi := 2) (fx5 h6) (by decide) (by decide)
      refine n_iload_n dX12_of_25 rfl rfl ?_
      refine n_if_neN 40 dX12_of_26 (by decide) (by omega) (fun h8 => ?_) (fun h8 => ?_)
      · refine n_iload_n dX12_of_40 rfl rfl ?_
        refine n_iconst (v := (nI 1)) dX12_of_41 rfl ?_
        refine n_ic_neN 57 dX12_of_42 (by decide) (by omega) (by omega) (fun h9 => ?_) (fun h9 => ?_)
        · refine n_aload_n dX12_of_57 rfl rfl ?_
          refine n_getR 0 81 (C := RX12) (T := TX12) (N := 19) dX12_of_58 (by decide) rfl rfl (by decide) rfl fl_RX12_7 ?_
          refine n_bipush (v := (nI 20)) dX12_of_61 rfl ?_
          refine n_iload_n dX12_of_63 rfl rfl ?_
          refine n_iaddN dX12_of_64 ?_
          refine n_ald dX12_of_65 (by decide) rfl (by omega) (by decide) (fun x10 => ?_)
          exact n_iret dX12_of_66 rfl rfl ⟨_, rfl⟩
        · refine n_aload_n dX12_of_45 rfl rfl ?_
          refine n_getR 0 81 (C := RX12) (T := TX12) (N := 19) dX12_of_46 (by decide) rfl rfl (by decide) rfl fl_RX12_7 ?_
          refine n_bipush (v := (nI 15)) dX12_of_49 rfl ?_
          refine n_iload_n dX12_of_51 rfl rfl ?_
          refine n_iaddN dX12_of_52 ?_
          refine n_ald dX12_of_53 (by decide) rfl (by omega) (by decide) (fun x11 => ?_)
          refine n_goto 66 dX12_of_54 (by decide) ?_
          exact n_iret dX12_of_66 rfl rfl ⟨_, rfl⟩
      · refine n_aload_n dX12_of_29 rfl rfl ?_
        refine n_getR 1 82 (C := RX12) (T := TX12) (N := 19) dX12_of_30 (by decide) rfl rfl (by decide) rfl fl_RX12_13 ?_
        refine n_iconst (v := (nI 3)) dX12_of_33 rfl ?_
        refine n_iload_n dX12_of_34 rfl rfl ?_
        refine n_iaddN dX12_of_35 ?_
        refine n_ald dX12_of_36 (by decide) rfl (by omega) (by decide) (fun x12 => ?_)
        refine n_goto 66 dX12_of_37 (by decide) ?_
        exact n_iret dX12_of_66 rfl rfl ⟨_, rfl⟩
    · refine n_aload_n dX12_of_20 rfl rfl ?_
      refine n_callV (T := TX12) (NN := 19) [] (y_X12_bad) dX12_of_21 kk_X12_of_X12_bad ml_RX12_62 mwX12_bad ewX12_bad (by decide) rfl rfl rfl rfl (Nat.le_of_ble_eq_true rfl) ?_
      rintro _ ⟨x13, rfl⟩
      exact n_iret dX12_of_24 rfl rfl ⟨_, rfl⟩
set_option maxRecDepth 100000 in
theorem y_X12_drawn (a1 : Int32) : zs_U MX12_drawn [.ref 80, .int a1] zs_Ri := by
  refine zs_Vof (by decide) (Nat.le_of_ble_eq_true rfl) ?_
  show zs_V MX12_drawn 0 [(0, .ref 80), (1, .int a1)] [] zs_Ri
  refine n_aload_n dX12_drawn_0 rfl rfl ?_
  refine n_iload_n dX12_drawn_1 rfl rfl ?_
  refine n_callV (T := TX12) (NN := 19) [] (y_isFrame a1) dX12_drawn_2 kk_X12_drawn_X12_isFrame ml_RX12_181 mwX12_isFrame ewX12_isFrame (by decide) rfl rfl rfl rfl (Nat.le_of_ble_eq_true rfl) ?_
  rintro _ ⟨x1, rfl, bx1, fx1⟩
  refine n_if_eq 19 dX12_drawn_5 (by decide) (fun h2 => ?_) (fun h2 => ?_)
  · refine n_aload_n dX12_drawn_19 rfl rfl ?_
    refine n_callV (T := TX12) (NN := 19) [] (y_X12_bad) dX12_drawn_20 kk_X12_drawn_X12_bad ml_RX12_62 mwX12_bad ewX12_bad (by decide) rfl rfl rfl rfl (Nat.le_of_ble_eq_true rfl) ?_
    rintro _ ⟨x3, rfl⟩
    exact n_iret dX12_drawn_23 rfl rfl ⟨_, rfl⟩
  · obtain ⟨k4, uk4, rfl⟩ := fx1 h2
    refine n_aload_n dX12_drawn_8 rfl rfl ?_
    refine n_getR 0 81 (C := RX12) (T := TX12) (N := 19) dX12_drawn_9 (by decide) rfl rfl (by decide) rfl fl_RX12_7 ?_
    refine n_iconst (v := (nI 3)) dX12_drawn_12 rfl ?_
    refine n_iload_n dX12_drawn_13 rfl rfl ?_
    refine n_iaddN dX12_drawn_14 ?_
    refine n_aldR (lo := 0) (up := 9) dX12_drawn_15 (by decide) rfl (by omega) (by decide) (rg_81_3_14 _ (by omega) (by omega)) (fun m5 hm5 km5 => ?_)
    refine n_goto 23 dX12_drawn_16 (by decide) ?_
    exact n_iret dX12_drawn_23 rfl rfl ⟨_, rfl⟩
