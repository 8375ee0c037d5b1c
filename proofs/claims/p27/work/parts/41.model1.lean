set_option maxRecDepth 100000 in
theorem z_inL (S : zs_S) (v lo hi : Int64) : zs_Ci MX12_in [.long v, .long lo, .long hi] S (fun x S2 => x = zs_b (lo ≤ v ∧ v ≤ hi) ∧ S = S2) := by
  refine zs_C.of (by decide) (Nat.le_of_ble_eq_true rfl) ?_
  show zs_P MX12_in 0 [(0, .long v), (2, .long lo), (4, .long hi)] [] S _
  refine g_lload_n dX12_in_0 rfl rfl ?_
  refine g_lload_n dX12_in_1 rfl rfl ?_
  refine g_lcmp dX12_in_2 ?_
  refine g_if_lt 17 dX12_in_3 (by decide) (fun h1 => ?_) (fun h1 => ?_)
  · refine g_iconst (v := (nI 0)) dX12_in_17 rfl ?_
    refine g_iret dX12_in_18 rfl rfl ?_
    exact ⟨_, rfl, (zs_bf (fun q => absurd q.1 (Int64.not_le.mpr ((lg_cmp_lt _ _).mp h1)))).symm, rfl⟩
  · refine g_lload_n dX12_in_6 rfl rfl ?_
    refine g_lload dX12_in_7 rfl ?_
    refine g_lcmp dX12_in_9 ?_
    refine g_if_gt 17 dX12_in_10 (by decide) (fun h2 => ?_) (fun h2 => ?_)
    · refine g_iconst (v := (nI 0)) dX12_in_17 rfl ?_
      refine g_iret dX12_in_18 rfl rfl ?_
      exact ⟨_, rfl, (zs_bf (fun q => absurd q.2 (Int64.not_le.mpr ((lg_cmp_gt _ _).mp h2)))).symm, rfl⟩
    · refine g_iconst (v := (nI 1)) dX12_in_13 rfl ?_
      refine g_goto 18 dX12_in_14 (by decide) ?_
      refine g_iret dX12_in_18 rfl rfl ?_
      exact ⟨_, rfl, (zs_bt ⟨Int64.not_lt.mp (mt (lg_cmp_lt _ _).mpr h1), Int64.not_lt.mp (mt (lg_cmp_gt _ _).mpr h2)⟩).symm, rfl⟩
theorem zs_lo0 {a j lo up : Nat} (h : zs_rg a j = some (lo, up)) (hn : ¬ (a = 82 ∧ j = 0)) : lo = 0 := by
  unfold zs_rg at h
  cases e1 : Nat.beq a 81 with
  | true =>
    rw [e1] at h
    cases e2 : (Nat.beq (j % 25) 0 || Nat.beq (j % 25) 2) with
    | true => rw [e2] at h; simp only [cond_true, Option.some.injEq, Prod.mk.injEq] at h; exact h.1.symm
    | false =>
      rw [e2] at h
      cases e3 : (Nat.ble 3 (j % 25) && Nat.ble (j % 25) 14) with
      | true => rw [e3] at h; simp only [cond_true, cond_false, Option.some.injEq, Prod.mk.injEq] at h; exact h.1.symm
      | false => rw [e3] at h; simp at h
  | false =>
    rw [e1] at h
    cases e4 : Nat.beq a 82 with
    | true =>
      have ha : a = 82 := Nat.eq_of_beq_eq_true e4
      have e0 : Nat.beq j 0 = false := by rw [Bool.eq_false_iff]; exact fun z => hn ⟨ha, Nat.eq_of_beq_eq_true z⟩
      rw [e4, e0] at h
      cases e5 : Nat.beq (j % 66) 0 with
      | true => rw [e5] at h; simp only [cond_true, cond_false, Option.some.injEq, Prod.mk.injEq] at h; exact h.1.symm
      | false =>
        rw [e5] at h
        cases e6 : Nat.beq (j % 66) 2 with
        | true => rw [e6] at h; simp only [cond_true, cond_false, Option.some.injEq, Prod.mk.injEq] at h; exact h.1.symm
        | false =>
          rw [e6] at h
          cases e7 : (Nat.beq (j % 66) 8 || Nat.beq (j % 66) 21 || Nat.beq (j % 66) 46) with
          | true => rw [e7] at h; simp only [cond_true, cond_false, Option.some.injEq, Prod.mk.injEq] at h; exact h.1.symm
          | false =>
            rw [e7] at h
            cases e8 : (Nat.ble 9 (j % 66) && Nat.ble (j % 66) 14) with
            | true => rw [e8] at h; simp only [cond_true, cond_false, Option.some.injEq, Prod.mk.injEq] at h; exact h.1.symm
            | false =>
              rw [e8] at h
              cases e9 : Nat.beq (j % 66) 65 with
              | true => rw [e9] at h; simp only [cond_true, cond_false, Option.some.injEq, Prod.mk.injEq] at h; exact h.1.symm
              | false => rw [e9] at h; simp at h
    | false =>
      rw [e4] at h
      cases e5 : Nat.beq a 80 with
      | false => rw [e5] at h; simp at h
      | true =>
        rw [e5] at h
        cases e6 : (Nat.beq j 3 || Nat.beq j 5 || Nat.beq j 6) with
        | true => rw [e6] at h; simp only [cond_true, cond_false, Option.some.injEq, Prod.mk.injEq] at h; exact h.1.symm
        | false =>
          rw [e6] at h
          cases e7 : (Nat.beq j 7 || Nat.beq j 8) with
          | true => rw [e7] at h; simp only [cond_true, cond_false, Option.some.injEq, Prod.mk.injEq] at h; exact h.1.symm
          | false =>
            rw [e7] at h
            cases e8 : Nat.beq j 9 with
            | true => rw [e8] at h; simp only [cond_true, cond_false, Option.some.injEq, Prod.mk.injEq] at h; exact h.1.symm
            | false =>
              rw [e8] at h
              cases e9 : Nat.beq j 10 with
              | true => rw [e9] at h; simp only [cond_true, cond_false, Option.some.injEq, Prod.mk.injEq] at h; exact h.1.symm
              | false => rw [e9] at h; simp at h
theorem zs_rgc {i j : Nat} (h : i % 25 = j % 25) : zs_rg 81 i = zs_rg 81 j := by
  show (bif Nat.beq (i % 25) 0 || Nat.beq (i % 25) 2 then some (0, 11) else bif Nat.ble 3 (i % 25) && Nat.ble (i % 25) 14 then some (0, 9) else none) = (bif Nat.beq (j % 25) 0 || Nat.beq (j % 25) 2 then some (0, 11) else bif Nat.ble 3 (j % 25) && Nat.ble (j % 25) 14 then some (0, 9) else none)
  rw [h]
theorem g_aldX {M : zs_M} {pc : Nat} {lv : List (Nat × Value)} {st : List Value} {S : zs_S} {Q : Option Value → zs_S → Prop} {i j : Nat} (hJ : zs_J S) (hd : decode M.2.1 pc = .ok (.iaload, 1)) (hi : i < 700) (hj : i % 25 = j % 25) (k : ∀ v, zs_ok 81 j v → zs_P M (pc + 1) lv (.int v :: st) S Q) : zs_P M pc lv (.int (nI i) :: .ref 81 :: st) S Q := g_ialdN (v := S.1 81 i) hd (by decide) rfl hi (by decide) rfl (k _ ⟨fun lo up hr => hJ.1 81 i lo up ((zs_rgc hj).trans hr), fun z => absurd z (by decide), by decide⟩)
/-- only the slots have changed -/
def zs_oS (S S2 : zs_S) : Prop := zs_J S2 ∧ zs_fm S S2 ∧ S2.1 82 = S.1 82 ∧ S2.1 80 = S.1 80
theorem zs_uo {f : Nat → Nat → Int32} {a j b : Nat} {v : Int32} (h : b ≠ a) : zs_up f a j v b = f b := funext fun i => zs_up_n (fun q => h q.1)
theorem zs_oS.up {S0 S : zs_S} {i : Nat} {v : Int32} (h : zs_oS S0 S) (hv : zs_ok 81 i v) : zs_oS S0 (zs_up S.1 81 i v, S.2) := ⟨h.1.up hv, h.2.1.tr (zs_fm.up rfl), (zs_uo (f := S.1) (a := 81) (j := i) (v := v) (b := 82) (by decide)).trans h.2.2.1, (zs_uo (f := S.1) (a := 81) (j := i) (v := v) (b := 80) (by decide)).trans h.2.2.2⟩
theorem zs_oS.rf {S : zs_S} (hJ : zs_J S) : zs_oS S S := ⟨hJ, zs_fm.rf, rfl, rfl⟩
theorem rg_81_695_699 (j : Nat) (h1 : 695 ≤ j) (h2 : j ≤ 699) : zs_rg 81 j = none := by
  obtain rfl | rfl | rfl | rfl | rfl : j = 695 ∨ j = 696 ∨ j = 697 ∨ j = 698 ∨ j = 699 := by omega
  all_goals rfl
theorem rg_81_690_694 (j : Nat) (h1 : 690 ≤ j) (h2 : j ≤ 694) : zs_rg 81 j = none := by
  obtain rfl | rfl | rfl | rfl | rfl : j = 690 ∨ j = 691 ∨ j = 692 ∨ j = 693 ∨ j = 694 := by omega
  all_goals rfl
theorem rg_81_675_675 (j : Nat) (h1 : 675 ≤ j) (h2 : j ≤ 675) : zs_rg 81 j = some (0, 11) := by
  obtain rfl : j = 675 := by omega
  all_goals rfl
theorem rg_81_678_689 (j : Nat) (h1 : 678 ≤ j) (h2 : j ≤ 689) : zs_rg 81 j = some (0, 9) := by
  obtain rfl | rfl | rfl | rfl | rfl | rfl | rfl | rfl | rfl | rfl | rfl | rfl : j = 678 ∨ j = 679 ∨ j = 680 ∨ j = 681 ∨ j = 682 ∨ j = 683 ∨ j = 684 ∨ j = 685 ∨ j = 686 ∨ j = 687 ∨ j = 688 ∨ j = 689 := by omega
  all_goals rfl
theorem rg_81_676_676 (j : Nat) (h1 : 676 ≤ j) (h2 : j ≤ 676) : zs_rg 81 j = none := by
  obtain rfl : j = 676 := by omega
  all_goals rfl
theorem rg_81_3_14 (j : Nat) (h1 : 3 ≤ j) (h2 : j ≤ 14) : zs_rg 81 j = some (0, 9) := by
  obtain rfl | rfl | rfl | rfl | rfl | rfl | rfl | rfl | rfl | rfl | rfl | rfl : j = 3 ∨ j = 4 ∨ j = 5 ∨ j = 6 ∨ j = 7 ∨ j = 8 ∨ j = 9 ∨ j = 10 ∨ j = 11 ∨ j = 12 ∨ j = 13 ∨ j = 14 := by omega
  all_goals rfl
theorem rg_82_9_14 (j : Nat) (h1 : 9 ≤ j) (h2 : j ≤ 14) : zs_rg 82 j = some (0, 30) := by
  obtain rfl | rfl | rfl | rfl | rfl | rfl : j = 9 ∨ j = 10 ∨ j = 11 ∨ j = 12 ∨ j = 13 ∨ j = 14 := by omega
  all_goals rfl
