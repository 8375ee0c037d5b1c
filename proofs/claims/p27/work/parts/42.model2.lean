set_option maxRecDepth 100000 in
theorem y_bg1 (S : zs_S) (n t : Nat) (k : Int32) (Q : Option Value → zs_S → Prop) (hk : zs_P MX12_begins 24 [(4, .int (nI 25)), (0, .ref 80), (1, .int (nI n)), (2, .int k), (3, .int (nI t))] [] (zs_fi S 81 25 (nI 0)) Q) : ∀ (d i : Nat), i + d = 25 → zs_P MX12_begins 3 [(4, .int (nI i)), (0, .ref 80), (1, .int (nI n)), (2, .int k), (3, .int (nI t))] [] (zs_fi S 81 i (nI 0)) Q := by
  intro d
  induction d with
  | zero =>
    intro i hi
    obtain rfl : i = 25 := by omega
    refine g_iload dX12_begins_3 rfl ?_
    refine g_bipush (v := (nI 25)) dX12_begins_5 rfl ?_
    refine g_ic_geN 24 dX12_begins_7 (by decide) (by omega) (by omega) (fun _ => ?_) (fun z => absurd z (by omega))
    exact hk
  | succ d ih =>
    intro i hi
    refine g_iload dX12_begins_3 rfl ?_
    refine g_bipush (v := (nI 25)) dX12_begins_5 rfl ?_
    refine g_ic_geN 24 dX12_begins_7 (by decide) (by omega) (by omega) (fun z => absurd z (by omega)) (fun _ => ?_)
    refine g_aload_n dX12_begins_10 rfl rfl ?_
    refine g_getR 0 (81) (C := RX12) (T := TX12) (N := 19) dX12_begins_11 (by decide) rfl rfl (by decide) rfl fl_RX12_7 ?_
    refine g_iload dX12_begins_14 rfl ?_
    refine g_iconst (v := (nI 0)) dX12_begins_16 rfl ?_
    refine g_iastN dX12_begins_17 (by decide) rfl (by omega) (by decide) ?_
    refine g_iinc (v := (nI (i + 1))) (lv' := [(4, .int (nI (i + 1))), (0, .ref 80), (1, .int (nI n)), (2, .int k), (3, .int (nI t))]) dX12_begins_18 rfl (nI_1 i) (by decide) rfl ?_
    refine g_goto 3 dX12_begins_21 (by decide) ?_
    exact zs_Pst (ih (i + 1) (by omega)) zs_fi1
set_option maxRecDepth 100000 in
theorem y_bg2 (S : zs_S) (n t : Nat) (k : Int32) (Q : Option Value → zs_S → Prop) (hk : zs_P MX12_begins 48 [(4, .int (nI 66)), (0, .ref 80), (1, .int (nI n)), (2, .int k), (3, .int (nI t))] [] (zs_fi S 82 66 (nI 0)) Q) : ∀ (d i : Nat), i + d = 66 → zs_P MX12_begins 27 [(4, .int (nI i)), (0, .ref 80), (1, .int (nI n)), (2, .int k), (3, .int (nI t))] [] (zs_fi S 82 i (nI 0)) Q := by
  intro d
  induction d with
  | zero =>
    intro i hi
    obtain rfl : i = 66 := by omega
    refine g_iload dX12_begins_27 rfl ?_
    refine g_bipush (v := (nI 66)) dX12_begins_29 rfl ?_
    refine g_ic_geN 48 dX12_begins_31 (by decide) (by omega) (by omega) (fun _ => ?_) (fun z => absurd z (by omega))
    exact hk
  | succ d ih =>
    intro i hi
    refine g_iload dX12_begins_27 rfl ?_
    refine g_bipush (v := (nI 66)) dX12_begins_29 rfl ?_
    refine g_ic_geN 48 dX12_begins_31 (by decide) (by omega) (by omega) (fun z => absurd z (by omega)) (fun _ => ?_)
    refine g_aload_n dX12_begins_34 rfl rfl ?_
    refine g_getR 1 (82) (C := RX12) (T := TX12) (N := 19) dX12_begins_35 (by decide) rfl rfl (by decide) rfl fl_RX12_13 ?_
    refine g_iload dX12_begins_38 rfl ?_
    refine g_iconst (v := (nI 0)) dX12_begins_40 rfl ?_
    refine g_iastN dX12_begins_41 (by decide) rfl (by omega) (by decide) ?_
    refine g_iinc (v := (nI (i + 1))) (lv' := [(4, .int (nI (i + 1))), (0, .ref 80), (1, .int (nI n)), (2, .int k), (3, .int (nI t))]) dX12_begins_42 rfl (nI_1 i) (by decide) rfl ?_
    refine g_goto 27 dX12_begins_45 (by decide) ?_
    exact zs_Pst (ih (i + 1) (by omega)) zs_fi1
theorem zs_fii {S : zs_S} {a n j : Nat} {v : Int32} (h : j < n) : (zs_fi S a n v).1 a j = v := if_pos ⟨rfl, h⟩
theorem zs_fio {S : zs_S} {a b n j : Nat} {v : Int32} (h : b ≠ a) : (zs_fi S a n v).1 b j = S.1 b j := if_neg (fun q => h q.1)
theorem zs_Jb {S : zs_S} (hJ : zs_J S) {n t : Nat} {k : Int32} (h1 : 1 ≤ n) (h2 : n ≤ 12) (h3 : t ≤ 11) : zs_J (zs_up (zs_up (zs_up (zs_fi (zs_fi S 81 25 (nI 0)) 82 66 (nI 0)).1 82 0 (nI n)) 82 1 k) 81 2 (nI t), S.2) := by
  have e : ∀ a j, (zs_up (zs_up (zs_up (zs_fi (zs_fi S 81 25 (nI 0)) 82 66 (nI 0)).1 82 0 (nI n)) 82 1 k) 81 2 (nI t)) a j = if a = 81 ∧ j = 2 then nI t else if a = 82 ∧ j = 1 then k else if a = 82 ∧ j = 0 then nI n else if a = 82 ∧ j < 66 then nI 0 else if a = 81 ∧ j < 25 then nI 0 else S.1 a j := fun a j => rfl
  refine ⟨fun a j lo up hr => ?_, fun i hi => ?_⟩
  · by_cases c1 : a = 81 ∧ j = 2
    · obtain ⟨rfl, rfl⟩ := c1
      have : zs_rg 81 2 = some (0, 11) := rfl
      rw [this] at hr; cases hr
      exact ⟨t, Nat.zero_le _, h3, (e 81 2).trans (if_pos ⟨rfl, rfl⟩)⟩
    by_cases c2 : a = 82 ∧ j = 1
    · obtain ⟨rfl, rfl⟩ := c2
      have : zs_rg 82 1 = none := rfl
      rw [this] at hr; cases hr
    by_cases c3 : a = 82 ∧ j = 0
    · obtain ⟨rfl, rfl⟩ := c3
      have : zs_rg 82 0 = some (1, 12) := rfl
      rw [this] at hr; cases hr
      exact ⟨n, h1, h2, (e 82 0).trans (by rw [if_neg c1, if_neg c2, if_pos ⟨rfl, rfl⟩])⟩
    have hlo : lo = 0 := zs_lo0 hr c3
    by_cases c4 : a = 82 ∧ j < 66
    · exact ⟨0, by omega, Nat.zero_le _, (e a j).trans (by rw [if_neg c1, if_neg c2, if_neg c3, if_pos c4])⟩
    by_cases c5 : a = 81 ∧ j < 25
    · exact ⟨0, by omega, Nat.zero_le _, (e a j).trans (by rw [if_neg c1, if_neg c2, if_neg c3, if_neg c4, if_pos c5])⟩
    obtain ⟨m, g1, g2, g3⟩ := hJ.1 a j lo up hr
    exact ⟨m, g1, g2, (e a j).trans (by rw [if_neg c1, if_neg c2, if_neg c3, if_neg c4, if_neg c5]; exact g3)⟩
  · have e1 := (e 83 i).trans (by rw [if_neg (by omega), if_neg (by omega), if_neg (by omega), if_neg (by omega), if_neg (by omega)] : _ = S.1 83 i)
    have e2 := (e 82 (66 * (i + 1))).trans (by rw [if_neg (by omega), if_neg (by omega), if_neg (by omega), if_neg (by omega), if_neg (by omega)] : _ = S.1 82 (66 * (i + 1)))
    have h9 := hJ.2 i hi
    rw [← e1, ← e2] at h9
    exact h9
theorem zs_fb {S : zs_S} {n t : Nat} {k : Int32} : zs_fm S (zs_up (zs_up (zs_up (zs_fi (zs_fi S 81 25 (nI 0)) 82 66 (nI 0)).1 82 0 (nI n)) 82 1 k) 81 2 (nI t), S.2) := by
  intro b i hb
  have n1 : b ≠ 81 := fun z => by rw [z, show zs_pm 81 i = false from rfl] at hb; exact absurd hb (by decide)
  have n2 : b ≠ 82 := fun z => by rw [z, show zs_pm 82 i = false from rfl] at hb; exact absurd hb (by decide)
  refine ⟨?_, rfl⟩
  show (if b = 81 ∧ i = 2 then nI t else if b = 82 ∧ i = 1 then k else if b = 82 ∧ i = 0 then nI n else if b = 82 ∧ i < 66 then nI 0 else if b = 81 ∧ i < 25 then nI 0 else S.1 b i) = S.1 b i
  rw [if_neg (fun z => n1 z.1), if_neg (fun z => n2 z.1), if_neg (fun z => n2 z.1), if_neg (fun z => n2 z.1), if_neg (fun z => n1 z.1)]
theorem rg_82_3_7 (j : Nat) (h1 : 3 ≤ j) (h2 : j ≤ 7) : zs_rg 82 j = none := by
  obtain rfl | rfl | rfl | rfl | rfl : j = 3 ∨ j = 4 ∨ j = 5 ∨ j = 6 ∨ j = 7 := by omega
  all_goals rfl
theorem rg_81_15_19 (j : Nat) (h1 : 15 ≤ j) (h2 : j ≤ 19) : zs_rg 81 j = none := by
  obtain rfl | rfl | rfl | rfl | rfl : j = 15 ∨ j = 16 ∨ j = 17 ∨ j = 18 ∨ j = 19 := by omega
  all_goals rfl
theorem rg_81_20_24 (j : Nat) (h1 : 20 ≤ j) (h2 : j ≤ 24) : zs_rg 81 j = none := by
  obtain rfl | rfl | rfl | rfl | rfl : j = 20 ∨ j = 21 ∨ j = 22 ∨ j = 23 ∨ j = 24 := by omega
  all_goals rfl
theorem rg_82_15_20 (j : Nat) (h1 : 15 ≤ j) (h2 : j ≤ 20) : zs_rg 82 j = none := by
  obtain rfl | rfl | rfl | rfl | rfl | rfl : j = 15 ∨ j = 16 ∨ j = 17 ∨ j = 18 ∨ j = 19 ∨ j = 20 := by omega
  all_goals rfl
theorem rg_82_22_27 (j : Nat) (h1 : 22 ≤ j) (h2 : j ≤ 27) : zs_rg 82 j = none := by
  obtain rfl | rfl | rfl | rfl | rfl | rfl : j = 22 ∨ j = 23 ∨ j = 24 ∨ j = 25 ∨ j = 26 ∨ j = 27 := by omega
  all_goals rfl
theorem rg_82_28_33 (j : Nat) (h1 : 28 ≤ j) (h2 : j ≤ 33) : zs_rg 82 j = none := by
  obtain rfl | rfl | rfl | rfl | rfl | rfl : j = 28 ∨ j = 29 ∨ j = 30 ∨ j = 31 ∨ j = 32 ∨ j = 33 := by omega
  all_goals rfl
theorem rg_82_34_39 (j : Nat) (h1 : 34 ≤ j) (h2 : j ≤ 39) : zs_rg 82 j = none := by
  obtain rfl | rfl | rfl | rfl | rfl | rfl : j = 34 ∨ j = 35 ∨ j = 36 ∨ j = 37 ∨ j = 38 ∨ j = 39 := by omega
  all_goals rfl
theorem rg_82_40_45 (j : Nat) (h1 : 40 ≤ j) (h2 : j ≤ 45) : zs_rg 82 j = none := by
  obtain rfl | rfl | rfl | rfl | rfl | rfl : j = 40 ∨ j = 41 ∨ j = 42 ∨ j = 43 ∨ j = 44 ∨ j = 45 := by omega
  all_goals rfl
theorem rg_82_47_52 (j : Nat) (h1 : 47 ≤ j) (h2 : j ≤ 52) : zs_rg 82 j = none := by
  obtain rfl | rfl | rfl | rfl | rfl | rfl : j = 47 ∨ j = 48 ∨ j = 49 ∨ j = 50 ∨ j = 51 ∨ j = 52 := by omega
  all_goals rfl
theorem rg_82_53_58 (j : Nat) (h1 : 53 ≤ j) (h2 : j ≤ 58) : zs_rg 82 j = none := by
  obtain rfl | rfl | rfl | rfl | rfl | rfl : j = 53 ∨ j = 54 ∨ j = 55 ∨ j = 56 ∨ j = 57 ∨ j = 58 := by omega
  all_goals rfl
theorem rg_82_59_64 (j : Nat) (h1 : 59 ≤ j) (h2 : j ≤ 64) : zs_rg 82 j = none := by
  obtain rfl | rfl | rfl | rfl | rfl | rfl : j = 59 ∨ j = 60 ∨ j = 61 ∨ j = 62 ∨ j = 63 ∨ j = 64 := by omega
  all_goals rfl
theorem rg_81_0_0 (j : Nat) (h1 : 0 ≤ j) (h2 : j ≤ 0) : zs_rg 81 j = some (0, 11) := by
  obtain rfl : j = 0 := by omega
  all_goals rfl
theorem rg_81_1_1 (j : Nat) (h1 : 1 ≤ j) (h2 : j ≤ 1) : zs_rg 81 j = none := by
  obtain rfl : j = 1 := by omega
  all_goals rfl
