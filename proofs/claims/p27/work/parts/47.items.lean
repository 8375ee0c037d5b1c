def zs_oW (S0 S : zs_S) : Prop := zs_J S ∧ zs_fm S0 S ∧ (∀ b, b ≠ 80 → S.1 b = S0.1 b) ∧ (∀ j, (j = 3 ∨ j = 8 ∨ j = 9 ∨ j = 10) → S.1 80 j = S0.1 80 j) ∧ ∃ q0 q, q0 ≤ 150 ∧ q ≤ 150 ∧ S0.1 80 5 = nI q0 ∧ S.1 80 5 = nI q ∧ q0 ≤ q
theorem zs_oW.rf {S : zs_S} (hJ : zs_J S) : zs_oW S S := by
  obtain ⟨q, -, hq1, hq⟩ := hJ.1 80 5 0 150 rfl
  exact ⟨hJ, zs_fm.rf, fun _ _ => rfl, fun _ _ => rfl, q, q, hq1, hq1, hq, hq, Nat.le_refl _⟩
theorem zs_oW.tr {S S1 S2 : zs_S} (h : zs_oW S S1) (k : zs_oW S1 S2) : zs_oW S S2 := by
  obtain ⟨a1, a2, a3, a4, q0, q1, a5, a6, a7, a8, a9⟩ := h
  obtain ⟨b1, b2, b3, b4, q2, q3, b5, b6, b7, b8, b9⟩ := k
  have e := (nI_eq (by omega) (by omega)).mp (a8.symm.trans b7)
  exact ⟨b1, a2.tr b2, fun b hb => (b3 b hb).trans (a3 b hb), fun j hj => (b4 j hj).trans (a4 j hj), q0, q3, a5, b6, a7, b8, by omega⟩
theorem zs_oT.w {S0 S : zs_S} {q0 q : Nat} (h : zs_oT S0 S) (h0 : S0.1 80 5 = nI q0) (h1 : q0 ≤ 150) (h2 : S.1 80 5 = nI q) (h3 : q ≤ 150) (h4 : q0 ≤ q) : zs_oW S0 S := ⟨h.1, h.2.1, h.2.2.1, fun j hj => h.2.2.2 j (by omega), q0, q, h1, h3, h0, h2, h4⟩
theorem zs_oW.up {S0 S : zs_S} {k : Nat} (h : zs_oW S0 S) (hk : k ≤ 1) : zs_oW S0 (zs_up S.1 80 7 (nI k), S.2) := by
  obtain ⟨a1, a2, a3, a4, q0, q1, a5, a6, a7, a8, a9⟩ := h
  exact ⟨a1.up (zs_okR rfl (Nat.zero_le _) hk (by decide) (by decide)), a2.tr (zs_fm.up rfl), fun b hb => (zs_uo (f := S.1) (a := 80) (j := 7) (v := nI k) (b := b) hb).trans (a3 b hb), fun j hj => (zs_up_m (by omega)).trans (a4 j hj), q0, q1, a5, a6, a7, (zs_up_m (by omega)).trans a8, a9⟩
