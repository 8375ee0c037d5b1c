theorem zs_cmp0 {x y : Int64} (h : lg_cmp x y = 0) : x = y := by
  rcases Int.lt_trichotomy x.toInt y.toInt with z | z | z
  · have := (lg_cmp_lt x y).mpr (Int64.lt_iff_toInt_lt.mpr z)
    rw [h] at this; exact absurd this (by decide)
  · exact Int64.toInt_inj.mp z
  · have := (lg_cmp_gt x y).mpr (Int64.lt_iff_toInt_lt.mpr z)
    rw [h] at this; exact absurd this (by decide)
def zs_oI (S0 S : zs_S) : Prop := zs_J S ∧ zs_fm S0 S ∧ S.1 80 8 = S0.1 80 8 ∧ ∃ q0 q, q0 ≤ 150 ∧ q ≤ 150 ∧ S0.1 80 5 = nI q0 ∧ S.1 80 5 = nI q ∧ q0 ≤ q
theorem zs_oW.i {S0 S : zs_S} (h : zs_oW S0 S) : zs_oI S0 S := ⟨h.1, h.2.1, h.2.2.2.1 8 (by omega), h.2.2.2.2⟩
theorem zs_oI.tr {S S1 S2 : zs_S} (h : zs_oI S S1) (k : zs_oI S1 S2) : zs_oI S S2 := by
  obtain ⟨a1, a2, a4, q0, q1, a5, a6, a7, a8, a9⟩ := h
  obtain ⟨b1, b2, b4, q2, q3, b5, b6, b7, b8, b9⟩ := k
  have e := (nI_eq (by omega) (by omega)).mp (a8.symm.trans b7)
  exact ⟨b1, a2.tr b2, b4.trans a4, q0, q3, a5, b6, a7, b8, by omega⟩
theorem zs_oI.rf {S : zs_S} (hJ : zs_J S) : zs_oI S S := (zs_oW.rf hJ).i
theorem zs_oI.up {S0 S : zs_S} {a j : Nat} {v : Int32} (h : zs_oI S0 S) (hv : zs_ok a j v) (hp : zs_pm a j = false) (h1 : ¬ (80 = a ∧ 5 = j)) (h2 : ¬ (80 = a ∧ 8 = j)) : zs_oI S0 (zs_up S.1 a j v, S.2) := by
  obtain ⟨a1, a2, a4, q0, q1, a5, a6, a7, a8, a9⟩ := h
  exact ⟨a1.up hv, a2.tr (zs_fm.up hp), (zs_up_m h2).trans a4, q0, q1, a5, a6, a7, (zs_up_m h1).trans a8, a9⟩
theorem zs_oI.o {S0 S S2 : zs_S} (h : zs_oI S0 S) (hJ : zs_J S2) (hf : zs_fm S S2) (h8 : S2.1 80 = S.1 80) : zs_oI S0 S2 := by
  obtain ⟨a1, a2, a4, q0, q1, a5, a6, a7, a8, a9⟩ := h
  exact ⟨hJ, a2.tr hf, (congrFun h8 8).trans a4, q0, q1, a5, a6, a7, (congrFun h8 5).trans a8, a9⟩
