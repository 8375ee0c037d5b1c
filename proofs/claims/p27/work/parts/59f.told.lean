theorem zs_hm.q {S S2 : zs_S} {p w m n b : Nat} {M : Nat → Nat → Nat} (h : zs_hm S p w M m n b) (f : zs_fq S S2) : zs_hm S2 p w M m n b := ⟨h.1, (f 82 p (by decide)).1.trans h.2.1, fun q j hq hj => ⟨(f 82 _ (by decide)).1.trans (h.2.2 q j hq hj).1, (h.2.2 q j hq hj).2⟩⟩
theorem zs_rc.m {S : zs_S} {A p w n B : Nat} (h : zs_rc S A 0 p w n B) (hB : B < 2 ^ 31) {a m : Nat} (hA : A = a + 1) (hs : S.1 a 2 = S.1 82 (0 + p)) (hm : S.1 82 (0 + p) = nI m) (h6 : m ≤ 6) : ∃ M, zs_hc S a M m n B ∧ zs_hm S p w M m n B := by
  refine ⟨fun q j => (S.1 82 (w + 6 * j + q)).toNatClampNeg, ⟨h6, hs.trans hm, fun q j hq hj => ?_⟩, ⟨h6, by rw [Nat.zero_add] at hm; exact hm, fun q j hq hj => ?_⟩⟩
  · obtain ⟨h1, v, h2, h3⟩ := h m h6 hm q j hq hj
    rw [Nat.zero_add] at h1 h3
    have e : (S.1 82 (w + 6 * j + q)).toNatClampNeg = v := by rw [h3]; exact Int32.toNatClampNeg_ofNat_of_lt (by omega)
    show S.1 (a + 1) (4 * q + j) = nI ((S.1 82 (w + 6 * j + q)).toNatClampNeg) ∧ (S.1 82 (w + 6 * j + q)).toNatClampNeg ≤ B
    rw [e, ← hA, h1]
    exact ⟨h3, h2⟩
  · obtain ⟨h1, v, h2, h3⟩ := h m h6 hm q j hq hj
    rw [Nat.zero_add] at h1 h3
    have e : (S.1 82 (w + 6 * j + q)).toNatClampNeg = v := by rw [h3]; exact Int32.toNatClampNeg_ofNat_of_lt (by omega)
    show S.1 82 (w + 6 * j + q) = nI ((S.1 82 (w + 6 * j + q)).toNatClampNeg) ∧ (S.1 82 (w + 6 * j + q)).toNatClampNeg ≤ B
    rw [e]
    exact ⟨h3, h2⟩
theorem zs_Iw.notes {S : zs_S} (h : zs_Iw S) : ∃ m N, zs_hc S 11 N m 4 9 ∧ zs_hm S 21 22 N m 4 9 := by
  obtain ⟨m, -, h6, hm⟩ := h.1.1.1 82 21 0 6 rfl
  exact ⟨m, h.2.1.2.2.1.m (by omega) rfl h.2.1.2.1.2.1 hm h6⟩
theorem zs_Iw.marks {S : zs_S} (h : zs_Iw S) : ∃ m M, zs_hc S 13 M m 3 99 ∧ zs_hm S 46 47 M m 3 99 := by
  obtain ⟨m, -, h6, hm⟩ := h.1.1.1 82 46 0 6 rfl
  exact ⟨m, h.2.1.2.2.2.m (by omega) rfl h.2.1.2.1.2.2 hm h6⟩
theorem zs_isE {ey ey2 e x y : Int32} {f : Nat → Int32} {m : Nat} (he : ey2 = ey) (hm : ey = nI m) (h5 : m ≤ 5) (c : (zs_qe ey e = false → x = (-2)) ∧ (zs_qe ey e = true → ∀ k, k ≤ 4 → e = nI k → x = f k)) (d : (zs_qe ey2 e = false → y = (-2)) ∧ (zs_qe ey2 e = true → ∀ k, k ≤ 4 → e = nI k → y = f k)) : x = y := by
  subst he
  cases hb : zs_qe ey2 e with
  | false => exact (c.1 hb).trans (d.1 hb).symm
  | true =>
    obtain ⟨k, k1, -, k3⟩ := zs_eyk (of_decide_eq_true hb) hm h5
    exact (c.2 hb k k1 k3).trans (d.2 hb k k1 k3).symm
