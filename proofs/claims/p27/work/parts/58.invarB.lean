/-! THE INVARIANT OF THE RUN -/
theorem zs_rga {a j : Nat} {x : Nat × Nat} (h : zs_rg a j = some x) : a = 80 ∨ a = 81 ∨ a = 82 := by
  unfold zs_rg at h
  cases e1 : Nat.beq a 81 with
  | true => exact Or.inr (Or.inl (Nat.eq_of_beq_eq_true e1))
  | false =>
    rw [e1] at h
    cases e2 : Nat.beq a 82 with
    | true => exact Or.inr (Or.inr (Nat.eq_of_beq_eq_true e2))
    | false =>
      rw [e2] at h
      cases e3 : Nat.beq a 80 with
      | true => exact Or.inl (Nat.eq_of_beq_eq_true e3)
      | false => rw [e3] at h; simp at h
theorem zs_J.cg {S S2 : zs_S} (hJ : zs_J S) (h : ∀ b i, 80 ≤ b → S2.1 b i = S.1 b i) : zs_J S2 := by
  refine ⟨fun a j lo up hr => ?_, fun i hi => ?_⟩
  · obtain ⟨k, h1, h2, h3⟩ := hJ.1 a j lo up hr
    exact ⟨k, h1, h2, (h a j (by have := zs_rga hr; omega)).trans h3⟩
  · rw [h 83 i (by decide), h 82 _ (by decide)]
    exact hJ.2 i hi
def zs_In (S : zs_S) : Prop := zs_J S ∧ (∀ k, k < 2 → (S.1 0 (3 + k) = 0 ↔ S.1 83 k = 0)) ∧ ∃ m B, zs_tx S B m ∧ zs_tm S B m
theorem zs_fq.j {S S2 : zs_S} (f : zs_fq S S2) (h : zs_In S) : zs_J S2 := h.1.cg (fun b i hb => (f b i hb).1)
theorem zs_In.st {S S2 S3 : zs_S} (h : zs_In S) (f : zs_fr S S2) (g : zs_J S3) (m : zs_fm S2 S3) : zs_In S3 := by
  obtain ⟨n, B, h1, h2⟩ := h.2.2
  refine ⟨g, fun k hk => ?_, n, B, ⟨h1.1, ((m 43 1 rfl).1.trans f.l).trans h1.2.1, fun i hi => ⟨(h1.2.2 i hi).1, ?_⟩⟩, ⟨h2.1, (m.l.trans (f.q 80 3 (by decide)).1).trans h2.2.1, fun i hi => ⟨(h2.2.2 i hi).1, ?_⟩⟩⟩
  · rw [(m 0 (3 + k) rfl).1, f.k hk, m.k k, (f.q 83 k (by decide)).1]
    exact h.2.1 k hk
  · rw [(m 44 i rfl).1, congrFun f.t i]; exact (h1.2.2 i hi).2
  · rw [congrFun m.t i, (f.q 84 i (by decide)).1]; exact (h2.2.2 i hi).2
theorem zs_In.image {S S2 S3 : zs_S} {a x y : Int32} (h : zs_In S) (c : S2.1 44 = S.1 44 ∧ zs_fq S S2 ∧ S2.1 43 1 = S.1 43 1 ∧ ((∃ k, k < 2 ∧ a = nI k ∧ x = nI 1 ∧ ∀ i, i < 2 → S2.1 0 (3 + i) = if i = k then nI 1 else S.1 0 (3 + i)) ∨ (¬ (nI 0 ≤ a ∧ a ≤ nI 1) ∧ x = (-2) ∧ ∀ i, i < 2 → S2.1 0 (3 + i) = S.1 0 (3 + i)))) (d : S3.1 84 = S2.1 84 ∧ zs_J S3 ∧ zs_fx S2 S3 ∧ S3.1 80 3 = S2.1 80 3 ∧ ((∃ k, k < 2 ∧ a = nI k ∧ y = nI 1 ∧ ∀ i, S3.1 83 i = if i = k then nI 1 else S2.1 83 i) ∨ (¬ (nI 0 ≤ a ∧ a ≤ nI 1) ∧ y = (-2) ∧ ∀ i, S3.1 83 i = S2.1 83 i))) : zs_In S3 ∧ x = y := by
  obtain ⟨n, B, h1, h2⟩ := h.2.2
  obtain ⟨c0, c1, c2, c3⟩ := c
  obtain ⟨d0, d1, d2, d3, d4⟩ := d
  have L1 := ((d2 43 1 (by decide)).1.trans c2).trans h1.2.1
  have L2 := (d3.trans (c1 80 3 (by decide)).1).trans h2.2.1
  have T1 : zs_tx S3 B n := ⟨h1.1, L1, fun i hi => ⟨(h1.2.2 i hi).1, by rw [(d2 44 i (by decide)).1, c0]; exact (h1.2.2 i hi).2⟩⟩
  have T2 : zs_tm S3 B n := ⟨h2.1, L2, fun i hi => ⟨(h2.2.2 i hi).1, by rw [d0, (c1 84 i (by decide)).1]; exact (h2.2.2 i hi).2⟩⟩
  have rg : ∀ k, k < 2 → nI 0 ≤ nI k ∧ nI k ≤ nI 1 := fun k hk => ⟨nI_le (by omega) (by omega), nI_le (by omega) (by omega)⟩
  rcases c3 with ⟨k, k1, k2, k3, k4⟩ | ⟨k2, k3, k4⟩
  · rcases d4 with ⟨j, j1, j2, j3, j4⟩ | ⟨j2, j3, j4⟩
    · have e : k = j := (nI_eq (by omega) (by omega)).mp (k2.symm.trans j2)
      subst e
      refine ⟨⟨d1, fun i hi => ?_, n, B, T1, T2⟩, k3.trans j3.symm⟩
      rw [(d2 0 (3 + i) (by decide)).1, k4 i hi, j4 i]
      by_cases z : i = k
      · rw [if_pos z, if_pos z]
      · rw [if_neg z, if_neg z, (c1 83 i (by decide)).1]
        exact h.2.1 i hi
    · exact absurd (k2 ▸ rg k k1) j2
  · rcases d4 with ⟨j, j1, j2, j3, j4⟩ | ⟨j2, j3, j4⟩
    · exact absurd (j2 ▸ rg j j1) k2
    · refine ⟨⟨d1, fun i hi => ?_, n, B, T1, T2⟩, k3.trans j3.symm⟩
      rw [(d2 0 (3 + i) (by decide)).1, k4 i hi, j4 i, (c1 83 i (by decide)).1]
      exact h.2.1 i hi
theorem zs_In.from {S S2 S3 : zs_S} {a x y : Int32} (h : zs_In S) (c : zs_fr S S2 ∧ ((¬ (nI 0 ≤ a ∧ a ≤ nI 1) ∧ x = (-2)) ∨ ∃ k, k < 2 ∧ a = nI k ∧ ((S.1 0 (3 + k) = 0 ∧ x = (-3)) ∨ (¬ S.1 0 (3 + k) = 0 ∧ x = nI 1)))) (d : zs_J S3 ∧ zs_fm S2 S3 ∧ ((¬ (nI 0 ≤ a ∧ a ≤ nI 1) ∧ y = (-2)) ∨ ∃ k, k < 2 ∧ a = nI k ∧ ((S2.1 83 k = 0 ∧ y = (-3)) ∨ (¬ S2.1 83 k = 0 ∧ y = nI 1)))) : zs_In S3 ∧ x = y := by
  refine ⟨h.st c.1 d.1 d.2.1, ?_⟩
  have rg : ∀ k, k < 2 → nI 0 ≤ nI k ∧ nI k ≤ nI 1 := fun k hk => ⟨nI_le (by omega) (by omega), nI_le (by omega) (by omega)⟩
  rcases c.2 with ⟨k2, k3⟩ | ⟨k, k1, k2, k3⟩
  · rcases d.2.2 with ⟨j2, j3⟩ | ⟨j, j1, j2, j3⟩
    · exact k3.trans j3.symm
    · exact absurd (j2 ▸ rg j j1) k2
  · rcases d.2.2 with ⟨j2, j3⟩ | ⟨j, j1, j2, j3⟩
    · exact absurd (k2 ▸ rg k k1) j2
    · have e : k = j := (nI_eq (by omega) (by omega)).mp (k2.symm.trans j2)
      subst e
      have e2 : S2.1 83 k = S.1 83 k := (c.1.q 83 k (by decide)).1
      rw [e2] at j3
      rcases k3 with ⟨z, z2⟩ | ⟨z, z2⟩
      · rcases j3 with ⟨y1, y2⟩ | ⟨y1, y2⟩
        · exact z2.trans y2.symm
        · exact absurd ((h.2.1 k k1).mp z) y1
      · rcases j3 with ⟨y1, y2⟩ | ⟨y1, y2⟩
        · exact absurd ((h.2.1 k k1).mpr y1) z
        · exact z2.trans y2.symm
theorem zs_In.type {S S2 S3 : zs_S} {c x y : Int32} {m : Nat} {B : Nat → Nat} (h : zs_In S) (ht : zs_tx S B m) (hu : zs_tm S B m) (c1 : zs_fq S S2 ∧ (∀ i, i < 2 → S2.1 0 (3 + i) = S.1 0 (3 + i)) ∧ ((¬ (nI 0 ≤ c ∧ c ≤ nI 127) ∧ x = (-2) ∧ S2.1 43 1 = S.1 43 1 ∧ S2.1 44 = S.1 44) ∨ ((nI 0 ≤ c ∧ c ≤ nI 127) ∧ ((150 ≤ m ∧ x = (-4) ∧ S2.1 43 1 = S.1 43 1 ∧ S2.1 44 = S.1 44) ∨ (m < 150 ∧ x = nI (m + 1) ∧ S2.1 43 1 = nI (m + 1) ∧ S2.1 44 m = c ∧ ∀ i, i ≠ m → S2.1 44 i = S.1 44 i))))) (d : zs_J S3 ∧ zs_fx S2 S3 ∧ (∀ i, S3.1 83 i = S2.1 83 i) ∧ ((¬ (nI 0 ≤ c ∧ c ≤ nI 127) ∧ y = (-2) ∧ S3.1 80 3 = S2.1 80 3 ∧ S3.1 84 = S2.1 84) ∨ ((nI 0 ≤ c ∧ c ≤ nI 127) ∧ ((150 ≤ m ∧ y = (-4) ∧ S3.1 80 3 = S2.1 80 3 ∧ S3.1 84 = S2.1 84) ∨ (m < 150 ∧ y = nI (m + 1) ∧ S3.1 80 3 = nI (m + 1) ∧ S3.1 84 m = c ∧ ∀ i, i ≠ m → S3.1 84 i = S2.1 84 i))))) : zs_In S3 ∧ x = y := by
  obtain ⟨a1, a2, a3⟩ := c1
  obtain ⟨b1, b2, b3, b4⟩ := d
  have K : ∀ i, i < 2 → (S3.1 0 (3 + i) = 0 ↔ S3.1 83 i = 0) := fun i hi => by
    rw [(b2 0 (3 + i) (by decide)).1, a2 i hi, b3 i, (a1 83 i (by decide)).1]
    exact h.2.1 i hi
  have S43 : S3.1 43 1 = S2.1 43 1 := (b2 43 1 (by decide)).1
  have S80 : S2.1 80 3 = S.1 80 3 := (a1 80 3 (by decide)).1
  have same : S2.1 43 1 = S.1 43 1 → S2.1 44 = S.1 44 → S3.1 80 3 = S2.1 80 3 → S3.1 84 = S2.1 84 → zs_In S3 := fun e1 e2 e3 e4 => ⟨b1, K, m, B, ⟨ht.1, (S43.trans e1).trans ht.2.1, fun i hi => ⟨(ht.2.2 i hi).1, by rw [(b2 44 i (by decide)).1, e2]; exact (ht.2.2 i hi).2⟩⟩, ⟨hu.1, (e3.trans S80).trans hu.2.1, fun i hi => ⟨(hu.2.2 i hi).1, by rw [e4, (a1 84 i (by decide)).1]; exact (hu.2.2 i hi).2⟩⟩⟩
  rcases a3 with ⟨k1, k2, k3, k4⟩ | ⟨k1, k2⟩
  · rcases b4 with ⟨j1, j2, j3, j4⟩ | ⟨j1, j2⟩
    · exact ⟨same k3 k4 j3 j4, k2.trans j2.symm⟩
    · exact absurd j1 k1
  · rcases b4 with ⟨j1, j2, j3, j4⟩ | ⟨j1, j2⟩
    · exact absurd k1 j1
    · rcases k2 with ⟨p1, p2, p3, p4⟩ | ⟨p1, p2, p3, p4, p5⟩
      · rcases j2 with ⟨q1, q2, q3, q4⟩ | ⟨q1, q2, q3, q4, q5⟩
        · exact ⟨same p3 p4 q3 q4, p2.trans q2.symm⟩
        · exact absurd q1 (by omega)
      · rcases j2 with ⟨q1, q2, q3, q4⟩ | ⟨q1, q2, q3, q4, q5⟩
        · exact absurd q1 (by omega)
        · obtain ⟨c', -, hc2, rfl⟩ := zs_rng k1 (by omega)
          refine ⟨⟨b1, K, m + 1, fun i => if i = m then c' else B i, ⟨by omega, S43.trans p3, fun i hi => ?_⟩, ⟨by omega, q3, fun i hi => ?_⟩⟩, p2.trans q2.symm⟩
          · show (if i = m then c' else B i) ≤ 127 ∧ S3.1 44 i = nI (if i = m then c' else B i)
            rw [(b2 44 i (by decide)).1]
            by_cases e : i = m
            · rw [if_pos e, e]; exact ⟨hc2, p4⟩
            · rw [if_neg e, p5 i e]; exact ht.2.2 i (by omega)
          · show (if i = m then c' else B i) ≤ 127 ∧ S3.1 84 i = nI (if i = m then c' else B i)
            by_cases e : i = m
            · rw [if_pos e, e]; exact ⟨hc2, q4⟩
            · rw [if_neg e, q5 i e, (a1 84 i (by decide)).1]; exact hu.2.2 i (by omega)
theorem zs_In.read {S S2 S3 : zs_S} {x y : Int32} {B : Nat → Nat} {L : Nat} {P Q : Prop} (h : zs_In S) (c : zs_fr S S2 ∧ ((tp_read (tx_k B L) (tx_v B L)).1 = true → x = nI (tp_read (tx_k B L) (tx_v B L)).2.1) ∧ ((tp_read (tx_k B L) (tx_v B L)).1 = false → x = (-10) - nI (tx_p B L (tp_read (tx_k B L) (tx_v B L)).2.2.1))) (d : zs_J S3 ∧ zs_fm S2 S3 ∧ zs_tm S3 B L ∧ ((tp_read (tx_k B L) (tx_v B L)).1 = true → y = nI (tp_read (tx_k B L) (tx_v B L)).2.1 ∧ P) ∧ ((tp_read (tx_k B L) (tx_v B L)).1 = false → y = (-10) - nI (tx_p B L (tp_read (tx_k B L) (tx_v B L)).2.2.1) ∧ Q)) : zs_In S3 ∧ x = y := ⟨h.st c.1 d.1 d.2.1, by
  cases e : (tp_read (tx_k B L) (tx_v B L)).1 with
  | true => exact (c.2.1 e).trans (d.2.2.2.1 e).1.symm
  | false => exact (c.2.2 e).trans (d.2.2.2.2 e).1.symm⟩
theorem zs_In.clear {S S2 S3 : zs_S} {x y : Int32} (h : zs_In S) (c : zs_fq S S2 ∧ (∀ i, i < 2 → S2.1 0 (3 + i) = S.1 0 (3 + i)) ∧ S2.1 43 1 = nI 0 ∧ x = S.1 43 1) (d : zs_J S3 ∧ zs_fx S2 S3 ∧ (∀ i, S3.1 83 i = S2.1 83 i) ∧ S3.1 80 3 = nI 0 ∧ y = S2.1 80 3) : zs_In S3 ∧ x = y := by
  obtain ⟨n, B, h1, h2⟩ := h.2.2
  obtain ⟨a1, a2, a3, a4⟩ := c
  obtain ⟨b1, b2, b3, b4, b5⟩ := d
  refine ⟨⟨b1, fun i hi => ?_, 0, fun _ => 0, ⟨by omega, (b2 43 1 (by decide)).1.trans a3, fun i hi => absurd hi (by omega)⟩, ⟨by omega, b4, fun i hi => absurd hi (by omega)⟩⟩, ?_⟩
  · rw [(b2 0 (3 + i) (by decide)).1, a2 i hi, b3 i, (a1 83 i (by decide)).1]
    exact h.2.1 i hi
  · rw [a4, b5, (a1 80 3 (by decide)).1, h1.2.1, h2.2.1]
theorem zs_eyk {e ey : Int32} {m : Nat} (h : nI 0 ≤ e ∧ e ≤ ey - nI 1) (he : ey = nI m) (hm : m ≤ 5) : ∃ k, k ≤ 4 ∧ k < m ∧ e = nI k := by
  subst he
  obtain ⟨h1, h2⟩ := h
  have e1 : (nI m - nI 1).toInt = (m : Int) - 1 := by
    rw [Int32.toInt_sub, nI_toInt (by omega), nI_toInt (by omega), Int.bmod_eq_of_le (by omega) (by omega)]
    rfl
  rw [Int32.le_iff_toInt_le, nI_toInt (by omega)] at h1
  rw [Int32.le_iff_toInt_le, e1] at h2
  have h3 : 1 ≤ m := by omega
  obtain ⟨k, -, hk, rfl⟩ := zs_rng (v := e) (lo := 0) (hi := m - 1) ⟨by rw [Int32.le_iff_toInt_le, nI_toInt (by omega)]; exact h1, by rw [Int32.le_iff_toInt_le, nI_toInt (by omega)]; omega⟩ (by omega)
  exact ⟨k, by omega, by omega, rfl⟩
theorem zs_qB {lo hi : Nat} {v : Int32} (h : zs_q lo hi v = true) (hh : lo < 2 ^ 31 ∧ hi < 2 ^ 31) : ∃ x, x ≤ hi ∧ v = nI x := by
  obtain ⟨k, -, h2, h3⟩ := zs_rng (of_decide_eq_true h) hh
  exact ⟨k, h2, h3⟩
/-! THE WIDE INVARIANT -/
def zs_rc (S : zs_S) (A d p w n B : Nat) : Prop := ∀ m, m ≤ 6 → S.1 82 (d + p) = nI m → ∀ q j, q < m → j < n → S.1 A (4 * q + j) = S.1 82 (d + w + 6 * j + q) ∧ ∃ v, v ≤ B ∧ S.1 82 (d + w + 6 * j + q) = nI v
def zs_rl (S : zs_S) (c d : Nat) : Prop := (S.1 c 0 = S.1 82 d ∧ S.1 c 1 = S.1 82 (d + 1) ∧ S.1 c 2 = S.1 82 (d + 2)) ∧ (S.1 (c + 8) 2 = S.1 82 (d + 8) ∧ S.1 (c + 10) 2 = S.1 82 (d + 21) ∧ S.1 (c + 12) 2 = S.1 82 (d + 46)) ∧ zs_rc S (c + 11) d 21 22 4 9 ∧ zs_rc S (c + 13) d 46 47 3 99
def zs_Iw (S : zs_S) : Prop := zs_In S ∧ zs_rl S 1 0 ∧ ∀ k, k < 2 → ¬ S.1 83 k = 0 → zs_rl S (15 + 14 * k) (66 * (k + 1))
theorem zs_rp_a {i : Nat} (h : i ≤ 2) : zs_rp 0 i := Or.inl ⟨rfl, h⟩
theorem zs_rp_b {j : Nat} (h : j = 8 ∨ j = 10 ∨ j = 12) : zs_rp j 2 := Or.inr (Or.inl ⟨h, rfl⟩)
theorem zs_rp_c {j i : Nat} (h : j = 9 ∨ j = 11 ∨ j = 13) (hi : i < 24) : zs_rp j i := Or.inr (Or.inr ⟨h, hi⟩)
theorem zs_rl.tr {S S2 S3 : zs_S} {c s d t : Nat} (h : zs_rl S s t) (hs : zs_sc c s S S2) (hx : zs_fx S2 S3) (hc : c + 13 < 80) (hm : ∀ i, i < 65 → S3.1 82 (d + i) = S.1 82 (t + i)) : zs_rl S3 c d := by
  have a : ∀ j i, zs_rp j i → S3.1 (c + j) i = S.1 (s + j) i := fun j i hr => (hx _ _ (by have := zs_rp13 hr; omega)).1.trans (hs j i hr)
  obtain ⟨⟨h0, h1, h2⟩, ⟨h3, h4, h5⟩, h6, h7⟩ := h
  refine ⟨⟨(a 0 0 (zs_rp_a (by omega))).trans (h0.trans (hm 0 (by omega)).symm), (a 0 1 (zs_rp_a (by omega))).trans (h1.trans (hm 1 (by omega)).symm), (a 0 2 (zs_rp_a (by omega))).trans (h2.trans (hm 2 (by omega)).symm)⟩, ⟨(a 8 2 (zs_rp_b (by omega))).trans (h3.trans (hm 8 (by omega)).symm), (a 10 2 (zs_rp_b (by omega))).trans (h4.trans (hm 21 (by omega)).symm), (a 12 2 (zs_rp_b (by omega))).trans (h5.trans (hm 46 (by omega)).symm)⟩, fun m m1 m2 q j hq hj => ?_, fun m m1 m2 q j hq hj => ?_⟩
  · rw [hm 21 (by omega)] at m2
    rw [show d + 22 + 6 * j + q = d + (22 + 6 * j + q) by omega, hm (22 + 6 * j + q) (by omega), show t + (22 + 6 * j + q) = t + 22 + 6 * j + q by omega]
    exact ⟨(a 11 (4 * q + j) (zs_rp_c (by omega) (by omega))).trans (h6 m m1 m2 q j hq hj).1, (h6 m m1 m2 q j hq hj).2⟩
  · rw [hm 46 (by omega)] at m2
    rw [show d + 47 + 6 * j + q = d + (47 + 6 * j + q) by omega, hm (47 + 6 * j + q) (by omega), show t + (47 + 6 * j + q) = t + 47 + 6 * j + q by omega]
    exact ⟨(a 13 (4 * q + j) (zs_rp_c (by omega) (by omega))).trans (h7 m m1 m2 q j hq hj).1, (h7 m m1 m2 q j hq hj).2⟩
theorem zs_rl.kp {S S2 S3 : zs_S} (h : zs_rl S 1 0) (hs : zs_sc 1 1 S S2) (fq : zs_fq S S2) (hx : zs_fx S2 S3) (hm : ∀ i, i < 65 → S3.1 82 i = S2.1 82 i) : zs_rl S3 1 0 := h.tr hs hx (by omega) (fun i hi => by
  rw [Nat.zero_add]
  exact (hm i hi).trans (fq 82 i (by decide)).1)
theorem zs_Iw.mk {S S2 S3 : zs_S} (h : zs_Iw S) (hI : zs_In S3) (r1 : zs_rl S3 1 0) (hc : ∀ d, (d = 15 ∨ d = 29) → zs_sc d d S S2) (fq : zs_fq S S2) (fx : zs_fx S2 S3) (hm : ∀ i, 66 ≤ i → i % 66 ≠ 65 → S3.1 82 i = S2.1 82 i) (hk : ∀ k, S3.1 83 k = S2.1 83 k) : zs_Iw S3 := ⟨hI, r1, fun k hk2 hz => (h.2.2 k hk2 (fun z => hz (by rw [hk k, (fq 83 k (by decide)).1]; exact z))).tr (hc (15 + 14 * k) (by omega)) fx (by omega) (fun i hi => (hm (66 * (k + 1) + i) (by omega) (by omega)).trans (fq 82 _ (by decide)).1)⟩
theorem zs_Iw.rf {S S2 S3 : zs_S} (h : zs_Iw S) (f : zs_fr_W S S2) (g : zs_J S3) (m : zs_fm S2 S3) (k : zs_mk zs_N0 S2 S3) : zs_Iw S3 := h.mk (h.1.st f.n g m) (h.2.1.kp (f.h.s (by omega)) f.n.q m.x (fun i hi => k i (by omega) (fun z => z))) (fun d hd => f.h.s (by omega)) f.n.q m.x (fun i _ h65 => k i h65 (fun z => z)) m.k
theorem zs_Iw.st {S S2 S3 : zs_S} (h : zs_Iw S) (f : zs_fr_W S S2) (g : zs_J S3) (m : zs_fm_W S2 S3) : zs_Iw S3 := h.rf f g m.n m.m
theorem zs_rc.z {S : zs_S} {A d p w n B : Nat} (e : S.1 82 (d + p) = nI 0) : zs_rc S A d p w n B := fun m m1 m2 q j hq _ => by
  obtain rfl : m = 0 := (nI_eq (by omega) (by omega)).mp (m2.symm.trans e)
  exact absurd hq (Nat.not_lt_zero _)
theorem zs_rl.z {S : zs_S} {c d : Nat} (h0 : S.1 c 0 = S.1 82 d) (h1 : S.1 c 1 = S.1 82 (d + 1)) (h2 : S.1 c 2 = S.1 82 (d + 2)) (a1 : S.1 (c + 8) 2 = nI 0) (a2 : S.1 (c + 10) 2 = nI 0) (a3 : S.1 (c + 12) 2 = nI 0) (b1 : S.1 82 (d + 8) = nI 0) (b2 : S.1 82 (d + 21) = nI 0) (b3 : S.1 82 (d + 46) = nI 0) : zs_rl S c d := ⟨⟨h0, h1, h2⟩, ⟨a1.trans b1.symm, a2.trans b2.symm, a3.trans b3.symm⟩, zs_rc.z b2, zs_rc.z b3⟩
theorem zs_rc.kp {S S3 : zs_S} {A p w n B : Nat} (h : zs_rc S A 0 p w n B) (hn : n ≤ 4) (hA : ∀ i, i < 24 → S3.1 A i = S.1 A i) (hp : S3.1 82 (0 + p) = S.1 82 (0 + p)) (hw : ∀ j q, j < n → q < 6 → S3.1 82 (0 + w + 6 * j + q) = S.1 82 (0 + w + 6 * j + q)) : zs_rc S3 A 0 p w n B := fun m m1 m2 q j hq hj => by
  rw [hp] at m2
  rw [hA (4 * q + j) (by omega), hw j q hj (by omega)]
  exact h m m1 m2 q j hq hj
theorem zs_rc.ad {S S3 : zs_S} {A p w n m B : Nat} (h : zs_rc S A 0 p w n B) (hn : n ≤ 4) (hm : S.1 82 (0 + p) = nI m) (h6 : m < 6) (e : S3.1 82 (0 + p) = nI (m + 1)) (o : ∀ i, (i < 4 * m ∨ 4 * m + 3 < i) → S3.1 A i = S.1 A i) (v : ∀ j, j < n → S3.1 A (4 * m + j) = S3.1 82 (0 + w + 6 * j + m) ∧ ∃ x, x ≤ B ∧ S3.1 82 (0 + w + 6 * j + m) = nI x) (k : ∀ j q, j < n → q < 6 → q ≠ m → S3.1 82 (0 + w + 6 * j + q) = S.1 82 (0 + w + 6 * j + q)) : zs_rc S3 A 0 p w n B := fun m' m1 m2 q j hq hj => by
  obtain rfl : m' = m + 1 := (nI_eq (by omega) (by omega)).mp (m2.symm.trans e)
  by_cases eq : q = m
  · subst eq; exact v j hj
  · rw [o (4 * q + j) (by omega), k j q hj (by omega) eq]
    exact h m (by omega) hm q j (by omega) hj
theorem zs_fPn {P : Nat → Nat → Prop} {S S2 : zs_S} (hP : ∀ b i, P b i → 1 ≤ b ∧ b < 43) (h : zs_fP P S S2) : zs_fr S S2 := h.n hP
theorem zs_nPs : ∀ b i, zs_Ps 1 b i → 1 ≤ b ∧ b < 43 := fun _ _ z => zs_Psn (Or.inl rfl) z
theorem zs_nP1 {a j : Nat} (h1 : 1 ≤ a) (h2 : a < 43) : ∀ b i, zs_P1 a j b i → 1 ≤ b ∧ b < 43 := fun b i z => by unfold zs_P1 at z; omega
theorem zs_nPr {a : Nat} (h1 : 1 ≤ a) (h2 : a < 42) : ∀ b i, zs_Pr a b i → 1 ≤ b ∧ b < 43 := fun b i z => by unfold zs_Pr at z; omega
theorem zs_fgt {S S2 : zs_S} {w x : Int32} (c : (zs_q 0 2 w = false → x = (-2) ∧ zs_fr_W S S2) ∧ (∀ k, k < 3 → w = nI k → x = S.1 (9 + 2 * k) 2 ∧ S2.1 (9 + 2 * k) 2 = nI 0 ∧ zs_fP (zs_P1 (9 + 2 * k) 2) S S2)) : zs_fr S S2 := by
  cases hb : zs_q 0 2 w with
  | false => exact (c.1 hb).2.n
  | true =>
    obtain ⟨k, -, k2, rfl⟩ := zs_rng (of_decide_eq_true hb) (by omega)
    exact zs_fPn (zs_nP1 (by omega) (by omega)) (c.2 k (by omega) rfl).2.2
theorem zs_Iw.drum {S S2 S3 : zs_S} {n k t x y : Int32} (h : zs_Iw S) (c : zs_fP (zs_Ps 1) S S2 ∧ ((zs_q 2 12 n && (zs_q 0 5 k && (zs_q 0 11 t))) = false → x = (-2) ∧ zs_fr_W S S2) ∧ ((zs_q 2 12 n && (zs_q 0 5 k && (zs_q 0 11 t))) = true → x = S.1 1 2 ∧ S2.1 1 0 = n ∧ S2.1 1 1 = k ∧ S2.1 1 2 = nI 0 ∧ S2.1 9 2 = nI 0 ∧ S2.1 11 2 = nI 0 ∧ S2.1 13 2 = nI 0)) (d : zs_J S3 ∧ zs_fm S2 S3 ∧ zs_mk (fun i => i < 66) S2 S3 ∧ ((zs_q 2 12 n && (zs_q 0 5 k && (zs_q 0 11 t))) = false → y = (-2) ∧ zs_mk zs_N0 S2 S3) ∧ ((zs_q 2 12 n && (zs_q 0 5 k && (zs_q 0 11 t))) = true → y = S2.1 82 2 ∧ S3.1 82 0 = n ∧ S3.1 82 1 = k ∧ S3.1 82 2 = nI 0 ∧ zs_zm S3)) : zs_Iw S3 ∧ x = y := by
  have f := zs_fPn zs_nPs c.1
  cases hb : (zs_q 2 12 n && (zs_q 0 5 k && (zs_q 0 11 t))) with
  | false => exact ⟨h.rf (c.2.1 hb).2 d.1 d.2.1 (d.2.2.2.1 hb).2, (c.2.1 hb).1.trans (d.2.2.2.1 hb).1.symm⟩
  | true =>
    obtain ⟨c0, c1, c2, c3, c4, c5, c6⟩ := c.2.2 hb
    obtain ⟨d0, d1, d2, d3, d4, d5, d6⟩ := d.2.2.2.2 hb
    have X : ∀ b i, b < 80 → S3.1 b i = S2.1 b i := fun b i hb => (d.2.1.x b i hb).1
    exact ⟨h.mk (h.1.st f d.1 d.2.1) (zs_rl.z ((X 1 0 (by decide)).trans (c1.trans d1.symm)) ((X 1 1 (by decide)).trans (c2.trans d2.symm)) ((X 1 2 (by decide)).trans (c3.trans d3.symm)) ((X 9 2 (by decide)).trans c4) ((X 11 2 (by decide)).trans c5) ((X 13 2 (by decide)).trans c6) d4 d5 d6) (fun e he => zs_Ps.s c.1 (by omega) (by omega)) f.q d.2.1.x (fun i hi h65 => d.2.2.1 i h65 (Nat.not_lt.mpr hi)) d.2.1.k, c0.trans (h.2.1.1.2.2.trans ((f.q 82 2 (by decide)).1.symm.trans d0.symm))⟩
theorem zs_Iw.lamp {S S2 S3 : zs_S} {k x y : Int32} (h : zs_Iw S) (c : zs_fP (zs_P1 1 1) S S2 ∧ ((zs_q 0 5 k) = false → x = (-2) ∧ zs_fr_W S S2) ∧ ((zs_q 0 5 k) = true → x = S.1 1 1 ∧ S2.1 1 1 = k)) (d : zs_J S3 ∧ zs_fm S2 S3 ∧ zs_mk (fun i => i = 1) S2 S3 ∧ ((zs_q 0 5 k) = false → y = (-2) ∧ zs_mk zs_N0 S2 S3) ∧ ((zs_q 0 5 k) = true → y = S2.1 82 1 ∧ S3.1 82 1 = k)) : zs_Iw S3 ∧ x = y := by
  have f := zs_fPn (zs_nP1 (by omega) (by omega)) c.1
  have ck : ∀ j i, zs_rp j i → ¬ zs_P1 1 1 (1 + j) i → S3.1 (1 + j) i = S.1 (1 + j) i := fun j i hr hp => (d.2.1.x _ _ (by have := zs_rp13 hr; omega)).1.trans (c.1 _ _ (zs_pqW (zs_rpW (Or.inl rfl) hr)) hp).1
  have mk : ∀ i, i < 65 → ¬ (i = 1) → S3.1 82 i = S.1 82 i := fun i hi hp => (d.2.2.1 i (by omega) hp).trans (f.q 82 i (by decide)).1
  have X : ∀ b i, b < 80 → S3.1 b i = S2.1 b i := fun b i hb => (d.2.1.x b i hb).1
  cases hb : (zs_q 0 5 k) with
  | false => exact ⟨h.rf (c.2.1 hb).2 d.1 d.2.1 (d.2.2.2.1 hb).2, (c.2.1 hb).1.trans (d.2.2.2.1 hb).1.symm⟩
  | true =>
    obtain ⟨c0, c1⟩ := c.2.2 hb
    obtain ⟨d0, d1⟩ := d.2.2.2.2 hb
    exact ⟨h.mk (h.1.st f d.1 d.2.1) ⟨⟨(ck 0 0 (zs_rp_a (by omega)) (by unfold zs_P1; omega)).trans (h.2.1.1.1.trans (mk 0 (by omega) (by omega)).symm), (X 1 1 (by decide)).trans (c1.trans d1.symm), (ck 0 2 (zs_rp_a (by omega)) (by unfold zs_P1; omega)).trans (h.2.1.1.2.2.trans (mk 2 (by omega) (by omega)).symm)⟩, ⟨(ck 8 2 (zs_rp_b (by omega)) (by unfold zs_P1; omega)).trans (h.2.1.2.1.1.trans (mk 8 (by omega) (by omega)).symm), (ck 10 2 (zs_rp_b (by omega)) (by unfold zs_P1; omega)).trans (h.2.1.2.1.2.1.trans (mk 21 (by omega) (by omega)).symm), (ck 12 2 (zs_rp_b (by omega)) (by unfold zs_P1; omega)).trans (h.2.1.2.1.2.2.trans (mk 46 (by omega) (by omega)).symm)⟩, h.2.1.2.2.1.kp (by omega) (fun i hi => ck 11 i (zs_rp_c (by omega) hi) (by unfold zs_P1; omega)) (mk (0 + 21) (by omega) (by omega)) (fun j q hj hq => mk (0 + 22 + 6 * j + q) (by omega) (by omega)), h.2.1.2.2.2.kp (by omega) (fun i hi => ck 13 i (zs_rp_c (by omega) hi) (by unfold zs_P1; omega)) (mk (0 + 46) (by omega) (by omega)) (fun j q hj hq => mk (0 + 47 + 6 * j + q) (by omega) (by omega))⟩ (fun e he => c.1.s (by omega) (fun j i hr z => by
      have := zs_rp13 hr
      unfold zs_P1 at z
      omega)) f.q d.2.1.x (fun i hi h65 => d.2.2.1 i h65 (show ¬ i = 1 by omega)) d.2.1.k, c0.trans (h.2.1.1.2.1.trans ((f.q 82 1 (by decide)).1.symm.trans d0.symm))⟩
theorem zs_Iw.eye {S S2 S3 : zs_S} {k x y : Int32} {m : Nat} (h : zs_Iw S) (c : zs_fP (zs_P1 1 2) S S2 ∧ ((zs_q 0 5 k) = false → x = (-2) ∧ zs_fr_W S S2) ∧ ((zs_q 0 5 k) = true → (5 ≤ m → x = (-4) ∧ zs_fr_W S S2) ∧ (m < 5 → x = nI m ∧ S2.1 1 2 = nI (m + 1)))) (d : zs_J S3 ∧ zs_fm S2 S3 ∧ zs_mk (fun i => 2 ≤ i ∧ i ≤ 7) S2 S3 ∧ ((zs_q 0 5 k) = false → y = (-2) ∧ zs_mk zs_N0 S2 S3) ∧ ((zs_q 0 5 k) = true → (5 ≤ m → y = (-4) ∧ zs_mk zs_N0 S2 S3) ∧ (m < 5 → y = nI m ∧ S3.1 82 2 = nI (m + 1)))) : zs_Iw S3 ∧ x = y := by
  have f := zs_fPn (zs_nP1 (by omega) (by omega)) c.1
  have ck : ∀ j i, zs_rp j i → ¬ zs_P1 1 2 (1 + j) i → S3.1 (1 + j) i = S.1 (1 + j) i := fun j i hr hp => (d.2.1.x _ _ (by have := zs_rp13 hr; omega)).1.trans (c.1 _ _ (zs_pqW (zs_rpW (Or.inl rfl) hr)) hp).1
  have mk : ∀ i, i < 65 → ¬ (2 ≤ i ∧ i ≤ 7) → S3.1 82 i = S.1 82 i := fun i hi hp => (d.2.2.1 i (by omega) hp).trans (f.q 82 i (by decide)).1
  have X : ∀ b i, b < 80 → S3.1 b i = S2.1 b i := fun b i hb => (d.2.1.x b i hb).1
  cases hb : (zs_q 0 5 k) with
  | false => exact ⟨h.rf (c.2.1 hb).2 d.1 d.2.1 (d.2.2.2.1 hb).2, (c.2.1 hb).1.trans (d.2.2.2.1 hb).1.symm⟩
  | true =>
    rcases Nat.lt_or_ge m 5 with h5 | h5
    · obtain ⟨c0, c1⟩ := (c.2.2 hb).2 h5
      obtain ⟨d0, d1⟩ := (d.2.2.2.2 hb).2 h5
      exact ⟨h.mk (h.1.st f d.1 d.2.1) ⟨⟨(ck 0 0 (zs_rp_a (by omega)) (by unfold zs_P1; omega)).trans (h.2.1.1.1.trans (mk 0 (by omega) (by omega)).symm), (ck 0 1 (zs_rp_a (by omega)) (by unfold zs_P1; omega)).trans (h.2.1.1.2.1.trans (mk 1 (by omega) (by omega)).symm), (X 1 2 (by decide)).trans (c1.trans d1.symm)⟩, ⟨(ck 8 2 (zs_rp_b (by omega)) (by unfold zs_P1; omega)).trans (h.2.1.2.1.1.trans (mk 8 (by omega) (by omega)).symm), (ck 10 2 (zs_rp_b (by omega)) (by unfold zs_P1; omega)).trans (h.2.1.2.1.2.1.trans (mk 21 (by omega) (by omega)).symm), (ck 12 2 (zs_rp_b (by omega)) (by unfold zs_P1; omega)).trans (h.2.1.2.1.2.2.trans (mk 46 (by omega) (by omega)).symm)⟩, h.2.1.2.2.1.kp (by omega) (fun i hi => ck 11 i (zs_rp_c (by omega) hi) (by unfold zs_P1; omega)) (mk (0 + 21) (by omega) (by omega)) (fun j q hj hq => mk (0 + 22 + 6 * j + q) (by omega) (by omega)), h.2.1.2.2.2.kp (by omega) (fun i hi => ck 13 i (zs_rp_c (by omega) hi) (by unfold zs_P1; omega)) (mk (0 + 46) (by omega) (by omega)) (fun j q hj hq => mk (0 + 47 + 6 * j + q) (by omega) (by omega))⟩ (fun e he => c.1.s (by omega) (fun j i hr z => by
        have := zs_rp13 hr
        unfold zs_P1 at z
        omega)) f.q d.2.1.x (fun i hi h65 => d.2.2.1 i h65 (show ¬ (2 ≤ i ∧ i ≤ 7) by omega)) d.2.1.k, c0.trans d0.symm⟩
    · obtain ⟨c0, c1⟩ := (c.2.2 hb).1 h5
      obtain ⟨d0, d1⟩ := (d.2.2.2.2 hb).1 h5
      exact ⟨h.rf c1 d.1 d.2.1 d1, c0.trans d0.symm⟩
theorem zs_Iw.seen {S S2 S3 : zs_S} {k p x y : Int32} {m : Nat} (h : zs_Iw S) (hm : S.1 82 (0 + 8) = nI m) (c : zs_fP (zs_Pr 9) S S2 ∧ ((zs_q 1 30 k && (zs_q 0 9 p)) = false → x = (-2) ∧ zs_fr_W S S2) ∧ ((zs_q 1 30 k && (zs_q 0 9 p)) = true → (6 ≤ m → x = (-4) ∧ zs_fr_W S S2) ∧ (m < 6 → x = nI (m + 1) ∧ S2.1 9 2 = nI (m + 1) ∧ zs_nw 10 m k p (nI 0) (nI 0) S S2))) (d : zs_J S3 ∧ zs_fm S2 S3 ∧ zs_mk (fun i => i = 8 ∨ i = 9 + m ∨ i = 15 + m) S2 S3 ∧ ((zs_q 1 30 k && (zs_q 0 9 p)) = false → y = (-2) ∧ zs_mk zs_N0 S2 S3) ∧ ((zs_q 1 30 k && (zs_q 0 9 p)) = true → (6 ≤ m → y = (-4) ∧ zs_mk zs_N0 S2 S3) ∧ (m < 6 → y = nI (m + 1) ∧ S3.1 82 8 = nI (m + 1) ∧ S3.1 82 (9 + m) = k ∧ S3.1 82 (15 + m) = p))) : zs_Iw S3 ∧ x = y := by
  have f := zs_fPn (zs_nPr (by omega) (by omega)) c.1
  have ck : ∀ j i, zs_rp j i → ¬ zs_Pr 9 (1 + j) i → S3.1 (1 + j) i = S.1 (1 + j) i := fun j i hr hp => (d.2.1.x _ _ (by have := zs_rp13 hr; omega)).1.trans (c.1 _ _ (zs_pqW (zs_rpW (Or.inl rfl) hr)) hp).1
  have mk : ∀ i, i < 65 → ¬ (i = 8 ∨ i = 9 + m ∨ i = 15 + m) → S3.1 82 i = S.1 82 i := fun i hi hp => (d.2.2.1 i (by omega) hp).trans (f.q 82 i (by decide)).1
  have X : ∀ b i, b < 80 → S3.1 b i = S2.1 b i := fun b i hb => (d.2.1.x b i hb).1
  cases hb : (zs_q 1 30 k && (zs_q 0 9 p)) with
  | false => exact ⟨h.rf (c.2.1 hb).2 d.1 d.2.1 (d.2.2.2.1 hb).2, (c.2.1 hb).1.trans (d.2.2.2.1 hb).1.symm⟩
  | true =>
    rcases Nat.lt_or_ge m 6 with h5 | h5
    · obtain ⟨c0, c1, c2⟩ := (c.2.2 hb).2 h5
      obtain ⟨d0, d1, d2, d3⟩ := (d.2.2.2.2 hb).2 h5
      exact ⟨h.mk (h.1.st f d.1 d.2.1) ⟨⟨(ck 0 0 (zs_rp_a (by omega)) (by unfold zs_Pr; omega)).trans (h.2.1.1.1.trans (mk 0 (by omega) (by omega)).symm), (ck 0 1 (zs_rp_a (by omega)) (by unfold zs_Pr; omega)).trans (h.2.1.1.2.1.trans (mk 1 (by omega) (by omega)).symm), (ck 0 2 (zs_rp_a (by omega)) (by unfold zs_Pr; omega)).trans (h.2.1.1.2.2.trans (mk 2 (by omega) (by omega)).symm)⟩, ⟨(X 9 2 (by decide)).trans (c1.trans d1.symm), (ck 10 2 (zs_rp_b (by omega)) (by unfold zs_Pr; omega)).trans (h.2.1.2.1.2.1.trans (mk 21 (by omega) (by omega)).symm), (ck 12 2 (zs_rp_b (by omega)) (by unfold zs_Pr; omega)).trans (h.2.1.2.1.2.2.trans (mk 46 (by omega) (by omega)).symm)⟩, h.2.1.2.2.1.kp (by omega) (fun i hi => ck 11 i (zs_rp_c (by omega) hi) (by unfold zs_Pr; omega)) (mk (0 + 21) (by omega) (by omega)) (fun j q hj hq => mk (0 + 22 + 6 * j + q) (by omega) (by omega)), h.2.1.2.2.2.kp (by omega) (fun i hi => ck 13 i (zs_rp_c (by omega) hi) (by unfold zs_Pr; omega)) (mk (0 + 46) (by omega) (by omega)) (fun j q hj hq => mk (0 + 47 + 6 * j + q) (by omega) (by omega))⟩ (fun e he => c.1.s (by omega) (fun j i hr z => by
        have := zs_rp13 hr
        unfold zs_Pr at z
        omega)) f.q d.2.1.x (fun i hi h65 => d.2.2.1 i h65 (show ¬ (i = 8 ∨ i = 9 + m ∨ i = 15 + m) by omega)) d.2.1.k, c0.trans d0.symm⟩
    · obtain ⟨c0, c1⟩ := (c.2.2 hb).1 h5
      obtain ⟨d0, d1⟩ := (d.2.2.2.2 hb).1 h5
      exact ⟨h.rf c1 d.1 d.2.1 d1, c0.trans d0.symm⟩
theorem zs_Iw.note {S S2 S3 : zs_S} {e p q z x y : Int32} {m : Nat} (h : zs_Iw S) (hm : S.1 82 (0 + 21) = nI m) (c : zs_fP (zs_Pr 11) S S2 ∧ ((zs_qe (S.1 1 2) e && (zs_q 0 9 p && (zs_q 0 9 q && (zs_q 0 9 z)))) = false → x = (-2) ∧ zs_fr_W S S2) ∧ ((zs_qe (S.1 1 2) e && (zs_q 0 9 p && (zs_q 0 9 q && (zs_q 0 9 z)))) = true → (6 ≤ m → x = (-4) ∧ zs_fr_W S S2) ∧ (m < 6 → x = nI (m + 1) ∧ S2.1 11 2 = nI (m + 1) ∧ zs_nw 12 m e p q z S S2))) (d : zs_J S3 ∧ zs_fm S2 S3 ∧ zs_mk (fun i => i = 21 ∨ i = 22 + m ∨ i = 28 + m ∨ i = 34 + m ∨ i = 40 + m) S2 S3 ∧ ((zs_qe (S2.1 82 2) e && (zs_q 0 9 p && (zs_q 0 9 q && (zs_q 0 9 z)))) = false → y = (-2) ∧ zs_mk zs_N0 S2 S3) ∧ ((zs_qe (S2.1 82 2) e && (zs_q 0 9 p && (zs_q 0 9 q && (zs_q 0 9 z)))) = true → (6 ≤ m → y = (-4) ∧ zs_mk zs_N0 S2 S3) ∧ (m < 6 → y = nI (m + 1) ∧ S3.1 82 21 = nI (m + 1) ∧ S3.1 82 (22 + m) = e ∧ S3.1 82 (28 + m) = p ∧ S3.1 82 (34 + m) = q ∧ S3.1 82 (40 + m) = z))) : zs_Iw S3 ∧ x = y := by
  have f := zs_fPn (zs_nPr (by omega) (by omega)) c.1
  rw [show S2.1 82 2 = S.1 1 2 from (f.q 82 2 (by decide)).1.trans h.2.1.1.2.2.symm] at d
  have ck : ∀ j i, zs_rp j i → ¬ zs_Pr 11 (1 + j) i → S3.1 (1 + j) i = S.1 (1 + j) i := fun j i hr hp => (d.2.1.x _ _ (by have := zs_rp13 hr; omega)).1.trans (c.1 _ _ (zs_pqW (zs_rpW (Or.inl rfl) hr)) hp).1
  have mk : ∀ i, i < 65 → ¬ (i = 21 ∨ i = 22 + m ∨ i = 28 + m ∨ i = 34 + m ∨ i = 40 + m) → S3.1 82 i = S.1 82 i := fun i hi hp => (d.2.2.1 i (by omega) hp).trans (f.q 82 i (by decide)).1
  have X : ∀ b i, b < 80 → S3.1 b i = S2.1 b i := fun b i hb => (d.2.1.x b i hb).1
  cases hb : (zs_qe (S.1 1 2) e && (zs_q 0 9 p && (zs_q 0 9 q && (zs_q 0 9 z)))) with
  | false => exact ⟨h.rf (c.2.1 hb).2 d.1 d.2.1 (d.2.2.2.1 hb).2, (c.2.1 hb).1.trans (d.2.2.2.1 hb).1.symm⟩
  | true =>
    rcases Nat.lt_or_ge m 6 with h5 | h5
    · obtain ⟨c0, c1, c2⟩ := (c.2.2 hb).2 h5
      obtain ⟨d0, d1, d2, d3, d4, d5⟩ := (d.2.2.2.2 hb).2 h5
      have hB := hb
      simp only [Bool.and_eq_true] at hB
      obtain ⟨b0, b1, b2, b3⟩ := hB
      obtain ⟨ee, -, e5, he⟩ := h.1.1.1 82 2 0 5 rfl
      have y0 : ∃ x, x ≤ 9 ∧ e = nI x := by
        obtain ⟨k, k1, -, k3⟩ := zs_eyk (of_decide_eq_true b0) (h.2.1.1.2.2.trans he) e5
        exact ⟨k, by omega, k3⟩
      have y1 := zs_qB b1 (by omega)
      have y2 := zs_qB b2 (by omega)
      have y3 := zs_qB b3 (by omega)
      exact ⟨h.mk (h.1.st f d.1 d.2.1) ⟨⟨(ck 0 0 (zs_rp_a (by omega)) (by unfold zs_Pr; omega)).trans (h.2.1.1.1.trans (mk 0 (by omega) (by omega)).symm), (ck 0 1 (zs_rp_a (by omega)) (by unfold zs_Pr; omega)).trans (h.2.1.1.2.1.trans (mk 1 (by omega) (by omega)).symm), (ck 0 2 (zs_rp_a (by omega)) (by unfold zs_Pr; omega)).trans (h.2.1.1.2.2.trans (mk 2 (by omega) (by omega)).symm)⟩, ⟨(ck 8 2 (zs_rp_b (by omega)) (by unfold zs_Pr; omega)).trans (h.2.1.2.1.1.trans (mk 8 (by omega) (by omega)).symm), (X 11 2 (by decide)).trans (c1.trans d1.symm), (ck 12 2 (zs_rp_b (by omega)) (by unfold zs_Pr; omega)).trans (h.2.1.2.1.2.2.trans (mk 46 (by omega) (by omega)).symm)⟩, h.2.1.2.2.1.ad (by omega) hm h5 d1 (fun i hi => (X 12 i (by decide)).trans (c2.2 i hi)) (fun j hj => by
        rcases (show j = 0 ∨ j = 1 ∨ j = 2 ∨ j = 3 by omega) with rfl | rfl | rfl | rfl
        · rw [show 0 + 22 + 6 * 0 + m = 22 + m by omega, d2]; exact ⟨(X 12 _ (by decide)).trans c2.1.1, y0⟩
        · rw [show 0 + 22 + 6 * 1 + m = 28 + m by omega, d3]; exact ⟨(X 12 _ (by decide)).trans c2.1.2.1, y1⟩
        · rw [show 0 + 22 + 6 * 2 + m = 34 + m by omega, d4]; exact ⟨(X 12 _ (by decide)).trans c2.1.2.2.1, y2⟩
        · rw [show 0 + 22 + 6 * 3 + m = 40 + m by omega, d5]; exact ⟨(X 12 _ (by decide)).trans c2.1.2.2.2, y3⟩) (fun j q hj hq hn => mk (0 + 22 + 6 * j + q) (by omega) (by omega)), h.2.1.2.2.2.kp (by omega) (fun i hi => ck 13 i (zs_rp_c (by omega) hi) (by unfold zs_Pr; omega)) (mk (0 + 46) (by omega) (by omega)) (fun j q hj hq => mk (0 + 47 + 6 * j + q) (by omega) (by omega))⟩ (fun e he => c.1.s (by omega) (fun j i hr z => by
        have := zs_rp13 hr
        unfold zs_Pr at z
        omega)) f.q d.2.1.x (fun i hi h65 => d.2.2.1 i h65 (show ¬ (i = 21 ∨ i = 22 + m ∨ i = 28 + m ∨ i = 34 + m ∨ i = 40 + m) by omega)) d.2.1.k, c0.trans d0.symm⟩
    · obtain ⟨c0, c1⟩ := (c.2.2 hb).1 h5
      obtain ⟨d0, d1⟩ := (d.2.2.2.2 hb).1 h5
      exact ⟨h.rf c1 d.1 d.2.1 d1, c0.trans d0.symm⟩
theorem zs_Iw.mark {S S2 S3 : zs_S} {s k z x y : Int32} {m : Nat} (h : zs_Iw S) (hm : S.1 82 (0 + 46) = nI m) (c : zs_fP (zs_Pr 13) S S2 ∧ ((zs_q 0 11 s && (zs_q 0 99 k && (zs_q 0 30 z))) = false → x = (-2) ∧ zs_fr_W S S2) ∧ ((zs_q 0 11 s && (zs_q 0 99 k && (zs_q 0 30 z))) = true → (6 ≤ m → x = (-4) ∧ zs_fr_W S S2) ∧ (m < 6 → x = nI (m + 1) ∧ S2.1 13 2 = nI (m + 1) ∧ zs_nw 14 m s k z (nI 0) S S2))) (d : zs_J S3 ∧ zs_fm S2 S3 ∧ zs_mk (fun i => i = 46 ∨ i = 47 + m ∨ i = 53 + m ∨ i = 59 + m) S2 S3 ∧ ((zs_q 0 11 s && (zs_q 0 99 k && (zs_q 0 30 z))) = false → y = (-2) ∧ zs_mk zs_N0 S2 S3) ∧ ((zs_q 0 11 s && (zs_q 0 99 k && (zs_q 0 30 z))) = true → (6 ≤ m → y = (-4) ∧ zs_mk zs_N0 S2 S3) ∧ (m < 6 → y = nI (m + 1) ∧ S3.1 82 46 = nI (m + 1) ∧ S3.1 82 (47 + m) = s ∧ S3.1 82 (53 + m) = k ∧ S3.1 82 (59 + m) = z))) : zs_Iw S3 ∧ x = y := by
  have f := zs_fPn (zs_nPr (by omega) (by omega)) c.1
  have ck : ∀ j i, zs_rp j i → ¬ zs_Pr 13 (1 + j) i → S3.1 (1 + j) i = S.1 (1 + j) i := fun j i hr hp => (d.2.1.x _ _ (by have := zs_rp13 hr; omega)).1.trans (c.1 _ _ (zs_pqW (zs_rpW (Or.inl rfl) hr)) hp).1
  have mk : ∀ i, i < 65 → ¬ (i = 46 ∨ i = 47 + m ∨ i = 53 + m ∨ i = 59 + m) → S3.1 82 i = S.1 82 i := fun i hi hp => (d.2.2.1 i (by omega) hp).trans (f.q 82 i (by decide)).1
  have X : ∀ b i, b < 80 → S3.1 b i = S2.1 b i := fun b i hb => (d.2.1.x b i hb).1
  cases hb : (zs_q 0 11 s && (zs_q 0 99 k && (zs_q 0 30 z))) with
  | false => exact ⟨h.rf (c.2.1 hb).2 d.1 d.2.1 (d.2.2.2.1 hb).2, (c.2.1 hb).1.trans (d.2.2.2.1 hb).1.symm⟩
  | true =>
    rcases Nat.lt_or_ge m 6 with h5 | h5
    · obtain ⟨c0, c1, c2⟩ := (c.2.2 hb).2 h5
      obtain ⟨d0, d1, d2, d3, d4⟩ := (d.2.2.2.2 hb).2 h5
      have hB := hb
      simp only [Bool.and_eq_true] at hB
      obtain ⟨b0, b1, b2⟩ := hB
      have y0 : ∃ x, x ≤ 99 ∧ s = nI x := (zs_qB b0 (by omega)).imp (fun _ q => ⟨by omega, q.2⟩)
      have y1 := zs_qB b1 (by omega)
      have y2 : ∃ x, x ≤ 99 ∧ z = nI x := (zs_qB b2 (by omega)).imp (fun _ q => ⟨by omega, q.2⟩)
      exact ⟨h.mk (h.1.st f d.1 d.2.1) ⟨⟨(ck 0 0 (zs_rp_a (by omega)) (by unfold zs_Pr; omega)).trans (h.2.1.1.1.trans (mk 0 (by omega) (by omega)).symm), (ck 0 1 (zs_rp_a (by omega)) (by unfold zs_Pr; omega)).trans (h.2.1.1.2.1.trans (mk 1 (by omega) (by omega)).symm), (ck 0 2 (zs_rp_a (by omega)) (by unfold zs_Pr; omega)).trans (h.2.1.1.2.2.trans (mk 2 (by omega) (by omega)).symm)⟩, ⟨(ck 8 2 (zs_rp_b (by omega)) (by unfold zs_Pr; omega)).trans (h.2.1.2.1.1.trans (mk 8 (by omega) (by omega)).symm), (ck 10 2 (zs_rp_b (by omega)) (by unfold zs_Pr; omega)).trans (h.2.1.2.1.2.1.trans (mk 21 (by omega) (by omega)).symm), (X 13 2 (by decide)).trans (c1.trans d1.symm)⟩, h.2.1.2.2.1.kp (by omega) (fun i hi => ck 11 i (zs_rp_c (by omega) hi) (by unfold zs_Pr; omega)) (mk (0 + 21) (by omega) (by omega)) (fun j q hj hq => mk (0 + 22 + 6 * j + q) (by omega) (by omega)), h.2.1.2.2.2.ad (by omega) hm h5 d1 (fun i hi => (X 14 i (by decide)).trans (c2.2 i hi)) (fun j hj => by
        rcases (show j = 0 ∨ j = 1 ∨ j = 2 by omega) with rfl | rfl | rfl
        · rw [show 0 + 47 + 6 * 0 + m = 47 + m by omega, d2]; exact ⟨(X 14 _ (by decide)).trans c2.1.1, y0⟩
        · rw [show 0 + 47 + 6 * 1 + m = 53 + m by omega, d3]; exact ⟨(X 14 _ (by decide)).trans c2.1.2.1, y1⟩
        · rw [show 0 + 47 + 6 * 2 + m = 59 + m by omega, d4]; exact ⟨(X 14 _ (by decide)).trans c2.1.2.2.1, y2⟩) (fun j q hj hq hn => mk (0 + 47 + 6 * j + q) (by omega) (by omega))⟩ (fun e he => c.1.s (by omega) (fun j i hr z => by
        have := zs_rp13 hr
        unfold zs_Pr at z
        omega)) f.q d.2.1.x (fun i hi h65 => d.2.2.1 i h65 (show ¬ (i = 46 ∨ i = 47 + m ∨ i = 53 + m ∨ i = 59 + m) by omega)) d.2.1.k, c0.trans d0.symm⟩
    · obtain ⟨c0, c1⟩ := (c.2.2 hb).1 h5
      obtain ⟨d0, d1⟩ := (d.2.2.2.2 hb).1 h5
      exact ⟨h.rf c1 d.1 d.2.1 d1, c0.trans d0.symm⟩
theorem zs_Iw.forget {S S2 S3 : zs_S} {w x y : Int32} (h : zs_Iw S) (c : (zs_q 0 2 w = false → x = (-2) ∧ zs_fr_W S S2) ∧ (∀ k, k < 3 → w = nI k → x = S.1 (9 + 2 * k) 2 ∧ S2.1 (9 + 2 * k) 2 = nI 0 ∧ zs_fP (zs_P1 (9 + 2 * k) 2) S S2)) (d : zs_J S3 ∧ zs_fm S2 S3 ∧ (zs_q 0 2 w = false → y = (-2) ∧ zs_mk zs_N0 S2 S3) ∧ ∀ k, k < 3 → w = nI k → y = S2.1 82 (zs_wh k) ∧ S3.1 82 (zs_wh k) = nI 0 ∧ zs_mk (fun i => i = zs_wh k) S2 S3) : zs_Iw S3 ∧ x = y := by
  have f := zs_fgt c
  have X : ∀ b i, b < 80 → S3.1 b i = S2.1 b i := fun b i hb => (d.2.1.x b i hb).1
  cases hb : zs_q 0 2 w with
  | false => exact ⟨h.rf (c.1 hb).2 d.1 d.2.1 (d.2.2.1 hb).2, (c.1 hb).1.trans (d.2.2.1 hb).1.symm⟩
  | true =>
    obtain ⟨k, -, k2, rfl⟩ := zs_rng (of_decide_eq_true hb) (by omega)
    obtain rfl | rfl | rfl : k = 0 ∨ k = 1 ∨ k = 2 := by omega
    · have C := c.2 0 (by omega) rfl
      have D := d.2.2.2 0 (by omega) rfl
      have ck : ∀ j i, zs_rp j i → ¬ zs_P1 (9 + 2 * 0) 2 (1 + j) i → S3.1 (1 + j) i = S.1 (1 + j) i := fun j i hr hp => (d.2.1.x _ _ (by have := zs_rp13 hr; omega)).1.trans (C.2.2 _ _ (zs_pqW (zs_rpW (Or.inl rfl) hr)) hp).1
      have mk : ∀ i, i < 65 → ¬ (i = 8) → S3.1 82 i = S.1 82 i := fun i hi hp => (D.2.2 i (by omega) hp).trans (f.q 82 i (by decide)).1
      exact ⟨h.mk (h.1.st f d.1 d.2.1) ⟨⟨(ck 0 0 (zs_rp_a (by omega)) (by unfold zs_P1; omega)).trans (h.2.1.1.1.trans (mk 0 (by omega) (by omega)).symm), (ck 0 1 (zs_rp_a (by omega)) (by unfold zs_P1; omega)).trans (h.2.1.1.2.1.trans (mk 1 (by omega) (by omega)).symm), (ck 0 2 (zs_rp_a (by omega)) (by unfold zs_P1; omega)).trans (h.2.1.1.2.2.trans (mk 2 (by omega) (by omega)).symm)⟩, ⟨(X 9 2 (by decide)).trans (C.2.1.trans D.2.1.symm), (ck 10 2 (zs_rp_b (by omega)) (by unfold zs_P1; omega)).trans (h.2.1.2.1.2.1.trans (mk 21 (by omega) (by omega)).symm), (ck 12 2 (zs_rp_b (by omega)) (by unfold zs_P1; omega)).trans (h.2.1.2.1.2.2.trans (mk 46 (by omega) (by omega)).symm)⟩, h.2.1.2.2.1.kp (by omega) (fun i hi => ck 11 i (zs_rp_c (by omega) hi) (by unfold zs_P1; omega)) (mk (0 + 21) (by omega) (by omega)) (fun j q hj hq => mk (0 + 22 + 6 * j + q) (by omega) (by omega)), h.2.1.2.2.2.kp (by omega) (fun i hi => ck 13 i (zs_rp_c (by omega) hi) (by unfold zs_P1; omega)) (mk (0 + 46) (by omega) (by omega)) (fun j q hj hq => mk (0 + 47 + 6 * j + q) (by omega) (by omega))⟩ (fun e he => C.2.2.s (by omega) (fun j i hr z => by
        have := zs_rp13 hr
        unfold zs_P1 at z
        omega)) f.q d.2.1.x (fun i hi h65 => D.2.2 i h65 (show ¬ i = 8 by omega)) d.2.1.k, C.1.trans (h.2.1.2.1.1.trans ((f.q 82 8 (by decide)).1.symm.trans D.1.symm))⟩
    · have C := c.2 1 (by omega) rfl
      have D := d.2.2.2 1 (by omega) rfl
      have ck : ∀ j i, zs_rp j i → ¬ zs_P1 (9 + 2 * 1) 2 (1 + j) i → S3.1 (1 + j) i = S.1 (1 + j) i := fun j i hr hp => (d.2.1.x _ _ (by have := zs_rp13 hr; omega)).1.trans (C.2.2 _ _ (zs_pqW (zs_rpW (Or.inl rfl) hr)) hp).1
      have mk : ∀ i, i < 65 → ¬ (i = 21) → S3.1 82 i = S.1 82 i := fun i hi hp => (D.2.2 i (by omega) hp).trans (f.q 82 i (by decide)).1
      exact ⟨h.mk (h.1.st f d.1 d.2.1) ⟨⟨(ck 0 0 (zs_rp_a (by omega)) (by unfold zs_P1; omega)).trans (h.2.1.1.1.trans (mk 0 (by omega) (by omega)).symm), (ck 0 1 (zs_rp_a (by omega)) (by unfold zs_P1; omega)).trans (h.2.1.1.2.1.trans (mk 1 (by omega) (by omega)).symm), (ck 0 2 (zs_rp_a (by omega)) (by unfold zs_P1; omega)).trans (h.2.1.1.2.2.trans (mk 2 (by omega) (by omega)).symm)⟩, ⟨(ck 8 2 (zs_rp_b (by omega)) (by unfold zs_P1; omega)).trans (h.2.1.2.1.1.trans (mk 8 (by omega) (by omega)).symm), (X 11 2 (by decide)).trans (C.2.1.trans D.2.1.symm), (ck 12 2 (zs_rp_b (by omega)) (by unfold zs_P1; omega)).trans (h.2.1.2.1.2.2.trans (mk 46 (by omega) (by omega)).symm)⟩, zs_rc.z D.2.1, h.2.1.2.2.2.kp (by omega) (fun i hi => ck 13 i (zs_rp_c (by omega) hi) (by unfold zs_P1; omega)) (mk (0 + 46) (by omega) (by omega)) (fun j q hj hq => mk (0 + 47 + 6 * j + q) (by omega) (by omega))⟩ (fun e he => C.2.2.s (by omega) (fun j i hr z => by
        have := zs_rp13 hr
        unfold zs_P1 at z
        omega)) f.q d.2.1.x (fun i hi h65 => D.2.2 i h65 (show ¬ i = 21 by omega)) d.2.1.k, C.1.trans (h.2.1.2.1.2.1.trans ((f.q 82 21 (by decide)).1.symm.trans D.1.symm))⟩
    · have C := c.2 2 (by omega) rfl
      have D := d.2.2.2 2 (by omega) rfl
      have ck : ∀ j i, zs_rp j i → ¬ zs_P1 (9 + 2 * 2) 2 (1 + j) i → S3.1 (1 + j) i = S.1 (1 + j) i := fun j i hr hp => (d.2.1.x _ _ (by have := zs_rp13 hr; omega)).1.trans (C.2.2 _ _ (zs_pqW (zs_rpW (Or.inl rfl) hr)) hp).1
      have mk : ∀ i, i < 65 → ¬ (i = 46) → S3.1 82 i = S.1 82 i := fun i hi hp => (D.2.2 i (by omega) hp).trans (f.q 82 i (by decide)).1
      exact ⟨h.mk (h.1.st f d.1 d.2.1) ⟨⟨(ck 0 0 (zs_rp_a (by omega)) (by unfold zs_P1; omega)).trans (h.2.1.1.1.trans (mk 0 (by omega) (by omega)).symm), (ck 0 1 (zs_rp_a (by omega)) (by unfold zs_P1; omega)).trans (h.2.1.1.2.1.trans (mk 1 (by omega) (by omega)).symm), (ck 0 2 (zs_rp_a (by omega)) (by unfold zs_P1; omega)).trans (h.2.1.1.2.2.trans (mk 2 (by omega) (by omega)).symm)⟩, ⟨(ck 8 2 (zs_rp_b (by omega)) (by unfold zs_P1; omega)).trans (h.2.1.2.1.1.trans (mk 8 (by omega) (by omega)).symm), (ck 10 2 (zs_rp_b (by omega)) (by unfold zs_P1; omega)).trans (h.2.1.2.1.2.1.trans (mk 21 (by omega) (by omega)).symm), (X 13 2 (by decide)).trans (C.2.1.trans D.2.1.symm)⟩, h.2.1.2.2.1.kp (by omega) (fun i hi => ck 11 i (zs_rp_c (by omega) hi) (by unfold zs_P1; omega)) (mk (0 + 21) (by omega) (by omega)) (fun j q hj hq => mk (0 + 22 + 6 * j + q) (by omega) (by omega)), zs_rc.z D.2.1⟩ (fun e he => C.2.2.s (by omega) (fun j i hr z => by
        have := zs_rp13 hr
        unfold zs_P1 at z
        omega)) f.q d.2.1.x (fun i hi h65 => D.2.2 i h65 (show ¬ i = 46 by omega)) d.2.1.k, C.1.trans (h.2.1.2.1.2.2.trans ((f.q 82 46 (by decide)).1.symm.trans D.1.symm))⟩
theorem zs_Iw.image {S S2 S3 : zs_S} {a x y : Int32} (h : zs_Iw S) (c : ((zs_q 0 1 a = false → zs_fr_W S S2) ∧ ∀ k, k < 2 → a = nI k → zs_sc (15 + 14 * k) 1 S S2 ∧ ∀ d, (d = 1 ∨ d = 15 ∨ d = 29) → d ≠ 15 + 14 * k → zs_sc d d S S2) ∧ S2.1 44 = S.1 44 ∧ zs_fq S S2 ∧ S2.1 43 1 = S.1 43 1 ∧ ((∃ k, k < 2 ∧ a = nI k ∧ x = nI 1 ∧ ∀ i, i < 2 → S2.1 0 (3 + i) = if i = k then nI 1 else S.1 0 (3 + i)) ∨ (¬ (nI 0 ≤ a ∧ a ≤ nI 1) ∧ x = (-2) ∧ ∀ i, i < 2 → S2.1 0 (3 + i) = S.1 0 (3 + i)))) (d : ((zs_q 0 1 a = false → zs_mk zs_N0 S2 S3) ∧ ∀ k, k < 2 → a = nI k → (∀ i, i < 66 → S3.1 82 (66 * (k + 1) + i) = S2.1 82 i) ∧ ∀ i, (i < 66 * (k + 1) ∨ 66 * (k + 1) + 66 ≤ i) → S3.1 82 i = S2.1 82 i) ∧ S3.1 84 = S2.1 84 ∧ zs_J S3 ∧ zs_fx S2 S3 ∧ S3.1 80 3 = S2.1 80 3 ∧ ((∃ k, k < 2 ∧ a = nI k ∧ y = nI 1 ∧ ∀ i, S3.1 83 i = if i = k then nI 1 else S2.1 83 i) ∨ (¬ (nI 0 ≤ a ∧ a ≤ nI 1) ∧ y = (-2) ∧ ∀ i, S3.1 83 i = S2.1 83 i))) : zs_Iw S3 ∧ x = y := by
  obtain ⟨i1, i2⟩ := h.1.image c.2 d.2
  refine ⟨?_, i2⟩
  have fq := c.2.2.1
  have fx := d.2.2.2.1
  have rg : ∀ k, k < 2 → nI 0 ≤ nI k ∧ nI k ≤ nI 1 := fun k hk => ⟨nI_le (by omega) (by omega), nI_le (by omega) (by omega)⟩
  cases hb : zs_q 0 1 a with
  | false =>
    have hr : ¬ (nI 0 ≤ a ∧ a ≤ nI 1) := of_decide_eq_false hb
    have hk : ∀ k, S3.1 83 k = S2.1 83 k := by
      rcases d.2.2.2.2.2 with ⟨k, k1, k2, k3, k4⟩ | ⟨k2, k3, k4⟩
      · exact absurd (k2 ▸ rg k k1) hr
      · exact k4
    have C := c.1.1 hb
    have D := d.1.1 hb
    exact h.mk i1 (h.2.1.kp (C.h.s (by omega)) fq fx (fun i hi => D i (by omega) (fun z => z))) (fun d hd => C.h.s (by omega)) fq fx (fun i _ h65 => D i h65 (fun z => z)) hk
  | true =>
    obtain ⟨k, -, k2, rfl⟩ := zs_rng (of_decide_eq_true hb) (by omega)
    have C := c.1.2 k (by omega) rfl
    have D := d.1.2 k (by omega) rfl
    have hf : ∀ i, S3.1 83 i = if i = k then nI 1 else S2.1 83 i := by
      rcases d.2.2.2.2.2 with ⟨j, j1, j2, j3, j4⟩ | ⟨j2, j3, j4⟩
      · obtain rfl : k = j := (nI_eq (by omega) (by omega)).mp j2
        exact j4
      · exact absurd (rg k (by omega)) j2
    refine ⟨i1, h.2.1.kp (C.2 1 (by omega) (by omega)) fq fx (fun i hi => D.2 i (by omega)), fun j hj hz => ?_⟩
    by_cases e : j = k
    · subst e
      exact h.2.1.tr C.1 fx (by omega) (fun i hi => (D.1 i (by omega)).trans ((fq 82 i (by decide)).1.trans (by rw [Nat.zero_add])))
    · have hz' : ¬ S.1 83 j = 0 := fun z => hz (by rw [hf j, if_neg e, (fq 83 j (by decide)).1]; exact z)
      exact (h.2.2 j hj hz').tr (C.2 (15 + 14 * j) (by omega) (by omega)) fx (by omega) (fun i hi => (D.2 (66 * (j + 1) + i) (by omega)).trans (fq 82 _ (by decide)).1)
theorem zs_Iw.from {S S2 S3 : zs_S} {a x y : Int32} (h : zs_Iw S) (c : (((∀ k, k < 2 → a = nI k → S.1 0 (3 + k) = 0) → zs_fr_W S S2) ∧ ∀ k, k < 2 → a = nI k → ¬ S.1 0 (3 + k) = 0 → zs_sc 1 (15 + 14 * k) S S2 ∧ ∀ d, (d = 15 ∨ d = 29) → zs_sc d d S S2) ∧ zs_fr S S2 ∧ ((¬ (nI 0 ≤ a ∧ a ≤ nI 1) ∧ x = (-2)) ∨ ∃ k, k < 2 ∧ a = nI k ∧ ((S.1 0 (3 + k) = 0 ∧ x = (-3)) ∨ (¬ S.1 0 (3 + k) = 0 ∧ x = nI 1)))) (d : (((∀ k, k < 2 → a = nI k → S2.1 83 k = 0) → zs_mk zs_N0 S2 S3) ∧ ∀ k, k < 2 → a = nI k → ¬ S2.1 83 k = 0 → (∀ i, i < 66 → S3.1 82 i = S2.1 82 (66 * (k + 1) + i)) ∧ ∀ i, 66 ≤ i → S3.1 82 i = S2.1 82 i) ∧ zs_J S3 ∧ zs_fm S2 S3 ∧ ((¬ (nI 0 ≤ a ∧ a ≤ nI 1) ∧ y = (-2)) ∨ ∃ k, k < 2 ∧ a = nI k ∧ ((S2.1 83 k = 0 ∧ y = (-3)) ∨ (¬ S2.1 83 k = 0 ∧ y = nI 1)))) : zs_Iw S3 ∧ x = y := by
  obtain ⟨i1, i2⟩ := h.1.from c.2 d.2
  refine ⟨?_, i2⟩
  have f := c.2.1
  have m := d.2.2.1
  have fl : ∀ k, k < 2 → (S.1 0 (3 + k) = 0 ↔ S2.1 83 k = 0) := fun k hk => by rw [(f.q 83 k (by decide)).1]; exact h.1.2.1 k hk
  by_cases hk : ∃ k, k < 2 ∧ a = nI k ∧ ¬ S.1 0 (3 + k) = 0
  · obtain ⟨k, k1, k2, k3⟩ := hk
    have C := c.1.2 k k1 k2 k3
    have k4 : ¬ S2.1 83 k = 0 := fun z => k3 ((fl k k1).mpr z)
    have k5 : ¬ S.1 83 k = 0 := fun z => k3 ((h.1.2.1 k k1).mpr z)
    have D := d.1.2 k k1 k2 k4
    exact h.mk i1 ((h.2.2 k k1 k5).tr C.1 m.x (by omega) (fun i hi => by rw [Nat.zero_add]; exact (D.1 i (by omega)).trans (f.q 82 _ (by decide)).1)) (fun e he => C.2 e he) f.q m.x (fun i hi _ => D.2 i hi) m.k
  · have nk : ∀ k, k < 2 → a = nI k → S.1 0 (3 + k) = 0 := fun k k1 k2 => Classical.byContradiction fun z => hk ⟨k, k1, k2, z⟩
    exact h.rf (c.1.1 nk) d.2.1 m (d.1.1 (fun k k1 k2 => (fl k k1).mp (nk k k1 k2)))
theorem zs_Iw.type {S S2 S3 : zs_S} {cc x y : Int32} {m : Nat} {B : Nat → Nat} (h : zs_Iw S) (ht : zs_tx S B m) (hu : zs_tm S B m) (c : zs_hk S S2 ∧ zs_fq S S2 ∧ (∀ i, i < 2 → S2.1 0 (3 + i) = S.1 0 (3 + i)) ∧ ((¬ (nI 0 ≤ cc ∧ cc ≤ nI 127) ∧ x = (-2) ∧ S2.1 43 1 = S.1 43 1 ∧ S2.1 44 = S.1 44) ∨ ((nI 0 ≤ cc ∧ cc ≤ nI 127) ∧ ((150 ≤ m ∧ x = (-4) ∧ S2.1 43 1 = S.1 43 1 ∧ S2.1 44 = S.1 44) ∨ (m < 150 ∧ x = nI (m + 1) ∧ S2.1 43 1 = nI (m + 1) ∧ S2.1 44 m = cc ∧ ∀ i, i ≠ m → S2.1 44 i = S.1 44 i))))) (d : zs_mk zs_N0 S2 S3 ∧ zs_J S3 ∧ zs_fx S2 S3 ∧ (∀ i, S3.1 83 i = S2.1 83 i) ∧ ((¬ (nI 0 ≤ cc ∧ cc ≤ nI 127) ∧ y = (-2) ∧ S3.1 80 3 = S2.1 80 3 ∧ S3.1 84 = S2.1 84) ∨ ((nI 0 ≤ cc ∧ cc ≤ nI 127) ∧ ((150 ≤ m ∧ y = (-4) ∧ S3.1 80 3 = S2.1 80 3 ∧ S3.1 84 = S2.1 84) ∨ (m < 150 ∧ y = nI (m + 1) ∧ S3.1 80 3 = nI (m + 1) ∧ S3.1 84 m = cc ∧ ∀ i, i ≠ m → S3.1 84 i = S2.1 84 i))))) : zs_Iw S3 ∧ x = y := by
  obtain ⟨i1, i2⟩ := h.1.type ht hu c.2 d.2
  exact ⟨h.mk i1 (h.2.1.kp (c.1.s (by omega)) c.2.1 d.2.2.1 (fun i hi => d.1 i (by omega) (fun z => z))) (fun e he => c.1.s (by omega)) c.2.1 d.2.2.1 (fun i _ h65 => d.1 i h65 (fun z => z)) d.2.2.2.1, i2⟩
theorem zs_Iw.clear {S S2 S3 : zs_S} {x y : Int32} (h : zs_Iw S) (c : zs_hk S S2 ∧ zs_fq S S2 ∧ (∀ i, i < 2 → S2.1 0 (3 + i) = S.1 0 (3 + i)) ∧ S2.1 43 1 = nI 0 ∧ x = S.1 43 1) (d : zs_mk zs_N0 S2 S3 ∧ zs_J S3 ∧ zs_fx S2 S3 ∧ (∀ i, S3.1 83 i = S2.1 83 i) ∧ S3.1 80 3 = nI 0 ∧ y = S2.1 80 3) : zs_Iw S3 ∧ x = y := by
  obtain ⟨i1, i2⟩ := h.1.clear c.2 d.2
  exact ⟨h.mk i1 (h.2.1.kp (c.1.s (by omega)) c.2.1 d.2.2.1 (fun i hi => d.1 i (by omega) (fun z => z))) (fun e he => c.1.s (by omega)) c.2.1 d.2.2.1 (fun i _ h65 => d.1 i h65 (fun z => z)) d.2.2.2.1, i2⟩
theorem zs_Iw.read {S S2 S3 : zs_S} {x y : Int32} {B : Nat → Nat} {L : Nat} (h : zs_Iw S) (c : zs_fr S S2 ∧ ((tp_read (tx_k B L) (tx_v B L)).1 = true → x = nI (tp_read (tx_k B L) (tx_v B L)).2.1) ∧ ((tp_read (tx_k B L) (tx_v B L)).1 = false → x = (-10) - nI (tx_p B L (tp_read (tx_k B L) (tx_v B L)).2.2.1)) ∧ (∀ d, (d = 15 ∨ d = 29) → zs_sc d d S S2) ∧ ((tp_read (tx_k B L) (tx_v B L)).1 = true → S2.1 1 0 = nI (tx_v B L 1) ∧ S2.1 1 1 = nI (tx_v B L 2) ∧ S2.1 1 2 = nI (tp_read (tx_k B L) (tx_v B L)).2.2.2 ∧ S2.1 9 2 = nI 0 ∧ S2.1 11 2 = nI 0 ∧ S2.1 13 2 = nI 0) ∧ ((tp_read (tx_k B L) (tx_v B L)).1 = false → zs_sc 1 1 S S2)) (d : zs_J S3 ∧ zs_fm S2 S3 ∧ zs_tm S3 B L ∧ ((tp_read (tx_k B L) (tx_v B L)).1 = true → y = nI (tp_read (tx_k B L) (tx_v B L)).2.1 ∧ S3.1 82 2 = nI (tp_read (tx_k B L) (tx_v B L)).2.2.2 ∧ S3.1 82 0 = nI (tx_v B L 1) ∧ S3.1 82 1 = nI (tx_v B L 2) ∧ zs_zm S3 ∧ zs_im S2 S3) ∧ ((tp_read (tx_k B L) (tx_v B L)).1 = false → y = (-10) - nI (tx_p B L (tp_read (tx_k B L) (tx_v B L)).2.2.1) ∧ S3.1 82 = S2.1 82)) : zs_Iw S3 ∧ x = y := by
  obtain ⟨i1, i2⟩ := h.1.read ⟨c.1, c.2.1, c.2.2.1⟩ d
  refine ⟨?_, i2⟩
  have X : ∀ b i, b < 80 → S3.1 b i = S2.1 b i := fun b i hb => (d.2.1.x b i hb).1
  cases hb : (tp_read (tx_k B L) (tx_v B L)).1 with
  | true =>
    obtain ⟨c0, c1, c2, c3, c4, c5⟩ := c.2.2.2.2.1 hb
    obtain ⟨d0, d1, d2, d3, ⟨d4, d5, d6⟩, d7⟩ := d.2.2.2.1 hb
    exact h.mk i1 (zs_rl.z ((X 1 0 (by decide)).trans (c0.trans d2.symm)) ((X 1 1 (by decide)).trans (c1.trans d3.symm)) ((X 1 2 (by decide)).trans (c2.trans d1.symm)) ((X 9 2 (by decide)).trans c3) ((X 11 2 (by decide)).trans c4) ((X 13 2 (by decide)).trans c5) d4 d5 d6) c.2.2.2.1 c.1.q d.2.1.x (fun i hi _ => d7 i hi) d.2.1.k
  | false =>
    have D := (d.2.2.2.2 hb).2
    exact h.mk i1 (h.2.1.kp (c.2.2.2.2.2 hb) c.1.q d.2.1.x (fun i hi => by rw [D])) c.2.2.2.1 c.1.q d.2.1.x (fun i _ _ => by rw [D]) d.2.1.k
