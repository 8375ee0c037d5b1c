/-! THE MODEL'S BOUNDS -/
def zs_rg (a j : Nat) : Option (Nat × Nat) :=
  bif Nat.beq a 81 then (bif Nat.beq (j % 25) 0 || Nat.beq (j % 25) 2 then some (0, 11) else bif Nat.ble 3 (j % 25) && Nat.ble (j % 25) 14 then some (0, 9) else none)
  else bif Nat.beq a 82 then (bif Nat.beq (j % 66) 0 then some (bif Nat.beq j 0 then 1 else 0, 12) else bif Nat.beq (j % 66) 2 then some (0, 5) else bif Nat.beq (j % 66) 8 || Nat.beq (j % 66) 21 || Nat.beq (j % 66) 46 then some (0, 6) else bif Nat.ble 9 (j % 66) && Nat.ble (j % 66) 14 then some (0, 30) else bif Nat.beq (j % 66) 65 then some (0, 8) else none)
  else bif Nat.beq a 80 then (bif Nat.beq j 3 || Nat.beq j 5 || Nat.beq j 6 then some (0, 150) else bif Nat.beq j 7 || Nat.beq j 8 then some (0, 1) else bif Nat.beq j 9 then some (0, 5) else bif Nat.beq j 10 then some (0, 12) else none) else none
def zs_J (S : zs_S) : Prop := (∀ a j lo up, zs_rg a j = some (lo, up) → ∃ k, lo ≤ k ∧ k ≤ up ∧ S.1 a j = nI k) ∧ ∀ i, i < 2 → S.1 83 i = 0 ∨ ∃ k, 1 ≤ k ∧ k ≤ 12 ∧ S.1 82 (66 * (i + 1)) = nI k
def zs_pm (b i : Nat) : Bool := Nat.ble b 79 || (Nat.beq b 80 && Nat.beq i 3) || Nat.beq b 83 || Nat.beq b 84
def zs_fm (S S2 : zs_S) : Prop := ∀ b i, zs_pm b i = true → S2.1 b i = S.1 b i ∧ S2.2 b i = S.2 b i
theorem zs_fm.rf {S : zs_S} : zs_fm S S := fun _ _ _ => ⟨rfl, rfl⟩
theorem zs_fm.tr {S S1 S2 : zs_S} (h : zs_fm S S1) (k : zs_fm S1 S2) : zs_fm S S2 := fun b i hb => ⟨(k b i hb).1.trans (h b i hb).1, (k b i hb).2.trans (h b i hb).2⟩
theorem zs_fm.up {S : zs_S} {a j : Nat} {v : Int32} (h : zs_pm a j = false) : zs_fm S (zs_up S.1 a j v, S.2) := fun b i hb => ⟨zs_up_n (fun q => by rw [q.1, q.2, h] at hb; exact absurd hb (by decide)), rfl⟩
theorem zs_fm.upL {S : zs_S} {a j : Nat} {v : Int64} (h : zs_pm a j = false) : zs_fm S (S.1, zs_upL S.2 a j v) := fun b i hb => ⟨rfl, by
  show zs_upL S.2 a j v b i = S.2 b i
  simp only [zs_upL]
  rw [if_neg (fun q => by rw [q.1, q.2, h] at hb; exact absurd hb (by decide))]⟩
def zs_ok (a i : Nat) (x : Int32) : Prop := (∀ lo up, zs_rg a i = some (lo, up) → ∃ k, lo ≤ k ∧ k ≤ up ∧ x = nI k) ∧ (a = 82 → i ≠ 66 ∧ i ≠ 132) ∧ a ≠ 83
theorem zs_J.up {S : zs_S} {a i : Nat} {x : Int32} (hJ : zs_J S) (h : zs_ok a i x) : zs_J (zs_up S.1 a i x, S.2) := by
  refine ⟨fun b j lo up hr => ?_, fun k hk => ?_⟩
  · by_cases hb : b = a ∧ j = i
    · obtain ⟨rfl, rfl⟩ := hb
      obtain ⟨m, h1, h2, h3⟩ := h.1 lo up hr
      exact ⟨m, h1, h2, zs_up_s.trans h3⟩
    · obtain ⟨m, h1, h2, h3⟩ := hJ.1 b j lo up hr
      exact ⟨m, h1, h2, (zs_up_n hb).trans h3⟩
  · have e1 : (zs_up S.1 a i x) 83 k = S.1 83 k := zs_up_n (fun q => h.2.2 q.1.symm)
    have e2 : (zs_up S.1 a i x) 82 (66 * (k + 1)) = S.1 82 (66 * (k + 1)) := zs_up_n (fun q => by
      have := h.2.1 q.1.symm
      omega)
    show (zs_up S.1 a i x) 83 k = 0 ∨ ∃ m, 1 ≤ m ∧ m ≤ 12 ∧ (zs_up S.1 a i x) 82 (66 * (k + 1)) = nI m
    rw [e1, e2]
    exact hJ.2 k hk
theorem zs_J.upL {S : zs_S} {a i : Nat} {x : Int64} (hJ : zs_J S) : zs_J (S.1, zs_upL S.2 a i x) := hJ
theorem zs_okN {a i : Nat} {x : Int32} (h : zs_rg a i = none) (h1 : a ≠ 82) (h2 : a ≠ 83) : zs_ok a i x := ⟨fun lo up hr => (by rw [h] at hr; cases hr), fun z => absurd z h1, h2⟩
theorem zs_okR {a i m lo up : Nat} (h : zs_rg a i = some (lo, up)) (g1 : lo ≤ m) (g2 : m ≤ up) (h1 : a ≠ 82) (h2 : a ≠ 83) : zs_ok a i (nI m) := ⟨fun l u hr => (by rw [h] at hr; cases hr; exact ⟨m, g1, g2, rfl⟩), fun z => absurd z h1, h2⟩
theorem zs_okN2 {i : Nat} {x : Int32} (h : zs_rg 82 i = none) (h1 : i < 66) : zs_ok 82 i x := ⟨fun lo up hr => (by rw [h] at hr; cases hr), fun _ => by omega, by decide⟩
theorem zs_okR2 {i m lo up : Nat} (h : zs_rg 82 i = some (lo, up)) (g1 : lo ≤ m) (g2 : m ≤ up) (h1 : i < 66) : zs_ok 82 i (nI m) := ⟨fun l u hr => (by rw [h] at hr; cases hr; exact ⟨m, g1, g2, rfl⟩), fun _ => by omega, by decide⟩
def zs_Rn (lo up : Nat) : Option Value → Prop := fun v => ∃ k, lo ≤ k ∧ k ≤ up ∧ v = some (.int (nI k))
def zs_Rp (P : Prop) : Option Value → Prop := fun v => ∃ x, v = some (.int x) ∧ narrow .boolean (.int x) = .int x ∧ (¬ x = 0 → P)
theorem zs_nb {k : Nat} (h : k ≤ 1) : narrow .boolean (.int (nI k)) = .int (nI k) := by
  obtain rfl | rfl : k = 0 ∨ k = 1 := by omega
  · rfl
  · rfl
theorem zs_nb2 {k : Nat} (h : k ≤ 1) : narrow .boolean (.int (nI k)) = .int (nI k) ∧ fits .boolean (.int (nI k)) = true := by
  obtain rfl | rfl : k = 0 ∨ k = 1 := by omega
  · exact ⟨rfl, rfl⟩
  · exact ⟨rfl, rfl⟩
section zs_model
variable {M : zs_M} {pc : Nat} {lv lv' : List (Nat × Value)} {st : List Value} {R : Option Value → Prop}
end zs_model
theorem zs_inR {v : Int32} {lo hi : Nat} (h : lN lo ≤ v.toInt64 ∧ v.toInt64 ≤ lN hi) (h1 : lo < 2 ^ 31) (h2 : hi < 2 ^ 31) : ∃ k : Nat, lo ≤ k ∧ k ≤ hi ∧ v = nI k := by
  have e : nI lo ≤ v ∧ v ≤ nI hi := by
    rw [Int64.le_iff_toInt_le, Int64.le_iff_toInt_le, lN_toInt h1, lN_toInt h2, Int32.toInt_toInt64] at h
    rw [Int32.le_iff_toInt_le, Int32.le_iff_toInt_le, nI_toInt h1, nI_toInt h2]
    exact h
  exact zs_rng e ⟨h1, h2⟩
theorem zs_inE {v : Int32} {m : Nat} (h : lN 0 ≤ v.toInt64 ∧ v.toInt64 ≤ (nI m - nI 1).toInt64) (hm : m < 2 ^ 20) : ∃ k : Nat, k < m ∧ v = nI k := by
  rcases Nat.eq_zero_or_pos m with rfl | hp
  · have h1 := Int64.le_iff_toInt_le.mp h.1
    have h2 := Int64.le_iff_toInt_le.mp h.2
    rw [Int32.toInt_toInt64] at h1 h2
    rw [Int32.toInt_toInt64, show (nI 0 - nI 1).toInt = -1 by decide] at h2
    rw [lN_toInt (by decide)] at h1
    omega
  · rw [pk_sub hp] at h
    have e : nI 0 ≤ v ∧ v ≤ nI (m - 1) := by
      rw [Int64.le_iff_toInt_le, Int64.le_iff_toInt_le, lN_toInt (by decide), Int32.toInt_toInt64, Int32.toInt_toInt64] at h
      rw [Int32.le_iff_toInt_le, Int32.le_iff_toInt_le, nI_toInt (by decide)]
      exact h
    obtain ⟨k, -, h2, rfl⟩ := zs_rng e ⟨by decide, by omega⟩
    exact ⟨k, by omega, rfl⟩
