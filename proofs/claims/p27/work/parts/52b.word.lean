def tx_wv (B : Nat → Nat) (s : Nat) : Nat → Nat
  | 0 => 0
  | n + 1 => if 1000000000 < tx_wv B s n then tx_wv B s n else 32 * tx_wv B s n + (B (s + n) - 96)
theorem tx_wvB {B : Nat → Nat} {s : Nat} : ∀ n, (∀ k, k < n → B (s + k) ≤ 127) → tx_wv B s n ≤ 32000000031 := by
  intro n
  induction n with
  | zero => intro _; exact Nat.zero_le _
  | succ n ih =>
    intro h
    have h1 := ih (fun k hk => h k (by omega))
    have h2 := h n (by omega)
    show (if 1000000000 < tx_wv B s n then tx_wv B s n else 32 * tx_wv B s n + (B (s + n) - 96)) ≤ _
    split
    · exact h1
    · omega
theorem tx_wvS {B : Nat → Nat} {s n : Nat} (h : tx_wv B s n ≤ 1000000000) : tx_wv B s (n + 1) = 32 * tx_wv B s n + (B (s + n) - 96) := if_neg (by omega)
theorem lN_big {n : Nat} (h : n < 2 ^ 62) : (lN n).toInt = (n : Int) := lg_ofNat_toInt (by omega)
theorem tx_cmp {v : Nat} (h : v ≤ 32000000031) : 0 < lg_cmp (lN v) 1000000000 ↔ 1000000000 < v := by
  rw [lg_cmp_gt, Int64.lt_iff_toInt_lt, lN_big (by omega), show (1000000000 : Int64).toInt = 1000000000 from rfl]
  omega
theorem tx_cmpE {v c : Nat} (h : v ≤ 32000000031) (hc : c < 1000000) : lg_cmp (lN v) (lN c) = 0 ↔ v = c := by
  constructor
  · intro z
    have := congrArg Int64.toInt (zs_cmp0 z)
    rw [lN_big (by omega), lN_big (by omega)] at this
    omega
  · intro z
    subst z
    simp [lg_cmp]
/-- the letters of a word, as its number says them -/
theorem tx_wv5 {B : Nat → Nat} {s : Nat} : ∀ n, 5 ≤ n → (∀ k, k < n → 97 ≤ B (s + k) ∧ B (s + k) ≤ 122) → 1048576 ≤ tx_wv B s n := by
  intro n hn
  have key : ∀ d, (∀ k, k < 5 + d → 97 ≤ B (s + k) ∧ B (s + k) ≤ 122) → 1048576 ≤ tx_wv B s (5 + d) := by
    intro d
    induction d with
    | zero =>
      intro h
      have a0 := h 0 (by omega)
      have a1 := h 1 (by omega)
      have a2 := h 2 (by omega)
      have a3 := h 3 (by omega)
      have a4 := h 4 (by omega)
      have e0 : tx_wv B s 0 = 0 := rfl
      have e1 : tx_wv B s 1 = 32 * tx_wv B s 0 + (B (s + 0) - 96) := tx_wvS (by omega)
      have e2 : tx_wv B s 2 = 32 * tx_wv B s 1 + (B (s + 1) - 96) := tx_wvS (by omega)
      have e3 : tx_wv B s 3 = 32 * tx_wv B s 2 + (B (s + 2) - 96) := tx_wvS (by omega)
      have e4 : tx_wv B s 4 = 32 * tx_wv B s 3 + (B (s + 3) - 96) := tx_wvS (by omega)
      have e5 : tx_wv B s 5 = 32 * tx_wv B s 4 + (B (s + 4) - 96) := tx_wvS (by omega)
      show 1048576 ≤ tx_wv B s 5
      omega
    | succ d ih =>
      intro h
      have h1 := ih (fun k hk => h k (by omega))
      show 1048576 ≤ (if 1000000000 < tx_wv B s (5 + d) then tx_wv B s (5 + d) else 32 * tx_wv B s (5 + d) + (B (s + (5 + d)) - 96))
      split
      · exact h1
      · omega
  intro h
  have := key (n - 5) (fun k hk => h k (by omega))
  rwa [show 5 + (n - 5) = n by omega] at this
theorem tx_cd0 {B : Nat → Nat} {s e : Nat} (h : ∀ k, k < e - s → 97 ≤ B (s + k) ∧ B (s + k) ≤ 122) : tx_wv B s (e - s) = 150189 ↔ tx_w B s e (tx_ws.getD 0 []) := by
  constructor
  · intro hv
    generalize hn : e - s = n at h hv
    have hn5 : n < 5 := by
      rcases Nat.lt_or_ge n 5 with z | z
      · exact z
      · have := tx_wv5 n z h
        omega
    have e0 : tx_wv B s 0 = 0 := rfl
    rcases (show n = 0 ∨ n = 1 ∨ n = 2 ∨ n = 3 ∨ n = 4 by omega) with rfl | rfl | rfl | rfl | rfl
    · omega
    · have a0 := h 0 (by omega)
      have f1 : tx_wv B s 1 = 32 * tx_wv B s 0 + (B (s + 0) - 96) := tx_wvS (by omega)
      omega
    · have a0 := h 0 (by omega)
      have a1 := h 1 (by omega)
      have f1 : tx_wv B s 1 = 32 * tx_wv B s 0 + (B (s + 0) - 96) := tx_wvS (by omega)
      have f2 : tx_wv B s 2 = 32 * tx_wv B s 1 + (B (s + 1) - 96) := tx_wvS (by omega)
      omega
    · have a0 := h 0 (by omega)
      have a1 := h 1 (by omega)
      have a2 := h 2 (by omega)
      have f1 : tx_wv B s 1 = 32 * tx_wv B s 0 + (B (s + 0) - 96) := tx_wvS (by omega)
      have f2 : tx_wv B s 2 = 32 * tx_wv B s 1 + (B (s + 1) - 96) := tx_wvS (by omega)
      have f3 : tx_wv B s 3 = 32 * tx_wv B s 2 + (B (s + 2) - 96) := tx_wvS (by omega)
      omega
    · have a0 := h 0 (by omega)
      have a1 := h 1 (by omega)
      have a2 := h 2 (by omega)
      have a3 := h 3 (by omega)
      have f1 : tx_wv B s 1 = 32 * tx_wv B s 0 + (B (s + 0) - 96) := tx_wvS (by omega)
      have f2 : tx_wv B s 2 = 32 * tx_wv B s 1 + (B (s + 1) - 96) := tx_wvS (by omega)
      have f3 : tx_wv B s 3 = 32 * tx_wv B s 2 + (B (s + 2) - 96) := tx_wvS (by omega)
      have f4 : tx_wv B s 4 = 32 * tx_wv B s 3 + (B (s + 3) - 96) := tx_wvS (by omega)
      refine ⟨hn, fun k hk => ?_⟩
      have hk : k < 4 := hk
      rcases (show k = 0 ∨ k = 1 ∨ k = 2 ∨ k = 3 by omega) with rfl | rfl | rfl | rfl
      · show B (s + 0) = 100
        omega
      · show B (s + 1) = 114
        omega
      · show B (s + 2) = 117
        omega
      · show B (s + 3) = 109
        omega
  · rintro ⟨h1, h2⟩
    have h1 : e - s = 4 := h1
    rw [h1]
    have a0 : B (s + 0) = 100 := h2 0 (show 0 < 4 by decide)
    have a1 : B (s + 1) = 114 := h2 1 (show 1 < 4 by decide)
    have a2 : B (s + 2) = 117 := h2 2 (show 2 < 4 by decide)
    have a3 : B (s + 3) = 109 := h2 3 (show 3 < 4 by decide)
    have e0 : tx_wv B s 0 = 0 := rfl
    have f1 : tx_wv B s 1 = 32 * tx_wv B s 0 + (B (s + 0) - 96) := tx_wvS (by omega)
    have f2 : tx_wv B s 2 = 32 * tx_wv B s 1 + (B (s + 1) - 96) := tx_wvS (by omega)
    have f3 : tx_wv B s 3 = 32 * tx_wv B s 2 + (B (s + 2) - 96) := tx_wvS (by omega)
    have f4 : tx_wv B s 4 = 32 * tx_wv B s 3 + (B (s + 3) - 96) := tx_wvS (by omega)
    omega
theorem tx_cd1 {B : Nat → Nat} {s e : Nat} (h : ∀ k, k < e - s → 97 ≤ B (s + k) ∧ B (s + k) ≤ 122) : tx_wv B s (e - s) = 149559 ↔ tx_w B s e (tx_ws.getD 1 []) := by
  constructor
  · intro hv
    generalize hn : e - s = n at h hv
    have hn5 : n < 5 := by
      rcases Nat.lt_or_ge n 5 with z | z
      · exact z
      · have := tx_wv5 n z h
        omega
    have e0 : tx_wv B s 0 = 0 := rfl
    rcases (show n = 0 ∨ n = 1 ∨ n = 2 ∨ n = 3 ∨ n = 4 by omega) with rfl | rfl | rfl | rfl | rfl
    · omega
    · have a0 := h 0 (by omega)
      have f1 : tx_wv B s 1 = 32 * tx_wv B s 0 + (B (s + 0) - 96) := tx_wvS (by omega)
      omega
    · have a0 := h 0 (by omega)
      have a1 := h 1 (by omega)
      have f1 : tx_wv B s 1 = 32 * tx_wv B s 0 + (B (s + 0) - 96) := tx_wvS (by omega)
      have f2 : tx_wv B s 2 = 32 * tx_wv B s 1 + (B (s + 1) - 96) := tx_wvS (by omega)
      omega
    · have a0 := h 0 (by omega)
      have a1 := h 1 (by omega)
      have a2 := h 2 (by omega)
      have f1 : tx_wv B s 1 = 32 * tx_wv B s 0 + (B (s + 0) - 96) := tx_wvS (by omega)
      have f2 : tx_wv B s 2 = 32 * tx_wv B s 1 + (B (s + 1) - 96) := tx_wvS (by omega)
      have f3 : tx_wv B s 3 = 32 * tx_wv B s 2 + (B (s + 2) - 96) := tx_wvS (by omega)
      omega
    · have a0 := h 0 (by omega)
      have a1 := h 1 (by omega)
      have a2 := h 2 (by omega)
      have a3 := h 3 (by omega)
      have f1 : tx_wv B s 1 = 32 * tx_wv B s 0 + (B (s + 0) - 96) := tx_wvS (by omega)
      have f2 : tx_wv B s 2 = 32 * tx_wv B s 1 + (B (s + 1) - 96) := tx_wvS (by omega)
      have f3 : tx_wv B s 3 = 32 * tx_wv B s 2 + (B (s + 2) - 96) := tx_wvS (by omega)
      have f4 : tx_wv B s 4 = 32 * tx_wv B s 3 + (B (s + 3) - 96) := tx_wvS (by omega)
      refine ⟨hn, fun k hk => ?_⟩
      have hk : k < 4 := hk
      rcases (show k = 0 ∨ k = 1 ∨ k = 2 ∨ k = 3 by omega) with rfl | rfl | rfl | rfl
      · show B (s + 0) = 100
        omega
      · show B (s + 1) = 114
        omega
      · show B (s + 2) = 97
        omega
      · show B (s + 3) = 119
        omega
  · rintro ⟨h1, h2⟩
    have h1 : e - s = 4 := h1
    rw [h1]
    have a0 : B (s + 0) = 100 := h2 0 (show 0 < 4 by decide)
    have a1 : B (s + 1) = 114 := h2 1 (show 1 < 4 by decide)
    have a2 : B (s + 2) = 97 := h2 2 (show 2 < 4 by decide)
    have a3 : B (s + 3) = 119 := h2 3 (show 3 < 4 by decide)
    have e0 : tx_wv B s 0 = 0 := rfl
    have f1 : tx_wv B s 1 = 32 * tx_wv B s 0 + (B (s + 0) - 96) := tx_wvS (by omega)
    have f2 : tx_wv B s 2 = 32 * tx_wv B s 1 + (B (s + 1) - 96) := tx_wvS (by omega)
    have f3 : tx_wv B s 3 = 32 * tx_wv B s 2 + (B (s + 2) - 96) := tx_wvS (by omega)
    have f4 : tx_wv B s 4 = 32 * tx_wv B s 3 + (B (s + 3) - 96) := tx_wvS (by omega)
    omega
theorem tx_cd2 {B : Nat → Nat} {s e : Nat} (h : ∀ k, k < e - s → 97 ≤ B (s + k) ∧ B (s + k) ≤ 122) : tx_wv B s (e - s) = 5925 ↔ tx_w B s e (tx_ws.getD 2 []) := by
  constructor
  · intro hv
    generalize hn : e - s = n at h hv
    have hn5 : n < 5 := by
      rcases Nat.lt_or_ge n 5 with z | z
      · exact z
      · have := tx_wv5 n z h
        omega
    have e0 : tx_wv B s 0 = 0 := rfl
    rcases (show n = 0 ∨ n = 1 ∨ n = 2 ∨ n = 3 ∨ n = 4 by omega) with rfl | rfl | rfl | rfl | rfl
    · omega
    · have a0 := h 0 (by omega)
      have f1 : tx_wv B s 1 = 32 * tx_wv B s 0 + (B (s + 0) - 96) := tx_wvS (by omega)
      omega
    · have a0 := h 0 (by omega)
      have a1 := h 1 (by omega)
      have f1 : tx_wv B s 1 = 32 * tx_wv B s 0 + (B (s + 0) - 96) := tx_wvS (by omega)
      have f2 : tx_wv B s 2 = 32 * tx_wv B s 1 + (B (s + 1) - 96) := tx_wvS (by omega)
      omega
    · have a0 := h 0 (by omega)
      have a1 := h 1 (by omega)
      have a2 := h 2 (by omega)
      have f1 : tx_wv B s 1 = 32 * tx_wv B s 0 + (B (s + 0) - 96) := tx_wvS (by omega)
      have f2 : tx_wv B s 2 = 32 * tx_wv B s 1 + (B (s + 1) - 96) := tx_wvS (by omega)
      have f3 : tx_wv B s 3 = 32 * tx_wv B s 2 + (B (s + 2) - 96) := tx_wvS (by omega)
      refine ⟨hn, fun k hk => ?_⟩
      have hk : k < 3 := hk
      rcases (show k = 0 ∨ k = 1 ∨ k = 2 by omega) with rfl | rfl | rfl
      · show B (s + 0) = 101
        omega
      · show B (s + 1) = 121
        omega
      · show B (s + 2) = 101
        omega
    · have a0 := h 0 (by omega)
      have a1 := h 1 (by omega)
      have a2 := h 2 (by omega)
      have a3 := h 3 (by omega)
      have f1 : tx_wv B s 1 = 32 * tx_wv B s 0 + (B (s + 0) - 96) := tx_wvS (by omega)
      have f2 : tx_wv B s 2 = 32 * tx_wv B s 1 + (B (s + 1) - 96) := tx_wvS (by omega)
      have f3 : tx_wv B s 3 = 32 * tx_wv B s 2 + (B (s + 2) - 96) := tx_wvS (by omega)
      have f4 : tx_wv B s 4 = 32 * tx_wv B s 3 + (B (s + 3) - 96) := tx_wvS (by omega)
      omega
  · rintro ⟨h1, h2⟩
    have h1 : e - s = 3 := h1
    rw [h1]
    have a0 : B (s + 0) = 101 := h2 0 (show 0 < 3 by decide)
    have a1 : B (s + 1) = 121 := h2 1 (show 1 < 3 by decide)
    have a2 : B (s + 2) = 101 := h2 2 (show 2 < 3 by decide)
    have e0 : tx_wv B s 0 = 0 := rfl
    have f1 : tx_wv B s 1 = 32 * tx_wv B s 0 + (B (s + 0) - 96) := tx_wvS (by omega)
    have f2 : tx_wv B s 2 = 32 * tx_wv B s 1 + (B (s + 1) - 96) := tx_wvS (by omega)
    have f3 : tx_wv B s 3 = 32 * tx_wv B s 2 + (B (s + 2) - 96) := tx_wvS (by omega)
    omega
theorem tx_cd3 {B : Nat → Nat} {s e : Nat} (h : ∀ k, k < e - s → 97 ≤ B (s + k) ∧ B (s + k) ≤ 122) : tx_wv B s (e - s) = 643248 ↔ tx_w B s e (tx_ws.getD 3 []) := by
  constructor
  · intro hv
    generalize hn : e - s = n at h hv
    have hn5 : n < 5 := by
      rcases Nat.lt_or_ge n 5 with z | z
      · exact z
      · have := tx_wv5 n z h
        omega
    have e0 : tx_wv B s 0 = 0 := rfl
    rcases (show n = 0 ∨ n = 1 ∨ n = 2 ∨ n = 3 ∨ n = 4 by omega) with rfl | rfl | rfl | rfl | rfl
    · omega
    · have a0 := h 0 (by omega)
      have f1 : tx_wv B s 1 = 32 * tx_wv B s 0 + (B (s + 0) - 96) := tx_wvS (by omega)
      omega
    · have a0 := h 0 (by omega)
      have a1 := h 1 (by omega)
      have f1 : tx_wv B s 1 = 32 * tx_wv B s 0 + (B (s + 0) - 96) := tx_wvS (by omega)
      have f2 : tx_wv B s 2 = 32 * tx_wv B s 1 + (B (s + 1) - 96) := tx_wvS (by omega)
      omega
    · have a0 := h 0 (by omega)
      have a1 := h 1 (by omega)
      have a2 := h 2 (by omega)
      have f1 : tx_wv B s 1 = 32 * tx_wv B s 0 + (B (s + 0) - 96) := tx_wvS (by omega)
      have f2 : tx_wv B s 2 = 32 * tx_wv B s 1 + (B (s + 1) - 96) := tx_wvS (by omega)
      have f3 : tx_wv B s 3 = 32 * tx_wv B s 2 + (B (s + 2) - 96) := tx_wvS (by omega)
      omega
    · have a0 := h 0 (by omega)
      have a1 := h 1 (by omega)
      have a2 := h 2 (by omega)
      have a3 := h 3 (by omega)
      have f1 : tx_wv B s 1 = 32 * tx_wv B s 0 + (B (s + 0) - 96) := tx_wvS (by omega)
      have f2 : tx_wv B s 2 = 32 * tx_wv B s 1 + (B (s + 1) - 96) := tx_wvS (by omega)
      have f3 : tx_wv B s 3 = 32 * tx_wv B s 2 + (B (s + 2) - 96) := tx_wvS (by omega)
      have f4 : tx_wv B s 4 = 32 * tx_wv B s 3 + (B (s + 3) - 96) := tx_wvS (by omega)
      refine ⟨hn, fun k hk => ?_⟩
      have hk : k < 4 := hk
      rcases (show k = 0 ∨ k = 1 ∨ k = 2 ∨ k = 3 by omega) with rfl | rfl | rfl | rfl
      · show B (s + 0) = 115
        omega
      · show B (s + 1) = 116
        omega
      · show B (s + 2) = 101
        omega
      · show B (s + 3) = 112
        omega
  · rintro ⟨h1, h2⟩
    have h1 : e - s = 4 := h1
    rw [h1]
    have a0 : B (s + 0) = 115 := h2 0 (show 0 < 4 by decide)
    have a1 : B (s + 1) = 116 := h2 1 (show 1 < 4 by decide)
    have a2 : B (s + 2) = 101 := h2 2 (show 2 < 4 by decide)
    have a3 : B (s + 3) = 112 := h2 3 (show 3 < 4 by decide)
    have e0 : tx_wv B s 0 = 0 := rfl
    have f1 : tx_wv B s 1 = 32 * tx_wv B s 0 + (B (s + 0) - 96) := tx_wvS (by omega)
    have f2 : tx_wv B s 2 = 32 * tx_wv B s 1 + (B (s + 1) - 96) := tx_wvS (by omega)
    have f3 : tx_wv B s 3 = 32 * tx_wv B s 2 + (B (s + 2) - 96) := tx_wvS (by omega)
    have f4 : tx_wv B s 4 = 32 * tx_wv B s 3 + (B (s + 3) - 96) := tx_wvS (by omega)
    omega
theorem tx_cd4 {B : Nat → Nat} {s e : Nat} (h : ∀ k, k < e - s → 97 ≤ B (s + k) ∧ B (s + k) ≤ 122) : tx_wv B s (e - s) = 677454 ↔ tx_w B s e (tx_ws.getD 4 []) := by
  constructor
  · intro hv
    generalize hn : e - s = n at h hv
    have hn5 : n < 5 := by
      rcases Nat.lt_or_ge n 5 with z | z
      · exact z
      · have := tx_wv5 n z h
        omega
    have e0 : tx_wv B s 0 = 0 := rfl
    rcases (show n = 0 ∨ n = 1 ∨ n = 2 ∨ n = 3 ∨ n = 4 by omega) with rfl | rfl | rfl | rfl | rfl
    · omega
    · have a0 := h 0 (by omega)
      have f1 : tx_wv B s 1 = 32 * tx_wv B s 0 + (B (s + 0) - 96) := tx_wvS (by omega)
      omega
    · have a0 := h 0 (by omega)
      have a1 := h 1 (by omega)
      have f1 : tx_wv B s 1 = 32 * tx_wv B s 0 + (B (s + 0) - 96) := tx_wvS (by omega)
      have f2 : tx_wv B s 2 = 32 * tx_wv B s 1 + (B (s + 1) - 96) := tx_wvS (by omega)
      omega
    · have a0 := h 0 (by omega)
      have a1 := h 1 (by omega)
      have a2 := h 2 (by omega)
      have f1 : tx_wv B s 1 = 32 * tx_wv B s 0 + (B (s + 0) - 96) := tx_wvS (by omega)
      have f2 : tx_wv B s 2 = 32 * tx_wv B s 1 + (B (s + 1) - 96) := tx_wvS (by omega)
      have f3 : tx_wv B s 3 = 32 * tx_wv B s 2 + (B (s + 2) - 96) := tx_wvS (by omega)
      omega
    · have a0 := h 0 (by omega)
      have a1 := h 1 (by omega)
      have a2 := h 2 (by omega)
      have a3 := h 3 (by omega)
      have f1 : tx_wv B s 1 = 32 * tx_wv B s 0 + (B (s + 0) - 96) := tx_wvS (by omega)
      have f2 : tx_wv B s 2 = 32 * tx_wv B s 1 + (B (s + 1) - 96) := tx_wvS (by omega)
      have f3 : tx_wv B s 3 = 32 * tx_wv B s 2 + (B (s + 2) - 96) := tx_wvS (by omega)
      have f4 : tx_wv B s 4 = 32 * tx_wv B s 3 + (B (s + 3) - 96) := tx_wvS (by omega)
      refine ⟨hn, fun k hk => ?_⟩
      have hk : k < 4 := hk
      rcases (show k = 0 ∨ k = 1 ∨ k = 2 ∨ k = 3 by omega) with rfl | rfl | rfl | rfl
      · show B (s + 0) = 116
        omega
      · show B (s + 1) = 117
        omega
      · show B (s + 2) = 114
        omega
      · show B (s + 3) = 110
        omega
  · rintro ⟨h1, h2⟩
    have h1 : e - s = 4 := h1
    rw [h1]
    have a0 : B (s + 0) = 116 := h2 0 (show 0 < 4 by decide)
    have a1 : B (s + 1) = 117 := h2 1 (show 1 < 4 by decide)
    have a2 : B (s + 2) = 114 := h2 2 (show 2 < 4 by decide)
    have a3 : B (s + 3) = 110 := h2 3 (show 3 < 4 by decide)
    have e0 : tx_wv B s 0 = 0 := rfl
    have f1 : tx_wv B s 1 = 32 * tx_wv B s 0 + (B (s + 0) - 96) := tx_wvS (by omega)
    have f2 : tx_wv B s 2 = 32 * tx_wv B s 1 + (B (s + 1) - 96) := tx_wvS (by omega)
    have f3 : tx_wv B s 3 = 32 * tx_wv B s 2 + (B (s + 2) - 96) := tx_wvS (by omega)
    have f4 : tx_wv B s 4 = 32 * tx_wv B s 3 + (B (s + 3) - 96) := tx_wvS (by omega)
    omega
