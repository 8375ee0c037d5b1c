/-! THE TEXT, as numbers: blanks, runs, tokens by their number -/
def tx_so (c : Nat) : Nat := if c = 32 then 0 else if 97 ≤ c ∧ c ≤ 122 then 1 else if 48 ≤ c ∧ c ≤ 57 then 2 else 3
def tx_skF (B : Nat → Nat) (L : Nat) : Nat → Nat → Nat
  | 0, q => q
  | d + 1, q => if q < L ∧ B q = 32 then tx_skF B L d (q + 1) else q
def tx_sk (B : Nat → Nat) (L q : Nat) : Nat := tx_skF B L (L - q) q
def tx_rnF (B : Nat → Nat) (L k : Nat) : Nat → Nat → Nat
  | 0, q => q
  | d + 1, q => if q < L ∧ tx_so (B q) = k then tx_rnF B L k d (q + 1) else q
def tx_rn (B : Nat → Nat) (L k q : Nat) : Nat := tx_rnF B L k (L - q) q
theorem tx_sk1 {B : Nat → Nat} {L q : Nat} (h : q < L) (hb : B q = 32) : tx_sk B L q = tx_sk B L (q + 1) := by
  unfold tx_sk
  rw [show L - q = (L - (q + 1)) + 1 by omega]
  exact if_pos ⟨h, hb⟩
theorem tx_sk0 {B : Nat → Nat} {L q : Nat} (h : ¬ (q < L ∧ B q = 32)) : tx_sk B L q = q := by
  unfold tx_sk
  cases L - q with
  | zero => rfl
  | succ d => exact if_neg h
theorem tx_rn1 {B : Nat → Nat} {L k q : Nat} (h : q < L) (hb : tx_so (B q) = k) : tx_rn B L k q = tx_rn B L k (q + 1) := by
  unfold tx_rn
  rw [show L - q = (L - (q + 1)) + 1 by omega]
  exact if_pos ⟨h, hb⟩
theorem tx_rn0 {B : Nat → Nat} {L k q : Nat} (h : ¬ (q < L ∧ tx_so (B q) = k)) : tx_rn B L k q = q := by
  unfold tx_rn
  cases L - q with
  | zero => rfl
  | succ d => exact if_neg h
theorem tx_skB {B : Nat → Nat} {L : Nat} : ∀ (d q : Nat), q + d = L → q ≤ tx_sk B L q ∧ tx_sk B L q ≤ L ∧ (tx_sk B L q < L → B (tx_sk B L q) ≠ 32) := by
  intro d
  induction d with
  | zero =>
    intro q hq
    rw [tx_sk0 (by omega)]
    omega
  | succ d ih =>
    intro q hq
    by_cases hb : B q = 32
    · rw [tx_sk1 (by omega) hb]
      have := ih (q + 1) (by omega)
      omega
    · rw [tx_sk0 (fun z => hb z.2)]
      exact ⟨Nat.le_refl _, by omega, fun _ => hb⟩
theorem tx_rnB {B : Nat → Nat} {L k : Nat} : ∀ (d q : Nat), q + d = L → q ≤ tx_rn B L k q ∧ tx_rn B L k q ≤ L ∧ ∀ i, q ≤ i → i < tx_rn B L k q → tx_so (B i) = k := by
  intro d
  induction d with
  | zero =>
    intro q hq
    rw [tx_rn0 (by omega)]
    exact ⟨Nat.le_refl _, by omega, fun i h1 h2 => absurd h1 (by omega)⟩
  | succ d ih =>
    intro q hq
    by_cases hb : tx_so (B q) = k
    · rw [tx_rn1 (by omega) hb]
      obtain ⟨h1, h2, h3⟩ := ih (q + 1) (by omega)
      refine ⟨by omega, h2, fun i h4 h5 => ?_⟩
      rcases Nat.eq_or_lt_of_le h4 with y | y
      · rw [← y]; exact hb
      · exact h3 i y h5
    · rw [tx_rn0 (fun z => hb z.2)]
      exact ⟨Nat.le_refl _, by omega, fun i h1 h2 => absurd h1 (by omega)⟩
theorem tx_sk_ge {B : Nat → Nat} {L q : Nat} (h : q ≤ L) : q ≤ tx_sk B L q := (tx_skB (B := B) (L - q) q (by omega)).1
theorem tx_sk_le {B : Nat → Nat} {L q : Nat} (h : q ≤ L) : tx_sk B L q ≤ L := (tx_skB (B := B) (L - q) q (by omega)).2.1
theorem tx_sk_nb {B : Nat → Nat} {L q : Nat} (h : q ≤ L) (h2 : tx_sk B L q < L) : B (tx_sk B L q) ≠ 32 := (tx_skB (B := B) (L - q) q (by omega)).2.2 h2
theorem tx_rn_le {B : Nat → Nat} {L k q : Nat} (h : q ≤ L) : tx_rn B L k q ≤ L := (tx_rnB (B := B) (k := k) (L - q) q (by omega)).2.1
theorem tx_rn_ge {B : Nat → Nat} {L k q : Nat} (h : q ≤ L) : q ≤ tx_rn B L k q := (tx_rnB (B := B) (k := k) (L - q) q (by omega)).1
theorem tx_rn_in {B : Nat → Nat} {L k q i : Nat} (h : q ≤ L) (h1 : q ≤ i) (h2 : i < tx_rn B L k q) : tx_so (B i) = k := (tx_rnB (B := B) (k := k) (L - q) q (by omega)).2.2 i h1 h2
/-- behind the token that begins at s -/
def tx_te (B : Nat → Nat) (L s : Nat) : Nat := if tx_so (B s) = 1 ∨ tx_so (B s) = 2 then tx_rn B L (tx_so (B s)) s else s + 1
theorem tx_te_B {B : Nat → Nat} {L s : Nat} (h : s < L) : s < tx_te B L s ∧ tx_te B L s ≤ L := by
  unfold tx_te
  split
  · rw [tx_rn1 h rfl]
    have h1 := tx_rn_ge (B := B) (k := tx_so (B s)) (q := s + 1) (L := L) (by omega)
    have h2 := tx_rn_le (B := B) (k := tx_so (B s)) (q := s + 1) (L := L) (by omega)
    omega
  · omega
def tx_q (B : Nat → Nat) (L : Nat) : Nat → Nat
  | 0 => 0
  | j + 1 => if tx_sk B L (tx_q B L j) < L then tx_te B L (tx_sk B L (tx_q B L j)) else L
/-- where the token j begins; L where there is none -/
def tx_p (B : Nat → Nat) (L j : Nat) : Nat := tx_sk B L (tx_q B L j)
theorem tx_q_le {B : Nat → Nat} {L : Nat} : ∀ j, tx_q B L j ≤ L := by
  intro j
  induction j with
  | zero => exact Nat.zero_le _
  | succ j ih =>
    show (if tx_sk B L (tx_q B L j) < L then tx_te B L (tx_sk B L (tx_q B L j)) else L) ≤ L
    split
    next h => exact (tx_te_B h).2
    next => exact Nat.le_refl _
theorem tx_p_le {B : Nat → Nat} {L j : Nat} : tx_p B L j ≤ L := tx_sk_le (tx_q_le j)
theorem tx_p_ge {B : Nat → Nat} {L j : Nat} : tx_q B L j ≤ tx_p B L j := tx_sk_ge (tx_q_le j)
theorem tx_qS {B : Nat → Nat} {L j : Nat} (h : tx_p B L j < L) : tx_q B L (j + 1) = tx_te B L (tx_p B L j) := if_pos h
theorem tx_q_gt {B : Nat → Nat} {L j : Nat} (h : tx_p B L j < L) : tx_p B L j < tx_q B L (j + 1) := by
  rw [tx_qS h]
  exact (tx_te_B h).1
/-- a word's letters -/
def tx_w (B : Nat → Nat) (s e : Nat) (w : List Nat) : Prop := e - s = w.length ∧ ∀ k, k < w.length → B (s + k) = w.getD k 0
def tx_ws : List (List Nat) := [[100, 114, 117, 109], [100, 114, 97, 119], [101, 121, 101], [115, 116, 101, 112], [116, 117, 114, 110]]
noncomputable def tx_wc (B : Nat → Nat) (s e : Nat) : Nat := @ite _ (tx_w B s e (tx_ws.getD 0 [])) (Classical.propDecidable _) 4 (@ite _ (tx_w B s e (tx_ws.getD 1 [])) (Classical.propDecidable _) 5 (@ite _ (tx_w B s e (tx_ws.getD 2 [])) (Classical.propDecidable _) 6 (@ite _ (tx_w B s e (tx_ws.getD 3 [])) (Classical.propDecidable _) 7 (@ite _ (tx_w B s e (tx_ws.getD 4 [])) (Classical.propDecidable _) 8 3))))
/-- what a token is: 0 the end, 1 a number, 2 a stop, 3 wrong, 4 to 8 the words -/
noncomputable def tx_kd (B : Nat → Nat) (s e : Nat) : Nat := if tx_so (B s) = 1 then tx_wc B s e else if tx_so (B s) = 2 then (if 2 < e - s then 3 else 1) else if B s = 59 then 2 else 3
noncomputable def tx_k (B : Nat → Nat) (L j : Nat) : Nat := if tx_p B L j < L then tx_kd B (tx_p B L j) (tx_q B L (j + 1)) else 0
def tx_vl (B : Nat → Nat) (s e : Nat) : Nat := 10 * (if 1 < e - s then B s - 48 else 0) + (B (e - 1) - 48)
def tx_v (B : Nat → Nat) (L j : Nat) : Nat := tx_vl B (tx_p B L j) (tx_q B L (j + 1))
theorem tx_so3 {c : Nat} : tx_so c ≤ 3 := by
  unfold tx_so
  repeat' split
  all_goals omega
theorem tx_so2 {c : Nat} (h : tx_so c = 2) : 48 ≤ c ∧ c ≤ 57 := by
  unfold tx_so at h
  repeat' split at h
  all_goals omega
theorem tx_so1 {c : Nat} (h : tx_so c = 1) : 97 ≤ c ∧ c ≤ 122 := by
  unfold tx_so at h
  repeat' split at h
  all_goals omega
theorem tx_soz {c : Nat} : tx_so c = 0 ↔ c = 32 := by
  unfold tx_so
  repeat' split
  all_goals omega
