theorem zs_nin : ∀ q ∈ zs_nst, Cond.methodLinkNest q.1 q.2.1 q.2.2.1 q.2.2.2 ∈ lw_tbl := by decide +kernel
set_option maxHeartbeats 4000000 in
set_option maxRecDepth 100000 in
theorem zs_wrE (dC : Nat → ClassId) (dI : Nat → Nat → Nat) (cI cB : ClassId) (q0 : Nat) (u sa : Nat → Nat) : ([(q0, .inr (9, [.ref (u 0), .ref (u 14), .ref (u 28), .int 0, .int 0, .ref (u 42), .long 0, .long 1, .int 0, .int 0, .int 0, .ref (u 62), .ref (u 66), .ref (u 69), .ref (u 72), .ref (u 74), .ref (u 77), .ref (u 78)])), ((u 0), .inr (4, [.int 2, .int 0, .int 0, .ref (u 1), .ref (u 2), .ref (u 6), .ref (u 8), .ref (u 10), .ref (u 12)])), ((u 1), zs_a0 cI 5), ((u 2), .inr (1, [.int 0, .int 0, .int 1, .ref (u 3), .ref (u 4), .ref (u 5)])), ((u 3), zs_a0 cI 12), ((u 4), zs_a0 cI 5), ((u 5), zs_a0 cI 5), ((u 6), .inr (2, [.ref (u 7), .int 0])), ((u 7), zs_a0 cI 200), ((u 8), .inr (3, [.int 2, .ref (u 9), .int 0])), ((u 9), zs_a0 cI 24), ((u 10), .inr (3, [.int 4, .ref (u 11), .int 0])), ((u 11), zs_a0 cI 24), ((u 12), .inr (3, [.int 3, .ref (u 13), .int 0])), ((u 13), zs_a0 cI 24), ((u 14), .inr (4, [.int 2, .int 0, .int 0, .ref (u 15), .ref (u 16), .ref (u 20), .ref (u 22), .ref (u 24), .ref (u 26)])), ((u 15), zs_a0 cI 5), ((u 16), .inr (1, [.int 0, .int 0, .int 1, .ref (u 17), .ref (u 18), .ref (u 19)])), ((u 17), zs_a0 cI 12), ((u 18), zs_a0 cI 5), ((u 19), zs_a0 cI 5), ((u 20), .inr (2, [.ref (u 21), .int 0])), ((u 21), zs_a0 cI 200), ((u 22), .inr (3, [.int 2, .ref (u 23), .int 0])), ((u 23), zs_a0 cI 24), ((u 24), .inr (3, [.int 4, .ref (u 25), .int 0])), ((u 25), zs_a0 cI 24), ((u 26), .inr (3, [.int 3, .ref (u 27), .int 0])), ((u 27), zs_a0 cI 24), ((u 28), .inr (4, [.int 2, .int 0, .int 0, .ref (u 29), .ref (u 30), .ref (u 34), .ref (u 36), .ref (u 38), .ref (u 40)])), ((u 29), zs_a0 cI 5), ((u 30), .inr (1, [.int 0, .int 0, .int 1, .ref (u 31), .ref (u 32), .ref (u 33)])), ((u 31), zs_a0 cI 12), ((u 32), zs_a0 cI 5), ((u 33), zs_a0 cI 5), ((u 34), .inr (2, [.ref (u 35), .int 0])), ((u 35), zs_a0 cI 200), ((u 36), .inr (3, [.int 2, .ref (u 37), .int 0])), ((u 37), zs_a0 cI 24), ((u 38), .inr (3, [.int 4, .ref (u 39), .int 0])), ((u 39), zs_a0 cI 24), ((u 40), .inr (3, [.int 3, .ref (u 41), .int 0])), ((u 41), zs_a0 cI 24), ((u 42), .inr (8, [.ref (u 43), .int 0, .ref (u 44), .ref (u 58), .ref (u 59), .ref (u 60), .ref (u 61), .int 0])), ((u 43), zs_a0 cI 150), ((u 44), .inr (4, [.int 2, .int 0, .int 0, .ref (u 45), .ref (u 46), .ref (u 50), .ref (u 52), .ref (u 54), .ref (u 56)])), ((u 45), zs_a0 cI 5), ((u 46), .inr (1, [.int 0, .int 0, .int 1, .ref (u 47), .ref (u 48), .ref (u 49)])), ((u 47), zs_a0 cI 12), ((u 48), zs_a0 cI 5), ((u 49), zs_a0 cI 5), ((u 50), .inr (2, [.ref (u 51), .int 0])), ((u 51), zs_a0 cI 200), ((u 52), .inr (3, [.int 2, .ref (u 53), .int 0])), ((u 53), zs_a0 cI 24), ((u 54), .inr (3, [.int 4, .ref (u 55), .int 0])), ((u 55), zs_a0 cI 24), ((u 56), .inr (3, [.int 3, .ref (u 57), .int 0])), ((u 57), zs_a0 cI 24), ((u 58), zs_a0 cI 151), ((u 59), zs_a0 cI 151), ((u 60), zs_a0 cI 151), ((u 61), zs_a0 cI 151), ((u 62), .inr (1, [.int 0, .int 0, .int 1, .ref (u 63), .ref (u 64), .ref (u 65)])), ((u 63), zs_a0 cI 12), ((u 64), zs_a0 cI 5), ((u 65), zs_a0 cI 5), ((u 66), .inr (6, [.ref (u 67), .ref (u 68), .int 0])), ((u 67), zs_a0 cI 120), ((u 68), zs_a0 cI 12), ((u 69), .inr (0, [.ref (u 70), .ref (u 71), .int 0])), ((u 70), zs_a0 cI 372), ((u 71), zs_a0 cI 144), ((u 72), .inr (7, [.ref (u 73), .int 0])), ((u 73), zs_a0 cI 32), ((u 74), .inr (5, [.ref (u 75), .ref (u 76)])), ((u 75), zs_a0 cI 10), ((u 76), zs_a0 cI 10), ((u 77), zs_a0 cI 8), ((u 78), zs_a0 cI 8)] : va_W) = zs_wr dC dI cI cB (zs_ad1 q0 u sa) := rfl
set_option maxHeartbeats 4000000 in
theorem zs_known {s : State} {a : Array Value} (hts : ∀ w ∈ zs_tbl, w.before a s = true) : ∃ (dC : Nat → ClassId) (dI : Nat → Nat → Nat), ∀ (k : Nat) (q : vw_C), vwCl[k]? = some q → u_Kn s q.1 q.2.1 q.2.2 (dC k) (dI k) := by
  obtain ⟨c0, iS0, hKn0⟩ := u_known (C := RX0) (T := TX0) (N := 3) (n := 3) hts zs_uw0 (hts (.instantiable RX0 3) (zs_in 278 (by decide +kernel) rfl))
  obtain ⟨c1, iS1, hKn1⟩ := u_known (C := RX3) (T := TX3) (N := 6) (n := 6) hts zs_uw1 (hts (.instantiable RX3 6) (zs_in 106 (by decide +kernel) rfl))
  obtain ⟨c2, iS2, hKn2⟩ := u_known (C := RX4) (T := TX4) (N := 2) (n := 2) hts zs_uw2 (hts (.instantiable RX4 2) (zs_in 147 (by decide +kernel) rfl))
  obtain ⟨c3, iS3, hKn3⟩ := u_known (C := RX5) (T := TX5) (N := 3) (n := 3) hts zs_uw3 (hts (.instantiable RX5 3) (zs_in 161 (by decide +kernel) rfl))
  obtain ⟨c4, iS4, hKn4⟩ := u_known (C := RX6) (T := TX6) (N := 9) (n := 9) hts zs_uw4 (hts (.instantiable RX6 9) (zs_in 100 (by decide +kernel) rfl))
  obtain ⟨c5, iS5, hKn5⟩ := u_known (C := RX7) (T := TX7) (N := 2) (n := 2) hts zs_uw5 (hts (.instantiable RX7 2) (zs_in 310 (by decide +kernel) rfl))
  obtain ⟨c6, iS6, hKn6⟩ := u_known (C := RX8) (T := TX8) (N := 3) (n := 3) hts zs_uw6 (hts (.instantiable RX8 3) (zs_in 260 (by decide +kernel) rfl))
  obtain ⟨c7, iS7, hKn7⟩ := u_known (C := RX9) (T := TX9) (N := 2) (n := 2) hts zs_uw7 (hts (.instantiable RX9 2) (zs_in 296 (by decide +kernel) rfl))
  obtain ⟨c8, iS8, hKn8⟩ := u_known (C := RX10) (T := TX10) (N := 8) (n := 8) hts zs_uw8 (hts (.instantiable RX10 8) (zs_in 223 (by decide +kernel) rfl))
  obtain ⟨c9, iS9, hKn9⟩ := u_known (C := RX11) (T := TX11) (N := 18) (n := 18) hts zs_uw9 (hts (.instantiable RX11 18) (zs_in 92 (by decide +kernel) rfl))
  obtain ⟨c10, iS10, hKn10⟩ := u_known (C := RX12) (T := TX12) (N := 19) (n := 19) hts zs_uw10 (hts (.instantiable RX12 19) (zs_in 1017 (by decide +kernel) rfl))
  refine ⟨fun k => [c0, c1, c2, c3, c4, c5, c6, c7, c8, c9, c10].getD k c0, fun k => [iS0, iS1, iS2, iS3, iS4, iS5, iS6, iS7, iS8, iS9, iS10].getD k iS0, ?_⟩
  intro k q hq
  match k, hq with
  | 0, hq => cases hq; exact hKn0
  | 1, hq => cases hq; exact hKn1
  | 2, hq => cases hq; exact hKn2
  | 3, hq => cases hq; exact hKn3
  | 4, hq => cases hq; exact hKn4
  | 5, hq => cases hq; exact hKn5
  | 6, hq => cases hq; exact hKn6
  | 7, hq => cases hq; exact hKn7
  | 8, hq => cases hq; exact hKn8
  | 9, hq => cases hq; exact hKn9
  | 10, hq => cases hq; exact hKn10
  | k + 11, hq => simp [vwCl] at hq
set_option maxHeartbeats 8000000 in
set_option maxRecDepth 100000 in
theorem zs_T0 {b : Nat} {s : State} (hgv : (Jvm.Cond.and given_1 narrow_1).before #[Value.ref b] s = true) (hts0 : ∀ w ∈ lw_tbl, w.before #[Value.ref b] s = true) : ∃ sa : Nat → Nat, zs_T sa (fun q : Nat => s.heap.size ≤ q) s s.heap := by
  have hs := flat_of_before _ hgv
  have hA : ∀ a : Nat, a < s.heap.size → ¬ (fun q : Nat => s.heap.size ≤ q) a := fun a h => Nat.not_le.mpr h
  obtain ⟨adK, adV, hK, hE⟩ := vk_Sof (args := #[Value.ref b]) (s := s) (N := 5) (tm := fun i => (Term.string "ZoeStrips$Text" (zs_sk.getD i 0))) (len := zs_sl) (byt := zs_sb) (A := fun q : Nat => s.heap.size ≤ q) (by decide) (by
    intro i hi
    match i, hi with
    | 0, _ => exact hs _ (by decide +kernel)
    | 1, _ => exact hs _ (by decide +kernel)
    | 2, _ => exact hs _ (by decide +kernel)
    | 3, _ => exact hs _ (by decide +kernel)
    | 4, _ => exact hs _ (by decide +kernel)
    | i + 5, h => exact absurd h (by omega)) (by
    intro i hi
    match i, hi with
    | 0, _ => exact hs _ (by decide +kernel)
    | 1, _ => exact hs _ (by decide +kernel)
    | 2, _ => exact hs _ (by decide +kernel)
    | 3, _ => exact hs _ (by decide +kernel)
    | 4, _ => exact hs _ (by decide +kernel)
    | i + 5, h => exact absurd h (by omega)) (by
    intro i hi
    match i, hi with
    | 0, _ => exact hs _ (by decide +kernel)
    | 1, _ => exact hs _ (by decide +kernel)
    | 2, _ => exact hs _ (by decide +kernel)
    | 3, _ => exact hs _ (by decide +kernel)
    | 4, _ => exact hs _ (by decide +kernel)
    | i + 5, h => exact absurd h (by omega)) (by
    intro i hi
    match i, hi with
    | 0, _ => exact hs _ (by decide +kernel)
    | 1, _ => exact hs _ (by decide +kernel)
    | 2, _ => exact hs _ (by decide +kernel)
    | 3, _ => exact hs _ (by decide +kernel)
    | 4, _ => exact hs _ (by decide +kernel)
    | i + 5, h => exact absurd h (by omega)) (by
    intro i hi j hj
    have hj4 : j < 4 ∧ (i = 2 → j < 3) := by
      have : ∀ i, i < 5 → zs_sl.getD i 0 ≤ 4 ∧ (i = 2 → zs_sl.getD i 0 ≤ 3) := by decide
      have := this i hi
      omega
    match i, j, hi, hj4 with
    | 0, 0, _, _ => exact hs _ (by decide +kernel)
    | 0, 1, _, _ => exact hs _ (by decide +kernel)
    | 0, 2, _, _ => exact hs _ (by decide +kernel)
    | 0, 3, _, _ => exact hs _ (by decide +kernel)
    | 1, 0, _, _ => exact hs _ (by decide +kernel)
    | 1, 1, _, _ => exact hs _ (by decide +kernel)
    | 1, 2, _, _ => exact hs _ (by decide +kernel)
    | 1, 3, _, _ => exact hs _ (by decide +kernel)
    | 2, 0, _, _ => exact hs _ (by decide +kernel)
    | 2, 1, _, _ => exact hs _ (by decide +kernel)
    | 2, 2, _, _ => exact hs _ (by decide +kernel)
    | 3, 0, _, _ => exact hs _ (by decide +kernel)
    | 3, 1, _, _ => exact hs _ (by decide +kernel)
    | 3, 2, _, _ => exact hs _ (by decide +kernel)
    | 3, 3, _, _ => exact hs _ (by decide +kernel)
    | 4, 0, _, _ => exact hs _ (by decide +kernel)
    | 4, 1, _, _ => exact hs _ (by decide +kernel)
    | 4, 2, _, _ => exact hs _ (by decide +kernel)
    | 4, 3, _, _ => exact hs _ (by decide +kernel)
    | 2, 3, _, h => exact absurd (h.2 rfl) (by decide)
    | i, j + 4, _, h => exact absurd h.1 (by omega)
    | i + 5, 0, h, _ => exact absurd h (by omega)
    | i + 5, 1, h, _ => exact absurd h (by omega)
    | i + 5, 2, h, _ => exact absurd h (by omega)
    | i + 5, 3, h, _ => exact absurd h (by omega)) (by
    intro i j hi hj hij
    match i, j, hi, hj with
    | 0, 0, _, _ => exact absurd rfl hij
    | 0, 1, _, _ => exact Or.inl (hs _ (by decide +kernel))
    | 0, 2, _, _ => exact Or.inl (hs _ (by decide +kernel))
    | 0, 3, _, _ => exact Or.inl (hs _ (by decide +kernel))
    | 0, 4, _, _ => exact Or.inl (hs _ (by decide +kernel))
    | 1, 0, _, _ => exact Or.inr (hs _ (by decide +kernel))
    | 1, 1, _, _ => exact absurd rfl hij
    | 1, 2, _, _ => exact Or.inl (hs _ (by decide +kernel))
    | 1, 3, _, _ => exact Or.inl (hs _ (by decide +kernel))
    | 1, 4, _, _ => exact Or.inl (hs _ (by decide +kernel))
    | 2, 0, _, _ => exact Or.inr (hs _ (by decide +kernel))
    | 2, 1, _, _ => exact Or.inr (hs _ (by decide +kernel))
    | 2, 2, _, _ => exact absurd rfl hij
    | 2, 3, _, _ => exact Or.inl (hs _ (by decide +kernel))
    | 2, 4, _, _ => exact Or.inl (hs _ (by decide +kernel))
    | 3, 0, _, _ => exact Or.inr (hs _ (by decide +kernel))
    | 3, 1, _, _ => exact Or.inr (hs _ (by decide +kernel))
    | 3, 2, _, _ => exact Or.inr (hs _ (by decide +kernel))
    | 3, 3, _, _ => exact absurd rfl hij
    | 3, 4, _, _ => exact Or.inl (hs _ (by decide +kernel))
    | 4, 0, _, _ => exact Or.inr (hs _ (by decide +kernel))
    | 4, 1, _, _ => exact Or.inr (hs _ (by decide +kernel))
    | 4, 2, _, _ => exact Or.inr (hs _ (by decide +kernel))
    | 4, 3, _, _ => exact Or.inr (hs _ (by decide +kernel))
    | 4, 4, _, _ => exact absurd rfl hij
    | i + 5, j, h, _ => exact absurd h (by omega)
    | 0, j + 5, _, h => exact absurd h (by omega)
    | 1, j + 5, _, h => exact absurd h (by omega)
    | 2, j + 5, _, h => exact absurd h (by omega)
    | 3, j + 5, _, h => exact absurd h (by omega)
    | 4, j + 5, _, h => exact absurd h (by omega)) hA
  have h1 := va_Zof (v := .int 1) (hts0 (.laysStatic "java/lang/String" "COMPACT_STRINGS" "Z") (List.mem_of_getElem? (i := 499) (by decide +kernel))) (hts0 (.initialized "java/lang/String") (List.mem_of_getElem? (i := 84) (by decide +kernel))) (va_eqt (hs (Cond.eq (.static "java/lang/String" "COMPACT_STRINGS" "Z") (.int 1)) (by decide +kernel))) hA
  have h2 := va_Zqof (hts0 (.laysStatic "jdk/internal/util/Preconditions" "SIOOBE_FORMATTER" "Ljava/util/function/BiFunction;") (List.mem_of_getElem? (i := 515) (by decide +kernel))) (hts0 (.initialized "jdk/internal/util/Preconditions") (List.mem_of_getElem? (i := 86) (by decide +kernel))) (hs (Cond.isRef (.static "jdk/internal/util/Preconditions" "SIOOBE_FORMATTER" "Ljava/util/function/BiFunction;")) (by decide +kernel)) hA
  obtain ⟨ft, h3⟩ : ∃ ft : Nat, va_Z "jdk/internal/util/Preconditions" "SIOOBE_FORMATTER" "Ljava/util/function/BiFunction;" .null (fun q : Nat => s.heap.size ≤ q) s s.heap ∨ va_Z "jdk/internal/util/Preconditions" "SIOOBE_FORMATTER" "Ljava/util/function/BiFunction;" (.ref ft) (fun q : Nat => s.heap.size ≤ q) s s.heap := by
    rcases h2 with z | ⟨t, z⟩
    · exact ⟨0, Or.inl z⟩
    · exact ⟨t, Or.inr z⟩
  have eK : (fun i => (fun k : Nat => if k < 95 then adK (k - 90) else if k < 100 then adV (k - 95) else ft) (90 + i)) = fun i => if i < 5 then adK i else if i < 10 then adV (i - 5) else ft := by
    funext i
    by_cases z : i < 5
    · simp only [show 90 + i < 95 by omega, if_true, z, show 90 + i - 90 = i by omega]
    · by_cases y : i < 10
      · simp only [show ¬ 90 + i < 95 by omega, if_false, show 90 + i < 100 by omega, if_true, z, y, show 90 + i - 95 = i - 5 by omega]
      · simp only [show ¬ 90 + i < 95 by omega, if_false, show ¬ 90 + i < 100 by omega, z, y]
  refine ⟨fun k => if k < 95 then adK (k - 90) else if k < 100 then adV (k - 95) else ft, ⟨fun i hi => ?_, fun i j hi hj e => ?_⟩, h1, ?_, fun i hi => ?_⟩
  · have e1 : (if 90 + i < 95 then adK (90 + i - 90) else if 90 + i < 100 then adV (90 + i - 95) else ft) = adK i := by rw [if_pos (by omega), show 90 + i - 90 = i by omega]
    have e2 : (if 95 + i < 95 then adK (95 + i - 90) else if 95 + i < 100 then adV (95 + i - 95) else ft) = adV i := by rw [if_neg (by omega), if_pos (by omega), show 95 + i - 95 = i by omega]
    have h := hK.1 i hi
    show va_O "java/lang/String" (if 90 + i < 95 then adK (90 + i - 90) else if 90 + i < 100 then adV (90 + i - 95) else ft) _ s s.heap ∧ va_OF "java/lang/String" "coder" "B" (.int 0) (if 90 + i < 95 then adK (90 + i - 90) else if 90 + i < 100 then adV (90 + i - 95) else ft) _ s s.heap ∧ va_OF "java/lang/String" "value" "[B" (.ref (if 95 + i < 95 then adK (95 + i - 90) else if 95 + i < 100 then adV (95 + i - 95) else ft)) (if 90 + i < 95 then adK (90 + i - 90) else if 90 + i < 100 then adV (90 + i - 95) else ft) _ s s.heap ∧ va_T .byte (if 95 + i < 95 then adK (95 + i - 90) else if 95 + i < 100 then adV (95 + i - 95) else ft) _ _ _ s s.heap
    rw [e1, e2]
    exact h
  · have e1 : ∀ i, i < 5 → (if 90 + i < 95 then adK (90 + i - 90) else if 90 + i < 100 then adV (90 + i - 95) else ft) = adK i := fun i hi => by rw [if_pos (by omega), show 90 + i - 90 = i by omega]
    exact hK.2 i j hi hj ((e1 i hi).symm.trans (e.trans (e1 j hj)))
  · show va_Z _ _ _ .null _ s s.heap ∨ va_Z _ _ _ (.ref (if 100 < 95 then adK (100 - 90) else if 100 < 100 then adV (100 - 95) else ft)) _ s s.heap
    rw [if_neg (by decide), if_neg (by decide)]
    exact h3
  · have e1 : (if 90 + i < 95 then adK (90 + i - 90) else if 90 + i < 100 then adV (90 + i - 95) else ft) = adK i := by rw [if_pos (by omega), show 90 + i - 90 = i by omega]
    show vk_R RX10 (zs_sk.getD i 0) (zs_sx.getD i "") (if 90 + i < 95 then adK (90 + i - 90) else if 90 + i < 100 then adV (90 + i - 95) else ft) s
    rw [e1]
    refine vk_R.of (A := #[Value.ref b]) ?_ ?_
    · match i, hi with
      | 0, _ => exact hts0 _ (List.mem_of_getElem? (i := 485) (by decide +kernel))
      | 1, _ => exact hts0 _ (List.mem_of_getElem? (i := 538) (by decide +kernel))
      | 2, _ => exact hts0 _ (List.mem_of_getElem? (i := 539) (by decide +kernel))
      | 3, _ => exact hts0 _ (List.mem_of_getElem? (i := 540) (by decide +kernel))
      | 4, _ => exact hts0 _ (List.mem_of_getElem? (i := 541) (by decide +kernel))
      | i + 5, h => exact absurd h (by omega)
    · rw [Term.string_eval_of_vm (args := #[Value.ref b]) rfl] at *
      exact hE i hi
