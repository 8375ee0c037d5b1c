theorem zs_rgt {i j : Nat} (h : i % 66 = j % 66) (hi : i ≠ 0) (hj : j ≠ 0) : zs_rg 82 i = zs_rg 82 j := by
  have e1 : Nat.beq i 0 = false := by rw [Bool.eq_false_iff]; exact fun z => hi (Nat.eq_of_beq_eq_true z)
  have e2 : Nat.beq j 0 = false := by rw [Bool.eq_false_iff]; exact fun z => hj (Nat.eq_of_beq_eq_true z)
  show (bif Nat.beq (i % 66) 0 then some (bif Nat.beq i 0 then 1 else 0, 12) else bif Nat.beq (i % 66) 2 then some (0, 5) else bif Nat.beq (i % 66) 8 || Nat.beq (i % 66) 21 || Nat.beq (i % 66) 46 then some (0, 6) else bif Nat.ble 9 (i % 66) && Nat.ble (i % 66) 14 then some (0, 30) else bif Nat.beq (i % 66) 65 then some (0, 8) else none) = (bif Nat.beq (j % 66) 0 then some (bif Nat.beq j 0 then 1 else 0, 12) else bif Nat.beq (j % 66) 2 then some (0, 5) else bif Nat.beq (j % 66) 8 || Nat.beq (j % 66) 21 || Nat.beq (j % 66) 46 then some (0, 6) else bif Nat.ble 9 (j % 66) && Nat.ble (j % 66) 14 then some (0, 30) else bif Nat.beq (j % 66) 65 then some (0, 8) else none)
  rw [h, e1, e2]
theorem zs_J.upF {S : zs_S} {j m : Nat} (hJ : zs_J S) (hj : j = 0 ∨ j = 66 ∨ j = 132) (h1 : 1 ≤ m) (h2 : m ≤ 12) : zs_J (zs_up S.1 82 j (nI m), S.2) := by
  refine ⟨fun b i lo up hr => ?_, fun k hk => ?_⟩
  · by_cases hb : b = 82 ∧ i = j
    · obtain ⟨rfl, rfl⟩ := hb
      rcases hj with rfl | rfl | rfl
      · rw [show zs_rg 82 0 = some (1, 12) from rfl] at hr; cases hr; exact ⟨m, h1, h2, zs_up_q⟩
      · rw [show zs_rg 82 66 = some (0, 12) from rfl] at hr; cases hr; exact ⟨m, Nat.zero_le _, h2, zs_up_q⟩
      · rw [show zs_rg 82 132 = some (0, 12) from rfl] at hr; cases hr; exact ⟨m, Nat.zero_le _, h2, zs_up_q⟩
    · obtain ⟨m, h1, h2, h3⟩ := hJ.1 b i lo up hr
      exact ⟨m, h1, h2, (zs_up_n hb).trans h3⟩
  · have e1 : (zs_up S.1 82 j (nI m)) 83 k = S.1 83 k := zs_up_n (fun q => absurd q.1 (by decide))
    show (zs_up S.1 82 j (nI m)) 83 k = 0 ∨ ∃ q, 1 ≤ q ∧ q ≤ 12 ∧ (zs_up S.1 82 j (nI m)) 82 (66 * (k + 1)) = nI q
    rw [e1]
    by_cases hh : 66 * (k + 1) = j
    · exact Or.inr ⟨m, h1, h2, by rw [hh]; exact zs_up_s⟩
    · rw [show (zs_up S.1 82 j (nI m)) 82 (66 * (k + 1)) = S.1 82 (66 * (k + 1)) from zs_up_n (fun q => hh q.2)]
      exact hJ.2 k hk
def zs_oC (S0 S : zs_S) (g m : Nat) : Prop := zs_J S ∧ zs_fm S0 S ∧ S.1 82 g = nI m
def zs_fx (S S2 : zs_S) : Prop := ∀ b i, b < 80 → S2.1 b i = S.1 b i ∧ S2.2 b i = S.2 b i
theorem zs_fm.x {S S2 : zs_S} (h : zs_fm S S2) : zs_fx S S2 := fun b i hb => h b i (by
  unfold zs_pm
  rw [show Nat.ble b 79 = true from Nat.ble_eq_true_of_le (by omega)]; rfl)
theorem zs_fm.k {S S2 : zs_S} (h : zs_fm S S2) (i : Nat) : S2.1 83 i = S.1 83 i := (h 83 i rfl).1
theorem zs_fm.l {S S2 : zs_S} (h : zs_fm S S2) : S2.1 80 3 = S.1 80 3 := (h 80 3 rfl).1
theorem z_in (S : zs_S) (v : Int32) (lo hi : Nat) (h1 : lo < 2 ^ 31) (h2 : hi < 2 ^ 31) : zs_Ci MX12_in [.long v.toInt64, .long (lN lo), .long (lN hi)] S (fun x S2 => x = zs_b (nI lo ≤ v ∧ v ≤ nI hi) ∧ S = S2) := (z_inL S v.toInt64 (lN lo) (lN hi)).mono (by
  rintro _ _ ⟨x, rfl, rfl, rfl⟩
  refine ⟨_, rfl, congrArg zs_b ?_, rfl⟩
  rw [Int64.le_iff_toInt_le, Int64.le_iff_toInt_le, Int32.le_iff_toInt_le, Int32.le_iff_toInt_le, lN_toInt h1, lN_toInt h2, nI_toInt h1, nI_toInt h2, Int32.toInt_toInt64])
theorem zs_J.kp {S : zs_S} {i : Nat} {v : Int32} (hJ : zs_J S) (h : i < 2 → ∃ k, 1 ≤ k ∧ k ≤ 12 ∧ S.1 82 (66 * (i + 1)) = nI k) : zs_J (zs_up S.1 83 i v, S.2) := by
  refine ⟨fun b j lo up hr => ?_, fun k hk => ?_⟩
  · have hb : b ≠ 83 := fun z => by rw [z] at hr; have : zs_rg 83 j = none := rfl; rw [this] at hr; cases hr
    obtain ⟨m, h1, h2, h3⟩ := hJ.1 b j lo up hr
    exact ⟨m, h1, h2, (zs_up_n (fun q => hb q.1)).trans h3⟩
  · show (zs_up S.1 83 i v) 83 k = 0 ∨ ∃ q, 1 ≤ q ∧ q ≤ 12 ∧ (zs_up S.1 83 i v) 82 (66 * (k + 1)) = nI q
    rw [show (zs_up S.1 83 i v) 82 (66 * (k + 1)) = S.1 82 (66 * (k + 1)) from zs_up_n (fun q => absurd q.1 (by decide))]
    by_cases hh : k = i
    · subst hh
      exact Or.inr (h hk)
    · rw [show (zs_up S.1 83 i v) 83 k = S.1 83 k from zs_up_n (fun q => hh q.2)]
      exact hJ.2 k hk
theorem zs_J.ln {S : zs_S} {n : Nat} (hJ : zs_J S) (h : n ≤ 150) : zs_J (zs_up S.1 80 3 (nI n), S.2) := hJ.up (zs_okR (lo := 0) (up := 150) rfl (Nat.zero_le _) h (by decide) (by decide))
theorem zs_lcg {v : Nat} (hv : v < 2147483648) : (lN v * 1103515245 + 12345) - (lN v * 1103515245 + 12345) / 2147483648 * 2147483648 = lN ((v * 1103515245 + 12345) % 2147483648) := by
  have e1 : (1103515245 : Int64) = lN 1103515245 := by decide
  have e2 : (12345 : Int64) = lN 12345 := by decide
  have e3 : (2147483648 : Int64) = lN 2147483648 := by decide
  rw [e1, e2, e3, lN_mul, lN_add]
  exact pk_lRem (by omega) (by omega) (by omega)
theorem zs_stp {v : Nat} (hv : v < 2147483648) : (lN v / 65536 - lN v / 65536 / 12 * 12).toInt32 = nI (v / 65536 % 12) := by
  have e1 : (65536 : Int64) = lN 65536 := by decide
  have e2 : (12 : Int64) = lN 12 := by decide
  rw [e1, e2, pk_lDiv (by omega) (by omega) (by omega), pk_lRem (by omega) (by omega) (by omega)]
  exact lN_i _
