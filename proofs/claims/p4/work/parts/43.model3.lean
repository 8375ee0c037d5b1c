theorem zs_rgt {i j : Nat} (h : i % 66 = j % 66) (hi : i ≠ 0) (hj : j ≠ 0) : zs_rg 82 i = zs_rg 82 j := by
  have e1 : Nat.beq i 0 = false := by rw [Bool.eq_false_iff]; exact fun z => hi (Nat.eq_of_beq_eq_true z)
  have e2 : Nat.beq j 0 = false := by rw [Bool.eq_false_iff]; exact fun z => hj (Nat.eq_of_beq_eq_true z)
  show (bif Nat.beq (i % 66) 0 then some (bif Nat.beq i 0 then 1 else 0, 12) else bif Nat.beq (i % 66) 2 then some (0, 5) else bif Nat.beq (i % 66) 8 || Nat.beq (i % 66) 21 || Nat.beq (i % 66) 46 then some (0, 6) else bif Nat.ble 9 (i % 66) && Nat.ble (i % 66) 14 then some (0, 30) else bif Nat.beq (i % 66) 65 then some (0, 8) else none) = (bif Nat.beq (j % 66) 0 then some (bif Nat.beq j 0 then 1 else 0, 12) else bif Nat.beq (j % 66) 2 then some (0, 5) else bif Nat.beq (j % 66) 8 || Nat.beq (j % 66) 21 || Nat.beq (j % 66) 46 then some (0, 6) else bif Nat.ble 9 (j % 66) && Nat.ble (j % 66) 14 then some (0, 30) else bif Nat.beq (j % 66) 65 then some (0, 8) else none)
  rw [h, e1, e2]
theorem zs_J.upF {S : zs_S} {j m : Nat} (hJ : zs_J S) (hj : j = 0 ∨ j = 66 ∨ j = 132) (h1 : 1 ≤ m) (h2 : m ≤ 12) : zs_J (zs_up S.1 82 j (nI m), S.2) := by
  refine ⟨fun b i lo up hr => ?_, fun k hk => ?_⟩
  · by_cases hb : b = 82 ∧ i = j
    · obtain ⟨rfl, rfl⟩ := hb
      rcases hj with rfl | rfl | rfl
      · rw [show zs_rg 82 0 = some (1, 12) from rfl] at hr; cases hr; exact ⟨m, h1, h2, zs_up_q⟩
      · rw [show zs_rg 82 66 = some (0, 12) from rfl] at hr; cases hr; exact ⟨m, Nat.zero_le _, h2, zs_up_q⟩
      · rw [show zs_rg 82 132 = some (0, 12) from rfl] at hr; cases hr; exact ⟨m, Nat.zero_le _, h2, zs_up_q⟩
    · obtain ⟨m, h1, h2, h3⟩ := hJ.1 b i lo up hr
      exact ⟨m, h1, h2, (zs_up_n hb).trans h3⟩
  · have e1 : (zs_up S.1 82 j (nI m)) 83 k = S.1 83 k := zs_up_n (fun q => absurd q.1 (by decide))
    show (zs_up S.1 82 j (nI m)) 83 k = 0 ∨ ∃ q, 1 ≤ q ∧ q ≤ 12 ∧ (zs_up S.1 82 j (nI m)) 82 (66 * (k + 1)) = nI q
    rw [e1]
    by_cases hh : 66 * (k + 1) = j
    · exact Or.inr ⟨m, h1, h2, by rw [hh]; exact zs_up_s⟩
    · rw [show (zs_up S.1 82 j (nI m)) 82 (66 * (k + 1)) = S.1 82 (66 * (k + 1)) from zs_up_n (fun q => hh q.2)]
      exact hJ.2 k hk
theorem g_aldT {M : zs_M} {pc : Nat} {lv : List (Nat × Value)} {st : List Value} {S : zs_S} {Q : Option Value → zs_S → Prop} {i j : Nat} (hJ : zs_J S) (hd : decode M.2.1 pc = .ok (.iaload, 1)) (hi : i < 198) (hj : i % 66 = j % 66) (h0 : j % 66 ≠ 0) (k : ∀ v, zs_ok 82 j v → zs_P M (pc + 1) lv (.int v :: st) S Q) : zs_P M pc lv (.int (nI i) :: .ref 82 :: st) S Q := g_ialdN (v := S.1 82 i) hd (by decide) rfl hi (by decide) rfl (k _ ⟨fun lo up hr => hJ.1 82 i lo up ((zs_rgt hj (by omega) (by omega)).trans hr), fun _ => by omega, by decide⟩)
def zs_oC (S0 S : zs_S) (g m : Nat) : Prop := zs_J S ∧ zs_fm S0 S ∧ S.1 82 g = nI m
set_option maxRecDepth 100000 in
theorem y_carries (b t f g m : Nat) (hb : b % 25 = 0) (ht : t % 25 = 0) (hb2 : b ≤ 450) (ht2 : t ≤ 450) (hf : f = 0 ∨ f = 66 ∨ f = 132) (hg : g = 0 ∨ g = 66 ∨ g = 132) (h1 : 1 ≤ m) (h2 : m ≤ 12) (S0 : zs_S) (hJ0 : zs_J S0) (h0 : S0.1 82 f = nI m) : zs_Cv MX12_carries [.ref 80, .int (nI b), .int (nI t), .int (nI f), .int (nI g)] S0 (fun S2 => zs_oC S0 S2 g m) := by
  refine zs_C.of (by decide) (Nat.le_of_ble_eq_true rfl) ?_
  show zs_P MX12_carries 0 [(0, .ref 80), (1, .int (nI b)), (2, .int (nI t)), (3, .int (nI f)), (4, .int (nI g))] [] S0 _
  have key2 : ∀ (d i : Nat), 1 ≤ i → i + d = 66 → ∀ S, zs_oC S0 S g m → zs_P MX12_carries 38 [(5, .int (nI i)), (0, .ref 80), (1, .int (nI b)), (2, .int (nI t)), (3, .int (nI f)), (4, .int (nI g))] [] S (fun v S' => v = none ∧ zs_oC S0 S' g m) := by
    intro d
    induction d with
    | zero =>
      intro i h3 hi S hS
      obtain rfl : i = 66 := by omega
      refine g_iload dX12_carries_38 rfl ?_
      refine g_bipush (v := (nI 66)) dX12_carries_40 rfl ?_
      refine g_ic_geN 70 dX12_carries_42 (by decide) (by omega) (by omega) (fun _ => ?_) (fun z => absurd z (by omega))
      refine g_ret dX12_carries_70 rfl ?_
      exact ⟨rfl, hS⟩
    | succ d ih =>
      intro i h3 hi S hS
      refine g_iload dX12_carries_38 rfl ?_
      refine g_bipush (v := (nI 66)) dX12_carries_40 rfl ?_
      refine g_ic_geN 70 dX12_carries_42 (by decide) (by omega) (by omega) (fun z => absurd z (by omega)) (fun _ => ?_)
      refine g_aload_n dX12_carries_45 rfl rfl ?_
      refine g_getR 1 (82) (C := RX12) (T := TX12) (N := 19) dX12_carries_46 (by decide) rfl rfl (by decide) rfl fl_RX12_13 ?_
      refine g_iload dX12_carries_49 rfl ?_
      refine g_iload dX12_carries_51 rfl ?_
      refine g_iaddN dX12_carries_53 ?_
      refine g_aload_n dX12_carries_54 rfl rfl ?_
      refine g_getR 1 (82) (C := RX12) (T := TX12) (N := 19) dX12_carries_55 (by decide) rfl rfl (by decide) rfl fl_RX12_13 ?_
      refine g_iload_n dX12_carries_58 rfl rfl ?_
      refine g_iload dX12_carries_59 rfl ?_
      refine g_iaddN dX12_carries_61 ?_
      refine g_aldT (j := g + i) hS.1 dX12_carries_62 (by omega) (by omega) (by omega) (fun v hv => ?_)
      refine g_iastN dX12_carries_63 (by decide) rfl (by omega) (by decide) ?_
      refine g_iinc (v := (nI (i + 1))) (lv' := [(5, .int (nI (i + 1))), (0, .ref 80), (1, .int (nI b)), (2, .int (nI t)), (3, .int (nI f)), (4, .int (nI g))]) dX12_carries_64 rfl (nI_1 i) (by decide) rfl ?_
      refine g_goto 38 dX12_carries_67 (by decide) ?_
      exact ih (i + 1) (by omega) (by omega) _ ⟨hS.1.up hv, hS.2.1.tr (zs_fm.up rfl), (zs_up_m (by omega)).trans hS.2.2⟩
  have hk : ∀ S, zs_oS S0 S → zs_P MX12_carries 35 [(5, .int (nI 225)), (0, .ref 80), (1, .int (nI b)), (2, .int (nI t)), (3, .int (nI f)), (4, .int (nI g))] [] S (fun v S' => v = none ∧ zs_oC S0 S' g m) := by
    intro S hS
    refine g_iconst (v := (nI 0)) dX12_carries_35 rfl ?_
    refine g_istore (lv' := [(5, .int (nI 0)), (0, .ref 80), (1, .int (nI b)), (2, .int (nI t)), (3, .int (nI f)), (4, .int (nI g))]) dX12_carries_36 (by decide) rfl ?_
    refine g_iload dX12_carries_38 rfl ?_
    refine g_bipush (v := (nI 66)) dX12_carries_40 rfl ?_
    refine g_ic_geN 70 dX12_carries_42 (by decide) (by omega) (by omega) (fun z => absurd z (by omega)) (fun _ => ?_)
    refine g_aload_n dX12_carries_45 rfl rfl ?_
    refine g_getR 1 (82) (C := RX12) (T := TX12) (N := 19) dX12_carries_46 (by decide) rfl rfl (by decide) rfl fl_RX12_13 ?_
    refine g_iload dX12_carries_49 rfl ?_
    refine g_iload dX12_carries_51 rfl ?_
    refine g_iaddN dX12_carries_53 ?_
    refine g_aload_n dX12_carries_54 rfl rfl ?_
    refine g_getR 1 (82) (C := RX12) (T := TX12) (N := 19) dX12_carries_55 (by decide) rfl rfl (by decide) rfl fl_RX12_13 ?_
    refine g_iload_n dX12_carries_58 rfl rfl ?_
    refine g_iload dX12_carries_59 rfl ?_
    refine g_iaddN dX12_carries_61 ?_
    refine g_ialdN (v := (nI m)) dX12_carries_62 (by decide) rfl (by omega) (by decide) (by rw [hS.2.2.1, Nat.add_zero]; exact h0) ?_
    refine g_iastN dX12_carries_63 (by decide) rfl (by omega) (by decide) ?_
    refine g_iinc (v := (nI (0 + 1))) (lv' := [(5, .int (nI (0 + 1))), (0, .ref 80), (1, .int (nI b)), (2, .int (nI t)), (3, .int (nI f)), (4, .int (nI g))]) dX12_carries_64 rfl (nI_1 0) (by decide) rfl ?_
    refine g_goto 38 dX12_carries_67 (by decide) ?_
    refine key2 65 1 (by omega) (by omega) _ ⟨?_, hS.2.1.tr (zs_fm.up rfl), zs_up_q⟩
    exact hS.1.upF hg h1 h2
  have key1 : ∀ (d i : Nat), i + d = 225 → ∀ S, zs_oS S0 S → zs_P MX12_carries 3 [(5, .int (nI i)), (0, .ref 80), (1, .int (nI b)), (2, .int (nI t)), (3, .int (nI f)), (4, .int (nI g))] [] S (fun v S' => v = none ∧ zs_oC S0 S' g m) := by
    intro d
    induction d with
    | zero =>
      intro i hi S hS
      obtain rfl : i = 225 := by omega
      refine g_iload dX12_carries_3 rfl ?_
      refine g_sipush (v := (nI 225)) dX12_carries_5 rfl ?_
      refine g_ic_geN 35 dX12_carries_8 (by decide) (by omega) (by omega) (fun _ => ?_) (fun z => absurd z (by omega))
      exact hk S hS
    | succ d ih =>
      intro i hi S hS
      refine g_iload dX12_carries_3 rfl ?_
      refine g_sipush (v := (nI 225)) dX12_carries_5 rfl ?_
      refine g_ic_geN 35 dX12_carries_8 (by decide) (by omega) (by omega) (fun z => absurd z (by omega)) (fun _ => ?_)
      refine g_aload_n dX12_carries_11 rfl rfl ?_
      refine g_getR 0 (81) (C := RX12) (T := TX12) (N := 19) dX12_carries_12 (by decide) rfl rfl (by decide) rfl fl_RX12_7 ?_
      refine g_iload_n dX12_carries_15 rfl rfl ?_
      refine g_iload dX12_carries_16 rfl ?_
      refine g_iaddN dX12_carries_18 ?_
      refine g_aload_n dX12_carries_19 rfl rfl ?_
      refine g_getR 0 (81) (C := RX12) (T := TX12) (N := 19) dX12_carries_20 (by decide) rfl rfl (by decide) rfl fl_RX12_7 ?_
      refine g_iload_n dX12_carries_23 rfl rfl ?_
      refine g_iload dX12_carries_24 rfl ?_
      refine g_iaddN dX12_carries_26 ?_
      refine g_aldX (j := t + i) hS.1 dX12_carries_27 (by omega) (by omega) (fun v hv => ?_)
      refine g_iastN dX12_carries_28 (by decide) rfl (by omega) (by decide) ?_
      refine g_iinc (v := (nI (i + 1))) (lv' := [(5, .int (nI (i + 1))), (0, .ref 80), (1, .int (nI b)), (2, .int (nI t)), (3, .int (nI f)), (4, .int (nI g))]) dX12_carries_29 rfl (nI_1 i) (by decide) rfl ?_
      refine g_goto 3 dX12_carries_32 (by decide) ?_
      exact ih (i + 1) (by omega) _ (hS.up hv)
  refine g_iconst (v := nI 0) dX12_carries_0 rfl ?_
  refine g_istore (lv' := [(5, .int (nI 0)), (0, .ref 80), (1, .int (nI b)), (2, .int (nI t)), (3, .int (nI f)), (4, .int (nI g))]) dX12_carries_1 (by decide) rfl ?_
  exact key1 225 0 (by omega) S0 (zs_oS.rf hJ0)
def zs_fx (S S2 : zs_S) : Prop := ∀ b i, b < 80 → S2.1 b i = S.1 b i ∧ S2.2 b i = S.2 b i
theorem zs_fm.x {S S2 : zs_S} (h : zs_fm S S2) : zs_fx S S2 := fun b i hb => h b i (by
  unfold zs_pm
  rw [show Nat.ble b 79 = true from Nat.ble_eq_true_of_le (by omega)]; rfl)
theorem zs_fm.k {S S2 : zs_S} (h : zs_fm S S2) (i : Nat) : S2.1 83 i = S.1 83 i := (h 83 i rfl).1
theorem zs_fm.l {S S2 : zs_S} (h : zs_fm S S2) : S2.1 80 3 = S.1 80 3 := (h 80 3 rfl).1
theorem z_in (S : zs_S) (v : Int32) (lo hi : Nat) (h1 : lo < 2 ^ 31) (h2 : hi < 2 ^ 31) : zs_Ci MX12_in [.long v.toInt64, .long (lN lo), .long (lN hi)] S (fun x S2 => x = zs_b (nI lo ≤ v ∧ v ≤ nI hi) ∧ S = S2) := (z_inL S v.toInt64 (lN lo) (lN hi)).mono (by
  rintro _ _ ⟨x, rfl, rfl, rfl⟩
  refine ⟨_, rfl, congrArg zs_b ?_, rfl⟩
  rw [Int64.le_iff_toInt_le, Int64.le_iff_toInt_le, Int32.le_iff_toInt_le, Int32.le_iff_toInt_le, lN_toInt h1, lN_toInt h2, nI_toInt h1, nI_toInt h2, Int32.toInt_toInt64])
theorem zs_J.kp {S : zs_S} {i : Nat} {v : Int32} (hJ : zs_J S) (h : i < 2 → ∃ k, 1 ≤ k ∧ k ≤ 12 ∧ S.1 82 (66 * (i + 1)) = nI k) : zs_J (zs_up S.1 83 i v, S.2) := by
  refine ⟨fun b j lo up hr => ?_, fun k hk => ?_⟩
  · have hb : b ≠ 83 := fun z => by rw [z] at hr; have : zs_rg 83 j = none := rfl; rw [this] at hr; cases hr
    obtain ⟨m, h1, h2, h3⟩ := hJ.1 b j lo up hr
    exact ⟨m, h1, h2, (zs_up_n (fun q => hb q.1)).trans h3⟩
  · show (zs_up S.1 83 i v) 83 k = 0 ∨ ∃ q, 1 ≤ q ∧ q ≤ 12 ∧ (zs_up S.1 83 i v) 82 (66 * (k + 1)) = nI q
    rw [show (zs_up S.1 83 i v) 82 (66 * (k + 1)) = S.1 82 (66 * (k + 1)) from zs_up_n (fun q => absurd q.1 (by decide))]
    by_cases hh : k = i
    · subst hh
      exact Or.inr (h hk)
    · rw [show (zs_up S.1 83 i v) 83 k = S.1 83 k from zs_up_n (fun q => hh q.2)]
      exact hJ.2 k hk
theorem zs_J.ln {S : zs_S} {n : Nat} (hJ : zs_J S) (h : n ≤ 150) : zs_J (zs_up S.1 80 3 (nI n), S.2) := hJ.up (zs_okR (lo := 0) (up := 150) rfl (Nat.zero_le _) h (by decide) (by decide))
theorem q_bad (S : zs_S) (hJ : zs_J S) : zs_Ci MX12_bad [.ref 80] S (fun x S2 => x = (-2) ∧ zs_J S2 ∧ zs_fm S S2) := by
  refine zs_C.of (by decide) (Nat.le_of_ble_eq_true rfl) ?_
  show zs_P MX12_bad 0 [(0, .ref 80)] [] S _
  refine g_aload_n dX12_bad_0 rfl rfl ?_
  refine g_getR 14 (85) (C := RX12) (T := TX12) (N := 19) dX12_bad_1 (by decide) rfl rfl (by decide) rfl fl_RX12_27 ?_
  refine g_iconst (v := (nI 0)) dX12_bad_4 rfl ?_
  refine g_dup2 dX12_bad_5 rfl rfl ?_
  refine g_ialdN (v := (S.1 85 0)) dX12_bad_6 (by decide) rfl (by omega) (by decide) rfl ?_
  refine g_iconst (v := (nI 1)) dX12_bad_7 rfl ?_
  refine g_iadd dX12_bad_8 ?_
  refine g_iastN dX12_bad_9 (by decide) rfl (by omega) (by decide) ?_
  refine g_bipush (v := (-2)) dX12_bad_10 rfl ?_
  refine g_iret dX12_bad_12 rfl rfl ?_
  exact ⟨_, rfl, rfl, ((hJ).up (zs_okN rfl (by decide) (by decide))), ((zs_fm.rf).tr (zs_fm.up rfl))⟩
theorem q_no (S : zs_S) (hJ : zs_J S) : zs_Ci MX12_no [.ref 80] S (fun x S2 => x = (-3) ∧ zs_J S2 ∧ zs_fm S S2) := by
  refine zs_C.of (by decide) (Nat.le_of_ble_eq_true rfl) ?_
  show zs_P MX12_no 0 [(0, .ref 80)] [] S _
  refine g_aload_n dX12_no_0 rfl rfl ?_
  refine g_getR 14 (85) (C := RX12) (T := TX12) (N := 19) dX12_no_1 (by decide) rfl rfl (by decide) rfl fl_RX12_27 ?_
  refine g_iconst (v := (nI 1)) dX12_no_4 rfl ?_
  refine g_dup2 dX12_no_5 rfl rfl ?_
  refine g_ialdN (v := (S.1 85 1)) dX12_no_6 (by decide) rfl (by omega) (by decide) rfl ?_
  refine g_iconst (v := (nI 1)) dX12_no_7 rfl ?_
  refine g_iadd dX12_no_8 ?_
  refine g_iastN dX12_no_9 (by decide) rfl (by omega) (by decide) ?_
  refine g_bipush (v := (-3)) dX12_no_10 rfl ?_
  refine g_iret dX12_no_12 rfl rfl ?_
  exact ⟨_, rfl, rfl, ((hJ).up (zs_okN rfl (by decide) (by decide))), ((zs_fm.rf).tr (zs_fm.up rfl))⟩
theorem q_full (S : zs_S) (hJ : zs_J S) : zs_Ci MX12_full [.ref 80] S (fun x S2 => x = (-4) ∧ zs_J S2 ∧ zs_fm S S2) := by
  refine zs_C.of (by decide) (Nat.le_of_ble_eq_true rfl) ?_
  show zs_P MX12_full 0 [(0, .ref 80)] [] S _
  refine g_aload_n dX12_full_0 rfl rfl ?_
  refine g_getR 14 (85) (C := RX12) (T := TX12) (N := 19) dX12_full_1 (by decide) rfl rfl (by decide) rfl fl_RX12_27 ?_
  refine g_iconst (v := (nI 2)) dX12_full_4 rfl ?_
  refine g_dup2 dX12_full_5 rfl rfl ?_
  refine g_ialdN (v := (S.1 85 2)) dX12_full_6 (by decide) rfl (by omega) (by decide) rfl ?_
  refine g_iconst (v := (nI 1)) dX12_full_7 rfl ?_
  refine g_iadd dX12_full_8 ?_
  refine g_iastN dX12_full_9 (by decide) rfl (by omega) (by decide) ?_
  refine g_bipush (v := (-4)) dX12_full_10 rfl ?_
  refine g_iret dX12_full_12 rfl rfl ?_
  exact ⟨_, rfl, rfl, ((hJ).up (zs_okN rfl (by decide) (by decide))), ((zs_fm.rf).tr (zs_fm.up rfl))⟩
set_option maxRecDepth 100000 in
theorem y_image (a : Int32) (S : zs_S) (hJ : zs_J S) : zs_Ci MX12_image [.ref 80, .int a] S (fun x S2 => zs_J S2 ∧ zs_fx S S2 ∧ S2.1 80 3 = S.1 80 3 ∧ ((∃ k, k < 2 ∧ a = nI k ∧ x = nI 1 ∧ ∀ i, S2.1 83 i = if i = k then nI 1 else S.1 83 i) ∨ (¬ (nI 0 ≤ a ∧ a ≤ nI 1) ∧ x = (-2) ∧ ∀ i, S2.1 83 i = S.1 83 i))) := by
  obtain ⟨m, g1, g2, g3⟩ := hJ.1 82 0 1 12 rfl
  refine zs_C.of (by decide) (Nat.le_of_ble_eq_true rfl) ?_
  show zs_P MX12_image 0 [(0, .ref 80), (1, .int a)] [] S _
  refine g_iload_n dX12_image_0 rfl rfl ?_
  refine g_i2l dX12_image_1 rfl ?_
  refine g_lconst (v := 0) dX12_image_2 (by decide) ?_
  refine g_lconst (v := 1) dX12_image_3 (by decide) ?_
  refine g_callS [.long (Int32.toInt64 a), .long 0, .long 1] [] (z_in S a 0 1 (by decide) (by decide)) dX12_image_4 kk_X12_image_X12_in ml_RX12_54 swX12_in rfl rfl (Nat.le_of_ble_eq_true rfl) ?_
  rintro _ _ ⟨_, rfl, rfl, rfl⟩
  refine g_if_ne 15 dX12_image_7 (by decide) (fun h3 => ?_) (fun h3 => ?_)
  · have h3 := zs_b1 h3
    obtain ⟨a', a'a, a'b, rfl⟩ := zs_rng h3 (by omega)
    refine g_aload_n dX12_image_15 rfl rfl ?_
    refine g_iconst (v := (nI 0)) dX12_image_16 rfl ?_
    refine g_sipush (v := (nI 225)) dX12_image_17 rfl ?_
    refine g_iload_n dX12_image_20 rfl rfl ?_
    refine g_iconst (v := (nI 1)) dX12_image_21 rfl ?_
    refine g_iaddN dX12_image_22 ?_
    refine g_imulN dX12_image_23 ?_
    refine g_iconst (v := (nI 0)) dX12_image_24 rfl ?_
    refine g_bipush (v := (nI 66)) dX12_image_25 rfl ?_
    refine g_iload_n dX12_image_27 rfl rfl ?_
    refine g_iconst (v := (nI 1)) dX12_image_28 rfl ?_
    refine g_iaddN dX12_image_29 ?_
    refine g_imulN dX12_image_30 ?_
    refine g_callV (T := TX12) (NN := 19) [] (y_carries 0 (225 * (a' + 1)) 0 (66 * (a' + 1)) m (by omega) (by omega) (by omega) (by omega) (by omega) (by omega) g1 g2 S hJ g3) dX12_image_31 kk_X12_image_X12_carries ml_RX12_245 mwX12_carries ewX12_carries (by decide) rfl rfl rfl rfl (Nat.le_of_ble_eq_true rfl) ?_
    rintro _ S4 ⟨rfl, jS4⟩
    refine g_aload_n dX12_image_34 rfl rfl ?_
    refine g_getR 2 (83) (C := RX12) (T := TX12) (N := 19) dX12_image_35 (by decide) rfl rfl (by decide) rfl fl_RX12_16 ?_
    refine g_iload_n dX12_image_38 rfl rfl ?_
    refine g_iconst (v := (nI 1)) dX12_image_39 rfl ?_
    refine g_iastN dX12_image_40 (by decide) rfl (by omega) (by decide) ?_
    refine g_iconst (v := (nI 1)) dX12_image_41 rfl ?_
    refine g_iret dX12_image_42 rfl rfl ?_
    exact ⟨_, rfl, jS4.1.kp (fun _ => ⟨m, g1, g2, jS4.2.2⟩), fun b i hb => ⟨(zs_up_m (by omega)).trans (jS4.2.1.x b i hb).1, (jS4.2.1.x b i hb).2⟩, (zs_up_m (by omega)).trans jS4.2.1.l, Or.inl ⟨a', by omega, rfl, rfl, fun i => by
        show zs_up S4.1 83 a' (nI 1) 83 i = _
        by_cases hi : i = a'
        · rw [if_pos hi, hi]; exact zs_up_s
        · rw [if_neg hi]; exact (zs_up_n (fun q => hi q.2)).trans (jS4.2.1.k i)⟩⟩
  · have h3 := zs_b0 h3
    refine g_aload_n dX12_image_10 rfl rfl ?_
    refine g_callV (T := TX12) (NN := 19) [] (q_bad S hJ) dX12_image_11 kk_X12_image_X12_bad ml_RX12_62 mwX12_bad ewX12_bad (by decide) rfl rfl rfl rfl (Nat.le_of_ble_eq_true rfl) ?_
    rintro _ S5 ⟨x6, rfl, ex6, jS5, fS5⟩
    refine g_iret dX12_image_14 rfl rfl ?_
    exact ⟨_, rfl, jS5, (((zs_fm.rf).tr fS5)).x, (((zs_fm.rf).tr fS5)).l, Or.inr ⟨h3, ex6, (((zs_fm.rf).tr fS5)).k⟩⟩
set_option maxRecDepth 100000 in
theorem y_from (a : Int32) (S : zs_S) (hJ : zs_J S) : zs_Ci MX12_from [.ref 80, .int a] S (fun x S2 => zs_J S2 ∧ zs_fm S S2 ∧ ((¬ (nI 0 ≤ a ∧ a ≤ nI 1) ∧ x = (-2)) ∨ ∃ k, k < 2 ∧ a = nI k ∧ ((S.1 83 k = 0 ∧ x = (-3)) ∨ (¬ S.1 83 k = 0 ∧ x = nI 1)))) := by
  refine zs_C.of (by decide) (Nat.le_of_ble_eq_true rfl) ?_
  show zs_P MX12_from 0 [(0, .ref 80), (1, .int a)] [] S _
  refine g_iload_n dX12_from_0 rfl rfl ?_
  refine g_i2l dX12_from_1 rfl ?_
  refine g_lconst (v := 0) dX12_from_2 (by decide) ?_
  refine g_lconst (v := 1) dX12_from_3 (by decide) ?_
  refine g_callS [.long (Int32.toInt64 a), .long 0, .long 1] [] (z_in S a 0 1 (by decide) (by decide)) dX12_from_4 kk_X12_from_X12_in ml_RX12_54 swX12_in rfl rfl (Nat.le_of_ble_eq_true rfl) ?_
  rintro _ _ ⟨_, rfl, rfl, rfl⟩
  refine g_if_ne 15 dX12_from_7 (by decide) (fun h3 => ?_) (fun h3 => ?_)
  · have h3 := zs_b1 h3
    obtain ⟨a', a'a, a'b, rfl⟩ := zs_rng h3 (by omega)
    refine g_aload_n dX12_from_15 rfl rfl ?_
    refine g_getR 2 (83) (C := RX12) (T := TX12) (N := 19) dX12_from_16 (by decide) rfl rfl (by decide) rfl fl_RX12_16 ?_
    refine g_iload_n dX12_from_19 rfl rfl ?_
    refine g_ialdN (v := (S.1 83 a')) dX12_from_20 (by decide) rfl (by omega) (by decide) rfl ?_
    refine g_if_ne 29 dX12_from_21 (by decide) (fun h4 => ?_) (fun h4 => ?_)
    · obtain ⟨m, g1, g2, g3⟩ := (hJ.2 a' (by omega)).resolve_left h4
      refine g_aload_n dX12_from_29 rfl rfl ?_
      refine g_sipush (v := (nI 225)) dX12_from_30 rfl ?_
      refine g_iload_n dX12_from_33 rfl rfl ?_
      refine g_iconst (v := (nI 1)) dX12_from_34 rfl ?_
      refine g_iaddN dX12_from_35 ?_
      refine g_imulN dX12_from_36 ?_
      refine g_iconst (v := (nI 0)) dX12_from_37 rfl ?_
      refine g_bipush (v := (nI 66)) dX12_from_38 rfl ?_
      refine g_iload_n dX12_from_40 rfl rfl ?_
      refine g_iconst (v := (nI 1)) dX12_from_41 rfl ?_
      refine g_iaddN dX12_from_42 ?_
      refine g_imulN dX12_from_43 ?_
      refine g_iconst (v := (nI 0)) dX12_from_44 rfl ?_
      refine g_callV (T := TX12) (NN := 19) [] (y_carries (225 * (a' + 1)) 0 (66 * (a' + 1)) 0 m (by omega) (by omega) (by omega) (by omega) (by omega) (by omega) g1 g2 S hJ g3) dX12_from_45 kk_X12_from_X12_carries ml_RX12_245 mwX12_carries ewX12_carries (by decide) rfl rfl rfl rfl (Nat.le_of_ble_eq_true rfl) ?_
      rintro _ S5 ⟨rfl, jS5⟩
      refine g_iconst (v := (nI 1)) dX12_from_48 rfl ?_
      refine g_iret dX12_from_49 rfl rfl ?_
      exact ⟨_, rfl, jS5.1, ((zs_fm.rf).tr jS5.2.1), Or.inr ⟨a', by omega, rfl, Or.inr ⟨h4, rfl⟩⟩⟩
    · refine g_aload_n dX12_from_24 rfl rfl ?_
      refine g_callV (T := TX12) (NN := 19) [] (q_no S hJ) dX12_from_25 kk_X12_from_X12_no ml_RX12_178 mwX12_no ewX12_no (by decide) rfl rfl rfl rfl (Nat.le_of_ble_eq_true rfl) ?_
      rintro _ S6 ⟨x7, rfl, ex7, jS6, fS6⟩
      refine g_iret dX12_from_28 rfl rfl ?_
      exact ⟨_, rfl, jS6, ((zs_fm.rf).tr fS6), Or.inr ⟨a', by omega, rfl, Or.inl ⟨h4, ex7⟩⟩⟩
  · have h3 := zs_b0 h3
    refine g_aload_n dX12_from_10 rfl rfl ?_
    refine g_callV (T := TX12) (NN := 19) [] (q_bad S hJ) dX12_from_11 kk_X12_from_X12_bad ml_RX12_62 mwX12_bad ewX12_bad (by decide) rfl rfl rfl rfl (Nat.le_of_ble_eq_true rfl) ?_
    rintro _ S8 ⟨x9, rfl, ex9, jS8, fS8⟩
    refine g_iret dX12_from_14 rfl rfl ?_
    exact ⟨_, rfl, jS8, ((zs_fm.rf).tr fS8), Or.inl ⟨h3, ex9⟩⟩
theorem y_clear (S : zs_S) (hJ : zs_J S) : zs_Ci MX12_clear [.ref 80] S (fun x S2 => zs_J S2 ∧ zs_fx S S2 ∧ (∀ i, S2.1 83 i = S.1 83 i) ∧ S2.1 80 3 = nI 0 ∧ x = S.1 80 3) := by
  obtain ⟨m, h1, h2, h3⟩ := hJ.1 80 3 0 150 rfl
  refine zs_C.of (by decide) (Nat.le_of_ble_eq_true rfl) ?_
  show zs_P MX12_clear 0 [(0, .ref 80)] [] S _
  refine g_aload_n dX12_clear_0 rfl rfl ?_
  refine g_getV 3 (C := RX12) (T := TX12) (N := 19) (v := (nI m)) dX12_clear_1 (by decide) rfl rfl (by decide) rfl fl_RX12_75 h3 ?_
  refine g_istore_n (lv' := [(1, .int (nI m)), (0, .ref 80)]) dX12_clear_4 rfl (by decide) rfl ?_
  refine g_aload_n dX12_clear_5 rfl rfl ?_
  refine g_iconst (v := (nI 0)) dX12_clear_6 rfl ?_
  refine g_putI 3 (C := RX12) (T := TX12) (N := 19) (ty := .int) dX12_clear_7 (by decide) rfl rfl (by decide) rfl fl_RX12_75 rfl (by decide +kernel) ⟨rfl, rfl⟩ ?_
  refine g_iload_n dX12_clear_10 rfl rfl ?_
  refine g_iret dX12_clear_11 rfl rfl ?_
  exact ⟨_, rfl, hJ.ln (by omega), fun b i hb => ⟨zs_up_m (by omega), rfl⟩, fun i => zs_up_m (by omega), zs_up_q, h3.symm⟩
set_option maxRecDepth 100000 in
theorem y_type (c : Int32) (m : Nat) (S : zs_S) (hJ : zs_J S) (g3 : S.1 80 3 = nI m) (hm : m ≤ 150) : zs_Ci MX12_type [.ref 80, .int c] S (fun x S2 => zs_J S2 ∧ zs_fx S S2 ∧ (∀ i, S2.1 83 i = S.1 83 i) ∧ ((¬ (nI 0 ≤ c ∧ c ≤ nI 127) ∧ x = (-2) ∧ S2.1 80 3 = S.1 80 3) ∨ ((nI 0 ≤ c ∧ c ≤ nI 127) ∧ ((150 ≤ m ∧ x = (-4) ∧ S2.1 80 3 = S.1 80 3) ∨ (m < 150 ∧ x = nI (m + 1) ∧ S2.1 80 3 = nI (m + 1)))))) := by
  refine zs_C.of (by decide) (Nat.le_of_ble_eq_true rfl) ?_
  show zs_P MX12_type 0 [(0, .ref 80), (1, .int c)] [] S _
  refine g_iload_n dX12_type_0 rfl rfl ?_
  refine g_i2l dX12_type_1 rfl ?_
  refine g_lconst (v := 0) dX12_type_2 (by decide) ?_
  refine g_ldc2 (v := 127) dX12_type_3 cl_RX12_73 ?_
  refine g_callS [.long (Int32.toInt64 c), .long 0, .long 127] [] (z_in S c 0 127 (by decide) (by decide)) dX12_type_6 kk_X12_type_X12_in ml_RX12_54 swX12_in rfl rfl (Nat.le_of_ble_eq_true rfl) ?_
  rintro _ _ ⟨_, rfl, rfl, rfl⟩
  refine g_if_ne 17 dX12_type_9 (by decide) (fun h3 => ?_) (fun h3 => ?_)
  · have h3 := zs_b1 h3
    obtain ⟨c', c'a, c'b, rfl⟩ := zs_rng h3 (by omega)
    have hcc : nI 0 ≤ (nI c') ∧ (nI c') ≤ nI 127 := ⟨nI_le (by omega) (by omega), nI_le (by omega) (by omega)⟩
    refine g_aload_n dX12_type_17 rfl rfl ?_
    refine g_getV 3 (C := RX12) (T := TX12) (N := 19) (v := (nI m)) dX12_type_18 (by decide) rfl rfl (by decide) rfl fl_RX12_75 g3 ?_
    refine g_sipush (v := (nI 150)) dX12_type_21 rfl ?_
    refine g_ic_neN 32 dX12_type_24 (by decide) (by omega) (by omega) (fun h4 => ?_) (fun h4 => ?_)
    · refine g_aload_n dX12_type_32 rfl rfl ?_
      refine g_getR 4 (84) (C := RX12) (T := TX12) (N := 19) dX12_type_33 (by decide) rfl rfl (by decide) rfl fl_RX12_19 ?_
      refine g_aload_n dX12_type_36 rfl rfl ?_
      refine g_getV 3 (C := RX12) (T := TX12) (N := 19) (v := (nI m)) dX12_type_37 (by decide) rfl rfl (by decide) rfl fl_RX12_75 g3 ?_
      refine g_iload_n dX12_type_40 rfl rfl ?_
      refine g_i2b dX12_type_41 rfl ?_
      refine g_bast dX12_type_42 (by decide) rfl (vp_in_nI (by omega) (by omega)) ?_
      refine g_aload_n dX12_type_43 rfl rfl ?_
      refine g_dup dX12_type_44 rfl ?_
      refine g_getV 3 (C := RX12) (T := TX12) (N := 19) (v := (nI m)) dX12_type_45 (by decide) rfl rfl (by decide) rfl fl_RX12_75 ((zs_up_m (by omega)).trans g3) ?_
      refine g_iconst (v := (nI 1)) dX12_type_48 rfl ?_
      refine g_iaddN dX12_type_49 ?_
      refine g_putI 3 (C := RX12) (T := TX12) (N := 19) (ty := .int) dX12_type_50 (by decide) rfl rfl (by decide) rfl fl_RX12_75 rfl (by decide +kernel) ⟨rfl, rfl⟩ ?_
      refine g_aload_n dX12_type_53 rfl rfl ?_
      refine g_getV 3 (C := RX12) (T := TX12) (N := 19) (v := (nI (m + 1))) dX12_type_54 (by decide) rfl rfl (by decide) rfl fl_RX12_75 zs_up_q ?_
      refine g_iret dX12_type_57 rfl rfl ?_
      exact ⟨_, rfl, (hJ.up (zs_okN rfl (by decide) (by decide))).ln (by omega), fun b i hb => ⟨(zs_up_m (by omega)).trans (zs_up_m (by omega)), rfl⟩, fun i => (zs_up_m (by omega)).trans (zs_up_m (by omega)), Or.inr ⟨hcc, Or.inr ⟨by omega, rfl, zs_up_q⟩⟩⟩
    · refine g_aload_n dX12_type_27 rfl rfl ?_
      refine g_callV (T := TX12) (NN := 19) [] (q_full S hJ) dX12_type_28 kk_X12_type_X12_full ml_RX12_66 mwX12_full ewX12_full (by decide) rfl rfl rfl rfl (Nat.le_of_ble_eq_true rfl) ?_
      rintro _ S5 ⟨x6, rfl, ex6, jS5, fS5⟩
      refine g_iret dX12_type_31 rfl rfl ?_
      exact ⟨_, rfl, jS5, (((zs_fm.rf).tr fS5)).x, (((zs_fm.rf).tr fS5)).k, Or.inr ⟨hcc, Or.inl ⟨by omega, ex6, (((zs_fm.rf).tr fS5)).l⟩⟩⟩
  · have h3 := zs_b0 h3
    refine g_aload_n dX12_type_12 rfl rfl ?_
    refine g_callV (T := TX12) (NN := 19) [] (q_bad S hJ) dX12_type_13 kk_X12_type_X12_bad ml_RX12_62 mwX12_bad ewX12_bad (by decide) rfl rfl rfl rfl (Nat.le_of_ble_eq_true rfl) ?_
    rintro _ S7 ⟨x8, rfl, ex8, jS7, fS7⟩
    refine g_iret dX12_type_16 rfl rfl ?_
    exact ⟨_, rfl, jS7, (((zs_fm.rf).tr fS7)).x, (((zs_fm.rf).tr fS7)).k, Or.inl ⟨h3, ex8, (((zs_fm.rf).tr fS7)).l⟩⟩
theorem zs_lcg {v : Nat} (hv : v < 2147483648) : (lN v * 1103515245 + 12345) - (lN v * 1103515245 + 12345) / 2147483648 * 2147483648 = lN ((v * 1103515245 + 12345) % 2147483648) := by
  have e1 : (1103515245 : Int64) = lN 1103515245 := by decide
  have e2 : (12345 : Int64) = lN 12345 := by decide
  have e3 : (2147483648 : Int64) = lN 2147483648 := by decide
  rw [e1, e2, e3, lN_mul, lN_add]
  exact pk_lRem (by omega) (by omega) (by omega)
theorem zs_stp {v : Nat} (hv : v < 2147483648) : (lN v / 65536 - lN v / 65536 / 12 * 12).toInt32 = nI (v / 65536 % 12) := by
  have e1 : (65536 : Int64) = lN 65536 := by decide
  have e2 : (12 : Int64) = lN 12 := by decide
  rw [e1, e2, pk_lDiv (by omega) (by omega) (by omega), pk_lRem (by omega) (by omega) (by omega)]
  exact lN_i _
theorem n_i2lN {M : zs_M} {pc : Nat} {lv : List (Nat × Value)} {st : List Value} {R : Option Value → Prop} {n : Nat} (hd : decode M.2.1 pc = .ok (.i2l, 1)) (h : n < 2 ^ 31) (k : zs_V M (pc + 1) lv (.long (lN n) :: st) R) : zs_V M pc lv (.int (nI n) :: st) R := fun S hJ => g_i2l hd (nI_l h) (k S hJ)
set_option maxRecDepth 100000 in
theorem y_nights_l (z w : Int32) : ∀ (n : Nat) (i : Int32) (v : Nat), v < 2147483648 → zs_mu i < n → zs_V MX12_nights 39 [(5, .int i), (3, .long (lN v)), (0, .ref 80), (1, .int z), (2, .int w)] [] zs_Ri := by
  intro n
  induction n with
  | zero => intro i v hv hn; exact absurd hn (Nat.not_lt_zero _)
  | succ n ih =>
    intro i v hv hn
    refine n_iload dX12_nights_39 rfl ?_
    refine n_iload_n dX12_nights_41 rfl rfl ?_
    refine n_ic_ge 83 dX12_nights_42 (by decide) (fun h => ?_) (fun h => ?_)
    · refine n_aload_n dX12_nights_83 rfl rfl ?_
      refine n_sipush (v := nI 675) dX12_nights_84 rfl ?_
      refine n_callV (T := TX12) (NN := 19) [] (y_X12_movesOf_675) dX12_nights_87 kk_X12_nights_X12_movesOf ml_RX12_242 mwX12_movesOf ewX12_movesOf (by decide) rfl rfl rfl rfl (Nat.le_of_ble_eq_true rfl) ?_
      rintro _ ⟨x, rfl⟩
      exact n_iret dX12_nights_90 rfl rfl ⟨_, rfl⟩
    have hd := zs_muA h hn
    have kk : ∀ (v2 s2 : Nat), v2 < 2147483648 → s2 ≤ 11 → zs_V MX12_nights 74 [(5, .int i), (3, .long (lN v2)), (0, .ref 80), (1, .int z), (2, .int w)] [.int (nI 1), .int (nI s2), .int (nI 675), .ref 80] zs_Ri := by
      intro v2 s2 hv2 hs2
      refine n_callV (T := TX12) (NN := 19) [] (y_X12_flash_675 s2 (by omega) (by omega) (nI 1)) dX12_nights_74 kk_X12_nights_X12_flash ml_RX12_132 mwX12_flash ewX12_flash (by decide) rfl rfl rfl rfl (Nat.le_of_ble_eq_true rfl) ?_
      rintro _ rfl
      refine n_iinc (v := (i + Int32.ofInt 1)) (lv' := [(5, .int (i + Int32.ofInt 1)), (3, .long (lN v2)), (0, .ref 80), (1, .int z), (2, .int w)]) dX12_nights_77 rfl rfl (by decide) rfl ?_
      refine n_goto 39 dX12_nights_80 (by decide) ?_
      exact ih _ v2 hv2 hd
    intro S hJ
    refine g_lload_n dX12_nights_45 rfl rfl ?_
    refine g_ldc2 (v := 1103515245) dX12_nights_46 cl_RX12_234 ?_
    refine g_lmul dX12_nights_49 ?_
    refine g_ldc2 (v := 12345) dX12_nights_50 cl_RX12_236 ?_
    refine g_ladd dX12_nights_53 ?_
    refine g_ldc2 (v := 2147483648) dX12_nights_54 cl_RX12_238 ?_
    refine g_lrem dX12_nights_57 (by decide) ?_
    rw [zs_lcg hv]
    obtain ⟨v2, hv2, ev2⟩ : ∃ v2, v2 < 2147483648 ∧ v2 = (v * 1103515245 + 12345) % 2147483648 := ⟨_, Nat.mod_lt _ (by decide), rfl⟩
    rw [← ev2]
    refine g_lstore_n (lv' := [(3, .long (lN v2)), (5, .int i), (0, .ref 80), (1, .int z), (2, .int w)]) dX12_nights_58 rfl (by decide) rfl ?_
    refine g_aload_n dX12_nights_59 rfl rfl ?_
    refine g_sipush (v := (nI 675)) dX12_nights_60 rfl ?_
    refine g_lload_n dX12_nights_63 rfl rfl ?_
    refine g_ldc2 (v := 65536) dX12_nights_64 cl_RX12_240 ?_
    refine g_ldiv dX12_nights_67 (by decide) ?_
    refine g_ldc2 (v := 12) dX12_nights_68 cl_RX12_52 ?_
    refine g_lrem dX12_nights_71 (by decide) ?_
    refine g_l2i dX12_nights_72 rfl ?_
    rw [zs_stp hv2]
    obtain ⟨s2, hs2, es2⟩ : ∃ s2, s2 < 12 ∧ s2 = v2 / 65536 % 12 := ⟨_, Nat.mod_lt _ (by decide), rfl⟩
    rw [← es2]
    refine g_iconst (v := (nI 1)) dX12_nights_73 rfl ?_
    exact (kk v2 s2 hv2 (by omega) S hJ).lv (zs_mc 1 rfl (zs_mc 0 rfl (zs_mc 2 rfl (zs_mc 3 rfl (zs_mc 4 rfl zs_mn)))))
set_option maxRecDepth 100000 in
theorem y_X12_nights (a1 : Int32) (a2 : Int32) : zs_U MX12_nights [.ref 80, .int a1, .int a2] zs_Ri := by
  refine zs_Vof (by decide) (Nat.le_of_ble_eq_true rfl) ?_
  show zs_V MX12_nights 0 [(0, .ref 80), (1, .int a1), (2, .int a2)] [] zs_Ri
  refine n_iload_n dX12_nights_0 rfl rfl ?_
  refine n_i2l dX12_nights_1 ?_
  refine n_lconst (v := 0) dX12_nights_2 (by decide) ?_
  refine n_ldc2 (v := 999999) dX12_nights_3 cl_RX12_232 ?_
  refine n_callS [.long (Int32.toInt64 a1), .long 0, .long 999999] [] (y_in (Int32.toInt64 a1) 0 999999) dX12_nights_6 kk_X12_nights_X12_in ml_RX12_54 swX12_in rfl rfl (Nat.le_of_ble_eq_true rfl) ?_
  rintro _ ⟨x1, rfl, bx1, fx1⟩
  refine n_if_eq 24 dX12_nights_9 (by decide) (fun h2 => ?_) (fun h2 => ?_)
  · refine n_aload_n dX12_nights_24 rfl rfl ?_
    refine n_callV (T := TX12) (NN := 19) [] (y_X12_bad) dX12_nights_25 kk_X12_nights_X12_bad ml_RX12_62 mwX12_bad ewX12_bad (by decide) rfl rfl rfl rfl (Nat.le_of_ble_eq_true rfl) ?_
    rintro _ ⟨x3, rfl⟩
    exact n_iret dX12_nights_28 rfl rfl ⟨_, rfl⟩
  · obtain ⟨k4, lk4, uk4, rfl⟩ := zs_inR (lo := 0) (hi := 999999) (fx1 h2) (by decide) (by decide)
    refine n_iload_n dX12_nights_12 rfl rfl ?_
    refine n_i2l dX12_nights_13 ?_
    refine n_lconst (v := 0) dX12_nights_14 (by decide) ?_
    refine n_ldc2 (v := 60) dX12_nights_15 cl_RX12_173 ?_
    refine n_callS [.long (Int32.toInt64 a2), .long 0, .long 60] [] (y_in (Int32.toInt64 a2) 0 60) dX12_nights_18 kk_X12_nights_X12_in ml_RX12_54 swX12_in rfl rfl (Nat.le_of_ble_eq_true rfl) ?_
    rintro _ ⟨x5, rfl, bx5, fx5⟩
    refine n_if_ne 29 dX12_nights_21 (by decide) (fun h6 => ?_) (fun h6 => ?_)
    · obtain ⟨k7, lk7, uk7, rfl⟩ := zs_inR (lo := 0) (hi := 60) (fx5 h6) (by decide) (by decide)
      refine n_aload_n dX12_nights_29 rfl rfl ?_
      refine n_callV (T := TX12) (NN := 19) [] (y_X12_tries) dX12_nights_30 kk_X12_nights_X12_tries ml_RX12_188 mwX12_tries ewX12_tries (by decide) rfl rfl rfl rfl (Nat.le_of_ble_eq_true rfl) ?_
      rintro _ rfl
      refine n_iload_n dX12_nights_33 rfl rfl ?_
      refine n_i2lN dX12_nights_34 (by omega) ?_
      refine n_lstore_n (lv' := [(3, .long (lN k4)), (0, .ref 80), (1, .int (nI k4)), (2, .int (nI k7))]) dX12_nights_35 rfl (by decide) rfl ?_
      refine n_iconst (v := nI 0) dX12_nights_36 rfl ?_
      refine n_istore (lv' := [(5, .int (nI 0)), (3, .long (lN k4)), (0, .ref 80), (1, .int (nI k4)), (2, .int (nI k7))]) dX12_nights_37 (by decide) rfl ?_
      exact zs_Vlv (y_nights_l (nI k4) (nI k7) _ (nI 0) k4 (by omega) (Nat.lt_succ_self _)) (zs_mc 0 rfl (zs_mc 1 rfl (zs_mc 2 rfl (zs_mc 3 rfl (zs_mc 4 rfl zs_mn)))))
    · refine n_aload_n dX12_nights_24 rfl rfl ?_
      refine n_callV (T := TX12) (NN := 19) [] (y_X12_bad) dX12_nights_25 kk_X12_nights_X12_bad ml_RX12_62 mwX12_bad ewX12_bad (by decide) rfl rfl rfl rfl (Nat.le_of_ble_eq_true rfl) ?_
      rintro _ ⟨x8, rfl⟩
      exact n_iret dX12_nights_28 rfl rfl ⟨_, rfl⟩
