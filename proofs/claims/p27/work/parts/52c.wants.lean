theorem tx_wx {B : Nat → Nat} {s e i j : Nat} (hi : i < 5) (hj : j < 5) (h1 : tx_w B s e (tx_ws.getD i [])) (h2 : tx_w B s e (tx_ws.getD j [])) : i = j := by
  have hl : (tx_ws.getD i []).length = (tx_ws.getD j []).length := h1.1.symm.trans h2.1
  have hc : ∀ k, k < (tx_ws.getD i []).length → (tx_ws.getD i []).getD k 0 = (tx_ws.getD j []).getD k 0 := fun k hk => (h1.2 k hk).symm.trans (h2.2 k (by rw [← hl]; exact hk))
  have key : ∀ i, i < 5 → ∀ j, j < 5 → (tx_ws.getD i []).length = (tx_ws.getD j []).length → (∀ k, k < (tx_ws.getD i []).length → (tx_ws.getD i []).getD k 0 = (tx_ws.getD j []).getD k 0) → i = j := by decide
  exact key i hi j hj hl hc
theorem tx_wcE {B : Nat → Nat} {s e i : Nat} (hi : i < 5) : tx_wc B s e = 4 + i ↔ tx_w B s e (tx_ws.getD i []) := by
  constructor
  · intro h
    unfold tx_wc at h
    rcases (show i = 0 ∨ i = 1 ∨ i = 2 ∨ i = 3 ∨ i = 4 by omega) with rfl | rfl | rfl | rfl | rfl
    all_goals (repeat' split at h)
    all_goals first | assumption | omega
  · intro h
    unfold tx_wc
    rcases (show i = 0 ∨ i = 1 ∨ i = 2 ∨ i = 3 ∨ i = 4 by omega) with rfl | rfl | rfl | rfl | rfl
    · rw [if_pos h]
    · rw [if_neg (fun z => absurd (tx_wx (by decide) (by decide) z h) (by decide)), if_pos h]
    · rw [if_neg (fun z => absurd (tx_wx (by decide) (by decide) z h) (by decide)), if_neg (fun z => absurd (tx_wx (by decide) (by decide) z h) (by decide)), if_pos h]
    · rw [if_neg (fun z => absurd (tx_wx (by decide) (by decide) z h) (by decide)), if_neg (fun z => absurd (tx_wx (by decide) (by decide) z h) (by decide)), if_neg (fun z => absurd (tx_wx (by decide) (by decide) z h) (by decide)), if_pos h]
    · rw [if_neg (fun z => absurd (tx_wx (by decide) (by decide) z h) (by decide)), if_neg (fun z => absurd (tx_wx (by decide) (by decide) z h) (by decide)), if_neg (fun z => absurd (tx_wx (by decide) (by decide) z h) (by decide)), if_neg (fun z => absurd (tx_wx (by decide) (by decide) z h) (by decide)), if_pos h]
theorem tx_mtE {B : Nat → Nat} {L j : Nat} : (tx_mt B L j = 4 ∧ ¬ tx_p B L j < L) ∨ (tx_p B L j < L ∧ ((tx_mt B L j = 0 ∧ tx_so (B (tx_p B L j)) = 1) ∨ (tx_mt B L j = 1 ∧ tx_so (B (tx_p B L j)) = 2) ∨ (tx_mt B L j = 2 ∧ tx_so (B (tx_p B L j)) ≠ 1 ∧ tx_so (B (tx_p B L j)) ≠ 2 ∧ B (tx_p B L j) = 59) ∨ (tx_mt B L j = 3 ∧ tx_so (B (tx_p B L j)) ≠ 1 ∧ tx_so (B (tx_p B L j)) ≠ 2 ∧ B (tx_p B L j) ≠ 59))) := by
  unfold tx_mt
  by_cases h : tx_p B L j < L
  · rw [if_pos h]
    refine Or.inr ⟨h, ?_⟩
    by_cases z1 : tx_so (B (tx_p B L j)) = 1
    · rw [if_pos z1]; exact Or.inl ⟨rfl, z1⟩
    · rw [if_neg z1]
      by_cases z2 : tx_so (B (tx_p B L j)) = 2
      · rw [if_pos z2]; exact Or.inr (Or.inl ⟨rfl, z2⟩)
      · rw [if_neg z2]
        by_cases z3 : B (tx_p B L j) = 59
        · rw [if_pos z3]; exact Or.inr (Or.inr (Or.inl ⟨rfl, z1, z2, z3⟩))
        · rw [if_neg z3]; exact Or.inr (Or.inr (Or.inr ⟨rfl, z1, z2, z3⟩))
  · rw [if_neg h]
    exact Or.inl ⟨rfl, h⟩
theorem tx_mt4 {B : Nat → Nat} {L j : Nat} : tx_mt B L j ≤ 4 := by
  rcases tx_mtE (B := B) (L := L) (j := j) with h | ⟨-, h | h | h | h⟩ <;> omega
theorem tx_mk0 {B : Nat → Nat} {L j : Nat} : tx_mt B L j = 4 ↔ tx_k B L j = 0 := by
  rw [tx_kz]
  rcases tx_mtE (B := B) (L := L) (j := j) with h | ⟨h0, h | h | h | h⟩
  · exact ⟨fun _ => h.2, fun _ => h.1⟩
  all_goals exact ⟨fun z => absurd z (by omega), fun z => absurd h0 z⟩
theorem tx_mk2 {B : Nat → Nat} {L j : Nat} : tx_mt B L j = 2 ↔ tx_k B L j = 2 := by
  have hw := tx_wc3 (B := B) (s := tx_p B L j) (e := tx_q B L (j + 1))
  rcases tx_mtE (B := B) (L := L) (j := j) with h | ⟨h0, h | h | h | h⟩
  · rw [tx_kz.mpr h.2]; omega
  all_goals rw [tx_kS h0]; unfold tx_kd
  · rw [if_pos h.2]; omega
  · rw [if_neg (by omega), if_pos h.2]; split <;> omega
  · rw [if_neg h.2.1, if_neg h.2.2.1, if_pos h.2.2.2]; omega
  · rw [if_neg h.2.1, if_neg h.2.2.1, if_neg h.2.2.2]; omega
theorem tx_mkw {B : Nat → Nat} {L j : Nat} (h : 4 ≤ tx_k B L j) : tx_mt B L j = 0 := by
  rcases tx_mtE (B := B) (L := L) (j := j) with z | ⟨h0, z | z | z | z⟩
  · rw [tx_kz.mpr z.2] at h; omega
  · exact z.1
  all_goals rw [tx_kS h0] at h; unfold tx_kd at h
  · rw [if_neg (by omega), if_pos z.2] at h; split at h <;> omega
  · rw [if_neg z.2.1, if_neg z.2.2.1, if_pos z.2.2.2] at h; omega
  · rw [if_neg z.2.1, if_neg z.2.2.1, if_neg z.2.2.2] at h; omega
/-- the word's own: its letters, its number -/
theorem tx_wd {B : Nat → Nat} {L j : Nat} (h : tx_mt B L j = 0) : tx_p B L j < L ∧ (∀ k, k < tx_q B L (j + 1) - tx_p B L j → 97 ≤ B (tx_p B L j + k) ∧ B (tx_p B L j + k) ≤ 122) ∧ tx_k B L j = tx_wc B (tx_p B L j) (tx_q B L (j + 1)) := by
  rcases tx_mtE (B := B) (L := L) (j := j) with z | ⟨h0, z | z | z | z⟩
  · omega
  · refine ⟨h0, fun k hk => ?_, ?_⟩
    · have e : tx_q B L (j + 1) = tx_rn B L 1 (tx_p B L j) := by
        rw [tx_qS h0]; unfold tx_te; rw [if_pos (Or.inl z.2), z.2]
      exact tx_so1 (tx_rn_in (B := B) (k := 1) (q := tx_p B L j) (i := tx_p B L j + k) (L := L) tx_p_le (by omega) (by rw [← e]; omega))
    · rw [tx_kS h0]; unfold tx_kd; rw [if_pos z.2]
  all_goals omega
/-- a number that is wanted -/
theorem tx_mkn {B : Nat → Nat} {L j lo hi : Nat} (hhi : hi ≤ 99) : (tx_mt B L j = 1 ∧ lo ≤ tx_nv B (tx_p B L j) (tx_q B L (j + 1)) ∧ tx_nv B (tx_p B L j) (tx_q B L (j + 1)) ≤ hi) ↔ (tx_k B L j = 1 ∧ lo ≤ tx_v B L j ∧ tx_v B L j ≤ hi) := by
  have hw := tx_wc3 (B := B) (s := tx_p B L j) (e := tx_q B L (j + 1))
  have same : tx_p B L j < L → tx_q B L (j + 1) - tx_p B L j ≤ 2 → tx_nv B (tx_p B L j) (tx_q B L (j + 1)) = tx_v B L j := fun h0 h2 => by
    have hg := tx_q_gt h0
    unfold tx_nv tx_v tx_vl
    rcases (show tx_q B L (j + 1) - tx_p B L j = 1 ∨ tx_q B L (j + 1) - tx_p B L j = 2 by omega) with y | y
    · rw [if_neg (by omega), if_pos y, if_neg (by omega), show tx_q B L (j + 1) - 1 = tx_p B L j by omega]
      omega
    · rw [if_neg (by omega), if_neg (by omega), if_pos y, if_pos (by omega), show tx_q B L (j + 1) - 1 = tx_p B L j + 1 by omega]
  constructor
  · rintro ⟨h1, h2, h3⟩
    rcases tx_mtE (B := B) (L := L) (j := j) with z | ⟨h0, z | z | z | z⟩
    · omega
    · omega
    · have hg := tx_q_gt h0
      have h22 : tx_q B L (j + 1) - tx_p B L j ≤ 2 := by
        rcases Nat.lt_or_ge 2 (tx_q B L (j + 1) - tx_p B L j) with y | y
        · unfold tx_nv at h3
          rw [if_neg (by omega), if_neg (by omega), if_neg (by omega)] at h3
          omega
        · exact y
      rw [same h0 h22] at h2 h3
      refine ⟨?_, h2, h3⟩
      rw [tx_kS h0]; unfold tx_kd
      rw [if_neg (by omega), if_pos z.2, if_neg (by omega)]
    · omega
    · omega
  · rintro ⟨h1, h2, h3⟩
    have h0 : tx_p B L j < L := by
      by_cases y : tx_p B L j < L
      · exact y
      · rw [tx_kz.mpr y] at h1; omega
    obtain ⟨a1, a2, a3, -⟩ := tx_k1 h0 h1
    rw [same h0 a3]
    exact ⟨(if_pos h0).trans ((if_neg (by omega)).trans (if_pos a1)), h2, h3⟩
set_option maxRecDepth 100000 in
theorem z_we_l (B : Nat → Nat) (L s e : Nat) (S : zs_S) (hT : zs_tm S B L) (hse : s ≤ e) (heL : e ≤ L) (he5 : S.1 80 5 = nI e) (hs6 : S.1 80 6 = nI s) (hlt : ∀ k, k < e - s → 97 ≤ B (s + k) ∧ B (s + k) ≤ 122) : ∀ (d i : Nat), i + d = e → s ≤ i → zs_P MX12_word 7 [(3, .int (nI i)), (1, .long (lN (tx_wv B s (i - s)))), (0, .ref 80)] [] S (fun r S2 => ∃ x, r = some (.long x) ∧ x = lN (tx_wv B s (e - s)) ∧ S = S2) := by
  have hL := hT.1
  intro d
  induction d with
  | zero =>
    intro i hi hsi
    refine g_iload_n dX12_word_7 rfl rfl ?_
    refine g_aload_n dX12_word_8 rfl rfl ?_
    refine g_getV 5 (C := RX12) (T := TX12) (N := 19) (v := (nI e)) dX12_word_9 (by decide) rfl rfl (by decide) rfl fl_RX12_79 he5 ?_
    refine g_ic_geN 50 dX12_word_12 (by decide) (by omega) (by omega) (fun _ => ?_) (fun z => absurd z (by omega))
    refine g_lload_n dX12_word_50 rfl rfl ?_
    refine g_lret dX12_word_51 rfl ?_
    exact ⟨_, rfl, by rw [show i = e by omega], rfl⟩
  | succ d ih =>
    intro i hi hsi
    have hB := (hT.2.2 i (by omega)).1
    have hl1 := hlt (i - s) (by omega)
    rw [show s + (i - s) = i by omega] at hl1
    have hvB : tx_wv B s (i - s) ≤ 32000000031 := tx_wvB (i - s) (fun k hk => by have := hlt k (by omega); omega)
    refine g_iload_n dX12_word_7 rfl rfl ?_
    refine g_aload_n dX12_word_8 rfl rfl ?_
    refine g_getV 5 (C := RX12) (T := TX12) (N := 19) (v := (nI e)) dX12_word_9 (by decide) rfl rfl (by decide) rfl fl_RX12_79 he5 ?_
    refine g_ic_geN 50 dX12_word_12 (by decide) (by omega) (by omega) (fun z => absurd z (by omega)) (fun _ => ?_)
    refine g_lload_n dX12_word_15 rfl rfl ?_
    refine g_ldc2 (v := 1000000000) dX12_word_16 cl_RX12_99 ?_
    refine g_lcmp dX12_word_19 ?_
    refine g_if_le 27 dX12_word_20 (by decide) (fun h1 => ?_) (fun h1 => ?_)
    · refine g_ldc2 (v := 32) dX12_word_27 cl_RX12_101 ?_
      refine g_lload_n dX12_word_30 rfl rfl ?_
      refine g_lmul dX12_word_31 ?_
      refine g_aload_n dX12_word_32 rfl rfl ?_
      refine g_iload_n dX12_word_33 rfl rfl ?_
      refine g_callV (T := TX12) (NN := 19) [.long (32 * (lN (tx_wv B s (i - s))))] (z_byteE i B L S hT (by omega)) dX12_word_34 kk_X12_word_X12_byteAt ml_RX12_82 mwX12_byteAt ewX12_byteAt (by decide) rfl rfl rfl rfl (Nat.le_of_ble_eq_true rfl) ?_
      rintro _ _ ⟨x2, rfl, hx, rfl⟩
      obtain rfl : x2 = nI (B i) := (hx.resolve_right (fun z => absurd z.1 (by omega))).2
      refine g_i2l dX12_word_37 rfl ?_
      refine g_ladd dX12_word_38 ?_
      refine g_ldc2 (v := 96) dX12_word_39 cl_RX12_103 ?_
      refine g_lsub dX12_word_42 ?_
      rw [show ((32 : Int64) * lN (tx_wv B s (i - s)) + (nI (B i)).toInt64 - 96) = lN (tx_wv B s (i + 1 - s)) from by
        rw [nI_l (by omega), show (32 : Int64) = lN 32 from rfl, show (96 : Int64) = lN 96 from rfl, lN_mul, lN_add, lN_sub (by omega), show i + 1 - s = (i - s) + 1 by omega, tx_wvS (by have := mt (tx_cmp hvB).mpr (Int32.not_lt.mpr h1); omega), show s + (i - s) = i by omega]
        congr 1
        omega]
      refine g_lstore_n (lv' := [(1, .long (lN (tx_wv B s (i + 1 - s)))), (3, .int (nI i)), (0, .ref 80)]) dX12_word_43 rfl (by decide) rfl ?_
      refine g_iinc (v := (nI (i + 1))) (lv' := [(3, .int (nI (i + 1))), (1, .long (lN (tx_wv B s (i + 1 - s)))), (0, .ref 80)]) dX12_word_44 rfl (nI_1 i) (by decide) rfl ?_
      refine g_goto 7 dX12_word_47 (by decide) ?_
      exact (ih (i + 1) (by omega) (by omega)).lv (zs_mc 0 rfl (zs_mc 1 rfl (zs_mc 2 rfl zs_mn)))
    · refine g_lload_n dX12_word_23 rfl rfl ?_
      refine g_goto 43 dX12_word_24 (by decide) ?_
      rw [show tx_wv B s (i - s) = tx_wv B s (i + 1 - s) from by
        rw [show i + 1 - s = (i - s) + 1 by omega]
        exact (if_pos ((tx_cmp hvB).mp (Int32.not_le.mp h1))).symm]
      refine g_lstore_n (lv' := [(1, .long (lN (tx_wv B s (i + 1 - s)))), (3, .int (nI i)), (0, .ref 80)]) dX12_word_43 rfl (by decide) rfl ?_
      refine g_iinc (v := (nI (i + 1))) (lv' := [(3, .int (nI (i + 1))), (1, .long (lN (tx_wv B s (i + 1 - s)))), (0, .ref 80)]) dX12_word_44 rfl (nI_1 i) (by decide) rfl ?_
      refine g_goto 7 dX12_word_47 (by decide) ?_
      exact (ih (i + 1) (by omega) (by omega)).lv (zs_mc 0 rfl (zs_mc 1 rfl (zs_mc 2 rfl zs_mn)))
theorem y_wordE (B : Nat → Nat) (L s e : Nat) (S : zs_S) (hT : zs_tm S B L) (hse : s ≤ e) (heL : e ≤ L) (he5 : S.1 80 5 = nI e) (hs6 : S.1 80 6 = nI s) (hlt : ∀ k, k < e - s → 97 ≤ B (s + k) ∧ B (s + k) ≤ 122) : zs_Cl MX12_word [.ref 80] S (fun x S2 => x = lN (tx_wv B s (e - s)) ∧ S = S2) := by
  have hL := hT.1
  refine zs_C.of (by decide) (Nat.le_of_ble_eq_true rfl) ?_
  show zs_P MX12_word 0 [(0, .ref 80)] [] S _
  refine g_lconst (v := lN (tx_wv B s (s - s))) dX12_word_0 (by rw [Nat.sub_self]; rfl) ?_
  refine g_lstore_n (lv' := [(1, .long (lN (tx_wv B s (s - s)))), (0, .ref 80)]) dX12_word_1 rfl (by decide) rfl ?_
  refine g_aload_n dX12_word_2 rfl rfl ?_
  refine g_getV 6 (C := RX12) (T := TX12) (N := 19) (v := (nI s)) dX12_word_3 (by decide) rfl rfl (by decide) rfl fl_RX12_85 hs6 ?_
  refine g_istore_n (lv' := [(3, .int (nI s)), (1, .long (lN (tx_wv B s (s - s)))), (0, .ref 80)]) dX12_word_6 rfl (by decide) rfl ?_
  exact (z_we_l B L s e S hT hse heL he5 hs6 hlt (e - s) s (by omega) (by omega)).lv (zs_mc 0 rfl (zs_mc 1 rfl (zs_mc 2 rfl zs_mn)))
