/-! SMOOTH: the table of costs -/
def zs_ap (p q : Nat) : Nat := if p < q then q - p else p - q
theorem zs_ap2 {p q : Nat} : zs_ap p q < 2 ↔ (q ≤ p + 1 ∧ p ≤ q + 1) := by
  unfold zs_ap
  split <;> omega
theorem zs_aps {a : Nat} : zs_ap a a < 2 := zs_ap2.mpr (by omega)
theorem zs_apb {p q : Nat} (hp : p < 100) (hq : q < 100) : zs_ap p q < 100 := by
  unfold zs_ap
  split <;> omega
noncomputable def zs_own (S : zs_S) (g p : Nat) : Nat := @ite Nat (S.1 81 (3 + g) = nI p) (Classical.propDecidable _) 0 1
theorem zs_own1 {S : zs_S} {g p : Nat} : zs_own S g p ≤ 1 := by
  unfold zs_own
  split <;> omega
def zs_ent (S : zs_S) (n a g p : Nat) : Prop := ∃ k, k ≤ 200 ∧ S.1 86 (10 * g + p) = nI k ∧ (p = a → k ≤ n - g) ∧ (g + 1 < n → zs_own S g p ≤ k ∧ (k - zs_own S g p < 99 → ∃ q, q < 10 ∧ q ≤ p + 1 ∧ p ≤ q + 1 ∧ S.1 86 (10 * (g + 1) + q) = nI (k - zs_own S g p)))
theorem zs_ent.up {S : zs_S} {n a g p f r : Nat} {v : Int32} (h : zs_ent S n a g p) (hp : p < 10) (hr : r < 10) (h1 : ¬ (g = f ∧ p = r)) (h2 : f ≤ g) : zs_ent (zs_up S.1 86 (10 * f + r) v, S.2) n a g p := by
  obtain ⟨k, h3, h4, h5, h6⟩ := h
  have eo : zs_own (zs_up S.1 86 (10 * f + r) v, S.2) g p = zs_own S g p := by
    unfold zs_own
    rw [show ((zs_up S.1 86 (10 * f + r) v, S.2) : zs_S).1 81 (3 + g) = S.1 81 (3 + g) from zs_up_m (by omega)]
  refine ⟨k, h3, (zs_up_m (by omega)).trans h4, h5, fun h7 => ?_⟩
  rw [eo]
  obtain ⟨h8, h9⟩ := h6 h7
  refine ⟨h8, fun h10 => ?_⟩
  obtain ⟨q, g1, g2, g3, g4⟩ := h9 h10
  exact ⟨q, g1, g2, g3, (zs_up_m (by omega)).trans g4⟩
def zs_iv (S : zs_S) (f p q l : Nat) : Prop := l ≤ 99 ∧ (l < 99 → ∃ r, r < q ∧ r ≤ p + 1 ∧ p ≤ r + 1 ∧ S.1 86 (10 * (f + 1) + r) = nI l) ∧ ∀ r, r < q → r ≤ p + 1 → p ≤ r + 1 → ∀ k, k ≤ 200 → S.1 86 (10 * (f + 1) + r) = nI k → l ≤ k
theorem zs_iv.z {S : zs_S} {f p : Nat} : zs_iv S f p 0 99 := ⟨Nat.le_refl _, fun z => absurd z (by omega), fun r z => absurd z (by omega)⟩
theorem zs_iv.n {S : zs_S} {f p q l : Nat} (h : zs_iv S f p q l) (hn : 2 ≤ zs_ap p q) : zs_iv S f p (q + 1) l := by
  have hn2 : ¬ (q ≤ p + 1 ∧ p ≤ q + 1) := fun z => absurd (zs_ap2.mpr z) (by omega)
  refine ⟨h.1, fun z => ?_, fun r h1 h2 h3 => h.2.2 r (by
    rcases Nat.lt_or_ge r q with y | y
    · exact y
    · exact absurd (show q ≤ p + 1 ∧ p ≤ q + 1 by omega) hn2) h2 h3⟩
  obtain ⟨r, g1, g2⟩ := h.2.1 z
  exact ⟨r, by omega, g2⟩
theorem zs_iv.k {S : zs_S} {f p q l c : Nat} (h : zs_iv S f p q l) (hc : S.1 86 (10 * (f + 1) + q) = nI c) (hc2 : c ≤ 200) (hl : l ≤ c) : zs_iv S f p (q + 1) l := by
  refine ⟨h.1, fun z => ?_, fun r h1 h2 h3 k hk he => ?_⟩
  · obtain ⟨r, g1, g2⟩ := h.2.1 z
    exact ⟨r, by omega, g2⟩
  · rcases Nat.lt_or_ge r q with y | y
    · exact h.2.2 r y h2 h3 k hk he
    · obtain rfl : r = q := by omega
      have := (nI_eq (by omega) (by omega)).mp (hc.symm.trans he)
      omega
theorem zs_iv.t {S : zs_S} {f p q l c : Nat} (h : zs_iv S f p q l) (ha : zs_ap p q < 2) (hc : S.1 86 (10 * (f + 1) + q) = nI c) (hc2 : c ≤ 200) (hl : c < l) : zs_iv S f p (q + 1) c := by
  have ha2 := zs_ap2.mp ha
  have h99 := h.1
  refine ⟨by omega, fun z => ⟨q, by omega, ha2.1, ha2.2, hc⟩, fun r h1 h2 h3 k hk he => ?_⟩
  rcases Nat.lt_or_ge r q with y | y
  · have := h.2.2 r y h2 h3 k hk he
    omega
  · obtain rfl : r = q := by omega
    have := (nI_eq (by omega) (by omega)).mp (hc.symm.trans he)
    omega
theorem zs_ownE {S : zs_S} {g p d : Nat} (h : S.1 81 (3 + g) = nI d) (hd : d < 2 ^ 31) (hp : p < 2 ^ 31) : zs_own S g p = if d = p then 0 else 1 := by
  unfold zs_own
  by_cases z : d = p
  · rw [if_pos z, if_pos (by rw [h, z])]
  · rw [if_neg z, if_neg (fun y => z ((nI_eq hd hp).mp (h.symm.trans y)))]
theorem z_apart (S : zs_S) (p q : Nat) (hp : p < 100) (hq : q < 100) : zs_Ci MX12_apart [.int (nI p), .int (nI q)] S (fun x S2 => x = nI (zs_ap p q) ∧ S = S2) := by
  refine zs_C.of (by decide) (Nat.le_of_ble_eq_true rfl) ?_
  show zs_P MX12_apart 0 [(0, .int (nI p)), (1, .int (nI q))] [] S _
  refine g_iload_n dX12_apart_0 rfl rfl ?_
  refine g_iload_n dX12_apart_1 rfl rfl ?_
  refine g_ic_geN 11 dX12_apart_2 (by decide) (by omega) (by omega) (fun h1 => ?_) (fun h1 => ?_)
  · refine g_iload_n dX12_apart_11 rfl rfl ?_
    refine g_iload_n dX12_apart_12 rfl rfl ?_
    refine g_isubN dX12_apart_13 (by omega) ?_
    refine g_iret dX12_apart_14 rfl rfl ?_
    exact ⟨_, rfl, by unfold zs_ap; rw [if_neg (by omega)], rfl⟩
  · refine g_iload_n dX12_apart_5 rfl rfl ?_
    refine g_iload_n dX12_apart_6 rfl rfl ?_
    refine g_isubN dX12_apart_7 (by omega) ?_
    refine g_goto 14 dX12_apart_8 (by decide) ?_
    refine g_iret dX12_apart_14 rfl rfl ?_
    exact ⟨_, rfl, by unfold zs_ap; rw [if_pos (by omega)], rfl⟩
set_option maxRecDepth 100000 in
theorem z_co_q (S : zs_S) (n a f p : Nat) (hn : n ≤ 12) (hf : f + 1 < n) (hp : p < 10) (hT : ∀ r, r < 10 → zs_ent S n a (f + 1) r) (Q : Option Value → zs_S → Prop) (hk : ∀ l, zs_iv S f p 10 l → zs_P MX12_costOf 129 [(6, .int (nI 10)), (5, .int (nI l)), (4, .int (nI p)), (3, .int (nI f)), (2, .int (nI n)), (0, .ref 80), (1, .int (nI a))] [] S Q) : ∀ (d q : Nat), q + d = 10 → ∀ l, zs_iv S f p q l → zs_P MX12_costOf 58 [(6, .int (nI q)), (5, .int (nI l)), (4, .int (nI p)), (3, .int (nI f)), (2, .int (nI n)), (0, .ref 80), (1, .int (nI a))] [] S Q := by
  intro d
  induction d with
  | zero =>
    intro q hq l hi
    have hl := hi.1
    obtain rfl : q = 10 := by omega
    refine g_iload dX12_costOf_58 rfl ?_
    refine g_bipush (v := (nI 10)) dX12_costOf_60 rfl ?_
    refine g_ic_geN 129 dX12_costOf_62 (by decide) (by omega) (by omega) (fun _ => ?_) (fun z => absurd z (by omega))
    exact hk l hi
  | succ d ih =>
    intro q hq l hi
    have hl := hi.1
    refine g_iload dX12_costOf_58 rfl ?_
    refine g_bipush (v := (nI 10)) dX12_costOf_60 rfl ?_
    refine g_ic_geN 129 dX12_costOf_62 (by decide) (by omega) (by omega) (fun z => absurd z (by omega)) (fun _ => ?_)
    refine g_iload_n dX12_costOf_65 rfl rfl ?_
    refine g_iload_n dX12_costOf_66 rfl rfl ?_
    refine g_iconst (v := (nI 1)) dX12_costOf_67 rfl ?_
    refine g_isubN dX12_costOf_68 (by omega) ?_
    refine g_ic_geN 129 dX12_costOf_69 (by decide) (by omega) (by omega) (fun z => absurd z (by omega)) (fun _ => ?_)
    refine g_iload dX12_costOf_72 rfl ?_
    refine g_iload dX12_costOf_74 rfl ?_
    refine g_callS [.int (nI p), .int (nI q)] [] (z_apart S p q (by omega) (by omega)) dX12_costOf_76 kk_X12_costOf_X12_apart ml_RX12_46 swX12_apart rfl rfl (Nat.le_of_ble_eq_true rfl) ?_
    rintro _ _ ⟨_, rfl, rfl, rfl⟩
    have bA1 := zs_apb (p := p) (q := q) (by omega) (by omega)
    refine g_iconst (v := (nI 2)) dX12_costOf_79 rfl ?_
    refine g_ic_geN 119 dX12_costOf_80 (by decide) (by omega) (by omega) (fun h2 => ?_) (fun h2 => ?_)
    · refine g_iload dX12_costOf_119 rfl ?_
      refine g_istore (lv' := [(5, .int (nI l)), (6, .int (nI q)), (4, .int (nI p)), (3, .int (nI f)), (2, .int (nI n)), (0, .ref 80), (1, .int (nI a))]) dX12_costOf_121 (by decide) rfl ?_
      refine g_iinc (v := (nI (q + 1))) (lv' := [(6, .int (nI (q + 1))), (5, .int (nI l)), (4, .int (nI p)), (3, .int (nI f)), (2, .int (nI n)), (0, .ref 80), (1, .int (nI a))]) dX12_costOf_123 rfl (nI_1 q) (by decide) rfl ?_
      refine g_goto 58 dX12_costOf_126 (by decide) ?_
      exact (ih (q + 1) (by omega) l (hi.n h2)).lv (zs_mc 0 rfl (zs_mc 1 rfl (zs_mc 2 rfl (zs_mc 3 rfl (zs_mc 4 rfl (zs_mc 5 rfl (zs_mc 6 rfl zs_mn)))))))
    · obtain ⟨kq, hkq1, hkq, -, -⟩ := hT q (by omega)
      refine g_aload_n dX12_costOf_83 rfl rfl ?_
      refine g_getR 15 (86) (C := RX12) (T := TX12) (N := 19) dX12_costOf_84 (by decide) rfl rfl (by decide) rfl fl_RX12_30 ?_
      refine g_bipush (v := (nI 10)) dX12_costOf_87 rfl ?_
      refine g_iload_n dX12_costOf_89 rfl rfl ?_
      refine g_iconst (v := (nI 1)) dX12_costOf_90 rfl ?_
      refine g_iaddN dX12_costOf_91 ?_
      refine g_imulN dX12_costOf_92 ?_
      refine g_iload dX12_costOf_93 rfl ?_
      refine g_iaddN dX12_costOf_95 ?_
      refine g_ialdN (v := (nI kq)) dX12_costOf_96 (by decide) rfl (by omega) (by decide) hkq ?_
      refine g_iload dX12_costOf_97 rfl ?_
      refine g_ic_geN 119 dX12_costOf_99 (by decide) (by omega) (by omega) (fun h3 => ?_) (fun h3 => ?_)
      · refine g_iload dX12_costOf_119 rfl ?_
        refine g_istore (lv' := [(5, .int (nI l)), (6, .int (nI q)), (4, .int (nI p)), (3, .int (nI f)), (2, .int (nI n)), (0, .ref 80), (1, .int (nI a))]) dX12_costOf_121 (by decide) rfl ?_
        refine g_iinc (v := (nI (q + 1))) (lv' := [(6, .int (nI (q + 1))), (5, .int (nI l)), (4, .int (nI p)), (3, .int (nI f)), (2, .int (nI n)), (0, .ref 80), (1, .int (nI a))]) dX12_costOf_123 rfl (nI_1 q) (by decide) rfl ?_
        refine g_goto 58 dX12_costOf_126 (by decide) ?_
        exact (ih (q + 1) (by omega) l (hi.k hkq hkq1 (by omega))).lv (zs_mc 0 rfl (zs_mc 1 rfl (zs_mc 2 rfl (zs_mc 3 rfl (zs_mc 4 rfl (zs_mc 5 rfl (zs_mc 6 rfl zs_mn)))))))
      · refine g_aload_n dX12_costOf_102 rfl rfl ?_
        refine g_getR 15 (86) (C := RX12) (T := TX12) (N := 19) dX12_costOf_103 (by decide) rfl rfl (by decide) rfl fl_RX12_30 ?_
        refine g_bipush (v := (nI 10)) dX12_costOf_106 rfl ?_
        refine g_iload_n dX12_costOf_108 rfl rfl ?_
        refine g_iconst (v := (nI 1)) dX12_costOf_109 rfl ?_
        refine g_iaddN dX12_costOf_110 ?_
        refine g_imulN dX12_costOf_111 ?_
        refine g_iload dX12_costOf_112 rfl ?_
        refine g_iaddN dX12_costOf_114 ?_
        refine g_ialdN (v := (nI kq)) dX12_costOf_115 (by decide) rfl (by omega) (by decide) hkq ?_
        refine g_goto 121 dX12_costOf_116 (by decide) ?_
        refine g_istore (lv' := [(5, .int (nI kq)), (6, .int (nI q)), (4, .int (nI p)), (3, .int (nI f)), (2, .int (nI n)), (0, .ref 80), (1, .int (nI a))]) dX12_costOf_121 (by decide) rfl ?_
        refine g_iinc (v := (nI (q + 1))) (lv' := [(6, .int (nI (q + 1))), (5, .int (nI kq)), (4, .int (nI p)), (3, .int (nI f)), (2, .int (nI n)), (0, .ref 80), (1, .int (nI a))]) dX12_costOf_123 rfl (nI_1 q) (by decide) rfl ?_
        refine g_goto 58 dX12_costOf_126 (by decide) ?_
        exact (ih (q + 1) (by omega) kq (hi.t h2 hkq hkq1 (by omega))).lv (zs_mc 0 rfl (zs_mc 1 rfl (zs_mc 2 rfl (zs_mc 3 rfl (zs_mc 4 rfl (zs_mc 5 rfl (zs_mc 6 rfl zs_mn)))))))
theorem zs_rowN {S0 S : zs_S} {n a f p l o : Nat} (hp : p < 10) (hf : f < n) (ho : o = zs_own S f p) (hl : l ≤ 99) (h1 : p = a → l + o ≤ n - f) (h2 : f + 1 < n → l < 99 → ∃ q, q < 10 ∧ q ≤ p + 1 ∧ p ≤ q + 1 ∧ S.1 86 (10 * (f + 1) + q) = nI l) : zs_ent (zs_up S.1 86 (10 * f + p) (nI (l + o)), S.2) n a f p := by
  have o1 := zs_own1 (S := S) (g := f) (p := p)
  have eo : zs_own (zs_up S.1 86 (10 * f + p) (nI (l + o)), S.2) f p = zs_own S f p := by
    unfold zs_own
    rw [show ((zs_up S.1 86 (10 * f + p) (nI (l + o)), S.2) : zs_S).1 81 (3 + f) = S.1 81 (3 + f) from zs_up_m (by omega)]
  refine ⟨l + o, by omega, zs_up_q, h1, fun h3 => ?_⟩
  rw [eo, ← ho]
  refine ⟨by omega, fun h4 => ?_⟩
  obtain ⟨q, g1, g2, g3, g4⟩ := h2 h3 (by omega)
  exact ⟨q, g1, g2, g3, (zs_up_m (by omega)).trans (by rw [g4]; congr 1; omega)⟩
def zs_tab (S : zs_S) (n a f p : Nat) : Prop := (∀ g, f < g → g < n → ∀ r, r < 10 → zs_ent S n a g r) ∧ ∀ r, r < p → zs_ent S n a f r
theorem zs_tab.up {S : zs_S} {n a f p : Nat} {v : Int32} (h : zs_tab S n a f p) (hp : p < 10) (hv : zs_ent (zs_up S.1 86 (10 * f + p) v, S.2) n a f p) : zs_tab (zs_up S.1 86 (10 * f + p) v, S.2) n a f (p + 1) := ⟨fun g h1 h2 r hr => (h.1 g h1 h2 r hr).up hr hp (by omega) (by omega), fun r hr => by
  rcases Nat.lt_or_ge r p with y | y
  · exact (h.2 r y).up (by omega) hp (by omega) (Nat.le_refl _)
  · obtain rfl : r = p := by omega
    exact hv⟩
theorem zs_inM {v : Int32} {n : Nat} (h : (-1 : Int64) ≤ v.toInt64 ∧ v.toInt64 ≤ (nI n - nI 1).toInt64) (h1 : 1 ≤ n) (hn : n ≤ 12) : v = -1 ∨ ∃ k, k < n ∧ v = nI k := by
  rw [pk_sub h1] at h
  have a1 := Int64.le_iff_toInt_le.mp h.1
  have a2 := Int64.le_iff_toInt_le.mp h.2
  rw [Int32.toInt_toInt64] at a1 a2
  rw [Int32.toInt_toInt64, nI_toInt (by omega)] at a2
  rw [show (-1 : Int64).toInt = -1 from rfl] at a1
  by_cases z : v.toInt = -1
  · exact Or.inl (Int32.toInt_inj.mp (by rw [z]; rfl))
  · refine Or.inr ⟨v.toInt.toNat, by omega, Int32.toInt_inj.mp ?_⟩
    rw [nI_toInt (by omega)]
    omega
set_option maxRecDepth 100000 in
theorem z_sm_q (S : zs_S) (n a f g p t r : Nat) (l c : Int32) (hn : n ≤ 12) (hg : g < n) (hp : p < 10) (ht : t ≤ 200) (hT : ∀ r, r < 10 → zs_ent S n a g r) (hr0 : r < 10) (hr1 : r ≤ p + 1) (hr2 : p ≤ r + 1) (hr3 : S.1 86 (10 * g + r) = nI t) (Q : Option Value → zs_S → Prop) (hk : ∀ q, q < 10 → S.1 86 (10 * g + q) = nI t → zs_P MX12_smooth 176 [(7, .int (nI q)), (6, .int (nI t)), (5, .int (nI g)), (4, .int (nI p)), (3, .int l), (2, .int c), (0, .ref 80), (1, .int (nI f))] [] S Q) : ∀ (d q : Nat), q + d = r → q ≤ r → zs_P MX12_smooth 141 [(7, .int (nI q)), (6, .int (nI t)), (5, .int (nI g)), (4, .int (nI p)), (3, .int l), (2, .int c), (0, .ref 80), (1, .int (nI f))] [] S Q := by
  intro d
  induction d with
  | zero =>
    intro q hd hq
    obtain ⟨kq, hkq1, hkq, -, -⟩ := hT q (by omega)
    have ih : ∀ q', q' + 0 = r → q' ≤ r → q' = r := fun q' z _ => z
    refine g_iload dX12_smooth_141 rfl ?_
    refine g_iload dX12_smooth_143 rfl ?_
    refine g_callS [.int (nI p), .int (nI q)] [] (z_apart S p q (by omega) (by omega)) dX12_smooth_145 kk_X12_smooth_X12_apart ml_RX12_46 swX12_apart rfl rfl (Nat.le_of_ble_eq_true rfl) ?_
    rintro _ _ ⟨_, rfl, rfl, rfl⟩
    have bA1 := zs_apb (p := p) (q := q) (by omega) (by omega)
    refine g_iconst (v := (nI 1)) dX12_smooth_148 rfl ?_
    refine g_ic_gtN 170 dX12_smooth_149 (by decide) (by omega) (by omega) (fun h2 => ?_) (fun h2 => ?_)
    · refine g_iinc (v := (nI (q + 1))) (lv' := [(7, .int (nI (q + 1))), (6, .int (nI t)), (5, .int (nI g)), (4, .int (nI p)), (3, .int l), (2, .int c), (0, .ref 80), (1, .int (nI f))]) dX12_smooth_170 rfl (nI_1 q) (by decide) rfl ?_
      refine g_goto 141 dX12_smooth_173 (by decide) ?_
      have hlt : q < r := (by
        rcases Nat.eq_or_lt_of_le hq with y | y
        · subst y; exact absurd h2 (by have := zs_ap2.mpr ⟨hr1, hr2⟩; omega)
        · exact y)
      exact absurd hlt (by omega)
    · refine g_aload_n dX12_smooth_152 rfl rfl ?_
      refine g_getR 15 (86) (C := RX12) (T := TX12) (N := 19) dX12_smooth_153 (by decide) rfl rfl (by decide) rfl fl_RX12_30 ?_
      refine g_bipush (v := (nI 10)) dX12_smooth_156 rfl ?_
      refine g_iload dX12_smooth_158 rfl ?_
      refine g_imulN dX12_smooth_160 ?_
      refine g_iload dX12_smooth_161 rfl ?_
      refine g_iaddN dX12_smooth_163 ?_
      refine g_ialdN (v := (nI kq)) dX12_smooth_164 (by decide) rfl (by omega) (by decide) hkq ?_
      refine g_iload dX12_smooth_165 rfl ?_
      refine g_ic_eqN 176 dX12_smooth_167 (by decide) (by omega) (by omega) (fun h3 => ?_) (fun h3 => ?_)
      · exact hk q (by omega) (hkq.trans (by rw [h3]))
      · refine g_iinc (v := (nI (q + 1))) (lv' := [(7, .int (nI (q + 1))), (6, .int (nI t)), (5, .int (nI g)), (4, .int (nI p)), (3, .int l), (2, .int c), (0, .ref 80), (1, .int (nI f))]) dX12_smooth_170 rfl (nI_1 q) (by decide) rfl ?_
        refine g_goto 141 dX12_smooth_173 (by decide) ?_
        have hlt : q < r := (by
          rcases Nat.eq_or_lt_of_le hq with y | y
          · subst y; exact absurd ((nI_eq (by omega) (by omega)).mp (hkq.symm.trans hr3)) h3
          · exact y)
        exact absurd hlt (by omega)
  | succ d ih =>
    intro q hd hq
    obtain ⟨kq, hkq1, hkq, -, -⟩ := hT q (by omega)
    refine g_iload dX12_smooth_141 rfl ?_
    refine g_iload dX12_smooth_143 rfl ?_
    refine g_callS [.int (nI p), .int (nI q)] [] (z_apart S p q (by omega) (by omega)) dX12_smooth_145 kk_X12_smooth_X12_apart ml_RX12_46 swX12_apart rfl rfl (Nat.le_of_ble_eq_true rfl) ?_
    rintro _ _ ⟨_, rfl, rfl, rfl⟩
    have bA1 := zs_apb (p := p) (q := q) (by omega) (by omega)
    refine g_iconst (v := (nI 1)) dX12_smooth_148 rfl ?_
    refine g_ic_gtN 170 dX12_smooth_149 (by decide) (by omega) (by omega) (fun h2 => ?_) (fun h2 => ?_)
    · refine g_iinc (v := (nI (q + 1))) (lv' := [(7, .int (nI (q + 1))), (6, .int (nI t)), (5, .int (nI g)), (4, .int (nI p)), (3, .int l), (2, .int c), (0, .ref 80), (1, .int (nI f))]) dX12_smooth_170 rfl (nI_1 q) (by decide) rfl ?_
      refine g_goto 141 dX12_smooth_173 (by decide) ?_
      have hlt : q < r := (by
        rcases Nat.eq_or_lt_of_le hq with y | y
        · subst y; exact absurd h2 (by have := zs_ap2.mpr ⟨hr1, hr2⟩; omega)
        · exact y)
      exact ih (q + 1) (by omega) (by omega)
    · refine g_aload_n dX12_smooth_152 rfl rfl ?_
      refine g_getR 15 (86) (C := RX12) (T := TX12) (N := 19) dX12_smooth_153 (by decide) rfl rfl (by decide) rfl fl_RX12_30 ?_
      refine g_bipush (v := (nI 10)) dX12_smooth_156 rfl ?_
      refine g_iload dX12_smooth_158 rfl ?_
      refine g_imulN dX12_smooth_160 ?_
      refine g_iload dX12_smooth_161 rfl ?_
      refine g_iaddN dX12_smooth_163 ?_
      refine g_ialdN (v := (nI kq)) dX12_smooth_164 (by decide) rfl (by omega) (by decide) hkq ?_
      refine g_iload dX12_smooth_165 rfl ?_
      refine g_ic_eqN 176 dX12_smooth_167 (by decide) (by omega) (by omega) (fun h3 => ?_) (fun h3 => ?_)
      · exact hk q (by omega) (hkq.trans (by rw [h3]))
      · refine g_iinc (v := (nI (q + 1))) (lv' := [(7, .int (nI (q + 1))), (6, .int (nI t)), (5, .int (nI g)), (4, .int (nI p)), (3, .int l), (2, .int c), (0, .ref 80), (1, .int (nI f))]) dX12_smooth_170 rfl (nI_1 q) (by decide) rfl ?_
        refine g_goto 141 dX12_smooth_173 (by decide) ?_
        have hlt : q < r := (by
          rcases Nat.eq_or_lt_of_le hq with y | y
          · subst y; exact absurd ((nI_eq (by omega) (by omega)).mp (hkq.symm.trans hr3)) h3
          · exact y)
        exact ih (q + 1) (by omega) (by omega)
