/-! SMOOTH: the table of costs -/
def zs_ap (p q : Nat) : Nat := if p < q then q - p else p - q
theorem zs_ap2 {p q : Nat} : zs_ap p q < 2 ↔ (q ≤ p + 1 ∧ p ≤ q + 1) := by
  unfold zs_ap
  split <;> omega
theorem zs_aps {a : Nat} : zs_ap a a < 2 := zs_ap2.mpr (by omega)
theorem zs_apb {p q : Nat} (hp : p < 100) (hq : q < 100) : zs_ap p q < 100 := by
  unfold zs_ap
  split <;> omega
noncomputable def zs_own (S : zs_S) (g p : Nat) : Nat := @ite Nat (S.1 81 (3 + g) = nI p) (Classical.propDecidable _) 0 1
theorem zs_own1 {S : zs_S} {g p : Nat} : zs_own S g p ≤ 1 := by
  unfold zs_own
  split <;> omega
def zs_ent (S : zs_S) (n a g p : Nat) : Prop := ∃ k, k ≤ 200 ∧ S.1 86 (10 * g + p) = nI k ∧ (p = a → k ≤ n - g) ∧ (g + 1 < n → zs_own S g p ≤ k ∧ (k - zs_own S g p < 99 → ∃ q, q < 10 ∧ q ≤ p + 1 ∧ p ≤ q + 1 ∧ S.1 86 (10 * (g + 1) + q) = nI (k - zs_own S g p)))
theorem zs_ent.up {S : zs_S} {n a g p f r : Nat} {v : Int32} (h : zs_ent S n a g p) (hp : p < 10) (hr : r < 10) (h1 : ¬ (g = f ∧ p = r)) (h2 : f ≤ g) : zs_ent (zs_up S.1 86 (10 * f + r) v, S.2) n a g p := by
  obtain ⟨k, h3, h4, h5, h6⟩ := h
  have eo : zs_own (zs_up S.1 86 (10 * f + r) v, S.2) g p = zs_own S g p := by
    unfold zs_own
    rw [show ((zs_up S.1 86 (10 * f + r) v, S.2) : zs_S).1 81 (3 + g) = S.1 81 (3 + g) from zs_up_m (by omega)]
  refine ⟨k, h3, (zs_up_m (by omega)).trans h4, h5, fun h7 => ?_⟩
  rw [eo]
  obtain ⟨h8, h9⟩ := h6 h7
  refine ⟨h8, fun h10 => ?_⟩
  obtain ⟨q, g1, g2, g3, g4⟩ := h9 h10
  exact ⟨q, g1, g2, g3, (zs_up_m (by omega)).trans g4⟩
def zs_iv (S : zs_S) (f p q l : Nat) : Prop := l ≤ 99 ∧ (l < 99 → ∃ r, r < q ∧ r ≤ p + 1 ∧ p ≤ r + 1 ∧ S.1 86 (10 * (f + 1) + r) = nI l) ∧ ∀ r, r < q → r ≤ p + 1 → p ≤ r + 1 → ∀ k, k ≤ 200 → S.1 86 (10 * (f + 1) + r) = nI k → l ≤ k
theorem zs_iv.z {S : zs_S} {f p : Nat} : zs_iv S f p 0 99 := ⟨Nat.le_refl _, fun z => absurd z (by omega), fun r z => absurd z (by omega)⟩
theorem zs_iv.n {S : zs_S} {f p q l : Nat} (h : zs_iv S f p q l) (hn : 2 ≤ zs_ap p q) : zs_iv S f p (q + 1) l := by
  have hn2 : ¬ (q ≤ p + 1 ∧ p ≤ q + 1) := fun z => absurd (zs_ap2.mpr z) (by omega)
  refine ⟨h.1, fun z => ?_, fun r h1 h2 h3 => h.2.2 r (by
    rcases Nat.lt_or_ge r q with y | y
    · exact y
    · exact absurd (show q ≤ p + 1 ∧ p ≤ q + 1 by omega) hn2) h2 h3⟩
  obtain ⟨r, g1, g2⟩ := h.2.1 z
  exact ⟨r, by omega, g2⟩
theorem zs_iv.k {S : zs_S} {f p q l c : Nat} (h : zs_iv S f p q l) (hc : S.1 86 (10 * (f + 1) + q) = nI c) (hc2 : c ≤ 200) (hl : l ≤ c) : zs_iv S f p (q + 1) l := by
  refine ⟨h.1, fun z => ?_, fun r h1 h2 h3 k hk he => ?_⟩
  · obtain ⟨r, g1, g2⟩ := h.2.1 z
    exact ⟨r, by omega, g2⟩
  · rcases Nat.lt_or_ge r q with y | y
    · exact h.2.2 r y h2 h3 k hk he
    · obtain rfl : r = q := by omega
      have := (nI_eq (by omega) (by omega)).mp (hc.symm.trans he)
      omega
theorem zs_iv.t {S : zs_S} {f p q l c : Nat} (h : zs_iv S f p q l) (ha : zs_ap p q < 2) (hc : S.1 86 (10 * (f + 1) + q) = nI c) (hc2 : c ≤ 200) (hl : c < l) : zs_iv S f p (q + 1) c := by
  have ha2 := zs_ap2.mp ha
  have h99 := h.1
  refine ⟨by omega, fun z => ⟨q, by omega, ha2.1, ha2.2, hc⟩, fun r h1 h2 h3 k hk he => ?_⟩
  rcases Nat.lt_or_ge r q with y | y
  · have := h.2.2 r y h2 h3 k hk he
    omega
  · obtain rfl : r = q := by omega
    have := (nI_eq (by omega) (by omega)).mp (hc.symm.trans he)
    omega
def zs_o6 (S0 S : zs_S) : Prop := zs_J S ∧ zs_fm S0 S ∧ ∀ b, b ≠ 86 → S.1 b = S0.1 b
theorem zs_o6.rf {S : zs_S} (hJ : zs_J S) : zs_o6 S S := ⟨hJ, zs_fm.rf, fun _ _ => rfl⟩
theorem zs_o6.up {S0 S : zs_S} {j : Nat} {v : Int32} (h : zs_o6 S0 S) : zs_o6 S0 (zs_up S.1 86 j v, S.2) := ⟨h.1.up (zs_okN rfl (by decide) (by decide)), h.2.1.tr (zs_fm.up rfl), fun b hb => (zs_uo (f := S.1) (a := 86) (j := j) (v := v) (b := b) hb).trans (h.2.2 b hb)⟩
theorem zs_o6.tr {S S1 S2 : zs_S} (h : zs_o6 S S1) (k : zs_o6 S1 S2) : zs_o6 S S2 := ⟨k.1, h.2.1.tr k.2.1, fun b hb => (k.2.2 b hb).trans (h.2.2 b hb)⟩
theorem zs_ownE {S : zs_S} {g p d : Nat} (h : S.1 81 (3 + g) = nI d) (hd : d < 2 ^ 31) (hp : p < 2 ^ 31) : zs_own S g p = if d = p then 0 else 1 := by
  unfold zs_own
  by_cases z : d = p
  · rw [if_pos z, if_pos (by rw [h, z])]
  · rw [if_neg z, if_neg (fun y => z ((nI_eq hd hp).mp (h.symm.trans y)))]
theorem z_apart (S : zs_S) (p q : Nat) (hp : p < 100) (hq : q < 100) : zs_Ci MX12_apart [.int (nI p), .int (nI q)] S (fun x S2 => x = nI (zs_ap p q) ∧ S = S2) := by
  refine zs_C.of (by decide) (Nat.le_of_ble_eq_true rfl) ?_
  show zs_P MX12_apart 0 [(0, .int (nI p)), (1, .int (nI q))] [] S _
  refine g_iload_n dX12_apart_0 rfl rfl ?_
  refine g_iload_n dX12_apart_1 rfl rfl ?_
  refine g_ic_geN 11 dX12_apart_2 (by decide) (by omega) (by omega) (fun h1 => ?_) (fun h1 => ?_)
  · refine g_iload_n dX12_apart_11 rfl rfl ?_
    refine g_iload_n dX12_apart_12 rfl rfl ?_
    refine g_isubN dX12_apart_13 (by omega) ?_
    refine g_iret dX12_apart_14 rfl rfl ?_
    exact ⟨_, rfl, by unfold zs_ap; rw [if_neg (by omega)], rfl⟩
  · refine g_iload_n dX12_apart_5 rfl rfl ?_
    refine g_iload_n dX12_apart_6 rfl rfl ?_
    refine g_isubN dX12_apart_7 (by omega) ?_
    refine g_goto 14 dX12_apart_8 (by decide) ?_
    refine g_iret dX12_apart_14 rfl rfl ?_
    exact ⟨_, rfl, by unfold zs_ap; rw [if_pos (by omega)], rfl⟩
set_option maxRecDepth 100000 in
theorem z_co_q (S : zs_S) (n a f p : Nat) (hn : n ≤ 12) (hf : f + 1 < n) (hp : p < 10) (hT : ∀ r, r < 10 → zs_ent S n a (f + 1) r) (Q : Option Value → zs_S → Prop) (hk : ∀ l, zs_iv S f p 10 l → zs_P MX12_costOf 129 [(6, .int (nI 10)), (5, .int (nI l)), (4, .int (nI p)), (3, .int (nI f)), (2, .int (nI n)), (0, .ref 80), (1, .int (nI a))] [] S Q) : ∀ (d q : Nat), q + d = 10 → ∀ l, zs_iv S f p q l → zs_P MX12_costOf 58 [(6, .int (nI q)), (5, .int (nI l)), (4, .int (nI p)), (3, .int (nI f)), (2, .int (nI n)), (0, .ref 80), (1, .int (nI a))] [] S Q := by
  intro d
  induction d with
  | zero =>
    intro q hq l hi
    have hl := hi.1
    obtain rfl : q = 10 := by omega
    refine g_iload dX12_costOf_58 rfl ?_
    refine g_bipush (v := (nI 10)) dX12_costOf_60 rfl ?_
    refine g_ic_geN 129 dX12_costOf_62 (by decide) (by omega) (by omega) (fun _ => ?_) (fun z => absurd z (by omega))
    exact hk l hi
  | succ d ih =>
    intro q hq l hi
    have hl := hi.1
    refine g_iload dX12_costOf_58 rfl ?_
    refine g_bipush (v := (nI 10)) dX12_costOf_60 rfl ?_
    refine g_ic_geN 129 dX12_costOf_62 (by decide) (by omega) (by omega) (fun z => absurd z (by omega)) (fun _ => ?_)
    refine g_iload_n dX12_costOf_65 rfl rfl ?_
    refine g_iload_n dX12_costOf_66 rfl rfl ?_
    refine g_iconst (v := (nI 1)) dX12_costOf_67 rfl ?_
    refine g_isubN dX12_costOf_68 (by omega) ?_
    refine g_ic_geN 129 dX12_costOf_69 (by decide) (by omega) (by omega) (fun z => absurd z (by omega)) (fun _ => ?_)
    refine g_iload dX12_costOf_72 rfl ?_
    refine g_iload dX12_costOf_74 rfl ?_
    refine g_callS [.int (nI p), .int (nI q)] [] (z_apart S p q (by omega) (by omega)) dX12_costOf_76 kk_X12_costOf_X12_apart ml_RX12_46 swX12_apart rfl rfl (Nat.le_of_ble_eq_true rfl) ?_
    rintro _ _ ⟨_, rfl, rfl, rfl⟩
    have bA1 := zs_apb (p := p) (q := q) (by omega) (by omega)
    refine g_iconst (v := (nI 2)) dX12_costOf_79 rfl ?_
    refine g_ic_geN 119 dX12_costOf_80 (by decide) (by omega) (by omega) (fun h2 => ?_) (fun h2 => ?_)
    · refine g_iload dX12_costOf_119 rfl ?_
      refine g_istore (lv' := [(5, .int (nI l)), (6, .int (nI q)), (4, .int (nI p)), (3, .int (nI f)), (2, .int (nI n)), (0, .ref 80), (1, .int (nI a))]) dX12_costOf_121 (by decide) rfl ?_
      refine g_iinc (v := (nI (q + 1))) (lv' := [(6, .int (nI (q + 1))), (5, .int (nI l)), (4, .int (nI p)), (3, .int (nI f)), (2, .int (nI n)), (0, .ref 80), (1, .int (nI a))]) dX12_costOf_123 rfl (nI_1 q) (by decide) rfl ?_
      refine g_goto 58 dX12_costOf_126 (by decide) ?_
      exact (ih (q + 1) (by omega) l (hi.n h2)).lv (zs_mc 0 rfl (zs_mc 1 rfl (zs_mc 2 rfl (zs_mc 3 rfl (zs_mc 4 rfl (zs_mc 5 rfl (zs_mc 6 rfl zs_mn)))))))
    · obtain ⟨kq, hkq1, hkq, -, -⟩ := hT q (by omega)
      refine g_aload_n dX12_costOf_83 rfl rfl ?_
      refine g_getR 15 (86) (C := RX12) (T := TX12) (N := 19) dX12_costOf_84 (by decide) rfl rfl (by decide) rfl fl_RX12_30 ?_
      refine g_bipush (v := (nI 10)) dX12_costOf_87 rfl ?_
      refine g_iload_n dX12_costOf_89 rfl rfl ?_
      refine g_iconst (v := (nI 1)) dX12_costOf_90 rfl ?_
      refine g_iaddN dX12_costOf_91 ?_
      refine g_imulN dX12_costOf_92 ?_
      refine g_iload dX12_costOf_93 rfl ?_
      refine g_iaddN dX12_costOf_95 ?_
      refine g_ialdN (v := (nI kq)) dX12_costOf_96 (by decide) rfl (by omega) (by decide) hkq ?_
      refine g_iload dX12_costOf_97 rfl ?_
      refine g_ic_geN 119 dX12_costOf_99 (by decide) (by omega) (by omega) (fun h3 => ?_) (fun h3 => ?_)
      · refine g_iload dX12_costOf_119 rfl ?_
        refine g_istore (lv' := [(5, .int (nI l)), (6, .int (nI q)), (4, .int (nI p)), (3, .int (nI f)), (2, .int (nI n)), (0, .ref 80), (1, .int (nI a))]) dX12_costOf_121 (by decide) rfl ?_
        refine g_iinc (v := (nI (q + 1))) (lv' := [(6, .int (nI (q + 1))), (5, .int (nI l)), (4, .int (nI p)), (3, .int (nI f)), (2, .int (nI n)), (0, .ref 80), (1, .int (nI a))]) dX12_costOf_123 rfl (nI_1 q) (by decide) rfl ?_
        refine g_goto 58 dX12_costOf_126 (by decide) ?_
        exact (ih (q + 1) (by omega) l (hi.k hkq hkq1 (by omega))).lv (zs_mc 0 rfl (zs_mc 1 rfl (zs_mc 2 rfl (zs_mc 3 rfl (zs_mc 4 rfl (zs_mc 5 rfl (zs_mc 6 rfl zs_mn)))))))
      · refine g_aload_n dX12_costOf_102 rfl rfl ?_
        refine g_getR 15 (86) (C := RX12) (T := TX12) (N := 19) dX12_costOf_103 (by decide) rfl rfl (by decide) rfl fl_RX12_30 ?_
        refine g_bipush (v := (nI 10)) dX12_costOf_106 rfl ?_
        refine g_iload_n dX12_costOf_108 rfl rfl ?_
        refine g_iconst (v := (nI 1)) dX12_costOf_109 rfl ?_
        refine g_iaddN dX12_costOf_110 ?_
        refine g_imulN dX12_costOf_111 ?_
        refine g_iload dX12_costOf_112 rfl ?_
        refine g_iaddN dX12_costOf_114 ?_
        refine g_ialdN (v := (nI kq)) dX12_costOf_115 (by decide) rfl (by omega) (by decide) hkq ?_
        refine g_goto 121 dX12_costOf_116 (by decide) ?_
        refine g_istore (lv' := [(5, .int (nI kq)), (6, .int (nI q)), (4, .int (nI p)), (3, .int (nI f)), (2, .int (nI n)), (0, .ref 80), (1, .int (nI a))]) dX12_costOf_121 (by decide) rfl ?_
        refine g_iinc (v := (nI (q + 1))) (lv' := [(6, .int (nI (q + 1))), (5, .int (nI kq)), (4, .int (nI p)), (3, .int (nI f)), (2, .int (nI n)), (0, .ref 80), (1, .int (nI a))]) dX12_costOf_123 rfl (nI_1 q) (by decide) rfl ?_
        refine g_goto 58 dX12_costOf_126 (by decide) ?_
        exact (ih (q + 1) (by omega) kq (hi.t h2 hkq hkq1 (by omega))).lv (zs_mc 0 rfl (zs_mc 1 rfl (zs_mc 2 rfl (zs_mc 3 rfl (zs_mc 4 rfl (zs_mc 5 rfl (zs_mc 6 rfl zs_mn)))))))
theorem zs_rowN {S0 S : zs_S} {n a f p l o : Nat} (hp : p < 10) (hf : f < n) (ho : o = zs_own S f p) (hl : l ≤ 99) (h1 : p = a → l + o ≤ n - f) (h2 : f + 1 < n → l < 99 → ∃ q, q < 10 ∧ q ≤ p + 1 ∧ p ≤ q + 1 ∧ S.1 86 (10 * (f + 1) + q) = nI l) : zs_ent (zs_up S.1 86 (10 * f + p) (nI (l + o)), S.2) n a f p := by
  have o1 := zs_own1 (S := S) (g := f) (p := p)
  have eo : zs_own (zs_up S.1 86 (10 * f + p) (nI (l + o)), S.2) f p = zs_own S f p := by
    unfold zs_own
    rw [show ((zs_up S.1 86 (10 * f + p) (nI (l + o)), S.2) : zs_S).1 81 (3 + f) = S.1 81 (3 + f) from zs_up_m (by omega)]
  refine ⟨l + o, by omega, zs_up_q, h1, fun h3 => ?_⟩
  rw [eo, ← ho]
  refine ⟨by omega, fun h4 => ?_⟩
  obtain ⟨q, g1, g2, g3, g4⟩ := h2 h3 (by omega)
  exact ⟨q, g1, g2, g3, (zs_up_m (by omega)).trans (by rw [g4]; congr 1; omega)⟩
def zs_tab (S : zs_S) (n a f p : Nat) : Prop := (∀ g, f < g → g < n → ∀ r, r < 10 → zs_ent S n a g r) ∧ ∀ r, r < p → zs_ent S n a f r
theorem zs_tab.up {S : zs_S} {n a f p : Nat} {v : Int32} (h : zs_tab S n a f p) (hp : p < 10) (hv : zs_ent (zs_up S.1 86 (10 * f + p) v, S.2) n a f p) : zs_tab (zs_up S.1 86 (10 * f + p) v, S.2) n a f (p + 1) := ⟨fun g h1 h2 r hr => (h.1 g h1 h2 r hr).up hr hp (by omega) (by omega), fun r hr => by
  rcases Nat.lt_or_ge r p with y | y
  · exact (h.2 r y).up (by omega) hp (by omega) (Nat.le_refl _)
  · obtain rfl : r = p := by omega
    exact hv⟩
set_option maxRecDepth 100000 in
theorem z_co_p (S0 : zs_S) (n a f : Nat) (hn : n ≤ 12) (hf : f < n) (ha : a < 10) (Q : Option Value → zs_S → Prop) (hk : ∀ S, zs_o6 S0 S → zs_tab S n a f 10 → zs_P MX12_costOf 168 [(4, .int (nI 10)), (3, .int (nI f)), (2, .int (nI n)), (0, .ref 80), (1, .int (nI a))] [] S Q) : ∀ (d p : Nat), p + d = 10 → ∀ S, zs_o6 S0 S → zs_tab S n a f p → zs_P MX12_costOf 18 [(4, .int (nI p)), (3, .int (nI f)), (2, .int (nI n)), (0, .ref 80), (1, .int (nI a))] [] S Q := by
  intro d
  induction d with
  | zero =>
    intro p hp S hS hS2
    obtain rfl : p = 10 := by omega
    refine g_iload dX12_costOf_18 rfl ?_
    refine g_bipush (v := (nI 10)) dX12_costOf_20 rfl ?_
    refine g_ic_geN 168 dX12_costOf_22 (by decide) (by omega) (by omega) (fun _ => ?_) (fun z => absurd z (by omega))
    exact hk S hS hS2
  | succ d ih =>
    intro p hp S hS hS2
    have hp9 : p < 10 := by omega
    obtain ⟨dv, -, hdv1, hdv⟩ := hS.1.1 81 (3 + f) 0 9 (rg_81_3_14 _ (by omega) (by omega))
    refine g_iload dX12_costOf_18 rfl ?_
    refine g_bipush (v := (nI 10)) dX12_costOf_20 rfl ?_
    refine g_ic_geN 168 dX12_costOf_22 (by decide) (by omega) (by omega) (fun z => absurd z (by omega)) (fun _ => ?_)
    refine g_iload_n dX12_costOf_25 rfl rfl ?_
    refine g_iload_n dX12_costOf_26 rfl rfl ?_
    refine g_iconst (v := (nI 1)) dX12_costOf_27 rfl ?_
    refine g_isubN dX12_costOf_28 (by omega) ?_
    refine g_ic_neN 51 dX12_costOf_29 (by decide) (by omega) (by omega) (fun h1 => ?_) (fun h1 => ?_)
    · refine g_bipush (v := (nI 99)) dX12_costOf_51 rfl ?_
      refine g_istore (lv' := [(5, .int (nI 99)), (4, .int (nI p)), (3, .int (nI f)), (2, .int (nI n)), (0, .ref 80), (1, .int (nI a))]) dX12_costOf_53 (by decide) rfl ?_
      refine g_iconst (v := (nI 0)) dX12_costOf_55 rfl ?_
      refine g_istore (lv' := [(6, .int (nI 0)), (5, .int (nI 99)), (4, .int (nI p)), (3, .int (nI f)), (2, .int (nI n)), (0, .ref 80), (1, .int (nI a))]) dX12_costOf_56 (by decide) rfl ?_
      refine (z_co_q S n a f p hn (by omega) hp9 (fun r hr => hS2.1 (f + 1) (by omega) (by omega) r hr) _ (fun l hi => ?_) 10 0 (by omega) 99 zs_iv.z).lv (zs_mc 0 rfl (zs_mc 1 rfl (zs_mc 2 rfl (zs_mc 3 rfl (zs_mc 4 rfl (zs_mc 5 rfl (zs_mc 6 rfl zs_mn)))))))
      have hl := hi.1
      refine g_aload_n dX12_costOf_129 rfl rfl ?_
      refine g_getR 15 (86) (C := RX12) (T := TX12) (N := 19) dX12_costOf_130 (by decide) rfl rfl (by decide) rfl fl_RX12_30 ?_
      refine g_bipush (v := (nI 10)) dX12_costOf_133 rfl ?_
      refine g_iload_n dX12_costOf_135 rfl rfl ?_
      refine g_imulN dX12_costOf_136 ?_
      refine g_iload dX12_costOf_137 rfl ?_
      refine g_iaddN dX12_costOf_139 ?_
      refine g_iload dX12_costOf_140 rfl ?_
      refine g_aload_n dX12_costOf_142 rfl rfl ?_
      refine g_getR 0 (81) (C := RX12) (T := TX12) (N := 19) dX12_costOf_143 (by decide) rfl rfl (by decide) rfl fl_RX12_7 ?_
      refine g_iconst (v := (nI 3)) dX12_costOf_146 rfl ?_
      refine g_iload_n dX12_costOf_147 rfl rfl ?_
      refine g_iaddN dX12_costOf_148 ?_
      refine g_ialdN (v := (nI dv)) dX12_costOf_149 (by decide) rfl (by omega) (by decide) hdv ?_
      refine g_iload dX12_costOf_150 rfl ?_
      refine g_ic_neN 159 dX12_costOf_152 (by decide) (by omega) (by omega) (fun h51 => ?_) (fun h51 => ?_)
      · refine g_iconst (v := (nI 1)) dX12_costOf_159 rfl ?_
        refine g_iaddN dX12_costOf_160 ?_
        refine g_iastN dX12_costOf_161 (by decide) rfl (by omega) (by decide) ?_
        refine g_iinc (v := (nI (p + 1))) (lv' := [(4, .int (nI (p + 1))), (6, .int (nI 10)), (5, .int (nI l)), (3, .int (nI f)), (2, .int (nI n)), (0, .ref 80), (1, .int (nI a))]) dX12_costOf_162 rfl (nI_1 p) (by decide) rfl ?_
        refine g_goto 18 dX12_costOf_165 (by decide) ?_
        exact (ih (p + 1) (by omega) _ hS.up (hS2.up hp9 (zs_rowN (S0 := S) (l := l) (o := 1) hp9 hf (by rw [zs_ownE hdv (by omega) (by omega), if_neg (by omega)]) (by omega) (fun z => by subst z; obtain ⟨ka, g1, g2, g3, -⟩ := hS2.1 (f + 1) (by omega) (by omega) p hp9; have := hi.2.2 p (by omega) (by omega) (by omega) ka g1 g2; have := g3 rfl; omega) (fun _ y => by obtain ⟨r, g1, g2, g3, g4⟩ := hi.2.1 y; exact ⟨r, by omega, g2, g3, g4⟩)))).lv (zs_mc 0 rfl (zs_mc 3 rfl (zs_mc 4 rfl (zs_mc 5 rfl (zs_mc 6 rfl zs_mn)))))
      · refine g_iconst (v := (nI 0)) dX12_costOf_155 rfl ?_
        refine g_goto 160 dX12_costOf_156 (by decide) ?_
        refine g_iaddN dX12_costOf_160 ?_
        refine g_iastN dX12_costOf_161 (by decide) rfl (by omega) (by decide) ?_
        refine g_iinc (v := (nI (p + 1))) (lv' := [(4, .int (nI (p + 1))), (6, .int (nI 10)), (5, .int (nI l)), (3, .int (nI f)), (2, .int (nI n)), (0, .ref 80), (1, .int (nI a))]) dX12_costOf_162 rfl (nI_1 p) (by decide) rfl ?_
        refine g_goto 18 dX12_costOf_165 (by decide) ?_
        exact (ih (p + 1) (by omega) _ hS.up (hS2.up hp9 (zs_rowN (S0 := S) (l := l) (o := 0) hp9 hf (by rw [zs_ownE hdv (by omega) (by omega), if_pos (by omega)]) (by omega) (fun z => by subst z; obtain ⟨ka, g1, g2, g3, -⟩ := hS2.1 (f + 1) (by omega) (by omega) p hp9; have := hi.2.2 p (by omega) (by omega) (by omega) ka g1 g2; have := g3 rfl; omega) (fun _ y => by obtain ⟨r, g1, g2, g3, g4⟩ := hi.2.1 y; exact ⟨r, by omega, g2, g3, g4⟩)))).lv (zs_mc 0 rfl (zs_mc 3 rfl (zs_mc 4 rfl (zs_mc 5 rfl (zs_mc 6 rfl zs_mn)))))
    · refine g_iload dX12_costOf_32 rfl ?_
      refine g_iload_n dX12_costOf_34 rfl rfl ?_
      refine g_callS [.int (nI p), .int (nI a)] [] (z_apart S p a (by omega) (by omega)) dX12_costOf_35 kk_X12_costOf_X12_apart ml_RX12_46 swX12_apart rfl rfl (Nat.le_of_ble_eq_true rfl) ?_
      rintro _ _ ⟨_, rfl, rfl, rfl⟩
      have bA2 := zs_apb (p := p) (q := a) (by omega) (by omega)
      refine g_iconst (v := (nI 2)) dX12_costOf_38 rfl ?_
      refine g_ic_geN 46 dX12_costOf_39 (by decide) (by omega) (by omega) (fun h3 => ?_) (fun h3 => ?_)
      · refine g_bipush (v := (nI 99)) dX12_costOf_46 rfl ?_
        refine g_goto 53 dX12_costOf_48 (by decide) ?_
        refine g_istore (lv' := [(5, .int (nI 99)), (4, .int (nI p)), (3, .int (nI f)), (2, .int (nI n)), (0, .ref 80), (1, .int (nI a))]) dX12_costOf_53 (by decide) rfl ?_
        refine g_iconst (v := (nI 0)) dX12_costOf_55 rfl ?_
        refine g_istore (lv' := [(6, .int (nI 0)), (5, .int (nI 99)), (4, .int (nI p)), (3, .int (nI f)), (2, .int (nI n)), (0, .ref 80), (1, .int (nI a))]) dX12_costOf_56 (by decide) rfl ?_
        refine g_iload dX12_costOf_58 rfl ?_
        refine g_bipush (v := (nI 10)) dX12_costOf_60 rfl ?_
        refine g_ic_geN 129 dX12_costOf_62 (by decide) (by omega) (by omega) (fun z => absurd z (by omega)) (fun _ => ?_)
        refine g_iload_n dX12_costOf_65 rfl rfl ?_
        refine g_iload_n dX12_costOf_66 rfl rfl ?_
        refine g_iconst (v := (nI 1)) dX12_costOf_67 rfl ?_
        refine g_isubN dX12_costOf_68 (by omega) ?_
        refine g_ic_geN 129 dX12_costOf_69 (by decide) (by omega) (by omega) (fun _ => ?_) (fun z => absurd z (by omega))
        refine g_aload_n dX12_costOf_129 rfl rfl ?_
        refine g_getR 15 (86) (C := RX12) (T := TX12) (N := 19) dX12_costOf_130 (by decide) rfl rfl (by decide) rfl fl_RX12_30 ?_
        refine g_bipush (v := (nI 10)) dX12_costOf_133 rfl ?_
        refine g_iload_n dX12_costOf_135 rfl rfl ?_
        refine g_imulN dX12_costOf_136 ?_
        refine g_iload dX12_costOf_137 rfl ?_
        refine g_iaddN dX12_costOf_139 ?_
        refine g_iload dX12_costOf_140 rfl ?_
        refine g_aload_n dX12_costOf_142 rfl rfl ?_
        refine g_getR 0 (81) (C := RX12) (T := TX12) (N := 19) dX12_costOf_143 (by decide) rfl rfl (by decide) rfl fl_RX12_7 ?_
        refine g_iconst (v := (nI 3)) dX12_costOf_146 rfl ?_
        refine g_iload_n dX12_costOf_147 rfl rfl ?_
        refine g_iaddN dX12_costOf_148 ?_
        refine g_ialdN (v := (nI dv)) dX12_costOf_149 (by decide) rfl (by omega) (by decide) hdv ?_
        refine g_iload dX12_costOf_150 rfl ?_
        refine g_ic_neN 159 dX12_costOf_152 (by decide) (by omega) (by omega) (fun h4 => ?_) (fun h4 => ?_)
        · refine g_iconst (v := (nI 1)) dX12_costOf_159 rfl ?_
          refine g_iaddN dX12_costOf_160 ?_
          refine g_iastN dX12_costOf_161 (by decide) rfl (by omega) (by decide) ?_
          refine g_iinc (v := (nI (p + 1))) (lv' := [(4, .int (nI (p + 1))), (6, .int (nI 0)), (5, .int (nI 99)), (3, .int (nI f)), (2, .int (nI n)), (0, .ref 80), (1, .int (nI a))]) dX12_costOf_162 rfl (nI_1 p) (by decide) rfl ?_
          refine g_goto 18 dX12_costOf_165 (by decide) ?_
          exact (ih (p + 1) (by omega) _ hS.up (hS2.up hp9 (zs_rowN (S0 := S) (l := 99) (o := 1) hp9 hf (by rw [zs_ownE hdv (by omega) (by omega), if_neg (by omega)]) (by omega) (fun z => absurd h3 (by rw [z]; exact Nat.not_le.mpr zs_aps)) (fun z => absurd z (by omega))))).lv (zs_mc 0 rfl (zs_mc 3 rfl (zs_mc 4 rfl (zs_mc 5 rfl (zs_mc 6 rfl zs_mn)))))
        · refine g_iconst (v := (nI 0)) dX12_costOf_155 rfl ?_
          refine g_goto 160 dX12_costOf_156 (by decide) ?_
          refine g_iaddN dX12_costOf_160 ?_
          refine g_iastN dX12_costOf_161 (by decide) rfl (by omega) (by decide) ?_
          refine g_iinc (v := (nI (p + 1))) (lv' := [(4, .int (nI (p + 1))), (6, .int (nI 0)), (5, .int (nI 99)), (3, .int (nI f)), (2, .int (nI n)), (0, .ref 80), (1, .int (nI a))]) dX12_costOf_162 rfl (nI_1 p) (by decide) rfl ?_
          refine g_goto 18 dX12_costOf_165 (by decide) ?_
          exact (ih (p + 1) (by omega) _ hS.up (hS2.up hp9 (zs_rowN (S0 := S) (l := 99) (o := 0) hp9 hf (by rw [zs_ownE hdv (by omega) (by omega), if_pos (by omega)]) (by omega) (fun z => absurd h3 (by rw [z]; exact Nat.not_le.mpr zs_aps)) (fun z => absurd z (by omega))))).lv (zs_mc 0 rfl (zs_mc 3 rfl (zs_mc 4 rfl (zs_mc 5 rfl (zs_mc 6 rfl zs_mn)))))
      · refine g_iconst (v := (nI 0)) dX12_costOf_42 rfl ?_
        refine g_goto 53 dX12_costOf_43 (by decide) ?_
        refine g_istore (lv' := [(5, .int (nI 0)), (4, .int (nI p)), (3, .int (nI f)), (2, .int (nI n)), (0, .ref 80), (1, .int (nI a))]) dX12_costOf_53 (by decide) rfl ?_
        refine g_iconst (v := (nI 0)) dX12_costOf_55 rfl ?_
        refine g_istore (lv' := [(6, .int (nI 0)), (5, .int (nI 0)), (4, .int (nI p)), (3, .int (nI f)), (2, .int (nI n)), (0, .ref 80), (1, .int (nI a))]) dX12_costOf_56 (by decide) rfl ?_
        refine g_iload dX12_costOf_58 rfl ?_
        refine g_bipush (v := (nI 10)) dX12_costOf_60 rfl ?_
        refine g_ic_geN 129 dX12_costOf_62 (by decide) (by omega) (by omega) (fun z => absurd z (by omega)) (fun _ => ?_)
        refine g_iload_n dX12_costOf_65 rfl rfl ?_
        refine g_iload_n dX12_costOf_66 rfl rfl ?_
        refine g_iconst (v := (nI 1)) dX12_costOf_67 rfl ?_
        refine g_isubN dX12_costOf_68 (by omega) ?_
        refine g_ic_geN 129 dX12_costOf_69 (by decide) (by omega) (by omega) (fun _ => ?_) (fun z => absurd z (by omega))
        refine g_aload_n dX12_costOf_129 rfl rfl ?_
        refine g_getR 15 (86) (C := RX12) (T := TX12) (N := 19) dX12_costOf_130 (by decide) rfl rfl (by decide) rfl fl_RX12_30 ?_
        refine g_bipush (v := (nI 10)) dX12_costOf_133 rfl ?_
        refine g_iload_n dX12_costOf_135 rfl rfl ?_
        refine g_imulN dX12_costOf_136 ?_
        refine g_iload dX12_costOf_137 rfl ?_
        refine g_iaddN dX12_costOf_139 ?_
        refine g_iload dX12_costOf_140 rfl ?_
        refine g_aload_n dX12_costOf_142 rfl rfl ?_
        refine g_getR 0 (81) (C := RX12) (T := TX12) (N := 19) dX12_costOf_143 (by decide) rfl rfl (by decide) rfl fl_RX12_7 ?_
        refine g_iconst (v := (nI 3)) dX12_costOf_146 rfl ?_
        refine g_iload_n dX12_costOf_147 rfl rfl ?_
        refine g_iaddN dX12_costOf_148 ?_
        refine g_ialdN (v := (nI dv)) dX12_costOf_149 (by decide) rfl (by omega) (by decide) hdv ?_
        refine g_iload dX12_costOf_150 rfl ?_
        refine g_ic_neN 159 dX12_costOf_152 (by decide) (by omega) (by omega) (fun h5 => ?_) (fun h5 => ?_)
        · refine g_iconst (v := (nI 1)) dX12_costOf_159 rfl ?_
          refine g_iaddN dX12_costOf_160 ?_
          refine g_iastN dX12_costOf_161 (by decide) rfl (by omega) (by decide) ?_
          refine g_iinc (v := (nI (p + 1))) (lv' := [(4, .int (nI (p + 1))), (6, .int (nI 0)), (5, .int (nI 0)), (3, .int (nI f)), (2, .int (nI n)), (0, .ref 80), (1, .int (nI a))]) dX12_costOf_162 rfl (nI_1 p) (by decide) rfl ?_
          refine g_goto 18 dX12_costOf_165 (by decide) ?_
          exact (ih (p + 1) (by omega) _ hS.up (hS2.up hp9 (zs_rowN (S0 := S) (l := 0) (o := 1) hp9 hf (by rw [zs_ownE hdv (by omega) (by omega), if_neg (by omega)]) (by omega) (fun _ => by omega) (fun z => absurd z (by omega))))).lv (zs_mc 0 rfl (zs_mc 3 rfl (zs_mc 4 rfl (zs_mc 5 rfl (zs_mc 6 rfl zs_mn)))))
        · refine g_iconst (v := (nI 0)) dX12_costOf_155 rfl ?_
          refine g_goto 160 dX12_costOf_156 (by decide) ?_
          refine g_iaddN dX12_costOf_160 ?_
          refine g_iastN dX12_costOf_161 (by decide) rfl (by omega) (by decide) ?_
          refine g_iinc (v := (nI (p + 1))) (lv' := [(4, .int (nI (p + 1))), (6, .int (nI 0)), (5, .int (nI 0)), (3, .int (nI f)), (2, .int (nI n)), (0, .ref 80), (1, .int (nI a))]) dX12_costOf_162 rfl (nI_1 p) (by decide) rfl ?_
          refine g_goto 18 dX12_costOf_165 (by decide) ?_
          exact (ih (p + 1) (by omega) _ hS.up (hS2.up hp9 (zs_rowN (S0 := S) (l := 0) (o := 0) hp9 hf (by rw [zs_ownE hdv (by omega) (by omega), if_pos (by omega)]) (by omega) (fun _ => by omega) (fun z => absurd z (by omega))))).lv (zs_mc 0 rfl (zs_mc 3 rfl (zs_mc 4 rfl (zs_mc 5 rfl (zs_mc 6 rfl zs_mn)))))
set_option maxRecDepth 100000 in
theorem z_co_e (S0 : zs_S) (n a : Nat) (ha : a < 10) (S : zs_S) (hS : zs_o6 S0 S) (hT : ∀ g, g < n → ∀ r, r < 10 → zs_ent S n a g r) : zs_P MX12_costOf 11 [(3, .int (-1)), (2, .int (nI n)), (0, .ref 80), (1, .int (nI a))] [] S (fun v S2 => ∃ x, v = some (.int x) ∧ zs_o6 S0 S2 ∧ ∀ g, g < n → ∀ r, r < 10 → zs_ent S2 n a g r) := by
  refine g_iload_n dX12_costOf_11 rfl rfl ?_
  refine g_if_lt 174 dX12_costOf_12 (by decide) (fun _ => ?_) (fun z => absurd (by decide) z)
  refine g_aload_n dX12_costOf_174 rfl rfl ?_
  refine g_getR 15 (86) (C := RX12) (T := TX12) (N := 19) dX12_costOf_175 (by decide) rfl rfl (by decide) rfl fl_RX12_30 ?_
  refine g_iload_n dX12_costOf_178 rfl rfl ?_
  refine g_ialdN (v := (S.1 86 a)) dX12_costOf_179 (by decide) rfl (by omega) (by decide) rfl ?_
  refine g_iret dX12_costOf_180 rfl rfl ?_
  exact ⟨_, rfl, hS, hT⟩
set_option maxRecDepth 100000 in
theorem z_co_f (S0 : zs_S) (n a : Nat) (hn : n ≤ 12) (ha : a < 10) : ∀ (f : Nat), f < n → ∀ S, zs_o6 S0 S → (∀ g, f < g → g < n → ∀ r, r < 10 → zs_ent S n a g r) → zs_P MX12_costOf 11 [(3, .int (nI f)), (2, .int (nI n)), (0, .ref 80), (1, .int (nI a))] [] S (fun v S2 => ∃ x, v = some (.int x) ∧ zs_o6 S0 S2 ∧ ∀ g, g < n → ∀ r, r < 10 → zs_ent S2 n a g r) := by
  intro f
  induction f with
  | zero =>
    intro hf S hS hT
    have hT : ∀ g, 0 < g → g < n → ∀ r, r < 10 → zs_ent S n a g r := hT
    refine g_iload_n dX12_costOf_11 rfl rfl ?_
    refine g_if_ltN 174 dX12_costOf_12 (by decide) (by omega) ?_
    refine g_iconst (v := (nI 0)) dX12_costOf_15 rfl ?_
    refine g_istore (lv' := [(4, .int (nI 0)), (3, .int (nI 0)), (2, .int (nI n)), (0, .ref 80), (1, .int (nI a))]) dX12_costOf_16 (by decide) rfl ?_
    refine (z_co_p S0 n a 0 hn hf ha _ (fun S hS hS2 => ?_) 10 0 (by omega) S hS ⟨hT, fun r z => absurd z (by omega)⟩).lv (zs_mc 0 rfl (zs_mc 1 rfl (zs_mc 2 rfl (zs_mc 3 rfl (zs_mc 4 rfl zs_mn)))))
    refine g_iinc (v := -1) (lv' := [(3, .int (-1)), (4, .int (nI 10)), (2, .int (nI n)), (0, .ref 80), (1, .int (nI a))]) dX12_costOf_168 rfl (by decide) (by decide) rfl ?_
    refine g_goto 11 dX12_costOf_171 (by decide) ?_
    exact (z_co_e S0 n a ha S hS (fun g hg r hr => by
      rcases Nat.eq_zero_or_pos g with y | y
      · subst y; exact hS2.2 r hr
      · exact hS2.1 g y hg r hr)).lv (zs_mc 0 rfl (zs_mc 2 rfl (zs_mc 3 rfl (zs_mc 4 rfl zs_mn))))
  | succ f ih =>
    intro hf S hS hT
    refine g_iload_n dX12_costOf_11 rfl rfl ?_
    refine g_if_ltN 174 dX12_costOf_12 (by decide) (by omega) ?_
    refine g_iconst (v := (nI 0)) dX12_costOf_15 rfl ?_
    refine g_istore (lv' := [(4, .int (nI 0)), (3, .int (nI (f + 1))), (2, .int (nI n)), (0, .ref 80), (1, .int (nI a))]) dX12_costOf_16 (by decide) rfl ?_
    refine (z_co_p S0 n a (f + 1) hn hf ha _ (fun S hS hS2 => ?_) 10 0 (by omega) S hS ⟨hT, fun r z => absurd z (by omega)⟩).lv (zs_mc 0 rfl (zs_mc 1 rfl (zs_mc 2 rfl (zs_mc 3 rfl (zs_mc 4 rfl zs_mn)))))
    refine g_iinc (v := nI f) (lv' := [(3, .int (nI f)), (4, .int (nI 10)), (2, .int (nI n)), (0, .ref 80), (1, .int (nI a))]) dX12_costOf_168 rfl (sb_m1 (p := f + 1) (by omega)) (by decide) rfl ?_
    refine g_goto 11 dX12_costOf_171 (by decide) ?_
    exact (ih (by omega) S hS (fun g h1 h2 r hr => by
      rcases Nat.eq_or_lt_of_le (show f + 1 ≤ g by omega) with y | y
      · subst y; exact hS2.2 r hr
      · exact hS2.1 g y h2 r hr)).lv (zs_mc 0 rfl (zs_mc 2 rfl (zs_mc 3 rfl (zs_mc 4 rfl zs_mn))))
set_option maxRecDepth 100000 in
theorem y_costOf (a n : Nat) (ha : a < 10) (hn1 : 1 ≤ n) (hn2 : n ≤ 12) (S : zs_S) (hJ : zs_J S) (hn3 : S.1 82 0 = nI n) : zs_Ci MX12_costOf [.ref 80, .int (nI a)] S (fun x S2 => zs_o6 S S2 ∧ ∀ g, g < n → ∀ r, r < 10 → zs_ent S2 n a g r) := by
  refine zs_C.of (by decide) (Nat.le_of_ble_eq_true rfl) ?_
  show zs_P MX12_costOf 0 [(0, .ref 80), (1, .int (nI a))] [] S _
  refine g_aload_n dX12_costOf_0 rfl rfl ?_
  refine g_getR 1 (82) (C := RX12) (T := TX12) (N := 19) dX12_costOf_1 (by decide) rfl rfl (by decide) rfl fl_RX12_13 ?_
  refine g_iconst (v := (nI 0)) dX12_costOf_4 rfl ?_
  refine g_ialdN (v := (nI n)) dX12_costOf_5 (by decide) rfl (by omega) (by decide) hn3 ?_
  refine g_istore_n (lv' := [(2, .int (nI n)), (0, .ref 80), (1, .int (nI a))]) dX12_costOf_6 rfl (by decide) rfl ?_
  refine g_iload_n dX12_costOf_7 rfl rfl ?_
  refine g_iconst (v := (nI 1)) dX12_costOf_8 rfl ?_
  refine g_isubN dX12_costOf_9 (by omega) ?_
  refine g_istore_n (lv' := [(3, .int (nI (n - 1))), (2, .int (nI n)), (0, .ref 80), (1, .int (nI a))]) dX12_costOf_10 rfl (by decide) rfl ?_
  exact z_co_f S n a hn2 ha (n - 1) (by omega) S (zs_o6.rf hJ) (fun g h1 h2 => absurd h1 (by omega))
theorem zs_inM {v : Int32} {n : Nat} (h : (-1 : Int64) ≤ v.toInt64 ∧ v.toInt64 ≤ (nI n - nI 1).toInt64) (h1 : 1 ≤ n) (hn : n ≤ 12) : v = -1 ∨ ∃ k, k < n ∧ v = nI k := by
  rw [pk_sub h1] at h
  have a1 := Int64.le_iff_toInt_le.mp h.1
  have a2 := Int64.le_iff_toInt_le.mp h.2
  rw [Int32.toInt_toInt64] at a1 a2
  rw [Int32.toInt_toInt64, nI_toInt (by omega)] at a2
  rw [show (-1 : Int64).toInt = -1 from rfl] at a1
  by_cases z : v.toInt = -1
  · exact Or.inl (Int32.toInt_inj.mp (by rw [z]; rfl))
  · refine Or.inr ⟨v.toInt.toNat, by omega, Int32.toInt_inj.mp ?_⟩
    rw [nI_toInt (by omega)]
    omega
set_option maxRecDepth 100000 in
theorem z_sm_q (S : zs_S) (n a f g p t r : Nat) (l c : Int32) (hn : n ≤ 12) (hg : g < n) (hp : p < 10) (ht : t ≤ 200) (hT : ∀ r, r < 10 → zs_ent S n a g r) (hr0 : r < 10) (hr1 : r ≤ p + 1) (hr2 : p ≤ r + 1) (hr3 : S.1 86 (10 * g + r) = nI t) (Q : Option Value → zs_S → Prop) (hk : ∀ q, q < 10 → S.1 86 (10 * g + q) = nI t → zs_P MX12_smooth 176 [(7, .int (nI q)), (6, .int (nI t)), (5, .int (nI g)), (4, .int (nI p)), (3, .int l), (2, .int c), (0, .ref 80), (1, .int (nI f))] [] S Q) : ∀ (d q : Nat), q + d = r → q ≤ r → zs_P MX12_smooth 141 [(7, .int (nI q)), (6, .int (nI t)), (5, .int (nI g)), (4, .int (nI p)), (3, .int l), (2, .int c), (0, .ref 80), (1, .int (nI f))] [] S Q := by
  intro d
  induction d with
  | zero =>
    intro q hd hq
    obtain ⟨kq, hkq1, hkq, -, -⟩ := hT q (by omega)
    have ih : ∀ q', q' + 0 = r → q' ≤ r → q' = r := fun q' z _ => z
    refine g_iload dX12_smooth_141 rfl ?_
    refine g_iload dX12_smooth_143 rfl ?_
    refine g_callS [.int (nI p), .int (nI q)] [] (z_apart S p q (by omega) (by omega)) dX12_smooth_145 kk_X12_smooth_X12_apart ml_RX12_46 swX12_apart rfl rfl (Nat.le_of_ble_eq_true rfl) ?_
    rintro _ _ ⟨_, rfl, rfl, rfl⟩
    have bA1 := zs_apb (p := p) (q := q) (by omega) (by omega)
    refine g_iconst (v := (nI 1)) dX12_smooth_148 rfl ?_
    refine g_ic_gtN 170 dX12_smooth_149 (by decide) (by omega) (by omega) (fun h2 => ?_) (fun h2 => ?_)
    · refine g_iinc (v := (nI (q + 1))) (lv' := [(7, .int (nI (q + 1))), (6, .int (nI t)), (5, .int (nI g)), (4, .int (nI p)), (3, .int l), (2, .int c), (0, .ref 80), (1, .int (nI f))]) dX12_smooth_170 rfl (nI_1 q) (by decide) rfl ?_
      refine g_goto 141 dX12_smooth_173 (by decide) ?_
      have hlt : q < r := (by
        rcases Nat.eq_or_lt_of_le hq with y | y
        · subst y; exact absurd h2 (by have := zs_ap2.mpr ⟨hr1, hr2⟩; omega)
        · exact y)
      exact absurd hlt (by omega)
    · refine g_aload_n dX12_smooth_152 rfl rfl ?_
      refine g_getR 15 (86) (C := RX12) (T := TX12) (N := 19) dX12_smooth_153 (by decide) rfl rfl (by decide) rfl fl_RX12_30 ?_
      refine g_bipush (v := (nI 10)) dX12_smooth_156 rfl ?_
      refine g_iload dX12_smooth_158 rfl ?_
      refine g_imulN dX12_smooth_160 ?_
      refine g_iload dX12_smooth_161 rfl ?_
      refine g_iaddN dX12_smooth_163 ?_
      refine g_ialdN (v := (nI kq)) dX12_smooth_164 (by decide) rfl (by omega) (by decide) hkq ?_
      refine g_iload dX12_smooth_165 rfl ?_
      refine g_ic_eqN 176 dX12_smooth_167 (by decide) (by omega) (by omega) (fun h3 => ?_) (fun h3 => ?_)
      · exact hk q (by omega) (hkq.trans (by rw [h3]))
      · refine g_iinc (v := (nI (q + 1))) (lv' := [(7, .int (nI (q + 1))), (6, .int (nI t)), (5, .int (nI g)), (4, .int (nI p)), (3, .int l), (2, .int c), (0, .ref 80), (1, .int (nI f))]) dX12_smooth_170 rfl (nI_1 q) (by decide) rfl ?_
        refine g_goto 141 dX12_smooth_173 (by decide) ?_
        have hlt : q < r := (by
          rcases Nat.eq_or_lt_of_le hq with y | y
          · subst y; exact absurd ((nI_eq (by omega) (by omega)).mp (hkq.symm.trans hr3)) h3
          · exact y)
        exact absurd hlt (by omega)
  | succ d ih =>
    intro q hd hq
    obtain ⟨kq, hkq1, hkq, -, -⟩ := hT q (by omega)
    refine g_iload dX12_smooth_141 rfl ?_
    refine g_iload dX12_smooth_143 rfl ?_
    refine g_callS [.int (nI p), .int (nI q)] [] (z_apart S p q (by omega) (by omega)) dX12_smooth_145 kk_X12_smooth_X12_apart ml_RX12_46 swX12_apart rfl rfl (Nat.le_of_ble_eq_true rfl) ?_
    rintro _ _ ⟨_, rfl, rfl, rfl⟩
    have bA1 := zs_apb (p := p) (q := q) (by omega) (by omega)
    refine g_iconst (v := (nI 1)) dX12_smooth_148 rfl ?_
    refine g_ic_gtN 170 dX12_smooth_149 (by decide) (by omega) (by omega) (fun h2 => ?_) (fun h2 => ?_)
    · refine g_iinc (v := (nI (q + 1))) (lv' := [(7, .int (nI (q + 1))), (6, .int (nI t)), (5, .int (nI g)), (4, .int (nI p)), (3, .int l), (2, .int c), (0, .ref 80), (1, .int (nI f))]) dX12_smooth_170 rfl (nI_1 q) (by decide) rfl ?_
      refine g_goto 141 dX12_smooth_173 (by decide) ?_
      have hlt : q < r := (by
        rcases Nat.eq_or_lt_of_le hq with y | y
        · subst y; exact absurd h2 (by have := zs_ap2.mpr ⟨hr1, hr2⟩; omega)
        · exact y)
      exact ih (q + 1) (by omega) (by omega)
    · refine g_aload_n dX12_smooth_152 rfl rfl ?_
      refine g_getR 15 (86) (C := RX12) (T := TX12) (N := 19) dX12_smooth_153 (by decide) rfl rfl (by decide) rfl fl_RX12_30 ?_
      refine g_bipush (v := (nI 10)) dX12_smooth_156 rfl ?_
      refine g_iload dX12_smooth_158 rfl ?_
      refine g_imulN dX12_smooth_160 ?_
      refine g_iload dX12_smooth_161 rfl ?_
      refine g_iaddN dX12_smooth_163 ?_
      refine g_ialdN (v := (nI kq)) dX12_smooth_164 (by decide) rfl (by omega) (by decide) hkq ?_
      refine g_iload dX12_smooth_165 rfl ?_
      refine g_ic_eqN 176 dX12_smooth_167 (by decide) (by omega) (by omega) (fun h3 => ?_) (fun h3 => ?_)
      · exact hk q (by omega) (hkq.trans (by rw [h3]))
      · refine g_iinc (v := (nI (q + 1))) (lv' := [(7, .int (nI (q + 1))), (6, .int (nI t)), (5, .int (nI g)), (4, .int (nI p)), (3, .int l), (2, .int c), (0, .ref 80), (1, .int (nI f))]) dX12_smooth_170 rfl (nI_1 q) (by decide) rfl ?_
        refine g_goto 141 dX12_smooth_173 (by decide) ?_
        have hlt : q < r := (by
          rcases Nat.eq_or_lt_of_le hq with y | y
          · subst y; exact absurd ((nI_eq (by omega) (by omega)).mp (hkq.symm.trans hr3)) h3
          · exact y)
        exact ih (q + 1) (by omega) (by omega)
set_option maxRecDepth 100000 in
theorem z_sm_g (S0 S : zs_S) (n a f : Nat) (l c : Int32) (hn : n ≤ 12) (hf : f < n) (hS : zs_o6 S0 S) (hT : ∀ g, g < n → ∀ r, r < 10 → zs_ent S n a g r) : ∀ (d g : Nat), g + d = f + 1 → 1 ≤ g → ∀ p, p < 10 → ∀ k, S.1 86 (10 * (g - 1) + p) = nI k → k ≤ 12 → zs_P MX12_smooth 93 [(5, .int (nI g)), (4, .int (nI p)), (3, .int l), (2, .int c), (0, .ref 80), (1, .int (nI f))] [] S (fun v S2 => zs_Ri v ∧ zs_J S2 ∧ zs_fm S0 S2) := by
  intro d
  induction d with
  | zero =>
    intro g hg h1g p hp k hk1 hk2
    refine g_iload dX12_smooth_93 rfl ?_
    refine g_iload_n dX12_smooth_95 rfl rfl ?_
    refine g_ic_gtN 186 dX12_smooth_96 (by decide) (by omega) (by omega) (fun _ => ?_) (fun z => absurd z (by omega))
    refine g_iload_n dX12_smooth_186 rfl rfl ?_
    refine g_if_geN 194 dX12_smooth_187 (by decide) (by omega) ?_
    refine g_iload dX12_smooth_194 rfl ?_
    refine g_iret dX12_smooth_196 rfl rfl ?_
    exact ⟨⟨_, rfl⟩, hS.1, hS.2.1⟩
  | succ d ih =>
    intro g hg h1g p hp k hk1 hk2
    obtain ⟨dv, -, hdv1, hdv⟩ := hS.1.1 81 (3 + g - 1) 0 9 (rg_81_3_14 _ (by omega) (by omega))
    obtain ⟨k', hk3, hk4, hent⟩ := hT (g - 1) (by omega) p hp
    obtain rfl : k = k' := (nI_eq (by omega) (by omega)).mp (hk1.symm.trans hk4)
    refine g_iload dX12_smooth_93 rfl ?_
    refine g_iload_n dX12_smooth_95 rfl rfl ?_
    refine g_ic_gtN 186 dX12_smooth_96 (by decide) (by omega) (by omega) (fun z => absurd z (by omega)) (fun _ => ?_)
    refine g_aload_n dX12_smooth_99 rfl rfl ?_
    refine g_getR 15 (86) (C := RX12) (T := TX12) (N := 19) dX12_smooth_100 (by decide) rfl rfl (by decide) rfl fl_RX12_30 ?_
    refine g_bipush (v := (nI 10)) dX12_smooth_103 rfl ?_
    refine g_iload dX12_smooth_105 rfl ?_
    refine g_iconst (v := (nI 1)) dX12_smooth_107 rfl ?_
    refine g_isubN dX12_smooth_108 (by omega) ?_
    refine g_imulN dX12_smooth_109 ?_
    refine g_iload dX12_smooth_110 rfl ?_
    refine g_iaddN dX12_smooth_112 ?_
    refine g_ialdN (v := (nI k)) dX12_smooth_113 (by decide) rfl (by omega) (by decide) hk1 ?_
    refine g_aload_n dX12_smooth_114 rfl rfl ?_
    refine g_getR 0 (81) (C := RX12) (T := TX12) (N := 19) dX12_smooth_115 (by decide) rfl rfl (by decide) rfl fl_RX12_7 ?_
    refine g_iconst (v := (nI 3)) dX12_smooth_118 rfl ?_
    refine g_iload dX12_smooth_119 rfl ?_
    refine g_iaddN dX12_smooth_121 ?_
    refine g_iconst (v := (nI 1)) dX12_smooth_122 rfl ?_
    refine g_isubN dX12_smooth_123 (by omega) ?_
    refine g_ialdN (v := (nI dv)) dX12_smooth_124 (by decide) rfl (by omega) (by decide) hdv ?_
    refine g_iload dX12_smooth_125 rfl ?_
    refine g_ic_neN 134 dX12_smooth_127 (by decide) (by omega) (by omega) (fun h1 => ?_) (fun h1 => ?_)
    · refine g_iconst (v := (nI 1)) dX12_smooth_134 rfl ?_
      have hle0 := (hent.2 (by omega)).1
      refine g_isubN dX12_smooth_135 (by have := zs_ownE (S := S) (g := g - 1) (p := p) (d := dv) (by rw [show 3 + (g - 1) = 3 + g - 1 by omega]; exact hdv) (by omega) (by omega); rw [this] at hle0; split at hle0 <;> omega) ?_
      refine g_istore (lv' := [(6, .int (nI (k - 1))), (5, .int (nI g)), (4, .int (nI p)), (3, .int l), (2, .int c), (0, .ref 80), (1, .int (nI f))]) dX12_smooth_136 (by decide) rfl ?_
      refine g_iconst (v := (nI 0)) dX12_smooth_138 rfl ?_
      refine g_istore (lv' := [(7, .int (nI 0)), (6, .int (nI (k - 1))), (5, .int (nI g)), (4, .int (nI p)), (3, .int l), (2, .int c), (0, .ref 80), (1, .int (nI f))]) dX12_smooth_139 (by decide) rfl ?_
      have ho := (by rw [zs_ownE (S := S) (g := g - 1) (p := p) (d := dv) (by rw [show 3 + (g - 1) = 3 + g - 1 by omega]; exact hdv) (by omega) (by omega), if_neg (by omega)] : zs_own S (g - 1) p = 1)
      obtain ⟨hle, hex⟩ := hent.2 (by omega)
      rw [ho] at hle hex
      obtain ⟨r, r1, r2, r3, r4⟩ := hex (by omega)
      rw [show g - 1 + 1 = g by omega] at r4
      refine (z_sm_q S n a f g p (k - 1) r l c hn (by omega) hp (by omega) (fun r hr => hT g (by omega) r hr) r1 r2 r3 r4 _ (fun q hq9 hq8 => ?_) r 0 (by omega) (by omega)).lv (zs_mc 0 rfl (zs_mc 1 rfl (zs_mc 2 rfl (zs_mc 3 rfl (zs_mc 4 rfl (zs_mc 5 rfl (zs_mc 6 rfl (zs_mc 7 rfl zs_mn))))))))
      refine g_iload dX12_smooth_176 rfl ?_
      refine g_istore (lv' := [(4, .int (nI q)), (7, .int (nI q)), (6, .int (nI (k - 1))), (5, .int (nI g)), (3, .int l), (2, .int c), (0, .ref 80), (1, .int (nI f))]) dX12_smooth_178 (by decide) rfl ?_
      refine g_iinc (v := (nI (g + 1))) (lv' := [(5, .int (nI (g + 1))), (4, .int (nI q)), (7, .int (nI q)), (6, .int (nI (k - 1))), (3, .int l), (2, .int c), (0, .ref 80), (1, .int (nI f))]) dX12_smooth_180 rfl (nI_1 g) (by decide) rfl ?_
      refine g_goto 93 dX12_smooth_183 (by decide) ?_
      exact (ih (g + 1) (by omega) (by omega) q hq9 (k - 1) (by rw [show g + 1 - 1 = g by omega]; exact hq8) (by omega)).lv (zs_mc 0 rfl (zs_mc 1 rfl (zs_mc 4 rfl (zs_mc 5 rfl (zs_mc 6 rfl (zs_mc 7 rfl zs_mn))))))
    · refine g_iconst (v := (nI 0)) dX12_smooth_130 rfl ?_
      refine g_goto 135 dX12_smooth_131 (by decide) ?_
      have hle0 := (hent.2 (by omega)).1
      refine g_isubN dX12_smooth_135 (by have := zs_ownE (S := S) (g := g - 1) (p := p) (d := dv) (by rw [show 3 + (g - 1) = 3 + g - 1 by omega]; exact hdv) (by omega) (by omega); rw [this] at hle0; split at hle0 <;> omega) ?_
      refine g_istore (lv' := [(6, .int (nI (k - 0))), (5, .int (nI g)), (4, .int (nI p)), (3, .int l), (2, .int c), (0, .ref 80), (1, .int (nI f))]) dX12_smooth_136 (by decide) rfl ?_
      refine g_iconst (v := (nI 0)) dX12_smooth_138 rfl ?_
      refine g_istore (lv' := [(7, .int (nI 0)), (6, .int (nI (k - 0))), (5, .int (nI g)), (4, .int (nI p)), (3, .int l), (2, .int c), (0, .ref 80), (1, .int (nI f))]) dX12_smooth_139 (by decide) rfl ?_
      have ho := (by rw [zs_ownE (S := S) (g := g - 1) (p := p) (d := dv) (by rw [show 3 + (g - 1) = 3 + g - 1 by omega]; exact hdv) (by omega) (by omega), if_pos (by omega)] : zs_own S (g - 1) p = 0)
      obtain ⟨hle, hex⟩ := hent.2 (by omega)
      rw [ho] at hle hex
      obtain ⟨r, r1, r2, r3, r4⟩ := hex (by omega)
      rw [show g - 1 + 1 = g by omega] at r4
      refine (z_sm_q S n a f g p (k - 0) r l c hn (by omega) hp (by omega) (fun r hr => hT g (by omega) r hr) r1 r2 r3 r4 _ (fun q hq9 hq8 => ?_) r 0 (by omega) (by omega)).lv (zs_mc 0 rfl (zs_mc 1 rfl (zs_mc 2 rfl (zs_mc 3 rfl (zs_mc 4 rfl (zs_mc 5 rfl (zs_mc 6 rfl (zs_mc 7 rfl zs_mn))))))))
      refine g_iload dX12_smooth_176 rfl ?_
      refine g_istore (lv' := [(4, .int (nI q)), (7, .int (nI q)), (6, .int (nI (k - 0))), (5, .int (nI g)), (3, .int l), (2, .int c), (0, .ref 80), (1, .int (nI f))]) dX12_smooth_178 (by decide) rfl ?_
      refine g_iinc (v := (nI (g + 1))) (lv' := [(5, .int (nI (g + 1))), (4, .int (nI q)), (7, .int (nI q)), (6, .int (nI (k - 0))), (3, .int l), (2, .int c), (0, .ref 80), (1, .int (nI f))]) dX12_smooth_180 rfl (nI_1 g) (by decide) rfl ?_
      refine g_goto 93 dX12_smooth_183 (by decide) ?_
      exact (ih (g + 1) (by omega) (by omega) q hq9 (k - 0) (by rw [show g + 1 - 1 = g by omega]; exact hq8) (by omega)).lv (zs_mc 0 rfl (zs_mc 1 rfl (zs_mc 4 rfl (zs_mc 5 rfl (zs_mc 6 rfl (zs_mc 7 rfl zs_mn))))))
set_option maxRecDepth 100000 in
theorem z_sm_l (S0 : zs_S) (n : Nat) (ff : Int32) (hn1 : 1 ≤ n) (hn2 : n ≤ 12) (hn3 : S0.1 82 0 = nI n) (hff : ff = -1 ∨ ∃ k, k < n ∧ ff = nI k) : ∀ (d p : Nat), p + d = 10 → ∀ c, c < 10 → ∀ (l : Int32) S, zs_o6 S0 S → zs_P MX12_smooth 34 [(4, .int (nI p)), (3, .int l), (2, .int (nI c)), (0, .ref 80), (1, .int ff)] [] S (fun v S2 => zs_Ri v ∧ zs_J S2 ∧ zs_fm S0 S2) := by
  intro d
  induction d with
  | zero =>
    intro p hp c hc l S hS
    obtain rfl : p = 10 := by omega
    refine g_iload dX12_smooth_34 rfl ?_
    refine g_bipush (v := (nI 10)) dX12_smooth_36 rfl ?_
    refine g_ic_geN 81 dX12_smooth_38 (by decide) (by omega) (by omega) (fun _ => ?_) (fun z => absurd z (by omega))
    refine g_aload_n dX12_smooth_81 rfl rfl ?_
    refine g_iload_n dX12_smooth_82 rfl rfl ?_
    refine g_callV (T := TX12) (NN := 19) [] (y_costOf c n (by omega) hn1 hn2 S hS.1 ((congrFun (hS.2.2 82 (by decide)) 0).trans hn3)) dX12_smooth_83 kk_X12_smooth_X12_costOf ml_RX12_199 mwX12_costOf ewX12_costOf (by decide) rfl rfl rfl rfl (Nat.le_of_ble_eq_true rfl) ?_
    rintro _ S1 ⟨x2, rfl, oS1, TS1⟩
    refine g_pop dX12_smooth_86 rfl ?_
    refine g_iload_n dX12_smooth_87 rfl rfl ?_
    refine g_istore (lv' := [(4, .int (nI c)), (3, .int l), (2, .int (nI c)), (0, .ref 80), (1, .int ff)]) dX12_smooth_88 (by decide) rfl ?_
    refine g_iconst (v := (nI 1)) dX12_smooth_90 rfl ?_
    refine g_istore (lv' := [(5, .int (nI 1)), (4, .int (nI c)), (3, .int l), (2, .int (nI c)), (0, .ref 80), (1, .int ff)]) dX12_smooth_91 (by decide) rfl ?_
    obtain ⟨k, hk1, hk2, hk3, -⟩ := TS1 0 (by omega) c (by omega)
    have hk4 := hk3 rfl
    rcases hff with rfl | ⟨f, hf, rfl⟩
    · refine g_iload dX12_smooth_93 rfl ?_
      refine g_iload_n dX12_smooth_95 rfl rfl ?_
      refine g_ic_gt 186 dX12_smooth_96 (by decide) (fun _ => ?_) (fun z => absurd (by decide) z)
      refine g_iload_n dX12_smooth_186 rfl rfl ?_
      refine g_if_ge 194 dX12_smooth_187 (by decide) (fun h61 => ?_) (fun h61 => ?_)
      · refine g_iload dX12_smooth_194 rfl ?_
        refine g_iret dX12_smooth_196 rfl rfl ?_
        exact ⟨⟨_, rfl⟩, (hS.tr oS1).1, (hS.tr oS1).2.1⟩
      · refine g_iload_n dX12_smooth_190 rfl rfl ?_
        refine g_goto 196 dX12_smooth_191 (by decide) ?_
        refine g_iret dX12_smooth_196 rfl rfl ?_
        exact ⟨⟨_, rfl⟩, (hS.tr oS1).1, (hS.tr oS1).2.1⟩
    · exact (z_sm_g S0 S1 n c f l (nI c) hn2 hf (hS.tr oS1) TS1 f 1 (by omega) (by omega) c (by omega) k hk2 (by omega)).lv (zs_mc 0 rfl (zs_mc 1 rfl (zs_mc 2 rfl (zs_mc 3 rfl (zs_mc 4 rfl (zs_mc 5 rfl zs_mn))))))
  | succ d ih =>
    intro p hp c hc l S hS
    refine g_iload dX12_smooth_34 rfl ?_
    refine g_bipush (v := (nI 10)) dX12_smooth_36 rfl ?_
    refine g_ic_geN 81 dX12_smooth_38 (by decide) (by omega) (by omega) (fun z => absurd z (by omega)) (fun _ => ?_)
    refine g_aload_n dX12_smooth_41 rfl rfl ?_
    refine g_iload dX12_smooth_42 rfl ?_
    refine g_callV (T := TX12) (NN := 19) [] (y_costOf p n (by omega) hn1 hn2 S hS.1 ((congrFun (hS.2.2 82 (by decide)) 0).trans hn3)) dX12_smooth_44 kk_X12_smooth_X12_costOf ml_RX12_199 mwX12_costOf ewX12_costOf (by decide) rfl rfl rfl rfl (Nat.le_of_ble_eq_true rfl) ?_
    rintro _ S1 ⟨x2, rfl, oS1, TS1⟩
    refine g_istore (lv' := [(5, .int x2), (4, .int (nI p)), (3, .int l), (2, .int (nI c)), (0, .ref 80), (1, .int ff)]) dX12_smooth_47 (by decide) rfl ?_
    refine g_iload dX12_smooth_49 rfl ?_
    refine g_iload_n dX12_smooth_51 rfl rfl ?_
    refine g_ic_ge 60 dX12_smooth_52 (by decide) (fun h3 => ?_) (fun h3 => ?_)
    · refine g_iload_n dX12_smooth_60 rfl rfl ?_
      refine g_istore_n (lv' := [(2, .int (nI c)), (5, .int x2), (4, .int (nI p)), (3, .int l), (0, .ref 80), (1, .int ff)]) dX12_smooth_61 rfl (by decide) rfl ?_
      refine g_iload dX12_smooth_62 rfl ?_
      refine g_iload_n dX12_smooth_64 rfl rfl ?_
      refine g_ic_ge 73 dX12_smooth_65 (by decide) (fun h4 => ?_) (fun h4 => ?_)
      · refine g_iload_n dX12_smooth_73 rfl rfl ?_
        refine g_istore_n (lv' := [(3, .int l), (2, .int (nI c)), (5, .int x2), (4, .int (nI p)), (0, .ref 80), (1, .int ff)]) dX12_smooth_74 rfl (by decide) rfl ?_
        refine g_iinc (v := (nI (p + 1))) (lv' := [(4, .int (nI (p + 1))), (3, .int l), (2, .int (nI c)), (5, .int x2), (0, .ref 80), (1, .int ff)]) dX12_smooth_75 rfl (nI_1 p) (by decide) rfl ?_
        refine g_goto 34 dX12_smooth_78 (by decide) ?_
        exact (ih (p + 1) (by omega) c (by omega) l _ (hS.tr oS1)).lv (zs_mc 0 rfl (zs_mc 1 rfl (zs_mc 2 rfl (zs_mc 4 rfl (zs_mc 5 rfl zs_mn)))))
      · refine g_iload dX12_smooth_68 rfl ?_
        refine g_goto 74 dX12_smooth_70 (by decide) ?_
        refine g_istore_n (lv' := [(3, .int x2), (2, .int (nI c)), (5, .int x2), (4, .int (nI p)), (0, .ref 80), (1, .int ff)]) dX12_smooth_74 rfl (by decide) rfl ?_
        refine g_iinc (v := (nI (p + 1))) (lv' := [(4, .int (nI (p + 1))), (3, .int x2), (2, .int (nI c)), (5, .int x2), (0, .ref 80), (1, .int ff)]) dX12_smooth_75 rfl (nI_1 p) (by decide) rfl ?_
        refine g_goto 34 dX12_smooth_78 (by decide) ?_
        exact (ih (p + 1) (by omega) c (by omega) x2 _ (hS.tr oS1)).lv (zs_mc 0 rfl (zs_mc 1 rfl (zs_mc 2 rfl (zs_mc 4 rfl (zs_mc 5 rfl zs_mn)))))
    · refine g_iload dX12_smooth_55 rfl ?_
      refine g_goto 61 dX12_smooth_57 (by decide) ?_
      refine g_istore_n (lv' := [(2, .int (nI p)), (5, .int x2), (4, .int (nI p)), (3, .int l), (0, .ref 80), (1, .int ff)]) dX12_smooth_61 rfl (by decide) rfl ?_
      refine g_iload dX12_smooth_62 rfl ?_
      refine g_iload_n dX12_smooth_64 rfl rfl ?_
      refine g_ic_ge 73 dX12_smooth_65 (by decide) (fun h5 => ?_) (fun h5 => ?_)
      · refine g_iload_n dX12_smooth_73 rfl rfl ?_
        refine g_istore_n (lv' := [(3, .int l), (2, .int (nI p)), (5, .int x2), (4, .int (nI p)), (0, .ref 80), (1, .int ff)]) dX12_smooth_74 rfl (by decide) rfl ?_
        refine g_iinc (v := (nI (p + 1))) (lv' := [(4, .int (nI (p + 1))), (3, .int l), (2, .int (nI p)), (5, .int x2), (0, .ref 80), (1, .int ff)]) dX12_smooth_75 rfl (nI_1 p) (by decide) rfl ?_
        refine g_goto 34 dX12_smooth_78 (by decide) ?_
        exact (ih (p + 1) (by omega) p (by omega) l _ (hS.tr oS1)).lv (zs_mc 0 rfl (zs_mc 1 rfl (zs_mc 2 rfl (zs_mc 4 rfl (zs_mc 5 rfl zs_mn)))))
      · refine g_iload dX12_smooth_68 rfl ?_
        refine g_goto 74 dX12_smooth_70 (by decide) ?_
        refine g_istore_n (lv' := [(3, .int x2), (2, .int (nI p)), (5, .int x2), (4, .int (nI p)), (0, .ref 80), (1, .int ff)]) dX12_smooth_74 rfl (by decide) rfl ?_
        refine g_iinc (v := (nI (p + 1))) (lv' := [(4, .int (nI (p + 1))), (3, .int x2), (2, .int (nI p)), (5, .int x2), (0, .ref 80), (1, .int ff)]) dX12_smooth_75 rfl (nI_1 p) (by decide) rfl ?_
        refine g_goto 34 dX12_smooth_78 (by decide) ?_
        exact (ih (p + 1) (by omega) p (by omega) x2 _ (hS.tr oS1)).lv (zs_mc 0 rfl (zs_mc 1 rfl (zs_mc 2 rfl (zs_mc 4 rfl (zs_mc 5 rfl zs_mn)))))
set_option maxRecDepth 100000 in
theorem y_X12_smooth (a1 : Int32) : zs_U MX12_smooth [.ref 80, .int a1] zs_Ri := by
  intro S hJ
  obtain ⟨n, hn1, hn2, hn3⟩ := hJ.1 82 0 1 12 rfl
  refine zs_C.of (by decide) (Nat.le_of_ble_eq_true rfl) ?_
  show zs_P MX12_smooth 0 [(0, .ref 80), (1, .int a1)] [] S _
  refine g_iload_n dX12_smooth_0 rfl rfl ?_
  refine g_i2l dX12_smooth_1 rfl ?_
  refine g_ldc2 (v := -1) dX12_smooth_2 cl_RX12_194 ?_
  refine g_aload_n dX12_smooth_5 rfl rfl ?_
  refine g_getR 1 (82) (C := RX12) (T := TX12) (N := 19) dX12_smooth_6 (by decide) rfl rfl (by decide) rfl fl_RX12_13 ?_
  refine g_iconst (v := (nI 0)) dX12_smooth_9 rfl ?_
  refine g_ialdN (v := (nI n)) dX12_smooth_10 (by decide) rfl (by omega) (by decide) hn3 ?_
  refine g_iconst (v := (nI 1)) dX12_smooth_11 rfl ?_
  refine g_isub dX12_smooth_12 ?_
  refine g_i2l dX12_smooth_13 rfl ?_
  refine g_callS [.long (Int32.toInt64 a1), .long (-1), .long (Int32.toInt64 (nI n - nI 1))] [] (z_inL S (Int32.toInt64 a1) (-1) (Int32.toInt64 (nI n - nI 1))) dX12_smooth_14 kk_X12_smooth_X12_in ml_RX12_54 swX12_in rfl rfl (Nat.le_of_ble_eq_true rfl) ?_
  rintro _ _ ⟨_, rfl, rfl, rfl⟩
  refine g_if_ne 25 dX12_smooth_17 (by decide) (fun h1 => ?_) (fun h1 => ?_)
  · have h1 := zs_b1 h1
    refine g_iconst (v := (nI 0)) dX12_smooth_25 rfl ?_
    refine g_istore_n (lv' := [(2, .int (nI 0)), (0, .ref 80), (1, .int a1)]) dX12_smooth_26 rfl (by decide) rfl ?_
    refine g_sipush (v := (nI 999)) dX12_smooth_27 rfl ?_
    refine g_istore_n (lv' := [(3, .int (nI 999)), (2, .int (nI 0)), (0, .ref 80), (1, .int a1)]) dX12_smooth_30 rfl (by decide) rfl ?_
    refine g_iconst (v := (nI 0)) dX12_smooth_31 rfl ?_
    refine g_istore (lv' := [(4, .int (nI 0)), (3, .int (nI 999)), (2, .int (nI 0)), (0, .ref 80), (1, .int a1)]) dX12_smooth_32 (by decide) rfl ?_
    exact (z_sm_l S n a1 hn1 hn2 hn3 (zs_inM h1 hn1 hn2) 10 0 (by omega) 0 (by omega) _ S (zs_o6.rf hJ)).lv (zs_mc 0 rfl (zs_mc 1 rfl (zs_mc 2 rfl (zs_mc 3 rfl (zs_mc 4 rfl zs_mn)))))
  · have h1 := zs_b0 h1
    refine g_aload_n dX12_smooth_20 rfl rfl ?_
    refine g_callV (T := TX12) (NN := 19) [] (y_X12_bad10 S hJ) dX12_smooth_21 kk_X12_smooth_X12_bad10 ml_RX12_196 mwX12_bad10 ewX12_bad10 (by decide) rfl rfl rfl rfl (Nat.le_of_ble_eq_true rfl) ?_
    rintro _ S2 ⟨⟨x3, rfl⟩, jS2, fS2⟩
    refine g_iret dX12_smooth_24 rfl rfl ?_
    exact ⟨⟨_, rfl⟩, jS2, ((zs_fm.rf).tr fS2)⟩
