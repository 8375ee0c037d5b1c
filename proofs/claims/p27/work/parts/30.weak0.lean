/-! THE WEAK JUDGEMENT: from here the method ends, whatever the picture is; what is guarded stays -/
def zs_pr (b i : Nat) : Bool := Nat.ble 80 b || (Nat.beq b 0 && (Nat.beq i 3 || Nat.beq i 4)) || (Nat.beq b 43 && Nat.beq i 1) || Nat.beq b 44
def zs_fr (S S2 : zs_S) : Prop := ∀ b i, zs_pr b i = true → S2.1 b i = S.1 b i ∧ S2.2 b i = S.2 b i
theorem zs_fr.rf {S : zs_S} : zs_fr S S := fun _ _ _ => ⟨rfl, rfl⟩
theorem zs_fr.tr {S S1 S2 : zs_S} (h : zs_fr S S1) (k : zs_fr S1 S2) : zs_fr S S2 := fun b i hb => ⟨(k b i hb).1.trans (h b i hb).1, (k b i hb).2.trans (h b i hb).2⟩
theorem zs_fr.up {S : zs_S} {a j : Nat} {v : Int32} (h : zs_pr a j = false) : zs_fr S (zs_up S.1 a j v, S.2) := fun b i hb => ⟨zs_up_n (fun q => by rw [q.1, q.2, h] at hb; exact absurd hb (by decide)), rfl⟩
theorem zs_fr.upL {S : zs_S} {a j : Nat} {v : Int64} (h : zs_pr a j = false) : zs_fr S (S.1, zs_upL S.2 a j v) := fun b i hb => ⟨rfl, by
  show zs_upL S.2 a j v b i = S.2 b i
  simp only [zs_upL]
  rw [if_neg (fun q => by rw [q.1, q.2, h] at hb; exact absurd hb (by decide))]⟩
def zs_wA (a : Nat) : Prop := a < 80 ∧ a ≠ 0 ∧ (a ≠ 43 ∧ a ≠ 44)
theorem zs_wA.pr {a : Nat} (h : zs_wA a) (i : Nat) : zs_pr a i = false := by
  have e1 : Nat.ble 80 a = false := by rw [Bool.eq_false_iff]; exact fun z => absurd (Nat.le_of_ble_eq_true z) (by have := h.1; omega)
  have e2 : Nat.beq a 0 = false := by rw [Bool.eq_false_iff]; exact fun z => h.2.1 (Nat.eq_of_beq_eq_true z)
  have e3 : Nat.beq a 43 = false := by rw [Bool.eq_false_iff]; exact fun z => h.2.2.1 (Nat.eq_of_beq_eq_true z)
  have e4 : Nat.beq a 44 = false := by rw [Bool.eq_false_iff]; exact fun z => h.2.2.2 (Nat.eq_of_beq_eq_true z)
  unfold zs_pr
  rw [e1, e2, e3, e4]; rfl
theorem zs_fr.arr {S S2 : zs_S} {a : Nat} (h : zs_wA a) (h1 : ∀ b i, b ≠ a → S2.1 b i = S.1 b i) (h2 : S2.2 = S.2) : zs_fr S S2 := fun b i hb => ⟨h1 b i (fun q => by rw [q, h.pr i] at hb; exact absurd hb (by decide)), by rw [h2]⟩
def zs_Ri : Option Value → Prop := fun v => ∃ x, v = some (.int x)
def zs_Rb : Option Value → Prop := fun v => ∃ x, v = some (.int x) ∧ narrow .boolean (.int x) = .int x
def zs_Rl : Option Value → Prop := fun v => ∃ x, v = some (.long x)
def zs_Rv : Option Value → Prop := fun v => v = none
theorem zs_mc {q : Nat × Value} {l lv : List (Nat × Value)} (k : Nat) (h : lv[k]? = some q) (t : ∀ x ∈ l, x ∈ lv) : ∀ x ∈ q :: l, x ∈ lv := List.forall_mem_cons.mpr ⟨List.mem_of_getElem? h, t⟩
theorem zs_mn {lv : List (Nat × Value)} : ∀ x ∈ ([] : List (Nat × Value)), x ∈ lv := fun _ h => absurd h List.not_mem_nil
def zs_mu (x : Int32) : Nat := (2 ^ 31 - x.toInt).toNat
def zs_md (x : Int32) : Nat := (2 ^ 31 + x.toInt).toNat
theorem zs_inc {i : Int32} (h : i.toInt < 2 ^ 31 - 1) : (i + Int32.ofInt 1).toInt = i.toInt + 1 := by
  have h0 := Int32.le_toInt i
  rw [Int32.toInt_add, show (Int32.ofInt 1).toInt = 1 from rfl, Int.bmod_eq_of_le (by omega) (by omega)]
theorem zs_dec {i : Int32} (h : 0 ≤ i.toInt) : (i + Int32.ofInt (-1)).toInt = i.toInt - 1 := by
  have h0 := Int32.toInt_lt i
  rw [Int32.toInt_add, show (Int32.ofInt (-1)).toInt = -1 from rfl, Int.bmod_eq_of_le (by omega) (by omega)]; rfl
theorem zs_muA {i y : Int32} {n : Nat} (h : ¬ y ≤ i) (hn : zs_mu i < n + 1) : zs_mu (i + Int32.ofInt 1) < n := by
  have h1 := Int32.toInt_lt y
  rw [Int32.le_iff_toInt_le] at h
  unfold zs_mu at hn ⊢
  rw [zs_inc (by omega)]
  omega
theorem zs_muB {i : Int32} {k n : Nat} (h : ¬ nI k < i) (hk : k < 2 ^ 31 - 1) (hn : zs_mu i < n + 1) : zs_mu (i + Int32.ofInt 1) < n := by
  rw [Int32.lt_iff_toInt_lt, nI_toInt (by omega)] at h
  unfold zs_mu at hn ⊢
  rw [zs_inc (by omega)]
  omega
theorem zs_mdA {i : Int32} {n : Nat} (h : ¬ i < 0) (hn : zs_md i < n + 1) : zs_md (i + Int32.ofInt (-1)) < n := by
  rw [Int32.lt_iff_toInt_lt, show (0 : Int32).toInt = 0 from rfl] at h
  unfold zs_md at hn ⊢
  rw [zs_dec (by omega)]
  omega
section zs_weak
variable {M : zs_M} {pc : Nat} {lv lv' : List (Nat × Value)} {st : List Value} {R : Option Value → Prop}
end zs_weak
theorem g_ldcw {M : zs_M} {pc : Nat} {lv : List (Nat × Value)} {st : List Value} {S : zs_S} {Q : Option Value → zs_S → Prop} {i : Nat} {v : Int32} (hd : decode M.2.1 pc = .ok (.ldc_w i, 3)) (hw : Cond.constant M.1.cls i v ∈ zs_tbl) (k : zs_P M (pc + 3) lv (.int v :: st) S Q) : zs_P M pc lv (st) S Q := let ⟨r, g, q⟩ := k; ⟨r, fun p l e s m args below meth c E H locs ls B hZ hT hP hS hl => lv_ldcw B.1 B.2.1 B.2.2.2.2.1 (B.2.2.2.2.2.1 _ hw) hd (g p l e s m args below meth c E H locs ls B hZ hT hP hS hl), q⟩
set_option maxRecDepth 100000 in
theorem cl_RX11_290 : Cond.constant RX11 290 (999999) ∈ zs_tbl := zs_iq4 178 rfl rfl
