/-! THE WEAK JUDGEMENT: from here the method ends, whatever the picture is; what is guarded stays -/
def zs_pr (b i : Nat) : Bool := Nat.ble 80 b || (Nat.beq b 0 && (Nat.beq i 3 || Nat.beq i 4)) || (Nat.beq b 43 && Nat.beq i 1) || Nat.beq b 44
def zs_fr (S S2 : zs_S) : Prop := ∀ b i, zs_pr b i = true → S2.1 b i = S.1 b i ∧ S2.2 b i = S.2 b i
theorem zs_fr.rf {S : zs_S} : zs_fr S S := fun _ _ _ => ⟨rfl, rfl⟩
theorem zs_fr.tr {S S1 S2 : zs_S} (h : zs_fr S S1) (k : zs_fr S1 S2) : zs_fr S S2 := fun b i hb => ⟨(k b i hb).1.trans (h b i hb).1, (k b i hb).2.trans (h b i hb).2⟩
theorem zs_fr.up {S : zs_S} {a j : Nat} {v : Int32} (h : zs_pr a j = false) : zs_fr S (zs_up S.1 a j v, S.2) := fun b i hb => ⟨zs_up_n (fun q => by rw [q.1, q.2, h] at hb; exact absurd hb (by decide)), rfl⟩
theorem zs_fr.upL {S : zs_S} {a j : Nat} {v : Int64} (h : zs_pr a j = false) : zs_fr S (S.1, zs_upL S.2 a j v) := fun b i hb => ⟨rfl, by
  show zs_upL S.2 a j v b i = S.2 b i
  simp only [zs_upL]
  rw [if_neg (fun q => by rw [q.1, q.2, h] at hb; exact absurd hb (by decide))]⟩
def zs_wA (a : Nat) : Prop := a < 80 ∧ a ≠ 0 ∧ (a ≠ 43 ∧ a ≠ 44)
theorem zs_wA.pr {a : Nat} (h : zs_wA a) (i : Nat) : zs_pr a i = false := by
  have e1 : Nat.ble 80 a = false := by rw [Bool.eq_false_iff]; exact fun z => absurd (Nat.le_of_ble_eq_true z) (by have := h.1; omega)
  have e2 : Nat.beq a 0 = false := by rw [Bool.eq_false_iff]; exact fun z => h.2.1 (Nat.eq_of_beq_eq_true z)
  have e3 : Nat.beq a 43 = false := by rw [Bool.eq_false_iff]; exact fun z => h.2.2.1 (Nat.eq_of_beq_eq_true z)
  have e4 : Nat.beq a 44 = false := by rw [Bool.eq_false_iff]; exact fun z => h.2.2.2 (Nat.eq_of_beq_eq_true z)
  unfold zs_pr
  rw [e1, e2, e3, e4]; rfl
theorem zs_fr.arr {S S2 : zs_S} {a : Nat} (h : zs_wA a) (h1 : ∀ b i, b ≠ a → S2.1 b i = S.1 b i) (h2 : S2.2 = S.2) : zs_fr S S2 := fun b i hb => ⟨h1 b i (fun q => by rw [q, h.pr i] at hb; exact absurd hb (by decide)), by rw [h2]⟩
def zs_W (M : zs_M) (pc : Nat) (lv : List (Nat × Value)) (st : List Value) (R : Option Value → Prop) : Prop := ∀ S, zs_P M pc lv st S (fun v S2 => R v ∧ zs_fr S S2)
def zs_Dd' (N : zs_M) (args : List Value) (R : Option Value → Prop) : Prop := ∀ S, zs_C N args S (fun v S2 => R v ∧ zs_fr S S2)
def zs_Ri : Option Value → Prop := fun v => ∃ x, v = some (.int x)
def zs_Rb : Option Value → Prop := fun v => ∃ x, v = some (.int x) ∧ narrow .boolean (.int x) = .int x
def zs_Rl : Option Value → Prop := fun v => ∃ x, v = some (.long x)
def zs_Rv : Option Value → Prop := fun v => v = none
theorem zs_Wof {M : zs_M} {args : List Value} {R : Option Value → Prop} (hy : plainName M.1.cls = true) (hlen : (lg_sl args).length ≤ M.2.2.1) (h : zs_W M 0 (lv_args 0 args) [] R) : zs_Dd' M args R := fun S => zs_C.of hy hlen (h S)
theorem zs_WoF {M : zs_M} {args : List Value} {R : Option Value → Prop} (hy : plainFor M.1 = true) (hlen : (lg_sl args).length ≤ M.2.2.1) (h : zs_W M 0 (lv_args 0 args) [] R) : zs_Dd' M args R := fun S => zs_CF hy hlen (h S)
theorem zs_Wfr {M : zs_M} {pc : Nat} {lv : List (Nat × Value)} {st : List Value} {R : Option Value → Prop} {S S' : zs_S} (h : zs_W M pc lv st R) (f : zs_fr S S') : zs_P M pc lv st S' (fun v S2 => R v ∧ zs_fr S S2) := (h S').mono (fun _ _ q => ⟨q.1, f.tr q.2⟩)
theorem zs_Wlv {M : zs_M} {pc : Nat} {lv lv2 : List (Nat × Value)} {st : List Value} {R : Option Value → Prop} (h : zs_W M pc lv2 st R) (hs : ∀ q ∈ lv2, q ∈ lv) : zs_W M pc lv st R := fun S => (h S).lv hs
theorem zs_mc {q : Nat × Value} {l lv : List (Nat × Value)} (k : Nat) (h : lv[k]? = some q) (t : ∀ x ∈ l, x ∈ lv) : ∀ x ∈ q :: l, x ∈ lv := List.forall_mem_cons.mpr ⟨List.mem_of_getElem? h, t⟩
theorem zs_mn {lv : List (Nat × Value)} : ∀ x ∈ ([] : List (Nat × Value)), x ∈ lv := fun _ h => absurd h List.not_mem_nil
def zs_mu (x : Int32) : Nat := (2 ^ 31 - x.toInt).toNat
def zs_md (x : Int32) : Nat := (2 ^ 31 + x.toInt).toNat
theorem zs_inc {i : Int32} (h : i.toInt < 2 ^ 31 - 1) : (i + Int32.ofInt 1).toInt = i.toInt + 1 := by
  have h0 := Int32.le_toInt i
  rw [Int32.toInt_add, show (Int32.ofInt 1).toInt = 1 from rfl, Int.bmod_eq_of_le (by omega) (by omega)]
theorem zs_dec {i : Int32} (h : 0 ≤ i.toInt) : (i + Int32.ofInt (-1)).toInt = i.toInt - 1 := by
  have h0 := Int32.toInt_lt i
  rw [Int32.toInt_add, show (Int32.ofInt (-1)).toInt = -1 from rfl, Int.bmod_eq_of_le (by omega) (by omega)]; rfl
theorem zs_muA {i y : Int32} {n : Nat} (h : ¬ y ≤ i) (hn : zs_mu i < n + 1) : zs_mu (i + Int32.ofInt 1) < n := by
  have h1 := Int32.toInt_lt y
  rw [Int32.le_iff_toInt_le] at h
  unfold zs_mu at hn ⊢
  rw [zs_inc (by omega)]
  omega
theorem zs_muB {i : Int32} {k n : Nat} (h : ¬ nI k < i) (hk : k < 2 ^ 31 - 1) (hn : zs_mu i < n + 1) : zs_mu (i + Int32.ofInt 1) < n := by
  rw [Int32.lt_iff_toInt_lt, nI_toInt (by omega)] at h
  unfold zs_mu at hn ⊢
  rw [zs_inc (by omega)]
  omega
theorem zs_mdA {i : Int32} {n : Nat} (h : ¬ i < 0) (hn : zs_md i < n + 1) : zs_md (i + Int32.ofInt (-1)) < n := by
  rw [Int32.lt_iff_toInt_lt, show (0 : Int32).toInt = 0 from rfl] at h
  unfold zs_md at hn ⊢
  rw [zs_dec (by omega)]
  omega
section zs_weak
variable {M : zs_M} {pc : Nat} {lv lv' : List (Nat × Value)} {st : List Value} {R : Option Value → Prop}
theorem h_iconst {n : Int} {v : Int32} (hd : decode M.2.1 pc = .ok (.iconst n, 1)) (hv : Int32.ofInt n = v) (k : zs_W M (pc + 1) lv (.int v :: st) R) : zs_W M pc lv st R := fun S => g_iconst hd hv (k S)
theorem h_bipush {n : Int} {v : Int32} (hd : decode M.2.1 pc = .ok (.bipush n, 2)) (hv : (Int8.ofInt n).toInt32 = v) (k : zs_W M (pc + 2) lv (.int v :: st) R) : zs_W M pc lv st R := fun S => g_bipush hd hv (k S)
theorem h_sipush {n : Int} {v : Int32} (hd : decode M.2.1 pc = .ok (.sipush n, 3)) (hv : (Int16.ofInt n).toInt32 = v) (k : zs_W M (pc + 3) lv (.int v :: st) R) : zs_W M pc lv st R := fun S => g_sipush hd hv (k S)
theorem h_lconst {n : Fin 2} {v : Int64} (hd : decode M.2.1 pc = .ok (.lconst n, 1)) (hv : Int64.ofNat (n : Nat) = v) (k : zs_W M (pc + 1) lv (.long v :: st) R) : zs_W M pc lv st R := fun S => g_lconst hd hv (k S)
theorem h_ldc {i : Nat} {v : Int32} (hd : decode M.2.1 pc = .ok (.ldc i, 2)) (hw : Cond.constant M.1.cls i v ∈ zs_tbl) (k : zs_W M (pc + 2) lv (.int v :: st) R) : zs_W M pc lv st R := fun S => g_ldc hd hw (k S)
theorem h_ldc2 {i : Nat} {v : Int64} (hd : decode M.2.1 pc = .ok (.ldc2_w i, 3)) (hw : Cond.constantLong M.1.cls i v ∈ zs_tbl) (k : zs_W M (pc + 3) lv (.long v :: st) R) : zs_W M pc lv st R := fun S => g_ldc2 hd hw (k S)
theorem h_iload_n {j : Fin 4} {i : Nat} {x : Int32} (hd : decode M.2.1 pc = .ok (.iload_n j, 1)) (hi : (j : Nat) = i) (hk : zs_lk lv i = some (.int x)) (k : zs_W M (pc + 1) lv (.int x :: st) R) : zs_W M pc lv st R := fun S => g_iload_n hd hi hk (k S)
theorem h_iload {i : Nat} {x : Int32} (hd : decode M.2.1 pc = .ok (.iload i, 2)) (hk : zs_lk lv i = some (.int x)) (k : zs_W M (pc + 2) lv (.int x :: st) R) : zs_W M pc lv st R := fun S => g_iload hd hk (k S)
theorem h_istore_n {j : Fin 4} {i : Nat} {x : Int32} (hd : decode M.2.1 pc = .ok (.istore_n j, 1)) (hi : (j : Nat) = i) (hn : i < M.2.2.1) (he : (i, Value.int x) :: lv.filter (fun q => !(q.1 == i) && !(q.1 + 1 == i && q.2.category == 2)) = lv') (k : zs_W M (pc + 1) lv' st R) : zs_W M pc lv (.int x :: st) R := fun S => g_istore_n hd hi hn he (k S)
theorem h_istore {i : Nat} {x : Int32} (hd : decode M.2.1 pc = .ok (.istore i, 2)) (hn : i < M.2.2.1) (he : (i, Value.int x) :: lv.filter (fun q => !(q.1 == i) && !(q.1 + 1 == i && q.2.category == 2)) = lv') (k : zs_W M (pc + 2) lv' st R) : zs_W M pc lv (.int x :: st) R := fun S => g_istore hd hn he (k S)
theorem h_lload_n {j : Fin 4} {i : Nat} {x : Int64} (hd : decode M.2.1 pc = .ok (.lload_n j, 1)) (hi : (j : Nat) = i) (hk : zs_lk lv i = some (.long x)) (k : zs_W M (pc + 1) lv (.long x :: st) R) : zs_W M pc lv st R := fun S => g_lload_n hd hi hk (k S)
theorem h_lload {i : Nat} {x : Int64} (hd : decode M.2.1 pc = .ok (.lload i, 2)) (hk : zs_lk lv i = some (.long x)) (k : zs_W M (pc + 2) lv (.long x :: st) R) : zs_W M pc lv st R := fun S => g_lload hd hk (k S)
theorem h_lstore_n {j : Fin 4} {i : Nat} {x : Int64} (hd : decode M.2.1 pc = .ok (.lstore_n j, 1)) (hi : (j : Nat) = i) (hn : i + 1 < M.2.2.1) (he : (i, Value.long x) :: lv.filter (fun q => !(q.1 == i) && (!(q.1 == i + 1) && !(q.1 + 1 == i && q.2.category == 2))) = lv') (k : zs_W M (pc + 1) lv' st R) : zs_W M pc lv (.long x :: st) R := fun S => g_lstore_n hd hi hn he (k S)
theorem h_lstore {i : Nat} {x : Int64} (hd : decode M.2.1 pc = .ok (.lstore i, 2)) (hn : i + 1 < M.2.2.1) (he : (i, Value.long x) :: lv.filter (fun q => !(q.1 == i) && (!(q.1 == i + 1) && !(q.1 + 1 == i && q.2.category == 2))) = lv') (k : zs_W M (pc + 2) lv' st R) : zs_W M pc lv (.long x :: st) R := fun S => g_lstore hd hn he (k S)
theorem h_aload_n {j : Fin 4} {i : Nat} {x : Nat} (hd : decode M.2.1 pc = .ok (.aload_n j, 1)) (hi : (j : Nat) = i) (hk : zs_lk lv i = some (.ref x)) (k : zs_W M (pc + 1) lv (.ref x :: st) R) : zs_W M pc lv st R := fun S => g_aload_n hd hi hk (k S)
theorem h_aload {i : Nat} {x : Nat} (hd : decode M.2.1 pc = .ok (.aload i, 2)) (hk : zs_lk lv i = some (.ref x)) (k : zs_W M (pc + 2) lv (.ref x :: st) R) : zs_W M pc lv st R := fun S => g_aload hd hk (k S)
theorem h_astore_n {j : Fin 4} {i : Nat} {x : Nat} (hd : decode M.2.1 pc = .ok (.astore_n j, 1)) (hi : (j : Nat) = i) (hn : i < M.2.2.1) (he : (i, Value.ref x) :: lv.filter (fun q => !(q.1 == i) && !(q.1 + 1 == i && q.2.category == 2)) = lv') (k : zs_W M (pc + 1) lv' st R) : zs_W M pc lv (.ref x :: st) R := fun S => g_astore_n hd hi hn he (k S)
theorem h_astore {i : Nat} {x : Nat} (hd : decode M.2.1 pc = .ok (.astore i, 2)) (hn : i < M.2.2.1) (he : (i, Value.ref x) :: lv.filter (fun q => !(q.1 == i) && !(q.1 + 1 == i && q.2.category == 2)) = lv') (k : zs_W M (pc + 2) lv' st R) : zs_W M pc lv (.ref x :: st) R := fun S => g_astore hd hn he (k S)
theorem h_iinc {i : Nat} {n : Int} {x v : Int32} (hd : decode M.2.1 pc = .ok (.iinc i n, 3)) (hk : zs_lk lv i = some (.int x)) (hv : x + Int32.ofInt n = v) (hn : i < M.2.2.1) (he : (i, Value.int v) :: lv.filter (fun q => !(q.1 == i) && !(q.1 + 1 == i && q.2.category == 2)) = lv') (k : zs_W M (pc + 3) lv' st R) : zs_W M pc lv st R := fun S => g_iinc hd hk hv hn he (k S)
theorem h_iadd {x y : Int32} (hd : decode M.2.1 pc = .ok (.iadd, 1)) (k : ∀ v, zs_W M (pc + 1) lv (.int v :: st) R) : zs_W M pc lv (.int y :: .int x :: st) R := fun S => g_iadd hd (k _ S)
theorem h_isub {x y : Int32} (hd : decode M.2.1 pc = .ok (.isub, 1)) (k : ∀ v, zs_W M (pc + 1) lv (.int v :: st) R) : zs_W M pc lv (.int y :: .int x :: st) R := fun S => g_isub hd (k _ S)
theorem h_imul {x y : Int32} (hd : decode M.2.1 pc = .ok (.imul, 1)) (k : ∀ v, zs_W M (pc + 1) lv (.int v :: st) R) : zs_W M pc lv (.int y :: .int x :: st) R := fun S => g_imul hd (k _ S)
theorem h_iand {x y : Int32} (hd : decode M.2.1 pc = .ok (.iand, 1)) (k : ∀ v, zs_W M (pc + 1) lv (.int v :: st) R) : zs_W M pc lv (.int y :: .int x :: st) R := fun S => g_iand hd (k _ S)
theorem h_ior {x y : Int32} (hd : decode M.2.1 pc = .ok (.ior, 1)) (k : ∀ v, zs_W M (pc + 1) lv (.int v :: st) R) : zs_W M pc lv (.int y :: .int x :: st) R := fun S => g_ior hd (k _ S)
theorem h_ixor {x y : Int32} (hd : decode M.2.1 pc = .ok (.ixor, 1)) (k : ∀ v, zs_W M (pc + 1) lv (.int v :: st) R) : zs_W M pc lv (.int y :: .int x :: st) R := fun S => g_ixor hd (k _ S)
theorem h_ishl {x y : Int32} (hd : decode M.2.1 pc = .ok (.ishl, 1)) (k : ∀ v, zs_W M (pc + 1) lv (.int v :: st) R) : zs_W M pc lv (.int y :: .int x :: st) R := fun S => g_ishl hd (k _ S)
theorem h_ishr {x y : Int32} (hd : decode M.2.1 pc = .ok (.ishr, 1)) (k : ∀ v, zs_W M (pc + 1) lv (.int v :: st) R) : zs_W M pc lv (.int y :: .int x :: st) R := fun S => g_ishr hd (k _ S)
theorem h_ladd {x y : Int64} (hd : decode M.2.1 pc = .ok (.ladd, 1)) (k : ∀ v, zs_W M (pc + 1) lv (.long v :: st) R) : zs_W M pc lv (.long y :: .long x :: st) R := fun S => g_ladd hd (k _ S)
theorem h_lsub {x y : Int64} (hd : decode M.2.1 pc = .ok (.lsub, 1)) (k : ∀ v, zs_W M (pc + 1) lv (.long v :: st) R) : zs_W M pc lv (.long y :: .long x :: st) R := fun S => g_lsub hd (k _ S)
theorem h_lmul {x y : Int64} (hd : decode M.2.1 pc = .ok (.lmul, 1)) (k : ∀ v, zs_W M (pc + 1) lv (.long v :: st) R) : zs_W M pc lv (.long y :: .long x :: st) R := fun S => g_lmul hd (k _ S)
theorem h_idiv {x y : Int32} (hd : decode M.2.1 pc = .ok (.idiv, 1)) (hne : ¬ y = 0) (k : ∀ v, zs_W M (pc + 1) lv (.int v :: st) R) : zs_W M pc lv (.int y :: .int x :: st) R := fun S => g_idiv hd hne (k _ S)
theorem h_irem {x y : Int32} (hd : decode M.2.1 pc = .ok (.irem, 1)) (hne : ¬ y = 0) (k : ∀ v, zs_W M (pc + 1) lv (.int v :: st) R) : zs_W M pc lv (.int y :: .int x :: st) R := fun S => g_irem hd hne (k _ S)
theorem h_ldiv {x y : Int64} (hd : decode M.2.1 pc = .ok (.ldiv, 1)) (hne : ¬ y = 0) (k : ∀ v, zs_W M (pc + 1) lv (.long v :: st) R) : zs_W M pc lv (.long y :: .long x :: st) R := fun S => g_ldiv hd hne (k _ S)
theorem h_lrem {x y : Int64} (hd : decode M.2.1 pc = .ok (.lrem, 1)) (hne : ¬ y = 0) (k : ∀ v, zs_W M (pc + 1) lv (.long v :: st) R) : zs_W M pc lv (.long y :: .long x :: st) R := fun S => g_lrem hd hne (k _ S)
theorem h_ineg {x : Int32} (hd : decode M.2.1 pc = .ok (.ineg, 1)) (k : ∀ v, zs_W M (pc + 1) lv (.int v :: st) R) : zs_W M pc lv (.int x :: st) R := fun S => g_ineg hd (k _ S)
theorem h_i2l {x : Int32} (hd : decode M.2.1 pc = .ok (.i2l, 1)) (k : ∀ v, zs_W M (pc + 1) lv (.long v :: st) R) : zs_W M pc lv (.int x :: st) R := fun S => g_i2l hd rfl (k _ S)
theorem h_l2i {x : Int64} (hd : decode M.2.1 pc = .ok (.l2i, 1)) (k : ∀ v, zs_W M (pc + 1) lv (.int v :: st) R) : zs_W M pc lv (.long x :: st) R := fun S => g_l2i hd rfl (k _ S)
theorem h_lcmp {x y : Int64} (hd : decode M.2.1 pc = .ok (.lcmp, 1)) (k : zs_W M (pc + 1) lv (.int (lg_cmp x y) :: st) R) : zs_W M pc lv (.long y :: .long x :: st) R := fun S => g_lcmp hd (k S)
theorem h_dup {va : Value} (hd : decode M.2.1 pc = .ok (.dup, 1)) (hc : va.category = 1) (k : zs_W M (pc + 1) lv (va :: va :: st) R) : zs_W M pc lv (va :: st) R := fun S => g_dup hd hc (k S)
theorem h_pop {va : Value} (hd : decode M.2.1 pc = .ok (.pop, 1)) (hc : va.category = 1) (k : zs_W M (pc + 1) lv st R) : zs_W M pc lv (va :: st) R := fun S => g_pop hd hc (k S)
theorem h_goto {off : Int} (tgt : Nat) (hd : decode M.2.1 pc = .ok (.goto off, 3)) (ht : (pc : Int) + off = (tgt : Int)) (k : zs_W M tgt lv st R) : zs_W M pc lv st R := fun S => g_goto tgt hd ht (k S)
theorem h_if_eq {x : Int32} {off : Int} (tgt : Nat) (hd : decode M.2.1 pc = .ok (.ifCond .eq off, 3)) (ht : (pc : Int) + off = (tgt : Int)) (kt : x = 0 → zs_W M tgt lv st R) (kf : ¬ x = 0 → zs_W M (pc + 3) lv st R) : zs_W M pc lv (.int x :: st) R := fun S => g_if_eq tgt hd ht (fun h => kt h S) (fun h => kf h S)
theorem h_ic_eq {x y : Int32} {off : Int} (tgt : Nat) (hd : decode M.2.1 pc = .ok (.if_icmp .eq off, 3)) (ht : (pc : Int) + off = (tgt : Int)) (kt : x = y → zs_W M tgt lv st R) (kf : ¬ x = y → zs_W M (pc + 3) lv st R) : zs_W M pc lv (.int y :: .int x :: st) R := fun S => g_ic_eq tgt hd ht (fun h => kt h S) (fun h => kf h S)
theorem h_if_ne {x : Int32} {off : Int} (tgt : Nat) (hd : decode M.2.1 pc = .ok (.ifCond .ne off, 3)) (ht : (pc : Int) + off = (tgt : Int)) (kt : ¬ x = 0 → zs_W M tgt lv st R) (kf : x = 0 → zs_W M (pc + 3) lv st R) : zs_W M pc lv (.int x :: st) R := fun S => g_if_ne tgt hd ht (fun h => kt h S) (fun h => kf h S)
theorem h_ic_ne {x y : Int32} {off : Int} (tgt : Nat) (hd : decode M.2.1 pc = .ok (.if_icmp .ne off, 3)) (ht : (pc : Int) + off = (tgt : Int)) (kt : ¬ x = y → zs_W M tgt lv st R) (kf : x = y → zs_W M (pc + 3) lv st R) : zs_W M pc lv (.int y :: .int x :: st) R := fun S => g_ic_ne tgt hd ht (fun h => kt h S) (fun h => kf h S)
theorem h_if_lt {x : Int32} {off : Int} (tgt : Nat) (hd : decode M.2.1 pc = .ok (.ifCond .lt off, 3)) (ht : (pc : Int) + off = (tgt : Int)) (kt : x < 0 → zs_W M tgt lv st R) (kf : ¬ x < 0 → zs_W M (pc + 3) lv st R) : zs_W M pc lv (.int x :: st) R := fun S => g_if_lt tgt hd ht (fun h => kt h S) (fun h => kf h S)
theorem h_ic_lt {x y : Int32} {off : Int} (tgt : Nat) (hd : decode M.2.1 pc = .ok (.if_icmp .lt off, 3)) (ht : (pc : Int) + off = (tgt : Int)) (kt : x < y → zs_W M tgt lv st R) (kf : ¬ x < y → zs_W M (pc + 3) lv st R) : zs_W M pc lv (.int y :: .int x :: st) R := fun S => g_ic_lt tgt hd ht (fun h => kt h S) (fun h => kf h S)
theorem h_if_ge {x : Int32} {off : Int} (tgt : Nat) (hd : decode M.2.1 pc = .ok (.ifCond .ge off, 3)) (ht : (pc : Int) + off = (tgt : Int)) (kt : 0 ≤ x → zs_W M tgt lv st R) (kf : ¬ 0 ≤ x → zs_W M (pc + 3) lv st R) : zs_W M pc lv (.int x :: st) R := fun S => g_if_ge tgt hd ht (fun h => kt h S) (fun h => kf h S)
theorem h_ic_ge {x y : Int32} {off : Int} (tgt : Nat) (hd : decode M.2.1 pc = .ok (.if_icmp .ge off, 3)) (ht : (pc : Int) + off = (tgt : Int)) (kt : y ≤ x → zs_W M tgt lv st R) (kf : ¬ y ≤ x → zs_W M (pc + 3) lv st R) : zs_W M pc lv (.int y :: .int x :: st) R := fun S => g_ic_ge tgt hd ht (fun h => kt h S) (fun h => kf h S)
theorem h_if_gt {x : Int32} {off : Int} (tgt : Nat) (hd : decode M.2.1 pc = .ok (.ifCond .gt off, 3)) (ht : (pc : Int) + off = (tgt : Int)) (kt : 0 < x → zs_W M tgt lv st R) (kf : ¬ 0 < x → zs_W M (pc + 3) lv st R) : zs_W M pc lv (.int x :: st) R := fun S => g_if_gt tgt hd ht (fun h => kt h S) (fun h => kf h S)
theorem h_ic_gt {x y : Int32} {off : Int} (tgt : Nat) (hd : decode M.2.1 pc = .ok (.if_icmp .gt off, 3)) (ht : (pc : Int) + off = (tgt : Int)) (kt : y < x → zs_W M tgt lv st R) (kf : ¬ y < x → zs_W M (pc + 3) lv st R) : zs_W M pc lv (.int y :: .int x :: st) R := fun S => g_ic_gt tgt hd ht (fun h => kt h S) (fun h => kf h S)
theorem h_if_le {x : Int32} {off : Int} (tgt : Nat) (hd : decode M.2.1 pc = .ok (.ifCond .le off, 3)) (ht : (pc : Int) + off = (tgt : Int)) (kt : x ≤ 0 → zs_W M tgt lv st R) (kf : ¬ x ≤ 0 → zs_W M (pc + 3) lv st R) : zs_W M pc lv (.int x :: st) R := fun S => g_if_le tgt hd ht (fun h => kt h S) (fun h => kf h S)
theorem h_ic_le {x y : Int32} {off : Int} (tgt : Nat) (hd : decode M.2.1 pc = .ok (.if_icmp .le off, 3)) (ht : (pc : Int) + off = (tgt : Int)) (kt : x ≤ y → zs_W M tgt lv st R) (kf : ¬ x ≤ y → zs_W M (pc + 3) lv st R) : zs_W M pc lv (.int y :: .int x :: st) R := fun S => g_ic_le tgt hd ht (fun h => kt h S) (fun h => kf h S)
theorem h_tin {x : Int32} {dflt lo hi off : Int} {offs : Array Int} {len : Nat} (tgt : Nat) (hd : decode M.2.1 pc = .ok (.tableswitch dflt lo hi offs, len)) (h1 : ¬ x.toInt < lo) (h2 : ¬ hi < x.toInt) (ho : offs[(x.toInt - lo).toNat]? = some off) (ht : (pc : Int) + off = (tgt : Int)) (k : zs_W M tgt lv st R) : zs_W M pc lv (.int x :: st) R := fun S => g_tin tgt hd h1 h2 ho ht (k S)
theorem h_tout {x : Int32} {dflt lo hi : Int} {offs : Array Int} {len : Nat} (tgt : Nat) (hd : decode M.2.1 pc = .ok (.tableswitch dflt lo hi offs, len)) (h : x.toInt < lo ∨ hi < x.toInt) (ht : (pc : Int) + dflt = (tgt : Int)) (k : zs_W M tgt lv st R) : zs_W M pc lv (.int x :: st) R := fun S => g_tout tgt hd h ht (k S)
theorem h_lsw {x : Int32} {dflt off : Int} {ps : Array (Int × Int)} {len : Nat} (tgt : Nat) (hd : decode M.2.1 pc = .ok (.lookupswitch dflt ps, len)) (hp : (ps.toList.zip (ps.toList.drop 1)).all (fun (a, next) => a.1 < next.1) = true) (ho : Op.lookupswitch.offset ps.toList dflt x.toInt = off) (ht : (pc : Int) + off = (tgt : Int)) (k : zs_W M tgt lv st R) : zs_W M pc lv (.int x :: st) R := fun S => g_lsw tgt hd hp ho ht (k S)
theorem h_getI {a ci idx N : Nat} (j : Nat) {fl : List Nat} {C : String} {T : u_T} (hd : decode M.2.1 pc = .ok (.getfield idx, 3)) (ha : a < zs_n) (hs : zs_sh a = .inr (ci, fl)) (hc : vwCl[ci]? = some (C, T, N)) (hj : j < N) (hf : fl[j]? = some 0) (hw : Cond.fieldLink M.1.cls idx (T j).1 (T j).2.1 (T j).2.2.1 ∈ zs_tbl) (k : ∀ v, zs_W M (pc + 3) lv (.int v :: st) R) : zs_W M pc lv (.ref a :: st) R := fun S => g_getI j hd ha hs hc hj hf hw (k _ S)
theorem h_getL {a ci idx N : Nat} (j : Nat) {fl : List Nat} {C : String} {T : u_T} (hd : decode M.2.1 pc = .ok (.getfield idx, 3)) (ha : a < zs_n) (hs : zs_sh a = .inr (ci, fl)) (hc : vwCl[ci]? = some (C, T, N)) (hj : j < N) (hf : fl[j]? = some 1) (hw : Cond.fieldLink M.1.cls idx (T j).1 (T j).2.1 (T j).2.2.1 ∈ zs_tbl) (k : ∀ v, zs_W M (pc + 3) lv (.long v :: st) R) : zs_W M pc lv (.ref a :: st) R := fun S => g_getL j hd ha hs hc hj hf hw (k _ S)
theorem h_getR {a ci idx N : Nat} (j b : Nat) {fl : List Nat} {C : String} {T : u_T} (hd : decode M.2.1 pc = .ok (.getfield idx, 3)) (ha : a < zs_n) (hs : zs_sh a = .inr (ci, fl)) (hc : vwCl[ci]? = some (C, T, N)) (hj : j < N) (hf : fl[j]? = some (b + 2)) (hw : Cond.fieldLink M.1.cls idx (T j).1 (T j).2.1 (T j).2.2.1 ∈ zs_tbl) (k : zs_W M (pc + 3) lv (.ref b :: st) R) : zs_W M pc lv (.ref a :: st) R := fun S => g_getR j b hd ha hs hc hj hf hw (k S)
theorem h_putI {a ci idx N : Nat} (j : Nat) {fl : List Nat} {C : String} {T : u_T} {x : Int32} {ty : FieldType} (hd : decode M.2.1 pc = .ok (.putfield idx, 3)) (ha : a < zs_n) (hs : zs_sh a = .inr (ci, fl)) (hc : vwCl[ci]? = some (C, T, N)) (hj : j < N) (hf : fl[j]? = some 0) (hw : Cond.fieldLink M.1.cls idx (T j).1 (T j).2.1 (T j).2.2.1 ∈ zs_tbl) (hfin : (T j).2.2.2 = false) (hty : parseFieldDescriptor (T j).2.2.1 = some ty) (hn : narrow ty (.int x) = .int x ∧ fits ty (.int x) = true) (hp : zs_pr a j = false) (k : zs_W M (pc + 3) lv st R) : zs_W M pc lv (.int x :: .ref a :: st) R := fun S => g_putI j hd ha hs hc hj hf hw hfin hty hn (zs_Wfr k (zs_fr.up hp))
theorem h_putL {a ci idx N : Nat} (j : Nat) {fl : List Nat} {C : String} {T : u_T} {x : Int64} (hd : decode M.2.1 pc = .ok (.putfield idx, 3)) (ha : a < zs_n) (hs : zs_sh a = .inr (ci, fl)) (hc : vwCl[ci]? = some (C, T, N)) (hj : j < N) (hf : fl[j]? = some 1) (hw : Cond.fieldLink M.1.cls idx (T j).1 (T j).2.1 (T j).2.2.1 ∈ zs_tbl) (hfin : (T j).2.2.2 = false) (hty : parseFieldDescriptor (T j).2.2.1 = some .long) (hp : zs_pr a j = false) (k : zs_W M (pc + 3) lv st R) : zs_W M pc lv (.long x :: .ref a :: st) R := fun S => g_putL j hd ha hs hc hj hf hw hfin hty (zs_Wfr k (zs_fr.upL hp))
theorem h_iret {v : Int32} {ty : FieldType} (hd : decode M.2.1 pc = .ok (.ireturn, 1)) (hr : M.2.2.2.1 = some ty) (hn : narrow ty (.int v) = .int v) (hq : R (some (.int v))) : zs_W M pc lv [.int v] R := fun S => g_iret hd hr hn ⟨hq, zs_fr.rf⟩
theorem h_lret {v : Int64} (hd : decode M.2.1 pc = .ok (.lreturn, 1)) (hr : M.2.2.2.1 = some .long) (hq : R (some (.long v))) : zs_W M pc lv [.long v] R := fun S => g_lret hd hr ⟨hq, zs_fr.rf⟩
theorem h_ret (hd : decode M.2.1 pc = .ok (.return_, 1)) (hr : M.2.2.2.1 = none) (hq : R none) : zs_W M pc lv [] R := fun S => g_ret hd hr ⟨hq, zs_fr.rf⟩
theorem h_callV {N : zs_M} {a ci idx n NN : Nat} {fl : List Nat} {T : u_T} {As : List Value} (rest : List Value) {st0 : List Value} {R1 : Option Value → Prop} (hX : zs_Dd' N (.ref a :: As) R1) (hd : decode M.2.1 pc = .ok (.invokevirtual idx, 3)) (hK : zs_K M N n) (hl1 : Cond.methodLink M.1.cls idx N.1 ∈ zs_tbl) (hl2 : Cond.instanceMethod N.1 ∈ zs_tbl) (hl3 : Cond.selects N.1.cls N.1 N.1 ∈ zs_tbl) (ha : a < zs_n) (hs : zs_sh a = .inr (ci, fl)) (hc : vwCl[ci]? = some (N.1.cls, T, NN)) (hn : As.length = n) (hst : st0 = As.reverse ++ .ref a :: rest) (hcat : (rest.map fun v => v.category).sum ≤ 8)
    (k : ∀ v, R1 v → zs_W M (pc + 3) lv (v.toList ++ rest) R) : zs_W M pc lv st0 R := fun S => g_callV rest (hX S) hd hK hl1 hl2 hl3 ha hs hc hn hst hcat (fun v S' q => zs_Wfr (k v q.1) q.2)
theorem h_callS {N : zs_M} {idx n : Nat} (As rest : List Value) {st0 : List Value} {R1 : Option Value → Prop} (hX : zs_Dd' N As R1) (hd : decode M.2.1 pc = .ok (.invokestatic idx, 3)) (hK : zs_K M N n) (hl1 : Cond.methodLink M.1.cls idx N.1 ∈ zs_tbl) (hl2 : Cond.static N.1 ∈ zs_tbl) (hn : As.length = n) (hst : st0 = As.reverse ++ rest) (hcat : (rest.map fun v => v.category).sum ≤ 8)
    (k : ∀ v, R1 v → zs_W M (pc + 3) lv (v.toList ++ rest) R) : zs_W M pc lv st0 R := fun S => g_callS As rest (hX S) hd hK hl1 hl2 hn hst hcat (fun v S' q => zs_Wfr (k v q.1) q.2)
theorem h_callN {N : zs_M} {idx n : Nat} {host : String} (As rest : List Value) {st0 : List Value} {R1 : Option Value → Prop} (hX : zs_Dd' N As R1) (hd : decode M.2.1 pc = .ok (.invokestatic idx, 3)) (hK : zs_K M N n) (hl1 : (M.1.cls, idx, N.1, host) ∈ zs_nst) (hl2 : Cond.static N.1 ∈ zs_tbl) (hn : As.length = n) (hst : st0 = As.reverse ++ rest) (hcat : (rest.map fun v => v.category).sum ≤ 8)
    (k : ∀ v, R1 v → zs_W M (pc + 3) lv (v.toList ++ rest) R) : zs_W M pc lv st0 R := fun S => g_callN As rest (hX S) hd hK hl1 hl2 hn hst hcat (fun v S' q => zs_Wfr (k v q.1) q.2)
theorem h_alen {a t n : Nat} {v : Int32} (hd : decode M.2.1 pc = .ok (.arraylength, 1)) (ha : a < zs_n) (hs : zs_sh a = .inl (t, n)) (ht : t < 2) (hv : Int32.ofNat n = v) (k : zs_W M (pc + 1) lv (.int v :: st) R) : zs_W M pc lv (.ref a :: st) R := fun S => g_alen hd ha hs ht hv (k S)
theorem h_ldcS {i : Nat} (hi : i < 5) (hcls : M.1.cls = RX10) (hd : decode M.2.1 pc = .ok (.ldc (zs_sk.getD i 0), 2)) (k : zs_W M (pc + 2) lv (.ref (90 + i) :: st) R) : zs_W M pc lv st R := fun S => g_ldcS hi hcls hd (k S)
end zs_weak
theorem g_ldcw {M : zs_M} {pc : Nat} {lv : List (Nat × Value)} {st : List Value} {S : zs_S} {Q : Option Value → zs_S → Prop} {i : Nat} {v : Int32} (hd : decode M.2.1 pc = .ok (.ldc_w i, 3)) (hw : Cond.constant M.1.cls i v ∈ zs_tbl) (k : zs_P M (pc + 3) lv (.int v :: st) S Q) : zs_P M pc lv (st) S Q := let ⟨r, g, q⟩ := k; ⟨r, fun p l e s m args below meth c E H locs ls B hZ hT hP hS hl => lv_ldcw B.1 B.2.1 B.2.2.2.2.1 (B.2.2.2.2.2.1 _ hw) hd (g p l e s m args below meth c E H locs ls B hZ hT hP hS hl), q⟩
theorem h_ldcw {M : zs_M} {pc : Nat} {lv : List (Nat × Value)} {st : List Value} {R : Option Value → Prop} {i : Nat} {v : Int32} (hd : decode M.2.1 pc = .ok (.ldc_w i, 3)) (hw : Cond.constant M.1.cls i v ∈ zs_tbl) (k : zs_W M (pc + 3) lv (.int v :: st) R) : zs_W M pc lv st R := fun S => g_ldcw hd hw (k S)
set_option maxRecDepth 100000 in
theorem cl_RX11_290 : Cond.constant RX11 290 (999999) ∈ zs_tbl := zs_iq4 178 rfl rfl
theorem v_cell (a n : Nat) (i : Int32) (ha : a < zs_n) (hs : zs_sh a = .inl (0, n)) (hn : n < 2 ^ 31) : zs_Dd' MX11_cell [.ref a, .int i] zs_Ri := fun S => (x_cell S a n i ha hs hn).mono (fun _ _ q => by
  obtain ⟨x, rfl, -, rfl⟩ := q
  exact ⟨⟨_, rfl⟩, zs_fr.rf⟩)
theorem v_put (a n : Nat) (i v : Int32) (ha : a < zs_n) (hs : zs_sh a = .inl (0, n)) (hn : n < 2 ^ 31) (hw : zs_wA a) : zs_Dd' MX11_put [.ref a, .int i, .int v] zs_Rv := fun S => (x_put S a n i v ha hs hn).mono (fun _ _ q => by
  obtain ⟨rfl, rfl⟩ := q
  exact ⟨rfl, zs_fr.arr hw (fun b j h => by
    unfold zs_pu
    split
    · exact zs_up_n (fun z => h z.1)
    · rfl) (by unfold zs_pu; split <;> rfl)⟩)
theorem v_fill (a n : Nat) (v : Int32) (ha : a < zs_n) (hs : zs_sh a = .inl (0, n)) (hn : n < 2 ^ 30) (hw : zs_wA a) : zs_Dd' MX11_fill [.ref a, .int v] zs_Rv := fun S => (x_fill S a n v ha hs hn).mono (fun _ _ q => by
  obtain ⟨rfl, rfl⟩ := q
  exact ⟨rfl, zs_fr.arr hw (fun b j h => by
    simp only [zs_fi]
    rw [if_neg (fun z => h z.1)]) rfl⟩)
theorem v_copyRow (a b n : Nat) (ha : a < zs_n) (hs : zs_sh a = .inl (0, n)) (hb : b < zs_n) (ht : zs_sh b = .inl (0, n)) (hab : a ≠ b) (hn : n < 2 ^ 30) (hw : zs_wA b) : zs_Dd' MX11_copyRow [.ref a, .ref b] zs_Rv := fun S => (x_copyRow S a b n ha hs hb ht hab hn).mono (fun _ _ q => by
  obtain ⟨rfl, rfl⟩ := q
  exact ⟨rfl, zs_fr.arr hw (fun c j h => by
    simp only [zs_cp]
    rw [if_neg (fun z => h z.1)]) rfl⟩)
