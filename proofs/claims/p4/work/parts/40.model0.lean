/-! THE MODEL'S BOUNDS -/
def zs_rg (a j : Nat) : Option (Nat × Nat) :=
  bif Nat.beq a 81 then (bif Nat.beq (j % 25) 0 || Nat.beq (j % 25) 2 then some (0, 11) else bif Nat.ble 3 (j % 25) && Nat.ble (j % 25) 14 then some (0, 9) else none)
  else bif Nat.beq a 82 then (bif Nat.beq (j % 66) 0 then some (bif Nat.beq j 0 then 1 else 0, 12) else bif Nat.beq (j % 66) 2 then some (0, 5) else bif Nat.beq (j % 66) 8 || Nat.beq (j % 66) 21 || Nat.beq (j % 66) 46 then some (0, 6) else bif Nat.ble 9 (j % 66) && Nat.ble (j % 66) 14 then some (0, 30) else bif Nat.beq (j % 66) 65 then some (0, 8) else none)
  else bif Nat.beq a 80 then (bif Nat.beq j 3 || Nat.beq j 5 || Nat.beq j 6 then some (0, 150) else bif Nat.beq j 7 || Nat.beq j 8 then some (0, 1) else bif Nat.beq j 9 then some (0, 5) else bif Nat.beq j 10 then some (0, 12) else none) else none
def zs_J (S : zs_S) : Prop := (∀ a j lo up, zs_rg a j = some (lo, up) → ∃ k, lo ≤ k ∧ k ≤ up ∧ S.1 a j = nI k) ∧ ∀ i, i < 2 → S.1 83 i = 0 ∨ ∃ k, 1 ≤ k ∧ k ≤ 12 ∧ S.1 82 (66 * (i + 1)) = nI k
def zs_pm (b i : Nat) : Bool := Nat.ble b 79 || (Nat.beq b 80 && Nat.beq i 3) || Nat.beq b 83 || Nat.beq b 84
def zs_fm (S S2 : zs_S) : Prop := ∀ b i, zs_pm b i = true → S2.1 b i = S.1 b i ∧ S2.2 b i = S.2 b i
theorem zs_fm.rf {S : zs_S} : zs_fm S S := fun _ _ _ => ⟨rfl, rfl⟩
theorem zs_fm.tr {S S1 S2 : zs_S} (h : zs_fm S S1) (k : zs_fm S1 S2) : zs_fm S S2 := fun b i hb => ⟨(k b i hb).1.trans (h b i hb).1, (k b i hb).2.trans (h b i hb).2⟩
theorem zs_fm.up {S : zs_S} {a j : Nat} {v : Int32} (h : zs_pm a j = false) : zs_fm S (zs_up S.1 a j v, S.2) := fun b i hb => ⟨zs_up_n (fun q => by rw [q.1, q.2, h] at hb; exact absurd hb (by decide)), rfl⟩
theorem zs_fm.upL {S : zs_S} {a j : Nat} {v : Int64} (h : zs_pm a j = false) : zs_fm S (S.1, zs_upL S.2 a j v) := fun b i hb => ⟨rfl, by
  show zs_upL S.2 a j v b i = S.2 b i
  simp only [zs_upL]
  rw [if_neg (fun q => by rw [q.1, q.2, h] at hb; exact absurd hb (by decide))]⟩
def zs_ok (a i : Nat) (x : Int32) : Prop := (∀ lo up, zs_rg a i = some (lo, up) → ∃ k, lo ≤ k ∧ k ≤ up ∧ x = nI k) ∧ (a = 82 → i ≠ 66 ∧ i ≠ 132) ∧ a ≠ 83
theorem zs_J.up {S : zs_S} {a i : Nat} {x : Int32} (hJ : zs_J S) (h : zs_ok a i x) : zs_J (zs_up S.1 a i x, S.2) := by
  refine ⟨fun b j lo up hr => ?_, fun k hk => ?_⟩
  · by_cases hb : b = a ∧ j = i
    · obtain ⟨rfl, rfl⟩ := hb
      obtain ⟨m, h1, h2, h3⟩ := h.1 lo up hr
      exact ⟨m, h1, h2, zs_up_s.trans h3⟩
    · obtain ⟨m, h1, h2, h3⟩ := hJ.1 b j lo up hr
      exact ⟨m, h1, h2, (zs_up_n hb).trans h3⟩
  · have e1 : (zs_up S.1 a i x) 83 k = S.1 83 k := zs_up_n (fun q => h.2.2 q.1.symm)
    have e2 : (zs_up S.1 a i x) 82 (66 * (k + 1)) = S.1 82 (66 * (k + 1)) := zs_up_n (fun q => by
      have := h.2.1 q.1.symm
      omega)
    show (zs_up S.1 a i x) 83 k = 0 ∨ ∃ m, 1 ≤ m ∧ m ≤ 12 ∧ (zs_up S.1 a i x) 82 (66 * (k + 1)) = nI m
    rw [e1, e2]
    exact hJ.2 k hk
theorem zs_J.upL {S : zs_S} {a i : Nat} {x : Int64} (hJ : zs_J S) : zs_J (S.1, zs_upL S.2 a i x) := hJ
theorem zs_okN {a i : Nat} {x : Int32} (h : zs_rg a i = none) (h1 : a ≠ 82) (h2 : a ≠ 83) : zs_ok a i x := ⟨fun lo up hr => (by rw [h] at hr; cases hr), fun z => absurd z h1, h2⟩
theorem zs_okR {a i m lo up : Nat} (h : zs_rg a i = some (lo, up)) (g1 : lo ≤ m) (g2 : m ≤ up) (h1 : a ≠ 82) (h2 : a ≠ 83) : zs_ok a i (nI m) := ⟨fun l u hr => (by rw [h] at hr; cases hr; exact ⟨m, g1, g2, rfl⟩), fun z => absurd z h1, h2⟩
theorem zs_okN2 {i : Nat} {x : Int32} (h : zs_rg 82 i = none) (h1 : i < 66) : zs_ok 82 i x := ⟨fun lo up hr => (by rw [h] at hr; cases hr), fun _ => by omega, by decide⟩
theorem zs_okR2 {i m lo up : Nat} (h : zs_rg 82 i = some (lo, up)) (g1 : lo ≤ m) (g2 : m ≤ up) (h1 : i < 66) : zs_ok 82 i (nI m) := ⟨fun l u hr => (by rw [h] at hr; cases hr; exact ⟨m, g1, g2, rfl⟩), fun _ => by omega, by decide⟩
def zs_V (M : zs_M) (pc : Nat) (lv : List (Nat × Value)) (st : List Value) (R : Option Value → Prop) : Prop := ∀ S, zs_J S → zs_P M pc lv st S (fun v S2 => R v ∧ zs_J S2 ∧ zs_fm S S2)
def zs_U (N : zs_M) (args : List Value) (R : Option Value → Prop) : Prop := ∀ S, zs_J S → zs_C N args S (fun v S2 => R v ∧ zs_J S2 ∧ zs_fm S S2)
def zs_Rn (lo up : Nat) : Option Value → Prop := fun v => ∃ k, lo ≤ k ∧ k ≤ up ∧ v = some (.int (nI k))
def zs_Rp (P : Prop) : Option Value → Prop := fun v => ∃ x, v = some (.int x) ∧ narrow .boolean (.int x) = .int x ∧ (¬ x = 0 → P)
theorem zs_nb {k : Nat} (h : k ≤ 1) : narrow .boolean (.int (nI k)) = .int (nI k) := by
  obtain rfl | rfl : k = 0 ∨ k = 1 := by omega
  · rfl
  · rfl
theorem zs_nb2 {k : Nat} (h : k ≤ 1) : narrow .boolean (.int (nI k)) = .int (nI k) ∧ fits .boolean (.int (nI k)) = true := by
  obtain rfl | rfl : k = 0 ∨ k = 1 := by omega
  · exact ⟨rfl, rfl⟩
  · exact ⟨rfl, rfl⟩
theorem zs_Vof {M : zs_M} {args : List Value} {R : Option Value → Prop} (hy : plainName M.1.cls = true) (hlen : (lg_sl args).length ≤ M.2.2.1) (h : zs_V M 0 (lv_args 0 args) [] R) : zs_U M args R := fun S hJ => zs_C.of hy hlen (h S hJ)
theorem zs_Vfr {M : zs_M} {pc : Nat} {lv : List (Nat × Value)} {st : List Value} {R : Option Value → Prop} {S S' : zs_S} (h : zs_V M pc lv st R) (hJ : zs_J S') (f : zs_fm S S') : zs_P M pc lv st S' (fun v S2 => R v ∧ zs_J S2 ∧ zs_fm S S2) := (h S' hJ).mono (fun _ _ q => ⟨q.1, q.2.1, f.tr q.2.2⟩)
theorem zs_Vlv {M : zs_M} {pc : Nat} {lv lv2 : List (Nat × Value)} {st : List Value} {R : Option Value → Prop} (h : zs_V M pc lv2 st R) (hs : ∀ q ∈ lv2, q ∈ lv) : zs_V M pc lv st R := fun S hJ => (h S hJ).lv hs
theorem zs_U.mono {N : zs_M} {args : List Value} {R R' : Option Value → Prop} (h : zs_U N args R) (hq : ∀ v, R v → R' v) : zs_U N args R' := fun S hJ => (h S hJ).mono (fun _ _ q => ⟨hq _ q.1, q.2⟩)
section zs_model
variable {M : zs_M} {pc : Nat} {lv lv' : List (Nat × Value)} {st : List Value} {R : Option Value → Prop}
theorem n_iconst {n : Int} {v : Int32} (hd : decode M.2.1 pc = .ok (.iconst n, 1)) (hv : Int32.ofInt n = v) (k : zs_V M (pc + 1) lv (.int v :: st) R) : zs_V M pc lv st R := fun S hJ => g_iconst hd hv (k S hJ)
theorem n_bipush {n : Int} {v : Int32} (hd : decode M.2.1 pc = .ok (.bipush n, 2)) (hv : (Int8.ofInt n).toInt32 = v) (k : zs_V M (pc + 2) lv (.int v :: st) R) : zs_V M pc lv st R := fun S hJ => g_bipush hd hv (k S hJ)
theorem n_sipush {n : Int} {v : Int32} (hd : decode M.2.1 pc = .ok (.sipush n, 3)) (hv : (Int16.ofInt n).toInt32 = v) (k : zs_V M (pc + 3) lv (.int v :: st) R) : zs_V M pc lv st R := fun S hJ => g_sipush hd hv (k S hJ)
theorem n_lconst {n : Fin 2} {v : Int64} (hd : decode M.2.1 pc = .ok (.lconst n, 1)) (hv : Int64.ofNat (n : Nat) = v) (k : zs_V M (pc + 1) lv (.long v :: st) R) : zs_V M pc lv st R := fun S hJ => g_lconst hd hv (k S hJ)
theorem n_ldc {i : Nat} {v : Int32} (hd : decode M.2.1 pc = .ok (.ldc i, 2)) (hw : Cond.constant M.1.cls i v ∈ zs_tbl) (k : zs_V M (pc + 2) lv (.int v :: st) R) : zs_V M pc lv st R := fun S hJ => g_ldc hd hw (k S hJ)
theorem n_ldc2 {i : Nat} {v : Int64} (hd : decode M.2.1 pc = .ok (.ldc2_w i, 3)) (hw : Cond.constantLong M.1.cls i v ∈ zs_tbl) (k : zs_V M (pc + 3) lv (.long v :: st) R) : zs_V M pc lv st R := fun S hJ => g_ldc2 hd hw (k S hJ)
theorem n_iload_n {j : Fin 4} {i : Nat} {x : Int32} (hd : decode M.2.1 pc = .ok (.iload_n j, 1)) (hi : (j : Nat) = i) (hk : zs_lk lv i = some (.int x)) (k : zs_V M (pc + 1) lv (.int x :: st) R) : zs_V M pc lv st R := fun S hJ => g_iload_n hd hi hk (k S hJ)
theorem n_iload {i : Nat} {x : Int32} (hd : decode M.2.1 pc = .ok (.iload i, 2)) (hk : zs_lk lv i = some (.int x)) (k : zs_V M (pc + 2) lv (.int x :: st) R) : zs_V M pc lv st R := fun S hJ => g_iload hd hk (k S hJ)
theorem n_istore_n {j : Fin 4} {i : Nat} {x : Int32} (hd : decode M.2.1 pc = .ok (.istore_n j, 1)) (hi : (j : Nat) = i) (hn : i < M.2.2.1) (he : (i, Value.int x) :: lv.filter (fun q => !(q.1 == i) && !(q.1 + 1 == i && q.2.category == 2)) = lv') (k : zs_V M (pc + 1) lv' st R) : zs_V M pc lv (.int x :: st) R := fun S hJ => g_istore_n hd hi hn he (k S hJ)
theorem n_istore {i : Nat} {x : Int32} (hd : decode M.2.1 pc = .ok (.istore i, 2)) (hn : i < M.2.2.1) (he : (i, Value.int x) :: lv.filter (fun q => !(q.1 == i) && !(q.1 + 1 == i && q.2.category == 2)) = lv') (k : zs_V M (pc + 2) lv' st R) : zs_V M pc lv (.int x :: st) R := fun S hJ => g_istore hd hn he (k S hJ)
theorem n_lload_n {j : Fin 4} {i : Nat} {x : Int64} (hd : decode M.2.1 pc = .ok (.lload_n j, 1)) (hi : (j : Nat) = i) (hk : zs_lk lv i = some (.long x)) (k : zs_V M (pc + 1) lv (.long x :: st) R) : zs_V M pc lv st R := fun S hJ => g_lload_n hd hi hk (k S hJ)
theorem n_lload {i : Nat} {x : Int64} (hd : decode M.2.1 pc = .ok (.lload i, 2)) (hk : zs_lk lv i = some (.long x)) (k : zs_V M (pc + 2) lv (.long x :: st) R) : zs_V M pc lv st R := fun S hJ => g_lload hd hk (k S hJ)
theorem n_lstore_n {j : Fin 4} {i : Nat} {x : Int64} (hd : decode M.2.1 pc = .ok (.lstore_n j, 1)) (hi : (j : Nat) = i) (hn : i + 1 < M.2.2.1) (he : (i, Value.long x) :: lv.filter (fun q => !(q.1 == i) && (!(q.1 == i + 1) && !(q.1 + 1 == i && q.2.category == 2))) = lv') (k : zs_V M (pc + 1) lv' st R) : zs_V M pc lv (.long x :: st) R := fun S hJ => g_lstore_n hd hi hn he (k S hJ)
theorem n_lstore {i : Nat} {x : Int64} (hd : decode M.2.1 pc = .ok (.lstore i, 2)) (hn : i + 1 < M.2.2.1) (he : (i, Value.long x) :: lv.filter (fun q => !(q.1 == i) && (!(q.1 == i + 1) && !(q.1 + 1 == i && q.2.category == 2))) = lv') (k : zs_V M (pc + 2) lv' st R) : zs_V M pc lv (.long x :: st) R := fun S hJ => g_lstore hd hn he (k S hJ)
theorem n_aload_n {j : Fin 4} {i : Nat} {x : Nat} (hd : decode M.2.1 pc = .ok (.aload_n j, 1)) (hi : (j : Nat) = i) (hk : zs_lk lv i = some (.ref x)) (k : zs_V M (pc + 1) lv (.ref x :: st) R) : zs_V M pc lv st R := fun S hJ => g_aload_n hd hi hk (k S hJ)
theorem n_aload {i : Nat} {x : Nat} (hd : decode M.2.1 pc = .ok (.aload i, 2)) (hk : zs_lk lv i = some (.ref x)) (k : zs_V M (pc + 2) lv (.ref x :: st) R) : zs_V M pc lv st R := fun S hJ => g_aload hd hk (k S hJ)
theorem n_astore_n {j : Fin 4} {i : Nat} {x : Nat} (hd : decode M.2.1 pc = .ok (.astore_n j, 1)) (hi : (j : Nat) = i) (hn : i < M.2.2.1) (he : (i, Value.ref x) :: lv.filter (fun q => !(q.1 == i) && !(q.1 + 1 == i && q.2.category == 2)) = lv') (k : zs_V M (pc + 1) lv' st R) : zs_V M pc lv (.ref x :: st) R := fun S hJ => g_astore_n hd hi hn he (k S hJ)
theorem n_astore {i : Nat} {x : Nat} (hd : decode M.2.1 pc = .ok (.astore i, 2)) (hn : i < M.2.2.1) (he : (i, Value.ref x) :: lv.filter (fun q => !(q.1 == i) && !(q.1 + 1 == i && q.2.category == 2)) = lv') (k : zs_V M (pc + 2) lv' st R) : zs_V M pc lv (.ref x :: st) R := fun S hJ => g_astore hd hn he (k S hJ)
theorem n_iinc {i : Nat} {n : Int} {x v : Int32} (hd : decode M.2.1 pc = .ok (.iinc i n, 3)) (hk : zs_lk lv i = some (.int x)) (hv : x + Int32.ofInt n = v) (hn : i < M.2.2.1) (he : (i, Value.int v) :: lv.filter (fun q => !(q.1 == i) && !(q.1 + 1 == i && q.2.category == 2)) = lv') (k : zs_V M (pc + 3) lv' st R) : zs_V M pc lv st R := fun S hJ => g_iinc hd hk hv hn he (k S hJ)
theorem n_iadd {x y : Int32} (hd : decode M.2.1 pc = .ok (.iadd, 1)) (k : ∀ v, zs_V M (pc + 1) lv (.int v :: st) R) : zs_V M pc lv (.int y :: .int x :: st) R := fun S hJ => g_iadd hd (k _ S hJ)
theorem n_isub {x y : Int32} (hd : decode M.2.1 pc = .ok (.isub, 1)) (k : ∀ v, zs_V M (pc + 1) lv (.int v :: st) R) : zs_V M pc lv (.int y :: .int x :: st) R := fun S hJ => g_isub hd (k _ S hJ)
theorem n_imul {x y : Int32} (hd : decode M.2.1 pc = .ok (.imul, 1)) (k : ∀ v, zs_V M (pc + 1) lv (.int v :: st) R) : zs_V M pc lv (.int y :: .int x :: st) R := fun S hJ => g_imul hd (k _ S hJ)
theorem n_iand {x y : Int32} (hd : decode M.2.1 pc = .ok (.iand, 1)) (k : ∀ v, zs_V M (pc + 1) lv (.int v :: st) R) : zs_V M pc lv (.int y :: .int x :: st) R := fun S hJ => g_iand hd (k _ S hJ)
theorem n_ior {x y : Int32} (hd : decode M.2.1 pc = .ok (.ior, 1)) (k : ∀ v, zs_V M (pc + 1) lv (.int v :: st) R) : zs_V M pc lv (.int y :: .int x :: st) R := fun S hJ => g_ior hd (k _ S hJ)
theorem n_ixor {x y : Int32} (hd : decode M.2.1 pc = .ok (.ixor, 1)) (k : ∀ v, zs_V M (pc + 1) lv (.int v :: st) R) : zs_V M pc lv (.int y :: .int x :: st) R := fun S hJ => g_ixor hd (k _ S hJ)
theorem n_ishl {x y : Int32} (hd : decode M.2.1 pc = .ok (.ishl, 1)) (k : ∀ v, zs_V M (pc + 1) lv (.int v :: st) R) : zs_V M pc lv (.int y :: .int x :: st) R := fun S hJ => g_ishl hd (k _ S hJ)
theorem n_ishr {x y : Int32} (hd : decode M.2.1 pc = .ok (.ishr, 1)) (k : ∀ v, zs_V M (pc + 1) lv (.int v :: st) R) : zs_V M pc lv (.int y :: .int x :: st) R := fun S hJ => g_ishr hd (k _ S hJ)
theorem n_ladd {x y : Int64} (hd : decode M.2.1 pc = .ok (.ladd, 1)) (k : ∀ v, zs_V M (pc + 1) lv (.long v :: st) R) : zs_V M pc lv (.long y :: .long x :: st) R := fun S hJ => g_ladd hd (k _ S hJ)
theorem n_lsub {x y : Int64} (hd : decode M.2.1 pc = .ok (.lsub, 1)) (k : ∀ v, zs_V M (pc + 1) lv (.long v :: st) R) : zs_V M pc lv (.long y :: .long x :: st) R := fun S hJ => g_lsub hd (k _ S hJ)
theorem n_lmul {x y : Int64} (hd : decode M.2.1 pc = .ok (.lmul, 1)) (k : ∀ v, zs_V M (pc + 1) lv (.long v :: st) R) : zs_V M pc lv (.long y :: .long x :: st) R := fun S hJ => g_lmul hd (k _ S hJ)
theorem n_idiv {x y : Int32} (hd : decode M.2.1 pc = .ok (.idiv, 1)) (hne : ¬ y = 0) (k : ∀ v, zs_V M (pc + 1) lv (.int v :: st) R) : zs_V M pc lv (.int y :: .int x :: st) R := fun S hJ => g_idiv hd hne (k _ S hJ)
theorem n_irem {x y : Int32} (hd : decode M.2.1 pc = .ok (.irem, 1)) (hne : ¬ y = 0) (k : ∀ v, zs_V M (pc + 1) lv (.int v :: st) R) : zs_V M pc lv (.int y :: .int x :: st) R := fun S hJ => g_irem hd hne (k _ S hJ)
theorem n_ldiv {x y : Int64} (hd : decode M.2.1 pc = .ok (.ldiv, 1)) (hne : ¬ y = 0) (k : ∀ v, zs_V M (pc + 1) lv (.long v :: st) R) : zs_V M pc lv (.long y :: .long x :: st) R := fun S hJ => g_ldiv hd hne (k _ S hJ)
theorem n_lrem {x y : Int64} (hd : decode M.2.1 pc = .ok (.lrem, 1)) (hne : ¬ y = 0) (k : ∀ v, zs_V M (pc + 1) lv (.long v :: st) R) : zs_V M pc lv (.long y :: .long x :: st) R := fun S hJ => g_lrem hd hne (k _ S hJ)
theorem n_iaddN {x y : Nat} (hd : decode M.2.1 pc = .ok (.iadd, 1)) (k : zs_V M (pc + 1) lv (.int (nI (x + y)) :: st) R) : zs_V M pc lv (.int (nI y) :: .int (nI x) :: st) R := fun S hJ => g_iaddN hd (k S hJ)
theorem n_imulN {x y : Nat} (hd : decode M.2.1 pc = .ok (.imul, 1)) (k : zs_V M (pc + 1) lv (.int (nI (x * y)) :: st) R) : zs_V M pc lv (.int (nI y) :: .int (nI x) :: st) R := fun S hJ => g_imulN hd (k S hJ)
theorem n_isubN {x y : Nat} (hd : decode M.2.1 pc = .ok (.isub, 1)) (h : y ≤ x) (k : zs_V M (pc + 1) lv (.int (nI (x - y)) :: st) R) : zs_V M pc lv (.int (nI y) :: .int (nI x) :: st) R := fun S hJ => g_isubN hd h (k S hJ)
theorem n_idivN {x y : Nat} (hd : decode M.2.1 pc = .ok (.idiv, 1)) (hx : x < 2 ^ 31) (h0 : 0 < y) (hy : y < 2 ^ 31) (k : zs_V M (pc + 1) lv (.int (nI (x / y)) :: st) R) : zs_V M pc lv (.int (nI y) :: .int (nI x) :: st) R := fun S hJ => g_idivN hd hx h0 hy (k S hJ)
theorem n_iremN {x y : Nat} (hd : decode M.2.1 pc = .ok (.irem, 1)) (hx : x < 2 ^ 31) (h0 : 0 < y) (hy : y < 2 ^ 31) (k : zs_V M (pc + 1) lv (.int (nI (x % y)) :: st) R) : zs_V M pc lv (.int (nI y) :: .int (nI x) :: st) R := fun S hJ => g_iremN hd hx h0 hy (k S hJ)
theorem n_ineg {x : Int32} (hd : decode M.2.1 pc = .ok (.ineg, 1)) (k : ∀ v, zs_V M (pc + 1) lv (.int v :: st) R) : zs_V M pc lv (.int x :: st) R := fun S hJ => g_ineg hd (k _ S hJ)
theorem n_i2l {x : Int32} (hd : decode M.2.1 pc = .ok (.i2l, 1)) (k : zs_V M (pc + 1) lv (.long x.toInt64 :: st) R) : zs_V M pc lv (.int x :: st) R := fun S hJ => g_i2l hd rfl (k S hJ)
theorem n_l2i {x : Int64} (hd : decode M.2.1 pc = .ok (.l2i, 1)) (k : ∀ v, zs_V M (pc + 1) lv (.int v :: st) R) : zs_V M pc lv (.long x :: st) R := fun S hJ => g_l2i hd rfl (k _ S hJ)
theorem n_lcmp {x y : Int64} (hd : decode M.2.1 pc = .ok (.lcmp, 1)) (k : zs_V M (pc + 1) lv (.int (lg_cmp x y) :: st) R) : zs_V M pc lv (.long y :: .long x :: st) R := fun S hJ => g_lcmp hd (k S hJ)
theorem n_dup {va : Value} (hd : decode M.2.1 pc = .ok (.dup, 1)) (hc : va.category = 1) (k : zs_V M (pc + 1) lv (va :: va :: st) R) : zs_V M pc lv (va :: st) R := fun S hJ => g_dup hd hc (k S hJ)
theorem n_dup2 {va vb : Value} (hd : decode M.2.1 pc = .ok (.dup2, 1)) (hc : va.category = 1) (hc2 : vb.category = 1) (k : zs_V M (pc + 1) lv (va :: vb :: va :: vb :: st) R) : zs_V M pc lv (va :: vb :: st) R := fun S hJ => g_dup2 hd hc hc2 (k S hJ)
theorem n_pop {va : Value} (hd : decode M.2.1 pc = .ok (.pop, 1)) (hc : va.category = 1) (k : zs_V M (pc + 1) lv st R) : zs_V M pc lv (va :: st) R := fun S hJ => g_pop hd hc (k S hJ)
theorem n_goto {off : Int} (tgt : Nat) (hd : decode M.2.1 pc = .ok (.goto off, 3)) (ht : (pc : Int) + off = (tgt : Int)) (k : zs_V M tgt lv st R) : zs_V M pc lv st R := fun S hJ => g_goto tgt hd ht (k S hJ)
theorem n_if_eq {x : Int32} {off : Int} (tgt : Nat) (hd : decode M.2.1 pc = .ok (.ifCond .eq off, 3)) (ht : (pc : Int) + off = (tgt : Int)) (kt : x = 0 → zs_V M tgt lv st R) (kf : ¬ x = 0 → zs_V M (pc + 3) lv st R) : zs_V M pc lv (.int x :: st) R := fun S hJ => g_if_eq tgt hd ht (fun h => kt h S hJ) (fun h => kf h S hJ)
theorem n_ic_eq {x y : Int32} {off : Int} (tgt : Nat) (hd : decode M.2.1 pc = .ok (.if_icmp .eq off, 3)) (ht : (pc : Int) + off = (tgt : Int)) (kt : x = y → zs_V M tgt lv st R) (kf : ¬ x = y → zs_V M (pc + 3) lv st R) : zs_V M pc lv (.int y :: .int x :: st) R := fun S hJ => g_ic_eq tgt hd ht (fun h => kt h S hJ) (fun h => kf h S hJ)
theorem n_ic_eqN {x y : Nat} {off : Int} (tgt : Nat) (hd : decode M.2.1 pc = .ok (.if_icmp .eq off, 3)) (ht : (pc : Int) + off = (tgt : Int)) (hx : x < 2 ^ 31) (hy : y < 2 ^ 31) (kt : x = y → zs_V M tgt lv st R) (kf : x ≠ y → zs_V M (pc + 3) lv st R) : zs_V M pc lv (.int (nI y) :: .int (nI x) :: st) R := fun S hJ => g_ic_eqN tgt hd ht hx hy (fun h => kt h S hJ) (fun h => kf h S hJ)
theorem n_if_ne {x : Int32} {off : Int} (tgt : Nat) (hd : decode M.2.1 pc = .ok (.ifCond .ne off, 3)) (ht : (pc : Int) + off = (tgt : Int)) (kt : ¬ x = 0 → zs_V M tgt lv st R) (kf : x = 0 → zs_V M (pc + 3) lv st R) : zs_V M pc lv (.int x :: st) R := fun S hJ => g_if_ne tgt hd ht (fun h => kt h S hJ) (fun h => kf h S hJ)
theorem n_ic_ne {x y : Int32} {off : Int} (tgt : Nat) (hd : decode M.2.1 pc = .ok (.if_icmp .ne off, 3)) (ht : (pc : Int) + off = (tgt : Int)) (kt : ¬ x = y → zs_V M tgt lv st R) (kf : x = y → zs_V M (pc + 3) lv st R) : zs_V M pc lv (.int y :: .int x :: st) R := fun S hJ => g_ic_ne tgt hd ht (fun h => kt h S hJ) (fun h => kf h S hJ)
theorem n_ic_neN {x y : Nat} {off : Int} (tgt : Nat) (hd : decode M.2.1 pc = .ok (.if_icmp .ne off, 3)) (ht : (pc : Int) + off = (tgt : Int)) (hx : x < 2 ^ 31) (hy : y < 2 ^ 31) (kt : x ≠ y → zs_V M tgt lv st R) (kf : x = y → zs_V M (pc + 3) lv st R) : zs_V M pc lv (.int (nI y) :: .int (nI x) :: st) R := fun S hJ => g_ic_neN tgt hd ht hx hy (fun h => kt h S hJ) (fun h => kf h S hJ)
theorem n_if_lt {x : Int32} {off : Int} (tgt : Nat) (hd : decode M.2.1 pc = .ok (.ifCond .lt off, 3)) (ht : (pc : Int) + off = (tgt : Int)) (kt : x < 0 → zs_V M tgt lv st R) (kf : ¬ x < 0 → zs_V M (pc + 3) lv st R) : zs_V M pc lv (.int x :: st) R := fun S hJ => g_if_lt tgt hd ht (fun h => kt h S hJ) (fun h => kf h S hJ)
theorem n_ic_lt {x y : Int32} {off : Int} (tgt : Nat) (hd : decode M.2.1 pc = .ok (.if_icmp .lt off, 3)) (ht : (pc : Int) + off = (tgt : Int)) (kt : x < y → zs_V M tgt lv st R) (kf : ¬ x < y → zs_V M (pc + 3) lv st R) : zs_V M pc lv (.int y :: .int x :: st) R := fun S hJ => g_ic_lt tgt hd ht (fun h => kt h S hJ) (fun h => kf h S hJ)
theorem n_ic_ltN {x y : Nat} {off : Int} (tgt : Nat) (hd : decode M.2.1 pc = .ok (.if_icmp .lt off, 3)) (ht : (pc : Int) + off = (tgt : Int)) (hx : x < 2 ^ 31) (hy : y < 2 ^ 31) (kt : x < y → zs_V M tgt lv st R) (kf : y ≤ x → zs_V M (pc + 3) lv st R) : zs_V M pc lv (.int (nI y) :: .int (nI x) :: st) R := fun S hJ => g_ic_ltN tgt hd ht hx hy (fun h => kt h S hJ) (fun h => kf h S hJ)
theorem n_if_ge {x : Int32} {off : Int} (tgt : Nat) (hd : decode M.2.1 pc = .ok (.ifCond .ge off, 3)) (ht : (pc : Int) + off = (tgt : Int)) (kt : 0 ≤ x → zs_V M tgt lv st R) (kf : ¬ 0 ≤ x → zs_V M (pc + 3) lv st R) : zs_V M pc lv (.int x :: st) R := fun S hJ => g_if_ge tgt hd ht (fun h => kt h S hJ) (fun h => kf h S hJ)
theorem n_ic_ge {x y : Int32} {off : Int} (tgt : Nat) (hd : decode M.2.1 pc = .ok (.if_icmp .ge off, 3)) (ht : (pc : Int) + off = (tgt : Int)) (kt : y ≤ x → zs_V M tgt lv st R) (kf : ¬ y ≤ x → zs_V M (pc + 3) lv st R) : zs_V M pc lv (.int y :: .int x :: st) R := fun S hJ => g_ic_ge tgt hd ht (fun h => kt h S hJ) (fun h => kf h S hJ)
theorem n_ic_geN {x y : Nat} {off : Int} (tgt : Nat) (hd : decode M.2.1 pc = .ok (.if_icmp .ge off, 3)) (ht : (pc : Int) + off = (tgt : Int)) (hx : x < 2 ^ 31) (hy : y < 2 ^ 31) (kt : y ≤ x → zs_V M tgt lv st R) (kf : x < y → zs_V M (pc + 3) lv st R) : zs_V M pc lv (.int (nI y) :: .int (nI x) :: st) R := fun S hJ => g_ic_geN tgt hd ht hx hy (fun h => kt h S hJ) (fun h => kf h S hJ)
theorem n_if_gt {x : Int32} {off : Int} (tgt : Nat) (hd : decode M.2.1 pc = .ok (.ifCond .gt off, 3)) (ht : (pc : Int) + off = (tgt : Int)) (kt : 0 < x → zs_V M tgt lv st R) (kf : ¬ 0 < x → zs_V M (pc + 3) lv st R) : zs_V M pc lv (.int x :: st) R := fun S hJ => g_if_gt tgt hd ht (fun h => kt h S hJ) (fun h => kf h S hJ)
theorem n_ic_gt {x y : Int32} {off : Int} (tgt : Nat) (hd : decode M.2.1 pc = .ok (.if_icmp .gt off, 3)) (ht : (pc : Int) + off = (tgt : Int)) (kt : y < x → zs_V M tgt lv st R) (kf : ¬ y < x → zs_V M (pc + 3) lv st R) : zs_V M pc lv (.int y :: .int x :: st) R := fun S hJ => g_ic_gt tgt hd ht (fun h => kt h S hJ) (fun h => kf h S hJ)
theorem n_ic_gtN {x y : Nat} {off : Int} (tgt : Nat) (hd : decode M.2.1 pc = .ok (.if_icmp .gt off, 3)) (ht : (pc : Int) + off = (tgt : Int)) (hx : x < 2 ^ 31) (hy : y < 2 ^ 31) (kt : y < x → zs_V M tgt lv st R) (kf : x ≤ y → zs_V M (pc + 3) lv st R) : zs_V M pc lv (.int (nI y) :: .int (nI x) :: st) R := fun S hJ => g_ic_gtN tgt hd ht hx hy (fun h => kt h S hJ) (fun h => kf h S hJ)
theorem n_if_le {x : Int32} {off : Int} (tgt : Nat) (hd : decode M.2.1 pc = .ok (.ifCond .le off, 3)) (ht : (pc : Int) + off = (tgt : Int)) (kt : x ≤ 0 → zs_V M tgt lv st R) (kf : ¬ x ≤ 0 → zs_V M (pc + 3) lv st R) : zs_V M pc lv (.int x :: st) R := fun S hJ => g_if_le tgt hd ht (fun h => kt h S hJ) (fun h => kf h S hJ)
theorem n_ic_le {x y : Int32} {off : Int} (tgt : Nat) (hd : decode M.2.1 pc = .ok (.if_icmp .le off, 3)) (ht : (pc : Int) + off = (tgt : Int)) (kt : x ≤ y → zs_V M tgt lv st R) (kf : ¬ x ≤ y → zs_V M (pc + 3) lv st R) : zs_V M pc lv (.int y :: .int x :: st) R := fun S hJ => g_ic_le tgt hd ht (fun h => kt h S hJ) (fun h => kf h S hJ)
theorem n_ic_leN {x y : Nat} {off : Int} (tgt : Nat) (hd : decode M.2.1 pc = .ok (.if_icmp .le off, 3)) (ht : (pc : Int) + off = (tgt : Int)) (hx : x < 2 ^ 31) (hy : y < 2 ^ 31) (kt : x ≤ y → zs_V M tgt lv st R) (kf : y < x → zs_V M (pc + 3) lv st R) : zs_V M pc lv (.int (nI y) :: .int (nI x) :: st) R := fun S hJ => g_ic_leN tgt hd ht hx hy (fun h => kt h S hJ) (fun h => kf h S hJ)
theorem n_if_eqN {x : Nat} {off : Int} (tgt : Nat) (hd : decode M.2.1 pc = .ok (.ifCond .eq off, 3)) (ht : (pc : Int) + off = (tgt : Int)) (hx : x < 2 ^ 31) (kt : x = 0 → zs_V M tgt lv st R) (kf : x ≠ 0 → zs_V M (pc + 3) lv st R) : zs_V M pc lv (.int (nI x) :: st) R := fun S hJ => g_if_eqN tgt hd ht hx (fun h => kt h S hJ) (fun h => kf h S hJ)
theorem n_if_neN {x : Nat} {off : Int} (tgt : Nat) (hd : decode M.2.1 pc = .ok (.ifCond .ne off, 3)) (ht : (pc : Int) + off = (tgt : Int)) (hx : x < 2 ^ 31) (kt : x ≠ 0 → zs_V M tgt lv st R) (kf : x = 0 → zs_V M (pc + 3) lv st R) : zs_V M pc lv (.int (nI x) :: st) R := fun S hJ => g_if_neN tgt hd ht hx (fun h => kt h S hJ) (fun h => kf h S hJ)
theorem n_if_gtN {x : Nat} {off : Int} (tgt : Nat) (hd : decode M.2.1 pc = .ok (.ifCond .gt off, 3)) (ht : (pc : Int) + off = (tgt : Int)) (hx : x < 2 ^ 31) (kt : 0 < x → zs_V M tgt lv st R) (kf : x = 0 → zs_V M (pc + 3) lv st R) : zs_V M pc lv (.int (nI x) :: st) R := fun S hJ => g_if_gtN tgt hd ht hx (fun h => kt h S hJ) (fun h => kf h S hJ)
theorem n_if_leN {x : Nat} {off : Int} (tgt : Nat) (hd : decode M.2.1 pc = .ok (.ifCond .le off, 3)) (ht : (pc : Int) + off = (tgt : Int)) (hx : x < 2 ^ 31) (kt : x = 0 → zs_V M tgt lv st R) (kf : 0 < x → zs_V M (pc + 3) lv st R) : zs_V M pc lv (.int (nI x) :: st) R := fun S hJ => g_if_leN tgt hd ht hx (fun h => kt h S hJ) (fun h => kf h S hJ)
theorem n_if_ltN {x : Nat} {off : Int} (tgt : Nat) (hd : decode M.2.1 pc = .ok (.ifCond .lt off, 3)) (ht : (pc : Int) + off = (tgt : Int)) (hx : x < 2 ^ 31) (kf : zs_V M (pc + 3) lv st R) : zs_V M pc lv (.int (nI x) :: st) R := fun S hJ => g_if_ltN tgt hd ht hx (kf S hJ)
theorem n_if_geN {x : Nat} {off : Int} (tgt : Nat) (hd : decode M.2.1 pc = .ok (.ifCond .ge off, 3)) (ht : (pc : Int) + off = (tgt : Int)) (hx : x < 2 ^ 31) (kt : zs_V M tgt lv st R) : zs_V M pc lv (.int (nI x) :: st) R := fun S hJ => g_if_geN tgt hd ht hx (kt S hJ)
theorem n_getI {a ci idx N : Nat} (j : Nat) {fl : List Nat} {C : String} {T : u_T} (hd : decode M.2.1 pc = .ok (.getfield idx, 3)) (ha : a < zs_n) (hs : zs_sh a = .inr (ci, fl)) (hc : vwCl[ci]? = some (C, T, N)) (hj : j < N) (hf : fl[j]? = some 0) (hw : Cond.fieldLink M.1.cls idx (T j).1 (T j).2.1 (T j).2.2.1 ∈ zs_tbl) (k : ∀ v, zs_V M (pc + 3) lv (.int v :: st) R) : zs_V M pc lv (.ref a :: st) R := fun S hJ => g_getI j hd ha hs hc hj hf hw (k _ S hJ)
theorem n_getIR {lo up : Nat} {a ci idx N : Nat} (j : Nat) {fl : List Nat} {C : String} {T : u_T} (hd : decode M.2.1 pc = .ok (.getfield idx, 3)) (ha : a < zs_n) (hs : zs_sh a = .inr (ci, fl)) (hc : vwCl[ci]? = some (C, T, N)) (hj : j < N) (hf : fl[j]? = some 0) (hw : Cond.fieldLink M.1.cls idx (T j).1 (T j).2.1 (T j).2.2.1 ∈ zs_tbl) (hr : zs_rg a j = some (lo, up)) (k : ∀ m, lo ≤ m → m ≤ up → zs_V M (pc + 3) lv (.int (nI m) :: st) R) : zs_V M pc lv (.ref a :: st) R := fun S hJ => by
  obtain ⟨m, h1, h2, h3⟩ := hJ.1 a j lo up hr
  exact g_getV j (v := nI m) hd ha hs hc hj hf hw h3 (k m h1 h2 S hJ)
theorem n_getL {a ci idx N : Nat} (j : Nat) {fl : List Nat} {C : String} {T : u_T} (hd : decode M.2.1 pc = .ok (.getfield idx, 3)) (ha : a < zs_n) (hs : zs_sh a = .inr (ci, fl)) (hc : vwCl[ci]? = some (C, T, N)) (hj : j < N) (hf : fl[j]? = some 1) (hw : Cond.fieldLink M.1.cls idx (T j).1 (T j).2.1 (T j).2.2.1 ∈ zs_tbl) (k : ∀ v, zs_V M (pc + 3) lv (.long v :: st) R) : zs_V M pc lv (.ref a :: st) R := fun S hJ => g_getL j hd ha hs hc hj hf hw (k _ S hJ)
theorem n_getR {a ci idx N : Nat} (j b : Nat) {fl : List Nat} {C : String} {T : u_T} (hd : decode M.2.1 pc = .ok (.getfield idx, 3)) (ha : a < zs_n) (hs : zs_sh a = .inr (ci, fl)) (hc : vwCl[ci]? = some (C, T, N)) (hj : j < N) (hf : fl[j]? = some (b + 2)) (hw : Cond.fieldLink M.1.cls idx (T j).1 (T j).2.1 (T j).2.2.1 ∈ zs_tbl) (k : zs_V M (pc + 3) lv (.ref b :: st) R) : zs_V M pc lv (.ref a :: st) R := fun S hJ => g_getR j b hd ha hs hc hj hf hw (k S hJ)
theorem n_putI {a ci idx N : Nat} (j : Nat) {fl : List Nat} {C : String} {T : u_T} {x : Int32} {ty : FieldType} (hd : decode M.2.1 pc = .ok (.putfield idx, 3)) (ha : a < zs_n) (hs : zs_sh a = .inr (ci, fl)) (hc : vwCl[ci]? = some (C, T, N)) (hj : j < N) (hf : fl[j]? = some 0) (hw : Cond.fieldLink M.1.cls idx (T j).1 (T j).2.1 (T j).2.2.1 ∈ zs_tbl) (hfin : (T j).2.2.2 = false) (hty : parseFieldDescriptor (T j).2.2.1 = some ty) (hn : narrow ty (.int x) = .int x ∧ fits ty (.int x) = true) (hp : zs_pm a j = false) (hr : zs_rg a j = none) (h1 : a ≠ 82) (h2 : a ≠ 83) (k : zs_V M (pc + 3) lv st R) : zs_V M pc lv (.int x :: .ref a :: st) R := fun S hJ => g_putI j hd ha hs hc hj hf hw hfin hty hn (zs_Vfr k (hJ.up (zs_okN hr h1 h2)) (zs_fm.up hp))
theorem n_putL {a ci idx N : Nat} (j : Nat) {fl : List Nat} {C : String} {T : u_T} {x : Int64} (hd : decode M.2.1 pc = .ok (.putfield idx, 3)) (ha : a < zs_n) (hs : zs_sh a = .inr (ci, fl)) (hc : vwCl[ci]? = some (C, T, N)) (hj : j < N) (hf : fl[j]? = some 1) (hw : Cond.fieldLink M.1.cls idx (T j).1 (T j).2.1 (T j).2.2.1 ∈ zs_tbl) (hfin : (T j).2.2.2 = false) (hty : parseFieldDescriptor (T j).2.2.1 = some .long) (hp : zs_pm a j = false) (k : zs_V M (pc + 3) lv st R) : zs_V M pc lv (.long x :: .ref a :: st) R := fun S hJ => g_putL j hd ha hs hc hj hf hw hfin hty (zs_Vfr k hJ.upL (zs_fm.upL hp))
theorem n_ald {a n i : Nat} (hd : decode M.2.1 pc = .ok (.iaload, 1)) (ha : a < zs_n) (hs : zs_sh a = .inl (0, n)) (hi : i < n) (hn : n < 2 ^ 31) (k : ∀ v, zs_V M (pc + 1) lv (.int v :: st) R) : zs_V M pc lv (.int (nI i) :: .ref a :: st) R := fun S hJ => g_ialdN hd ha hs hi hn rfl (k _ S hJ)
theorem n_aldR {a n i lo up : Nat} (hd : decode M.2.1 pc = .ok (.iaload, 1)) (ha : a < zs_n) (hs : zs_sh a = .inl (0, n)) (hi : i < n) (hn : n < 2 ^ 31) (hr : zs_rg a i = some (lo, up)) (k : ∀ m, lo ≤ m → m ≤ up → zs_V M (pc + 1) lv (.int (nI m) :: st) R) : zs_V M pc lv (.int (nI i) :: .ref a :: st) R := fun S hJ => by
  obtain ⟨m, h1, h2, h3⟩ := hJ.1 a i lo up hr
  exact g_ialdN (v := nI m) hd ha hs hi hn h3 (k m h1 h2 S hJ)
theorem n_ast {a n i : Nat} {x : Int32} (hd : decode M.2.1 pc = .ok (.iastore, 1)) (ha : a < zs_n) (hs : zs_sh a = .inl (0, n)) (hi : i < n) (hn : n < 2 ^ 31) (hp : zs_pm a i = false) (hr : zs_ok a i x) (k : zs_V M (pc + 1) lv st R) : zs_V M pc lv (.int x :: .int (nI i) :: .ref a :: st) R := fun S hJ => g_iastN hd ha hs hi hn (zs_Vfr k (hJ.up hr) (zs_fm.up hp))
theorem n_iret {v : Int32} {ty : FieldType} (hd : decode M.2.1 pc = .ok (.ireturn, 1)) (hr : M.2.2.2.1 = some ty) (hn : narrow ty (.int v) = .int v) (hq : R (some (.int v))) : zs_V M pc lv [.int v] R := fun S hJ => g_iret hd hr hn ⟨hq, hJ, zs_fm.rf⟩
theorem n_lret {v : Int64} (hd : decode M.2.1 pc = .ok (.lreturn, 1)) (hr : M.2.2.2.1 = some .long) (hq : R (some (.long v))) : zs_V M pc lv [.long v] R := fun S hJ => g_lret hd hr ⟨hq, hJ, zs_fm.rf⟩
theorem n_ret (hd : decode M.2.1 pc = .ok (.return_, 1)) (hr : M.2.2.2.1 = none) (hq : R none) : zs_V M pc lv [] R := fun S hJ => g_ret hd hr ⟨hq, hJ, zs_fm.rf⟩
theorem n_callV {N : zs_M} {a ci idx n NN : Nat} {fl : List Nat} {T : u_T} {As : List Value} (rest : List Value) {st0 : List Value} {R1 : Option Value → Prop} (hX : zs_U N (.ref a :: As) R1) (hd : decode M.2.1 pc = .ok (.invokevirtual idx, 3)) (hK : zs_K M N n) (hl1 : Cond.methodLink M.1.cls idx N.1 ∈ zs_tbl) (hl2 : Cond.instanceMethod N.1 ∈ zs_tbl) (hl3 : Cond.selects N.1.cls N.1 N.1 ∈ zs_tbl) (ha : a < zs_n) (hs : zs_sh a = .inr (ci, fl)) (hc : vwCl[ci]? = some (N.1.cls, T, NN)) (hn : As.length = n) (hst : st0 = As.reverse ++ .ref a :: rest) (hcat : (rest.map fun v => v.category).sum ≤ 8)
    (k : ∀ v, R1 v → zs_V M (pc + 3) lv (v.toList ++ rest) R) : zs_V M pc lv st0 R := fun S hJ => g_callV rest (hX S hJ) hd hK hl1 hl2 hl3 ha hs hc hn hst hcat (fun v S' q => zs_Vfr (k v q.1) q.2.1 q.2.2)
theorem n_callS {N : zs_M} {idx n : Nat} (As rest : List Value) {st0 : List Value} {R1 : Option Value → Prop} (hX : zs_U N As R1) (hd : decode M.2.1 pc = .ok (.invokestatic idx, 3)) (hK : zs_K M N n) (hl1 : Cond.methodLink M.1.cls idx N.1 ∈ zs_tbl) (hl2 : Cond.static N.1 ∈ zs_tbl) (hn : As.length = n) (hst : st0 = As.reverse ++ rest) (hcat : (rest.map fun v => v.category).sum ≤ 8)
    (k : ∀ v, R1 v → zs_V M (pc + 3) lv (v.toList ++ rest) R) : zs_V M pc lv st0 R := fun S hJ => g_callS As rest (hX S hJ) hd hK hl1 hl2 hn hst hcat (fun v S' q => zs_Vfr (k v q.1) q.2.1 q.2.2)
end zs_model
theorem zs_inR {v : Int32} {lo hi : Nat} (h : lN lo ≤ v.toInt64 ∧ v.toInt64 ≤ lN hi) (h1 : lo < 2 ^ 31) (h2 : hi < 2 ^ 31) : ∃ k : Nat, lo ≤ k ∧ k ≤ hi ∧ v = nI k := by
  have e : nI lo ≤ v ∧ v ≤ nI hi := by
    rw [Int64.le_iff_toInt_le, Int64.le_iff_toInt_le, lN_toInt h1, lN_toInt h2, Int32.toInt_toInt64] at h
    rw [Int32.le_iff_toInt_le, Int32.le_iff_toInt_le, nI_toInt h1, nI_toInt h2]
    exact h
  exact zs_rng e ⟨h1, h2⟩
theorem zs_inE {v : Int32} {m : Nat} (h : lN 0 ≤ v.toInt64 ∧ v.toInt64 ≤ (nI m - nI 1).toInt64) (hm : m < 2 ^ 20) : ∃ k : Nat, k < m ∧ v = nI k := by
  rcases Nat.eq_zero_or_pos m with rfl | hp
  · have h1 := Int64.le_iff_toInt_le.mp h.1
    have h2 := Int64.le_iff_toInt_le.mp h.2
    rw [Int32.toInt_toInt64] at h1 h2
    rw [Int32.toInt_toInt64, show (nI 0 - nI 1).toInt = -1 by decide] at h2
    rw [lN_toInt (by decide)] at h1
    omega
  · rw [pk_sub hp] at h
    have e : nI 0 ≤ v ∧ v ≤ nI (m - 1) := by
      rw [Int64.le_iff_toInt_le, Int64.le_iff_toInt_le, lN_toInt (by decide), Int32.toInt_toInt64, Int32.toInt_toInt64] at h
      rw [Int32.le_iff_toInt_le, Int32.le_iff_toInt_le, nI_toInt (by decide)]
      exact h
    obtain ⟨k, -, h2, rfl⟩ := zs_rng e ⟨by decide, by omega⟩
    exact ⟨k, by omega, rfl⟩
