/-! only the drum apart is written: cells 46 to 58 -/
def zs_pr3 (b i : Nat) : Bool := Nat.ble b 45 || Nat.ble 59 b || ((Nat.beq b 53 || Nat.beq b 55 || Nat.beq b 57) && Nat.beq i 2)
def zs_fr3 (S S2 : zs_S) : Prop := ∀ b i, zs_pr3 b i = true → S2.1 b i = S.1 b i ∧ S2.2 b i = S.2 b i
theorem zs_fr3.rf {S : zs_S} : zs_fr3 S S := fun _ _ _ => ⟨rfl, rfl⟩
theorem zs_fr3.tr {S S1 S2 : zs_S} (h : zs_fr3 S S1) (k : zs_fr3 S1 S2) : zs_fr3 S S2 := fun b i hb => ⟨(k b i hb).1.trans (h b i hb).1, (k b i hb).2.trans (h b i hb).2⟩
theorem zs_fr3.up {S : zs_S} {a j : Nat} {v : Int32} (h : zs_pr3 a j = false) : zs_fr3 S (zs_up S.1 a j v, S.2) := fun b i hb => ⟨zs_up_n (fun q => by rw [q.1, q.2, h] at hb; exact absurd hb (by decide)), rfl⟩
theorem zs_fr3.upL {S : zs_S} {a j : Nat} {v : Int64} (h : zs_pr3 a j = false) : zs_fr3 S (S.1, zs_upL S.2 a j v) := fun b i hb => ⟨rfl, by
  show zs_upL S.2 a j v b i = S.2 b i
  simp only [zs_upL]
  rw [if_neg (fun q => by rw [q.1, q.2, h] at hb; exact absurd hb (by decide))]⟩
def zs_wA3 (a : Nat) : Prop := a < 59 ∧ a ≠ 0 ∧ (46 ≤ a ∧ a ≠ 53 ∧ a ≠ 55 ∧ a ≠ 57)
theorem zs_wA3.pr {a : Nat} (h : zs_wA3 a) (i : Nat) : zs_pr3 a i = false := by
  rw [Bool.eq_false_iff]
  intro z
  simp only [zs_pr3, Bool.or_eq_true, Bool.and_eq_true, Nat.ble_eq, Nat.beq_eq] at z
  obtain ⟨h1, h2, h3⟩ := h
  omega
theorem zs_fr3.arr {S S2 : zs_S} {a : Nat} (h : zs_wA3 a) (h1 : ∀ b i, b ≠ a → S2.1 b i = S.1 b i) (h2 : S2.2 = S.2) : zs_fr3 S S2 := fun b i hb => ⟨h1 b i (fun q => by rw [q, h.pr i] at hb; exact absurd hb (by decide)), by rw [h2]⟩
def zs_W3 (M : zs_M) (pc : Nat) (lv : List (Nat × Value)) (st : List Value) (R : Option Value → Prop) : Prop := ∀ S, zs_P M pc lv st S (fun v S2 => R v ∧ zs_fr3 S S2)
def zs_D3 (N : zs_M) (args : List Value) (R : Option Value → Prop) : Prop := ∀ S, zs_C N args S (fun v S2 => R v ∧ zs_fr3 S S2)
theorem zs_W3of {M : zs_M} {args : List Value} {R : Option Value → Prop} (hy : plainName M.1.cls = true) (hlen : (lg_sl args).length ≤ M.2.2.1) (h : zs_W3 M 0 (lv_args 0 args) [] R) : zs_D3 M args R := fun S => zs_C.of hy hlen (h S)
theorem zs_W3oF {M : zs_M} {args : List Value} {R : Option Value → Prop} (hy : plainFor M.1 = true) (hlen : (lg_sl args).length ≤ M.2.2.1) (h : zs_W3 M 0 (lv_args 0 args) [] R) : zs_D3 M args R := fun S => zs_CF hy hlen (h S)
theorem zs_W3fr {M : zs_M} {pc : Nat} {lv : List (Nat × Value)} {st : List Value} {R : Option Value → Prop} {S S' : zs_S} (h : zs_W3 M pc lv st R) (f : zs_fr3 S S') : zs_P M pc lv st S' (fun v S2 => R v ∧ zs_fr3 S S2) := (h S').mono (fun _ _ q => ⟨q.1, f.tr q.2⟩)
theorem zs_W3lv {M : zs_M} {pc : Nat} {lv lv2 : List (Nat × Value)} {st : List Value} {R : Option Value → Prop} (h : zs_W3 M pc lv2 st R) (hs : ∀ q ∈ lv2, q ∈ lv) : zs_W3 M pc lv st R := fun S => (h S).lv hs
section zs_weak3
variable {M : zs_M} {pc : Nat} {lv lv' : List (Nat × Value)} {st : List Value} {R : Option Value → Prop}
theorem h3_iconst {n : Int} {v : Int32} (hd : decode M.2.1 pc = .ok (.iconst n, 1)) (hv : Int32.ofInt n = v) (k : zs_W3 M (pc + 1) lv (.int v :: st) R) : zs_W3 M pc lv st R := fun S => g_iconst hd hv (k S)
theorem h3_bipush {n : Int} {v : Int32} (hd : decode M.2.1 pc = .ok (.bipush n, 2)) (hv : (Int8.ofInt n).toInt32 = v) (k : zs_W3 M (pc + 2) lv (.int v :: st) R) : zs_W3 M pc lv st R := fun S => g_bipush hd hv (k S)
theorem h3_sipush {n : Int} {v : Int32} (hd : decode M.2.1 pc = .ok (.sipush n, 3)) (hv : (Int16.ofInt n).toInt32 = v) (k : zs_W3 M (pc + 3) lv (.int v :: st) R) : zs_W3 M pc lv st R := fun S => g_sipush hd hv (k S)
theorem h3_iload_n {j : Fin 4} {i : Nat} {x : Int32} (hd : decode M.2.1 pc = .ok (.iload_n j, 1)) (hi : (j : Nat) = i) (hk : zs_lk lv i = some (.int x)) (k : zs_W3 M (pc + 1) lv (.int x :: st) R) : zs_W3 M pc lv st R := fun S => g_iload_n hd hi hk (k S)
theorem h3_iload {i : Nat} {x : Int32} (hd : decode M.2.1 pc = .ok (.iload i, 2)) (hk : zs_lk lv i = some (.int x)) (k : zs_W3 M (pc + 2) lv (.int x :: st) R) : zs_W3 M pc lv st R := fun S => g_iload hd hk (k S)
theorem h3_istore_n {j : Fin 4} {i : Nat} {x : Int32} (hd : decode M.2.1 pc = .ok (.istore_n j, 1)) (hi : (j : Nat) = i) (hn : i < M.2.2.1) (he : (i, Value.int x) :: lv.filter (fun q => !(q.1 == i) && !(q.1 + 1 == i && q.2.category == 2)) = lv') (k : zs_W3 M (pc + 1) lv' st R) : zs_W3 M pc lv (.int x :: st) R := fun S => g_istore_n hd hi hn he (k S)
theorem h3_istore {i : Nat} {x : Int32} (hd : decode M.2.1 pc = .ok (.istore i, 2)) (hn : i < M.2.2.1) (he : (i, Value.int x) :: lv.filter (fun q => !(q.1 == i) && !(q.1 + 1 == i && q.2.category == 2)) = lv') (k : zs_W3 M (pc + 2) lv' st R) : zs_W3 M pc lv (.int x :: st) R := fun S => g_istore hd hn he (k S)
theorem h3_aload_n {j : Fin 4} {i : Nat} {x : Nat} (hd : decode M.2.1 pc = .ok (.aload_n j, 1)) (hi : (j : Nat) = i) (hk : zs_lk lv i = some (.ref x)) (k : zs_W3 M (pc + 1) lv (.ref x :: st) R) : zs_W3 M pc lv st R := fun S => g_aload_n hd hi hk (k S)
theorem h3_iinc {i : Nat} {n : Int} {x v : Int32} (hd : decode M.2.1 pc = .ok (.iinc i n, 3)) (hk : zs_lk lv i = some (.int x)) (hv : x + Int32.ofInt n = v) (hn : i < M.2.2.1) (he : (i, Value.int v) :: lv.filter (fun q => !(q.1 == i) && !(q.1 + 1 == i && q.2.category == 2)) = lv') (k : zs_W3 M (pc + 3) lv' st R) : zs_W3 M pc lv st R := fun S => g_iinc hd hk hv hn he (k S)
theorem h3_iadd {x y : Int32} (hd : decode M.2.1 pc = .ok (.iadd, 1)) (k : ∀ v, zs_W3 M (pc + 1) lv (.int v :: st) R) : zs_W3 M pc lv (.int y :: .int x :: st) R := fun S => g_iadd hd (k _ S)
theorem h3_isub {x y : Int32} (hd : decode M.2.1 pc = .ok (.isub, 1)) (k : ∀ v, zs_W3 M (pc + 1) lv (.int v :: st) R) : zs_W3 M pc lv (.int y :: .int x :: st) R := fun S => g_isub hd (k _ S)
theorem h3_imul {x y : Int32} (hd : decode M.2.1 pc = .ok (.imul, 1)) (k : ∀ v, zs_W3 M (pc + 1) lv (.int v :: st) R) : zs_W3 M pc lv (.int y :: .int x :: st) R := fun S => g_imul hd (k _ S)
theorem h3_ixor {x y : Int32} (hd : decode M.2.1 pc = .ok (.ixor, 1)) (k : ∀ v, zs_W3 M (pc + 1) lv (.int v :: st) R) : zs_W3 M pc lv (.int y :: .int x :: st) R := fun S => g_ixor hd (k _ S)
theorem h3_idiv {x y : Int32} (hd : decode M.2.1 pc = .ok (.idiv, 1)) (hne : ¬ y = 0) (k : ∀ v, zs_W3 M (pc + 1) lv (.int v :: st) R) : zs_W3 M pc lv (.int y :: .int x :: st) R := fun S => g_idiv hd hne (k _ S)
theorem h3_irem {x y : Int32} (hd : decode M.2.1 pc = .ok (.irem, 1)) (hne : ¬ y = 0) (k : ∀ v, zs_W3 M (pc + 1) lv (.int v :: st) R) : zs_W3 M pc lv (.int y :: .int x :: st) R := fun S => g_irem hd hne (k _ S)
theorem h3_ineg {x : Int32} (hd : decode M.2.1 pc = .ok (.ineg, 1)) (k : ∀ v, zs_W3 M (pc + 1) lv (.int v :: st) R) : zs_W3 M pc lv (.int x :: st) R := fun S => g_ineg hd (k _ S)
theorem h3_dup {va : Value} (hd : decode M.2.1 pc = .ok (.dup, 1)) (hc : va.category = 1) (k : zs_W3 M (pc + 1) lv (va :: va :: st) R) : zs_W3 M pc lv (va :: st) R := fun S => g_dup hd hc (k S)
theorem h3_goto {off : Int} (tgt : Nat) (hd : decode M.2.1 pc = .ok (.goto off, 3)) (ht : (pc : Int) + off = (tgt : Int)) (k : zs_W3 M tgt lv st R) : zs_W3 M pc lv st R := fun S => g_goto tgt hd ht (k S)
theorem h3_if_eq {x : Int32} {off : Int} (tgt : Nat) (hd : decode M.2.1 pc = .ok (.ifCond .eq off, 3)) (ht : (pc : Int) + off = (tgt : Int)) (kt : x = 0 → zs_W3 M tgt lv st R) (kf : ¬ x = 0 → zs_W3 M (pc + 3) lv st R) : zs_W3 M pc lv (.int x :: st) R := fun S => g_if_eq tgt hd ht (fun h => kt h S) (fun h => kf h S)
theorem h3_ic_eq {x y : Int32} {off : Int} (tgt : Nat) (hd : decode M.2.1 pc = .ok (.if_icmp .eq off, 3)) (ht : (pc : Int) + off = (tgt : Int)) (kt : x = y → zs_W3 M tgt lv st R) (kf : ¬ x = y → zs_W3 M (pc + 3) lv st R) : zs_W3 M pc lv (.int y :: .int x :: st) R := fun S => g_ic_eq tgt hd ht (fun h => kt h S) (fun h => kf h S)
theorem h3_if_ne {x : Int32} {off : Int} (tgt : Nat) (hd : decode M.2.1 pc = .ok (.ifCond .ne off, 3)) (ht : (pc : Int) + off = (tgt : Int)) (kt : ¬ x = 0 → zs_W3 M tgt lv st R) (kf : x = 0 → zs_W3 M (pc + 3) lv st R) : zs_W3 M pc lv (.int x :: st) R := fun S => g_if_ne tgt hd ht (fun h => kt h S) (fun h => kf h S)
theorem h3_ic_ne {x y : Int32} {off : Int} (tgt : Nat) (hd : decode M.2.1 pc = .ok (.if_icmp .ne off, 3)) (ht : (pc : Int) + off = (tgt : Int)) (kt : ¬ x = y → zs_W3 M tgt lv st R) (kf : x = y → zs_W3 M (pc + 3) lv st R) : zs_W3 M pc lv (.int y :: .int x :: st) R := fun S => g_ic_ne tgt hd ht (fun h => kt h S) (fun h => kf h S)
theorem h3_ic_lt {x y : Int32} {off : Int} (tgt : Nat) (hd : decode M.2.1 pc = .ok (.if_icmp .lt off, 3)) (ht : (pc : Int) + off = (tgt : Int)) (kt : x < y → zs_W3 M tgt lv st R) (kf : ¬ x < y → zs_W3 M (pc + 3) lv st R) : zs_W3 M pc lv (.int y :: .int x :: st) R := fun S => g_ic_lt tgt hd ht (fun h => kt h S) (fun h => kf h S)
theorem h3_if_ge {x : Int32} {off : Int} (tgt : Nat) (hd : decode M.2.1 pc = .ok (.ifCond .ge off, 3)) (ht : (pc : Int) + off = (tgt : Int)) (kt : 0 ≤ x → zs_W3 M tgt lv st R) (kf : ¬ 0 ≤ x → zs_W3 M (pc + 3) lv st R) : zs_W3 M pc lv (.int x :: st) R := fun S => g_if_ge tgt hd ht (fun h => kt h S) (fun h => kf h S)
theorem h3_ic_ge {x y : Int32} {off : Int} (tgt : Nat) (hd : decode M.2.1 pc = .ok (.if_icmp .ge off, 3)) (ht : (pc : Int) + off = (tgt : Int)) (kt : y ≤ x → zs_W3 M tgt lv st R) (kf : ¬ y ≤ x → zs_W3 M (pc + 3) lv st R) : zs_W3 M pc lv (.int y :: .int x :: st) R := fun S => g_ic_ge tgt hd ht (fun h => kt h S) (fun h => kf h S)
theorem h3_ic_gt {x y : Int32} {off : Int} (tgt : Nat) (hd : decode M.2.1 pc = .ok (.if_icmp .gt off, 3)) (ht : (pc : Int) + off = (tgt : Int)) (kt : y < x → zs_W3 M tgt lv st R) (kf : ¬ y < x → zs_W3 M (pc + 3) lv st R) : zs_W3 M pc lv (.int y :: .int x :: st) R := fun S => g_ic_gt tgt hd ht (fun h => kt h S) (fun h => kf h S)
theorem h3_ic_le {x y : Int32} {off : Int} (tgt : Nat) (hd : decode M.2.1 pc = .ok (.if_icmp .le off, 3)) (ht : (pc : Int) + off = (tgt : Int)) (kt : x ≤ y → zs_W3 M tgt lv st R) (kf : ¬ x ≤ y → zs_W3 M (pc + 3) lv st R) : zs_W3 M pc lv (.int y :: .int x :: st) R := fun S => g_ic_le tgt hd ht (fun h => kt h S) (fun h => kf h S)
theorem h3_tin {x : Int32} {dflt lo hi off : Int} {offs : Array Int} {len : Nat} (tgt : Nat) (hd : decode M.2.1 pc = .ok (.tableswitch dflt lo hi offs, len)) (h1 : ¬ x.toInt < lo) (h2 : ¬ hi < x.toInt) (ho : offs[(x.toInt - lo).toNat]? = some off) (ht : (pc : Int) + off = (tgt : Int)) (k : zs_W3 M tgt lv st R) : zs_W3 M pc lv (.int x :: st) R := fun S => g_tin tgt hd h1 h2 ho ht (k S)
theorem h3_tout {x : Int32} {dflt lo hi : Int} {offs : Array Int} {len : Nat} (tgt : Nat) (hd : decode M.2.1 pc = .ok (.tableswitch dflt lo hi offs, len)) (h : x.toInt < lo ∨ hi < x.toInt) (ht : (pc : Int) + dflt = (tgt : Int)) (k : zs_W3 M tgt lv st R) : zs_W3 M pc lv (.int x :: st) R := fun S => g_tout tgt hd h ht (k S)
theorem h3_getI {a ci idx N : Nat} (j : Nat) {fl : List Nat} {C : String} {T : u_T} (hd : decode M.2.1 pc = .ok (.getfield idx, 3)) (ha : a < zs_n) (hs : zs_sh a = .inr (ci, fl)) (hc : vwCl[ci]? = some (C, T, N)) (hj : j < N) (hf : fl[j]? = some 0) (hw : Cond.fieldLink M.1.cls idx (T j).1 (T j).2.1 (T j).2.2.1 ∈ zs_tbl) (k : ∀ v, zs_W3 M (pc + 3) lv (.int v :: st) R) : zs_W3 M pc lv (.ref a :: st) R := fun S => g_getI j hd ha hs hc hj hf hw (k _ S)
theorem h3_getR {a ci idx N : Nat} (j b : Nat) {fl : List Nat} {C : String} {T : u_T} (hd : decode M.2.1 pc = .ok (.getfield idx, 3)) (ha : a < zs_n) (hs : zs_sh a = .inr (ci, fl)) (hc : vwCl[ci]? = some (C, T, N)) (hj : j < N) (hf : fl[j]? = some (b + 2)) (hw : Cond.fieldLink M.1.cls idx (T j).1 (T j).2.1 (T j).2.2.1 ∈ zs_tbl) (k : zs_W3 M (pc + 3) lv (.ref b :: st) R) : zs_W3 M pc lv (.ref a :: st) R := fun S => g_getR j b hd ha hs hc hj hf hw (k S)
theorem h3_putI {a ci idx N : Nat} (j : Nat) {fl : List Nat} {C : String} {T : u_T} {x : Int32} {ty : FieldType} (hd : decode M.2.1 pc = .ok (.putfield idx, 3)) (ha : a < zs_n) (hs : zs_sh a = .inr (ci, fl)) (hc : vwCl[ci]? = some (C, T, N)) (hj : j < N) (hf : fl[j]? = some 0) (hw : Cond.fieldLink M.1.cls idx (T j).1 (T j).2.1 (T j).2.2.1 ∈ zs_tbl) (hfin : (T j).2.2.2 = false) (hty : parseFieldDescriptor (T j).2.2.1 = some ty) (hn : narrow ty (.int x) = .int x ∧ fits ty (.int x) = true) (hp : zs_pr3 a j = false) (k : zs_W3 M (pc + 3) lv st R) : zs_W3 M pc lv (.int x :: .ref a :: st) R := fun S => g_putI j hd ha hs hc hj hf hw hfin hty hn (zs_W3fr k (zs_fr3.up hp))
theorem h3_iret {v : Int32} {ty : FieldType} (hd : decode M.2.1 pc = .ok (.ireturn, 1)) (hr : M.2.2.2.1 = some ty) (hn : narrow ty (.int v) = .int v) (hq : R (some (.int v))) : zs_W3 M pc lv [.int v] R := fun S => g_iret hd hr hn ⟨hq, zs_fr3.rf⟩
theorem h3_ret (hd : decode M.2.1 pc = .ok (.return_, 1)) (hr : M.2.2.2.1 = none) (hq : R none) : zs_W3 M pc lv [] R := fun S => g_ret hd hr ⟨hq, zs_fr3.rf⟩
theorem h3_callV {N : zs_M} {a ci idx n NN : Nat} {fl : List Nat} {T : u_T} {As : List Value} (rest : List Value) {st0 : List Value} {R1 : Option Value → Prop} (hX : zs_D3 N (.ref a :: As) R1) (hd : decode M.2.1 pc = .ok (.invokevirtual idx, 3)) (hK : zs_K M N n) (hl1 : Cond.methodLink M.1.cls idx N.1 ∈ zs_tbl) (hl2 : Cond.instanceMethod N.1 ∈ zs_tbl) (hl3 : Cond.selects N.1.cls N.1 N.1 ∈ zs_tbl) (ha : a < zs_n) (hs : zs_sh a = .inr (ci, fl)) (hc : vwCl[ci]? = some (N.1.cls, T, NN)) (hn : As.length = n) (hst : st0 = As.reverse ++ .ref a :: rest) (hcat : (rest.map fun v => v.category).sum ≤ 8)
    (k : ∀ v, R1 v → zs_W3 M (pc + 3) lv (v.toList ++ rest) R) : zs_W3 M pc lv st0 R := fun S => g_callV rest (hX S) hd hK hl1 hl2 hl3 ha hs hc hn hst hcat (fun v S' q => zs_W3fr (k v q.1) q.2)
theorem h3_callS {N : zs_M} {idx n : Nat} (As rest : List Value) {st0 : List Value} {R1 : Option Value → Prop} (hX : zs_D3 N As R1) (hd : decode M.2.1 pc = .ok (.invokestatic idx, 3)) (hK : zs_K M N n) (hl1 : Cond.methodLink M.1.cls idx N.1 ∈ zs_tbl) (hl2 : Cond.static N.1 ∈ zs_tbl) (hn : As.length = n) (hst : st0 = As.reverse ++ rest) (hcat : (rest.map fun v => v.category).sum ≤ 8)
    (k : ∀ v, R1 v → zs_W3 M (pc + 3) lv (v.toList ++ rest) R) : zs_W3 M pc lv st0 R := fun S => g_callS As rest (hX S) hd hK hl1 hl2 hn hst hcat (fun v S' q => zs_W3fr (k v q.1) q.2)
theorem h3_callN {N : zs_M} {idx n : Nat} {host : String} (As rest : List Value) {st0 : List Value} {R1 : Option Value → Prop} (hX : zs_D3 N As R1) (hd : decode M.2.1 pc = .ok (.invokestatic idx, 3)) (hK : zs_K M N n) (hl1 : (M.1.cls, idx, N.1, host) ∈ zs_nst) (hl2 : Cond.static N.1 ∈ zs_tbl) (hn : As.length = n) (hst : st0 = As.reverse ++ rest) (hcat : (rest.map fun v => v.category).sum ≤ 8)
    (k : ∀ v, R1 v → zs_W3 M (pc + 3) lv (v.toList ++ rest) R) : zs_W3 M pc lv st0 R := fun S => g_callN As rest (hX S) hd hK hl1 hl2 hn hst hcat (fun v S' q => zs_W3fr (k v q.1) q.2)
end zs_weak3
theorem v3_cell (a n : Nat) (i : Int32) (ha : a < zs_n) (hs : zs_sh a = .inl (0, n)) (hn : n < 2 ^ 31) : zs_D3 MX11_cell [.ref a, .int i] zs_Ri := fun S => (x_cell S a n i ha hs hn).mono (fun _ _ q => by
  obtain ⟨x, rfl, -, rfl⟩ := q
  exact ⟨⟨_, rfl⟩, zs_fr3.rf⟩)
theorem v3_put (a n : Nat) (i v : Int32) (ha : a < zs_n) (hs : zs_sh a = .inl (0, n)) (hn : n < 2 ^ 31) (hw : zs_wA3 a) : zs_D3 MX11_put [.ref a, .int i, .int v] zs_Rv := fun S => (x_put S a n i v ha hs hn).mono (fun _ _ q => by
  obtain ⟨rfl, rfl⟩ := q
  exact ⟨rfl, zs_fr3.arr hw (fun b j h => by
    unfold zs_pu
    split
    · exact zs_up_n (fun z => h z.1)
    · rfl) (by unfold zs_pu; split <;> rfl)⟩)
theorem v3_fill (a n : Nat) (v : Int32) (ha : a < zs_n) (hs : zs_sh a = .inl (0, n)) (hn : n < 2 ^ 30) (hw : zs_wA3 a) : zs_D3 MX11_fill [.ref a, .int v] zs_Rv := fun S => (x_fill S a n v ha hs hn).mono (fun _ _ q => by
  obtain ⟨rfl, rfl⟩ := q
  exact ⟨rfl, zs_fr3.arr hw (fun b j h => by
    simp only [zs_fi]
    rw [if_neg (fun z => h z.1)]) rfl⟩)
theorem v3_floorMod (x y : Int32) (hy : ¬ y = 0) : zs_D3 MJ9_floorMod_7cf53 [.int x, .int y] zs_Ri := by
  refine zs_W3oF pf_J9_floorMod_7cf53 (Nat.le_of_ble_eq_true rfl) ?_
  show zs_W3 MJ9_floorMod_7cf53 0 [(0, .int x), (1, .int y)] [] zs_Ri
  refine h3_iload_n dJ9_floorMod_7cf53_0 rfl rfl ?_
  refine h3_iload_n dJ9_floorMod_7cf53_1 rfl rfl ?_
  refine h3_irem dJ9_floorMod_7cf53_2 hy (fun r => ?_)
  refine h3_istore_n (lv' := [(2, .int r), (0, .int x), (1, .int y)]) dJ9_floorMod_7cf53_3 rfl (by decide) rfl ?_
  refine h3_iload_n dJ9_floorMod_7cf53_4 rfl rfl ?_
  refine h3_iload_n dJ9_floorMod_7cf53_5 rfl rfl ?_
  refine h3_ixor dJ9_floorMod_7cf53_6 (fun _ => ?_)
  have j : zs_W3 MJ9_floorMod_7cf53 18 [(2, .int r), (0, .int x), (1, .int y)] [] zs_Ri := by
    refine h3_iload_n dJ9_floorMod_7cf53_18 rfl rfl ?_
    exact h3_iret dJ9_floorMod_7cf53_19 rfl rfl ⟨_, rfl⟩
  refine h3_if_ge 18 dJ9_floorMod_7cf53_7 (by decide) (fun _ => j) (fun _ => ?_)
  refine h3_iload_n dJ9_floorMod_7cf53_10 rfl rfl ?_
  refine h3_if_eq 18 dJ9_floorMod_7cf53_11 (by decide) (fun _ => j) (fun _ => ?_)
  refine h3_iload_n dJ9_floorMod_7cf53_14 rfl rfl ?_
  refine h3_iload_n dJ9_floorMod_7cf53_15 rfl rfl ?_
  refine h3_iadd dJ9_floorMod_7cf53_16 (fun _ => ?_)
  exact h3_iret dJ9_floorMod_7cf53_17 rfl rfl ⟨_, rfl⟩
set_option maxRecDepth 100000 in
theorem v3_X1_lazy (a1 : Int32) (a2 : Int32) : zs_D3 MX1_lazy [.int a1, .int a2] zs_Ri := by
  refine zs_W3of (by decide) (Nat.le_of_ble_eq_true rfl) ?_
  show zs_W3 MX1_lazy 0 [(0, .int a1), (1, .int a2)] [] zs_Ri
  refine h3_iload_n dX1_lazy_0 rfl rfl ?_
  refine h3_iload_n dX1_lazy_1 rfl rfl ?_
  refine h3_iadd dX1_lazy_2 (fun x1 => ?_)
  refine h3_iconst (v := (nI 2)) dX1_lazy_3 rfl ?_
  refine h3_idiv dX1_lazy_4 (by decide) (fun x2 => ?_)
  exact h3_iret dX1_lazy_5 rfl rfl ⟨_, rfl⟩
set_option maxRecDepth 100000 in
theorem v3_J9_abs_0f7a4 (a1 : Int32) : zs_D3 MJ9_abs_0f7a4 [.int a1] zs_Ri := by
  refine zs_W3oF pf_J9_abs_0f7a4 (Nat.le_of_ble_eq_true rfl) ?_
  show zs_W3 MJ9_abs_0f7a4 0 [(0, .int a1)] [] zs_Ri
  refine h3_iload_n dJ9_abs_0f7a4_0 rfl rfl ?_
  refine h3_if_ge 9 dJ9_abs_0f7a4_1 (by decide) (fun h1 => ?_) (fun h1 => ?_)
  · refine h3_iload_n dJ9_abs_0f7a4_9 rfl rfl ?_
    exact h3_iret dJ9_abs_0f7a4_10 rfl rfl ⟨_, rfl⟩
  · refine h3_iload_n dJ9_abs_0f7a4_4 rfl rfl ?_
    refine h3_ineg dJ9_abs_0f7a4_5 (fun x2 => ?_)
    refine h3_goto 10 dJ9_abs_0f7a4_6 (by decide) ?_
    exact h3_iret dJ9_abs_0f7a4_10 rfl rfl ⟨_, rfl⟩
set_option maxRecDepth 100000 in
theorem v3_X1_sharp (a1 : Int32) (a2 : Int32) : zs_D3 MX1_sharp [.int a1, .int a2] zs_Ri := by
  refine zs_W3of (by decide) (Nat.le_of_ble_eq_true rfl) ?_
  show zs_W3 MX1_sharp 0 [(0, .int a1), (1, .int a2)] [] zs_Ri
  refine h3_iload_n dX1_sharp_0 rfl rfl ?_
  refine h3_iload_n dX1_sharp_1 rfl rfl ?_
  refine h3_isub dX1_sharp_2 (fun x1 => ?_)
  refine h3_callS [.int x1] [] (v3_J9_abs_0f7a4 x1) dX1_sharp_3 kk_X1_sharp_J9_abs_0f7a4 ml_RX1_21 swJ9_abs_0f7a4 rfl rfl (Nat.le_of_ble_eq_true rfl) ?_
  rintro _ ⟨x2, rfl⟩
  refine h3_iconst (v := (nI 1)) dX1_sharp_6 rfl ?_
  refine h3_ic_ne 14 dX1_sharp_7 (by decide) (fun h3 => ?_) (fun h3 => ?_)
  · refine h3_iload_n dX1_sharp_14 rfl rfl ?_
    exact h3_iret dX1_sharp_15 rfl rfl ⟨_, rfl⟩
  · refine h3_iload_n dX1_sharp_10 rfl rfl ?_
    refine h3_goto 15 dX1_sharp_11 (by decide) ?_
    exact h3_iret dX1_sharp_15 rfl rfl ⟨_, rfl⟩
set_option maxRecDepth 100000 in
theorem v3_J9_min_7cf53 (a1 : Int32) (a2 : Int32) : zs_D3 MJ9_min_7cf53 [.int a1, .int a2] zs_Ri := by
  refine zs_W3oF pf_J9_min_7cf53 (Nat.le_of_ble_eq_true rfl) ?_
  show zs_W3 MJ9_min_7cf53 0 [(0, .int a1), (1, .int a2)] [] zs_Ri
  refine h3_iload_n dJ9_min_7cf53_0 rfl rfl ?_
  refine h3_iload_n dJ9_min_7cf53_1 rfl rfl ?_
  refine h3_ic_gt 9 dJ9_min_7cf53_2 (by decide) (fun h1 => ?_) (fun h1 => ?_)
  · refine h3_iload_n dJ9_min_7cf53_9 rfl rfl ?_
    exact h3_iret dJ9_min_7cf53_10 rfl rfl ⟨_, rfl⟩
  · refine h3_iload_n dJ9_min_7cf53_5 rfl rfl ?_
    refine h3_goto 10 dJ9_min_7cf53_6 (by decide) ?_
    exact h3_iret dJ9_min_7cf53_10 rfl rfl ⟨_, rfl⟩
set_option maxRecDepth 100000 in
theorem v3_X1_child (a1 : Int32) (a2 : Int32) : zs_D3 MX1_child [.int a1, .int a2] zs_Ri := by
  refine zs_W3of (by decide) (Nat.le_of_ble_eq_true rfl) ?_
  show zs_W3 MX1_child 0 [(0, .int a1), (1, .int a2)] [] zs_Ri
  refine h3_iload_n dX1_child_0 rfl rfl ?_
  refine h3_iload_n dX1_child_1 rfl rfl ?_
  refine h3_ic_le 16 dX1_child_2 (by decide) (fun h1 => ?_) (fun h1 => ?_)
  · refine h3_iload_n dX1_child_16 rfl rfl ?_
    exact h3_iret dX1_child_17 rfl rfl ⟨_, rfl⟩
  · refine h3_bipush (v := (nI 9)) dX1_child_5 rfl ?_
    refine h3_iload_n dX1_child_7 rfl rfl ?_
    refine h3_iconst (v := (nI 1)) dX1_child_8 rfl ?_
    refine h3_iadd dX1_child_9 (fun x2 => ?_)
    refine h3_callS [.int (nI 9), .int x2] [] (v3_J9_min_7cf53 (nI 9) x2) dX1_child_10 kk_X1_child_J9_min_7cf53 ml_RX1_27 swJ9_min_7cf53 rfl rfl (Nat.le_of_ble_eq_true rfl) ?_
    rintro _ ⟨x3, rfl⟩
    refine h3_goto 17 dX1_child_13 (by decide) ?_
    exact h3_iret dX1_child_17 rfl rfl ⟨_, rfl⟩
set_option maxRecDepth 100000 in
theorem v3_X1_sight (a1 : Int32) (a2 : Int32) (a3 : Int32) : zs_D3 MX1_sight [.int a1, .int a2, .int a3] zs_Ri := by
  refine zs_W3of (by decide) (Nat.le_of_ble_eq_true rfl) ?_
  show zs_W3 MX1_sight 0 [(0, .int a1), (1, .int a2), (2, .int a3)] [] zs_Ri
  refine h3_iload_n dX1_sight_0 rfl rfl ?_
  by_cases h1 : (a1 : Int32).toInt < 1 ∨ 5 < (a1 : Int32).toInt
  · refine h3_tout 83 dX1_sight_1 h1 (by decide) ?_
    refine h3_iload_n dX1_sight_83 rfl rfl ?_
    exact h3_iret dX1_sight_84 rfl rfl ⟨_, rfl⟩
  rcases (show (a1 : Int32).toInt = 1 ∨ (a1 : Int32).toInt = 2 ∨ (a1 : Int32).toInt = 3 ∨ (a1 : Int32).toInt = 4 ∨ (a1 : Int32).toInt = 5 by omega) with h1 | h1 | h1 | h1 | h1
  · refine h3_tin (off := 35) 36 dX1_sight_1 (by rw [h1]; decide) (by rw [h1]; decide) (by rw [h1]; rfl) (by decide) ?_
    refine h3_iload_n dX1_sight_36 rfl rfl ?_
    refine h3_iload_n dX1_sight_37 rfl rfl ?_
    refine h3_callS [.int a2, .int a3] [] (v3_X1_lazy a2 a3) dX1_sight_38 kk_X1_sight_X1_lazy ml_RX1_9 swX1_lazy rfl rfl (Nat.le_of_ble_eq_true rfl) ?_
    rintro _ ⟨x2, rfl⟩
    exact h3_iret dX1_sight_41 rfl rfl ⟨_, rfl⟩
  · refine h3_tin (off := 41) 42 dX1_sight_1 (by rw [h1]; decide) (by rw [h1]; decide) (by rw [h1]; rfl) (by decide) ?_
    refine h3_iload_n dX1_sight_42 rfl rfl ?_
    refine h3_iload_n dX1_sight_43 rfl rfl ?_
    refine h3_callS [.int a2, .int a3] [] (v3_X1_sharp a2 a3) dX1_sight_44 kk_X1_sight_X1_sharp ml_RX1_15 swX1_sharp rfl rfl (Nat.le_of_ble_eq_true rfl) ?_
    rintro _ ⟨x3, rfl⟩
    exact h3_iret dX1_sight_47 rfl rfl ⟨_, rfl⟩
  · refine h3_tin (off := 47) 48 dX1_sight_1 (by rw [h1]; decide) (by rw [h1]; decide) (by rw [h1]; rfl) (by decide) ?_
    refine h3_iload_n dX1_sight_48 rfl rfl ?_
    refine h3_if_ne 56 dX1_sight_49 (by decide) (fun h4 => ?_) (fun h4 => ?_)
    · refine h3_iload_n dX1_sight_56 rfl rfl ?_
      refine h3_iload_n dX1_sight_57 rfl rfl ?_
      refine h3_callS [.int a2, .int a3] [] (v3_X1_lazy a2 a3) dX1_sight_58 kk_X1_sight_X1_lazy ml_RX1_9 swX1_lazy rfl rfl (Nat.le_of_ble_eq_true rfl) ?_
      rintro _ ⟨x5, rfl⟩
      exact h3_iret dX1_sight_61 rfl rfl ⟨_, rfl⟩
    · refine h3_iload_n dX1_sight_52 rfl rfl ?_
      refine h3_goto 61 dX1_sight_53 (by decide) ?_
      exact h3_iret dX1_sight_61 rfl rfl ⟨_, rfl⟩
  · refine h3_tin (off := 61) 62 dX1_sight_1 (by rw [h1]; decide) (by rw [h1]; decide) (by rw [h1]; rfl) (by decide) ?_
    refine h3_iload_n dX1_sight_62 rfl rfl ?_
    refine h3_iload_n dX1_sight_63 rfl rfl ?_
    refine h3_callS [.int a2, .int a3] [] (v3_X1_sharp a2 a3) dX1_sight_64 kk_X1_sight_X1_sharp ml_RX1_15 swX1_sharp rfl rfl (Nat.le_of_ble_eq_true rfl) ?_
    rintro _ ⟨x6, rfl⟩
    refine h3_iload_n dX1_sight_67 rfl rfl ?_
    refine h3_callS [.int x6, .int a3] [] (v3_X1_child x6 a3) dX1_sight_68 kk_X1_sight_X1_child ml_RX1_18 swX1_child rfl rfl (Nat.le_of_ble_eq_true rfl) ?_
    rintro _ ⟨x7, rfl⟩
    exact h3_iret dX1_sight_71 rfl rfl ⟨_, rfl⟩
  · refine h3_tin (off := 71) 72 dX1_sight_1 (by rw [h1]; decide) (by rw [h1]; decide) (by rw [h1]; rfl) (by decide) ?_
    refine h3_iload_n dX1_sight_72 rfl rfl ?_
    refine h3_iload_n dX1_sight_73 rfl rfl ?_
    refine h3_ic_ne 81 dX1_sight_74 (by decide) (fun h8 => ?_) (fun h8 => ?_)
    · refine h3_iload_n dX1_sight_81 rfl rfl ?_
      exact h3_iret dX1_sight_82 rfl rfl ⟨_, rfl⟩
    · refine h3_iconst (v := (nI 0)) dX1_sight_77 rfl ?_
      refine h3_goto 82 dX1_sight_78 (by decide) ?_
      exact h3_iret dX1_sight_82 rfl rfl ⟨_, rfl⟩
set_option maxRecDepth 100000 in
theorem v3_X2_twice (a1 : Int32) : zs_D3 MX2_twice [.int a1] zs_Ri := by
  refine zs_W3of (by decide) (Nat.le_of_ble_eq_true rfl) ?_
  show zs_W3 MX2_twice 0 [(0, .int a1)] [] zs_Ri
  refine h3_iconst (v := (nI 2)) dX2_twice_0 rfl ?_
  refine h3_iload_n dX2_twice_1 rfl rfl ?_
  refine h3_imul dX2_twice_2 (fun x1 => ?_)
  exact h3_iret dX2_twice_3 rfl rfl ⟨_, rfl⟩
set_option maxRecDepth 100000 in
theorem v3_X2_jerk (a1 : Int32) (a2 : Int32) : zs_D3 MX2_jerk [.int a1, .int a2] zs_Ri := by
  refine zs_W3of (by decide) (Nat.le_of_ble_eq_true rfl) ?_
  show zs_W3 MX2_jerk 0 [(0, .int a1), (1, .int a2)] [] zs_Ri
  refine h3_iload_n dX2_jerk_0 rfl rfl ?_
  refine h3_iconst (v := (nI 2)) dX2_jerk_1 rfl ?_
  refine h3_irem dX2_jerk_2 (by decide) (fun x1 => ?_)
  refine h3_if_ne 10 dX2_jerk_3 (by decide) (fun h2 => ?_) (fun h2 => ?_)
  · refine h3_iload_n dX2_jerk_10 rfl rfl ?_
    refine h3_iconst (v := (nI 1)) dX2_jerk_11 rfl ?_
    refine h3_iadd dX2_jerk_12 (fun x3 => ?_)
    exact h3_iret dX2_jerk_13 rfl rfl ⟨_, rfl⟩
  · refine h3_iload_n dX2_jerk_6 rfl rfl ?_
    refine h3_goto 13 dX2_jerk_7 (by decide) ?_
    exact h3_iret dX2_jerk_13 rfl rfl ⟨_, rfl⟩
set_option maxRecDepth 100000 in
theorem v3_J9_max_7cf53 (a1 : Int32) (a2 : Int32) : zs_D3 MJ9_max_7cf53 [.int a1, .int a2] zs_Ri := by
  refine zs_W3oF pf_J9_max_7cf53 (Nat.le_of_ble_eq_true rfl) ?_
  show zs_W3 MJ9_max_7cf53 0 [(0, .int a1), (1, .int a2)] [] zs_Ri
  refine h3_iload_n dJ9_max_7cf53_0 rfl rfl ?_
  refine h3_iload_n dJ9_max_7cf53_1 rfl rfl ?_
  refine h3_ic_lt 9 dJ9_max_7cf53_2 (by decide) (fun h1 => ?_) (fun h1 => ?_)
  · refine h3_iload_n dJ9_max_7cf53_9 rfl rfl ?_
    exact h3_iret dJ9_max_7cf53_10 rfl rfl ⟨_, rfl⟩
  · refine h3_iload_n dJ9_max_7cf53_5 rfl rfl ?_
    refine h3_goto 10 dJ9_max_7cf53_6 (by decide) ?_
    exact h3_iret dJ9_max_7cf53_10 rfl rfl ⟨_, rfl⟩
set_option maxRecDepth 100000 in
theorem v3_X2_passing (a1 : Int32) (a2 : Int32) (a3 : Int32) : zs_D3 MX2_passing [.int a1, .int a2, .int a3] zs_Ri := by
  refine zs_W3of (by decide) (Nat.le_of_ble_eq_true rfl) ?_
  show zs_W3 MX2_passing 0 [(0, .int a1), (1, .int a2), (2, .int a3)] [] zs_Ri
  refine h3_iload_n dX2_passing_0 rfl rfl ?_
  by_cases h1 : (a1 : Int32).toInt < 1 ∨ 5 < (a1 : Int32).toInt
  · refine h3_tout 90 dX2_passing_1 h1 (by decide) ?_
    refine h3_iload_n dX2_passing_90 rfl rfl ?_
    exact h3_iret dX2_passing_91 rfl rfl ⟨_, rfl⟩
  rcases (show (a1 : Int32).toInt = 1 ∨ (a1 : Int32).toInt = 2 ∨ (a1 : Int32).toInt = 3 ∨ (a1 : Int32).toInt = 4 ∨ (a1 : Int32).toInt = 5 by omega) with h1 | h1 | h1 | h1 | h1
  · refine h3_tin (off := 35) 36 dX2_passing_1 (by rw [h1]; decide) (by rw [h1]; decide) (by rw [h1]; rfl) (by decide) ?_
    refine h3_iload_n dX2_passing_36 rfl rfl ?_
    refine h3_callS [.int a2] [] (v3_X2_twice a2) dX2_passing_37 kk_X2_passing_X2_twice ml_RX2_7 swX2_twice rfl rfl (Nat.le_of_ble_eq_true rfl) ?_
    rintro _ ⟨x2, rfl⟩
    exact h3_iret dX2_passing_40 rfl rfl ⟨_, rfl⟩
  · refine h3_tin (off := 40) 41 dX2_passing_1 (by rw [h1]; decide) (by rw [h1]; decide) (by rw [h1]; rfl) (by decide) ?_
    refine h3_iload_n dX2_passing_41 rfl rfl ?_
    refine h3_iload_n dX2_passing_42 rfl rfl ?_
    refine h3_callS [.int a2, .int a3] [] (v3_X2_jerk a2 a3) dX2_passing_43 kk_X2_passing_X2_jerk ml_RX2_13 swX2_jerk rfl rfl (Nat.le_of_ble_eq_true rfl) ?_
    rintro _ ⟨x3, rfl⟩
    exact h3_iret dX2_passing_46 rfl rfl ⟨_, rfl⟩
  · refine h3_tin (off := 46) 47 dX2_passing_1 (by rw [h1]; decide) (by rw [h1]; decide) (by rw [h1]; rfl) (by decide) ?_
    refine h3_iload_n dX2_passing_47 rfl rfl ?_
    refine h3_iconst (v := (nI 4)) dX2_passing_48 rfl ?_
    refine h3_irem dX2_passing_49 (by decide) (fun x4 => ?_)
    refine h3_if_ne 62 dX2_passing_50 (by decide) (fun h5 => ?_) (fun h5 => ?_)
    · refine h3_iload_n dX2_passing_62 rfl rfl ?_
      refine h3_callS [.int a2] [] (v3_X2_twice a2) dX2_passing_63 kk_X2_passing_X2_twice ml_RX2_7 swX2_twice rfl rfl (Nat.le_of_ble_eq_true rfl) ?_
      rintro _ ⟨x6, rfl⟩
      exact h3_iret dX2_passing_66 rfl rfl ⟨_, rfl⟩
    · refine h3_iload_n dX2_passing_53 rfl rfl ?_
      refine h3_callS [.int a2] [] (v3_X2_twice a2) dX2_passing_54 kk_X2_passing_X2_twice ml_RX2_7 swX2_twice rfl rfl (Nat.le_of_ble_eq_true rfl) ?_
      rintro _ ⟨x7, rfl⟩
      refine h3_iconst (v := (nI 1)) dX2_passing_57 rfl ?_
      refine h3_iadd dX2_passing_58 (fun x8 => ?_)
      refine h3_goto 66 dX2_passing_59 (by decide) ?_
      exact h3_iret dX2_passing_66 rfl rfl ⟨_, rfl⟩
  · refine h3_tin (off := 66) 67 dX2_passing_1 (by rw [h1]; decide) (by rw [h1]; decide) (by rw [h1]; rfl) (by decide) ?_
    refine h3_iload_n dX2_passing_67 rfl rfl ?_
    refine h3_iconst (v := (nI 5)) dX2_passing_68 rfl ?_
    refine h3_irem dX2_passing_69 (by decide) (fun x9 => ?_)
    refine h3_iconst (v := (nI 4)) dX2_passing_70 rfl ?_
    refine h3_ic_ne 78 dX2_passing_71 (by decide) (fun h10 => ?_) (fun h10 => ?_)
    · refine h3_iload_n dX2_passing_78 rfl rfl ?_
      refine h3_iload_n dX2_passing_79 rfl rfl ?_
      refine h3_callS [.int a2, .int a3] [] (v3_X2_jerk a2 a3) dX2_passing_80 kk_X2_passing_X2_jerk ml_RX2_13 swX2_jerk rfl rfl (Nat.le_of_ble_eq_true rfl) ?_
      rintro _ ⟨x11, rfl⟩
      exact h3_iret dX2_passing_83 rfl rfl ⟨_, rfl⟩
    · refine h3_iconst (v := (nI 0)) dX2_passing_74 rfl ?_
      refine h3_goto 83 dX2_passing_75 (by decide) ?_
      exact h3_iret dX2_passing_83 rfl rfl ⟨_, rfl⟩
  · refine h3_tin (off := 83) 84 dX2_passing_1 (by rw [h1]; decide) (by rw [h1]; decide) (by rw [h1]; rfl) (by decide) ?_
    refine h3_iconst (v := (nI 1)) dX2_passing_84 rfl ?_
    refine h3_iload_n dX2_passing_85 rfl rfl ?_
    refine h3_callS [.int (nI 1), .int a2] [] (v3_J9_max_7cf53 (nI 1) a2) dX2_passing_86 kk_X2_passing_J9_max_7cf53 ml_RX2_17 swJ9_max_7cf53 rfl rfl (Nat.le_of_ble_eq_true rfl) ?_
    rintro _ ⟨x12, rfl⟩
    exact h3_iret dX2_passing_89 rfl rfl ⟨_, rfl⟩
set_option maxRecDepth 100000 in
theorem v3_X11_wrap (a1 : Int32) (a2 : Int32) : zs_D3 MX11_wrap [.int a1, .int a2] zs_Ri := by
  refine zs_W3of (by decide) (Nat.le_of_ble_eq_true rfl) ?_
  show zs_W3 MX11_wrap 0 [(0, .int a1), (1, .int a2)] [] zs_Ri
  refine h3_iload_n dX11_wrap_0 rfl rfl ?_
  refine h3_iconst (v := (nI 1)) dX11_wrap_1 rfl ?_
  refine h3_ic_ge 9 dX11_wrap_2 (by decide) (fun h1 => ?_) (fun h1 => ?_)
  · refine h3_iload_n dX11_wrap_9 rfl rfl ?_
    refine h3_iload_n dX11_wrap_10 rfl rfl ?_
    refine h3_callS [.int a1, .int a2] [] (v3_floorMod a1 a2 (zs_1le h1)) dX11_wrap_11 kk_X11_wrap_J9_floorMod_7cf53 ml_RX11_334 swJ9_floorMod_7cf53 rfl rfl (Nat.le_of_ble_eq_true rfl) ?_
    rintro _ ⟨x2, rfl⟩
    exact h3_iret dX11_wrap_14 rfl rfl ⟨_, rfl⟩
  · refine h3_iconst (v := (nI 0)) dX11_wrap_5 rfl ?_
    refine h3_goto 14 dX11_wrap_6 (by decide) ?_
    exact h3_iret dX11_wrap_14 rfl rfl ⟨_, rfl⟩
set_option maxRecDepth 100000 in
theorem v3_X6_drawingAtHand_45_47 : zs_D3 MX6_drawingAtHand [.ref 45, .ref 47] zs_Ri := by
  refine zs_W3of (by decide) (Nat.le_of_ble_eq_true rfl) ?_
  show zs_W3 MX6_drawingAtHand 0 [(0, .ref 45), (1, .ref 47)] [] zs_Ri
  refine h3_aload_n dX6_drawingAtHand_0 rfl rfl ?_
  refine h3_getR 3 48 (C := RX3) (T := TX3) (N := 6) dX6_drawingAtHand_1 (by decide) rfl rfl (by decide) rfl fl_RX6_130 ?_
  refine h3_aload_n dX6_drawingAtHand_4 rfl rfl ?_
  refine h3_getI 0 (C := RX3) (T := TX3) (N := 6) dX6_drawingAtHand_5 (by decide) rfl rfl (by decide) rfl fl_RX6_96 (fun x1 => ?_)
  refine h3_callN [.ref 48, .int x1] [] (v3_cell 48 12 x1 (by decide) rfl (by decide)) dX6_drawingAtHand_8 kk_X6_drawingAtHand_X11_cell nl_RX6_116 swX11_cell rfl rfl (Nat.le_of_ble_eq_true rfl) ?_
  rintro _ ⟨x2, rfl⟩
  exact h3_iret dX6_drawingAtHand_11 rfl rfl ⟨_, rfl⟩
set_option maxRecDepth 100000 in
theorem v3_X6_flash_45_47 : zs_D3 MX6_flash [.ref 45, .ref 47] zs_Rv := by
  refine zs_W3of (by decide) (Nat.le_of_ble_eq_true rfl) ?_
  show zs_W3 MX6_flash 0 [(0, .ref 45), (1, .ref 47)] [] zs_Rv
  have j49 : ∀ (n49 : Nat) (v2 : Int32) (c49 : Int32), zs_mu c49 < n49 → zs_W3 MX6_flash 49 [(0, .ref 45), (1, .ref 47), (2, .int v2), (3, .int c49)] [] zs_Rv := by
    intro n49
    induction n49 with
    | zero => intro v2 c49 hn49; exact absurd hn49 (Nat.not_lt_zero _)
    | succ n49 ih49 =>
      intro v2 c49 hn49
      have j114 : zs_mu (c49 + Int32.ofInt 1) < n49 → ∀ (v2 : Int32) (v4 : Int32) (v5 : Int32), zs_W3 MX6_flash 114 [(0, .ref 45), (1, .ref 47), (2, .int v2), (3, .int c49), (4, .int v4), (5, .int v5)] [] zs_Rv := by
        intro hd49 v2 v4 v5
        refine h3_aload_n dX6_flash_114 rfl rfl ?_
        refine h3_getR 4 49 (C := RX3) (T := TX3) (N := 6) dX6_flash_115 (by decide) rfl rfl (by decide) rfl fl_RX6_85 ?_
        refine h3_iload_n dX6_flash_118 rfl rfl ?_
        refine h3_iload dX6_flash_119 rfl ?_
        refine h3_callN [.ref 49, .int c49, .int v5] [] (v3_put 49 5 c49 v5 (by decide) rfl (by decide) ⟨by decide, by decide, by decide⟩) dX6_flash_121 kk_X6_flash_X11_put nl_RX6_81 swX11_put rfl rfl (Nat.le_of_ble_eq_true rfl) ?_
        rintro _ rfl
        refine h3_iinc (v := (c49 + Int32.ofInt 1)) (lv' := [(3, .int (c49 + Int32.ofInt 1)), (0, .ref 45), (1, .ref 47), (2, .int v2), (4, .int v4), (5, .int v5)]) dX6_flash_124 rfl rfl (by decide) rfl ?_
        refine h3_goto 49 dX6_flash_127 (by decide) ?_
        exact zs_W3lv (ih49 v2 (c49 + Int32.ofInt 1) hd49) (zs_mc 1 rfl (zs_mc 2 rfl (zs_mc 3 rfl (zs_mc 0 rfl zs_mn))))
      refine h3_iload_n dX6_flash_49 rfl rfl ?_
      refine h3_aload_n dX6_flash_50 rfl rfl ?_
      refine h3_getI 2 (C := RX6) (T := TX6) (N := 9) dX6_flash_51 (by decide) rfl rfl (by decide) rfl fl_RX6_51 (fun x1 => ?_)
      refine h3_ic_ge 130 dX6_flash_54 (by decide) (fun h2 => ?_) (fun h2 => ?_)
      · exact h3_ret dX6_flash_130 rfl rfl
      · have hd49 := zs_muA h2 hn49
        refine h3_aload_n dX6_flash_57 rfl rfl ?_
        refine h3_getR 4 49 (C := RX3) (T := TX3) (N := 6) dX6_flash_58 (by decide) rfl rfl (by decide) rfl fl_RX6_85 ?_
        refine h3_iload_n dX6_flash_61 rfl rfl ?_
        refine h3_callN [.ref 49, .int c49] [] (v3_cell 49 5 c49 (by decide) rfl (by decide)) dX6_flash_62 kk_X6_flash_X11_cell nl_RX6_116 swX11_cell rfl rfl (Nat.le_of_ble_eq_true rfl) ?_
        rintro _ ⟨x3, rfl⟩
        refine h3_istore (lv' := [(4, .int x3), (0, .ref 45), (1, .ref 47), (2, .int v2), (3, .int c49)]) dX6_flash_65 (by decide) rfl ?_
        refine h3_aload_n dX6_flash_67 rfl rfl ?_
        refine h3_getR 3 46 (C := RX6) (T := TX6) (N := 9) dX6_flash_68 (by decide) rfl rfl (by decide) rfl fl_RX6_15 ?_
        refine h3_iload_n dX6_flash_71 rfl rfl ?_
        refine h3_callN [.ref 46, .int c49] [] (v3_cell 46 5 c49 (by decide) rfl (by decide)) dX6_flash_72 kk_X6_flash_X11_cell nl_RX6_116 swX11_cell rfl rfl (Nat.le_of_ble_eq_true rfl) ?_
        rintro _ ⟨x4, rfl⟩
        refine h3_iload_n dX6_flash_75 rfl rfl ?_
        refine h3_iload dX6_flash_76 rfl ?_
        refine h3_callS [.int x4, .int v2, .int x3] [] (v3_X1_sight x4 v2 x3) dX6_flash_78 kk_X6_flash_X1_sight ml_RX6_120 swX1_sight rfl rfl (Nat.le_of_ble_eq_true rfl) ?_
        rintro _ ⟨x5, rfl⟩
        refine h3_istore (lv' := [(5, .int x5), (4, .int x3), (0, .ref 45), (1, .ref 47), (2, .int v2), (3, .int c49)]) dX6_flash_81 (by decide) rfl ?_
        refine h3_iload dX6_flash_83 rfl ?_
        refine h3_iload dX6_flash_85 rfl ?_
        refine h3_ic_eq 114 dX6_flash_87 (by decide) (fun h6 => ?_) (fun h6 => ?_)
        · exact zs_W3lv (j114 hd49 v2 x3 x5) (zs_mc 2 rfl (zs_mc 3 rfl (zs_mc 4 rfl (zs_mc 5 rfl (zs_mc 1 rfl (zs_mc 0 rfl zs_mn))))))
        · refine h3_aload_n dX6_flash_90 rfl rfl ?_
          refine h3_getR 5 50 (C := RX3) (T := TX3) (N := 6) dX6_flash_91 (by decide) rfl rfl (by decide) rfl fl_RX6_88 ?_
          refine h3_iload_n dX6_flash_94 rfl rfl ?_
          refine h3_sipush (v := (nI 9999)) dX6_flash_95 rfl ?_
          refine h3_aload_n dX6_flash_98 rfl rfl ?_
          refine h3_getR 5 50 (C := RX3) (T := TX3) (N := 6) dX6_flash_99 (by decide) rfl rfl (by decide) rfl fl_RX6_88 ?_
          refine h3_iload_n dX6_flash_102 rfl rfl ?_
          refine h3_callN [.ref 50, .int c49] [.int (nI 9999), .int c49, .ref 50] (v3_cell 50 5 c49 (by decide) rfl (by decide)) dX6_flash_103 kk_X6_flash_X11_cell nl_RX6_116 swX11_cell rfl rfl (Nat.le_of_ble_eq_true rfl) ?_
          rintro _ ⟨x7, rfl⟩
          refine h3_iconst (v := (nI 1)) dX6_flash_106 rfl ?_
          refine h3_iadd dX6_flash_107 (fun x8 => ?_)
          refine h3_callS [.int (nI 9999), .int x8] [.int c49, .ref 50] (v3_J9_min_7cf53 (nI 9999) x8) dX6_flash_108 kk_X6_flash_J9_min_7cf53 ml_RX6_125 swJ9_min_7cf53 rfl rfl (Nat.le_of_ble_eq_true rfl) ?_
          rintro _ ⟨x9, rfl⟩
          refine h3_callN [.ref 50, .int c49, .int x9] [] (v3_put 50 5 c49 x9 (by decide) rfl (by decide) ⟨by decide, by decide, by decide⟩) dX6_flash_111 kk_X6_flash_X11_put nl_RX6_81 swX11_put rfl rfl (Nat.le_of_ble_eq_true rfl) ?_
          rintro _ rfl
          exact zs_W3lv (j114 hd49 v2 x3 x5) (zs_mc 2 rfl (zs_mc 3 rfl (zs_mc 4 rfl (zs_mc 5 rfl (zs_mc 1 rfl (zs_mc 0 rfl zs_mn))))))
  refine h3_aload_n dX6_flash_0 rfl rfl ?_
  refine h3_dup dX6_flash_1 rfl ?_
  refine h3_getI 1 (C := RX3) (T := TX3) (N := 6) dX6_flash_2 (by decide) rfl rfl (by decide) rfl fl_RX6_91 (fun x10 => ?_)
  refine h3_iconst (v := (nI 1)) dX6_flash_5 rfl ?_
  refine h3_iadd dX6_flash_6 (fun x11 => ?_)
  refine h3_putI 1 (C := RX3) (T := TX3) (N := 6) (ty := .int) dX6_flash_7 (by decide) rfl rfl (by decide) rfl fl_RX6_91 rfl (by decide +kernel) ⟨rfl, rfl⟩ rfl ?_
  refine h3_aload_n dX6_flash_10 rfl rfl ?_
  refine h3_aload_n dX6_flash_11 rfl rfl ?_
  refine h3_getI 0 (C := RX3) (T := TX3) (N := 6) dX6_flash_12 (by decide) rfl rfl (by decide) rfl fl_RX6_96 (fun x12 => ?_)
  refine h3_aload_n dX6_flash_15 rfl rfl ?_
  refine h3_getI 1 (C := RX6) (T := TX6) (N := 9) dX6_flash_16 (by decide) rfl rfl (by decide) rfl fl_RX6_48 (fun x13 => ?_)
  refine h3_aload_n dX6_flash_19 rfl rfl ?_
  refine h3_getI 2 (C := RX3) (T := TX3) (N := 6) dX6_flash_20 (by decide) rfl rfl (by decide) rfl fl_RX6_99 (fun x14 => ?_)
  refine h3_aload_n dX6_flash_23 rfl rfl ?_
  refine h3_getI 1 (C := RX3) (T := TX3) (N := 6) dX6_flash_24 (by decide) rfl rfl (by decide) rfl fl_RX6_91 (fun x15 => ?_)
  refine h3_callS [.int x13, .int x14, .int x15] [.int x12, .ref 47] (v3_X2_passing x13 x14 x15) dX6_flash_27 kk_X6_flash_X2_passing ml_RX6_102 swX2_passing rfl rfl (Nat.le_of_ble_eq_true rfl) ?_
  rintro _ ⟨x16, rfl⟩
  refine h3_iadd dX6_flash_30 (fun x17 => ?_)
  refine h3_aload_n dX6_flash_31 rfl rfl ?_
  refine h3_getI 0 (C := RX6) (T := TX6) (N := 9) dX6_flash_32 (by decide) rfl rfl (by decide) rfl fl_RX6_9 (fun x18 => ?_)
  refine h3_callN [.int x17, .int x18] [.ref 47] (v3_X11_wrap x17 x18) dX6_flash_35 kk_X6_flash_X11_wrap nl_RX6_108 swX11_wrap rfl rfl (Nat.le_of_ble_eq_true rfl) ?_
  rintro _ ⟨x19, rfl⟩
  refine h3_putI 0 (C := RX3) (T := TX3) (N := 6) (ty := .int) dX6_flash_38 (by decide) rfl rfl (by decide) rfl fl_RX6_96 rfl (by decide +kernel) ⟨rfl, rfl⟩ rfl ?_
  refine h3_aload_n dX6_flash_41 rfl rfl ?_
  refine h3_aload_n dX6_flash_42 rfl rfl ?_
  refine h3_callV (T := TX6) (NN := 9) [] (v3_X6_drawingAtHand_45_47) dX6_flash_43 kk_X6_flash_X6_drawingAtHand ml_RX6_112 mwX6_drawingAtHand ewX6_drawingAtHand (by decide) rfl rfl rfl rfl (Nat.le_of_ble_eq_true rfl) ?_
  rintro _ ⟨x20, rfl⟩
  refine h3_istore_n (lv' := [(2, .int x20), (0, .ref 45), (1, .ref 47)]) dX6_flash_46 rfl (by decide) rfl ?_
  refine h3_iconst (v := (nI 0)) dX6_flash_47 rfl ?_
  refine h3_istore_n (lv' := [(3, .int (nI 0)), (2, .int x20), (0, .ref 45), (1, .ref 47)]) dX6_flash_48 rfl (by decide) rfl ?_
  exact zs_W3lv (j49 _ x20 (nI 0) (Nat.lt_succ_self _)) (zs_mc 2 rfl (zs_mc 3 rfl (zs_mc 1 rfl (zs_mc 0 rfl zs_mn))))
set_option maxRecDepth 100000 in
theorem v3_X6_turn_45 (a1 : Int32) : zs_D3 MX6_turn [.ref 45, .int a1] zs_Rv := by
  refine zs_W3of (by decide) (Nat.le_of_ble_eq_true rfl) ?_
  show zs_W3 MX6_turn 0 [(0, .ref 45), (1, .int a1)] [] zs_Rv
  have j2 : ∀ (n2 : Nat) (v1 : Int32) (c2 : Int32), zs_mu c2 < n2 → zs_W3 MX6_turn 2 [(0, .ref 45), (1, .int v1), (2, .int c2)] [] zs_Rv := by
    intro n2
    induction n2 with
    | zero => intro v1 c2 hn2; exact absurd hn2 (Nat.not_lt_zero _)
    | succ n2 ih2 =>
      intro v1 c2 hn2
      refine h3_iload_n dX6_turn_2 rfl rfl ?_
      refine h3_iload_n dX6_turn_3 rfl rfl ?_
      refine h3_ic_ge 34 dX6_turn_4 (by decide) (fun h1 => ?_) (fun h1 => ?_)
      · exact h3_ret dX6_turn_34 rfl rfl
      · have hd2 := zs_muA h1 hn2
        refine h3_aload_n dX6_turn_7 rfl rfl ?_
        refine h3_getR 4 47 (C := RX6) (T := TX6) (N := 9) dX6_turn_8 (by decide) rfl rfl (by decide) rfl fl_RX6_22 ?_
        refine h3_getI 1 (C := RX3) (T := TX3) (N := 6) dX6_turn_11 (by decide) rfl rfl (by decide) rfl fl_RX6_91 (fun x2 => ?_)
        refine h3_sipush (v := (nI 9999)) dX6_turn_14 rfl ?_
        refine h3_ic_ge 34 dX6_turn_17 (by decide) (fun h3 => ?_) (fun h3 => ?_)
        · exact h3_ret dX6_turn_34 rfl rfl
        · refine h3_aload_n dX6_turn_20 rfl rfl ?_
          refine h3_aload_n dX6_turn_21 rfl rfl ?_
          refine h3_getR 4 47 (C := RX6) (T := TX6) (N := 9) dX6_turn_22 (by decide) rfl rfl (by decide) rfl fl_RX6_22 ?_
          refine h3_callV (T := TX6) (NN := 9) [] (v3_X6_flash_45_47) dX6_turn_25 kk_X6_turn_X6_flash ml_RX6_94 mwX6_flash ewX6_flash (by decide) rfl rfl rfl rfl (Nat.le_of_ble_eq_true rfl) ?_
          rintro _ rfl
          refine h3_iinc (v := (c2 + Int32.ofInt 1)) (lv' := [(2, .int (c2 + Int32.ofInt 1)), (0, .ref 45), (1, .int v1)]) dX6_turn_28 rfl rfl (by decide) rfl ?_
          refine h3_goto 2 dX6_turn_31 (by decide) ?_
          exact zs_W3lv (ih2 v1 (c2 + Int32.ofInt 1) hd2) (zs_mc 1 rfl (zs_mc 2 rfl (zs_mc 0 rfl zs_mn)))
  refine h3_iconst (v := (nI 0)) dX6_turn_0 rfl ?_
  refine h3_istore_n (lv' := [(2, .int (nI 0)), (0, .ref 45), (1, .int a1)]) dX6_turn_1 rfl (by decide) rfl ?_
  exact zs_W3lv (j2 _ a1 (nI 0) (Nat.lt_succ_self _)) (zs_mc 1 rfl (zs_mc 2 rfl (zs_mc 0 rfl zs_mn)))
set_option maxRecDepth 100000 in
theorem v3_X3_begin_47 (a1 : Int32) : zs_D3 MX3_begin [.ref 47, .int a1] zs_Rv := by
  refine zs_W3of (by decide) (Nat.le_of_ble_eq_true rfl) ?_
  show zs_W3 MX3_begin 0 [(0, .ref 47), (1, .int a1)] [] zs_Rv
  refine h3_aload_n dX3_begin_0 rfl rfl ?_
  refine h3_iconst (v := (nI 0)) dX3_begin_1 rfl ?_
  refine h3_putI 0 (C := RX3) (T := TX3) (N := 6) (ty := .int) dX3_begin_2 (by decide) rfl rfl (by decide) rfl fl_RX3_25 rfl (by decide +kernel) ⟨rfl, rfl⟩ rfl ?_
  refine h3_aload_n dX3_begin_5 rfl rfl ?_
  refine h3_iconst (v := (nI 0)) dX3_begin_6 rfl ?_
  refine h3_putI 1 (C := RX3) (T := TX3) (N := 6) (ty := .int) dX3_begin_7 (by decide) rfl rfl (by decide) rfl fl_RX3_28 rfl (by decide +kernel) ⟨rfl, rfl⟩ rfl ?_
  refine h3_aload_n dX3_begin_10 rfl rfl ?_
  refine h3_iload_n dX3_begin_11 rfl rfl ?_
  refine h3_putI 2 (C := RX3) (T := TX3) (N := 6) (ty := .int) dX3_begin_12 (by decide) rfl rfl (by decide) rfl fl_RX3_9 rfl (by decide +kernel) ⟨rfl, rfl⟩ rfl ?_
  refine h3_aload_n dX3_begin_15 rfl rfl ?_
  refine h3_getR 3 48 (C := RX3) (T := TX3) (N := 6) dX3_begin_16 (by decide) rfl rfl (by decide) rfl fl_RX3_15 ?_
  refine h3_iconst (v := (nI 0)) dX3_begin_19 rfl ?_
  refine h3_callN [.ref 48, .int (nI 0)] [] (v3_fill 48 12 (nI 0) (by decide) rfl (by decide) ⟨by decide, by decide, by decide⟩) dX3_begin_20 kk_X3_begin_X11_fill nl_RX3_31 swX11_fill rfl rfl (Nat.le_of_ble_eq_true rfl) ?_
  rintro _ rfl
  refine h3_aload_n dX3_begin_23 rfl rfl ?_
  refine h3_getR 4 49 (C := RX3) (T := TX3) (N := 6) dX3_begin_24 (by decide) rfl rfl (by decide) rfl fl_RX3_19 ?_
  refine h3_iconst (v := (nI 0)) dX3_begin_27 rfl ?_
  refine h3_callN [.ref 49, .int (nI 0)] [] (v3_fill 49 5 (nI 0) (by decide) rfl (by decide) ⟨by decide, by decide, by decide⟩) dX3_begin_28 kk_X3_begin_X11_fill nl_RX3_31 swX11_fill rfl rfl (Nat.le_of_ble_eq_true rfl) ?_
  rintro _ rfl
  refine h3_aload_n dX3_begin_31 rfl rfl ?_
  refine h3_getR 5 50 (C := RX3) (T := TX3) (N := 6) dX3_begin_32 (by decide) rfl rfl (by decide) rfl fl_RX3_22 ?_
  refine h3_iconst (v := (nI 0)) dX3_begin_35 rfl ?_
  refine h3_callN [.ref 50, .int (nI 0)] [] (v3_fill 50 5 (nI 0) (by decide) rfl (by decide) ⟨by decide, by decide, by decide⟩) dX3_begin_36 kk_X3_begin_X11_fill nl_RX3_31 swX11_fill rfl rfl (Nat.le_of_ble_eq_true rfl) ?_
  rintro _ rfl
  exact h3_ret dX3_begin_39 rfl rfl
set_option maxRecDepth 100000 in
theorem v3_X4_empty_51 : zs_D3 MX4_empty [.ref 51] zs_Rv := by
  refine zs_W3of (by decide) (Nat.le_of_ble_eq_true rfl) ?_
  show zs_W3 MX4_empty 0 [(0, .ref 51)] [] zs_Rv
  refine h3_aload_n dX4_empty_0 rfl rfl ?_
  refine h3_iconst (v := (nI 0)) dX4_empty_1 rfl ?_
  refine h3_putI 1 (C := RX4) (T := TX4) (N := 2) (ty := .int) dX4_empty_2 (by decide) rfl rfl (by decide) rfl fl_RX4_17 rfl (by decide +kernel) ⟨rfl, rfl⟩ rfl ?_
  exact h3_ret dX4_empty_5 rfl rfl
