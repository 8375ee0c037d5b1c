/-! THE WIDE GUARD: the three drums' frames, lamp, eyes and rows too -/
def zs_pq (b i : Nat) : Bool := ((Nat.beq b 1 || Nat.beq b 15 || Nat.beq b 29 || Nat.beq b 45) && Nat.ble i 2) || (Nat.ble 9 b && Nat.ble b 14) || (Nat.ble 23 b && Nat.ble b 28) || (Nat.ble 37 b && Nat.ble b 42) || (Nat.ble 53 b && Nat.ble b 58)
def zs_pr_W (b i : Nat) : Bool := Nat.ble 80 b || (Nat.beq b 0 && (Nat.beq i 3 || Nat.beq i 4)) || (Nat.beq b 43 && Nat.beq i 1) || Nat.beq b 44 || zs_pq b i
def zs_fr_W (S S2 : zs_S) : Prop := ∀ b i, zs_pr_W b i = true → S2.1 b i = S.1 b i ∧ S2.2 b i = S.2 b i
theorem zs_fr_W.rf {S : zs_S} : zs_fr_W S S := fun _ _ _ => ⟨rfl, rfl⟩
theorem zs_fr_W.tr {S S1 S2 : zs_S} (h : zs_fr_W S S1) (k : zs_fr_W S1 S2) : zs_fr_W S S2 := fun b i hb => ⟨(k b i hb).1.trans (h b i hb).1, (k b i hb).2.trans (h b i hb).2⟩
theorem zs_fr_W.up {S : zs_S} {a j : Nat} {v : Int32} (h : zs_pr_W a j = false) : zs_fr_W S (zs_up S.1 a j v, S.2) := fun b i hb => ⟨zs_up_n (fun q => by rw [q.1, q.2, h] at hb; exact absurd hb (by decide)), rfl⟩
theorem zs_fr_W.upL {S : zs_S} {a j : Nat} {v : Int64} (h : zs_pr_W a j = false) : zs_fr_W S (S.1, zs_upL S.2 a j v) := fun b i hb => ⟨rfl, by
  show zs_upL S.2 a j v b i = S.2 b i
  simp only [zs_upL]
  rw [if_neg (fun q => by rw [q.1, q.2, h] at hb; exact absurd hb (by decide))]⟩
def zs_wA_W (a : Nat) : Prop := a < 80 ∧ a ≠ 0 ∧ (a ≠ 43 ∧ a ≠ 44 ∧ a ≠ 1 ∧ a ≠ 15 ∧ a ≠ 29 ∧ a ≠ 45 ∧ (a < 9 ∨ 14 < a) ∧ (a < 23 ∨ 28 < a) ∧ (a < 37 ∨ 42 < a) ∧ (a < 53 ∨ 58 < a))
theorem zs_wA_W.pr {a : Nat} (h : zs_wA_W a) (i : Nat) : zs_pr_W a i = false := by
  rw [Bool.eq_false_iff]
  intro z
  simp only [zs_pr_W, zs_pq, Bool.or_eq_true, Bool.and_eq_true, Nat.ble_eq, Nat.beq_eq] at z
  obtain ⟨h1, h2, h3⟩ := h
  omega
theorem zs_fr_W.arr {S S2 : zs_S} {a : Nat} (h : zs_wA_W a) (h1 : ∀ b i, b ≠ a → S2.1 b i = S.1 b i) (h2 : S2.2 = S.2) : zs_fr_W S S2 := fun b i hb => ⟨h1 b i (fun q => by rw [q, h.pr i] at hb; exact absurd hb (by decide)), by rw [h2]⟩
def zs_W_W (M : zs_M) (pc : Nat) (lv : List (Nat × Value)) (st : List Value) (R : Option Value → Prop) : Prop := ∀ S, zs_P M pc lv st S (fun v S2 => R v ∧ zs_fr_W S S2)
def zs_Dd'_W (N : zs_M) (args : List Value) (R : Option Value → Prop) : Prop := ∀ S, zs_C N args S (fun v S2 => R v ∧ zs_fr_W S S2)
theorem zs_Wof_W {M : zs_M} {args : List Value} {R : Option Value → Prop} (hy : plainName M.1.cls = true) (hlen : (lg_sl args).length ≤ M.2.2.1) (h : zs_W_W M 0 (lv_args 0 args) [] R) : zs_Dd'_W M args R := fun S => zs_C.of hy hlen (h S)
theorem zs_WoF_W {M : zs_M} {args : List Value} {R : Option Value → Prop} (hy : plainFor M.1 = true) (hlen : (lg_sl args).length ≤ M.2.2.1) (h : zs_W_W M 0 (lv_args 0 args) [] R) : zs_Dd'_W M args R := fun S => zs_CF hy hlen (h S)
theorem zs_Wfr_W {M : zs_M} {pc : Nat} {lv : List (Nat × Value)} {st : List Value} {R : Option Value → Prop} {S S' : zs_S} (h : zs_W_W M pc lv st R) (f : zs_fr_W S S') : zs_P M pc lv st S' (fun v S2 => R v ∧ zs_fr_W S S2) := (h S').mono (fun _ _ q => ⟨q.1, f.tr q.2⟩)
theorem zs_Wlv_W {M : zs_M} {pc : Nat} {lv lv2 : List (Nat × Value)} {st : List Value} {R : Option Value → Prop} (h : zs_W_W M pc lv2 st R) (hs : ∀ q ∈ lv2, q ∈ lv) : zs_W_W M pc lv st R := fun S => (h S).lv hs
section zs_weak_W
variable {M : zs_M} {pc : Nat} {lv lv' : List (Nat × Value)} {st : List Value} {R : Option Value → Prop}
theorem h_iconst_W {n : Int} {v : Int32} (hd : decode M.2.1 pc = .ok (.iconst n, 1)) (hv : Int32.ofInt n = v) (k : zs_W_W M (pc + 1) lv (.int v :: st) R) : zs_W_W M pc lv st R := fun S => g_iconst hd hv (k S)
theorem h_bipush_W {n : Int} {v : Int32} (hd : decode M.2.1 pc = .ok (.bipush n, 2)) (hv : (Int8.ofInt n).toInt32 = v) (k : zs_W_W M (pc + 2) lv (.int v :: st) R) : zs_W_W M pc lv st R := fun S => g_bipush hd hv (k S)
theorem h_sipush_W {n : Int} {v : Int32} (hd : decode M.2.1 pc = .ok (.sipush n, 3)) (hv : (Int16.ofInt n).toInt32 = v) (k : zs_W_W M (pc + 3) lv (.int v :: st) R) : zs_W_W M pc lv st R := fun S => g_sipush hd hv (k S)
theorem h_lconst_W {n : Fin 2} {v : Int64} (hd : decode M.2.1 pc = .ok (.lconst n, 1)) (hv : Int64.ofNat (n : Nat) = v) (k : zs_W_W M (pc + 1) lv (.long v :: st) R) : zs_W_W M pc lv st R := fun S => g_lconst hd hv (k S)
theorem h_ldc_W {i : Nat} {v : Int32} (hd : decode M.2.1 pc = .ok (.ldc i, 2)) (hw : Cond.constant M.1.cls i v ∈ zs_tbl) (k : zs_W_W M (pc + 2) lv (.int v :: st) R) : zs_W_W M pc lv st R := fun S => g_ldc hd hw (k S)
theorem h_ldc2_W {i : Nat} {v : Int64} (hd : decode M.2.1 pc = .ok (.ldc2_w i, 3)) (hw : Cond.constantLong M.1.cls i v ∈ zs_tbl) (k : zs_W_W M (pc + 3) lv (.long v :: st) R) : zs_W_W M pc lv st R := fun S => g_ldc2 hd hw (k S)
theorem h_iload_n_W {j : Fin 4} {i : Nat} {x : Int32} (hd : decode M.2.1 pc = .ok (.iload_n j, 1)) (hi : (j : Nat) = i) (hk : zs_lk lv i = some (.int x)) (k : zs_W_W M (pc + 1) lv (.int x :: st) R) : zs_W_W M pc lv st R := fun S => g_iload_n hd hi hk (k S)
theorem h_iload_W {i : Nat} {x : Int32} (hd : decode M.2.1 pc = .ok (.iload i, 2)) (hk : zs_lk lv i = some (.int x)) (k : zs_W_W M (pc + 2) lv (.int x :: st) R) : zs_W_W M pc lv st R := fun S => g_iload hd hk (k S)
theorem h_istore_n_W {j : Fin 4} {i : Nat} {x : Int32} (hd : decode M.2.1 pc = .ok (.istore_n j, 1)) (hi : (j : Nat) = i) (hn : i < M.2.2.1) (he : (i, Value.int x) :: lv.filter (fun q => !(q.1 == i) && !(q.1 + 1 == i && q.2.category == 2)) = lv') (k : zs_W_W M (pc + 1) lv' st R) : zs_W_W M pc lv (.int x :: st) R := fun S => g_istore_n hd hi hn he (k S)
theorem h_istore_W {i : Nat} {x : Int32} (hd : decode M.2.1 pc = .ok (.istore i, 2)) (hn : i < M.2.2.1) (he : (i, Value.int x) :: lv.filter (fun q => !(q.1 == i) && !(q.1 + 1 == i && q.2.category == 2)) = lv') (k : zs_W_W M (pc + 2) lv' st R) : zs_W_W M pc lv (.int x :: st) R := fun S => g_istore hd hn he (k S)
theorem h_lload_n_W {j : Fin 4} {i : Nat} {x : Int64} (hd : decode M.2.1 pc = .ok (.lload_n j, 1)) (hi : (j : Nat) = i) (hk : zs_lk lv i = some (.long x)) (k : zs_W_W M (pc + 1) lv (.long x :: st) R) : zs_W_W M pc lv st R := fun S => g_lload_n hd hi hk (k S)
theorem h_lload_W {i : Nat} {x : Int64} (hd : decode M.2.1 pc = .ok (.lload i, 2)) (hk : zs_lk lv i = some (.long x)) (k : zs_W_W M (pc + 2) lv (.long x :: st) R) : zs_W_W M pc lv st R := fun S => g_lload hd hk (k S)
theorem h_lstore_n_W {j : Fin 4} {i : Nat} {x : Int64} (hd : decode M.2.1 pc = .ok (.lstore_n j, 1)) (hi : (j : Nat) = i) (hn : i + 1 < M.2.2.1) (he : (i, Value.long x) :: lv.filter (fun q => !(q.1 == i) && (!(q.1 == i + 1) && !(q.1 + 1 == i && q.2.category == 2))) = lv') (k : zs_W_W M (pc + 1) lv' st R) : zs_W_W M pc lv (.long x :: st) R := fun S => g_lstore_n hd hi hn he (k S)
theorem h_lstore_W {i : Nat} {x : Int64} (hd : decode M.2.1 pc = .ok (.lstore i, 2)) (hn : i + 1 < M.2.2.1) (he : (i, Value.long x) :: lv.filter (fun q => !(q.1 == i) && (!(q.1 == i + 1) && !(q.1 + 1 == i && q.2.category == 2))) = lv') (k : zs_W_W M (pc + 2) lv' st R) : zs_W_W M pc lv (.long x :: st) R := fun S => g_lstore hd hn he (k S)
theorem h_aload_n_W {j : Fin 4} {i : Nat} {x : Nat} (hd : decode M.2.1 pc = .ok (.aload_n j, 1)) (hi : (j : Nat) = i) (hk : zs_lk lv i = some (.ref x)) (k : zs_W_W M (pc + 1) lv (.ref x :: st) R) : zs_W_W M pc lv st R := fun S => g_aload_n hd hi hk (k S)
theorem h_iinc_W {i : Nat} {n : Int} {x v : Int32} (hd : decode M.2.1 pc = .ok (.iinc i n, 3)) (hk : zs_lk lv i = some (.int x)) (hv : x + Int32.ofInt n = v) (hn : i < M.2.2.1) (he : (i, Value.int v) :: lv.filter (fun q => !(q.1 == i) && !(q.1 + 1 == i && q.2.category == 2)) = lv') (k : zs_W_W M (pc + 3) lv' st R) : zs_W_W M pc lv st R := fun S => g_iinc hd hk hv hn he (k S)
theorem h_iadd_W {x y : Int32} (hd : decode M.2.1 pc = .ok (.iadd, 1)) (k : ∀ v, zs_W_W M (pc + 1) lv (.int v :: st) R) : zs_W_W M pc lv (.int y :: .int x :: st) R := fun S => g_iadd hd (k _ S)
theorem h_isub_W {x y : Int32} (hd : decode M.2.1 pc = .ok (.isub, 1)) (k : ∀ v, zs_W_W M (pc + 1) lv (.int v :: st) R) : zs_W_W M pc lv (.int y :: .int x :: st) R := fun S => g_isub hd (k _ S)
theorem h_imul_W {x y : Int32} (hd : decode M.2.1 pc = .ok (.imul, 1)) (k : ∀ v, zs_W_W M (pc + 1) lv (.int v :: st) R) : zs_W_W M pc lv (.int y :: .int x :: st) R := fun S => g_imul hd (k _ S)
theorem h_ior_W {x y : Int32} (hd : decode M.2.1 pc = .ok (.ior, 1)) (k : ∀ v, zs_W_W M (pc + 1) lv (.int v :: st) R) : zs_W_W M pc lv (.int y :: .int x :: st) R := fun S => g_ior hd (k _ S)
theorem h_ixor_W {x y : Int32} (hd : decode M.2.1 pc = .ok (.ixor, 1)) (k : ∀ v, zs_W_W M (pc + 1) lv (.int v :: st) R) : zs_W_W M pc lv (.int y :: .int x :: st) R := fun S => g_ixor hd (k _ S)
theorem h_ishl_W {x y : Int32} (hd : decode M.2.1 pc = .ok (.ishl, 1)) (k : ∀ v, zs_W_W M (pc + 1) lv (.int v :: st) R) : zs_W_W M pc lv (.int y :: .int x :: st) R := fun S => g_ishl hd (k _ S)
theorem h_ladd_W {x y : Int64} (hd : decode M.2.1 pc = .ok (.ladd, 1)) (k : ∀ v, zs_W_W M (pc + 1) lv (.long v :: st) R) : zs_W_W M pc lv (.long y :: .long x :: st) R := fun S => g_ladd hd (k _ S)
theorem h_lmul_W {x y : Int64} (hd : decode M.2.1 pc = .ok (.lmul, 1)) (k : ∀ v, zs_W_W M (pc + 1) lv (.long v :: st) R) : zs_W_W M pc lv (.long y :: .long x :: st) R := fun S => g_lmul hd (k _ S)
theorem h_idiv_W {x y : Int32} (hd : decode M.2.1 pc = .ok (.idiv, 1)) (hne : ¬ y = 0) (k : ∀ v, zs_W_W M (pc + 1) lv (.int v :: st) R) : zs_W_W M pc lv (.int y :: .int x :: st) R := fun S => g_idiv hd hne (k _ S)
theorem h_irem_W {x y : Int32} (hd : decode M.2.1 pc = .ok (.irem, 1)) (hne : ¬ y = 0) (k : ∀ v, zs_W_W M (pc + 1) lv (.int v :: st) R) : zs_W_W M pc lv (.int y :: .int x :: st) R := fun S => g_irem hd hne (k _ S)
theorem h_ldiv_W {x y : Int64} (hd : decode M.2.1 pc = .ok (.ldiv, 1)) (hne : ¬ y = 0) (k : ∀ v, zs_W_W M (pc + 1) lv (.long v :: st) R) : zs_W_W M pc lv (.long y :: .long x :: st) R := fun S => g_ldiv hd hne (k _ S)
theorem h_lrem_W {x y : Int64} (hd : decode M.2.1 pc = .ok (.lrem, 1)) (hne : ¬ y = 0) (k : ∀ v, zs_W_W M (pc + 1) lv (.long v :: st) R) : zs_W_W M pc lv (.long y :: .long x :: st) R := fun S => g_lrem hd hne (k _ S)
theorem h_ineg_W {x : Int32} (hd : decode M.2.1 pc = .ok (.ineg, 1)) (k : ∀ v, zs_W_W M (pc + 1) lv (.int v :: st) R) : zs_W_W M pc lv (.int x :: st) R := fun S => g_ineg hd (k _ S)
theorem h_i2l_W {x : Int32} (hd : decode M.2.1 pc = .ok (.i2l, 1)) (k : ∀ v, zs_W_W M (pc + 1) lv (.long v :: st) R) : zs_W_W M pc lv (.int x :: st) R := fun S => g_i2l hd rfl (k _ S)
theorem h_l2i_W {x : Int64} (hd : decode M.2.1 pc = .ok (.l2i, 1)) (k : ∀ v, zs_W_W M (pc + 1) lv (.int v :: st) R) : zs_W_W M pc lv (.long x :: st) R := fun S => g_l2i hd rfl (k _ S)
theorem h_lcmp_W {x y : Int64} (hd : decode M.2.1 pc = .ok (.lcmp, 1)) (k : zs_W_W M (pc + 1) lv (.int (lg_cmp x y) :: st) R) : zs_W_W M pc lv (.long y :: .long x :: st) R := fun S => g_lcmp hd (k S)
theorem h_dup_W {va : Value} (hd : decode M.2.1 pc = .ok (.dup, 1)) (hc : va.category = 1) (k : zs_W_W M (pc + 1) lv (va :: va :: st) R) : zs_W_W M pc lv (va :: st) R := fun S => g_dup hd hc (k S)
theorem h_goto_W {off : Int} (tgt : Nat) (hd : decode M.2.1 pc = .ok (.goto off, 3)) (ht : (pc : Int) + off = (tgt : Int)) (k : zs_W_W M tgt lv st R) : zs_W_W M pc lv st R := fun S => g_goto tgt hd ht (k S)
theorem h_if_eq_W {x : Int32} {off : Int} (tgt : Nat) (hd : decode M.2.1 pc = .ok (.ifCond .eq off, 3)) (ht : (pc : Int) + off = (tgt : Int)) (kt : x = 0 → zs_W_W M tgt lv st R) (kf : ¬ x = 0 → zs_W_W M (pc + 3) lv st R) : zs_W_W M pc lv (.int x :: st) R := fun S => g_if_eq tgt hd ht (fun h => kt h S) (fun h => kf h S)
theorem h_ic_eq_W {x y : Int32} {off : Int} (tgt : Nat) (hd : decode M.2.1 pc = .ok (.if_icmp .eq off, 3)) (ht : (pc : Int) + off = (tgt : Int)) (kt : x = y → zs_W_W M tgt lv st R) (kf : ¬ x = y → zs_W_W M (pc + 3) lv st R) : zs_W_W M pc lv (.int y :: .int x :: st) R := fun S => g_ic_eq tgt hd ht (fun h => kt h S) (fun h => kf h S)
theorem h_if_ne_W {x : Int32} {off : Int} (tgt : Nat) (hd : decode M.2.1 pc = .ok (.ifCond .ne off, 3)) (ht : (pc : Int) + off = (tgt : Int)) (kt : ¬ x = 0 → zs_W_W M tgt lv st R) (kf : x = 0 → zs_W_W M (pc + 3) lv st R) : zs_W_W M pc lv (.int x :: st) R := fun S => g_if_ne tgt hd ht (fun h => kt h S) (fun h => kf h S)
theorem h_ic_ne_W {x y : Int32} {off : Int} (tgt : Nat) (hd : decode M.2.1 pc = .ok (.if_icmp .ne off, 3)) (ht : (pc : Int) + off = (tgt : Int)) (kt : ¬ x = y → zs_W_W M tgt lv st R) (kf : x = y → zs_W_W M (pc + 3) lv st R) : zs_W_W M pc lv (.int y :: .int x :: st) R := fun S => g_ic_ne tgt hd ht (fun h => kt h S) (fun h => kf h S)
theorem h_if_lt_W {x : Int32} {off : Int} (tgt : Nat) (hd : decode M.2.1 pc = .ok (.ifCond .lt off, 3)) (ht : (pc : Int) + off = (tgt : Int)) (kt : x < 0 → zs_W_W M tgt lv st R) (kf : ¬ x < 0 → zs_W_W M (pc + 3) lv st R) : zs_W_W M pc lv (.int x :: st) R := fun S => g_if_lt tgt hd ht (fun h => kt h S) (fun h => kf h S)
theorem h_ic_lt_W {x y : Int32} {off : Int} (tgt : Nat) (hd : decode M.2.1 pc = .ok (.if_icmp .lt off, 3)) (ht : (pc : Int) + off = (tgt : Int)) (kt : x < y → zs_W_W M tgt lv st R) (kf : ¬ x < y → zs_W_W M (pc + 3) lv st R) : zs_W_W M pc lv (.int y :: .int x :: st) R := fun S => g_ic_lt tgt hd ht (fun h => kt h S) (fun h => kf h S)
theorem h_if_ge_W {x : Int32} {off : Int} (tgt : Nat) (hd : decode M.2.1 pc = .ok (.ifCond .ge off, 3)) (ht : (pc : Int) + off = (tgt : Int)) (kt : 0 ≤ x → zs_W_W M tgt lv st R) (kf : ¬ 0 ≤ x → zs_W_W M (pc + 3) lv st R) : zs_W_W M pc lv (.int x :: st) R := fun S => g_if_ge tgt hd ht (fun h => kt h S) (fun h => kf h S)
theorem h_ic_ge_W {x y : Int32} {off : Int} (tgt : Nat) (hd : decode M.2.1 pc = .ok (.if_icmp .ge off, 3)) (ht : (pc : Int) + off = (tgt : Int)) (kt : y ≤ x → zs_W_W M tgt lv st R) (kf : ¬ y ≤ x → zs_W_W M (pc + 3) lv st R) : zs_W_W M pc lv (.int y :: .int x :: st) R := fun S => g_ic_ge tgt hd ht (fun h => kt h S) (fun h => kf h S)
theorem h_ic_gt_W {x y : Int32} {off : Int} (tgt : Nat) (hd : decode M.2.1 pc = .ok (.if_icmp .gt off, 3)) (ht : (pc : Int) + off = (tgt : Int)) (kt : y < x → zs_W_W M tgt lv st R) (kf : ¬ y < x → zs_W_W M (pc + 3) lv st R) : zs_W_W M pc lv (.int y :: .int x :: st) R := fun S => g_ic_gt tgt hd ht (fun h => kt h S) (fun h => kf h S)
theorem h_if_le_W {x : Int32} {off : Int} (tgt : Nat) (hd : decode M.2.1 pc = .ok (.ifCond .le off, 3)) (ht : (pc : Int) + off = (tgt : Int)) (kt : x ≤ 0 → zs_W_W M tgt lv st R) (kf : ¬ x ≤ 0 → zs_W_W M (pc + 3) lv st R) : zs_W_W M pc lv (.int x :: st) R := fun S => g_if_le tgt hd ht (fun h => kt h S) (fun h => kf h S)
theorem h_ic_le_W {x y : Int32} {off : Int} (tgt : Nat) (hd : decode M.2.1 pc = .ok (.if_icmp .le off, 3)) (ht : (pc : Int) + off = (tgt : Int)) (kt : x ≤ y → zs_W_W M tgt lv st R) (kf : ¬ x ≤ y → zs_W_W M (pc + 3) lv st R) : zs_W_W M pc lv (.int y :: .int x :: st) R := fun S => g_ic_le tgt hd ht (fun h => kt h S) (fun h => kf h S)
theorem h_tin_W {x : Int32} {dflt lo hi off : Int} {offs : Array Int} {len : Nat} (tgt : Nat) (hd : decode M.2.1 pc = .ok (.tableswitch dflt lo hi offs, len)) (h1 : ¬ x.toInt < lo) (h2 : ¬ hi < x.toInt) (ho : offs[(x.toInt - lo).toNat]? = some off) (ht : (pc : Int) + off = (tgt : Int)) (k : zs_W_W M tgt lv st R) : zs_W_W M pc lv (.int x :: st) R := fun S => g_tin tgt hd h1 h2 ho ht (k S)
theorem h_tout_W {x : Int32} {dflt lo hi : Int} {offs : Array Int} {len : Nat} (tgt : Nat) (hd : decode M.2.1 pc = .ok (.tableswitch dflt lo hi offs, len)) (h : x.toInt < lo ∨ hi < x.toInt) (ht : (pc : Int) + dflt = (tgt : Int)) (k : zs_W_W M tgt lv st R) : zs_W_W M pc lv (.int x :: st) R := fun S => g_tout tgt hd h ht (k S)
theorem h_lsw_W {x : Int32} {dflt off : Int} {ps : Array (Int × Int)} {len : Nat} (tgt : Nat) (hd : decode M.2.1 pc = .ok (.lookupswitch dflt ps, len)) (hp : (ps.toList.zip (ps.toList.drop 1)).all (fun (a, next) => a.1 < next.1) = true) (ho : Op.lookupswitch.offset ps.toList dflt x.toInt = off) (ht : (pc : Int) + off = (tgt : Int)) (k : zs_W_W M tgt lv st R) : zs_W_W M pc lv (.int x :: st) R := fun S => g_lsw tgt hd hp ho ht (k S)
theorem h_getI_W {a ci idx N : Nat} (j : Nat) {fl : List Nat} {C : String} {T : u_T} (hd : decode M.2.1 pc = .ok (.getfield idx, 3)) (ha : a < zs_n) (hs : zs_sh a = .inr (ci, fl)) (hc : vwCl[ci]? = some (C, T, N)) (hj : j < N) (hf : fl[j]? = some 0) (hw : Cond.fieldLink M.1.cls idx (T j).1 (T j).2.1 (T j).2.2.1 ∈ zs_tbl) (k : ∀ v, zs_W_W M (pc + 3) lv (.int v :: st) R) : zs_W_W M pc lv (.ref a :: st) R := fun S => g_getI j hd ha hs hc hj hf hw (k _ S)
theorem h_getL_W {a ci idx N : Nat} (j : Nat) {fl : List Nat} {C : String} {T : u_T} (hd : decode M.2.1 pc = .ok (.getfield idx, 3)) (ha : a < zs_n) (hs : zs_sh a = .inr (ci, fl)) (hc : vwCl[ci]? = some (C, T, N)) (hj : j < N) (hf : fl[j]? = some 1) (hw : Cond.fieldLink M.1.cls idx (T j).1 (T j).2.1 (T j).2.2.1 ∈ zs_tbl) (k : ∀ v, zs_W_W M (pc + 3) lv (.long v :: st) R) : zs_W_W M pc lv (.ref a :: st) R := fun S => g_getL j hd ha hs hc hj hf hw (k _ S)
theorem h_getR_W {a ci idx N : Nat} (j b : Nat) {fl : List Nat} {C : String} {T : u_T} (hd : decode M.2.1 pc = .ok (.getfield idx, 3)) (ha : a < zs_n) (hs : zs_sh a = .inr (ci, fl)) (hc : vwCl[ci]? = some (C, T, N)) (hj : j < N) (hf : fl[j]? = some (b + 2)) (hw : Cond.fieldLink M.1.cls idx (T j).1 (T j).2.1 (T j).2.2.1 ∈ zs_tbl) (k : zs_W_W M (pc + 3) lv (.ref b :: st) R) : zs_W_W M pc lv (.ref a :: st) R := fun S => g_getR j b hd ha hs hc hj hf hw (k S)
theorem h_putI_W {a ci idx N : Nat} (j : Nat) {fl : List Nat} {C : String} {T : u_T} {x : Int32} {ty : FieldType} (hd : decode M.2.1 pc = .ok (.putfield idx, 3)) (ha : a < zs_n) (hs : zs_sh a = .inr (ci, fl)) (hc : vwCl[ci]? = some (C, T, N)) (hj : j < N) (hf : fl[j]? = some 0) (hw : Cond.fieldLink M.1.cls idx (T j).1 (T j).2.1 (T j).2.2.1 ∈ zs_tbl) (hfin : (T j).2.2.2 = false) (hty : parseFieldDescriptor (T j).2.2.1 = some ty) (hn : narrow ty (.int x) = .int x ∧ fits ty (.int x) = true) (hp : zs_pr_W a j = false) (k : zs_W_W M (pc + 3) lv st R) : zs_W_W M pc lv (.int x :: .ref a :: st) R := fun S => g_putI j hd ha hs hc hj hf hw hfin hty hn (zs_Wfr_W k (zs_fr_W.up hp))
theorem h_putL_W {a ci idx N : Nat} (j : Nat) {fl : List Nat} {C : String} {T : u_T} {x : Int64} (hd : decode M.2.1 pc = .ok (.putfield idx, 3)) (ha : a < zs_n) (hs : zs_sh a = .inr (ci, fl)) (hc : vwCl[ci]? = some (C, T, N)) (hj : j < N) (hf : fl[j]? = some 1) (hw : Cond.fieldLink M.1.cls idx (T j).1 (T j).2.1 (T j).2.2.1 ∈ zs_tbl) (hfin : (T j).2.2.2 = false) (hty : parseFieldDescriptor (T j).2.2.1 = some .long) (hp : zs_pr_W a j = false) (k : zs_W_W M (pc + 3) lv st R) : zs_W_W M pc lv (.long x :: .ref a :: st) R := fun S => g_putL j hd ha hs hc hj hf hw hfin hty (zs_Wfr_W k (zs_fr_W.upL hp))
theorem h_iret_W {v : Int32} {ty : FieldType} (hd : decode M.2.1 pc = .ok (.ireturn, 1)) (hr : M.2.2.2.1 = some ty) (hn : narrow ty (.int v) = .int v) (hq : R (some (.int v))) : zs_W_W M pc lv [.int v] R := fun S => g_iret hd hr hn ⟨hq, zs_fr_W.rf⟩
theorem h_lret_W {v : Int64} (hd : decode M.2.1 pc = .ok (.lreturn, 1)) (hr : M.2.2.2.1 = some .long) (hq : R (some (.long v))) : zs_W_W M pc lv [.long v] R := fun S => g_lret hd hr ⟨hq, zs_fr_W.rf⟩
theorem h_ret_W (hd : decode M.2.1 pc = .ok (.return_, 1)) (hr : M.2.2.2.1 = none) (hq : R none) : zs_W_W M pc lv [] R := fun S => g_ret hd hr ⟨hq, zs_fr_W.rf⟩
theorem h_callV_W {N : zs_M} {a ci idx n NN : Nat} {fl : List Nat} {T : u_T} {As : List Value} (rest : List Value) {st0 : List Value} {R1 : Option Value → Prop} (hX : zs_Dd'_W N (.ref a :: As) R1) (hd : decode M.2.1 pc = .ok (.invokevirtual idx, 3)) (hK : zs_K M N n) (hl1 : Cond.methodLink M.1.cls idx N.1 ∈ zs_tbl) (hl2 : Cond.instanceMethod N.1 ∈ zs_tbl) (hl3 : Cond.selects N.1.cls N.1 N.1 ∈ zs_tbl) (ha : a < zs_n) (hs : zs_sh a = .inr (ci, fl)) (hc : vwCl[ci]? = some (N.1.cls, T, NN)) (hn : As.length = n) (hst : st0 = As.reverse ++ .ref a :: rest) (hcat : (rest.map fun v => v.category).sum ≤ 8)
    (k : ∀ v, R1 v → zs_W_W M (pc + 3) lv (v.toList ++ rest) R) : zs_W_W M pc lv st0 R := fun S => g_callV rest (hX S) hd hK hl1 hl2 hl3 ha hs hc hn hst hcat (fun v S' q => zs_Wfr_W (k v q.1) q.2)
theorem h_callS_W {N : zs_M} {idx n : Nat} (As rest : List Value) {st0 : List Value} {R1 : Option Value → Prop} (hX : zs_Dd'_W N As R1) (hd : decode M.2.1 pc = .ok (.invokestatic idx, 3)) (hK : zs_K M N n) (hl1 : Cond.methodLink M.1.cls idx N.1 ∈ zs_tbl) (hl2 : Cond.static N.1 ∈ zs_tbl) (hn : As.length = n) (hst : st0 = As.reverse ++ rest) (hcat : (rest.map fun v => v.category).sum ≤ 8)
    (k : ∀ v, R1 v → zs_W_W M (pc + 3) lv (v.toList ++ rest) R) : zs_W_W M pc lv st0 R := fun S => g_callS As rest (hX S) hd hK hl1 hl2 hn hst hcat (fun v S' q => zs_Wfr_W (k v q.1) q.2)
theorem h_callN_W {N : zs_M} {idx n : Nat} {host : String} (As rest : List Value) {st0 : List Value} {R1 : Option Value → Prop} (hX : zs_Dd'_W N As R1) (hd : decode M.2.1 pc = .ok (.invokestatic idx, 3)) (hK : zs_K M N n) (hl1 : (M.1.cls, idx, N.1, host) ∈ zs_nst) (hl2 : Cond.static N.1 ∈ zs_tbl) (hn : As.length = n) (hst : st0 = As.reverse ++ rest) (hcat : (rest.map fun v => v.category).sum ≤ 8)
    (k : ∀ v, R1 v → zs_W_W M (pc + 3) lv (v.toList ++ rest) R) : zs_W_W M pc lv st0 R := fun S => g_callN As rest (hX S) hd hK hl1 hl2 hn hst hcat (fun v S' q => zs_Wfr_W (k v q.1) q.2)
theorem h_alen_W {a t n : Nat} {v : Int32} (hd : decode M.2.1 pc = .ok (.arraylength, 1)) (ha : a < zs_n) (hs : zs_sh a = .inl (t, n)) (ht : t < 2) (hv : Int32.ofNat n = v) (k : zs_W_W M (pc + 1) lv (.int v :: st) R) : zs_W_W M pc lv (.ref a :: st) R := fun S => g_alen hd ha hs ht hv (k S)
end zs_weak_W
theorem h_ldcw_W {M : zs_M} {pc : Nat} {lv : List (Nat × Value)} {st : List Value} {R : Option Value → Prop} {i : Nat} {v : Int32} (hd : decode M.2.1 pc = .ok (.ldc_w i, 3)) (hw : Cond.constant M.1.cls i v ∈ zs_tbl) (k : zs_W_W M (pc + 3) lv (.int v :: st) R) : zs_W_W M pc lv st R := fun S => g_ldcw hd hw (k S)
theorem v_cell_W (a n : Nat) (i : Int32) (ha : a < zs_n) (hs : zs_sh a = .inl (0, n)) (hn : n < 2 ^ 31) : zs_Dd'_W MX11_cell [.ref a, .int i] zs_Ri := fun S => (x_cell S a n i ha hs hn).mono (fun _ _ q => by
  obtain ⟨x, rfl, -, rfl⟩ := q
  exact ⟨⟨_, rfl⟩, zs_fr_W.rf⟩)
theorem v_put_W (a n : Nat) (i v : Int32) (ha : a < zs_n) (hs : zs_sh a = .inl (0, n)) (hn : n < 2 ^ 31) (hw : zs_wA_W a) : zs_Dd'_W MX11_put [.ref a, .int i, .int v] zs_Rv := fun S => (x_put S a n i v ha hs hn).mono (fun _ _ q => by
  obtain ⟨rfl, rfl⟩ := q
  exact ⟨rfl, zs_fr_W.arr hw (fun b j h => by
    unfold zs_pu
    split
    · exact zs_up_n (fun z => h z.1)
    · rfl) (by unfold zs_pu; split <;> rfl)⟩)
theorem v_fill_W (a n : Nat) (v : Int32) (ha : a < zs_n) (hs : zs_sh a = .inl (0, n)) (hn : n < 2 ^ 30) (hw : zs_wA_W a) : zs_Dd'_W MX11_fill [.ref a, .int v] zs_Rv := fun S => (x_fill S a n v ha hs hn).mono (fun _ _ q => by
  obtain ⟨rfl, rfl⟩ := q
  exact ⟨rfl, zs_fr_W.arr hw (fun b j h => by
    simp only [zs_fi]
    rw [if_neg (fun z => h z.1)]) rfl⟩)
theorem v_copyRow_W (a b n : Nat) (ha : a < zs_n) (hs : zs_sh a = .inl (0, n)) (hb : b < zs_n) (ht : zs_sh b = .inl (0, n)) (hab : a ≠ b) (hn : n < 2 ^ 30) (hw : zs_wA_W b) : zs_Dd'_W MX11_copyRow [.ref a, .ref b] zs_Rv := fun S => (x_copyRow S a b n ha hs hb ht hab hn).mono (fun _ _ q => by
  obtain ⟨rfl, rfl⟩ := q
  exact ⟨rfl, zs_fr_W.arr hw (fun c j h => by
    simp only [zs_cp]
    rw [if_neg (fun z => h z.1)]) rfl⟩)
theorem v_floorMod_W (x y : Int32) (hy : ¬ y = 0) : zs_Dd'_W MJ9_floorMod_7cf53 [.int x, .int y] zs_Ri := by
  refine zs_WoF_W pf_J9_floorMod_7cf53 (Nat.le_of_ble_eq_true rfl) ?_
  show zs_W_W MJ9_floorMod_7cf53 0 [(0, .int x), (1, .int y)] [] zs_Ri
  refine h_iload_n_W dJ9_floorMod_7cf53_0 rfl rfl ?_
  refine h_iload_n_W dJ9_floorMod_7cf53_1 rfl rfl ?_
  refine h_irem_W dJ9_floorMod_7cf53_2 hy (fun r => ?_)
  refine h_istore_n_W (lv' := [(2, .int r), (0, .int x), (1, .int y)]) dJ9_floorMod_7cf53_3 rfl (by decide) rfl ?_
  refine h_iload_n_W dJ9_floorMod_7cf53_4 rfl rfl ?_
  refine h_iload_n_W dJ9_floorMod_7cf53_5 rfl rfl ?_
  refine h_ixor_W dJ9_floorMod_7cf53_6 (fun _ => ?_)
  have j : zs_W_W MJ9_floorMod_7cf53 18 [(2, .int r), (0, .int x), (1, .int y)] [] zs_Ri := by
    refine h_iload_n_W dJ9_floorMod_7cf53_18 rfl rfl ?_
    exact h_iret_W dJ9_floorMod_7cf53_19 rfl rfl ⟨_, rfl⟩
  refine h_if_ge_W 18 dJ9_floorMod_7cf53_7 (by decide) (fun _ => j) (fun _ => ?_)
  refine h_iload_n_W dJ9_floorMod_7cf53_10 rfl rfl ?_
  refine h_if_eq_W 18 dJ9_floorMod_7cf53_11 (by decide) (fun _ => j) (fun _ => ?_)
  refine h_iload_n_W dJ9_floorMod_7cf53_14 rfl rfl ?_
  refine h_iload_n_W dJ9_floorMod_7cf53_15 rfl rfl ?_
  refine h_iadd_W dJ9_floorMod_7cf53_16 (fun _ => ?_)
  exact h_iret_W dJ9_floorMod_7cf53_17 rfl rfl ⟨_, rfl⟩
set_option maxRecDepth 100000 in
theorem v_X11_refuseBad_0_W (a1 : Int32) : zs_Dd'_W MX11_refuseBad [.ref 0, .int a1] zs_Ri := by
  refine zs_Wof_W (by decide) (Nat.le_of_ble_eq_true rfl) ?_
  show zs_W_W MX11_refuseBad 0 [(0, .ref 0), (1, .int a1)] [] zs_Ri
  refine h_aload_n_W dX11_refuseBad_0 rfl rfl ?_
  refine h_dup_W dX11_refuseBad_1 rfl ?_
  refine h_getI_W 8 (C := RX11) (T := TX11) (N := 18) dX11_refuseBad_2 (by decide) rfl rfl (by decide) rfl fl_RX11_314 (fun x1 => ?_)
  refine h_iconst_W (v := (nI 1)) dX11_refuseBad_5 rfl ?_
  refine h_iadd_W dX11_refuseBad_6 (fun x2 => ?_)
  refine h_putI_W 8 (C := RX11) (T := TX11) (N := 18) (ty := .int) dX11_refuseBad_7 (by decide) rfl rfl (by decide) rfl fl_RX11_314 rfl (by decide +kernel) ⟨rfl, rfl⟩ rfl ?_
  refine h_iload_n_W dX11_refuseBad_10 rfl rfl ?_
  exact h_iret_W dX11_refuseBad_11 rfl rfl ⟨_, rfl⟩
set_option maxRecDepth 100000 in
theorem v_X11_within_W (a1 : Int32) (a2 : Int32) (a3 : Int32) : zs_Dd'_W MX11_within [.int a1, .int a2, .int a3] zs_Rb := by
  refine zs_Wof_W (by decide) (Nat.le_of_ble_eq_true rfl) ?_
  show zs_W_W MX11_within 0 [(0, .int a1), (1, .int a2), (2, .int a3)] [] zs_Rb
  refine h_iload_n_W dX11_within_0 rfl rfl ?_
  refine h_iload_n_W dX11_within_1 rfl rfl ?_
  refine h_ic_lt_W 14 dX11_within_2 (by decide) (fun h1 => ?_) (fun h1 => ?_)
  · refine h_iconst_W (v := (nI 0)) dX11_within_14 rfl ?_
    exact h_iret_W dX11_within_15 rfl rfl ⟨_, rfl, rfl⟩
  · refine h_iload_n_W dX11_within_5 rfl rfl ?_
    refine h_iload_n_W dX11_within_6 rfl rfl ?_
    refine h_ic_gt_W 14 dX11_within_7 (by decide) (fun h2 => ?_) (fun h2 => ?_)
    · refine h_iconst_W (v := (nI 0)) dX11_within_14 rfl ?_
      exact h_iret_W dX11_within_15 rfl rfl ⟨_, rfl, rfl⟩
    · refine h_iconst_W (v := (nI 1)) dX11_within_10 rfl ?_
      refine h_goto_W 15 dX11_within_11 (by decide) ?_
      exact h_iret_W dX11_within_15 rfl rfl ⟨_, rfl, rfl⟩
set_option maxRecDepth 100000 in
theorem v_X11_isStep_W (a1 : Int32) : zs_Dd'_W MX11_isStep [.int a1] zs_Rb := by
  refine zs_Wof_W (by decide) (Nat.le_of_ble_eq_true rfl) ?_
  show zs_W_W MX11_isStep 0 [(0, .int a1)] [] zs_Rb
  refine h_iload_n_W dX11_isStep_0 rfl rfl ?_
  refine h_iconst_W (v := (nI 0)) dX11_isStep_1 rfl ?_
  refine h_bipush_W (v := (nI 11)) dX11_isStep_2 rfl ?_
  refine h_callS_W [.int a1, .int (nI 0), .int (nI 11)] [] (v_X11_within_W a1 (nI 0) (nI 11)) dX11_isStep_4 kk_X11_isStep_X11_within ml_RX11_75 swX11_within rfl rfl (Nat.le_of_ble_eq_true rfl) ?_
  rintro _ ⟨x1, rfl, bx1⟩
  exact h_iret_W dX11_isStep_7 rfl bx1 ⟨_, rfl, bx1⟩
set_option maxRecDepth 100000 in
theorem v_X3_begin_3_W (a1 : Int32) : zs_Dd'_W MX3_begin [.ref 3, .int a1] zs_Rv := by
  refine zs_Wof_W (by decide) (Nat.le_of_ble_eq_true rfl) ?_
  show zs_W_W MX3_begin 0 [(0, .ref 3), (1, .int a1)] [] zs_Rv
  refine h_aload_n_W dX3_begin_0 rfl rfl ?_
  refine h_iconst_W (v := (nI 0)) dX3_begin_1 rfl ?_
  refine h_putI_W 0 (C := RX3) (T := TX3) (N := 6) (ty := .int) dX3_begin_2 (by decide) rfl rfl (by decide) rfl fl_RX3_25 rfl (by decide +kernel) ⟨rfl, rfl⟩ rfl ?_
  refine h_aload_n_W dX3_begin_5 rfl rfl ?_
  refine h_iconst_W (v := (nI 0)) dX3_begin_6 rfl ?_
  refine h_putI_W 1 (C := RX3) (T := TX3) (N := 6) (ty := .int) dX3_begin_7 (by decide) rfl rfl (by decide) rfl fl_RX3_28 rfl (by decide +kernel) ⟨rfl, rfl⟩ rfl ?_
  refine h_aload_n_W dX3_begin_10 rfl rfl ?_
  refine h_iload_n_W dX3_begin_11 rfl rfl ?_
  refine h_putI_W 2 (C := RX3) (T := TX3) (N := 6) (ty := .int) dX3_begin_12 (by decide) rfl rfl (by decide) rfl fl_RX3_9 rfl (by decide +kernel) ⟨rfl, rfl⟩ rfl ?_
  refine h_aload_n_W dX3_begin_15 rfl rfl ?_
  refine h_getR_W 3 4 (C := RX3) (T := TX3) (N := 6) dX3_begin_16 (by decide) rfl rfl (by decide) rfl fl_RX3_15 ?_
  refine h_iconst_W (v := (nI 0)) dX3_begin_19 rfl ?_
  refine h_callN_W [.ref 4, .int (nI 0)] [] (v_fill_W 4 12 (nI 0) (by decide) rfl (by decide) ⟨by decide, by decide, by decide⟩) dX3_begin_20 kk_X3_begin_X11_fill nl_RX3_31 swX11_fill rfl rfl (Nat.le_of_ble_eq_true rfl) ?_
  rintro _ rfl
  refine h_aload_n_W dX3_begin_23 rfl rfl ?_
  refine h_getR_W 4 5 (C := RX3) (T := TX3) (N := 6) dX3_begin_24 (by decide) rfl rfl (by decide) rfl fl_RX3_19 ?_
  refine h_iconst_W (v := (nI 0)) dX3_begin_27 rfl ?_
  refine h_callN_W [.ref 5, .int (nI 0)] [] (v_fill_W 5 5 (nI 0) (by decide) rfl (by decide) ⟨by decide, by decide, by decide⟩) dX3_begin_28 kk_X3_begin_X11_fill nl_RX3_31 swX11_fill rfl rfl (Nat.le_of_ble_eq_true rfl) ?_
  rintro _ rfl
  refine h_aload_n_W dX3_begin_31 rfl rfl ?_
  refine h_getR_W 5 6 (C := RX3) (T := TX3) (N := 6) dX3_begin_32 (by decide) rfl rfl (by decide) rfl fl_RX3_22 ?_
  refine h_iconst_W (v := (nI 0)) dX3_begin_35 rfl ?_
  refine h_callN_W [.ref 6, .int (nI 0)] [] (v_fill_W 6 5 (nI 0) (by decide) rfl (by decide) ⟨by decide, by decide, by decide⟩) dX3_begin_36 kk_X3_begin_X11_fill nl_RX3_31 swX11_fill rfl rfl (Nat.le_of_ble_eq_true rfl) ?_
  rintro _ rfl
  exact h_ret_W dX3_begin_39 rfl rfl
set_option maxRecDepth 100000 in
theorem v_X4_empty_7_W : zs_Dd'_W MX4_empty [.ref 7] zs_Rv := by
  refine zs_Wof_W (by decide) (Nat.le_of_ble_eq_true rfl) ?_
  show zs_W_W MX4_empty 0 [(0, .ref 7)] [] zs_Rv
  refine h_aload_n_W dX4_empty_0 rfl rfl ?_
  refine h_iconst_W (v := (nI 0)) dX4_empty_1 rfl ?_
  refine h_putI_W 1 (C := RX4) (T := TX4) (N := 2) (ty := .int) dX4_empty_2 (by decide) rfl rfl (by decide) rfl fl_RX4_17 rfl (by decide +kernel) ⟨rfl, rfl⟩ rfl ?_
  exact h_ret_W dX4_empty_5 rfl rfl
set_option maxRecDepth 100000 in
theorem v_X1_lazy_W (a1 : Int32) (a2 : Int32) : zs_Dd'_W MX1_lazy [.int a1, .int a2] zs_Ri := by
  refine zs_Wof_W (by decide) (Nat.le_of_ble_eq_true rfl) ?_
  show zs_W_W MX1_lazy 0 [(0, .int a1), (1, .int a2)] [] zs_Ri
  refine h_iload_n_W dX1_lazy_0 rfl rfl ?_
  refine h_iload_n_W dX1_lazy_1 rfl rfl ?_
  refine h_iadd_W dX1_lazy_2 (fun x1 => ?_)
  refine h_iconst_W (v := (nI 2)) dX1_lazy_3 rfl ?_
  refine h_idiv_W dX1_lazy_4 (by decide) (fun x2 => ?_)
  exact h_iret_W dX1_lazy_5 rfl rfl ⟨_, rfl⟩
set_option maxRecDepth 100000 in
theorem v_J9_abs_0f7a4_W (a1 : Int32) : zs_Dd'_W MJ9_abs_0f7a4 [.int a1] zs_Ri := by
  refine zs_WoF_W pf_J9_abs_0f7a4 (Nat.le_of_ble_eq_true rfl) ?_
  show zs_W_W MJ9_abs_0f7a4 0 [(0, .int a1)] [] zs_Ri
  refine h_iload_n_W dJ9_abs_0f7a4_0 rfl rfl ?_
  refine h_if_ge_W 9 dJ9_abs_0f7a4_1 (by decide) (fun h1 => ?_) (fun h1 => ?_)
  · refine h_iload_n_W dJ9_abs_0f7a4_9 rfl rfl ?_
    exact h_iret_W dJ9_abs_0f7a4_10 rfl rfl ⟨_, rfl⟩
  · refine h_iload_n_W dJ9_abs_0f7a4_4 rfl rfl ?_
    refine h_ineg_W dJ9_abs_0f7a4_5 (fun x2 => ?_)
    refine h_goto_W 10 dJ9_abs_0f7a4_6 (by decide) ?_
    exact h_iret_W dJ9_abs_0f7a4_10 rfl rfl ⟨_, rfl⟩
set_option maxRecDepth 100000 in
theorem v_X1_sharp_W (a1 : Int32) (a2 : Int32) : zs_Dd'_W MX1_sharp [.int a1, .int a2] zs_Ri := by
  refine zs_Wof_W (by decide) (Nat.le_of_ble_eq_true rfl) ?_
  show zs_W_W MX1_sharp 0 [(0, .int a1), (1, .int a2)] [] zs_Ri
  refine h_iload_n_W dX1_sharp_0 rfl rfl ?_
  refine h_iload_n_W dX1_sharp_1 rfl rfl ?_
  refine h_isub_W dX1_sharp_2 (fun x1 => ?_)
  refine h_callS_W [.int x1] [] (v_J9_abs_0f7a4_W x1) dX1_sharp_3 kk_X1_sharp_J9_abs_0f7a4 ml_RX1_21 swJ9_abs_0f7a4 rfl rfl (Nat.le_of_ble_eq_true rfl) ?_
  rintro _ ⟨x2, rfl⟩
  refine h_iconst_W (v := (nI 1)) dX1_sharp_6 rfl ?_
  refine h_ic_ne_W 14 dX1_sharp_7 (by decide) (fun h3 => ?_) (fun h3 => ?_)
  · refine h_iload_n_W dX1_sharp_14 rfl rfl ?_
    exact h_iret_W dX1_sharp_15 rfl rfl ⟨_, rfl⟩
  · refine h_iload_n_W dX1_sharp_10 rfl rfl ?_
    refine h_goto_W 15 dX1_sharp_11 (by decide) ?_
    exact h_iret_W dX1_sharp_15 rfl rfl ⟨_, rfl⟩
set_option maxRecDepth 100000 in
theorem v_J9_min_7cf53_W (a1 : Int32) (a2 : Int32) : zs_Dd'_W MJ9_min_7cf53 [.int a1, .int a2] zs_Ri := by
  refine zs_WoF_W pf_J9_min_7cf53 (Nat.le_of_ble_eq_true rfl) ?_
  show zs_W_W MJ9_min_7cf53 0 [(0, .int a1), (1, .int a2)] [] zs_Ri
  refine h_iload_n_W dJ9_min_7cf53_0 rfl rfl ?_
  refine h_iload_n_W dJ9_min_7cf53_1 rfl rfl ?_
  refine h_ic_gt_W 9 dJ9_min_7cf53_2 (by decide) (fun h1 => ?_) (fun h1 => ?_)
  · refine h_iload_n_W dJ9_min_7cf53_9 rfl rfl ?_
    exact h_iret_W dJ9_min_7cf53_10 rfl rfl ⟨_, rfl⟩
  · refine h_iload_n_W dJ9_min_7cf53_5 rfl rfl ?_
    refine h_goto_W 10 dJ9_min_7cf53_6 (by decide) ?_
    exact h_iret_W dJ9_min_7cf53_10 rfl rfl ⟨_, rfl⟩
set_option maxRecDepth 100000 in
theorem v_X1_child_W (a1 : Int32) (a2 : Int32) : zs_Dd'_W MX1_child [.int a1, .int a2] zs_Ri := by
  refine zs_Wof_W (by decide) (Nat.le_of_ble_eq_true rfl) ?_
  show zs_W_W MX1_child 0 [(0, .int a1), (1, .int a2)] [] zs_Ri
  refine h_iload_n_W dX1_child_0 rfl rfl ?_
  refine h_iload_n_W dX1_child_1 rfl rfl ?_
  refine h_ic_le_W 16 dX1_child_2 (by decide) (fun h1 => ?_) (fun h1 => ?_)
  · refine h_iload_n_W dX1_child_16 rfl rfl ?_
    exact h_iret_W dX1_child_17 rfl rfl ⟨_, rfl⟩
  · refine h_bipush_W (v := (nI 9)) dX1_child_5 rfl ?_
    refine h_iload_n_W dX1_child_7 rfl rfl ?_
    refine h_iconst_W (v := (nI 1)) dX1_child_8 rfl ?_
    refine h_iadd_W dX1_child_9 (fun x2 => ?_)
    refine h_callS_W [.int (nI 9), .int x2] [] (v_J9_min_7cf53_W (nI 9) x2) dX1_child_10 kk_X1_child_J9_min_7cf53 ml_RX1_27 swJ9_min_7cf53 rfl rfl (Nat.le_of_ble_eq_true rfl) ?_
    rintro _ ⟨x3, rfl⟩
    refine h_goto_W 17 dX1_child_13 (by decide) ?_
    exact h_iret_W dX1_child_17 rfl rfl ⟨_, rfl⟩
set_option maxRecDepth 100000 in
theorem v_X1_sight_W (a1 : Int32) (a2 : Int32) (a3 : Int32) : zs_Dd'_W MX1_sight [.int a1, .int a2, .int a3] zs_Ri := by
  refine zs_Wof_W (by decide) (Nat.le_of_ble_eq_true rfl) ?_
  show zs_W_W MX1_sight 0 [(0, .int a1), (1, .int a2), (2, .int a3)] [] zs_Ri
  refine h_iload_n_W dX1_sight_0 rfl rfl ?_
  by_cases h1 : (a1 : Int32).toInt < 1 ∨ 5 < (a1 : Int32).toInt
  · refine h_tout_W 83 dX1_sight_1 h1 (by decide) ?_
    refine h_iload_n_W dX1_sight_83 rfl rfl ?_
    exact h_iret_W dX1_sight_84 rfl rfl ⟨_, rfl⟩
  rcases (show (a1 : Int32).toInt = 1 ∨ (a1 : Int32).toInt = 2 ∨ (a1 : Int32).toInt = 3 ∨ (a1 : Int32).toInt = 4 ∨ (a1 : Int32).toInt = 5 by omega) with h1 | h1 | h1 | h1 | h1
  · refine h_tin_W (off := 35) 36 dX1_sight_1 (by rw [h1]; decide) (by rw [h1]; decide) (by rw [h1]; rfl) (by decide) ?_
    refine h_iload_n_W dX1_sight_36 rfl rfl ?_
    refine h_iload_n_W dX1_sight_37 rfl rfl ?_
    refine h_callS_W [.int a2, .int a3] [] (v_X1_lazy_W a2 a3) dX1_sight_38 kk_X1_sight_X1_lazy ml_RX1_9 swX1_lazy rfl rfl (Nat.le_of_ble_eq_true rfl) ?_
    rintro _ ⟨x2, rfl⟩
    exact h_iret_W dX1_sight_41 rfl rfl ⟨_, rfl⟩
  · refine h_tin_W (off := 41) 42 dX1_sight_1 (by rw [h1]; decide) (by rw [h1]; decide) (by rw [h1]; rfl) (by decide) ?_
    refine h_iload_n_W dX1_sight_42 rfl rfl ?_
    refine h_iload_n_W dX1_sight_43 rfl rfl ?_
    refine h_callS_W [.int a2, .int a3] [] (v_X1_sharp_W a2 a3) dX1_sight_44 kk_X1_sight_X1_sharp ml_RX1_15 swX1_sharp rfl rfl (Nat.le_of_ble_eq_true rfl) ?_
    rintro _ ⟨x3, rfl⟩
    exact h_iret_W dX1_sight_47 rfl rfl ⟨_, rfl⟩
  · refine h_tin_W (off := 47) 48 dX1_sight_1 (by rw [h1]; decide) (by rw [h1]; decide) (by rw [h1]; rfl) (by decide) ?_
    refine h_iload_n_W dX1_sight_48 rfl rfl ?_
    refine h_if_ne_W 56 dX1_sight_49 (by decide) (fun h4 => ?_) (fun h4 => ?_)
    · refine h_iload_n_W dX1_sight_56 rfl rfl ?_
      refine h_iload_n_W dX1_sight_57 rfl rfl ?_
      refine h_callS_W [.int a2, .int a3] [] (v_X1_lazy_W a2 a3) dX1_sight_58 kk_X1_sight_X1_lazy ml_RX1_9 swX1_lazy rfl rfl (Nat.le_of_ble_eq_true rfl) ?_
      rintro _ ⟨x5, rfl⟩
      exact h_iret_W dX1_sight_61 rfl rfl ⟨_, rfl⟩
    · refine h_iload_n_W dX1_sight_52 rfl rfl ?_
      refine h_goto_W 61 dX1_sight_53 (by decide) ?_
      exact h_iret_W dX1_sight_61 rfl rfl ⟨_, rfl⟩
  · refine h_tin_W (off := 61) 62 dX1_sight_1 (by rw [h1]; decide) (by rw [h1]; decide) (by rw [h1]; rfl) (by decide) ?_
    refine h_iload_n_W dX1_sight_62 rfl rfl ?_
    refine h_iload_n_W dX1_sight_63 rfl rfl ?_
    refine h_callS_W [.int a2, .int a3] [] (v_X1_sharp_W a2 a3) dX1_sight_64 kk_X1_sight_X1_sharp ml_RX1_15 swX1_sharp rfl rfl (Nat.le_of_ble_eq_true rfl) ?_
    rintro _ ⟨x6, rfl⟩
    refine h_iload_n_W dX1_sight_67 rfl rfl ?_
    refine h_callS_W [.int x6, .int a3] [] (v_X1_child_W x6 a3) dX1_sight_68 kk_X1_sight_X1_child ml_RX1_18 swX1_child rfl rfl (Nat.le_of_ble_eq_true rfl) ?_
    rintro _ ⟨x7, rfl⟩
    exact h_iret_W dX1_sight_71 rfl rfl ⟨_, rfl⟩
  · refine h_tin_W (off := 71) 72 dX1_sight_1 (by rw [h1]; decide) (by rw [h1]; decide) (by rw [h1]; rfl) (by decide) ?_
    refine h_iload_n_W dX1_sight_72 rfl rfl ?_
    refine h_iload_n_W dX1_sight_73 rfl rfl ?_
    refine h_ic_ne_W 81 dX1_sight_74 (by decide) (fun h8 => ?_) (fun h8 => ?_)
    · refine h_iload_n_W dX1_sight_81 rfl rfl ?_
      exact h_iret_W dX1_sight_82 rfl rfl ⟨_, rfl⟩
    · refine h_iconst_W (v := (nI 0)) dX1_sight_77 rfl ?_
      refine h_goto_W 82 dX1_sight_78 (by decide) ?_
      exact h_iret_W dX1_sight_82 rfl rfl ⟨_, rfl⟩
set_option maxRecDepth 100000 in
theorem v_X2_twice_W (a1 : Int32) : zs_Dd'_W MX2_twice [.int a1] zs_Ri := by
  refine zs_Wof_W (by decide) (Nat.le_of_ble_eq_true rfl) ?_
  show zs_W_W MX2_twice 0 [(0, .int a1)] [] zs_Ri
  refine h_iconst_W (v := (nI 2)) dX2_twice_0 rfl ?_
  refine h_iload_n_W dX2_twice_1 rfl rfl ?_
  refine h_imul_W dX2_twice_2 (fun x1 => ?_)
  exact h_iret_W dX2_twice_3 rfl rfl ⟨_, rfl⟩
set_option maxRecDepth 100000 in
theorem v_X2_jerk_W (a1 : Int32) (a2 : Int32) : zs_Dd'_W MX2_jerk [.int a1, .int a2] zs_Ri := by
  refine zs_Wof_W (by decide) (Nat.le_of_ble_eq_true rfl) ?_
  show zs_W_W MX2_jerk 0 [(0, .int a1), (1, .int a2)] [] zs_Ri
  refine h_iload_n_W dX2_jerk_0 rfl rfl ?_
  refine h_iconst_W (v := (nI 2)) dX2_jerk_1 rfl ?_
  refine h_irem_W dX2_jerk_2 (by decide) (fun x1 => ?_)
  refine h_if_ne_W 10 dX2_jerk_3 (by decide) (fun h2 => ?_) (fun h2 => ?_)
  · refine h_iload_n_W dX2_jerk_10 rfl rfl ?_
    refine h_iconst_W (v := (nI 1)) dX2_jerk_11 rfl ?_
    refine h_iadd_W dX2_jerk_12 (fun x3 => ?_)
    exact h_iret_W dX2_jerk_13 rfl rfl ⟨_, rfl⟩
  · refine h_iload_n_W dX2_jerk_6 rfl rfl ?_
    refine h_goto_W 13 dX2_jerk_7 (by decide) ?_
    exact h_iret_W dX2_jerk_13 rfl rfl ⟨_, rfl⟩
set_option maxRecDepth 100000 in
theorem v_J9_max_7cf53_W (a1 : Int32) (a2 : Int32) : zs_Dd'_W MJ9_max_7cf53 [.int a1, .int a2] zs_Ri := by
  refine zs_WoF_W pf_J9_max_7cf53 (Nat.le_of_ble_eq_true rfl) ?_
  show zs_W_W MJ9_max_7cf53 0 [(0, .int a1), (1, .int a2)] [] zs_Ri
  refine h_iload_n_W dJ9_max_7cf53_0 rfl rfl ?_
  refine h_iload_n_W dJ9_max_7cf53_1 rfl rfl ?_
  refine h_ic_lt_W 9 dJ9_max_7cf53_2 (by decide) (fun h1 => ?_) (fun h1 => ?_)
  · refine h_iload_n_W dJ9_max_7cf53_9 rfl rfl ?_
    exact h_iret_W dJ9_max_7cf53_10 rfl rfl ⟨_, rfl⟩
  · refine h_iload_n_W dJ9_max_7cf53_5 rfl rfl ?_
    refine h_goto_W 10 dJ9_max_7cf53_6 (by decide) ?_
    exact h_iret_W dJ9_max_7cf53_10 rfl rfl ⟨_, rfl⟩
set_option maxRecDepth 100000 in
theorem v_X2_passing_W (a1 : Int32) (a2 : Int32) (a3 : Int32) : zs_Dd'_W MX2_passing [.int a1, .int a2, .int a3] zs_Ri := by
  refine zs_Wof_W (by decide) (Nat.le_of_ble_eq_true rfl) ?_
  show zs_W_W MX2_passing 0 [(0, .int a1), (1, .int a2), (2, .int a3)] [] zs_Ri
  refine h_iload_n_W dX2_passing_0 rfl rfl ?_
  by_cases h1 : (a1 : Int32).toInt < 1 ∨ 5 < (a1 : Int32).toInt
  · refine h_tout_W 90 dX2_passing_1 h1 (by decide) ?_
    refine h_iload_n_W dX2_passing_90 rfl rfl ?_
    exact h_iret_W dX2_passing_91 rfl rfl ⟨_, rfl⟩
  rcases (show (a1 : Int32).toInt = 1 ∨ (a1 : Int32).toInt = 2 ∨ (a1 : Int32).toInt = 3 ∨ (a1 : Int32).toInt = 4 ∨ (a1 : Int32).toInt = 5 by omega) with h1 | h1 | h1 | h1 | h1
  · refine h_tin_W (off := 35) 36 dX2_passing_1 (by rw [h1]; decide) (by rw [h1]; decide) (by rw [h1]; rfl) (by decide) ?_
    refine h_iload_n_W dX2_passing_36 rfl rfl ?_
    refine h_callS_W [.int a2] [] (v_X2_twice_W a2) dX2_passing_37 kk_X2_passing_X2_twice ml_RX2_7 swX2_twice rfl rfl (Nat.le_of_ble_eq_true rfl) ?_
    rintro _ ⟨x2, rfl⟩
    exact h_iret_W dX2_passing_40 rfl rfl ⟨_, rfl⟩
  · refine h_tin_W (off := 40) 41 dX2_passing_1 (by rw [h1]; decide) (by rw [h1]; decide) (by rw [h1]; rfl) (by decide) ?_
    refine h_iload_n_W dX2_passing_41 rfl rfl ?_
    refine h_iload_n_W dX2_passing_42 rfl rfl ?_
    refine h_callS_W [.int a2, .int a3] [] (v_X2_jerk_W a2 a3) dX2_passing_43 kk_X2_passing_X2_jerk ml_RX2_13 swX2_jerk rfl rfl (Nat.le_of_ble_eq_true rfl) ?_
    rintro _ ⟨x3, rfl⟩
    exact h_iret_W dX2_passing_46 rfl rfl ⟨_, rfl⟩
  · refine h_tin_W (off := 46) 47 dX2_passing_1 (by rw [h1]; decide) (by rw [h1]; decide) (by rw [h1]; rfl) (by decide) ?_
    refine h_iload_n_W dX2_passing_47 rfl rfl ?_
    refine h_iconst_W (v := (nI 4)) dX2_passing_48 rfl ?_
    refine h_irem_W dX2_passing_49 (by decide) (fun x4 => ?_)
    refine h_if_ne_W 62 dX2_passing_50 (by decide) (fun h5 => ?_) (fun h5 => ?_)
    · refine h_iload_n_W dX2_passing_62 rfl rfl ?_
      refine h_callS_W [.int a2] [] (v_X2_twice_W a2) dX2_passing_63 kk_X2_passing_X2_twice ml_RX2_7 swX2_twice rfl rfl (Nat.le_of_ble_eq_true rfl) ?_
      rintro _ ⟨x6, rfl⟩
      exact h_iret_W dX2_passing_66 rfl rfl ⟨_, rfl⟩
    · refine h_iload_n_W dX2_passing_53 rfl rfl ?_
      refine h_callS_W [.int a2] [] (v_X2_twice_W a2) dX2_passing_54 kk_X2_passing_X2_twice ml_RX2_7 swX2_twice rfl rfl (Nat.le_of_ble_eq_true rfl) ?_
      rintro _ ⟨x7, rfl⟩
      refine h_iconst_W (v := (nI 1)) dX2_passing_57 rfl ?_
      refine h_iadd_W dX2_passing_58 (fun x8 => ?_)
      refine h_goto_W 66 dX2_passing_59 (by decide) ?_
      exact h_iret_W dX2_passing_66 rfl rfl ⟨_, rfl⟩
  · refine h_tin_W (off := 66) 67 dX2_passing_1 (by rw [h1]; decide) (by rw [h1]; decide) (by rw [h1]; rfl) (by decide) ?_
    refine h_iload_n_W dX2_passing_67 rfl rfl ?_
    refine h_iconst_W (v := (nI 5)) dX2_passing_68 rfl ?_
    refine h_irem_W dX2_passing_69 (by decide) (fun x9 => ?_)
    refine h_iconst_W (v := (nI 4)) dX2_passing_70 rfl ?_
    refine h_ic_ne_W 78 dX2_passing_71 (by decide) (fun h10 => ?_) (fun h10 => ?_)
    · refine h_iload_n_W dX2_passing_78 rfl rfl ?_
      refine h_iload_n_W dX2_passing_79 rfl rfl ?_
      refine h_callS_W [.int a2, .int a3] [] (v_X2_jerk_W a2 a3) dX2_passing_80 kk_X2_passing_X2_jerk ml_RX2_13 swX2_jerk rfl rfl (Nat.le_of_ble_eq_true rfl) ?_
      rintro _ ⟨x11, rfl⟩
      exact h_iret_W dX2_passing_83 rfl rfl ⟨_, rfl⟩
    · refine h_iconst_W (v := (nI 0)) dX2_passing_74 rfl ?_
      refine h_goto_W 83 dX2_passing_75 (by decide) ?_
      exact h_iret_W dX2_passing_83 rfl rfl ⟨_, rfl⟩
  · refine h_tin_W (off := 83) 84 dX2_passing_1 (by rw [h1]; decide) (by rw [h1]; decide) (by rw [h1]; rfl) (by decide) ?_
    refine h_iconst_W (v := (nI 1)) dX2_passing_84 rfl ?_
    refine h_iload_n_W dX2_passing_85 rfl rfl ?_
    refine h_callS_W [.int (nI 1), .int a2] [] (v_J9_max_7cf53_W (nI 1) a2) dX2_passing_86 kk_X2_passing_J9_max_7cf53 ml_RX2_17 swJ9_max_7cf53 rfl rfl (Nat.le_of_ble_eq_true rfl) ?_
    rintro _ ⟨x12, rfl⟩
    exact h_iret_W dX2_passing_89 rfl rfl ⟨_, rfl⟩
set_option maxRecDepth 100000 in
theorem v_X11_wrap_W (a1 : Int32) (a2 : Int32) : zs_Dd'_W MX11_wrap [.int a1, .int a2] zs_Ri := by
  refine zs_Wof_W (by decide) (Nat.le_of_ble_eq_true rfl) ?_
  show zs_W_W MX11_wrap 0 [(0, .int a1), (1, .int a2)] [] zs_Ri
  refine h_iload_n_W dX11_wrap_0 rfl rfl ?_
  refine h_iconst_W (v := (nI 1)) dX11_wrap_1 rfl ?_
  refine h_ic_ge_W 9 dX11_wrap_2 (by decide) (fun h1 => ?_) (fun h1 => ?_)
  · refine h_iload_n_W dX11_wrap_9 rfl rfl ?_
    refine h_iload_n_W dX11_wrap_10 rfl rfl ?_
    refine h_callS_W [.int a1, .int a2] [] (v_floorMod_W a1 a2 (zs_1le h1)) dX11_wrap_11 kk_X11_wrap_J9_floorMod_7cf53 ml_RX11_334 swJ9_floorMod_7cf53 rfl rfl (Nat.le_of_ble_eq_true rfl) ?_
    rintro _ ⟨x2, rfl⟩
    exact h_iret_W dX11_wrap_14 rfl rfl ⟨_, rfl⟩
  · refine h_iconst_W (v := (nI 0)) dX11_wrap_5 rfl ?_
    refine h_goto_W 14 dX11_wrap_6 (by decide) ?_
    exact h_iret_W dX11_wrap_14 rfl rfl ⟨_, rfl⟩
set_option maxRecDepth 100000 in
theorem v_X3_become_3_47_W : zs_Dd'_W MX3_become [.ref 3, .ref 47] zs_Rv := by
  refine zs_Wof_W (by decide) (Nat.le_of_ble_eq_true rfl) ?_
  show zs_W_W MX3_become 0 [(0, .ref 3), (1, .ref 47)] [] zs_Rv
  refine h_aload_n_W dX3_become_0 rfl rfl ?_
  refine h_aload_n_W dX3_become_1 rfl rfl ?_
  refine h_getI_W 0 (C := RX3) (T := TX3) (N := 6) dX3_become_2 (by decide) rfl rfl (by decide) rfl fl_RX3_25 (fun x1 => ?_)
  refine h_putI_W 0 (C := RX3) (T := TX3) (N := 6) (ty := .int) dX3_become_5 (by decide) rfl rfl (by decide) rfl fl_RX3_25 rfl (by decide +kernel) ⟨rfl, rfl⟩ rfl ?_
  refine h_aload_n_W dX3_become_8 rfl rfl ?_
  refine h_aload_n_W dX3_become_9 rfl rfl ?_
  refine h_getI_W 1 (C := RX3) (T := TX3) (N := 6) dX3_become_10 (by decide) rfl rfl (by decide) rfl fl_RX3_28 (fun x2 => ?_)
  refine h_putI_W 1 (C := RX3) (T := TX3) (N := 6) (ty := .int) dX3_become_13 (by decide) rfl rfl (by decide) rfl fl_RX3_28 rfl (by decide +kernel) ⟨rfl, rfl⟩ rfl ?_
  refine h_aload_n_W dX3_become_16 rfl rfl ?_
  refine h_aload_n_W dX3_become_17 rfl rfl ?_
  refine h_getI_W 2 (C := RX3) (T := TX3) (N := 6) dX3_become_18 (by decide) rfl rfl (by decide) rfl fl_RX3_9 (fun x3 => ?_)
  refine h_putI_W 2 (C := RX3) (T := TX3) (N := 6) (ty := .int) dX3_become_21 (by decide) rfl rfl (by decide) rfl fl_RX3_9 rfl (by decide +kernel) ⟨rfl, rfl⟩ rfl ?_
  refine h_aload_n_W dX3_become_24 rfl rfl ?_
  refine h_getR_W 3 48 (C := RX3) (T := TX3) (N := 6) dX3_become_25 (by decide) rfl rfl (by decide) rfl fl_RX3_15 ?_
  refine h_aload_n_W dX3_become_28 rfl rfl ?_
  refine h_getR_W 3 4 (C := RX3) (T := TX3) (N := 6) dX3_become_29 (by decide) rfl rfl (by decide) rfl fl_RX3_15 ?_
  refine h_callN_W [.ref 48, .ref 4] [] (v_copyRow_W 48 4 12 (by decide) rfl (by decide) rfl (by decide) (by decide) ⟨by decide, by decide, by decide⟩) dX3_become_32 kk_X3_become_X11_copyRow nl_RX3_35 swX11_copyRow rfl rfl (Nat.le_of_ble_eq_true rfl) ?_
  rintro _ rfl
  refine h_aload_n_W dX3_become_35 rfl rfl ?_
  refine h_getR_W 4 49 (C := RX3) (T := TX3) (N := 6) dX3_become_36 (by decide) rfl rfl (by decide) rfl fl_RX3_19 ?_
  refine h_aload_n_W dX3_become_39 rfl rfl ?_
  refine h_getR_W 4 5 (C := RX3) (T := TX3) (N := 6) dX3_become_40 (by decide) rfl rfl (by decide) rfl fl_RX3_19 ?_
  refine h_callN_W [.ref 49, .ref 5] [] (v_copyRow_W 49 5 5 (by decide) rfl (by decide) rfl (by decide) (by decide) ⟨by decide, by decide, by decide⟩) dX3_become_43 kk_X3_become_X11_copyRow nl_RX3_35 swX11_copyRow rfl rfl (Nat.le_of_ble_eq_true rfl) ?_
  rintro _ rfl
  refine h_aload_n_W dX3_become_46 rfl rfl ?_
  refine h_getR_W 5 50 (C := RX3) (T := TX3) (N := 6) dX3_become_47 (by decide) rfl rfl (by decide) rfl fl_RX3_22 ?_
  refine h_aload_n_W dX3_become_50 rfl rfl ?_
  refine h_getR_W 5 6 (C := RX3) (T := TX3) (N := 6) dX3_become_51 (by decide) rfl rfl (by decide) rfl fl_RX3_22 ?_
  refine h_callN_W [.ref 50, .ref 6] [] (v_copyRow_W 50 6 5 (by decide) rfl (by decide) rfl (by decide) (by decide) ⟨by decide, by decide, by decide⟩) dX3_become_54 kk_X3_become_X11_copyRow nl_RX3_35 swX11_copyRow rfl rfl (Nat.le_of_ble_eq_true rfl) ?_
  rintro _ rfl
  exact h_ret_W dX3_become_57 rfl rfl
set_option maxRecDepth 100000 in
theorem v_X4_become_7_51_W : zs_Dd'_W MX4_become [.ref 7, .ref 51] zs_Rv := by
  refine zs_Wof_W (by decide) (Nat.le_of_ble_eq_true rfl) ?_
  show zs_W_W MX4_become 0 [(0, .ref 7), (1, .ref 51)] [] zs_Rv
  refine h_aload_n_W dX4_become_0 rfl rfl ?_
  refine h_getR_W 0 52 (C := RX4) (T := TX4) (N := 2) dX4_become_1 (by decide) rfl rfl (by decide) rfl fl_RX4_11 ?_
  refine h_aload_n_W dX4_become_4 rfl rfl ?_
  refine h_getR_W 0 8 (C := RX4) (T := TX4) (N := 2) dX4_become_5 (by decide) rfl rfl (by decide) rfl fl_RX4_11 ?_
  refine h_callN_W [.ref 52, .ref 8] [] (v_copyRow_W 52 8 200 (by decide) rfl (by decide) rfl (by decide) (by decide) ⟨by decide, by decide, by decide⟩) dX4_become_8 kk_X4_become_X11_copyRow nl_RX4_31 swX11_copyRow rfl rfl (Nat.le_of_ble_eq_true rfl) ?_
  rintro _ rfl
  refine h_aload_n_W dX4_become_11 rfl rfl ?_
  refine h_aload_n_W dX4_become_12 rfl rfl ?_
  refine h_getI_W 1 (C := RX4) (T := TX4) (N := 2) dX4_become_13 (by decide) rfl rfl (by decide) rfl fl_RX4_17 (fun x1 => ?_)
  refine h_putI_W 1 (C := RX4) (T := TX4) (N := 2) (ty := .int) dX4_become_16 (by decide) rfl rfl (by decide) rfl fl_RX4_17 rfl (by decide +kernel) ⟨rfl, rfl⟩ rfl ?_
  exact h_ret_W dX4_become_19 rfl rfl
set_option maxRecDepth 100000 in
theorem v_X6_drawingAtHand_1_3_W : zs_Dd'_W MX6_drawingAtHand [.ref 1, .ref 3] zs_Ri := by
  refine zs_Wof_W (by decide) (Nat.le_of_ble_eq_true rfl) ?_
  show zs_W_W MX6_drawingAtHand 0 [(0, .ref 1), (1, .ref 3)] [] zs_Ri
  refine h_aload_n_W dX6_drawingAtHand_0 rfl rfl ?_
  refine h_getR_W 3 4 (C := RX3) (T := TX3) (N := 6) dX6_drawingAtHand_1 (by decide) rfl rfl (by decide) rfl fl_RX6_130 ?_
  refine h_aload_n_W dX6_drawingAtHand_4 rfl rfl ?_
  refine h_getI_W 0 (C := RX3) (T := TX3) (N := 6) dX6_drawingAtHand_5 (by decide) rfl rfl (by decide) rfl fl_RX6_96 (fun x1 => ?_)
  refine h_callN_W [.ref 4, .int x1] [] (v_cell_W 4 12 x1 (by decide) rfl (by decide)) dX6_drawingAtHand_8 kk_X6_drawingAtHand_X11_cell nl_RX6_116 swX11_cell rfl rfl (Nat.le_of_ble_eq_true rfl) ?_
  rintro _ ⟨x2, rfl⟩
  exact h_iret_W dX6_drawingAtHand_11 rfl rfl ⟨_, rfl⟩
set_option maxRecDepth 100000 in
theorem v_X6_flash_1_3_W : zs_Dd'_W MX6_flash [.ref 1, .ref 3] zs_Rv := by
  refine zs_Wof_W (by decide) (Nat.le_of_ble_eq_true rfl) ?_
  show zs_W_W MX6_flash 0 [(0, .ref 1), (1, .ref 3)] [] zs_Rv
  have j49 : ∀ (n49 : Nat) (v2 : Int32) (c49 : Int32), zs_mu c49 < n49 → zs_W_W MX6_flash 49 [(0, .ref 1), (1, .ref 3), (2, .int v2), (3, .int c49)] [] zs_Rv := by
    intro n49
    induction n49 with
    | zero => intro v2 c49 hn49; exact absurd hn49 (Nat.not_lt_zero _)
    | succ n49 ih49 =>
      intro v2 c49 hn49
      have j114 : zs_mu (c49 + Int32.ofInt 1) < n49 → ∀ (v2 : Int32) (v4 : Int32) (v5 : Int32), zs_W_W MX6_flash 114 [(0, .ref 1), (1, .ref 3), (2, .int v2), (3, .int c49), (4, .int v4), (5, .int v5)] [] zs_Rv := by
        intro hd49 v2 v4 v5
        refine h_aload_n_W dX6_flash_114 rfl rfl ?_
        refine h_getR_W 4 5 (C := RX3) (T := TX3) (N := 6) dX6_flash_115 (by decide) rfl rfl (by decide) rfl fl_RX6_85 ?_
        refine h_iload_n_W dX6_flash_118 rfl rfl ?_
        refine h_iload_W dX6_flash_119 rfl ?_
        refine h_callN_W [.ref 5, .int c49, .int v5] [] (v_put_W 5 5 c49 v5 (by decide) rfl (by decide) ⟨by decide, by decide, by decide⟩) dX6_flash_121 kk_X6_flash_X11_put nl_RX6_81 swX11_put rfl rfl (Nat.le_of_ble_eq_true rfl) ?_
        rintro _ rfl
        refine h_iinc_W (v := (c49 + Int32.ofInt 1)) (lv' := [(3, .int (c49 + Int32.ofInt 1)), (0, .ref 1), (1, .ref 3), (2, .int v2), (4, .int v4), (5, .int v5)]) dX6_flash_124 rfl rfl (by decide) rfl ?_
        refine h_goto_W 49 dX6_flash_127 (by decide) ?_
        exact zs_Wlv_W (ih49 v2 (c49 + Int32.ofInt 1) hd49) (zs_mc 1 rfl (zs_mc 2 rfl (zs_mc 3 rfl (zs_mc 0 rfl zs_mn))))
      refine h_iload_n_W dX6_flash_49 rfl rfl ?_
      refine h_aload_n_W dX6_flash_50 rfl rfl ?_
      refine h_getI_W 2 (C := RX6) (T := TX6) (N := 9) dX6_flash_51 (by decide) rfl rfl (by decide) rfl fl_RX6_51 (fun x1 => ?_)
      refine h_ic_ge_W 130 dX6_flash_54 (by decide) (fun h2 => ?_) (fun h2 => ?_)
      · exact h_ret_W dX6_flash_130 rfl rfl
      · have hd49 := zs_muA h2 hn49
        refine h_aload_n_W dX6_flash_57 rfl rfl ?_
        refine h_getR_W 4 5 (C := RX3) (T := TX3) (N := 6) dX6_flash_58 (by decide) rfl rfl (by decide) rfl fl_RX6_85 ?_
        refine h_iload_n_W dX6_flash_61 rfl rfl ?_
        refine h_callN_W [.ref 5, .int c49] [] (v_cell_W 5 5 c49 (by decide) rfl (by decide)) dX6_flash_62 kk_X6_flash_X11_cell nl_RX6_116 swX11_cell rfl rfl (Nat.le_of_ble_eq_true rfl) ?_
        rintro _ ⟨x3, rfl⟩
        refine h_istore_W (lv' := [(4, .int x3), (0, .ref 1), (1, .ref 3), (2, .int v2), (3, .int c49)]) dX6_flash_65 (by decide) rfl ?_
        refine h_aload_n_W dX6_flash_67 rfl rfl ?_
        refine h_getR_W 3 2 (C := RX6) (T := TX6) (N := 9) dX6_flash_68 (by decide) rfl rfl (by decide) rfl fl_RX6_15 ?_
        refine h_iload_n_W dX6_flash_71 rfl rfl ?_
        refine h_callN_W [.ref 2, .int c49] [] (v_cell_W 2 5 c49 (by decide) rfl (by decide)) dX6_flash_72 kk_X6_flash_X11_cell nl_RX6_116 swX11_cell rfl rfl (Nat.le_of_ble_eq_true rfl) ?_
        rintro _ ⟨x4, rfl⟩
        refine h_iload_n_W dX6_flash_75 rfl rfl ?_
        refine h_iload_W dX6_flash_76 rfl ?_
        refine h_callS_W [.int x4, .int v2, .int x3] [] (v_X1_sight_W x4 v2 x3) dX6_flash_78 kk_X6_flash_X1_sight ml_RX6_120 swX1_sight rfl rfl (Nat.le_of_ble_eq_true rfl) ?_
        rintro _ ⟨x5, rfl⟩
        refine h_istore_W (lv' := [(5, .int x5), (4, .int x3), (0, .ref 1), (1, .ref 3), (2, .int v2), (3, .int c49)]) dX6_flash_81 (by decide) rfl ?_
        refine h_iload_W dX6_flash_83 rfl ?_
        refine h_iload_W dX6_flash_85 rfl ?_
        refine h_ic_eq_W 114 dX6_flash_87 (by decide) (fun h6 => ?_) (fun h6 => ?_)
        · exact zs_Wlv_W (j114 hd49 v2 x3 x5) (zs_mc 2 rfl (zs_mc 3 rfl (zs_mc 4 rfl (zs_mc 5 rfl (zs_mc 1 rfl (zs_mc 0 rfl zs_mn))))))
        · refine h_aload_n_W dX6_flash_90 rfl rfl ?_
          refine h_getR_W 5 6 (C := RX3) (T := TX3) (N := 6) dX6_flash_91 (by decide) rfl rfl (by decide) rfl fl_RX6_88 ?_
          refine h_iload_n_W dX6_flash_94 rfl rfl ?_
          refine h_sipush_W (v := (nI 9999)) dX6_flash_95 rfl ?_
          refine h_aload_n_W dX6_flash_98 rfl rfl ?_
          refine h_getR_W 5 6 (C := RX3) (T := TX3) (N := 6) dX6_flash_99 (by decide) rfl rfl (by decide) rfl fl_RX6_88 ?_
          refine h_iload_n_W dX6_flash_102 rfl rfl ?_
          refine h_callN_W [.ref 6, .int c49] [.int (nI 9999), .int c49, .ref 6] (v_cell_W 6 5 c49 (by decide) rfl (by decide)) dX6_flash_103 kk_X6_flash_X11_cell nl_RX6_116 swX11_cell rfl rfl (Nat.le_of_ble_eq_true rfl) ?_
          rintro _ ⟨x7, rfl⟩
          refine h_iconst_W (v := (nI 1)) dX6_flash_106 rfl ?_
          refine h_iadd_W dX6_flash_107 (fun x8 => ?_)
          refine h_callS_W [.int (nI 9999), .int x8] [.int c49, .ref 6] (v_J9_min_7cf53_W (nI 9999) x8) dX6_flash_108 kk_X6_flash_J9_min_7cf53 ml_RX6_125 swJ9_min_7cf53 rfl rfl (Nat.le_of_ble_eq_true rfl) ?_
          rintro _ ⟨x9, rfl⟩
          refine h_callN_W [.ref 6, .int c49, .int x9] [] (v_put_W 6 5 c49 x9 (by decide) rfl (by decide) ⟨by decide, by decide, by decide⟩) dX6_flash_111 kk_X6_flash_X11_put nl_RX6_81 swX11_put rfl rfl (Nat.le_of_ble_eq_true rfl) ?_
          rintro _ rfl
          exact zs_Wlv_W (j114 hd49 v2 x3 x5) (zs_mc 2 rfl (zs_mc 3 rfl (zs_mc 4 rfl (zs_mc 5 rfl (zs_mc 1 rfl (zs_mc 0 rfl zs_mn))))))
  refine h_aload_n_W dX6_flash_0 rfl rfl ?_
  refine h_dup_W dX6_flash_1 rfl ?_
  refine h_getI_W 1 (C := RX3) (T := TX3) (N := 6) dX6_flash_2 (by decide) rfl rfl (by decide) rfl fl_RX6_91 (fun x10 => ?_)
  refine h_iconst_W (v := (nI 1)) dX6_flash_5 rfl ?_
  refine h_iadd_W dX6_flash_6 (fun x11 => ?_)
  refine h_putI_W 1 (C := RX3) (T := TX3) (N := 6) (ty := .int) dX6_flash_7 (by decide) rfl rfl (by decide) rfl fl_RX6_91 rfl (by decide +kernel) ⟨rfl, rfl⟩ rfl ?_
  refine h_aload_n_W dX6_flash_10 rfl rfl ?_
  refine h_aload_n_W dX6_flash_11 rfl rfl ?_
  refine h_getI_W 0 (C := RX3) (T := TX3) (N := 6) dX6_flash_12 (by decide) rfl rfl (by decide) rfl fl_RX6_96 (fun x12 => ?_)
  refine h_aload_n_W dX6_flash_15 rfl rfl ?_
  refine h_getI_W 1 (C := RX6) (T := TX6) (N := 9) dX6_flash_16 (by decide) rfl rfl (by decide) rfl fl_RX6_48 (fun x13 => ?_)
  refine h_aload_n_W dX6_flash_19 rfl rfl ?_
  refine h_getI_W 2 (C := RX3) (T := TX3) (N := 6) dX6_flash_20 (by decide) rfl rfl (by decide) rfl fl_RX6_99 (fun x14 => ?_)
  refine h_aload_n_W dX6_flash_23 rfl rfl ?_
  refine h_getI_W 1 (C := RX3) (T := TX3) (N := 6) dX6_flash_24 (by decide) rfl rfl (by decide) rfl fl_RX6_91 (fun x15 => ?_)
  refine h_callS_W [.int x13, .int x14, .int x15] [.int x12, .ref 3] (v_X2_passing_W x13 x14 x15) dX6_flash_27 kk_X6_flash_X2_passing ml_RX6_102 swX2_passing rfl rfl (Nat.le_of_ble_eq_true rfl) ?_
  rintro _ ⟨x16, rfl⟩
  refine h_iadd_W dX6_flash_30 (fun x17 => ?_)
  refine h_aload_n_W dX6_flash_31 rfl rfl ?_
  refine h_getI_W 0 (C := RX6) (T := TX6) (N := 9) dX6_flash_32 (by decide) rfl rfl (by decide) rfl fl_RX6_9 (fun x18 => ?_)
  refine h_callN_W [.int x17, .int x18] [.ref 3] (v_X11_wrap_W x17 x18) dX6_flash_35 kk_X6_flash_X11_wrap nl_RX6_108 swX11_wrap rfl rfl (Nat.le_of_ble_eq_true rfl) ?_
  rintro _ ⟨x19, rfl⟩
  refine h_putI_W 0 (C := RX3) (T := TX3) (N := 6) (ty := .int) dX6_flash_38 (by decide) rfl rfl (by decide) rfl fl_RX6_96 rfl (by decide +kernel) ⟨rfl, rfl⟩ rfl ?_
  refine h_aload_n_W dX6_flash_41 rfl rfl ?_
  refine h_aload_n_W dX6_flash_42 rfl rfl ?_
  refine h_callV_W (T := TX6) (NN := 9) [] (v_X6_drawingAtHand_1_3_W) dX6_flash_43 kk_X6_flash_X6_drawingAtHand ml_RX6_112 mwX6_drawingAtHand ewX6_drawingAtHand (by decide) rfl rfl rfl rfl (Nat.le_of_ble_eq_true rfl) ?_
  rintro _ ⟨x20, rfl⟩
  refine h_istore_n_W (lv' := [(2, .int x20), (0, .ref 1), (1, .ref 3)]) dX6_flash_46 rfl (by decide) rfl ?_
  refine h_iconst_W (v := (nI 0)) dX6_flash_47 rfl ?_
  refine h_istore_n_W (lv' := [(3, .int (nI 0)), (2, .int x20), (0, .ref 1), (1, .ref 3)]) dX6_flash_48 rfl (by decide) rfl ?_
  exact zs_Wlv_W (j49 _ x20 (nI 0) (Nat.lt_succ_self _)) (zs_mc 2 rfl (zs_mc 3 rfl (zs_mc 1 rfl (zs_mc 0 rfl zs_mn))))
set_option maxRecDepth 100000 in
theorem v_X6_turn_1_W (a1 : Int32) : zs_Dd'_W MX6_turn [.ref 1, .int a1] zs_Rv := by
  refine zs_Wof_W (by decide) (Nat.le_of_ble_eq_true rfl) ?_
  show zs_W_W MX6_turn 0 [(0, .ref 1), (1, .int a1)] [] zs_Rv
  have j2 : ∀ (n2 : Nat) (v1 : Int32) (c2 : Int32), zs_mu c2 < n2 → zs_W_W MX6_turn 2 [(0, .ref 1), (1, .int v1), (2, .int c2)] [] zs_Rv := by
    intro n2
    induction n2 with
    | zero => intro v1 c2 hn2; exact absurd hn2 (Nat.not_lt_zero _)
    | succ n2 ih2 =>
      intro v1 c2 hn2
      refine h_iload_n_W dX6_turn_2 rfl rfl ?_
      refine h_iload_n_W dX6_turn_3 rfl rfl ?_
      refine h_ic_ge_W 34 dX6_turn_4 (by decide) (fun h1 => ?_) (fun h1 => ?_)
      · exact h_ret_W dX6_turn_34 rfl rfl
      · have hd2 := zs_muA h1 hn2
        refine h_aload_n_W dX6_turn_7 rfl rfl ?_
        refine h_getR_W 4 3 (C := RX6) (T := TX6) (N := 9) dX6_turn_8 (by decide) rfl rfl (by decide) rfl fl_RX6_22 ?_
        refine h_getI_W 1 (C := RX3) (T := TX3) (N := 6) dX6_turn_11 (by decide) rfl rfl (by decide) rfl fl_RX6_91 (fun x2 => ?_)
        refine h_sipush_W (v := (nI 9999)) dX6_turn_14 rfl ?_
        refine h_ic_ge_W 34 dX6_turn_17 (by decide) (fun h3 => ?_) (fun h3 => ?_)
        · exact h_ret_W dX6_turn_34 rfl rfl
        · refine h_aload_n_W dX6_turn_20 rfl rfl ?_
          refine h_aload_n_W dX6_turn_21 rfl rfl ?_
          refine h_getR_W 4 3 (C := RX6) (T := TX6) (N := 9) dX6_turn_22 (by decide) rfl rfl (by decide) rfl fl_RX6_22 ?_
          refine h_callV_W (T := TX6) (NN := 9) [] (v_X6_flash_1_3_W) dX6_turn_25 kk_X6_turn_X6_flash ml_RX6_94 mwX6_flash ewX6_flash (by decide) rfl rfl rfl rfl (Nat.le_of_ble_eq_true rfl) ?_
          rintro _ rfl
          refine h_iinc_W (v := (c2 + Int32.ofInt 1)) (lv' := [(2, .int (c2 + Int32.ofInt 1)), (0, .ref 1), (1, .int v1)]) dX6_turn_28 rfl rfl (by decide) rfl ?_
          refine h_goto_W 2 dX6_turn_31 (by decide) ?_
          exact zs_Wlv_W (ih2 v1 (c2 + Int32.ofInt 1) hd2) (zs_mc 1 rfl (zs_mc 2 rfl (zs_mc 0 rfl zs_mn)))
  refine h_iconst_W (v := (nI 0)) dX6_turn_0 rfl ?_
  refine h_istore_n_W (lv' := [(2, .int (nI 0)), (0, .ref 1), (1, .int a1)]) dX6_turn_1 rfl (by decide) rfl ?_
  exact zs_Wlv_W (j2 _ a1 (nI 0) (Nat.lt_succ_self _)) (zs_mc 1 rfl (zs_mc 2 rfl (zs_mc 0 rfl zs_mn)))
set_option maxRecDepth 100000 in
theorem v_X3_writeTo_3_8_W (a1 : Int32) : zs_Dd'_W MX3_writeTo [.ref 3, .ref 8, .int a1] zs_Rv := by
  refine zs_Wof_W (by decide) (Nat.le_of_ble_eq_true rfl) ?_
  show zs_W_W MX3_writeTo 0 [(0, .ref 3), (1, .ref 8), (2, .int a1)] [] zs_Rv
  have j74 : ∀ (n74 : Nat) (v2 : Int32) (v3 : Int32) (c74 : Int32), zs_mu c74 < n74 → zs_W_W MX3_writeTo 74 [(0, .ref 3), (1, .ref 8), (2, .int v2), (3, .int v3), (4, .int c74)] [] zs_Rv := by
    intro n74
    induction n74 with
    | zero => intro v2 v3 c74 hn74; exact absurd hn74 (Nat.not_lt_zero _)
    | succ n74 ih74 =>
      intro v2 v3 c74 hn74
      refine h_iload_W dX3_writeTo_74 rfl ?_
      refine h_iconst_W (v := (nI 5)) dX3_writeTo_76 rfl ?_
      refine h_ic_ge_W 122 dX3_writeTo_77 (by decide) (fun h1 => ?_) (fun h1 => ?_)
      · exact h_ret_W dX3_writeTo_122 rfl rfl
      · have hd74 := zs_muA h1 hn74
        refine h_aload_n_W dX3_writeTo_80 rfl rfl ?_
        refine h_iload_n_W dX3_writeTo_81 rfl rfl ?_
        refine h_iload_W dX3_writeTo_82 rfl ?_
        refine h_iadd_W dX3_writeTo_84 (fun x2 => ?_)
        refine h_aload_n_W dX3_writeTo_85 rfl rfl ?_
        refine h_getR_W 4 5 (C := RX3) (T := TX3) (N := 6) dX3_writeTo_86 (by decide) rfl rfl (by decide) rfl fl_RX3_19 ?_
        refine h_iload_W dX3_writeTo_89 rfl ?_
        refine h_callN_W [.ref 5, .int c74] [.int x2, .ref 8] (v_cell_W 5 5 c74 (by decide) rfl (by decide)) dX3_writeTo_91 kk_X3_writeTo_X11_cell nl_RX3_43 swX11_cell rfl rfl (Nat.le_of_ble_eq_true rfl) ?_
        rintro _ ⟨x3, rfl⟩
        refine h_callN_W [.ref 8, .int x2, .int x3] [] (v_put_W 8 200 x2 x3 (by decide) rfl (by decide) ⟨by decide, by decide, by decide⟩) dX3_writeTo_94 kk_X3_writeTo_X11_put nl_RX3_39 swX11_put rfl rfl (Nat.le_of_ble_eq_true rfl) ?_
        rintro _ rfl
        refine h_aload_n_W dX3_writeTo_97 rfl rfl ?_
        refine h_iload_n_W dX3_writeTo_98 rfl rfl ?_
        refine h_iconst_W (v := (nI 5)) dX3_writeTo_99 rfl ?_
        refine h_iadd_W dX3_writeTo_100 (fun x4 => ?_)
        refine h_iload_W dX3_writeTo_101 rfl ?_
        refine h_iadd_W dX3_writeTo_103 (fun x5 => ?_)
        refine h_aload_n_W dX3_writeTo_104 rfl rfl ?_
        refine h_getR_W 5 6 (C := RX3) (T := TX3) (N := 6) dX3_writeTo_105 (by decide) rfl rfl (by decide) rfl fl_RX3_22 ?_
        refine h_iload_W dX3_writeTo_108 rfl ?_
        refine h_callN_W [.ref 6, .int c74] [.int x5, .ref 8] (v_cell_W 6 5 c74 (by decide) rfl (by decide)) dX3_writeTo_110 kk_X3_writeTo_X11_cell nl_RX3_43 swX11_cell rfl rfl (Nat.le_of_ble_eq_true rfl) ?_
        rintro _ ⟨x6, rfl⟩
        refine h_callN_W [.ref 8, .int x5, .int x6] [] (v_put_W 8 200 x5 x6 (by decide) rfl (by decide) ⟨by decide, by decide, by decide⟩) dX3_writeTo_113 kk_X3_writeTo_X11_put nl_RX3_39 swX11_put rfl rfl (Nat.le_of_ble_eq_true rfl) ?_
        rintro _ rfl
        refine h_iinc_W (v := (c74 + Int32.ofInt 1)) (lv' := [(4, .int (c74 + Int32.ofInt 1)), (0, .ref 3), (1, .ref 8), (2, .int v2), (3, .int v3)]) dX3_writeTo_116 rfl rfl (by decide) rfl ?_
        refine h_goto_W 74 dX3_writeTo_119 (by decide) ?_
        exact zs_Wlv_W (ih74 v2 v3 (c74 + Int32.ofInt 1) hd74) (zs_mc 1 rfl (zs_mc 2 rfl (zs_mc 3 rfl (zs_mc 4 rfl (zs_mc 0 rfl zs_mn)))))
  have j38 : ∀ (n38 : Nat) (v2 : Int32) (v3 : Int32) (c38 : Int32), zs_mu c38 < n38 → zs_W_W MX3_writeTo 38 [(0, .ref 3), (1, .ref 8), (2, .int v2), (3, .int v3), (4, .int c38)] [] zs_Rv := by
    intro n38
    induction n38 with
    | zero => intro v2 v3 c38 hn38; exact absurd hn38 (Nat.not_lt_zero _)
    | succ n38 ih38 =>
      intro v2 v3 c38 hn38
      refine h_iload_W dX3_writeTo_38 rfl ?_
      refine h_bipush_W (v := (nI 12)) dX3_writeTo_40 rfl ?_
      refine h_ic_ge_W 68 dX3_writeTo_42 (by decide) (fun h7 => ?_) (fun h7 => ?_)
      · refine h_iinc_W (v := (v3 + Int32.ofInt 12)) (lv' := [(3, .int (v3 + Int32.ofInt 12)), (0, .ref 3), (1, .ref 8), (2, .int v2), (4, .int c38)]) dX3_writeTo_68 rfl rfl (by decide) rfl ?_
        refine h_iconst_W (v := (nI 0)) dX3_writeTo_71 rfl ?_
        refine h_istore_W (lv' := [(4, .int (nI 0)), (3, .int (v3 + Int32.ofInt 12)), (0, .ref 3), (1, .ref 8), (2, .int v2)]) dX3_writeTo_72 (by decide) rfl ?_
        exact zs_Wlv_W (j74 _ v2 (v3 + Int32.ofInt 12) (nI 0) (Nat.lt_succ_self _)) (zs_mc 2 rfl (zs_mc 3 rfl (zs_mc 4 rfl (zs_mc 1 rfl (zs_mc 0 rfl zs_mn)))))
      · have hd38 := zs_muA h7 hn38
        refine h_aload_n_W dX3_writeTo_45 rfl rfl ?_
        refine h_iload_n_W dX3_writeTo_46 rfl rfl ?_
        refine h_iload_W dX3_writeTo_47 rfl ?_
        refine h_iadd_W dX3_writeTo_49 (fun x8 => ?_)
        refine h_aload_n_W dX3_writeTo_50 rfl rfl ?_
        refine h_getR_W 3 4 (C := RX3) (T := TX3) (N := 6) dX3_writeTo_51 (by decide) rfl rfl (by decide) rfl fl_RX3_15 ?_
        refine h_iload_W dX3_writeTo_54 rfl ?_
        refine h_callN_W [.ref 4, .int c38] [.int x8, .ref 8] (v_cell_W 4 12 c38 (by decide) rfl (by decide)) dX3_writeTo_56 kk_X3_writeTo_X11_cell nl_RX3_43 swX11_cell rfl rfl (Nat.le_of_ble_eq_true rfl) ?_
        rintro _ ⟨x9, rfl⟩
        refine h_callN_W [.ref 8, .int x8, .int x9] [] (v_put_W 8 200 x8 x9 (by decide) rfl (by decide) ⟨by decide, by decide, by decide⟩) dX3_writeTo_59 kk_X3_writeTo_X11_put nl_RX3_39 swX11_put rfl rfl (Nat.le_of_ble_eq_true rfl) ?_
        rintro _ rfl
        refine h_iinc_W (v := (c38 + Int32.ofInt 1)) (lv' := [(4, .int (c38 + Int32.ofInt 1)), (0, .ref 3), (1, .ref 8), (2, .int v2), (3, .int v3)]) dX3_writeTo_62 rfl rfl (by decide) rfl ?_
        refine h_goto_W 38 dX3_writeTo_65 (by decide) ?_
        exact zs_Wlv_W (ih38 v2 v3 (c38 + Int32.ofInt 1) hd38) (zs_mc 1 rfl (zs_mc 2 rfl (zs_mc 3 rfl (zs_mc 4 rfl (zs_mc 0 rfl zs_mn)))))
  refine h_aload_n_W dX3_writeTo_0 rfl rfl ?_
  refine h_iload_n_W dX3_writeTo_1 rfl rfl ?_
  refine h_aload_n_W dX3_writeTo_2 rfl rfl ?_
  refine h_getI_W 0 (C := RX3) (T := TX3) (N := 6) dX3_writeTo_3 (by decide) rfl rfl (by decide) rfl fl_RX3_25 (fun x10 => ?_)
  refine h_callN_W [.ref 8, .int a1, .int x10] [] (v_put_W 8 200 a1 x10 (by decide) rfl (by decide) ⟨by decide, by decide, by decide⟩) dX3_writeTo_6 kk_X3_writeTo_X11_put nl_RX3_39 swX11_put rfl rfl (Nat.le_of_ble_eq_true rfl) ?_
  rintro _ rfl
  refine h_aload_n_W dX3_writeTo_9 rfl rfl ?_
  refine h_iload_n_W dX3_writeTo_10 rfl rfl ?_
  refine h_iconst_W (v := (nI 1)) dX3_writeTo_11 rfl ?_
  refine h_iadd_W dX3_writeTo_12 (fun x11 => ?_)
  refine h_aload_n_W dX3_writeTo_13 rfl rfl ?_
  refine h_getI_W 1 (C := RX3) (T := TX3) (N := 6) dX3_writeTo_14 (by decide) rfl rfl (by decide) rfl fl_RX3_28 (fun x12 => ?_)
  refine h_callN_W [.ref 8, .int x11, .int x12] [] (v_put_W 8 200 x11 x12 (by decide) rfl (by decide) ⟨by decide, by decide, by decide⟩) dX3_writeTo_17 kk_X3_writeTo_X11_put nl_RX3_39 swX11_put rfl rfl (Nat.le_of_ble_eq_true rfl) ?_
  rintro _ rfl
  refine h_aload_n_W dX3_writeTo_20 rfl rfl ?_
  refine h_iload_n_W dX3_writeTo_21 rfl rfl ?_
  refine h_iconst_W (v := (nI 2)) dX3_writeTo_22 rfl ?_
  refine h_iadd_W dX3_writeTo_23 (fun x13 => ?_)
  refine h_aload_n_W dX3_writeTo_24 rfl rfl ?_
  refine h_getI_W 2 (C := RX3) (T := TX3) (N := 6) dX3_writeTo_25 (by decide) rfl rfl (by decide) rfl fl_RX3_9 (fun x14 => ?_)
  refine h_callN_W [.ref 8, .int x13, .int x14] [] (v_put_W 8 200 x13 x14 (by decide) rfl (by decide) ⟨by decide, by decide, by decide⟩) dX3_writeTo_28 kk_X3_writeTo_X11_put nl_RX3_39 swX11_put rfl rfl (Nat.le_of_ble_eq_true rfl) ?_
  rintro _ rfl
  refine h_iload_n_W dX3_writeTo_31 rfl rfl ?_
  refine h_iconst_W (v := (nI 3)) dX3_writeTo_32 rfl ?_
  refine h_iadd_W dX3_writeTo_33 (fun x15 => ?_)
  refine h_istore_n_W (lv' := [(3, .int x15), (0, .ref 3), (1, .ref 8), (2, .int a1)]) dX3_writeTo_34 rfl (by decide) rfl ?_
  refine h_iconst_W (v := (nI 0)) dX3_writeTo_35 rfl ?_
  refine h_istore_W (lv' := [(4, .int (nI 0)), (3, .int x15), (0, .ref 3), (1, .ref 8), (2, .int a1)]) dX3_writeTo_36 (by decide) rfl ?_
  exact zs_Wlv_W (j38 _ a1 x15 (nI 0) (Nat.lt_succ_self _)) (zs_mc 2 rfl (zs_mc 3 rfl (zs_mc 4 rfl (zs_mc 1 rfl (zs_mc 0 rfl zs_mn)))))
set_option maxRecDepth 100000 in
theorem v_X4_dropOldest_7_W : zs_Dd'_W MX4_dropOldest [.ref 7] zs_Rv := by
  refine zs_Wof_W (by decide) (Nat.le_of_ble_eq_true rfl) ?_
  show zs_W_W MX4_dropOldest 0 [(0, .ref 7)] [] zs_Rv
  have j3 : ∀ (n3 : Nat) (c3 : Int32), zs_mu c3 < n3 → zs_W_W MX4_dropOldest 3 [(0, .ref 7), (1, .int c3)] [] zs_Rv := by
    intro n3
    induction n3 with
    | zero => intro c3 hn3; exact absurd hn3 (Nat.not_lt_zero _)
    | succ n3 ih3 =>
      intro c3 hn3
      refine h_iload_n_W dX4_dropOldest_3 rfl rfl ?_
      refine h_aload_n_W dX4_dropOldest_4 rfl rfl ?_
      refine h_getR_W 0 8 (C := RX4) (T := TX4) (N := 2) dX4_dropOldest_5 (by decide) rfl rfl (by decide) rfl fl_RX4_11 ?_
      refine h_alen_W (v := (nI 200)) dX4_dropOldest_8 (by decide) rfl (by decide) rfl ?_
      refine h_ic_ge_W 37 dX4_dropOldest_9 (by decide) (fun h1 => ?_) (fun h1 => ?_)
      · refine h_aload_n_W dX4_dropOldest_37 rfl rfl ?_
        refine h_bipush_W (v := (nI 7)) dX4_dropOldest_38 rfl ?_
        refine h_putI_W 1 (C := RX4) (T := TX4) (N := 2) (ty := .int) dX4_dropOldest_40 (by decide) rfl rfl (by decide) rfl fl_RX4_17 rfl (by decide +kernel) ⟨rfl, rfl⟩ rfl ?_
        exact h_ret_W dX4_dropOldest_43 rfl rfl
      · have hd3 := zs_muA h1 hn3
        refine h_aload_n_W dX4_dropOldest_12 rfl rfl ?_
        refine h_getR_W 0 8 (C := RX4) (T := TX4) (N := 2) dX4_dropOldest_13 (by decide) rfl rfl (by decide) rfl fl_RX4_11 ?_
        refine h_iload_n_W dX4_dropOldest_16 rfl rfl ?_
        refine h_bipush_W (v := (nI 25)) dX4_dropOldest_17 rfl ?_
        refine h_isub_W dX4_dropOldest_19 (fun x2 => ?_)
        refine h_aload_n_W dX4_dropOldest_20 rfl rfl ?_
        refine h_getR_W 0 8 (C := RX4) (T := TX4) (N := 2) dX4_dropOldest_21 (by decide) rfl rfl (by decide) rfl fl_RX4_11 ?_
        refine h_iload_n_W dX4_dropOldest_24 rfl rfl ?_
        refine h_callN_W [.ref 8, .int c3] [.int x2, .ref 8] (v_cell_W 8 200 c3 (by decide) rfl (by decide)) dX4_dropOldest_25 kk_X4_dropOldest_X11_cell nl_RX4_35 swX11_cell rfl rfl (Nat.le_of_ble_eq_true rfl) ?_
        rintro _ ⟨x3, rfl⟩
        refine h_callN_W [.ref 8, .int x2, .int x3] [] (v_put_W 8 200 x2 x3 (by decide) rfl (by decide) ⟨by decide, by decide, by decide⟩) dX4_dropOldest_28 kk_X4_dropOldest_X11_put nl_RX4_39 swX11_put rfl rfl (Nat.le_of_ble_eq_true rfl) ?_
        rintro _ rfl
        refine h_iinc_W (v := (c3 + Int32.ofInt 1)) (lv' := [(1, .int (c3 + Int32.ofInt 1)), (0, .ref 7)]) dX4_dropOldest_31 rfl rfl (by decide) rfl ?_
        refine h_goto_W 3 dX4_dropOldest_34 (by decide) ?_
        exact zs_Wlv_W (ih3 (c3 + Int32.ofInt 1) hd3) (zs_mc 1 rfl (zs_mc 0 rfl zs_mn))
  refine h_bipush_W (v := (nI 25)) dX4_dropOldest_0 rfl ?_
  refine h_istore_n_W (lv' := [(1, .int (nI 25)), (0, .ref 7)]) dX4_dropOldest_2 rfl (by decide) rfl ?_
  exact zs_Wlv_W (j3 _ (nI 25) (Nat.lt_succ_self _)) (zs_mc 1 rfl (zs_mc 0 rfl zs_mn))
set_option maxRecDepth 100000 in
theorem v_X4_push_7_3_W : zs_Dd'_W MX4_push [.ref 7, .ref 3] zs_Rv := by
  refine zs_Wof_W (by decide) (Nat.le_of_ble_eq_true rfl) ?_
  show zs_W_W MX4_push 0 [(0, .ref 7), (1, .ref 3)] [] zs_Rv
  have j13 : zs_W_W MX4_push 13 [(0, .ref 7), (1, .ref 3)] [] zs_Rv := by
    refine h_aload_n_W dX4_push_13 rfl rfl ?_
    refine h_aload_n_W dX4_push_14 rfl rfl ?_
    refine h_getR_W 0 8 (C := RX4) (T := TX4) (N := 2) dX4_push_15 (by decide) rfl rfl (by decide) rfl fl_RX4_11 ?_
    refine h_aload_n_W dX4_push_18 rfl rfl ?_
    refine h_getI_W 1 (C := RX4) (T := TX4) (N := 2) dX4_push_19 (by decide) rfl rfl (by decide) rfl fl_RX4_17 (fun x1 => ?_)
    refine h_bipush_W (v := (nI 25)) dX4_push_22 rfl ?_
    refine h_imul_W dX4_push_24 (fun x2 => ?_)
    refine h_callV_W (T := TX3) (NN := 6) [] (v_X3_writeTo_3_8_W x2) dX4_push_25 kk_X4_push_X3_writeTo ml_RX4_24 mwX3_writeTo ewX3_writeTo (by decide) rfl rfl rfl rfl (Nat.le_of_ble_eq_true rfl) ?_
    rintro _ rfl
    refine h_aload_n_W dX4_push_28 rfl rfl ?_
    refine h_dup_W dX4_push_29 rfl ?_
    refine h_getI_W 1 (C := RX4) (T := TX4) (N := 2) dX4_push_30 (by decide) rfl rfl (by decide) rfl fl_RX4_17 (fun x3 => ?_)
    refine h_iconst_W (v := (nI 1)) dX4_push_33 rfl ?_
    refine h_iadd_W dX4_push_34 (fun x4 => ?_)
    refine h_putI_W 1 (C := RX4) (T := TX4) (N := 2) (ty := .int) dX4_push_35 (by decide) rfl rfl (by decide) rfl fl_RX4_17 rfl (by decide +kernel) ⟨rfl, rfl⟩ rfl ?_
    exact h_ret_W dX4_push_38 rfl rfl
  refine h_aload_n_W dX4_push_0 rfl rfl ?_
  refine h_getI_W 1 (C := RX4) (T := TX4) (N := 2) dX4_push_1 (by decide) rfl rfl (by decide) rfl fl_RX4_17 (fun x5 => ?_)
  refine h_bipush_W (v := (nI 8)) dX4_push_4 rfl ?_
  refine h_ic_lt_W 13 dX4_push_6 (by decide) (fun h6 => ?_) (fun h6 => ?_)
  · exact j13 
  · refine h_aload_n_W dX4_push_9 rfl rfl ?_
    refine h_callV_W (T := TX4) (NN := 2) [] (v_X4_dropOldest_7_W) dX4_push_10 kk_X4_push_X4_dropOldest ml_RX4_21 mwX4_dropOldest ewX4_dropOldest (by decide) rfl rfl rfl rfl (Nat.le_of_ble_eq_true rfl) ?_
    rintro _ rfl
    exact j13 
set_option maxRecDepth 100000 in
theorem v_X11_spins_0_W (a1 : Int32) : zs_Dd'_W MX11_spins [.ref 0, .int a1] zs_Ri := by
  refine zs_Wof_W (by decide) (Nat.le_of_ble_eq_true rfl) ?_
  show zs_W_W MX11_spins 0 [(0, .ref 0), (1, .int a1)] [] zs_Ri
  have j50 : ∀ (v1 : Int32), zs_W_W MX11_spins 50 [(0, .ref 0), (1, .int v1)] [] zs_Ri := by
    intro v1
    refine h_aload_n_W dX11_spins_50 rfl rfl ?_
    refine h_getR_W 0 1 (C := RX11) (T := TX11) (N := 18) dX11_spins_51 (by decide) rfl rfl (by decide) rfl fl_RX11_10 ?_
    refine h_iload_n_W dX11_spins_54 rfl rfl ?_
    refine h_callV_W (T := TX6) (NN := 9) [] (v_X6_turn_1_W v1) dX11_spins_55 kk_X11_spins_X6_turn ml_RX11_147 mwX6_turn ewX6_turn (by decide) rfl rfl rfl rfl (Nat.le_of_ble_eq_true rfl) ?_
    rintro _ rfl
    refine h_aload_n_W dX11_spins_58 rfl rfl ?_
    refine h_getR_W 0 1 (C := RX11) (T := TX11) (N := 18) dX11_spins_59 (by decide) rfl rfl (by decide) rfl fl_RX11_10 ?_
    refine h_getR_W 4 3 (C := RX6) (T := TX6) (N := 9) dX11_spins_62 (by decide) rfl rfl (by decide) rfl fl_RX11_137 ?_
    refine h_getI_W 0 (C := RX3) (T := TX3) (N := 6) dX11_spins_65 (by decide) rfl rfl (by decide) rfl fl_RX11_150 (fun x1 => ?_)
    exact h_iret_W dX11_spins_68 rfl rfl ⟨_, rfl⟩
  refine h_iload_n_W dX11_spins_0 rfl rfl ?_
  refine h_iconst_W (v := (nI 1)) dX11_spins_1 rfl ?_
  refine h_bipush_W (v := (nI 60)) dX11_spins_2 rfl ?_
  refine h_callS_W [.int a1, .int (nI 1), .int (nI 60)] [] (v_X11_within_W a1 (nI 1) (nI 60)) dX11_spins_4 kk_X11_spins_X11_within ml_RX11_75 swX11_within rfl rfl (Nat.le_of_ble_eq_true rfl) ?_
  rintro _ ⟨x2, rfl, bx2⟩
  refine h_if_ne_W 17 dX11_spins_7 (by decide) (fun h3 => ?_) (fun h3 => ?_)
  · refine h_aload_n_W dX11_spins_17 rfl rfl ?_
    refine h_getR_W 0 1 (C := RX11) (T := TX11) (N := 18) dX11_spins_18 (by decide) rfl rfl (by decide) rfl fl_RX11_10 ?_
    refine h_getR_W 4 3 (C := RX6) (T := TX6) (N := 9) dX11_spins_21 (by decide) rfl rfl (by decide) rfl fl_RX11_137 ?_
    refine h_getI_W 1 (C := RX3) (T := TX3) (N := 6) dX11_spins_24 (by decide) rfl rfl (by decide) rfl fl_RX11_140 (fun x4 => ?_)
    refine h_sipush_W (v := (nI 9999)) dX11_spins_27 rfl ?_
    refine h_ic_ge_W 50 dX11_spins_30 (by decide) (fun h5 => ?_) (fun h5 => ?_)
    · exact j50 a1
    · refine h_aload_n_W dX11_spins_33 rfl rfl ?_
      refine h_getR_W 0 1 (C := RX11) (T := TX11) (N := 18) dX11_spins_34 (by decide) rfl rfl (by decide) rfl fl_RX11_10 ?_
      refine h_getR_W 5 7 (C := RX6) (T := TX6) (N := 9) dX11_spins_37 (by decide) rfl rfl (by decide) rfl fl_RX11_101 ?_
      refine h_aload_n_W dX11_spins_40 rfl rfl ?_
      refine h_getR_W 0 1 (C := RX11) (T := TX11) (N := 18) dX11_spins_41 (by decide) rfl rfl (by decide) rfl fl_RX11_10 ?_
      refine h_getR_W 4 3 (C := RX6) (T := TX6) (N := 9) dX11_spins_44 (by decide) rfl rfl (by decide) rfl fl_RX11_137 ?_
      refine h_callV_W (T := TX4) (NN := 2) [] (v_X4_push_7_3_W) dX11_spins_47 kk_X11_spins_X4_push ml_RX11_143 mwX4_push ewX4_push (by decide) rfl rfl rfl rfl (Nat.le_of_ble_eq_true rfl) ?_
      rintro _ rfl
      exact j50 a1
  · refine h_aload_n_W dX11_spins_10 rfl rfl ?_
    refine h_bipush_W (v := (-2)) dX11_spins_11 rfl ?_
    refine h_callV_W (T := TX11) (NN := 18) [] (v_X11_refuseBad_0_W (-2)) dX11_spins_13 kk_X11_spins_X11_refuseBad ml_RX11_86 mwX11_refuseBad ewX11_refuseBad (by decide) rfl rfl rfl rfl (Nat.le_of_ble_eq_true rfl) ?_
    rintro _ ⟨x6, rfl⟩
    exact h_iret_W dX11_spins_16 rfl rfl ⟨_, rfl⟩
set_option maxRecDepth 100000 in
theorem v_X11_refuseNo_0_W : zs_Dd'_W MX11_refuseNo [.ref 0] zs_Ri := by
  refine zs_Wof_W (by decide) (Nat.le_of_ble_eq_true rfl) ?_
  show zs_W_W MX11_refuseNo 0 [(0, .ref 0)] [] zs_Ri
  refine h_aload_n_W dX11_refuseNo_0 rfl rfl ?_
  refine h_dup_W dX11_refuseNo_1 rfl ?_
  refine h_getI_W 9 (C := RX11) (T := TX11) (N := 18) dX11_refuseNo_2 (by decide) rfl rfl (by decide) rfl fl_RX11_317 (fun x1 => ?_)
  refine h_iconst_W (v := (nI 1)) dX11_refuseNo_5 rfl ?_
  refine h_iadd_W dX11_refuseNo_6 (fun x2 => ?_)
  refine h_putI_W 9 (C := RX11) (T := TX11) (N := 18) (ty := .int) dX11_refuseNo_7 (by decide) rfl rfl (by decide) rfl fl_RX11_317 rfl (by decide +kernel) ⟨rfl, rfl⟩ rfl ?_
  refine h_bipush_W (v := (-3)) dX11_refuseNo_10 rfl ?_
  exact h_iret_W dX11_refuseNo_12 rfl rfl ⟨_, rfl⟩
set_option maxRecDepth 100000 in
theorem v_X11_steps_0_W (a1 : Int32) : zs_Dd'_W MX11_steps [.ref 0, .int a1] zs_Ri := by
  refine zs_Wof_W (by decide) (Nat.le_of_ble_eq_true rfl) ?_
  show zs_W_W MX11_steps 0 [(0, .ref 0), (1, .int a1)] [] zs_Ri
  refine h_iload_n_W dX11_steps_0 rfl rfl ?_
  refine h_callS_W [.int a1] [] (v_X11_isStep_W a1) dX11_steps_1 kk_X11_steps_X11_isStep ml_RX11_83 swX11_isStep rfl rfl (Nat.le_of_ble_eq_true rfl) ?_
  rintro _ ⟨x1, rfl, bx1⟩
  refine h_if_ne_W 14 dX11_steps_4 (by decide) (fun h2 => ?_) (fun h2 => ?_)
  · refine h_aload_n_W dX11_steps_14 rfl rfl ?_
    refine h_getR_W 0 1 (C := RX11) (T := TX11) (N := 18) dX11_steps_15 (by decide) rfl rfl (by decide) rfl fl_RX11_10 ?_
    refine h_getR_W 4 3 (C := RX6) (T := TX6) (N := 9) dX11_steps_18 (by decide) rfl rfl (by decide) rfl fl_RX11_137 ?_
    refine h_getI_W 2 (C := RX3) (T := TX3) (N := 6) dX11_steps_21 (by decide) rfl rfl (by decide) rfl fl_RX11_153 (fun x3 => ?_)
    refine h_istore_n_W (lv' := [(2, .int x3), (0, .ref 0), (1, .int a1)]) dX11_steps_24 rfl (by decide) rfl ?_
    refine h_iload_n_W dX11_steps_25 rfl rfl ?_
    refine h_iload_n_W dX11_steps_26 rfl rfl ?_
    refine h_ic_ne_W 35 dX11_steps_27 (by decide) (fun h4 => ?_) (fun h4 => ?_)
    · refine h_aload_n_W dX11_steps_35 rfl rfl ?_
      refine h_getR_W 0 1 (C := RX11) (T := TX11) (N := 18) dX11_steps_36 (by decide) rfl rfl (by decide) rfl fl_RX11_10 ?_
      refine h_getR_W 5 7 (C := RX6) (T := TX6) (N := 9) dX11_steps_39 (by decide) rfl rfl (by decide) rfl fl_RX11_101 ?_
      refine h_aload_n_W dX11_steps_42 rfl rfl ?_
      refine h_getR_W 0 1 (C := RX11) (T := TX11) (N := 18) dX11_steps_43 (by decide) rfl rfl (by decide) rfl fl_RX11_10 ?_
      refine h_getR_W 4 3 (C := RX6) (T := TX6) (N := 9) dX11_steps_46 (by decide) rfl rfl (by decide) rfl fl_RX11_137 ?_
      refine h_callV_W (T := TX4) (NN := 2) [] (v_X4_push_7_3_W) dX11_steps_49 kk_X11_steps_X4_push ml_RX11_143 mwX4_push ewX4_push (by decide) rfl rfl rfl rfl (Nat.le_of_ble_eq_true rfl) ?_
      rintro _ rfl
      refine h_aload_n_W dX11_steps_52 rfl rfl ?_
      refine h_getR_W 0 1 (C := RX11) (T := TX11) (N := 18) dX11_steps_53 (by decide) rfl rfl (by decide) rfl fl_RX11_10 ?_
      refine h_getR_W 4 3 (C := RX6) (T := TX6) (N := 9) dX11_steps_56 (by decide) rfl rfl (by decide) rfl fl_RX11_137 ?_
      refine h_iload_n_W dX11_steps_59 rfl rfl ?_
      refine h_putI_W 2 (C := RX3) (T := TX3) (N := 6) (ty := .int) dX11_steps_60 (by decide) rfl rfl (by decide) rfl fl_RX11_153 rfl (by decide +kernel) ⟨rfl, rfl⟩ rfl ?_
      refine h_iload_n_W dX11_steps_63 rfl rfl ?_
      exact h_iret_W dX11_steps_64 rfl rfl ⟨_, rfl⟩
    · refine h_aload_n_W dX11_steps_30 rfl rfl ?_
      refine h_callV_W (T := TX11) (NN := 18) [] (v_X11_refuseNo_0_W) dX11_steps_31 kk_X11_steps_X11_refuseNo ml_RX11_156 mwX11_refuseNo ewX11_refuseNo (by decide) rfl rfl rfl rfl (Nat.le_of_ble_eq_true rfl) ?_
      rintro _ ⟨x5, rfl⟩
      exact h_iret_W dX11_steps_34 rfl rfl ⟨_, rfl⟩
  · refine h_aload_n_W dX11_steps_7 rfl rfl ?_
    refine h_bipush_W (v := (-2)) dX11_steps_8 rfl ?_
    refine h_callV_W (T := TX11) (NN := 18) [] (v_X11_refuseBad_0_W (-2)) dX11_steps_10 kk_X11_steps_X11_refuseBad ml_RX11_86 mwX11_refuseBad ewX11_refuseBad (by decide) rfl rfl rfl rfl (Nat.le_of_ble_eq_true rfl) ?_
    rintro _ ⟨x6, rfl⟩
    exact h_iret_W dX11_steps_13 rfl rfl ⟨_, rfl⟩
set_option maxRecDepth 100000 in
theorem v_X11_isFrame_0_W (a1 : Int32) : zs_Dd'_W MX11_isFrame [.ref 0, .int a1] zs_Rb := by
  refine zs_Wof_W (by decide) (Nat.le_of_ble_eq_true rfl) ?_
  show zs_W_W MX11_isFrame 0 [(0, .ref 0), (1, .int a1)] [] zs_Rb
  refine h_iload_n_W dX11_isFrame_0 rfl rfl ?_
  refine h_iconst_W (v := (nI 0)) dX11_isFrame_1 rfl ?_
  refine h_aload_n_W dX11_isFrame_2 rfl rfl ?_
  refine h_getR_W 0 1 (C := RX11) (T := TX11) (N := 18) dX11_isFrame_3 (by decide) rfl rfl (by decide) rfl fl_RX11_10 ?_
  refine h_getI_W 0 (C := RX6) (T := TX6) (N := 9) dX11_isFrame_6 (by decide) rfl rfl (by decide) rfl fl_RX11_210 (fun x1 => ?_)
  refine h_iconst_W (v := (nI 1)) dX11_isFrame_9 rfl ?_
  refine h_isub_W dX11_isFrame_10 (fun x2 => ?_)
  refine h_callS_W [.int a1, .int (nI 0), .int x2] [] (v_X11_within_W a1 (nI 0) x2) dX11_isFrame_11 kk_X11_isFrame_X11_within ml_RX11_75 swX11_within rfl rfl (Nat.le_of_ble_eq_true rfl) ?_
  rintro _ ⟨x3, rfl, bx3⟩
  exact h_iret_W dX11_isFrame_14 rfl bx3 ⟨_, rfl, bx3⟩
set_option maxRecDepth 100000 in
theorem v_X11_isDrawing_W (a1 : Int32) : zs_Dd'_W MX11_isDrawing [.int a1] zs_Rb := by
  refine zs_Wof_W (by decide) (Nat.le_of_ble_eq_true rfl) ?_
  show zs_W_W MX11_isDrawing 0 [(0, .int a1)] [] zs_Rb
  refine h_iload_n_W dX11_isDrawing_0 rfl rfl ?_
  refine h_iconst_W (v := (nI 0)) dX11_isDrawing_1 rfl ?_
  refine h_bipush_W (v := (nI 9)) dX11_isDrawing_2 rfl ?_
  refine h_callS_W [.int a1, .int (nI 0), .int (nI 9)] [] (v_X11_within_W a1 (nI 0) (nI 9)) dX11_isDrawing_4 kk_X11_isDrawing_X11_within ml_RX11_75 swX11_within rfl rfl (Nat.le_of_ble_eq_true rfl) ?_
  rintro _ ⟨x1, rfl, bx1⟩
  exact h_iret_W dX11_isDrawing_7 rfl bx1 ⟨_, rfl, bx1⟩
set_option maxRecDepth 100000 in
theorem v_X11_draws_0_W (a1 : Int32) (a2 : Int32) : zs_Dd'_W MX11_draws [.ref 0, .int a1, .int a2] zs_Ri := by
  refine zs_Wof_W (by decide) (Nat.le_of_ble_eq_true rfl) ?_
  show zs_W_W MX11_draws 0 [(0, .ref 0), (1, .int a1), (2, .int a2)] [] zs_Ri
  have j15 : ∀ (v1 : Int32) (v2 : Int32), zs_W_W MX11_draws 15 [(0, .ref 0), (1, .int v1), (2, .int v2)] [] zs_Ri := by
    intro v1 v2
    refine h_aload_n_W dX11_draws_15 rfl rfl ?_
    refine h_bipush_W (v := (-2)) dX11_draws_16 rfl ?_
    refine h_callV_W (T := TX11) (NN := 18) [] (v_X11_refuseBad_0_W (-2)) dX11_draws_18 kk_X11_draws_X11_refuseBad ml_RX11_86 mwX11_refuseBad ewX11_refuseBad (by decide) rfl rfl rfl rfl (Nat.le_of_ble_eq_true rfl) ?_
    rintro _ ⟨x1, rfl⟩
    exact h_iret_W dX11_draws_21 rfl rfl ⟨_, rfl⟩
  refine h_aload_n_W dX11_draws_0 rfl rfl ?_
  refine h_iload_n_W dX11_draws_1 rfl rfl ?_
  refine h_callV_W (T := TX11) (NN := 18) [] (v_X11_isFrame_0_W a1) dX11_draws_2 kk_X11_draws_X11_isFrame ml_RX11_159 mwX11_isFrame ewX11_isFrame (by decide) rfl rfl rfl rfl (Nat.le_of_ble_eq_true rfl) ?_
  rintro _ ⟨x2, rfl, bx2⟩
  refine h_if_eq_W 15 dX11_draws_5 (by decide) (fun h3 => ?_) (fun h3 => ?_)
  · exact j15 a1 a2
  · refine h_iload_n_W dX11_draws_8 rfl rfl ?_
    refine h_callS_W [.int a2] [] (v_X11_isDrawing_W a2) dX11_draws_9 kk_X11_draws_X11_isDrawing ml_RX11_162 swX11_isDrawing rfl rfl (Nat.le_of_ble_eq_true rfl) ?_
    rintro _ ⟨x4, rfl, bx4⟩
    refine h_if_ne_W 22 dX11_draws_12 (by decide) (fun h5 => ?_) (fun h5 => ?_)
    · refine h_aload_n_W dX11_draws_22 rfl rfl ?_
      refine h_getR_W 0 1 (C := RX11) (T := TX11) (N := 18) dX11_draws_23 (by decide) rfl rfl (by decide) rfl fl_RX11_10 ?_
      refine h_getR_W 4 3 (C := RX6) (T := TX6) (N := 9) dX11_draws_26 (by decide) rfl rfl (by decide) rfl fl_RX11_137 ?_
      refine h_getR_W 3 4 (C := RX3) (T := TX3) (N := 6) dX11_draws_29 (by decide) rfl rfl (by decide) rfl fl_RX11_165 ?_
      refine h_iload_n_W dX11_draws_32 rfl rfl ?_
      refine h_callS_W [.ref 4, .int a1] [] (v_cell_W 4 12 a1 (by decide) rfl (by decide)) dX11_draws_33 kk_X11_draws_X11_cell ml_RX11_168 swX11_cell rfl rfl (Nat.le_of_ble_eq_true rfl) ?_
      rintro _ ⟨x6, rfl⟩
      refine h_istore_n_W (lv' := [(3, .int x6), (0, .ref 0), (1, .int a1), (2, .int a2)]) dX11_draws_36 rfl (by decide) rfl ?_
      refine h_iload_n_W dX11_draws_37 rfl rfl ?_
      refine h_iload_n_W dX11_draws_38 rfl rfl ?_
      refine h_ic_ne_W 47 dX11_draws_39 (by decide) (fun h7 => ?_) (fun h7 => ?_)
      · refine h_aload_n_W dX11_draws_47 rfl rfl ?_
        refine h_getR_W 0 1 (C := RX11) (T := TX11) (N := 18) dX11_draws_48 (by decide) rfl rfl (by decide) rfl fl_RX11_10 ?_
        refine h_getR_W 5 7 (C := RX6) (T := TX6) (N := 9) dX11_draws_51 (by decide) rfl rfl (by decide) rfl fl_RX11_101 ?_
        refine h_aload_n_W dX11_draws_54 rfl rfl ?_
        refine h_getR_W 0 1 (C := RX11) (T := TX11) (N := 18) dX11_draws_55 (by decide) rfl rfl (by decide) rfl fl_RX11_10 ?_
        refine h_getR_W 4 3 (C := RX6) (T := TX6) (N := 9) dX11_draws_58 (by decide) rfl rfl (by decide) rfl fl_RX11_137 ?_
        refine h_callV_W (T := TX4) (NN := 2) [] (v_X4_push_7_3_W) dX11_draws_61 kk_X11_draws_X4_push ml_RX11_143 mwX4_push ewX4_push (by decide) rfl rfl rfl rfl (Nat.le_of_ble_eq_true rfl) ?_
        rintro _ rfl
        refine h_aload_n_W dX11_draws_64 rfl rfl ?_
        refine h_getR_W 0 1 (C := RX11) (T := TX11) (N := 18) dX11_draws_65 (by decide) rfl rfl (by decide) rfl fl_RX11_10 ?_
        refine h_getR_W 4 3 (C := RX6) (T := TX6) (N := 9) dX11_draws_68 (by decide) rfl rfl (by decide) rfl fl_RX11_137 ?_
        refine h_getR_W 3 4 (C := RX3) (T := TX3) (N := 6) dX11_draws_71 (by decide) rfl rfl (by decide) rfl fl_RX11_165 ?_
        refine h_iload_n_W dX11_draws_74 rfl rfl ?_
        refine h_iload_n_W dX11_draws_75 rfl rfl ?_
        refine h_callS_W [.ref 4, .int a1, .int a2] [] (v_put_W 4 12 a1 a2 (by decide) rfl (by decide) ⟨by decide, by decide, by decide⟩) dX11_draws_76 kk_X11_draws_X11_put ml_RX11_172 swX11_put rfl rfl (Nat.le_of_ble_eq_true rfl) ?_
        rintro _ rfl
        refine h_iload_n_W dX11_draws_79 rfl rfl ?_
        exact h_iret_W dX11_draws_80 rfl rfl ⟨_, rfl⟩
      · refine h_aload_n_W dX11_draws_42 rfl rfl ?_
        refine h_callV_W (T := TX11) (NN := 18) [] (v_X11_refuseNo_0_W) dX11_draws_43 kk_X11_draws_X11_refuseNo ml_RX11_156 mwX11_refuseNo ewX11_refuseNo (by decide) rfl rfl rfl rfl (Nat.le_of_ble_eq_true rfl) ?_
        rintro _ ⟨x8, rfl⟩
        exact h_iret_W dX11_draws_46 rfl rfl ⟨_, rfl⟩
    · exact j15 a1 a2
set_option maxRecDepth 100000 in
theorem v_X3_takeFrom_3_8_W (a1 : Int32) : zs_Dd'_W MX3_takeFrom [.ref 3, .ref 8, .int a1] zs_Rv := by
  refine zs_Wof_W (by decide) (Nat.le_of_ble_eq_true rfl) ?_
  show zs_W_W MX3_takeFrom 0 [(0, .ref 3), (1, .ref 8), (2, .int a1)] [] zs_Rv
  have j74 : ∀ (n74 : Nat) (v2 : Int32) (v3 : Int32) (c74 : Int32), zs_mu c74 < n74 → zs_W_W MX3_takeFrom 74 [(0, .ref 3), (1, .ref 8), (2, .int v2), (3, .int v3), (4, .int c74)] [] zs_Rv := by
    intro n74
    induction n74 with
    | zero => intro v2 v3 c74 hn74; exact absurd hn74 (Nat.not_lt_zero _)
    | succ n74 ih74 =>
      intro v2 v3 c74 hn74
      refine h_iload_W dX3_takeFrom_74 rfl ?_
      refine h_iconst_W (v := (nI 5)) dX3_takeFrom_76 rfl ?_
      refine h_ic_ge_W 122 dX3_takeFrom_77 (by decide) (fun h1 => ?_) (fun h1 => ?_)
      · exact h_ret_W dX3_takeFrom_122 rfl rfl
      · have hd74 := zs_muA h1 hn74
        refine h_aload_n_W dX3_takeFrom_80 rfl rfl ?_
        refine h_getR_W 4 5 (C := RX3) (T := TX3) (N := 6) dX3_takeFrom_81 (by decide) rfl rfl (by decide) rfl fl_RX3_19 ?_
        refine h_iload_W dX3_takeFrom_84 rfl ?_
        refine h_aload_n_W dX3_takeFrom_86 rfl rfl ?_
        refine h_iload_n_W dX3_takeFrom_87 rfl rfl ?_
        refine h_iload_W dX3_takeFrom_88 rfl ?_
        refine h_iadd_W dX3_takeFrom_90 (fun x2 => ?_)
        refine h_callN_W [.ref 8, .int x2] [.int c74, .ref 5] (v_cell_W 8 200 x2 (by decide) rfl (by decide)) dX3_takeFrom_91 kk_X3_takeFrom_X11_cell nl_RX3_43 swX11_cell rfl rfl (Nat.le_of_ble_eq_true rfl) ?_
        rintro _ ⟨x3, rfl⟩
        refine h_callN_W [.ref 5, .int c74, .int x3] [] (v_put_W 5 5 c74 x3 (by decide) rfl (by decide) ⟨by decide, by decide, by decide⟩) dX3_takeFrom_94 kk_X3_takeFrom_X11_put nl_RX3_39 swX11_put rfl rfl (Nat.le_of_ble_eq_true rfl) ?_
        rintro _ rfl
        refine h_aload_n_W dX3_takeFrom_97 rfl rfl ?_
        refine h_getR_W 5 6 (C := RX3) (T := TX3) (N := 6) dX3_takeFrom_98 (by decide) rfl rfl (by decide) rfl fl_RX3_22 ?_
        refine h_iload_W dX3_takeFrom_101 rfl ?_
        refine h_aload_n_W dX3_takeFrom_103 rfl rfl ?_
        refine h_iload_n_W dX3_takeFrom_104 rfl rfl ?_
        refine h_iconst_W (v := (nI 5)) dX3_takeFrom_105 rfl ?_
        refine h_iadd_W dX3_takeFrom_106 (fun x4 => ?_)
        refine h_iload_W dX3_takeFrom_107 rfl ?_
        refine h_iadd_W dX3_takeFrom_109 (fun x5 => ?_)
        refine h_callN_W [.ref 8, .int x5] [.int c74, .ref 6] (v_cell_W 8 200 x5 (by decide) rfl (by decide)) dX3_takeFrom_110 kk_X3_takeFrom_X11_cell nl_RX3_43 swX11_cell rfl rfl (Nat.le_of_ble_eq_true rfl) ?_
        rintro _ ⟨x6, rfl⟩
        refine h_callN_W [.ref 6, .int c74, .int x6] [] (v_put_W 6 5 c74 x6 (by decide) rfl (by decide) ⟨by decide, by decide, by decide⟩) dX3_takeFrom_113 kk_X3_takeFrom_X11_put nl_RX3_39 swX11_put rfl rfl (Nat.le_of_ble_eq_true rfl) ?_
        rintro _ rfl
        refine h_iinc_W (v := (c74 + Int32.ofInt 1)) (lv' := [(4, .int (c74 + Int32.ofInt 1)), (0, .ref 3), (1, .ref 8), (2, .int v2), (3, .int v3)]) dX3_takeFrom_116 rfl rfl (by decide) rfl ?_
        refine h_goto_W 74 dX3_takeFrom_119 (by decide) ?_
        exact zs_Wlv_W (ih74 v2 v3 (c74 + Int32.ofInt 1) hd74) (zs_mc 1 rfl (zs_mc 2 rfl (zs_mc 3 rfl (zs_mc 4 rfl (zs_mc 0 rfl zs_mn)))))
  have j38 : ∀ (n38 : Nat) (v2 : Int32) (v3 : Int32) (c38 : Int32), zs_mu c38 < n38 → zs_W_W MX3_takeFrom 38 [(0, .ref 3), (1, .ref 8), (2, .int v2), (3, .int v3), (4, .int c38)] [] zs_Rv := by
    intro n38
    induction n38 with
    | zero => intro v2 v3 c38 hn38; exact absurd hn38 (Nat.not_lt_zero _)
    | succ n38 ih38 =>
      intro v2 v3 c38 hn38
      refine h_iload_W dX3_takeFrom_38 rfl ?_
      refine h_bipush_W (v := (nI 12)) dX3_takeFrom_40 rfl ?_
      refine h_ic_ge_W 68 dX3_takeFrom_42 (by decide) (fun h7 => ?_) (fun h7 => ?_)
      · refine h_iinc_W (v := (v3 + Int32.ofInt 12)) (lv' := [(3, .int (v3 + Int32.ofInt 12)), (0, .ref 3), (1, .ref 8), (2, .int v2), (4, .int c38)]) dX3_takeFrom_68 rfl rfl (by decide) rfl ?_
        refine h_iconst_W (v := (nI 0)) dX3_takeFrom_71 rfl ?_
        refine h_istore_W (lv' := [(4, .int (nI 0)), (3, .int (v3 + Int32.ofInt 12)), (0, .ref 3), (1, .ref 8), (2, .int v2)]) dX3_takeFrom_72 (by decide) rfl ?_
        exact zs_Wlv_W (j74 _ v2 (v3 + Int32.ofInt 12) (nI 0) (Nat.lt_succ_self _)) (zs_mc 2 rfl (zs_mc 3 rfl (zs_mc 4 rfl (zs_mc 1 rfl (zs_mc 0 rfl zs_mn)))))
      · have hd38 := zs_muA h7 hn38
        refine h_aload_n_W dX3_takeFrom_45 rfl rfl ?_
        refine h_getR_W 3 4 (C := RX3) (T := TX3) (N := 6) dX3_takeFrom_46 (by decide) rfl rfl (by decide) rfl fl_RX3_15 ?_
        refine h_iload_W dX3_takeFrom_49 rfl ?_
        refine h_aload_n_W dX3_takeFrom_51 rfl rfl ?_
        refine h_iload_n_W dX3_takeFrom_52 rfl rfl ?_
        refine h_iload_W dX3_takeFrom_53 rfl ?_
        refine h_iadd_W dX3_takeFrom_55 (fun x8 => ?_)
        refine h_callN_W [.ref 8, .int x8] [.int c38, .ref 4] (v_cell_W 8 200 x8 (by decide) rfl (by decide)) dX3_takeFrom_56 kk_X3_takeFrom_X11_cell nl_RX3_43 swX11_cell rfl rfl (Nat.le_of_ble_eq_true rfl) ?_
        rintro _ ⟨x9, rfl⟩
        refine h_callN_W [.ref 4, .int c38, .int x9] [] (v_put_W 4 12 c38 x9 (by decide) rfl (by decide) ⟨by decide, by decide, by decide⟩) dX3_takeFrom_59 kk_X3_takeFrom_X11_put nl_RX3_39 swX11_put rfl rfl (Nat.le_of_ble_eq_true rfl) ?_
        rintro _ rfl
        refine h_iinc_W (v := (c38 + Int32.ofInt 1)) (lv' := [(4, .int (c38 + Int32.ofInt 1)), (0, .ref 3), (1, .ref 8), (2, .int v2), (3, .int v3)]) dX3_takeFrom_62 rfl rfl (by decide) rfl ?_
        refine h_goto_W 38 dX3_takeFrom_65 (by decide) ?_
        exact zs_Wlv_W (ih38 v2 v3 (c38 + Int32.ofInt 1) hd38) (zs_mc 1 rfl (zs_mc 2 rfl (zs_mc 3 rfl (zs_mc 4 rfl (zs_mc 0 rfl zs_mn)))))
  refine h_aload_n_W dX3_takeFrom_0 rfl rfl ?_
  refine h_aload_n_W dX3_takeFrom_1 rfl rfl ?_
  refine h_iload_n_W dX3_takeFrom_2 rfl rfl ?_
  refine h_callN_W [.ref 8, .int a1] [.ref 3] (v_cell_W 8 200 a1 (by decide) rfl (by decide)) dX3_takeFrom_3 kk_X3_takeFrom_X11_cell nl_RX3_43 swX11_cell rfl rfl (Nat.le_of_ble_eq_true rfl) ?_
  rintro _ ⟨x10, rfl⟩
  refine h_putI_W 0 (C := RX3) (T := TX3) (N := 6) (ty := .int) dX3_takeFrom_6 (by decide) rfl rfl (by decide) rfl fl_RX3_25 rfl (by decide +kernel) ⟨rfl, rfl⟩ rfl ?_
  refine h_aload_n_W dX3_takeFrom_9 rfl rfl ?_
  refine h_aload_n_W dX3_takeFrom_10 rfl rfl ?_
  refine h_iload_n_W dX3_takeFrom_11 rfl rfl ?_
  refine h_iconst_W (v := (nI 1)) dX3_takeFrom_12 rfl ?_
  refine h_iadd_W dX3_takeFrom_13 (fun x11 => ?_)
  refine h_callN_W [.ref 8, .int x11] [.ref 3] (v_cell_W 8 200 x11 (by decide) rfl (by decide)) dX3_takeFrom_14 kk_X3_takeFrom_X11_cell nl_RX3_43 swX11_cell rfl rfl (Nat.le_of_ble_eq_true rfl) ?_
  rintro _ ⟨x12, rfl⟩
  refine h_putI_W 1 (C := RX3) (T := TX3) (N := 6) (ty := .int) dX3_takeFrom_17 (by decide) rfl rfl (by decide) rfl fl_RX3_28 rfl (by decide +kernel) ⟨rfl, rfl⟩ rfl ?_
  refine h_aload_n_W dX3_takeFrom_20 rfl rfl ?_
  refine h_aload_n_W dX3_takeFrom_21 rfl rfl ?_
  refine h_iload_n_W dX3_takeFrom_22 rfl rfl ?_
  refine h_iconst_W (v := (nI 2)) dX3_takeFrom_23 rfl ?_
  refine h_iadd_W dX3_takeFrom_24 (fun x13 => ?_)
  refine h_callN_W [.ref 8, .int x13] [.ref 3] (v_cell_W 8 200 x13 (by decide) rfl (by decide)) dX3_takeFrom_25 kk_X3_takeFrom_X11_cell nl_RX3_43 swX11_cell rfl rfl (Nat.le_of_ble_eq_true rfl) ?_
  rintro _ ⟨x14, rfl⟩
  refine h_putI_W 2 (C := RX3) (T := TX3) (N := 6) (ty := .int) dX3_takeFrom_28 (by decide) rfl rfl (by decide) rfl fl_RX3_9 rfl (by decide +kernel) ⟨rfl, rfl⟩ rfl ?_
  refine h_iload_n_W dX3_takeFrom_31 rfl rfl ?_
  refine h_iconst_W (v := (nI 3)) dX3_takeFrom_32 rfl ?_
  refine h_iadd_W dX3_takeFrom_33 (fun x15 => ?_)
  refine h_istore_n_W (lv' := [(3, .int x15), (0, .ref 3), (1, .ref 8), (2, .int a1)]) dX3_takeFrom_34 rfl (by decide) rfl ?_
  refine h_iconst_W (v := (nI 0)) dX3_takeFrom_35 rfl ?_
  refine h_istore_W (lv' := [(4, .int (nI 0)), (3, .int x15), (0, .ref 3), (1, .ref 8), (2, .int a1)]) dX3_takeFrom_36 (by decide) rfl ?_
  exact zs_Wlv_W (j38 _ a1 x15 (nI 0) (Nat.lt_succ_self _)) (zs_mc 2 rfl (zs_mc 3 rfl (zs_mc 4 rfl (zs_mc 1 rfl (zs_mc 0 rfl zs_mn)))))
