/-! THE WIDE GUARD: what the model tells beside, but how many may be undone -/
def zs_pm_W (b i : Nat) : Bool := Nat.ble b 79 || (Nat.beq b 80 && Nat.beq i 3) || Nat.beq b 83 || Nat.beq b 84 || (Nat.beq b 82 && Nat.ble (i % 66) 64)
def zs_fm_W (S S2 : zs_S) : Prop := ∀ b i, zs_pm_W b i = true → S2.1 b i = S.1 b i ∧ S2.2 b i = S.2 b i
theorem zs_fm_W.rf {S : zs_S} : zs_fm_W S S := fun _ _ _ => ⟨rfl, rfl⟩
theorem zs_fm_W.tr {S S1 S2 : zs_S} (h : zs_fm_W S S1) (k : zs_fm_W S1 S2) : zs_fm_W S S2 := fun b i hb => ⟨(k b i hb).1.trans (h b i hb).1, (k b i hb).2.trans (h b i hb).2⟩
theorem zs_fm_W.up {S : zs_S} {a j : Nat} {v : Int32} (h : zs_pm_W a j = false) : zs_fm_W S (zs_up S.1 a j v, S.2) := fun b i hb => ⟨zs_up_n (fun q => by rw [q.1, q.2, h] at hb; exact absurd hb (by decide)), rfl⟩
theorem zs_fm_W.upL {S : zs_S} {a j : Nat} {v : Int64} (h : zs_pm_W a j = false) : zs_fm_W S (S.1, zs_upL S.2 a j v) := fun b i hb => ⟨rfl, by
  show zs_upL S.2 a j v b i = S.2 b i
  simp only [zs_upL]
  rw [if_neg (fun q => by rw [q.1, q.2, h] at hb; exact absurd hb (by decide))]⟩
def zs_V_W (M : zs_M) (pc : Nat) (lv : List (Nat × Value)) (st : List Value) (R : Option Value → Prop) : Prop := ∀ S, zs_J S → zs_P M pc lv st S (fun v S2 => R v ∧ zs_J S2 ∧ zs_fm_W S S2)
def zs_U_W (N : zs_M) (args : List Value) (R : Option Value → Prop) : Prop := ∀ S, zs_J S → zs_C N args S (fun v S2 => R v ∧ zs_J S2 ∧ zs_fm_W S S2)
theorem zs_Vof_W {M : zs_M} {args : List Value} {R : Option Value → Prop} (hy : plainName M.1.cls = true) (hlen : (lg_sl args).length ≤ M.2.2.1) (h : zs_V_W M 0 (lv_args 0 args) [] R) : zs_U_W M args R := fun S hJ => zs_C.of hy hlen (h S hJ)
theorem zs_Vfr_W {M : zs_M} {pc : Nat} {lv : List (Nat × Value)} {st : List Value} {R : Option Value → Prop} {S S' : zs_S} (h : zs_V_W M pc lv st R) (hJ : zs_J S') (f : zs_fm_W S S') : zs_P M pc lv st S' (fun v S2 => R v ∧ zs_J S2 ∧ zs_fm_W S S2) := (h S' hJ).mono (fun _ _ q => ⟨q.1, q.2.1, f.tr q.2.2⟩)
theorem zs_Vlv_W {M : zs_M} {pc : Nat} {lv lv2 : List (Nat × Value)} {st : List Value} {R : Option Value → Prop} (h : zs_V_W M pc lv2 st R) (hs : ∀ q ∈ lv2, q ∈ lv) : zs_V_W M pc lv st R := fun S hJ => (h S hJ).lv hs
theorem zs_U_W.mono {N : zs_M} {args : List Value} {R R' : Option Value → Prop} (h : zs_U_W N args R) (hq : ∀ v, R v → R' v) : zs_U_W N args R' := fun S hJ => (h S hJ).mono (fun _ _ q => ⟨hq _ q.1, q.2⟩)
section zs_model_W
variable {M : zs_M} {pc : Nat} {lv lv' : List (Nat × Value)} {st : List Value} {R : Option Value → Prop}
theorem n_iconst_W {n : Int} {v : Int32} (hd : decode M.2.1 pc = .ok (.iconst n, 1)) (hv : Int32.ofInt n = v) (k : zs_V_W M (pc + 1) lv (.int v :: st) R) : zs_V_W M pc lv st R := fun S hJ => g_iconst hd hv (k S hJ)
theorem n_bipush_W {n : Int} {v : Int32} (hd : decode M.2.1 pc = .ok (.bipush n, 2)) (hv : (Int8.ofInt n).toInt32 = v) (k : zs_V_W M (pc + 2) lv (.int v :: st) R) : zs_V_W M pc lv st R := fun S hJ => g_bipush hd hv (k S hJ)
theorem n_sipush_W {n : Int} {v : Int32} (hd : decode M.2.1 pc = .ok (.sipush n, 3)) (hv : (Int16.ofInt n).toInt32 = v) (k : zs_V_W M (pc + 3) lv (.int v :: st) R) : zs_V_W M pc lv st R := fun S hJ => g_sipush hd hv (k S hJ)
theorem n_lconst_W {n : Fin 2} {v : Int64} (hd : decode M.2.1 pc = .ok (.lconst n, 1)) (hv : Int64.ofNat (n : Nat) = v) (k : zs_V_W M (pc + 1) lv (.long v :: st) R) : zs_V_W M pc lv st R := fun S hJ => g_lconst hd hv (k S hJ)
theorem n_ldc2_W {i : Nat} {v : Int64} (hd : decode M.2.1 pc = .ok (.ldc2_w i, 3)) (hw : Cond.constantLong M.1.cls i v ∈ zs_tbl) (k : zs_V_W M (pc + 3) lv (.long v :: st) R) : zs_V_W M pc lv st R := fun S hJ => g_ldc2 hd hw (k S hJ)
theorem n_iload_n_W {j : Fin 4} {i : Nat} {x : Int32} (hd : decode M.2.1 pc = .ok (.iload_n j, 1)) (hi : (j : Nat) = i) (hk : zs_lk lv i = some (.int x)) (k : zs_V_W M (pc + 1) lv (.int x :: st) R) : zs_V_W M pc lv st R := fun S hJ => g_iload_n hd hi hk (k S hJ)
theorem n_iload_W {i : Nat} {x : Int32} (hd : decode M.2.1 pc = .ok (.iload i, 2)) (hk : zs_lk lv i = some (.int x)) (k : zs_V_W M (pc + 2) lv (.int x :: st) R) : zs_V_W M pc lv st R := fun S hJ => g_iload hd hk (k S hJ)
theorem n_istore_n_W {j : Fin 4} {i : Nat} {x : Int32} (hd : decode M.2.1 pc = .ok (.istore_n j, 1)) (hi : (j : Nat) = i) (hn : i < M.2.2.1) (he : (i, Value.int x) :: lv.filter (fun q => !(q.1 == i) && !(q.1 + 1 == i && q.2.category == 2)) = lv') (k : zs_V_W M (pc + 1) lv' st R) : zs_V_W M pc lv (.int x :: st) R := fun S hJ => g_istore_n hd hi hn he (k S hJ)
theorem n_istore_W {i : Nat} {x : Int32} (hd : decode M.2.1 pc = .ok (.istore i, 2)) (hn : i < M.2.2.1) (he : (i, Value.int x) :: lv.filter (fun q => !(q.1 == i) && !(q.1 + 1 == i && q.2.category == 2)) = lv') (k : zs_V_W M (pc + 2) lv' st R) : zs_V_W M pc lv (.int x :: st) R := fun S hJ => g_istore hd hn he (k S hJ)
theorem n_lload_n_W {j : Fin 4} {i : Nat} {x : Int64} (hd : decode M.2.1 pc = .ok (.lload_n j, 1)) (hi : (j : Nat) = i) (hk : zs_lk lv i = some (.long x)) (k : zs_V_W M (pc + 1) lv (.long x :: st) R) : zs_V_W M pc lv st R := fun S hJ => g_lload_n hd hi hk (k S hJ)
theorem n_lstore_n_W {j : Fin 4} {i : Nat} {x : Int64} (hd : decode M.2.1 pc = .ok (.lstore_n j, 1)) (hi : (j : Nat) = i) (hn : i + 1 < M.2.2.1) (he : (i, Value.long x) :: lv.filter (fun q => !(q.1 == i) && (!(q.1 == i + 1) && !(q.1 + 1 == i && q.2.category == 2))) = lv') (k : zs_V_W M (pc + 1) lv' st R) : zs_V_W M pc lv (.long x :: st) R := fun S hJ => g_lstore_n hd hi hn he (k S hJ)
theorem n_aload_n_W {j : Fin 4} {i : Nat} {x : Nat} (hd : decode M.2.1 pc = .ok (.aload_n j, 1)) (hi : (j : Nat) = i) (hk : zs_lk lv i = some (.ref x)) (k : zs_V_W M (pc + 1) lv (.ref x :: st) R) : zs_V_W M pc lv st R := fun S hJ => g_aload_n hd hi hk (k S hJ)
theorem n_iinc_W {i : Nat} {n : Int} {x v : Int32} (hd : decode M.2.1 pc = .ok (.iinc i n, 3)) (hk : zs_lk lv i = some (.int x)) (hv : x + Int32.ofInt n = v) (hn : i < M.2.2.1) (he : (i, Value.int v) :: lv.filter (fun q => !(q.1 == i) && !(q.1 + 1 == i && q.2.category == 2)) = lv') (k : zs_V_W M (pc + 3) lv' st R) : zs_V_W M pc lv st R := fun S hJ => g_iinc hd hk hv hn he (k S hJ)
theorem n_iadd_W {x y : Int32} (hd : decode M.2.1 pc = .ok (.iadd, 1)) (k : ∀ v, zs_V_W M (pc + 1) lv (.int v :: st) R) : zs_V_W M pc lv (.int y :: .int x :: st) R := fun S hJ => g_iadd hd (k _ S hJ)
theorem n_isub_W {x y : Int32} (hd : decode M.2.1 pc = .ok (.isub, 1)) (k : ∀ v, zs_V_W M (pc + 1) lv (.int v :: st) R) : zs_V_W M pc lv (.int y :: .int x :: st) R := fun S hJ => g_isub hd (k _ S hJ)
theorem n_ior_W {x y : Int32} (hd : decode M.2.1 pc = .ok (.ior, 1)) (k : ∀ v, zs_V_W M (pc + 1) lv (.int v :: st) R) : zs_V_W M pc lv (.int y :: .int x :: st) R := fun S hJ => g_ior hd (k _ S hJ)
theorem n_ishl_W {x y : Int32} (hd : decode M.2.1 pc = .ok (.ishl, 1)) (k : ∀ v, zs_V_W M (pc + 1) lv (.int v :: st) R) : zs_V_W M pc lv (.int y :: .int x :: st) R := fun S hJ => g_ishl hd (k _ S hJ)
theorem n_ladd_W {x y : Int64} (hd : decode M.2.1 pc = .ok (.ladd, 1)) (k : ∀ v, zs_V_W M (pc + 1) lv (.long v :: st) R) : zs_V_W M pc lv (.long y :: .long x :: st) R := fun S hJ => g_ladd hd (k _ S hJ)
theorem n_lmul_W {x y : Int64} (hd : decode M.2.1 pc = .ok (.lmul, 1)) (k : ∀ v, zs_V_W M (pc + 1) lv (.long v :: st) R) : zs_V_W M pc lv (.long y :: .long x :: st) R := fun S hJ => g_lmul hd (k _ S hJ)
theorem n_idiv_W {x y : Int32} (hd : decode M.2.1 pc = .ok (.idiv, 1)) (hne : ¬ y = 0) (k : ∀ v, zs_V_W M (pc + 1) lv (.int v :: st) R) : zs_V_W M pc lv (.int y :: .int x :: st) R := fun S hJ => g_idiv hd hne (k _ S hJ)
theorem n_irem_W {x y : Int32} (hd : decode M.2.1 pc = .ok (.irem, 1)) (hne : ¬ y = 0) (k : ∀ v, zs_V_W M (pc + 1) lv (.int v :: st) R) : zs_V_W M pc lv (.int y :: .int x :: st) R := fun S hJ => g_irem hd hne (k _ S hJ)
theorem n_iaddN_W {x y : Nat} (hd : decode M.2.1 pc = .ok (.iadd, 1)) (k : zs_V_W M (pc + 1) lv (.int (nI (x + y)) :: st) R) : zs_V_W M pc lv (.int (nI y) :: .int (nI x) :: st) R := fun S hJ => g_iaddN hd (k S hJ)
theorem n_imulN_W {x y : Nat} (hd : decode M.2.1 pc = .ok (.imul, 1)) (k : zs_V_W M (pc + 1) lv (.int (nI (x * y)) :: st) R) : zs_V_W M pc lv (.int (nI y) :: .int (nI x) :: st) R := fun S hJ => g_imulN hd (k S hJ)
theorem n_idivN_W {x y : Nat} (hd : decode M.2.1 pc = .ok (.idiv, 1)) (hx : x < 2 ^ 31) (h0 : 0 < y) (hy : y < 2 ^ 31) (k : zs_V_W M (pc + 1) lv (.int (nI (x / y)) :: st) R) : zs_V_W M pc lv (.int (nI y) :: .int (nI x) :: st) R := fun S hJ => g_idivN hd hx h0 hy (k S hJ)
theorem n_iremN_W {x y : Nat} (hd : decode M.2.1 pc = .ok (.irem, 1)) (hx : x < 2 ^ 31) (h0 : 0 < y) (hy : y < 2 ^ 31) (k : zs_V_W M (pc + 1) lv (.int (nI (x % y)) :: st) R) : zs_V_W M pc lv (.int (nI y) :: .int (nI x) :: st) R := fun S hJ => g_iremN hd hx h0 hy (k S hJ)
theorem n_i2l_W {x : Int32} (hd : decode M.2.1 pc = .ok (.i2l, 1)) (k : zs_V_W M (pc + 1) lv (.long x.toInt64 :: st) R) : zs_V_W M pc lv (.int x :: st) R := fun S hJ => g_i2l hd rfl (k S hJ)
theorem n_dup2_W {va vb : Value} (hd : decode M.2.1 pc = .ok (.dup2, 1)) (hc : va.category = 1) (hc2 : vb.category = 1) (k : zs_V_W M (pc + 1) lv (va :: vb :: va :: vb :: st) R) : zs_V_W M pc lv (va :: vb :: st) R := fun S hJ => g_dup2 hd hc hc2 (k S hJ)
theorem n_goto_W {off : Int} (tgt : Nat) (hd : decode M.2.1 pc = .ok (.goto off, 3)) (ht : (pc : Int) + off = (tgt : Int)) (k : zs_V_W M tgt lv st R) : zs_V_W M pc lv st R := fun S hJ => g_goto tgt hd ht (k S hJ)
theorem n_if_eq_W {x : Int32} {off : Int} (tgt : Nat) (hd : decode M.2.1 pc = .ok (.ifCond .eq off, 3)) (ht : (pc : Int) + off = (tgt : Int)) (kt : x = 0 → zs_V_W M tgt lv st R) (kf : ¬ x = 0 → zs_V_W M (pc + 3) lv st R) : zs_V_W M pc lv (.int x :: st) R := fun S hJ => g_if_eq tgt hd ht (fun h => kt h S hJ) (fun h => kf h S hJ)
theorem n_ic_eq_W {x y : Int32} {off : Int} (tgt : Nat) (hd : decode M.2.1 pc = .ok (.if_icmp .eq off, 3)) (ht : (pc : Int) + off = (tgt : Int)) (kt : x = y → zs_V_W M tgt lv st R) (kf : ¬ x = y → zs_V_W M (pc + 3) lv st R) : zs_V_W M pc lv (.int y :: .int x :: st) R := fun S hJ => g_ic_eq tgt hd ht (fun h => kt h S hJ) (fun h => kf h S hJ)
theorem n_ic_eqN_W {x y : Nat} {off : Int} (tgt : Nat) (hd : decode M.2.1 pc = .ok (.if_icmp .eq off, 3)) (ht : (pc : Int) + off = (tgt : Int)) (hx : x < 2 ^ 31) (hy : y < 2 ^ 31) (kt : x = y → zs_V_W M tgt lv st R) (kf : x ≠ y → zs_V_W M (pc + 3) lv st R) : zs_V_W M pc lv (.int (nI y) :: .int (nI x) :: st) R := fun S hJ => g_ic_eqN tgt hd ht hx hy (fun h => kt h S hJ) (fun h => kf h S hJ)
theorem n_if_ne_W {x : Int32} {off : Int} (tgt : Nat) (hd : decode M.2.1 pc = .ok (.ifCond .ne off, 3)) (ht : (pc : Int) + off = (tgt : Int)) (kt : ¬ x = 0 → zs_V_W M tgt lv st R) (kf : x = 0 → zs_V_W M (pc + 3) lv st R) : zs_V_W M pc lv (.int x :: st) R := fun S hJ => g_if_ne tgt hd ht (fun h => kt h S hJ) (fun h => kf h S hJ)
theorem n_ic_ne_W {x y : Int32} {off : Int} (tgt : Nat) (hd : decode M.2.1 pc = .ok (.if_icmp .ne off, 3)) (ht : (pc : Int) + off = (tgt : Int)) (kt : ¬ x = y → zs_V_W M tgt lv st R) (kf : x = y → zs_V_W M (pc + 3) lv st R) : zs_V_W M pc lv (.int y :: .int x :: st) R := fun S hJ => g_ic_ne tgt hd ht (fun h => kt h S hJ) (fun h => kf h S hJ)
theorem n_ic_neN_W {x y : Nat} {off : Int} (tgt : Nat) (hd : decode M.2.1 pc = .ok (.if_icmp .ne off, 3)) (ht : (pc : Int) + off = (tgt : Int)) (hx : x < 2 ^ 31) (hy : y < 2 ^ 31) (kt : x ≠ y → zs_V_W M tgt lv st R) (kf : x = y → zs_V_W M (pc + 3) lv st R) : zs_V_W M pc lv (.int (nI y) :: .int (nI x) :: st) R := fun S hJ => g_ic_neN tgt hd ht hx hy (fun h => kt h S hJ) (fun h => kf h S hJ)
theorem n_if_ge_W {x : Int32} {off : Int} (tgt : Nat) (hd : decode M.2.1 pc = .ok (.ifCond .ge off, 3)) (ht : (pc : Int) + off = (tgt : Int)) (kt : 0 ≤ x → zs_V_W M tgt lv st R) (kf : ¬ 0 ≤ x → zs_V_W M (pc + 3) lv st R) : zs_V_W M pc lv (.int x :: st) R := fun S hJ => g_if_ge tgt hd ht (fun h => kt h S hJ) (fun h => kf h S hJ)
theorem n_ic_ge_W {x y : Int32} {off : Int} (tgt : Nat) (hd : decode M.2.1 pc = .ok (.if_icmp .ge off, 3)) (ht : (pc : Int) + off = (tgt : Int)) (kt : y ≤ x → zs_V_W M tgt lv st R) (kf : ¬ y ≤ x → zs_V_W M (pc + 3) lv st R) : zs_V_W M pc lv (.int y :: .int x :: st) R := fun S hJ => g_ic_ge tgt hd ht (fun h => kt h S hJ) (fun h => kf h S hJ)
theorem n_ic_geN_W {x y : Nat} {off : Int} (tgt : Nat) (hd : decode M.2.1 pc = .ok (.if_icmp .ge off, 3)) (ht : (pc : Int) + off = (tgt : Int)) (hx : x < 2 ^ 31) (hy : y < 2 ^ 31) (kt : y ≤ x → zs_V_W M tgt lv st R) (kf : x < y → zs_V_W M (pc + 3) lv st R) : zs_V_W M pc lv (.int (nI y) :: .int (nI x) :: st) R := fun S hJ => g_ic_geN tgt hd ht hx hy (fun h => kt h S hJ) (fun h => kf h S hJ)
theorem n_ic_gt_W {x y : Int32} {off : Int} (tgt : Nat) (hd : decode M.2.1 pc = .ok (.if_icmp .gt off, 3)) (ht : (pc : Int) + off = (tgt : Int)) (kt : y < x → zs_V_W M tgt lv st R) (kf : ¬ y < x → zs_V_W M (pc + 3) lv st R) : zs_V_W M pc lv (.int y :: .int x :: st) R := fun S hJ => g_ic_gt tgt hd ht (fun h => kt h S hJ) (fun h => kf h S hJ)
theorem n_ic_gtN_W {x y : Nat} {off : Int} (tgt : Nat) (hd : decode M.2.1 pc = .ok (.if_icmp .gt off, 3)) (ht : (pc : Int) + off = (tgt : Int)) (hx : x < 2 ^ 31) (hy : y < 2 ^ 31) (kt : y < x → zs_V_W M tgt lv st R) (kf : x ≤ y → zs_V_W M (pc + 3) lv st R) : zs_V_W M pc lv (.int (nI y) :: .int (nI x) :: st) R := fun S hJ => g_ic_gtN tgt hd ht hx hy (fun h => kt h S hJ) (fun h => kf h S hJ)
theorem n_if_le_W {x : Int32} {off : Int} (tgt : Nat) (hd : decode M.2.1 pc = .ok (.ifCond .le off, 3)) (ht : (pc : Int) + off = (tgt : Int)) (kt : x ≤ 0 → zs_V_W M tgt lv st R) (kf : ¬ x ≤ 0 → zs_V_W M (pc + 3) lv st R) : zs_V_W M pc lv (.int x :: st) R := fun S hJ => g_if_le tgt hd ht (fun h => kt h S hJ) (fun h => kf h S hJ)
theorem n_ic_le_W {x y : Int32} {off : Int} (tgt : Nat) (hd : decode M.2.1 pc = .ok (.if_icmp .le off, 3)) (ht : (pc : Int) + off = (tgt : Int)) (kt : x ≤ y → zs_V_W M tgt lv st R) (kf : ¬ x ≤ y → zs_V_W M (pc + 3) lv st R) : zs_V_W M pc lv (.int y :: .int x :: st) R := fun S hJ => g_ic_le tgt hd ht (fun h => kt h S hJ) (fun h => kf h S hJ)
theorem n_if_eqN_W {x : Nat} {off : Int} (tgt : Nat) (hd : decode M.2.1 pc = .ok (.ifCond .eq off, 3)) (ht : (pc : Int) + off = (tgt : Int)) (hx : x < 2 ^ 31) (kt : x = 0 → zs_V_W M tgt lv st R) (kf : x ≠ 0 → zs_V_W M (pc + 3) lv st R) : zs_V_W M pc lv (.int (nI x) :: st) R := fun S hJ => g_if_eqN tgt hd ht hx (fun h => kt h S hJ) (fun h => kf h S hJ)
theorem n_if_neN_W {x : Nat} {off : Int} (tgt : Nat) (hd : decode M.2.1 pc = .ok (.ifCond .ne off, 3)) (ht : (pc : Int) + off = (tgt : Int)) (hx : x < 2 ^ 31) (kt : x ≠ 0 → zs_V_W M tgt lv st R) (kf : x = 0 → zs_V_W M (pc + 3) lv st R) : zs_V_W M pc lv (.int (nI x) :: st) R := fun S hJ => g_if_neN tgt hd ht hx (fun h => kt h S hJ) (fun h => kf h S hJ)
theorem n_getIR_W {lo up : Nat} {a ci idx N : Nat} (j : Nat) {fl : List Nat} {C : String} {T : u_T} (hd : decode M.2.1 pc = .ok (.getfield idx, 3)) (ha : a < zs_n) (hs : zs_sh a = .inr (ci, fl)) (hc : vwCl[ci]? = some (C, T, N)) (hj : j < N) (hf : fl[j]? = some 0) (hw : Cond.fieldLink M.1.cls idx (T j).1 (T j).2.1 (T j).2.2.1 ∈ zs_tbl) (hr : zs_rg a j = some (lo, up)) (k : ∀ m, lo ≤ m → m ≤ up → zs_V_W M (pc + 3) lv (.int (nI m) :: st) R) : zs_V_W M pc lv (.ref a :: st) R := fun S hJ => by
  obtain ⟨m, h1, h2, h3⟩ := hJ.1 a j lo up hr
  exact g_getV j (v := nI m) hd ha hs hc hj hf hw h3 (k m h1 h2 S hJ)
theorem n_getL_W {a ci idx N : Nat} (j : Nat) {fl : List Nat} {C : String} {T : u_T} (hd : decode M.2.1 pc = .ok (.getfield idx, 3)) (ha : a < zs_n) (hs : zs_sh a = .inr (ci, fl)) (hc : vwCl[ci]? = some (C, T, N)) (hj : j < N) (hf : fl[j]? = some 1) (hw : Cond.fieldLink M.1.cls idx (T j).1 (T j).2.1 (T j).2.2.1 ∈ zs_tbl) (k : ∀ v, zs_V_W M (pc + 3) lv (.long v :: st) R) : zs_V_W M pc lv (.ref a :: st) R := fun S hJ => g_getL j hd ha hs hc hj hf hw (k _ S hJ)
theorem n_getR_W {a ci idx N : Nat} (j b : Nat) {fl : List Nat} {C : String} {T : u_T} (hd : decode M.2.1 pc = .ok (.getfield idx, 3)) (ha : a < zs_n) (hs : zs_sh a = .inr (ci, fl)) (hc : vwCl[ci]? = some (C, T, N)) (hj : j < N) (hf : fl[j]? = some (b + 2)) (hw : Cond.fieldLink M.1.cls idx (T j).1 (T j).2.1 (T j).2.2.1 ∈ zs_tbl) (k : zs_V_W M (pc + 3) lv (.ref b :: st) R) : zs_V_W M pc lv (.ref a :: st) R := fun S hJ => g_getR j b hd ha hs hc hj hf hw (k S hJ)
theorem n_ald_W {a n i : Nat} (hd : decode M.2.1 pc = .ok (.iaload, 1)) (ha : a < zs_n) (hs : zs_sh a = .inl (0, n)) (hi : i < n) (hn : n < 2 ^ 31) (k : ∀ v, zs_V_W M (pc + 1) lv (.int v :: st) R) : zs_V_W M pc lv (.int (nI i) :: .ref a :: st) R := fun S hJ => g_ialdN hd ha hs hi hn rfl (k _ S hJ)
theorem n_aldR_W {a n i lo up : Nat} (hd : decode M.2.1 pc = .ok (.iaload, 1)) (ha : a < zs_n) (hs : zs_sh a = .inl (0, n)) (hi : i < n) (hn : n < 2 ^ 31) (hr : zs_rg a i = some (lo, up)) (k : ∀ m, lo ≤ m → m ≤ up → zs_V_W M (pc + 1) lv (.int (nI m) :: st) R) : zs_V_W M pc lv (.int (nI i) :: .ref a :: st) R := fun S hJ => by
  obtain ⟨m, h1, h2, h3⟩ := hJ.1 a i lo up hr
  exact g_ialdN (v := nI m) hd ha hs hi hn h3 (k m h1 h2 S hJ)
theorem n_ast_W {a n i : Nat} {x : Int32} (hd : decode M.2.1 pc = .ok (.iastore, 1)) (ha : a < zs_n) (hs : zs_sh a = .inl (0, n)) (hi : i < n) (hn : n < 2 ^ 31) (hp : zs_pm_W a i = false) (hr : zs_ok a i x) (k : zs_V_W M (pc + 1) lv st R) : zs_V_W M pc lv (.int x :: .int (nI i) :: .ref a :: st) R := fun S hJ => g_iastN hd ha hs hi hn (zs_Vfr_W k (hJ.up hr) (zs_fm_W.up hp))
theorem n_iret_W {v : Int32} {ty : FieldType} (hd : decode M.2.1 pc = .ok (.ireturn, 1)) (hr : M.2.2.2.1 = some ty) (hn : narrow ty (.int v) = .int v) (hq : R (some (.int v))) : zs_V_W M pc lv [.int v] R := fun S hJ => g_iret hd hr hn ⟨hq, hJ, zs_fm_W.rf⟩
theorem n_lret_W {v : Int64} (hd : decode M.2.1 pc = .ok (.lreturn, 1)) (hr : M.2.2.2.1 = some .long) (hq : R (some (.long v))) : zs_V_W M pc lv [.long v] R := fun S hJ => g_lret hd hr ⟨hq, hJ, zs_fm_W.rf⟩
theorem n_ret_W (hd : decode M.2.1 pc = .ok (.return_, 1)) (hr : M.2.2.2.1 = none) (hq : R none) : zs_V_W M pc lv [] R := fun S hJ => g_ret hd hr ⟨hq, hJ, zs_fm_W.rf⟩
theorem n_callV_W {N : zs_M} {a ci idx n NN : Nat} {fl : List Nat} {T : u_T} {As : List Value} (rest : List Value) {st0 : List Value} {R1 : Option Value → Prop} (hX : zs_U_W N (.ref a :: As) R1) (hd : decode M.2.1 pc = .ok (.invokevirtual idx, 3)) (hK : zs_K M N n) (hl1 : Cond.methodLink M.1.cls idx N.1 ∈ zs_tbl) (hl2 : Cond.instanceMethod N.1 ∈ zs_tbl) (hl3 : Cond.selects N.1.cls N.1 N.1 ∈ zs_tbl) (ha : a < zs_n) (hs : zs_sh a = .inr (ci, fl)) (hc : vwCl[ci]? = some (N.1.cls, T, NN)) (hn : As.length = n) (hst : st0 = As.reverse ++ .ref a :: rest) (hcat : (rest.map fun v => v.category).sum ≤ 8)
    (k : ∀ v, R1 v → zs_V_W M (pc + 3) lv (v.toList ++ rest) R) : zs_V_W M pc lv st0 R := fun S hJ => g_callV rest (hX S hJ) hd hK hl1 hl2 hl3 ha hs hc hn hst hcat (fun v S' q => zs_Vfr_W (k v q.1) q.2.1 q.2.2)
theorem n_callS_W {N : zs_M} {idx n : Nat} (As rest : List Value) {st0 : List Value} {R1 : Option Value → Prop} (hX : zs_U_W N As R1) (hd : decode M.2.1 pc = .ok (.invokestatic idx, 3)) (hK : zs_K M N n) (hl1 : Cond.methodLink M.1.cls idx N.1 ∈ zs_tbl) (hl2 : Cond.static N.1 ∈ zs_tbl) (hn : As.length = n) (hst : st0 = As.reverse ++ rest) (hcat : (rest.map fun v => v.category).sum ≤ 8)
    (k : ∀ v, R1 v → zs_V_W M (pc + 3) lv (v.toList ++ rest) R) : zs_V_W M pc lv st0 R := fun S hJ => g_callS As rest (hX S hJ) hd hK hl1 hl2 hn hst hcat (fun v S' q => zs_Vfr_W (k v q.1) q.2.1 q.2.2)
end zs_model_W
theorem y_in_W (v lo hi : Int64) : zs_U_W MX12_in [.long v, .long lo, .long hi] (zs_Rp (lo ≤ v ∧ v ≤ hi)) := fun S hJ => (z_inL S v lo hi).mono (fun _ _ q => by
  obtain ⟨x, rfl, rfl, rfl⟩ := q
  exact ⟨⟨_, rfl, zs_bn, zs_b1⟩, hJ, zs_fm_W.rf⟩)
set_option maxRecDepth 100000 in
theorem y_isEye_W (v : Int32) : zs_U_W MX12_isEye [.ref 80, .int v] (zs_Rp (∃ k, k ≤ 4 ∧ v = nI k)) := by
  refine zs_Vof_W (by decide) (Nat.le_of_ble_eq_true rfl) ?_
  show zs_V_W MX12_isEye 0 [(0, .ref 80), (1, .int v)] [] _
  intro S hJ
  obtain ⟨m, h1, h2, h3⟩ := hJ.1 82 2 0 5 rfl
  refine g_iload_n dX12_isEye_0 rfl rfl ?_
  refine g_i2l dX12_isEye_1 rfl ?_
  refine g_lconst (v := 0) dX12_isEye_2 (by decide) ?_
  refine g_aload_n dX12_isEye_3 rfl rfl ?_
  refine g_getR 1 (82) (C := RX12) (T := TX12) (N := 19) dX12_isEye_4 (by decide) rfl rfl (by decide) rfl fl_RX12_13 ?_
  refine g_iconst (v := (nI 2)) dX12_isEye_7 rfl ?_
  refine g_ialdN (v := (nI m)) dX12_isEye_8 (by decide) rfl (by omega) (by decide) h3 ?_
  refine g_iconst (v := (nI 1)) dX12_isEye_9 rfl ?_
  refine g_isub dX12_isEye_10 ?_
  refine g_i2l dX12_isEye_11 rfl ?_
  refine g_callS [.long (Int32.toInt64 v), .long 0, .long (Int32.toInt64 (nI m - nI 1))] [] (y_in_W (Int32.toInt64 v) 0 (Int32.toInt64 (nI m - nI 1)) S hJ) dX12_isEye_12 kk_X12_isEye_X12_in ml_RX12_54 swX12_in rfl rfl (Nat.le_of_ble_eq_true rfl) ?_
  rintro _ S2 ⟨⟨x, rfl, hb, hf⟩, hJ2, hm⟩
  exact g_iret dX12_isEye_15 rfl hb ⟨⟨_, rfl, hb, fun z => by
    obtain ⟨k, hk, hv⟩ := zs_inE (m := m) (hf z) (by omega)
    exact ⟨k, by omega, hv⟩⟩, hJ2, hm⟩
set_option maxRecDepth 100000 in
theorem y_isFrame_W (v : Int32) : zs_U_W MX12_isFrame [.ref 80, .int v] (zs_Rp (∃ k, k ≤ 11 ∧ v = nI k)) := by
  refine zs_Vof_W (by decide) (Nat.le_of_ble_eq_true rfl) ?_
  show zs_V_W MX12_isFrame 0 [(0, .ref 80), (1, .int v)] [] _
  intro S hJ
  obtain ⟨m, h1, h2, h3⟩ := hJ.1 82 0 1 12 rfl
  refine g_iload_n dX12_isFrame_0 rfl rfl ?_
  refine g_i2l dX12_isFrame_1 rfl ?_
  refine g_lconst (v := 0) dX12_isFrame_2 (by decide) ?_
  refine g_aload_n dX12_isFrame_3 rfl rfl ?_
  refine g_getR 1 (82) (C := RX12) (T := TX12) (N := 19) dX12_isFrame_4 (by decide) rfl rfl (by decide) rfl fl_RX12_13 ?_
  refine g_iconst (v := (nI 0)) dX12_isFrame_7 rfl ?_
  refine g_ialdN (v := (nI m)) dX12_isFrame_8 (by decide) rfl (by omega) (by decide) h3 ?_
  refine g_iconst (v := (nI 1)) dX12_isFrame_9 rfl ?_
  refine g_isub dX12_isFrame_10 ?_
  refine g_i2l dX12_isFrame_11 rfl ?_
  refine g_callS [.long (Int32.toInt64 v), .long 0, .long (Int32.toInt64 (nI m - nI 1))] [] (y_in_W (Int32.toInt64 v) 0 (Int32.toInt64 (nI m - nI 1)) S hJ) dX12_isFrame_12 kk_X12_isFrame_X12_in ml_RX12_54 swX12_in rfl rfl (Nat.le_of_ble_eq_true rfl) ?_
  rintro _ S2 ⟨⟨x, rfl, hb, hf⟩, hJ2, hm⟩
  exact g_iret dX12_isFrame_15 rfl hb ⟨⟨_, rfl, hb, fun z => by
    obtain ⟨k, hk, hv⟩ := zs_inE (m := m) (hf z) (by omega)
    exact ⟨k, by omega, hv⟩⟩, hJ2, hm⟩
theorem n_aldX_W {M : zs_M} {pc : Nat} {lv : List (Nat × Value)} {st : List Value} {R : Option Value → Prop} {i j : Nat} (hd : decode M.2.1 pc = .ok (.iaload, 1)) (hi : i < 700) (hj : i % 25 = j % 25) (k : ∀ v, zs_ok 81 j v → zs_V_W M (pc + 1) lv (.int v :: st) R) : zs_V_W M pc lv (.int (nI i) :: .ref 81 :: st) R := fun S hJ => g_ialdN (v := S.1 81 i) hd (by decide) rfl hi (by decide) rfl (k _ ⟨fun lo up hr => hJ.1 81 i lo up ((zs_rgc hj).trans hr), fun z => absurd z (by decide), by decide⟩ S hJ)
def zs_oS_W (S S2 : zs_S) : Prop := zs_J S2 ∧ zs_fm_W S S2 ∧ S2.1 82 = S.1 82 ∧ S2.1 80 = S.1 80
theorem zs_oS_W.up {S0 S : zs_S} {i : Nat} {v : Int32} (h : zs_oS_W S0 S) (hv : zs_ok 81 i v) : zs_oS_W S0 (zs_up S.1 81 i v, S.2) := ⟨h.1.up hv, h.2.1.tr (zs_fm_W.up rfl), (zs_uo (f := S.1) (a := 81) (j := i) (v := v) (b := 82) (by decide)).trans h.2.2.1, (zs_uo (f := S.1) (a := 81) (j := i) (v := v) (b := 80) (by decide)).trans h.2.2.2⟩
theorem zs_oS_W.rf {S : zs_S} (hJ : zs_J S) : zs_oS_W S S := ⟨hJ, zs_fm_W.rf, rfl, rfl⟩
set_option maxRecDepth 100000 in
theorem y_copiesX_W (b t : Nat) (hb : b % 25 = 0) (ht : t % 25 = 0) (hb2 : b ≤ 675) (ht2 : t ≤ 675) (S0 : zs_S) (hJ0 : zs_J S0) : zs_Cv MX12_copies [.ref 80, .int (nI b), .int (nI t)] S0 (fun S2 => zs_oS_W S0 S2) := by
  refine zs_C.of (by decide) (Nat.le_of_ble_eq_true rfl) ?_
  show zs_P MX12_copies 0 [(0, .ref 80), (1, .int (nI b)), (2, .int (nI t))] [] S0 _
  have key : ∀ (d i : Nat), i + d = 25 → ∀ S, zs_oS_W S0 S → zs_P MX12_copies 2 [(3, .int (nI i)), (0, .ref 80), (1, .int (nI b)), (2, .int (nI t))] [] S (fun v S' => v = none ∧ zs_oS_W S0 S') := by
    intro d
    induction d with
    | zero =>
      intro i hi S hS
      refine g_iload_n dX12_copies_2 rfl rfl ?_
      refine g_bipush (v := nI 25) dX12_copies_3 rfl ?_
      refine g_ic_geN 30 dX12_copies_5 (by decide) (by omega) (by omega) (fun _ => ?_) (fun z => absurd z (by omega))
      exact g_ret dX12_copies_30 rfl ⟨rfl, hS⟩
    | succ d ih =>
      intro i hi S hS
      refine g_iload_n dX12_copies_2 rfl rfl ?_
      refine g_bipush (v := nI 25) dX12_copies_3 rfl ?_
      refine g_ic_geN 30 dX12_copies_5 (by decide) (by omega) (by omega) (fun z => absurd z (by omega)) (fun _ => ?_)
      refine g_aload_n dX12_copies_8 rfl rfl ?_
      refine g_getR 0 81 (C := RX12) (T := TX12) (N := 19) dX12_copies_9 (by decide) rfl rfl (by decide) rfl fl_RX12_7 ?_
      refine g_iload_n dX12_copies_12 rfl rfl ?_
      refine g_iload_n dX12_copies_13 rfl rfl ?_
      refine g_iaddN dX12_copies_14 ?_
      refine g_aload_n dX12_copies_15 rfl rfl ?_
      refine g_getR 0 81 (C := RX12) (T := TX12) (N := 19) dX12_copies_16 (by decide) rfl rfl (by decide) rfl fl_RX12_7 ?_
      refine g_iload_n dX12_copies_19 rfl rfl ?_
      refine g_iload_n dX12_copies_20 rfl rfl ?_
      refine g_iaddN dX12_copies_21 ?_
      refine g_aldX (j := t + i) hS.1 dX12_copies_22 (by omega) (by omega) (fun v hv => ?_)
      refine g_iastN dX12_copies_23 (by decide) rfl (by omega) (by decide) ?_
      refine g_iinc (v := nI (i + 1)) (lv' := [(3, .int (nI (i + 1))), (0, .ref 80), (1, .int (nI b)), (2, .int (nI t))]) dX12_copies_24 rfl (nI_1 i) (by decide) rfl ?_
      refine g_goto 2 dX12_copies_27 (by decide) ?_
      exact ih (i + 1) (by omega) _ (hS.up hv)
  refine g_iconst (v := nI 0) dX12_copies_0 rfl ?_
  refine g_istore_n (lv' := [(3, .int (nI 0)), (0, .ref 80), (1, .int (nI b)), (2, .int (nI t))]) dX12_copies_1 rfl (by decide) rfl ?_
  exact key 25 0 (by omega) S0 (zs_oS_W.rf hJ0)
theorem y_copies_W (b t : Nat) (hb : b % 25 = 0) (ht : t % 25 = 0) (hb2 : b ≤ 675) (ht2 : t ≤ 675) : zs_U_W MX12_copies [.ref 80, .int (nI b), .int (nI t)] zs_Rv := fun S hJ => (y_copiesX_W b t hb ht hb2 ht2 S hJ).mono (fun _ _ q => ⟨q.1, q.2.1, q.2.2.1⟩)
set_option maxRecDepth 100000 in
theorem y_X12_bad_W : zs_U_W MX12_bad [.ref 80] zs_Ri := by
  refine zs_Vof_W (by decide) (Nat.le_of_ble_eq_true rfl) ?_
  show zs_V_W MX12_bad 0 [(0, .ref 80)] [] zs_Ri
  refine n_aload_n_W dX12_bad_0 rfl rfl ?_
  refine n_getR_W 14 85 (C := RX12) (T := TX12) (N := 19) dX12_bad_1 (by decide) rfl rfl (by decide) rfl fl_RX12_27 ?_
  refine n_iconst_W (v := (nI 0)) dX12_bad_4 rfl ?_
  refine n_dup2_W dX12_bad_5 rfl rfl ?_
  refine n_ald_W dX12_bad_6 (by decide) rfl (by omega) (by decide) (fun x1 => ?_)
  refine n_iconst_W (v := (nI 1)) dX12_bad_7 rfl ?_
  refine n_iadd_W dX12_bad_8 (fun x2 => ?_)
  refine n_ast_W dX12_bad_9 (by decide) rfl (by omega) (by decide) rfl (zs_okN rfl (by decide) (by decide)) ?_
  refine n_bipush_W (v := (-2)) dX12_bad_10 rfl ?_
  exact n_iret_W dX12_bad_12 rfl rfl ⟨_, rfl⟩
set_option maxRecDepth 100000 in
theorem y_X12_no_W : zs_U_W MX12_no [.ref 80] zs_Ri := by
  refine zs_Vof_W (by decide) (Nat.le_of_ble_eq_true rfl) ?_
  show zs_V_W MX12_no 0 [(0, .ref 80)] [] zs_Ri
  refine n_aload_n_W dX12_no_0 rfl rfl ?_
  refine n_getR_W 14 85 (C := RX12) (T := TX12) (N := 19) dX12_no_1 (by decide) rfl rfl (by decide) rfl fl_RX12_27 ?_
  refine n_iconst_W (v := (nI 1)) dX12_no_4 rfl ?_
  refine n_dup2_W dX12_no_5 rfl rfl ?_
  refine n_ald_W dX12_no_6 (by decide) rfl (by omega) (by decide) (fun x1 => ?_)
  refine n_iconst_W (v := (nI 1)) dX12_no_7 rfl ?_
  refine n_iadd_W dX12_no_8 (fun x2 => ?_)
  refine n_ast_W dX12_no_9 (by decide) rfl (by omega) (by decide) rfl (zs_okN rfl (by decide) (by decide)) ?_
  refine n_bipush_W (v := (-3)) dX12_no_10 rfl ?_
  exact n_iret_W dX12_no_12 rfl rfl ⟨_, rfl⟩
set_option maxRecDepth 100000 in
theorem y_X12_bad10_W : zs_U_W MX12_bad10 [.ref 80] zs_Ri := by
  refine zs_Vof_W (by decide) (Nat.le_of_ble_eq_true rfl) ?_
  show zs_V_W MX12_bad10 0 [(0, .ref 80)] [] zs_Ri
  refine n_aload_n_W dX12_bad10_0 rfl rfl ?_
  refine n_getR_W 14 85 (C := RX12) (T := TX12) (N := 19) dX12_bad10_1 (by decide) rfl rfl (by decide) rfl fl_RX12_27 ?_
  refine n_iconst_W (v := (nI 0)) dX12_bad10_4 rfl ?_
  refine n_dup2_W dX12_bad10_5 rfl rfl ?_
  refine n_ald_W dX12_bad10_6 (by decide) rfl (by omega) (by decide) (fun x1 => ?_)
  refine n_iconst_W (v := (nI 1)) dX12_bad10_7 rfl ?_
  refine n_iadd_W dX12_bad10_8 (fun x2 => ?_)
  refine n_ast_W dX12_bad10_9 (by decide) rfl (by omega) (by decide) rfl (zs_okN rfl (by decide) (by decide)) ?_
  refine n_bipush_W (v := (-10)) dX12_bad10_10 rfl ?_
  exact n_iret_W dX12_bad10_12 rfl rfl ⟨_, rfl⟩
set_option maxRecDepth 100000 in
theorem y_X12_movesOf_675_W : zs_U_W MX12_movesOf [.ref 80, .int (nI 675)] zs_Ri := by
  refine zs_Vof_W (by decide) (Nat.le_of_ble_eq_true rfl) ?_
  show zs_V_W MX12_movesOf 0 [(0, .ref 80), (1, .int (nI 675))] [] zs_Ri
  have j4 : ∀ (n4 : Nat) (v4_2 : Int32) (c4 : Nat), 0 ≤ c4 → c4 ≤ 5 → 5 - c4 < n4 → zs_V_W MX12_movesOf 4 [(0, .ref 80), (1, .int (nI 675)), (2, .int v4_2), (3, .int (nI c4))] [] zs_Ri := by
    intro n4
    induction n4 with
    | zero => intro v4_2 c4 lc4 uc4 hn4; exact absurd hn4 (Nat.not_lt_zero _)
    | succ n4 ih4 =>
      intro v4_2 c4 lc4 uc4 hn4
      refine n_iload_n_W dX12_movesOf_4 rfl rfl ?_
      refine n_aload_n_W dX12_movesOf_5 rfl rfl ?_
      refine n_getR_W 1 82 (C := RX12) (T := TX12) (N := 19) dX12_movesOf_6 (by decide) rfl rfl (by decide) rfl fl_RX12_13 ?_
      refine n_iconst_W (v := (nI 2)) dX12_movesOf_9 rfl ?_
      refine n_aldR_W (lo := 0) (up := 5) dX12_movesOf_10 (by decide) rfl (by omega) (by decide) rfl (fun m1 hm1 km1 => ?_)
      refine n_ic_geN_W 34 dX12_movesOf_11 (by decide) (by omega) (by omega) (fun h2 => ?_) (fun h2 => ?_)
      · refine n_iload_n_W dX12_movesOf_34 rfl rfl ?_
        exact n_iret_W dX12_movesOf_35 rfl rfl ⟨_, rfl⟩
      · refine n_iload_n_W dX12_movesOf_14 rfl rfl ?_
        refine n_aload_n_W dX12_movesOf_15 rfl rfl ?_
        refine n_getR_W 0 81 (C := RX12) (T := TX12) (N := 19) dX12_movesOf_16 (by decide) rfl rfl (by decide) rfl fl_RX12_7 ?_
        refine n_iload_n_W dX12_movesOf_19 rfl rfl ?_
        refine n_bipush_W (v := (nI 20)) dX12_movesOf_20 rfl ?_
        refine n_iaddN_W dX12_movesOf_22 ?_
        refine n_iload_n_W dX12_movesOf_23 rfl rfl ?_
        refine n_iaddN_W dX12_movesOf_24 ?_
        refine n_ald_W dX12_movesOf_25 (by decide) rfl (by omega) (by decide) (fun x3 => ?_)
        refine n_iadd_W dX12_movesOf_26 (fun x4 => ?_)
        refine n_istore_n_W (lv' := [(2, .int x4), (0, .ref 80), (1, .int (nI 675)), (3, .int (nI c4))]) dX12_movesOf_27 rfl (by decide) rfl ?_
        refine n_iinc_W (v := (nI (c4 + 1))) (lv' := [(3, .int (nI (c4 + 1))), (2, .int x4), (0, .ref 80), (1, .int (nI 675))]) dX12_movesOf_28 rfl (nI_1 c4) (by decide) rfl ?_
        refine n_goto_W 4 dX12_movesOf_31 (by decide) ?_
        exact zs_Vlv_W (ih4 x4 (c4 + 1) (by omega) (by omega) (by omega)) (zs_mc 2 rfl (zs_mc 3 rfl (zs_mc 1 rfl (zs_mc 0 rfl zs_mn))))
  refine n_iconst_W (v := (nI 0)) dX12_movesOf_0 rfl ?_
  refine n_istore_n_W (lv' := [(2, .int (nI 0)), (0, .ref 80), (1, .int (nI 675))]) dX12_movesOf_1 rfl (by decide) rfl ?_
  refine n_iconst_W (v := (nI 0)) dX12_movesOf_2 rfl ?_
  refine n_istore_n_W (lv' := [(3, .int (nI 0)), (2, .int (nI 0)), (0, .ref 80), (1, .int (nI 675))]) dX12_movesOf_3 rfl (by decide) rfl ?_
  exact zs_Vlv_W (j4 _ (nI 0) 0 (by omega) (by omega) (Nat.lt_succ_self _)) (zs_mc 2 rfl (zs_mc 3 rfl (zs_mc 1 rfl (zs_mc 0 rfl zs_mn))))
set_option maxRecDepth 100000 in
theorem y_X12_tries_W : zs_U_W MX12_tries [.ref 80] zs_Rv := by
  refine zs_Vof_W (by decide) (Nat.le_of_ble_eq_true rfl) ?_
  show zs_V_W MX12_tries 0 [(0, .ref 80)] [] zs_Rv
  have j10 : ∀ (n10 : Nat) (c10 : Nat), 0 ≤ c10 → c10 ≤ 5 → 5 - c10 < n10 → zs_V_W MX12_tries 10 [(0, .ref 80), (1, .int (nI c10))] [] zs_Rv := by
    intro n10
    induction n10 with
    | zero => intro c10 lc10 uc10 hn10; exact absurd hn10 (Nat.not_lt_zero _)
    | succ n10 ih10 =>
      intro c10 lc10 uc10 hn10
      refine n_iload_n_W dX12_tries_10 rfl rfl ?_
      refine n_iconst_W (v := (nI 5)) dX12_tries_11 rfl ?_
      refine n_ic_geN_W 32 dX12_tries_12 (by decide) (by omega) (by omega) (fun h1 => ?_) (fun h1 => ?_)
      · exact n_ret_W dX12_tries_32 rfl rfl
      · refine n_aload_n_W dX12_tries_15 rfl rfl ?_
        refine n_getR_W 0 81 (C := RX12) (T := TX12) (N := 19) dX12_tries_16 (by decide) rfl rfl (by decide) rfl fl_RX12_7 ?_
        refine n_sipush_W (v := (nI 695)) dX12_tries_19 rfl ?_
        refine n_iload_n_W dX12_tries_22 rfl rfl ?_
        refine n_iaddN_W dX12_tries_23 ?_
        refine n_iconst_W (v := (nI 0)) dX12_tries_24 rfl ?_
        refine n_ast_W dX12_tries_25 (by decide) rfl (by omega) (by decide) rfl (zs_okN (rg_81_695_699 _ (by omega) (by omega)) (by decide) (by decide)) ?_
        refine n_iinc_W (v := (nI (c10 + 1))) (lv' := [(1, .int (nI (c10 + 1))), (0, .ref 80)]) dX12_tries_26 rfl (nI_1 c10) (by decide) rfl ?_
        refine n_goto_W 10 dX12_tries_29 (by decide) ?_
        exact zs_Vlv_W (ih10 (c10 + 1) (by omega) (by omega) (by omega)) (zs_mc 1 rfl (zs_mc 0 rfl zs_mn))
  refine n_aload_n_W dX12_tries_0 rfl rfl ?_
  refine n_iconst_W (v := (nI 0)) dX12_tries_1 rfl ?_
  refine n_sipush_W (v := (nI 675)) dX12_tries_2 rfl ?_
  refine n_callV_W (T := TX12) (NN := 19) [] (y_copies_W 0 675 (by omega) (by omega) (by omega) (by omega)) dX12_tries_5 kk_X12_tries_X12_copies ml_RX12_169 mwX12_copies ewX12_copies (by decide) rfl rfl rfl rfl (Nat.le_of_ble_eq_true rfl) ?_
  rintro _ rfl
  refine n_iconst_W (v := (nI 0)) dX12_tries_8 rfl ?_
  refine n_istore_n_W (lv' := [(1, .int (nI 0)), (0, .ref 80)]) dX12_tries_9 rfl (by decide) rfl ?_
  exact zs_Vlv_W (j10 _ 0 (by omega) (by omega) (Nat.lt_succ_self _)) (zs_mc 1 rfl (zs_mc 0 rfl zs_mn))
set_option maxRecDepth 100000 in
theorem y_X12_apart_W (a1 : Int32) (a2 : Int32) : zs_U_W MX12_apart [.int a1, .int a2] zs_Ri := by
  refine zs_Vof_W (by decide) (Nat.le_of_ble_eq_true rfl) ?_
  show zs_V_W MX12_apart 0 [(0, .int a1), (1, .int a2)] [] zs_Ri
  refine n_iload_n_W dX12_apart_0 rfl rfl ?_
  refine n_iload_n_W dX12_apart_1 rfl rfl ?_
  refine n_ic_ge_W 11 dX12_apart_2 (by decide) (fun h1 => ?_) (fun h1 => ?_)
  · refine n_iload_n_W dX12_apart_11 rfl rfl ?_
    refine n_iload_n_W dX12_apart_12 rfl rfl ?_
    refine n_isub_W dX12_apart_13 (fun x2 => ?_)
    exact n_iret_W dX12_apart_14 rfl rfl ⟨_, rfl⟩
  · refine n_iload_n_W dX12_apart_5 rfl rfl ?_
    refine n_iload_n_W dX12_apart_6 rfl rfl ?_
    refine n_isub_W dX12_apart_7 (fun x3 => ?_)
    refine n_goto_W 14 dX12_apart_8 (by decide) ?_
    exact n_iret_W dX12_apart_14 rfl rfl ⟨_, rfl⟩
set_option maxRecDepth 100000 in
theorem y_X12_looks_W (a1 : Int32) (a2 : Int32) (a3 : Int32) : zs_U_W MX12_looks [.int a1, .int a2, .int a3] zs_Ri := by
  refine zs_Vof_W (by decide) (Nat.le_of_ble_eq_true rfl) ?_
  show zs_V_W MX12_looks 0 [(0, .int a1), (1, .int a2), (2, .int a3)] [] zs_Ri
  have j81 : ∀ (v81_3 : Int32) (s81_0 : Int32) (s81_1 : Int32), zs_V_W MX12_looks 81 [(0, .int a1), (1, .int a2), (2, .int a3), (3, .int v81_3)] [.int s81_0, .int s81_1] zs_Ri := by
    intro v81_3 s81_0 s81_1
    refine n_iadd_W dX12_looks_81 (fun x1 => ?_)
    refine n_istore_n_W (lv' := [(3, .int x1), (0, .int a1), (1, .int a2), (2, .int a3)]) dX12_looks_82 rfl (by decide) rfl ?_
    refine n_goto_W 102 dX12_looks_83 (by decide) ?_
    refine n_iload_n_W dX12_looks_102 rfl rfl ?_
    exact n_iret_W dX12_looks_103 rfl rfl ⟨_, rfl⟩
  have j80 : ∀ (v80_3 : Int32) (s80_0 : Int32), zs_V_W MX12_looks 80 [(0, .int a1), (1, .int a2), (2, .int a3), (3, .int v80_3)] [.int s80_0] zs_Ri := by
    intro v80_3 s80_0
    refine n_iconst_W (v := (nI 0)) dX12_looks_80 rfl ?_
    exact j81 v80_3 (nI 0) s80_0
  have j58 : ∀ (v58_3 : Int32) (s58_0 : Int32), zs_V_W MX12_looks 58 [(0, .int a1), (1, .int a2), (2, .int a3), (3, .int v58_3)] [.int s58_0] zs_Ri := by
    intro v58_3 s58_0
    refine n_istore_n_W (lv' := [(3, .int s58_0), (0, .int a1), (1, .int a2), (2, .int a3)]) dX12_looks_58 rfl (by decide) rfl ?_
    refine n_iload_n_W dX12_looks_59 rfl rfl ?_
    refine n_iload_n_W dX12_looks_60 rfl rfl ?_
    refine n_iconst_W (v := (nI 4)) dX12_looks_61 rfl ?_
    refine n_ic_ne_W 80 dX12_looks_62 (by decide) (fun h2 => ?_) (fun h2 => ?_)
    · exact zs_Vlv_W (j80 s58_0 s58_0) (zs_mc 1 rfl (zs_mc 2 rfl (zs_mc 3 rfl (zs_mc 0 rfl zs_mn))))
    · refine n_iload_n_W dX12_looks_65 rfl rfl ?_
      refine n_iload_n_W dX12_looks_66 rfl rfl ?_
      refine n_ic_le_W 80 dX12_looks_67 (by decide) (fun h3 => ?_) (fun h3 => ?_)
      · exact zs_Vlv_W (j80 s58_0 s58_0) (zs_mc 1 rfl (zs_mc 2 rfl (zs_mc 3 rfl (zs_mc 0 rfl zs_mn))))
      · refine n_iload_n_W dX12_looks_70 rfl rfl ?_
        refine n_bipush_W (v := (nI 9)) dX12_looks_71 rfl ?_
        refine n_ic_ge_W 80 dX12_looks_73 (by decide) (fun h4 => ?_) (fun h4 => ?_)
        · exact zs_Vlv_W (j80 s58_0 s58_0) (zs_mc 1 rfl (zs_mc 2 rfl (zs_mc 3 rfl (zs_mc 0 rfl zs_mn))))
        · refine n_iconst_W (v := (nI 1)) dX12_looks_76 rfl ?_
          refine n_goto_W 81 dX12_looks_77 (by decide) ?_
          exact zs_Vlv_W (j81 s58_0 (nI 1) s58_0) (zs_mc 1 rfl (zs_mc 2 rfl (zs_mc 3 rfl (zs_mc 0 rfl zs_mn))))
  have j44 : ∀ (v44_3 : Int32), zs_V_W MX12_looks 44 [(0, .int a1), (1, .int a2), (2, .int a3), (3, .int v44_3)] [] zs_Ri := by
    intro v44_3
    refine n_iload_n_W dX12_looks_44 rfl rfl ?_
    refine n_iload_n_W dX12_looks_45 rfl rfl ?_
    refine n_callS_W [.int a2, .int a3] [] (y_X12_apart_W a2 a3) dX12_looks_46 kk_X12_looks_X12_apart ml_RX12_46 swX12_apart rfl rfl (Nat.le_of_ble_eq_true rfl) ?_
    rintro _ ⟨x5, rfl⟩
    refine n_iconst_W (v := (nI 1)) dX12_looks_49 rfl ?_
    refine n_ic_ne_W 57 dX12_looks_50 (by decide) (fun h6 => ?_) (fun h6 => ?_)
    · refine n_iload_n_W dX12_looks_57 rfl rfl ?_
      exact j58 v44_3 a2
    · refine n_iload_n_W dX12_looks_53 rfl rfl ?_
      refine n_goto_W 58 dX12_looks_54 (by decide) ?_
      exact j58 v44_3 a3
  have j30 : ∀ (v30_3 : Int32) (s30_0 : Int32), zs_V_W MX12_looks 30 [(0, .int a1), (1, .int a2), (2, .int a3), (3, .int v30_3)] [.int s30_0] zs_Ri := by
    intro v30_3 s30_0
    refine n_istore_n_W (lv' := [(3, .int s30_0), (0, .int a1), (1, .int a2), (2, .int a3)]) dX12_looks_30 rfl (by decide) rfl ?_
    refine n_goto_W 102 dX12_looks_31 (by decide) ?_
    refine n_iload_n_W dX12_looks_102 rfl rfl ?_
    exact n_iret_W dX12_looks_103 rfl rfl ⟨_, rfl⟩
  have j25 : ∀ (v25_3 : Int32), zs_V_W MX12_looks 25 [(0, .int a1), (1, .int a2), (2, .int a3), (3, .int v25_3)] [] zs_Ri := by
    intro v25_3
    refine n_iload_n_W dX12_looks_25 rfl rfl ?_
    refine n_iload_n_W dX12_looks_26 rfl rfl ?_
    refine n_iadd_W dX12_looks_27 (fun x7 => ?_)
    refine n_iconst_W (v := (nI 2)) dX12_looks_28 rfl ?_
    refine n_idiv_W dX12_looks_29 (by decide) (fun x8 => ?_)
    exact j30 v25_3 x8
  have j12 : ∀ (v12_3 : Int32), zs_V_W MX12_looks 12 [(0, .int a1), (1, .int a2), (2, .int a3), (3, .int v12_3)] [] zs_Ri := by
    intro v12_3
    refine n_iload_n_W dX12_looks_12 rfl rfl ?_
    refine n_iconst_W (v := (nI 3)) dX12_looks_13 rfl ?_
    refine n_ic_ne_W 25 dX12_looks_14 (by decide) (fun h9 => ?_) (fun h9 => ?_)
    · exact j25 v12_3
    · refine n_iload_n_W dX12_looks_17 rfl rfl ?_
      refine n_if_ne_W 25 dX12_looks_18 (by decide) (fun h10 => ?_) (fun h10 => ?_)
      · exact j25 v12_3
      · refine n_iload_n_W dX12_looks_21 rfl rfl ?_
        refine n_goto_W 30 dX12_looks_22 (by decide) ?_
        exact j30 v12_3 a3
  refine n_iload_n_W dX12_looks_0 rfl rfl ?_
  refine n_istore_n_W (lv' := [(3, .int a2), (0, .int a1), (1, .int a2), (2, .int a3)]) dX12_looks_1 rfl (by decide) rfl ?_
  refine n_iload_n_W dX12_looks_2 rfl rfl ?_
  refine n_iconst_W (v := (nI 1)) dX12_looks_3 rfl ?_
  refine n_ic_eq_W 12 dX12_looks_4 (by decide) (fun h11 => ?_) (fun h11 => ?_)
  · exact zs_Vlv_W (j12 a2) (zs_mc 1 rfl (zs_mc 2 rfl (zs_mc 3 rfl (zs_mc 0 rfl zs_mn))))
  · refine n_iload_n_W dX12_looks_7 rfl rfl ?_
    refine n_iconst_W (v := (nI 3)) dX12_looks_8 rfl ?_
    refine n_ic_ne_W 34 dX12_looks_9 (by decide) (fun h12 => ?_) (fun h12 => ?_)
    · refine n_iload_n_W dX12_looks_34 rfl rfl ?_
      refine n_iconst_W (v := (nI 2)) dX12_looks_35 rfl ?_
      refine n_ic_eq_W 44 dX12_looks_36 (by decide) (fun h13 => ?_) (fun h13 => ?_)
      · exact zs_Vlv_W (j44 a2) (zs_mc 1 rfl (zs_mc 2 rfl (zs_mc 3 rfl (zs_mc 0 rfl zs_mn))))
      · refine n_iload_n_W dX12_looks_39 rfl rfl ?_
        refine n_iconst_W (v := (nI 4)) dX12_looks_40 rfl ?_
        refine n_ic_ne_W 86 dX12_looks_41 (by decide) (fun h14 => ?_) (fun h14 => ?_)
        · refine n_iload_n_W dX12_looks_86 rfl rfl ?_
          refine n_iconst_W (v := (nI 5)) dX12_looks_87 rfl ?_
          refine n_ic_ne_W 102 dX12_looks_88 (by decide) (fun h15 => ?_) (fun h15 => ?_)
          · refine n_iload_n_W dX12_looks_102 rfl rfl ?_
            exact n_iret_W dX12_looks_103 rfl rfl ⟨_, rfl⟩
          · refine n_iload_n_W dX12_looks_91 rfl rfl ?_
            refine n_iload_n_W dX12_looks_92 rfl rfl ?_
            refine n_ic_ne_W 100 dX12_looks_93 (by decide) (fun h16 => ?_) (fun h16 => ?_)
            · refine n_iload_n_W dX12_looks_100 rfl rfl ?_
              refine n_istore_n_W (lv' := [(3, .int a2), (0, .int a1), (1, .int a2), (2, .int a3)]) dX12_looks_101 rfl (by decide) rfl ?_
              refine n_iload_n_W dX12_looks_102 rfl rfl ?_
              exact n_iret_W dX12_looks_103 rfl rfl ⟨_, rfl⟩
            · refine n_iconst_W (v := (nI 0)) dX12_looks_96 rfl ?_
              refine n_goto_W 101 dX12_looks_97 (by decide) ?_
              refine n_istore_n_W (lv' := [(3, .int (nI 0)), (0, .int a1), (1, .int a2), (2, .int a3)]) dX12_looks_101 rfl (by decide) rfl ?_
              refine n_iload_n_W dX12_looks_102 rfl rfl ?_
              exact n_iret_W dX12_looks_103 rfl rfl ⟨_, rfl⟩
        · exact zs_Vlv_W (j44 a2) (zs_mc 1 rfl (zs_mc 2 rfl (zs_mc 3 rfl (zs_mc 0 rfl zs_mn))))
    · exact zs_Vlv_W (j12 a2) (zs_mc 1 rfl (zs_mc 2 rfl (zs_mc 3 rfl (zs_mc 0 rfl zs_mn))))
set_option maxRecDepth 100000 in
theorem y_X12_passes_W (a1 : Int32) (a2 : Nat) (la2 : 0 ≤ a2) (ua2 : a2 ≤ 11) (a3 : Int32) : zs_U_W MX12_passes [.int a1, .int (nI a2), .int a3] (zs_Rn 0 24) := by
  refine zs_Vof_W (by decide) (Nat.le_of_ble_eq_true rfl) ?_
  show zs_V_W MX12_passes 0 [(0, .int a1), (1, .int (nI a2)), (2, .int a3)] [] (zs_Rn 0 24)
  have j79 : ∀ (v79_3 : Nat) (s79_0 : Nat), 0 ≤ v79_3 → v79_3 ≤ 24 → 0 ≤ s79_0 → s79_0 ≤ 24 → zs_V_W MX12_passes 79 [(0, .int a1), (1, .int (nI a2)), (2, .int a3), (3, .int (nI v79_3))] [.int (nI s79_0)] (zs_Rn 0 24) := by
    intro v79_3 s79_0 lv79_3 uv79_3 ls79_0 us79_0
    refine n_istore_n_W (lv' := [(3, .int (nI s79_0)), (0, .int a1), (1, .int (nI a2)), (2, .int a3)]) dX12_passes_79 rfl (by decide) rfl ?_
    refine n_iload_n_W dX12_passes_80 rfl rfl ?_
    refine n_iconst_W (v := (nI 5)) dX12_passes_81 rfl ?_
    refine n_ic_ne_W 94 dX12_passes_82 (by decide) (fun h1 => ?_) (fun h1 => ?_)
    · refine n_iload_n_W dX12_passes_94 rfl rfl ?_
      exact n_iret_W dX12_passes_95 rfl rfl ⟨_, by omega, by omega, rfl⟩
    · refine n_iload_n_W dX12_passes_85 rfl rfl ?_
      refine n_iconst_W (v := (nI 1)) dX12_passes_86 rfl ?_
      refine n_ic_geN_W 94 dX12_passes_87 (by decide) (by omega) (by omega) (fun h2 => ?_) (fun h2 => ?_)
      · refine n_iload_n_W dX12_passes_94 rfl rfl ?_
        exact n_iret_W dX12_passes_95 rfl rfl ⟨_, by omega, by omega, rfl⟩
      · refine n_iconst_W (v := (nI 1)) dX12_passes_90 rfl ?_
        refine n_goto_W 95 dX12_passes_91 (by decide) ?_
        exact n_iret_W dX12_passes_95 rfl rfl ⟨_, by omega, by omega, rfl⟩
  have j78 : ∀ (v78_3 : Nat), 0 ≤ v78_3 → v78_3 ≤ 24 → zs_V_W MX12_passes 78 [(0, .int a1), (1, .int (nI a2)), (2, .int a3), (3, .int (nI v78_3))] [] (zs_Rn 0 24) := by
    intro v78_3 lv78_3 uv78_3
    refine n_iload_n_W dX12_passes_78 rfl rfl ?_
    exact j79 v78_3 v78_3 (by omega) (by omega) (by omega) (by omega)
  have j60 : ∀ (v60_3 : Nat) (s60_0 : Nat) (s60_1 : Nat), 0 ≤ v60_3 → v60_3 ≤ 23 → 0 ≤ s60_0 → s60_0 ≤ 1 → 0 ≤ s60_1 → s60_1 ≤ 23 → zs_V_W MX12_passes 60 [(0, .int a1), (1, .int (nI a2)), (2, .int a3), (3, .int (nI v60_3))] [.int (nI s60_0), .int (nI s60_1)] (zs_Rn 0 24) := by
    intro v60_3 s60_0 s60_1 lv60_3 uv60_3 ls60_0 us60_0 ls60_1 us60_1
    refine n_iaddN_W dX12_passes_60 ?_
    refine n_istore_n_W (lv' := [(3, .int (nI (s60_1 + s60_0))), (0, .int a1), (1, .int (nI a2)), (2, .int a3)]) dX12_passes_61 rfl (by decide) rfl ?_
    refine n_iload_n_W dX12_passes_62 rfl rfl ?_
    refine n_iconst_W (v := (nI 4)) dX12_passes_63 rfl ?_
    refine n_ic_ne_W 78 dX12_passes_64 (by decide) (fun h3 => ?_) (fun h3 => ?_)
    · exact zs_Vlv_W (j78 (s60_1 + s60_0) (by omega) (by omega)) (zs_mc 1 rfl (zs_mc 2 rfl (zs_mc 3 rfl (zs_mc 0 rfl zs_mn))))
    · refine n_iload_n_W dX12_passes_67 rfl rfl ?_
      refine n_iconst_W (v := (nI 5)) dX12_passes_68 rfl ?_
      refine n_irem_W dX12_passes_69 (by decide) (fun x4 => ?_)
      refine n_iconst_W (v := (nI 4)) dX12_passes_70 rfl ?_
      refine n_ic_ne_W 78 dX12_passes_71 (by decide) (fun h5 => ?_) (fun h5 => ?_)
      · exact zs_Vlv_W (j78 (s60_1 + s60_0) (by omega) (by omega)) (zs_mc 1 rfl (zs_mc 2 rfl (zs_mc 3 rfl (zs_mc 0 rfl zs_mn))))
      · refine n_iconst_W (v := (nI 0)) dX12_passes_74 rfl ?_
        refine n_goto_W 79 dX12_passes_75 (by decide) ?_
        exact zs_Vlv_W (j79 (s60_1 + s60_0) 0 (by omega) (by omega) (by omega) (by omega)) (zs_mc 1 rfl (zs_mc 2 rfl (zs_mc 3 rfl (zs_mc 0 rfl zs_mn))))
  have j59 : ∀ (v59_3 : Nat) (s59_0 : Nat), 0 ≤ v59_3 → v59_3 ≤ 23 → 0 ≤ s59_0 → s59_0 ≤ 23 → zs_V_W MX12_passes 59 [(0, .int a1), (1, .int (nI a2)), (2, .int a3), (3, .int (nI v59_3))] [.int (nI s59_0)] (zs_Rn 0 24) := by
    intro v59_3 s59_0 lv59_3 uv59_3 ls59_0 us59_0
    refine n_iconst_W (v := (nI 0)) dX12_passes_59 rfl ?_
    exact j60 v59_3 0 s59_0 (by omega) (by omega) (by omega) (by omega) (by omega) (by omega)
  have j41 : ∀ (v41_3 : Nat) (s41_0 : Nat) (s41_1 : Nat), 0 ≤ v41_3 → v41_3 ≤ 22 → 0 ≤ s41_0 → s41_0 ≤ 1 → 0 ≤ s41_1 → s41_1 ≤ 22 → zs_V_W MX12_passes 41 [(0, .int a1), (1, .int (nI a2)), (2, .int a3), (3, .int (nI v41_3))] [.int (nI s41_0), .int (nI s41_1)] (zs_Rn 0 24) := by
    intro v41_3 s41_0 s41_1 lv41_3 uv41_3 ls41_0 us41_0 ls41_1 us41_1
    refine n_iaddN_W dX12_passes_41 ?_
    refine n_istore_n_W (lv' := [(3, .int (nI (s41_1 + s41_0))), (0, .int a1), (1, .int (nI a2)), (2, .int a3)]) dX12_passes_42 rfl (by decide) rfl ?_
    refine n_iload_n_W dX12_passes_43 rfl rfl ?_
    refine n_iload_n_W dX12_passes_44 rfl rfl ?_
    refine n_iconst_W (v := (nI 3)) dX12_passes_45 rfl ?_
    refine n_ic_ne_W 59 dX12_passes_46 (by decide) (fun h6 => ?_) (fun h6 => ?_)
    · exact zs_Vlv_W (j59 (s41_1 + s41_0) (s41_1 + s41_0) (by omega) (by omega) (by omega) (by omega)) (zs_mc 1 rfl (zs_mc 2 rfl (zs_mc 3 rfl (zs_mc 0 rfl zs_mn))))
    · refine n_iload_n_W dX12_passes_49 rfl rfl ?_
      refine n_iconst_W (v := (nI 4)) dX12_passes_50 rfl ?_
      refine n_irem_W dX12_passes_51 (by decide) (fun x7 => ?_)
      refine n_if_ne_W 59 dX12_passes_52 (by decide) (fun h8 => ?_) (fun h8 => ?_)
      · exact zs_Vlv_W (j59 (s41_1 + s41_0) (s41_1 + s41_0) (by omega) (by omega) (by omega) (by omega)) (zs_mc 1 rfl (zs_mc 2 rfl (zs_mc 3 rfl (zs_mc 0 rfl zs_mn))))
      · refine n_iconst_W (v := (nI 1)) dX12_passes_55 rfl ?_
        refine n_goto_W 60 dX12_passes_56 (by decide) ?_
        exact zs_Vlv_W (j60 (s41_1 + s41_0) 1 (s41_1 + s41_0) (by omega) (by omega) (by omega) (by omega) (by omega) (by omega)) (zs_mc 1 rfl (zs_mc 2 rfl (zs_mc 3 rfl (zs_mc 0 rfl zs_mn))))
  have j40 : ∀ (v40_3 : Nat) (s40_0 : Nat), 0 ≤ v40_3 → v40_3 ≤ 22 → 0 ≤ s40_0 → s40_0 ≤ 22 → zs_V_W MX12_passes 40 [(0, .int a1), (1, .int (nI a2)), (2, .int a3), (3, .int (nI v40_3))] [.int (nI s40_0)] (zs_Rn 0 24) := by
    intro v40_3 s40_0 lv40_3 uv40_3 ls40_0 us40_0
    refine n_iconst_W (v := (nI 0)) dX12_passes_40 rfl ?_
    exact j41 v40_3 0 s40_0 (by omega) (by omega) (by omega) (by omega) (by omega) (by omega)
  have j29 : ∀ (v29_3 : Nat) (s29_0 : Nat), 0 ≤ v29_3 → v29_3 ≤ 22 → 0 ≤ s29_0 → s29_0 ≤ 22 → zs_V_W MX12_passes 29 [(0, .int a1), (1, .int (nI a2)), (2, .int a3), (3, .int (nI v29_3))] [.int (nI s29_0)] (zs_Rn 0 24) := by
    intro v29_3 s29_0 lv29_3 uv29_3 ls29_0 us29_0
    refine n_iload_n_W dX12_passes_29 rfl rfl ?_
    refine n_iconst_W (v := (nI 2)) dX12_passes_30 rfl ?_
    refine n_irem_W dX12_passes_31 (by decide) (fun x9 => ?_)
    refine n_iconst_W (v := (nI 1)) dX12_passes_32 rfl ?_
    refine n_ic_ne_W 40 dX12_passes_33 (by decide) (fun h10 => ?_) (fun h10 => ?_)
    · exact j40 v29_3 s29_0 (by omega) (by omega) (by omega) (by omega)
    · refine n_iconst_W (v := (nI 1)) dX12_passes_36 rfl ?_
      refine n_goto_W 41 dX12_passes_37 (by decide) ?_
      exact j41 v29_3 1 s29_0 (by omega) (by omega) (by omega) (by omega) (by omega) (by omega)
  have j17 : ∀ (s17_0 : Nat), 0 ≤ s17_0 → s17_0 ≤ 22 → zs_V_W MX12_passes 17 [(0, .int a1), (1, .int (nI a2)), (2, .int a3)] [.int (nI s17_0)] (zs_Rn 0 24) := by
    intro s17_0 ls17_0 us17_0
    refine n_istore_n_W (lv' := [(3, .int (nI s17_0)), (0, .int a1), (1, .int (nI a2)), (2, .int a3)]) dX12_passes_17 rfl (by decide) rfl ?_
    refine n_iload_n_W dX12_passes_18 rfl rfl ?_
    refine n_iload_n_W dX12_passes_19 rfl rfl ?_
    refine n_iconst_W (v := (nI 2)) dX12_passes_20 rfl ?_
    refine n_ic_eq_W 29 dX12_passes_21 (by decide) (fun h11 => ?_) (fun h11 => ?_)
    · exact zs_Vlv_W (j29 s17_0 s17_0 (by omega) (by omega) (by omega) (by omega)) (zs_mc 1 rfl (zs_mc 2 rfl (zs_mc 3 rfl (zs_mc 0 rfl zs_mn))))
    · refine n_iload_n_W dX12_passes_24 rfl rfl ?_
      refine n_iconst_W (v := (nI 4)) dX12_passes_25 rfl ?_
      refine n_ic_ne_W 40 dX12_passes_26 (by decide) (fun h12 => ?_) (fun h12 => ?_)
      · exact zs_Vlv_W (j40 s17_0 s17_0 (by omega) (by omega) (by omega) (by omega)) (zs_mc 1 rfl (zs_mc 2 rfl (zs_mc 3 rfl (zs_mc 0 rfl zs_mn))))
      · exact zs_Vlv_W (j29 s17_0 s17_0 (by omega) (by omega) (by omega) (by omega)) (zs_mc 1 rfl (zs_mc 2 rfl (zs_mc 3 rfl (zs_mc 0 rfl zs_mn))))
  have j10 : zs_V_W MX12_passes 10 [(0, .int a1), (1, .int (nI a2)), (2, .int a3)] [] (zs_Rn 0 24) := by
    refine n_iconst_W (v := (nI 2)) dX12_passes_10 rfl ?_
    refine n_iload_n_W dX12_passes_11 rfl rfl ?_
    refine n_imulN_W dX12_passes_12 ?_
    refine n_goto_W 17 dX12_passes_13 (by decide) ?_
    exact j17 (2 * a2) (by omega) (by omega)
  refine n_iload_n_W dX12_passes_0 rfl rfl ?_
  refine n_iconst_W (v := (nI 1)) dX12_passes_1 rfl ?_
  refine n_ic_eq_W 10 dX12_passes_2 (by decide) (fun h13 => ?_) (fun h13 => ?_)
  · exact j10 
  · refine n_iload_n_W dX12_passes_5 rfl rfl ?_
    refine n_iconst_W (v := (nI 3)) dX12_passes_6 rfl ?_
    refine n_ic_ne_W 16 dX12_passes_7 (by decide) (fun h14 => ?_) (fun h14 => ?_)
    · refine n_iload_n_W dX12_passes_16 rfl rfl ?_
      exact j17 a2 (by omega) (by omega)
    · exact j10 
set_option maxRecDepth 100000 in
theorem y_X12_flash_675_W (a2 : Nat) (la2 : 0 ≤ a2) (ua2 : a2 ≤ 11) (a3 : Int32) : zs_U_W MX12_flash [.ref 80, .int (nI 675), .int (nI a2), .int a3] zs_Rv := by
  refine zs_Vof_W (by decide) (Nat.le_of_ble_eq_true rfl) ?_
  show zs_V_W MX12_flash 0 [(0, .ref 80), (1, .int (nI 675)), (2, .int (nI a2)), (3, .int a3)] [] zs_Rv
  have j57 : ∀ (n57 : Nat) (c57 : Nat), 0 ≤ c57 → c57 ≤ 5 → 5 - c57 < n57 → zs_V_W MX12_flash 57 [(0, .ref 80), (1, .int (nI 675)), (2, .int (nI a2)), (3, .int a3), (4, .int (nI c57))] [] zs_Rv := by
    intro n57
    induction n57 with
    | zero => intro c57 lc57 uc57 hn57; exact absurd hn57 (Nat.not_lt_zero _)
    | succ n57 ih57 =>
      intro c57 lc57 uc57 hn57
      have j187 : c57 + 1 ≤ 5 → ∀ (v187_5 : Int32) (v187_6 : Int32) (s187_0 : Int32) (s187_1 : Int32) (s187_2 : Nat), 695 ≤ s187_2 → s187_2 ≤ 699 → zs_V_W MX12_flash 187 [(0, .ref 80), (1, .int (nI 675)), (2, .int (nI a2)), (3, .int a3), (4, .int (nI c57)), (5, .int v187_5), (6, .int v187_6)] [.int s187_0, .int s187_1, .int (nI s187_2), .ref 81] zs_Rv := by
        intro hd57 v187_5 v187_6 s187_0 s187_1 s187_2 ls187_2 us187_2
        refine n_iadd_W dX12_flash_187 (fun x1 => ?_)
        refine n_ast_W dX12_flash_188 (by decide) rfl (by omega) (by decide) rfl (zs_okN (rg_81_695_699 _ (by omega) (by omega)) (by decide) (by decide)) ?_
        refine n_aload_n_W dX12_flash_189 rfl rfl ?_
        refine n_getR_W 0 81 (C := RX12) (T := TX12) (N := 19) dX12_flash_190 (by decide) rfl rfl (by decide) rfl fl_RX12_7 ?_
        refine n_iload_n_W dX12_flash_193 rfl rfl ?_
        refine n_bipush_W (v := (nI 15)) dX12_flash_194 rfl ?_
        refine n_iaddN_W dX12_flash_196 ?_
        refine n_iload_W dX12_flash_197 rfl ?_
        refine n_iaddN_W dX12_flash_199 ?_
        refine n_iload_W dX12_flash_200 rfl ?_
        refine n_ast_W dX12_flash_202 (by decide) rfl (by omega) (by decide) rfl (zs_okN (rg_81_690_694 _ (by omega) (by omega)) (by decide) (by decide)) ?_
        refine n_iinc_W (v := (nI (c57 + 1))) (lv' := [(4, .int (nI (c57 + 1))), (0, .ref 80), (1, .int (nI 675)), (2, .int (nI a2)), (3, .int a3), (5, .int v187_5), (6, .int v187_6)]) dX12_flash_203 rfl (nI_1 c57) (by decide) rfl ?_
        refine n_goto_W 57 dX12_flash_206 (by decide) ?_
        exact zs_Vlv_W (ih57 (c57 + 1) (by omega) (by omega) (by omega)) (zs_mc 1 rfl (zs_mc 2 rfl (zs_mc 3 rfl (zs_mc 4 rfl (zs_mc 0 rfl zs_mn)))))
      have j162 : c57 + 1 ≤ 5 → ∀ (v162_5 : Int32) (s162_0 : Int32), zs_V_W MX12_flash 162 [(0, .ref 80), (1, .int (nI 675)), (2, .int (nI a2)), (3, .int a3), (4, .int (nI c57)), (5, .int v162_5)] [.int s162_0] zs_Rv := by
        intro hd57 v162_5 s162_0
        refine n_istore_W (lv' := [(6, .int s162_0), (0, .ref 80), (1, .int (nI 675)), (2, .int (nI a2)), (3, .int a3), (4, .int (nI c57)), (5, .int v162_5)]) dX12_flash_162 (by decide) rfl ?_
        refine n_aload_n_W dX12_flash_164 rfl rfl ?_
        refine n_getR_W 0 81 (C := RX12) (T := TX12) (N := 19) dX12_flash_165 (by decide) rfl rfl (by decide) rfl fl_RX12_7 ?_
        refine n_iload_n_W dX12_flash_168 rfl rfl ?_
        refine n_bipush_W (v := (nI 20)) dX12_flash_169 rfl ?_
        refine n_iaddN_W dX12_flash_171 ?_
        refine n_iload_W dX12_flash_172 rfl ?_
        refine n_iaddN_W dX12_flash_174 ?_
        refine n_dup2_W dX12_flash_175 rfl rfl ?_
        refine n_ald_W dX12_flash_176 (by decide) rfl (by omega) (by decide) (fun x2 => ?_)
        refine n_iload_W dX12_flash_177 rfl ?_
        refine n_if_eq_W 186 dX12_flash_179 (by decide) (fun h3 => ?_) (fun h3 => ?_)
        · refine n_iconst_W (v := (nI 0)) dX12_flash_186 rfl ?_
          exact zs_Vlv_W (j187 (by omega) v162_5 s162_0 (nI 0) x2 ((675 + 20) + c57) (by omega) (by omega)) (zs_mc 1 rfl (zs_mc 2 rfl (zs_mc 3 rfl (zs_mc 4 rfl (zs_mc 5 rfl (zs_mc 6 rfl (zs_mc 0 rfl zs_mn)))))))
        · refine n_iconst_W (v := (nI 1)) dX12_flash_182 rfl ?_
          refine n_goto_W 187 dX12_flash_183 (by decide) ?_
          exact zs_Vlv_W (j187 (by omega) v162_5 s162_0 (nI 1) x2 ((675 + 20) + c57) (by omega) (by omega)) (zs_mc 1 rfl (zs_mc 2 rfl (zs_mc 3 rfl (zs_mc 4 rfl (zs_mc 5 rfl (zs_mc 6 rfl (zs_mc 0 rfl zs_mn)))))))
      have j161 : c57 + 1 ≤ 5 → ∀ (v161_5 : Int32), zs_V_W MX12_flash 161 [(0, .ref 80), (1, .int (nI 675)), (2, .int (nI a2)), (3, .int a3), (4, .int (nI c57)), (5, .int v161_5)] [] zs_Rv := by
        intro hd57 v161_5
        refine n_iconst_W (v := (nI 0)) dX12_flash_161 rfl ?_
        exact j162 (by omega) v161_5 (nI 0)
      have j157 : c57 + 1 ≤ 5 → ∀ (v157_5 : Int32), zs_V_W MX12_flash 157 [(0, .ref 80), (1, .int (nI 675)), (2, .int (nI a2)), (3, .int a3), (4, .int (nI c57)), (5, .int v157_5)] [] zs_Rv := by
        intro hd57 v157_5
        refine n_iconst_W (v := (nI 1)) dX12_flash_157 rfl ?_
        refine n_goto_W 162 dX12_flash_158 (by decide) ?_
        exact j162 (by omega) v157_5 (nI 1)
      refine n_iload_W dX12_flash_57 rfl ?_
      refine n_aload_n_W dX12_flash_59 rfl rfl ?_
      refine n_getR_W 1 82 (C := RX12) (T := TX12) (N := 19) dX12_flash_60 (by decide) rfl rfl (by decide) rfl fl_RX12_13 ?_
      refine n_iconst_W (v := (nI 2)) dX12_flash_63 rfl ?_
      refine n_aldR_W (lo := 0) (up := 5) dX12_flash_64 (by decide) rfl (by omega) (by decide) rfl (fun m4 hm4 km4 => ?_)
      refine n_ic_geN_W 209 dX12_flash_65 (by decide) (by omega) (by omega) (fun h5 => ?_) (fun h5 => ?_)
      · exact n_ret_W dX12_flash_209 rfl rfl
      · refine n_iload_n_W dX12_flash_68 rfl rfl ?_
        refine n_if_eq_W 209 dX12_flash_69 (by decide) (fun h6 => ?_) (fun h6 => ?_)
        · exact n_ret_W dX12_flash_209 rfl rfl
        · refine n_aload_n_W dX12_flash_72 rfl rfl ?_
          refine n_getR_W 1 82 (C := RX12) (T := TX12) (N := 19) dX12_flash_73 (by decide) rfl rfl (by decide) rfl fl_RX12_13 ?_
          refine n_iconst_W (v := (nI 3)) dX12_flash_76 rfl ?_
          refine n_iload_W dX12_flash_77 rfl ?_
          refine n_iaddN_W dX12_flash_79 ?_
          refine n_ald_W dX12_flash_80 (by decide) rfl (by omega) (by decide) (fun x7 => ?_)
          refine n_aload_n_W dX12_flash_81 rfl rfl ?_
          refine n_getR_W 0 81 (C := RX12) (T := TX12) (N := 19) dX12_flash_82 (by decide) rfl rfl (by decide) rfl fl_RX12_7 ?_
          refine n_iload_n_W dX12_flash_85 rfl rfl ?_
          refine n_iconst_W (v := (nI 3)) dX12_flash_86 rfl ?_
          refine n_iaddN_W dX12_flash_87 ?_
          refine n_aload_n_W dX12_flash_88 rfl rfl ?_
          refine n_getR_W 0 81 (C := RX12) (T := TX12) (N := 19) dX12_flash_89 (by decide) rfl rfl (by decide) rfl fl_RX12_7 ?_
          refine n_iload_n_W dX12_flash_92 rfl rfl ?_
          refine n_iconst_W (v := (nI 0)) dX12_flash_93 rfl ?_
          refine n_iaddN_W dX12_flash_94 ?_
          refine n_aldR_W (lo := 0) (up := 11) dX12_flash_95 (by decide) rfl (by omega) (by decide) (rg_81_675_675 _ (by omega) (by omega)) (fun m8 hm8 km8 => ?_)
          refine n_iaddN_W dX12_flash_96 ?_
          refine n_aldR_W (lo := 0) (up := 9) dX12_flash_97 (by decide) rfl (by omega) (by decide) (rg_81_678_689 _ (by omega) (by omega)) (fun m9 hm9 km9 => ?_)
          refine n_aload_n_W dX12_flash_98 rfl rfl ?_
          refine n_getR_W 0 81 (C := RX12) (T := TX12) (N := 19) dX12_flash_99 (by decide) rfl rfl (by decide) rfl fl_RX12_7 ?_
          refine n_iload_n_W dX12_flash_102 rfl rfl ?_
          refine n_bipush_W (v := (nI 15)) dX12_flash_103 rfl ?_
          refine n_iaddN_W dX12_flash_105 ?_
          refine n_iload_W dX12_flash_106 rfl ?_
          refine n_iaddN_W dX12_flash_108 ?_
          refine n_ald_W dX12_flash_109 (by decide) rfl (by omega) (by decide) (fun x10 => ?_)
          refine n_callS_W [.int x7, .int (nI m9), .int x10] [] (y_X12_looks_W x7 (nI m9) x10) dX12_flash_110 kk_X12_flash_X12_looks ml_RX12_166 swX12_looks rfl rfl (Nat.le_of_ble_eq_true rfl) ?_
          rintro _ ⟨x11, rfl⟩
          refine n_istore_W (lv' := [(5, .int x11), (0, .ref 80), (1, .int (nI 675)), (2, .int (nI a2)), (3, .int a3), (4, .int (nI c57))]) dX12_flash_113 (by decide) rfl ?_
          refine n_iload_W dX12_flash_115 rfl ?_
          refine n_aload_n_W dX12_flash_117 rfl rfl ?_
          refine n_getR_W 0 81 (C := RX12) (T := TX12) (N := 19) dX12_flash_118 (by decide) rfl rfl (by decide) rfl fl_RX12_7 ?_
          refine n_iload_n_W dX12_flash_121 rfl rfl ?_
          refine n_bipush_W (v := (nI 15)) dX12_flash_122 rfl ?_
          refine n_iaddN_W dX12_flash_124 ?_
          refine n_iload_W dX12_flash_125 rfl ?_
          refine n_iaddN_W dX12_flash_127 ?_
          refine n_ald_W dX12_flash_128 (by decide) rfl (by omega) (by decide) (fun x12 => ?_)
          refine n_ic_eq_W 161 dX12_flash_129 (by decide) (fun h13 => ?_) (fun h13 => ?_)
          · exact zs_Vlv_W (j161 (by omega) x11) (zs_mc 1 rfl (zs_mc 2 rfl (zs_mc 3 rfl (zs_mc 4 rfl (zs_mc 5 rfl (zs_mc 0 rfl zs_mn))))))
          · refine n_iload_n_W dX12_flash_132 rfl rfl ?_
            refine n_sipush_W (v := (nI 675)) dX12_flash_133 rfl ?_
            refine n_ic_eqN_W 157 dX12_flash_136 (by decide) (by omega) (by omega) (fun h14 => ?_) (fun h14 => ?_)
            · exact zs_Vlv_W (j157 (by omega) x11) (zs_mc 1 rfl (zs_mc 2 rfl (zs_mc 3 rfl (zs_mc 4 rfl (zs_mc 5 rfl (zs_mc 0 rfl zs_mn))))))
            · exact absurd h14 (by omega)
  refine n_aload_n_W dX12_flash_0 rfl rfl ?_
  refine n_getR_W 0 81 (C := RX12) (T := TX12) (N := 19) dX12_flash_1 (by decide) rfl rfl (by decide) rfl fl_RX12_7 ?_
  refine n_iload_n_W dX12_flash_4 rfl rfl ?_
  refine n_iconst_W (v := (nI 1)) dX12_flash_5 rfl ?_
  refine n_iaddN_W dX12_flash_6 ?_
  refine n_dup2_W dX12_flash_7 rfl rfl ?_
  refine n_ald_W dX12_flash_8 (by decide) rfl (by omega) (by decide) (fun x15 => ?_)
  refine n_iconst_W (v := (nI 1)) dX12_flash_9 rfl ?_
  refine n_iadd_W dX12_flash_10 (fun x16 => ?_)
  refine n_ast_W dX12_flash_11 (by decide) rfl (by omega) (by decide) rfl (zs_okN (rg_81_676_676 _ (by omega) (by omega)) (by decide) (by decide)) ?_
  refine n_aload_n_W dX12_flash_12 rfl rfl ?_
  refine n_getR_W 0 81 (C := RX12) (T := TX12) (N := 19) dX12_flash_13 (by decide) rfl rfl (by decide) rfl fl_RX12_7 ?_
  refine n_iload_n_W dX12_flash_16 rfl rfl ?_
  refine n_iconst_W (v := (nI 0)) dX12_flash_17 rfl ?_
  refine n_iaddN_W dX12_flash_18 ?_
  refine n_aload_n_W dX12_flash_19 rfl rfl ?_
  refine n_getR_W 0 81 (C := RX12) (T := TX12) (N := 19) dX12_flash_20 (by decide) rfl rfl (by decide) rfl fl_RX12_7 ?_
  refine n_iload_n_W dX12_flash_23 rfl rfl ?_
  refine n_iconst_W (v := (nI 0)) dX12_flash_24 rfl ?_
  refine n_iaddN_W dX12_flash_25 ?_
  refine n_aldR_W (lo := 0) (up := 11) dX12_flash_26 (by decide) rfl (by omega) (by decide) (rg_81_675_675 _ (by omega) (by omega)) (fun m17 hm17 km17 => ?_)
  refine n_aload_n_W dX12_flash_27 rfl rfl ?_
  refine n_getR_W 1 82 (C := RX12) (T := TX12) (N := 19) dX12_flash_28 (by decide) rfl rfl (by decide) rfl fl_RX12_13 ?_
  refine n_iconst_W (v := (nI 1)) dX12_flash_31 rfl ?_
  refine n_ald_W dX12_flash_32 (by decide) rfl (by omega) (by decide) (fun x18 => ?_)
  refine n_iload_n_W dX12_flash_33 rfl rfl ?_
  refine n_aload_n_W dX12_flash_34 rfl rfl ?_
  refine n_getR_W 0 81 (C := RX12) (T := TX12) (N := 19) dX12_flash_35 (by decide) rfl rfl (by decide) rfl fl_RX12_7 ?_
  refine n_iload_n_W dX12_flash_38 rfl rfl ?_
  refine n_iconst_W (v := (nI 1)) dX12_flash_39 rfl ?_
  refine n_iaddN_W dX12_flash_40 ?_
  refine n_ald_W dX12_flash_41 (by decide) rfl (by omega) (by decide) (fun x19 => ?_)
  refine n_callS_W [.int x18, .int (nI a2), .int x19] [.int (nI m17), .int (nI (675 + 0)), .ref 81] (y_X12_passes_W x18 a2 (by omega) (by omega) x19) dX12_flash_42 kk_X12_flash_X12_passes ml_RX12_162 swX12_passes rfl rfl (Nat.le_of_ble_eq_true rfl) ?_
  rintro _ ⟨m20, hm20, km20, rfl⟩
  refine n_iaddN_W dX12_flash_45 ?_
  refine n_aload_n_W dX12_flash_46 rfl rfl ?_
  refine n_getR_W 1 82 (C := RX12) (T := TX12) (N := 19) dX12_flash_47 (by decide) rfl rfl (by decide) rfl fl_RX12_13 ?_
  refine n_iconst_W (v := (nI 0)) dX12_flash_50 rfl ?_
  refine n_aldR_W (lo := 1) (up := 12) dX12_flash_51 (by decide) rfl (by omega) (by decide) rfl (fun m21 hm21 km21 => ?_)
  refine n_iremN_W dX12_flash_52 (by omega) (by omega) (by omega) ?_
  have hm22 := Nat.mod_lt (m17 + m20) (show m21 > 0 by omega)
  generalize (m17 + m20) % m21 = m22 at hm22 ⊢
  refine n_ast_W dX12_flash_53 (by decide) rfl (by omega) (by decide) rfl (zs_okR (rg_81_675_675 _ (by omega) (by omega)) (by omega) (by omega) (by decide) (by decide)) ?_
  refine n_iconst_W (v := (nI 0)) dX12_flash_54 rfl ?_
  refine n_istore_W (lv' := [(4, .int (nI 0)), (0, .ref 80), (1, .int (nI 675)), (2, .int (nI a2)), (3, .int a3)]) dX12_flash_55 (by decide) rfl ?_
  exact zs_Vlv_W (j57 _ 0 (by omega) (by omega) (Nat.lt_succ_self _)) (zs_mc 1 rfl (zs_mc 2 rfl (zs_mc 3 rfl (zs_mc 4 rfl (zs_mc 0 rfl zs_mn)))))
set_option maxRecDepth 100000 in
theorem y_X12_flashes_W (a1 : Int32) (a2 : Nat) (la2 : 0 ≤ a2) (ua2 : a2 ≤ 11) : zs_U_W MX12_flashes [.ref 80, .int a1, .int (nI a2)] zs_Rv := by
  refine zs_Vof_W (by decide) (Nat.le_of_ble_eq_true rfl) ?_
  show zs_V_W MX12_flashes 0 [(0, .ref 80), (1, .int a1), (2, .int (nI a2))] [] zs_Rv
  have j2 : ∀ (n2 : Nat) (c2 : Int32), zs_mu c2 < n2 → zs_V_W MX12_flashes 2 [(0, .ref 80), (1, .int a1), (2, .int (nI a2)), (3, .int c2)] [] zs_Rv := by
    intro n2
    induction n2 with
    | zero => intro c2 hn2; exact absurd hn2 (Nat.not_lt_zero _)
    | succ n2 ih2 =>
      intro c2 hn2
      refine n_iload_n_W dX12_flashes_2 rfl rfl ?_
      refine n_iload_n_W dX12_flashes_3 rfl rfl ?_
      refine n_ic_ge_W 22 dX12_flashes_4 (by decide) (fun h1 => ?_) (fun h1 => ?_)
      · exact n_ret_W dX12_flashes_22 rfl rfl
      · have hd2 := zs_muA h1 hn2
        refine n_aload_n_W dX12_flashes_7 rfl rfl ?_
        refine n_sipush_W (v := (nI 675)) dX12_flashes_8 rfl ?_
        refine n_iload_n_W dX12_flashes_11 rfl rfl ?_
        refine n_iconst_W (v := (nI 1)) dX12_flashes_12 rfl ?_
        refine n_callV_W (T := TX12) (NN := 19) [] (y_X12_flash_675_W a2 (by omega) (by omega) (nI 1)) dX12_flashes_13 kk_X12_flashes_X12_flash ml_RX12_132 mwX12_flash ewX12_flash (by decide) rfl rfl rfl rfl (Nat.le_of_ble_eq_true rfl) ?_
        rintro _ rfl
        refine n_iinc_W (v := (c2 + Int32.ofInt 1)) (lv' := [(3, .int (c2 + Int32.ofInt 1)), (0, .ref 80), (1, .int a1), (2, .int (nI a2))]) dX12_flashes_16 rfl rfl (by decide) rfl ?_
        refine n_goto_W 2 dX12_flashes_19 (by decide) ?_
        exact zs_Vlv_W (ih2 (c2 + Int32.ofInt 1) hd2) (zs_mc 1 rfl (zs_mc 2 rfl (zs_mc 3 rfl (zs_mc 0 rfl zs_mn))))
  refine n_iconst_W (v := (nI 0)) dX12_flashes_0 rfl ?_
  refine n_istore_n_W (lv' := [(3, .int (nI 0)), (0, .ref 80), (1, .int a1), (2, .int (nI a2))]) dX12_flashes_1 rfl (by decide) rfl ?_
  exact zs_Vlv_W (j2 _ (nI 0) (Nat.lt_succ_self _)) (zs_mc 1 rfl (zs_mc 2 rfl (zs_mc 3 rfl (zs_mc 0 rfl zs_mn))))
set_option maxRecDepth 100000 in
theorem y_X12_at_W (a1 : Int32) : zs_U_W MX12_at [.ref 80, .int a1] zs_Ri := by
  refine zs_Vof_W (by decide) (Nat.le_of_ble_eq_true rfl) ?_
  show zs_V_W MX12_at 0 [(0, .ref 80), (1, .int a1)] [] zs_Ri
  refine n_iload_n_W dX12_at_0 rfl rfl ?_
  refine n_i2l_W dX12_at_1 ?_
  refine n_lconst_W (v := 0) dX12_at_2 (by decide) ?_
  refine n_ldc2_W (v := 60) dX12_at_3 cl_RX12_173 ?_
  refine n_callS_W [.long (Int32.toInt64 a1), .long 0, .long 60] [] (y_in_W (Int32.toInt64 a1) 0 60) dX12_at_6 kk_X12_at_X12_in ml_RX12_54 swX12_in rfl rfl (Nat.le_of_ble_eq_true rfl) ?_
  rintro _ ⟨x1, rfl, bx1, fx1⟩
  refine n_if_ne_W 17 dX12_at_9 (by decide) (fun h2 => ?_) (fun h2 => ?_)
  · obtain ⟨k3, lk3, uk3, rfl⟩ := zs_inR (lo := 0) (hi := 60) (fx1 h2) (by decide) (by decide)
    refine n_aload_n_W dX12_at_17 rfl rfl ?_
    refine n_callV_W (T := TX12) (NN := 19) [] (y_X12_tries_W) dX12_at_18 kk_X12_at_X12_tries ml_RX12_188 mwX12_tries ewX12_tries (by decide) rfl rfl rfl rfl (Nat.le_of_ble_eq_true rfl) ?_
    rintro _ rfl
    refine n_aload_n_W dX12_at_21 rfl rfl ?_
    refine n_iload_n_W dX12_at_22 rfl rfl ?_
    refine n_aload_n_W dX12_at_23 rfl rfl ?_
    refine n_getR_W 0 81 (C := RX12) (T := TX12) (N := 19) dX12_at_24 (by decide) rfl rfl (by decide) rfl fl_RX12_7 ?_
    refine n_iconst_W (v := (nI 2)) dX12_at_27 rfl ?_
    refine n_aldR_W (lo := 0) (up := 11) dX12_at_28 (by decide) rfl (by omega) (by decide) rfl (fun m4 hm4 km4 => ?_)
    refine n_callV_W (T := TX12) (NN := 19) [] (y_X12_flashes_W (nI k3) m4 (by omega) (by omega)) dX12_at_29 kk_X12_at_X12_flashes ml_RX12_191 mwX12_flashes ewX12_flashes (by decide) rfl rfl rfl rfl (Nat.le_of_ble_eq_true rfl) ?_
    rintro _ rfl
    refine n_aload_n_W dX12_at_32 rfl rfl ?_
    refine n_getR_W 0 81 (C := RX12) (T := TX12) (N := 19) dX12_at_33 (by decide) rfl rfl (by decide) rfl fl_RX12_7 ?_
    refine n_sipush_W (v := (nI 675)) dX12_at_36 rfl ?_
    refine n_aldR_W (lo := 0) (up := 11) dX12_at_39 (by decide) rfl (by omega) (by decide) rfl (fun m5 hm5 km5 => ?_)
    exact n_iret_W dX12_at_40 rfl rfl ⟨_, rfl⟩
  · refine n_aload_n_W dX12_at_12 rfl rfl ?_
    refine n_callV_W (T := TX12) (NN := 19) [] (y_X12_bad_W) dX12_at_13 kk_X12_at_X12_bad ml_RX12_62 mwX12_bad ewX12_bad (by decide) rfl rfl rfl rfl (Nat.le_of_ble_eq_true rfl) ?_
    rintro _ ⟨x6, rfl⟩
    exact n_iret_W dX12_at_16 rfl rfl ⟨_, rfl⟩
set_option maxRecDepth 100000 in
theorem y_X12_sees_W (a1 : Int32) (a2 : Int32) : zs_U_W MX12_sees [.ref 80, .int a1, .int a2] zs_Ri := by
  refine zs_Vof_W (by decide) (Nat.le_of_ble_eq_true rfl) ?_
  show zs_V_W MX12_sees 0 [(0, .ref 80), (1, .int a1), (2, .int a2)] [] zs_Ri
  refine n_aload_n_W dX12_sees_0 rfl rfl ?_
  refine n_iload_n_W dX12_sees_1 rfl rfl ?_
  refine n_callV_W (T := TX12) (NN := 19) [] (y_isEye_W a1) dX12_sees_2 kk_X12_sees_X12_isEye ml_RX12_185 mwX12_isEye ewX12_isEye (by decide) rfl rfl rfl rfl (Nat.le_of_ble_eq_true rfl) ?_
  rintro _ ⟨x1, rfl, bx1, fx1⟩
  refine n_if_eq_W 20 dX12_sees_5 (by decide) (fun h2 => ?_) (fun h2 => ?_)
  · refine n_aload_n_W dX12_sees_20 rfl rfl ?_
    refine n_callV_W (T := TX12) (NN := 19) [] (y_X12_bad_W) dX12_sees_21 kk_X12_sees_X12_bad ml_RX12_62 mwX12_bad ewX12_bad (by decide) rfl rfl rfl rfl (Nat.le_of_ble_eq_true rfl) ?_
    rintro _ ⟨x3, rfl⟩
    exact n_iret_W dX12_sees_24 rfl rfl ⟨_, rfl⟩
  · obtain ⟨k4, uk4, rfl⟩ := fx1 h2
    refine n_iload_n_W dX12_sees_8 rfl rfl ?_
    refine n_i2l_W dX12_sees_9 ?_
    refine n_lconst_W (v := 0) dX12_sees_10 (by decide) ?_
    refine n_ldc2_W (v := 60) dX12_sees_11 cl_RX12_173 ?_
    refine n_callS_W [.long (Int32.toInt64 a2), .long 0, .long 60] [] (y_in_W (Int32.toInt64 a2) 0 60) dX12_sees_14 kk_X12_sees_X12_in ml_RX12_54 swX12_in rfl rfl (Nat.le_of_ble_eq_true rfl) ?_
    rintro _ ⟨x5, rfl, bx5, fx5⟩
    refine n_if_ne_W 25 dX12_sees_17 (by decide) (fun h6 => ?_) (fun h6 => ?_)
    · obtain ⟨k7, lk7, uk7, rfl⟩ := zs_inR (lo := 0) (hi := 60) (fx5 h6) (by decide) (by decide)
      refine n_aload_n_W dX12_sees_25 rfl rfl ?_
      refine n_callV_W (T := TX12) (NN := 19) [] (y_X12_tries_W) dX12_sees_26 kk_X12_sees_X12_tries ml_RX12_188 mwX12_tries ewX12_tries (by decide) rfl rfl rfl rfl (Nat.le_of_ble_eq_true rfl) ?_
      rintro _ rfl
      refine n_aload_n_W dX12_sees_29 rfl rfl ?_
      refine n_iload_n_W dX12_sees_30 rfl rfl ?_
      refine n_aload_n_W dX12_sees_31 rfl rfl ?_
      refine n_getR_W 0 81 (C := RX12) (T := TX12) (N := 19) dX12_sees_32 (by decide) rfl rfl (by decide) rfl fl_RX12_7 ?_
      refine n_iconst_W (v := (nI 2)) dX12_sees_35 rfl ?_
      refine n_aldR_W (lo := 0) (up := 11) dX12_sees_36 (by decide) rfl (by omega) (by decide) rfl (fun m8 hm8 km8 => ?_)
      refine n_callV_W (T := TX12) (NN := 19) [] (y_X12_flashes_W (nI k7) m8 (by omega) (by omega)) dX12_sees_37 kk_X12_sees_X12_flashes ml_RX12_191 mwX12_flashes ewX12_flashes (by decide) rfl rfl rfl rfl (Nat.le_of_ble_eq_true rfl) ?_
      rintro _ rfl
      refine n_aload_n_W dX12_sees_40 rfl rfl ?_
      refine n_getR_W 0 81 (C := RX12) (T := TX12) (N := 19) dX12_sees_41 (by decide) rfl rfl (by decide) rfl fl_RX12_7 ?_
      refine n_sipush_W (v := (nI 690)) dX12_sees_44 rfl ?_
      refine n_iload_n_W dX12_sees_47 rfl rfl ?_
      refine n_iaddN_W dX12_sees_48 ?_
      refine n_ald_W dX12_sees_49 (by decide) rfl (by omega) (by decide) (fun x9 => ?_)
      exact n_iret_W dX12_sees_50 rfl rfl ⟨_, rfl⟩
    · refine n_aload_n_W dX12_sees_20 rfl rfl ?_
      refine n_callV_W (T := TX12) (NN := 19) [] (y_X12_bad_W) dX12_sees_21 kk_X12_sees_X12_bad ml_RX12_62 mwX12_bad ewX12_bad (by decide) rfl rfl rfl rfl (Nat.le_of_ble_eq_true rfl) ?_
      rintro _ ⟨x10, rfl⟩
      exact n_iret_W dX12_sees_24 rfl rfl ⟨_, rfl⟩
set_option maxRecDepth 100000 in
theorem y_X12_round_W : zs_U_W MX12_round [.ref 80] zs_Ri := by
  refine zs_Vof_W (by decide) (Nat.le_of_ble_eq_true rfl) ?_
  show zs_V_W MX12_round 0 [(0, .ref 80)] [] zs_Ri
  have j6 : ∀ (n6 : Nat) (c6 : Int32), zs_mu c6 < n6 → zs_V_W MX12_round 6 [(0, .ref 80), (1, .int c6)] [] zs_Ri := by
    intro n6
    induction n6 with
    | zero => intro c6 hn6; exact absurd hn6 (Nat.not_lt_zero _)
    | succ n6 ih6 =>
      intro c6 hn6
      have j48 : zs_mu (c6 + Int32.ofInt 1) < n6 → ∀ (n48 : Nat) (v48_2 : Int32) (c48 : Nat), 0 ≤ c48 → c48 ≤ 5 → 5 - c48 < n48 → zs_V_W MX12_round 48 [(0, .ref 80), (1, .int c6), (2, .int v48_2), (3, .int (nI c48))] [] zs_Ri := by
        intro hd6 n48
        induction n48 with
        | zero => intro v48_2 c48 lc48 uc48 hn48; exact absurd hn48 (Nat.not_lt_zero _)
        | succ n48 ih48 =>
          intro v48_2 c48 lc48 uc48 hn48
          have j89 : zs_mu (c6 + Int32.ofInt 1) < n6 → c48 + 1 ≤ 5 → ∀ (v89_2 : Int32) (s89_0 : Int32), zs_V_W MX12_round 89 [(0, .ref 80), (1, .int c6), (2, .int v89_2), (3, .int (nI c48))] [.int s89_0] zs_Ri := by
            intro hd6 hd48 v89_2 s89_0
            refine n_istore_n_W (lv' := [(2, .int s89_0), (0, .ref 80), (1, .int c6), (3, .int (nI c48))]) dX12_round_89 rfl (by decide) rfl ?_
            refine n_iinc_W (v := (nI (c48 + 1))) (lv' := [(3, .int (nI (c48 + 1))), (2, .int s89_0), (0, .ref 80), (1, .int c6)]) dX12_round_90 rfl (nI_1 c48) (by decide) rfl ?_
            refine n_goto_W 48 dX12_round_93 (by decide) ?_
            exact zs_Vlv_W (ih48 s89_0 (c48 + 1) (by omega) (by omega) (by omega)) (zs_mc 2 rfl (zs_mc 3 rfl (zs_mc 1 rfl (zs_mc 0 rfl zs_mn))))
          have j88 : zs_mu (c6 + Int32.ofInt 1) < n6 → c48 + 1 ≤ 5 → ∀ (v88_2 : Int32), zs_V_W MX12_round 88 [(0, .ref 80), (1, .int c6), (2, .int v88_2), (3, .int (nI c48))] [] zs_Ri := by
            intro hd6 hd48 v88_2
            refine n_iconst_W (v := (nI 0)) dX12_round_88 rfl ?_
            exact j89 hd6 (by omega) v88_2 (nI 0)
          refine n_iload_n_W dX12_round_48 rfl rfl ?_
          refine n_aload_n_W dX12_round_49 rfl rfl ?_
          refine n_getR_W 1 82 (C := RX12) (T := TX12) (N := 19) dX12_round_50 (by decide) rfl rfl (by decide) rfl fl_RX12_13 ?_
          refine n_iconst_W (v := (nI 2)) dX12_round_53 rfl ?_
          refine n_aldR_W (lo := 0) (up := 5) dX12_round_54 (by decide) rfl (by omega) (by decide) rfl (fun m1 hm1 km1 => ?_)
          refine n_ic_geN_W 96 dX12_round_55 (by decide) (by omega) (by omega) (fun h2 => ?_) (fun h2 => ?_)
          · refine n_iload_n_W dX12_round_96 rfl rfl ?_
            refine n_if_eq_W 102 dX12_round_97 (by decide) (fun h3 => ?_) (fun h3 => ?_)
            · refine n_iinc_W (v := (c6 + Int32.ofInt 1)) (lv' := [(1, .int (c6 + Int32.ofInt 1)), (0, .ref 80), (2, .int v48_2), (3, .int (nI c48))]) dX12_round_102 rfl rfl (by decide) rfl ?_
              refine n_goto_W 6 dX12_round_105 (by decide) ?_
              exact zs_Vlv_W (ih6 (c6 + Int32.ofInt 1) hd6) (zs_mc 1 rfl (zs_mc 0 rfl zs_mn))
            · refine n_iload_n_W dX12_round_100 rfl rfl ?_
              exact n_iret_W dX12_round_101 rfl rfl ⟨_, rfl⟩
          · refine n_iload_n_W dX12_round_58 rfl rfl ?_
            refine n_if_eq_W 88 dX12_round_59 (by decide) (fun h4 => ?_) (fun h4 => ?_)
            · exact j88 hd6 (by omega) v48_2
            · refine n_aload_n_W dX12_round_62 rfl rfl ?_
              refine n_getR_W 0 81 (C := RX12) (T := TX12) (N := 19) dX12_round_63 (by decide) rfl rfl (by decide) rfl fl_RX12_7 ?_
              refine n_sipush_W (v := (nI 690)) dX12_round_66 rfl ?_
              refine n_iload_n_W dX12_round_69 rfl rfl ?_
              refine n_iaddN_W dX12_round_70 ?_
              refine n_ald_W dX12_round_71 (by decide) rfl (by omega) (by decide) (fun x5 => ?_)
              refine n_aload_n_W dX12_round_72 rfl rfl ?_
              refine n_getR_W 0 81 (C := RX12) (T := TX12) (N := 19) dX12_round_73 (by decide) rfl rfl (by decide) rfl fl_RX12_7 ?_
              refine n_bipush_W (v := (nI 15)) dX12_round_76 rfl ?_
              refine n_iload_n_W dX12_round_78 rfl rfl ?_
              refine n_iaddN_W dX12_round_79 ?_
              refine n_ald_W dX12_round_80 (by decide) rfl (by omega) (by decide) (fun x6 => ?_)
              refine n_ic_ne_W 88 dX12_round_81 (by decide) (fun h7 => ?_) (fun h7 => ?_)
              · exact j88 hd6 (by omega) v48_2
              · refine n_iconst_W (v := (nI 1)) dX12_round_84 rfl ?_
                refine n_goto_W 89 dX12_round_85 (by decide) ?_
                exact j89 hd6 (by omega) v48_2 (nI 1)
      have j45 : zs_mu (c6 + Int32.ofInt 1) < n6 → ∀ (s45_0 : Int32), zs_V_W MX12_round 45 [(0, .ref 80), (1, .int c6)] [.int s45_0] zs_Ri := by
        intro hd6 s45_0
        refine n_istore_n_W (lv' := [(2, .int s45_0), (0, .ref 80), (1, .int c6)]) dX12_round_45 rfl (by decide) rfl ?_
        refine n_iconst_W (v := (nI 0)) dX12_round_46 rfl ?_
        refine n_istore_n_W (lv' := [(3, .int (nI 0)), (2, .int s45_0), (0, .ref 80), (1, .int c6)]) dX12_round_47 rfl (by decide) rfl ?_
        exact zs_Vlv_W (j48 hd6 _ s45_0 0 (by omega) (by omega) (Nat.lt_succ_self _)) (zs_mc 2 rfl (zs_mc 3 rfl (zs_mc 1 rfl (zs_mc 0 rfl zs_mn))))
      refine n_iload_n_W dX12_round_6 rfl rfl ?_
      refine n_bipush_W (v := (nI 60)) dX12_round_7 rfl ?_
      refine n_ic_gt_W 108 dX12_round_9 (by decide) (fun h8 => ?_) (fun h8 => ?_)
      · refine n_iconst_W (v := (-1)) dX12_round_108 rfl ?_
        exact n_iret_W dX12_round_109 rfl rfl ⟨_, rfl⟩
      · have hd6 := zs_muB h8 (Nat.le_of_ble_eq_true rfl) hn6
        refine n_aload_n_W dX12_round_12 rfl rfl ?_
        refine n_iconst_W (v := (nI 1)) dX12_round_13 rfl ?_
        refine n_aload_n_W dX12_round_14 rfl rfl ?_
        refine n_getR_W 0 81 (C := RX12) (T := TX12) (N := 19) dX12_round_15 (by decide) rfl rfl (by decide) rfl fl_RX12_7 ?_
        refine n_iconst_W (v := (nI 2)) dX12_round_18 rfl ?_
        refine n_aldR_W (lo := 0) (up := 11) dX12_round_19 (by decide) rfl (by omega) (by decide) rfl (fun m9 hm9 km9 => ?_)
        refine n_callV_W (T := TX12) (NN := 19) [] (y_X12_flashes_W (nI 1) m9 (by omega) (by omega)) dX12_round_20 kk_X12_round_X12_flashes ml_RX12_191 mwX12_flashes ewX12_flashes (by decide) rfl rfl rfl rfl (Nat.le_of_ble_eq_true rfl) ?_
        rintro _ rfl
        refine n_aload_n_W dX12_round_23 rfl rfl ?_
        refine n_getR_W 0 81 (C := RX12) (T := TX12) (N := 19) dX12_round_24 (by decide) rfl rfl (by decide) rfl fl_RX12_7 ?_
        refine n_sipush_W (v := (nI 675)) dX12_round_27 rfl ?_
        refine n_aldR_W (lo := 0) (up := 11) dX12_round_30 (by decide) rfl (by omega) (by decide) rfl (fun m10 hm10 km10 => ?_)
        refine n_aload_n_W dX12_round_31 rfl rfl ?_
        refine n_getR_W 0 81 (C := RX12) (T := TX12) (N := 19) dX12_round_32 (by decide) rfl rfl (by decide) rfl fl_RX12_7 ?_
        refine n_iconst_W (v := (nI 0)) dX12_round_35 rfl ?_
        refine n_aldR_W (lo := 0) (up := 11) dX12_round_36 (by decide) rfl (by omega) (by decide) rfl (fun m11 hm11 km11 => ?_)
        refine n_ic_neN_W 44 dX12_round_37 (by decide) (by omega) (by omega) (fun h12 => ?_) (fun h12 => ?_)
        · refine n_iconst_W (v := (nI 0)) dX12_round_44 rfl ?_
          exact j45 hd6 (nI 0)
        · refine n_iconst_W (v := (nI 1)) dX12_round_40 rfl ?_
          refine n_goto_W 45 dX12_round_41 (by decide) ?_
          exact j45 hd6 (nI 1)
  refine n_aload_n_W dX12_round_0 rfl rfl ?_
  refine n_callV_W (T := TX12) (NN := 19) [] (y_X12_tries_W) dX12_round_1 kk_X12_round_X12_tries ml_RX12_188 mwX12_tries ewX12_tries (by decide) rfl rfl rfl rfl (Nat.le_of_ble_eq_true rfl) ?_
  rintro _ rfl
  refine n_iconst_W (v := (nI 1)) dX12_round_4 rfl ?_
  refine n_istore_n_W (lv' := [(1, .int (nI 1)), (0, .ref 80)]) dX12_round_5 rfl (by decide) rfl ?_
  exact zs_Vlv_W (j6 _ (nI 1) (Nat.lt_succ_self _)) (zs_mc 1 rfl (zs_mc 0 rfl zs_mn))
set_option maxRecDepth 100000 in
theorem y_X12_still_W (a1 : Int32) : zs_U_W MX12_still [.ref 80, .int a1] zs_Ri := by
  refine zs_Vof_W (by decide) (Nat.le_of_ble_eq_true rfl) ?_
  show zs_V_W MX12_still 0 [(0, .ref 80), (1, .int a1)] [] zs_Ri
  refine n_iload_n_W dX12_still_0 rfl rfl ?_
  refine n_i2l_W dX12_still_1 ?_
  refine n_lconst_W (v := 1) dX12_still_2 (by decide) ?_
  refine n_ldc2_W (v := 60) dX12_still_3 cl_RX12_173 ?_
  refine n_callS_W [.long (Int32.toInt64 a1), .long 1, .long 60] [] (y_in_W (Int32.toInt64 a1) 1 60) dX12_still_6 kk_X12_still_X12_in ml_RX12_54 swX12_in rfl rfl (Nat.le_of_ble_eq_true rfl) ?_
  rintro _ ⟨x1, rfl, bx1, fx1⟩
  refine n_if_ne_W 17 dX12_still_9 (by decide) (fun h2 => ?_) (fun h2 => ?_)
  · obtain ⟨k3, lk3, uk3, rfl⟩ := zs_inR (lo := 1) (hi := 60) (fx1 h2) (by decide) (by decide)
    have j21 : ∀ (n21 : Nat) (v21_2 : Int32) (c21 : Nat), 0 ≤ c21 → c21 ≤ 12 → 12 - c21 < n21 → zs_V_W MX12_still 21 [(0, .ref 80), (1, .int (nI k3)), (2, .int v21_2), (3, .int (nI c21))] [] zs_Ri := by
      intro n21
      induction n21 with
      | zero => intro v21_2 c21 lc21 uc21 hn21; exact absurd hn21 (Nat.not_lt_zero _)
      | succ n21 ih21 =>
        intro v21_2 c21 lc21 uc21 hn21
        have j111 : c21 + 1 ≤ 12 → ∀ (v111_2 : Int32) (v111_4 : Int32) (v111_5 : Int32) (s111_0 : Int32) (s111_1 : Int32), zs_V_W MX12_still 111 [(0, .ref 80), (1, .int (nI k3)), (2, .int v111_2), (3, .int (nI c21)), (4, .int v111_4), (5, .int v111_5)] [.int s111_0, .int s111_1] zs_Ri := by
          intro hd21 v111_2 v111_4 v111_5 s111_0 s111_1
          refine n_ior_W dX12_still_111 (fun x4 => ?_)
          refine n_istore_n_W (lv' := [(2, .int x4), (0, .ref 80), (1, .int (nI k3)), (3, .int (nI c21)), (4, .int v111_4), (5, .int v111_5)]) dX12_still_112 rfl (by decide) rfl ?_
          refine n_iinc_W (v := (nI (c21 + 1))) (lv' := [(3, .int (nI (c21 + 1))), (2, .int x4), (0, .ref 80), (1, .int (nI k3)), (4, .int v111_4), (5, .int v111_5)]) dX12_still_113 rfl (nI_1 c21) (by decide) rfl ?_
          refine n_goto_W 21 dX12_still_116 (by decide) ?_
          exact zs_Vlv_W (ih21 x4 (c21 + 1) (by omega) (by omega) (by omega)) (zs_mc 2 rfl (zs_mc 3 rfl (zs_mc 1 rfl (zs_mc 0 rfl zs_mn))))
        have j37 : c21 + 1 ≤ 12 → ∀ (n37 : Nat) (v37_2 : Int32) (v37_4 : Int32) (c37 : Int32), zs_mu c37 < n37 → zs_V_W MX12_still 37 [(0, .ref 80), (1, .int (nI k3)), (2, .int v37_2), (3, .int (nI c21)), (4, .int v37_4), (5, .int c37)] [] zs_Ri := by
          intro hd21 n37
          induction n37 with
          | zero => intro v37_2 v37_4 c37 hn37; exact absurd hn37 (Nat.not_lt_zero _)
          | succ n37 ih37 =>
            intro v37_2 v37_4 c37 hn37
            have j90 : c21 + 1 ≤ 12 → zs_mu (c37 + Int32.ofInt 1) < n37 → ∀ (v90_2 : Int32) (v90_4 : Int32) (s90_0 : Int32), zs_V_W MX12_still 90 [(0, .ref 80), (1, .int (nI k3)), (2, .int v90_2), (3, .int (nI c21)), (4, .int v90_4), (5, .int c37)] [.int s90_0] zs_Ri := by
              intro hd21 hd37 v90_2 v90_4 s90_0
              refine n_istore_W (lv' := [(4, .int s90_0), (0, .ref 80), (1, .int (nI k3)), (2, .int v90_2), (3, .int (nI c21)), (5, .int c37)]) dX12_still_90 (by decide) rfl ?_
              refine n_iinc_W (v := (c37 + Int32.ofInt 1)) (lv' := [(5, .int (c37 + Int32.ofInt 1)), (4, .int s90_0), (0, .ref 80), (1, .int (nI k3)), (2, .int v90_2), (3, .int (nI c21))]) dX12_still_92 rfl rfl (by decide) rfl ?_
              refine n_goto_W 37 dX12_still_95 (by decide) ?_
              exact zs_Vlv_W (ih37 v90_2 s90_0 (c37 + Int32.ofInt 1) hd37) (zs_mc 2 rfl (zs_mc 3 rfl (zs_mc 4 rfl (zs_mc 5 rfl (zs_mc 1 rfl (zs_mc 0 rfl zs_mn))))))
            have j89 : c21 + 1 ≤ 12 → zs_mu (c37 + Int32.ofInt 1) < n37 → ∀ (v89_2 : Int32) (v89_4 : Int32), zs_V_W MX12_still 89 [(0, .ref 80), (1, .int (nI k3)), (2, .int v89_2), (3, .int (nI c21)), (4, .int v89_4), (5, .int c37)] [] zs_Ri := by
              intro hd21 hd37 v89_2 v89_4
              refine n_iconst_W (v := (nI 0)) dX12_still_89 rfl ?_
              exact j90 (by omega) hd37 v89_2 v89_4 (nI 0)
            refine n_iload_W dX12_still_37 rfl ?_
            refine n_iload_n_W dX12_still_39 rfl rfl ?_
            refine n_ic_ge_W 98 dX12_still_40 (by decide) (fun h5 => ?_) (fun h5 => ?_)
            · refine n_iload_n_W dX12_still_98 rfl rfl ?_
              refine n_iload_W dX12_still_99 rfl ?_
              refine n_if_eq_W 110 dX12_still_101 (by decide) (fun h6 => ?_) (fun h6 => ?_)
              · refine n_iconst_W (v := (nI 0)) dX12_still_110 rfl ?_
                exact j111 (by omega) v37_2 v37_4 c37 (nI 0) v37_2
              · refine n_iconst_W (v := (nI 1)) dX12_still_104 rfl ?_
                refine n_iload_n_W dX12_still_105 rfl rfl ?_
                refine n_ishl_W dX12_still_106 (fun x7 => ?_)
                refine n_goto_W 111 dX12_still_107 (by decide) ?_
                exact j111 (by omega) v37_2 v37_4 c37 x7 v37_2
            · have hd37 := zs_muA h5 hn37
              refine n_aload_n_W dX12_still_43 rfl rfl ?_
              refine n_iconst_W (v := (nI 1)) dX12_still_44 rfl ?_
              refine n_iload_n_W dX12_still_45 rfl rfl ?_
              refine n_callV_W (T := TX12) (NN := 19) [] (y_X12_flashes_W (nI 1) c21 (by omega) (by omega)) dX12_still_46 kk_X12_still_X12_flashes ml_RX12_191 mwX12_flashes ewX12_flashes (by decide) rfl rfl rfl rfl (Nat.le_of_ble_eq_true rfl) ?_
              rintro _ rfl
              refine n_iload_W dX12_still_49 rfl ?_
              refine n_if_eq_W 89 dX12_still_51 (by decide) (fun h8 => ?_) (fun h8 => ?_)
              · exact j89 (by omega) hd37 v37_2 v37_4
              · refine n_aload_n_W dX12_still_54 rfl rfl ?_
                refine n_getR_W 0 81 (C := RX12) (T := TX12) (N := 19) dX12_still_55 (by decide) rfl rfl (by decide) rfl fl_RX12_7 ?_
                refine n_iconst_W (v := (nI 3)) dX12_still_58 rfl ?_
                refine n_aload_n_W dX12_still_59 rfl rfl ?_
                refine n_getR_W 0 81 (C := RX12) (T := TX12) (N := 19) dX12_still_60 (by decide) rfl rfl (by decide) rfl fl_RX12_7 ?_
                refine n_sipush_W (v := (nI 675)) dX12_still_63 rfl ?_
                refine n_aldR_W (lo := 0) (up := 11) dX12_still_66 (by decide) rfl (by omega) (by decide) rfl (fun m9 hm9 km9 => ?_)
                refine n_iaddN_W dX12_still_67 ?_
                refine n_aldR_W (lo := 0) (up := 9) dX12_still_68 (by decide) rfl (by omega) (by decide) (rg_81_3_14 _ (by omega) (by omega)) (fun m10 hm10 km10 => ?_)
                refine n_aload_n_W dX12_still_69 rfl rfl ?_
                refine n_getR_W 0 81 (C := RX12) (T := TX12) (N := 19) dX12_still_70 (by decide) rfl rfl (by decide) rfl fl_RX12_7 ?_
                refine n_iconst_W (v := (nI 3)) dX12_still_73 rfl ?_
                refine n_aload_n_W dX12_still_74 rfl rfl ?_
                refine n_getR_W 0 81 (C := RX12) (T := TX12) (N := 19) dX12_still_75 (by decide) rfl rfl (by decide) rfl fl_RX12_7 ?_
                refine n_iconst_W (v := (nI 0)) dX12_still_78 rfl ?_
                refine n_aldR_W (lo := 0) (up := 11) dX12_still_79 (by decide) rfl (by omega) (by decide) rfl (fun m11 hm11 km11 => ?_)
                refine n_iaddN_W dX12_still_80 ?_
                refine n_aldR_W (lo := 0) (up := 9) dX12_still_81 (by decide) rfl (by omega) (by decide) (rg_81_3_14 _ (by omega) (by omega)) (fun m12 hm12 km12 => ?_)
                refine n_ic_neN_W 89 dX12_still_82 (by decide) (by omega) (by omega) (fun h13 => ?_) (fun h13 => ?_)
                · exact j89 (by omega) hd37 v37_2 v37_4
                · refine n_iconst_W (v := (nI 1)) dX12_still_85 rfl ?_
                  refine n_goto_W 90 dX12_still_86 (by decide) ?_
                  exact j90 (by omega) hd37 v37_2 v37_4 (nI 1)
        refine n_iload_n_W dX12_still_21 rfl rfl ?_
        refine n_bipush_W (v := (nI 12)) dX12_still_22 rfl ?_
        refine n_ic_geN_W 119 dX12_still_24 (by decide) (by omega) (by omega) (fun h14 => ?_) (fun h14 => ?_)
        · refine n_iload_n_W dX12_still_119 rfl rfl ?_
          exact n_iret_W dX12_still_120 rfl rfl ⟨_, rfl⟩
        · refine n_aload_n_W dX12_still_27 rfl rfl ?_
          refine n_callV_W (T := TX12) (NN := 19) [] (y_X12_tries_W) dX12_still_28 kk_X12_still_X12_tries ml_RX12_188 mwX12_tries ewX12_tries (by decide) rfl rfl rfl rfl (Nat.le_of_ble_eq_true rfl) ?_
          rintro _ rfl
          refine n_iconst_W (v := (nI 1)) dX12_still_31 rfl ?_
          refine n_istore_W (lv' := [(4, .int (nI 1)), (0, .ref 80), (1, .int (nI k3)), (2, .int v21_2), (3, .int (nI c21))]) dX12_still_32 (by decide) rfl ?_
          refine n_iconst_W (v := (nI 0)) dX12_still_34 rfl ?_
          refine n_istore_W (lv' := [(5, .int (nI 0)), (4, .int (nI 1)), (0, .ref 80), (1, .int (nI k3)), (2, .int v21_2), (3, .int (nI c21))]) dX12_still_35 (by decide) rfl ?_
          exact zs_Vlv_W (j37 (by omega) _ v21_2 (nI 1) (nI 0) (Nat.lt_succ_self _)) (zs_mc 2 rfl (zs_mc 3 rfl (zs_mc 4 rfl (zs_mc 5 rfl (zs_mc 1 rfl (zs_mc 0 rfl zs_mn))))))
    refine n_iconst_W (v := (nI 0)) dX12_still_17 rfl ?_
    refine n_istore_n_W (lv' := [(2, .int (nI 0)), (0, .ref 80), (1, .int (nI k3))]) dX12_still_18 rfl (by decide) rfl ?_
    refine n_iconst_W (v := (nI 0)) dX12_still_19 rfl ?_
    refine n_istore_n_W (lv' := [(3, .int (nI 0)), (2, .int (nI 0)), (0, .ref 80), (1, .int (nI k3))]) dX12_still_20 rfl (by decide) rfl ?_
    exact zs_Vlv_W (j21 _ (nI 0) 0 (by omega) (by omega) (Nat.lt_succ_self _)) (zs_mc 2 rfl (zs_mc 3 rfl (zs_mc 1 rfl (zs_mc 0 rfl zs_mn))))
  · refine n_aload_n_W dX12_still_12 rfl rfl ?_
    refine n_callV_W (T := TX12) (NN := 19) [] (y_X12_bad_W) dX12_still_13 kk_X12_still_X12_bad ml_RX12_62 mwX12_bad ewX12_bad (by decide) rfl rfl rfl rfl (Nat.le_of_ble_eq_true rfl) ?_
    rintro _ ⟨x15, rfl⟩
    exact n_iret_W dX12_still_16 rfl rfl ⟨_, rfl⟩
set_option maxRecDepth 100000 in
theorem y_X12_most_W (a1 : Int32) (a2 : Int32) (a3 : Int32) : zs_U_W MX12_most [.ref 80, .int a1, .int a2, .int a3] zs_Ri := by
  refine zs_Vof_W (by decide) (Nat.le_of_ble_eq_true rfl) ?_
  show zs_V_W MX12_most 0 [(0, .ref 80), (1, .int a1), (2, .int a2), (3, .int a3)] [] zs_Ri
  refine n_aload_n_W dX12_most_0 rfl rfl ?_
  refine n_iload_n_W dX12_most_1 rfl rfl ?_
  refine n_callV_W (T := TX12) (NN := 19) [] (y_isEye_W a1) dX12_most_2 kk_X12_most_X12_isEye ml_RX12_185 mwX12_isEye ewX12_isEye (by decide) rfl rfl rfl rfl (Nat.le_of_ble_eq_true rfl) ?_
  rintro _ ⟨x1, rfl, bx1, fx1⟩
  refine n_if_eq_W 30 dX12_most_5 (by decide) (fun h2 => ?_) (fun h2 => ?_)
  · refine n_aload_n_W dX12_most_30 rfl rfl ?_
    refine n_callV_W (T := TX12) (NN := 19) [] (y_X12_bad_W) dX12_most_31 kk_X12_most_X12_bad ml_RX12_62 mwX12_bad ewX12_bad (by decide) rfl rfl rfl rfl (Nat.le_of_ble_eq_true rfl) ?_
    rintro _ ⟨x3, rfl⟩
    exact n_iret_W dX12_most_34 rfl rfl ⟨_, rfl⟩
  · obtain ⟨k4, uk4, rfl⟩ := fx1 h2
    refine n_iload_n_W dX12_most_8 rfl rfl ?_
    refine n_i2l_W dX12_most_9 ?_
    refine n_lconst_W (v := 1) dX12_most_10 (by decide) ?_
    refine n_ldc2_W (v := 60) dX12_most_11 cl_RX12_173 ?_
    refine n_callS_W [.long (Int32.toInt64 a2), .long 1, .long 60] [] (y_in_W (Int32.toInt64 a2) 1 60) dX12_most_14 kk_X12_most_X12_in ml_RX12_54 swX12_in rfl rfl (Nat.le_of_ble_eq_true rfl) ?_
    rintro _ ⟨x5, rfl, bx5, fx5⟩
    refine n_if_eq_W 30 dX12_most_17 (by decide) (fun h6 => ?_) (fun h6 => ?_)
    · refine n_aload_n_W dX12_most_30 rfl rfl ?_
      refine n_callV_W (T := TX12) (NN := 19) [] (y_X12_bad_W) dX12_most_31 kk_X12_most_X12_bad ml_RX12_62 mwX12_bad ewX12_bad (by decide) rfl rfl rfl rfl (Nat.le_of_ble_eq_true rfl) ?_
      rintro _ ⟨x7, rfl⟩
      exact n_iret_W dX12_most_34 rfl rfl ⟨_, rfl⟩
    · obtain ⟨k8, lk8, uk8, rfl⟩ := zs_inR (lo := 1) (hi := 60) (fx5 h6) (by decide) (by decide)
      refine n_iload_n_W dX12_most_20 rfl rfl ?_
      refine n_i2l_W dX12_most_21 ?_
      refine n_lconst_W (v := 0) dX12_most_22 (by decide) ?_
      refine n_lconst_W (v := 1) dX12_most_23 (by decide) ?_
      refine n_callS_W [.long (Int32.toInt64 a3), .long 0, .long 1] [] (y_in_W (Int32.toInt64 a3) 0 1) dX12_most_24 kk_X12_most_X12_in ml_RX12_54 swX12_in rfl rfl (Nat.le_of_ble_eq_true rfl) ?_
      rintro _ ⟨x9, rfl, bx9, fx9⟩
      refine n_if_ne_W 35 dX12_most_27 (by decide) (fun h10 => ?_) (fun h10 => ?_)
      · obtain ⟨k11, lk11, uk11, rfl⟩ := zs_inR (lo := 0) (hi := 1) (fx9 h10) (by decide) (by decide)
        have j44 : ∀ (n44 : Nat) (v44_4 : Int32) (v44_5 : Int32) (c44 : Nat), 0 ≤ c44 → c44 ≤ 12 → 12 - c44 < n44 → zs_V_W MX12_most 44 [(0, .ref 80), (1, .int (nI k4)), (2, .int (nI k8)), (3, .int (nI k11)), (4, .int v44_4), (5, .int v44_5), (6, .int (nI c44))] [] zs_Ri := by
          intro n44
          induction n44 with
          | zero => intro v44_4 v44_5 c44 lc44 uc44 hn44; exact absurd hn44 (Nat.not_lt_zero _)
          | succ n44 ih44 =>
            intro v44_4 v44_5 c44 lc44 uc44 hn44
            have j104 : c44 + 1 ≤ 12 → ∀ (v104_4 : Int32) (v104_5 : Int32) (v104_7 : Int32) (s104_0 : Int32), zs_V_W MX12_most 104 [(0, .ref 80), (1, .int (nI k4)), (2, .int (nI k8)), (3, .int (nI k11)), (4, .int v104_4), (5, .int v104_5), (6, .int (nI c44)), (7, .int v104_7)] [.int s104_0] zs_Ri := by
              intro hd44 v104_4 v104_5 v104_7 s104_0
              refine n_istore_W (lv' := [(5, .int s104_0), (0, .ref 80), (1, .int (nI k4)), (2, .int (nI k8)), (3, .int (nI k11)), (4, .int v104_4), (6, .int (nI c44)), (7, .int v104_7)]) dX12_most_104 (by decide) rfl ?_
              refine n_iinc_W (v := (nI (c44 + 1))) (lv' := [(6, .int (nI (c44 + 1))), (5, .int s104_0), (0, .ref 80), (1, .int (nI k4)), (2, .int (nI k8)), (3, .int (nI k11)), (4, .int v104_4), (7, .int v104_7)]) dX12_most_106 rfl (nI_1 c44) (by decide) rfl ?_
              refine n_goto_W 44 dX12_most_109 (by decide) ?_
              exact zs_Vlv_W (ih44 v104_4 s104_0 (c44 + 1) (by omega) (by omega) (by omega)) (zs_mc 2 rfl (zs_mc 3 rfl (zs_mc 4 rfl (zs_mc 5 rfl (zs_mc 6 rfl (zs_mc 1 rfl (zs_mc 0 rfl zs_mn)))))))
            have j88 : c44 + 1 ≤ 12 → ∀ (v88_4 : Int32) (v88_5 : Int32) (v88_7 : Int32) (s88_0 : Int32), zs_V_W MX12_most 88 [(0, .ref 80), (1, .int (nI k4)), (2, .int (nI k8)), (3, .int (nI k11)), (4, .int v88_4), (5, .int v88_5), (6, .int (nI c44)), (7, .int v88_7)] [.int s88_0] zs_Ri := by
              intro hd44 v88_4 v88_5 v88_7 s88_0
              refine n_istore_W (lv' := [(4, .int s88_0), (0, .ref 80), (1, .int (nI k4)), (2, .int (nI k8)), (3, .int (nI k11)), (5, .int v88_5), (6, .int (nI c44)), (7, .int v88_7)]) dX12_most_88 (by decide) rfl ?_
              refine n_iload_W dX12_most_90 rfl ?_
              refine n_iload_W dX12_most_92 rfl ?_
              refine n_ic_le_W 102 dX12_most_94 (by decide) (fun h12 => ?_) (fun h12 => ?_)
              · refine n_iload_W dX12_most_102 rfl ?_
                exact zs_Vlv_W (j104 (by omega) s88_0 v88_5 v88_7 v88_5) (zs_mc 1 rfl (zs_mc 2 rfl (zs_mc 3 rfl (zs_mc 4 rfl (zs_mc 0 rfl (zs_mc 5 rfl (zs_mc 6 rfl (zs_mc 7 rfl zs_mn))))))))
              · refine n_iload_W dX12_most_97 rfl ?_
                refine n_goto_W 104 dX12_most_99 (by decide) ?_
                exact zs_Vlv_W (j104 (by omega) s88_0 v88_5 v88_7 v88_7) (zs_mc 1 rfl (zs_mc 2 rfl (zs_mc 3 rfl (zs_mc 4 rfl (zs_mc 0 rfl (zs_mc 5 rfl (zs_mc 6 rfl (zs_mc 7 rfl zs_mn))))))))
            refine n_iload_W dX12_most_44 rfl ?_
            refine n_bipush_W (v := (nI 12)) dX12_most_46 rfl ?_
            refine n_ic_geN_W 112 dX12_most_48 (by decide) (by omega) (by omega) (fun h13 => ?_) (fun h13 => ?_)
            · refine n_iload_n_W dX12_most_112 rfl rfl ?_
              refine n_if_neN_W 121 dX12_most_113 (by decide) (by omega) (fun h14 => ?_) (fun h14 => ?_)
              · refine n_iload_W dX12_most_121 rfl ?_
                exact n_iret_W dX12_most_123 rfl rfl ⟨_, rfl⟩
              · refine n_iload_W dX12_most_116 rfl ?_
                refine n_goto_W 123 dX12_most_118 (by decide) ?_
                exact n_iret_W dX12_most_123 rfl rfl ⟨_, rfl⟩
            · refine n_aload_n_W dX12_most_51 rfl rfl ?_
              refine n_callV_W (T := TX12) (NN := 19) [] (y_X12_tries_W) dX12_most_52 kk_X12_most_X12_tries ml_RX12_188 mwX12_tries ewX12_tries (by decide) rfl rfl rfl rfl (Nat.le_of_ble_eq_true rfl) ?_
              rintro _ rfl
              refine n_aload_n_W dX12_most_55 rfl rfl ?_
              refine n_iload_n_W dX12_most_56 rfl rfl ?_
              refine n_iload_W dX12_most_57 rfl ?_
              refine n_callV_W (T := TX12) (NN := 19) [] (y_X12_flashes_W (nI k8) c44 (by omega) (by omega)) dX12_most_59 kk_X12_most_X12_flashes ml_RX12_191 mwX12_flashes ewX12_flashes (by decide) rfl rfl rfl rfl (Nat.le_of_ble_eq_true rfl) ?_
              rintro _ rfl
              refine n_aload_n_W dX12_most_62 rfl rfl ?_
              refine n_getR_W 0 81 (C := RX12) (T := TX12) (N := 19) dX12_most_63 (by decide) rfl rfl (by decide) rfl fl_RX12_7 ?_
              refine n_sipush_W (v := (nI 695)) dX12_most_66 rfl ?_
              refine n_iload_n_W dX12_most_69 rfl rfl ?_
              refine n_iaddN_W dX12_most_70 ?_
              refine n_ald_W dX12_most_71 (by decide) rfl (by omega) (by decide) (fun x15 => ?_)
              refine n_istore_W (lv' := [(7, .int x15), (0, .ref 80), (1, .int (nI k4)), (2, .int (nI k8)), (3, .int (nI k11)), (4, .int v44_4), (5, .int v44_5), (6, .int (nI c44))]) dX12_most_72 (by decide) rfl ?_
              refine n_iload_W dX12_most_74 rfl ?_
              refine n_iload_W dX12_most_76 rfl ?_
              refine n_ic_le_W 86 dX12_most_78 (by decide) (fun h16 => ?_) (fun h16 => ?_)
              · refine n_iload_W dX12_most_86 rfl ?_
                exact zs_Vlv_W (j88 (by omega) v44_4 v44_5 x15 v44_4) (zs_mc 1 rfl (zs_mc 2 rfl (zs_mc 3 rfl (zs_mc 4 rfl (zs_mc 5 rfl (zs_mc 6 rfl (zs_mc 7 rfl (zs_mc 0 rfl zs_mn))))))))
              · refine n_iload_W dX12_most_81 rfl ?_
                refine n_goto_W 88 dX12_most_83 (by decide) ?_
                exact zs_Vlv_W (j88 (by omega) v44_4 v44_5 x15 (nI c44)) (zs_mc 1 rfl (zs_mc 2 rfl (zs_mc 3 rfl (zs_mc 4 rfl (zs_mc 5 rfl (zs_mc 6 rfl (zs_mc 7 rfl (zs_mc 0 rfl zs_mn))))))))
        refine n_iconst_W (v := (nI 0)) dX12_most_35 rfl ?_
        refine n_istore_W (lv' := [(4, .int (nI 0)), (0, .ref 80), (1, .int (nI k4)), (2, .int (nI k8)), (3, .int (nI k11))]) dX12_most_36 (by decide) rfl ?_
        refine n_iconst_W (v := (-1)) dX12_most_38 rfl ?_
        refine n_istore_W (lv' := [(5, .int (-1)), (4, .int (nI 0)), (0, .ref 80), (1, .int (nI k4)), (2, .int (nI k8)), (3, .int (nI k11))]) dX12_most_39 (by decide) rfl ?_
        refine n_iconst_W (v := (nI 0)) dX12_most_41 rfl ?_
        refine n_istore_W (lv' := [(6, .int (nI 0)), (5, .int (-1)), (4, .int (nI 0)), (0, .ref 80), (1, .int (nI k4)), (2, .int (nI k8)), (3, .int (nI k11))]) dX12_most_42 (by decide) rfl ?_
        exact zs_Vlv_W (j44 _ (nI 0) (-1) 0 (by omega) (by omega) (Nat.lt_succ_self _)) (zs_mc 3 rfl (zs_mc 4 rfl (zs_mc 5 rfl (zs_mc 6 rfl (zs_mc 2 rfl (zs_mc 1 rfl (zs_mc 0 rfl zs_mn)))))))
      · refine n_aload_n_W dX12_most_30 rfl rfl ?_
        refine n_callV_W (T := TX12) (NN := 19) [] (y_X12_bad_W) dX12_most_31 kk_X12_most_X12_bad ml_RX12_62 mwX12_bad ewX12_bad (by decide) rfl rfl rfl rfl (Nat.le_of_ble_eq_true rfl) ?_
        rintro _ ⟨x17, rfl⟩
        exact n_iret_W dX12_most_34 rfl rfl ⟨_, rfl⟩
set_option maxRecDepth 100000 in
theorem y_X12_shown_W (a1 : Nat) (la1 : 0 ≤ a1) (ua1 : a1 ≤ 143) (a2 : Nat) (la2 : 0 ≤ a2) (ua2 : a2 ≤ 30) : zs_U_W MX12_shown [.ref 80, .int (nI a1), .int (nI a2)] (zs_Rn 0 9) := by
  refine zs_Vof_W (by decide) (Nat.le_of_ble_eq_true rfl) ?_
  show zs_V_W MX12_shown 0 [(0, .ref 80), (1, .int (nI a1)), (2, .int (nI a2))] [] (zs_Rn 0 9)
  have j8 : ∀ (n8 : Nat) (v8_3 : Nat) (c8 : Nat), 0 ≤ v8_3 → v8_3 ≤ 11 → 1 ≤ c8 → c8 ≤ 31 → 31 - c8 < n8 → zs_V_W MX12_shown 8 [(0, .ref 80), (1, .int (nI a1)), (2, .int (nI a2)), (3, .int (nI v8_3)), (4, .int (nI c8))] [] (zs_Rn 0 9) := by
    intro n8
    induction n8 with
    | zero => intro v8_3 c8 lv8_3 uv8_3 lc8 uc8 hn8; exact absurd hn8 (Nat.not_lt_zero _)
    | succ n8 ih8 =>
      intro v8_3 c8 lv8_3 uv8_3 lc8 uc8 hn8
      refine n_iload_W dX12_shown_8 rfl ?_
      refine n_iload_n_W dX12_shown_10 rfl rfl ?_
      refine n_ic_gtN_W 45 dX12_shown_11 (by decide) (by omega) (by omega) (fun h1 => ?_) (fun h1 => ?_)
      · refine n_aload_n_W dX12_shown_45 rfl rfl ?_
        refine n_getR_W 0 81 (C := RX12) (T := TX12) (N := 19) dX12_shown_46 (by decide) rfl rfl (by decide) rfl fl_RX12_7 ?_
        refine n_iconst_W (v := (nI 3)) dX12_shown_49 rfl ?_
        refine n_iload_n_W dX12_shown_50 rfl rfl ?_
        refine n_iaddN_W dX12_shown_51 ?_
        refine n_aldR_W (lo := 0) (up := 9) dX12_shown_52 (by decide) rfl (by omega) (by decide) (rg_81_3_14 _ (by omega) (by omega)) (fun m2 hm2 km2 => ?_)
        exact n_iret_W dX12_shown_53 rfl rfl ⟨_, by omega, by omega, rfl⟩
      · refine n_iload_n_W dX12_shown_14 rfl rfl ?_
        refine n_aload_n_W dX12_shown_15 rfl rfl ?_
        refine n_getR_W 1 82 (C := RX12) (T := TX12) (N := 19) dX12_shown_16 (by decide) rfl rfl (by decide) rfl fl_RX12_13 ?_
        refine n_iconst_W (v := (nI 1)) dX12_shown_19 rfl ?_
        refine n_ald_W dX12_shown_20 (by decide) rfl (by omega) (by decide) (fun x3 => ?_)
        refine n_iload_n_W dX12_shown_21 rfl rfl ?_
        refine n_bipush_W (v := (nI 12)) dX12_shown_22 rfl ?_
        refine n_iremN_W dX12_shown_24 (by omega) (by omega) (by omega) ?_
        refine n_iload_W dX12_shown_25 rfl ?_
        refine n_callS_W [.int x3, .int (nI (a1 % 12)), .int (nI c8)] [.int (nI v8_3)] (y_X12_passes_W x3 (a1 % 12) (by omega) (by omega) (nI c8)) dX12_shown_27 kk_X12_shown_X12_passes ml_RX12_162 swX12_passes rfl rfl (Nat.le_of_ble_eq_true rfl) ?_
        rintro _ ⟨m4, hm4, km4, rfl⟩
        refine n_iaddN_W dX12_shown_30 ?_
        refine n_aload_n_W dX12_shown_31 rfl rfl ?_
        refine n_getR_W 1 82 (C := RX12) (T := TX12) (N := 19) dX12_shown_32 (by decide) rfl rfl (by decide) rfl fl_RX12_13 ?_
        refine n_iconst_W (v := (nI 0)) dX12_shown_35 rfl ?_
        refine n_aldR_W (lo := 1) (up := 12) dX12_shown_36 (by decide) rfl (by omega) (by decide) rfl (fun m5 hm5 km5 => ?_)
        refine n_iremN_W dX12_shown_37 (by omega) (by omega) (by omega) ?_
        have hm6 := Nat.mod_lt (v8_3 + m4) (show m5 > 0 by omega)
        generalize (v8_3 + m4) % m5 = m6 at hm6 ⊢
        refine n_istore_n_W (lv' := [(3, .int (nI m6)), (0, .ref 80), (1, .int (nI a1)), (2, .int (nI a2)), (4, .int (nI c8))]) dX12_shown_38 rfl (by decide) rfl ?_
        refine n_iinc_W (v := (nI (c8 + 1))) (lv' := [(4, .int (nI (c8 + 1))), (3, .int (nI m6)), (0, .ref 80), (1, .int (nI a1)), (2, .int (nI a2))]) dX12_shown_39 rfl (nI_1 c8) (by decide) rfl ?_
        refine n_goto_W 8 dX12_shown_42 (by decide) ?_
        exact zs_Vlv_W (ih8 m6 (c8 + 1) (by omega) (by omega) (by omega) (by omega) (by omega)) (zs_mc 2 rfl (zs_mc 3 rfl (zs_mc 4 rfl (zs_mc 1 rfl (zs_mc 0 rfl zs_mn)))))
  refine n_iload_n_W dX12_shown_0 rfl rfl ?_
  refine n_bipush_W (v := (nI 12)) dX12_shown_1 rfl ?_
  refine n_idivN_W dX12_shown_3 (by omega) (by omega) (by omega) ?_
  refine n_istore_n_W (lv' := [(3, .int (nI (a1 / 12))), (0, .ref 80), (1, .int (nI a1)), (2, .int (nI a2))]) dX12_shown_4 rfl (by decide) rfl ?_
  refine n_iconst_W (v := (nI 1)) dX12_shown_5 rfl ?_
  refine n_istore_W (lv' := [(4, .int (nI 1)), (3, .int (nI (a1 / 12))), (0, .ref 80), (1, .int (nI a1)), (2, .int (nI a2))]) dX12_shown_6 (by decide) rfl ?_
  exact zs_Vlv_W (j8 _ (a1 / 12) 1 (by omega) (by omega) (by omega) (by omega) (Nat.lt_succ_self _)) (zs_mc 2 rfl (zs_mc 3 rfl (zs_mc 4 rfl (zs_mc 1 rfl (zs_mc 0 rfl zs_mn)))))
set_option maxRecDepth 100000 in
theorem y_X12_isSo_W (a1 : Nat) (la1 : 0 ≤ a1) (ua1 : a1 ≤ 143) : zs_U_W MX12_isSo [.ref 80, .int (nI a1)] zs_Rb := by
  refine zs_Vof_W (by decide) (Nat.le_of_ble_eq_true rfl) ?_
  show zs_V_W MX12_isSo 0 [(0, .ref 80), (1, .int (nI a1))] [] zs_Rb
  have j4 : ∀ (n4 : Nat) (v4_2 : Nat) (c4 : Nat), 0 ≤ v4_2 → v4_2 ≤ 1 → 0 ≤ c4 → c4 ≤ 6 → 6 - c4 < n4 → zs_V_W MX12_isSo 4 [(0, .ref 80), (1, .int (nI a1)), (2, .int (nI v4_2)), (3, .int (nI c4))] [] zs_Rb := by
    intro n4
    induction n4 with
    | zero => intro v4_2 c4 lv4_2 uv4_2 lc4 uc4 hn4; exact absurd hn4 (Nat.not_lt_zero _)
    | succ n4 ih4 =>
      intro v4_2 c4 lv4_2 uv4_2 lc4 uc4 hn4
      have j50 : c4 + 1 ≤ 6 → ∀ (v50_2 : Nat) (s50_0 : Nat), 0 ≤ v50_2 → v50_2 ≤ 1 → 0 ≤ s50_0 → s50_0 ≤ 1 → zs_V_W MX12_isSo 50 [(0, .ref 80), (1, .int (nI a1)), (2, .int (nI v50_2)), (3, .int (nI c4))] [.int (nI s50_0)] zs_Rb := by
        intro hd4 v50_2 s50_0 lv50_2 uv50_2 ls50_0 us50_0
        refine n_istore_n_W (lv' := [(2, .int (nI s50_0)), (0, .ref 80), (1, .int (nI a1)), (3, .int (nI c4))]) dX12_isSo_50 rfl (by decide) rfl ?_
        refine n_iinc_W (v := (nI (c4 + 1))) (lv' := [(3, .int (nI (c4 + 1))), (2, .int (nI s50_0)), (0, .ref 80), (1, .int (nI a1))]) dX12_isSo_51 rfl (nI_1 c4) (by decide) rfl ?_
        refine n_goto_W 4 dX12_isSo_54 (by decide) ?_
        exact zs_Vlv_W (ih4 s50_0 (c4 + 1) (by omega) (by omega) (by omega) (by omega) (by omega)) (zs_mc 2 rfl (zs_mc 3 rfl (zs_mc 1 rfl (zs_mc 0 rfl zs_mn))))
      have j49 : c4 + 1 ≤ 6 → ∀ (v49_2 : Nat), 0 ≤ v49_2 → v49_2 ≤ 1 → zs_V_W MX12_isSo 49 [(0, .ref 80), (1, .int (nI a1)), (2, .int (nI v49_2)), (3, .int (nI c4))] [] zs_Rb := by
        intro hd4 v49_2 lv49_2 uv49_2
        refine n_iconst_W (v := (nI 0)) dX12_isSo_49 rfl ?_
        exact j50 (by omega) v49_2 0 (by omega) (by omega) (by omega) (by omega)
      refine n_iload_n_W dX12_isSo_4 rfl rfl ?_
      refine n_aload_n_W dX12_isSo_5 rfl rfl ?_
      refine n_getR_W 1 82 (C := RX12) (T := TX12) (N := 19) dX12_isSo_6 (by decide) rfl rfl (by decide) rfl fl_RX12_13 ?_
      refine n_bipush_W (v := (nI 8)) dX12_isSo_9 rfl ?_
      refine n_aldR_W (lo := 0) (up := 6) dX12_isSo_11 (by decide) rfl (by omega) (by decide) rfl (fun m1 hm1 km1 => ?_)
      refine n_ic_geN_W 57 dX12_isSo_12 (by decide) (by omega) (by omega) (fun h2 => ?_) (fun h2 => ?_)
      · refine n_iload_n_W dX12_isSo_57 rfl rfl ?_
        exact n_iret_W dX12_isSo_58 rfl (zs_nb (by omega)) ⟨_, rfl, (zs_nb (by omega))⟩
      · refine n_iload_n_W dX12_isSo_15 rfl rfl ?_
        refine n_if_eqN_W 49 dX12_isSo_16 (by decide) (by omega) (fun h3 => ?_) (fun h3 => ?_)
        · exact j49 (by omega) v4_2 (by omega) (by omega)
        · refine n_aload_n_W dX12_isSo_19 rfl rfl ?_
          refine n_iload_n_W dX12_isSo_20 rfl rfl ?_
          refine n_aload_n_W dX12_isSo_21 rfl rfl ?_
          refine n_getR_W 1 82 (C := RX12) (T := TX12) (N := 19) dX12_isSo_22 (by decide) rfl rfl (by decide) rfl fl_RX12_13 ?_
          refine n_bipush_W (v := (nI 9)) dX12_isSo_25 rfl ?_
          refine n_iload_n_W dX12_isSo_27 rfl rfl ?_
          refine n_iaddN_W dX12_isSo_28 ?_
          refine n_aldR_W (lo := 0) (up := 30) dX12_isSo_29 (by decide) rfl (by omega) (by decide) (rg_82_9_14 _ (by omega) (by omega)) (fun m4 hm4 km4 => ?_)
          refine n_callV_W (T := TX12) (NN := 19) [] (y_X12_shown_W a1 (by omega) (by omega) m4 (by omega) (by omega)) dX12_isSo_30 kk_X12_isSo_X12_shown ml_RX12_204 mwX12_shown ewX12_shown (by decide) rfl rfl rfl rfl (Nat.le_of_ble_eq_true rfl) ?_
          rintro _ ⟨m5, hm5, km5, rfl⟩
          refine n_aload_n_W dX12_isSo_33 rfl rfl ?_
          refine n_getR_W 1 82 (C := RX12) (T := TX12) (N := 19) dX12_isSo_34 (by decide) rfl rfl (by decide) rfl fl_RX12_13 ?_
          refine n_bipush_W (v := (nI 15)) dX12_isSo_37 rfl ?_
          refine n_iload_n_W dX12_isSo_39 rfl rfl ?_
          refine n_iaddN_W dX12_isSo_40 ?_
          refine n_ald_W dX12_isSo_41 (by decide) rfl (by omega) (by decide) (fun x6 => ?_)
          refine n_ic_ne_W 49 dX12_isSo_42 (by decide) (fun h7 => ?_) (fun h7 => ?_)
          · exact j49 (by omega) v4_2 (by omega) (by omega)
          · refine n_iconst_W (v := (nI 1)) dX12_isSo_45 rfl ?_
            refine n_goto_W 50 dX12_isSo_46 (by decide) ?_
            exact j50 (by omega) v4_2 1 (by omega) (by omega) (by omega) (by omega)
  refine n_iconst_W (v := (nI 1)) dX12_isSo_0 rfl ?_
  refine n_istore_n_W (lv' := [(2, .int (nI 1)), (0, .ref 80), (1, .int (nI a1))]) dX12_isSo_1 rfl (by decide) rfl ?_
  refine n_iconst_W (v := (nI 0)) dX12_isSo_2 rfl ?_
  refine n_istore_n_W (lv' := [(3, .int (nI 0)), (2, .int (nI 1)), (0, .ref 80), (1, .int (nI a1))]) dX12_isSo_3 rfl (by decide) rfl ?_
  exact zs_Vlv_W (j4 _ 1 0 (by omega) (by omega) (by omega) (by omega) (Nat.lt_succ_self _)) (zs_mc 2 rfl (zs_mc 3 rfl (zs_mc 1 rfl (zs_mc 0 rfl zs_mn))))
set_option maxRecDepth 100000 in
theorem y_X12_began_W (a1 : Int32) : zs_U_W MX12_began [.ref 80, .int a1] zs_Ri := by
  refine zs_Vof_W (by decide) (Nat.le_of_ble_eq_true rfl) ?_
  show zs_V_W MX12_began 0 [(0, .ref 80), (1, .int a1)] [] zs_Ri
  refine n_iload_n_W dX12_began_0 rfl rfl ?_
  refine n_iconst_W (v := (-1)) dX12_began_1 rfl ?_
  refine n_ic_ge_W 10 dX12_began_2 (by decide) (fun h1 => ?_) (fun h1 => ?_)
  · have j14 : ∀ (n14 : Nat) (v14_2 : Int32) (c14 : Nat), 0 ≤ c14 → c14 ≤ 144 → 144 - c14 < n14 → zs_V_W MX12_began 14 [(0, .ref 80), (1, .int a1), (2, .int v14_2), (3, .int (nI c14))] [] zs_Ri := by
      intro n14
      induction n14 with
      | zero => intro v14_2 c14 lc14 uc14 hn14; exact absurd hn14 (Nat.not_lt_zero _)
      | succ n14 ih14 =>
        intro v14_2 c14 lc14 uc14 hn14
        have j45 : c14 + 1 ≤ 144 → ∀ (v45_2 : Int32), zs_V_W MX12_began 45 [(0, .ref 80), (1, .int a1), (2, .int v45_2), (3, .int (nI c14))] [] zs_Ri := by
          intro hd14 v45_2
          refine n_iinc_W (v := (nI (c14 + 1))) (lv' := [(3, .int (nI (c14 + 1))), (0, .ref 80), (1, .int a1), (2, .int v45_2)]) dX12_began_45 rfl (nI_1 c14) (by decide) rfl ?_
          refine n_goto_W 14 dX12_began_48 (by decide) ?_
          exact zs_Vlv_W (ih14 v45_2 (c14 + 1) (by omega) (by omega) (by omega)) (zs_mc 1 rfl (zs_mc 2 rfl (zs_mc 3 rfl (zs_mc 0 rfl zs_mn))))
        refine n_iload_n_W dX12_began_14 rfl rfl ?_
        refine n_bipush_W (v := (nI 12)) dX12_began_15 rfl ?_
        refine n_aload_n_W dX12_began_17 rfl rfl ?_
        refine n_getR_W 1 82 (C := RX12) (T := TX12) (N := 19) dX12_began_18 (by decide) rfl rfl (by decide) rfl fl_RX12_13 ?_
        refine n_iconst_W (v := (nI 0)) dX12_began_21 rfl ?_
        refine n_aldR_W (lo := 1) (up := 12) dX12_began_22 (by decide) rfl (by omega) (by decide) rfl (fun m2 hm2 km2 => ?_)
        refine n_imulN_W dX12_began_23 ?_
        refine n_ic_geN_W 51 dX12_began_24 (by decide) (by omega) (by omega) (fun h3 => ?_) (fun h3 => ?_)
        · refine n_iload_n_W dX12_began_51 rfl rfl ?_
          refine n_if_ge_W 59 dX12_began_52 (by decide) (fun h4 => ?_) (fun h4 => ?_)
          · refine n_bipush_W (v := (-5)) dX12_began_59 rfl ?_
            exact n_iret_W dX12_began_61 rfl rfl ⟨_, rfl⟩
          · refine n_iload_n_W dX12_began_55 rfl rfl ?_
            refine n_goto_W 61 dX12_began_56 (by decide) ?_
            exact n_iret_W dX12_began_61 rfl rfl ⟨_, rfl⟩
        · refine n_aload_n_W dX12_began_27 rfl rfl ?_
          refine n_iload_n_W dX12_began_28 rfl rfl ?_
          refine n_callV_W (T := TX12) (NN := 19) [] (y_X12_isSo_W c14 (by omega) (by omega)) dX12_began_29 kk_X12_began_X12_isSo ml_RX12_207 mwX12_isSo ewX12_isSo (by decide) rfl rfl rfl rfl (Nat.le_of_ble_eq_true rfl) ?_
          rintro _ ⟨x5, rfl, bx5⟩
          refine n_if_eq_W 45 dX12_began_32 (by decide) (fun h6 => ?_) (fun h6 => ?_)
          · exact j45 (by omega) v14_2
          · refine n_iload_n_W dX12_began_35 rfl rfl ?_
            refine n_iload_n_W dX12_began_36 rfl rfl ?_
            refine n_ic_ne_W 42 dX12_began_37 (by decide) (fun h7 => ?_) (fun h7 => ?_)
            · refine n_iinc_W (v := (v14_2 + Int32.ofInt 1)) (lv' := [(2, .int (v14_2 + Int32.ofInt 1)), (0, .ref 80), (1, .int a1), (3, .int (nI c14))]) dX12_began_42 rfl rfl (by decide) rfl ?_
              exact zs_Vlv_W (j45 (by omega) (v14_2 + Int32.ofInt 1)) (zs_mc 1 rfl (zs_mc 2 rfl (zs_mc 0 rfl (zs_mc 3 rfl zs_mn))))
            · refine n_iload_n_W dX12_began_40 rfl rfl ?_
              exact n_iret_W dX12_began_41 rfl rfl ⟨_, rfl⟩
    refine n_iconst_W (v := (nI 0)) dX12_began_10 rfl ?_
    refine n_istore_n_W (lv' := [(2, .int (nI 0)), (0, .ref 80), (1, .int a1)]) dX12_began_11 rfl (by decide) rfl ?_
    refine n_iconst_W (v := (nI 0)) dX12_began_12 rfl ?_
    refine n_istore_n_W (lv' := [(3, .int (nI 0)), (2, .int (nI 0)), (0, .ref 80), (1, .int a1)]) dX12_began_13 rfl (by decide) rfl ?_
    exact zs_Vlv_W (j14 _ (nI 0) 0 (by omega) (by omega) (Nat.lt_succ_self _)) (zs_mc 2 rfl (zs_mc 3 rfl (zs_mc 1 rfl (zs_mc 0 rfl zs_mn))))
  · refine n_aload_n_W dX12_began_5 rfl rfl ?_
    refine n_callV_W (T := TX12) (NN := 19) [] (y_X12_bad10_W) dX12_began_6 kk_X12_began_X12_bad10 ml_RX12_196 mwX12_bad10 ewX12_bad10 (by decide) rfl rfl rfl rfl (Nat.le_of_ble_eq_true rfl) ?_
    rintro _ ⟨x8, rfl⟩
    exact n_iret_W dX12_began_9 rfl rfl ⟨_, rfl⟩
set_option maxRecDepth 100000 in
theorem y_X12_tell_W : zs_U_W MX12_tell [.ref 80] zs_Ri := by
  refine zs_Vof_W (by decide) (Nat.le_of_ble_eq_true rfl) ?_
  show zs_V_W MX12_tell 0 [(0, .ref 80)] [] zs_Ri
  have j8 : ∀ (n8 : Nat) (v8_1 : Int32) (v8_2 : Int32) (c8 : Nat), 1 ≤ c8 → c8 ≤ 31 → 31 - c8 < n8 → zs_V_W MX12_tell 8 [(0, .ref 80), (1, .int v8_1), (2, .int v8_2), (3, .int (nI c8))] [] zs_Ri := by
    intro n8
    induction n8 with
    | zero => intro v8_1 v8_2 c8 lc8 uc8 hn8; exact absurd hn8 (Nat.not_lt_zero _)
    | succ n8 ih8 =>
      intro v8_1 v8_2 c8 lc8 uc8 hn8
      have j153 : c8 + 1 ≤ 31 → ∀ (v153_1 : Int32) (v153_2 : Int32) (v153_4 : Int32) (v153_5 : Int32) (s153_0 : Int32), zs_V_W MX12_tell 153 [(0, .ref 80), (1, .int v153_1), (2, .int v153_2), (3, .int (nI c8)), (4, .int v153_4), (5, .int v153_5)] [.int s153_0] zs_Ri := by
        intro hd8 v153_1 v153_2 v153_4 v153_5 s153_0
        refine n_istore_n_W (lv' := [(2, .int s153_0), (0, .ref 80), (1, .int v153_1), (3, .int (nI c8)), (4, .int v153_4), (5, .int v153_5)]) dX12_tell_153 rfl (by decide) rfl ?_
        refine n_iinc_W (v := (nI (c8 + 1))) (lv' := [(3, .int (nI (c8 + 1))), (2, .int s153_0), (0, .ref 80), (1, .int v153_1), (4, .int v153_4), (5, .int v153_5)]) dX12_tell_154 rfl (nI_1 c8) (by decide) rfl ?_
        refine n_goto_W 8 dX12_tell_157 (by decide) ?_
        exact zs_Vlv_W (ih8 v153_1 s153_0 (c8 + 1) (by omega) (by omega) (by omega)) (zs_mc 2 rfl (zs_mc 3 rfl (zs_mc 1 rfl (zs_mc 0 rfl zs_mn))))
      have j152 : c8 + 1 ≤ 31 → ∀ (v152_1 : Int32) (v152_2 : Int32) (v152_4 : Int32) (v152_5 : Int32), zs_V_W MX12_tell 152 [(0, .ref 80), (1, .int v152_1), (2, .int v152_2), (3, .int (nI c8)), (4, .int v152_4), (5, .int v152_5)] [] zs_Ri := by
        intro hd8 v152_1 v152_2 v152_4 v152_5
        refine n_iload_n_W dX12_tell_152 rfl rfl ?_
        exact j153 (by omega) v152_1 v152_2 v152_4 v152_5 v152_2
      have j135 : c8 + 1 ≤ 31 → ∀ (v135_1 : Int32) (v135_2 : Int32) (v135_4 : Int32) (v135_5 : Int32) (s135_0 : Int32), zs_V_W MX12_tell 135 [(0, .ref 80), (1, .int v135_1), (2, .int v135_2), (3, .int (nI c8)), (4, .int v135_4), (5, .int v135_5)] [.int s135_0] zs_Ri := by
        intro hd8 v135_1 v135_2 v135_4 v135_5 s135_0
        refine n_istore_n_W (lv' := [(1, .int s135_0), (0, .ref 80), (2, .int v135_2), (3, .int (nI c8)), (4, .int v135_4), (5, .int v135_5)]) dX12_tell_135 rfl (by decide) rfl ?_
        refine n_iload_W dX12_tell_136 rfl ?_
        refine n_if_le_W 152 dX12_tell_138 (by decide) (fun h1 => ?_) (fun h1 => ?_)
        · exact zs_Vlv_W (j152 (by omega) s135_0 v135_2 v135_4 v135_5) (zs_mc 1 rfl (zs_mc 0 rfl (zs_mc 2 rfl (zs_mc 3 rfl (zs_mc 4 rfl (zs_mc 5 rfl zs_mn))))))
        · refine n_iload_W dX12_tell_141 rfl ?_
          refine n_iload_n_W dX12_tell_143 rfl rfl ?_
          refine n_ic_ge_W 152 dX12_tell_144 (by decide) (fun h2 => ?_) (fun h2 => ?_)
          · exact zs_Vlv_W (j152 (by omega) s135_0 v135_2 v135_4 v135_5) (zs_mc 1 rfl (zs_mc 0 rfl (zs_mc 2 rfl (zs_mc 3 rfl (zs_mc 4 rfl (zs_mc 5 rfl zs_mn))))))
          · refine n_iload_W dX12_tell_147 rfl ?_
            refine n_goto_W 153 dX12_tell_149 (by decide) ?_
            exact zs_Vlv_W (j153 (by omega) s135_0 v135_2 v135_4 v135_5 v135_4) (zs_mc 1 rfl (zs_mc 0 rfl (zs_mc 2 rfl (zs_mc 3 rfl (zs_mc 4 rfl (zs_mc 5 rfl zs_mn))))))
      have j134 : c8 + 1 ≤ 31 → ∀ (v134_1 : Int32) (v134_2 : Int32) (v134_4 : Int32) (v134_5 : Int32), zs_V_W MX12_tell 134 [(0, .ref 80), (1, .int v134_1), (2, .int v134_2), (3, .int (nI c8)), (4, .int v134_4), (5, .int v134_5)] [] zs_Ri := by
        intro hd8 v134_1 v134_2 v134_4 v134_5
        refine n_iload_n_W dX12_tell_134 rfl rfl ?_
        exact j135 (by omega) v134_1 v134_2 v134_4 v134_5 v134_1
      have j44 : c8 + 1 ≤ 31 → ∀ (n44 : Nat) (v44_1 : Int32) (v44_2 : Int32) (v44_4 : Int32) (c44 : Nat), 0 ≤ c44 → c44 ≤ 144 → 144 - c44 < n44 → zs_V_W MX12_tell 44 [(0, .ref 80), (1, .int v44_1), (2, .int v44_2), (3, .int (nI c8)), (4, .int v44_4), (5, .int (nI c44))] [] zs_Ri := by
        intro hd8 n44
        induction n44 with
        | zero => intro v44_1 v44_2 v44_4 c44 lc44 uc44 hn44; exact absurd hn44 (Nat.not_lt_zero _)
        | succ n44 ih44 =>
          intro v44_1 v44_2 v44_4 c44 lc44 uc44 hn44
          have j113 : c8 + 1 ≤ 31 → c44 + 1 ≤ 144 → ∀ (v113_1 : Int32) (v113_2 : Int32) (v113_4 : Int32), zs_V_W MX12_tell 113 [(0, .ref 80), (1, .int v113_1), (2, .int v113_2), (3, .int (nI c8)), (4, .int v113_4), (5, .int (nI c44))] [] zs_Ri := by
            intro hd8 hd44 v113_1 v113_2 v113_4
            refine n_iinc_W (v := (nI (c44 + 1))) (lv' := [(5, .int (nI (c44 + 1))), (0, .ref 80), (1, .int v113_1), (2, .int v113_2), (3, .int (nI c8)), (4, .int v113_4)]) dX12_tell_113 rfl (nI_1 c44) (by decide) rfl ?_
            refine n_goto_W 44 dX12_tell_116 (by decide) ?_
            exact zs_Vlv_W (ih44 v113_1 v113_2 v113_4 (c44 + 1) (by omega) (by omega) (by omega)) (zs_mc 1 rfl (zs_mc 2 rfl (zs_mc 3 rfl (zs_mc 4 rfl (zs_mc 5 rfl (zs_mc 0 rfl zs_mn))))))
          have j111 : c8 + 1 ≤ 31 → c44 + 1 ≤ 144 → ∀ (v111_1 : Int32) (v111_2 : Int32) (v111_4 : Int32) (v111_6 : Int32) (s111_0 : Int32), zs_V_W MX12_tell 111 [(0, .ref 80), (1, .int v111_1), (2, .int v111_2), (3, .int (nI c8)), (4, .int v111_4), (5, .int (nI c44)), (6, .int v111_6)] [.int s111_0] zs_Ri := by
            intro hd8 hd44 v111_1 v111_2 v111_4 v111_6 s111_0
            refine n_istore_W (lv' := [(4, .int s111_0), (0, .ref 80), (1, .int v111_1), (2, .int v111_2), (3, .int (nI c8)), (5, .int (nI c44)), (6, .int v111_6)]) dX12_tell_111 (by decide) rfl ?_
            exact zs_Vlv_W (j113 (by omega) (by omega) v111_1 v111_2 s111_0) (zs_mc 1 rfl (zs_mc 2 rfl (zs_mc 3 rfl (zs_mc 4 rfl (zs_mc 0 rfl (zs_mc 5 rfl zs_mn))))))
          refine n_iload_W dX12_tell_44 rfl ?_
          refine n_bipush_W (v := (nI 12)) dX12_tell_46 rfl ?_
          refine n_aload_n_W dX12_tell_48 rfl rfl ?_
          refine n_getR_W 1 82 (C := RX12) (T := TX12) (N := 19) dX12_tell_49 (by decide) rfl rfl (by decide) rfl fl_RX12_13 ?_
          refine n_iconst_W (v := (nI 0)) dX12_tell_52 rfl ?_
          refine n_aldR_W (lo := 1) (up := 12) dX12_tell_53 (by decide) rfl (by omega) (by decide) rfl (fun m3 hm3 km3 => ?_)
          refine n_imulN_W dX12_tell_54 ?_
          refine n_ic_geN_W 119 dX12_tell_55 (by decide) (by omega) (by omega) (fun h4 => ?_) (fun h4 => ?_)
          · refine n_iload_W dX12_tell_119 rfl ?_
            refine n_if_le_W 134 dX12_tell_121 (by decide) (fun h5 => ?_) (fun h5 => ?_)
            · exact j134 (by omega) v44_1 v44_2 v44_4 (nI c44)
            · refine n_iload_W dX12_tell_124 rfl ?_
              refine n_iload_n_W dX12_tell_126 rfl rfl ?_
              refine n_ic_ge_W 134 dX12_tell_127 (by decide) (fun h6 => ?_) (fun h6 => ?_)
              · exact j134 (by omega) v44_1 v44_2 v44_4 (nI c44)
              · refine n_iload_n_W dX12_tell_130 rfl rfl ?_
                refine n_goto_W 135 dX12_tell_131 (by decide) ?_
                exact j135 (by omega) v44_1 v44_2 v44_4 (nI c44) (nI c8)
          · refine n_aload_n_W dX12_tell_58 rfl rfl ?_
            refine n_iload_W dX12_tell_59 rfl ?_
            refine n_callV_W (T := TX12) (NN := 19) [] (y_X12_isSo_W c44 (by omega) (by omega)) dX12_tell_61 kk_X12_tell_X12_isSo ml_RX12_207 mwX12_isSo ewX12_isSo (by decide) rfl rfl rfl rfl (Nat.le_of_ble_eq_true rfl) ?_
            rintro _ ⟨x7, rfl, bx7⟩
            refine n_if_eq_W 113 dX12_tell_64 (by decide) (fun h8 => ?_) (fun h8 => ?_)
            · exact j113 (by omega) (by omega) v44_1 v44_2 v44_4
            · refine n_aload_n_W dX12_tell_67 rfl rfl ?_
              refine n_iload_W dX12_tell_68 rfl ?_
              refine n_iload_n_W dX12_tell_70 rfl rfl ?_
              refine n_callV_W (T := TX12) (NN := 19) [] (y_X12_shown_W c44 (by omega) (by omega) c8 (by omega) (by omega)) dX12_tell_71 kk_X12_tell_X12_shown ml_RX12_204 mwX12_shown ewX12_shown (by decide) rfl rfl rfl rfl (Nat.le_of_ble_eq_true rfl) ?_
              rintro _ ⟨m9, hm9, km9, rfl⟩
              refine n_istore_W (lv' := [(6, .int (nI m9)), (0, .ref 80), (1, .int v44_1), (2, .int v44_2), (3, .int (nI c8)), (4, .int v44_4), (5, .int (nI c44))]) dX12_tell_74 (by decide) rfl ?_
              refine n_aload_n_W dX12_tell_76 rfl rfl ?_
              refine n_getR_W 16 87 (C := RX12) (T := TX12) (N := 19) dX12_tell_77 (by decide) rfl rfl (by decide) rfl fl_RX12_33 ?_
              refine n_iload_W dX12_tell_80 rfl ?_
              refine n_dup2_W dX12_tell_82 rfl rfl ?_
              refine n_ald_W dX12_tell_83 (by decide) rfl (by omega) (by decide) (fun x10 => ?_)
              refine n_iconst_W (v := (nI 1)) dX12_tell_84 rfl ?_
              refine n_iadd_W dX12_tell_85 (fun x11 => ?_)
              refine n_ast_W dX12_tell_86 (by decide) rfl (by omega) (by decide) rfl (zs_okN rfl (by decide) (by decide)) ?_
              refine n_aload_n_W dX12_tell_87 rfl rfl ?_
              refine n_getR_W 16 87 (C := RX12) (T := TX12) (N := 19) dX12_tell_88 (by decide) rfl rfl (by decide) rfl fl_RX12_33 ?_
              refine n_iload_W dX12_tell_91 rfl ?_
              refine n_ald_W dX12_tell_93 (by decide) rfl (by omega) (by decide) (fun x12 => ?_)
              refine n_iload_W dX12_tell_94 rfl ?_
              refine n_ic_le_W 109 dX12_tell_96 (by decide) (fun h13 => ?_) (fun h13 => ?_)
              · refine n_iload_W dX12_tell_109 rfl ?_
                exact zs_Vlv_W (j111 (by omega) (by omega) v44_1 v44_2 v44_4 (nI m9) v44_4) (zs_mc 1 rfl (zs_mc 2 rfl (zs_mc 3 rfl (zs_mc 4 rfl (zs_mc 5 rfl (zs_mc 6 rfl (zs_mc 0 rfl zs_mn)))))))
              · refine n_aload_n_W dX12_tell_99 rfl rfl ?_
                refine n_getR_W 16 87 (C := RX12) (T := TX12) (N := 19) dX12_tell_100 (by decide) rfl rfl (by decide) rfl fl_RX12_33 ?_
                refine n_iload_W dX12_tell_103 rfl ?_
                refine n_ald_W dX12_tell_105 (by decide) rfl (by omega) (by decide) (fun x14 => ?_)
                refine n_goto_W 111 dX12_tell_106 (by decide) ?_
                exact zs_Vlv_W (j111 (by omega) (by omega) v44_1 v44_2 v44_4 (nI m9) x14) (zs_mc 1 rfl (zs_mc 2 rfl (zs_mc 3 rfl (zs_mc 4 rfl (zs_mc 5 rfl (zs_mc 6 rfl (zs_mc 0 rfl zs_mn)))))))
      have j17 : c8 + 1 ≤ 31 → ∀ (n17 : Nat) (v17_1 : Int32) (v17_2 : Int32) (c17 : Nat), 0 ≤ c17 → c17 ≤ 10 → 10 - c17 < n17 → zs_V_W MX12_tell 17 [(0, .ref 80), (1, .int v17_1), (2, .int v17_2), (3, .int (nI c8)), (4, .int (nI c17))] [] zs_Ri := by
        intro hd8 n17
        induction n17 with
        | zero => intro v17_1 v17_2 c17 lc17 uc17 hn17; exact absurd hn17 (Nat.not_lt_zero _)
        | succ n17 ih17 =>
          intro v17_1 v17_2 c17 lc17 uc17 hn17
          refine n_iload_W dX12_tell_17 rfl ?_
          refine n_bipush_W (v := (nI 10)) dX12_tell_19 rfl ?_
          refine n_ic_geN_W 38 dX12_tell_21 (by decide) (by omega) (by omega) (fun h15 => ?_) (fun h15 => ?_)
          · refine n_iconst_W (v := (nI 0)) dX12_tell_38 rfl ?_
            refine n_istore_W (lv' := [(4, .int (nI 0)), (0, .ref 80), (1, .int v17_1), (2, .int v17_2), (3, .int (nI c8))]) dX12_tell_39 (by decide) rfl ?_
            refine n_iconst_W (v := (nI 0)) dX12_tell_41 rfl ?_
            refine n_istore_W (lv' := [(5, .int (nI 0)), (4, .int (nI 0)), (0, .ref 80), (1, .int v17_1), (2, .int v17_2), (3, .int (nI c8))]) dX12_tell_42 (by decide) rfl ?_
            exact zs_Vlv_W (j44 (by omega) _ v17_1 v17_2 (nI 0) 0 (by omega) (by omega) (Nat.lt_succ_self _)) (zs_mc 2 rfl (zs_mc 3 rfl (zs_mc 4 rfl (zs_mc 5 rfl (zs_mc 1 rfl (zs_mc 0 rfl zs_mn))))))
          · refine n_aload_n_W dX12_tell_24 rfl rfl ?_
            refine n_getR_W 16 87 (C := RX12) (T := TX12) (N := 19) dX12_tell_25 (by decide) rfl rfl (by decide) rfl fl_RX12_33 ?_
            refine n_iload_W dX12_tell_28 rfl ?_
            refine n_iconst_W (v := (nI 0)) dX12_tell_30 rfl ?_
            refine n_ast_W dX12_tell_31 (by decide) rfl (by omega) (by decide) rfl (zs_okN rfl (by decide) (by decide)) ?_
            refine n_iinc_W (v := (nI (c17 + 1))) (lv' := [(4, .int (nI (c17 + 1))), (0, .ref 80), (1, .int v17_1), (2, .int v17_2), (3, .int (nI c8))]) dX12_tell_32 rfl (nI_1 c17) (by decide) rfl ?_
            refine n_goto_W 17 dX12_tell_35 (by decide) ?_
            exact zs_Vlv_W (ih17 v17_1 v17_2 (c17 + 1) (by omega) (by omega) (by omega)) (zs_mc 1 rfl (zs_mc 2 rfl (zs_mc 3 rfl (zs_mc 4 rfl (zs_mc 0 rfl zs_mn)))))
      refine n_iload_n_W dX12_tell_8 rfl rfl ?_
      refine n_bipush_W (v := (nI 30)) dX12_tell_9 rfl ?_
      refine n_ic_gtN_W 160 dX12_tell_11 (by decide) (by omega) (by omega) (fun h16 => ?_) (fun h16 => ?_)
      · refine n_iload_n_W dX12_tell_160 rfl rfl ?_
        exact n_iret_W dX12_tell_161 rfl rfl ⟨_, rfl⟩
      · refine n_iconst_W (v := (nI 0)) dX12_tell_14 rfl ?_
        refine n_istore_W (lv' := [(4, .int (nI 0)), (0, .ref 80), (1, .int v8_1), (2, .int v8_2), (3, .int (nI c8))]) dX12_tell_15 (by decide) rfl ?_
        exact zs_Vlv_W (j17 (by omega) _ v8_1 v8_2 0 (by omega) (by omega) (Nat.lt_succ_self _)) (zs_mc 1 rfl (zs_mc 2 rfl (zs_mc 3 rfl (zs_mc 4 rfl (zs_mc 0 rfl zs_mn)))))
  refine n_iconst_W (v := (-1)) dX12_tell_0 rfl ?_
  refine n_istore_n_W (lv' := [(1, .int (-1)), (0, .ref 80)]) dX12_tell_1 rfl (by decide) rfl ?_
  refine n_sipush_W (v := (nI 999)) dX12_tell_2 rfl ?_
  refine n_istore_n_W (lv' := [(2, .int (nI 999)), (1, .int (-1)), (0, .ref 80)]) dX12_tell_5 rfl (by decide) rfl ?_
  refine n_iconst_W (v := (nI 1)) dX12_tell_6 rfl ?_
  refine n_istore_n_W (lv' := [(3, .int (nI 1)), (2, .int (nI 999)), (1, .int (-1)), (0, .ref 80)]) dX12_tell_7 rfl (by decide) rfl ?_
  exact zs_Vlv_W (j8 _ (-1) (nI 999) 1 (by omega) (by omega) (Nat.lt_succ_self _)) (zs_mc 3 rfl (zs_mc 2 rfl (zs_mc 1 rfl (zs_mc 0 rfl zs_mn))))
