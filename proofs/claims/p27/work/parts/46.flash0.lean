def zs_pm2 (b _i : Nat) : Bool := !(Nat.beq b 81)
def zs_fm2 (S S2 : zs_S) : Prop := ∀ b i, zs_pm2 b i = true → S2.1 b i = S.1 b i ∧ S2.2 b i = S.2 b i
theorem zs_fm2.rf {S : zs_S} : zs_fm2 S S := fun _ _ _ => ⟨rfl, rfl⟩
theorem zs_fm2.tr {S S1 S2 : zs_S} (h : zs_fm2 S S1) (k : zs_fm2 S1 S2) : zs_fm2 S S2 := fun b i hb => ⟨(k b i hb).1.trans (h b i hb).1, (k b i hb).2.trans (h b i hb).2⟩
theorem zs_fm2.up {S : zs_S} {a j : Nat} {v : Int32} (h : zs_pm2 a j = false) : zs_fm2 S (zs_up S.1 a j v, S.2) := fun b i hb => ⟨zs_up_n (fun q => by rw [q.1, q.2, h] at hb; exact absurd hb (by decide)), rfl⟩
theorem zs_fm2.upL {S : zs_S} {a j : Nat} {v : Int64} (h : zs_pm2 a j = false) : zs_fm2 S (S.1, zs_upL S.2 a j v) := fun b i hb => ⟨rfl, by
  show zs_upL S.2 a j v b i = S.2 b i
  simp only [zs_upL]
  rw [if_neg (fun q => by rw [q.1, q.2, h] at hb; exact absurd hb (by decide))]⟩
def zs_V2 (M : zs_M) (pc : Nat) (lv : List (Nat × Value)) (st : List Value) (R : Option Value → Prop) : Prop := ∀ S, zs_J S → zs_P M pc lv st S (fun v S2 => R v ∧ zs_J S2 ∧ zs_fm2 S S2)
def zs_U2 (N : zs_M) (args : List Value) (R : Option Value → Prop) : Prop := ∀ S, zs_J S → zs_C N args S (fun v S2 => R v ∧ zs_J S2 ∧ zs_fm2 S S2)
theorem zs_V2of {M : zs_M} {args : List Value} {R : Option Value → Prop} (hy : plainName M.1.cls = true) (hlen : (lg_sl args).length ≤ M.2.2.1) (h : zs_V2 M 0 (lv_args 0 args) [] R) : zs_U2 M args R := fun S hJ => zs_C.of hy hlen (h S hJ)
theorem zs_V2fr {M : zs_M} {pc : Nat} {lv : List (Nat × Value)} {st : List Value} {R : Option Value → Prop} {S S' : zs_S} (h : zs_V2 M pc lv st R) (hJ : zs_J S') (f : zs_fm2 S S') : zs_P M pc lv st S' (fun v S2 => R v ∧ zs_J S2 ∧ zs_fm2 S S2) := (h S' hJ).mono (fun _ _ q => ⟨q.1, q.2.1, f.tr q.2.2⟩)
theorem zs_V2lv {M : zs_M} {pc : Nat} {lv lv2 : List (Nat × Value)} {st : List Value} {R : Option Value → Prop} (h : zs_V2 M pc lv2 st R) (hs : ∀ q ∈ lv2, q ∈ lv) : zs_V2 M pc lv st R := fun S hJ => (h S hJ).lv hs
section zs_model2
variable {M : zs_M} {pc : Nat} {lv lv' : List (Nat × Value)} {st : List Value} {R : Option Value → Prop}
theorem n2_iconst {n : Int} {v : Int32} (hd : decode M.2.1 pc = .ok (.iconst n, 1)) (hv : Int32.ofInt n = v) (k : zs_V2 M (pc + 1) lv (.int v :: st) R) : zs_V2 M pc lv st R := fun S hJ => g_iconst hd hv (k S hJ)
theorem n2_bipush {n : Int} {v : Int32} (hd : decode M.2.1 pc = .ok (.bipush n, 2)) (hv : (Int8.ofInt n).toInt32 = v) (k : zs_V2 M (pc + 2) lv (.int v :: st) R) : zs_V2 M pc lv st R := fun S hJ => g_bipush hd hv (k S hJ)
theorem n2_sipush {n : Int} {v : Int32} (hd : decode M.2.1 pc = .ok (.sipush n, 3)) (hv : (Int16.ofInt n).toInt32 = v) (k : zs_V2 M (pc + 3) lv (.int v :: st) R) : zs_V2 M pc lv st R := fun S hJ => g_sipush hd hv (k S hJ)
theorem n2_iload_n {j : Fin 4} {i : Nat} {x : Int32} (hd : decode M.2.1 pc = .ok (.iload_n j, 1)) (hi : (j : Nat) = i) (hk : zs_lk lv i = some (.int x)) (k : zs_V2 M (pc + 1) lv (.int x :: st) R) : zs_V2 M pc lv st R := fun S hJ => g_iload_n hd hi hk (k S hJ)
theorem n2_iload {i : Nat} {x : Int32} (hd : decode M.2.1 pc = .ok (.iload i, 2)) (hk : zs_lk lv i = some (.int x)) (k : zs_V2 M (pc + 2) lv (.int x :: st) R) : zs_V2 M pc lv st R := fun S hJ => g_iload hd hk (k S hJ)
theorem n2_istore_n {j : Fin 4} {i : Nat} {x : Int32} (hd : decode M.2.1 pc = .ok (.istore_n j, 1)) (hi : (j : Nat) = i) (hn : i < M.2.2.1) (he : (i, Value.int x) :: lv.filter (fun q => !(q.1 == i) && !(q.1 + 1 == i && q.2.category == 2)) = lv') (k : zs_V2 M (pc + 1) lv' st R) : zs_V2 M pc lv (.int x :: st) R := fun S hJ => g_istore_n hd hi hn he (k S hJ)
theorem n2_istore {i : Nat} {x : Int32} (hd : decode M.2.1 pc = .ok (.istore i, 2)) (hn : i < M.2.2.1) (he : (i, Value.int x) :: lv.filter (fun q => !(q.1 == i) && !(q.1 + 1 == i && q.2.category == 2)) = lv') (k : zs_V2 M (pc + 2) lv' st R) : zs_V2 M pc lv (.int x :: st) R := fun S hJ => g_istore hd hn he (k S hJ)
theorem n2_aload_n {j : Fin 4} {i : Nat} {x : Nat} (hd : decode M.2.1 pc = .ok (.aload_n j, 1)) (hi : (j : Nat) = i) (hk : zs_lk lv i = some (.ref x)) (k : zs_V2 M (pc + 1) lv (.ref x :: st) R) : zs_V2 M pc lv st R := fun S hJ => g_aload_n hd hi hk (k S hJ)
theorem n2_iinc {i : Nat} {n : Int} {x v : Int32} (hd : decode M.2.1 pc = .ok (.iinc i n, 3)) (hk : zs_lk lv i = some (.int x)) (hv : x + Int32.ofInt n = v) (hn : i < M.2.2.1) (he : (i, Value.int v) :: lv.filter (fun q => !(q.1 == i) && !(q.1 + 1 == i && q.2.category == 2)) = lv') (k : zs_V2 M (pc + 3) lv' st R) : zs_V2 M pc lv st R := fun S hJ => g_iinc hd hk hv hn he (k S hJ)
theorem n2_iadd {x y : Int32} (hd : decode M.2.1 pc = .ok (.iadd, 1)) (k : ∀ v, zs_V2 M (pc + 1) lv (.int v :: st) R) : zs_V2 M pc lv (.int y :: .int x :: st) R := fun S hJ => g_iadd hd (k _ S hJ)
theorem n2_isub {x y : Int32} (hd : decode M.2.1 pc = .ok (.isub, 1)) (k : ∀ v, zs_V2 M (pc + 1) lv (.int v :: st) R) : zs_V2 M pc lv (.int y :: .int x :: st) R := fun S hJ => g_isub hd (k _ S hJ)
theorem n2_idiv {x y : Int32} (hd : decode M.2.1 pc = .ok (.idiv, 1)) (hne : ¬ y = 0) (k : ∀ v, zs_V2 M (pc + 1) lv (.int v :: st) R) : zs_V2 M pc lv (.int y :: .int x :: st) R := fun S hJ => g_idiv hd hne (k _ S hJ)
theorem n2_irem {x y : Int32} (hd : decode M.2.1 pc = .ok (.irem, 1)) (hne : ¬ y = 0) (k : ∀ v, zs_V2 M (pc + 1) lv (.int v :: st) R) : zs_V2 M pc lv (.int y :: .int x :: st) R := fun S hJ => g_irem hd hne (k _ S hJ)
theorem n2_iaddN {x y : Nat} (hd : decode M.2.1 pc = .ok (.iadd, 1)) (k : zs_V2 M (pc + 1) lv (.int (nI (x + y)) :: st) R) : zs_V2 M pc lv (.int (nI y) :: .int (nI x) :: st) R := fun S hJ => g_iaddN hd (k S hJ)
theorem n2_imulN {x y : Nat} (hd : decode M.2.1 pc = .ok (.imul, 1)) (k : zs_V2 M (pc + 1) lv (.int (nI (x * y)) :: st) R) : zs_V2 M pc lv (.int (nI y) :: .int (nI x) :: st) R := fun S hJ => g_imulN hd (k S hJ)
theorem n2_iremN {x y : Nat} (hd : decode M.2.1 pc = .ok (.irem, 1)) (hx : x < 2 ^ 31) (h0 : 0 < y) (hy : y < 2 ^ 31) (k : zs_V2 M (pc + 1) lv (.int (nI (x % y)) :: st) R) : zs_V2 M pc lv (.int (nI y) :: .int (nI x) :: st) R := fun S hJ => g_iremN hd hx h0 hy (k S hJ)
theorem n2_dup2 {va vb : Value} (hd : decode M.2.1 pc = .ok (.dup2, 1)) (hc : va.category = 1) (hc2 : vb.category = 1) (k : zs_V2 M (pc + 1) lv (va :: vb :: va :: vb :: st) R) : zs_V2 M pc lv (va :: vb :: st) R := fun S hJ => g_dup2 hd hc hc2 (k S hJ)
theorem n2_goto {off : Int} (tgt : Nat) (hd : decode M.2.1 pc = .ok (.goto off, 3)) (ht : (pc : Int) + off = (tgt : Int)) (k : zs_V2 M tgt lv st R) : zs_V2 M pc lv st R := fun S hJ => g_goto tgt hd ht (k S hJ)
theorem n2_if_eq {x : Int32} {off : Int} (tgt : Nat) (hd : decode M.2.1 pc = .ok (.ifCond .eq off, 3)) (ht : (pc : Int) + off = (tgt : Int)) (kt : x = 0 → zs_V2 M tgt lv st R) (kf : ¬ x = 0 → zs_V2 M (pc + 3) lv st R) : zs_V2 M pc lv (.int x :: st) R := fun S hJ => g_if_eq tgt hd ht (fun h => kt h S hJ) (fun h => kf h S hJ)
theorem n2_ic_eq {x y : Int32} {off : Int} (tgt : Nat) (hd : decode M.2.1 pc = .ok (.if_icmp .eq off, 3)) (ht : (pc : Int) + off = (tgt : Int)) (kt : x = y → zs_V2 M tgt lv st R) (kf : ¬ x = y → zs_V2 M (pc + 3) lv st R) : zs_V2 M pc lv (.int y :: .int x :: st) R := fun S hJ => g_ic_eq tgt hd ht (fun h => kt h S hJ) (fun h => kf h S hJ)
theorem n2_ic_eqN {x y : Nat} {off : Int} (tgt : Nat) (hd : decode M.2.1 pc = .ok (.if_icmp .eq off, 3)) (ht : (pc : Int) + off = (tgt : Int)) (hx : x < 2 ^ 31) (hy : y < 2 ^ 31) (kt : x = y → zs_V2 M tgt lv st R) (kf : x ≠ y → zs_V2 M (pc + 3) lv st R) : zs_V2 M pc lv (.int (nI y) :: .int (nI x) :: st) R := fun S hJ => g_ic_eqN tgt hd ht hx hy (fun h => kt h S hJ) (fun h => kf h S hJ)
theorem n2_if_ne {x : Int32} {off : Int} (tgt : Nat) (hd : decode M.2.1 pc = .ok (.ifCond .ne off, 3)) (ht : (pc : Int) + off = (tgt : Int)) (kt : ¬ x = 0 → zs_V2 M tgt lv st R) (kf : x = 0 → zs_V2 M (pc + 3) lv st R) : zs_V2 M pc lv (.int x :: st) R := fun S hJ => g_if_ne tgt hd ht (fun h => kt h S hJ) (fun h => kf h S hJ)
theorem n2_ic_ne {x y : Int32} {off : Int} (tgt : Nat) (hd : decode M.2.1 pc = .ok (.if_icmp .ne off, 3)) (ht : (pc : Int) + off = (tgt : Int)) (kt : ¬ x = y → zs_V2 M tgt lv st R) (kf : x = y → zs_V2 M (pc + 3) lv st R) : zs_V2 M pc lv (.int y :: .int x :: st) R := fun S hJ => g_ic_ne tgt hd ht (fun h => kt h S hJ) (fun h => kf h S hJ)
theorem n2_ic_ge {x y : Int32} {off : Int} (tgt : Nat) (hd : decode M.2.1 pc = .ok (.if_icmp .ge off, 3)) (ht : (pc : Int) + off = (tgt : Int)) (kt : y ≤ x → zs_V2 M tgt lv st R) (kf : ¬ y ≤ x → zs_V2 M (pc + 3) lv st R) : zs_V2 M pc lv (.int y :: .int x :: st) R := fun S hJ => g_ic_ge tgt hd ht (fun h => kt h S hJ) (fun h => kf h S hJ)
theorem n2_ic_geN {x y : Nat} {off : Int} (tgt : Nat) (hd : decode M.2.1 pc = .ok (.if_icmp .ge off, 3)) (ht : (pc : Int) + off = (tgt : Int)) (hx : x < 2 ^ 31) (hy : y < 2 ^ 31) (kt : y ≤ x → zs_V2 M tgt lv st R) (kf : x < y → zs_V2 M (pc + 3) lv st R) : zs_V2 M pc lv (.int (nI y) :: .int (nI x) :: st) R := fun S hJ => g_ic_geN tgt hd ht hx hy (fun h => kt h S hJ) (fun h => kf h S hJ)
theorem n2_ic_le {x y : Int32} {off : Int} (tgt : Nat) (hd : decode M.2.1 pc = .ok (.if_icmp .le off, 3)) (ht : (pc : Int) + off = (tgt : Int)) (kt : x ≤ y → zs_V2 M tgt lv st R) (kf : ¬ x ≤ y → zs_V2 M (pc + 3) lv st R) : zs_V2 M pc lv (.int y :: .int x :: st) R := fun S hJ => g_ic_le tgt hd ht (fun h => kt h S hJ) (fun h => kf h S hJ)
theorem n2_getR {a ci idx N : Nat} (j b : Nat) {fl : List Nat} {C : String} {T : u_T} (hd : decode M.2.1 pc = .ok (.getfield idx, 3)) (ha : a < zs_n) (hs : zs_sh a = .inr (ci, fl)) (hc : vwCl[ci]? = some (C, T, N)) (hj : j < N) (hf : fl[j]? = some (b + 2)) (hw : Cond.fieldLink M.1.cls idx (T j).1 (T j).2.1 (T j).2.2.1 ∈ zs_tbl) (k : zs_V2 M (pc + 3) lv (.ref b :: st) R) : zs_V2 M pc lv (.ref a :: st) R := fun S hJ => g_getR j b hd ha hs hc hj hf hw (k S hJ)
theorem n2_ald {a n i : Nat} (hd : decode M.2.1 pc = .ok (.iaload, 1)) (ha : a < zs_n) (hs : zs_sh a = .inl (0, n)) (hi : i < n) (hn : n < 2 ^ 31) (k : ∀ v, zs_V2 M (pc + 1) lv (.int v :: st) R) : zs_V2 M pc lv (.int (nI i) :: .ref a :: st) R := fun S hJ => g_ialdN hd ha hs hi hn rfl (k _ S hJ)
theorem n2_aldR {a n i lo up : Nat} (hd : decode M.2.1 pc = .ok (.iaload, 1)) (ha : a < zs_n) (hs : zs_sh a = .inl (0, n)) (hi : i < n) (hn : n < 2 ^ 31) (hr : zs_rg a i = some (lo, up)) (k : ∀ m, lo ≤ m → m ≤ up → zs_V2 M (pc + 1) lv (.int (nI m) :: st) R) : zs_V2 M pc lv (.int (nI i) :: .ref a :: st) R := fun S hJ => by
  obtain ⟨m, h1, h2, h3⟩ := hJ.1 a i lo up hr
  exact g_ialdN (v := nI m) hd ha hs hi hn h3 (k m h1 h2 S hJ)
theorem n2_ast {a n i : Nat} {x : Int32} (hd : decode M.2.1 pc = .ok (.iastore, 1)) (ha : a < zs_n) (hs : zs_sh a = .inl (0, n)) (hi : i < n) (hn : n < 2 ^ 31) (hp : zs_pm2 a i = false) (hr : zs_ok a i x) (k : zs_V2 M (pc + 1) lv st R) : zs_V2 M pc lv (.int x :: .int (nI i) :: .ref a :: st) R := fun S hJ => g_iastN hd ha hs hi hn (zs_V2fr k (hJ.up hr) (zs_fm2.up hp))
theorem n2_iret {v : Int32} {ty : FieldType} (hd : decode M.2.1 pc = .ok (.ireturn, 1)) (hr : M.2.2.2.1 = some ty) (hn : narrow ty (.int v) = .int v) (hq : R (some (.int v))) : zs_V2 M pc lv [.int v] R := fun S hJ => g_iret hd hr hn ⟨hq, hJ, zs_fm2.rf⟩
theorem n2_ret (hd : decode M.2.1 pc = .ok (.return_, 1)) (hr : M.2.2.2.1 = none) (hq : R none) : zs_V2 M pc lv [] R := fun S hJ => g_ret hd hr ⟨hq, hJ, zs_fm2.rf⟩
theorem n2_callS {N : zs_M} {idx n : Nat} (As rest : List Value) {st0 : List Value} {R1 : Option Value → Prop} (hX : zs_U2 N As R1) (hd : decode M.2.1 pc = .ok (.invokestatic idx, 3)) (hK : zs_K M N n) (hl1 : Cond.methodLink M.1.cls idx N.1 ∈ zs_tbl) (hl2 : Cond.static N.1 ∈ zs_tbl) (hn : As.length = n) (hst : st0 = As.reverse ++ rest) (hcat : (rest.map fun v => v.category).sum ≤ 8)
    (k : ∀ v, R1 v → zs_V2 M (pc + 3) lv (v.toList ++ rest) R) : zs_V2 M pc lv st0 R := fun S hJ => g_callS As rest (hX S hJ) hd hK hl1 hl2 hn hst hcat (fun v S' q => zs_V2fr (k v q.1) q.2.1 q.2.2)
end zs_model2
set_option maxRecDepth 100000 in
theorem y2_X12_passes (a1 : Int32) (a2 : Nat) (la2 : 0 ≤ a2) (ua2 : a2 ≤ 11) (a3 : Int32) : zs_U2 MX12_passes [.int a1, .int (nI a2), .int a3] (zs_Rn 0 24) := by
  refine zs_V2of (by decide) (Nat.le_of_ble_eq_true rfl) ?_
  show zs_V2 MX12_passes 0 [(0, .int a1), (1, .int (nI a2)), (2, .int a3)] [] (zs_Rn 0 24)
  have j79 : ∀ (v79_3 : Nat) (s79_0 : Nat), 0 ≤ v79_3 → v79_3 ≤ 24 → 0 ≤ s79_0 → s79_0 ≤ 24 → zs_V2 MX12_passes 79 [(0, .int a1), (1, .int (nI a2)), (2, .int a3), (3, .int (nI v79_3))] [.int (nI s79_0)] (zs_Rn 0 24) := by
    intro v79_3 s79_0 lv79_3 uv79_3 ls79_0 us79_0
    refine n2_istore_n (lv' := [(3, .int (nI s79_0)), (0, .int a1), (1, .int (nI a2)), (2, .int a3)]) dX12_passes_79 rfl (by decide) rfl ?_
    refine n2_iload_n dX12_passes_80 rfl rfl ?_
    refine n2_iconst (v := (nI 5)) dX12_passes_81 rfl ?_
    refine n2_ic_ne 94 dX12_passes_82 (by decide) (fun h1 => ?_) (fun h1 => ?_)
    · refine n2_iload_n dX12_passes_94 rfl rfl ?_
      exact n2_iret dX12_passes_95 rfl rfl ⟨_, by omega, by omega, rfl⟩
    · refine n2_iload_n dX12_passes_85 rfl rfl ?_
      refine n2_iconst (v := (nI 1)) dX12_passes_86 rfl ?_
      refine n2_ic_geN 94 dX12_passes_87 (by decide) (by omega) (by omega) (fun h2 => ?_) (fun h2 => ?_)
      · refine n2_iload_n dX12_passes_94 rfl rfl ?_
        exact n2_iret dX12_passes_95 rfl rfl ⟨_, by omega, by omega, rfl⟩
      · refine n2_iconst (v := (nI 1)) dX12_passes_90 rfl ?_
        refine n2_goto 95 dX12_passes_91 (by decide) ?_
        exact n2_iret dX12_passes_95 rfl rfl ⟨_, by omega, by omega, rfl⟩
  have j78 : ∀ (v78_3 : Nat), 0 ≤ v78_3 → v78_3 ≤ 24 → zs_V2 MX12_passes 78 [(0, .int a1), (1, .int (nI a2)), (2, .int a3), (3, .int (nI v78_3))] [] (zs_Rn 0 24) := by
    intro v78_3 lv78_3 uv78_3
    refine n2_iload_n dX12_passes_78 rfl rfl ?_
    exact j79 v78_3 v78_3 (by omega) (by omega) (by omega) (by omega)
  have j60 : ∀ (v60_3 : Nat) (s60_0 : Nat) (s60_1 : Nat), 0 ≤ v60_3 → v60_3 ≤ 23 → 0 ≤ s60_0 → s60_0 ≤ 1 → 0 ≤ s60_1 → s60_1 ≤ 23 → zs_V2 MX12_passes 60 [(0, .int a1), (1, .int (nI a2)), (2, .int a3), (3, .int (nI v60_3))] [.int (nI s60_0), .int (nI s60_1)] (zs_Rn 0 24) := by
    intro v60_3 s60_0 s60_1 lv60_3 uv60_3 ls60_0 us60_0 ls60_1 us60_1
    refine n2_iaddN dX12_passes_60 ?_
    refine n2_istore_n (lv' := [(3, .int (nI (s60_1 + s60_0))), (0, .int a1), (1, .int (nI a2)), (2, .int a3)]) dX12_passes_61 rfl (by decide) rfl ?_
    refine n2_iload_n dX12_passes_62 rfl rfl ?_
    refine n2_iconst (v := (nI 4)) dX12_passes_63 rfl ?_
    refine n2_ic_ne 78 dX12_passes_64 (by decide) (fun h3 => ?_) (fun h3 => ?_)
    · exact zs_V2lv (j78 (s60_1 + s60_0) (by omega) (by omega)) (zs_mc 1 rfl (zs_mc 2 rfl (zs_mc 3 rfl (zs_mc 0 rfl zs_mn))))
    · refine n2_iload_n dX12_passes_67 rfl rfl ?_
      refine n2_iconst (v := (nI 5)) dX12_passes_68 rfl ?_
      refine n2_irem dX12_passes_69 (by decide) (fun x4 => ?_)
      refine n2_iconst (v := (nI 4)) dX12_passes_70 rfl ?_
      refine n2_ic_ne 78 dX12_passes_71 (by decide) (fun h5 => ?_) (fun h5 => ?_)
      · exact zs_V2lv (j78 (s60_1 + s60_0) (by omega) (by omega)) (zs_mc 1 rfl (zs_mc 2 rfl (zs_mc 3 rfl (zs_mc 0 rfl zs_mn))))
      · refine n2_iconst (v := (nI 0)) dX12_passes_74 rfl ?_
        refine n2_goto 79 dX12_passes_75 (by decide) ?_
        exact zs_V2lv (j79 (s60_1 + s60_0) 0 (by omega) (by omega) (by omega) (by omega)) (zs_mc 1 rfl (zs_mc 2 rfl (zs_mc 3 rfl (zs_mc 0 rfl zs_mn))))
  have j59 : ∀ (v59_3 : Nat) (s59_0 : Nat), 0 ≤ v59_3 → v59_3 ≤ 23 → 0 ≤ s59_0 → s59_0 ≤ 23 → zs_V2 MX12_passes 59 [(0, .int a1), (1, .int (nI a2)), (2, .int a3), (3, .int (nI v59_3))] [.int (nI s59_0)] (zs_Rn 0 24) := by
    intro v59_3 s59_0 lv59_3 uv59_3 ls59_0 us59_0
    refine n2_iconst (v := (nI 0)) dX12_passes_59 rfl ?_
    exact j60 v59_3 0 s59_0 (by omega) (by omega) (by omega) (by omega) (by omega) (by omega)
  have j41 : ∀ (v41_3 : Nat) (s41_0 : Nat) (s41_1 : Nat), 0 ≤ v41_3 → v41_3 ≤ 22 → 0 ≤ s41_0 → s41_0 ≤ 1 → 0 ≤ s41_1 → s41_1 ≤ 22 → zs_V2 MX12_passes 41 [(0, .int a1), (1, .int (nI a2)), (2, .int a3), (3, .int (nI v41_3))] [.int (nI s41_0), .int (nI s41_1)] (zs_Rn 0 24) := by
    intro v41_3 s41_0 s41_1 lv41_3 uv41_3 ls41_0 us41_0 ls41_1 us41_1
    refine n2_iaddN dX12_passes_41 ?_
    refine n2_istore_n (lv' := [(3, .int (nI (s41_1 + s41_0))), (0, .int a1), (1, .int (nI a2)), (2, .int a3)]) dX12_passes_42 rfl (by decide) rfl ?_
    refine n2_iload_n dX12_passes_43 rfl rfl ?_
    refine n2_iload_n dX12_passes_44 rfl rfl ?_
    refine n2_iconst (v := (nI 3)) dX12_passes_45 rfl ?_
    refine n2_ic_ne 59 dX12_passes_46 (by decide) (fun h6 => ?_) (fun h6 => ?_)
    · exact zs_V2lv (j59 (s41_1 + s41_0) (s41_1 + s41_0) (by omega) (by omega) (by omega) (by omega)) (zs_mc 1 rfl (zs_mc 2 rfl (zs_mc 3 rfl (zs_mc 0 rfl zs_mn))))
    · refine n2_iload_n dX12_passes_49 rfl rfl ?_
      refine n2_iconst (v := (nI 4)) dX12_passes_50 rfl ?_
      refine n2_irem dX12_passes_51 (by decide) (fun x7 => ?_)
      refine n2_if_ne 59 dX12_passes_52 (by decide) (fun h8 => ?_) (fun h8 => ?_)
      · exact zs_V2lv (j59 (s41_1 + s41_0) (s41_1 + s41_0) (by omega) (by omega) (by omega) (by omega)) (zs_mc 1 rfl (zs_mc 2 rfl (zs_mc 3 rfl (zs_mc 0 rfl zs_mn))))
      · refine n2_iconst (v := (nI 1)) dX12_passes_55 rfl ?_
        refine n2_goto 60 dX12_passes_56 (by decide) ?_
        exact zs_V2lv (j60 (s41_1 + s41_0) 1 (s41_1 + s41_0) (by omega) (by omega) (by omega) (by omega) (by omega) (by omega)) (zs_mc 1 rfl (zs_mc 2 rfl (zs_mc 3 rfl (zs_mc 0 rfl zs_mn))))
  have j40 : ∀ (v40_3 : Nat) (s40_0 : Nat), 0 ≤ v40_3 → v40_3 ≤ 22 → 0 ≤ s40_0 → s40_0 ≤ 22 → zs_V2 MX12_passes 40 [(0, .int a1), (1, .int (nI a2)), (2, .int a3), (3, .int (nI v40_3))] [.int (nI s40_0)] (zs_Rn 0 24) := by
    intro v40_3 s40_0 lv40_3 uv40_3 ls40_0 us40_0
    refine n2_iconst (v := (nI 0)) dX12_passes_40 rfl ?_
    exact j41 v40_3 0 s40_0 (by omega) (by omega) (by omega) (by omega) (by omega) (by omega)
  have j29 : ∀ (v29_3 : Nat) (s29_0 : Nat), 0 ≤ v29_3 → v29_3 ≤ 22 → 0 ≤ s29_0 → s29_0 ≤ 22 → zs_V2 MX12_passes 29 [(0, .int a1), (1, .int (nI a2)), (2, .int a3), (3, .int (nI v29_3))] [.int (nI s29_0)] (zs_Rn 0 24) := by
    intro v29_3 s29_0 lv29_3 uv29_3 ls29_0 us29_0
    refine n2_iload_n dX12_passes_29 rfl rfl ?_
    refine n2_iconst (v := (nI 2)) dX12_passes_30 rfl ?_
    refine n2_irem dX12_passes_31 (by decide) (fun x9 => ?_)
    refine n2_iconst (v := (nI 1)) dX12_passes_32 rfl ?_
    refine n2_ic_ne 40 dX12_passes_33 (by decide) (fun h10 => ?_) (fun h10 => ?_)
    · exact j40 v29_3 s29_0 (by omega) (by omega) (by omega) (by omega)
    · refine n2_iconst (v := (nI 1)) dX12_passes_36 rfl ?_
      refine n2_goto 41 dX12_passes_37 (by decide) ?_
      exact j41 v29_3 1 s29_0 (by omega) (by omega) (by omega) (by omega) (by omega) (by omega)
  have j17 : ∀ (s17_0 : Nat), 0 ≤ s17_0 → s17_0 ≤ 22 → zs_V2 MX12_passes 17 [(0, .int a1), (1, .int (nI a2)), (2, .int a3)] [.int (nI s17_0)] (zs_Rn 0 24) := by
    intro s17_0 ls17_0 us17_0
    refine n2_istore_n (lv' := [(3, .int (nI s17_0)), (0, .int a1), (1, .int (nI a2)), (2, .int a3)]) dX12_passes_17 rfl (by decide) rfl ?_
    refine n2_iload_n dX12_passes_18 rfl rfl ?_
    refine n2_iload_n dX12_passes_19 rfl rfl ?_
    refine n2_iconst (v := (nI 2)) dX12_passes_20 rfl ?_
    refine n2_ic_eq 29 dX12_passes_21 (by decide) (fun h11 => ?_) (fun h11 => ?_)
    · exact zs_V2lv (j29 s17_0 s17_0 (by omega) (by omega) (by omega) (by omega)) (zs_mc 1 rfl (zs_mc 2 rfl (zs_mc 3 rfl (zs_mc 0 rfl zs_mn))))
    · refine n2_iload_n dX12_passes_24 rfl rfl ?_
      refine n2_iconst (v := (nI 4)) dX12_passes_25 rfl ?_
      refine n2_ic_ne 40 dX12_passes_26 (by decide) (fun h12 => ?_) (fun h12 => ?_)
      · exact zs_V2lv (j40 s17_0 s17_0 (by omega) (by omega) (by omega) (by omega)) (zs_mc 1 rfl (zs_mc 2 rfl (zs_mc 3 rfl (zs_mc 0 rfl zs_mn))))
      · exact zs_V2lv (j29 s17_0 s17_0 (by omega) (by omega) (by omega) (by omega)) (zs_mc 1 rfl (zs_mc 2 rfl (zs_mc 3 rfl (zs_mc 0 rfl zs_mn))))
  have j10 : zs_V2 MX12_passes 10 [(0, .int a1), (1, .int (nI a2)), (2, .int a3)] [] (zs_Rn 0 24) := by
    refine n2_iconst (v := (nI 2)) dX12_passes_10 rfl ?_
    refine n2_iload_n dX12_passes_11 rfl rfl ?_
    refine n2_imulN dX12_passes_12 ?_
    refine n2_goto 17 dX12_passes_13 (by decide) ?_
    exact j17 (2 * a2) (by omega) (by omega)
  refine n2_iload_n dX12_passes_0 rfl rfl ?_
  refine n2_iconst (v := (nI 1)) dX12_passes_1 rfl ?_
  refine n2_ic_eq 10 dX12_passes_2 (by decide) (fun h13 => ?_) (fun h13 => ?_)
  · exact j10 
  · refine n2_iload_n dX12_passes_5 rfl rfl ?_
    refine n2_iconst (v := (nI 3)) dX12_passes_6 rfl ?_
    refine n2_ic_ne 16 dX12_passes_7 (by decide) (fun h14 => ?_) (fun h14 => ?_)
    · refine n2_iload_n dX12_passes_16 rfl rfl ?_
      exact j17 a2 (by omega) (by omega)
    · exact j10 
set_option maxRecDepth 100000 in
theorem y2_X12_apart (a1 : Int32) (a2 : Int32) : zs_U2 MX12_apart [.int a1, .int a2] zs_Ri := by
  refine zs_V2of (by decide) (Nat.le_of_ble_eq_true rfl) ?_
  show zs_V2 MX12_apart 0 [(0, .int a1), (1, .int a2)] [] zs_Ri
  refine n2_iload_n dX12_apart_0 rfl rfl ?_
  refine n2_iload_n dX12_apart_1 rfl rfl ?_
  refine n2_ic_ge 11 dX12_apart_2 (by decide) (fun h1 => ?_) (fun h1 => ?_)
  · refine n2_iload_n dX12_apart_11 rfl rfl ?_
    refine n2_iload_n dX12_apart_12 rfl rfl ?_
    refine n2_isub dX12_apart_13 (fun x2 => ?_)
    exact n2_iret dX12_apart_14 rfl rfl ⟨_, rfl⟩
  · refine n2_iload_n dX12_apart_5 rfl rfl ?_
    refine n2_iload_n dX12_apart_6 rfl rfl ?_
    refine n2_isub dX12_apart_7 (fun x3 => ?_)
    refine n2_goto 14 dX12_apart_8 (by decide) ?_
    exact n2_iret dX12_apart_14 rfl rfl ⟨_, rfl⟩
set_option maxRecDepth 100000 in
theorem y2_X12_looks (a1 : Int32) (a2 : Int32) (a3 : Int32) : zs_U2 MX12_looks [.int a1, .int a2, .int a3] zs_Ri := by
  refine zs_V2of (by decide) (Nat.le_of_ble_eq_true rfl) ?_
  show zs_V2 MX12_looks 0 [(0, .int a1), (1, .int a2), (2, .int a3)] [] zs_Ri
  have j81 : ∀ (v81_3 : Int32) (s81_0 : Int32) (s81_1 : Int32), zs_V2 MX12_looks 81 [(0, .int a1), (1, .int a2), (2, .int a3), (3, .int v81_3)] [.int s81_0, .int s81_1] zs_Ri := by
    intro v81_3 s81_0 s81_1
    refine n2_iadd dX12_looks_81 (fun x1 => ?_)
    refine n2_istore_n (lv' := [(3, .int x1), (0, .int a1), (1, .int a2), (2, .int a3)]) dX12_looks_82 rfl (by decide) rfl ?_
    refine n2_goto 102 dX12_looks_83 (by decide) ?_
    refine n2_iload_n dX12_looks_102 rfl rfl ?_
    exact n2_iret dX12_looks_103 rfl rfl ⟨_, rfl⟩
  have j80 : ∀ (v80_3 : Int32) (s80_0 : Int32), zs_V2 MX12_looks 80 [(0, .int a1), (1, .int a2), (2, .int a3), (3, .int v80_3)] [.int s80_0] zs_Ri := by
    intro v80_3 s80_0
    refine n2_iconst (v := (nI 0)) dX12_looks_80 rfl ?_
    exact j81 v80_3 (nI 0) s80_0
  have j58 : ∀ (v58_3 : Int32) (s58_0 : Int32), zs_V2 MX12_looks 58 [(0, .int a1), (1, .int a2), (2, .int a3), (3, .int v58_3)] [.int s58_0] zs_Ri := by
    intro v58_3 s58_0
    refine n2_istore_n (lv' := [(3, .int s58_0), (0, .int a1), (1, .int a2), (2, .int a3)]) dX12_looks_58 rfl (by decide) rfl ?_
    refine n2_iload_n dX12_looks_59 rfl rfl ?_
    refine n2_iload_n dX12_looks_60 rfl rfl ?_
    refine n2_iconst (v := (nI 4)) dX12_looks_61 rfl ?_
    refine n2_ic_ne 80 dX12_looks_62 (by decide) (fun h2 => ?_) (fun h2 => ?_)
    · exact zs_V2lv (j80 s58_0 s58_0) (zs_mc 1 rfl (zs_mc 2 rfl (zs_mc 3 rfl (zs_mc 0 rfl zs_mn))))
    · refine n2_iload_n dX12_looks_65 rfl rfl ?_
      refine n2_iload_n dX12_looks_66 rfl rfl ?_
      refine n2_ic_le 80 dX12_looks_67 (by decide) (fun h3 => ?_) (fun h3 => ?_)
      · exact zs_V2lv (j80 s58_0 s58_0) (zs_mc 1 rfl (zs_mc 2 rfl (zs_mc 3 rfl (zs_mc 0 rfl zs_mn))))
      · refine n2_iload_n dX12_looks_70 rfl rfl ?_
        refine n2_bipush (v := (nI 9)) dX12_looks_71 rfl ?_
        refine n2_ic_ge 80 dX12_looks_73 (by decide) (fun h4 => ?_) (fun h4 => ?_)
        · exact zs_V2lv (j80 s58_0 s58_0) (zs_mc 1 rfl (zs_mc 2 rfl (zs_mc 3 rfl (zs_mc 0 rfl zs_mn))))
        · refine n2_iconst (v := (nI 1)) dX12_looks_76 rfl ?_
          refine n2_goto 81 dX12_looks_77 (by decide) ?_
          exact zs_V2lv (j81 s58_0 (nI 1) s58_0) (zs_mc 1 rfl (zs_mc 2 rfl (zs_mc 3 rfl (zs_mc 0 rfl zs_mn))))
  have j44 : ∀ (v44_3 : Int32), zs_V2 MX12_looks 44 [(0, .int a1), (1, .int a2), (2, .int a3), (3, .int v44_3)] [] zs_Ri := by
    intro v44_3
    refine n2_iload_n dX12_looks_44 rfl rfl ?_
    refine n2_iload_n dX12_looks_45 rfl rfl ?_
    refine n2_callS [.int a2, .int a3] [] (y2_X12_apart a2 a3) dX12_looks_46 kk_X12_looks_X12_apart ml_RX12_46 swX12_apart rfl rfl (Nat.le_of_ble_eq_true rfl) ?_
    rintro _ ⟨x5, rfl⟩
    refine n2_iconst (v := (nI 1)) dX12_looks_49 rfl ?_
    refine n2_ic_ne 57 dX12_looks_50 (by decide) (fun h6 => ?_) (fun h6 => ?_)
    · refine n2_iload_n dX12_looks_57 rfl rfl ?_
      exact j58 v44_3 a2
    · refine n2_iload_n dX12_looks_53 rfl rfl ?_
      refine n2_goto 58 dX12_looks_54 (by decide) ?_
      exact j58 v44_3 a3
  have j30 : ∀ (v30_3 : Int32) (s30_0 : Int32), zs_V2 MX12_looks 30 [(0, .int a1), (1, .int a2), (2, .int a3), (3, .int v30_3)] [.int s30_0] zs_Ri := by
    intro v30_3 s30_0
    refine n2_istore_n (lv' := [(3, .int s30_0), (0, .int a1), (1, .int a2), (2, .int a3)]) dX12_looks_30 rfl (by decide) rfl ?_
    refine n2_goto 102 dX12_looks_31 (by decide) ?_
    refine n2_iload_n dX12_looks_102 rfl rfl ?_
    exact n2_iret dX12_looks_103 rfl rfl ⟨_, rfl⟩
  have j25 : ∀ (v25_3 : Int32), zs_V2 MX12_looks 25 [(0, .int a1), (1, .int a2), (2, .int a3), (3, .int v25_3)] [] zs_Ri := by
    intro v25_3
    refine n2_iload_n dX12_looks_25 rfl rfl ?_
    refine n2_iload_n dX12_looks_26 rfl rfl ?_
    refine n2_iadd dX12_looks_27 (fun x7 => ?_)
    refine n2_iconst (v := (nI 2)) dX12_looks_28 rfl ?_
    refine n2_idiv dX12_looks_29 (by decide) (fun x8 => ?_)
    exact j30 v25_3 x8
  have j12 : ∀ (v12_3 : Int32), zs_V2 MX12_looks 12 [(0, .int a1), (1, .int a2), (2, .int a3), (3, .int v12_3)] [] zs_Ri := by
    intro v12_3
    refine n2_iload_n dX12_looks_12 rfl rfl ?_
    refine n2_iconst (v := (nI 3)) dX12_looks_13 rfl ?_
    refine n2_ic_ne 25 dX12_looks_14 (by decide) (fun h9 => ?_) (fun h9 => ?_)
    · exact j25 v12_3
    · refine n2_iload_n dX12_looks_17 rfl rfl ?_
      refine n2_if_ne 25 dX12_looks_18 (by decide) (fun h10 => ?_) (fun h10 => ?_)
      · exact j25 v12_3
      · refine n2_iload_n dX12_looks_21 rfl rfl ?_
        refine n2_goto 30 dX12_looks_22 (by decide) ?_
        exact j30 v12_3 a3
  refine n2_iload_n dX12_looks_0 rfl rfl ?_
  refine n2_istore_n (lv' := [(3, .int a2), (0, .int a1), (1, .int a2), (2, .int a3)]) dX12_looks_1 rfl (by decide) rfl ?_
  refine n2_iload_n dX12_looks_2 rfl rfl ?_
  refine n2_iconst (v := (nI 1)) dX12_looks_3 rfl ?_
  refine n2_ic_eq 12 dX12_looks_4 (by decide) (fun h11 => ?_) (fun h11 => ?_)
  · exact zs_V2lv (j12 a2) (zs_mc 1 rfl (zs_mc 2 rfl (zs_mc 3 rfl (zs_mc 0 rfl zs_mn))))
  · refine n2_iload_n dX12_looks_7 rfl rfl ?_
    refine n2_iconst (v := (nI 3)) dX12_looks_8 rfl ?_
    refine n2_ic_ne 34 dX12_looks_9 (by decide) (fun h12 => ?_) (fun h12 => ?_)
    · refine n2_iload_n dX12_looks_34 rfl rfl ?_
      refine n2_iconst (v := (nI 2)) dX12_looks_35 rfl ?_
      refine n2_ic_eq 44 dX12_looks_36 (by decide) (fun h13 => ?_) (fun h13 => ?_)
      · exact zs_V2lv (j44 a2) (zs_mc 1 rfl (zs_mc 2 rfl (zs_mc 3 rfl (zs_mc 0 rfl zs_mn))))
      · refine n2_iload_n dX12_looks_39 rfl rfl ?_
        refine n2_iconst (v := (nI 4)) dX12_looks_40 rfl ?_
        refine n2_ic_ne 86 dX12_looks_41 (by decide) (fun h14 => ?_) (fun h14 => ?_)
        · refine n2_iload_n dX12_looks_86 rfl rfl ?_
          refine n2_iconst (v := (nI 5)) dX12_looks_87 rfl ?_
          refine n2_ic_ne 102 dX12_looks_88 (by decide) (fun h15 => ?_) (fun h15 => ?_)
          · refine n2_iload_n dX12_looks_102 rfl rfl ?_
            exact n2_iret dX12_looks_103 rfl rfl ⟨_, rfl⟩
          · refine n2_iload_n dX12_looks_91 rfl rfl ?_
            refine n2_iload_n dX12_looks_92 rfl rfl ?_
            refine n2_ic_ne 100 dX12_looks_93 (by decide) (fun h16 => ?_) (fun h16 => ?_)
            · refine n2_iload_n dX12_looks_100 rfl rfl ?_
              refine n2_istore_n (lv' := [(3, .int a2), (0, .int a1), (1, .int a2), (2, .int a3)]) dX12_looks_101 rfl (by decide) rfl ?_
              refine n2_iload_n dX12_looks_102 rfl rfl ?_
              exact n2_iret dX12_looks_103 rfl rfl ⟨_, rfl⟩
            · refine n2_iconst (v := (nI 0)) dX12_looks_96 rfl ?_
              refine n2_goto 101 dX12_looks_97 (by decide) ?_
              refine n2_istore_n (lv' := [(3, .int (nI 0)), (0, .int a1), (1, .int a2), (2, .int a3)]) dX12_looks_101 rfl (by decide) rfl ?_
              refine n2_iload_n dX12_looks_102 rfl rfl ?_
              exact n2_iret dX12_looks_103 rfl rfl ⟨_, rfl⟩
        · exact zs_V2lv (j44 a2) (zs_mc 1 rfl (zs_mc 2 rfl (zs_mc 3 rfl (zs_mc 0 rfl zs_mn))))
    · exact zs_V2lv (j12 a2) (zs_mc 1 rfl (zs_mc 2 rfl (zs_mc 3 rfl (zs_mc 0 rfl zs_mn))))
set_option maxRecDepth 100000 in
theorem y2_X12_flash_0 (a2 : Nat) (la2 : 0 ≤ a2) (ua2 : a2 ≤ 11) (a3 : Int32) : zs_U2 MX12_flash [.ref 80, .int (nI 0), .int (nI a2), .int a3] zs_Rv := by
  refine zs_V2of (by decide) (Nat.le_of_ble_eq_true rfl) ?_
  show zs_V2 MX12_flash 0 [(0, .ref 80), (1, .int (nI 0)), (2, .int (nI a2)), (3, .int a3)] [] zs_Rv
  have j57 : ∀ (n57 : Nat) (c57 : Nat), 0 ≤ c57 → c57 ≤ 5 → 5 - c57 < n57 → zs_V2 MX12_flash 57 [(0, .ref 80), (1, .int (nI 0)), (2, .int (nI a2)), (3, .int a3), (4, .int (nI c57))] [] zs_Rv := by
    intro n57
    induction n57 with
    | zero => intro c57 lc57 uc57 hn57; exact absurd hn57 (Nat.not_lt_zero _)
    | succ n57 ih57 =>
      intro c57 lc57 uc57 hn57
      have j187 : c57 + 1 ≤ 5 → ∀ (v187_5 : Int32) (v187_6 : Int32) (s187_0 : Int32) (s187_1 : Int32) (s187_2 : Nat), 20 ≤ s187_2 → s187_2 ≤ 24 → zs_V2 MX12_flash 187 [(0, .ref 80), (1, .int (nI 0)), (2, .int (nI a2)), (3, .int a3), (4, .int (nI c57)), (5, .int v187_5), (6, .int v187_6)] [.int s187_0, .int s187_1, .int (nI s187_2), .ref 81] zs_Rv := by
        intro hd57 v187_5 v187_6 s187_0 s187_1 s187_2 ls187_2 us187_2
        refine n2_iadd dX12_flash_187 (fun x1 => ?_)
        refine n2_ast dX12_flash_188 (by decide) rfl (by omega) (by decide) rfl (zs_okN (rg_81_20_24 _ (by omega) (by omega)) (by decide) (by decide)) ?_
        refine n2_aload_n dX12_flash_189 rfl rfl ?_
        refine n2_getR 0 81 (C := RX12) (T := TX12) (N := 19) dX12_flash_190 (by decide) rfl rfl (by decide) rfl fl_RX12_7 ?_
        refine n2_iload_n dX12_flash_193 rfl rfl ?_
        refine n2_bipush (v := (nI 15)) dX12_flash_194 rfl ?_
        refine n2_iaddN dX12_flash_196 ?_
        refine n2_iload dX12_flash_197 rfl ?_
        refine n2_iaddN dX12_flash_199 ?_
        refine n2_iload dX12_flash_200 rfl ?_
        refine n2_ast dX12_flash_202 (by decide) rfl (by omega) (by decide) rfl (zs_okN (rg_81_15_19 _ (by omega) (by omega)) (by decide) (by decide)) ?_
        refine n2_iinc (v := (nI (c57 + 1))) (lv' := [(4, .int (nI (c57 + 1))), (0, .ref 80), (1, .int (nI 0)), (2, .int (nI a2)), (3, .int a3), (5, .int v187_5), (6, .int v187_6)]) dX12_flash_203 rfl (nI_1 c57) (by decide) rfl ?_
        refine n2_goto 57 dX12_flash_206 (by decide) ?_
        exact zs_V2lv (ih57 (c57 + 1) (by omega) (by omega) (by omega)) (zs_mc 1 rfl (zs_mc 2 rfl (zs_mc 3 rfl (zs_mc 4 rfl (zs_mc 0 rfl zs_mn)))))
      have j162 : c57 + 1 ≤ 5 → ∀ (v162_5 : Int32) (s162_0 : Int32), zs_V2 MX12_flash 162 [(0, .ref 80), (1, .int (nI 0)), (2, .int (nI a2)), (3, .int a3), (4, .int (nI c57)), (5, .int v162_5)] [.int s162_0] zs_Rv := by
        intro hd57 v162_5 s162_0
        refine n2_istore (lv' := [(6, .int s162_0), (0, .ref 80), (1, .int (nI 0)), (2, .int (nI a2)), (3, .int a3), (4, .int (nI c57)), (5, .int v162_5)]) dX12_flash_162 (by decide) rfl ?_
        refine n2_aload_n dX12_flash_164 rfl rfl ?_
        refine n2_getR 0 81 (C := RX12) (T := TX12) (N := 19) dX12_flash_165 (by decide) rfl rfl (by decide) rfl fl_RX12_7 ?_
        refine n2_iload_n dX12_flash_168 rfl rfl ?_
        refine n2_bipush (v := (nI 20)) dX12_flash_169 rfl ?_
        refine n2_iaddN dX12_flash_171 ?_
        refine n2_iload dX12_flash_172 rfl ?_
        refine n2_iaddN dX12_flash_174 ?_
        refine n2_dup2 dX12_flash_175 rfl rfl ?_
        refine n2_ald dX12_flash_176 (by decide) rfl (by omega) (by decide) (fun x2 => ?_)
        refine n2_iload dX12_flash_177 rfl ?_
        refine n2_if_eq 186 dX12_flash_179 (by decide) (fun h3 => ?_) (fun h3 => ?_)
        · refine n2_iconst (v := (nI 0)) dX12_flash_186 rfl ?_
          exact zs_V2lv (j187 (by omega) v162_5 s162_0 (nI 0) x2 ((0 + 20) + c57) (by omega) (by omega)) (zs_mc 1 rfl (zs_mc 2 rfl (zs_mc 3 rfl (zs_mc 4 rfl (zs_mc 5 rfl (zs_mc 6 rfl (zs_mc 0 rfl zs_mn)))))))
        · refine n2_iconst (v := (nI 1)) dX12_flash_182 rfl ?_
          refine n2_goto 187 dX12_flash_183 (by decide) ?_
          exact zs_V2lv (j187 (by omega) v162_5 s162_0 (nI 1) x2 ((0 + 20) + c57) (by omega) (by omega)) (zs_mc 1 rfl (zs_mc 2 rfl (zs_mc 3 rfl (zs_mc 4 rfl (zs_mc 5 rfl (zs_mc 6 rfl (zs_mc 0 rfl zs_mn)))))))
      have j161 : c57 + 1 ≤ 5 → ∀ (v161_5 : Int32), zs_V2 MX12_flash 161 [(0, .ref 80), (1, .int (nI 0)), (2, .int (nI a2)), (3, .int a3), (4, .int (nI c57)), (5, .int v161_5)] [] zs_Rv := by
        intro hd57 v161_5
        refine n2_iconst (v := (nI 0)) dX12_flash_161 rfl ?_
        exact j162 (by omega) v161_5 (nI 0)
      have j157 : c57 + 1 ≤ 5 → ∀ (v157_5 : Int32), zs_V2 MX12_flash 157 [(0, .ref 80), (1, .int (nI 0)), (2, .int (nI a2)), (3, .int a3), (4, .int (nI c57)), (5, .int v157_5)] [] zs_Rv := by
        intro hd57 v157_5
        refine n2_iconst (v := (nI 1)) dX12_flash_157 rfl ?_
        refine n2_goto 162 dX12_flash_158 (by decide) ?_
        exact j162 (by omega) v157_5 (nI 1)
      refine n2_iload dX12_flash_57 rfl ?_
      refine n2_aload_n dX12_flash_59 rfl rfl ?_
      refine n2_getR 1 82 (C := RX12) (T := TX12) (N := 19) dX12_flash_60 (by decide) rfl rfl (by decide) rfl fl_RX12_13 ?_
      refine n2_iconst (v := (nI 2)) dX12_flash_63 rfl ?_
      refine n2_aldR (lo := 0) (up := 5) dX12_flash_64 (by decide) rfl (by omega) (by decide) rfl (fun m4 hm4 km4 => ?_)
      refine n2_ic_geN 209 dX12_flash_65 (by decide) (by omega) (by omega) (fun h5 => ?_) (fun h5 => ?_)
      · exact n2_ret dX12_flash_209 rfl rfl
      · refine n2_iload_n dX12_flash_68 rfl rfl ?_
        refine n2_if_eq 209 dX12_flash_69 (by decide) (fun h6 => ?_) (fun h6 => ?_)
        · exact n2_ret dX12_flash_209 rfl rfl
        · refine n2_aload_n dX12_flash_72 rfl rfl ?_
          refine n2_getR 1 82 (C := RX12) (T := TX12) (N := 19) dX12_flash_73 (by decide) rfl rfl (by decide) rfl fl_RX12_13 ?_
          refine n2_iconst (v := (nI 3)) dX12_flash_76 rfl ?_
          refine n2_iload dX12_flash_77 rfl ?_
          refine n2_iaddN dX12_flash_79 ?_
          refine n2_ald dX12_flash_80 (by decide) rfl (by omega) (by decide) (fun x7 => ?_)
          refine n2_aload_n dX12_flash_81 rfl rfl ?_
          refine n2_getR 0 81 (C := RX12) (T := TX12) (N := 19) dX12_flash_82 (by decide) rfl rfl (by decide) rfl fl_RX12_7 ?_
          refine n2_iload_n dX12_flash_85 rfl rfl ?_
          refine n2_iconst (v := (nI 3)) dX12_flash_86 rfl ?_
          refine n2_iaddN dX12_flash_87 ?_
          refine n2_aload_n dX12_flash_88 rfl rfl ?_
          refine n2_getR 0 81 (C := RX12) (T := TX12) (N := 19) dX12_flash_89 (by decide) rfl rfl (by decide) rfl fl_RX12_7 ?_
          refine n2_iload_n dX12_flash_92 rfl rfl ?_
          refine n2_iconst (v := (nI 0)) dX12_flash_93 rfl ?_
          refine n2_iaddN dX12_flash_94 ?_
          refine n2_aldR (lo := 0) (up := 11) dX12_flash_95 (by decide) rfl (by omega) (by decide) (rg_81_0_0 _ (by omega) (by omega)) (fun m8 hm8 km8 => ?_)
          refine n2_iaddN dX12_flash_96 ?_
          refine n2_aldR (lo := 0) (up := 9) dX12_flash_97 (by decide) rfl (by omega) (by decide) (rg_81_3_14 _ (by omega) (by omega)) (fun m9 hm9 km9 => ?_)
          refine n2_aload_n dX12_flash_98 rfl rfl ?_
          refine n2_getR 0 81 (C := RX12) (T := TX12) (N := 19) dX12_flash_99 (by decide) rfl rfl (by decide) rfl fl_RX12_7 ?_
          refine n2_iload_n dX12_flash_102 rfl rfl ?_
          refine n2_bipush (v := (nI 15)) dX12_flash_103 rfl ?_
          refine n2_iaddN dX12_flash_105 ?_
          refine n2_iload dX12_flash_106 rfl ?_
          refine n2_iaddN dX12_flash_108 ?_
          refine n2_ald dX12_flash_109 (by decide) rfl (by omega) (by decide) (fun x10 => ?_)
          refine n2_callS [.int x7, .int (nI m9), .int x10] [] (y2_X12_looks x7 (nI m9) x10) dX12_flash_110 kk_X12_flash_X12_looks ml_RX12_166 swX12_looks rfl rfl (Nat.le_of_ble_eq_true rfl) ?_
          rintro _ ⟨x11, rfl⟩
          refine n2_istore (lv' := [(5, .int x11), (0, .ref 80), (1, .int (nI 0)), (2, .int (nI a2)), (3, .int a3), (4, .int (nI c57))]) dX12_flash_113 (by decide) rfl ?_
          refine n2_iload dX12_flash_115 rfl ?_
          refine n2_aload_n dX12_flash_117 rfl rfl ?_
          refine n2_getR 0 81 (C := RX12) (T := TX12) (N := 19) dX12_flash_118 (by decide) rfl rfl (by decide) rfl fl_RX12_7 ?_
          refine n2_iload_n dX12_flash_121 rfl rfl ?_
          refine n2_bipush (v := (nI 15)) dX12_flash_122 rfl ?_
          refine n2_iaddN dX12_flash_124 ?_
          refine n2_iload dX12_flash_125 rfl ?_
          refine n2_iaddN dX12_flash_127 ?_
          refine n2_ald dX12_flash_128 (by decide) rfl (by omega) (by decide) (fun x12 => ?_)
          refine n2_ic_eq 161 dX12_flash_129 (by decide) (fun h13 => ?_) (fun h13 => ?_)
          · exact zs_V2lv (j161 (by omega) x11) (zs_mc 1 rfl (zs_mc 2 rfl (zs_mc 3 rfl (zs_mc 4 rfl (zs_mc 5 rfl (zs_mc 0 rfl zs_mn))))))
          · refine n2_iload_n dX12_flash_132 rfl rfl ?_
            refine n2_sipush (v := (nI 675)) dX12_flash_133 rfl ?_
            refine n2_ic_eqN 157 dX12_flash_136 (by decide) (by omega) (by omega) (fun h14 => ?_) (fun h14 => ?_)
            · exact absurd h14 (by omega)
            · refine n2_aload_n dX12_flash_139 rfl rfl ?_
              refine n2_getR 0 81 (C := RX12) (T := TX12) (N := 19) dX12_flash_140 (by decide) rfl rfl (by decide) rfl fl_RX12_7 ?_
              refine n2_iload_n dX12_flash_143 rfl rfl ?_
              refine n2_bipush (v := (nI 20)) dX12_flash_144 rfl ?_
              refine n2_iaddN dX12_flash_146 ?_
              refine n2_iload dX12_flash_147 rfl ?_
              refine n2_iaddN dX12_flash_149 ?_
              refine n2_ald dX12_flash_150 (by decide) rfl (by omega) (by decide) (fun x15 => ?_)
              refine n2_sipush (v := (nI 9999)) dX12_flash_151 rfl ?_
              refine n2_ic_ge 161 dX12_flash_154 (by decide) (fun h16 => ?_) (fun h16 => ?_)
              · exact zs_V2lv (j161 (by omega) x11) (zs_mc 1 rfl (zs_mc 2 rfl (zs_mc 3 rfl (zs_mc 4 rfl (zs_mc 5 rfl (zs_mc 0 rfl zs_mn))))))
              · exact zs_V2lv (j157 (by omega) x11) (zs_mc 1 rfl (zs_mc 2 rfl (zs_mc 3 rfl (zs_mc 4 rfl (zs_mc 5 rfl (zs_mc 0 rfl zs_mn))))))
  refine n2_aload_n dX12_flash_0 rfl rfl ?_
  refine n2_getR 0 81 (C := RX12) (T := TX12) (N := 19) dX12_flash_1 (by decide) rfl rfl (by decide) rfl fl_RX12_7 ?_
  refine n2_iload_n dX12_flash_4 rfl rfl ?_
  refine n2_iconst (v := (nI 1)) dX12_flash_5 rfl ?_
  refine n2_iaddN dX12_flash_6 ?_
  refine n2_dup2 dX12_flash_7 rfl rfl ?_
  refine n2_ald dX12_flash_8 (by decide) rfl (by omega) (by decide) (fun x17 => ?_)
  refine n2_iconst (v := (nI 1)) dX12_flash_9 rfl ?_
  refine n2_iadd dX12_flash_10 (fun x18 => ?_)
  refine n2_ast dX12_flash_11 (by decide) rfl (by omega) (by decide) rfl (zs_okN (rg_81_1_1 _ (by omega) (by omega)) (by decide) (by decide)) ?_
  refine n2_aload_n dX12_flash_12 rfl rfl ?_
  refine n2_getR 0 81 (C := RX12) (T := TX12) (N := 19) dX12_flash_13 (by decide) rfl rfl (by decide) rfl fl_RX12_7 ?_
  refine n2_iload_n dX12_flash_16 rfl rfl ?_
  refine n2_iconst (v := (nI 0)) dX12_flash_17 rfl ?_
  refine n2_iaddN dX12_flash_18 ?_
  refine n2_aload_n dX12_flash_19 rfl rfl ?_
  refine n2_getR 0 81 (C := RX12) (T := TX12) (N := 19) dX12_flash_20 (by decide) rfl rfl (by decide) rfl fl_RX12_7 ?_
  refine n2_iload_n dX12_flash_23 rfl rfl ?_
  refine n2_iconst (v := (nI 0)) dX12_flash_24 rfl ?_
  refine n2_iaddN dX12_flash_25 ?_
  refine n2_aldR (lo := 0) (up := 11) dX12_flash_26 (by decide) rfl (by omega) (by decide) (rg_81_0_0 _ (by omega) (by omega)) (fun m19 hm19 km19 => ?_)
  refine n2_aload_n dX12_flash_27 rfl rfl ?_
  refine n2_getR 1 82 (C := RX12) (T := TX12) (N := 19) dX12_flash_28 (by decide) rfl rfl (by decide) rfl fl_RX12_13 ?_
  refine n2_iconst (v := (nI 1)) dX12_flash_31 rfl ?_
  refine n2_ald dX12_flash_32 (by decide) rfl (by omega) (by decide) (fun x20 => ?_)
  refine n2_iload_n dX12_flash_33 rfl rfl ?_
  refine n2_aload_n dX12_flash_34 rfl rfl ?_
  refine n2_getR 0 81 (C := RX12) (T := TX12) (N := 19) dX12_flash_35 (by decide) rfl rfl (by decide) rfl fl_RX12_7 ?_
  refine n2_iload_n dX12_flash_38 rfl rfl ?_
  refine n2_iconst (v := (nI 1)) dX12_flash_39 rfl ?_
  refine n2_iaddN dX12_flash_40 ?_
  refine n2_ald dX12_flash_41 (by decide) rfl (by omega) (by decide) (fun x21 => ?_)
  refine n2_callS [.int x20, .int (nI a2), .int x21] [.int (nI m19), .int (nI (0 + 0)), .ref 81] (y2_X12_passes x20 a2 (by omega) (by omega) x21) dX12_flash_42 kk_X12_flash_X12_passes ml_RX12_162 swX12_passes rfl rfl (Nat.le_of_ble_eq_true rfl) ?_
  rintro _ ⟨m22, hm22, km22, rfl⟩
  refine n2_iaddN dX12_flash_45 ?_
  refine n2_aload_n dX12_flash_46 rfl rfl ?_
  refine n2_getR 1 82 (C := RX12) (T := TX12) (N := 19) dX12_flash_47 (by decide) rfl rfl (by decide) rfl fl_RX12_13 ?_
  refine n2_iconst (v := (nI 0)) dX12_flash_50 rfl ?_
  refine n2_aldR (lo := 1) (up := 12) dX12_flash_51 (by decide) rfl (by omega) (by decide) rfl (fun m23 hm23 km23 => ?_)
  refine n2_iremN dX12_flash_52 (by omega) (by omega) (by omega) ?_
  have hm24 := Nat.mod_lt (m19 + m22) (show m23 > 0 by omega)
  generalize (m19 + m22) % m23 = m24 at hm24 ⊢
  refine n2_ast dX12_flash_53 (by decide) rfl (by omega) (by decide) rfl (zs_okR (rg_81_0_0 _ (by omega) (by omega)) (by omega) (by omega) (by decide) (by decide)) ?_
  refine n2_iconst (v := (nI 0)) dX12_flash_54 rfl ?_
  refine n2_istore (lv' := [(4, .int (nI 0)), (0, .ref 80), (1, .int (nI 0)), (2, .int (nI a2)), (3, .int a3)]) dX12_flash_55 (by decide) rfl ?_
  exact zs_V2lv (j57 _ 0 (by omega) (by omega) (Nat.lt_succ_self _)) (zs_mc 1 rfl (zs_mc 2 rfl (zs_mc 3 rfl (zs_mc 4 rfl (zs_mc 0 rfl zs_mn)))))
theorem zs_fm2.b {S S2 : zs_S} (h : zs_fm2 S S2) {b : Nat} (hb : b ≠ 81) : S2.1 b = S.1 b := funext fun i => (h b i (by
  unfold zs_pm2
  rw [show Nat.beq b 81 = false by rw [Bool.eq_false_iff]; exact fun z => hb (Nat.eq_of_beq_eq_true z)]; rfl)).1
theorem zs_fm2.m {S S2 : zs_S} (h : zs_fm2 S S2) : zs_fm S S2 := fun b i hb => h b i (by
  have hb2 : b ≠ 81 := fun z => by rw [z, show zs_pm 81 i = false from rfl] at hb; exact absurd hb (by decide)
  unfold zs_pm2
  rw [show Nat.beq b 81 = false by rw [Bool.eq_false_iff]; exact fun z => hb2 (Nat.eq_of_beq_eq_true z)]; rfl)
