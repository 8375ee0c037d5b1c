/-! rows over numbers nI n -/
section zs_rows2
variable {M : zs_M} {pc : Nat} {lv lv' : List (Nat × Value)} {st : List Value} {S : zs_S} {Q : Option Value → zs_S → Prop}
theorem g_iaddN {x y : Nat} (hd : decode M.2.1 pc = .ok (.iadd, 1)) (k : zs_P M (pc + 1) lv (.int (nI (x + y)) :: st) S Q) : zs_P M pc lv (.int (nI y) :: .int (nI x) :: st) S Q := g_iadd hd (by rw [nI_add]; exact k)
theorem g_isubN {x y : Nat} (hd : decode M.2.1 pc = .ok (.isub, 1)) (h : y ≤ x) (k : zs_P M (pc + 1) lv (.int (nI (x - y)) :: st) S Q) : zs_P M pc lv (.int (nI y) :: .int (nI x) :: st) S Q := g_isub hd (by rw [pk_sub h]; exact k)
theorem g_imulN {x y : Nat} (hd : decode M.2.1 pc = .ok (.imul, 1)) (k : zs_P M (pc + 1) lv (.int (nI (x * y)) :: st) S Q) : zs_P M pc lv (.int (nI y) :: .int (nI x) :: st) S Q := g_imul hd (by rw [pk_mul]; exact k)
theorem g_idivN {x y : Nat} (hd : decode M.2.1 pc = .ok (.idiv, 1)) (hx : x < 2 ^ 31) (h0 : 0 < y) (hy : y < 2 ^ 31) (k : zs_P M (pc + 1) lv (.int (nI (x / y)) :: st) S Q) : zs_P M pc lv (.int (nI y) :: .int (nI x) :: st) S Q := g_idiv hd (nI_ne0 h0 hy) (by rw [pk_div hx h0 hy]; exact k)
theorem g_iremN {x y : Nat} (hd : decode M.2.1 pc = .ok (.irem, 1)) (hx : x < 2 ^ 31) (h0 : 0 < y) (hy : y < 2 ^ 31) (k : zs_P M (pc + 1) lv (.int (nI (x % y)) :: st) S Q) : zs_P M pc lv (.int (nI y) :: .int (nI x) :: st) S Q := g_irem hd (nI_ne0 h0 hy) (by rw [pk_rem hx h0 hy]; exact k)
theorem g_ic_eqN {x y : Nat} {off : Int} (tgt : Nat) (hd : decode M.2.1 pc = .ok (.if_icmp .eq off, 3)) (ht : (pc : Int) + off = (tgt : Int)) (hx : x < 2 ^ 31) (hy : y < 2 ^ 31) (kt : x = y → zs_P M tgt lv st S Q) (kf : x ≠ y → zs_P M (pc + 3) lv st S Q) : zs_P M pc lv (.int (nI y) :: .int (nI x) :: st) S Q := g_ic_eq tgt hd ht (fun h => kt ((nI_eq hx hy).mp h)) (fun h => kf (fun e => h ((nI_eq hx hy).mpr e)))
theorem g_ic_neN {x y : Nat} {off : Int} (tgt : Nat) (hd : decode M.2.1 pc = .ok (.if_icmp .ne off, 3)) (ht : (pc : Int) + off = (tgt : Int)) (hx : x < 2 ^ 31) (hy : y < 2 ^ 31) (kt : x ≠ y → zs_P M tgt lv st S Q) (kf : x = y → zs_P M (pc + 3) lv st S Q) : zs_P M pc lv (.int (nI y) :: .int (nI x) :: st) S Q := g_ic_ne tgt hd ht (fun h => kt (fun e => h ((nI_eq hx hy).mpr e))) (fun h => kf ((nI_eq hx hy).mp h))
theorem g_ic_ltN {x y : Nat} {off : Int} (tgt : Nat) (hd : decode M.2.1 pc = .ok (.if_icmp .lt off, 3)) (ht : (pc : Int) + off = (tgt : Int)) (hx : x < 2 ^ 31) (hy : y < 2 ^ 31) (kt : x < y → zs_P M tgt lv st S Q) (kf : y ≤ x → zs_P M (pc + 3) lv st S Q) : zs_P M pc lv (.int (nI y) :: .int (nI x) :: st) S Q := g_ic_lt tgt hd ht (fun h => kt ((nI_ltI hx hy).mp h)) (fun h => kf (Nat.not_lt.mp (fun e => h ((nI_ltI hx hy).mpr e))))
theorem g_ic_geN {x y : Nat} {off : Int} (tgt : Nat) (hd : decode M.2.1 pc = .ok (.if_icmp .ge off, 3)) (ht : (pc : Int) + off = (tgt : Int)) (hx : x < 2 ^ 31) (hy : y < 2 ^ 31) (kt : y ≤ x → zs_P M tgt lv st S Q) (kf : x < y → zs_P M (pc + 3) lv st S Q) : zs_P M pc lv (.int (nI y) :: .int (nI x) :: st) S Q := g_ic_ge tgt hd ht (fun h => kt ((nI_leI hy hx).mp h)) (fun h => kf (Nat.not_le.mp (fun e => h ((nI_leI hy hx).mpr e))))
theorem g_ic_gtN {x y : Nat} {off : Int} (tgt : Nat) (hd : decode M.2.1 pc = .ok (.if_icmp .gt off, 3)) (ht : (pc : Int) + off = (tgt : Int)) (hx : x < 2 ^ 31) (hy : y < 2 ^ 31) (kt : y < x → zs_P M tgt lv st S Q) (kf : x ≤ y → zs_P M (pc + 3) lv st S Q) : zs_P M pc lv (.int (nI y) :: .int (nI x) :: st) S Q := g_ic_gt tgt hd ht (fun h => kt ((nI_ltI hy hx).mp h)) (fun h => kf (Nat.not_lt.mp (fun e => h ((nI_ltI hy hx).mpr e))))
theorem g_ic_leN {x y : Nat} {off : Int} (tgt : Nat) (hd : decode M.2.1 pc = .ok (.if_icmp .le off, 3)) (ht : (pc : Int) + off = (tgt : Int)) (hx : x < 2 ^ 31) (hy : y < 2 ^ 31) (kt : x ≤ y → zs_P M tgt lv st S Q) (kf : y < x → zs_P M (pc + 3) lv st S Q) : zs_P M pc lv (.int (nI y) :: .int (nI x) :: st) S Q := g_ic_le tgt hd ht (fun h => kt ((nI_leI hx hy).mp h)) (fun h => kf (Nat.not_le.mp (fun e => h ((nI_leI hx hy).mpr e))))
theorem g_if_eqN {x : Nat} {off : Int} (tgt : Nat) (hd : decode M.2.1 pc = .ok (.ifCond .eq off, 3)) (ht : (pc : Int) + off = (tgt : Int)) (hx : x < 2 ^ 31) (kt : x = 0 → zs_P M tgt lv st S Q) (kf : x ≠ 0 → zs_P M (pc + 3) lv st S Q) : zs_P M pc lv (.int (nI x) :: st) S Q := g_if_eq tgt hd ht (fun h => kt ((nI_eq hx (by decide)).mp (h.trans nI_0.symm))) (fun h => kf (fun e => h (by rw [e]; rfl)))
theorem g_if_neN {x : Nat} {off : Int} (tgt : Nat) (hd : decode M.2.1 pc = .ok (.ifCond .ne off, 3)) (ht : (pc : Int) + off = (tgt : Int)) (hx : x < 2 ^ 31) (kt : x ≠ 0 → zs_P M tgt lv st S Q) (kf : x = 0 → zs_P M (pc + 3) lv st S Q) : zs_P M pc lv (.int (nI x) :: st) S Q := g_if_ne tgt hd ht (fun h => kt (fun e => h (by rw [e]; rfl))) (fun h => kf ((nI_eq hx (by decide)).mp (h.trans nI_0.symm)))
theorem g_if_ltN {x : Nat} {off : Int} (tgt : Nat) (hd : decode M.2.1 pc = .ok (.ifCond .lt off, 3)) (ht : (pc : Int) + off = (tgt : Int)) (hx : x < 2 ^ 31) (kf : zs_P M (pc + 3) lv st S Q) : zs_P M pc lv (.int (nI x) :: st) S Q := g_if_lt tgt hd ht (fun h => absurd h (nI_pos hx)) (fun _ => kf)
theorem g_if_geN {x : Nat} {off : Int} (tgt : Nat) (hd : decode M.2.1 pc = .ok (.ifCond .ge off, 3)) (ht : (pc : Int) + off = (tgt : Int)) (hx : x < 2 ^ 31) (kt : zs_P M tgt lv st S Q) : zs_P M pc lv (.int (nI x) :: st) S Q := g_if_ge tgt hd ht (fun _ => kt) (fun h => absurd (nI_pos' hx) h)
theorem g_if_leN {x : Nat} {off : Int} (tgt : Nat) (hd : decode M.2.1 pc = .ok (.ifCond .le off, 3)) (ht : (pc : Int) + off = (tgt : Int)) (hx : x < 2 ^ 31) (kt : x = 0 → zs_P M tgt lv st S Q) (kf : 0 < x → zs_P M (pc + 3) lv st S Q) : zs_P M pc lv (.int (nI x) :: st) S Q := g_if_le tgt hd ht (fun h => kt (Nat.eq_zero_of_not_pos (fun e => nI_nle e hx h))) (fun h => kf (Nat.pos_of_ne_zero (fun e => h (by rw [e]; decide))))
theorem g_ialdN {a n i : Nat} {v : Int32} (hd : decode M.2.1 pc = .ok (.iaload, 1)) (ha : a < zs_n) (hs : zs_sh a = .inl (0, n)) (hi : i < n) (hn : n < 2 ^ 31) (hv : S.1 a i = v) (k : zs_P M (pc + 1) lv (.int v :: st) S Q) : zs_P M pc lv (.int (nI i) :: .ref a :: st) S Q := g_iald hd ha hs (vp_in_nI hi hn) (by rw [nI_clamp (by omega), hv]; exact k)
theorem g_iastN {a n i : Nat} {x : Int32} (hd : decode M.2.1 pc = .ok (.iastore, 1)) (ha : a < zs_n) (hs : zs_sh a = .inl (0, n)) (hi : i < n) (hn : n < 2 ^ 31) (k : zs_P M (pc + 1) lv st (zs_up S.1 a i x, S.2) Q) : zs_P M pc lv (.int x :: .int (nI i) :: .ref a :: st) S Q := g_iast hd ha hs (vp_in_nI hi hn) (by rw [nI_clamp (by omega)]; exact k)
theorem g_getV {a ci idx N : Nat} (j : Nat) {fl : List Nat} {C : String} {T : u_T} {v : Int32} (hd : decode M.2.1 pc = .ok (.getfield idx, 3)) (ha : a < zs_n) (hs : zs_sh a = .inr (ci, fl)) (hc : vwCl[ci]? = some (C, T, N)) (hj : j < N) (hf : fl[j]? = some 0) (hw : Cond.fieldLink M.1.cls idx (T j).1 (T j).2.1 (T j).2.2.1 ∈ zs_tbl) (hv : S.1 a j = v) (k : zs_P M (pc + 3) lv (.int v :: st) S Q) : zs_P M pc lv (.ref a :: st) S Q := g_getI j hd ha hs hc hj hf hw (by rw [hv]; exact k)
theorem zs_Pst {S2 : zs_S} (h : zs_P M pc lv st S2 Q) (e : S = S2) : zs_P M pc lv st S Q := e ▸ h
end zs_rows2
theorem zs_up_s {f : Nat → Nat → Int32} {a j : Nat} {v : Int32} : zs_up f a j v a j = v := by simp [zs_up]
theorem zs_up_n {f : Nat → Nat → Int32} {a j b i : Nat} {v : Int32} (h : ¬ (b = a ∧ i = j)) : zs_up f a j v b i = f b i := by simp only [zs_up]; rw [if_neg h]
/-! methods of classes that are not plainly named: no native row for them -/
theorem zs_metF {l : Launch} {y : MethodName} {ws ws' : List Cond} {rm : Room} {Pc : Array Value → State → Prop} {Qc : Array Value → State → Outcome → State → Prop} {mc ms : Nat} {free : Addr → Prop} {cc : ByteArray} {maxL : Nat} {ret : Option FieldType}
    (hy : plainFor y = true) (hw : ws = Cond.code y cc maxL ret :: ws')
    (body : ∀ p e s m args below meth c s₁, BodyLoose p l y (headSpec ws rm) cc maxL ret e s m args below meth c s₁ → c.maxLocals = maxL → Pc args s →
      W p l e (headSpec ws rm).room s m args below meth c s.heap [] 0 0 (MQ below Qc args s mc ms free) (entryFrame m args maxL)) : Met l y ws rm Pc Qc mc ms free := by
  refine MetFree.of_bodySF (code := cc) (maxLocals := maxL) (ret := ret) hy ?_ ?_
  · intro args s m h hn
    obtain ⟨meth, c, h1, h2, h3, h4, h5, h6, -, -⟩ := Cond.code_spec hn (atoms_spec (ws := ws) h _ (by rw [hw]; exact List.mem_cons_self))
    exact ⟨meth, c, h1, h2, h3, h4, h5, h6⟩
  · intro p e s m args below meth c s₁ B hml hP _
    have hh0 : s₁.heap = s.heap := by rw [B.state]; rfl
    obtain ⟨t, a1, o, b1, b2, b3⟩ := body p e s m args below meth c s₁ B hml hP s₁ hh0 (Stand.of_body B)
    exact ⟨t, o, a1, b1, b2, ⟨b3.1, b3.2⟩⟩
theorem zs_XF {M : zs_M} {args : List Value} {S : zs_S} {r : zs_O} (hy : plainFor M.1 = true) (hlen : (lg_sl args).length ≤ M.2.2.1) (h : zs_G M 0 (lv_args 0 args) [] S r) : zs_X M args S r := by
  intro l E
  refine zs_metF (cc := M.2.1) (maxL := M.2.2.1) (ret := M.2.2.2.1) hy rfl ?_
  intro p e s m args' below meth c s₁ B hml hv
  obtain ⟨rfl, hP, hZ, hT⟩ := hv
  have hts := atoms_spec (ws := Cond.code M.1 M.2.1 M.2.2.1 M.2.2.2.1 :: zs_tbl) B.pre
  have hl := lv_entry (args.map (zs_v E)) (n := M.2.2.1) (by rw [zs_ln]; exact hlen)
  rw [lg_entry_eq]
  rw [zs_la] at hl
  exact h p l e s m _ below meth c E s.heap [] _ ⟨B.exec, B.bytes, B.returns, hml, findClass_of_methodNamed B.named, fun w hw => hts w (List.mem_cons_of_mem _ hw), B.notSynchronized⟩ hZ hT hP va_S.rf hl
theorem zs_CF {M : zs_M} {args : List Value} {S : zs_S} {Q : Option Value → zs_S → Prop} (hy : plainFor M.1 = true) (hlen : (lg_sl args).length ≤ M.2.2.1) (h : zs_P M 0 (lv_args 0 args) [] S Q) : zs_C M args S Q := let ⟨r, g, q⟩ := h; ⟨r, zs_XF hy hlen g, q⟩
theorem pf_J9_floorMod_7cf53 : plainFor MJ9_floorMod_7cf53.1 = true := by decide +kernel
theorem pf_J9_max_7cf53 : plainFor MJ9_max_7cf53.1 = true := by decide +kernel
theorem pf_J9_min_7cf53 : plainFor MJ9_min_7cf53.1 = true := by decide +kernel
theorem pf_J9_abs_0f7a4 : plainFor MJ9_abs_0f7a4.1 = true := by decide +kernel
theorem pf_J0_coder_7d493 : plainFor MJ0_coder_7d493.1 = true := by decide +kernel
theorem pf_J0_isLatin1_aae02 : plainFor MJ0_isLatin1_aae02.1 = true := by decide +kernel
theorem pf_J0_length_8abf5 : plainFor MJ0_length_8abf5.1 = true := by decide +kernel
theorem pf_J0_checkIndex_df160 : plainFor MJ0_checkIndex_df160.1 = true := by decide +kernel
theorem pf_J1_charAt_3b067 : plainFor MJ1_charAt_3b067.1 = true := by decide +kernel
theorem pf_J0_charAt_5068e : plainFor MJ0_charAt_5068e.1 = true := by decide +kernel
