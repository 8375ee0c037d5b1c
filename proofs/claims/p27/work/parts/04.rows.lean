/-- from here the method M comes to its end with Q of the answer and the picture -/
def zs_P (M : zs_M) (pc : Nat) (lv : List (Nat × Value)) (st : List Value) (S : zs_S) (Q : Option Value → zs_S → Prop) : Prop := ∃ r : zs_O, zs_G M pc lv st S r ∧ Q r.1 r.2
def zs_C (M : zs_M) (args : List Value) (S : zs_S) (Q : Option Value → zs_S → Prop) : Prop := ∃ r : zs_O, zs_X M args S r ∧ Q r.1 r.2
abbrev zs_Ci (M : zs_M) (args : List Value) (S : zs_S) (Q : Int32 → zs_S → Prop) : Prop := zs_C M args S (fun v S' => ∃ x, v = some (.int x) ∧ Q x S')
abbrev zs_Cl (M : zs_M) (args : List Value) (S : zs_S) (Q : Int64 → zs_S → Prop) : Prop := zs_C M args S (fun v S' => ∃ x, v = some (.long x) ∧ Q x S')
abbrev zs_Cv (M : zs_M) (args : List Value) (S : zs_S) (Q : zs_S → Prop) : Prop := zs_C M args S (fun v S' => v = none ∧ Q S')
theorem zs_C.of {M : zs_M} {args : List Value} {S : zs_S} {Q : Option Value → zs_S → Prop} (hy : plainName M.1.cls = true) (hlen : (lg_sl args).length ≤ M.2.2.1) (h : zs_P M 0 (lv_args 0 args) [] S Q) : zs_C M args S Q := let ⟨r, g, q⟩ := h; ⟨r, zs_X.of hy hlen g, q⟩
theorem zs_C.mono {M : zs_M} {args : List Value} {S : zs_S} {Q Q' : Option Value → zs_S → Prop} (h : zs_C M args S Q) (hq : ∀ v S', Q v S' → Q' v S') : zs_C M args S Q' := let ⟨r, g, q⟩ := h; ⟨r, g, hq _ _ q⟩
theorem zs_P.mono {M : zs_M} {pc : Nat} {lv : List (Nat × Value)} {st : List Value} {S : zs_S} {Q Q' : Option Value → zs_S → Prop} (h : zs_P M pc lv st S Q) (hq : ∀ v S', Q v S' → Q' v S') : zs_P M pc lv st S Q' := let ⟨r, g, q⟩ := h; ⟨r, g, hq _ _ q⟩
theorem zs_P.lv {M : zs_M} {pc : Nat} {lv lv2 : List (Nat × Value)} {st : List Value} {S : zs_S} {Q : Option Value → zs_S → Prop} (h : zs_P M pc lv2 st S Q) (hs : ∀ q ∈ lv2, q ∈ lv) : zs_P M pc lv st S Q := let ⟨r, g, q⟩ := h; ⟨r, fun p l e s m args below meth c E H locs ls B hZ hT hP hS hl => g p l e s m args below meth c E H locs ls B hZ hT hP hS ⟨hl.1, hl.2.1, fun x hx => by
    obtain ⟨y, hy, rfl⟩ := List.mem_map.mp hx
    exact hl.2.2 _ (List.mem_map.mpr ⟨y, hs y hy, rfl⟩)⟩, q⟩
section zs_rows
variable {M : zs_M} {pc : Nat} {lv lv' : List (Nat × Value)} {st : List Value} {S : zs_S} {Q : Option Value → zs_S → Prop}
theorem g_iconst {n : Int} {v : Int32} (hd : decode M.2.1 pc = .ok (.iconst n, 1)) (hv : Int32.ofInt n = v) (k : zs_P M (pc + 1) lv (.int v :: st) S Q) : zs_P M pc lv (st) S Q := let ⟨r, g, q⟩ := k; ⟨r, fun p l e s m args below meth c E H locs ls B hZ hT hP hS hl => lv_iconst B.1 B.2.1 hd hv (g p l e s m args below meth c E H locs ls B hZ hT hP hS hl), q⟩
theorem g_bipush {n : Int} {v : Int32} (hd : decode M.2.1 pc = .ok (.bipush n, 2)) (hv : (Int8.ofInt n).toInt32 = v) (k : zs_P M (pc + 2) lv (.int v :: st) S Q) : zs_P M pc lv (st) S Q := let ⟨r, g, q⟩ := k; ⟨r, fun p l e s m args below meth c E H locs ls B hZ hT hP hS hl => lv_bipush B.1 B.2.1 hd hv (g p l e s m args below meth c E H locs ls B hZ hT hP hS hl), q⟩
theorem g_sipush {n : Int} {v : Int32} (hd : decode M.2.1 pc = .ok (.sipush n, 3)) (hv : (Int16.ofInt n).toInt32 = v) (k : zs_P M (pc + 3) lv (.int v :: st) S Q) : zs_P M pc lv (st) S Q := let ⟨r, g, q⟩ := k; ⟨r, fun p l e s m args below meth c E H locs ls B hZ hT hP hS hl => lv_sipush B.1 B.2.1 hd hv (g p l e s m args below meth c E H locs ls B hZ hT hP hS hl), q⟩
theorem g_lconst {n : Fin 2} {v : Int64} (hd : decode M.2.1 pc = .ok (.lconst n, 1)) (hv : Int64.ofNat (n : Nat) = v) (k : zs_P M (pc + 1) lv (.long v :: st) S Q) : zs_P M pc lv (st) S Q := let ⟨r, g, q⟩ := k; ⟨r, fun p l e s m args below meth c E H locs ls B hZ hT hP hS hl => lv_lconst B.1 B.2.1 hd hv (g p l e s m args below meth c E H locs ls B hZ hT hP hS hl), q⟩
theorem g_ldc {i : Nat} {v : Int32} (hd : decode M.2.1 pc = .ok (.ldc i, 2)) (hw : Cond.constant M.1.cls i v ∈ zs_tbl) (k : zs_P M (pc + 2) lv (.int v :: st) S Q) : zs_P M pc lv (st) S Q := let ⟨r, g, q⟩ := k; ⟨r, fun p l e s m args below meth c E H locs ls B hZ hT hP hS hl => lv_ldc B.1 B.2.1 B.2.2.2.2.1 (B.2.2.2.2.2.1 _ hw) hd (g p l e s m args below meth c E H locs ls B hZ hT hP hS hl), q⟩
theorem g_ldc2 {i : Nat} {v : Int64} (hd : decode M.2.1 pc = .ok (.ldc2_w i, 3)) (hw : Cond.constantLong M.1.cls i v ∈ zs_tbl) (k : zs_P M (pc + 3) lv (.long v :: st) S Q) : zs_P M pc lv (st) S Q := let ⟨r, g, q⟩ := k; ⟨r, fun p l e s m args below meth c E H locs ls B hZ hT hP hS hl => lv_ldc2 B.1 B.2.1 B.2.2.2.2.1 (B.2.2.2.2.2.1 _ hw) hd (g p l e s m args below meth c E H locs ls B hZ hT hP hS hl), q⟩
theorem g_iload_n {j : Fin 4} {i : Nat} {x : Int32} (hd : decode M.2.1 pc = .ok (.iload_n j, 1)) (hi : (j : Nat) = i) (hk : zs_lk lv i = some (.int x)) (k : zs_P M (pc + 1) lv (.int x :: st) S Q) : zs_P M pc lv (st) S Q := let ⟨r, g, q⟩ := k; ⟨r, fun p l e s m args below meth c E H locs ls B hZ hT hP hS hl => lv_iload_n B.1 B.2.1 hd hi (zs_lk_at hl hk) (g p l e s m args below meth c E H locs ls B hZ hT hP hS hl), q⟩
theorem g_iload {i : Nat} {x : Int32} (hd : decode M.2.1 pc = .ok (.iload i, 2)) (hk : zs_lk lv i = some (.int x)) (k : zs_P M (pc + 2) lv (.int x :: st) S Q) : zs_P M pc lv (st) S Q := let ⟨r, g, q⟩ := k; ⟨r, fun p l e s m args below meth c E H locs ls B hZ hT hP hS hl => lv_iload B.1 B.2.1 hd (zs_lk_at hl hk) (g p l e s m args below meth c E H locs ls B hZ hT hP hS hl), q⟩
theorem g_lload_n {j : Fin 4} {i : Nat} {x : Int64} (hd : decode M.2.1 pc = .ok (.lload_n j, 1)) (hi : (j : Nat) = i) (hk : zs_lk lv i = some (.long x)) (k : zs_P M (pc + 1) lv (.long x :: st) S Q) : zs_P M pc lv (st) S Q := let ⟨r, g, q⟩ := k; ⟨r, fun p l e s m args below meth c E H locs ls B hZ hT hP hS hl => lv_lload_n B.1 B.2.1 hd hi (zs_lk_at hl hk) (g p l e s m args below meth c E H locs ls B hZ hT hP hS hl), q⟩
theorem g_lload {i : Nat} {x : Int64} (hd : decode M.2.1 pc = .ok (.lload i, 2)) (hk : zs_lk lv i = some (.long x)) (k : zs_P M (pc + 2) lv (.long x :: st) S Q) : zs_P M pc lv (st) S Q := let ⟨r, g, q⟩ := k; ⟨r, fun p l e s m args below meth c E H locs ls B hZ hT hP hS hl => lv_lload B.1 B.2.1 hd (zs_lk_at hl hk) (g p l e s m args below meth c E H locs ls B hZ hT hP hS hl), q⟩
theorem g_aload_n {j : Fin 4} {i : Nat} {x : Nat} (hd : decode M.2.1 pc = .ok (.aload_n j, 1)) (hi : (j : Nat) = i) (hk : zs_lk lv i = some (.ref x)) (k : zs_P M (pc + 1) lv (.ref x :: st) S Q) : zs_P M pc lv (st) S Q := let ⟨r, g, q⟩ := k; ⟨r, fun p l e s m args below meth c E H locs ls B hZ hT hP hS hl => lv_aload_n B.1 B.2.1 hd hi (zs_lk_at hl hk) (g p l e s m args below meth c E H locs ls B hZ hT hP hS hl), q⟩
theorem g_aload {i : Nat} {x : Nat} (hd : decode M.2.1 pc = .ok (.aload i, 2)) (hk : zs_lk lv i = some (.ref x)) (k : zs_P M (pc + 2) lv (.ref x :: st) S Q) : zs_P M pc lv (st) S Q := let ⟨r, g, q⟩ := k; ⟨r, fun p l e s m args below meth c E H locs ls B hZ hT hP hS hl => lv_aload B.1 B.2.1 hd (zs_lk_at hl hk) (g p l e s m args below meth c E H locs ls B hZ hT hP hS hl), q⟩
theorem g_istore_n {j : Fin 4} {i : Nat} {x : Int32} (hd : decode M.2.1 pc = .ok (.istore_n j, 1)) (hi : (j : Nat) = i) (hn : i < M.2.2.1) (he : (i, Value.int x) :: lv.filter (fun q => !(q.1 == i) && !(q.1 + 1 == i && q.2.category == 2)) = lv') (k : zs_P M (pc + 1) lv' st S Q) : zs_P M pc lv (.int x :: st) S Q := let ⟨r, g, q⟩ := k; ⟨r, fun p l e s m args below meth c E H locs ls B hZ hT hP hS hl => lv_istore_n (lv' := zs_lr E lv') B.1 B.2.1 hd hi hl hn (by rw [← he, zs_f1]; rfl) (fun ls hl => g p l e s m args below meth c E H locs ls B hZ hT hP hS hl), q⟩
theorem g_istore {i : Nat} {x : Int32} (hd : decode M.2.1 pc = .ok (.istore i, 2)) (hn : i < M.2.2.1) (he : (i, Value.int x) :: lv.filter (fun q => !(q.1 == i) && !(q.1 + 1 == i && q.2.category == 2)) = lv') (k : zs_P M (pc + 2) lv' st S Q) : zs_P M pc lv (.int x :: st) S Q := let ⟨r, g, q⟩ := k; ⟨r, fun p l e s m args below meth c E H locs ls B hZ hT hP hS hl => lv_istore (lv' := zs_lr E lv') B.1 B.2.1 hd hl hn (by rw [← he, zs_f1]; rfl) (fun ls hl => g p l e s m args below meth c E H locs ls B hZ hT hP hS hl), q⟩
theorem g_lstore_n {j : Fin 4} {i : Nat} {x : Int64} (hd : decode M.2.1 pc = .ok (.lstore_n j, 1)) (hi : (j : Nat) = i) (hn : i + 1 < M.2.2.1) (he : (i, Value.long x) :: lv.filter (fun q => !(q.1 == i) && (!(q.1 == i + 1) && !(q.1 + 1 == i && q.2.category == 2))) = lv') (k : zs_P M (pc + 1) lv' st S Q) : zs_P M pc lv (.long x :: st) S Q := let ⟨r, g, q⟩ := k; ⟨r, fun p l e s m args below meth c E H locs ls B hZ hT hP hS hl => lv_lstore_n (lv' := zs_lr E lv') B.1 B.2.1 hd hi hl hn (by rw [← he, zs_f2]; rfl) (fun ls hl => g p l e s m args below meth c E H locs ls B hZ hT hP hS hl), q⟩
theorem g_lstore {i : Nat} {x : Int64} (hd : decode M.2.1 pc = .ok (.lstore i, 2)) (hn : i + 1 < M.2.2.1) (he : (i, Value.long x) :: lv.filter (fun q => !(q.1 == i) && (!(q.1 == i + 1) && !(q.1 + 1 == i && q.2.category == 2))) = lv') (k : zs_P M (pc + 2) lv' st S Q) : zs_P M pc lv (.long x :: st) S Q := let ⟨r, g, q⟩ := k; ⟨r, fun p l e s m args below meth c E H locs ls B hZ hT hP hS hl => lv_lstore (lv' := zs_lr E lv') B.1 B.2.1 hd hl hn (by rw [← he, zs_f2]; rfl) (fun ls hl => g p l e s m args below meth c E H locs ls B hZ hT hP hS hl), q⟩
theorem g_astore_n {j : Fin 4} {i : Nat} {x : Nat} (hd : decode M.2.1 pc = .ok (.astore_n j, 1)) (hi : (j : Nat) = i) (hn : i < M.2.2.1) (he : (i, Value.ref x) :: lv.filter (fun q => !(q.1 == i) && !(q.1 + 1 == i && q.2.category == 2)) = lv') (k : zs_P M (pc + 1) lv' st S Q) : zs_P M pc lv (.ref x :: st) S Q := let ⟨r, g, q⟩ := k; ⟨r, fun p l e s m args below meth c E H locs ls B hZ hT hP hS hl => lv_astore_n (lv' := zs_lr E lv') B.1 B.2.1 hd hi hl hn (by rw [← he, zs_f1]; rfl) (fun ls hl => g p l e s m args below meth c E H locs ls B hZ hT hP hS hl), q⟩
theorem g_astore {i : Nat} {x : Nat} (hd : decode M.2.1 pc = .ok (.astore i, 2)) (hn : i < M.2.2.1) (he : (i, Value.ref x) :: lv.filter (fun q => !(q.1 == i) && !(q.1 + 1 == i && q.2.category == 2)) = lv') (k : zs_P M (pc + 2) lv' st S Q) : zs_P M pc lv (.ref x :: st) S Q := let ⟨r, g, q⟩ := k; ⟨r, fun p l e s m args below meth c E H locs ls B hZ hT hP hS hl => lv_astore (lv' := zs_lr E lv') B.1 B.2.1 hd hl hn (by rw [← he, zs_f1]; rfl) (fun ls hl => g p l e s m args below meth c E H locs ls B hZ hT hP hS hl), q⟩
theorem zs_lk_pl {E : zs_E} {lv : List (Nat × Value)} {i : Nat} {v : Value} (hk : zs_lk lv i = some v) : ∃ k : Nat, (zs_lr E lv)[k]? = some (i, zs_v E v) := by
  have : (i, v) ∈ lv := by
    induction lv with
    | nil => simp [zs_lk] at hk
    | cons x r ih =>
      obtain ⟨j, w⟩ := x
      simp only [zs_lk] at hk
      split at hk
      next e => subst e; cases hk; exact List.mem_cons_self
      next => exact List.mem_cons_of_mem _ (ih hk)
  exact List.getElem?_of_mem (List.mem_map.mpr ⟨(i, v), this, rfl⟩)
theorem g_iinc {i : Nat} {n : Int} {x v : Int32} (hd : decode M.2.1 pc = .ok (.iinc i n, 3)) (hk : zs_lk lv i = some (.int x)) (hv : x + Int32.ofInt n = v) (hn : i < M.2.2.1) (he : (i, Value.int v) :: lv.filter (fun q => !(q.1 == i) && !(q.1 + 1 == i && q.2.category == 2)) = lv') (k : zs_P M (pc + 3) lv' st S Q) : zs_P M pc lv st S Q := by
  obtain ⟨r, g, q⟩ := k
  refine ⟨r, ?_, q⟩
  intro p l e s m args below meth c E H locs ls B hZ hT hP hS hl
  obtain ⟨kk, hkk⟩ := zs_lk_pl (E := E) hk
  exact lv_iinc (lv' := zs_lr E lv') B.1 B.2.1 hd hl hkk hv hn (by rw [← he, zs_f1]; rfl) (fun ls hl => g p l e s m args below meth c E H locs ls B hZ hT hP hS hl)
theorem g_iadd {x y : Int32} (hd : decode M.2.1 pc = .ok (.iadd, 1))  (k : zs_P M (pc + 1) lv (.int (x + y) :: st) S Q) : zs_P M pc lv (.int y :: .int x :: st) S Q := let ⟨r, g, q⟩ := k; ⟨r, fun p l e s m args below meth c E H locs ls B hZ hT hP hS hl => lv_iadd B.1 B.2.1 hd (g p l e s m args below meth c E H locs ls B hZ hT hP hS hl), q⟩
theorem g_isub {x y : Int32} (hd : decode M.2.1 pc = .ok (.isub, 1))  (k : zs_P M (pc + 1) lv (.int (x - y) :: st) S Q) : zs_P M pc lv (.int y :: .int x :: st) S Q := let ⟨r, g, q⟩ := k; ⟨r, fun p l e s m args below meth c E H locs ls B hZ hT hP hS hl => lv_isub B.1 B.2.1 hd (g p l e s m args below meth c E H locs ls B hZ hT hP hS hl), q⟩
theorem g_imul {x y : Int32} (hd : decode M.2.1 pc = .ok (.imul, 1))  (k : zs_P M (pc + 1) lv (.int (x * y) :: st) S Q) : zs_P M pc lv (.int y :: .int x :: st) S Q := let ⟨r, g, q⟩ := k; ⟨r, fun p l e s m args below meth c E H locs ls B hZ hT hP hS hl => lv_imul B.1 B.2.1 hd (g p l e s m args below meth c E H locs ls B hZ hT hP hS hl), q⟩
theorem g_iand {x y : Int32} (hd : decode M.2.1 pc = .ok (.iand, 1))  (k : zs_P M (pc + 1) lv (.int (x &&& y) :: st) S Q) : zs_P M pc lv (.int y :: .int x :: st) S Q := let ⟨r, g, q⟩ := k; ⟨r, fun p l e s m args below meth c E H locs ls B hZ hT hP hS hl => lv_iand B.1 B.2.1 hd (g p l e s m args below meth c E H locs ls B hZ hT hP hS hl), q⟩
theorem g_ior {x y : Int32} (hd : decode M.2.1 pc = .ok (.ior, 1))  (k : zs_P M (pc + 1) lv (.int (x ||| y) :: st) S Q) : zs_P M pc lv (.int y :: .int x :: st) S Q := let ⟨r, g, q⟩ := k; ⟨r, fun p l e s m args below meth c E H locs ls B hZ hT hP hS hl => lv_ior B.1 B.2.1 hd (g p l e s m args below meth c E H locs ls B hZ hT hP hS hl), q⟩
theorem g_ixor {x y : Int32} (hd : decode M.2.1 pc = .ok (.ixor, 1))  (k : zs_P M (pc + 1) lv (.int (x ^^^ y) :: st) S Q) : zs_P M pc lv (.int y :: .int x :: st) S Q := let ⟨r, g, q⟩ := k; ⟨r, fun p l e s m args below meth c E H locs ls B hZ hT hP hS hl => lv_ixor B.1 B.2.1 hd (g p l e s m args below meth c E H locs ls B hZ hT hP hS hl), q⟩
theorem g_ishl {x y : Int32} (hd : decode M.2.1 pc = .ok (.ishl, 1))  (k : zs_P M (pc + 1) lv (.int (x <<< (y &&& 31)) :: st) S Q) : zs_P M pc lv (.int y :: .int x :: st) S Q := let ⟨r, g, q⟩ := k; ⟨r, fun p l e s m args below meth c E H locs ls B hZ hT hP hS hl => lv_ishl B.1 B.2.1 hd (g p l e s m args below meth c E H locs ls B hZ hT hP hS hl), q⟩
theorem g_ishr {x y : Int32} (hd : decode M.2.1 pc = .ok (.ishr, 1))  (k : zs_P M (pc + 1) lv (.int (x >>> (y &&& 31)) :: st) S Q) : zs_P M pc lv (.int y :: .int x :: st) S Q := let ⟨r, g, q⟩ := k; ⟨r, fun p l e s m args below meth c E H locs ls B hZ hT hP hS hl => lv_ishr B.1 B.2.1 hd (g p l e s m args below meth c E H locs ls B hZ hT hP hS hl), q⟩
theorem g_idiv {x y : Int32} (hd : decode M.2.1 pc = .ok (.idiv, 1)) (hne : ¬ y = 0) (k : zs_P M (pc + 1) lv (.int (x / y) :: st) S Q) : zs_P M pc lv (.int y :: .int x :: st) S Q := let ⟨r, g, q⟩ := k; ⟨r, fun p l e s m args below meth c E H locs ls B hZ hT hP hS hl => lv_idiv B.1 B.2.1 hd hne (g p l e s m args below meth c E H locs ls B hZ hT hP hS hl), q⟩
theorem g_irem {x y : Int32} (hd : decode M.2.1 pc = .ok (.irem, 1)) (hne : ¬ y = 0) (k : zs_P M (pc + 1) lv (.int (x - x / y * y) :: st) S Q) : zs_P M pc lv (.int y :: .int x :: st) S Q := let ⟨r, g, q⟩ := k; ⟨r, fun p l e s m args below meth c E H locs ls B hZ hT hP hS hl => lv_irem B.1 B.2.1 hd hne (g p l e s m args below meth c E H locs ls B hZ hT hP hS hl), q⟩
theorem g_ineg {x : Int32} (hd : decode M.2.1 pc = .ok (.ineg, 1))  (k : zs_P M (pc + 1) lv (.int (-x) :: st) S Q) : zs_P M pc lv (.int x :: st) S Q := let ⟨r, g, q⟩ := k; ⟨r, fun p l e s m args below meth c E H locs ls B hZ hT hP hS hl => lv_ineg B.1 B.2.1 hd (g p l e s m args below meth c E H locs ls B hZ hT hP hS hl), q⟩
theorem g_ladd {x y : Int64} (hd : decode M.2.1 pc = .ok (.ladd, 1))  (k : zs_P M (pc + 1) lv (.long (x + y) :: st) S Q) : zs_P M pc lv (.long y :: .long x :: st) S Q := let ⟨r, g, q⟩ := k; ⟨r, fun p l e s m args below meth c E H locs ls B hZ hT hP hS hl => lv_ladd B.1 B.2.1 hd (g p l e s m args below meth c E H locs ls B hZ hT hP hS hl), q⟩
theorem g_lsub {x y : Int64} (hd : decode M.2.1 pc = .ok (.lsub, 1))  (k : zs_P M (pc + 1) lv (.long (x - y) :: st) S Q) : zs_P M pc lv (.long y :: .long x :: st) S Q := let ⟨r, g, q⟩ := k; ⟨r, fun p l e s m args below meth c E H locs ls B hZ hT hP hS hl => lv_lsub B.1 B.2.1 hd (g p l e s m args below meth c E H locs ls B hZ hT hP hS hl), q⟩
theorem g_lmul {x y : Int64} (hd : decode M.2.1 pc = .ok (.lmul, 1))  (k : zs_P M (pc + 1) lv (.long (x * y) :: st) S Q) : zs_P M pc lv (.long y :: .long x :: st) S Q := let ⟨r, g, q⟩ := k; ⟨r, fun p l e s m args below meth c E H locs ls B hZ hT hP hS hl => lv_lmul B.1 B.2.1 hd (g p l e s m args below meth c E H locs ls B hZ hT hP hS hl), q⟩
theorem g_ldiv {x y : Int64} (hd : decode M.2.1 pc = .ok (.ldiv, 1)) (hne : ¬ y = 0) (k : zs_P M (pc + 1) lv (.long (x / y) :: st) S Q) : zs_P M pc lv (.long y :: .long x :: st) S Q := let ⟨r, g, q⟩ := k; ⟨r, fun p l e s m args below meth c E H locs ls B hZ hT hP hS hl => lv_ldiv B.1 B.2.1 hd hne (g p l e s m args below meth c E H locs ls B hZ hT hP hS hl), q⟩
theorem g_lrem {x y : Int64} (hd : decode M.2.1 pc = .ok (.lrem, 1)) (hne : ¬ y = 0) (k : zs_P M (pc + 1) lv (.long (x - x / y * y) :: st) S Q) : zs_P M pc lv (.long y :: .long x :: st) S Q := let ⟨r, g, q⟩ := k; ⟨r, fun p l e s m args below meth c E H locs ls B hZ hT hP hS hl => lv_lrem B.1 B.2.1 hd hne (g p l e s m args below meth c E H locs ls B hZ hT hP hS hl), q⟩
theorem g_i2l {x : Int32} {v : Int64} (hd : decode M.2.1 pc = .ok (.i2l, 1)) (hv : x.toInt64 = v) (k : zs_P M (pc + 1) lv (.long v :: st) S Q) : zs_P M pc lv (.int x :: st) S Q := let ⟨r, g, q⟩ := k; ⟨r, fun p l e s m args below meth c E H locs ls B hZ hT hP hS hl => lv_i2l B.1 B.2.1 hd hv (g p l e s m args below meth c E H locs ls B hZ hT hP hS hl), q⟩
theorem g_l2i {x : Int64} {v : Int32} (hd : decode M.2.1 pc = .ok (.l2i, 1)) (hv : x.toInt32 = v) (k : zs_P M (pc + 1) lv (.int v :: st) S Q) : zs_P M pc lv (.long x :: st) S Q := let ⟨r, g, q⟩ := k; ⟨r, fun p l e s m args below meth c E H locs ls B hZ hT hP hS hl => lv_l2i B.1 B.2.1 hd hv (g p l e s m args below meth c E H locs ls B hZ hT hP hS hl), q⟩
theorem g_i2b {x : Int32} {v : Int32} (hd : decode M.2.1 pc = .ok (.i2b, 1)) (hv : x.toInt8.toInt32 = v) (k : zs_P M (pc + 1) lv (.int v :: st) S Q) : zs_P M pc lv (.int x :: st) S Q := let ⟨r, g, q⟩ := k; ⟨r, fun p l e s m args below meth c E H locs ls B hZ hT hP hS hl => lv_i2b B.1 B.2.1 hd hv (g p l e s m args below meth c E H locs ls B hZ hT hP hS hl), q⟩
theorem g_lcmp {x y : Int64} (hd : decode M.2.1 pc = .ok (.lcmp, 1))  (k : zs_P M (pc + 1) lv (.int (lg_cmp x y) :: st) S Q) : zs_P M pc lv (.long y :: .long x :: st) S Q := let ⟨r, g, q⟩ := k; ⟨r, fun p l e s m args below meth c E H locs ls B hZ hT hP hS hl => W.lcmp B.1 B.2.1 hd (g p l e s m args below meth c E H locs ls B hZ hT hP hS hl), q⟩
theorem g_dup {va : Value} (hd : decode M.2.1 pc = .ok (.dup, 1)) (hc : va.category = 1) (k : zs_P M (pc + 1) lv (va :: va :: st) S Q) : zs_P M pc lv (va :: st) S Q := let ⟨r, g, q⟩ := k; ⟨r, fun p l e s m args below meth c E H locs ls B hZ hT hP hS hl => lv_dup B.1 B.2.1 hd (by rw [zs_cat]; exact hc) (g p l e s m args below meth c E H locs ls B hZ hT hP hS hl), q⟩
theorem g_pop {va : Value} (hd : decode M.2.1 pc = .ok (.pop, 1)) (hc : va.category = 1) (k : zs_P M (pc + 1) lv (st) S Q) : zs_P M pc lv (va :: st) S Q := let ⟨r, g, q⟩ := k; ⟨r, fun p l e s m args below meth c E H locs ls B hZ hT hP hS hl => lv_pop B.1 B.2.1 hd (by rw [zs_cat]; exact hc) (g p l e s m args below meth c E H locs ls B hZ hT hP hS hl), q⟩
theorem g_dup2 {va vb : Value} (hd : decode M.2.1 pc = .ok (.dup2, 1)) (hc : va.category = 1) (hc2 : vb.category = 1) (k : zs_P M (pc + 1) lv (va :: vb :: va :: vb :: st) S Q) : zs_P M pc lv (va :: vb :: st) S Q := let ⟨r, g, q⟩ := k; ⟨r, fun p l e s m args below meth c E H locs ls B hZ hT hP hS hl => lv_dup2_11 B.1 B.2.1 hd (by rw [zs_cat]; exact hc) (by rw [zs_cat]; exact hc2) (g p l e s m args below meth c E H locs ls B hZ hT hP hS hl), q⟩
theorem g_goto {off : Int} (tgt : Nat) (hd : decode M.2.1 pc = .ok (.goto off, 3)) (ht : (pc : Int) + off = (tgt : Int)) (k : zs_P M tgt lv st S Q) : zs_P M pc lv st S Q := let ⟨r, g, q⟩ := k; ⟨r, fun p l e s m args below meth c E H locs ls B hZ hT hP hS hl => lv_goto B.1 B.2.1 hd ht (g p l e s m args below meth c E H locs ls B hZ hT hP hS hl), q⟩
theorem g_if_eq {x : Int32} {off : Int} (tgt : Nat) (hd : decode M.2.1 pc = .ok (.ifCond .eq off, 3)) (ht : (pc : Int) + off = (tgt : Int)) (kt : x = 0 → zs_P M tgt lv st S Q) (kf : ¬ x = 0 → zs_P M (pc + 3) lv st S Q) : zs_P M pc lv (.int x :: st) S Q := by
  by_cases hc : x = 0
  · obtain ⟨r, g, q⟩ := kt hc
    exact ⟨r, fun p l e s m args below meth c E H locs ls B hZ hT hP hS hl => lv_if_eq B.1 B.2.1 hd ht (fun _ => g p l e s m args below meth c E H locs ls B hZ hT hP hS hl) (fun z => absurd hc z), q⟩
  · obtain ⟨r, g, q⟩ := kf hc
    exact ⟨r, fun p l e s m args below meth c E H locs ls B hZ hT hP hS hl => lv_if_eq B.1 B.2.1 hd ht (fun z => absurd z hc) (fun _ => g p l e s m args below meth c E H locs ls B hZ hT hP hS hl), q⟩
theorem g_ic_eq {x y : Int32} {off : Int} (tgt : Nat) (hd : decode M.2.1 pc = .ok (.if_icmp .eq off, 3)) (ht : (pc : Int) + off = (tgt : Int)) (kt : x = y → zs_P M tgt lv st S Q) (kf : ¬ x = y → zs_P M (pc + 3) lv st S Q) : zs_P M pc lv (.int y :: .int x :: st) S Q := by
  by_cases hc : x = y
  · obtain ⟨r, g, q⟩ := kt hc
    exact ⟨r, fun p l e s m args below meth c E H locs ls B hZ hT hP hS hl => lv_icmp_eq B.1 B.2.1 hd ht (fun _ => g p l e s m args below meth c E H locs ls B hZ hT hP hS hl) (fun z => absurd hc z), q⟩
  · obtain ⟨r, g, q⟩ := kf hc
    exact ⟨r, fun p l e s m args below meth c E H locs ls B hZ hT hP hS hl => lv_icmp_eq B.1 B.2.1 hd ht (fun z => absurd z hc) (fun _ => g p l e s m args below meth c E H locs ls B hZ hT hP hS hl), q⟩
theorem g_if_ne {x : Int32} {off : Int} (tgt : Nat) (hd : decode M.2.1 pc = .ok (.ifCond .ne off, 3)) (ht : (pc : Int) + off = (tgt : Int)) (kt : ¬ x = 0 → zs_P M tgt lv st S Q) (kf : x = 0 → zs_P M (pc + 3) lv st S Q) : zs_P M pc lv (.int x :: st) S Q := by
  by_cases hc : x = 0
  · obtain ⟨r, g, q⟩ := kf hc
    exact ⟨r, fun p l e s m args below meth c E H locs ls B hZ hT hP hS hl => lv_if_ne B.1 B.2.1 hd ht (fun z => absurd hc z) (fun _ => g p l e s m args below meth c E H locs ls B hZ hT hP hS hl), q⟩
  · obtain ⟨r, g, q⟩ := kt hc
    exact ⟨r, fun p l e s m args below meth c E H locs ls B hZ hT hP hS hl => lv_if_ne B.1 B.2.1 hd ht (fun _ => g p l e s m args below meth c E H locs ls B hZ hT hP hS hl) (fun z => absurd z hc), q⟩
theorem g_ic_ne {x y : Int32} {off : Int} (tgt : Nat) (hd : decode M.2.1 pc = .ok (.if_icmp .ne off, 3)) (ht : (pc : Int) + off = (tgt : Int)) (kt : ¬ x = y → zs_P M tgt lv st S Q) (kf : x = y → zs_P M (pc + 3) lv st S Q) : zs_P M pc lv (.int y :: .int x :: st) S Q := by
  by_cases hc : x = y
  · obtain ⟨r, g, q⟩ := kf hc
    exact ⟨r, fun p l e s m args below meth c E H locs ls B hZ hT hP hS hl => lv_icmp_ne B.1 B.2.1 hd ht (fun z => absurd hc z) (fun _ => g p l e s m args below meth c E H locs ls B hZ hT hP hS hl), q⟩
  · obtain ⟨r, g, q⟩ := kt hc
    exact ⟨r, fun p l e s m args below meth c E H locs ls B hZ hT hP hS hl => lv_icmp_ne B.1 B.2.1 hd ht (fun _ => g p l e s m args below meth c E H locs ls B hZ hT hP hS hl) (fun z => absurd z hc), q⟩
theorem g_if_lt {x : Int32} {off : Int} (tgt : Nat) (hd : decode M.2.1 pc = .ok (.ifCond .lt off, 3)) (ht : (pc : Int) + off = (tgt : Int)) (kt : x < 0 → zs_P M tgt lv st S Q) (kf : ¬ x < 0 → zs_P M (pc + 3) lv st S Q) : zs_P M pc lv (.int x :: st) S Q := by
  by_cases hc : x < 0
  · obtain ⟨r, g, q⟩ := kt hc
    exact ⟨r, fun p l e s m args below meth c E H locs ls B hZ hT hP hS hl => lv_if_lt B.1 B.2.1 hd ht (fun _ => g p l e s m args below meth c E H locs ls B hZ hT hP hS hl) (fun z => absurd hc z), q⟩
  · obtain ⟨r, g, q⟩ := kf hc
    exact ⟨r, fun p l e s m args below meth c E H locs ls B hZ hT hP hS hl => lv_if_lt B.1 B.2.1 hd ht (fun z => absurd z hc) (fun _ => g p l e s m args below meth c E H locs ls B hZ hT hP hS hl), q⟩
theorem g_ic_lt {x y : Int32} {off : Int} (tgt : Nat) (hd : decode M.2.1 pc = .ok (.if_icmp .lt off, 3)) (ht : (pc : Int) + off = (tgt : Int)) (kt : x < y → zs_P M tgt lv st S Q) (kf : ¬ x < y → zs_P M (pc + 3) lv st S Q) : zs_P M pc lv (.int y :: .int x :: st) S Q := by
  by_cases hc : x < y
  · obtain ⟨r, g, q⟩ := kt hc
    exact ⟨r, fun p l e s m args below meth c E H locs ls B hZ hT hP hS hl => lv_icmp_lt B.1 B.2.1 hd ht (fun _ => g p l e s m args below meth c E H locs ls B hZ hT hP hS hl) (fun z => absurd hc z), q⟩
  · obtain ⟨r, g, q⟩ := kf hc
    exact ⟨r, fun p l e s m args below meth c E H locs ls B hZ hT hP hS hl => lv_icmp_lt B.1 B.2.1 hd ht (fun z => absurd z hc) (fun _ => g p l e s m args below meth c E H locs ls B hZ hT hP hS hl), q⟩
theorem g_if_ge {x : Int32} {off : Int} (tgt : Nat) (hd : decode M.2.1 pc = .ok (.ifCond .ge off, 3)) (ht : (pc : Int) + off = (tgt : Int)) (kt : 0 ≤ x → zs_P M tgt lv st S Q) (kf : ¬ 0 ≤ x → zs_P M (pc + 3) lv st S Q) : zs_P M pc lv (.int x :: st) S Q := by
  by_cases hc : 0 ≤ x
  · obtain ⟨r, g, q⟩ := kt hc
    exact ⟨r, fun p l e s m args below meth c E H locs ls B hZ hT hP hS hl => lv_if_ge B.1 B.2.1 hd ht (fun _ => g p l e s m args below meth c E H locs ls B hZ hT hP hS hl) (fun z => absurd hc z), q⟩
  · obtain ⟨r, g, q⟩ := kf hc
    exact ⟨r, fun p l e s m args below meth c E H locs ls B hZ hT hP hS hl => lv_if_ge B.1 B.2.1 hd ht (fun z => absurd z hc) (fun _ => g p l e s m args below meth c E H locs ls B hZ hT hP hS hl), q⟩
theorem g_ic_ge {x y : Int32} {off : Int} (tgt : Nat) (hd : decode M.2.1 pc = .ok (.if_icmp .ge off, 3)) (ht : (pc : Int) + off = (tgt : Int)) (kt : y ≤ x → zs_P M tgt lv st S Q) (kf : ¬ y ≤ x → zs_P M (pc + 3) lv st S Q) : zs_P M pc lv (.int y :: .int x :: st) S Q := by
  by_cases hc : y ≤ x
  · obtain ⟨r, g, q⟩ := kt hc
    exact ⟨r, fun p l e s m args below meth c E H locs ls B hZ hT hP hS hl => lv_icmp_ge B.1 B.2.1 hd ht (fun _ => g p l e s m args below meth c E H locs ls B hZ hT hP hS hl) (fun z => absurd hc z), q⟩
  · obtain ⟨r, g, q⟩ := kf hc
    exact ⟨r, fun p l e s m args below meth c E H locs ls B hZ hT hP hS hl => lv_icmp_ge B.1 B.2.1 hd ht (fun z => absurd z hc) (fun _ => g p l e s m args below meth c E H locs ls B hZ hT hP hS hl), q⟩
theorem g_if_gt {x : Int32} {off : Int} (tgt : Nat) (hd : decode M.2.1 pc = .ok (.ifCond .gt off, 3)) (ht : (pc : Int) + off = (tgt : Int)) (kt : 0 < x → zs_P M tgt lv st S Q) (kf : ¬ 0 < x → zs_P M (pc + 3) lv st S Q) : zs_P M pc lv (.int x :: st) S Q := by
  by_cases hc : 0 < x
  · obtain ⟨r, g, q⟩ := kt hc
    exact ⟨r, fun p l e s m args below meth c E H locs ls B hZ hT hP hS hl => lv_if_gt B.1 B.2.1 hd ht (fun _ => g p l e s m args below meth c E H locs ls B hZ hT hP hS hl) (fun z => absurd hc z), q⟩
  · obtain ⟨r, g, q⟩ := kf hc
    exact ⟨r, fun p l e s m args below meth c E H locs ls B hZ hT hP hS hl => lv_if_gt B.1 B.2.1 hd ht (fun z => absurd z hc) (fun _ => g p l e s m args below meth c E H locs ls B hZ hT hP hS hl), q⟩
theorem g_ic_gt {x y : Int32} {off : Int} (tgt : Nat) (hd : decode M.2.1 pc = .ok (.if_icmp .gt off, 3)) (ht : (pc : Int) + off = (tgt : Int)) (kt : y < x → zs_P M tgt lv st S Q) (kf : ¬ y < x → zs_P M (pc + 3) lv st S Q) : zs_P M pc lv (.int y :: .int x :: st) S Q := by
  by_cases hc : y < x
  · obtain ⟨r, g, q⟩ := kt hc
    exact ⟨r, fun p l e s m args below meth c E H locs ls B hZ hT hP hS hl => lv_icmp_gt B.1 B.2.1 hd ht (fun _ => g p l e s m args below meth c E H locs ls B hZ hT hP hS hl) (fun z => absurd hc z), q⟩
  · obtain ⟨r, g, q⟩ := kf hc
    exact ⟨r, fun p l e s m args below meth c E H locs ls B hZ hT hP hS hl => lv_icmp_gt B.1 B.2.1 hd ht (fun z => absurd z hc) (fun _ => g p l e s m args below meth c E H locs ls B hZ hT hP hS hl), q⟩
theorem g_if_le {x : Int32} {off : Int} (tgt : Nat) (hd : decode M.2.1 pc = .ok (.ifCond .le off, 3)) (ht : (pc : Int) + off = (tgt : Int)) (kt : x ≤ 0 → zs_P M tgt lv st S Q) (kf : ¬ x ≤ 0 → zs_P M (pc + 3) lv st S Q) : zs_P M pc lv (.int x :: st) S Q := by
  by_cases hc : x ≤ 0
  · obtain ⟨r, g, q⟩ := kt hc
    exact ⟨r, fun p l e s m args below meth c E H locs ls B hZ hT hP hS hl => lv_if_le B.1 B.2.1 hd ht (fun _ => g p l e s m args below meth c E H locs ls B hZ hT hP hS hl) (fun z => absurd hc z), q⟩
  · obtain ⟨r, g, q⟩ := kf hc
    exact ⟨r, fun p l e s m args below meth c E H locs ls B hZ hT hP hS hl => lv_if_le B.1 B.2.1 hd ht (fun z => absurd z hc) (fun _ => g p l e s m args below meth c E H locs ls B hZ hT hP hS hl), q⟩
theorem g_ic_le {x y : Int32} {off : Int} (tgt : Nat) (hd : decode M.2.1 pc = .ok (.if_icmp .le off, 3)) (ht : (pc : Int) + off = (tgt : Int)) (kt : x ≤ y → zs_P M tgt lv st S Q) (kf : ¬ x ≤ y → zs_P M (pc + 3) lv st S Q) : zs_P M pc lv (.int y :: .int x :: st) S Q := by
  by_cases hc : x ≤ y
  · obtain ⟨r, g, q⟩ := kt hc
    exact ⟨r, fun p l e s m args below meth c E H locs ls B hZ hT hP hS hl => lv_icmp_le B.1 B.2.1 hd ht (fun _ => g p l e s m args below meth c E H locs ls B hZ hT hP hS hl) (fun z => absurd hc z), q⟩
  · obtain ⟨r, g, q⟩ := kf hc
    exact ⟨r, fun p l e s m args below meth c E H locs ls B hZ hT hP hS hl => lv_icmp_le B.1 B.2.1 hd ht (fun z => absurd z hc) (fun _ => g p l e s m args below meth c E H locs ls B hZ hT hP hS hl), q⟩
theorem g_tin {x : Int32} {dflt lo hi off : Int} {offs : Array Int} {len : Nat} (tgt : Nat) (hd : decode M.2.1 pc = .ok (.tableswitch dflt lo hi offs, len)) (h1 : ¬ x.toInt < lo) (h2 : ¬ hi < x.toInt) (ho : offs[(x.toInt - lo).toNat]? = some off) (ht : (pc : Int) + off = (tgt : Int)) (k : zs_P M tgt lv st S Q) : zs_P M pc lv (.int x :: st) S Q := let ⟨r, g, q⟩ := k; ⟨r, fun p l e s m args below meth c E H locs ls B hZ hT hP hS hl => lv_tableIn B.1 B.2.1 hd h1 h2 ho ht (g p l e s m args below meth c E H locs ls B hZ hT hP hS hl), q⟩
theorem g_tout {x : Int32} {dflt lo hi : Int} {offs : Array Int} {len : Nat} (tgt : Nat) (hd : decode M.2.1 pc = .ok (.tableswitch dflt lo hi offs, len)) (h : x.toInt < lo ∨ hi < x.toInt) (ht : (pc : Int) + dflt = (tgt : Int)) (k : zs_P M tgt lv st S Q) : zs_P M pc lv (.int x :: st) S Q := let ⟨r, g, q⟩ := k; ⟨r, fun p l e s m args below meth c E H locs ls B hZ hT hP hS hl => lv_tableOut B.1 B.2.1 hd h ht (g p l e s m args below meth c E H locs ls B hZ hT hP hS hl), q⟩
theorem g_lsw {x : Int32} {dflt off : Int} {ps : Array (Int × Int)} {len : Nat} (tgt : Nat) (hd : decode M.2.1 pc = .ok (.lookupswitch dflt ps, len)) (hp : (ps.toList.zip (ps.toList.drop 1)).all (fun (a, next) => a.1 < next.1) = true) (ho : Op.lookupswitch.offset ps.toList dflt x.toInt = off) (ht : (pc : Int) + off = (tgt : Int)) (k : zs_P M tgt lv st S Q) : zs_P M pc lv (.int x :: st) S Q := let ⟨r, g, q⟩ := k; ⟨r, fun p l e s m args below meth c E H locs ls B hZ hT hP hS hl => lv_lookup B.1 B.2.1 hd hp ho ht (g p l e s m args below meth c E H locs ls B hZ hT hP hS hl), q⟩
/-- the picture's cell of an object -/
theorem zs_obj {E : zs_E} {S : zs_S} {a ci : Nat} {fl : List Nat} (ha : a < zs_n) (hs : zs_sh a = .inr (ci, fl)) : (zs_ws E S)[a]? = some (E.2.2.2 a, .inr (ci, zs_fl E S a 0 fl)) := by
  rw [zs_ws_get ha]
  simp only [zs_c, hs]
theorem zs_arr {E : zs_E} {S : zs_S} {a t n : Nat} (ha : a < zs_n) (hs : zs_sh a = .inl (t, n)) : (zs_ws E S)[a]? = some (E.2.2.2 a, .inl (E.2.2.1 t, n, .inl (S.1 a))) := by
  rw [zs_ws_get ha]
  simp only [zs_c, hs]
theorem g_get {a ci idx j t N : Nat} {fl : List Nat} {C : String} {T : u_T} {v : Value} (hd : decode M.2.1 pc = .ok (.getfield idx, 3)) (ha : a < zs_n) (hs : zs_sh a = .inr (ci, fl)) (hc : vwCl[ci]? = some (C, T, N)) (hj : j < N) (hf : fl[j]? = some t) (hw : Cond.fieldLink M.1.cls idx (T j).1 (T j).2.1 (T j).2.2.1 ∈ zs_tbl) (hv : ∀ E : zs_E, zs_fv E S a j t = zs_v E v) (k : zs_P M (pc + 3) lv (v :: st) S Q) : zs_P M pc lv (.ref a :: st) S Q := by
  obtain ⟨r, g, q⟩ := k
  refine ⟨r, ?_, q⟩
  intro p l e s m args below meth c E H locs ls B hZ hT hP hS hl
  refine va_get (D := zs_D E) (Ts := zs_tbl) (own := M.1.cls) B.1 B.2.1 B.2.2.2.2.2.1 (zs_cls hc).1 B.2.2.2.2.1 hZ.1 hP a (zs_obj ha hs) hc j hj (B.2.2.2.2.2.1 _ hw) (fun _ h => h) (v := zs_v E v) ?_ hd (g p l e s m args below meth c E H locs ls B hZ hT hP hS hl)
  rw [zs_fl_get fl 0 j t hf, ← hv E, Nat.zero_add]
theorem g_getI {a ci idx N : Nat} (j : Nat) {fl : List Nat} {C : String} {T : u_T} (hd : decode M.2.1 pc = .ok (.getfield idx, 3)) (ha : a < zs_n) (hs : zs_sh a = .inr (ci, fl)) (hc : vwCl[ci]? = some (C, T, N)) (hj : j < N) (hf : fl[j]? = some 0) (hw : Cond.fieldLink M.1.cls idx (T j).1 (T j).2.1 (T j).2.2.1 ∈ zs_tbl) (k : zs_P M (pc + 3) lv (.int (S.1 a j) :: st) S Q) : zs_P M pc lv (.ref a :: st) S Q := g_get hd ha hs hc hj hf hw (fun _ => rfl) k
theorem g_getL {a ci idx N : Nat} (j : Nat) {fl : List Nat} {C : String} {T : u_T} (hd : decode M.2.1 pc = .ok (.getfield idx, 3)) (ha : a < zs_n) (hs : zs_sh a = .inr (ci, fl)) (hc : vwCl[ci]? = some (C, T, N)) (hj : j < N) (hf : fl[j]? = some 1) (hw : Cond.fieldLink M.1.cls idx (T j).1 (T j).2.1 (T j).2.2.1 ∈ zs_tbl) (k : zs_P M (pc + 3) lv (.long (S.2 a j) :: st) S Q) : zs_P M pc lv (.ref a :: st) S Q := g_get hd ha hs hc hj hf hw (fun _ => rfl) k
theorem g_getR {a ci idx N : Nat} (j b : Nat) {fl : List Nat} {C : String} {T : u_T} (hd : decode M.2.1 pc = .ok (.getfield idx, 3)) (ha : a < zs_n) (hs : zs_sh a = .inr (ci, fl)) (hc : vwCl[ci]? = some (C, T, N)) (hj : j < N) (hf : fl[j]? = some (b + 2)) (hw : Cond.fieldLink M.1.cls idx (T j).1 (T j).2.1 (T j).2.2.1 ∈ zs_tbl) (k : zs_P M (pc + 3) lv (.ref b :: st) S Q) : zs_P M pc lv (.ref a :: st) S Q := g_get hd ha hs hc hj hf hw (fun _ => rfl) k
theorem g_put {a ci idx j t N : Nat} {fl : List Nat} {C : String} {T : u_T} {v : Value} {ty : FieldType} {S' : zs_S} (hd : decode M.2.1 pc = .ok (.putfield idx, 3)) (ha : a < zs_n) (hs : zs_sh a = .inr (ci, fl)) (hc : vwCl[ci]? = some (C, T, N)) (hj : j < N) (hf : fl[j]? = some t) (hw : Cond.fieldLink M.1.cls idx (T j).1 (T j).2.1 (T j).2.2.1 ∈ zs_tbl) (hfin : (T j).2.2.2 = false) (hty : parseFieldDescriptor (T j).2.2.1 = some ty) (hn : ∀ E : zs_E, narrow ty (zs_v E v) = zs_v E v ∧ fits ty (zs_v E v) = true)
    (hv : ∀ E : zs_E, zs_fv E S' a j t = zs_v E v) (ho : ∀ b i, ¬ (b = a ∧ i = j) → S'.1 b i = S.1 b i ∧ S'.2 b i = S.2 b i) (k : zs_P M (pc + 3) lv st S' Q) : zs_P M pc lv (v :: .ref a :: st) S Q := by
  obtain ⟨r, g, q⟩ := k
  refine ⟨r, ?_, q⟩
  intro p l e s m args below meth c E H locs ls B hZ hT hP hS hl
  refine va_put (D := zs_D E) (Ts := zs_tbl) (own := M.1.cls) (v := zs_v E v) (ty := ty) B.1 B.2.1 B.2.2.2.2.2.1 (zs_cls hc).1 (zs_cls hc).2.choose (zs_cls hc).2.choose_spec.1 (zs_cls hc).2.choose_spec.2 B.2.2.2.2.1 hZ.1 hP (zs_Dd hZ.2.2) hS a (zs_obj ha hs) hc j hj (B.2.2.2.2.2.1 _ hw) (fun _ h => h) hfin hty (hn E).1 (hn E).2 (by rw [zs_fl_len]; exact (List.getElem?_eq_some_iff.mp hf).1) hd (fun H locs hP _ hS => ?_)
  have e2 : (zs_ws E S).set a (E.2.2.2 a, .inr (ci, (zs_fl E S a 0 fl).set j (zs_v E v))) = zs_ws E S' := by
    refine zs_ws_set ?_ (fun b hb => zs_c_same (fun i => ho b i (fun q => hb q.1)))
    simp only [zs_c, hs]
    rw [zs_fl_set (E := E) (S := S) (S' := S') (a := a) (v := zs_v E v) fl 0 j t hf (by rw [Nat.zero_add]; exact hv E) (fun i hi => ho a i (fun q => hi (by rw [q.2, Nat.zero_add])))]
  rw [e2] at hP
  exact g p l e s m args below meth c E H locs ls B hZ hT hP hS hl
theorem g_putI {a ci idx N : Nat} (j : Nat) {fl : List Nat} {C : String} {T : u_T} {x : Int32} {ty : FieldType} (hd : decode M.2.1 pc = .ok (.putfield idx, 3)) (ha : a < zs_n) (hs : zs_sh a = .inr (ci, fl)) (hc : vwCl[ci]? = some (C, T, N)) (hj : j < N) (hf : fl[j]? = some 0) (hw : Cond.fieldLink M.1.cls idx (T j).1 (T j).2.1 (T j).2.2.1 ∈ zs_tbl) (hfin : (T j).2.2.2 = false) (hty : parseFieldDescriptor (T j).2.2.1 = some ty) (hn : narrow ty (.int x) = .int x ∧ fits ty (.int x) = true) (k : zs_P M (pc + 3) lv st (zs_up S.1 a j x, S.2) Q) : zs_P M pc lv (.int x :: .ref a :: st) S Q :=
  g_put (S' := (zs_up S.1 a j x, S.2)) hd ha hs hc hj hf hw hfin hty (fun _ => hn) (fun E => by simp [zs_fv, zs_up, zs_v]) (fun b i h => ⟨by simp only [zs_up]; rw [if_neg h], rfl⟩) k
theorem g_putL {a ci idx N : Nat} (j : Nat) {fl : List Nat} {C : String} {T : u_T} {x : Int64} (hd : decode M.2.1 pc = .ok (.putfield idx, 3)) (ha : a < zs_n) (hs : zs_sh a = .inr (ci, fl)) (hc : vwCl[ci]? = some (C, T, N)) (hj : j < N) (hf : fl[j]? = some 1) (hw : Cond.fieldLink M.1.cls idx (T j).1 (T j).2.1 (T j).2.2.1 ∈ zs_tbl) (hfin : (T j).2.2.2 = false) (hty : parseFieldDescriptor (T j).2.2.1 = some .long) (k : zs_P M (pc + 3) lv st (S.1, zs_upL S.2 a j x) Q) : zs_P M pc lv (.long x :: .ref a :: st) S Q :=
  g_put (S' := (S.1, zs_upL S.2 a j x)) hd ha hs hc hj hf hw hfin hty (fun _ => ⟨rfl, rfl⟩) (fun E => by simp [zs_fv, zs_upL, zs_v]) (fun b i h => ⟨rfl, by simp only [zs_upL]; rw [if_neg h]⟩) k
theorem g_iald {a n : Nat} {i : Int32} (hd : decode M.2.1 pc = .ok (.iaload, 1)) (ha : a < zs_n) (hs : zs_sh a = .inl (0, n)) (hin : vp_in i n) (k : zs_P M (pc + 1) lv (.int (S.1 a i.toNatClampNeg) :: st) S Q) : zs_P M pc lv (.int i :: .ref a :: st) S Q := let ⟨r, g, q⟩ := k; ⟨r, fun p l e s m args below meth c E H locs ls B hZ hT hP hS hl => va_iald (D := zs_D E) B.1 B.2.1 hZ.1 hP a 0 (zs_arr ha hs) rfl hin hd (g p l e s m args below meth c E H locs ls B hZ hT hP hS hl), q⟩
theorem g_bald {a n : Nat} {i : Int32} (hd : decode M.2.1 pc = .ok (.baload, 1)) (ha : a < zs_n) (hs : zs_sh a = .inl (1, n)) (hin : vp_in i n) (k : zs_P M (pc + 1) lv (.int (S.1 a i.toNatClampNeg) :: st) S Q) : zs_P M pc lv (.int i :: .ref a :: st) S Q := let ⟨r, g, q⟩ := k; ⟨r, fun p l e s m args below meth c E H locs ls B hZ hT hP hS hl => va_bald (D := zs_D E) B.1 B.2.1 hZ.1 hP a 1 (zs_arr ha hs) rfl hin hd (g p l e s m args below meth c E H locs ls B hZ hT hP hS hl), q⟩
theorem g_alen {a t n : Nat} {v : Int32} (hd : decode M.2.1 pc = .ok (.arraylength, 1)) (ha : a < zs_n) (hs : zs_sh a = .inl (t, n)) (ht : t < 2) (hv : Int32.ofNat n = v) (k : zs_P M (pc + 1) lv (.int v :: st) S Q) : zs_P M pc lv (.ref a :: st) S Q := by
  obtain ⟨r, g, q⟩ := k
  refine ⟨r, ?_, q⟩
  intro p l e s m args below meth c E H locs ls B hZ hT hP hS hl
  match t, ht with
  | 0, _ => exact va_alen (D := zs_D E) B.1 B.2.1 hZ.1 hP a 0 (zs_arr ha hs) (ty := .int) rfl hv hd (g p l e s m args below meth c E H locs ls B hZ hT hP hS hl)
  | 1, _ => exact va_alen (D := zs_D E) B.1 B.2.1 hZ.1 hP a 1 (zs_arr ha hs) (ty := .byte) rfl hv hd (g p l e s m args below meth c E H locs ls B hZ hT hP hS hl)
theorem zs_wsa {E : zs_E} {S : zs_S} {a t n i : Nat} {x : Int32} (hs : zs_sh a = .inl (t, n)) : (zs_ws E S).set a (E.2.2.2 a, .inl (E.2.2.1 t, n, .inl (upd (S.1 a) i x))) = zs_ws E (zs_up S.1 a i x, S.2) := by
  refine zs_ws_set ?_ (fun b hb => zs_c_same (fun j => ⟨by simp [zs_up, hb], rfl⟩))
  simp only [zs_c, hs]
  congr 4
  funext j
  simp [zs_up, upd]
theorem g_iast {a n : Nat} {i x : Int32} (hd : decode M.2.1 pc = .ok (.iastore, 1)) (ha : a < zs_n) (hs : zs_sh a = .inl (0, n)) (hin : vp_in i n) (k : zs_P M (pc + 1) lv st (zs_up S.1 a i.toNatClampNeg x, S.2) Q) : zs_P M pc lv (.int x :: .int i :: .ref a :: st) S Q := let ⟨r, g, q⟩ := k; ⟨r, fun p l e s m args below meth c E H locs ls B hZ hT hP hS hl => va_iast (D := zs_D E) B.1 B.2.1 hZ.1 hP (zs_Dd hZ.2.2) hS a 0 (zs_arr ha hs) rfl hin hd (fun H locs hP _ hS => by
    rw [zs_wsa hs] at hP
    exact g p l e s m args below meth c E H locs ls B hZ hT hP hS hl), q⟩
theorem g_bast {a n : Nat} {i x : Int32} (hd : decode M.2.1 pc = .ok (.bastore, 1)) (ha : a < zs_n) (hs : zs_sh a = .inl (1, n)) (hin : vp_in i n) (k : zs_P M (pc + 1) lv st (zs_up S.1 a i.toNatClampNeg (vp_nar .byte x), S.2) Q) : zs_P M pc lv (.int x :: .int i :: .ref a :: st) S Q := let ⟨r, g, q⟩ := k; ⟨r, fun p l e s m args below meth c E H locs ls B hZ hT hP hS hl => va_bast (D := zs_D E) B.1 B.2.1 hZ.1 hP (zs_Dd hZ.2.2) hS a 1 (zs_arr ha hs) rfl hin hd (fun H locs hP _ hS => by
    rw [zs_wsa hs] at hP
    exact g p l e s m args below meth c E H locs ls B hZ hT hP hS hl), q⟩
theorem g_iret {v : Int32} {ty : FieldType} (hd : decode M.2.1 pc = .ok (.ireturn, 1)) (hr : M.2.2.2.1 = some ty) (hn : narrow ty (.int v) = .int v) (hq : Q (some (.int v)) S) : zs_P M pc lv [.int v] S Q :=
  ⟨(some (.int v), S), fun p l e s m args below meth c E H locs ls B hZ hT hP hS hl => W.zret (ty := ty) B.1 B.2.1 (B.2.2.1.trans hr) hn (fun t ht _ => ⟨rfl, by rw [ht]; exact hP, hS.F ht⟩) hS.2.2 hd (hlocks := B.2.2.2.2.2.2), hq⟩
theorem g_lret {v : Int64} (hd : decode M.2.1 pc = .ok (.lreturn, 1)) (hr : M.2.2.2.1 = some .long) (hq : Q (some (.long v)) S) : zs_P M pc lv [.long v] S Q :=
  ⟨(some (.long v), S), fun p l e s m args below meth c E H locs ls B hZ hT hP hS hl => W.lret B.1 B.2.1 (B.2.2.1.trans hr) (fun t ht _ => ⟨rfl, by rw [ht]; exact hP, hS.F ht⟩) hS.2.2 hd (hlocks := B.2.2.2.2.2.2), hq⟩
theorem g_ret (hd : decode M.2.1 pc = .ok (.return_, 1)) (hr : M.2.2.2.1 = none) (hq : Q none S) : zs_P M pc lv [] S Q :=
  ⟨(none, S), fun p l e s m args below meth c E H locs ls B hZ hT hP hS hl => W.vret B.1 B.2.1 (B.2.2.1.trans hr) (fun t ht _ => ⟨rfl, by rw [ht]; exact hP, hS.F ht⟩) hS.2.2 hd (hlocks := B.2.2.2.2.2.2), hq⟩
theorem zs_cont {p : Program} {l : Launch} {e : Env} {R : Room} {s : State} {m : MethodId} {args a : Array Value} {below : List Frame} {meth : Method} {c : Code} {H H0 : Heap} {locs : List Loc} {ls : Array Slot} {st0 rest : List Value} {E : zs_E} {q : zs_O} {QQ : State → Prop}
    (hr : va_Run p l e R s m args below meth c H locs 0 0 0 0 (F0 m pc ls st0) rest (zs_Q E q a) (zs_A E)) (hS : va_S (zs_A E) H0 H locs)
    (kk : ∀ (H1 : Heap) (locs1 : List Loc), va_P (zs_D E) vwCl (zs_ws E q.2) H1 → va_S (zs_A E) H0 H1 locs1 → W p l e R s m args below meth c H1 locs1 0 0 QQ (F0 m (pc + 3) ls ((q.1.map (zs_v E)).toList ++ rest))) : W p l e R s m args below meth c H locs 0 0 QQ (F0 m pc ls st0) := by
  intro T hT X
  obtain ⟨v, st₀, t, T', L, h0, X', hL, e1, e2, ⟨hv, hp, hz, hk⟩, st⟩ := hr T hT X
  cases hv
  rw [h0] at hz hk
  obtain ⟨t2, a1, b1⟩ := kk T'.heap (locs ++ L) (by rw [e1]; exact hp)
    ⟨Nat.le_trans hS.1 (by rw [e1]; exact hz), fun q h1 h2 => by rw [e1, hk q (Nat.lt_of_lt_of_le h1 hS.1) h2]; exact hS.2.1 q h1 h2, fun q hq => by
      rcases List.mem_append.mp hq with h | h
      · exact hS.2.2 q h
      · exact hL q h⟩ T' rfl X'
  exact ⟨t2, st t2 a1, b1⟩
/-- what a call of N out of M takes of the tables, but for its link: room, code, class, number of arguments -/
def zs_K (M N : zs_M) (n : Nat) : Prop := (N.2.2.2.2.cells = 0 ∧ N.2.2.2.2.slots = 0 ∧ N.2.2.2.2.frames + 1 ≤ M.2.2.2.2.frames ∧ 8 + (N.2.2.1 + 11) + N.2.2.2.2.locals ≤ M.2.2.2.2.locals) ∧ Cond.code N.1 N.2.1 N.2.2.1 N.2.2.2.1 ∈ zs_tbl ∧ Cond.initialized N.1.cls ∈ zs_tbl ∧ (N.1.cls ≠ "java/lang/invoke/MethodHandle" ∧ N.1.cls ≠ "java/lang/invoke/VarHandle") ∧ (parseMethodDescriptor N.1.desc).map (fun d => d.parameters.length) = some n
theorem zs_pay {s : State} {args : Array Value} {N : zs_M} (hts : ∀ w ∈ zs_tbl, w.before args s = true) (hc : Cond.code N.1 N.2.1 N.2.2.1 N.2.2.2.1 ∈ zs_tbl) : ∀ w ∈ Cond.code N.1 N.2.1 N.2.2.1 N.2.2.2.1 :: zs_tbl, ∀ (a' : Array Value) (U : State), s.WarmedH U.vm → w.before a' U = true := by
  intro w hw a' U hW
  have hm : w ∈ zs_tbl := by
    rcases List.mem_cons.mp hw with h | h
    · rw [h]; exact hc
    · exact h
  exact word_at hW (zs_good w hm).2 (hts w hm)
theorem zs_len {n : Nat} {d : String} (h : (parseMethodDescriptor d).map (fun d => d.parameters.length) = some n) : ∀ sig, parseMethodDescriptor d = some sig → n = sig.parameters.length := by
  intro sig hs
  rw [hs] at h
  exact (Option.some.inj h).symm
theorem zs_ct {E : zs_E} {rest : List Value} (h : (rest.map fun v => v.category).sum ≤ 8) : ((rest.map (zs_v E)).map fun v => v.category).sum ≤ 8 := by
  rw [List.map_map]
  have : ((fun v : Value => v.category) ∘ zs_v E) = fun v => v.category := by funext v; exact zs_cat E v
  rw [this]; exact h
theorem zs_tl {E : zs_E} (o : Option Value) (rest : List Value) : ((o.map (zs_v E)).toList ++ rest.map (zs_v E)) = (o.toList ++ rest).map (zs_v E) := by cases o <;> rfl
/-- an instance method -/
theorem g_callV {N : zs_M} {a ci idx n NN : Nat} {fl : List Nat} {T : u_T} {As : List Value} (rest : List Value) {st0 : List Value} {Q1 : Option Value → zs_S → Prop} (hX : zs_C N (.ref a :: As) S Q1) (hd : decode M.2.1 pc = .ok (.invokevirtual idx, 3)) (hK : zs_K M N n) (hl1 : Cond.methodLink M.1.cls idx N.1 ∈ zs_tbl) (hl2 : Cond.instanceMethod N.1 ∈ zs_tbl) (hl3 : Cond.selects N.1.cls N.1 N.1 ∈ zs_tbl) (ha : a < zs_n) (hs : zs_sh a = .inr (ci, fl)) (hc : vwCl[ci]? = some (N.1.cls, T, NN)) (hn : As.length = n) (hst : st0 = As.reverse ++ .ref a :: rest) (hcat : (rest.map fun v => v.category).sum ≤ 8)
    (k : ∀ v S', Q1 v S' → zs_P M (pc + 3) lv (v.toList ++ rest) S' Q) : zs_P M pc lv st0 S Q := by
  obtain ⟨o, hX, hq1⟩ := hX
  obtain ⟨r, g, q⟩ := k _ _ hq1
  refine ⟨r, ?_, q⟩
  intro p l e s m args below meth c E H locs ls B hZ hT hP hS hl
  obtain ⟨⟨k1, k2, k3, k4⟩, k5, k6, k7, k8⟩ := hK
  have hts := B.2.2.2.2.2.1
  refine zs_cont (q := o) (rest := rest.map (zs_v E)) (va_runV (C := N.1.cls) (As := As.map (zs_v E)) (n := n) (Ts := zs_tbl) ⟨B.1, B.2.1, B.2.2.2.1, B.2.2.2.2.1, hts⟩ (hX l E) ⟨⟨k1, k2, k3, k4, zs_pay hts k5, List.mem_cons_self, hts _ k5, hts _ k6, k7, zs_len k8, hts _ hl1⟩, hts _ hl2, hts _ hl3⟩ ⟨zs_bl, va_recv hZ.1 hP hc (zs_obj ha hs), fun U hU hW => ⟨rfl, by rw [hU]; exact hP, zs_Zw hZ hW, zs_Tw hT hW hU hS⟩⟩ rfl (by rw [List.length_map]; exact hn) hl.1 (by rw [hst]; simp [zs_v]) (lv_room (zs_ct hcat)) hd ⟨Nat.zero_le _, Nat.zero_le _⟩) hS (fun H locs hP hS => ?_)
  rw [zs_tl]
  exact g p l e s m args below meth c E H locs ls B hZ hT hP hS hl
/-- a static method of the own class, or of any that may be called -/
theorem g_callS {N : zs_M} {idx n : Nat} (As rest : List Value) {st0 : List Value} {Q1 : Option Value → zs_S → Prop} (hX : zs_C N As S Q1) (hd : decode M.2.1 pc = .ok (.invokestatic idx, 3)) (hK : zs_K M N n) (hl1 : Cond.methodLink M.1.cls idx N.1 ∈ zs_tbl) (hl2 : Cond.static N.1 ∈ zs_tbl) (hn : As.length = n) (hst : st0 = As.reverse ++ rest) (hcat : (rest.map fun v => v.category).sum ≤ 8)
    (k : ∀ v S', Q1 v S' → zs_P M (pc + 3) lv (v.toList ++ rest) S' Q) : zs_P M pc lv st0 S Q := by
  obtain ⟨o, hX, hq1⟩ := hX
  obtain ⟨r, g, q⟩ := k _ _ hq1
  refine ⟨r, ?_, q⟩
  intro p l e s m args below meth c E H locs ls B hZ hT hP hS hl
  obtain ⟨⟨k1, k2, k3, k4⟩, k5, k6, k7, k8⟩ := hK
  have hts := B.2.2.2.2.2.1
  refine zs_cont (q := o) (rest := rest.map (zs_v E)) (va_runS (As := As.map (zs_v E)) (n := n) (Ts := zs_tbl) ⟨B.1, B.2.1, B.2.2.2.1, B.2.2.2.2.1, hts⟩ (hX l E) ⟨⟨k1, k2, k3, k4, zs_pay hts k5, List.mem_cons_self, hts _ k5, hts _ k6, k7, zs_len k8, hts _ hl1⟩, hts _ hl2⟩ ⟨zs_bl, fun U hU hW => ⟨rfl, by rw [hU]; exact hP, zs_Zw hZ hW, zs_Tw hT hW hU hS⟩⟩ rfl (by rw [List.length_map]; exact hn) hl.1 (by rw [hst]; simp) (lv_room (zs_ct hcat)) hd ⟨Nat.zero_le _, Nat.zero_le _⟩) hS (fun H locs hP hS => ?_)
  rw [zs_tl]
  exact g p l e s m args below meth c E H locs ls B hZ hT hP hS hl
/-- a private static method of a nest mate -/
theorem g_callN {N : zs_M} {idx n : Nat} {host : String} (As rest : List Value) {st0 : List Value} {Q1 : Option Value → zs_S → Prop} (hX : zs_C N As S Q1) (hd : decode M.2.1 pc = .ok (.invokestatic idx, 3)) (hK : zs_K M N n) (hl1 : (M.1.cls, idx, N.1, host) ∈ zs_nst) (hl2 : Cond.static N.1 ∈ zs_tbl) (hn : As.length = n) (hst : st0 = As.reverse ++ rest) (hcat : (rest.map fun v => v.category).sum ≤ 8)
    (k : ∀ v S', Q1 v S' → zs_P M (pc + 3) lv (v.toList ++ rest) S' Q) : zs_P M pc lv st0 S Q := by
  obtain ⟨o, hX, hq1⟩ := hX
  obtain ⟨r, g, q⟩ := k _ _ hq1
  refine ⟨r, ?_, q⟩
  intro p l e s m args below meth c E H locs ls B hZ hT hP hS hl
  obtain ⟨⟨k1, k2, k3, k4⟩, k5, k6, k7, k8⟩ := hK
  have hts := B.2.2.2.2.2.1
  refine zs_cont (q := o) (rest := rest.map (zs_v E)) (va_runSN (As := As.map (zs_v E)) (n := n) (Ts := zs_tbl) (host := host) ⟨B.1, B.2.1, B.2.2.2.1, B.2.2.2.2.1, hts⟩ (hX l E) ⟨⟨⟨k1, k2, k3, k4, zs_pay hts k5, List.mem_cons_self⟩, hts _ k5, hts _ k6, k7, zs_len k8, va_Nw.use rfl (hZ.2.1 _ hl1)⟩, hts _ hl2, trivial⟩ ⟨zs_bl, fun U hU hW => ⟨rfl, by rw [hU]; exact hP, zs_Zw hZ hW, zs_Tw hT hW hU hS⟩⟩ rfl (by rw [List.length_map]; exact hn) hl.1 (by rw [hst]; simp) (lv_room (zs_ct hcat)) hd ⟨Nat.zero_le _, Nat.zero_le _⟩) hS (fun H locs hP hS => ?_)
  rw [zs_tl]
  exact g p l e s m args below meth c E H locs ls B hZ hT hP hS hl
/-! rows of the five texts -/
theorem g_ldcS {i : Nat} (hi : i < 5) (hcls : M.1.cls = RX10) (hd : decode M.2.1 pc = .ok (.ldc (zs_sk.getD i 0), 2)) (k : zs_P M (pc + 2) lv (.ref (90 + i) :: st) S Q) : zs_P M pc lv st S Q := let ⟨r, g, q⟩ := k; ⟨r, fun p l e s m args below meth c E H locs ls B hZ hT hP hS hl => va_ldcS B.1 B.2.1 (by rw [← hcls]; exact B.2.2.2.2.1) (hT.2.2.2 i hi) hd (g p l e s m args below meth c E H locs ls B hZ hT hP hS hl), q⟩
theorem g_getSv {i idx : Nat} (hi : i < 5) (hw : Cond.fieldLink M.1.cls idx "java/lang/String" "value" "[B" ∈ zs_tbl) (hd : decode M.2.1 pc = .ok (.getfield idx, 3)) (k : zs_P M (pc + 3) lv (.ref (95 + i) :: st) S Q) : zs_P M pc lv (.ref (90 + i) :: st) S Q := let ⟨r, g, q⟩ := k; ⟨r, fun p l e s m args below meth c E H locs ls B hZ hT hP hS hl => vk_getf B.1 B.2.1 (hT.1.1 i hi).2.2.1 hS B.2.2.2.2.1 (B.2.2.2.2.2.1 _ hw) (fun _ h => h) hd (g p l e s m args below meth c E H locs ls B hZ hT hP hS hl), q⟩
theorem g_getSc {i idx : Nat} (hi : i < 5) (hw : Cond.fieldLink M.1.cls idx "java/lang/String" "coder" "B" ∈ zs_tbl) (hd : decode M.2.1 pc = .ok (.getfield idx, 3)) (k : zs_P M (pc + 3) lv (.int 0 :: st) S Q) : zs_P M pc lv (.ref (90 + i) :: st) S Q := let ⟨r, g, q⟩ := k; ⟨r, fun p l e s m args below meth c E H locs ls B hZ hT hP hS hl => vk_getf B.1 B.2.1 (hT.1.1 i hi).2.1 hS B.2.2.2.2.1 (B.2.2.2.2.2.1 _ hw) (fun _ h => h) hd (g p l e s m args below meth c E H locs ls B hZ hT hP hS hl), q⟩
theorem g_getCS {idx : Nat} (hw : Cond.fieldLink M.1.cls idx "java/lang/String" "COMPACT_STRINGS" "Z" ∈ zs_tbl) (hd : decode M.2.1 pc = .ok (.getstatic idx, 3)) (k : zs_P M (pc + 3) lv (.int 1 :: st) S Q) : zs_P M pc lv st S Q := let ⟨r, g, q⟩ := k; ⟨r, fun p l e s m args below meth c E H locs ls B hZ hT hP hS hl => va_gets B.1 B.2.1 hT.2.1 hS B.2.2.2.2.1 (B.2.2.2.2.2.1 _ hw) (fun _ h => h) hd (g p l e s m args below meth c E H locs ls B hZ hT hP hS hl), q⟩
theorem g_getFM {idx : Nat} {r : zs_O} (hw : Cond.fieldLink M.1.cls idx "jdk/internal/util/Preconditions" "SIOOBE_FORMATTER" "Ljava/util/function/BiFunction;" ∈ zs_tbl) (hd : decode M.2.1 pc = .ok (.getstatic idx, 3)) (k1 : zs_G M (pc + 3) lv (.null :: st) S r) (k2 : zs_G M (pc + 3) lv (.ref 100 :: st) S r) : zs_G M pc lv st S r := fun p l e s m args below meth c E H locs ls B hZ hT hP hS hl => hT.2.2.1.elim (fun z => va_gets B.1 B.2.1 z hS B.2.2.2.2.1 (B.2.2.2.2.2.1 _ hw) (fun _ h => h) hd (k1 p l e s m args below meth c E H locs ls B hZ hT hP hS hl)) (fun z => va_gets B.1 B.2.1 z hS B.2.2.2.2.1 (B.2.2.2.2.2.1 _ hw) (fun _ h => h) hd (k2 p l e s m args below meth c E H locs ls B hZ hT hP hS hl))
theorem g_alenS {i : Nat} (hi : i < 5) (hd : decode M.2.1 pc = .ok (.arraylength, 1)) (k : zs_P M (pc + 1) lv (.int (nI (zs_sl.getD i 0)) :: st) S Q) : zs_P M pc lv (.ref (95 + i) :: st) S Q := let ⟨r, g, q⟩ := k; ⟨r, fun p l e s m args below meth c E H locs ls B hZ hT hP hS hl => va_tlen B.1 B.2.1 (hT.1.1 i hi).2.2.2 hS rfl hd (g p l e s m args below meth c E H locs ls B hZ hT hP hS hl), q⟩
theorem g_baldS {i : Nat} {j : Int32} (hi : i < 5) (hin : vp_in j (zs_sl.getD i 0)) (hd : decode M.2.1 pc = .ok (.baload, 1)) (k : zs_P M (pc + 1) lv (.int ((zs_sb.getD i []).getD j.toNatClampNeg 0) :: st) S Q) : zs_P M pc lv (.int j :: .ref (95 + i) :: st) S Q := let ⟨r, g, q⟩ := k; ⟨r, fun p l e s m args below meth c E H locs ls B hZ hT hP hS hl => va_tb B.1 B.2.1 (hT.1.1 i hi).2.2.2 hS hin rfl hd (g p l e s m args below meth c E H locs ls B hZ hT hP hS hl), q⟩
theorem g_i2c {x : Int32} {v : Int32} (hd : decode M.2.1 pc = .ok (.i2c, 1)) (hv : (x.toUInt32 % 65536).toInt32 = v) (k : zs_P M (pc + 1) lv (.int v :: st) S Q) : zs_P M pc lv (.int x :: st) S Q := let ⟨r, g, q⟩ := k; ⟨r, fun p l e s m args below meth c E H locs ls B hZ hT hP hS hl => lv_i2c B.1 B.2.1 hd hv (g p l e s m args below meth c E H locs ls B hZ hT hP hS hl), q⟩
/-- a method of a text -/
theorem g_callVS {N : zs_M} {i idx n : Nat} {As : List Value} (hi : i < 5) (hN : N.1.cls = "java/lang/String") (rest : List Value) {st0 : List Value} {Q1 : Option Value → zs_S → Prop} (hX : zs_C N (.ref (90 + i) :: As) S Q1) (hd : decode M.2.1 pc = .ok (.invokevirtual idx, 3)) (hK : zs_K M N n) (hl1 : Cond.methodLink M.1.cls idx N.1 ∈ zs_tbl) (hl2 : Cond.instanceMethod N.1 ∈ zs_tbl) (hl3 : Cond.selects N.1.cls N.1 N.1 ∈ zs_tbl) (hn : As.length = n) (hst : st0 = As.reverse ++ .ref (90 + i) :: rest) (hcat : (rest.map fun v => v.category).sum ≤ 8)
    (k : ∀ v S', Q1 v S' → zs_P M (pc + 3) lv (v.toList ++ rest) S' Q) : zs_P M pc lv st0 S Q := by
  obtain ⟨o, hX, hq1⟩ := hX
  obtain ⟨r, g, q⟩ := k _ _ hq1
  refine ⟨r, ?_, q⟩
  intro p l e s m args below meth c E H locs ls B hZ hT hP hS hl
  obtain ⟨⟨k1, k2, k3, k4⟩, k5, k6, k7, k8⟩ := hK
  have hts := B.2.2.2.2.2.1
  refine zs_cont (q := o) (rest := rest.map (zs_v E)) (va_runV (C := N.1.cls) (As := As.map (zs_v E)) (n := n) (Ts := zs_tbl) ⟨B.1, B.2.1, B.2.2.2.1, B.2.2.2.2.1, hts⟩ (hX l E) ⟨⟨k1, k2, k3, k4, zs_pay hts k5, List.mem_cons_self, hts _ k5, hts _ k6, k7, zs_len k8, hts _ hl1⟩, hts _ hl2, hts _ hl3⟩ ⟨zs_bl, by rw [hN]; exact vk_recv (adK := fun i => E.2.2.2 (90 + i)) (adV := fun i => E.2.2.2 (95 + i)) (i := i) hT.1 hi hS, fun U hU hW => ⟨rfl, by rw [hU]; exact hP, zs_Zw hZ hW, zs_Tw hT hW hU hS⟩⟩ rfl (by rw [List.length_map]; exact hn) hl.1 (by rw [hst]; simp [zs_v]) (lv_room (zs_ct hcat)) hd ⟨Nat.zero_le _, Nat.zero_le _⟩) hS (fun H locs hP hS => ?_)
  rw [zs_tl]
  exact g p l e s m args below meth c E H locs ls B hZ hT hP hS hl
end zs_rows
