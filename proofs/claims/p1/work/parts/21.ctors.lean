/-! THE CONSTRUCTORS: over the kit's own worlds; new cells come in the order of their numbers -/
theorem zs_arrK {ty : FieldType} {args : Array Value} {s : State} (h : (Cond.arrayClass ty).before args s = true) : ∃ cA : ClassId, ArrOfT s cA ty ∧ s.vm.findClass ("[" ++ ty.toString) = some cA := by
  obtain ⟨cA, kA, comp, h1, h2, h3⟩ := Cond.arrayClass_spec h
  exact ⟨cA, fun n z => ⟨fun k h => (by cases h), kA, h2, comp, h3⟩, h1⟩
abbrev zs_tb (cI cB : ClassId) : List (ClassId × FieldType) := [(cI, .int), (cB, .byte)]
theorem zs_cI {D : va_G} {cI cB cA : ClassId} {s : State} (h : va_K D vwCl (zs_tb cI cB ++ [(cA, .int)]) s) : cI = cA := by
  have a := (h.2 0 _ rfl).2
  have b := (h.2 2 _ rfl).2
  exact Option.some.inj (a.symm.trans b)
theorem zs_cB {D : va_G} {cI cB cA : ClassId} {s : State} (h : va_K D vwCl (zs_tb cI cB ++ [(cA, .byte)]) s) : cB = cA := by
  have a := (h.2 1 _ rfl).2
  have b := (h.2 2 _ rfl).2
  exact Option.some.inj (a.symm.trans b)
/-- what a constructor begins with: its world, the tables' words on classes, nest mates -/
def zs_kp (D : va_G) (cI cB : ClassId) (w : va_W) (sz : Nat) (U : State) : Prop := U.heap.size = sz ∧ va_P D vwCl w U.heap ∧ va_K D vwCl (zs_tb cI cB) U ∧ va_D (fun _ => True) w ∧ zs_N U
theorem zs_kb {D : va_G} {cI cB : ClassId} {w : va_W} {sz : Nat} {av : List Value} : FrameBlind (va_Pc av (zs_kp D cI cB w sz)) := by
  intro a U g mk q
  obtain ⟨q0, q1, qP, qK, qD, qN⟩ := q
  exact ⟨q0, q1, qP, va_K.moved (u := U) (U := U.calling g mk a) (Vm.Alike.refl U.vm) qK, qD, fun w hw => va_Nw.same rfl rfl (qN w hw)⟩
def zs_kq (D : va_G) (w : (Nat → Nat) → va_W) (A : Nat → Prop) : Array Value → State → Outcome → State → Prop := va_Qv (fun _ : Nat → Nat => True) (fun u t => va_P D vwCl (w u) t.heap ∧ va_D A (w u)) A
abbrev zs_a0 (cI : ClassId) (n : Nat) : va_E := .inl (cI, n, .inl (fun _ => 0))
theorem ow_inst : Cond.instanceMethod Lib.objectInit ∈ zs_tbl := zs_in 97 (by decide +kernel) rfl
theorem ow_code : Cond.code Lib.objectInit ⟨#[0xb1]⟩ 1 none ∈ zs_tbl := zs_in 98 (by decide +kernel) rfl
theorem aw_int : Cond.arrayClass .int ∈ zs_tbl := zs_in 145 (by decide +kernel) rfl
theorem aw_byte : Cond.arrayClass .byte ∈ zs_tbl := zs_in 653 (by decide +kernel) rfl
theorem ol_RX3 : Cond.methodLink RX3 3 Lib.objectInit ∈ zs_tbl := zs_in 110 (by decide +kernel) rfl
theorem fk_RX3_9 : Cond.fieldLink RX3 9 (TX3 2).1 (TX3 2).2.1 (TX3 2).2.2.1 ∈ zs_tbl := zs_in 117 (by decide +kernel) rfl
theorem fk_RX3_15 : Cond.fieldLink RX3 15 (TX3 3).1 (TX3 3).2.1 (TX3 3).2.2.1 ∈ zs_tbl := zs_in 121 (by decide +kernel) rfl
theorem fk_RX3_19 : Cond.fieldLink RX3 19 (TX3 4).1 (TX3 4).2.1 (TX3 4).2.2.1 ∈ zs_tbl := zs_in 126 (by decide +kernel) rfl
theorem fk_RX3_22 : Cond.fieldLink RX3 22 (TX3 5).1 (TX3 5).2.1 (TX3 5).2.2.1 ∈ zs_tbl := zs_in 129 (by decide +kernel) rfl
set_option maxHeartbeats 4000000 in
set_option maxRecDepth 100000 in
theorem k_X3_init (l : Launch) (dC : Nat → ClassId) (dI : Nat → Nat → Nat) (cI cB : ClassId) (h0 sz : Nat) : Met l yX3_init (Cond.code yX3_init cX3_init 1 none :: zs_tbl) { frames := 1, cells := 3, slots := 22, locals := 12 } (va_Pc [.ref h0] (zs_kp (dC, dI) cI cB [(h0, .inr (1, [.int 0, .int 0, .int 0, .null, .null, .null]))] sz)) (zs_kq (dC, dI) (fun u => [(h0, .inr (1, [.int 0, .int 0, .int 1, .ref (u 0), .ref (u 1), .ref (u 2)])), ((u 0), zs_a0 cI 12), ((u 1), zs_a0 cI 5), ((u 2), zs_a0 cI 5)]) (va_A [(h0, .inr (1, [.int 0, .int 0, .int 0, .null, .null, .null]))] sz)) 3 22 (va_A [(h0, .inr (1, [.int 0, .int 0, .int 0, .null, .null, .null]))] sz) := by
  refine Met.ofW (cc := cX3_init) (maxL := 1) (ret := none) (by decide) rfl ?_
  intro p e s m args below meth c s₁ B hml hv
  obtain ⟨rfl, hsz, hP, hK, hD0, hN⟩ := hv
  have hx := B.exec
  have hb := B.bytes
  have hr := B.returns
  have hts0 := atoms_spec (ws := Cond.code yX3_init cX3_init 1 none :: zs_tbl) B.pre
  have hts : ∀ w ∈ zs_tbl, w.before _ s = true := fun w hw => hts0 w (List.mem_cons_of_mem _ hw)
  have hown : s.vm.findClass RX3 = some m.cls := findClass_of_methodNamed B.named
  have hlocks := B.notSynchronized
  have hin : meth.name = "<init>" := (name_of_methodNamed B.named B.method).1
  subst hsz
  have hD := hD0.self (sz := s.heap.size)
  generalize hAe : va_A [(h0, .inr (1, [.int 0, .int 0, .int 0, .null, .null, .null]))] s.heap.size = A at hD ⊢
  have hA : ∀ q : Nat, s.heap.size ≤ q → A q := fun q h => by rw [← hAe]; exact Or.inr h
  have hS : va_S A s.heap s.heap [] := va_S.rf
  have hl := lv_entry ([.ref h0]) (n := 1) (Nat.le_of_ble_eq_true rfl)
  rw [lg_entry_eq]
  generalize (lg_sl ([.ref h0]) ++ List.replicate (1 - (lg_sl ([.ref h0])).length) Slot.unset).toArray = ls at hl ⊢
  have hl : lv_has ls 1 [(0, .ref h0)] := hl
  refine lv_aload_n hx hb dX3_init_0 rfl (lv_at hl 0 rfl) ?_
  refine W.objInit hx hb hown (hts _ ol_RX3) (hts _ ow_inst) (hts _ ow_code) rfl (by rw [hml]; exact hl.1) rfl dX3_init_1 (Nat.le_of_ble_eq_true rfl) (Nat.le_of_ble_eq_true rfl) ?_
  refine W.eq (g2 := F0 m 4 ls []) rfl ?_
  refine lv_aload_n hx hb dX3_init_4 rfl (lv_at hl 0 rfl) ?_
  refine lv_iconst (v := 1) hx hb dX3_init_5 (by decide) ?_
  refine va_put (D := (dC, dI)) (ci := 1) (v := .int 1) (ty := .int) (C := RX3) (T := TX3) (N := 6) hx hb hts zs_uw1 tyX3 tyX3_ok nmX3 hown hK hP hD hS 0 rfl rfl 2 (by decide) (hts _ fk_RX3_9) (fun _ h9 => h9) rfl (by decide +kernel) rfl rfl (Nat.le_of_ble_eq_true rfl) dX3_init_6 (fun H locs hP hD hS => ?_)
  have hP : va_P (dC, dI) vwCl [(h0, .inr (1, [.int 0, .int 0, .int 1, .null, .null, .null]))] H := hP
  have hD : va_D A [(h0, .inr (1, [.int 0, .int 0, .int 1, .null, .null, .null]))] := hD
  refine lv_aload_n hx hb dX3_init_9 rfl (lv_at hl 0 rfl) ?_
  refine lv_bipush (v := 12) hx hb dX3_init_10 (by decide) ?_
  refine va_newa (atype := .int) (ty := .int) (N' := 12) (a0 := (12, .inl (fun _ => 0))) hx hb (hts _ aw_int) rfl hK hP hD hS hA (fun cA => rfl) (by decide) (by decide) (by decide) (Nat.le_of_ble_eq_true rfl) (Nat.le_of_ble_eq_true rfl) dX3_init_12 (fun q1 cA H hK2 hP hD hS => ?_)
  obtain rfl := zs_cI hK2
  have hP : va_P (dC, dI) vwCl [(h0, .inr (1, [.int 0, .int 0, .int 1, .null, .null, .null])), (q1, zs_a0 cI 12)] H := hP
  have hD : va_D A [(h0, .inr (1, [.int 0, .int 0, .int 1, .null, .null, .null])), (q1, zs_a0 cI 12)] := hD
  refine va_putF (D := (dC, dI)) (ci := 1) (v := .ref q1) (ty := .array .int) (C := RX3) (T := TX3) (N := 6) hx hb hts zs_uw1 tyX3 tyX3_ok nmX3 hown hK hP hD hS 0 rfl rfl 3 (by decide) (hts _ fk_RX3_15) (fun _ h9 => h9) rfl hin rfl (by decide +kernel) rfl rfl (Nat.le_of_ble_eq_true rfl) dX3_init_14 (fun H locs hP hD hS => ?_)
  have hP : va_P (dC, dI) vwCl [(h0, .inr (1, [.int 0, .int 0, .int 1, .ref q1, .null, .null])), (q1, zs_a0 cI 12)] H := hP
  have hD : va_D A [(h0, .inr (1, [.int 0, .int 0, .int 1, .ref q1, .null, .null])), (q1, zs_a0 cI 12)] := hD
  refine lv_aload_n hx hb dX3_init_17 rfl (lv_at hl 0 rfl) ?_
  refine lv_iconst (v := 5) hx hb dX3_init_18 (by decide) ?_
  refine va_newa (atype := .int) (ty := .int) (N' := 5) (a0 := (5, .inl (fun _ => 0))) hx hb (hts _ aw_int) rfl hK hP hD hS hA (fun cA => rfl) (by decide) (by decide) (by decide) (Nat.le_of_ble_eq_true rfl) (Nat.le_of_ble_eq_true rfl) dX3_init_19 (fun q2 cA H hK2 hP hD hS => ?_)
  obtain rfl := zs_cI hK2
  have hP : va_P (dC, dI) vwCl [(h0, .inr (1, [.int 0, .int 0, .int 1, .ref q1, .null, .null])), (q1, zs_a0 cI 12), (q2, zs_a0 cI 5)] H := hP
  have hD : va_D A [(h0, .inr (1, [.int 0, .int 0, .int 1, .ref q1, .null, .null])), (q1, zs_a0 cI 12), (q2, zs_a0 cI 5)] := hD
  refine va_putF (D := (dC, dI)) (ci := 1) (v := .ref q2) (ty := .array .int) (C := RX3) (T := TX3) (N := 6) hx hb hts zs_uw1 tyX3 tyX3_ok nmX3 hown hK hP hD hS 0 rfl rfl 4 (by decide) (hts _ fk_RX3_19) (fun _ h9 => h9) rfl hin rfl (by decide +kernel) rfl rfl (Nat.le_of_ble_eq_true rfl) dX3_init_21 (fun H locs hP hD hS => ?_)
  have hP : va_P (dC, dI) vwCl [(h0, .inr (1, [.int 0, .int 0, .int 1, .ref q1, .ref q2, .null])), (q1, zs_a0 cI 12), (q2, zs_a0 cI 5)] H := hP
  have hD : va_D A [(h0, .inr (1, [.int 0, .int 0, .int 1, .ref q1, .ref q2, .null])), (q1, zs_a0 cI 12), (q2, zs_a0 cI 5)] := hD
  refine lv_aload_n hx hb dX3_init_24 rfl (lv_at hl 0 rfl) ?_
  refine lv_iconst (v := 5) hx hb dX3_init_25 (by decide) ?_
  refine va_newa (atype := .int) (ty := .int) (N' := 5) (a0 := (5, .inl (fun _ => 0))) hx hb (hts _ aw_int) rfl hK hP hD hS hA (fun cA => rfl) (by decide) (by decide) (by decide) (Nat.le_of_ble_eq_true rfl) (Nat.le_of_ble_eq_true rfl) dX3_init_26 (fun q3 cA H hK2 hP hD hS => ?_)
  obtain rfl := zs_cI hK2
  have hP : va_P (dC, dI) vwCl [(h0, .inr (1, [.int 0, .int 0, .int 1, .ref q1, .ref q2, .null])), (q1, zs_a0 cI 12), (q2, zs_a0 cI 5), (q3, zs_a0 cI 5)] H := hP
  have hD : va_D A [(h0, .inr (1, [.int 0, .int 0, .int 1, .ref q1, .ref q2, .null])), (q1, zs_a0 cI 12), (q2, zs_a0 cI 5), (q3, zs_a0 cI 5)] := hD
  refine va_putF (D := (dC, dI)) (ci := 1) (v := .ref q3) (ty := .array .int) (C := RX3) (T := TX3) (N := 6) hx hb hts zs_uw1 tyX3 tyX3_ok nmX3 hown hK hP hD hS 0 rfl rfl 5 (by decide) (hts _ fk_RX3_22) (fun _ h9 => h9) rfl hin rfl (by decide +kernel) rfl rfl (Nat.le_of_ble_eq_true rfl) dX3_init_28 (fun H locs hP hD hS => ?_)
  have hP : va_P (dC, dI) vwCl [(h0, .inr (1, [.int 0, .int 0, .int 1, .ref q1, .ref q2, .ref q3])), (q1, zs_a0 cI 12), (q2, zs_a0 cI 5), (q3, zs_a0 cI 5)] H := hP
  have hD : va_D A [(h0, .inr (1, [.int 0, .int 0, .int 1, .ref q1, .ref q2, .ref q3])), (q1, zs_a0 cI 12), (q2, zs_a0 cI 5), (q3, zs_a0 cI 5)] := hD
  exact W.vret hx hb hr (fun t ht hW => ⟨⟨fun k => [q1, q2, q3].getD k 0, rfl, trivial, by rw [ht]; exact hP, hD⟩, hS.F ht⟩) hS.2.2 dX3_init_31
theorem ol_RX4 : Cond.methodLink RX4 3 Lib.objectInit ∈ zs_tbl := zs_in 151 (by decide +kernel) rfl
theorem fk_RX4_11 : Cond.fieldLink RX4 11 (TX4 0).1 (TX4 0).2.1 (TX4 0).2.2.1 ∈ zs_tbl := zs_in 152 (by decide +kernel) rfl
set_option maxHeartbeats 4000000 in
set_option maxRecDepth 100000 in
theorem k_X4_init (l : Launch) (dC : Nat → ClassId) (dI : Nat → Nat → Nat) (cI cB : ClassId) (h0 sz : Nat) : Met l yX4_init (Cond.code yX4_init cX4_init 1 none :: zs_tbl) { frames := 1, cells := 1, slots := 200, locals := 12 } (va_Pc [.ref h0] (zs_kp (dC, dI) cI cB [(h0, .inr (2, [.null, .int 0]))] sz)) (zs_kq (dC, dI) (fun u => [(h0, .inr (2, [.ref (u 0), .int 0])), ((u 0), zs_a0 cI 200)]) (va_A [(h0, .inr (2, [.null, .int 0]))] sz)) 1 200 (va_A [(h0, .inr (2, [.null, .int 0]))] sz) := by
  refine Met.ofW (cc := cX4_init) (maxL := 1) (ret := none) (by decide) rfl ?_
  intro p e s m args below meth c s₁ B hml hv
  obtain ⟨rfl, hsz, hP, hK, hD0, hN⟩ := hv
  have hx := B.exec
  have hb := B.bytes
  have hr := B.returns
  have hts0 := atoms_spec (ws := Cond.code yX4_init cX4_init 1 none :: zs_tbl) B.pre
  have hts : ∀ w ∈ zs_tbl, w.before _ s = true := fun w hw => hts0 w (List.mem_cons_of_mem _ hw)
  have hown : s.vm.findClass RX4 = some m.cls := findClass_of_methodNamed B.named
  have hlocks := B.notSynchronized
  have hin : meth.name = "<init>" := (name_of_methodNamed B.named B.method).1
  subst hsz
  have hD := hD0.self (sz := s.heap.size)
  generalize hAe : va_A [(h0, .inr (2, [.null, .int 0]))] s.heap.size = A at hD ⊢
  have hA : ∀ q : Nat, s.heap.size ≤ q → A q := fun q h => by rw [← hAe]; exact Or.inr h
  have hS : va_S A s.heap s.heap [] := va_S.rf
  have hl := lv_entry ([.ref h0]) (n := 1) (Nat.le_of_ble_eq_true rfl)
  rw [lg_entry_eq]
  generalize (lg_sl ([.ref h0]) ++ List.replicate (1 - (lg_sl ([.ref h0])).length) Slot.unset).toArray = ls at hl ⊢
  have hl : lv_has ls 1 [(0, .ref h0)] := hl
  refine lv_aload_n hx hb dX4_init_0 rfl (lv_at hl 0 rfl) ?_
  refine W.objInit hx hb hown (hts _ ol_RX4) (hts _ ow_inst) (hts _ ow_code) rfl (by rw [hml]; exact hl.1) rfl dX4_init_1 (Nat.le_of_ble_eq_true rfl) (Nat.le_of_ble_eq_true rfl) ?_
  refine W.eq (g2 := F0 m 4 ls []) rfl ?_
  refine lv_aload_n hx hb dX4_init_4 rfl (lv_at hl 0 rfl) ?_
  refine lv_sipush (v := 200) hx hb dX4_init_5 (by decide) ?_
  refine va_newa (atype := .int) (ty := .int) (N' := 200) (a0 := (200, .inl (fun _ => 0))) hx hb (hts _ aw_int) rfl hK hP hD hS hA (fun cA => rfl) (by decide) (by decide) (by decide) (Nat.le_of_ble_eq_true rfl) (Nat.le_of_ble_eq_true rfl) dX4_init_8 (fun q1 cA H hK2 hP hD hS => ?_)
  obtain rfl := zs_cI hK2
  have hP : va_P (dC, dI) vwCl [(h0, .inr (2, [.null, .int 0])), (q1, zs_a0 cI 200)] H := hP
  have hD : va_D A [(h0, .inr (2, [.null, .int 0])), (q1, zs_a0 cI 200)] := hD
  refine va_putF (D := (dC, dI)) (ci := 2) (v := .ref q1) (ty := .array .int) (C := RX4) (T := TX4) (N := 2) hx hb hts zs_uw2 tyX4 tyX4_ok nmX4 hown hK hP hD hS 0 rfl rfl 0 (by decide) (hts _ fk_RX4_11) (fun _ h9 => h9) rfl hin rfl (by decide +kernel) rfl rfl (Nat.le_of_ble_eq_true rfl) dX4_init_10 (fun H locs hP hD hS => ?_)
  have hP : va_P (dC, dI) vwCl [(h0, .inr (2, [.ref q1, .int 0])), (q1, zs_a0 cI 200)] H := hP
  have hD : va_D A [(h0, .inr (2, [.ref q1, .int 0])), (q1, zs_a0 cI 200)] := hD
  exact W.vret hx hb hr (fun t ht hW => ⟨⟨fun k => [q1].getD k 0, rfl, trivial, by rw [ht]; exact hP, hD⟩, hS.F ht⟩) hS.2.2 dX4_init_13
theorem ol_RX5 : Cond.methodLink RX5 3 Lib.objectInit ∈ zs_tbl := zs_in 165 (by decide +kernel) rfl
theorem fk_RX5_9 : Cond.fieldLink RX5 9 (TX5 1).1 (TX5 1).2.1 (TX5 1).2.2.1 ∈ zs_tbl := zs_in 167 (by decide +kernel) rfl
theorem fk_RX5_15 : Cond.fieldLink RX5 15 (TX5 0).1 (TX5 0).2.1 (TX5 0).2.2.1 ∈ zs_tbl := zs_in 166 (by decide +kernel) rfl
set_option maxHeartbeats 4000000 in
set_option maxRecDepth 100000 in
theorem k_X5_init (l : Launch) (dC : Nat → ClassId) (dI : Nat → Nat → Nat) (cI cB : ClassId) (h0 sz : Nat) (v : Int32) : Met l yX5_init (Cond.code yX5_init cX5_init 2 none :: zs_tbl) { frames := 1, cells := 1, slots := 24, locals := 12 } (va_Pc [.ref h0, .int v] (zs_kp (dC, dI) cI cB [(h0, .inr (3, [.int 0, .null, .int 0]))] sz)) (zs_kq (dC, dI) (fun u => [(h0, .inr (3, [.int v, .ref (u 0), .int 0])), ((u 0), zs_a0 cI 24)]) (va_A [(h0, .inr (3, [.int 0, .null, .int 0]))] sz)) 1 24 (va_A [(h0, .inr (3, [.int 0, .null, .int 0]))] sz) := by
  refine Met.ofW (cc := cX5_init) (maxL := 2) (ret := none) (by decide) rfl ?_
  intro p e s m args below meth c s₁ B hml hv
  obtain ⟨rfl, hsz, hP, hK, hD0, hN⟩ := hv
  have hx := B.exec
  have hb := B.bytes
  have hr := B.returns
  have hts0 := atoms_spec (ws := Cond.code yX5_init cX5_init 2 none :: zs_tbl) B.pre
  have hts : ∀ w ∈ zs_tbl, w.before _ s = true := fun w hw => hts0 w (List.mem_cons_of_mem _ hw)
  have hown : s.vm.findClass RX5 = some m.cls := findClass_of_methodNamed B.named
  have hlocks := B.notSynchronized
  have hin : meth.name = "<init>" := (name_of_methodNamed B.named B.method).1
  subst hsz
  have hD := hD0.self (sz := s.heap.size)
  generalize hAe : va_A [(h0, .inr (3, [.int 0, .null, .int 0]))] s.heap.size = A at hD ⊢
  have hA : ∀ q : Nat, s.heap.size ≤ q → A q := fun q h => by rw [← hAe]; exact Or.inr h
  have hS : va_S A s.heap s.heap [] := va_S.rf
  have hl := lv_entry ([.ref h0, .int v]) (n := 2) (Nat.le_of_ble_eq_true rfl)
  rw [lg_entry_eq]
  generalize (lg_sl ([.ref h0, .int v]) ++ List.replicate (2 - (lg_sl ([.ref h0, .int v])).length) Slot.unset).toArray = ls at hl ⊢
  have hl : lv_has ls 2 [(0, .ref h0), (1, .int v)] := hl
  refine lv_aload_n hx hb dX5_init_0 rfl (lv_at hl 0 rfl) ?_
  refine W.objInit hx hb hown (hts _ ol_RX5) (hts _ ow_inst) (hts _ ow_code) rfl (by rw [hml]; exact hl.1) rfl dX5_init_1 (Nat.le_of_ble_eq_true rfl) (Nat.le_of_ble_eq_true rfl) ?_
  refine W.eq (g2 := F0 m 4 ls []) rfl ?_
  refine lv_aload_n hx hb dX5_init_4 rfl (lv_at hl 0 rfl) ?_
  refine lv_bipush (v := 24) hx hb dX5_init_5 (by decide) ?_
  refine va_newa (atype := .int) (ty := .int) (N' := 24) (a0 := (24, .inl (fun _ => 0))) hx hb (hts _ aw_int) rfl hK hP hD hS hA (fun cA => rfl) (by decide) (by decide) (by decide) (Nat.le_of_ble_eq_true rfl) (Nat.le_of_ble_eq_true rfl) dX5_init_7 (fun q1 cA H hK2 hP hD hS => ?_)
  obtain rfl := zs_cI hK2
  have hP : va_P (dC, dI) vwCl [(h0, .inr (3, [.int 0, .null, .int 0])), (q1, zs_a0 cI 24)] H := hP
  have hD : va_D A [(h0, .inr (3, [.int 0, .null, .int 0])), (q1, zs_a0 cI 24)] := hD
  refine va_putF (D := (dC, dI)) (ci := 3) (v := .ref q1) (ty := .array .int) (C := RX5) (T := TX5) (N := 3) hx hb hts zs_uw3 tyX5 tyX5_ok nmX5 hown hK hP hD hS 0 rfl rfl 1 (by decide) (hts _ fk_RX5_9) (fun _ h9 => h9) rfl hin rfl (by decide +kernel) rfl rfl (Nat.le_of_ble_eq_true rfl) dX5_init_9 (fun H locs hP hD hS => ?_)
  have hP : va_P (dC, dI) vwCl [(h0, .inr (3, [.int 0, .ref q1, .int 0])), (q1, zs_a0 cI 24)] H := hP
  have hD : va_D A [(h0, .inr (3, [.int 0, .ref q1, .int 0])), (q1, zs_a0 cI 24)] := hD
  refine lv_aload_n hx hb dX5_init_12 rfl (lv_at hl 0 rfl) ?_
  refine lv_iload_n hx hb dX5_init_13 rfl (lv_at hl 1 rfl) ?_
  refine va_putF (D := (dC, dI)) (ci := 3) (v := .int v) (ty := .int) (C := RX5) (T := TX5) (N := 3) hx hb hts zs_uw3 tyX5 tyX5_ok nmX5 hown hK hP hD hS 0 rfl rfl 0 (by decide) (hts _ fk_RX5_15) (fun _ h9 => h9) rfl hin rfl (by decide +kernel) rfl rfl (Nat.le_of_ble_eq_true rfl) dX5_init_14 (fun H locs hP hD hS => ?_)
  have hP : va_P (dC, dI) vwCl [(h0, .inr (3, [.int v, .ref q1, .int 0])), (q1, zs_a0 cI 24)] H := hP
  have hD : va_D A [(h0, .inr (3, [.int v, .ref q1, .int 0])), (q1, zs_a0 cI 24)] := hD
  exact W.vret hx hb hr (fun t ht hW => ⟨⟨fun k => [q1].getD k 0, rfl, trivial, by rw [ht]; exact hP, hD⟩, hS.F ht⟩) hS.2.2 dX5_init_17
