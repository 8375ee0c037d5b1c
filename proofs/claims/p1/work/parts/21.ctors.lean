/-! THE CONSTRUCTORS: over the kit's own worlds; new cells come in the order of their numbers -/
theorem zs_arrK {ty : FieldType} {args : Array Value} {s : State} (h : (Cond.arrayClass ty).before args s = true) : ∃ cA : ClassId, ArrOfT s cA ty ∧ s.vm.findClass ("[" ++ ty.toString) = some cA := by
  obtain ⟨cA, kA, comp, h1, h2, h3⟩ := Cond.arrayClass_spec h
  exact ⟨cA, fun n z => ⟨fun k h => (by cases h), kA, h2, comp, h3⟩, h1⟩
abbrev zs_tb (cI cB : ClassId) : List (ClassId × FieldType) := [(cI, .int), (cB, .byte)]
theorem zs_cI {D : va_G} {cI cB cA : ClassId} {s : State} (h : va_K D vwCl (zs_tb cI cB ++ [(cA, .int)]) s) : cI = cA := by
  have a := (h.2 0 _ rfl).2
  have b := (h.2 2 _ rfl).2
  exact Option.some.inj (a.symm.trans b)
theorem zs_cB {D : va_G} {cI cB cA : ClassId} {s : State} (h : va_K D vwCl (zs_tb cI cB ++ [(cA, .byte)]) s) : cB = cA := by
  have a := (h.2 1 _ rfl).2
  have b := (h.2 2 _ rfl).2
  exact Option.some.inj (a.symm.trans b)
/-- what a constructor begins with: its world, the tables' words on classes, nest mates -/
def zs_kp (D : va_G) (cI cB : ClassId) (w : va_W) (sz : Nat) (U : State) : Prop := U.heap.size = sz ∧ va_P D vwCl w U.heap ∧ va_K D vwCl (zs_tb cI cB) U ∧ va_D (fun _ => True) w ∧ zs_N U
theorem zs_kb {D : va_G} {cI cB : ClassId} {w : va_W} {sz : Nat} {av : List Value} : FrameBlind (va_Pc av (zs_kp D cI cB w sz)) := by
  intro a U g mk q
  obtain ⟨q0, q1, qP, qK, qD, qN⟩ := q
  exact ⟨q0, q1, qP, va_K.moved (u := U) (U := U.calling g mk a) (Vm.Alike.refl U.vm) qK, qD, fun w hw => va_Nw.same rfl rfl (qN w hw)⟩
def zs_kq (D : va_G) (w : (Nat → Nat) → va_W) (A : Nat → Prop) : Array Value → State → Outcome → State → Prop := va_Qv (fun _ : Nat → Nat => True) (fun u t => va_P D vwCl (w u) t.heap ∧ va_D A (w u)) A
abbrev zs_a0 (cI : ClassId) (n : Nat) : va_E := .inl (cI, n, .inl (fun _ => 0))
theorem ow_inst : Cond.instanceMethod Lib.objectInit ∈ zs_tbl := zs_in 97 (by decide +kernel) rfl
theorem ow_code : Cond.code Lib.objectInit ⟨#[0xb1]⟩ 1 none ∈ zs_tbl := zs_in 98 (by decide +kernel) rfl
theorem aw_int : Cond.arrayClass .int ∈ zs_tbl := zs_in 145 (by decide +kernel) rfl
theorem aw_byte : Cond.arrayClass .byte ∈ zs_tbl := zs_in 653 (by decide +kernel) rfl
theorem ol_RX3 : Cond.methodLink RX3 3 Lib.objectInit ∈ zs_tbl := zs_in 110 (by decide +kernel) rfl
theorem fk_RX3_9 : Cond.fieldLink RX3 9 (TX3 2).1 (TX3 2).2.1 (TX3 2).2.2.1 ∈ zs_tbl := zs_in 117 (by decide +kernel) rfl
theorem fk_RX3_15 : Cond.fieldLink RX3 15 (TX3 3).1 (TX3 3).2.1 (TX3 3).2.2.1 ∈ zs_tbl := zs_in 121 (by decide +kernel) rfl
theorem fk_RX3_19 : Cond.fieldLink RX3 19 (TX3 4).1 (TX3 4).2.1 (TX3 4).2.2.1 ∈ zs_tbl := zs_in 126 (by decide +kernel) rfl
theorem fk_RX3_22 : Cond.fieldLink RX3 22 (TX3 5).1 (TX3 5).2.1 (TX3 5).2.2.1 ∈ zs_tbl := zs_in 129 (by decide +kernel) rfl
set_option maxHeartbeats 4000000 in
set_option maxRecDepth 100000 in
theorem k_X3_init (l : Launch) (dC : Nat → ClassId) (dI : Nat → Nat → Nat) (cI cB : ClassId) (h0 sz : Nat) : Met l yX3_init (Cond.code yX3_init cX3_init 1 none :: zs_tbl) { frames := 1, cells := 3, slots := 22, locals := 12 } (va_Pc [.ref h0] (zs_kp (dC, dI) cI cB [(h0, .inr (1, [.int 0, .int 0, .int 0, .null, .null, .null]))] sz)) (zs_kq (dC, dI) (fun u => [(h0, .inr (1, [.int 0, .int 0, .int 1, .ref (u 0), .ref (u 1), .ref (u 2)])), ((u 0), zs_a0 cI 12), ((u 1), zs_a0 cI 5), ((u 2), zs_a0 cI 5)]) (va_A [(h0, .inr (1, [.int 0, .int 0, .int 0, .null, .null, .null]))] sz)) 3 22 (va_A [(h0, .inr (1, [.int 0, .int 0, .int 0, .null, .null, .null]))] sz) := by
  refine Met.ofW (cc := cX3_init) (maxL := 1) (ret := none) (by decide) rfl ?_
  intro p e s m args below meth c s₁ B hml hv
  obtain ⟨rfl, hsz, hP, hK, hD0, hN⟩ := hv
  have hx := B.exec
  have hb := B.bytes
  have hr := B.returns
  have hts0 := atoms_spec (ws := Cond.code yX3_init cX3_init 1 none :: zs_tbl) B.pre
  have hts : ∀ w ∈ zs_tbl, w.before _ s = true := fun w hw => hts0 w (List.mem_cons_of_mem _ hw)
  have hown : s.vm.findClass RX3 = some m.cls := findClass_of_methodNamed B.named
  have hlocks := B.notSynchronized
  have hin : meth.name = "<init>" := (name_of_methodNamed B.named B.method).1
  subst hsz
  have hD := hD0.self (sz := s.heap.size)
  generalize hAe : va_A [(h0, .inr (1, [.int 0, .int 0, .int 0, .null, .null, .null]))] s.heap.size = A at hD ⊢
  have hA : ∀ q : Nat, s.heap.size ≤ q → A q := fun q h => by rw [← hAe]; exact Or.inr h
  have hS : va_S A s.heap s.heap [] := va_S.rf
  have hl := lv_entry ([.ref h0]) (n := 1) (Nat.le_of_ble_eq_true rfl)
  rw [lg_entry_eq]
  generalize (lg_sl ([.ref h0]) ++ List.replicate (1 - (lg_sl ([.ref h0])).length) Slot.unset).toArray = ls at hl ⊢
  have hl : lv_has ls 1 [(0, .ref h0)] := hl
  refine lv_aload_n hx hb dX3_init_0 rfl (lv_at hl 0 rfl) ?_
  refine W.objInit hx hb hown (hts _ ol_RX3) (hts _ ow_inst) (hts _ ow_code) rfl (by rw [hml]; exact hl.1) rfl dX3_init_1 (Nat.le_of_ble_eq_true rfl) (Nat.le_of_ble_eq_true rfl) ?_
  refine W.eq (g2 := F0 m 4 ls []) rfl ?_
  refine lv_aload_n hx hb dX3_init_4 rfl (lv_at hl 0 rfl) ?_
  refine lv_iconst (v := 1) hx hb dX3_init_5 (by decide) ?_
  refine va_put (D := (dC, dI)) (ci := 1) (v := .int 1) (ty := .int) (C := RX3) (T := TX3) (N := 6) hx hb hts zs_uw1 tyX3 tyX3_ok nmX3 hown hK hP hD hS 0 rfl rfl 2 (by decide) (hts _ fk_RX3_9) (fun _ h9 => h9) rfl (by decide +kernel) rfl rfl (Nat.le_of_ble_eq_true rfl) dX3_init_6 (fun H locs hP hD hS => ?_)
  have hP : va_P (dC, dI) vwCl [(h0, .inr (1, [.int 0, .int 0, .int 1, .null, .null, .null]))] H := hP
  have hD : va_D A [(h0, .inr (1, [.int 0, .int 0, .int 1, .null, .null, .null]))] := hD
  refine lv_aload_n hx hb dX3_init_9 rfl (lv_at hl 0 rfl) ?_
  refine lv_bipush (v := 12) hx hb dX3_init_10 (by decide) ?_
  refine va_newa (atype := .int) (ty := .int) (N' := 12) (a0 := (12, .inl (fun _ => 0))) hx hb (hts _ aw_int) rfl hK hP hD hS hA (fun cA => rfl) (by decide) (by decide) (by decide) (Nat.le_of_ble_eq_true rfl) (Nat.le_of_ble_eq_true rfl) dX3_init_12 (fun q1 cA H hK2 hP hD hS => ?_)
  obtain rfl := zs_cI hK2
  have hP : va_P (dC, dI) vwCl [(h0, .inr (1, [.int 0, .int 0, .int 1, .null, .null, .null])), (q1, zs_a0 cI 12)] H := hP
  have hD : va_D A [(h0, .inr (1, [.int 0, .int 0, .int 1, .null, .null, .null])), (q1, zs_a0 cI 12)] := hD
  refine va_putF (D := (dC, dI)) (ci := 1) (v := .ref q1) (ty := .array .int) (C := RX3) (T := TX3) (N := 6) hx hb hts zs_uw1 tyX3 tyX3_ok nmX3 hown hK hP hD hS 0 rfl rfl 3 (by decide) (hts _ fk_RX3_15) (fun _ h9 => h9) rfl hin rfl (by decide +kernel) rfl rfl (Nat.le_of_ble_eq_true rfl) dX3_init_14 (fun H locs hP hD hS => ?_)
  have hP : va_P (dC, dI) vwCl [(h0, .inr (1, [.int 0, .int 0, .int 1, .ref q1, .null, .null])), (q1, zs_a0 cI 12)] H := hP
  have hD : va_D A [(h0, .inr (1, [.int 0, .int 0, .int 1, .ref q1, .null, .null])), (q1, zs_a0 cI 12)] := hD
  refine lv_aload_n hx hb dX3_init_17 rfl (lv_at hl 0 rfl) ?_
  refine lv_iconst (v := 5) hx hb dX3_init_18 (by decide) ?_
  refine va_newa (atype := .int) (ty := .int) (N' := 5) (a0 := (5, .inl (fun _ => 0))) hx hb (hts _ aw_int) rfl hK hP hD hS hA (fun cA => rfl) (by decide) (by decide) (by decide) (Nat.le_of_ble_eq_true rfl) (Nat.le_of_ble_eq_true rfl) dX3_init_19 (fun q2 cA H hK2 hP hD hS => ?_)
  obtain rfl := zs_cI hK2
  have hP : va_P (dC, dI) vwCl [(h0, .inr (1, [.int 0, .int 0, .int 1, .ref q1, .null, .null])), (q1, zs_a0 cI 12), (q2, zs_a0 cI 5)] H := hP
  have hD : va_D A [(h0, .inr (1, [.int 0, .int 0, .int 1, .ref q1, .null, .null])), (q1, zs_a0 cI 12), (q2, zs_a0 cI 5)] := hD
  refine va_putF (D := (dC, dI)) (ci := 1) (v := .ref q2) (ty := .array .int) (C := RX3) (T := TX3) (N := 6) hx hb hts zs_uw1 tyX3 tyX3_ok nmX3 hown hK hP hD hS 0 rfl rfl 4 (by decide) (hts _ fk_RX3_19) (fun _ h9 => h9) rfl hin rfl (by decide +kernel) rfl rfl (Nat.le_of_ble_eq_true rfl) dX3_init_21 (fun H locs hP hD hS => ?_)
  have hP : va_P (dC, dI) vwCl [(h0, .inr (1, [.int 0, .int 0, .int 1, .ref q1, .ref q2, .null])), (q1, zs_a0 cI 12), (q2, zs_a0 cI 5)] H := hP
  have hD : va_D A [(h0, .inr (1, [.int 0, .int 0, .int 1, .ref q1, .ref q2, .null])), (q1, zs_a0 cI 12), (q2, zs_a0 cI 5)] := hD
  refine lv_aload_n hx hb dX3_init_24 rfl (lv_at hl 0 rfl) ?_
  refine lv_iconst (v := 5) hx hb dX3_init_25 (by decide) ?_
  refine va_newa (atype := .int) (ty := .int) (N' := 5) (a0 := (5, .inl (fun _ => 0))) hx hb (hts _ aw_int) rfl hK hP hD hS hA (fun cA => rfl) (by decide) (by decide) (by decide) (Nat.le_of_ble_eq_true rfl) (Nat.le_of_ble_eq_true rfl) dX3_init_26 (fun q3 cA H hK2 hP hD hS => ?_)
  obtain rfl := zs_cI hK2
  have hP : va_P (dC, dI) vwCl [(h0, .inr (1, [.int 0, .int 0, .int 1, .ref q1, .ref q2, .null])), (q1, zs_a0 cI 12), (q2, zs_a0 cI 5), (q3, zs_a0 cI 5)] H := hP
  have hD : va_D A [(h0, .inr (1, [.int 0, .int 0, .int 1, .ref q1, .ref q2, .null])), (q1, zs_a0 cI 12), (q2, zs_a0 cI 5), (q3, zs_a0 cI 5)] := hD
  refine va_putF (D := (dC, dI)) (ci := 1) (v := .ref q3) (ty := .array .int) (C := RX3) (T := TX3) (N := 6) hx hb hts zs_uw1 tyX3 tyX3_ok nmX3 hown hK hP hD hS 0 rfl rfl 5 (by decide) (hts _ fk_RX3_22) (fun _ h9 => h9) rfl hin rfl (by decide +kernel) rfl rfl (Nat.le_of_ble_eq_true rfl) dX3_init_28 (fun H locs hP hD hS => ?_)
  have hP : va_P (dC, dI) vwCl [(h0, .inr (1, [.int 0, .int 0, .int 1, .ref q1, .ref q2, .ref q3])), (q1, zs_a0 cI 12), (q2, zs_a0 cI 5), (q3, zs_a0 cI 5)] H := hP
  have hD : va_D A [(h0, .inr (1, [.int 0, .int 0, .int 1, .ref q1, .ref q2, .ref q3])), (q1, zs_a0 cI 12), (q2, zs_a0 cI 5), (q3, zs_a0 cI 5)] := hD
  exact W.vret hx hb hr (fun t ht hW => ⟨⟨fun k => [q1, q2, q3].getD k 0, rfl, trivial, by rw [ht]; exact hP, hD⟩, hS.F ht⟩) hS.2.2 dX3_init_31
theorem ol_RX4 : Cond.methodLink RX4 3 Lib.objectInit ∈ zs_tbl := zs_in 151 (by decide +kernel) rfl
theorem fk_RX4_11 : Cond.fieldLink RX4 11 (TX4 0).1 (TX4 0).2.1 (TX4 0).2.2.1 ∈ zs_tbl := zs_in 152 (by decide +kernel) rfl
set_option maxHeartbeats 4000000 in
set_option maxRecDepth 100000 in
theorem k_X4_init (l : Launch) (dC : Nat → ClassId) (dI : Nat → Nat → Nat) (cI cB : ClassId) (h0 sz : Nat) : Met l yX4_init (Cond.code yX4_init cX4_init 1 none :: zs_tbl) { frames := 1, cells := 1, slots := 200, locals := 12 } (va_Pc [.ref h0] (zs_kp (dC, dI) cI cB [(h0, .inr (2, [.null, .int 0]))] sz)) (zs_kq (dC, dI) (fun u => [(h0, .inr (2, [.ref (u 0), .int 0])), ((u 0), zs_a0 cI 200)]) (va_A [(h0, .inr (2, [.null, .int 0]))] sz)) 1 200 (va_A [(h0, .inr (2, [.null, .int 0]))] sz) := by
  refine Met.ofW (cc := cX4_init) (maxL := 1) (ret := none) (by decide) rfl ?_
  intro p e s m args below meth c s₁ B hml hv
  obtain ⟨rfl, hsz, hP, hK, hD0, hN⟩ := hv
  have hx := B.exec
  have hb := B.bytes
  have hr := B.returns
  have hts0 := atoms_spec (ws := Cond.code yX4_init cX4_init 1 none :: zs_tbl) B.pre
  have hts : ∀ w ∈ zs_tbl, w.before _ s = true := fun w hw => hts0 w (List.mem_cons_of_mem _ hw)
  have hown : s.vm.findClass RX4 = some m.cls := findClass_of_methodNamed B.named
  have hlocks := B.notSynchronized
  have hin : meth.name = "<init>" := (name_of_methodNamed B.named B.method).1
  subst hsz
  have hD := hD0.self (sz := s.heap.size)
  generalize hAe : va_A [(h0, .inr (2, [.null, .int 0]))] s.heap.size = A at hD ⊢
  have hA : ∀ q : Nat, s.heap.size ≤ q → A q := fun q h => by rw [← hAe]; exact Or.inr h
  have hS : va_S A s.heap s.heap [] := va_S.rf
  have hl := lv_entry ([.ref h0]) (n := 1) (Nat.le_of_ble_eq_true rfl)
  rw [lg_entry_eq]
  generalize (lg_sl ([.ref h0]) ++ List.replicate (1 - (lg_sl ([.ref h0])).length) Slot.unset).toArray = ls at hl ⊢
  have hl : lv_has ls 1 [(0, .ref h0)] := hl
  refine lv_aload_n hx hb dX4_init_0 rfl (lv_at hl 0 rfl) ?_
  refine W.objInit hx hb hown (hts _ ol_RX4) (hts _ ow_inst) (hts _ ow_code) rfl (by rw [hml]; exact hl.1) rfl dX4_init_1 (Nat.le_of_ble_eq_true rfl) (Nat.le_of_ble_eq_true rfl) ?_
  refine W.eq (g2 := F0 m 4 ls []) rfl ?_
  refine lv_aload_n hx hb dX4_init_4 rfl (lv_at hl 0 rfl) ?_
  refine lv_sipush (v := 200) hx hb dX4_init_5 (by decide) ?_
  refine va_newa (atype := .int) (ty := .int) (N' := 200) (a0 := (200, .inl (fun _ => 0))) hx hb (hts _ aw_int) rfl hK hP hD hS hA (fun cA => rfl) (by decide) (by decide) (by decide) (Nat.le_of_ble_eq_true rfl) (Nat.le_of_ble_eq_true rfl) dX4_init_8 (fun q1 cA H hK2 hP hD hS => ?_)
  obtain rfl := zs_cI hK2
  have hP : va_P (dC, dI) vwCl [(h0, .inr (2, [.null, .int 0])), (q1, zs_a0 cI 200)] H := hP
  have hD : va_D A [(h0, .inr (2, [.null, .int 0])), (q1, zs_a0 cI 200)] := hD
  refine va_putF (D := (dC, dI)) (ci := 2) (v := .ref q1) (ty := .array .int) (C := RX4) (T := TX4) (N := 2) hx hb hts zs_uw2 tyX4 tyX4_ok nmX4 hown hK hP hD hS 0 rfl rfl 0 (by decide) (hts _ fk_RX4_11) (fun _ h9 => h9) rfl hin rfl (by decide +kernel) rfl rfl (Nat.le_of_ble_eq_true rfl) dX4_init_10 (fun H locs hP hD hS => ?_)
  have hP : va_P (dC, dI) vwCl [(h0, .inr (2, [.ref q1, .int 0])), (q1, zs_a0 cI 200)] H := hP
  have hD : va_D A [(h0, .inr (2, [.ref q1, .int 0])), (q1, zs_a0 cI 200)] := hD
  exact W.vret hx hb hr (fun t ht hW => ⟨⟨fun k => [q1].getD k 0, rfl, trivial, by rw [ht]; exact hP, hD⟩, hS.F ht⟩) hS.2.2 dX4_init_13
theorem ol_RX5 : Cond.methodLink RX5 3 Lib.objectInit ∈ zs_tbl := zs_in 165 (by decide +kernel) rfl
theorem fk_RX5_9 : Cond.fieldLink RX5 9 (TX5 1).1 (TX5 1).2.1 (TX5 1).2.2.1 ∈ zs_tbl := zs_in 167 (by decide +kernel) rfl
theorem fk_RX5_15 : Cond.fieldLink RX5 15 (TX5 0).1 (TX5 0).2.1 (TX5 0).2.2.1 ∈ zs_tbl := zs_in 166 (by decide +kernel) rfl
set_option maxHeartbeats 4000000 in
set_option maxRecDepth 100000 in
theorem k_X5_init (l : Launch) (dC : Nat → ClassId) (dI : Nat → Nat → Nat) (cI cB : ClassId) (h0 sz : Nat) (v : Int32) : Met l yX5_init (Cond.code yX5_init cX5_init 2 none :: zs_tbl) { frames := 1, cells := 1, slots := 24, locals := 12 } (va_Pc [.ref h0, .int v] (zs_kp (dC, dI) cI cB [(h0, .inr (3, [.int 0, .null, .int 0]))] sz)) (zs_kq (dC, dI) (fun u => [(h0, .inr (3, [.int v, .ref (u 0), .int 0])), ((u 0), zs_a0 cI 24)]) (va_A [(h0, .inr (3, [.int 0, .null, .int 0]))] sz)) 1 24 (va_A [(h0, .inr (3, [.int 0, .null, .int 0]))] sz) := by
  refine Met.ofW (cc := cX5_init) (maxL := 2) (ret := none) (by decide) rfl ?_
  intro p e s m args below meth c s₁ B hml hv
  obtain ⟨rfl, hsz, hP, hK, hD0, hN⟩ := hv
  have hx := B.exec
  have hb := B.bytes
  have hr := B.returns
  have hts0 := atoms_spec (ws := Cond.code yX5_init cX5_init 2 none :: zs_tbl) B.pre
  have hts : ∀ w ∈ zs_tbl, w.before _ s = true := fun w hw => hts0 w (List.mem_cons_of_mem _ hw)
  have hown : s.vm.findClass RX5 = some m.cls := findClass_of_methodNamed B.named
  have hlocks := B.notSynchronized
  have hin : meth.name = "<init>" := (name_of_methodNamed B.named B.method).1
  subst hsz
  have hD := hD0.self (sz := s.heap.size)
  generalize hAe : va_A [(h0, .inr (3, [.int 0, .null, .int 0]))] s.heap.size = A at hD ⊢
  have hA : ∀ q : Nat, s.heap.size ≤ q → A q := fun q h => by rw [← hAe]; exact Or.inr h
  have hS : va_S A s.heap s.heap [] := va_S.rf
  have hl := lv_entry ([.ref h0, .int v]) (n := 2) (Nat.le_of_ble_eq_true rfl)
  rw [lg_entry_eq]
  generalize (lg_sl ([.ref h0, .int v]) ++ List.replicate (2 - (lg_sl ([.ref h0, .int v])).length) Slot.unset).toArray = ls at hl ⊢
  have hl : lv_has ls 2 [(0, .ref h0), (1, .int v)] := hl
  refine lv_aload_n hx hb dX5_init_0 rfl (lv_at hl 0 rfl) ?_
  refine W.objInit hx hb hown (hts _ ol_RX5) (hts _ ow_inst) (hts _ ow_code) rfl (by rw [hml]; exact hl.1) rfl dX5_init_1 (Nat.le_of_ble_eq_true rfl) (Nat.le_of_ble_eq_true rfl) ?_
  refine W.eq (g2 := F0 m 4 ls []) rfl ?_
  refine lv_aload_n hx hb dX5_init_4 rfl (lv_at hl 0 rfl) ?_
  refine lv_bipush (v := 24) hx hb dX5_init_5 (by decide) ?_
  refine va_newa (atype := .int) (ty := .int) (N' := 24) (a0 := (24, .inl (fun _ => 0))) hx hb (hts _ aw_int) rfl hK hP hD hS hA (fun cA => rfl) (by decide) (by decide) (by decide) (Nat.le_of_ble_eq_true rfl) (Nat.le_of_ble_eq_true rfl) dX5_init_7 (fun q1 cA H hK2 hP hD hS => ?_)
  obtain rfl := zs_cI hK2
  have hP : va_P (dC, dI) vwCl [(h0, .inr (3, [.int 0, .null, .int 0])), (q1, zs_a0 cI 24)] H := hP
  have hD : va_D A [(h0, .inr (3, [.int 0, .null, .int 0])), (q1, zs_a0 cI 24)] := hD
  refine va_putF (D := (dC, dI)) (ci := 3) (v := .ref q1) (ty := .array .int) (C := RX5) (T := TX5) (N := 3) hx hb hts zs_uw3 tyX5 tyX5_ok nmX5 hown hK hP hD hS 0 rfl rfl 1 (by decide) (hts _ fk_RX5_9) (fun _ h9 => h9) rfl hin rfl (by decide +kernel) rfl rfl (Nat.le_of_ble_eq_true rfl) dX5_init_9 (fun H locs hP hD hS => ?_)
  have hP : va_P (dC, dI) vwCl [(h0, .inr (3, [.int 0, .ref q1, .int 0])), (q1, zs_a0 cI 24)] H := hP
  have hD : va_D A [(h0, .inr (3, [.int 0, .ref q1, .int 0])), (q1, zs_a0 cI 24)] := hD
  refine lv_aload_n hx hb dX5_init_12 rfl (lv_at hl 0 rfl) ?_
  refine lv_iload_n hx hb dX5_init_13 rfl (lv_at hl 1 rfl) ?_
  refine va_putF (D := (dC, dI)) (ci := 3) (v := .int v) (ty := .int) (C := RX5) (T := TX5) (N := 3) hx hb hts zs_uw3 tyX5 tyX5_ok nmX5 hown hK hP hD hS 0 rfl rfl 0 (by decide) (hts _ fk_RX5_15) (fun _ h9 => h9) rfl hin rfl (by decide +kernel) rfl rfl (Nat.le_of_ble_eq_true rfl) dX5_init_14 (fun H locs hP hD hS => ?_)
  have hP : va_P (dC, dI) vwCl [(h0, .inr (3, [.int v, .ref q1, .int 0])), (q1, zs_a0 cI 24)] H := hP
  have hD : va_D A [(h0, .inr (3, [.int v, .ref q1, .int 0])), (q1, zs_a0 cI 24)] := hD
  exact W.vret hx hb hr (fun t ht hW => ⟨⟨fun k => [q1].getD k 0, rfl, trivial, by rw [ht]; exact hP, hD⟩, hS.F ht⟩) hS.2.2 dX5_init_17
theorem ol_RX6 : Cond.methodLink RX6 3 Lib.objectInit ∈ zs_tbl := zs_in 104 (by decide +kernel) rfl
theorem fk_RX6_9 : Cond.fieldLink RX6 9 (TX6 0).1 (TX6 0).2.1 (TX6 0).2.2.1 ∈ zs_tbl := zs_in 178 (by decide +kernel) rfl
theorem fk_RX6_15 : Cond.fieldLink RX6 15 (TX6 3).1 (TX6 3).2.1 (TX6 3).2.2.1 ∈ zs_tbl := zs_in 188 (by decide +kernel) rfl
theorem lw_RX6_19 : Cond.classLink RX6 19 RX3 ∈ zs_tbl := zs_in 105 (by decide +kernel) rfl
theorem sw_iX3 : Cond.instantiable RX3 6 ∈ zs_tbl := zs_in 106 (by decide +kernel) rfl
theorem sw_zX3 : Cond.initialized RX3 ∈ zs_tbl := zs_in 75 (by decide +kernel) rfl
theorem iw_X3_init : Cond.instanceMethod yX3_init ∈ zs_tbl := zs_in 108 (by decide +kernel) rfl
theorem cw_X3_init : Cond.code yX3_init cX3_init 1 none ∈ zs_tbl := zs_in 109 (by decide +kernel) rfl
theorem fk_RX6_22 : Cond.fieldLink RX6 22 (TX6 4).1 (TX6 4).2.1 (TX6 4).2.2.1 ∈ zs_tbl := zs_in 190 (by decide +kernel) rfl
theorem lw_RX6_26 : Cond.classLink RX6 26 RX4 ∈ zs_tbl := zs_in 146 (by decide +kernel) rfl
theorem sw_iX4 : Cond.instantiable RX4 2 ∈ zs_tbl := zs_in 147 (by decide +kernel) rfl
theorem sw_zX4 : Cond.initialized RX4 ∈ zs_tbl := zs_in 76 (by decide +kernel) rfl
theorem iw_X4_init : Cond.instanceMethod yX4_init ∈ zs_tbl := zs_in 149 (by decide +kernel) rfl
theorem cw_X4_init : Cond.code yX4_init cX4_init 1 none ∈ zs_tbl := zs_in 150 (by decide +kernel) rfl
theorem fk_RX6_29 : Cond.fieldLink RX6 29 (TX6 5).1 (TX6 5).2.1 (TX6 5).2.2.1 ∈ zs_tbl := zs_in 194 (by decide +kernel) rfl
theorem lw_RX6_33 : Cond.classLink RX6 33 RX5 ∈ zs_tbl := zs_in 160 (by decide +kernel) rfl
theorem sw_iX5 : Cond.instantiable RX5 3 ∈ zs_tbl := zs_in 161 (by decide +kernel) rfl
theorem sw_zX5 : Cond.initialized RX5 ∈ zs_tbl := zs_in 77 (by decide +kernel) rfl
theorem iw_X5_init : Cond.instanceMethod yX5_init ∈ zs_tbl := zs_in 163 (by decide +kernel) rfl
theorem cw_X5_init : Cond.code yX5_init cX5_init 2 none ∈ zs_tbl := zs_in 164 (by decide +kernel) rfl
theorem ml_RX6_35 : Cond.methodLink RX6 35 yX5_init ∈ zs_tbl := zs_in 162 (by decide +kernel) rfl
theorem fk_RX6_38 : Cond.fieldLink RX6 38 (TX6 6).1 (TX6 6).2.1 (TX6 6).2.2.1 ∈ zs_tbl := zs_in 196 (by decide +kernel) rfl
theorem fk_RX6_42 : Cond.fieldLink RX6 42 (TX6 7).1 (TX6 7).2.1 (TX6 7).2.2.1 ∈ zs_tbl := zs_in 199 (by decide +kernel) rfl
theorem fk_RX6_45 : Cond.fieldLink RX6 45 (TX6 8).1 (TX6 8).2.1 (TX6 8).2.2.1 ∈ zs_tbl := zs_in 201 (by decide +kernel) rfl
set_option maxHeartbeats 4000000 in
set_option maxRecDepth 100000 in
theorem k_X6_init (l : Launch) (dC : Nat → ClassId) (dI : Nat → Nat → Nat) (cI cB : ClassId) (h0 sz : Nat) : Met l yX6_init (Cond.code yX6_init cX6_init 1 none :: zs_tbl) { frames := 2, cells := 13, slots := 316, locals := 33 } (va_Pc [.ref h0] (zs_kp (dC, dI) cI cB [(h0, .inr (4, [.int 0, .int 0, .int 0, .null, .null, .null, .null, .null, .null]))] sz)) (zs_kq (dC, dI) (fun u => [(h0, .inr (4, [.int 2, .int 0, .int 0, .ref (u 0), .ref (u 1), .ref (u 5), .ref (u 7), .ref (u 9), .ref (u 11)])), ((u 0), zs_a0 cI 5), ((u 1), .inr (1, [.int 0, .int 0, .int 1, .ref (u 2), .ref (u 3), .ref (u 4)])), ((u 2), zs_a0 cI 12), ((u 3), zs_a0 cI 5), ((u 4), zs_a0 cI 5), ((u 5), .inr (2, [.ref (u 6), .int 0])), ((u 6), zs_a0 cI 200), ((u 7), .inr (3, [.int 2, .ref (u 8), .int 0])), ((u 8), zs_a0 cI 24), ((u 9), .inr (3, [.int 4, .ref (u 10), .int 0])), ((u 10), zs_a0 cI 24), ((u 11), .inr (3, [.int 3, .ref (u 12), .int 0])), ((u 12), zs_a0 cI 24)]) (va_A [(h0, .inr (4, [.int 0, .int 0, .int 0, .null, .null, .null, .null, .null, .null]))] sz)) 13 316 (va_A [(h0, .inr (4, [.int 0, .int 0, .int 0, .null, .null, .null, .null, .null, .null]))] sz) := by
  refine Met.ofW (cc := cX6_init) (maxL := 1) (ret := none) (by decide) rfl ?_
  intro p e s m args below meth c s₁ B hml hv
  obtain ⟨rfl, hsz, hP, hK, hD0, hN⟩ := hv
  have hx := B.exec
  have hb := B.bytes
  have hr := B.returns
  have hts0 := atoms_spec (ws := Cond.code yX6_init cX6_init 1 none :: zs_tbl) B.pre
  have hts : ∀ w ∈ zs_tbl, w.before _ s = true := fun w hw => hts0 w (List.mem_cons_of_mem _ hw)
  have hown : s.vm.findClass RX6 = some m.cls := findClass_of_methodNamed B.named
  have hlocks := B.notSynchronized
  have hin : meth.name = "<init>" := (name_of_methodNamed B.named B.method).1
  subst hsz
  have hD := hD0.self (sz := s.heap.size)
  generalize hAe : va_A [(h0, .inr (4, [.int 0, .int 0, .int 0, .null, .null, .null, .null, .null, .null]))] s.heap.size = A at hD ⊢
  have hA : ∀ q : Nat, s.heap.size ≤ q → A q := fun q h => by rw [← hAe]; exact Or.inr h
  have hS : va_S A s.heap s.heap [] := va_S.rf
  have hl := lv_entry ([.ref h0]) (n := 1) (Nat.le_of_ble_eq_true rfl)
  rw [lg_entry_eq]
  generalize (lg_sl ([.ref h0]) ++ List.replicate (1 - (lg_sl ([.ref h0])).length) Slot.unset).toArray = ls at hl ⊢
  have hl : lv_has ls 1 [(0, .ref h0)] := hl
  refine lv_aload_n hx hb dX6_init_0 rfl (lv_at hl 0 rfl) ?_
  refine W.objInit hx hb hown (hts _ ol_RX6) (hts _ ow_inst) (hts _ ow_code) rfl (by rw [hml]; exact hl.1) rfl dX6_init_1 (Nat.le_of_ble_eq_true rfl) (Nat.le_of_ble_eq_true rfl) ?_
  refine W.eq (g2 := F0 m 4 ls []) rfl ?_
  refine lv_aload_n hx hb dX6_init_4 rfl (lv_at hl 0 rfl) ?_
  refine lv_iconst (v := 2) hx hb dX6_init_5 (by decide) ?_
  refine va_put (D := (dC, dI)) (ci := 4) (v := .int 2) (ty := .int) (C := RX6) (T := TX6) (N := 9) hx hb hts zs_uw4 tyX6 tyX6_ok nmX6 hown hK hP hD hS 0 rfl rfl 0 (by decide) (hts _ fk_RX6_9) (fun _ h9 => h9) rfl (by decide +kernel) rfl rfl (Nat.le_of_ble_eq_true rfl) dX6_init_6 (fun H locs hP hD hS => ?_)
  have hP : va_P (dC, dI) vwCl [(h0, .inr (4, [.int 2, .int 0, .int 0, .null, .null, .null, .null, .null, .null]))] H := hP
  have hD : va_D A [(h0, .inr (4, [.int 2, .int 0, .int 0, .null, .null, .null, .null, .null, .null]))] := hD
  refine lv_aload_n hx hb dX6_init_9 rfl (lv_at hl 0 rfl) ?_
  refine lv_iconst (v := 5) hx hb dX6_init_10 (by decide) ?_
  refine va_newa (atype := .int) (ty := .int) (N' := 5) (a0 := (5, .inl (fun _ => 0))) hx hb (hts _ aw_int) rfl hK hP hD hS hA (fun cA => rfl) (by decide) (by decide) (by decide) (Nat.le_of_ble_eq_true rfl) (Nat.le_of_ble_eq_true rfl) dX6_init_11 (fun q1 cA H hK2 hP hD hS => ?_)
  obtain rfl := zs_cI hK2
  have hP : va_P (dC, dI) vwCl [(h0, .inr (4, [.int 2, .int 0, .int 0, .null, .null, .null, .null, .null, .null])), (q1, zs_a0 cI 5)] H := hP
  have hD : va_D A [(h0, .inr (4, [.int 2, .int 0, .int 0, .null, .null, .null, .null, .null, .null])), (q1, zs_a0 cI 5)] := hD
  refine va_putF (D := (dC, dI)) (ci := 4) (v := .ref q1) (ty := .array .int) (C := RX6) (T := TX6) (N := 9) hx hb hts zs_uw4 tyX6 tyX6_ok nmX6 hown hK hP hD hS 0 rfl rfl 3 (by decide) (hts _ fk_RX6_15) (fun _ h9 => h9) rfl hin rfl (by decide +kernel) rfl rfl (Nat.le_of_ble_eq_true rfl) dX6_init_13 (fun H locs hP hD hS => ?_)
  have hP : va_P (dC, dI) vwCl [(h0, .inr (4, [.int 2, .int 0, .int 0, .ref q1, .null, .null, .null, .null, .null])), (q1, zs_a0 cI 5)] H := hP
  have hD : va_D A [(h0, .inr (4, [.int 2, .int 0, .int 0, .ref q1, .null, .null, .null, .null, .null])), (q1, zs_a0 cI 5)] := hD
  refine lv_aload_n hx hb dX6_init_16 rfl (lv_at hl 0 rfl) ?_
  refine va_new (ci := 1) (fs := [.int 0, .int 0, .int 0, .null, .null, .null]) (C := RX3) (T := TX3) (N := 6) hx hb hts zs_uw1 tyX3 tyX3_ok hown (hts _ lw_RX6_19) (hts _ sw_iX3) (hts _ sw_zX3) hK hP hD hS hA rfl (by decide) (Nat.le_of_ble_eq_true rfl) (Nat.le_of_ble_eq_true rfl) dX6_init_17 (fun q2 H hP hD hS => ?_)
  have hP : va_P (dC, dI) vwCl [(h0, .inr (4, [.int 2, .int 0, .int 0, .ref q1, .null, .null, .null, .null, .null])), (q1, zs_a0 cI 5), (q2, .inr (1, [.int 0, .int 0, .int 0, .null, .null, .null]))] H := hP
  have hD : va_D A [(h0, .inr (4, [.int 2, .int 0, .int 0, .ref q1, .null, .null, .null, .null, .null])), (q1, zs_a0 cI 5), (q2, .inr (1, [.int 0, .int 0, .int 0, .null, .null, .null]))] := hD
  refine lv_dup hx hb dX6_init_20 rfl ?_
  have hPc := hP.sub (ws' := [(q2, .inr (1, [.int 0, .int 0, .int 0, .null, .null, .null]))]) [2] rfl
  have hDc := hD.sub (ws' := [(q2, .inr (1, [.int 0, .int 0, .int 0, .null, .null, .null]))]) [2] (by decide) rfl
  have hFc := va_free (wc := [(q2, .inr (1, [.int 0, .int 0, .int 0, .null, .null, .null]))]) hD hS hA [2] rfl
  refine va_callv (va_runIN (As := []) (rest := [.ref q2, .ref h0]) (n := 0) (host := "ZoeStrips") (Ts := zs_tbl) ⟨hx, hb, hml, hown, hts⟩ (k_X3_init l dC dI cI cB q2 H.size) ⟨⟨⟨rfl, rfl, Nat.le_of_ble_eq_true rfl, Nat.le_of_ble_eq_true rfl, zs_pay (N := (yX3_init, cX3_init, 1, none, { frames := 0, cells := 0, slots := 0, locals := 0 })) hts cw_X3_init, List.mem_cons_self⟩, hts _ cw_X3_init, hts _ sw_zX3, ⟨by decide, by decide⟩, zs_len (by decide +kernel), va_Nw.use rfl (hN (RX6, 21, yX3_init, "ZoeStrips") (List.mem_of_getElem? (i := 1) rfl))⟩, rfl, hts _ iw_X3_init⟩ ⟨zs_kb, fun U hU hW => ⟨rfl, by rw [hU], by rw [hU]; exact hPc, va_K.moved hW.alike hK, hDc.weaken (fun _ _ _ _ => trivial), fun w9 h9 => va_Nw.warmM hW (hN w9 h9)⟩⟩ rfl rfl hl.1 rfl (lv_room (Nat.le_of_ble_eq_true rfl)) dX6_init_21 ⟨Nat.le_of_ble_eq_true rfl, Nat.le_of_ble_eq_true rfl⟩) hS (fun q _ h => hFc q h) hFc (fun u3 t H1 locs ht hvm hw hB hz1 hk1 hS => ?_)
  obtain ⟨hP1, hD1⟩ := hB
  rw [ht] at hP1
  obtain ⟨hP, hD⟩ := va_join (wr := [(h0, .inr (4, [.int 2, .int 0, .int 0, .ref q1, .null, .null, .null, .null, .null])), (q1, zs_a0 cI 5)]) (w1 := [(q2, .inr (1, [.int 0, .int 0, .int 1, .ref (u3 0), .ref (u3 1), .ref (u3 2)])), ((u3 0), zs_a0 cI 12), ((u3 1), zs_a0 cI 5), ((u3 2), zs_a0 cI 5)]) hP hD [2] [0, 1] rfl rfl (by decide) (by decide) hk1 hFc hP1 hD1
  generalize H1 = H at hP hS ⊢
  have hP : va_P (dC, dI) vwCl [(h0, .inr (4, [.int 2, .int 0, .int 0, .ref q1, .null, .null, .null, .null, .null])), (q1, zs_a0 cI 5), (q2, .inr (1, [.int 0, .int 0, .int 1, .ref (u3 0), .ref (u3 1), .ref (u3 2)])), ((u3 0), zs_a0 cI 12), ((u3 1), zs_a0 cI 5), ((u3 2), zs_a0 cI 5)] H := hP
  have hD : va_D A [(h0, .inr (4, [.int 2, .int 0, .int 0, .ref q1, .null, .null, .null, .null, .null])), (q1, zs_a0 cI 5), (q2, .inr (1, [.int 0, .int 0, .int 1, .ref (u3 0), .ref (u3 1), .ref (u3 2)])), ((u3 0), zs_a0 cI 12), ((u3 1), zs_a0 cI 5), ((u3 2), zs_a0 cI 5)] := hD
  refine va_putF (D := (dC, dI)) (ci := 4) (v := .ref q2) (ty := .object "ZoeStrips$Moment") (C := RX6) (T := TX6) (N := 9) hx hb hts zs_uw4 tyX6 tyX6_ok nmX6 hown hK hP hD hS 0 rfl rfl 4 (by decide) (hts _ fk_RX6_22) (fun _ h9 => h9) rfl hin rfl (by decide +kernel) rfl rfl (Nat.le_of_ble_eq_true rfl) dX6_init_24 (fun H locs hP hD hS => ?_)
  have hP : va_P (dC, dI) vwCl [(h0, .inr (4, [.int 2, .int 0, .int 0, .ref q1, .ref q2, .null, .null, .null, .null])), (q1, zs_a0 cI 5), (q2, .inr (1, [.int 0, .int 0, .int 1, .ref (u3 0), .ref (u3 1), .ref (u3 2)])), ((u3 0), zs_a0 cI 12), ((u3 1), zs_a0 cI 5), ((u3 2), zs_a0 cI 5)] H := hP
  have hD : va_D A [(h0, .inr (4, [.int 2, .int 0, .int 0, .ref q1, .ref q2, .null, .null, .null, .null])), (q1, zs_a0 cI 5), (q2, .inr (1, [.int 0, .int 0, .int 1, .ref (u3 0), .ref (u3 1), .ref (u3 2)])), ((u3 0), zs_a0 cI 12), ((u3 1), zs_a0 cI 5), ((u3 2), zs_a0 cI 5)] := hD
  refine lv_aload_n hx hb dX6_init_27 rfl (lv_at hl 0 rfl) ?_
  refine va_new (ci := 2) (fs := [.null, .int 0]) (C := RX4) (T := TX4) (N := 2) hx hb hts zs_uw2 tyX4 tyX4_ok hown (hts _ lw_RX6_26) (hts _ sw_iX4) (hts _ sw_zX4) hK hP hD hS hA rfl (by decide) (Nat.le_of_ble_eq_true rfl) (Nat.le_of_ble_eq_true rfl) dX6_init_28 (fun q4 H hP hD hS => ?_)
  have hP : va_P (dC, dI) vwCl [(h0, .inr (4, [.int 2, .int 0, .int 0, .ref q1, .ref q2, .null, .null, .null, .null])), (q1, zs_a0 cI 5), (q2, .inr (1, [.int 0, .int 0, .int 1, .ref (u3 0), .ref (u3 1), .ref (u3 2)])), ((u3 0), zs_a0 cI 12), ((u3 1), zs_a0 cI 5), ((u3 2), zs_a0 cI 5), (q4, .inr (2, [.null, .int 0]))] H := hP
  have hD : va_D A [(h0, .inr (4, [.int 2, .int 0, .int 0, .ref q1, .ref q2, .null, .null, .null, .null])), (q1, zs_a0 cI 5), (q2, .inr (1, [.int 0, .int 0, .int 1, .ref (u3 0), .ref (u3 1), .ref (u3 2)])), ((u3 0), zs_a0 cI 12), ((u3 1), zs_a0 cI 5), ((u3 2), zs_a0 cI 5), (q4, .inr (2, [.null, .int 0]))] := hD
  refine lv_dup hx hb dX6_init_31 rfl ?_
  have hPc := hP.sub (ws' := [(q4, .inr (2, [.null, .int 0]))]) [6] rfl
  have hDc := hD.sub (ws' := [(q4, .inr (2, [.null, .int 0]))]) [6] (by decide) rfl
  have hFc := va_free (wc := [(q4, .inr (2, [.null, .int 0]))]) hD hS hA [6] rfl
  refine va_callv (va_runIN (As := []) (rest := [.ref q4, .ref h0]) (n := 0) (host := "ZoeStrips") (Ts := zs_tbl) ⟨hx, hb, hml, hown, hts⟩ (k_X4_init l dC dI cI cB q4 H.size) ⟨⟨⟨rfl, rfl, Nat.le_of_ble_eq_true rfl, Nat.le_of_ble_eq_true rfl, zs_pay (N := (yX4_init, cX4_init, 1, none, { frames := 0, cells := 0, slots := 0, locals := 0 })) hts cw_X4_init, List.mem_cons_self⟩, hts _ cw_X4_init, hts _ sw_zX4, ⟨by decide, by decide⟩, zs_len (by decide +kernel), va_Nw.use rfl (hN (RX6, 28, yX4_init, "ZoeStrips") (List.mem_of_getElem? (i := 2) rfl))⟩, rfl, hts _ iw_X4_init⟩ ⟨zs_kb, fun U hU hW => ⟨rfl, by rw [hU], by rw [hU]; exact hPc, va_K.moved hW.alike hK, hDc.weaken (fun _ _ _ _ => trivial), fun w9 h9 => va_Nw.warmM hW (hN w9 h9)⟩⟩ rfl rfl hl.1 rfl (lv_room (Nat.le_of_ble_eq_true rfl)) dX6_init_32 ⟨Nat.le_of_ble_eq_true rfl, Nat.le_of_ble_eq_true rfl⟩) hS (fun q _ h => hFc q h) hFc (fun u5 t H1 locs ht hvm hw hB hz1 hk1 hS => ?_)
  obtain ⟨hP1, hD1⟩ := hB
  rw [ht] at hP1
  obtain ⟨hP, hD⟩ := va_join (wr := [(h0, .inr (4, [.int 2, .int 0, .int 0, .ref q1, .ref q2, .null, .null, .null, .null])), (q1, zs_a0 cI 5), (q2, .inr (1, [.int 0, .int 0, .int 1, .ref (u3 0), .ref (u3 1), .ref (u3 2)])), ((u3 0), zs_a0 cI 12), ((u3 1), zs_a0 cI 5), ((u3 2), zs_a0 cI 5)]) (w1 := [(q4, .inr (2, [.ref (u5 0), .int 0])), ((u5 0), zs_a0 cI 200)]) hP hD [6] [0, 1, 2, 3, 4, 5] rfl rfl (by decide) (by decide) hk1 hFc hP1 hD1
  generalize H1 = H at hP hS ⊢
  have hP : va_P (dC, dI) vwCl [(h0, .inr (4, [.int 2, .int 0, .int 0, .ref q1, .ref q2, .null, .null, .null, .null])), (q1, zs_a0 cI 5), (q2, .inr (1, [.int 0, .int 0, .int 1, .ref (u3 0), .ref (u3 1), .ref (u3 2)])), ((u3 0), zs_a0 cI 12), ((u3 1), zs_a0 cI 5), ((u3 2), zs_a0 cI 5), (q4, .inr (2, [.ref (u5 0), .int 0])), ((u5 0), zs_a0 cI 200)] H := hP
  have hD : va_D A [(h0, .inr (4, [.int 2, .int 0, .int 0, .ref q1, .ref q2, .null, .null, .null, .null])), (q1, zs_a0 cI 5), (q2, .inr (1, [.int 0, .int 0, .int 1, .ref (u3 0), .ref (u3 1), .ref (u3 2)])), ((u3 0), zs_a0 cI 12), ((u3 1), zs_a0 cI 5), ((u3 2), zs_a0 cI 5), (q4, .inr (2, [.ref (u5 0), .int 0])), ((u5 0), zs_a0 cI 200)] := hD
  refine va_putF (D := (dC, dI)) (ci := 4) (v := .ref q4) (ty := .object "ZoeStrips$Past") (C := RX6) (T := TX6) (N := 9) hx hb hts zs_uw4 tyX6 tyX6_ok nmX6 hown hK hP hD hS 0 rfl rfl 5 (by decide) (hts _ fk_RX6_29) (fun _ h9 => h9) rfl hin rfl (by decide +kernel) rfl rfl (Nat.le_of_ble_eq_true rfl) dX6_init_35 (fun H locs hP hD hS => ?_)
  have hP : va_P (dC, dI) vwCl [(h0, .inr (4, [.int 2, .int 0, .int 0, .ref q1, .ref q2, .ref q4, .null, .null, .null])), (q1, zs_a0 cI 5), (q2, .inr (1, [.int 0, .int 0, .int 1, .ref (u3 0), .ref (u3 1), .ref (u3 2)])), ((u3 0), zs_a0 cI 12), ((u3 1), zs_a0 cI 5), ((u3 2), zs_a0 cI 5), (q4, .inr (2, [.ref (u5 0), .int 0])), ((u5 0), zs_a0 cI 200)] H := hP
  have hD : va_D A [(h0, .inr (4, [.int 2, .int 0, .int 0, .ref q1, .ref q2, .ref q4, .null, .null, .null])), (q1, zs_a0 cI 5), (q2, .inr (1, [.int 0, .int 0, .int 1, .ref (u3 0), .ref (u3 1), .ref (u3 2)])), ((u3 0), zs_a0 cI 12), ((u3 1), zs_a0 cI 5), ((u3 2), zs_a0 cI 5), (q4, .inr (2, [.ref (u5 0), .int 0])), ((u5 0), zs_a0 cI 200)] := hD
  refine lv_aload_n hx hb dX6_init_38 rfl (lv_at hl 0 rfl) ?_
  refine va_new (ci := 3) (fs := [.int 0, .null, .int 0]) (C := RX5) (T := TX5) (N := 3) hx hb hts zs_uw3 tyX5 tyX5_ok hown (hts _ lw_RX6_33) (hts _ sw_iX5) (hts _ sw_zX5) hK hP hD hS hA rfl (by decide) (Nat.le_of_ble_eq_true rfl) (Nat.le_of_ble_eq_true rfl) dX6_init_39 (fun q6 H hP hD hS => ?_)
  have hP : va_P (dC, dI) vwCl [(h0, .inr (4, [.int 2, .int 0, .int 0, .ref q1, .ref q2, .ref q4, .null, .null, .null])), (q1, zs_a0 cI 5), (q2, .inr (1, [.int 0, .int 0, .int 1, .ref (u3 0), .ref (u3 1), .ref (u3 2)])), ((u3 0), zs_a0 cI 12), ((u3 1), zs_a0 cI 5), ((u3 2), zs_a0 cI 5), (q4, .inr (2, [.ref (u5 0), .int 0])), ((u5 0), zs_a0 cI 200), (q6, .inr (3, [.int 0, .null, .int 0]))] H := hP
  have hD : va_D A [(h0, .inr (4, [.int 2, .int 0, .int 0, .ref q1, .ref q2, .ref q4, .null, .null, .null])), (q1, zs_a0 cI 5), (q2, .inr (1, [.int 0, .int 0, .int 1, .ref (u3 0), .ref (u3 1), .ref (u3 2)])), ((u3 0), zs_a0 cI 12), ((u3 1), zs_a0 cI 5), ((u3 2), zs_a0 cI 5), (q4, .inr (2, [.ref (u5 0), .int 0])), ((u5 0), zs_a0 cI 200), (q6, .inr (3, [.int 0, .null, .int 0]))] := hD
  refine lv_dup hx hb dX6_init_42 rfl ?_
  refine lv_iconst (v := 2) hx hb dX6_init_43 (by decide) ?_
  have hPc := hP.sub (ws' := [(q6, .inr (3, [.int 0, .null, .int 0]))]) [8] rfl
  have hDc := hD.sub (ws' := [(q6, .inr (3, [.int 0, .null, .int 0]))]) [8] (by decide) rfl
  have hFc := va_free (wc := [(q6, .inr (3, [.int 0, .null, .int 0]))]) hD hS hA [8] rfl
  refine va_callv (va_runI (As := [.int 2]) (rest := [.ref q6, .ref h0]) (n := 1) (Ts := zs_tbl) ⟨hx, hb, hml, hown, hts⟩ (k_X5_init l dC dI cI cB q6 H.size (2)) ⟨⟨rfl, rfl, Nat.le_of_ble_eq_true rfl, Nat.le_of_ble_eq_true rfl, zs_pay (N := (yX5_init, cX5_init, 2, none, { frames := 0, cells := 0, slots := 0, locals := 0 })) hts cw_X5_init, List.mem_cons_self, hts _ cw_X5_init, hts _ sw_zX5, ⟨by decide, by decide⟩, zs_len (by decide +kernel), hts _ ml_RX6_35⟩, rfl, hts _ iw_X5_init⟩ ⟨zs_kb, fun U hU hW => ⟨rfl, by rw [hU], by rw [hU]; exact hPc, va_K.moved hW.alike hK, hDc.weaken (fun _ _ _ _ => trivial), fun w9 h9 => va_Nw.warmM hW (hN w9 h9)⟩⟩ rfl rfl hl.1 rfl (lv_room (Nat.le_of_ble_eq_true rfl)) dX6_init_44 ⟨Nat.le_of_ble_eq_true rfl, Nat.le_of_ble_eq_true rfl⟩) hS (fun q _ h => hFc q h) hFc (fun u7 t H1 locs ht hvm hw hB hz1 hk1 hS => ?_)
  obtain ⟨hP1, hD1⟩ := hB
  rw [ht] at hP1
  obtain ⟨hP, hD⟩ := va_join (wr := [(h0, .inr (4, [.int 2, .int 0, .int 0, .ref q1, .ref q2, .ref q4, .null, .null, .null])), (q1, zs_a0 cI 5), (q2, .inr (1, [.int 0, .int 0, .int 1, .ref (u3 0), .ref (u3 1), .ref (u3 2)])), ((u3 0), zs_a0 cI 12), ((u3 1), zs_a0 cI 5), ((u3 2), zs_a0 cI 5), (q4, .inr (2, [.ref (u5 0), .int 0])), ((u5 0), zs_a0 cI 200)]) (w1 := [(q6, .inr (3, [.int 2, .ref (u7 0), .int 0])), ((u7 0), zs_a0 cI 24)]) hP hD [8] [0, 1, 2, 3, 4, 5, 6, 7] rfl rfl (by decide) (by decide) hk1 hFc hP1 hD1
  generalize H1 = H at hP hS ⊢
  have hP : va_P (dC, dI) vwCl [(h0, .inr (4, [.int 2, .int 0, .int 0, .ref q1, .ref q2, .ref q4, .null, .null, .null])), (q1, zs_a0 cI 5), (q2, .inr (1, [.int 0, .int 0, .int 1, .ref (u3 0), .ref (u3 1), .ref (u3 2)])), ((u3 0), zs_a0 cI 12), ((u3 1), zs_a0 cI 5), ((u3 2), zs_a0 cI 5), (q4, .inr (2, [.ref (u5 0), .int 0])), ((u5 0), zs_a0 cI 200), (q6, .inr (3, [.int 2, .ref (u7 0), .int 0])), ((u7 0), zs_a0 cI 24)] H := hP
  have hD : va_D A [(h0, .inr (4, [.int 2, .int 0, .int 0, .ref q1, .ref q2, .ref q4, .null, .null, .null])), (q1, zs_a0 cI 5), (q2, .inr (1, [.int 0, .int 0, .int 1, .ref (u3 0), .ref (u3 1), .ref (u3 2)])), ((u3 0), zs_a0 cI 12), ((u3 1), zs_a0 cI 5), ((u3 2), zs_a0 cI 5), (q4, .inr (2, [.ref (u5 0), .int 0])), ((u5 0), zs_a0 cI 200), (q6, .inr (3, [.int 2, .ref (u7 0), .int 0])), ((u7 0), zs_a0 cI 24)] := hD
  refine va_putF (D := (dC, dI)) (ci := 4) (v := .ref q6) (ty := .object "ZoeStrips$Rows") (C := RX6) (T := TX6) (N := 9) hx hb hts zs_uw4 tyX6 tyX6_ok nmX6 hown hK hP hD hS 0 rfl rfl 6 (by decide) (hts _ fk_RX6_38) (fun _ h9 => h9) rfl hin rfl (by decide +kernel) rfl rfl (Nat.le_of_ble_eq_true rfl) dX6_init_47 (fun H locs hP hD hS => ?_)
  have hP : va_P (dC, dI) vwCl [(h0, .inr (4, [.int 2, .int 0, .int 0, .ref q1, .ref q2, .ref q4, .ref q6, .null, .null])), (q1, zs_a0 cI 5), (q2, .inr (1, [.int 0, .int 0, .int 1, .ref (u3 0), .ref (u3 1), .ref (u3 2)])), ((u3 0), zs_a0 cI 12), ((u3 1), zs_a0 cI 5), ((u3 2), zs_a0 cI 5), (q4, .inr (2, [.ref (u5 0), .int 0])), ((u5 0), zs_a0 cI 200), (q6, .inr (3, [.int 2, .ref (u7 0), .int 0])), ((u7 0), zs_a0 cI 24)] H := hP
  have hD : va_D A [(h0, .inr (4, [.int 2, .int 0, .int 0, .ref q1, .ref q2, .ref q4, .ref q6, .null, .null])), (q1, zs_a0 cI 5), (q2, .inr (1, [.int 0, .int 0, .int 1, .ref (u3 0), .ref (u3 1), .ref (u3 2)])), ((u3 0), zs_a0 cI 12), ((u3 1), zs_a0 cI 5), ((u3 2), zs_a0 cI 5), (q4, .inr (2, [.ref (u5 0), .int 0])), ((u5 0), zs_a0 cI 200), (q6, .inr (3, [.int 2, .ref (u7 0), .int 0])), ((u7 0), zs_a0 cI 24)] := hD
  refine lv_aload_n hx hb dX6_init_50 rfl (lv_at hl 0 rfl) ?_
  refine va_new (ci := 3) (fs := [.int 0, .null, .int 0]) (C := RX5) (T := TX5) (N := 3) hx hb hts zs_uw3 tyX5 tyX5_ok hown (hts _ lw_RX6_33) (hts _ sw_iX5) (hts _ sw_zX5) hK hP hD hS hA rfl (by decide) (Nat.le_of_ble_eq_true rfl) (Nat.le_of_ble_eq_true rfl) dX6_init_51 (fun q8 H hP hD hS => ?_)
  have hP : va_P (dC, dI) vwCl [(h0, .inr (4, [.int 2, .int 0, .int 0, .ref q1, .ref q2, .ref q4, .ref q6, .null, .null])), (q1, zs_a0 cI 5), (q2, .inr (1, [.int 0, .int 0, .int 1, .ref (u3 0), .ref (u3 1), .ref (u3 2)])), ((u3 0), zs_a0 cI 12), ((u3 1), zs_a0 cI 5), ((u3 2), zs_a0 cI 5), (q4, .inr (2, [.ref (u5 0), .int 0])), ((u5 0), zs_a0 cI 200), (q6, .inr (3, [.int 2, .ref (u7 0), .int 0])), ((u7 0), zs_a0 cI 24), (q8, .inr (3, [.int 0, .null, .int 0]))] H := hP
  have hD : va_D A [(h0, .inr (4, [.int 2, .int 0, .int 0, .ref q1, .ref q2, .ref q4, .ref q6, .null, .null])), (q1, zs_a0 cI 5), (q2, .inr (1, [.int 0, .int 0, .int 1, .ref (u3 0), .ref (u3 1), .ref (u3 2)])), ((u3 0), zs_a0 cI 12), ((u3 1), zs_a0 cI 5), ((u3 2), zs_a0 cI 5), (q4, .inr (2, [.ref (u5 0), .int 0])), ((u5 0), zs_a0 cI 200), (q6, .inr (3, [.int 2, .ref (u7 0), .int 0])), ((u7 0), zs_a0 cI 24), (q8, .inr (3, [.int 0, .null, .int 0]))] := hD
  refine lv_dup hx hb dX6_init_54 rfl ?_
  refine lv_iconst (v := 4) hx hb dX6_init_55 (by decide) ?_
  have hPc := hP.sub (ws' := [(q8, .inr (3, [.int 0, .null, .int 0]))]) [10] rfl
  have hDc := hD.sub (ws' := [(q8, .inr (3, [.int 0, .null, .int 0]))]) [10] (by decide) rfl
  have hFc := va_free (wc := [(q8, .inr (3, [.int 0, .null, .int 0]))]) hD hS hA [10] rfl
  refine va_callv (va_runI (As := [.int 4]) (rest := [.ref q8, .ref h0]) (n := 1) (Ts := zs_tbl) ⟨hx, hb, hml, hown, hts⟩ (k_X5_init l dC dI cI cB q8 H.size (4)) ⟨⟨rfl, rfl, Nat.le_of_ble_eq_true rfl, Nat.le_of_ble_eq_true rfl, zs_pay (N := (yX5_init, cX5_init, 2, none, { frames := 0, cells := 0, slots := 0, locals := 0 })) hts cw_X5_init, List.mem_cons_self, hts _ cw_X5_init, hts _ sw_zX5, ⟨by decide, by decide⟩, zs_len (by decide +kernel), hts _ ml_RX6_35⟩, rfl, hts _ iw_X5_init⟩ ⟨zs_kb, fun U hU hW => ⟨rfl, by rw [hU], by rw [hU]; exact hPc, va_K.moved hW.alike hK, hDc.weaken (fun _ _ _ _ => trivial), fun w9 h9 => va_Nw.warmM hW (hN w9 h9)⟩⟩ rfl rfl hl.1 rfl (lv_room (Nat.le_of_ble_eq_true rfl)) dX6_init_56 ⟨Nat.le_of_ble_eq_true rfl, Nat.le_of_ble_eq_true rfl⟩) hS (fun q _ h => hFc q h) hFc (fun u9 t H1 locs ht hvm hw hB hz1 hk1 hS => ?_)
  obtain ⟨hP1, hD1⟩ := hB
  rw [ht] at hP1
  obtain ⟨hP, hD⟩ := va_join (wr := [(h0, .inr (4, [.int 2, .int 0, .int 0, .ref q1, .ref q2, .ref q4, .ref q6, .null, .null])), (q1, zs_a0 cI 5), (q2, .inr (1, [.int 0, .int 0, .int 1, .ref (u3 0), .ref (u3 1), .ref (u3 2)])), ((u3 0), zs_a0 cI 12), ((u3 1), zs_a0 cI 5), ((u3 2), zs_a0 cI 5), (q4, .inr (2, [.ref (u5 0), .int 0])), ((u5 0), zs_a0 cI 200), (q6, .inr (3, [.int 2, .ref (u7 0), .int 0])), ((u7 0), zs_a0 cI 24)]) (w1 := [(q8, .inr (3, [.int 4, .ref (u9 0), .int 0])), ((u9 0), zs_a0 cI 24)]) hP hD [10] [0, 1, 2, 3, 4, 5, 6, 7, 8, 9] rfl rfl (by decide) (by decide) hk1 hFc hP1 hD1
  generalize H1 = H at hP hS ⊢
  have hP : va_P (dC, dI) vwCl [(h0, .inr (4, [.int 2, .int 0, .int 0, .ref q1, .ref q2, .ref q4, .ref q6, .null, .null])), (q1, zs_a0 cI 5), (q2, .inr (1, [.int 0, .int 0, .int 1, .ref (u3 0), .ref (u3 1), .ref (u3 2)])), ((u3 0), zs_a0 cI 12), ((u3 1), zs_a0 cI 5), ((u3 2), zs_a0 cI 5), (q4, .inr (2, [.ref (u5 0), .int 0])), ((u5 0), zs_a0 cI 200), (q6, .inr (3, [.int 2, .ref (u7 0), .int 0])), ((u7 0), zs_a0 cI 24), (q8, .inr (3, [.int 4, .ref (u9 0), .int 0])), ((u9 0), zs_a0 cI 24)] H := hP
  have hD : va_D A [(h0, .inr (4, [.int 2, .int 0, .int 0, .ref q1, .ref q2, .ref q4, .ref q6, .null, .null])), (q1, zs_a0 cI 5), (q2, .inr (1, [.int 0, .int 0, .int 1, .ref (u3 0), .ref (u3 1), .ref (u3 2)])), ((u3 0), zs_a0 cI 12), ((u3 1), zs_a0 cI 5), ((u3 2), zs_a0 cI 5), (q4, .inr (2, [.ref (u5 0), .int 0])), ((u5 0), zs_a0 cI 200), (q6, .inr (3, [.int 2, .ref (u7 0), .int 0])), ((u7 0), zs_a0 cI 24), (q8, .inr (3, [.int 4, .ref (u9 0), .int 0])), ((u9 0), zs_a0 cI 24)] := hD
  refine va_putF (D := (dC, dI)) (ci := 4) (v := .ref q8) (ty := .object "ZoeStrips$Rows") (C := RX6) (T := TX6) (N := 9) hx hb hts zs_uw4 tyX6 tyX6_ok nmX6 hown hK hP hD hS 0 rfl rfl 7 (by decide) (hts _ fk_RX6_42) (fun _ h9 => h9) rfl hin rfl (by decide +kernel) rfl rfl (Nat.le_of_ble_eq_true rfl) dX6_init_59 (fun H locs hP hD hS => ?_)
  have hP : va_P (dC, dI) vwCl [(h0, .inr (4, [.int 2, .int 0, .int 0, .ref q1, .ref q2, .ref q4, .ref q6, .ref q8, .null])), (q1, zs_a0 cI 5), (q2, .inr (1, [.int 0, .int 0, .int 1, .ref (u3 0), .ref (u3 1), .ref (u3 2)])), ((u3 0), zs_a0 cI 12), ((u3 1), zs_a0 cI 5), ((u3 2), zs_a0 cI 5), (q4, .inr (2, [.ref (u5 0), .int 0])), ((u5 0), zs_a0 cI 200), (q6, .inr (3, [.int 2, .ref (u7 0), .int 0])), ((u7 0), zs_a0 cI 24), (q8, .inr (3, [.int 4, .ref (u9 0), .int 0])), ((u9 0), zs_a0 cI 24)] H := hP
  have hD : va_D A [(h0, .inr (4, [.int 2, .int 0, .int 0, .ref q1, .ref q2, .ref q4, .ref q6, .ref q8, .null])), (q1, zs_a0 cI 5), (q2, .inr (1, [.int 0, .int 0, .int 1, .ref (u3 0), .ref (u3 1), .ref (u3 2)])), ((u3 0), zs_a0 cI 12), ((u3 1), zs_a0 cI 5), ((u3 2), zs_a0 cI 5), (q4, .inr (2, [.ref (u5 0), .int 0])), ((u5 0), zs_a0 cI 200), (q6, .inr (3, [.int 2, .ref (u7 0), .int 0])), ((u7 0), zs_a0 cI 24), (q8, .inr (3, [.int 4, .ref (u9 0), .int 0])), ((u9 0), zs_a0 cI 24)] := hD
  refine lv_aload_n hx hb dX6_init_62 rfl (lv_at hl 0 rfl) ?_
  refine va_new (ci := 3) (fs := [.int 0, .null, .int 0]) (C := RX5) (T := TX5) (N := 3) hx hb hts zs_uw3 tyX5 tyX5_ok hown (hts _ lw_RX6_33) (hts _ sw_iX5) (hts _ sw_zX5) hK hP hD hS hA rfl (by decide) (Nat.le_of_ble_eq_true rfl) (Nat.le_of_ble_eq_true rfl) dX6_init_63 (fun q10 H hP hD hS => ?_)
  have hP : va_P (dC, dI) vwCl [(h0, .inr (4, [.int 2, .int 0, .int 0, .ref q1, .ref q2, .ref q4, .ref q6, .ref q8, .null])), (q1, zs_a0 cI 5), (q2, .inr (1, [.int 0, .int 0, .int 1, .ref (u3 0), .ref (u3 1), .ref (u3 2)])), ((u3 0), zs_a0 cI 12), ((u3 1), zs_a0 cI 5), ((u3 2), zs_a0 cI 5), (q4, .inr (2, [.ref (u5 0), .int 0])), ((u5 0), zs_a0 cI 200), (q6, .inr (3, [.int 2, .ref (u7 0), .int 0])), ((u7 0), zs_a0 cI 24), (q8, .inr (3, [.int 4, .ref (u9 0), .int 0])), ((u9 0), zs_a0 cI 24), (q10, .inr (3, [.int 0, .null, .int 0]))] H := hP
  have hD : va_D A [(h0, .inr (4, [.int 2, .int 0, .int 0, .ref q1, .ref q2, .ref q4, .ref q6, .ref q8, .null])), (q1, zs_a0 cI 5), (q2, .inr (1, [.int 0, .int 0, .int 1, .ref (u3 0), .ref (u3 1), .ref (u3 2)])), ((u3 0), zs_a0 cI 12), ((u3 1), zs_a0 cI 5), ((u3 2), zs_a0 cI 5), (q4, .inr (2, [.ref (u5 0), .int 0])), ((u5 0), zs_a0 cI 200), (q6, .inr (3, [.int 2, .ref (u7 0), .int 0])), ((u7 0), zs_a0 cI 24), (q8, .inr (3, [.int 4, .ref (u9 0), .int 0])), ((u9 0), zs_a0 cI 24), (q10, .inr (3, [.int 0, .null, .int 0]))] := hD
  refine lv_dup hx hb dX6_init_66 rfl ?_
  refine lv_iconst (v := 3) hx hb dX6_init_67 (by decide) ?_
  have hPc := hP.sub (ws' := [(q10, .inr (3, [.int 0, .null, .int 0]))]) [12] rfl
  have hDc := hD.sub (ws' := [(q10, .inr (3, [.int 0, .null, .int 0]))]) [12] (by decide) rfl
  have hFc := va_free (wc := [(q10, .inr (3, [.int 0, .null, .int 0]))]) hD hS hA [12] rfl
  refine va_callv (va_runI (As := [.int 3]) (rest := [.ref q10, .ref h0]) (n := 1) (Ts := zs_tbl) ⟨hx, hb, hml, hown, hts⟩ (k_X5_init l dC dI cI cB q10 H.size (3)) ⟨⟨rfl, rfl, Nat.le_of_ble_eq_true rfl, Nat.le_of_ble_eq_true rfl, zs_pay (N := (yX5_init, cX5_init, 2, none, { frames := 0, cells := 0, slots := 0, locals := 0 })) hts cw_X5_init, List.mem_cons_self, hts _ cw_X5_init, hts _ sw_zX5, ⟨by decide, by decide⟩, zs_len (by decide +kernel), hts _ ml_RX6_35⟩, rfl, hts _ iw_X5_init⟩ ⟨zs_kb, fun U hU hW => ⟨rfl, by rw [hU], by rw [hU]; exact hPc, va_K.moved hW.alike hK, hDc.weaken (fun _ _ _ _ => trivial), fun w9 h9 => va_Nw.warmM hW (hN w9 h9)⟩⟩ rfl rfl hl.1 rfl (lv_room (Nat.le_of_ble_eq_true rfl)) dX6_init_68 ⟨Nat.le_of_ble_eq_true rfl, Nat.le_of_ble_eq_true rfl⟩) hS (fun q _ h => hFc q h) hFc (fun u11 t H1 locs ht hvm hw hB hz1 hk1 hS => ?_)
  obtain ⟨hP1, hD1⟩ := hB
  rw [ht] at hP1
  obtain ⟨hP, hD⟩ := va_join (wr := [(h0, .inr (4, [.int 2, .int 0, .int 0, .ref q1, .ref q2, .ref q4, .ref q6, .ref q8, .null])), (q1, zs_a0 cI 5), (q2, .inr (1, [.int 0, .int 0, .int 1, .ref (u3 0), .ref (u3 1), .ref (u3 2)])), ((u3 0), zs_a0 cI 12), ((u3 1), zs_a0 cI 5), ((u3 2), zs_a0 cI 5), (q4, .inr (2, [.ref (u5 0), .int 0])), ((u5 0), zs_a0 cI 200), (q6, .inr (3, [.int 2, .ref (u7 0), .int 0])), ((u7 0), zs_a0 cI 24), (q8, .inr (3, [.int 4, .ref (u9 0), .int 0])), ((u9 0), zs_a0 cI 24)]) (w1 := [(q10, .inr (3, [.int 3, .ref (u11 0), .int 0])), ((u11 0), zs_a0 cI 24)]) hP hD [12] [0, 1, 2, 3, 4, 5, 6, 7, 8, 9, 10, 11] rfl rfl (by decide) (by decide) hk1 hFc hP1 hD1
  generalize H1 = H at hP hS ⊢
  have hP : va_P (dC, dI) vwCl [(h0, .inr (4, [.int 2, .int 0, .int 0, .ref q1, .ref q2, .ref q4, .ref q6, .ref q8, .null])), (q1, zs_a0 cI 5), (q2, .inr (1, [.int 0, .int 0, .int 1, .ref (u3 0), .ref (u3 1), .ref (u3 2)])), ((u3 0), zs_a0 cI 12), ((u3 1), zs_a0 cI 5), ((u3 2), zs_a0 cI 5), (q4, .inr (2, [.ref (u5 0), .int 0])), ((u5 0), zs_a0 cI 200), (q6, .inr (3, [.int 2, .ref (u7 0), .int 0])), ((u7 0), zs_a0 cI 24), (q8, .inr (3, [.int 4, .ref (u9 0), .int 0])), ((u9 0), zs_a0 cI 24), (q10, .inr (3, [.int 3, .ref (u11 0), .int 0])), ((u11 0), zs_a0 cI 24)] H := hP
  have hD : va_D A [(h0, .inr (4, [.int 2, .int 0, .int 0, .ref q1, .ref q2, .ref q4, .ref q6, .ref q8, .null])), (q1, zs_a0 cI 5), (q2, .inr (1, [.int 0, .int 0, .int 1, .ref (u3 0), .ref (u3 1), .ref (u3 2)])), ((u3 0), zs_a0 cI 12), ((u3 1), zs_a0 cI 5), ((u3 2), zs_a0 cI 5), (q4, .inr (2, [.ref (u5 0), .int 0])), ((u5 0), zs_a0 cI 200), (q6, .inr (3, [.int 2, .ref (u7 0), .int 0])), ((u7 0), zs_a0 cI 24), (q8, .inr (3, [.int 4, .ref (u9 0), .int 0])), ((u9 0), zs_a0 cI 24), (q10, .inr (3, [.int 3, .ref (u11 0), .int 0])), ((u11 0), zs_a0 cI 24)] := hD
  refine va_putF (D := (dC, dI)) (ci := 4) (v := .ref q10) (ty := .object "ZoeStrips$Rows") (C := RX6) (T := TX6) (N := 9) hx hb hts zs_uw4 tyX6 tyX6_ok nmX6 hown hK hP hD hS 0 rfl rfl 8 (by decide) (hts _ fk_RX6_45) (fun _ h9 => h9) rfl hin rfl (by decide +kernel) rfl rfl (Nat.le_of_ble_eq_true rfl) dX6_init_71 (fun H locs hP hD hS => ?_)
  have hP : va_P (dC, dI) vwCl [(h0, .inr (4, [.int 2, .int 0, .int 0, .ref q1, .ref q2, .ref q4, .ref q6, .ref q8, .ref q10])), (q1, zs_a0 cI 5), (q2, .inr (1, [.int 0, .int 0, .int 1, .ref (u3 0), .ref (u3 1), .ref (u3 2)])), ((u3 0), zs_a0 cI 12), ((u3 1), zs_a0 cI 5), ((u3 2), zs_a0 cI 5), (q4, .inr (2, [.ref (u5 0), .int 0])), ((u5 0), zs_a0 cI 200), (q6, .inr (3, [.int 2, .ref (u7 0), .int 0])), ((u7 0), zs_a0 cI 24), (q8, .inr (3, [.int 4, .ref (u9 0), .int 0])), ((u9 0), zs_a0 cI 24), (q10, .inr (3, [.int 3, .ref (u11 0), .int 0])), ((u11 0), zs_a0 cI 24)] H := hP
  have hD : va_D A [(h0, .inr (4, [.int 2, .int 0, .int 0, .ref q1, .ref q2, .ref q4, .ref q6, .ref q8, .ref q10])), (q1, zs_a0 cI 5), (q2, .inr (1, [.int 0, .int 0, .int 1, .ref (u3 0), .ref (u3 1), .ref (u3 2)])), ((u3 0), zs_a0 cI 12), ((u3 1), zs_a0 cI 5), ((u3 2), zs_a0 cI 5), (q4, .inr (2, [.ref (u5 0), .int 0])), ((u5 0), zs_a0 cI 200), (q6, .inr (3, [.int 2, .ref (u7 0), .int 0])), ((u7 0), zs_a0 cI 24), (q8, .inr (3, [.int 4, .ref (u9 0), .int 0])), ((u9 0), zs_a0 cI 24), (q10, .inr (3, [.int 3, .ref (u11 0), .int 0])), ((u11 0), zs_a0 cI 24)] := hD
  exact W.vret hx hb hr (fun t ht hW => ⟨⟨fun k => [q1, q2, (u3 0), (u3 1), (u3 2), q4, (u5 0), q6, (u7 0), q8, (u9 0), q10, (u11 0)].getD k 0, rfl, trivial, by rw [ht]; exact hP, hD⟩, hS.F ht⟩) hS.2.2 dX6_init_74
theorem ol_RX7 : Cond.methodLink RX7 3 Lib.objectInit ∈ zs_tbl := zs_in 314 (by decide +kernel) rfl
theorem fk_RX7_9 : Cond.fieldLink RX7 9 (TX7 0).1 (TX7 0).2.1 (TX7 0).2.2.1 ∈ zs_tbl := zs_in 315 (by decide +kernel) rfl
theorem fk_RX7_15 : Cond.fieldLink RX7 15 (TX7 1).1 (TX7 1).2.1 (TX7 1).2.2.1 ∈ zs_tbl := zs_in 316 (by decide +kernel) rfl
set_option maxHeartbeats 4000000 in
set_option maxRecDepth 100000 in
theorem k_X7_init (l : Launch) (dC : Nat → ClassId) (dI : Nat → Nat → Nat) (cI cB : ClassId) (h0 sz : Nat) : Met l yX7_init (Cond.code yX7_init cX7_init 1 none :: zs_tbl) { frames := 1, cells := 2, slots := 20, locals := 12 } (va_Pc [.ref h0] (zs_kp (dC, dI) cI cB [(h0, .inr (5, [.null, .null]))] sz)) (zs_kq (dC, dI) (fun u => [(h0, .inr (5, [.ref (u 0), .ref (u 1)])), ((u 0), zs_a0 cI 10), ((u 1), zs_a0 cI 10)]) (va_A [(h0, .inr (5, [.null, .null]))] sz)) 2 20 (va_A [(h0, .inr (5, [.null, .null]))] sz) := by
  refine Met.ofW (cc := cX7_init) (maxL := 1) (ret := none) (by decide) rfl ?_
  intro p e s m args below meth c s₁ B hml hv
  obtain ⟨rfl, hsz, hP, hK, hD0, hN⟩ := hv
  have hx := B.exec
  have hb := B.bytes
  have hr := B.returns
  have hts0 := atoms_spec (ws := Cond.code yX7_init cX7_init 1 none :: zs_tbl) B.pre
  have hts : ∀ w ∈ zs_tbl, w.before _ s = true := fun w hw => hts0 w (List.mem_cons_of_mem _ hw)
  have hown : s.vm.findClass RX7 = some m.cls := findClass_of_methodNamed B.named
  have hlocks := B.notSynchronized
  have hin : meth.name = "<init>" := (name_of_methodNamed B.named B.method).1
  subst hsz
  have hD := hD0.self (sz := s.heap.size)
  generalize hAe : va_A [(h0, .inr (5, [.null, .null]))] s.heap.size = A at hD ⊢
  have hA : ∀ q : Nat, s.heap.size ≤ q → A q := fun q h => by rw [← hAe]; exact Or.inr h
  have hS : va_S A s.heap s.heap [] := va_S.rf
  have hl := lv_entry ([.ref h0]) (n := 1) (Nat.le_of_ble_eq_true rfl)
  rw [lg_entry_eq]
  generalize (lg_sl ([.ref h0]) ++ List.replicate (1 - (lg_sl ([.ref h0])).length) Slot.unset).toArray = ls at hl ⊢
  have hl : lv_has ls 1 [(0, .ref h0)] := hl
  refine lv_aload_n hx hb dX7_init_0 rfl (lv_at hl 0 rfl) ?_
  refine W.objInit hx hb hown (hts _ ol_RX7) (hts _ ow_inst) (hts _ ow_code) rfl (by rw [hml]; exact hl.1) rfl dX7_init_1 (Nat.le_of_ble_eq_true rfl) (Nat.le_of_ble_eq_true rfl) ?_
  refine W.eq (g2 := F0 m 4 ls []) rfl ?_
  refine lv_aload_n hx hb dX7_init_4 rfl (lv_at hl 0 rfl) ?_
  refine lv_bipush (v := 10) hx hb dX7_init_5 (by decide) ?_
  refine va_newa (atype := .int) (ty := .int) (N' := 10) (a0 := (10, .inl (fun _ => 0))) hx hb (hts _ aw_int) rfl hK hP hD hS hA (fun cA => rfl) (by decide) (by decide) (by decide) (Nat.le_of_ble_eq_true rfl) (Nat.le_of_ble_eq_true rfl) dX7_init_7 (fun q1 cA H hK2 hP hD hS => ?_)
  obtain rfl := zs_cI hK2
  have hP : va_P (dC, dI) vwCl [(h0, .inr (5, [.null, .null])), (q1, zs_a0 cI 10)] H := hP
  have hD : va_D A [(h0, .inr (5, [.null, .null])), (q1, zs_a0 cI 10)] := hD
  refine va_putF (D := (dC, dI)) (ci := 5) (v := .ref q1) (ty := .array .int) (C := RX7) (T := TX7) (N := 2) hx hb hts zs_uw5 tyX7 tyX7_ok nmX7 hown hK hP hD hS 0 rfl rfl 0 (by decide) (hts _ fk_RX7_9) (fun _ h9 => h9) rfl hin rfl (by decide +kernel) rfl rfl (Nat.le_of_ble_eq_true rfl) dX7_init_9 (fun H locs hP hD hS => ?_)
  have hP : va_P (dC, dI) vwCl [(h0, .inr (5, [.ref q1, .null])), (q1, zs_a0 cI 10)] H := hP
  have hD : va_D A [(h0, .inr (5, [.ref q1, .null])), (q1, zs_a0 cI 10)] := hD
  refine lv_aload_n hx hb dX7_init_12 rfl (lv_at hl 0 rfl) ?_
  refine lv_bipush (v := 10) hx hb dX7_init_13 (by decide) ?_
  refine va_newa (atype := .int) (ty := .int) (N' := 10) (a0 := (10, .inl (fun _ => 0))) hx hb (hts _ aw_int) rfl hK hP hD hS hA (fun cA => rfl) (by decide) (by decide) (by decide) (Nat.le_of_ble_eq_true rfl) (Nat.le_of_ble_eq_true rfl) dX7_init_15 (fun q2 cA H hK2 hP hD hS => ?_)
  obtain rfl := zs_cI hK2
  have hP : va_P (dC, dI) vwCl [(h0, .inr (5, [.ref q1, .null])), (q1, zs_a0 cI 10), (q2, zs_a0 cI 10)] H := hP
  have hD : va_D A [(h0, .inr (5, [.ref q1, .null])), (q1, zs_a0 cI 10), (q2, zs_a0 cI 10)] := hD
  refine va_putF (D := (dC, dI)) (ci := 5) (v := .ref q2) (ty := .array .int) (C := RX7) (T := TX7) (N := 2) hx hb hts zs_uw5 tyX7 tyX7_ok nmX7 hown hK hP hD hS 0 rfl rfl 1 (by decide) (hts _ fk_RX7_15) (fun _ h9 => h9) rfl hin rfl (by decide +kernel) rfl rfl (Nat.le_of_ble_eq_true rfl) dX7_init_17 (fun H locs hP hD hS => ?_)
  have hP : va_P (dC, dI) vwCl [(h0, .inr (5, [.ref q1, .ref q2])), (q1, zs_a0 cI 10), (q2, zs_a0 cI 10)] H := hP
  have hD : va_D A [(h0, .inr (5, [.ref q1, .ref q2])), (q1, zs_a0 cI 10), (q2, zs_a0 cI 10)] := hD
  exact W.vret hx hb hr (fun t ht hW => ⟨⟨fun k => [q1, q2].getD k 0, rfl, trivial, by rw [ht]; exact hP, hD⟩, hS.F ht⟩) hS.2.2 dX7_init_20
theorem ol_RX8 : Cond.methodLink RX8 3 Lib.objectInit ∈ zs_tbl := zs_in 264 (by decide +kernel) rfl
theorem fk_RX8_9 : Cond.fieldLink RX8 9 (TX8 0).1 (TX8 0).2.1 (TX8 0).2.2.1 ∈ zs_tbl := zs_in 265 (by decide +kernel) rfl
theorem fk_RX8_15 : Cond.fieldLink RX8 15 (TX8 1).1 (TX8 1).2.1 (TX8 1).2.2.1 ∈ zs_tbl := zs_in 266 (by decide +kernel) rfl
set_option maxHeartbeats 4000000 in
set_option maxRecDepth 100000 in
theorem k_X8_init (l : Launch) (dC : Nat → ClassId) (dI : Nat → Nat → Nat) (cI cB : ClassId) (h0 sz : Nat) : Met l yX8_init (Cond.code yX8_init cX8_init 1 none :: zs_tbl) { frames := 1, cells := 2, slots := 132, locals := 12 } (va_Pc [.ref h0] (zs_kp (dC, dI) cI cB [(h0, .inr (6, [.null, .null, .int 0]))] sz)) (zs_kq (dC, dI) (fun u => [(h0, .inr (6, [.ref (u 0), .ref (u 1), .int 0])), ((u 0), zs_a0 cI 120), ((u 1), zs_a0 cI 12)]) (va_A [(h0, .inr (6, [.null, .null, .int 0]))] sz)) 2 132 (va_A [(h0, .inr (6, [.null, .null, .int 0]))] sz) := by
  refine Met.ofW (cc := cX8_init) (maxL := 1) (ret := none) (by decide) rfl ?_
  intro p e s m args below meth c s₁ B hml hv
  obtain ⟨rfl, hsz, hP, hK, hD0, hN⟩ := hv
  have hx := B.exec
  have hb := B.bytes
  have hr := B.returns
  have hts0 := atoms_spec (ws := Cond.code yX8_init cX8_init 1 none :: zs_tbl) B.pre
  have hts : ∀ w ∈ zs_tbl, w.before _ s = true := fun w hw => hts0 w (List.mem_cons_of_mem _ hw)
  have hown : s.vm.findClass RX8 = some m.cls := findClass_of_methodNamed B.named
  have hlocks := B.notSynchronized
  have hin : meth.name = "<init>" := (name_of_methodNamed B.named B.method).1
  subst hsz
  have hD := hD0.self (sz := s.heap.size)
  generalize hAe : va_A [(h0, .inr (6, [.null, .null, .int 0]))] s.heap.size = A at hD ⊢
  have hA : ∀ q : Nat, s.heap.size ≤ q → A q := fun q h => by rw [← hAe]; exact Or.inr h
  have hS : va_S A s.heap s.heap [] := va_S.rf
  have hl := lv_entry ([.ref h0]) (n := 1) (Nat.le_of_ble_eq_true rfl)
  rw [lg_entry_eq]
  generalize (lg_sl ([.ref h0]) ++ List.replicate (1 - (lg_sl ([.ref h0])).length) Slot.unset).toArray = ls at hl ⊢
  have hl : lv_has ls 1 [(0, .ref h0)] := hl
  refine lv_aload_n hx hb dX8_init_0 rfl (lv_at hl 0 rfl) ?_
  refine W.objInit hx hb hown (hts _ ol_RX8) (hts _ ow_inst) (hts _ ow_code) rfl (by rw [hml]; exact hl.1) rfl dX8_init_1 (Nat.le_of_ble_eq_true rfl) (Nat.le_of_ble_eq_true rfl) ?_
  refine W.eq (g2 := F0 m 4 ls []) rfl ?_
  refine lv_aload_n hx hb dX8_init_4 rfl (lv_at hl 0 rfl) ?_
  refine lv_bipush (v := 120) hx hb dX8_init_5 (by decide) ?_
  refine va_newa (atype := .int) (ty := .int) (N' := 120) (a0 := (120, .inl (fun _ => 0))) hx hb (hts _ aw_int) rfl hK hP hD hS hA (fun cA => rfl) (by decide) (by decide) (by decide) (Nat.le_of_ble_eq_true rfl) (Nat.le_of_ble_eq_true rfl) dX8_init_7 (fun q1 cA H hK2 hP hD hS => ?_)
  obtain rfl := zs_cI hK2
  have hP : va_P (dC, dI) vwCl [(h0, .inr (6, [.null, .null, .int 0])), (q1, zs_a0 cI 120)] H := hP
  have hD : va_D A [(h0, .inr (6, [.null, .null, .int 0])), (q1, zs_a0 cI 120)] := hD
  refine va_putF (D := (dC, dI)) (ci := 6) (v := .ref q1) (ty := .array .int) (C := RX8) (T := TX8) (N := 3) hx hb hts zs_uw6 tyX8 tyX8_ok nmX8 hown hK hP hD hS 0 rfl rfl 0 (by decide) (hts _ fk_RX8_9) (fun _ h9 => h9) rfl hin rfl (by decide +kernel) rfl rfl (Nat.le_of_ble_eq_true rfl) dX8_init_9 (fun H locs hP hD hS => ?_)
  have hP : va_P (dC, dI) vwCl [(h0, .inr (6, [.ref q1, .null, .int 0])), (q1, zs_a0 cI 120)] H := hP
  have hD : va_D A [(h0, .inr (6, [.ref q1, .null, .int 0])), (q1, zs_a0 cI 120)] := hD
  refine lv_aload_n hx hb dX8_init_12 rfl (lv_at hl 0 rfl) ?_
  refine lv_bipush (v := 12) hx hb dX8_init_13 (by decide) ?_
  refine va_newa (atype := .int) (ty := .int) (N' := 12) (a0 := (12, .inl (fun _ => 0))) hx hb (hts _ aw_int) rfl hK hP hD hS hA (fun cA => rfl) (by decide) (by decide) (by decide) (Nat.le_of_ble_eq_true rfl) (Nat.le_of_ble_eq_true rfl) dX8_init_15 (fun q2 cA H hK2 hP hD hS => ?_)
  obtain rfl := zs_cI hK2
  have hP : va_P (dC, dI) vwCl [(h0, .inr (6, [.ref q1, .null, .int 0])), (q1, zs_a0 cI 120), (q2, zs_a0 cI 12)] H := hP
  have hD : va_D A [(h0, .inr (6, [.ref q1, .null, .int 0])), (q1, zs_a0 cI 120), (q2, zs_a0 cI 12)] := hD
  refine va_putF (D := (dC, dI)) (ci := 6) (v := .ref q2) (ty := .array .int) (C := RX8) (T := TX8) (N := 3) hx hb hts zs_uw6 tyX8 tyX8_ok nmX8 hown hK hP hD hS 0 rfl rfl 1 (by decide) (hts _ fk_RX8_15) (fun _ h9 => h9) rfl hin rfl (by decide +kernel) rfl rfl (Nat.le_of_ble_eq_true rfl) dX8_init_17 (fun H locs hP hD hS => ?_)
  have hP : va_P (dC, dI) vwCl [(h0, .inr (6, [.ref q1, .ref q2, .int 0])), (q1, zs_a0 cI 120), (q2, zs_a0 cI 12)] H := hP
  have hD : va_D A [(h0, .inr (6, [.ref q1, .ref q2, .int 0])), (q1, zs_a0 cI 120), (q2, zs_a0 cI 12)] := hD
  exact W.vret hx hb hr (fun t ht hW => ⟨⟨fun k => [q1, q2].getD k 0, rfl, trivial, by rw [ht]; exact hP, hD⟩, hS.F ht⟩) hS.2.2 dX8_init_20
theorem ol_RX9 : Cond.methodLink RX9 1 Lib.objectInit ∈ zs_tbl := zs_in 300 (by decide +kernel) rfl
theorem fk_RX9_7 : Cond.fieldLink RX9 7 (TX9 0).1 (TX9 0).2.1 (TX9 0).2.2.1 ∈ zs_tbl := zs_in 301 (by decide +kernel) rfl
set_option maxHeartbeats 4000000 in
set_option maxRecDepth 100000 in
theorem k_X9_init (l : Launch) (dC : Nat → ClassId) (dI : Nat → Nat → Nat) (cI cB : ClassId) (h0 sz : Nat) : Met l yX9_init (Cond.code yX9_init cX9_init 1 none :: zs_tbl) { frames := 1, cells := 1, slots := 32, locals := 12 } (va_Pc [.ref h0] (zs_kp (dC, dI) cI cB [(h0, .inr (7, [.null, .int 0]))] sz)) (zs_kq (dC, dI) (fun u => [(h0, .inr (7, [.ref (u 0), .int 0])), ((u 0), zs_a0 cI 32)]) (va_A [(h0, .inr (7, [.null, .int 0]))] sz)) 1 32 (va_A [(h0, .inr (7, [.null, .int 0]))] sz) := by
  refine Met.ofW (cc := cX9_init) (maxL := 1) (ret := none) (by decide) rfl ?_
  intro p e s m args below meth c s₁ B hml hv
  obtain ⟨rfl, hsz, hP, hK, hD0, hN⟩ := hv
  have hx := B.exec
  have hb := B.bytes
  have hr := B.returns
  have hts0 := atoms_spec (ws := Cond.code yX9_init cX9_init 1 none :: zs_tbl) B.pre
  have hts : ∀ w ∈ zs_tbl, w.before _ s = true := fun w hw => hts0 w (List.mem_cons_of_mem _ hw)
  have hown : s.vm.findClass RX9 = some m.cls := findClass_of_methodNamed B.named
  have hlocks := B.notSynchronized
  have hin : meth.name = "<init>" := (name_of_methodNamed B.named B.method).1
  subst hsz
  have hD := hD0.self (sz := s.heap.size)
  generalize hAe : va_A [(h0, .inr (7, [.null, .int 0]))] s.heap.size = A at hD ⊢
  have hA : ∀ q : Nat, s.heap.size ≤ q → A q := fun q h => by rw [← hAe]; exact Or.inr h
  have hS : va_S A s.heap s.heap [] := va_S.rf
  have hl := lv_entry ([.ref h0]) (n := 1) (Nat.le_of_ble_eq_true rfl)
  rw [lg_entry_eq]
  generalize (lg_sl ([.ref h0]) ++ List.replicate (1 - (lg_sl ([.ref h0])).length) Slot.unset).toArray = ls at hl ⊢
  have hl : lv_has ls 1 [(0, .ref h0)] := hl
  refine lv_aload_n hx hb dX9_init_0 rfl (lv_at hl 0 rfl) ?_
  refine W.objInit hx hb hown (hts _ ol_RX9) (hts _ ow_inst) (hts _ ow_code) rfl (by rw [hml]; exact hl.1) rfl dX9_init_1 (Nat.le_of_ble_eq_true rfl) (Nat.le_of_ble_eq_true rfl) ?_
  refine W.eq (g2 := F0 m 4 ls []) rfl ?_
  refine lv_aload_n hx hb dX9_init_4 rfl (lv_at hl 0 rfl) ?_
  refine lv_bipush (v := 32) hx hb dX9_init_5 (by decide) ?_
  refine va_newa (atype := .int) (ty := .int) (N' := 32) (a0 := (32, .inl (fun _ => 0))) hx hb (hts _ aw_int) rfl hK hP hD hS hA (fun cA => rfl) (by decide) (by decide) (by decide) (Nat.le_of_ble_eq_true rfl) (Nat.le_of_ble_eq_true rfl) dX9_init_7 (fun q1 cA H hK2 hP hD hS => ?_)
  obtain rfl := zs_cI hK2
  have hP : va_P (dC, dI) vwCl [(h0, .inr (7, [.null, .int 0])), (q1, zs_a0 cI 32)] H := hP
  have hD : va_D A [(h0, .inr (7, [.null, .int 0])), (q1, zs_a0 cI 32)] := hD
  refine va_putF (D := (dC, dI)) (ci := 7) (v := .ref q1) (ty := .array .int) (C := RX9) (T := TX9) (N := 2) hx hb hts zs_uw7 tyX9 tyX9_ok nmX9 hown hK hP hD hS 0 rfl rfl 0 (by decide) (hts _ fk_RX9_7) (fun _ h9 => h9) rfl hin rfl (by decide +kernel) rfl rfl (Nat.le_of_ble_eq_true rfl) dX9_init_9 (fun H locs hP hD hS => ?_)
  have hP : va_P (dC, dI) vwCl [(h0, .inr (7, [.ref q1, .int 0])), (q1, zs_a0 cI 32)] H := hP
  have hD : va_D A [(h0, .inr (7, [.ref q1, .int 0])), (q1, zs_a0 cI 32)] := hD
  exact W.vret hx hb hr (fun t ht hW => ⟨⟨fun k => [q1].getD k 0, rfl, trivial, by rw [ht]; exact hP, hD⟩, hS.F ht⟩) hS.2.2 dX9_init_12
theorem ol_RX0 : Cond.methodLink RX0 3 Lib.objectInit ∈ zs_tbl := zs_in 282 (by decide +kernel) rfl
theorem fk_RX0_9 : Cond.fieldLink RX0 9 (TX0 0).1 (TX0 0).2.1 (TX0 0).2.2.1 ∈ zs_tbl := zs_in 283 (by decide +kernel) rfl
theorem fk_RX0_15 : Cond.fieldLink RX0 15 (TX0 1).1 (TX0 1).2.1 (TX0 1).2.2.1 ∈ zs_tbl := zs_in 284 (by decide +kernel) rfl
set_option maxHeartbeats 4000000 in
set_option maxRecDepth 100000 in
theorem k_X0_init (l : Launch) (dC : Nat → ClassId) (dI : Nat → Nat → Nat) (cI cB : ClassId) (h0 sz : Nat) : Met l yX0_init (Cond.code yX0_init cX0_init 1 none :: zs_tbl) { frames := 1, cells := 2, slots := 516, locals := 12 } (va_Pc [.ref h0] (zs_kp (dC, dI) cI cB [(h0, .inr (0, [.null, .null, .int 0]))] sz)) (zs_kq (dC, dI) (fun u => [(h0, .inr (0, [.ref (u 0), .ref (u 1), .int 0])), ((u 0), zs_a0 cI 372), ((u 1), zs_a0 cI 144)]) (va_A [(h0, .inr (0, [.null, .null, .int 0]))] sz)) 2 516 (va_A [(h0, .inr (0, [.null, .null, .int 0]))] sz) := by
  refine Met.ofW (cc := cX0_init) (maxL := 1) (ret := none) (by decide) rfl ?_
  intro p e s m args below meth c s₁ B hml hv
  obtain ⟨rfl, hsz, hP, hK, hD0, hN⟩ := hv
  have hx := B.exec
  have hb := B.bytes
  have hr := B.returns
  have hts0 := atoms_spec (ws := Cond.code yX0_init cX0_init 1 none :: zs_tbl) B.pre
  have hts : ∀ w ∈ zs_tbl, w.before _ s = true := fun w hw => hts0 w (List.mem_cons_of_mem _ hw)
  have hown : s.vm.findClass RX0 = some m.cls := findClass_of_methodNamed B.named
  have hlocks := B.notSynchronized
  have hin : meth.name = "<init>" := (name_of_methodNamed B.named B.method).1
  subst hsz
  have hD := hD0.self (sz := s.heap.size)
  generalize hAe : va_A [(h0, .inr (0, [.null, .null, .int 0]))] s.heap.size = A at hD ⊢
  have hA : ∀ q : Nat, s.heap.size ≤ q → A q := fun q h => by rw [← hAe]; exact Or.inr h
  have hS : va_S A s.heap s.heap [] := va_S.rf
  have hl := lv_entry ([.ref h0]) (n := 1) (Nat.le_of_ble_eq_true rfl)
  rw [lg_entry_eq]
  generalize (lg_sl ([.ref h0]) ++ List.replicate (1 - (lg_sl ([.ref h0])).length) Slot.unset).toArray = ls at hl ⊢
  have hl : lv_has ls 1 [(0, .ref h0)] := hl
  refine lv_aload_n hx hb dX0_init_0 rfl (lv_at hl 0 rfl) ?_
  refine W.objInit hx hb hown (hts _ ol_RX0) (hts _ ow_inst) (hts _ ow_code) rfl (by rw [hml]; exact hl.1) rfl dX0_init_1 (Nat.le_of_ble_eq_true rfl) (Nat.le_of_ble_eq_true rfl) ?_
  refine W.eq (g2 := F0 m 4 ls []) rfl ?_
  refine lv_aload_n hx hb dX0_init_4 rfl (lv_at hl 0 rfl) ?_
  refine lv_sipush (v := 372) hx hb dX0_init_5 (by decide) ?_
  refine va_newa (atype := .int) (ty := .int) (N' := 372) (a0 := (372, .inl (fun _ => 0))) hx hb (hts _ aw_int) rfl hK hP hD hS hA (fun cA => rfl) (by decide) (by decide) (by decide) (Nat.le_of_ble_eq_true rfl) (Nat.le_of_ble_eq_true rfl) dX0_init_8 (fun q1 cA H hK2 hP hD hS => ?_)
  obtain rfl := zs_cI hK2
  have hP : va_P (dC, dI) vwCl [(h0, .inr (0, [.null, .null, .int 0])), (q1, zs_a0 cI 372)] H := hP
  have hD : va_D A [(h0, .inr (0, [.null, .null, .int 0])), (q1, zs_a0 cI 372)] := hD
  refine va_putF (D := (dC, dI)) (ci := 0) (v := .ref q1) (ty := .array .int) (C := RX0) (T := TX0) (N := 3) hx hb hts zs_uw0 tyX0 tyX0_ok nmX0 hown hK hP hD hS 0 rfl rfl 0 (by decide) (hts _ fk_RX0_9) (fun _ h9 => h9) rfl hin rfl (by decide +kernel) rfl rfl (Nat.le_of_ble_eq_true rfl) dX0_init_10 (fun H locs hP hD hS => ?_)
  have hP : va_P (dC, dI) vwCl [(h0, .inr (0, [.ref q1, .null, .int 0])), (q1, zs_a0 cI 372)] H := hP
  have hD : va_D A [(h0, .inr (0, [.ref q1, .null, .int 0])), (q1, zs_a0 cI 372)] := hD
  refine lv_aload_n hx hb dX0_init_13 rfl (lv_at hl 0 rfl) ?_
  refine lv_sipush (v := 144) hx hb dX0_init_14 (by decide) ?_
  refine va_newa (atype := .int) (ty := .int) (N' := 144) (a0 := (144, .inl (fun _ => 0))) hx hb (hts _ aw_int) rfl hK hP hD hS hA (fun cA => rfl) (by decide) (by decide) (by decide) (Nat.le_of_ble_eq_true rfl) (Nat.le_of_ble_eq_true rfl) dX0_init_17 (fun q2 cA H hK2 hP hD hS => ?_)
  obtain rfl := zs_cI hK2
  have hP : va_P (dC, dI) vwCl [(h0, .inr (0, [.ref q1, .null, .int 0])), (q1, zs_a0 cI 372), (q2, zs_a0 cI 144)] H := hP
  have hD : va_D A [(h0, .inr (0, [.ref q1, .null, .int 0])), (q1, zs_a0 cI 372), (q2, zs_a0 cI 144)] := hD
  refine va_putF (D := (dC, dI)) (ci := 0) (v := .ref q2) (ty := .array .int) (C := RX0) (T := TX0) (N := 3) hx hb hts zs_uw0 tyX0 tyX0_ok nmX0 hown hK hP hD hS 0 rfl rfl 1 (by decide) (hts _ fk_RX0_15) (fun _ h9 => h9) rfl hin rfl (by decide +kernel) rfl rfl (Nat.le_of_ble_eq_true rfl) dX0_init_19 (fun H locs hP hD hS => ?_)
  have hP : va_P (dC, dI) vwCl [(h0, .inr (0, [.ref q1, .ref q2, .int 0])), (q1, zs_a0 cI 372), (q2, zs_a0 cI 144)] H := hP
  have hD : va_D A [(h0, .inr (0, [.ref q1, .ref q2, .int 0])), (q1, zs_a0 cI 372), (q2, zs_a0 cI 144)] := hD
  exact W.vret hx hb hr (fun t ht hW => ⟨⟨fun k => [q1, q2].getD k 0, rfl, trivial, by rw [ht]; exact hP, hD⟩, hS.F ht⟩) hS.2.2 dX0_init_22
