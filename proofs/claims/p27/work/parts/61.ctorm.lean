/-! THE MODEL'S CONSTRUCTOR: beside the class's cells, for it ends with a call over the whole picture -/
def zs_i0 : Nat → Nat → Int32 := fun a => match a with
  | 1 | 15 | 29 | 45 => fun j => if j = 0 then nI 2 else nI 0
  | 3 | 17 | 31 | 47 | 63 => fun j => if j = 2 then nI 1 else nI 0
  | 9 | 23 | 37 | 53 => fun j => if j = 0 then nI 2 else nI 0
  | 11 | 25 | 39 | 55 => fun j => if j = 0 then nI 4 else nI 0
  | 13 | 27 | 41 | 57 => fun j => if j = 0 then nI 3 else nI 0
  | 81 => fun j => if j = 2 then nI 1 else nI 0
  | 82 => fun j => if j = 0 then nI 2 else nI 0
  | _ => fun _ => nI 0
def zs_l0 : Nat → Nat → Int64 := fun a => match a with
  | 0 => fun j => if j = 7 then 1 else 0
  | 80 => fun j => if j = 13 then 1 else 0
  | _ => fun _ => 0
def zs_e (dC : Nat → ClassId) (dI : Nat → Nat → Nat) (cI cB : ClassId) (ad : Nat → Nat) : zs_E := (dC, dI, fun k => bif Nat.beq k 0 then cI else cB, ad)
def zs_S0 : zs_S := (fun a => bif (Nat.beq a 81 || Nat.beq a 82) then fun _ => nI 0 else zs_i0 a, zs_l0)
def zs_S1 : zs_S := (zs_i0, zs_l0)
def zs_wr (dC : Nat → ClassId) (dI : Nat → Nat → Nat) (cI cB : ClassId) (ad : Nat → Nat) : va_W := (List.range 80).map fun a => (ad a, zs_c (zs_e dC dI cI cB ad) zs_S0 a)
def zs_ad0 (h0 : Nat) (u : Nat → Nat) : Nat → Nat
  | 0 => h0
  | k + 1 => u k
def zs_ad1 (h0 : Nat) (u sa : Nat → Nat) (k : Nat) : Nat := bif Nat.ble 90 k then sa k else zs_ad0 h0 u k
def zs_ad2 (ad : Nat → Nat) (h0 : Nat) (u : Nat → Nat) (k : Nat) : Nat := bif (Nat.ble 80 k && Nat.ble k 89) then (bif Nat.beq k 80 then h0 else u (k - 81)) else ad k
theorem zs_ad1h {h0 : Nat} {u sa : Nat → Nat} {k : Nat} (h : 90 ≤ k) : zs_ad1 h0 u sa k = sa k := by
  unfold zs_ad1
  rw [show Nat.ble 90 k = true from Nat.ble_eq_true_of_le h]; rfl
theorem zs_ad2h {ad : Nat → Nat} {h0 : Nat} {u : Nat → Nat} {k : Nat} (h : 90 ≤ k) : zs_ad2 ad h0 u k = ad k := by
  unfold zs_ad2
  rw [show Nat.ble k 89 = false by rw [Bool.eq_false_iff]; exact fun z => absurd (Nat.le_of_ble_eq_true z) (by omega), Bool.and_false]; rfl
theorem zs_T.cg {ad ad2 : Nat → Nat} {A : Nat → Prop} {U : State} {H : Heap} (h : zs_T ad A U H) (he : ∀ k, 90 ≤ k → ad2 k = ad k) : zs_T ad2 A U H := by
  unfold zs_T
  rw [show (fun i => ad2 (90 + i)) = (fun i => ad (90 + i)) from funext fun i => he _ (by omega), show (fun i => ad2 (95 + i)) = (fun i => ad (95 + i)) from funext fun i => he _ (by omega), he 100 (by omega)]
  refine ⟨h.1, h.2.1, h.2.2.1, fun i hi => ?_⟩
  rw [he (90 + i) (by omega)]
  exact h.2.2.2 i hi
def zs_kp2 (D : va_G) (cI cB : ClassId) (w : va_W) (sz : Nat) (ad : Nat → Nat) (U : State) : Prop := zs_kp D cI cB w sz U ∧ zs_T ad (va_A w sz) U U.heap
theorem zs_kb2 {D : va_G} {cI cB : ClassId} {w : va_W} {sz : Nat} {ad : Nat → Nat} {av : List Value} : FrameBlind (va_Pc av (zs_kp2 D cI cB w sz ad)) := by
  intro a U g mk q
  obtain ⟨q0, ⟨q1, qP, qK, qD, qN⟩, qT⟩ := q
  exact ⟨q0, ⟨q1, qP, va_K.moved (u := U) (U := U.calling g mk a) (Vm.Alike.refl U.vm) qK, qD, fun w hw => va_Nw.same rfl rfl (qN w hw)⟩, qT.same (u := U) (U := U.calling g mk a) rfl⟩
theorem zs_u81 {i : Nat} : ((zs_up zs_S0.1 81 i (nI 0), zs_S0.2) : zs_S) = zs_S0 := by
  refine Prod.ext (funext fun b => funext fun j => ?_) rfl
  show (if b = 81 ∧ j = i then nI 0 else zs_S0.1 b j) = zs_S0.1 b j
  split
  next h => obtain ⟨rfl, -⟩ := h; rfl
  next => rfl
theorem zs_u82 {i : Nat} : ((zs_up zs_S0.1 82 i (nI 0), zs_S0.2) : zs_S) = zs_S0 := by
  refine Prod.ext (funext fun b => funext fun j => ?_) rfl
  show (if b = 82 ∧ j = i then nI 0 else zs_S0.1 b j) = zs_S0.1 b j
  split
  next h => obtain ⟨rfl, -⟩ := h; rfl
  next => rfl
theorem zs_u83 : ((zs_up (zs_up (zs_up zs_S0.1 82 0 (nI 2)) 82 1 (nI 0)) 81 2 (nI 1), zs_S0.2) : zs_S) = zs_S1 := by
  refine Prod.ext (funext fun b => funext fun j => ?_) rfl
  show (if b = 81 ∧ j = 2 then nI 1 else if b = 82 ∧ j = 1 then nI 0 else if b = 82 ∧ j = 0 then nI 2 else zs_S0.1 b j) = zs_i0 b j
  by_cases h1 : b = 81
  · subst h1
    show (if 81 = 81 ∧ j = 2 then nI 1 else if 81 = 82 ∧ j = 1 then nI 0 else if 81 = 82 ∧ j = 0 then nI 2 else nI 0) = (if j = 2 then nI 1 else nI 0)
    by_cases h : j = 2 <;> simp [h]
  · by_cases h2 : b = 82
    · subst h2
      show (if 82 = 81 ∧ j = 2 then nI 1 else if 82 = 82 ∧ j = 1 then nI 0 else if 82 = 82 ∧ j = 0 then nI 2 else nI 0) = (if j = 0 then nI 2 else nI 0)
      by_cases h : j = 0
      · simp [h]
      · simp [h]
    · rw [if_neg (fun q => h1 q.1), if_neg (fun q => h2 q.1), if_neg (fun q => h2 q.1)]
      have e1 : Nat.beq b 81 = false := by rw [Bool.eq_false_iff]; exact fun h => h1 (Nat.eq_of_beq_eq_true h)
      have e2 : Nat.beq b 82 = false := by rw [Bool.eq_false_iff]; exact fun h => h2 (Nat.eq_of_beq_eq_true h)
      show (bif (Nat.beq b 81 || Nat.beq b 82) then fun _ => nI 0 else zs_i0 b) j = zs_i0 b j
      rw [e1, e2]; rfl
set_option maxRecDepth 100000 in
theorem z_bx1 (Q : Option Value → zs_S → Prop) (hk : zs_P MX12_begins 24 [(4, .int (nI 25)), (0, .ref 80), (1, .int (nI 2)), (2, .int (nI 0)), (3, .int (nI 1))] [] zs_S0 Q) : ∀ (d i : Nat), i + d = 25 → zs_P MX12_begins 3 [(4, .int (nI i)), (0, .ref 80), (1, .int (nI 2)), (2, .int (nI 0)), (3, .int (nI 1))] [] zs_S0 Q := by
  intro d
  induction d with
  | zero =>
    intro i hi
    obtain rfl : i = 25 := by omega
    refine g_iload dX12_begins_3 rfl ?_
    refine g_bipush (v := (nI 25)) dX12_begins_5 rfl ?_
    refine g_ic_geN 24 dX12_begins_7 (by decide) (by omega) (by omega) (fun _ => ?_) (fun z => absurd z (by omega))
    exact hk
  | succ d ih =>
    intro i hi
    refine g_iload dX12_begins_3 rfl ?_
    refine g_bipush (v := (nI 25)) dX12_begins_5 rfl ?_
    refine g_ic_geN 24 dX12_begins_7 (by decide) (by omega) (by omega) (fun z => absurd z (by omega)) (fun _ => ?_)
    refine g_aload_n dX12_begins_10 rfl rfl ?_
    refine g_getR 0 (81) (C := RX12) (T := TX12) (N := 19) dX12_begins_11 (by decide) rfl rfl (by decide) rfl fl_RX12_7 ?_
    refine g_iload dX12_begins_14 rfl ?_
    refine g_iconst (v := (nI 0)) dX12_begins_16 rfl ?_
    refine g_iastN dX12_begins_17 (by decide) rfl (by omega) (by decide) ?_
    refine g_iinc (v := (nI (i + 1))) (lv' := [(4, .int (nI (i + 1))), (0, .ref 80), (1, .int (nI 2)), (2, .int (nI 0)), (3, .int (nI 1))]) dX12_begins_18 rfl (nI_1 i) (by decide) rfl ?_
    refine g_goto 3 dX12_begins_21 (by decide) ?_
    rw [zs_u81]; exact ih (i + 1) (by omega)
set_option maxRecDepth 100000 in
theorem z_bx2 (Q : Option Value → zs_S → Prop) (hk : zs_P MX12_begins 48 [(4, .int (nI 66)), (0, .ref 80), (1, .int (nI 2)), (2, .int (nI 0)), (3, .int (nI 1))] [] zs_S0 Q) : ∀ (d i : Nat), i + d = 66 → zs_P MX12_begins 27 [(4, .int (nI i)), (0, .ref 80), (1, .int (nI 2)), (2, .int (nI 0)), (3, .int (nI 1))] [] zs_S0 Q := by
  intro d
  induction d with
  | zero =>
    intro i hi
    obtain rfl : i = 66 := by omega
    refine g_iload dX12_begins_27 rfl ?_
    refine g_bipush (v := (nI 66)) dX12_begins_29 rfl ?_
    refine g_ic_geN 48 dX12_begins_31 (by decide) (by omega) (by omega) (fun _ => ?_) (fun z => absurd z (by omega))
    exact hk
  | succ d ih =>
    intro i hi
    refine g_iload dX12_begins_27 rfl ?_
    refine g_bipush (v := (nI 66)) dX12_begins_29 rfl ?_
    refine g_ic_geN 48 dX12_begins_31 (by decide) (by omega) (by omega) (fun z => absurd z (by omega)) (fun _ => ?_)
    refine g_aload_n dX12_begins_34 rfl rfl ?_
    refine g_getR 1 (82) (C := RX12) (T := TX12) (N := 19) dX12_begins_35 (by decide) rfl rfl (by decide) rfl fl_RX12_13 ?_
    refine g_iload dX12_begins_38 rfl ?_
    refine g_iconst (v := (nI 0)) dX12_begins_40 rfl ?_
    refine g_iastN dX12_begins_41 (by decide) rfl (by omega) (by decide) ?_
    refine g_iinc (v := (nI (i + 1))) (lv' := [(4, .int (nI (i + 1))), (0, .ref 80), (1, .int (nI 2)), (2, .int (nI 0)), (3, .int (nI 1))]) dX12_begins_42 rfl (nI_1 i) (by decide) rfl ?_
    refine g_goto 27 dX12_begins_45 (by decide) ?_
    rw [zs_u82]; exact ih (i + 1) (by omega)
set_option maxRecDepth 100000 in
theorem z_bx  : zs_Cv MX12_begins [.ref 80, .int (nI 2), .int (nI 0), .int (nI 1)] zs_S0 (fun S2 => S2 = zs_S1) := by
  refine zs_C.of (by decide) (Nat.le_of_ble_eq_true rfl) ?_
  show zs_P MX12_begins 0 [(0, .ref 80), (1, .int (nI 2)), (2, .int (nI 0)), (3, .int (nI 1))] [] zs_S0 _
  refine g_iconst (v := (nI 0)) dX12_begins_0 rfl ?_
  refine g_istore (lv' := [(4, .int (nI 0)), (0, .ref 80), (1, .int (nI 2)), (2, .int (nI 0)), (3, .int (nI 1))]) dX12_begins_1 (by decide) rfl ?_
  refine z_bx1 _ ?_ 25 0 (by omega)
  refine g_iconst (v := (nI 0)) dX12_begins_24 rfl ?_
  refine g_istore (lv' := [(4, .int (nI 0)), (0, .ref 80), (1, .int (nI 2)), (2, .int (nI 0)), (3, .int (nI 1))]) dX12_begins_25 (by decide) rfl ?_
  refine z_bx2 _ ?_ 66 0 (by omega)
  refine g_aload_n dX12_begins_48 rfl rfl ?_
  refine g_getR 1 (82) (C := RX12) (T := TX12) (N := 19) dX12_begins_49 (by decide) rfl rfl (by decide) rfl fl_RX12_13 ?_
  refine g_iconst (v := (nI 0)) dX12_begins_52 rfl ?_
  refine g_iload_n dX12_begins_53 rfl rfl ?_
  refine g_iastN dX12_begins_54 (by decide) rfl (by omega) (by decide) ?_
  refine g_aload_n dX12_begins_55 rfl rfl ?_
  refine g_getR 1 (82) (C := RX12) (T := TX12) (N := 19) dX12_begins_56 (by decide) rfl rfl (by decide) rfl fl_RX12_13 ?_
  refine g_iconst (v := (nI 1)) dX12_begins_59 rfl ?_
  refine g_iload_n dX12_begins_60 rfl rfl ?_
  refine g_iastN dX12_begins_61 (by decide) rfl (by omega) (by decide) ?_
  refine g_aload_n dX12_begins_62 rfl rfl ?_
  refine g_getR 0 (81) (C := RX12) (T := TX12) (N := 19) dX12_begins_63 (by decide) rfl rfl (by decide) rfl fl_RX12_7 ?_
  refine g_iconst (v := (nI 2)) dX12_begins_66 rfl ?_
  refine g_iload_n dX12_begins_67 rfl rfl ?_
  refine g_iastN dX12_begins_68 (by decide) rfl (by omega) (by decide) ?_
  refine g_ret dX12_begins_69 rfl ?_
  exact ⟨rfl, zs_u83⟩
theorem zs_contA {p : Program} {l : Launch} {e : Env} {R : Room} {s : State} {m : MethodId} {args a : Array Value} {below : List Frame} {meth : Method} {c : Code} {H H0 : Heap} {locs : List Loc} {ls : Array Slot} {st0 rest : List Value} {E : zs_E} {q : zs_O} {QQ : State → Prop} {A : Nat → Prop} {cells slots pc : Nat}
    (hr : va_Run p l e R s m args below meth c H locs cells slots 0 0 (F0 m pc ls st0) rest (zs_Q E q a) (zs_A E)) (hS : va_S A H0 H locs) (hA : ∀ x, zs_A E x → A x)
    (kk : ∀ (H1 : Heap) (locs1 : List Loc), va_P (zs_D E) vwCl (zs_ws E q.2) H1 → va_S A H0 H1 locs1 → W p l e R s m args below meth c H1 locs1 cells slots QQ (F0 m (pc + 3) ls ((q.1.map (zs_v E)).toList ++ rest))) : W p l e R s m args below meth c H locs cells slots QQ (F0 m pc ls st0) := by
  intro T hT X
  obtain ⟨v, st₀, t, T', L, h0, X', hL, e1, e2, ⟨hv, hp, hz, hk⟩, st⟩ := hr T hT X
  cases hv
  rw [h0] at hz hk
  obtain ⟨t2, a1, b1⟩ := kk T'.heap (locs ++ L) (by rw [e1]; exact hp)
    ⟨Nat.le_trans hS.1 (by rw [e1]; exact hz), fun q h1 h2 => by rw [e1, hk q (Nat.lt_of_lt_of_le h1 hS.1) (fun z => h2 (hA q z))]; exact hS.2.1 q h1 h2, fun q hq => by
      rcases List.mem_append.mp hq with h | h
      · exact hS.2.2 q h
      · exact hA _ (hL q h)⟩ T' rfl X'
  exact ⟨t2, st t2 a1, b1⟩
theorem zs_Di {E : zs_E} {S : zs_S} {A : Nat → Prop} (h : va_D A (zs_ws E S)) : zs_inj E ∧ ∀ x, zs_A E x → A x := ⟨fun i j hi hj e => h.1 i j _ _ (zs_ws_get hi) (zs_ws_get hj) e, fun x hx => by
  obtain ⟨k, hk, rfl⟩ := hx
  exact h.2 k _ (zs_ws_get hk)⟩
set_option maxRecDepth 100000 in
theorem ol_RX12 : Cond.methodLink RX12 1 Lib.objectInit ∈ zs_tbl := zs_iq4 229 rfl rfl
set_option maxRecDepth 100000 in
theorem fk_RX12_7 : Cond.fieldLink RX12 7 (TX12 0).1 (TX12 0).2.1 (TX12 0).2.2.1 ∈ zs_tbl := zs_iq4 234 rfl rfl
set_option maxRecDepth 100000 in
theorem fk_RX12_13 : Cond.fieldLink RX12 13 (TX12 1).1 (TX12 1).2.1 (TX12 1).2.2.1 ∈ zs_tbl := zs_iq4 235 rfl rfl
set_option maxRecDepth 100000 in
theorem fk_RX12_16 : Cond.fieldLink RX12 16 (TX12 2).1 (TX12 2).2.1 (TX12 2).2.2.1 ∈ zs_tbl := zs_iq4 236 rfl rfl
set_option maxRecDepth 100000 in
theorem fk_RX12_19 : Cond.fieldLink RX12 19 (TX12 4).1 (TX12 4).2.1 (TX12 4).2.2.1 ∈ zs_tbl := zs_iq4 238 rfl rfl
set_option maxRecDepth 100000 in
theorem fk_RX12_23 : Cond.fieldLink RX12 23 (TX12 13).1 (TX12 13).2.1 (TX12 13).2.2.1 ∈ zs_tbl := zs_iq5 7 rfl rfl
set_option maxRecDepth 100000 in
theorem fk_RX12_27 : Cond.fieldLink RX12 27 (TX12 14).1 (TX12 14).2.1 (TX12 14).2.2.1 ∈ zs_tbl := zs_iq5 8 rfl rfl
set_option maxRecDepth 100000 in
theorem fk_RX12_30 : Cond.fieldLink RX12 30 (TX12 15).1 (TX12 15).2.1 (TX12 15).2.2.1 ∈ zs_tbl := zs_iq5 9 rfl rfl
set_option maxRecDepth 100000 in
theorem fk_RX12_33 : Cond.fieldLink RX12 33 (TX12 16).1 (TX12 16).2.1 (TX12 16).2.2.1 ∈ zs_tbl := zs_iq5 10 rfl rfl
set_option maxRecDepth 100000 in
theorem fk_RX12_36 : Cond.fieldLink RX12 36 (TX12 17).1 (TX12 17).2.1 (TX12 17).2.2.1 ∈ zs_tbl := zs_iq5 11 rfl rfl
set_option maxRecDepth 100000 in
theorem fk_RX12_39 : Cond.fieldLink RX12 39 (TX12 18).1 (TX12 18).2.1 (TX12 18).2.2.1 ∈ zs_tbl := zs_iq5 12 rfl rfl
set_option maxRecDepth 100000 in
theorem mm_RX12_42 : Cond.methodLink RX12 42 yX12_begins ∈ zs_tbl := zs_iq4 230 rfl rfl
theorem zs_wrl {dC : Nat → ClassId} {dI : Nat → Nat → Nat} {cI cB : ClassId} {ad : Nat → Nat} : (zs_wr dC dI cI cB ad).length = 80 := by simp [zs_wr]
theorem zs_wrg {dC : Nat → ClassId} {dI : Nat → Nat → Nat} {cI cB : ClassId} {ad : Nat → Nat} {k : Nat} (h : k < 80) : (zs_wr dC dI cI cB ad)[k]? = some (ad k, zs_c (zs_e dC dI cI cB ad) zs_S0 k) := by simp [zs_wr, h]
theorem zs_cE {dC : Nat → ClassId} {dI : Nat → Nat → Nat} {cI cB : ClassId} {ad : Nat → Nat} {h0 : Nat} {u : Nat → Nat} {k : Nat} (h : k < 80) : zs_c (zs_e dC dI cI cB (zs_ad2 ad h0 u)) zs_S0 k = zs_c (zs_e dC dI cI cB ad) zs_S0 k := by
  match k, h with
  | 0, _ => rfl
  | 1, _ => rfl
  | 2, _ => rfl
  | 3, _ => rfl
  | 4, _ => rfl
  | 5, _ => rfl
  | 6, _ => rfl
  | 7, _ => rfl
  | 8, _ => rfl
  | 9, _ => rfl
  | 10, _ => rfl
  | 11, _ => rfl
  | 12, _ => rfl
  | 13, _ => rfl
  | 14, _ => rfl
  | 15, _ => rfl
  | 16, _ => rfl
  | 17, _ => rfl
  | 18, _ => rfl
  | 19, _ => rfl
  | 20, _ => rfl
  | 21, _ => rfl
  | 22, _ => rfl
  | 23, _ => rfl
  | 24, _ => rfl
  | 25, _ => rfl
  | 26, _ => rfl
  | 27, _ => rfl
  | 28, _ => rfl
  | 29, _ => rfl
  | 30, _ => rfl
  | 31, _ => rfl
  | 32, _ => rfl
  | 33, _ => rfl
  | 34, _ => rfl
  | 35, _ => rfl
  | 36, _ => rfl
  | 37, _ => rfl
  | 38, _ => rfl
  | 39, _ => rfl
  | 40, _ => rfl
  | 41, _ => rfl
  | 42, _ => rfl
  | 43, _ => rfl
  | 44, _ => rfl
  | 45, _ => rfl
  | 46, _ => rfl
  | 47, _ => rfl
  | 48, _ => rfl
  | 49, _ => rfl
  | 50, _ => rfl
  | 51, _ => rfl
  | 52, _ => rfl
  | 53, _ => rfl
  | 54, _ => rfl
  | 55, _ => rfl
  | 56, _ => rfl
  | 57, _ => rfl
  | 58, _ => rfl
  | 59, _ => rfl
  | 60, _ => rfl
  | 61, _ => rfl
  | 62, _ => rfl
  | 63, _ => rfl
  | 64, _ => rfl
  | 65, _ => rfl
  | 66, _ => rfl
  | 67, _ => rfl
  | 68, _ => rfl
  | 69, _ => rfl
  | 70, _ => rfl
  | 71, _ => rfl
  | 72, _ => rfl
  | 73, _ => rfl
  | 74, _ => rfl
  | 75, _ => rfl
  | 76, _ => rfl
  | 77, _ => rfl
  | 78, _ => rfl
  | 79, _ => rfl
  | k + 80, h => exact absurd h (by omega)
theorem zs_ad2l {ad : Nat → Nat} {h0 : Nat} {u : Nat → Nat} {k : Nat} (h : k < 80) : zs_ad2 ad h0 u k = ad k := by
  have e1 : Nat.ble 80 k = false := by rw [Bool.eq_false_iff]; exact fun z => absurd (Nat.le_of_ble_eq_true z) (by omega)
  unfold zs_ad2
  rw [e1]; rfl
def zs_ix (k : Nat) : Nat := if k < 80 then k + 1 else if k = 80 then 0 else k
theorem zs_ixI {i j : Nat} (h : zs_ix i = zs_ix j) : i = j := by
  unfold zs_ix at h
  split at h <;> split at h <;> (try split at h) <;> (try split at h) <;> omega
theorem zs_tail {x : Nat × va_E} {dC : Nat → ClassId} {dI : Nat → Nat → Nat} {cI cB : ClassId} {ad : Nat → Nat} {X : va_W} (j : Nat) : (x :: (zs_wr dC dI cI cB ad ++ X))[j + 81]? = X[j]? := by
  show (x :: (zs_wr dC dI cI cB ad ++ X))[(j + 80) + 1]? = X[j]?
  rw [List.getElem?_cons_succ, List.getElem?_append_right (by rw [zs_wrl]; omega), zs_wrl]
  congr 1
set_option maxHeartbeats 4000000 in
set_option maxRecDepth 100000 in
theorem zs_get (dC : Nat → ClassId) (dI : Nat → Nat → Nat) (cI cB : ClassId) (ad : Nat → Nat) (h0 q1 q2 q3 q4 q5 q6 q7 q8 q9 : Nat) (k : Nat) (hk : k < 90) : ((h0, .inr (10, [.ref q1, .ref q2, .ref q3, .int 0, .ref q4, .int 0, .int 0, .int 0, .int 0, .int 0, .int 0, .int 0, .long 0, .long 1, .ref q5, .ref q6, .ref q7, .ref q8, .ref q9])) :: (zs_wr dC dI cI cB ad ++ [(q1, zs_a0 cI 700), (q2, zs_a0 cI 198), (q3, zs_a0 cI 2), (q4, zs_a0 cB 150), (q5, zs_a0 cI 3), (q6, zs_a0 cI 120), (q7, zs_a0 cI 10), (q8, zs_a0 cI 16), (q9, zs_a0 cI 16)]) : va_W)[zs_ix k]? = some (((zs_e dC dI cI cB (zs_ad2 ad h0 (fun k => [q1, q2, q3, q4, q5, q6, q7, q8, q9].getD k 0))) : zs_E).2.2.2 k, zs_c (zs_e dC dI cI cB (zs_ad2 ad h0 (fun k => [q1, q2, q3, q4, q5, q6, q7, q8, q9].getD k 0))) zs_S0 k) := by
  by_cases h1 : k < 80
  · rw [zs_ix, if_pos h1, List.getElem?_cons_succ, List.getElem?_append_left (by rw [zs_wrl]; exact h1), zs_wrg h1, zs_cE h1]
    exact congrArg (fun z => some (z, zs_c (zs_e dC dI cI cB ad) zs_S0 k)) (zs_ad2l (ad := ad) (h0 := h0) (u := fun k => [q1, q2, q3, q4, q5, q6, q7, q8, q9].getD k 0) h1).symm
  · obtain rfl | rfl | rfl | rfl | rfl | rfl | rfl | rfl | rfl | rfl : k = 80 ∨ k = 81 ∨ k = 82 ∨ k = 83 ∨ k = 84 ∨ k = 85 ∨ k = 86 ∨ k = 87 ∨ k = 88 ∨ k = 89 := by omega
    · rfl
    · exact (zs_tail 0).trans rfl
    · exact (zs_tail 1).trans rfl
    · exact (zs_tail 2).trans rfl
    · exact (zs_tail 3).trans rfl
    · exact (zs_tail 4).trans rfl
    · exact (zs_tail 5).trans rfl
    · exact (zs_tail 6).trans rfl
    · exact (zs_tail 7).trans rfl
    · exact (zs_tail 8).trans rfl
theorem zs_PW (dC : Nat → ClassId) (dI : Nat → Nat → Nat) (cI cB : ClassId) (ad : Nat → Nat) (h0 q1 q2 q3 q4 q5 q6 q7 q8 q9 : Nat) {H : Heap} (h : va_P (dC, dI) vwCl ((h0, .inr (10, [.ref q1, .ref q2, .ref q3, .int 0, .ref q4, .int 0, .int 0, .int 0, .int 0, .int 0, .int 0, .int 0, .long 0, .long 1, .ref q5, .ref q6, .ref q7, .ref q8, .ref q9])) :: (zs_wr dC dI cI cB ad ++ [(q1, zs_a0 cI 700), (q2, zs_a0 cI 198), (q3, zs_a0 cI 2), (q4, zs_a0 cB 150), (q5, zs_a0 cI 3), (q6, zs_a0 cI 120), (q7, zs_a0 cI 10), (q8, zs_a0 cI 16), (q9, zs_a0 cI 16)]) : va_W) H) : va_P (dC, dI) vwCl (zs_ws (zs_e dC dI cI cB (zs_ad2 ad h0 (fun k => [q1, q2, q3, q4, q5, q6, q7, q8, q9].getD k 0))) zs_S0) H := by
  intro k q h8
  obtain ⟨h9, rfl⟩ := zs_ws_of h8
  exact h _ _ (zs_get dC dI cI cB ad h0 q1 q2 q3 q4 q5 q6 q7 q8 q9 k h9)
theorem zs_DW (dC : Nat → ClassId) (dI : Nat → Nat → Nat) (cI cB : ClassId) (ad : Nat → Nat) (h0 q1 q2 q3 q4 q5 q6 q7 q8 q9 : Nat) {A : Nat → Prop} (h : va_D A ((h0, .inr (10, [.ref q1, .ref q2, .ref q3, .int 0, .ref q4, .int 0, .int 0, .int 0, .int 0, .int 0, .int 0, .int 0, .long 0, .long 1, .ref q5, .ref q6, .ref q7, .ref q8, .ref q9])) :: (zs_wr dC dI cI cB ad ++ [(q1, zs_a0 cI 700), (q2, zs_a0 cI 198), (q3, zs_a0 cI 2), (q4, zs_a0 cB 150), (q5, zs_a0 cI 3), (q6, zs_a0 cI 120), (q7, zs_a0 cI 10), (q8, zs_a0 cI 16), (q9, zs_a0 cI 16)]) : va_W)) : va_D A (zs_ws (zs_e dC dI cI cB (zs_ad2 ad h0 (fun k => [q1, q2, q3, q4, q5, q6, q7, q8, q9].getD k 0))) zs_S0) := by
  refine ⟨fun i j p q hp hq e => ?_, fun k q h8 => ?_⟩
  · obtain ⟨h1, rfl⟩ := zs_ws_of hp
    obtain ⟨h2, rfl⟩ := zs_ws_of hq
    exact zs_ixI (h.1 _ _ _ _ (zs_get dC dI cI cB ad h0 q1 q2 q3 q4 q5 q6 q7 q8 q9 i h1) (zs_get dC dI cI cB ad h0 q1 q2 q3 q4 q5 q6 q7 q8 q9 j h2) e)
  · obtain ⟨h9, rfl⟩ := zs_ws_of h8
    exact h.2 _ _ (zs_get dC dI cI cB ad h0 q1 q2 q3 q4 q5 q6 q7 q8 q9 k h9)
set_option maxHeartbeats 4000000 in
set_option maxRecDepth 100000 in
theorem k_X12_init (l : Launch) (dC : Nat → ClassId) (dI : Nat → Nat → Nat) (cI cB : ClassId) (ad : Nat → Nat) (h0 sz : Nat) : Met l yX12_init (Cond.code yX12_init cX12_init 1 none :: zs_tbl) { frames := 1, cells := 9, slots := 1215, locals := 24 } (va_Pc [.ref h0] (zs_kp2 (dC, dI) cI cB ((h0, .inr (10, [.null, .null, .null, .int 0, .null, .int 0, .int 0, .int 0, .int 0, .int 0, .int 0, .int 0, .long 0, .long 0, .null, .null, .null, .null, .null])) :: zs_wr dC dI cI cB ad) sz ad)) (zs_kq (dC, dI) (fun u => zs_ws (zs_e dC dI cI cB (zs_ad2 ad h0 u)) zs_S1) (va_A ((h0, .inr (10, [.null, .null, .null, .int 0, .null, .int 0, .int 0, .int 0, .int 0, .int 0, .int 0, .int 0, .long 0, .long 0, .null, .null, .null, .null, .null])) :: zs_wr dC dI cI cB ad) sz)) 9 1215 (va_A ((h0, .inr (10, [.null, .null, .null, .int 0, .null, .int 0, .int 0, .int 0, .int 0, .int 0, .int 0, .int 0, .long 0, .long 0, .null, .null, .null, .null, .null])) :: zs_wr dC dI cI cB ad) sz) := by
  refine Met.ofW (cc := cX12_init) (maxL := 1) (ret := none) (by decide) rfl ?_
  intro p e s m args below meth c s₁ B hml hv
  obtain ⟨rfl, ⟨hsz, hP, hK, hD0, hN⟩, hT⟩ := hv
  have hx := B.exec
  have hb := B.bytes
  have hr := B.returns
  have hts0 := atoms_spec (ws := Cond.code yX12_init cX12_init 1 none :: zs_tbl) B.pre
  have hts : ∀ w ∈ zs_tbl, w.before _ s = true := fun w hw => hts0 w (List.mem_cons_of_mem _ hw)
  have hown : s.vm.findClass RX12 = some m.cls := findClass_of_methodNamed B.named
  have hlocks := B.notSynchronized
  have hin : meth.name = "<init>" := (name_of_methodNamed B.named B.method).1
  subst hsz
  have hD := hD0.self (sz := s.heap.size)
  generalize hAe : va_A ((h0, .inr (10, [.null, .null, .null, .int 0, .null, .int 0, .int 0, .int 0, .int 0, .int 0, .int 0, .int 0, .long 0, .long 0, .null, .null, .null, .null, .null])) :: zs_wr dC dI cI cB ad) s.heap.size = A at hD hT ⊢
  have hA : ∀ q : Nat, s.heap.size ≤ q → A q := fun q h => by rw [← hAe]; exact Or.inr h
  clear hAe
  generalize hwr : zs_wr dC dI cI cB ad = wr at hP hD
  have hS : va_S A s.heap s.heap [] := va_S.rf
  have hl := lv_entry ([.ref h0]) (n := 1) (Nat.le_of_ble_eq_true rfl)
  rw [lg_entry_eq]
  generalize (lg_sl ([.ref h0]) ++ List.replicate (1 - (lg_sl ([.ref h0])).length) Slot.unset).toArray = ls at hl ⊢
  have hl : lv_has ls 1 [(0, .ref h0)] := hl
  refine lv_aload_n hx hb dX12_init_0 rfl (lv_at hl 0 rfl) ?_
  refine W.objInit hx hb hown (hts _ ol_RX12) (hts _ ow_inst) (hts _ ow_code) rfl (by rw [hml]; exact hl.1) rfl dX12_init_1 (Nat.le_of_ble_eq_true rfl) (Nat.le_of_ble_eq_true rfl) ?_
  refine W.eq (g2 := F0 m 4 ls []) rfl ?_
  refine lv_aload_n hx hb dX12_init_4 rfl (lv_at hl 0 rfl) ?_
  refine lv_sipush (v := 700) hx hb dX12_init_5 (by decide) ?_
  refine va_newa (atype := .int) (ty := .int) (N' := 700) (a0 := (700, .inl (fun _ => 0))) hx hb (hts _ aw_int) rfl hK hP hD hS hA (fun cA => rfl) (by decide) (by decide) (by decide) (Nat.le_of_ble_eq_true rfl) (Nat.le_of_ble_eq_true rfl) dX12_init_8 (fun q1 cA H hK2 hP hD hS => ?_)
  obtain rfl := zs_cI hK2
  have hP : va_P (dC, dI) vwCl (((h0, .inr (10, [.null, .null, .null, .int 0, .null, .int 0, .int 0, .int 0, .int 0, .int 0, .int 0, .int 0, .long 0, .long 0, .null, .null, .null, .null, .null])) :: wr) ++ [(q1, zs_a0 cI 700)]) H := hP
  have hD : va_D A (((h0, .inr (10, [.null, .null, .null, .int 0, .null, .int 0, .int 0, .int 0, .int 0, .int 0, .int 0, .int 0, .long 0, .long 0, .null, .null, .null, .null, .null])) :: wr) ++ [(q1, zs_a0 cI 700)]) := hD
  refine va_putF (D := (dC, dI)) (ci := 10) (v := .ref q1) (ty := .array .int) (C := RX12) (T := TX12) (N := 19) hx hb hts zs_uw10 tyX12 tyX12_ok nmX12 hown hK hP hD hS 0 rfl rfl 0 (by decide) (hts _ fk_RX12_7) (fun _ h9 => h9) rfl hin rfl (by decide +kernel) rfl rfl (Nat.le_of_ble_eq_true rfl) dX12_init_10 (fun H locs hP hD hS => ?_)
  have hP : va_P (dC, dI) vwCl (((h0, .inr (10, [.ref q1, .null, .null, .int 0, .null, .int 0, .int 0, .int 0, .int 0, .int 0, .int 0, .int 0, .long 0, .long 0, .null, .null, .null, .null, .null])) :: wr) ++ [(q1, zs_a0 cI 700)]) H := hP
  have hD : va_D A (((h0, .inr (10, [.ref q1, .null, .null, .int 0, .null, .int 0, .int 0, .int 0, .int 0, .int 0, .int 0, .int 0, .long 0, .long 0, .null, .null, .null, .null, .null])) :: wr) ++ [(q1, zs_a0 cI 700)]) := hD
  refine lv_aload_n hx hb dX12_init_13 rfl (lv_at hl 0 rfl) ?_
  refine lv_sipush (v := 198) hx hb dX12_init_14 (by decide) ?_
  refine va_newa (atype := .int) (ty := .int) (N' := 198) (a0 := (198, .inl (fun _ => 0))) hx hb (hts _ aw_int) rfl hK hP hD hS hA (fun cA => rfl) (by decide) (by decide) (by decide) (Nat.le_of_ble_eq_true rfl) (Nat.le_of_ble_eq_true rfl) dX12_init_17 (fun q2 cA H hK2 hP hD hS => ?_)
  obtain rfl := zs_cI hK2
  have hP : va_P (dC, dI) vwCl ((((h0, .inr (10, [.ref q1, .null, .null, .int 0, .null, .int 0, .int 0, .int 0, .int 0, .int 0, .int 0, .int 0, .long 0, .long 0, .null, .null, .null, .null, .null])) :: wr) ++ [(q1, zs_a0 cI 700)]) ++ [(q2, zs_a0 cI 198)]) H := hP
  have hD : va_D A ((((h0, .inr (10, [.ref q1, .null, .null, .int 0, .null, .int 0, .int 0, .int 0, .int 0, .int 0, .int 0, .int 0, .long 0, .long 0, .null, .null, .null, .null, .null])) :: wr) ++ [(q1, zs_a0 cI 700)]) ++ [(q2, zs_a0 cI 198)]) := hD
  refine va_putF (D := (dC, dI)) (ci := 10) (v := .ref q2) (ty := .array .int) (C := RX12) (T := TX12) (N := 19) hx hb hts zs_uw10 tyX12 tyX12_ok nmX12 hown hK hP hD hS 0 rfl rfl 1 (by decide) (hts _ fk_RX12_13) (fun _ h9 => h9) rfl hin rfl (by decide +kernel) rfl rfl (Nat.le_of_ble_eq_true rfl) dX12_init_19 (fun H locs hP hD hS => ?_)
  have hP : va_P (dC, dI) vwCl ((((h0, .inr (10, [.ref q1, .ref q2, .null, .int 0, .null, .int 0, .int 0, .int 0, .int 0, .int 0, .int 0, .int 0, .long 0, .long 0, .null, .null, .null, .null, .null])) :: wr) ++ [(q1, zs_a0 cI 700)]) ++ [(q2, zs_a0 cI 198)]) H := hP
  have hD : va_D A ((((h0, .inr (10, [.ref q1, .ref q2, .null, .int 0, .null, .int 0, .int 0, .int 0, .int 0, .int 0, .int 0, .int 0, .long 0, .long 0, .null, .null, .null, .null, .null])) :: wr) ++ [(q1, zs_a0 cI 700)]) ++ [(q2, zs_a0 cI 198)]) := hD
  refine lv_aload_n hx hb dX12_init_22 rfl (lv_at hl 0 rfl) ?_
  refine lv_iconst (v := 2) hx hb dX12_init_23 (by decide) ?_
  refine va_newa (atype := .int) (ty := .int) (N' := 2) (a0 := (2, .inl (fun _ => 0))) hx hb (hts _ aw_int) rfl hK hP hD hS hA (fun cA => rfl) (by decide) (by decide) (by decide) (Nat.le_of_ble_eq_true rfl) (Nat.le_of_ble_eq_true rfl) dX12_init_24 (fun q3 cA H hK2 hP hD hS => ?_)
  obtain rfl := zs_cI hK2
  have hP : va_P (dC, dI) vwCl (((((h0, .inr (10, [.ref q1, .ref q2, .null, .int 0, .null, .int 0, .int 0, .int 0, .int 0, .int 0, .int 0, .int 0, .long 0, .long 0, .null, .null, .null, .null, .null])) :: wr) ++ [(q1, zs_a0 cI 700)]) ++ [(q2, zs_a0 cI 198)]) ++ [(q3, zs_a0 cI 2)]) H := hP
  have hD : va_D A (((((h0, .inr (10, [.ref q1, .ref q2, .null, .int 0, .null, .int 0, .int 0, .int 0, .int 0, .int 0, .int 0, .int 0, .long 0, .long 0, .null, .null, .null, .null, .null])) :: wr) ++ [(q1, zs_a0 cI 700)]) ++ [(q2, zs_a0 cI 198)]) ++ [(q3, zs_a0 cI 2)]) := hD
  refine va_putF (D := (dC, dI)) (ci := 10) (v := .ref q3) (ty := .array .int) (C := RX12) (T := TX12) (N := 19) hx hb hts zs_uw10 tyX12 tyX12_ok nmX12 hown hK hP hD hS 0 rfl rfl 2 (by decide) (hts _ fk_RX12_16) (fun _ h9 => h9) rfl hin rfl (by decide +kernel) rfl rfl (Nat.le_of_ble_eq_true rfl) dX12_init_26 (fun H locs hP hD hS => ?_)
  have hP : va_P (dC, dI) vwCl (((((h0, .inr (10, [.ref q1, .ref q2, .ref q3, .int 0, .null, .int 0, .int 0, .int 0, .int 0, .int 0, .int 0, .int 0, .long 0, .long 0, .null, .null, .null, .null, .null])) :: wr) ++ [(q1, zs_a0 cI 700)]) ++ [(q2, zs_a0 cI 198)]) ++ [(q3, zs_a0 cI 2)]) H := hP
  have hD : va_D A (((((h0, .inr (10, [.ref q1, .ref q2, .ref q3, .int 0, .null, .int 0, .int 0, .int 0, .int 0, .int 0, .int 0, .int 0, .long 0, .long 0, .null, .null, .null, .null, .null])) :: wr) ++ [(q1, zs_a0 cI 700)]) ++ [(q2, zs_a0 cI 198)]) ++ [(q3, zs_a0 cI 2)]) := hD
  refine lv_aload_n hx hb dX12_init_29 rfl (lv_at hl 0 rfl) ?_
  refine lv_sipush (v := 150) hx hb dX12_init_30 (by decide) ?_
  refine va_newa (atype := .byte) (ty := .byte) (N' := 150) (a0 := (150, .inl (fun _ => 0))) hx hb (hts _ aw_byte) rfl hK hP hD hS hA (fun cA => rfl) (by decide) (by decide) (by decide) (Nat.le_of_ble_eq_true rfl) (Nat.le_of_ble_eq_true rfl) dX12_init_33 (fun q4 cA H hK2 hP hD hS => ?_)
  obtain rfl := zs_cB hK2
  have hP : va_P (dC, dI) vwCl ((((((h0, .inr (10, [.ref q1, .ref q2, .ref q3, .int 0, .null, .int 0, .int 0, .int 0, .int 0, .int 0, .int 0, .int 0, .long 0, .long 0, .null, .null, .null, .null, .null])) :: wr) ++ [(q1, zs_a0 cI 700)]) ++ [(q2, zs_a0 cI 198)]) ++ [(q3, zs_a0 cI 2)]) ++ [(q4, zs_a0 cB 150)]) H := hP
  have hD : va_D A ((((((h0, .inr (10, [.ref q1, .ref q2, .ref q3, .int 0, .null, .int 0, .int 0, .int 0, .int 0, .int 0, .int 0, .int 0, .long 0, .long 0, .null, .null, .null, .null, .null])) :: wr) ++ [(q1, zs_a0 cI 700)]) ++ [(q2, zs_a0 cI 198)]) ++ [(q3, zs_a0 cI 2)]) ++ [(q4, zs_a0 cB 150)]) := hD
  refine va_putF (D := (dC, dI)) (ci := 10) (v := .ref q4) (ty := .array .byte) (C := RX12) (T := TX12) (N := 19) hx hb hts zs_uw10 tyX12 tyX12_ok nmX12 hown hK hP hD hS 0 rfl rfl 4 (by decide) (hts _ fk_RX12_19) (fun _ h9 => h9) rfl hin rfl (by decide +kernel) rfl rfl (Nat.le_of_ble_eq_true rfl) dX12_init_35 (fun H locs hP hD hS => ?_)
  have hP : va_P (dC, dI) vwCl ((((((h0, .inr (10, [.ref q1, .ref q2, .ref q3, .int 0, .ref q4, .int 0, .int 0, .int 0, .int 0, .int 0, .int 0, .int 0, .long 0, .long 0, .null, .null, .null, .null, .null])) :: wr) ++ [(q1, zs_a0 cI 700)]) ++ [(q2, zs_a0 cI 198)]) ++ [(q3, zs_a0 cI 2)]) ++ [(q4, zs_a0 cB 150)]) H := hP
  have hD : va_D A ((((((h0, .inr (10, [.ref q1, .ref q2, .ref q3, .int 0, .ref q4, .int 0, .int 0, .int 0, .int 0, .int 0, .int 0, .int 0, .long 0, .long 0, .null, .null, .null, .null, .null])) :: wr) ++ [(q1, zs_a0 cI 700)]) ++ [(q2, zs_a0 cI 198)]) ++ [(q3, zs_a0 cI 2)]) ++ [(q4, zs_a0 cB 150)]) := hD
  refine lv_aload_n hx hb dX12_init_38 rfl (lv_at hl 0 rfl) ?_
  refine lv_lconst (v := 1) hx hb dX12_init_39 (by decide) ?_
  refine va_put (D := (dC, dI)) (ci := 10) (v := .long 1) (ty := .long) (C := RX12) (T := TX12) (N := 19) hx hb hts zs_uw10 tyX12 tyX12_ok nmX12 hown hK hP hD hS 0 rfl rfl 13 (by decide) (hts _ fk_RX12_23) (fun _ h9 => h9) rfl (by decide +kernel) rfl rfl (Nat.le_of_ble_eq_true rfl) dX12_init_40 (fun H locs hP hD hS => ?_)
  have hP : va_P (dC, dI) vwCl ((((((h0, .inr (10, [.ref q1, .ref q2, .ref q3, .int 0, .ref q4, .int 0, .int 0, .int 0, .int 0, .int 0, .int 0, .int 0, .long 0, .long 1, .null, .null, .null, .null, .null])) :: wr) ++ [(q1, zs_a0 cI 700)]) ++ [(q2, zs_a0 cI 198)]) ++ [(q3, zs_a0 cI 2)]) ++ [(q4, zs_a0 cB 150)]) H := hP
  have hD : va_D A ((((((h0, .inr (10, [.ref q1, .ref q2, .ref q3, .int 0, .ref q4, .int 0, .int 0, .int 0, .int 0, .int 0, .int 0, .int 0, .long 0, .long 1, .null, .null, .null, .null, .null])) :: wr) ++ [(q1, zs_a0 cI 700)]) ++ [(q2, zs_a0 cI 198)]) ++ [(q3, zs_a0 cI 2)]) ++ [(q4, zs_a0 cB 150)]) := hD
  refine lv_aload_n hx hb dX12_init_43 rfl (lv_at hl 0 rfl) ?_
  refine lv_iconst (v := 3) hx hb dX12_init_44 (by decide) ?_
  refine va_newa (atype := .int) (ty := .int) (N' := 3) (a0 := (3, .inl (fun _ => 0))) hx hb (hts _ aw_int) rfl hK hP hD hS hA (fun cA => rfl) (by decide) (by decide) (by decide) (Nat.le_of_ble_eq_true rfl) (Nat.le_of_ble_eq_true rfl) dX12_init_45 (fun q5 cA H hK2 hP hD hS => ?_)
  obtain rfl := zs_cI hK2
  have hP : va_P (dC, dI) vwCl (((((((h0, .inr (10, [.ref q1, .ref q2, .ref q3, .int 0, .ref q4, .int 0, .int 0, .int 0, .int 0, .int 0, .int 0, .int 0, .long 0, .long 1, .null, .null, .null, .null, .null])) :: wr) ++ [(q1, zs_a0 cI 700)]) ++ [(q2, zs_a0 cI 198)]) ++ [(q3, zs_a0 cI 2)]) ++ [(q4, zs_a0 cB 150)]) ++ [(q5, zs_a0 cI 3)]) H := hP
  have hD : va_D A (((((((h0, .inr (10, [.ref q1, .ref q2, .ref q3, .int 0, .ref q4, .int 0, .int 0, .int 0, .int 0, .int 0, .int 0, .int 0, .long 0, .long 1, .null, .null, .null, .null, .null])) :: wr) ++ [(q1, zs_a0 cI 700)]) ++ [(q2, zs_a0 cI 198)]) ++ [(q3, zs_a0 cI 2)]) ++ [(q4, zs_a0 cB 150)]) ++ [(q5, zs_a0 cI 3)]) := hD
  refine va_putF (D := (dC, dI)) (ci := 10) (v := .ref q5) (ty := .array .int) (C := RX12) (T := TX12) (N := 19) hx hb hts zs_uw10 tyX12 tyX12_ok nmX12 hown hK hP hD hS 0 rfl rfl 14 (by decide) (hts _ fk_RX12_27) (fun _ h9 => h9) rfl hin rfl (by decide +kernel) rfl rfl (Nat.le_of_ble_eq_true rfl) dX12_init_47 (fun H locs hP hD hS => ?_)
  have hP : va_P (dC, dI) vwCl (((((((h0, .inr (10, [.ref q1, .ref q2, .ref q3, .int 0, .ref q4, .int 0, .int 0, .int 0, .int 0, .int 0, .int 0, .int 0, .long 0, .long 1, .ref q5, .null, .null, .null, .null])) :: wr) ++ [(q1, zs_a0 cI 700)]) ++ [(q2, zs_a0 cI 198)]) ++ [(q3, zs_a0 cI 2)]) ++ [(q4, zs_a0 cB 150)]) ++ [(q5, zs_a0 cI 3)]) H := hP
  have hD : va_D A (((((((h0, .inr (10, [.ref q1, .ref q2, .ref q3, .int 0, .ref q4, .int 0, .int 0, .int 0, .int 0, .int 0, .int 0, .int 0, .long 0, .long 1, .ref q5, .null, .null, .null, .null])) :: wr) ++ [(q1, zs_a0 cI 700)]) ++ [(q2, zs_a0 cI 198)]) ++ [(q3, zs_a0 cI 2)]) ++ [(q4, zs_a0 cB 150)]) ++ [(q5, zs_a0 cI 3)]) := hD
  refine lv_aload_n hx hb dX12_init_50 rfl (lv_at hl 0 rfl) ?_
  refine lv_bipush (v := 120) hx hb dX12_init_51 (by decide) ?_
  refine va_newa (atype := .int) (ty := .int) (N' := 120) (a0 := (120, .inl (fun _ => 0))) hx hb (hts _ aw_int) rfl hK hP hD hS hA (fun cA => rfl) (by decide) (by decide) (by decide) (Nat.le_of_ble_eq_true rfl) (Nat.le_of_ble_eq_true rfl) dX12_init_53 (fun q6 cA H hK2 hP hD hS => ?_)
  obtain rfl := zs_cI hK2
  have hP : va_P (dC, dI) vwCl ((((((((h0, .inr (10, [.ref q1, .ref q2, .ref q3, .int 0, .ref q4, .int 0, .int 0, .int 0, .int 0, .int 0, .int 0, .int 0, .long 0, .long 1, .ref q5, .null, .null, .null, .null])) :: wr) ++ [(q1, zs_a0 cI 700)]) ++ [(q2, zs_a0 cI 198)]) ++ [(q3, zs_a0 cI 2)]) ++ [(q4, zs_a0 cB 150)]) ++ [(q5, zs_a0 cI 3)]) ++ [(q6, zs_a0 cI 120)]) H := hP
  have hD : va_D A ((((((((h0, .inr (10, [.ref q1, .ref q2, .ref q3, .int 0, .ref q4, .int 0, .int 0, .int 0, .int 0, .int 0, .int 0, .int 0, .long 0, .long 1, .ref q5, .null, .null, .null, .null])) :: wr) ++ [(q1, zs_a0 cI 700)]) ++ [(q2, zs_a0 cI 198)]) ++ [(q3, zs_a0 cI 2)]) ++ [(q4, zs_a0 cB 150)]) ++ [(q5, zs_a0 cI 3)]) ++ [(q6, zs_a0 cI 120)]) := hD
  refine va_putF (D := (dC, dI)) (ci := 10) (v := .ref q6) (ty := .array .int) (C := RX12) (T := TX12) (N := 19) hx hb hts zs_uw10 tyX12 tyX12_ok nmX12 hown hK hP hD hS 0 rfl rfl 15 (by decide) (hts _ fk_RX12_30) (fun _ h9 => h9) rfl hin rfl (by decide +kernel) rfl rfl (Nat.le_of_ble_eq_true rfl) dX12_init_55 (fun H locs hP hD hS => ?_)
  have hP : va_P (dC, dI) vwCl ((((((((h0, .inr (10, [.ref q1, .ref q2, .ref q3, .int 0, .ref q4, .int 0, .int 0, .int 0, .int 0, .int 0, .int 0, .int 0, .long 0, .long 1, .ref q5, .ref q6, .null, .null, .null])) :: wr) ++ [(q1, zs_a0 cI 700)]) ++ [(q2, zs_a0 cI 198)]) ++ [(q3, zs_a0 cI 2)]) ++ [(q4, zs_a0 cB 150)]) ++ [(q5, zs_a0 cI 3)]) ++ [(q6, zs_a0 cI 120)]) H := hP
  have hD : va_D A ((((((((h0, .inr (10, [.ref q1, .ref q2, .ref q3, .int 0, .ref q4, .int 0, .int 0, .int 0, .int 0, .int 0, .int 0, .int 0, .long 0, .long 1, .ref q5, .ref q6, .null, .null, .null])) :: wr) ++ [(q1, zs_a0 cI 700)]) ++ [(q2, zs_a0 cI 198)]) ++ [(q3, zs_a0 cI 2)]) ++ [(q4, zs_a0 cB 150)]) ++ [(q5, zs_a0 cI 3)]) ++ [(q6, zs_a0 cI 120)]) := hD
  refine lv_aload_n hx hb dX12_init_58 rfl (lv_at hl 0 rfl) ?_
  refine lv_bipush (v := 10) hx hb dX12_init_59 (by decide) ?_
  refine va_newa (atype := .int) (ty := .int) (N' := 10) (a0 := (10, .inl (fun _ => 0))) hx hb (hts _ aw_int) rfl hK hP hD hS hA (fun cA => rfl) (by decide) (by decide) (by decide) (Nat.le_of_ble_eq_true rfl) (Nat.le_of_ble_eq_true rfl) dX12_init_61 (fun q7 cA H hK2 hP hD hS => ?_)
  obtain rfl := zs_cI hK2
  have hP : va_P (dC, dI) vwCl (((((((((h0, .inr (10, [.ref q1, .ref q2, .ref q3, .int 0, .ref q4, .int 0, .int 0, .int 0, .int 0, .int 0, .int 0, .int 0, .long 0, .long 1, .ref q5, .ref q6, .null, .null, .null])) :: wr) ++ [(q1, zs_a0 cI 700)]) ++ [(q2, zs_a0 cI 198)]) ++ [(q3, zs_a0 cI 2)]) ++ [(q4, zs_a0 cB 150)]) ++ [(q5, zs_a0 cI 3)]) ++ [(q6, zs_a0 cI 120)]) ++ [(q7, zs_a0 cI 10)]) H := hP
  have hD : va_D A (((((((((h0, .inr (10, [.ref q1, .ref q2, .ref q3, .int 0, .ref q4, .int 0, .int 0, .int 0, .int 0, .int 0, .int 0, .int 0, .long 0, .long 1, .ref q5, .ref q6, .null, .null, .null])) :: wr) ++ [(q1, zs_a0 cI 700)]) ++ [(q2, zs_a0 cI 198)]) ++ [(q3, zs_a0 cI 2)]) ++ [(q4, zs_a0 cB 150)]) ++ [(q5, zs_a0 cI 3)]) ++ [(q6, zs_a0 cI 120)]) ++ [(q7, zs_a0 cI 10)]) := hD
  refine va_putF (D := (dC, dI)) (ci := 10) (v := .ref q7) (ty := .array .int) (C := RX12) (T := TX12) (N := 19) hx hb hts zs_uw10 tyX12 tyX12_ok nmX12 hown hK hP hD hS 0 rfl rfl 16 (by decide) (hts _ fk_RX12_33) (fun _ h9 => h9) rfl hin rfl (by decide +kernel) rfl rfl (Nat.le_of_ble_eq_true rfl) dX12_init_63 (fun H locs hP hD hS => ?_)
  have hP : va_P (dC, dI) vwCl (((((((((h0, .inr (10, [.ref q1, .ref q2, .ref q3, .int 0, .ref q4, .int 0, .int 0, .int 0, .int 0, .int 0, .int 0, .int 0, .long 0, .long 1, .ref q5, .ref q6, .ref q7, .null, .null])) :: wr) ++ [(q1, zs_a0 cI 700)]) ++ [(q2, zs_a0 cI 198)]) ++ [(q3, zs_a0 cI 2)]) ++ [(q4, zs_a0 cB 150)]) ++ [(q5, zs_a0 cI 3)]) ++ [(q6, zs_a0 cI 120)]) ++ [(q7, zs_a0 cI 10)]) H := hP
  have hD : va_D A (((((((((h0, .inr (10, [.ref q1, .ref q2, .ref q3, .int 0, .ref q4, .int 0, .int 0, .int 0, .int 0, .int 0, .int 0, .int 0, .long 0, .long 1, .ref q5, .ref q6, .ref q7, .null, .null])) :: wr) ++ [(q1, zs_a0 cI 700)]) ++ [(q2, zs_a0 cI 198)]) ++ [(q3, zs_a0 cI 2)]) ++ [(q4, zs_a0 cB 150)]) ++ [(q5, zs_a0 cI 3)]) ++ [(q6, zs_a0 cI 120)]) ++ [(q7, zs_a0 cI 10)]) := hD
  refine lv_aload_n hx hb dX12_init_66 rfl (lv_at hl 0 rfl) ?_
  refine lv_bipush (v := 16) hx hb dX12_init_67 (by decide) ?_
  refine va_newa (atype := .int) (ty := .int) (N' := 16) (a0 := (16, .inl (fun _ => 0))) hx hb (hts _ aw_int) rfl hK hP hD hS hA (fun cA => rfl) (by decide) (by decide) (by decide) (Nat.le_of_ble_eq_true rfl) (Nat.le_of_ble_eq_true rfl) dX12_init_69 (fun q8 cA H hK2 hP hD hS => ?_)
  obtain rfl := zs_cI hK2
  have hP : va_P (dC, dI) vwCl ((((((((((h0, .inr (10, [.ref q1, .ref q2, .ref q3, .int 0, .ref q4, .int 0, .int 0, .int 0, .int 0, .int 0, .int 0, .int 0, .long 0, .long 1, .ref q5, .ref q6, .ref q7, .null, .null])) :: wr) ++ [(q1, zs_a0 cI 700)]) ++ [(q2, zs_a0 cI 198)]) ++ [(q3, zs_a0 cI 2)]) ++ [(q4, zs_a0 cB 150)]) ++ [(q5, zs_a0 cI 3)]) ++ [(q6, zs_a0 cI 120)]) ++ [(q7, zs_a0 cI 10)]) ++ [(q8, zs_a0 cI 16)]) H := hP
  have hD : va_D A ((((((((((h0, .inr (10, [.ref q1, .ref q2, .ref q3, .int 0, .ref q4, .int 0, .int 0, .int 0, .int 0, .int 0, .int 0, .int 0, .long 0, .long 1, .ref q5, .ref q6, .ref q7, .null, .null])) :: wr) ++ [(q1, zs_a0 cI 700)]) ++ [(q2, zs_a0 cI 198)]) ++ [(q3, zs_a0 cI 2)]) ++ [(q4, zs_a0 cB 150)]) ++ [(q5, zs_a0 cI 3)]) ++ [(q6, zs_a0 cI 120)]) ++ [(q7, zs_a0 cI 10)]) ++ [(q8, zs_a0 cI 16)]) := hD
  refine va_putF (D := (dC, dI)) (ci := 10) (v := .ref q8) (ty := .array .int) (C := RX12) (T := TX12) (N := 19) hx hb hts zs_uw10 tyX12 tyX12_ok nmX12 hown hK hP hD hS 0 rfl rfl 17 (by decide) (hts _ fk_RX12_36) (fun _ h9 => h9) rfl hin rfl (by decide +kernel) rfl rfl (Nat.le_of_ble_eq_true rfl) dX12_init_71 (fun H locs hP hD hS => ?_)
  have hP : va_P (dC, dI) vwCl ((((((((((h0, .inr (10, [.ref q1, .ref q2, .ref q3, .int 0, .ref q4, .int 0, .int 0, .int 0, .int 0, .int 0, .int 0, .int 0, .long 0, .long 1, .ref q5, .ref q6, .ref q7, .ref q8, .null])) :: wr) ++ [(q1, zs_a0 cI 700)]) ++ [(q2, zs_a0 cI 198)]) ++ [(q3, zs_a0 cI 2)]) ++ [(q4, zs_a0 cB 150)]) ++ [(q5, zs_a0 cI 3)]) ++ [(q6, zs_a0 cI 120)]) ++ [(q7, zs_a0 cI 10)]) ++ [(q8, zs_a0 cI 16)]) H := hP
  have hD : va_D A ((((((((((h0, .inr (10, [.ref q1, .ref q2, .ref q3, .int 0, .ref q4, .int 0, .int 0, .int 0, .int 0, .int 0, .int 0, .int 0, .long 0, .long 1, .ref q5, .ref q6, .ref q7, .ref q8, .null])) :: wr) ++ [(q1, zs_a0 cI 700)]) ++ [(q2, zs_a0 cI 198)]) ++ [(q3, zs_a0 cI 2)]) ++ [(q4, zs_a0 cB 150)]) ++ [(q5, zs_a0 cI 3)]) ++ [(q6, zs_a0 cI 120)]) ++ [(q7, zs_a0 cI 10)]) ++ [(q8, zs_a0 cI 16)]) := hD
  refine lv_aload_n hx hb dX12_init_74 rfl (lv_at hl 0 rfl) ?_
  refine lv_bipush (v := 16) hx hb dX12_init_75 (by decide) ?_
  refine va_newa (atype := .int) (ty := .int) (N' := 16) (a0 := (16, .inl (fun _ => 0))) hx hb (hts _ aw_int) rfl hK hP hD hS hA (fun cA => rfl) (by decide) (by decide) (by decide) (Nat.le_of_ble_eq_true rfl) (Nat.le_of_ble_eq_true rfl) dX12_init_77 (fun q9 cA H hK2 hP hD hS => ?_)
  obtain rfl := zs_cI hK2
  have hP : va_P (dC, dI) vwCl (((((((((((h0, .inr (10, [.ref q1, .ref q2, .ref q3, .int 0, .ref q4, .int 0, .int 0, .int 0, .int 0, .int 0, .int 0, .int 0, .long 0, .long 1, .ref q5, .ref q6, .ref q7, .ref q8, .null])) :: wr) ++ [(q1, zs_a0 cI 700)]) ++ [(q2, zs_a0 cI 198)]) ++ [(q3, zs_a0 cI 2)]) ++ [(q4, zs_a0 cB 150)]) ++ [(q5, zs_a0 cI 3)]) ++ [(q6, zs_a0 cI 120)]) ++ [(q7, zs_a0 cI 10)]) ++ [(q8, zs_a0 cI 16)]) ++ [(q9, zs_a0 cI 16)]) H := hP
  have hD : va_D A (((((((((((h0, .inr (10, [.ref q1, .ref q2, .ref q3, .int 0, .ref q4, .int 0, .int 0, .int 0, .int 0, .int 0, .int 0, .int 0, .long 0, .long 1, .ref q5, .ref q6, .ref q7, .ref q8, .null])) :: wr) ++ [(q1, zs_a0 cI 700)]) ++ [(q2, zs_a0 cI 198)]) ++ [(q3, zs_a0 cI 2)]) ++ [(q4, zs_a0 cB 150)]) ++ [(q5, zs_a0 cI 3)]) ++ [(q6, zs_a0 cI 120)]) ++ [(q7, zs_a0 cI 10)]) ++ [(q8, zs_a0 cI 16)]) ++ [(q9, zs_a0 cI 16)]) := hD
  refine va_putF (D := (dC, dI)) (ci := 10) (v := .ref q9) (ty := .array .int) (C := RX12) (T := TX12) (N := 19) hx hb hts zs_uw10 tyX12 tyX12_ok nmX12 hown hK hP hD hS 0 rfl rfl 18 (by decide) (hts _ fk_RX12_39) (fun _ h9 => h9) rfl hin rfl (by decide +kernel) rfl rfl (Nat.le_of_ble_eq_true rfl) dX12_init_79 (fun H locs hP hD hS => ?_)
  have hP : va_P (dC, dI) vwCl (((((((((((h0, .inr (10, [.ref q1, .ref q2, .ref q3, .int 0, .ref q4, .int 0, .int 0, .int 0, .int 0, .int 0, .int 0, .int 0, .long 0, .long 1, .ref q5, .ref q6, .ref q7, .ref q8, .ref q9])) :: wr) ++ [(q1, zs_a0 cI 700)]) ++ [(q2, zs_a0 cI 198)]) ++ [(q3, zs_a0 cI 2)]) ++ [(q4, zs_a0 cB 150)]) ++ [(q5, zs_a0 cI 3)]) ++ [(q6, zs_a0 cI 120)]) ++ [(q7, zs_a0 cI 10)]) ++ [(q8, zs_a0 cI 16)]) ++ [(q9, zs_a0 cI 16)]) H := hP
  have hD : va_D A (((((((((((h0, .inr (10, [.ref q1, .ref q2, .ref q3, .int 0, .ref q4, .int 0, .int 0, .int 0, .int 0, .int 0, .int 0, .int 0, .long 0, .long 1, .ref q5, .ref q6, .ref q7, .ref q8, .ref q9])) :: wr) ++ [(q1, zs_a0 cI 700)]) ++ [(q2, zs_a0 cI 198)]) ++ [(q3, zs_a0 cI 2)]) ++ [(q4, zs_a0 cB 150)]) ++ [(q5, zs_a0 cI 3)]) ++ [(q6, zs_a0 cI 120)]) ++ [(q7, zs_a0 cI 10)]) ++ [(q8, zs_a0 cI 16)]) ++ [(q9, zs_a0 cI 16)]) := hD
  refine lv_aload_n hx hb dX12_init_82 rfl (lv_at hl 0 rfl) ?_
  refine lv_iconst (v := nI 2) hx hb dX12_init_83 (by decide) ?_
  refine lv_iconst (v := nI 0) hx hb dX12_init_84 (by decide) ?_
  refine lv_iconst (v := nI 1) hx hb dX12_init_85 (by decide) ?_
  subst hwr
  simp only [List.cons_append, List.append_assoc, List.nil_append] at hP hD
  have hP := zs_PW dC dI cI cB ad h0 q1 q2 q3 q4 q5 q6 q7 q8 q9 hP
  have hD := zs_DW dC dI cI cB ad h0 q1 q2 q3 q4 q5 q6 q7 q8 q9 hD
  obtain ⟨hI, hAE⟩ := zs_Di hD
  have hZ : zs_Z (zs_e dC dI cI cB (zs_ad2 ad h0 (fun k => [q1, q2, q3, q4, q5, q6, q7, q8, q9].getD k 0))) s := ⟨hK, hN, hI⟩
  obtain ⟨⟨v9, S9⟩, hX, h91, h92⟩ := z_bx
  subst h91
  subst h92
  refine zs_contA (q := (none, zs_S1)) (rest := []) (E := (zs_e dC dI cI cB (zs_ad2 ad h0 (fun k => [q1, q2, q3, q4, q5, q6, q7, q8, q9].getD k 0)))) (va_runV (C := RX12) (As := [.int (nI 2), .int (nI 0), .int (nI 1)]) (n := 3) (Ts := zs_tbl) ⟨hx, hb, hml, hown, hts⟩ (hX l (zs_e dC dI cI cB (zs_ad2 ad h0 (fun k => [q1, q2, q3, q4, q5, q6, q7, q8, q9].getD k 0)))) ⟨⟨rfl, rfl, Nat.le_of_ble_eq_true rfl, Nat.le_of_ble_eq_true rfl, zs_pay hts cwX12_begins, List.mem_cons_self, hts _ cwX12_begins, hts _ iwX12_begins, ⟨by decide, by decide⟩, zs_len (by decide +kernel), hts _ mm_RX12_42⟩, hts _ mwX12_begins, hts _ ewX12_begins⟩ ⟨zs_bl, va_recv hZ.1 hP (show vwCl[10]? = some (RX12, TX12, 19) from rfl) (zs_obj (a := 80) (by decide) rfl), fun U hU hW => ⟨rfl, by rw [hU]; exact hP, zs_Zw hZ hW, ((zs_Tw hT hW hU hS).narrow hAE).cg (ad2 := zs_ad2 ad h0 (fun k => [q1, q2, q3, q4, q5, q6, q7, q8, q9].getD k 0)) (fun k hk => zs_ad2h hk)⟩⟩ rfl rfl hl.1 rfl (lv_room (Nat.le_of_ble_eq_true rfl)) dX12_init_86 ⟨Nat.le_of_ble_eq_true rfl, Nat.le_of_ble_eq_true rfl⟩) hS hAE (fun H locs hP hS => ?_)
  refine W.eq (g2 := F0 m 89 ls []) rfl ?_
  exact W.vret hx hb hr (fun t ht hW => ⟨⟨fun k => [q1, q2, q3, q4, q5, q6, q7, q8, q9].getD k 0, rfl, trivial, by rw [ht]; exact hP, ⟨(zs_Dd hI).1, fun k q hk => hAE _ ((zs_Dd hI).2 k q hk)⟩⟩, hS.F ht⟩) hS.2.2 dX12_init_89
