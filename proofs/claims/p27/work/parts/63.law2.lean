/-! THE CLAIM OUT OF ONE WALK OF THE LAW'S BODY. Your part is whole_start (and what it stands on); all else here is the same for every law, but numbers. -/
def R_law : String := "ZoeStripsLaw"
def lw_P (b : Addr) (xs : List Int32) (args : Array Value) (s : State) : Prop := args = #[.ref b] ∧ s.IntsAt b xs ∧ xs.length ≤ 2560 ∧ (Jvm.Cond.and given_1 narrow_1).before args s = true
def lw_Q (_ : Array Value) (s : State) (o : Outcome) (t : State) : Prop := o = .returned (some (.int 1)) ∧ Framed s o t [] 90 4068
def lw_Z (below : List Frame) (a : Array Value) (s : State) : State → Prop := fun t => ∃ o, t.status = .running ∧ Ended t below o ∧ lw_Q a s o t
/-- the law's own end, with 1 on the stack, nothing written that was there before, its room as the claim has it -/
theorem lw_ret {p : Program} {l : Launch} {e : Env} {s : State} {m : MethodId} {below : List Frame} {meth : Method} {c : Code} {b : Nat} (hx : p.tables.exec = Jvm.exec) (hb : c.code = code) (hr : meth.sig.returnType = ret) (hlocks : meth.locks = false) {pc : Nat} {H : Heap} {ls : Array Slot} (hdg : decode code pc = .ok (.ireturn, 1)) : W p l e room_1 s m #[Value.ref b] below meth c H [] 90 4068 (lw_Z below #[Value.ref b] s) (F0 m pc ls [.int 1]) := by
  intro T hT X
  obtain ⟨fs, hret, hrun, hended, hW, hframe⟩ := X.leave (v := some (.int 1)) (hlocks := hlocks) (fun h => by rw [hr] at h; cases h)
  have hmeth' : T.vm.method? m = some meth := X.method'
  refine ⟨T.setFrames fs, ?_, .returned (some (.int 1)), hrun, hended, rfl, ⟨_, rfl⟩, hW, hframe⟩
  jvm_step X.here [X.here.top, hx, hb, hdg, hmeth', hr, ret, narrow_b1]
  (try refine ⟨rfl, ?_⟩); (try refine ⟨rfl, ?_⟩)
  first | (intro acts; rw [hret _ acts rfl rfl rfl]) | rw [hret _ _ rfl rfl rfl]
  exact Steps.refl _
/-- what holds at the law's entry: the machine, the code, the tables' words (any of lw_tbl by 'hts w (by decide +kernel)'), the script of L ints xs at the cell b, what the Statement gives of the start (any of its parts by flat_of_before) -/
def lw_At (p : Program) (s : State) (m : MethodId) (meth : Method) (c : Code) (b L : Nat) (xs : Nat → Int32) : Prop :=
  p.tables.exec = Jvm.exec ∧ c.code = code ∧ meth.sig.returnType = ret ∧ c.maxLocals = 4 ∧ s.vm.findClass R_law = some m.cls ∧ (∀ w ∈ lw_tbl, w.before #[Value.ref b] s = true) ∧ va_X b L xs s s.heap ∧ b < s.heap.size ∧ meth.locks = false ∧ (Jvm.Cond.and given_1 narrow_1).before #[Value.ref b] s = true
set_option maxRecDepth 100000 in
theorem lq_7 : Cond.classLink R_law 7 RX11 ∈ zs_tbl := zs_iq1 19 rfl rfl
set_option maxRecDepth 100000 in
theorem lq_10 : Cond.classLink R_law 10 RX12 ∈ zs_tbl := zs_iq4 224 rfl rfl
set_option maxRecDepth 100000 in
theorem lq_9 : Cond.methodLink R_law 9 yX11_init ∈ zs_tbl := zs_iq1 21 rfl rfl
set_option maxRecDepth 100000 in
theorem lq_12 : Cond.methodLink R_law 12 yX12_init ∈ zs_tbl := zs_iq4 226 rfl rfl
set_option maxRecDepth 100000 in
theorem li_X11 : Cond.instantiable RX11 18 ∈ zs_tbl := zs_iq1 20 rfl rfl
set_option maxRecDepth 100000 in
theorem lz_X11 : Cond.initialized RX11 ∈ zs_tbl := zs_iq1 1 rfl rfl
set_option maxRecDepth 100000 in
theorem lm_X11 : Cond.instanceMethod yX11_init ∈ zs_tbl := zs_iq1 22 rfl rfl
set_option maxRecDepth 100000 in
theorem lc_X11 : Cond.code yX11_init cX11_init 1 none ∈ zs_tbl := zs_iq1 23 rfl rfl
set_option maxRecDepth 100000 in
theorem li_X12 : Cond.instantiable RX12 19 ∈ zs_tbl := zs_iq4 225 rfl rfl
set_option maxRecDepth 100000 in
theorem lz_X12 : Cond.initialized RX12 ∈ zs_tbl := zs_iq1 11 rfl rfl
set_option maxRecDepth 100000 in
theorem lm_X12 : Cond.instanceMethod yX12_init ∈ zs_tbl := zs_iq4 227 rfl rfl
set_option maxRecDepth 100000 in
theorem lc_X12 : Cond.code yX12_init cX12_init 1 none ∈ zs_tbl := zs_iq4 228 rfl rfl
theorem zs_rotP {D : va_G} {cl : List vw_C} {x : Nat × va_E} {w : va_W} {H : Heap} (h : va_P D cl (w ++ [x]) H) : va_P D cl (x :: w) H := by
  intro k q hk
  match k, hk with
  | 0, hk => exact h w.length q (by rw [List.getElem?_append_right (Nat.le_refl _), Nat.sub_self]; exact hk)
  | k + 1, hk =>
    have hlt : k < w.length := Nat.lt_of_succ_lt_succ (List.getElem?_eq_some_iff.mp hk).1
    exact h k q (by rw [List.getElem?_append_left hlt]; exact hk)
theorem zs_rotD {A : Nat → Prop} {x : Nat × va_E} {w : va_W} (h : va_D A (w ++ [x])) : va_D A (x :: w) := by
  have key : ∀ (k : Nat) (q : Nat × va_E), (x :: w)[k]? = some q → ∃ i, (w ++ [x])[i]? = some q ∧ (k = 0 → i = w.length) ∧ (k ≠ 0 → i + 1 = k ∧ i < w.length) := by
    intro k q hk
    match k, hk with
    | 0, hk => exact ⟨w.length, by rw [List.getElem?_append_right (Nat.le_refl _), Nat.sub_self]; exact hk, fun _ => rfl, fun z => absurd rfl z⟩
    | k + 1, hk =>
      have hlt : k < w.length := Nat.lt_of_succ_lt_succ (List.getElem?_eq_some_iff.mp hk).1
      exact ⟨k, by rw [List.getElem?_append_left hlt]; exact hk, fun z => absurd z (by omega), fun _ => ⟨rfl, hlt⟩⟩
  refine ⟨fun i j p q hp hq e => ?_, fun k q hk => ?_⟩
  · obtain ⟨i', a1, a2, a3⟩ := key i p hp
    obtain ⟨j', b1, b2, b3⟩ := key j q hq
    have := h.1 i' j' p q a1 b1 e
    by_cases hi : i = 0 <;> by_cases hj : j = 0
    · omega
    · have := a2 hi; have := b3 hj; omega
    · have := a3 hi; have := b2 hj; omega
    · have := a3 hi; have := b3 hj; omega
  · obtain ⟨i, a1, -⟩ := key k q hk
    exact h.2 i q a1
theorem zs_freeA {ws : va_W} {H0 H : Heap} {locs : List Loc} (hD : va_D (fun q : Nat => H0.size ≤ q) ws) (hS : va_S (fun q : Nat => H0.size ≤ q) H0 H locs) (q : Nat) (h : va_A ws H.size q) : H0.size ≤ q := by
  rcases h with ⟨k, x, hk⟩ | h
  · exact hD.2 k _ hk
  · exact Nat.le_trans hS.1 h
set_option maxHeartbeats 8000000 in
set_option maxRecDepth 100000 in
theorem law_begin {p : Program} {e : Env} {s : State} {m : MethodId} {below : List Frame} {meth : Method} {c : Code} (l : Launch) {b L : Nat} {xs : Nat → Int32} (C0 : lw_At p s m meth c b L xs) (k : ∀ (E : zs_E) (H : Heap) (ls : Array Slot), zs_Z E s → zs_T E.2.2.2 (fun q : Nat => s.heap.size ≤ q) s s.heap → va_P (zs_D E) vwCl (zs_ws E zs_S1) H → (∀ x, zs_A E x → s.heap.size ≤ x) → va_S (fun q : Nat => s.heap.size ≤ q) s.heap H [] → lv_has ls 4 [(3, .int 0), (2, .ref (E.2.2.2 80)), (1, .ref (E.2.2.2 0)), (0, .ref b)] → W p l e room_1 s m #[Value.ref b] below meth c H [] 90 4068 (lw_Z below #[Value.ref b] s) (F0 m 18 ls [])) : W p l e room_1 s m #[Value.ref b] below meth c s.heap [] 0 0 (lw_Z below #[Value.ref b] s) (entryFrame m ([Value.ref b] : List Value).toArray 4) := by
  obtain ⟨hx, hb, hr, hml, hown, hts0, hX, hbl, hlocks, hgv⟩ := id C0
  have hts : ∀ w ∈ zs_tbl, w.before #[Value.ref b] s = true := fun w hw => hts0 w (List.mem_filter.mp hw).1
  have hN : zs_N s := fun q hq => va_Nw.of rfl (hts0 _ (zs_nin q hq))
  obtain ⟨sa, hT⟩ := zs_T0 hgv hts0
  obtain ⟨dC, dI, hKc⟩ := zs_known hts
  obtain ⟨cI, hI1, hI2⟩ := zs_arrK (hts _ aw_int)
  obtain ⟨cB, hB1, hB2⟩ := zs_arrK (hts _ aw_byte)
  have hA : ∀ q : Nat, s.heap.size ≤ q → (fun q : Nat => s.heap.size ≤ q) q := fun _ h => h
  have hK : va_K (dC, dI) vwCl (zs_tb cI cB) s := ⟨hKc, fun k q h => by
    match k, h with
    | 0, h => cases h; exact ⟨hI1, hI2⟩
    | 1, h => cases h; exact ⟨hB1, hB2⟩
    | k + 2, h => simp at h⟩
  have hS : va_S (fun q : Nat => s.heap.size ≤ q) s.heap s.heap [] := va_S.rf
  have hP : va_P (dC, dI) vwCl [] s.heap := fun k q h => by simp at h
  have hD : va_D (fun q : Nat => s.heap.size ≤ q) [] := ⟨fun i j p q h => by simp at h, fun k q h => by simp at h⟩
  have hl := lv_entry ([.ref b]) (n := 4) (Nat.le_of_ble_eq_true rfl)
  rw [lg_entry_eq]
  generalize (lg_sl ([.ref b]) ++ List.replicate (4 - (lg_sl ([.ref b])).length) Slot.unset).toArray = ls at hl ⊢
  have hl : lv_has ls 4 [(0, .ref b)] := hl
  refine va_new (ci := 9) (fs := [.null, .null, .null, .int 0, .int 0, .null, .long 0, .long 0, .int 0, .int 0, .int 0, .null, .null, .null, .null, .null, .null, .null]) (C := RX11) (T := TX11) (N := 18) hx hb hts zs_uw9 tyX11 tyX11_ok hown (hts _ lq_7) (hts _ li_X11) (hts _ lz_X11) hK hP hD hS hA rfl (by decide) (Nat.le_of_ble_eq_true rfl) (Nat.le_of_ble_eq_true rfl) dL_law_0 (fun q0 H hP hD hS => ?_)
  have hP : va_P (dC, dI) vwCl [(q0, .inr (9, [.null, .null, .null, .int 0, .int 0, .null, .long 0, .long 0, .int 0, .int 0, .int 0, .null, .null, .null, .null, .null, .null, .null]))] H := hP
  have hD : va_D (fun q : Nat => s.heap.size ≤ q) [(q0, .inr (9, [.null, .null, .null, .int 0, .int 0, .null, .long 0, .long 0, .int 0, .int 0, .int 0, .null, .null, .null, .null, .null, .null, .null]))] := hD
  refine lv_dup hx hb dL_law_3 rfl ?_
  have hPc := hP
  have hDc := hD
  have hFc := va_free (wc := [(q0, .inr (9, [.null, .null, .null, .int 0, .int 0, .null, .long 0, .long 0, .int 0, .int 0, .int 0, .null, .null, .null, .null, .null, .null, .null]))]) hD hS hA [0] rfl
  refine va_callv (va_runI (As := []) (rest := [.ref q0]) (n := 0) (Ts := zs_tbl) ⟨hx, hb, hml, hown, hts⟩ (k_X11_init l dC dI cI cB q0 H.size) ⟨⟨rfl, rfl, Nat.le_of_ble_eq_true rfl, Nat.le_of_ble_eq_true rfl, zs_pay (N := (yX11_init, cX11_init, 1, none, { frames := 0, cells := 0, slots := 0, locals := 0 })) hts lc_X11, List.mem_cons_self, hts _ lc_X11, hts _ lz_X11, ⟨by decide, by decide⟩, zs_len (by decide +kernel), hts _ lq_9⟩, rfl, hts _ lm_X11⟩ ⟨zs_kb, fun U hU hW => ⟨rfl, by rw [hU], by rw [hU]; exact hPc, va_K.moved hW.alike hK, hDc.weaken (fun _ _ _ _ => trivial), fun w9 h9 => va_Nw.warmM hW (hN w9 h9)⟩⟩ rfl rfl hl.1 rfl (lv_room (Nat.le_of_ble_eq_true rfl)) dL_law_4 ⟨Nat.le_of_ble_eq_true rfl, Nat.le_of_ble_eq_true rfl⟩) hS (fun q _ h => hFc q h) hFc (fun u t H1 locs ht hvm hw hB hz1 hk1 hS => ?_)
  obtain ⟨hP1, hD1⟩ := hB
  rw [ht] at hP1
  obtain ⟨hP, hD⟩ := va_join (wr := []) (w1 := [(q0, .inr (9, [.ref (u 0), .ref (u 14), .ref (u 28), .int 0, .int 0, .ref (u 42), .long 0, .long 1, .int 0, .int 0, .int 0, .ref (u 62), .ref (u 66), .ref (u 69), .ref (u 72), .ref (u 74), .ref (u 77), .ref (u 78)])), ((u 0), .inr (4, [.int 2, .int 0, .int 0, .ref (u 1), .ref (u 2), .ref (u 6), .ref (u 8), .ref (u 10), .ref (u 12)])), ((u 1), zs_a0 cI 5), ((u 2), .inr (1, [.int 0, .int 0, .int 1, .ref (u 3), .ref (u 4), .ref (u 5)])), ((u 3), zs_a0 cI 12), ((u 4), zs_a0 cI 5), ((u 5), zs_a0 cI 5), ((u 6), .inr (2, [.ref (u 7), .int 0])), ((u 7), zs_a0 cI 200), ((u 8), .inr (3, [.int 2, .ref (u 9), .int 0])), ((u 9), zs_a0 cI 24), ((u 10), .inr (3, [.int 4, .ref (u 11), .int 0])), ((u 11), zs_a0 cI 24), ((u 12), .inr (3, [.int 3, .ref (u 13), .int 0])), ((u 13), zs_a0 cI 24), ((u 14), .inr (4, [.int 2, .int 0, .int 0, .ref (u 15), .ref (u 16), .ref (u 20), .ref (u 22), .ref (u 24), .ref (u 26)])), ((u 15), zs_a0 cI 5), ((u 16), .inr (1, [.int 0, .int 0, .int 1, .ref (u 17), .ref (u 18), .ref (u 19)])), ((u 17), zs_a0 cI 12), ((u 18), zs_a0 cI 5), ((u 19), zs_a0 cI 5), ((u 20), .inr (2, [.ref (u 21), .int 0])), ((u 21), zs_a0 cI 200), ((u 22), .inr (3, [.int 2, .ref (u 23), .int 0])), ((u 23), zs_a0 cI 24), ((u 24), .inr (3, [.int 4, .ref (u 25), .int 0])), ((u 25), zs_a0 cI 24), ((u 26), .inr (3, [.int 3, .ref (u 27), .int 0])), ((u 27), zs_a0 cI 24), ((u 28), .inr (4, [.int 2, .int 0, .int 0, .ref (u 29), .ref (u 30), .ref (u 34), .ref (u 36), .ref (u 38), .ref (u 40)])), ((u 29), zs_a0 cI 5), ((u 30), .inr (1, [.int 0, .int 0, .int 1, .ref (u 31), .ref (u 32), .ref (u 33)])), ((u 31), zs_a0 cI 12), ((u 32), zs_a0 cI 5), ((u 33), zs_a0 cI 5), ((u 34), .inr (2, [.ref (u 35), .int 0])), ((u 35), zs_a0 cI 200), ((u 36), .inr (3, [.int 2, .ref (u 37), .int 0])), ((u 37), zs_a0 cI 24), ((u 38), .inr (3, [.int 4, .ref (u 39), .int 0])), ((u 39), zs_a0 cI 24), ((u 40), .inr (3, [.int 3, .ref (u 41), .int 0])), ((u 41), zs_a0 cI 24), ((u 42), .inr (8, [.ref (u 43), .int 0, .ref (u 44), .ref (u 58), .ref (u 59), .ref (u 60), .ref (u 61), .int 0])), ((u 43), zs_a0 cI 150), ((u 44), .inr (4, [.int 2, .int 0, .int 0, .ref (u 45), .ref (u 46), .ref (u 50), .ref (u 52), .ref (u 54), .ref (u 56)])), ((u 45), zs_a0 cI 5), ((u 46), .inr (1, [.int 0, .int 0, .int 1, .ref (u 47), .ref (u 48), .ref (u 49)])), ((u 47), zs_a0 cI 12), ((u 48), zs_a0 cI 5), ((u 49), zs_a0 cI 5), ((u 50), .inr (2, [.ref (u 51), .int 0])), ((u 51), zs_a0 cI 200), ((u 52), .inr (3, [.int 2, .ref (u 53), .int 0])), ((u 53), zs_a0 cI 24), ((u 54), .inr (3, [.int 4, .ref (u 55), .int 0])), ((u 55), zs_a0 cI 24), ((u 56), .inr (3, [.int 3, .ref (u 57), .int 0])), ((u 57), zs_a0 cI 24), ((u 58), zs_a0 cI 151), ((u 59), zs_a0 cI 151), ((u 60), zs_a0 cI 151), ((u 61), zs_a0 cI 151), ((u 62), .inr (1, [.int 0, .int 0, .int 1, .ref (u 63), .ref (u 64), .ref (u 65)])), ((u 63), zs_a0 cI 12), ((u 64), zs_a0 cI 5), ((u 65), zs_a0 cI 5), ((u 66), .inr (6, [.ref (u 67), .ref (u 68), .int 0])), ((u 67), zs_a0 cI 120), ((u 68), zs_a0 cI 12), ((u 69), .inr (0, [.ref (u 70), .ref (u 71), .int 0])), ((u 70), zs_a0 cI 372), ((u 71), zs_a0 cI 144), ((u 72), .inr (7, [.ref (u 73), .int 0])), ((u 73), zs_a0 cI 32), ((u 74), .inr (5, [.ref (u 75), .ref (u 76)])), ((u 75), zs_a0 cI 10), ((u 76), zs_a0 cI 10), ((u 77), zs_a0 cI 8), ((u 78), zs_a0 cI 8)]) hP hD [0] [] rfl rfl (by decide) (by decide) hk1 hFc hP1 hD1
  generalize H1 = H at hP hS ⊢
  have hP : va_P (dC, dI) vwCl (zs_wr dC dI cI cB (zs_ad1 q0 u sa)) H := by rw [← zs_wrE dC dI cI cB q0 u sa]; exact hP
  have hD : va_D (fun q : Nat => s.heap.size ≤ q) (zs_wr dC dI cI cB (zs_ad1 q0 u sa)) := by rw [← zs_wrE dC dI cI cB q0 u sa]; exact hD
  generalize hwr : zs_wr dC dI cI cB (zs_ad1 q0 u sa) = wr at hP hD
  refine lv_astore_n (lv' := [(1, .ref q0), (0, .ref b)]) hx hb dL_law_7 rfl hl (by decide) rfl (fun ls hl => ?_)
  refine va_new (ci := 10) (fs := [.null, .null, .null, .int 0, .null, .int 0, .int 0, .int 0, .int 0, .int 0, .int 0, .int 0, .long 0, .long 0, .null, .null, .null, .null, .null]) (C := RX12) (T := TX12) (N := 19) hx hb hts zs_uw10 tyX12 tyX12_ok hown (hts _ lq_10) (hts _ li_X12) (hts _ lz_X12) hK hP hD hS hA rfl (by decide) (Nat.le_of_ble_eq_true rfl) (Nat.le_of_ble_eq_true rfl) dL_law_8 (fun q1 H hP hD hS => ?_)
  refine lv_dup hx hb dL_law_11 rfl ?_
  have hPc : va_P (dC, dI) vwCl ((q1, .inr (10, [.null, .null, .null, .int 0, .null, .int 0, .int 0, .int 0, .int 0, .int 0, .int 0, .int 0, .long 0, .long 0, .null, .null, .null, .null, .null])) :: zs_wr dC dI cI cB (zs_ad1 q0 u sa)) H := by subst hwr; exact zs_rotP hP
  have hDc : va_D (fun q : Nat => s.heap.size ≤ q) ((q1, .inr (10, [.null, .null, .null, .int 0, .null, .int 0, .int 0, .int 0, .int 0, .int 0, .int 0, .int 0, .long 0, .long 0, .null, .null, .null, .null, .null])) :: zs_wr dC dI cI cB (zs_ad1 q0 u sa)) := by subst hwr; exact zs_rotD hD
  have hFc : ∀ q : Nat, va_A ((q1, .inr (10, [.null, .null, .null, .int 0, .null, .int 0, .int 0, .int 0, .int 0, .int 0, .int 0, .int 0, .long 0, .long 0, .null, .null, .null, .null, .null])) :: zs_wr dC dI cI cB (zs_ad1 q0 u sa)) H.size q → s.heap.size ≤ q := zs_freeA hDc hS
  refine va_callv (va_runI (As := []) (rest := [.ref q1]) (n := 0) (Ts := zs_tbl) ⟨hx, hb, hml, hown, hts⟩ (k_X12_init l dC dI cI cB (zs_ad1 q0 u sa) q1 H.size) ⟨⟨rfl, rfl, Nat.le_of_ble_eq_true rfl, Nat.le_of_ble_eq_true rfl, zs_pay (N := (yX12_init, cX12_init, 1, none, { frames := 0, cells := 0, slots := 0, locals := 0 })) hts lc_X12, List.mem_cons_self, hts _ lc_X12, hts _ lz_X12, ⟨by decide, by decide⟩, zs_len (by decide +kernel), hts _ lq_12⟩, rfl, hts _ lm_X12⟩ ⟨zs_kb2, fun U hU hW => ⟨rfl, ⟨by rw [hU], by rw [hU]; exact hPc, va_K.moved hW.alike hK, hDc.weaken (fun _ _ _ _ => trivial), fun w9 h9 => va_Nw.warmM hW (hN w9 h9)⟩, ((zs_Tw hT hW hU hS).narrow hFc).cg (fun k9 hk9 => zs_ad1h hk9)⟩⟩ rfl rfl hl.1 rfl (lv_room (Nat.le_of_ble_eq_true rfl)) dL_law_12 ⟨Nat.le_of_ble_eq_true rfl, Nat.le_of_ble_eq_true rfl⟩) hS (fun q _ h => hFc q h) hFc (fun v t H1 locs ht hvm hw hB hz1 hk1 hS => ?_)
  obtain ⟨hP1, hD1⟩ := hB
  rw [ht] at hP1
  generalize H1 = H at hP1 hS ⊢
  refine W.eq (g2 := F0 m 15 ls [.ref q1]) rfl ?_
  refine lv_astore_n (lv' := [(2, .ref q1), (1, .ref q0), (0, .ref b)]) hx hb dL_law_15 rfl hl (by decide) rfl (fun ls hl => ?_)
  refine lv_iconst (v := 0) hx hb dL_law_16 (by decide) ?_
  refine lv_istore_n (lv' := [(3, .int 0), (2, .ref q1), (1, .ref q0), (0, .ref b)]) hx hb dL_law_17 rfl hl (by decide) rfl (fun ls hl => ?_)
  obtain ⟨hI, hAE⟩ := zs_Di hD1
  refine va_forget hS.2.2 ?_
  exact k (zs_e dC dI cI cB (zs_ad2 (zs_ad1 q0 u sa) q1 v)) H ls ⟨hK, hN, hI⟩ (hT.cg (ad2 := zs_ad2 (zs_ad1 q0 u sa) q1 v) (fun k9 hk9 => (zs_ad2h hk9).trans (zs_ad1h hk9))) hP1 (fun x hx => hFc x (hAE x hx)) ⟨hS.1, hS.2.1, fun _ h => absurd h List.not_mem_nil⟩ hl
