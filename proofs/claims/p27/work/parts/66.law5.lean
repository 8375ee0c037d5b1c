theorem law_out {p : Program} {e : Env} {s : State} {m : MethodId} {below : List Frame} {meth : Method} {c : Code} {l : Launch} {b L : Nat} {xs : Nat → Int32} (C0 : lw_At p s m meth c b L xs) {H : Heap} {locs : List Loc} {ls : Array Slot} (hS : va_S (fun q : Nat => s.heap.size ≤ q) s.heap H locs) : W p l e room_1 s m #[Value.ref b] below meth c H locs 90 4068 (lw_Z below #[Value.ref b] s) (F0 m 1163 ls []) := by
  obtain ⟨hx, hb, hr, hml, hown, hts0, hX, hbl, hlocks, hgv⟩ := id C0
  refine va_forget hS.2.2 ?_
  refine lv_iconst (v := 1) hx hb dL_law_1163 (by decide) ?_
  exact lw_ret hx hb hr hlocks dL_law_1164
theorem zs_lgt {L i : Nat} (hL : L ≤ 2560) (hi : i ≤ 3000) : (Int32.ofNat L - nI 5 < nI i) ↔ L < i + 5 := by
  have e : (Int32.ofNat L - nI 5).toInt = (L : Int) - 5 := by
    rw [Int32.toInt_sub, show (Int32.ofNat L).toInt = (L : Int) from nI_toInt (n := L) (by omega), nI_toInt (by decide), Int.bmod_eq_of_le (by omega) (by omega)]
    rfl
  rw [Int32.lt_iff_toInt_lt, e, nI_toInt (by omega)]
  omega
set_option maxHeartbeats 8000000 in
set_option maxRecDepth 100000 in
theorem law_loop {p : Program} {e : Env} {s : State} {m : MethodId} {below : List Frame} {meth : Method} {c : Code} {l : Launch} {b L : Nat} {xs : Nat → Int32} (C0 : lw_At p s m meth c b L xs) (hL : L ≤ 2560) {E : zs_E} (hZ : zs_Z E s) (hT : zs_T E.2.2.2 (fun q : Nat => s.heap.size ≤ q) s s.heap) (hAE : ∀ x, zs_A E x → s.heap.size ≤ x) : ∀ (n i : Nat), i ≤ 2600 → 2561 ≤ i + 5 * n → ∀ (S : zs_S) (H : Heap) (locs : List Loc) (ls : Array Slot), zs_Iw S → va_P (zs_D E) vwCl (zs_ws E S) H → va_S (fun q : Nat => s.heap.size ≤ q) s.heap H locs → lv_has ls 4 [(3, .int (nI i)), (2, .ref (E.2.2.2 80)), (1, .ref (E.2.2.2 0)), (0, .ref b)] → W p l e room_1 s m #[Value.ref b] below meth c H locs 90 4068 (lw_Z below #[Value.ref b] s) (F0 m 18 ls []) := by
  obtain ⟨hx, hb, hr, hml, hown, hts0, hX, hbl, hlocks, hgv⟩ := id C0
  have hbA : ¬ (fun q : Nat => s.heap.size ≤ q) b := Nat.not_le.mpr hbl
  intro n
  induction n with
  | zero =>
    intro i hi1 hi2 S H locs ls hI hP hS hl
    refine lv_iload_n hx hb dL_law_18 rfl (lv_at hl 0 rfl) ?_
    refine lv_aload_n hx hb dL_law_19 rfl (lv_at hl 3 rfl) ?_
    refine va_slen hx hb hX hbl hbA hS dL_law_20 ?_
    refine lv_iconst (v := nI 5) hx hb dL_law_21 (by decide) ?_
    refine lv_isub hx hb dL_law_22 ?_
    exact lv_icmp_gt (tgt := 1163) hx hb dL_law_23 (by decide) (fun _ => law_out C0 hS) (fun z => absurd ((zs_lgt hL (by omega)).mpr (by omega)) z)
  | succ n ih =>
    intro i hi1 hi2 S H locs ls hI hP hS hl
    refine lv_iload_n hx hb dL_law_18 rfl (lv_at hl 0 rfl) ?_
    refine lv_aload_n hx hb dL_law_19 rfl (lv_at hl 3 rfl) ?_
    refine va_slen hx hb hX hbl hbA hS dL_law_20 ?_
    refine lv_iconst (v := nI 5) hx hb dL_law_21 (by decide) ?_
    refine lv_isub hx hb dL_law_22 ?_
    refine lv_icmp_gt (tgt := 1163) hx hb dL_law_23 (by decide) (fun _ => law_out C0 hS) (fun hz => ?_)
    have hiL : i + 5 ≤ L := by
      rcases Nat.lt_or_ge L (i + 5) with y | y
      · exact absurd ((zs_lgt hL (by omega)).mpr y) hz
      · exact y
    have kend : ∀ (S : zs_S) (H : Heap) (locs : List Loc), zs_Iw S → va_P (zs_D E) vwCl (zs_ws E S) H → va_S (fun q : Nat => s.heap.size ≤ q) s.heap H locs → W p l e room_1 s m #[Value.ref b] below meth c H locs 90 4068 (lw_Z below #[Value.ref b] s) (F0 m 1157 ls []) := by
      intro S H locs hI hP hS
      refine lv_iinc (k := 0) (v := nI (i + 5)) (lv' := [(3, .int (nI (i + 5))), (2, .ref (E.2.2.2 80)), (1, .ref (E.2.2.2 0)), (0, .ref b)]) hx hb dL_law_1157 hl rfl (nI_add i 5) (by decide) rfl (fun ls hl => ?_)
      refine lv_goto (tgt := 18) hx hb dL_law_1160 (by decide) ?_
      exact ih (i + 5) (by omega) (by omega) S H locs ls hI hP hS hl
    refine lv_aload_n hx hb dL_law_26 rfl (lv_at hl 3 rfl) ?_
    refine lv_iload_n hx hb dL_law_27 rfl (lv_at hl 0 rfl) ?_
    refine va_sld hx hb hX hbl hbA hS (vp_in_nI (by omega) (by omega)) dL_law_28 ?_
    refine lv_bipush (v := 63) hx hb dL_law_29 (by decide) ?_
    refine lv_iand hx hb dL_law_31 ?_
    generalize xs (nI i).toNatClampNeg &&& 63 = x
    by_cases h0 : x.toInt < 0 ∨ 36 < x.toInt
    · exact lv_tableOut (tgt := 1157) hx hb dL_law_32 h0 (by decide) (kend _ _ _ hI hP hS)
    rcases (show x.toInt = 0 ∨ x.toInt = 1 ∨ x.toInt = 2 ∨ x.toInt = 3 ∨ x.toInt = 4 ∨ x.toInt = 5 ∨ x.toInt = 6 ∨ x.toInt = 7 ∨ x.toInt = 8 ∨ x.toInt = 9 ∨ x.toInt = 10 ∨ x.toInt = 11 ∨ x.toInt = 12 ∨ x.toInt = 13 ∨ x.toInt = 14 ∨ x.toInt = 15 ∨ x.toInt = 16 ∨ x.toInt = 17 ∨ x.toInt = 18 ∨ x.toInt = 19 ∨ x.toInt = 20 ∨ x.toInt = 21 ∨ x.toInt = 22 ∨ x.toInt = 23 ∨ x.toInt = 24 ∨ x.toInt = 25 ∨ x.toInt = 26 ∨ x.toInt = 27 ∨ x.toInt = 28 ∨ x.toInt = 29 ∨ x.toInt = 30 ∨ x.toInt = 31 ∨ x.toInt = 32 ∨ x.toInt = 33 ∨ x.toInt = 34 ∨ x.toInt = 35 ∨ x.toInt = 36 by omega) with h9 | h9 | h9 | h9 | h9 | h9 | h9 | h9 | h9 | h9 | h9 | h9 | h9 | h9 | h9 | h9 | h9 | h9 | h9 | h9 | h9 | h9 | h9 | h9 | h9 | h9 | h9 | h9 | h9 | h9 | h9 | h9 | h9 | h9 | h9 | h9 | h9
    · exact lv_tableIn (off := 164) (tgt := 196) hx hb dL_law_32 (by rw [h9]; decide) (by rw [h9]; decide) (by rw [h9]; rfl) (by decide) (lcase_0 C0 hL hZ hT hI hP hAE hS hiL hl kend)
    · exact lv_tableIn (off := 207) (tgt := 239) hx hb dL_law_32 (by rw [h9]; decide) (by rw [h9]; decide) (by rw [h9]; rfl) (by decide) (lcase_1 C0 hL hZ hT hI hP hAE hS hiL hl kend)
    · exact lv_tableIn (off := 230) (tgt := 262) hx hb dL_law_32 (by rw [h9]; decide) (by rw [h9]; decide) (by rw [h9]; rfl) (by decide) (lcase_2 C0 hL hZ hT hI hP hAE hS hiL hl kend)
    · exact lv_tableIn (off := 253) (tgt := 285) hx hb dL_law_32 (by rw [h9]; decide) (by rw [h9]; decide) (by rw [h9]; rfl) (by decide) (lcase_3 C0 hL hZ hT hI hP hAE hS hiL hl kend)
    · exact lv_tableIn (off := 276) (tgt := 308) hx hb dL_law_32 (by rw [h9]; decide) (by rw [h9]; decide) (by rw [h9]; rfl) (by decide) (lcase_4 C0 hL hZ hT hI hP hAE hS hiL hl kend)
    · exact lv_tableIn (off := 289) (tgt := 321) hx hb dL_law_32 (by rw [h9]; decide) (by rw [h9]; decide) (by rw [h9]; rfl) (by decide) (lcase_5 C0 hL hZ hT hI hP hAE hS hiL hl kend)
    · exact lv_tableIn (off := 302) (tgt := 334) hx hb dL_law_32 (by rw [h9]; decide) (by rw [h9]; decide) (by rw [h9]; rfl) (by decide) (lcase_6 C0 hL hZ hT hI hP hAE hS hiL hl kend)
    · exact lv_tableIn (off := 325) (tgt := 357) hx hb dL_law_32 (by rw [h9]; decide) (by rw [h9]; decide) (by rw [h9]; rfl) (by decide) (lcase_7 C0 hL hZ hT hI hP hAE hS hiL hl kend)
    · exact lv_tableIn (off := 348) (tgt := 380) hx hb dL_law_32 (by rw [h9]; decide) (by rw [h9]; decide) (by rw [h9]; rfl) (by decide) (lcase_8 C0 hL hZ hT hI hP hAE hS hiL hl kend)
    · exact lv_tableIn (off := 381) (tgt := 413) hx hb dL_law_32 (by rw [h9]; decide) (by rw [h9]; decide) (by rw [h9]; rfl) (by decide) (lcase_9 C0 hL hZ hT hI hP hAE hS hiL hl kend)
    · exact lv_tableIn (off := 394) (tgt := 426) hx hb dL_law_32 (by rw [h9]; decide) (by rw [h9]; decide) (by rw [h9]; rfl) (by decide) (lcase_10 C0 hL hZ hT hI hP hAE hS hiL hl kend)
    · exact lv_tableIn (off := 427) (tgt := 459) hx hb dL_law_32 (by rw [h9]; decide) (by rw [h9]; decide) (by rw [h9]; rfl) (by decide) (lcase_11 C0 hL hZ hT hI hP hAE hS hiL hl kend)
    · exact lv_tableIn (off := 450) (tgt := 482) hx hb dL_law_32 (by rw [h9]; decide) (by rw [h9]; decide) (by rw [h9]; rfl) (by decide) (lcase_12 C0 hL hZ hT hI hP hAE hS hiL hl kend)
    · exact lv_tableIn (off := 473) (tgt := 505) hx hb dL_law_32 (by rw [h9]; decide) (by rw [h9]; decide) (by rw [h9]; rfl) (by decide) (lcase_13 C0 hL hZ hT hI hP hAE hS hiL hl kend)
    · exact lv_tableIn (off := 506) (tgt := 538) hx hb dL_law_32 (by rw [h9]; decide) (by rw [h9]; decide) (by rw [h9]; rfl) (by decide) (lcase_14 C0 hL hZ hT hI hP hAE hS hiL hl kend)
    · exact lv_tableIn (off := 519) (tgt := 551) hx hb dL_law_32 (by rw [h9]; decide) (by rw [h9]; decide) (by rw [h9]; rfl) (by decide) (lcase_15 C0 hL hZ hT hI hP hAE hS hiL hl kend)
    · exact lv_tableIn (off := 542) (tgt := 574) hx hb dL_law_32 (by rw [h9]; decide) (by rw [h9]; decide) (by rw [h9]; rfl) (by decide) (lcase_16 C0 hL hZ hT hI hP hAE hS hiL hl kend)
    · exact lv_tableIn (off := 585) (tgt := 617) hx hb dL_law_32 (by rw [h9]; decide) (by rw [h9]; decide) (by rw [h9]; rfl) (by decide) (lcase_17 C0 hL hZ hT hI hP hAE hS hiL hl kend)
    · exact lv_tableIn (off := 608) (tgt := 640) hx hb dL_law_32 (by rw [h9]; decide) (by rw [h9]; decide) (by rw [h9]; rfl) (by decide) (lcase_18 C0 hL hZ hT hI hP hAE hS hiL hl kend)
    · exact lv_tableIn (off := 641) (tgt := 673) hx hb dL_law_32 (by rw [h9]; decide) (by rw [h9]; decide) (by rw [h9]; rfl) (by decide) (lcase_19 C0 hL hZ hT hI hP hAE hS hiL hl kend)
    · exact lv_tableIn (off := 664) (tgt := 696) hx hb dL_law_32 (by rw [h9]; decide) (by rw [h9]; decide) (by rw [h9]; rfl) (by decide) (lcase_20 C0 hL hZ hT hI hP hAE hS hiL hl kend)
    · exact lv_tableIn (off := 677) (tgt := 709) hx hb dL_law_32 (by rw [h9]; decide) (by rw [h9]; decide) (by rw [h9]; rfl) (by decide) (lcase_21 C0 hL hZ hT hI hP hAE hS hiL hl kend)
    · exact lv_tableIn (off := 730) (tgt := 762) hx hb dL_law_32 (by rw [h9]; decide) (by rw [h9]; decide) (by rw [h9]; rfl) (by decide) (lcase_22 C0 hL hZ hT hI hP hAE hS hiL hl kend)
    · exact lv_tableIn (off := 773) (tgt := 805) hx hb dL_law_32 (by rw [h9]; decide) (by rw [h9]; decide) (by rw [h9]; rfl) (by decide) (lcase_23 C0 hL hZ hT hI hP hAE hS hiL hl kend)
    · exact lv_tableIn (off := 796) (tgt := 828) hx hb dL_law_32 (by rw [h9]; decide) (by rw [h9]; decide) (by rw [h9]; rfl) (by decide) (lcase_24 C0 hL hZ hT hI hP hAE hS hiL hl kend)
    · exact lv_tableIn (off := 819) (tgt := 851) hx hb dL_law_32 (by rw [h9]; decide) (by rw [h9]; decide) (by rw [h9]; rfl) (by decide) (lcase_25 C0 hL hZ hT hI hP hAE hS hiL hl kend)
    · exact lv_tableIn (off := 842) (tgt := 874) hx hb dL_law_32 (by rw [h9]; decide) (by rw [h9]; decide) (by rw [h9]; rfl) (by decide) (lcase_26 C0 hL hZ hT hI hP hAE hS hiL hl kend)
    · exact lv_tableIn (off := 855) (tgt := 887) hx hb dL_law_32 (by rw [h9]; decide) (by rw [h9]; decide) (by rw [h9]; rfl) (by decide) (lcase_27 C0 hL hZ hT hI hP hAE hS hiL hl kend)
    · exact lv_tableIn (off := 868) (tgt := 900) hx hb dL_law_32 (by rw [h9]; decide) (by rw [h9]; decide) (by rw [h9]; rfl) (by decide) (lcase_28 C0 hL hZ hT hI hP hAE hS hiL hl kend)
    · exact lv_tableIn (off := 911) (tgt := 943) hx hb dL_law_32 (by rw [h9]; decide) (by rw [h9]; decide) (by rw [h9]; rfl) (by decide) (lcase_29 C0 hL hZ hT hI hP hAE hS hiL hl kend)
    · exact lv_tableIn (off := 964) (tgt := 996) hx hb dL_law_32 (by rw [h9]; decide) (by rw [h9]; decide) (by rw [h9]; rfl) (by decide) (lcase_30 C0 hL hZ hT hI hP hAE hS hiL hl kend)
    · exact lv_tableIn (off := 997) (tgt := 1029) hx hb dL_law_32 (by rw [h9]; decide) (by rw [h9]; decide) (by rw [h9]; rfl) (by decide) (lcase_31 C0 hL hZ hT hI hP hAE hS hiL hl kend)
    · exact lv_tableIn (off := 1020) (tgt := 1052) hx hb dL_law_32 (by rw [h9]; decide) (by rw [h9]; decide) (by rw [h9]; rfl) (by decide) (lcase_32 C0 hL hZ hT hI hP hAE hS hiL hl kend)
    · exact lv_tableIn (off := 1043) (tgt := 1075) hx hb dL_law_32 (by rw [h9]; decide) (by rw [h9]; decide) (by rw [h9]; rfl) (by decide) (lcase_33 C0 hL hZ hT hI hP hAE hS hiL hl kend)
    · exact lv_tableIn (off := 1066) (tgt := 1098) hx hb dL_law_32 (by rw [h9]; decide) (by rw [h9]; decide) (by rw [h9]; rfl) (by decide) (lcase_34 C0 hL hZ hT hI hP hAE hS hiL hl kend)
    · exact lv_tableIn (off := 1089) (tgt := 1121) hx hb dL_law_32 (by rw [h9]; decide) (by rw [h9]; decide) (by rw [h9]; rfl) (by decide) (lcase_35 C0 hL hZ hT hI hP hAE hS hiL hl kend)
    · exact lv_tableIn (off := 1112) (tgt := 1144) hx hb dL_law_32 (by rw [h9]; decide) (by rw [h9]; decide) (by rw [h9]; rfl) (by decide) (lcase_36 C0 hL hZ hT hI hP hAE hS hiL hl kend)
set_option maxHeartbeats 4000000 in
set_option maxRecDepth 100000 in
theorem whole_start {p : Program} {e : Env} {s : State} {m : MethodId} {below : List Frame} {meth : Method} {c : Code} (l : Launch) (hflags : l.flags = flags0) {b L : Nat} {xs : Nat → Int32} (hL : L ≤ 2560) (C0 : lw_At p s m meth c b L xs) : W p l e room_1 s m #[Value.ref b] below meth c s.heap [] 0 0 (lw_Z below #[Value.ref b] s) (entryFrame m ([Value.ref b] : List Value).toArray 4) := by
  refine law_begin l C0 (fun E H ls hZ hT hP hAE hS hl => ?_)
  exact law_loop C0 hL hZ hT hAE 600 0 (by omega) (by omega) zs_S1 H [] ls zs_Iw1 hP hS hl
