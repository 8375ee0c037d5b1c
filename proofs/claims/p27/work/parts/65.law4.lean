theorem zs_JS : zs_J zs_S1 := by
  refine ⟨fun a j lo up hr => ?_, fun i hi => Or.inl rfl⟩
  by_cases c1 : a = 82 ∧ j = 0
  · obtain ⟨rfl, rfl⟩ := c1
    rw [show zs_rg 82 0 = some (1, 12) from rfl] at hr; cases hr
    exact ⟨2, by decide, by decide, rfl⟩
  by_cases c2 : a = 81 ∧ j = 2
  · obtain ⟨rfl, rfl⟩ := c2
    rw [show zs_rg 81 2 = some (0, 11) from rfl] at hr; cases hr
    exact ⟨1, by decide, by decide, rfl⟩
  have hlo := zs_lo0 hr c1
  refine ⟨0, by omega, Nat.zero_le _, ?_⟩
  rcases zs_rga hr with rfl | rfl | rfl
  · rfl
  · show (if j = 2 then nI 1 else nI 0) = nI 0
    rw [if_neg (fun z => c2 ⟨rfl, z⟩)]
  · show (if j = 0 then nI 2 else nI 0) = nI 0
    rw [if_neg (fun z => c1 ⟨rfl, z⟩)]
theorem zs_In1 : zs_In zs_S1 := ⟨zs_JS, fun k hk => by
  obtain rfl | rfl : k = 0 ∨ k = 1 := by omega
  · exact ⟨fun _ => rfl, fun _ => rfl⟩
  · exact ⟨fun _ => rfl, fun _ => rfl⟩, 0, fun _ => 0, ⟨by decide, rfl, fun i hi => absurd hi (by omega)⟩, ⟨by decide, rfl, fun i hi => absurd hi (by omega)⟩⟩
theorem zs_vi {i c L : Nat} (h : i + c < L) (hL : L < 2 ^ 31) : vp_in (nI i + nI c) L := by rw [nI_add]; exact vp_in_nI h hL
theorem zs_Iw1 : zs_Iw zs_S1 := ⟨zs_In1, zs_rl.z rfl rfl rfl rfl rfl rfl rfl rfl rfl, fun k hk hz => absurd rfl hz⟩
set_option maxRecDepth 100000 in
theorem lk_13 : Cond.methodLink R_law 13 yX11_drum ∈ zs_tbl := zs_iq2 65 rfl rfl
set_option maxRecDepth 100000 in
theorem lk_17 : Cond.methodLink R_law 17 yX12_drum ∈ zs_tbl := zs_iq5 52 rfl rfl
set_option maxRecDepth 100000 in
theorem lcase_0 {p : Program} {e : Env} {s : State} {m : MethodId} {below : List Frame} {meth : Method} {c : Code} {l : Launch} {b L : Nat} {xs : Nat → Int32} (C0 : lw_At p s m meth c b L xs) (hL : L ≤ 2560) {E : zs_E} {H : Heap} {locs : List Loc} {ls : Array Slot} {QQ : State → Prop} (hZ : zs_Z E s) (hT : zs_T E.2.2.2 (fun q : Nat => s.heap.size ≤ q) s s.heap) {S : zs_S} (hI : zs_Iw S) (hP : va_P (zs_D E) vwCl (zs_ws E S) H) (hAE : ∀ x, zs_A E x → s.heap.size ≤ x) (hS : va_S (fun q : Nat => s.heap.size ≤ q) s.heap H locs) {i : Nat} (hi : i + 5 ≤ L) (hl : lv_has ls 4 [(3, .int (nI i)), (2, .ref (E.2.2.2 80)), (1, .ref (E.2.2.2 0)), (0, .ref b)]) (kend : ∀ (S : zs_S) (H : Heap) (locs : List Loc), zs_Iw S → va_P (zs_D E) vwCl (zs_ws E S) H → va_S (fun q : Nat => s.heap.size ≤ q) s.heap H locs → W p l e room_1 s m #[Value.ref b] below meth c H locs 90 4068 QQ (F0 m 1157 ls [])) : W p l e room_1 s m #[Value.ref b] below meth c H locs 90 4068 QQ (F0 m 196 ls []) := by
  obtain ⟨hx, hb, hr, hml, hown, hts0, hX, hbl, hlocks, hgv⟩ := id C0
  have hbA : ¬ (fun q : Nat => s.heap.size ≤ q) b := Nat.not_le.mpr hbl
  refine lv_aload_n hx hb dL_law_196 rfl (lv_at hl 2 rfl) ?_
  refine lv_aload_n hx hb dL_law_197 rfl (lv_at hl 3 rfl) ?_
  refine lv_iload_n hx hb dL_law_198 rfl (lv_at hl 0 rfl) ?_
  refine lv_iconst (v := nI 1) hx hb dL_law_199 (by decide) ?_
  refine lv_iadd hx hb dL_law_200 ?_
  refine va_sld hx hb hX hbl hbA hS (zs_vi (c := 1) (by omega) (by omega)) dL_law_201 ?_
  refine lv_aload_n hx hb dL_law_202 rfl (lv_at hl 3 rfl) ?_
  refine lv_iload_n hx hb dL_law_203 rfl (lv_at hl 0 rfl) ?_
  refine lv_iconst (v := nI 2) hx hb dL_law_204 (by decide) ?_
  refine lv_iadd hx hb dL_law_205 ?_
  refine va_sld hx hb hX hbl hbA hS (zs_vi (c := 2) (by omega) (by omega)) dL_law_206 ?_
  refine lv_aload_n hx hb dL_law_207 rfl (lv_at hl 3 rfl) ?_
  refine lv_iload_n hx hb dL_law_208 rfl (lv_at hl 0 rfl) ?_
  refine lv_iconst (v := nI 3) hx hb dL_law_209 (by decide) ?_
  refine lv_iadd hx hb dL_law_210 ?_
  refine va_sld hx hb hX hbl hbA hS (zs_vi (c := 3) (by omega) (by omega)) dL_law_211 ?_
  refine lw_call C0 (n := 3) (N := MX11_drum) (As := [.int (xs (nI i + nI 1).toNatClampNeg), .int (xs (nI i + nI 2).toNatClampNeg), .int (xs (nI i + nI 3).toNatClampNeg)]) (rest := []) (T := TX11) (NN := 18) hZ hT hP hAE hS hl.1 (c_drumW S (xs (nI i + nI 1).toNatClampNeg) (xs (nI i + nI 2).toNatClampNeg) (xs (nI i + nI 3).toNatClampNeg)) dL_law_212 ⟨⟨rfl, rfl, Nat.le_of_ble_eq_true rfl, Nat.le_of_ble_eq_true rfl⟩, cwX11_drum, iwX11_drum, ⟨by decide, by decide⟩, by decide +kernel⟩ lk_13 mwX11_drum ewX11_drum (by decide) rfl rfl rfl rfl (Nat.le_of_ble_eq_true rfl) ?_
  rintro _ S2 H1 locs1 ⟨x1, rfl, hc1⟩ hP hS
  have hJ2 : zs_J S2 := (zs_fPn zs_nPs hc1.1).q.j hI.1
  refine lv_pop hx hb dL_law_215 rfl ?_
  refine lv_aload_n hx hb dL_law_216 rfl (lv_at hl 1 rfl) ?_
  refine lv_aload_n hx hb dL_law_217 rfl (lv_at hl 3 rfl) ?_
  refine lv_iload_n hx hb dL_law_218 rfl (lv_at hl 0 rfl) ?_
  refine lv_iconst (v := nI 1) hx hb dL_law_219 (by decide) ?_
  refine lv_iadd hx hb dL_law_220 ?_
  refine va_sld hx hb hX hbl hbA hS (zs_vi (c := 1) (by omega) (by omega)) dL_law_221 ?_
  refine lv_aload_n hx hb dL_law_222 rfl (lv_at hl 3 rfl) ?_
  refine lv_iload_n hx hb dL_law_223 rfl (lv_at hl 0 rfl) ?_
  refine lv_iconst (v := nI 2) hx hb dL_law_224 (by decide) ?_
  refine lv_iadd hx hb dL_law_225 ?_
  refine va_sld hx hb hX hbl hbA hS (zs_vi (c := 2) (by omega) (by omega)) dL_law_226 ?_
  refine lv_aload_n hx hb dL_law_227 rfl (lv_at hl 3 rfl) ?_
  refine lv_iload_n hx hb dL_law_228 rfl (lv_at hl 0 rfl) ?_
  refine lv_iconst (v := nI 3) hx hb dL_law_229 (by decide) ?_
  refine lv_iadd hx hb dL_law_230 ?_
  refine va_sld hx hb hX hbl hbA hS (zs_vi (c := 3) (by omega) (by omega)) dL_law_231 ?_
  refine lw_call C0 (n := 3) (N := MX12_drum) (As := [.int (xs (nI i + nI 1).toNatClampNeg), .int (xs (nI i + nI 2).toNatClampNeg), .int (xs (nI i + nI 3).toNatClampNeg)]) (rest := []) (T := TX12) (NN := 19) hZ hT hP hAE hS hl.1 (y_drumW (xs (nI i + nI 1).toNatClampNeg) (xs (nI i + nI 2).toNatClampNeg) (xs (nI i + nI 3).toNatClampNeg) S2 hJ2) dL_law_232 ⟨⟨rfl, rfl, Nat.le_of_ble_eq_true rfl, Nat.le_of_ble_eq_true rfl⟩, cwX12_drum, iwX12_drum, ⟨by decide, by decide⟩, by decide +kernel⟩ lk_17 mwX12_drum ewX12_drum (by decide) rfl rfl rfl rfl (Nat.le_of_ble_eq_true rfl) ?_
  rintro _ S3 H2 locs2 ⟨y1, rfl, hc2⟩ hP hS
  have hI3 := hI.drum hc1 hc2
  refine lv_pop hx hb dL_law_235 rfl ?_
  refine lv_goto (tgt := 1157) hx hb dL_law_236 (by decide) ?_
  exact kend _ _ _ hI3.1 hP hS
set_option maxRecDepth 100000 in
theorem lk_18 : Cond.methodLink R_law 18 yX11_lamp ∈ zs_tbl := zs_iq2 102 rfl rfl
set_option maxRecDepth 100000 in
theorem lk_22 : Cond.methodLink R_law 22 yX12_lamp ∈ zs_tbl := zs_iq5 67 rfl rfl
set_option maxRecDepth 100000 in
theorem lcase_1 {p : Program} {e : Env} {s : State} {m : MethodId} {below : List Frame} {meth : Method} {c : Code} {l : Launch} {b L : Nat} {xs : Nat → Int32} (C0 : lw_At p s m meth c b L xs) (hL : L ≤ 2560) {E : zs_E} {H : Heap} {locs : List Loc} {ls : Array Slot} {QQ : State → Prop} (hZ : zs_Z E s) (hT : zs_T E.2.2.2 (fun q : Nat => s.heap.size ≤ q) s s.heap) {S : zs_S} (hI : zs_Iw S) (hP : va_P (zs_D E) vwCl (zs_ws E S) H) (hAE : ∀ x, zs_A E x → s.heap.size ≤ x) (hS : va_S (fun q : Nat => s.heap.size ≤ q) s.heap H locs) {i : Nat} (hi : i + 5 ≤ L) (hl : lv_has ls 4 [(3, .int (nI i)), (2, .ref (E.2.2.2 80)), (1, .ref (E.2.2.2 0)), (0, .ref b)]) (kend : ∀ (S : zs_S) (H : Heap) (locs : List Loc), zs_Iw S → va_P (zs_D E) vwCl (zs_ws E S) H → va_S (fun q : Nat => s.heap.size ≤ q) s.heap H locs → W p l e room_1 s m #[Value.ref b] below meth c H locs 90 4068 QQ (F0 m 1157 ls [])) : W p l e room_1 s m #[Value.ref b] below meth c H locs 90 4068 QQ (F0 m 239 ls []) := by
  obtain ⟨hx, hb, hr, hml, hown, hts0, hX, hbl, hlocks, hgv⟩ := id C0
  have hbA : ¬ (fun q : Nat => s.heap.size ≤ q) b := Nat.not_le.mpr hbl
  refine lv_aload_n hx hb dL_law_239 rfl (lv_at hl 2 rfl) ?_
  refine lv_aload_n hx hb dL_law_240 rfl (lv_at hl 3 rfl) ?_
  refine lv_iload_n hx hb dL_law_241 rfl (lv_at hl 0 rfl) ?_
  refine lv_iconst (v := nI 1) hx hb dL_law_242 (by decide) ?_
  refine lv_iadd hx hb dL_law_243 ?_
  refine va_sld hx hb hX hbl hbA hS (zs_vi (c := 1) (by omega) (by omega)) dL_law_244 ?_
  refine lw_call C0 (n := 1) (N := MX11_lamp) (As := [.int (xs (nI i + nI 1).toNatClampNeg)]) (rest := []) (T := TX11) (NN := 18) hZ hT hP hAE hS hl.1 (c_lampW S (xs (nI i + nI 1).toNatClampNeg)) dL_law_245 ⟨⟨rfl, rfl, Nat.le_of_ble_eq_true rfl, Nat.le_of_ble_eq_true rfl⟩, cwX11_lamp, iwX11_lamp, ⟨by decide, by decide⟩, by decide +kernel⟩ lk_18 mwX11_lamp ewX11_lamp (by decide) rfl rfl rfl rfl (Nat.le_of_ble_eq_true rfl) ?_
  rintro _ S2 H1 locs1 ⟨x1, rfl, hc1⟩ hP hS
  have hJ2 : zs_J S2 := (zs_fPn (zs_nP1 (by omega) (by omega)) hc1.1).q.j hI.1
  refine lv_pop hx hb dL_law_248 rfl ?_
  refine lv_aload_n hx hb dL_law_249 rfl (lv_at hl 1 rfl) ?_
  refine lv_aload_n hx hb dL_law_250 rfl (lv_at hl 3 rfl) ?_
  refine lv_iload_n hx hb dL_law_251 rfl (lv_at hl 0 rfl) ?_
  refine lv_iconst (v := nI 1) hx hb dL_law_252 (by decide) ?_
  refine lv_iadd hx hb dL_law_253 ?_
  refine va_sld hx hb hX hbl hbA hS (zs_vi (c := 1) (by omega) (by omega)) dL_law_254 ?_
  refine lw_call C0 (n := 1) (N := MX12_lamp) (As := [.int (xs (nI i + nI 1).toNatClampNeg)]) (rest := []) (T := TX12) (NN := 19) hZ hT hP hAE hS hl.1 (y_lampW (xs (nI i + nI 1).toNatClampNeg) S2 hJ2) dL_law_255 ⟨⟨rfl, rfl, Nat.le_of_ble_eq_true rfl, Nat.le_of_ble_eq_true rfl⟩, cwX12_lamp, iwX12_lamp, ⟨by decide, by decide⟩, by decide +kernel⟩ lk_22 mwX12_lamp ewX12_lamp (by decide) rfl rfl rfl rfl (Nat.le_of_ble_eq_true rfl) ?_
  rintro _ S3 H2 locs2 ⟨y1, rfl, hc2⟩ hP hS
  have hI3 := hI.lamp hc1 hc2
  refine lv_pop hx hb dL_law_258 rfl ?_
  refine lv_goto (tgt := 1157) hx hb dL_law_259 (by decide) ?_
  exact kend _ _ _ hI3.1 hP hS
set_option maxRecDepth 100000 in
theorem lk_23 : Cond.methodLink R_law 23 yX11_eye ∈ zs_tbl := zs_iq2 107 rfl rfl
set_option maxRecDepth 100000 in
theorem lk_26 : Cond.methodLink R_law 26 yX12_eye ∈ zs_tbl := zs_iq5 71 rfl rfl
set_option maxRecDepth 100000 in
theorem lcase_2 {p : Program} {e : Env} {s : State} {m : MethodId} {below : List Frame} {meth : Method} {c : Code} {l : Launch} {b L : Nat} {xs : Nat → Int32} (C0 : lw_At p s m meth c b L xs) (hL : L ≤ 2560) {E : zs_E} {H : Heap} {locs : List Loc} {ls : Array Slot} {QQ : State → Prop} (hZ : zs_Z E s) (hT : zs_T E.2.2.2 (fun q : Nat => s.heap.size ≤ q) s s.heap) {S : zs_S} (hI : zs_Iw S) (hP : va_P (zs_D E) vwCl (zs_ws E S) H) (hAE : ∀ x, zs_A E x → s.heap.size ≤ x) (hS : va_S (fun q : Nat => s.heap.size ≤ q) s.heap H locs) {i : Nat} (hi : i + 5 ≤ L) (hl : lv_has ls 4 [(3, .int (nI i)), (2, .ref (E.2.2.2 80)), (1, .ref (E.2.2.2 0)), (0, .ref b)]) (kend : ∀ (S : zs_S) (H : Heap) (locs : List Loc), zs_Iw S → va_P (zs_D E) vwCl (zs_ws E S) H → va_S (fun q : Nat => s.heap.size ≤ q) s.heap H locs → W p l e room_1 s m #[Value.ref b] below meth c H locs 90 4068 QQ (F0 m 1157 ls [])) : W p l e room_1 s m #[Value.ref b] below meth c H locs 90 4068 QQ (F0 m 262 ls []) := by
  obtain ⟨hx, hb, hr, hml, hown, hts0, hX, hbl, hlocks, hgv⟩ := id C0
  have hbA : ¬ (fun q : Nat => s.heap.size ≤ q) b := Nat.not_le.mpr hbl
  refine lv_aload_n hx hb dL_law_262 rfl (lv_at hl 2 rfl) ?_
  refine lv_aload_n hx hb dL_law_263 rfl (lv_at hl 3 rfl) ?_
  refine lv_iload_n hx hb dL_law_264 rfl (lv_at hl 0 rfl) ?_
  refine lv_iconst (v := nI 1) hx hb dL_law_265 (by decide) ?_
  refine lv_iadd hx hb dL_law_266 ?_
  refine va_sld hx hb hX hbl hbA hS (zs_vi (c := 1) (by omega) (by omega)) dL_law_267 ?_
  obtain ⟨mm, -, h9m, hmm⟩ := hI.1.1.1 82 2 0 5 rfl
  refine lw_call C0 (n := 1) (N := MX11_eye) (As := [.int (xs (nI i + nI 1).toNatClampNeg)]) (rest := []) (T := TX11) (NN := 18) hZ hT hP hAE hS hl.1 (c_eyeW S (xs (nI i + nI 1).toNatClampNeg) mm (hI.2.1.1.2.2.trans hmm) h9m) dL_law_268 ⟨⟨rfl, rfl, Nat.le_of_ble_eq_true rfl, Nat.le_of_ble_eq_true rfl⟩, cwX11_eye, iwX11_eye, ⟨by decide, by decide⟩, by decide +kernel⟩ lk_23 mwX11_eye ewX11_eye (by decide) rfl rfl rfl rfl (Nat.le_of_ble_eq_true rfl) ?_
  rintro _ S2 H1 locs1 ⟨x1, rfl, hc1⟩ hP hS
  have hJ2 : zs_J S2 := (zs_fPn (zs_nP1 (by omega) (by omega)) hc1.1).q.j hI.1
  refine lv_pop hx hb dL_law_271 rfl ?_
  refine lv_aload_n hx hb dL_law_272 rfl (lv_at hl 1 rfl) ?_
  refine lv_aload_n hx hb dL_law_273 rfl (lv_at hl 3 rfl) ?_
  refine lv_iload_n hx hb dL_law_274 rfl (lv_at hl 0 rfl) ?_
  refine lv_iconst (v := nI 1) hx hb dL_law_275 (by decide) ?_
  refine lv_iadd hx hb dL_law_276 ?_
  refine va_sld hx hb hX hbl hbA hS (zs_vi (c := 1) (by omega) (by omega)) dL_law_277 ?_
  refine lw_call C0 (n := 1) (N := MX12_eye) (As := [.int (xs (nI i + nI 1).toNatClampNeg)]) (rest := []) (T := TX12) (NN := 19) hZ hT hP hAE hS hl.1 (y_eyeW (xs (nI i + nI 1).toNatClampNeg) S2 hJ2 mm (((zs_fPn (zs_nP1 (by omega) (by omega)) hc1.1).q 82 2 (by decide)).1.trans hmm) h9m) dL_law_278 ⟨⟨rfl, rfl, Nat.le_of_ble_eq_true rfl, Nat.le_of_ble_eq_true rfl⟩, cwX12_eye, iwX12_eye, ⟨by decide, by decide⟩, by decide +kernel⟩ lk_26 mwX12_eye ewX12_eye (by decide) rfl rfl rfl rfl (Nat.le_of_ble_eq_true rfl) ?_
  rintro _ S3 H2 locs2 ⟨y1, rfl, hc2⟩ hP hS
  have hI3 := hI.eye hc1 hc2
  refine lv_pop hx hb dL_law_281 rfl ?_
  refine lv_goto (tgt := 1157) hx hb dL_law_282 (by decide) ?_
  exact kend _ _ _ hI3.1 hP hS
set_option maxRecDepth 100000 in
theorem lk_27 : Cond.methodLink R_law 27 yX11_type ∈ zs_tbl := zs_iq2 122 rfl rfl
set_option maxRecDepth 100000 in
theorem lk_30 : Cond.methodLink R_law 30 yX12_type ∈ zs_tbl := zs_iq5 83 rfl rfl
set_option maxRecDepth 100000 in
theorem lcase_3 {p : Program} {e : Env} {s : State} {m : MethodId} {below : List Frame} {meth : Method} {c : Code} {l : Launch} {b L : Nat} {xs : Nat → Int32} (C0 : lw_At p s m meth c b L xs) (hL : L ≤ 2560) {E : zs_E} {H : Heap} {locs : List Loc} {ls : Array Slot} {QQ : State → Prop} (hZ : zs_Z E s) (hT : zs_T E.2.2.2 (fun q : Nat => s.heap.size ≤ q) s s.heap) {S : zs_S} (hI : zs_Iw S) (hP : va_P (zs_D E) vwCl (zs_ws E S) H) (hAE : ∀ x, zs_A E x → s.heap.size ≤ x) (hS : va_S (fun q : Nat => s.heap.size ≤ q) s.heap H locs) {i : Nat} (hi : i + 5 ≤ L) (hl : lv_has ls 4 [(3, .int (nI i)), (2, .ref (E.2.2.2 80)), (1, .ref (E.2.2.2 0)), (0, .ref b)]) (kend : ∀ (S : zs_S) (H : Heap) (locs : List Loc), zs_Iw S → va_P (zs_D E) vwCl (zs_ws E S) H → va_S (fun q : Nat => s.heap.size ≤ q) s.heap H locs → W p l e room_1 s m #[Value.ref b] below meth c H locs 90 4068 QQ (F0 m 1157 ls [])) : W p l e room_1 s m #[Value.ref b] below meth c H locs 90 4068 QQ (F0 m 285 ls []) := by
  obtain ⟨hx, hb, hr, hml, hown, hts0, hX, hbl, hlocks, hgv⟩ := id C0
  have hbA : ¬ (fun q : Nat => s.heap.size ≤ q) b := Nat.not_le.mpr hbl
  refine lv_aload_n hx hb dL_law_285 rfl (lv_at hl 2 rfl) ?_
  refine lv_aload_n hx hb dL_law_286 rfl (lv_at hl 3 rfl) ?_
  refine lv_iload_n hx hb dL_law_287 rfl (lv_at hl 0 rfl) ?_
  refine lv_iconst (v := nI 1) hx hb dL_law_288 (by decide) ?_
  refine lv_iadd hx hb dL_law_289 ?_
  refine va_sld hx hb hX hbl hbA hS (zs_vi (c := 1) (by omega) (by omega)) dL_law_290 ?_
  obtain ⟨mm, Bb, ht, hu⟩ := hI.1.2.2
  refine lw_call C0 (n := 1) (N := MX11_type) (As := [.int (xs (nI i + nI 1).toNatClampNeg)]) (rest := []) (T := TX11) (NN := 18) hZ hT hP hAE hS hl.1 (c_typeW S mm (xs (nI i + nI 1).toNatClampNeg) ht.2.1 ht.1) dL_law_291 ⟨⟨rfl, rfl, Nat.le_of_ble_eq_true rfl, Nat.le_of_ble_eq_true rfl⟩, cwX11_type, iwX11_type, ⟨by decide, by decide⟩, by decide +kernel⟩ lk_27 mwX11_type ewX11_type (by decide) rfl rfl rfl rfl (Nat.le_of_ble_eq_true rfl) ?_
  rintro _ S2 H1 locs1 ⟨x1, rfl, hc1⟩ hP hS
  have hJ2 : zs_J S2 := hc1.2.1.j hI.1
  have hm4 : S2.1 80 3 = nI mm := (hc1.2.1 80 3 (by decide)).1.trans hu.2.1
  refine lv_pop hx hb dL_law_294 rfl ?_
  refine lv_aload_n hx hb dL_law_295 rfl (lv_at hl 1 rfl) ?_
  refine lv_aload_n hx hb dL_law_296 rfl (lv_at hl 3 rfl) ?_
  refine lv_iload_n hx hb dL_law_297 rfl (lv_at hl 0 rfl) ?_
  refine lv_iconst (v := nI 1) hx hb dL_law_298 (by decide) ?_
  refine lv_iadd hx hb dL_law_299 ?_
  refine va_sld hx hb hX hbl hbA hS (zs_vi (c := 1) (by omega) (by omega)) dL_law_300 ?_
  refine lw_call C0 (n := 1) (N := MX12_type) (As := [.int (xs (nI i + nI 1).toNatClampNeg)]) (rest := []) (T := TX12) (NN := 19) hZ hT hP hAE hS hl.1 (y_typeW (xs (nI i + nI 1).toNatClampNeg) mm S2 hJ2 hm4 ht.1) dL_law_301 ⟨⟨rfl, rfl, Nat.le_of_ble_eq_true rfl, Nat.le_of_ble_eq_true rfl⟩, cwX12_type, iwX12_type, ⟨by decide, by decide⟩, by decide +kernel⟩ lk_30 mwX12_type ewX12_type (by decide) rfl rfl rfl rfl (Nat.le_of_ble_eq_true rfl) ?_
  rintro _ S3 H2 locs2 ⟨y1, rfl, hc2⟩ hP hS
  have hI3 := hI.type ht hu hc1 hc2
  refine lv_pop hx hb dL_law_304 rfl ?_
  refine lv_goto (tgt := 1157) hx hb dL_law_305 (by decide) ?_
  exact kend _ _ _ hI3.1 hP hS
set_option maxRecDepth 100000 in
theorem lk_31 : Cond.methodLink R_law 31 yX11_clear ∈ zs_tbl := zs_iq2 135 rfl rfl
set_option maxRecDepth 100000 in
theorem lk_35 : Cond.methodLink R_law 35 yX12_clear ∈ zs_tbl := zs_iq5 88 rfl rfl
set_option maxRecDepth 100000 in
theorem lcase_4 {p : Program} {e : Env} {s : State} {m : MethodId} {below : List Frame} {meth : Method} {c : Code} {l : Launch} {b L : Nat} {xs : Nat → Int32} (C0 : lw_At p s m meth c b L xs) (hL : L ≤ 2560) {E : zs_E} {H : Heap} {locs : List Loc} {ls : Array Slot} {QQ : State → Prop} (hZ : zs_Z E s) (hT : zs_T E.2.2.2 (fun q : Nat => s.heap.size ≤ q) s s.heap) {S : zs_S} (hI : zs_Iw S) (hP : va_P (zs_D E) vwCl (zs_ws E S) H) (hAE : ∀ x, zs_A E x → s.heap.size ≤ x) (hS : va_S (fun q : Nat => s.heap.size ≤ q) s.heap H locs) {i : Nat} (hi : i + 5 ≤ L) (hl : lv_has ls 4 [(3, .int (nI i)), (2, .ref (E.2.2.2 80)), (1, .ref (E.2.2.2 0)), (0, .ref b)]) (kend : ∀ (S : zs_S) (H : Heap) (locs : List Loc), zs_Iw S → va_P (zs_D E) vwCl (zs_ws E S) H → va_S (fun q : Nat => s.heap.size ≤ q) s.heap H locs → W p l e room_1 s m #[Value.ref b] below meth c H locs 90 4068 QQ (F0 m 1157 ls [])) : W p l e room_1 s m #[Value.ref b] below meth c H locs 90 4068 QQ (F0 m 308 ls []) := by
  obtain ⟨hx, hb, hr, hml, hown, hts0, hX, hbl, hlocks, hgv⟩ := id C0
  have hbA : ¬ (fun q : Nat => s.heap.size ≤ q) b := Nat.not_le.mpr hbl
  refine lv_aload_n hx hb dL_law_308 rfl (lv_at hl 2 rfl) ?_
  refine lw_call C0 (n := 0) (N := MX11_clear) (As := []) (rest := []) (T := TX11) (NN := 18) hZ hT hP hAE hS hl.1 (c_clearW S) dL_law_309 ⟨⟨rfl, rfl, Nat.le_of_ble_eq_true rfl, Nat.le_of_ble_eq_true rfl⟩, cwX11_clear, iwX11_clear, ⟨by decide, by decide⟩, by decide +kernel⟩ lk_31 mwX11_clear ewX11_clear (by decide) rfl rfl rfl rfl (Nat.le_of_ble_eq_true rfl) ?_
  rintro _ S2 H1 locs1 ⟨x1, rfl, hc1⟩ hP hS
  have hJ2 : zs_J S2 := hc1.2.1.j hI.1
  refine lv_pop hx hb dL_law_312 rfl ?_
  refine lv_aload_n hx hb dL_law_313 rfl (lv_at hl 1 rfl) ?_
  refine lw_call C0 (n := 0) (N := MX12_clear) (As := []) (rest := []) (T := TX12) (NN := 19) hZ hT hP hAE hS hl.1 (y_clearW S2 hJ2) dL_law_314 ⟨⟨rfl, rfl, Nat.le_of_ble_eq_true rfl, Nat.le_of_ble_eq_true rfl⟩, cwX12_clear, iwX12_clear, ⟨by decide, by decide⟩, by decide +kernel⟩ lk_35 mwX12_clear ewX12_clear (by decide) rfl rfl rfl rfl (Nat.le_of_ble_eq_true rfl) ?_
  rintro _ S3 H2 locs2 ⟨y1, rfl, hc2⟩ hP hS
  have hI3 := hI.clear hc1 hc2
  refine lv_pop hx hb dL_law_317 rfl ?_
  refine lv_goto (tgt := 1157) hx hb dL_law_318 (by decide) ?_
  exact kend _ _ _ hI3.1 hP hS
set_option maxRecDepth 100000 in
theorem lk_36 : Cond.methodLink R_law 36 yX11_read ∈ zs_tbl := zs_iq2 143 rfl rfl
set_option maxRecDepth 100000 in
theorem lk_39 : Cond.methodLink R_law 39 yX12_read ∈ zs_tbl := zs_iq5 92 rfl rfl
set_option maxRecDepth 100000 in
theorem lcase_5 {p : Program} {e : Env} {s : State} {m : MethodId} {below : List Frame} {meth : Method} {c : Code} {l : Launch} {b L : Nat} {xs : Nat → Int32} (C0 : lw_At p s m meth c b L xs) (hL : L ≤ 2560) {E : zs_E} {H : Heap} {locs : List Loc} {ls : Array Slot} {QQ : State → Prop} (hZ : zs_Z E s) (hT : zs_T E.2.2.2 (fun q : Nat => s.heap.size ≤ q) s s.heap) {S : zs_S} (hI : zs_Iw S) (hP : va_P (zs_D E) vwCl (zs_ws E S) H) (hAE : ∀ x, zs_A E x → s.heap.size ≤ x) (hS : va_S (fun q : Nat => s.heap.size ≤ q) s.heap H locs) {i : Nat} (hi : i + 5 ≤ L) (hl : lv_has ls 4 [(3, .int (nI i)), (2, .ref (E.2.2.2 80)), (1, .ref (E.2.2.2 0)), (0, .ref b)]) (kend : ∀ (S : zs_S) (H : Heap) (locs : List Loc), zs_Iw S → va_P (zs_D E) vwCl (zs_ws E S) H → va_S (fun q : Nat => s.heap.size ≤ q) s.heap H locs → W p l e room_1 s m #[Value.ref b] below meth c H locs 90 4068 QQ (F0 m 1157 ls [])) : W p l e room_1 s m #[Value.ref b] below meth c H locs 90 4068 QQ (F0 m 321 ls []) := by
  obtain ⟨hx, hb, hr, hml, hown, hts0, hX, hbl, hlocks, hgv⟩ := id C0
  have hbA : ¬ (fun q : Nat => s.heap.size ≤ q) b := Nat.not_le.mpr hbl
  refine lv_aload_n hx hb dL_law_321 rfl (lv_at hl 2 rfl) ?_
  obtain ⟨mm, Bb, ht, hu⟩ := hI.1.2.2
  refine lw_call C0 (n := 0) (N := MX11_read) (As := []) (rest := []) (T := TX11) (NN := 18) hZ hT hP hAE hS hl.1 (c_readW Bb mm S ht) dL_law_322 ⟨⟨rfl, rfl, Nat.le_of_ble_eq_true rfl, Nat.le_of_ble_eq_true rfl⟩, cwX11_read, iwX11_read, ⟨by decide, by decide⟩, by decide +kernel⟩ lk_36 mwX11_read ewX11_read (by decide) rfl rfl rfl rfl (Nat.le_of_ble_eq_true rfl) ?_
  rintro _ S2 H1 locs1 ⟨x1, rfl, hc1⟩ hP hS
  have hJ2 : zs_J S2 := hc1.1.q.j hI.1
  have hu2 : zs_tm S2 Bb mm := ⟨hu.1, (hc1.1.q 80 3 (by decide)).1.trans hu.2.1, fun i hi => ⟨(hu.2.2 i hi).1, (hc1.1.q 84 i (by decide)).1.trans (hu.2.2 i hi).2⟩⟩
  refine lv_pop hx hb dL_law_325 rfl ?_
  refine lv_aload_n hx hb dL_law_326 rfl (lv_at hl 1 rfl) ?_
  refine lw_call C0 (n := 0) (N := MX12_read) (As := []) (rest := []) (T := TX12) (NN := 19) hZ hT hP hAE hS hl.1 (y_readE Bb mm S2 hu2 hJ2) dL_law_327 ⟨⟨rfl, rfl, Nat.le_of_ble_eq_true rfl, Nat.le_of_ble_eq_true rfl⟩, cwX12_read, iwX12_read, ⟨by decide, by decide⟩, by decide +kernel⟩ lk_39 mwX12_read ewX12_read (by decide) rfl rfl rfl rfl (Nat.le_of_ble_eq_true rfl) ?_
  rintro _ S3 H2 locs2 ⟨y1, rfl, hc2⟩ hP hS
  have hI3 := hI.read hc1 hc2
  refine lv_pop hx hb dL_law_330 rfl ?_
  refine lv_goto (tgt := 1157) hx hb dL_law_331 (by decide) ?_
  exact kend _ _ _ hI3.1 hP hS
set_option maxRecDepth 100000 in
theorem lk_40 : Cond.methodLink R_law 40 yX11_spins ∈ zs_tbl := zs_iq3 102 rfl rfl
set_option maxRecDepth 100000 in
theorem lk_43 : Cond.methodLink R_law 43 yX12_spins ∈ zs_tbl := zs_iq5 158 rfl rfl
set_option maxRecDepth 100000 in
theorem lcase_6 {p : Program} {e : Env} {s : State} {m : MethodId} {below : List Frame} {meth : Method} {c : Code} {l : Launch} {b L : Nat} {xs : Nat → Int32} (C0 : lw_At p s m meth c b L xs) (hL : L ≤ 2560) {E : zs_E} {H : Heap} {locs : List Loc} {ls : Array Slot} {QQ : State → Prop} (hZ : zs_Z E s) (hT : zs_T E.2.2.2 (fun q : Nat => s.heap.size ≤ q) s s.heap) {S : zs_S} (hI : zs_Iw S) (hP : va_P (zs_D E) vwCl (zs_ws E S) H) (hAE : ∀ x, zs_A E x → s.heap.size ≤ x) (hS : va_S (fun q : Nat => s.heap.size ≤ q) s.heap H locs) {i : Nat} (hi : i + 5 ≤ L) (hl : lv_has ls 4 [(3, .int (nI i)), (2, .ref (E.2.2.2 80)), (1, .ref (E.2.2.2 0)), (0, .ref b)]) (kend : ∀ (S : zs_S) (H : Heap) (locs : List Loc), zs_Iw S → va_P (zs_D E) vwCl (zs_ws E S) H → va_S (fun q : Nat => s.heap.size ≤ q) s.heap H locs → W p l e room_1 s m #[Value.ref b] below meth c H locs 90 4068 QQ (F0 m 1157 ls [])) : W p l e room_1 s m #[Value.ref b] below meth c H locs 90 4068 QQ (F0 m 334 ls []) := by
  obtain ⟨hx, hb, hr, hml, hown, hts0, hX, hbl, hlocks, hgv⟩ := id C0
  have hbA : ¬ (fun q : Nat => s.heap.size ≤ q) b := Nat.not_le.mpr hbl
  refine lv_aload_n hx hb dL_law_334 rfl (lv_at hl 2 rfl) ?_
  refine lv_aload_n hx hb dL_law_335 rfl (lv_at hl 3 rfl) ?_
  refine lv_iload_n hx hb dL_law_336 rfl (lv_at hl 0 rfl) ?_
  refine lv_iconst (v := nI 1) hx hb dL_law_337 (by decide) ?_
  refine lv_iadd hx hb dL_law_338 ?_
  refine va_sld hx hb hX hbl hbA hS (zs_vi (c := 1) (by omega) (by omega)) dL_law_339 ?_
  refine lw_call C0 (n := 1) (N := MX11_spins) (As := [.int (xs (nI i + nI 1).toNatClampNeg)]) (rest := []) (T := TX11) (NN := 18) hZ hT hP hAE hS hl.1 (v_X11_spins_0_W (xs (nI i + nI 1).toNatClampNeg) S) dL_law_340 ⟨⟨rfl, rfl, Nat.le_of_ble_eq_true rfl, Nat.le_of_ble_eq_true rfl⟩, cwX11_spins, iwX11_spins, ⟨by decide, by decide⟩, by decide +kernel⟩ lk_40 mwX11_spins ewX11_spins (by decide) rfl rfl rfl rfl (Nat.le_of_ble_eq_true rfl) ?_
  rintro _ S2 H1 locs1 ⟨⟨x1, rfl⟩, hf1⟩ hP hS
  have hJ2 : zs_J S2 := hf1.n.q.j hI.1
  refine lv_pop hx hb dL_law_343 rfl ?_
  refine lv_aload_n hx hb dL_law_344 rfl (lv_at hl 1 rfl) ?_
  refine lv_aload_n hx hb dL_law_345 rfl (lv_at hl 3 rfl) ?_
  refine lv_iload_n hx hb dL_law_346 rfl (lv_at hl 0 rfl) ?_
  refine lv_iconst (v := nI 1) hx hb dL_law_347 (by decide) ?_
  refine lv_iadd hx hb dL_law_348 ?_
  refine va_sld hx hb hX hbl hbA hS (zs_vi (c := 1) (by omega) (by omega)) dL_law_349 ?_
  refine lw_call C0 (n := 1) (N := MX12_spins) (As := [.int (xs (nI i + nI 1).toNatClampNeg)]) (rest := []) (T := TX12) (NN := 19) hZ hT hP hAE hS hl.1 (y_X12_spins_W (xs (nI i + nI 1).toNatClampNeg) S2 hJ2) dL_law_350 ⟨⟨rfl, rfl, Nat.le_of_ble_eq_true rfl, Nat.le_of_ble_eq_true rfl⟩, cwX12_spins, iwX12_spins, ⟨by decide, by decide⟩, by decide +kernel⟩ lk_43 mwX12_spins ewX12_spins (by decide) rfl rfl rfl rfl (Nat.le_of_ble_eq_true rfl) ?_
  rintro _ S3 H2 locs2 ⟨⟨y1, rfl⟩, hJ3, hm3⟩ hP hS
  have hI3 : zs_Iw S3 := hI.st hf1 hJ3 hm3
  refine lv_pop hx hb dL_law_353 rfl ?_
  refine lv_goto (tgt := 1157) hx hb dL_law_354 (by decide) ?_
  exact kend _ _ _ hI3 hP hS
set_option maxRecDepth 100000 in
theorem lk_44 : Cond.methodLink R_law 44 yX11_steps ∈ zs_tbl := zs_iq3 123 rfl rfl
set_option maxRecDepth 100000 in
theorem lk_47 : Cond.methodLink R_law 47 yX12_steps ∈ zs_tbl := zs_iq5 171 rfl rfl
set_option maxRecDepth 100000 in
theorem lcase_7 {p : Program} {e : Env} {s : State} {m : MethodId} {below : List Frame} {meth : Method} {c : Code} {l : Launch} {b L : Nat} {xs : Nat → Int32} (C0 : lw_At p s m meth c b L xs) (hL : L ≤ 2560) {E : zs_E} {H : Heap} {locs : List Loc} {ls : Array Slot} {QQ : State → Prop} (hZ : zs_Z E s) (hT : zs_T E.2.2.2 (fun q : Nat => s.heap.size ≤ q) s s.heap) {S : zs_S} (hI : zs_Iw S) (hP : va_P (zs_D E) vwCl (zs_ws E S) H) (hAE : ∀ x, zs_A E x → s.heap.size ≤ x) (hS : va_S (fun q : Nat => s.heap.size ≤ q) s.heap H locs) {i : Nat} (hi : i + 5 ≤ L) (hl : lv_has ls 4 [(3, .int (nI i)), (2, .ref (E.2.2.2 80)), (1, .ref (E.2.2.2 0)), (0, .ref b)]) (kend : ∀ (S : zs_S) (H : Heap) (locs : List Loc), zs_Iw S → va_P (zs_D E) vwCl (zs_ws E S) H → va_S (fun q : Nat => s.heap.size ≤ q) s.heap H locs → W p l e room_1 s m #[Value.ref b] below meth c H locs 90 4068 QQ (F0 m 1157 ls [])) : W p l e room_1 s m #[Value.ref b] below meth c H locs 90 4068 QQ (F0 m 357 ls []) := by
  obtain ⟨hx, hb, hr, hml, hown, hts0, hX, hbl, hlocks, hgv⟩ := id C0
  have hbA : ¬ (fun q : Nat => s.heap.size ≤ q) b := Nat.not_le.mpr hbl
  refine lv_aload_n hx hb dL_law_357 rfl (lv_at hl 2 rfl) ?_
  refine lv_aload_n hx hb dL_law_358 rfl (lv_at hl 3 rfl) ?_
  refine lv_iload_n hx hb dL_law_359 rfl (lv_at hl 0 rfl) ?_
  refine lv_iconst (v := nI 1) hx hb dL_law_360 (by decide) ?_
  refine lv_iadd hx hb dL_law_361 ?_
  refine va_sld hx hb hX hbl hbA hS (zs_vi (c := 1) (by omega) (by omega)) dL_law_362 ?_
  refine lw_call C0 (n := 1) (N := MX11_steps) (As := [.int (xs (nI i + nI 1).toNatClampNeg)]) (rest := []) (T := TX11) (NN := 18) hZ hT hP hAE hS hl.1 (v_X11_steps_0_W (xs (nI i + nI 1).toNatClampNeg) S) dL_law_363 ⟨⟨rfl, rfl, Nat.le_of_ble_eq_true rfl, Nat.le_of_ble_eq_true rfl⟩, cwX11_steps, iwX11_steps, ⟨by decide, by decide⟩, by decide +kernel⟩ lk_44 mwX11_steps ewX11_steps (by decide) rfl rfl rfl rfl (Nat.le_of_ble_eq_true rfl) ?_
  rintro _ S2 H1 locs1 ⟨⟨x1, rfl⟩, hf1⟩ hP hS
  have hJ2 : zs_J S2 := hf1.n.q.j hI.1
  refine lv_pop hx hb dL_law_366 rfl ?_
  refine lv_aload_n hx hb dL_law_367 rfl (lv_at hl 1 rfl) ?_
  refine lv_aload_n hx hb dL_law_368 rfl (lv_at hl 3 rfl) ?_
  refine lv_iload_n hx hb dL_law_369 rfl (lv_at hl 0 rfl) ?_
  refine lv_iconst (v := nI 1) hx hb dL_law_370 (by decide) ?_
  refine lv_iadd hx hb dL_law_371 ?_
  refine va_sld hx hb hX hbl hbA hS (zs_vi (c := 1) (by omega) (by omega)) dL_law_372 ?_
  refine lw_call C0 (n := 1) (N := MX12_steps) (As := [.int (xs (nI i + nI 1).toNatClampNeg)]) (rest := []) (T := TX12) (NN := 19) hZ hT hP hAE hS hl.1 (y_X12_steps_W (xs (nI i + nI 1).toNatClampNeg) S2 hJ2) dL_law_373 ⟨⟨rfl, rfl, Nat.le_of_ble_eq_true rfl, Nat.le_of_ble_eq_true rfl⟩, cwX12_steps, iwX12_steps, ⟨by decide, by decide⟩, by decide +kernel⟩ lk_47 mwX12_steps ewX12_steps (by decide) rfl rfl rfl rfl (Nat.le_of_ble_eq_true rfl) ?_
  rintro _ S3 H2 locs2 ⟨⟨y1, rfl⟩, hJ3, hm3⟩ hP hS
  have hI3 : zs_Iw S3 := hI.st hf1 hJ3 hm3
  refine lv_pop hx hb dL_law_376 rfl ?_
  refine lv_goto (tgt := 1157) hx hb dL_law_377 (by decide) ?_
  exact kend _ _ _ hI3 hP hS
set_option maxRecDepth 100000 in
theorem lk_48 : Cond.methodLink R_law 48 yX11_draws ∈ zs_tbl := zs_iq3 131 rfl rfl
set_option maxRecDepth 100000 in
theorem lk_52 : Cond.methodLink R_law 52 yX12_draws ∈ zs_tbl := zs_iq5 179 rfl rfl
set_option maxRecDepth 100000 in
theorem lcase_8 {p : Program} {e : Env} {s : State} {m : MethodId} {below : List Frame} {meth : Method} {c : Code} {l : Launch} {b L : Nat} {xs : Nat → Int32} (C0 : lw_At p s m meth c b L xs) (hL : L ≤ 2560) {E : zs_E} {H : Heap} {locs : List Loc} {ls : Array Slot} {QQ : State → Prop} (hZ : zs_Z E s) (hT : zs_T E.2.2.2 (fun q : Nat => s.heap.size ≤ q) s s.heap) {S : zs_S} (hI : zs_Iw S) (hP : va_P (zs_D E) vwCl (zs_ws E S) H) (hAE : ∀ x, zs_A E x → s.heap.size ≤ x) (hS : va_S (fun q : Nat => s.heap.size ≤ q) s.heap H locs) {i : Nat} (hi : i + 5 ≤ L) (hl : lv_has ls 4 [(3, .int (nI i)), (2, .ref (E.2.2.2 80)), (1, .ref (E.2.2.2 0)), (0, .ref b)]) (kend : ∀ (S : zs_S) (H : Heap) (locs : List Loc), zs_Iw S → va_P (zs_D E) vwCl (zs_ws E S) H → va_S (fun q : Nat => s.heap.size ≤ q) s.heap H locs → W p l e room_1 s m #[Value.ref b] below meth c H locs 90 4068 QQ (F0 m 1157 ls [])) : W p l e room_1 s m #[Value.ref b] below meth c H locs 90 4068 QQ (F0 m 380 ls []) := by
  obtain ⟨hx, hb, hr, hml, hown, hts0, hX, hbl, hlocks, hgv⟩ := id C0
  have hbA : ¬ (fun q : Nat => s.heap.size ≤ q) b := Nat.not_le.mpr hbl
  refine lv_aload_n hx hb dL_law_380 rfl (lv_at hl 2 rfl) ?_
  refine lv_aload_n hx hb dL_law_381 rfl (lv_at hl 3 rfl) ?_
  refine lv_iload_n hx hb dL_law_382 rfl (lv_at hl 0 rfl) ?_
  refine lv_iconst (v := nI 1) hx hb dL_law_383 (by decide) ?_
  refine lv_iadd hx hb dL_law_384 ?_
  refine va_sld hx hb hX hbl hbA hS (zs_vi (c := 1) (by omega) (by omega)) dL_law_385 ?_
  refine lv_aload_n hx hb dL_law_386 rfl (lv_at hl 3 rfl) ?_
  refine lv_iload_n hx hb dL_law_387 rfl (lv_at hl 0 rfl) ?_
  refine lv_iconst (v := nI 2) hx hb dL_law_388 (by decide) ?_
  refine lv_iadd hx hb dL_law_389 ?_
  refine va_sld hx hb hX hbl hbA hS (zs_vi (c := 2) (by omega) (by omega)) dL_law_390 ?_
  refine lw_call C0 (n := 2) (N := MX11_draws) (As := [.int (xs (nI i + nI 1).toNatClampNeg), .int (xs (nI i + nI 2).toNatClampNeg)]) (rest := []) (T := TX11) (NN := 18) hZ hT hP hAE hS hl.1 (v_X11_draws_0_W (xs (nI i + nI 1).toNatClampNeg) (xs (nI i + nI 2).toNatClampNeg) S) dL_law_391 ⟨⟨rfl, rfl, Nat.le_of_ble_eq_true rfl, Nat.le_of_ble_eq_true rfl⟩, cwX11_draws, iwX11_draws, ⟨by decide, by decide⟩, by decide +kernel⟩ lk_48 mwX11_draws ewX11_draws (by decide) rfl rfl rfl rfl (Nat.le_of_ble_eq_true rfl) ?_
  rintro _ S2 H1 locs1 ⟨⟨x1, rfl⟩, hf1⟩ hP hS
  have hJ2 : zs_J S2 := hf1.n.q.j hI.1
  refine lv_pop hx hb dL_law_394 rfl ?_
  refine lv_aload_n hx hb dL_law_395 rfl (lv_at hl 1 rfl) ?_
  refine lv_aload_n hx hb dL_law_396 rfl (lv_at hl 3 rfl) ?_
  refine lv_iload_n hx hb dL_law_397 rfl (lv_at hl 0 rfl) ?_
  refine lv_iconst (v := nI 1) hx hb dL_law_398 (by decide) ?_
  refine lv_iadd hx hb dL_law_399 ?_
  refine va_sld hx hb hX hbl hbA hS (zs_vi (c := 1) (by omega) (by omega)) dL_law_400 ?_
  refine lv_aload_n hx hb dL_law_401 rfl (lv_at hl 3 rfl) ?_
  refine lv_iload_n hx hb dL_law_402 rfl (lv_at hl 0 rfl) ?_
  refine lv_iconst (v := nI 2) hx hb dL_law_403 (by decide) ?_
  refine lv_iadd hx hb dL_law_404 ?_
  refine va_sld hx hb hX hbl hbA hS (zs_vi (c := 2) (by omega) (by omega)) dL_law_405 ?_
  refine lw_call C0 (n := 2) (N := MX12_draws) (As := [.int (xs (nI i + nI 1).toNatClampNeg), .int (xs (nI i + nI 2).toNatClampNeg)]) (rest := []) (T := TX12) (NN := 19) hZ hT hP hAE hS hl.1 (y_X12_draws_W (xs (nI i + nI 1).toNatClampNeg) (xs (nI i + nI 2).toNatClampNeg) S2 hJ2) dL_law_406 ⟨⟨rfl, rfl, Nat.le_of_ble_eq_true rfl, Nat.le_of_ble_eq_true rfl⟩, cwX12_draws, iwX12_draws, ⟨by decide, by decide⟩, by decide +kernel⟩ lk_52 mwX12_draws ewX12_draws (by decide) rfl rfl rfl rfl (Nat.le_of_ble_eq_true rfl) ?_
  rintro _ S3 H2 locs2 ⟨⟨y1, rfl⟩, hJ3, hm3⟩ hP hS
  have hI3 : zs_Iw S3 := hI.st hf1 hJ3 hm3
  refine lv_pop hx hb dL_law_409 rfl ?_
  refine lv_goto (tgt := 1157) hx hb dL_law_410 (by decide) ?_
  exact kend _ _ _ hI3 hP hS
set_option maxRecDepth 100000 in
theorem lk_53 : Cond.methodLink R_law 53 yX11_undo ∈ zs_tbl := zs_iq3 144 rfl rfl
set_option maxRecDepth 100000 in
theorem lk_56 : Cond.methodLink R_law 56 yX12_undo ∈ zs_tbl := zs_iq5 187 rfl rfl
set_option maxRecDepth 100000 in
theorem lcase_9 {p : Program} {e : Env} {s : State} {m : MethodId} {below : List Frame} {meth : Method} {c : Code} {l : Launch} {b L : Nat} {xs : Nat → Int32} (C0 : lw_At p s m meth c b L xs) (hL : L ≤ 2560) {E : zs_E} {H : Heap} {locs : List Loc} {ls : Array Slot} {QQ : State → Prop} (hZ : zs_Z E s) (hT : zs_T E.2.2.2 (fun q : Nat => s.heap.size ≤ q) s s.heap) {S : zs_S} (hI : zs_Iw S) (hP : va_P (zs_D E) vwCl (zs_ws E S) H) (hAE : ∀ x, zs_A E x → s.heap.size ≤ x) (hS : va_S (fun q : Nat => s.heap.size ≤ q) s.heap H locs) {i : Nat} (hi : i + 5 ≤ L) (hl : lv_has ls 4 [(3, .int (nI i)), (2, .ref (E.2.2.2 80)), (1, .ref (E.2.2.2 0)), (0, .ref b)]) (kend : ∀ (S : zs_S) (H : Heap) (locs : List Loc), zs_Iw S → va_P (zs_D E) vwCl (zs_ws E S) H → va_S (fun q : Nat => s.heap.size ≤ q) s.heap H locs → W p l e room_1 s m #[Value.ref b] below meth c H locs 90 4068 QQ (F0 m 1157 ls [])) : W p l e room_1 s m #[Value.ref b] below meth c H locs 90 4068 QQ (F0 m 413 ls []) := by
  obtain ⟨hx, hb, hr, hml, hown, hts0, hX, hbl, hlocks, hgv⟩ := id C0
  have hbA : ¬ (fun q : Nat => s.heap.size ≤ q) b := Nat.not_le.mpr hbl
  refine lv_aload_n hx hb dL_law_413 rfl (lv_at hl 2 rfl) ?_
  refine lw_call C0 (n := 0) (N := MX11_undo) (As := []) (rest := []) (T := TX11) (NN := 18) hZ hT hP hAE hS hl.1 (v_X11_undo_0_W S) dL_law_414 ⟨⟨rfl, rfl, Nat.le_of_ble_eq_true rfl, Nat.le_of_ble_eq_true rfl⟩, cwX11_undo, iwX11_undo, ⟨by decide, by decide⟩, by decide +kernel⟩ lk_53 mwX11_undo ewX11_undo (by decide) rfl rfl rfl rfl (Nat.le_of_ble_eq_true rfl) ?_
  rintro _ S2 H1 locs1 ⟨⟨x1, rfl⟩, hf1⟩ hP hS
  have hJ2 : zs_J S2 := hf1.n.q.j hI.1
  refine lv_pop hx hb dL_law_417 rfl ?_
  refine lv_aload_n hx hb dL_law_418 rfl (lv_at hl 1 rfl) ?_
  refine lw_call C0 (n := 0) (N := MX12_undo) (As := []) (rest := []) (T := TX12) (NN := 19) hZ hT hP hAE hS hl.1 (y_X12_undo_W S2 hJ2) dL_law_419 ⟨⟨rfl, rfl, Nat.le_of_ble_eq_true rfl, Nat.le_of_ble_eq_true rfl⟩, cwX12_undo, iwX12_undo, ⟨by decide, by decide⟩, by decide +kernel⟩ lk_56 mwX12_undo ewX12_undo (by decide) rfl rfl rfl rfl (Nat.le_of_ble_eq_true rfl) ?_
  rintro _ S3 H2 locs2 ⟨⟨y1, rfl⟩, hJ3, hm3⟩ hP hS
  have hI3 : zs_Iw S3 := hI.st hf1 hJ3 hm3
  refine lv_pop hx hb dL_law_422 rfl ?_
  refine lv_goto (tgt := 1157) hx hb dL_law_423 (by decide) ?_
  exact kend _ _ _ hI3 hP hS
set_option maxRecDepth 100000 in
theorem lk_57 : Cond.methodLink R_law 57 yX11_of ∈ zs_tbl := zs_iq3 156 rfl rfl
set_option maxRecDepth 100000 in
theorem lk_60 : Cond.methodLink R_law 60 yX12_of ∈ zs_tbl := zs_iq5 191 rfl rfl
set_option maxRecDepth 100000 in
theorem lcase_10 {p : Program} {e : Env} {s : State} {m : MethodId} {below : List Frame} {meth : Method} {c : Code} {l : Launch} {b L : Nat} {xs : Nat → Int32} (C0 : lw_At p s m meth c b L xs) (hL : L ≤ 2560) {E : zs_E} {H : Heap} {locs : List Loc} {ls : Array Slot} {QQ : State → Prop} (hZ : zs_Z E s) (hT : zs_T E.2.2.2 (fun q : Nat => s.heap.size ≤ q) s s.heap) {S : zs_S} (hI : zs_Iw S) (hP : va_P (zs_D E) vwCl (zs_ws E S) H) (hAE : ∀ x, zs_A E x → s.heap.size ≤ x) (hS : va_S (fun q : Nat => s.heap.size ≤ q) s.heap H locs) {i : Nat} (hi : i + 5 ≤ L) (hl : lv_has ls 4 [(3, .int (nI i)), (2, .ref (E.2.2.2 80)), (1, .ref (E.2.2.2 0)), (0, .ref b)]) (kend : ∀ (S : zs_S) (H : Heap) (locs : List Loc), zs_Iw S → va_P (zs_D E) vwCl (zs_ws E S) H → va_S (fun q : Nat => s.heap.size ≤ q) s.heap H locs → W p l e room_1 s m #[Value.ref b] below meth c H locs 90 4068 QQ (F0 m 1157 ls [])) : W p l e room_1 s m #[Value.ref b] below meth c H locs 90 4068 QQ (F0 m 426 ls []) := by
  obtain ⟨hx, hb, hr, hml, hown, hts0, hX, hbl, hlocks, hgv⟩ := id C0
  have hbA : ¬ (fun q : Nat => s.heap.size ≤ q) b := Nat.not_le.mpr hbl
  refine lv_aload_n hx hb dL_law_426 rfl (lv_at hl 2 rfl) ?_
  refine lv_aload_n hx hb dL_law_427 rfl (lv_at hl 3 rfl) ?_
  refine lv_iload_n hx hb dL_law_428 rfl (lv_at hl 0 rfl) ?_
  refine lv_iconst (v := nI 1) hx hb dL_law_429 (by decide) ?_
  refine lv_iadd hx hb dL_law_430 ?_
  refine va_sld hx hb hX hbl hbA hS (zs_vi (c := 1) (by omega) (by omega)) dL_law_431 ?_
  refine lv_aload_n hx hb dL_law_432 rfl (lv_at hl 3 rfl) ?_
  refine lv_iload_n hx hb dL_law_433 rfl (lv_at hl 0 rfl) ?_
  refine lv_iconst (v := nI 2) hx hb dL_law_434 (by decide) ?_
  refine lv_iadd hx hb dL_law_435 ?_
  refine va_sld hx hb hX hbl hbA hS (zs_vi (c := 2) (by omega) (by omega)) dL_law_436 ?_
  refine lw_call C0 (n := 2) (N := MX11_of) (As := [.int (xs (nI i + nI 1).toNatClampNeg), .int (xs (nI i + nI 2).toNatClampNeg)]) (rest := []) (T := TX11) (NN := 18) hZ hT hP hAE hS hl.1 (v_X11_of_0_W (xs (nI i + nI 1).toNatClampNeg) (xs (nI i + nI 2).toNatClampNeg) S) dL_law_437 ⟨⟨rfl, rfl, Nat.le_of_ble_eq_true rfl, Nat.le_of_ble_eq_true rfl⟩, cwX11_of, iwX11_of, ⟨by decide, by decide⟩, by decide +kernel⟩ lk_57 mwX11_of ewX11_of (by decide) rfl rfl rfl rfl (Nat.le_of_ble_eq_true rfl) ?_
  rintro _ S2 H1 locs1 ⟨⟨x1, rfl⟩, hf1⟩ hP hS
  have hJ2 : zs_J S2 := hf1.n.q.j hI.1
  refine lv_pop hx hb dL_law_440 rfl ?_
  refine lv_aload_n hx hb dL_law_441 rfl (lv_at hl 1 rfl) ?_
  refine lv_aload_n hx hb dL_law_442 rfl (lv_at hl 3 rfl) ?_
  refine lv_iload_n hx hb dL_law_443 rfl (lv_at hl 0 rfl) ?_
  refine lv_iconst (v := nI 1) hx hb dL_law_444 (by decide) ?_
  refine lv_iadd hx hb dL_law_445 ?_
  refine va_sld hx hb hX hbl hbA hS (zs_vi (c := 1) (by omega) (by omega)) dL_law_446 ?_
  refine lv_aload_n hx hb dL_law_447 rfl (lv_at hl 3 rfl) ?_
  refine lv_iload_n hx hb dL_law_448 rfl (lv_at hl 0 rfl) ?_
  refine lv_iconst (v := nI 2) hx hb dL_law_449 (by decide) ?_
  refine lv_iadd hx hb dL_law_450 ?_
  refine va_sld hx hb hX hbl hbA hS (zs_vi (c := 2) (by omega) (by omega)) dL_law_451 ?_
  refine lw_call C0 (n := 2) (N := MX12_of) (As := [.int (xs (nI i + nI 1).toNatClampNeg), .int (xs (nI i + nI 2).toNatClampNeg)]) (rest := []) (T := TX12) (NN := 19) hZ hT hP hAE hS hl.1 (y_X12_of_W (xs (nI i + nI 1).toNatClampNeg) (xs (nI i + nI 2).toNatClampNeg) S2 hJ2) dL_law_452 ⟨⟨rfl, rfl, Nat.le_of_ble_eq_true rfl, Nat.le_of_ble_eq_true rfl⟩, cwX12_of, iwX12_of, ⟨by decide, by decide⟩, by decide +kernel⟩ lk_60 mwX12_of ewX12_of (by decide) rfl rfl rfl rfl (Nat.le_of_ble_eq_true rfl) ?_
  rintro _ S3 H2 locs2 ⟨⟨y1, rfl⟩, hJ3, hm3⟩ hP hS
  have hI3 : zs_Iw S3 := hI.st hf1 hJ3 hm3
  refine lv_pop hx hb dL_law_455 rfl ?_
  refine lv_goto (tgt := 1157) hx hb dL_law_456 (by decide) ?_
  exact kend _ _ _ hI3 hP hS
set_option maxRecDepth 100000 in
theorem lk_61 : Cond.methodLink R_law 61 yX11_drawn ∈ zs_tbl := zs_iq3 164 rfl rfl
set_option maxRecDepth 100000 in
theorem lk_64 : Cond.methodLink R_law 64 yX12_drawn ∈ zs_tbl := zs_iq5 199 rfl rfl
set_option maxRecDepth 100000 in
theorem lcase_11 {p : Program} {e : Env} {s : State} {m : MethodId} {below : List Frame} {meth : Method} {c : Code} {l : Launch} {b L : Nat} {xs : Nat → Int32} (C0 : lw_At p s m meth c b L xs) (hL : L ≤ 2560) {E : zs_E} {H : Heap} {locs : List Loc} {ls : Array Slot} {QQ : State → Prop} (hZ : zs_Z E s) (hT : zs_T E.2.2.2 (fun q : Nat => s.heap.size ≤ q) s s.heap) {S : zs_S} (hI : zs_Iw S) (hP : va_P (zs_D E) vwCl (zs_ws E S) H) (hAE : ∀ x, zs_A E x → s.heap.size ≤ x) (hS : va_S (fun q : Nat => s.heap.size ≤ q) s.heap H locs) {i : Nat} (hi : i + 5 ≤ L) (hl : lv_has ls 4 [(3, .int (nI i)), (2, .ref (E.2.2.2 80)), (1, .ref (E.2.2.2 0)), (0, .ref b)]) (kend : ∀ (S : zs_S) (H : Heap) (locs : List Loc), zs_Iw S → va_P (zs_D E) vwCl (zs_ws E S) H → va_S (fun q : Nat => s.heap.size ≤ q) s.heap H locs → W p l e room_1 s m #[Value.ref b] below meth c H locs 90 4068 QQ (F0 m 1157 ls [])) : W p l e room_1 s m #[Value.ref b] below meth c H locs 90 4068 QQ (F0 m 459 ls []) := by
  obtain ⟨hx, hb, hr, hml, hown, hts0, hX, hbl, hlocks, hgv⟩ := id C0
  have hbA : ¬ (fun q : Nat => s.heap.size ≤ q) b := Nat.not_le.mpr hbl
  refine lv_aload_n hx hb dL_law_459 rfl (lv_at hl 2 rfl) ?_
  refine lv_aload_n hx hb dL_law_460 rfl (lv_at hl 3 rfl) ?_
  refine lv_iload_n hx hb dL_law_461 rfl (lv_at hl 0 rfl) ?_
  refine lv_iconst (v := nI 1) hx hb dL_law_462 (by decide) ?_
  refine lv_iadd hx hb dL_law_463 ?_
  refine va_sld hx hb hX hbl hbA hS (zs_vi (c := 1) (by omega) (by omega)) dL_law_464 ?_
  refine lw_call C0 (n := 1) (N := MX11_drawn) (As := [.int (xs (nI i + nI 1).toNatClampNeg)]) (rest := []) (T := TX11) (NN := 18) hZ hT hP hAE hS hl.1 (v_X11_drawn_0_W (xs (nI i + nI 1).toNatClampNeg) S) dL_law_465 ⟨⟨rfl, rfl, Nat.le_of_ble_eq_true rfl, Nat.le_of_ble_eq_true rfl⟩, cwX11_drawn, iwX11_drawn, ⟨by decide, by decide⟩, by decide +kernel⟩ lk_61 mwX11_drawn ewX11_drawn (by decide) rfl rfl rfl rfl (Nat.le_of_ble_eq_true rfl) ?_
  rintro _ S2 H1 locs1 ⟨⟨x1, rfl⟩, hf1⟩ hP hS
  have hJ2 : zs_J S2 := hf1.n.q.j hI.1
  refine lv_pop hx hb dL_law_468 rfl ?_
  refine lv_aload_n hx hb dL_law_469 rfl (lv_at hl 1 rfl) ?_
  refine lv_aload_n hx hb dL_law_470 rfl (lv_at hl 3 rfl) ?_
  refine lv_iload_n hx hb dL_law_471 rfl (lv_at hl 0 rfl) ?_
  refine lv_iconst (v := nI 1) hx hb dL_law_472 (by decide) ?_
  refine lv_iadd hx hb dL_law_473 ?_
  refine va_sld hx hb hX hbl hbA hS (zs_vi (c := 1) (by omega) (by omega)) dL_law_474 ?_
  refine lw_call C0 (n := 1) (N := MX12_drawn) (As := [.int (xs (nI i + nI 1).toNatClampNeg)]) (rest := []) (T := TX12) (NN := 19) hZ hT hP hAE hS hl.1 (y_X12_drawn_W (xs (nI i + nI 1).toNatClampNeg) S2 hJ2) dL_law_475 ⟨⟨rfl, rfl, Nat.le_of_ble_eq_true rfl, Nat.le_of_ble_eq_true rfl⟩, cwX12_drawn, iwX12_drawn, ⟨by decide, by decide⟩, by decide +kernel⟩ lk_64 mwX12_drawn ewX12_drawn (by decide) rfl rfl rfl rfl (Nat.le_of_ble_eq_true rfl) ?_
  rintro _ S3 H2 locs2 ⟨⟨y1, rfl⟩, hJ3, hm3⟩ hP hS
  have hI3 : zs_Iw S3 := hI.st hf1 hJ3 hm3
  refine lv_pop hx hb dL_law_478 rfl ?_
  refine lv_goto (tgt := 1157) hx hb dL_law_479 (by decide) ?_
  exact kend _ _ _ hI3 hP hS
set_option maxRecDepth 100000 in
theorem lk_65 : Cond.methodLink R_law 65 yX11_at ∈ zs_tbl := zs_iq3 168 rfl rfl
set_option maxRecDepth 100000 in
theorem lk_68 : Cond.methodLink R_law 68 yX12_at ∈ zs_tbl := zs_iq5 203 rfl rfl
set_option maxRecDepth 100000 in
theorem lcase_12 {p : Program} {e : Env} {s : State} {m : MethodId} {below : List Frame} {meth : Method} {c : Code} {l : Launch} {b L : Nat} {xs : Nat → Int32} (C0 : lw_At p s m meth c b L xs) (hL : L ≤ 2560) {E : zs_E} {H : Heap} {locs : List Loc} {ls : Array Slot} {QQ : State → Prop} (hZ : zs_Z E s) (hT : zs_T E.2.2.2 (fun q : Nat => s.heap.size ≤ q) s s.heap) {S : zs_S} (hI : zs_Iw S) (hP : va_P (zs_D E) vwCl (zs_ws E S) H) (hAE : ∀ x, zs_A E x → s.heap.size ≤ x) (hS : va_S (fun q : Nat => s.heap.size ≤ q) s.heap H locs) {i : Nat} (hi : i + 5 ≤ L) (hl : lv_has ls 4 [(3, .int (nI i)), (2, .ref (E.2.2.2 80)), (1, .ref (E.2.2.2 0)), (0, .ref b)]) (kend : ∀ (S : zs_S) (H : Heap) (locs : List Loc), zs_Iw S → va_P (zs_D E) vwCl (zs_ws E S) H → va_S (fun q : Nat => s.heap.size ≤ q) s.heap H locs → W p l e room_1 s m #[Value.ref b] below meth c H locs 90 4068 QQ (F0 m 1157 ls [])) : W p l e room_1 s m #[Value.ref b] below meth c H locs 90 4068 QQ (F0 m 482 ls []) := by
  obtain ⟨hx, hb, hr, hml, hown, hts0, hX, hbl, hlocks, hgv⟩ := id C0
  have hbA : ¬ (fun q : Nat => s.heap.size ≤ q) b := Nat.not_le.mpr hbl
  refine lv_aload_n hx hb dL_law_482 rfl (lv_at hl 2 rfl) ?_
  refine lv_aload_n hx hb dL_law_483 rfl (lv_at hl 3 rfl) ?_
  refine lv_iload_n hx hb dL_law_484 rfl (lv_at hl 0 rfl) ?_
  refine lv_iconst (v := nI 1) hx hb dL_law_485 (by decide) ?_
  refine lv_iadd hx hb dL_law_486 ?_
  refine va_sld hx hb hX hbl hbA hS (zs_vi (c := 1) (by omega) (by omega)) dL_law_487 ?_
  refine lw_call C0 (n := 1) (N := MX11_at) (As := [.int (xs (nI i + nI 1).toNatClampNeg)]) (rest := []) (T := TX11) (NN := 18) hZ hT hP hAE hS hl.1 (v_X11_at_0_W (xs (nI i + nI 1).toNatClampNeg) S) dL_law_488 ⟨⟨rfl, rfl, Nat.le_of_ble_eq_true rfl, Nat.le_of_ble_eq_true rfl⟩, cwX11_at, iwX11_at, ⟨by decide, by decide⟩, by decide +kernel⟩ lk_65 mwX11_at ewX11_at (by decide) rfl rfl rfl rfl (Nat.le_of_ble_eq_true rfl) ?_
  rintro _ S2 H1 locs1 ⟨⟨x1, rfl⟩, hf1⟩ hP hS
  have hJ2 : zs_J S2 := hf1.n.q.j hI.1
  refine lv_pop hx hb dL_law_491 rfl ?_
  refine lv_aload_n hx hb dL_law_492 rfl (lv_at hl 1 rfl) ?_
  refine lv_aload_n hx hb dL_law_493 rfl (lv_at hl 3 rfl) ?_
  refine lv_iload_n hx hb dL_law_494 rfl (lv_at hl 0 rfl) ?_
  refine lv_iconst (v := nI 1) hx hb dL_law_495 (by decide) ?_
  refine lv_iadd hx hb dL_law_496 ?_
  refine va_sld hx hb hX hbl hbA hS (zs_vi (c := 1) (by omega) (by omega)) dL_law_497 ?_
  refine lw_call C0 (n := 1) (N := MX12_at) (As := [.int (xs (nI i + nI 1).toNatClampNeg)]) (rest := []) (T := TX12) (NN := 19) hZ hT hP hAE hS hl.1 (y_X12_at_W (xs (nI i + nI 1).toNatClampNeg) S2 hJ2) dL_law_498 ⟨⟨rfl, rfl, Nat.le_of_ble_eq_true rfl, Nat.le_of_ble_eq_true rfl⟩, cwX12_at, iwX12_at, ⟨by decide, by decide⟩, by decide +kernel⟩ lk_68 mwX12_at ewX12_at (by decide) rfl rfl rfl rfl (Nat.le_of_ble_eq_true rfl) ?_
  rintro _ S3 H2 locs2 ⟨⟨y1, rfl⟩, hJ3, hm3⟩ hP hS
  have hI3 : zs_Iw S3 := hI.st hf1 hJ3 hm3
  refine lv_pop hx hb dL_law_501 rfl ?_
  refine lv_goto (tgt := 1157) hx hb dL_law_502 (by decide) ?_
  exact kend _ _ _ hI3 hP hS
set_option maxRecDepth 100000 in
theorem lk_69 : Cond.methodLink R_law 69 yX11_sees ∈ zs_tbl := zs_iq3 183 rfl rfl
set_option maxRecDepth 100000 in
theorem lk_72 : Cond.methodLink R_law 72 yX12_sees ∈ zs_tbl := zs_iq5 215 rfl rfl
set_option maxRecDepth 100000 in
theorem lcase_13 {p : Program} {e : Env} {s : State} {m : MethodId} {below : List Frame} {meth : Method} {c : Code} {l : Launch} {b L : Nat} {xs : Nat → Int32} (C0 : lw_At p s m meth c b L xs) (hL : L ≤ 2560) {E : zs_E} {H : Heap} {locs : List Loc} {ls : Array Slot} {QQ : State → Prop} (hZ : zs_Z E s) (hT : zs_T E.2.2.2 (fun q : Nat => s.heap.size ≤ q) s s.heap) {S : zs_S} (hI : zs_Iw S) (hP : va_P (zs_D E) vwCl (zs_ws E S) H) (hAE : ∀ x, zs_A E x → s.heap.size ≤ x) (hS : va_S (fun q : Nat => s.heap.size ≤ q) s.heap H locs) {i : Nat} (hi : i + 5 ≤ L) (hl : lv_has ls 4 [(3, .int (nI i)), (2, .ref (E.2.2.2 80)), (1, .ref (E.2.2.2 0)), (0, .ref b)]) (kend : ∀ (S : zs_S) (H : Heap) (locs : List Loc), zs_Iw S → va_P (zs_D E) vwCl (zs_ws E S) H → va_S (fun q : Nat => s.heap.size ≤ q) s.heap H locs → W p l e room_1 s m #[Value.ref b] below meth c H locs 90 4068 QQ (F0 m 1157 ls [])) : W p l e room_1 s m #[Value.ref b] below meth c H locs 90 4068 QQ (F0 m 505 ls []) := by
  obtain ⟨hx, hb, hr, hml, hown, hts0, hX, hbl, hlocks, hgv⟩ := id C0
  have hbA : ¬ (fun q : Nat => s.heap.size ≤ q) b := Nat.not_le.mpr hbl
  refine lv_aload_n hx hb dL_law_505 rfl (lv_at hl 2 rfl) ?_
  refine lv_aload_n hx hb dL_law_506 rfl (lv_at hl 3 rfl) ?_
  refine lv_iload_n hx hb dL_law_507 rfl (lv_at hl 0 rfl) ?_
  refine lv_iconst (v := nI 1) hx hb dL_law_508 (by decide) ?_
  refine lv_iadd hx hb dL_law_509 ?_
  refine va_sld hx hb hX hbl hbA hS (zs_vi (c := 1) (by omega) (by omega)) dL_law_510 ?_
  refine lv_aload_n hx hb dL_law_511 rfl (lv_at hl 3 rfl) ?_
  refine lv_iload_n hx hb dL_law_512 rfl (lv_at hl 0 rfl) ?_
  refine lv_iconst (v := nI 2) hx hb dL_law_513 (by decide) ?_
  refine lv_iadd hx hb dL_law_514 ?_
  refine va_sld hx hb hX hbl hbA hS (zs_vi (c := 2) (by omega) (by omega)) dL_law_515 ?_
  refine lw_call C0 (n := 2) (N := MX11_sees) (As := [.int (xs (nI i + nI 1).toNatClampNeg), .int (xs (nI i + nI 2).toNatClampNeg)]) (rest := []) (T := TX11) (NN := 18) hZ hT hP hAE hS hl.1 (v_X11_sees_0_W (xs (nI i + nI 1).toNatClampNeg) (xs (nI i + nI 2).toNatClampNeg) S) dL_law_516 ⟨⟨rfl, rfl, Nat.le_of_ble_eq_true rfl, Nat.le_of_ble_eq_true rfl⟩, cwX11_sees, iwX11_sees, ⟨by decide, by decide⟩, by decide +kernel⟩ lk_69 mwX11_sees ewX11_sees (by decide) rfl rfl rfl rfl (Nat.le_of_ble_eq_true rfl) ?_
  rintro _ S2 H1 locs1 ⟨⟨x1, rfl⟩, hf1⟩ hP hS
  have hJ2 : zs_J S2 := hf1.n.q.j hI.1
  refine lv_pop hx hb dL_law_519 rfl ?_
  refine lv_aload_n hx hb dL_law_520 rfl (lv_at hl 1 rfl) ?_
  refine lv_aload_n hx hb dL_law_521 rfl (lv_at hl 3 rfl) ?_
  refine lv_iload_n hx hb dL_law_522 rfl (lv_at hl 0 rfl) ?_
  refine lv_iconst (v := nI 1) hx hb dL_law_523 (by decide) ?_
  refine lv_iadd hx hb dL_law_524 ?_
  refine va_sld hx hb hX hbl hbA hS (zs_vi (c := 1) (by omega) (by omega)) dL_law_525 ?_
  refine lv_aload_n hx hb dL_law_526 rfl (lv_at hl 3 rfl) ?_
  refine lv_iload_n hx hb dL_law_527 rfl (lv_at hl 0 rfl) ?_
  refine lv_iconst (v := nI 2) hx hb dL_law_528 (by decide) ?_
  refine lv_iadd hx hb dL_law_529 ?_
  refine va_sld hx hb hX hbl hbA hS (zs_vi (c := 2) (by omega) (by omega)) dL_law_530 ?_
  refine lw_call C0 (n := 2) (N := MX12_sees) (As := [.int (xs (nI i + nI 1).toNatClampNeg), .int (xs (nI i + nI 2).toNatClampNeg)]) (rest := []) (T := TX12) (NN := 19) hZ hT hP hAE hS hl.1 (y_X12_sees_W (xs (nI i + nI 1).toNatClampNeg) (xs (nI i + nI 2).toNatClampNeg) S2 hJ2) dL_law_531 ⟨⟨rfl, rfl, Nat.le_of_ble_eq_true rfl, Nat.le_of_ble_eq_true rfl⟩, cwX12_sees, iwX12_sees, ⟨by decide, by decide⟩, by decide +kernel⟩ lk_72 mwX12_sees ewX12_sees (by decide) rfl rfl rfl rfl (Nat.le_of_ble_eq_true rfl) ?_
  rintro _ S3 H2 locs2 ⟨⟨y1, rfl⟩, hJ3, hm3⟩ hP hS
  have hI3 : zs_Iw S3 := hI.st hf1 hJ3 hm3
  refine lv_pop hx hb dL_law_534 rfl ?_
  refine lv_goto (tgt := 1157) hx hb dL_law_535 (by decide) ?_
  exact kend _ _ _ hI3 hP hS
set_option maxRecDepth 100000 in
theorem lk_73 : Cond.methodLink R_law 73 yX11_round ∈ zs_tbl := zs_iq3 187 rfl rfl
set_option maxRecDepth 100000 in
theorem lk_76 : Cond.methodLink R_law 76 yX12_round ∈ zs_tbl := zs_iq5 219 rfl rfl
set_option maxRecDepth 100000 in
theorem lcase_14 {p : Program} {e : Env} {s : State} {m : MethodId} {below : List Frame} {meth : Method} {c : Code} {l : Launch} {b L : Nat} {xs : Nat → Int32} (C0 : lw_At p s m meth c b L xs) (hL : L ≤ 2560) {E : zs_E} {H : Heap} {locs : List Loc} {ls : Array Slot} {QQ : State → Prop} (hZ : zs_Z E s) (hT : zs_T E.2.2.2 (fun q : Nat => s.heap.size ≤ q) s s.heap) {S : zs_S} (hI : zs_Iw S) (hP : va_P (zs_D E) vwCl (zs_ws E S) H) (hAE : ∀ x, zs_A E x → s.heap.size ≤ x) (hS : va_S (fun q : Nat => s.heap.size ≤ q) s.heap H locs) {i : Nat} (hi : i + 5 ≤ L) (hl : lv_has ls 4 [(3, .int (nI i)), (2, .ref (E.2.2.2 80)), (1, .ref (E.2.2.2 0)), (0, .ref b)]) (kend : ∀ (S : zs_S) (H : Heap) (locs : List Loc), zs_Iw S → va_P (zs_D E) vwCl (zs_ws E S) H → va_S (fun q : Nat => s.heap.size ≤ q) s.heap H locs → W p l e room_1 s m #[Value.ref b] below meth c H locs 90 4068 QQ (F0 m 1157 ls [])) : W p l e room_1 s m #[Value.ref b] below meth c H locs 90 4068 QQ (F0 m 538 ls []) := by
  obtain ⟨hx, hb, hr, hml, hown, hts0, hX, hbl, hlocks, hgv⟩ := id C0
  have hbA : ¬ (fun q : Nat => s.heap.size ≤ q) b := Nat.not_le.mpr hbl
  refine lv_aload_n hx hb dL_law_538 rfl (lv_at hl 2 rfl) ?_
  refine lw_call C0 (n := 0) (N := MX11_round) (As := []) (rest := []) (T := TX11) (NN := 18) hZ hT hP hAE hS hl.1 (v_X11_round_0_W S) dL_law_539 ⟨⟨rfl, rfl, Nat.le_of_ble_eq_true rfl, Nat.le_of_ble_eq_true rfl⟩, cwX11_round, iwX11_round, ⟨by decide, by decide⟩, by decide +kernel⟩ lk_73 mwX11_round ewX11_round (by decide) rfl rfl rfl rfl (Nat.le_of_ble_eq_true rfl) ?_
  rintro _ S2 H1 locs1 ⟨⟨x1, rfl⟩, hf1⟩ hP hS
  have hJ2 : zs_J S2 := hf1.n.q.j hI.1
  refine lv_pop hx hb dL_law_542 rfl ?_
  refine lv_aload_n hx hb dL_law_543 rfl (lv_at hl 1 rfl) ?_
  refine lw_call C0 (n := 0) (N := MX12_round) (As := []) (rest := []) (T := TX12) (NN := 19) hZ hT hP hAE hS hl.1 (y_X12_round_W S2 hJ2) dL_law_544 ⟨⟨rfl, rfl, Nat.le_of_ble_eq_true rfl, Nat.le_of_ble_eq_true rfl⟩, cwX12_round, iwX12_round, ⟨by decide, by decide⟩, by decide +kernel⟩ lk_76 mwX12_round ewX12_round (by decide) rfl rfl rfl rfl (Nat.le_of_ble_eq_true rfl) ?_
  rintro _ S3 H2 locs2 ⟨⟨y1, rfl⟩, hJ3, hm3⟩ hP hS
  have hI3 : zs_Iw S3 := hI.st hf1 hJ3 hm3
  refine lv_pop hx hb dL_law_547 rfl ?_
  refine lv_goto (tgt := 1157) hx hb dL_law_548 (by decide) ?_
  exact kend _ _ _ hI3 hP hS
set_option maxRecDepth 100000 in
theorem lk_77 : Cond.methodLink R_law 77 yX11_still ∈ zs_tbl := zs_iq3 195 rfl rfl
set_option maxRecDepth 100000 in
theorem lk_80 : Cond.methodLink R_law 80 yX12_still ∈ zs_tbl := zs_iq5 223 rfl rfl
set_option maxRecDepth 100000 in
theorem lcase_15 {p : Program} {e : Env} {s : State} {m : MethodId} {below : List Frame} {meth : Method} {c : Code} {l : Launch} {b L : Nat} {xs : Nat → Int32} (C0 : lw_At p s m meth c b L xs) (hL : L ≤ 2560) {E : zs_E} {H : Heap} {locs : List Loc} {ls : Array Slot} {QQ : State → Prop} (hZ : zs_Z E s) (hT : zs_T E.2.2.2 (fun q : Nat => s.heap.size ≤ q) s s.heap) {S : zs_S} (hI : zs_Iw S) (hP : va_P (zs_D E) vwCl (zs_ws E S) H) (hAE : ∀ x, zs_A E x → s.heap.size ≤ x) (hS : va_S (fun q : Nat => s.heap.size ≤ q) s.heap H locs) {i : Nat} (hi : i + 5 ≤ L) (hl : lv_has ls 4 [(3, .int (nI i)), (2, .ref (E.2.2.2 80)), (1, .ref (E.2.2.2 0)), (0, .ref b)]) (kend : ∀ (S : zs_S) (H : Heap) (locs : List Loc), zs_Iw S → va_P (zs_D E) vwCl (zs_ws E S) H → va_S (fun q : Nat => s.heap.size ≤ q) s.heap H locs → W p l e room_1 s m #[Value.ref b] below meth c H locs 90 4068 QQ (F0 m 1157 ls [])) : W p l e room_1 s m #[Value.ref b] below meth c H locs 90 4068 QQ (F0 m 551 ls []) := by
  obtain ⟨hx, hb, hr, hml, hown, hts0, hX, hbl, hlocks, hgv⟩ := id C0
  have hbA : ¬ (fun q : Nat => s.heap.size ≤ q) b := Nat.not_le.mpr hbl
  refine lv_aload_n hx hb dL_law_551 rfl (lv_at hl 2 rfl) ?_
  refine lv_aload_n hx hb dL_law_552 rfl (lv_at hl 3 rfl) ?_
  refine lv_iload_n hx hb dL_law_553 rfl (lv_at hl 0 rfl) ?_
  refine lv_iconst (v := nI 1) hx hb dL_law_554 (by decide) ?_
  refine lv_iadd hx hb dL_law_555 ?_
  refine va_sld hx hb hX hbl hbA hS (zs_vi (c := 1) (by omega) (by omega)) dL_law_556 ?_
  refine lw_call C0 (n := 1) (N := MX11_still) (As := [.int (xs (nI i + nI 1).toNatClampNeg)]) (rest := []) (T := TX11) (NN := 18) hZ hT hP hAE hS hl.1 (v_X11_still_0_W (xs (nI i + nI 1).toNatClampNeg) S) dL_law_557 ⟨⟨rfl, rfl, Nat.le_of_ble_eq_true rfl, Nat.le_of_ble_eq_true rfl⟩, cwX11_still, iwX11_still, ⟨by decide, by decide⟩, by decide +kernel⟩ lk_77 mwX11_still ewX11_still (by decide) rfl rfl rfl rfl (Nat.le_of_ble_eq_true rfl) ?_
  rintro _ S2 H1 locs1 ⟨⟨x1, rfl⟩, hf1⟩ hP hS
  have hJ2 : zs_J S2 := hf1.n.q.j hI.1
  refine lv_pop hx hb dL_law_560 rfl ?_
  refine lv_aload_n hx hb dL_law_561 rfl (lv_at hl 1 rfl) ?_
  refine lv_aload_n hx hb dL_law_562 rfl (lv_at hl 3 rfl) ?_
  refine lv_iload_n hx hb dL_law_563 rfl (lv_at hl 0 rfl) ?_
  refine lv_iconst (v := nI 1) hx hb dL_law_564 (by decide) ?_
  refine lv_iadd hx hb dL_law_565 ?_
  refine va_sld hx hb hX hbl hbA hS (zs_vi (c := 1) (by omega) (by omega)) dL_law_566 ?_
  refine lw_call C0 (n := 1) (N := MX12_still) (As := [.int (xs (nI i + nI 1).toNatClampNeg)]) (rest := []) (T := TX12) (NN := 19) hZ hT hP hAE hS hl.1 (y_X12_still_W (xs (nI i + nI 1).toNatClampNeg) S2 hJ2) dL_law_567 ⟨⟨rfl, rfl, Nat.le_of_ble_eq_true rfl, Nat.le_of_ble_eq_true rfl⟩, cwX12_still, iwX12_still, ⟨by decide, by decide⟩, by decide +kernel⟩ lk_80 mwX12_still ewX12_still (by decide) rfl rfl rfl rfl (Nat.le_of_ble_eq_true rfl) ?_
  rintro _ S3 H2 locs2 ⟨⟨y1, rfl⟩, hJ3, hm3⟩ hP hS
  have hI3 : zs_Iw S3 := hI.st hf1 hJ3 hm3
  refine lv_pop hx hb dL_law_570 rfl ?_
  refine lv_goto (tgt := 1157) hx hb dL_law_571 (by decide) ?_
  exact kend _ _ _ hI3 hP hS
set_option maxRecDepth 100000 in
theorem lk_81 : Cond.methodLink R_law 81 yX11_most ∈ zs_tbl := zs_iq3 204 rfl rfl
set_option maxRecDepth 100000 in
theorem lk_84 : Cond.methodLink R_law 84 yX12_most ∈ zs_tbl := zs_iq5 227 rfl rfl
set_option maxRecDepth 100000 in
theorem lcase_16 {p : Program} {e : Env} {s : State} {m : MethodId} {below : List Frame} {meth : Method} {c : Code} {l : Launch} {b L : Nat} {xs : Nat → Int32} (C0 : lw_At p s m meth c b L xs) (hL : L ≤ 2560) {E : zs_E} {H : Heap} {locs : List Loc} {ls : Array Slot} {QQ : State → Prop} (hZ : zs_Z E s) (hT : zs_T E.2.2.2 (fun q : Nat => s.heap.size ≤ q) s s.heap) {S : zs_S} (hI : zs_Iw S) (hP : va_P (zs_D E) vwCl (zs_ws E S) H) (hAE : ∀ x, zs_A E x → s.heap.size ≤ x) (hS : va_S (fun q : Nat => s.heap.size ≤ q) s.heap H locs) {i : Nat} (hi : i + 5 ≤ L) (hl : lv_has ls 4 [(3, .int (nI i)), (2, .ref (E.2.2.2 80)), (1, .ref (E.2.2.2 0)), (0, .ref b)]) (kend : ∀ (S : zs_S) (H : Heap) (locs : List Loc), zs_Iw S → va_P (zs_D E) vwCl (zs_ws E S) H → va_S (fun q : Nat => s.heap.size ≤ q) s.heap H locs → W p l e room_1 s m #[Value.ref b] below meth c H locs 90 4068 QQ (F0 m 1157 ls [])) : W p l e room_1 s m #[Value.ref b] below meth c H locs 90 4068 QQ (F0 m 574 ls []) := by
  obtain ⟨hx, hb, hr, hml, hown, hts0, hX, hbl, hlocks, hgv⟩ := id C0
  have hbA : ¬ (fun q : Nat => s.heap.size ≤ q) b := Nat.not_le.mpr hbl
  refine lv_aload_n hx hb dL_law_574 rfl (lv_at hl 2 rfl) ?_
  refine lv_aload_n hx hb dL_law_575 rfl (lv_at hl 3 rfl) ?_
  refine lv_iload_n hx hb dL_law_576 rfl (lv_at hl 0 rfl) ?_
  refine lv_iconst (v := nI 1) hx hb dL_law_577 (by decide) ?_
  refine lv_iadd hx hb dL_law_578 ?_
  refine va_sld hx hb hX hbl hbA hS (zs_vi (c := 1) (by omega) (by omega)) dL_law_579 ?_
  refine lv_aload_n hx hb dL_law_580 rfl (lv_at hl 3 rfl) ?_
  refine lv_iload_n hx hb dL_law_581 rfl (lv_at hl 0 rfl) ?_
  refine lv_iconst (v := nI 2) hx hb dL_law_582 (by decide) ?_
  refine lv_iadd hx hb dL_law_583 ?_
  refine va_sld hx hb hX hbl hbA hS (zs_vi (c := 2) (by omega) (by omega)) dL_law_584 ?_
  refine lv_aload_n hx hb dL_law_585 rfl (lv_at hl 3 rfl) ?_
  refine lv_iload_n hx hb dL_law_586 rfl (lv_at hl 0 rfl) ?_
  refine lv_iconst (v := nI 3) hx hb dL_law_587 (by decide) ?_
  refine lv_iadd hx hb dL_law_588 ?_
  refine va_sld hx hb hX hbl hbA hS (zs_vi (c := 3) (by omega) (by omega)) dL_law_589 ?_
  refine lw_call C0 (n := 3) (N := MX11_most) (As := [.int (xs (nI i + nI 1).toNatClampNeg), .int (xs (nI i + nI 2).toNatClampNeg), .int (xs (nI i + nI 3).toNatClampNeg)]) (rest := []) (T := TX11) (NN := 18) hZ hT hP hAE hS hl.1 (v_X11_most_0_W (xs (nI i + nI 1).toNatClampNeg) (xs (nI i + nI 2).toNatClampNeg) (xs (nI i + nI 3).toNatClampNeg) S) dL_law_590 ⟨⟨rfl, rfl, Nat.le_of_ble_eq_true rfl, Nat.le_of_ble_eq_true rfl⟩, cwX11_most, iwX11_most, ⟨by decide, by decide⟩, by decide +kernel⟩ lk_81 mwX11_most ewX11_most (by decide) rfl rfl rfl rfl (Nat.le_of_ble_eq_true rfl) ?_
  rintro _ S2 H1 locs1 ⟨⟨x1, rfl⟩, hf1⟩ hP hS
  have hJ2 : zs_J S2 := hf1.n.q.j hI.1
  refine lv_pop hx hb dL_law_593 rfl ?_
  refine lv_aload_n hx hb dL_law_594 rfl (lv_at hl 1 rfl) ?_
  refine lv_aload_n hx hb dL_law_595 rfl (lv_at hl 3 rfl) ?_
  refine lv_iload_n hx hb dL_law_596 rfl (lv_at hl 0 rfl) ?_
  refine lv_iconst (v := nI 1) hx hb dL_law_597 (by decide) ?_
  refine lv_iadd hx hb dL_law_598 ?_
  refine va_sld hx hb hX hbl hbA hS (zs_vi (c := 1) (by omega) (by omega)) dL_law_599 ?_
  refine lv_aload_n hx hb dL_law_600 rfl (lv_at hl 3 rfl) ?_
  refine lv_iload_n hx hb dL_law_601 rfl (lv_at hl 0 rfl) ?_
  refine lv_iconst (v := nI 2) hx hb dL_law_602 (by decide) ?_
  refine lv_iadd hx hb dL_law_603 ?_
  refine va_sld hx hb hX hbl hbA hS (zs_vi (c := 2) (by omega) (by omega)) dL_law_604 ?_
  refine lv_aload_n hx hb dL_law_605 rfl (lv_at hl 3 rfl) ?_
  refine lv_iload_n hx hb dL_law_606 rfl (lv_at hl 0 rfl) ?_
  refine lv_iconst (v := nI 3) hx hb dL_law_607 (by decide) ?_
  refine lv_iadd hx hb dL_law_608 ?_
  refine va_sld hx hb hX hbl hbA hS (zs_vi (c := 3) (by omega) (by omega)) dL_law_609 ?_
  refine lw_call C0 (n := 3) (N := MX12_most) (As := [.int (xs (nI i + nI 1).toNatClampNeg), .int (xs (nI i + nI 2).toNatClampNeg), .int (xs (nI i + nI 3).toNatClampNeg)]) (rest := []) (T := TX12) (NN := 19) hZ hT hP hAE hS hl.1 (y_X12_most_W (xs (nI i + nI 1).toNatClampNeg) (xs (nI i + nI 2).toNatClampNeg) (xs (nI i + nI 3).toNatClampNeg) S2 hJ2) dL_law_610 ⟨⟨rfl, rfl, Nat.le_of_ble_eq_true rfl, Nat.le_of_ble_eq_true rfl⟩, cwX12_most, iwX12_most, ⟨by decide, by decide⟩, by decide +kernel⟩ lk_84 mwX12_most ewX12_most (by decide) rfl rfl rfl rfl (Nat.le_of_ble_eq_true rfl) ?_
  rintro _ S3 H2 locs2 ⟨⟨y1, rfl⟩, hJ3, hm3⟩ hP hS
  have hI3 : zs_Iw S3 := hI.st hf1 hJ3 hm3
  refine lv_pop hx hb dL_law_613 rfl ?_
  refine lv_goto (tgt := 1157) hx hb dL_law_614 (by decide) ?_
  exact kend _ _ _ hI3 hP hS
set_option maxRecDepth 100000 in
theorem lk_85 : Cond.methodLink R_law 85 yX11_smooth ∈ zs_tbl := zs_iq3 208 rfl rfl
set_option maxRecDepth 100000 in
theorem lk_88 : Cond.methodLink R_law 88 yX12_smooth ∈ zs_tbl := zs_iq5 231 rfl rfl
set_option maxRecDepth 100000 in
theorem lcase_17 {p : Program} {e : Env} {s : State} {m : MethodId} {below : List Frame} {meth : Method} {c : Code} {l : Launch} {b L : Nat} {xs : Nat → Int32} (C0 : lw_At p s m meth c b L xs) (hL : L ≤ 2560) {E : zs_E} {H : Heap} {locs : List Loc} {ls : Array Slot} {QQ : State → Prop} (hZ : zs_Z E s) (hT : zs_T E.2.2.2 (fun q : Nat => s.heap.size ≤ q) s s.heap) {S : zs_S} (hI : zs_Iw S) (hP : va_P (zs_D E) vwCl (zs_ws E S) H) (hAE : ∀ x, zs_A E x → s.heap.size ≤ x) (hS : va_S (fun q : Nat => s.heap.size ≤ q) s.heap H locs) {i : Nat} (hi : i + 5 ≤ L) (hl : lv_has ls 4 [(3, .int (nI i)), (2, .ref (E.2.2.2 80)), (1, .ref (E.2.2.2 0)), (0, .ref b)]) (kend : ∀ (S : zs_S) (H : Heap) (locs : List Loc), zs_Iw S → va_P (zs_D E) vwCl (zs_ws E S) H → va_S (fun q : Nat => s.heap.size ≤ q) s.heap H locs → W p l e room_1 s m #[Value.ref b] below meth c H locs 90 4068 QQ (F0 m 1157 ls [])) : W p l e room_1 s m #[Value.ref b] below meth c H locs 90 4068 QQ (F0 m 617 ls []) := by
  obtain ⟨hx, hb, hr, hml, hown, hts0, hX, hbl, hlocks, hgv⟩ := id C0
  have hbA : ¬ (fun q : Nat => s.heap.size ≤ q) b := Nat.not_le.mpr hbl
  refine lv_aload_n hx hb dL_law_617 rfl (lv_at hl 2 rfl) ?_
  refine lv_aload_n hx hb dL_law_618 rfl (lv_at hl 3 rfl) ?_
  refine lv_iload_n hx hb dL_law_619 rfl (lv_at hl 0 rfl) ?_
  refine lv_iconst (v := nI 1) hx hb dL_law_620 (by decide) ?_
  refine lv_iadd hx hb dL_law_621 ?_
  refine va_sld hx hb hX hbl hbA hS (zs_vi (c := 1) (by omega) (by omega)) dL_law_622 ?_
  refine lw_call C0 (n := 1) (N := MX11_smooth) (As := [.int (xs (nI i + nI 1).toNatClampNeg)]) (rest := []) (T := TX11) (NN := 18) hZ hT hP hAE hS hl.1 (v_X11_smooth_0_W (xs (nI i + nI 1).toNatClampNeg) S) dL_law_623 ⟨⟨rfl, rfl, Nat.le_of_ble_eq_true rfl, Nat.le_of_ble_eq_true rfl⟩, cwX11_smooth, iwX11_smooth, ⟨by decide, by decide⟩, by decide +kernel⟩ lk_85 mwX11_smooth ewX11_smooth (by decide) rfl rfl rfl rfl (Nat.le_of_ble_eq_true rfl) ?_
  rintro _ S2 H1 locs1 ⟨⟨x1, rfl⟩, hf1⟩ hP hS
  have hJ2 : zs_J S2 := hf1.n.q.j hI.1
  refine lv_pop hx hb dL_law_626 rfl ?_
  refine lv_aload_n hx hb dL_law_627 rfl (lv_at hl 1 rfl) ?_
  refine lv_aload_n hx hb dL_law_628 rfl (lv_at hl 3 rfl) ?_
  refine lv_iload_n hx hb dL_law_629 rfl (lv_at hl 0 rfl) ?_
  refine lv_iconst (v := nI 1) hx hb dL_law_630 (by decide) ?_
  refine lv_iadd hx hb dL_law_631 ?_
  refine va_sld hx hb hX hbl hbA hS (zs_vi (c := 1) (by omega) (by omega)) dL_law_632 ?_
  refine lw_call C0 (n := 1) (N := MX12_smooth) (As := [.int (xs (nI i + nI 1).toNatClampNeg)]) (rest := []) (T := TX12) (NN := 19) hZ hT hP hAE hS hl.1 (y_X12_smooth_W (xs (nI i + nI 1).toNatClampNeg) S2 hJ2) dL_law_633 ⟨⟨rfl, rfl, Nat.le_of_ble_eq_true rfl, Nat.le_of_ble_eq_true rfl⟩, cwX12_smooth, iwX12_smooth, ⟨by decide, by decide⟩, by decide +kernel⟩ lk_88 mwX12_smooth ewX12_smooth (by decide) rfl rfl rfl rfl (Nat.le_of_ble_eq_true rfl) ?_
  rintro _ S3 H2 locs2 ⟨⟨y1, rfl⟩, hJ3, hm3⟩ hP hS
  have hI3 : zs_Iw S3 := hI.st hf1 hJ3 hm3
  refine lv_pop hx hb dL_law_636 rfl ?_
  refine lv_goto (tgt := 1157) hx hb dL_law_637 (by decide) ?_
  exact kend _ _ _ hI3 hP hS
set_option maxRecDepth 100000 in
theorem lk_89 : Cond.methodLink R_law 89 yX11_seen ∈ zs_tbl := zs_iq3 237 rfl rfl
set_option maxRecDepth 100000 in
theorem lk_92 : Cond.methodLink R_law 92 yX12_seen ∈ zs_tbl := zs_iq6 4 rfl rfl
set_option maxRecDepth 100000 in
theorem lcase_18 {p : Program} {e : Env} {s : State} {m : MethodId} {below : List Frame} {meth : Method} {c : Code} {l : Launch} {b L : Nat} {xs : Nat → Int32} (C0 : lw_At p s m meth c b L xs) (hL : L ≤ 2560) {E : zs_E} {H : Heap} {locs : List Loc} {ls : Array Slot} {QQ : State → Prop} (hZ : zs_Z E s) (hT : zs_T E.2.2.2 (fun q : Nat => s.heap.size ≤ q) s s.heap) {S : zs_S} (hI : zs_Iw S) (hP : va_P (zs_D E) vwCl (zs_ws E S) H) (hAE : ∀ x, zs_A E x → s.heap.size ≤ x) (hS : va_S (fun q : Nat => s.heap.size ≤ q) s.heap H locs) {i : Nat} (hi : i + 5 ≤ L) (hl : lv_has ls 4 [(3, .int (nI i)), (2, .ref (E.2.2.2 80)), (1, .ref (E.2.2.2 0)), (0, .ref b)]) (kend : ∀ (S : zs_S) (H : Heap) (locs : List Loc), zs_Iw S → va_P (zs_D E) vwCl (zs_ws E S) H → va_S (fun q : Nat => s.heap.size ≤ q) s.heap H locs → W p l e room_1 s m #[Value.ref b] below meth c H locs 90 4068 QQ (F0 m 1157 ls [])) : W p l e room_1 s m #[Value.ref b] below meth c H locs 90 4068 QQ (F0 m 640 ls []) := by
  obtain ⟨hx, hb, hr, hml, hown, hts0, hX, hbl, hlocks, hgv⟩ := id C0
  have hbA : ¬ (fun q : Nat => s.heap.size ≤ q) b := Nat.not_le.mpr hbl
  refine lv_aload_n hx hb dL_law_640 rfl (lv_at hl 2 rfl) ?_
  refine lv_aload_n hx hb dL_law_641 rfl (lv_at hl 3 rfl) ?_
  refine lv_iload_n hx hb dL_law_642 rfl (lv_at hl 0 rfl) ?_
  refine lv_iconst (v := nI 1) hx hb dL_law_643 (by decide) ?_
  refine lv_iadd hx hb dL_law_644 ?_
  refine va_sld hx hb hX hbl hbA hS (zs_vi (c := 1) (by omega) (by omega)) dL_law_645 ?_
  refine lv_aload_n hx hb dL_law_646 rfl (lv_at hl 3 rfl) ?_
  refine lv_iload_n hx hb dL_law_647 rfl (lv_at hl 0 rfl) ?_
  refine lv_iconst (v := nI 2) hx hb dL_law_648 (by decide) ?_
  refine lv_iadd hx hb dL_law_649 ?_
  refine va_sld hx hb hX hbl hbA hS (zs_vi (c := 2) (by omega) (by omega)) dL_law_650 ?_
  obtain ⟨mm, -, h9m, hmm⟩ := hI.1.1.1 82 8 0 6 rfl
  refine lw_call C0 (n := 2) (N := MX11_seen) (As := [.int (xs (nI i + nI 1).toNatClampNeg), .int (xs (nI i + nI 2).toNatClampNeg)]) (rest := []) (T := TX11) (NN := 18) hZ hT hP hAE hS hl.1 (c_seenW S (xs (nI i + nI 1).toNatClampNeg) (xs (nI i + nI 2).toNatClampNeg) mm (hI.2.1.2.1.1.trans hmm) h9m) dL_law_651 ⟨⟨rfl, rfl, Nat.le_of_ble_eq_true rfl, Nat.le_of_ble_eq_true rfl⟩, cwX11_seen, iwX11_seen, ⟨by decide, by decide⟩, by decide +kernel⟩ lk_89 mwX11_seen ewX11_seen (by decide) rfl rfl rfl rfl (Nat.le_of_ble_eq_true rfl) ?_
  rintro _ S2 H1 locs1 ⟨x1, rfl, hc1⟩ hP hS
  have hJ2 : zs_J S2 := (zs_fPn (zs_nPr (by omega) (by omega)) hc1.1).q.j hI.1
  refine lv_pop hx hb dL_law_654 rfl ?_
  refine lv_aload_n hx hb dL_law_655 rfl (lv_at hl 1 rfl) ?_
  refine lv_aload_n hx hb dL_law_656 rfl (lv_at hl 3 rfl) ?_
  refine lv_iload_n hx hb dL_law_657 rfl (lv_at hl 0 rfl) ?_
  refine lv_iconst (v := nI 1) hx hb dL_law_658 (by decide) ?_
  refine lv_iadd hx hb dL_law_659 ?_
  refine va_sld hx hb hX hbl hbA hS (zs_vi (c := 1) (by omega) (by omega)) dL_law_660 ?_
  refine lv_aload_n hx hb dL_law_661 rfl (lv_at hl 3 rfl) ?_
  refine lv_iload_n hx hb dL_law_662 rfl (lv_at hl 0 rfl) ?_
  refine lv_iconst (v := nI 2) hx hb dL_law_663 (by decide) ?_
  refine lv_iadd hx hb dL_law_664 ?_
  refine va_sld hx hb hX hbl hbA hS (zs_vi (c := 2) (by omega) (by omega)) dL_law_665 ?_
  refine lw_call C0 (n := 2) (N := MX12_seen) (As := [.int (xs (nI i + nI 1).toNatClampNeg), .int (xs (nI i + nI 2).toNatClampNeg)]) (rest := []) (T := TX12) (NN := 19) hZ hT hP hAE hS hl.1 (y_seenW (xs (nI i + nI 1).toNatClampNeg) (xs (nI i + nI 2).toNatClampNeg) S2 hJ2 mm (((zs_fPn (zs_nPr (by omega) (by omega)) hc1.1).q 82 8 (by decide)).1.trans hmm) h9m) dL_law_666 ⟨⟨rfl, rfl, Nat.le_of_ble_eq_true rfl, Nat.le_of_ble_eq_true rfl⟩, cwX12_seen, iwX12_seen, ⟨by decide, by decide⟩, by decide +kernel⟩ lk_92 mwX12_seen ewX12_seen (by decide) rfl rfl rfl rfl (Nat.le_of_ble_eq_true rfl) ?_
  rintro _ S3 H2 locs2 ⟨y1, rfl, hc2⟩ hP hS
  have hI3 := hI.seen hmm hc1 hc2
  refine lv_pop hx hb dL_law_669 rfl ?_
  refine lv_goto (tgt := 1157) hx hb dL_law_670 (by decide) ?_
  exact kend _ _ _ hI3.1 hP hS
set_option maxRecDepth 100000 in
theorem lk_93 : Cond.methodLink R_law 93 yX11_began ∈ zs_tbl := zs_iq4 10 rfl rfl
set_option maxRecDepth 100000 in
theorem lk_96 : Cond.methodLink R_law 96 yX12_began ∈ zs_tbl := zs_iq6 9 rfl rfl
set_option maxRecDepth 100000 in
theorem lcase_19 {p : Program} {e : Env} {s : State} {m : MethodId} {below : List Frame} {meth : Method} {c : Code} {l : Launch} {b L : Nat} {xs : Nat → Int32} (C0 : lw_At p s m meth c b L xs) (hL : L ≤ 2560) {E : zs_E} {H : Heap} {locs : List Loc} {ls : Array Slot} {QQ : State → Prop} (hZ : zs_Z E s) (hT : zs_T E.2.2.2 (fun q : Nat => s.heap.size ≤ q) s s.heap) {S : zs_S} (hI : zs_Iw S) (hP : va_P (zs_D E) vwCl (zs_ws E S) H) (hAE : ∀ x, zs_A E x → s.heap.size ≤ x) (hS : va_S (fun q : Nat => s.heap.size ≤ q) s.heap H locs) {i : Nat} (hi : i + 5 ≤ L) (hl : lv_has ls 4 [(3, .int (nI i)), (2, .ref (E.2.2.2 80)), (1, .ref (E.2.2.2 0)), (0, .ref b)]) (kend : ∀ (S : zs_S) (H : Heap) (locs : List Loc), zs_Iw S → va_P (zs_D E) vwCl (zs_ws E S) H → va_S (fun q : Nat => s.heap.size ≤ q) s.heap H locs → W p l e room_1 s m #[Value.ref b] below meth c H locs 90 4068 QQ (F0 m 1157 ls [])) : W p l e room_1 s m #[Value.ref b] below meth c H locs 90 4068 QQ (F0 m 673 ls []) := by
  obtain ⟨hx, hb, hr, hml, hown, hts0, hX, hbl, hlocks, hgv⟩ := id C0
  have hbA : ¬ (fun q : Nat => s.heap.size ≤ q) b := Nat.not_le.mpr hbl
  refine lv_aload_n hx hb dL_law_673 rfl (lv_at hl 2 rfl) ?_
  refine lv_aload_n hx hb dL_law_674 rfl (lv_at hl 3 rfl) ?_
  refine lv_iload_n hx hb dL_law_675 rfl (lv_at hl 0 rfl) ?_
  refine lv_iconst (v := nI 1) hx hb dL_law_676 (by decide) ?_
  refine lv_iadd hx hb dL_law_677 ?_
  refine va_sld hx hb hX hbl hbA hS (zs_vi (c := 1) (by omega) (by omega)) dL_law_678 ?_
  refine lw_call C0 (n := 1) (N := MX11_began) (As := [.int (xs (nI i + nI 1).toNatClampNeg)]) (rest := []) (T := TX11) (NN := 18) hZ hT hP hAE hS hl.1 (v_X11_began_0_W (xs (nI i + nI 1).toNatClampNeg) S) dL_law_679 ⟨⟨rfl, rfl, Nat.le_of_ble_eq_true rfl, Nat.le_of_ble_eq_true rfl⟩, cwX11_began, iwX11_began, ⟨by decide, by decide⟩, by decide +kernel⟩ lk_93 mwX11_began ewX11_began (by decide) rfl rfl rfl rfl (Nat.le_of_ble_eq_true rfl) ?_
  rintro _ S2 H1 locs1 ⟨⟨x1, rfl⟩, hf1⟩ hP hS
  have hJ2 : zs_J S2 := hf1.n.q.j hI.1
  refine lv_pop hx hb dL_law_682 rfl ?_
  refine lv_aload_n hx hb dL_law_683 rfl (lv_at hl 1 rfl) ?_
  refine lv_aload_n hx hb dL_law_684 rfl (lv_at hl 3 rfl) ?_
  refine lv_iload_n hx hb dL_law_685 rfl (lv_at hl 0 rfl) ?_
  refine lv_iconst (v := nI 1) hx hb dL_law_686 (by decide) ?_
  refine lv_iadd hx hb dL_law_687 ?_
  refine va_sld hx hb hX hbl hbA hS (zs_vi (c := 1) (by omega) (by omega)) dL_law_688 ?_
  refine lw_call C0 (n := 1) (N := MX12_began) (As := [.int (xs (nI i + nI 1).toNatClampNeg)]) (rest := []) (T := TX12) (NN := 19) hZ hT hP hAE hS hl.1 (y_X12_began_W (xs (nI i + nI 1).toNatClampNeg) S2 hJ2) dL_law_689 ⟨⟨rfl, rfl, Nat.le_of_ble_eq_true rfl, Nat.le_of_ble_eq_true rfl⟩, cwX12_began, iwX12_began, ⟨by decide, by decide⟩, by decide +kernel⟩ lk_96 mwX12_began ewX12_began (by decide) rfl rfl rfl rfl (Nat.le_of_ble_eq_true rfl) ?_
  rintro _ S3 H2 locs2 ⟨⟨y1, rfl⟩, hJ3, hm3⟩ hP hS
  have hI3 : zs_Iw S3 := hI.st hf1 hJ3 hm3
  refine lv_pop hx hb dL_law_692 rfl ?_
  refine lv_goto (tgt := 1157) hx hb dL_law_693 (by decide) ?_
  exact kend _ _ _ hI3 hP hS
set_option maxRecDepth 100000 in
theorem lk_97 : Cond.methodLink R_law 97 yX11_tell ∈ zs_tbl := zs_iq4 39 rfl rfl
set_option maxRecDepth 100000 in
theorem lk_100 : Cond.methodLink R_law 100 yX12_tell ∈ zs_tbl := zs_iq6 21 rfl rfl
set_option maxRecDepth 100000 in
theorem lcase_20 {p : Program} {e : Env} {s : State} {m : MethodId} {below : List Frame} {meth : Method} {c : Code} {l : Launch} {b L : Nat} {xs : Nat → Int32} (C0 : lw_At p s m meth c b L xs) (hL : L ≤ 2560) {E : zs_E} {H : Heap} {locs : List Loc} {ls : Array Slot} {QQ : State → Prop} (hZ : zs_Z E s) (hT : zs_T E.2.2.2 (fun q : Nat => s.heap.size ≤ q) s s.heap) {S : zs_S} (hI : zs_Iw S) (hP : va_P (zs_D E) vwCl (zs_ws E S) H) (hAE : ∀ x, zs_A E x → s.heap.size ≤ x) (hS : va_S (fun q : Nat => s.heap.size ≤ q) s.heap H locs) {i : Nat} (hi : i + 5 ≤ L) (hl : lv_has ls 4 [(3, .int (nI i)), (2, .ref (E.2.2.2 80)), (1, .ref (E.2.2.2 0)), (0, .ref b)]) (kend : ∀ (S : zs_S) (H : Heap) (locs : List Loc), zs_Iw S → va_P (zs_D E) vwCl (zs_ws E S) H → va_S (fun q : Nat => s.heap.size ≤ q) s.heap H locs → W p l e room_1 s m #[Value.ref b] below meth c H locs 90 4068 QQ (F0 m 1157 ls [])) : W p l e room_1 s m #[Value.ref b] below meth c H locs 90 4068 QQ (F0 m 696 ls []) := by
  obtain ⟨hx, hb, hr, hml, hown, hts0, hX, hbl, hlocks, hgv⟩ := id C0
  have hbA : ¬ (fun q : Nat => s.heap.size ≤ q) b := Nat.not_le.mpr hbl
  refine lv_aload_n hx hb dL_law_696 rfl (lv_at hl 2 rfl) ?_
  refine lw_call C0 (n := 0) (N := MX11_tell) (As := []) (rest := []) (T := TX11) (NN := 18) hZ hT hP hAE hS hl.1 (v_X11_tell_0_W S) dL_law_697 ⟨⟨rfl, rfl, Nat.le_of_ble_eq_true rfl, Nat.le_of_ble_eq_true rfl⟩, cwX11_tell, iwX11_tell, ⟨by decide, by decide⟩, by decide +kernel⟩ lk_97 mwX11_tell ewX11_tell (by decide) rfl rfl rfl rfl (Nat.le_of_ble_eq_true rfl) ?_
  rintro _ S2 H1 locs1 ⟨⟨x1, rfl⟩, hf1⟩ hP hS
  have hJ2 : zs_J S2 := hf1.n.q.j hI.1
  refine lv_pop hx hb dL_law_700 rfl ?_
  refine lv_aload_n hx hb dL_law_701 rfl (lv_at hl 1 rfl) ?_
  refine lw_call C0 (n := 0) (N := MX12_tell) (As := []) (rest := []) (T := TX12) (NN := 19) hZ hT hP hAE hS hl.1 (y_X12_tell_W S2 hJ2) dL_law_702 ⟨⟨rfl, rfl, Nat.le_of_ble_eq_true rfl, Nat.le_of_ble_eq_true rfl⟩, cwX12_tell, iwX12_tell, ⟨by decide, by decide⟩, by decide +kernel⟩ lk_100 mwX12_tell ewX12_tell (by decide) rfl rfl rfl rfl (Nat.le_of_ble_eq_true rfl) ?_
  rintro _ S3 H2 locs2 ⟨⟨y1, rfl⟩, hJ3, hm3⟩ hP hS
  have hI3 : zs_Iw S3 := hI.st hf1 hJ3 hm3
  refine lv_pop hx hb dL_law_705 rfl ?_
  refine lv_goto (tgt := 1157) hx hb dL_law_706 (by decide) ?_
  exact kend _ _ _ hI3 hP hS
set_option maxRecDepth 100000 in
theorem lk_101 : Cond.methodLink R_law 101 yX11_note ∈ zs_tbl := zs_iq4 60 rfl rfl
set_option maxRecDepth 100000 in
theorem lk_105 : Cond.methodLink R_law 105 yX12_note ∈ zs_tbl := zs_iq6 25 rfl rfl
set_option maxRecDepth 100000 in
theorem lcase_21 {p : Program} {e : Env} {s : State} {m : MethodId} {below : List Frame} {meth : Method} {c : Code} {l : Launch} {b L : Nat} {xs : Nat → Int32} (C0 : lw_At p s m meth c b L xs) (hL : L ≤ 2560) {E : zs_E} {H : Heap} {locs : List Loc} {ls : Array Slot} {QQ : State → Prop} (hZ : zs_Z E s) (hT : zs_T E.2.2.2 (fun q : Nat => s.heap.size ≤ q) s s.heap) {S : zs_S} (hI : zs_Iw S) (hP : va_P (zs_D E) vwCl (zs_ws E S) H) (hAE : ∀ x, zs_A E x → s.heap.size ≤ x) (hS : va_S (fun q : Nat => s.heap.size ≤ q) s.heap H locs) {i : Nat} (hi : i + 5 ≤ L) (hl : lv_has ls 4 [(3, .int (nI i)), (2, .ref (E.2.2.2 80)), (1, .ref (E.2.2.2 0)), (0, .ref b)]) (kend : ∀ (S : zs_S) (H : Heap) (locs : List Loc), zs_Iw S → va_P (zs_D E) vwCl (zs_ws E S) H → va_S (fun q : Nat => s.heap.size ≤ q) s.heap H locs → W p l e room_1 s m #[Value.ref b] below meth c H locs 90 4068 QQ (F0 m 1157 ls [])) : W p l e room_1 s m #[Value.ref b] below meth c H locs 90 4068 QQ (F0 m 709 ls []) := by
  obtain ⟨hx, hb, hr, hml, hown, hts0, hX, hbl, hlocks, hgv⟩ := id C0
  have hbA : ¬ (fun q : Nat => s.heap.size ≤ q) b := Nat.not_le.mpr hbl
  refine lv_aload_n hx hb dL_law_709 rfl (lv_at hl 2 rfl) ?_
  refine lv_aload_n hx hb dL_law_710 rfl (lv_at hl 3 rfl) ?_
  refine lv_iload_n hx hb dL_law_711 rfl (lv_at hl 0 rfl) ?_
  refine lv_iconst (v := nI 1) hx hb dL_law_712 (by decide) ?_
  refine lv_iadd hx hb dL_law_713 ?_
  refine va_sld hx hb hX hbl hbA hS (zs_vi (c := 1) (by omega) (by omega)) dL_law_714 ?_
  refine lv_aload_n hx hb dL_law_715 rfl (lv_at hl 3 rfl) ?_
  refine lv_iload_n hx hb dL_law_716 rfl (lv_at hl 0 rfl) ?_
  refine lv_iconst (v := nI 2) hx hb dL_law_717 (by decide) ?_
  refine lv_iadd hx hb dL_law_718 ?_
  refine va_sld hx hb hX hbl hbA hS (zs_vi (c := 2) (by omega) (by omega)) dL_law_719 ?_
  refine lv_aload_n hx hb dL_law_720 rfl (lv_at hl 3 rfl) ?_
  refine lv_iload_n hx hb dL_law_721 rfl (lv_at hl 0 rfl) ?_
  refine lv_iconst (v := nI 3) hx hb dL_law_722 (by decide) ?_
  refine lv_iadd hx hb dL_law_723 ?_
  refine va_sld hx hb hX hbl hbA hS (zs_vi (c := 3) (by omega) (by omega)) dL_law_724 ?_
  refine lv_aload_n hx hb dL_law_725 rfl (lv_at hl 3 rfl) ?_
  refine lv_iload_n hx hb dL_law_726 rfl (lv_at hl 0 rfl) ?_
  refine lv_iconst (v := nI 4) hx hb dL_law_727 (by decide) ?_
  refine lv_iadd hx hb dL_law_728 ?_
  refine va_sld hx hb hX hbl hbA hS (zs_vi (c := 4) (by omega) (by omega)) dL_law_729 ?_
  obtain ⟨mm, -, h9m, hmm⟩ := hI.1.1.1 82 21 0 6 rfl
  refine lw_call C0 (n := 4) (N := MX11_note) (As := [.int (xs (nI i + nI 1).toNatClampNeg), .int (xs (nI i + nI 2).toNatClampNeg), .int (xs (nI i + nI 3).toNatClampNeg), .int (xs (nI i + nI 4).toNatClampNeg)]) (rest := []) (T := TX11) (NN := 18) hZ hT hP hAE hS hl.1 (c_noteW S (xs (nI i + nI 1).toNatClampNeg) (xs (nI i + nI 2).toNatClampNeg) (xs (nI i + nI 3).toNatClampNeg) (xs (nI i + nI 4).toNatClampNeg) mm (hI.2.1.2.1.2.1.trans hmm) h9m) dL_law_730 ⟨⟨rfl, rfl, Nat.le_of_ble_eq_true rfl, Nat.le_of_ble_eq_true rfl⟩, cwX11_note, iwX11_note, ⟨by decide, by decide⟩, by decide +kernel⟩ lk_101 mwX11_note ewX11_note (by decide) rfl rfl rfl rfl (Nat.le_of_ble_eq_true rfl) ?_
  rintro _ S2 H1 locs1 ⟨x1, rfl, hc1⟩ hP hS
  have hJ2 : zs_J S2 := (zs_fPn (zs_nPr (by omega) (by omega)) hc1.1).q.j hI.1
  refine lv_pop hx hb dL_law_733 rfl ?_
  refine lv_aload_n hx hb dL_law_734 rfl (lv_at hl 1 rfl) ?_
  refine lv_aload_n hx hb dL_law_735 rfl (lv_at hl 3 rfl) ?_
  refine lv_iload_n hx hb dL_law_736 rfl (lv_at hl 0 rfl) ?_
  refine lv_iconst (v := nI 1) hx hb dL_law_737 (by decide) ?_
  refine lv_iadd hx hb dL_law_738 ?_
  refine va_sld hx hb hX hbl hbA hS (zs_vi (c := 1) (by omega) (by omega)) dL_law_739 ?_
  refine lv_aload_n hx hb dL_law_740 rfl (lv_at hl 3 rfl) ?_
  refine lv_iload_n hx hb dL_law_741 rfl (lv_at hl 0 rfl) ?_
  refine lv_iconst (v := nI 2) hx hb dL_law_742 (by decide) ?_
  refine lv_iadd hx hb dL_law_743 ?_
  refine va_sld hx hb hX hbl hbA hS (zs_vi (c := 2) (by omega) (by omega)) dL_law_744 ?_
  refine lv_aload_n hx hb dL_law_745 rfl (lv_at hl 3 rfl) ?_
  refine lv_iload_n hx hb dL_law_746 rfl (lv_at hl 0 rfl) ?_
  refine lv_iconst (v := nI 3) hx hb dL_law_747 (by decide) ?_
  refine lv_iadd hx hb dL_law_748 ?_
  refine va_sld hx hb hX hbl hbA hS (zs_vi (c := 3) (by omega) (by omega)) dL_law_749 ?_
  refine lv_aload_n hx hb dL_law_750 rfl (lv_at hl 3 rfl) ?_
  refine lv_iload_n hx hb dL_law_751 rfl (lv_at hl 0 rfl) ?_
  refine lv_iconst (v := nI 4) hx hb dL_law_752 (by decide) ?_
  refine lv_iadd hx hb dL_law_753 ?_
  refine va_sld hx hb hX hbl hbA hS (zs_vi (c := 4) (by omega) (by omega)) dL_law_754 ?_
  refine lw_call C0 (n := 4) (N := MX12_note) (As := [.int (xs (nI i + nI 1).toNatClampNeg), .int (xs (nI i + nI 2).toNatClampNeg), .int (xs (nI i + nI 3).toNatClampNeg), .int (xs (nI i + nI 4).toNatClampNeg)]) (rest := []) (T := TX12) (NN := 19) hZ hT hP hAE hS hl.1 (y_noteW (xs (nI i + nI 1).toNatClampNeg) (xs (nI i + nI 2).toNatClampNeg) (xs (nI i + nI 3).toNatClampNeg) (xs (nI i + nI 4).toNatClampNeg) S2 hJ2 mm (((zs_fPn (zs_nPr (by omega) (by omega)) hc1.1).q 82 21 (by decide)).1.trans hmm) h9m) dL_law_755 ⟨⟨rfl, rfl, Nat.le_of_ble_eq_true rfl, Nat.le_of_ble_eq_true rfl⟩, cwX12_note, iwX12_note, ⟨by decide, by decide⟩, by decide +kernel⟩ lk_105 mwX12_note ewX12_note (by decide) rfl rfl rfl rfl (Nat.le_of_ble_eq_true rfl) ?_
  rintro _ S3 H2 locs2 ⟨y1, rfl, hc2⟩ hP hS
  have hI3 := hI.note hmm hc1 hc2
  refine lv_pop hx hb dL_law_758 rfl ?_
  refine lv_goto (tgt := 1157) hx hb dL_law_759 (by decide) ?_
  exact kend _ _ _ hI3.1 hP hS
set_option maxRecDepth 100000 in
theorem lk_106 : Cond.methodLink R_law 106 yX11_mark ∈ zs_tbl := zs_iq4 64 rfl rfl
set_option maxRecDepth 100000 in
theorem lk_109 : Cond.methodLink R_law 109 yX12_mark ∈ zs_tbl := zs_iq6 29 rfl rfl
set_option maxRecDepth 100000 in
theorem lcase_22 {p : Program} {e : Env} {s : State} {m : MethodId} {below : List Frame} {meth : Method} {c : Code} {l : Launch} {b L : Nat} {xs : Nat → Int32} (C0 : lw_At p s m meth c b L xs) (hL : L ≤ 2560) {E : zs_E} {H : Heap} {locs : List Loc} {ls : Array Slot} {QQ : State → Prop} (hZ : zs_Z E s) (hT : zs_T E.2.2.2 (fun q : Nat => s.heap.size ≤ q) s s.heap) {S : zs_S} (hI : zs_Iw S) (hP : va_P (zs_D E) vwCl (zs_ws E S) H) (hAE : ∀ x, zs_A E x → s.heap.size ≤ x) (hS : va_S (fun q : Nat => s.heap.size ≤ q) s.heap H locs) {i : Nat} (hi : i + 5 ≤ L) (hl : lv_has ls 4 [(3, .int (nI i)), (2, .ref (E.2.2.2 80)), (1, .ref (E.2.2.2 0)), (0, .ref b)]) (kend : ∀ (S : zs_S) (H : Heap) (locs : List Loc), zs_Iw S → va_P (zs_D E) vwCl (zs_ws E S) H → va_S (fun q : Nat => s.heap.size ≤ q) s.heap H locs → W p l e room_1 s m #[Value.ref b] below meth c H locs 90 4068 QQ (F0 m 1157 ls [])) : W p l e room_1 s m #[Value.ref b] below meth c H locs 90 4068 QQ (F0 m 762 ls []) := by
  obtain ⟨hx, hb, hr, hml, hown, hts0, hX, hbl, hlocks, hgv⟩ := id C0
  have hbA : ¬ (fun q : Nat => s.heap.size ≤ q) b := Nat.not_le.mpr hbl
  refine lv_aload_n hx hb dL_law_762 rfl (lv_at hl 2 rfl) ?_
  refine lv_aload_n hx hb dL_law_763 rfl (lv_at hl 3 rfl) ?_
  refine lv_iload_n hx hb dL_law_764 rfl (lv_at hl 0 rfl) ?_
  refine lv_iconst (v := nI 1) hx hb dL_law_765 (by decide) ?_
  refine lv_iadd hx hb dL_law_766 ?_
  refine va_sld hx hb hX hbl hbA hS (zs_vi (c := 1) (by omega) (by omega)) dL_law_767 ?_
  refine lv_aload_n hx hb dL_law_768 rfl (lv_at hl 3 rfl) ?_
  refine lv_iload_n hx hb dL_law_769 rfl (lv_at hl 0 rfl) ?_
  refine lv_iconst (v := nI 2) hx hb dL_law_770 (by decide) ?_
  refine lv_iadd hx hb dL_law_771 ?_
  refine va_sld hx hb hX hbl hbA hS (zs_vi (c := 2) (by omega) (by omega)) dL_law_772 ?_
  refine lv_aload_n hx hb dL_law_773 rfl (lv_at hl 3 rfl) ?_
  refine lv_iload_n hx hb dL_law_774 rfl (lv_at hl 0 rfl) ?_
  refine lv_iconst (v := nI 3) hx hb dL_law_775 (by decide) ?_
  refine lv_iadd hx hb dL_law_776 ?_
  refine va_sld hx hb hX hbl hbA hS (zs_vi (c := 3) (by omega) (by omega)) dL_law_777 ?_
  obtain ⟨mm, -, h9m, hmm⟩ := hI.1.1.1 82 46 0 6 rfl
  refine lw_call C0 (n := 3) (N := MX11_mark) (As := [.int (xs (nI i + nI 1).toNatClampNeg), .int (xs (nI i + nI 2).toNatClampNeg), .int (xs (nI i + nI 3).toNatClampNeg)]) (rest := []) (T := TX11) (NN := 18) hZ hT hP hAE hS hl.1 (c_markW S (xs (nI i + nI 1).toNatClampNeg) (xs (nI i + nI 2).toNatClampNeg) (xs (nI i + nI 3).toNatClampNeg) mm (hI.2.1.2.1.2.2.trans hmm) h9m) dL_law_778 ⟨⟨rfl, rfl, Nat.le_of_ble_eq_true rfl, Nat.le_of_ble_eq_true rfl⟩, cwX11_mark, iwX11_mark, ⟨by decide, by decide⟩, by decide +kernel⟩ lk_106 mwX11_mark ewX11_mark (by decide) rfl rfl rfl rfl (Nat.le_of_ble_eq_true rfl) ?_
  rintro _ S2 H1 locs1 ⟨x1, rfl, hc1⟩ hP hS
  have hJ2 : zs_J S2 := (zs_fPn (zs_nPr (by omega) (by omega)) hc1.1).q.j hI.1
  refine lv_pop hx hb dL_law_781 rfl ?_
  refine lv_aload_n hx hb dL_law_782 rfl (lv_at hl 1 rfl) ?_
  refine lv_aload_n hx hb dL_law_783 rfl (lv_at hl 3 rfl) ?_
  refine lv_iload_n hx hb dL_law_784 rfl (lv_at hl 0 rfl) ?_
  refine lv_iconst (v := nI 1) hx hb dL_law_785 (by decide) ?_
  refine lv_iadd hx hb dL_law_786 ?_
  refine va_sld hx hb hX hbl hbA hS (zs_vi (c := 1) (by omega) (by omega)) dL_law_787 ?_
  refine lv_aload_n hx hb dL_law_788 rfl (lv_at hl 3 rfl) ?_
  refine lv_iload_n hx hb dL_law_789 rfl (lv_at hl 0 rfl) ?_
  refine lv_iconst (v := nI 2) hx hb dL_law_790 (by decide) ?_
  refine lv_iadd hx hb dL_law_791 ?_
  refine va_sld hx hb hX hbl hbA hS (zs_vi (c := 2) (by omega) (by omega)) dL_law_792 ?_
  refine lv_aload_n hx hb dL_law_793 rfl (lv_at hl 3 rfl) ?_
  refine lv_iload_n hx hb dL_law_794 rfl (lv_at hl 0 rfl) ?_
  refine lv_iconst (v := nI 3) hx hb dL_law_795 (by decide) ?_
  refine lv_iadd hx hb dL_law_796 ?_
  refine va_sld hx hb hX hbl hbA hS (zs_vi (c := 3) (by omega) (by omega)) dL_law_797 ?_
  refine lw_call C0 (n := 3) (N := MX12_mark) (As := [.int (xs (nI i + nI 1).toNatClampNeg), .int (xs (nI i + nI 2).toNatClampNeg), .int (xs (nI i + nI 3).toNatClampNeg)]) (rest := []) (T := TX12) (NN := 19) hZ hT hP hAE hS hl.1 (y_markW (xs (nI i + nI 1).toNatClampNeg) (xs (nI i + nI 2).toNatClampNeg) (xs (nI i + nI 3).toNatClampNeg) S2 hJ2 mm (((zs_fPn (zs_nPr (by omega) (by omega)) hc1.1).q 82 46 (by decide)).1.trans hmm) h9m) dL_law_798 ⟨⟨rfl, rfl, Nat.le_of_ble_eq_true rfl, Nat.le_of_ble_eq_true rfl⟩, cwX12_mark, iwX12_mark, ⟨by decide, by decide⟩, by decide +kernel⟩ lk_109 mwX12_mark ewX12_mark (by decide) rfl rfl rfl rfl (Nat.le_of_ble_eq_true rfl) ?_
  rintro _ S3 H2 locs2 ⟨y1, rfl, hc2⟩ hP hS
  have hI3 := hI.mark hmm hc1 hc2
  refine lv_pop hx hb dL_law_801 rfl ?_
  refine lv_goto (tgt := 1157) hx hb dL_law_802 (by decide) ?_
  exact kend _ _ _ hI3.1 hP hS
set_option maxRecDepth 100000 in
theorem lk_110 : Cond.methodLink R_law 110 yX11_forget ∈ zs_tbl := zs_iq4 68 rfl rfl
set_option maxRecDepth 100000 in
theorem lk_113 : Cond.methodLink R_law 113 yX12_forget ∈ zs_tbl := zs_iq6 34 rfl rfl
set_option maxRecDepth 100000 in
theorem lcase_23 {p : Program} {e : Env} {s : State} {m : MethodId} {below : List Frame} {meth : Method} {c : Code} {l : Launch} {b L : Nat} {xs : Nat → Int32} (C0 : lw_At p s m meth c b L xs) (hL : L ≤ 2560) {E : zs_E} {H : Heap} {locs : List Loc} {ls : Array Slot} {QQ : State → Prop} (hZ : zs_Z E s) (hT : zs_T E.2.2.2 (fun q : Nat => s.heap.size ≤ q) s s.heap) {S : zs_S} (hI : zs_Iw S) (hP : va_P (zs_D E) vwCl (zs_ws E S) H) (hAE : ∀ x, zs_A E x → s.heap.size ≤ x) (hS : va_S (fun q : Nat => s.heap.size ≤ q) s.heap H locs) {i : Nat} (hi : i + 5 ≤ L) (hl : lv_has ls 4 [(3, .int (nI i)), (2, .ref (E.2.2.2 80)), (1, .ref (E.2.2.2 0)), (0, .ref b)]) (kend : ∀ (S : zs_S) (H : Heap) (locs : List Loc), zs_Iw S → va_P (zs_D E) vwCl (zs_ws E S) H → va_S (fun q : Nat => s.heap.size ≤ q) s.heap H locs → W p l e room_1 s m #[Value.ref b] below meth c H locs 90 4068 QQ (F0 m 1157 ls [])) : W p l e room_1 s m #[Value.ref b] below meth c H locs 90 4068 QQ (F0 m 805 ls []) := by
  obtain ⟨hx, hb, hr, hml, hown, hts0, hX, hbl, hlocks, hgv⟩ := id C0
  have hbA : ¬ (fun q : Nat => s.heap.size ≤ q) b := Nat.not_le.mpr hbl
  refine lv_aload_n hx hb dL_law_805 rfl (lv_at hl 2 rfl) ?_
  refine lv_aload_n hx hb dL_law_806 rfl (lv_at hl 3 rfl) ?_
  refine lv_iload_n hx hb dL_law_807 rfl (lv_at hl 0 rfl) ?_
  refine lv_iconst (v := nI 1) hx hb dL_law_808 (by decide) ?_
  refine lv_iadd hx hb dL_law_809 ?_
  refine va_sld hx hb hX hbl hbA hS (zs_vi (c := 1) (by omega) (by omega)) dL_law_810 ?_
  refine lw_call C0 (n := 1) (N := MX11_forget) (As := [.int (xs (nI i + nI 1).toNatClampNeg)]) (rest := []) (T := TX11) (NN := 18) hZ hT hP hAE hS hl.1 (c_forgetW S (xs (nI i + nI 1).toNatClampNeg)) dL_law_811 ⟨⟨rfl, rfl, Nat.le_of_ble_eq_true rfl, Nat.le_of_ble_eq_true rfl⟩, cwX11_forget, iwX11_forget, ⟨by decide, by decide⟩, by decide +kernel⟩ lk_110 mwX11_forget ewX11_forget (by decide) rfl rfl rfl rfl (Nat.le_of_ble_eq_true rfl) ?_
  rintro _ S2 H1 locs1 ⟨x1, rfl, hc1⟩ hP hS
  have hJ2 : zs_J S2 := (zs_fgt hc1).q.j hI.1
  refine lv_pop hx hb dL_law_814 rfl ?_
  refine lv_aload_n hx hb dL_law_815 rfl (lv_at hl 1 rfl) ?_
  refine lv_aload_n hx hb dL_law_816 rfl (lv_at hl 3 rfl) ?_
  refine lv_iload_n hx hb dL_law_817 rfl (lv_at hl 0 rfl) ?_
  refine lv_iconst (v := nI 1) hx hb dL_law_818 (by decide) ?_
  refine lv_iadd hx hb dL_law_819 ?_
  refine va_sld hx hb hX hbl hbA hS (zs_vi (c := 1) (by omega) (by omega)) dL_law_820 ?_
  refine lw_call C0 (n := 1) (N := MX12_forget) (As := [.int (xs (nI i + nI 1).toNatClampNeg)]) (rest := []) (T := TX12) (NN := 19) hZ hT hP hAE hS hl.1 (y_forgetW (xs (nI i + nI 1).toNatClampNeg) S2 hJ2) dL_law_821 ⟨⟨rfl, rfl, Nat.le_of_ble_eq_true rfl, Nat.le_of_ble_eq_true rfl⟩, cwX12_forget, iwX12_forget, ⟨by decide, by decide⟩, by decide +kernel⟩ lk_113 mwX12_forget ewX12_forget (by decide) rfl rfl rfl rfl (Nat.le_of_ble_eq_true rfl) ?_
  rintro _ S3 H2 locs2 ⟨y1, rfl, hc2⟩ hP hS
  have hI3 := hI.forget hc1 hc2
  refine lv_pop hx hb dL_law_824 rfl ?_
  refine lv_goto (tgt := 1157) hx hb dL_law_825 (by decide) ?_
  exact kend _ _ _ hI3.1 hP hS
set_option maxRecDepth 100000 in
theorem lk_114 : Cond.methodLink R_law 114 yX11_is ∈ zs_tbl := zs_iq4 73 rfl rfl
set_option maxRecDepth 100000 in
theorem lk_117 : Cond.methodLink R_law 117 yX12_is ∈ zs_tbl := zs_iq6 38 rfl rfl
set_option maxRecDepth 100000 in
theorem lcase_24 {p : Program} {e : Env} {s : State} {m : MethodId} {below : List Frame} {meth : Method} {c : Code} {l : Launch} {b L : Nat} {xs : Nat → Int32} (C0 : lw_At p s m meth c b L xs) (hL : L ≤ 2560) {E : zs_E} {H : Heap} {locs : List Loc} {ls : Array Slot} {QQ : State → Prop} (hZ : zs_Z E s) (hT : zs_T E.2.2.2 (fun q : Nat => s.heap.size ≤ q) s s.heap) {S : zs_S} (hI : zs_Iw S) (hP : va_P (zs_D E) vwCl (zs_ws E S) H) (hAE : ∀ x, zs_A E x → s.heap.size ≤ x) (hS : va_S (fun q : Nat => s.heap.size ≤ q) s.heap H locs) {i : Nat} (hi : i + 5 ≤ L) (hl : lv_has ls 4 [(3, .int (nI i)), (2, .ref (E.2.2.2 80)), (1, .ref (E.2.2.2 0)), (0, .ref b)]) (kend : ∀ (S : zs_S) (H : Heap) (locs : List Loc), zs_Iw S → va_P (zs_D E) vwCl (zs_ws E S) H → va_S (fun q : Nat => s.heap.size ≤ q) s.heap H locs → W p l e room_1 s m #[Value.ref b] below meth c H locs 90 4068 QQ (F0 m 1157 ls [])) : W p l e room_1 s m #[Value.ref b] below meth c H locs 90 4068 QQ (F0 m 828 ls []) := by
  obtain ⟨hx, hb, hr, hml, hown, hts0, hX, hbl, hlocks, hgv⟩ := id C0
  have hbA : ¬ (fun q : Nat => s.heap.size ≤ q) b := Nat.not_le.mpr hbl
  refine lv_aload_n hx hb dL_law_828 rfl (lv_at hl 2 rfl) ?_
  refine lv_aload_n hx hb dL_law_829 rfl (lv_at hl 3 rfl) ?_
  refine lv_iload_n hx hb dL_law_830 rfl (lv_at hl 0 rfl) ?_
  refine lv_iconst (v := nI 1) hx hb dL_law_831 (by decide) ?_
  refine lv_iadd hx hb dL_law_832 ?_
  refine va_sld hx hb hX hbl hbA hS (zs_vi (c := 1) (by omega) (by omega)) dL_law_833 ?_
  obtain ⟨ee, -, he5, hee⟩ := hI.1.1.1 82 2 0 5 rfl
  obtain ⟨mm, MM, hcM, hmM⟩ := hI.notes
  refine lw_call C0 (n := 1) (N := MX11_is) (As := [.int (xs (nI i + nI 1).toNatClampNeg)]) (rest := []) (T := TX11) (NN := 18) hZ hT hP hAE hS hl.1 (c_isW S (xs (nI i + nI 1).toNatClampNeg) ee (hI.2.1.1.2.2.trans hee) he5 MM mm hcM) dL_law_834 ⟨⟨rfl, rfl, Nat.le_of_ble_eq_true rfl, Nat.le_of_ble_eq_true rfl⟩, cwX11_is, iwX11_is, ⟨by decide, by decide⟩, by decide +kernel⟩ lk_114 mwX11_is ewX11_is (by decide) rfl rfl rfl rfl (Nat.le_of_ble_eq_true rfl) ?_
  rintro _ S2 H1 locs1 ⟨x1, rfl, hc1⟩ hP hS
  have hJ2 : zs_J S2 := hc1.1.n.q.j hI.1
  refine lv_pop hx hb dL_law_837 rfl ?_
  refine lv_aload_n hx hb dL_law_838 rfl (lv_at hl 1 rfl) ?_
  refine lv_aload_n hx hb dL_law_839 rfl (lv_at hl 3 rfl) ?_
  refine lv_iload_n hx hb dL_law_840 rfl (lv_at hl 0 rfl) ?_
  refine lv_iconst (v := nI 1) hx hb dL_law_841 (by decide) ?_
  refine lv_iadd hx hb dL_law_842 ?_
  refine va_sld hx hb hX hbl hbA hS (zs_vi (c := 1) (by omega) (by omega)) dL_law_843 ?_
  refine lw_call C0 (n := 1) (N := MX12_is) (As := [.int (xs (nI i + nI 1).toNatClampNeg)]) (rest := []) (T := TX12) (NN := 19) hZ hT hP hAE hS hl.1 (y_isW (xs (nI i + nI 1).toNatClampNeg) S2 hJ2 ee ((hc1.1.n.q 82 2 (by decide)).1.trans hee) he5 MM mm (hmM.q hc1.1.n.q)) dL_law_844 ⟨⟨rfl, rfl, Nat.le_of_ble_eq_true rfl, Nat.le_of_ble_eq_true rfl⟩, cwX12_is, iwX12_is, ⟨by decide, by decide⟩, by decide +kernel⟩ lk_117 mwX12_is ewX12_is (by decide) rfl rfl rfl rfl (Nat.le_of_ble_eq_true rfl) ?_
  rintro _ S3 H2 locs2 ⟨y1, rfl, hc2⟩ hP hS
  have hI3 : zs_Iw S3 ∧ x1 = y1 := ⟨hI.st hc1.1 hc2.1 hc2.2.1, zs_isE ((hc1.1.n.q 82 2 (by decide)).1.trans hI.2.1.1.2.2.symm) (hI.2.1.1.2.2.trans hee) he5 hc1.2 hc2.2.2⟩
  refine lv_pop hx hb dL_law_847 rfl ?_
  refine lv_goto (tgt := 1157) hx hb dL_law_848 (by decide) ?_
  exact kend _ _ _ hI3.1 hP hS
set_option maxRecDepth 100000 in
theorem lk_118 : Cond.methodLink R_law 118 yX11_look ∈ zs_tbl := zs_iq4 87 rfl rfl
set_option maxRecDepth 100000 in
theorem lk_121 : Cond.methodLink R_law 121 yX12_look ∈ zs_tbl := zs_iq6 46 rfl rfl
set_option maxRecDepth 100000 in
theorem lcase_25 {p : Program} {e : Env} {s : State} {m : MethodId} {below : List Frame} {meth : Method} {c : Code} {l : Launch} {b L : Nat} {xs : Nat → Int32} (C0 : lw_At p s m meth c b L xs) (hL : L ≤ 2560) {E : zs_E} {H : Heap} {locs : List Loc} {ls : Array Slot} {QQ : State → Prop} (hZ : zs_Z E s) (hT : zs_T E.2.2.2 (fun q : Nat => s.heap.size ≤ q) s s.heap) {S : zs_S} (hI : zs_Iw S) (hP : va_P (zs_D E) vwCl (zs_ws E S) H) (hAE : ∀ x, zs_A E x → s.heap.size ≤ x) (hS : va_S (fun q : Nat => s.heap.size ≤ q) s.heap H locs) {i : Nat} (hi : i + 5 ≤ L) (hl : lv_has ls 4 [(3, .int (nI i)), (2, .ref (E.2.2.2 80)), (1, .ref (E.2.2.2 0)), (0, .ref b)]) (kend : ∀ (S : zs_S) (H : Heap) (locs : List Loc), zs_Iw S → va_P (zs_D E) vwCl (zs_ws E S) H → va_S (fun q : Nat => s.heap.size ≤ q) s.heap H locs → W p l e room_1 s m #[Value.ref b] below meth c H locs 90 4068 QQ (F0 m 1157 ls [])) : W p l e room_1 s m #[Value.ref b] below meth c H locs 90 4068 QQ (F0 m 851 ls []) := by
  obtain ⟨hx, hb, hr, hml, hown, hts0, hX, hbl, hlocks, hgv⟩ := id C0
  have hbA : ¬ (fun q : Nat => s.heap.size ≤ q) b := Nat.not_le.mpr hbl
  refine lv_aload_n hx hb dL_law_851 rfl (lv_at hl 2 rfl) ?_
  refine lv_aload_n hx hb dL_law_852 rfl (lv_at hl 3 rfl) ?_
  refine lv_iload_n hx hb dL_law_853 rfl (lv_at hl 0 rfl) ?_
  refine lv_iconst (v := nI 1) hx hb dL_law_854 (by decide) ?_
  refine lv_iadd hx hb dL_law_855 ?_
  refine va_sld hx hb hX hbl hbA hS (zs_vi (c := 1) (by omega) (by omega)) dL_law_856 ?_
  obtain ⟨ee, -, he5, hee⟩ := hI.1.1.1 82 2 0 5 rfl
  obtain ⟨mm, MM, hcM, hmM⟩ := hI.notes
  refine lw_call C0 (n := 1) (N := MX11_look) (As := [.int (xs (nI i + nI 1).toNatClampNeg)]) (rest := []) (T := TX11) (NN := 18) hZ hT hP hAE hS hl.1 (c_lookW S (xs (nI i + nI 1).toNatClampNeg) ee (hI.2.1.1.2.2.trans hee) he5 MM mm hcM) dL_law_857 ⟨⟨rfl, rfl, Nat.le_of_ble_eq_true rfl, Nat.le_of_ble_eq_true rfl⟩, cwX11_look, iwX11_look, ⟨by decide, by decide⟩, by decide +kernel⟩ lk_118 mwX11_look ewX11_look (by decide) rfl rfl rfl rfl (Nat.le_of_ble_eq_true rfl) ?_
  rintro _ S2 H1 locs1 ⟨x1, rfl, hc1⟩ hP hS
  have hJ2 : zs_J S2 := hc1.1.n.q.j hI.1
  refine lv_aload_n hx hb dL_law_860 rfl (lv_at hl 1 rfl) ?_
  refine lv_aload_n hx hb dL_law_861 rfl (lv_at hl 3 rfl) ?_
  refine lv_iload_n hx hb dL_law_862 rfl (lv_at hl 0 rfl) ?_
  refine lv_iconst (v := nI 1) hx hb dL_law_863 (by decide) ?_
  refine lv_iadd hx hb dL_law_864 ?_
  refine va_sld hx hb hX hbl hbA hS (zs_vi (c := 1) (by omega) (by omega)) dL_law_865 ?_
  refine lw_call C0 (n := 1) (N := MX12_look) (As := [.int (xs (nI i + nI 1).toNatClampNeg)]) (rest := [.int x1]) (T := TX12) (NN := 19) hZ hT hP hAE hS hl.1 (y_lookW (xs (nI i + nI 1).toNatClampNeg) S2 hJ2 ee ((hc1.1.n.q 82 2 (by decide)).1.trans hee) he5 MM mm (hmM.q hc1.1.n.q)) dL_law_866 ⟨⟨rfl, rfl, Nat.le_of_ble_eq_true rfl, Nat.le_of_ble_eq_true rfl⟩, cwX12_look, iwX12_look, ⟨by decide, by decide⟩, by decide +kernel⟩ lk_121 mwX12_look ewX12_look (by decide) rfl rfl rfl rfl (Nat.le_of_ble_eq_true rfl) ?_
  rintro _ S3 H2 locs2 ⟨y1, rfl, hc2⟩ hP hS
  have hI3 : zs_Iw S3 ∧ x1 = y1 := ⟨hI.st hc1.1 hc2.1 hc2.2.1, zs_isE ((hc1.1.n.q 82 2 (by decide)).1.trans hI.2.1.1.2.2.symm) (hI.2.1.1.2.2.trans hee) he5 hc1.2 hc2.2.2⟩
  exact lv_icmp_eq (tgt := 1157) hx hb dL_law_869 (by decide) (fun _ => kend _ _ _ hI3.1 hP hS) (fun z => absurd hI3.2 z)
set_option maxRecDepth 100000 in
theorem lk_122 : Cond.methodLink R_law 122 yX11_kinds ∈ zs_tbl := zs_iq4 100 rfl rfl
set_option maxRecDepth 100000 in
theorem lk_125 : Cond.methodLink R_law 125 yX12_kinds ∈ zs_tbl := zs_iq6 53 rfl rfl
set_option maxRecDepth 100000 in
theorem lcase_26 {p : Program} {e : Env} {s : State} {m : MethodId} {below : List Frame} {meth : Method} {c : Code} {l : Launch} {b L : Nat} {xs : Nat → Int32} (C0 : lw_At p s m meth c b L xs) (hL : L ≤ 2560) {E : zs_E} {H : Heap} {locs : List Loc} {ls : Array Slot} {QQ : State → Prop} (hZ : zs_Z E s) (hT : zs_T E.2.2.2 (fun q : Nat => s.heap.size ≤ q) s s.heap) {S : zs_S} (hI : zs_Iw S) (hP : va_P (zs_D E) vwCl (zs_ws E S) H) (hAE : ∀ x, zs_A E x → s.heap.size ≤ x) (hS : va_S (fun q : Nat => s.heap.size ≤ q) s.heap H locs) {i : Nat} (hi : i + 5 ≤ L) (hl : lv_has ls 4 [(3, .int (nI i)), (2, .ref (E.2.2.2 80)), (1, .ref (E.2.2.2 0)), (0, .ref b)]) (kend : ∀ (S : zs_S) (H : Heap) (locs : List Loc), zs_Iw S → va_P (zs_D E) vwCl (zs_ws E S) H → va_S (fun q : Nat => s.heap.size ≤ q) s.heap H locs → W p l e room_1 s m #[Value.ref b] below meth c H locs 90 4068 QQ (F0 m 1157 ls [])) : W p l e room_1 s m #[Value.ref b] below meth c H locs 90 4068 QQ (F0 m 874 ls []) := by
  obtain ⟨hx, hb, hr, hml, hown, hts0, hX, hbl, hlocks, hgv⟩ := id C0
  have hbA : ¬ (fun q : Nat => s.heap.size ≤ q) b := Nat.not_le.mpr hbl
  refine lv_aload_n hx hb dL_law_874 rfl (lv_at hl 2 rfl) ?_
  obtain ⟨mm, MM, hcM, hmM⟩ := hI.marks
  refine lw_call C0 (n := 0) (N := MX11_kinds) (As := []) (rest := []) (T := TX11) (NN := 18) hZ hT hP hAE hS hl.1 (c_kindsW S MM mm hcM) dL_law_875 ⟨⟨rfl, rfl, Nat.le_of_ble_eq_true rfl, Nat.le_of_ble_eq_true rfl⟩, cwX11_kinds, iwX11_kinds, ⟨by decide, by decide⟩, by decide +kernel⟩ lk_122 mwX11_kinds ewX11_kinds (by decide) rfl rfl rfl rfl (Nat.le_of_ble_eq_true rfl) ?_
  rintro _ S2 H1 locs1 ⟨x1, rfl, hc1⟩ hP hS
  have hJ2 : zs_J S2 := hc1.1.n.q.j hI.1
  refine lv_pop hx hb dL_law_878 rfl ?_
  refine lv_aload_n hx hb dL_law_879 rfl (lv_at hl 1 rfl) ?_
  refine lw_call C0 (n := 0) (N := MX12_kinds) (As := []) (rest := []) (T := TX12) (NN := 19) hZ hT hP hAE hS hl.1 (y_kindsW S2 hJ2 MM mm (hmM.q hc1.1.n.q)) dL_law_880 ⟨⟨rfl, rfl, Nat.le_of_ble_eq_true rfl, Nat.le_of_ble_eq_true rfl⟩, cwX12_kinds, iwX12_kinds, ⟨by decide, by decide⟩, by decide +kernel⟩ lk_125 mwX12_kinds ewX12_kinds (by decide) rfl rfl rfl rfl (Nat.le_of_ble_eq_true rfl) ?_
  rintro _ S3 H2 locs2 ⟨y1, rfl, hc2⟩ hP hS
  have hI3 : zs_Iw S3 ∧ x1 = y1 := ⟨hI.st hc1.1 hc2.1 hc2.2.1, hc1.2.trans hc2.2.2.symm⟩
  refine lv_pop hx hb dL_law_883 rfl ?_
  refine lv_goto (tgt := 1157) hx hb dL_law_884 (by decide) ?_
  exact kend _ _ _ hI3.1 hP hS
set_option maxRecDepth 100000 in
theorem lk_126 : Cond.methodLink R_law 126 yX11_ask ∈ zs_tbl := zs_iq4 113 rfl rfl
set_option maxRecDepth 100000 in
theorem lk_129 : Cond.methodLink R_law 129 yX12_ask ∈ zs_tbl := zs_iq6 57 rfl rfl
set_option maxRecDepth 100000 in
theorem lcase_27 {p : Program} {e : Env} {s : State} {m : MethodId} {below : List Frame} {meth : Method} {c : Code} {l : Launch} {b L : Nat} {xs : Nat → Int32} (C0 : lw_At p s m meth c b L xs) (hL : L ≤ 2560) {E : zs_E} {H : Heap} {locs : List Loc} {ls : Array Slot} {QQ : State → Prop} (hZ : zs_Z E s) (hT : zs_T E.2.2.2 (fun q : Nat => s.heap.size ≤ q) s s.heap) {S : zs_S} (hI : zs_Iw S) (hP : va_P (zs_D E) vwCl (zs_ws E S) H) (hAE : ∀ x, zs_A E x → s.heap.size ≤ x) (hS : va_S (fun q : Nat => s.heap.size ≤ q) s.heap H locs) {i : Nat} (hi : i + 5 ≤ L) (hl : lv_has ls 4 [(3, .int (nI i)), (2, .ref (E.2.2.2 80)), (1, .ref (E.2.2.2 0)), (0, .ref b)]) (kend : ∀ (S : zs_S) (H : Heap) (locs : List Loc), zs_Iw S → va_P (zs_D E) vwCl (zs_ws E S) H → va_S (fun q : Nat => s.heap.size ≤ q) s.heap H locs → W p l e room_1 s m #[Value.ref b] below meth c H locs 90 4068 QQ (F0 m 1157 ls [])) : W p l e room_1 s m #[Value.ref b] below meth c H locs 90 4068 QQ (F0 m 887 ls []) := by
  obtain ⟨hx, hb, hr, hml, hown, hts0, hX, hbl, hlocks, hgv⟩ := id C0
  have hbA : ¬ (fun q : Nat => s.heap.size ≤ q) b := Nat.not_le.mpr hbl
  refine lv_aload_n hx hb dL_law_887 rfl (lv_at hl 2 rfl) ?_
  obtain ⟨mm, MM, hcM, hmM⟩ := hI.marks
  refine lw_call C0 (n := 0) (N := MX11_ask) (As := []) (rest := []) (T := TX11) (NN := 18) hZ hT hP hAE hS hl.1 (c_askW S MM mm hcM) dL_law_888 ⟨⟨rfl, rfl, Nat.le_of_ble_eq_true rfl, Nat.le_of_ble_eq_true rfl⟩, cwX11_ask, iwX11_ask, ⟨by decide, by decide⟩, by decide +kernel⟩ lk_126 mwX11_ask ewX11_ask (by decide) rfl rfl rfl rfl (Nat.le_of_ble_eq_true rfl) ?_
  rintro _ S2 H1 locs1 ⟨x1, rfl, hc1⟩ hP hS
  have hJ2 : zs_J S2 := hc1.1.n.q.j hI.1
  refine lv_pop hx hb dL_law_891 rfl ?_
  refine lv_aload_n hx hb dL_law_892 rfl (lv_at hl 1 rfl) ?_
  refine lw_call C0 (n := 0) (N := MX12_ask) (As := []) (rest := []) (T := TX12) (NN := 19) hZ hT hP hAE hS hl.1 (y_askW S2 hJ2 MM mm (hmM.q hc1.1.n.q)) dL_law_893 ⟨⟨rfl, rfl, Nat.le_of_ble_eq_true rfl, Nat.le_of_ble_eq_true rfl⟩, cwX12_ask, iwX12_ask, ⟨by decide, by decide⟩, by decide +kernel⟩ lk_129 mwX12_ask ewX12_ask (by decide) rfl rfl rfl rfl (Nat.le_of_ble_eq_true rfl) ?_
  rintro _ S3 H2 locs2 ⟨y1, rfl, hc2⟩ hP hS
  have hI3 : zs_Iw S3 ∧ x1 = y1 := ⟨hI.st hc1.1 hc2.1 hc2.2.1, hc1.2.trans hc2.2.2.symm⟩
  refine lv_pop hx hb dL_law_896 rfl ?_
  refine lv_goto (tgt := 1157) hx hb dL_law_897 (by decide) ?_
  exact kend _ _ _ hI3.1 hP hS
set_option maxRecDepth 100000 in
theorem lk_130 : Cond.methodLink R_law 130 yX11_hands ∈ zs_tbl := zs_iq4 125 rfl rfl
set_option maxRecDepth 100000 in
theorem lk_133 : Cond.methodLink R_law 133 yX12_hands ∈ zs_tbl := zs_iq6 62 rfl rfl
set_option maxRecDepth 100000 in
theorem lcase_28 {p : Program} {e : Env} {s : State} {m : MethodId} {below : List Frame} {meth : Method} {c : Code} {l : Launch} {b L : Nat} {xs : Nat → Int32} (C0 : lw_At p s m meth c b L xs) (hL : L ≤ 2560) {E : zs_E} {H : Heap} {locs : List Loc} {ls : Array Slot} {QQ : State → Prop} (hZ : zs_Z E s) (hT : zs_T E.2.2.2 (fun q : Nat => s.heap.size ≤ q) s s.heap) {S : zs_S} (hI : zs_Iw S) (hP : va_P (zs_D E) vwCl (zs_ws E S) H) (hAE : ∀ x, zs_A E x → s.heap.size ≤ x) (hS : va_S (fun q : Nat => s.heap.size ≤ q) s.heap H locs) {i : Nat} (hi : i + 5 ≤ L) (hl : lv_has ls 4 [(3, .int (nI i)), (2, .ref (E.2.2.2 80)), (1, .ref (E.2.2.2 0)), (0, .ref b)]) (kend : ∀ (S : zs_S) (H : Heap) (locs : List Loc), zs_Iw S → va_P (zs_D E) vwCl (zs_ws E S) H → va_S (fun q : Nat => s.heap.size ≤ q) s.heap H locs → W p l e room_1 s m #[Value.ref b] below meth c H locs 90 4068 QQ (F0 m 1157 ls [])) : W p l e room_1 s m #[Value.ref b] below meth c H locs 90 4068 QQ (F0 m 900 ls []) := by
  obtain ⟨hx, hb, hr, hml, hown, hts0, hX, hbl, hlocks, hgv⟩ := id C0
  have hbA : ¬ (fun q : Nat => s.heap.size ≤ q) b := Nat.not_le.mpr hbl
  refine lv_aload_n hx hb dL_law_900 rfl (lv_at hl 2 rfl) ?_
  refine lv_aload_n hx hb dL_law_901 rfl (lv_at hl 3 rfl) ?_
  refine lv_iload_n hx hb dL_law_902 rfl (lv_at hl 0 rfl) ?_
  refine lv_iconst (v := nI 1) hx hb dL_law_903 (by decide) ?_
  refine lv_iadd hx hb dL_law_904 ?_
  refine va_sld hx hb hX hbl hbA hS (zs_vi (c := 1) (by omega) (by omega)) dL_law_905 ?_
  refine lv_aload_n hx hb dL_law_906 rfl (lv_at hl 3 rfl) ?_
  refine lv_iload_n hx hb dL_law_907 rfl (lv_at hl 0 rfl) ?_
  refine lv_iconst (v := nI 2) hx hb dL_law_908 (by decide) ?_
  refine lv_iadd hx hb dL_law_909 ?_
  refine va_sld hx hb hX hbl hbA hS (zs_vi (c := 2) (by omega) (by omega)) dL_law_910 ?_
  refine lv_aload_n hx hb dL_law_911 rfl (lv_at hl 3 rfl) ?_
  refine lv_iload_n hx hb dL_law_912 rfl (lv_at hl 0 rfl) ?_
  refine lv_iconst (v := nI 3) hx hb dL_law_913 (by decide) ?_
  refine lv_iadd hx hb dL_law_914 ?_
  refine va_sld hx hb hX hbl hbA hS (zs_vi (c := 3) (by omega) (by omega)) dL_law_915 ?_
  refine lw_call C0 (n := 3) (N := MX11_hands) (As := [.int (xs (nI i + nI 1).toNatClampNeg), .int (xs (nI i + nI 2).toNatClampNeg), .int (xs (nI i + nI 3).toNatClampNeg)]) (rest := []) (T := TX11) (NN := 18) hZ hT hP hAE hS hl.1 (v_X11_hands_0_W (xs (nI i + nI 1).toNatClampNeg) (xs (nI i + nI 2).toNatClampNeg) (xs (nI i + nI 3).toNatClampNeg) S) dL_law_916 ⟨⟨rfl, rfl, Nat.le_of_ble_eq_true rfl, Nat.le_of_ble_eq_true rfl⟩, cwX11_hands, iwX11_hands, ⟨by decide, by decide⟩, by decide +kernel⟩ lk_130 mwX11_hands ewX11_hands (by decide) rfl rfl rfl rfl (Nat.le_of_ble_eq_true rfl) ?_
  rintro _ S2 H1 locs1 ⟨⟨x1, rfl⟩, hf1⟩ hP hS
  have hJ2 : zs_J S2 := hf1.n.q.j hI.1
  refine lv_pop hx hb dL_law_919 rfl ?_
  refine lv_aload_n hx hb dL_law_920 rfl (lv_at hl 1 rfl) ?_
  refine lv_aload_n hx hb dL_law_921 rfl (lv_at hl 3 rfl) ?_
  refine lv_iload_n hx hb dL_law_922 rfl (lv_at hl 0 rfl) ?_
  refine lv_iconst (v := nI 1) hx hb dL_law_923 (by decide) ?_
  refine lv_iadd hx hb dL_law_924 ?_
  refine va_sld hx hb hX hbl hbA hS (zs_vi (c := 1) (by omega) (by omega)) dL_law_925 ?_
  refine lv_aload_n hx hb dL_law_926 rfl (lv_at hl 3 rfl) ?_
  refine lv_iload_n hx hb dL_law_927 rfl (lv_at hl 0 rfl) ?_
  refine lv_iconst (v := nI 2) hx hb dL_law_928 (by decide) ?_
  refine lv_iadd hx hb dL_law_929 ?_
  refine va_sld hx hb hX hbl hbA hS (zs_vi (c := 2) (by omega) (by omega)) dL_law_930 ?_
  refine lv_aload_n hx hb dL_law_931 rfl (lv_at hl 3 rfl) ?_
  refine lv_iload_n hx hb dL_law_932 rfl (lv_at hl 0 rfl) ?_
  refine lv_iconst (v := nI 3) hx hb dL_law_933 (by decide) ?_
  refine lv_iadd hx hb dL_law_934 ?_
  refine va_sld hx hb hX hbl hbA hS (zs_vi (c := 3) (by omega) (by omega)) dL_law_935 ?_
  refine lw_call C0 (n := 3) (N := MX12_hands) (As := [.int (xs (nI i + nI 1).toNatClampNeg), .int (xs (nI i + nI 2).toNatClampNeg), .int (xs (nI i + nI 3).toNatClampNeg)]) (rest := []) (T := TX12) (NN := 19) hZ hT hP hAE hS hl.1 (y_X12_hands_W (xs (nI i + nI 1).toNatClampNeg) (xs (nI i + nI 2).toNatClampNeg) (xs (nI i + nI 3).toNatClampNeg) S2 hJ2) dL_law_936 ⟨⟨rfl, rfl, Nat.le_of_ble_eq_true rfl, Nat.le_of_ble_eq_true rfl⟩, cwX12_hands, iwX12_hands, ⟨by decide, by decide⟩, by decide +kernel⟩ lk_133 mwX12_hands ewX12_hands (by decide) rfl rfl rfl rfl (Nat.le_of_ble_eq_true rfl) ?_
  rintro _ S3 H2 locs2 ⟨⟨y1, rfl⟩, hJ3, hm3⟩ hP hS
  have hI3 : zs_Iw S3 := hI.st hf1 hJ3 hm3
  refine lv_pop hx hb dL_law_939 rfl ?_
  refine lv_goto (tgt := 1157) hx hb dL_law_940 (by decide) ?_
  exact kend _ _ _ hI3 hP hS
set_option maxRecDepth 100000 in
theorem lk_134 : Cond.methodLink R_law 134 yX11_smear ∈ zs_tbl := zs_iq4 140 rfl rfl
set_option maxRecDepth 100000 in
theorem lk_137 : Cond.methodLink R_law 137 yX12_smear ∈ zs_tbl := zs_iq6 70 rfl rfl
set_option maxRecDepth 100000 in
theorem lcase_29 {p : Program} {e : Env} {s : State} {m : MethodId} {below : List Frame} {meth : Method} {c : Code} {l : Launch} {b L : Nat} {xs : Nat → Int32} (C0 : lw_At p s m meth c b L xs) (hL : L ≤ 2560) {E : zs_E} {H : Heap} {locs : List Loc} {ls : Array Slot} {QQ : State → Prop} (hZ : zs_Z E s) (hT : zs_T E.2.2.2 (fun q : Nat => s.heap.size ≤ q) s s.heap) {S : zs_S} (hI : zs_Iw S) (hP : va_P (zs_D E) vwCl (zs_ws E S) H) (hAE : ∀ x, zs_A E x → s.heap.size ≤ x) (hS : va_S (fun q : Nat => s.heap.size ≤ q) s.heap H locs) {i : Nat} (hi : i + 5 ≤ L) (hl : lv_has ls 4 [(3, .int (nI i)), (2, .ref (E.2.2.2 80)), (1, .ref (E.2.2.2 0)), (0, .ref b)]) (kend : ∀ (S : zs_S) (H : Heap) (locs : List Loc), zs_Iw S → va_P (zs_D E) vwCl (zs_ws E S) H → va_S (fun q : Nat => s.heap.size ≤ q) s.heap H locs → W p l e room_1 s m #[Value.ref b] below meth c H locs 90 4068 QQ (F0 m 1157 ls [])) : W p l e room_1 s m #[Value.ref b] below meth c H locs 90 4068 QQ (F0 m 943 ls []) := by
  obtain ⟨hx, hb, hr, hml, hown, hts0, hX, hbl, hlocks, hgv⟩ := id C0
  have hbA : ¬ (fun q : Nat => s.heap.size ≤ q) b := Nat.not_le.mpr hbl
  refine lv_aload_n hx hb dL_law_943 rfl (lv_at hl 2 rfl) ?_
  refine lv_aload_n hx hb dL_law_944 rfl (lv_at hl 3 rfl) ?_
  refine lv_iload_n hx hb dL_law_945 rfl (lv_at hl 0 rfl) ?_
  refine lv_iconst (v := nI 1) hx hb dL_law_946 (by decide) ?_
  refine lv_iadd hx hb dL_law_947 ?_
  refine va_sld hx hb hX hbl hbA hS (zs_vi (c := 1) (by omega) (by omega)) dL_law_948 ?_
  refine lv_aload_n hx hb dL_law_949 rfl (lv_at hl 3 rfl) ?_
  refine lv_iload_n hx hb dL_law_950 rfl (lv_at hl 0 rfl) ?_
  refine lv_iconst (v := nI 2) hx hb dL_law_951 (by decide) ?_
  refine lv_iadd hx hb dL_law_952 ?_
  refine va_sld hx hb hX hbl hbA hS (zs_vi (c := 2) (by omega) (by omega)) dL_law_953 ?_
  refine lv_aload_n hx hb dL_law_954 rfl (lv_at hl 3 rfl) ?_
  refine lv_iload_n hx hb dL_law_955 rfl (lv_at hl 0 rfl) ?_
  refine lv_iconst (v := nI 3) hx hb dL_law_956 (by decide) ?_
  refine lv_iadd hx hb dL_law_957 ?_
  refine va_sld hx hb hX hbl hbA hS (zs_vi (c := 3) (by omega) (by omega)) dL_law_958 ?_
  refine lv_aload_n hx hb dL_law_959 rfl (lv_at hl 3 rfl) ?_
  refine lv_iload_n hx hb dL_law_960 rfl (lv_at hl 0 rfl) ?_
  refine lv_iconst (v := nI 4) hx hb dL_law_961 (by decide) ?_
  refine lv_iadd hx hb dL_law_962 ?_
  refine va_sld hx hb hX hbl hbA hS (zs_vi (c := 4) (by omega) (by omega)) dL_law_963 ?_
  refine lw_call C0 (n := 4) (N := MX11_smear) (As := [.int (xs (nI i + nI 1).toNatClampNeg), .int (xs (nI i + nI 2).toNatClampNeg), .int (xs (nI i + nI 3).toNatClampNeg), .int (xs (nI i + nI 4).toNatClampNeg)]) (rest := []) (T := TX11) (NN := 18) hZ hT hP hAE hS hl.1 (v_X11_smear_0_W (xs (nI i + nI 1).toNatClampNeg) (xs (nI i + nI 2).toNatClampNeg) (xs (nI i + nI 3).toNatClampNeg) (xs (nI i + nI 4).toNatClampNeg) S) dL_law_964 ⟨⟨rfl, rfl, Nat.le_of_ble_eq_true rfl, Nat.le_of_ble_eq_true rfl⟩, cwX11_smear, iwX11_smear, ⟨by decide, by decide⟩, by decide +kernel⟩ lk_134 mwX11_smear ewX11_smear (by decide) rfl rfl rfl rfl (Nat.le_of_ble_eq_true rfl) ?_
  rintro _ S2 H1 locs1 ⟨⟨x1, rfl⟩, hf1⟩ hP hS
  have hJ2 : zs_J S2 := hf1.n.q.j hI.1
  refine lv_pop hx hb dL_law_967 rfl ?_
  refine lv_aload_n hx hb dL_law_968 rfl (lv_at hl 1 rfl) ?_
  refine lv_aload_n hx hb dL_law_969 rfl (lv_at hl 3 rfl) ?_
  refine lv_iload_n hx hb dL_law_970 rfl (lv_at hl 0 rfl) ?_
  refine lv_iconst (v := nI 1) hx hb dL_law_971 (by decide) ?_
  refine lv_iadd hx hb dL_law_972 ?_
  refine va_sld hx hb hX hbl hbA hS (zs_vi (c := 1) (by omega) (by omega)) dL_law_973 ?_
  refine lv_aload_n hx hb dL_law_974 rfl (lv_at hl 3 rfl) ?_
  refine lv_iload_n hx hb dL_law_975 rfl (lv_at hl 0 rfl) ?_
  refine lv_iconst (v := nI 2) hx hb dL_law_976 (by decide) ?_
  refine lv_iadd hx hb dL_law_977 ?_
  refine va_sld hx hb hX hbl hbA hS (zs_vi (c := 2) (by omega) (by omega)) dL_law_978 ?_
  refine lv_aload_n hx hb dL_law_979 rfl (lv_at hl 3 rfl) ?_
  refine lv_iload_n hx hb dL_law_980 rfl (lv_at hl 0 rfl) ?_
  refine lv_iconst (v := nI 3) hx hb dL_law_981 (by decide) ?_
  refine lv_iadd hx hb dL_law_982 ?_
  refine va_sld hx hb hX hbl hbA hS (zs_vi (c := 3) (by omega) (by omega)) dL_law_983 ?_
  refine lv_aload_n hx hb dL_law_984 rfl (lv_at hl 3 rfl) ?_
  refine lv_iload_n hx hb dL_law_985 rfl (lv_at hl 0 rfl) ?_
  refine lv_iconst (v := nI 4) hx hb dL_law_986 (by decide) ?_
  refine lv_iadd hx hb dL_law_987 ?_
  refine va_sld hx hb hX hbl hbA hS (zs_vi (c := 4) (by omega) (by omega)) dL_law_988 ?_
  refine lw_call C0 (n := 4) (N := MX12_smear) (As := [.int (xs (nI i + nI 1).toNatClampNeg), .int (xs (nI i + nI 2).toNatClampNeg), .int (xs (nI i + nI 3).toNatClampNeg), .int (xs (nI i + nI 4).toNatClampNeg)]) (rest := []) (T := TX12) (NN := 19) hZ hT hP hAE hS hl.1 (y_X12_smear_W (xs (nI i + nI 1).toNatClampNeg) (xs (nI i + nI 2).toNatClampNeg) (xs (nI i + nI 3).toNatClampNeg) (xs (nI i + nI 4).toNatClampNeg) S2 hJ2) dL_law_989 ⟨⟨rfl, rfl, Nat.le_of_ble_eq_true rfl, Nat.le_of_ble_eq_true rfl⟩, cwX12_smear, iwX12_smear, ⟨by decide, by decide⟩, by decide +kernel⟩ lk_137 mwX12_smear ewX12_smear (by decide) rfl rfl rfl rfl (Nat.le_of_ble_eq_true rfl) ?_
  rintro _ S3 H2 locs2 ⟨⟨y1, rfl⟩, hJ3, hm3⟩ hP hS
  have hI3 : zs_Iw S3 := hI.st hf1 hJ3 hm3
  refine lv_pop hx hb dL_law_992 rfl ?_
  refine lv_goto (tgt := 1157) hx hb dL_law_993 (by decide) ?_
  exact kend _ _ _ hI3 hP hS
set_option maxRecDepth 100000 in
theorem lk_138 : Cond.methodLink R_law 138 yX11_nights ∈ zs_tbl := zs_iq4 174 rfl rfl
set_option maxRecDepth 100000 in
theorem lk_141 : Cond.methodLink R_law 141 yX12_nights ∈ zs_tbl := zs_iq6 76 rfl rfl
set_option maxRecDepth 100000 in
theorem lcase_30 {p : Program} {e : Env} {s : State} {m : MethodId} {below : List Frame} {meth : Method} {c : Code} {l : Launch} {b L : Nat} {xs : Nat → Int32} (C0 : lw_At p s m meth c b L xs) (hL : L ≤ 2560) {E : zs_E} {H : Heap} {locs : List Loc} {ls : Array Slot} {QQ : State → Prop} (hZ : zs_Z E s) (hT : zs_T E.2.2.2 (fun q : Nat => s.heap.size ≤ q) s s.heap) {S : zs_S} (hI : zs_Iw S) (hP : va_P (zs_D E) vwCl (zs_ws E S) H) (hAE : ∀ x, zs_A E x → s.heap.size ≤ x) (hS : va_S (fun q : Nat => s.heap.size ≤ q) s.heap H locs) {i : Nat} (hi : i + 5 ≤ L) (hl : lv_has ls 4 [(3, .int (nI i)), (2, .ref (E.2.2.2 80)), (1, .ref (E.2.2.2 0)), (0, .ref b)]) (kend : ∀ (S : zs_S) (H : Heap) (locs : List Loc), zs_Iw S → va_P (zs_D E) vwCl (zs_ws E S) H → va_S (fun q : Nat => s.heap.size ≤ q) s.heap H locs → W p l e room_1 s m #[Value.ref b] below meth c H locs 90 4068 QQ (F0 m 1157 ls [])) : W p l e room_1 s m #[Value.ref b] below meth c H locs 90 4068 QQ (F0 m 996 ls []) := by
  obtain ⟨hx, hb, hr, hml, hown, hts0, hX, hbl, hlocks, hgv⟩ := id C0
  have hbA : ¬ (fun q : Nat => s.heap.size ≤ q) b := Nat.not_le.mpr hbl
  refine lv_aload_n hx hb dL_law_996 rfl (lv_at hl 2 rfl) ?_
  refine lv_aload_n hx hb dL_law_997 rfl (lv_at hl 3 rfl) ?_
  refine lv_iload_n hx hb dL_law_998 rfl (lv_at hl 0 rfl) ?_
  refine lv_iconst (v := nI 1) hx hb dL_law_999 (by decide) ?_
  refine lv_iadd hx hb dL_law_1000 ?_
  refine va_sld hx hb hX hbl hbA hS (zs_vi (c := 1) (by omega) (by omega)) dL_law_1001 ?_
  refine lv_aload_n hx hb dL_law_1002 rfl (lv_at hl 3 rfl) ?_
  refine lv_iload_n hx hb dL_law_1003 rfl (lv_at hl 0 rfl) ?_
  refine lv_iconst (v := nI 2) hx hb dL_law_1004 (by decide) ?_
  refine lv_iadd hx hb dL_law_1005 ?_
  refine va_sld hx hb hX hbl hbA hS (zs_vi (c := 2) (by omega) (by omega)) dL_law_1006 ?_
  refine lw_call C0 (n := 2) (N := MX11_nights) (As := [.int (xs (nI i + nI 1).toNatClampNeg), .int (xs (nI i + nI 2).toNatClampNeg)]) (rest := []) (T := TX11) (NN := 18) hZ hT hP hAE hS hl.1 (v_X11_nights_0_W (xs (nI i + nI 1).toNatClampNeg) (xs (nI i + nI 2).toNatClampNeg) S) dL_law_1007 ⟨⟨rfl, rfl, Nat.le_of_ble_eq_true rfl, Nat.le_of_ble_eq_true rfl⟩, cwX11_nights, iwX11_nights, ⟨by decide, by decide⟩, by decide +kernel⟩ lk_138 mwX11_nights ewX11_nights (by decide) rfl rfl rfl rfl (Nat.le_of_ble_eq_true rfl) ?_
  rintro _ S2 H1 locs1 ⟨⟨x1, rfl⟩, hf1⟩ hP hS
  have hJ2 : zs_J S2 := hf1.n.q.j hI.1
  refine lv_pop hx hb dL_law_1010 rfl ?_
  refine lv_aload_n hx hb dL_law_1011 rfl (lv_at hl 1 rfl) ?_
  refine lv_aload_n hx hb dL_law_1012 rfl (lv_at hl 3 rfl) ?_
  refine lv_iload_n hx hb dL_law_1013 rfl (lv_at hl 0 rfl) ?_
  refine lv_iconst (v := nI 1) hx hb dL_law_1014 (by decide) ?_
  refine lv_iadd hx hb dL_law_1015 ?_
  refine va_sld hx hb hX hbl hbA hS (zs_vi (c := 1) (by omega) (by omega)) dL_law_1016 ?_
  refine lv_aload_n hx hb dL_law_1017 rfl (lv_at hl 3 rfl) ?_
  refine lv_iload_n hx hb dL_law_1018 rfl (lv_at hl 0 rfl) ?_
  refine lv_iconst (v := nI 2) hx hb dL_law_1019 (by decide) ?_
  refine lv_iadd hx hb dL_law_1020 ?_
  refine va_sld hx hb hX hbl hbA hS (zs_vi (c := 2) (by omega) (by omega)) dL_law_1021 ?_
  refine lw_call C0 (n := 2) (N := MX12_nights) (As := [.int (xs (nI i + nI 1).toNatClampNeg), .int (xs (nI i + nI 2).toNatClampNeg)]) (rest := []) (T := TX12) (NN := 19) hZ hT hP hAE hS hl.1 (y_X12_nights_W (xs (nI i + nI 1).toNatClampNeg) (xs (nI i + nI 2).toNatClampNeg) S2 hJ2) dL_law_1022 ⟨⟨rfl, rfl, Nat.le_of_ble_eq_true rfl, Nat.le_of_ble_eq_true rfl⟩, cwX12_nights, iwX12_nights, ⟨by decide, by decide⟩, by decide +kernel⟩ lk_141 mwX12_nights ewX12_nights (by decide) rfl rfl rfl rfl (Nat.le_of_ble_eq_true rfl) ?_
  rintro _ S3 H2 locs2 ⟨⟨y1, rfl⟩, hJ3, hm3⟩ hP hS
  have hI3 : zs_Iw S3 := hI.st hf1 hJ3 hm3
  refine lv_pop hx hb dL_law_1025 rfl ?_
  refine lv_goto (tgt := 1157) hx hb dL_law_1026 (by decide) ?_
  exact kend _ _ _ hI3 hP hS
set_option maxRecDepth 100000 in
theorem lk_142 : Cond.methodLink R_law 142 yX11_part ∈ zs_tbl := zs_iq4 188 rfl rfl
set_option maxRecDepth 100000 in
theorem lk_146 : Cond.methodLink R_law 146 yX12_part ∈ zs_tbl := zs_iq6 89 rfl rfl
set_option maxRecDepth 100000 in
theorem lcase_31 {p : Program} {e : Env} {s : State} {m : MethodId} {below : List Frame} {meth : Method} {c : Code} {l : Launch} {b L : Nat} {xs : Nat → Int32} (C0 : lw_At p s m meth c b L xs) (hL : L ≤ 2560) {E : zs_E} {H : Heap} {locs : List Loc} {ls : Array Slot} {QQ : State → Prop} (hZ : zs_Z E s) (hT : zs_T E.2.2.2 (fun q : Nat => s.heap.size ≤ q) s s.heap) {S : zs_S} (hI : zs_Iw S) (hP : va_P (zs_D E) vwCl (zs_ws E S) H) (hAE : ∀ x, zs_A E x → s.heap.size ≤ x) (hS : va_S (fun q : Nat => s.heap.size ≤ q) s.heap H locs) {i : Nat} (hi : i + 5 ≤ L) (hl : lv_has ls 4 [(3, .int (nI i)), (2, .ref (E.2.2.2 80)), (1, .ref (E.2.2.2 0)), (0, .ref b)]) (kend : ∀ (S : zs_S) (H : Heap) (locs : List Loc), zs_Iw S → va_P (zs_D E) vwCl (zs_ws E S) H → va_S (fun q : Nat => s.heap.size ≤ q) s.heap H locs → W p l e room_1 s m #[Value.ref b] below meth c H locs 90 4068 QQ (F0 m 1157 ls [])) : W p l e room_1 s m #[Value.ref b] below meth c H locs 90 4068 QQ (F0 m 1029 ls []) := by
  obtain ⟨hx, hb, hr, hml, hown, hts0, hX, hbl, hlocks, hgv⟩ := id C0
  have hbA : ¬ (fun q : Nat => s.heap.size ≤ q) b := Nat.not_le.mpr hbl
  refine lv_aload_n hx hb dL_law_1029 rfl (lv_at hl 2 rfl) ?_
  refine lv_aload_n hx hb dL_law_1030 rfl (lv_at hl 3 rfl) ?_
  refine lv_iload_n hx hb dL_law_1031 rfl (lv_at hl 0 rfl) ?_
  refine lv_iconst (v := nI 1) hx hb dL_law_1032 (by decide) ?_
  refine lv_iadd hx hb dL_law_1033 ?_
  refine va_sld hx hb hX hbl hbA hS (zs_vi (c := 1) (by omega) (by omega)) dL_law_1034 ?_
  refine lw_call C0 (n := 1) (N := MX11_part) (As := [.int (xs (nI i + nI 1).toNatClampNeg)]) (rest := []) (T := TX11) (NN := 18) hZ hT hP hAE hS hl.1 (v_X11_part_0_W (xs (nI i + nI 1).toNatClampNeg) S) dL_law_1035 ⟨⟨rfl, rfl, Nat.le_of_ble_eq_true rfl, Nat.le_of_ble_eq_true rfl⟩, cwX11_part, iwX11_part, ⟨by decide, by decide⟩, by decide +kernel⟩ lk_142 mwX11_part ewX11_part (by decide) rfl rfl rfl rfl (Nat.le_of_ble_eq_true rfl) ?_
  rintro _ S2 H1 locs1 ⟨⟨x1, rfl⟩, hf1⟩ hP hS
  have hJ2 : zs_J S2 := hf1.n.q.j hI.1
  refine lv_pop2_2 hx hb dL_law_1038 rfl ?_
  refine lv_aload_n hx hb dL_law_1039 rfl (lv_at hl 1 rfl) ?_
  refine lv_aload_n hx hb dL_law_1040 rfl (lv_at hl 3 rfl) ?_
  refine lv_iload_n hx hb dL_law_1041 rfl (lv_at hl 0 rfl) ?_
  refine lv_iconst (v := nI 1) hx hb dL_law_1042 (by decide) ?_
  refine lv_iadd hx hb dL_law_1043 ?_
  refine va_sld hx hb hX hbl hbA hS (zs_vi (c := 1) (by omega) (by omega)) dL_law_1044 ?_
  refine lw_call C0 (n := 1) (N := MX12_part) (As := [.int (xs (nI i + nI 1).toNatClampNeg)]) (rest := []) (T := TX12) (NN := 19) hZ hT hP hAE hS hl.1 (y_X12_part_W (xs (nI i + nI 1).toNatClampNeg) S2 hJ2) dL_law_1045 ⟨⟨rfl, rfl, Nat.le_of_ble_eq_true rfl, Nat.le_of_ble_eq_true rfl⟩, cwX12_part, iwX12_part, ⟨by decide, by decide⟩, by decide +kernel⟩ lk_146 mwX12_part ewX12_part (by decide) rfl rfl rfl rfl (Nat.le_of_ble_eq_true rfl) ?_
  rintro _ S3 H2 locs2 ⟨⟨y1, rfl⟩, hJ3, hm3⟩ hP hS
  have hI3 : zs_Iw S3 := hI.st hf1 hJ3 hm3
  refine lv_pop2_2 hx hb dL_law_1048 rfl ?_
  refine lv_goto (tgt := 1157) hx hb dL_law_1049 (by decide) ?_
  exact kend _ _ _ hI3 hP hS
set_option maxRecDepth 100000 in
theorem lk_147 : Cond.methodLink R_law 147 yX11_image ∈ zs_tbl := zs_iq4 192 rfl rfl
set_option maxRecDepth 100000 in
theorem lk_150 : Cond.methodLink R_law 150 yX12_image ∈ zs_tbl := zs_iq6 93 rfl rfl
set_option maxRecDepth 100000 in
theorem lcase_32 {p : Program} {e : Env} {s : State} {m : MethodId} {below : List Frame} {meth : Method} {c : Code} {l : Launch} {b L : Nat} {xs : Nat → Int32} (C0 : lw_At p s m meth c b L xs) (hL : L ≤ 2560) {E : zs_E} {H : Heap} {locs : List Loc} {ls : Array Slot} {QQ : State → Prop} (hZ : zs_Z E s) (hT : zs_T E.2.2.2 (fun q : Nat => s.heap.size ≤ q) s s.heap) {S : zs_S} (hI : zs_Iw S) (hP : va_P (zs_D E) vwCl (zs_ws E S) H) (hAE : ∀ x, zs_A E x → s.heap.size ≤ x) (hS : va_S (fun q : Nat => s.heap.size ≤ q) s.heap H locs) {i : Nat} (hi : i + 5 ≤ L) (hl : lv_has ls 4 [(3, .int (nI i)), (2, .ref (E.2.2.2 80)), (1, .ref (E.2.2.2 0)), (0, .ref b)]) (kend : ∀ (S : zs_S) (H : Heap) (locs : List Loc), zs_Iw S → va_P (zs_D E) vwCl (zs_ws E S) H → va_S (fun q : Nat => s.heap.size ≤ q) s.heap H locs → W p l e room_1 s m #[Value.ref b] below meth c H locs 90 4068 QQ (F0 m 1157 ls [])) : W p l e room_1 s m #[Value.ref b] below meth c H locs 90 4068 QQ (F0 m 1052 ls []) := by
  obtain ⟨hx, hb, hr, hml, hown, hts0, hX, hbl, hlocks, hgv⟩ := id C0
  have hbA : ¬ (fun q : Nat => s.heap.size ≤ q) b := Nat.not_le.mpr hbl
  refine lv_aload_n hx hb dL_law_1052 rfl (lv_at hl 2 rfl) ?_
  refine lv_aload_n hx hb dL_law_1053 rfl (lv_at hl 3 rfl) ?_
  refine lv_iload_n hx hb dL_law_1054 rfl (lv_at hl 0 rfl) ?_
  refine lv_iconst (v := nI 1) hx hb dL_law_1055 (by decide) ?_
  refine lv_iadd hx hb dL_law_1056 ?_
  refine va_sld hx hb hX hbl hbA hS (zs_vi (c := 1) (by omega) (by omega)) dL_law_1057 ?_
  refine lw_call C0 (n := 1) (N := MX11_image) (As := [.int (xs (nI i + nI 1).toNatClampNeg)]) (rest := []) (T := TX11) (NN := 18) hZ hT hP hAE hS hl.1 (c_imageW S (xs (nI i + nI 1).toNatClampNeg)) dL_law_1058 ⟨⟨rfl, rfl, Nat.le_of_ble_eq_true rfl, Nat.le_of_ble_eq_true rfl⟩, cwX11_image, iwX11_image, ⟨by decide, by decide⟩, by decide +kernel⟩ lk_147 mwX11_image ewX11_image (by decide) rfl rfl rfl rfl (Nat.le_of_ble_eq_true rfl) ?_
  rintro _ S2 H1 locs1 ⟨x1, rfl, hc1⟩ hP hS
  have hJ2 : zs_J S2 := hc1.2.2.1.j hI.1
  refine lv_pop hx hb dL_law_1061 rfl ?_
  refine lv_aload_n hx hb dL_law_1062 rfl (lv_at hl 1 rfl) ?_
  refine lv_aload_n hx hb dL_law_1063 rfl (lv_at hl 3 rfl) ?_
  refine lv_iload_n hx hb dL_law_1064 rfl (lv_at hl 0 rfl) ?_
  refine lv_iconst (v := nI 1) hx hb dL_law_1065 (by decide) ?_
  refine lv_iadd hx hb dL_law_1066 ?_
  refine va_sld hx hb hX hbl hbA hS (zs_vi (c := 1) (by omega) (by omega)) dL_law_1067 ?_
  refine lw_call C0 (n := 1) (N := MX12_image) (As := [.int (xs (nI i + nI 1).toNatClampNeg)]) (rest := []) (T := TX12) (NN := 19) hZ hT hP hAE hS hl.1 (y_imageW (xs (nI i + nI 1).toNatClampNeg) S2 hJ2) dL_law_1068 ⟨⟨rfl, rfl, Nat.le_of_ble_eq_true rfl, Nat.le_of_ble_eq_true rfl⟩, cwX12_image, iwX12_image, ⟨by decide, by decide⟩, by decide +kernel⟩ lk_150 mwX12_image ewX12_image (by decide) rfl rfl rfl rfl (Nat.le_of_ble_eq_true rfl) ?_
  rintro _ S3 H2 locs2 ⟨y1, rfl, hc2⟩ hP hS
  have hI3 := hI.image hc1 hc2
  refine lv_pop hx hb dL_law_1071 rfl ?_
  refine lv_goto (tgt := 1157) hx hb dL_law_1072 (by decide) ?_
  exact kend _ _ _ hI3.1 hP hS
set_option maxRecDepth 100000 in
theorem lk_151 : Cond.methodLink R_law 151 yX11_from ∈ zs_tbl := zs_iq4 196 rfl rfl
set_option maxRecDepth 100000 in
theorem lk_154 : Cond.methodLink R_law 154 yX12_from ∈ zs_tbl := zs_iq6 101 rfl rfl
set_option maxRecDepth 100000 in
theorem lcase_33 {p : Program} {e : Env} {s : State} {m : MethodId} {below : List Frame} {meth : Method} {c : Code} {l : Launch} {b L : Nat} {xs : Nat → Int32} (C0 : lw_At p s m meth c b L xs) (hL : L ≤ 2560) {E : zs_E} {H : Heap} {locs : List Loc} {ls : Array Slot} {QQ : State → Prop} (hZ : zs_Z E s) (hT : zs_T E.2.2.2 (fun q : Nat => s.heap.size ≤ q) s s.heap) {S : zs_S} (hI : zs_Iw S) (hP : va_P (zs_D E) vwCl (zs_ws E S) H) (hAE : ∀ x, zs_A E x → s.heap.size ≤ x) (hS : va_S (fun q : Nat => s.heap.size ≤ q) s.heap H locs) {i : Nat} (hi : i + 5 ≤ L) (hl : lv_has ls 4 [(3, .int (nI i)), (2, .ref (E.2.2.2 80)), (1, .ref (E.2.2.2 0)), (0, .ref b)]) (kend : ∀ (S : zs_S) (H : Heap) (locs : List Loc), zs_Iw S → va_P (zs_D E) vwCl (zs_ws E S) H → va_S (fun q : Nat => s.heap.size ≤ q) s.heap H locs → W p l e room_1 s m #[Value.ref b] below meth c H locs 90 4068 QQ (F0 m 1157 ls [])) : W p l e room_1 s m #[Value.ref b] below meth c H locs 90 4068 QQ (F0 m 1075 ls []) := by
  obtain ⟨hx, hb, hr, hml, hown, hts0, hX, hbl, hlocks, hgv⟩ := id C0
  have hbA : ¬ (fun q : Nat => s.heap.size ≤ q) b := Nat.not_le.mpr hbl
  refine lv_aload_n hx hb dL_law_1075 rfl (lv_at hl 2 rfl) ?_
  refine lv_aload_n hx hb dL_law_1076 rfl (lv_at hl 3 rfl) ?_
  refine lv_iload_n hx hb dL_law_1077 rfl (lv_at hl 0 rfl) ?_
  refine lv_iconst (v := nI 1) hx hb dL_law_1078 (by decide) ?_
  refine lv_iadd hx hb dL_law_1079 ?_
  refine va_sld hx hb hX hbl hbA hS (zs_vi (c := 1) (by omega) (by omega)) dL_law_1080 ?_
  refine lw_call C0 (n := 1) (N := MX11_from) (As := [.int (xs (nI i + nI 1).toNatClampNeg)]) (rest := []) (T := TX11) (NN := 18) hZ hT hP hAE hS hl.1 (c_fromW S (xs (nI i + nI 1).toNatClampNeg)) dL_law_1081 ⟨⟨rfl, rfl, Nat.le_of_ble_eq_true rfl, Nat.le_of_ble_eq_true rfl⟩, cwX11_from, iwX11_from, ⟨by decide, by decide⟩, by decide +kernel⟩ lk_151 mwX11_from ewX11_from (by decide) rfl rfl rfl rfl (Nat.le_of_ble_eq_true rfl) ?_
  rintro _ S2 H1 locs1 ⟨x1, rfl, hc1⟩ hP hS
  have hJ2 : zs_J S2 := hc1.2.1.q.j hI.1
  refine lv_pop hx hb dL_law_1084 rfl ?_
  refine lv_aload_n hx hb dL_law_1085 rfl (lv_at hl 1 rfl) ?_
  refine lv_aload_n hx hb dL_law_1086 rfl (lv_at hl 3 rfl) ?_
  refine lv_iload_n hx hb dL_law_1087 rfl (lv_at hl 0 rfl) ?_
  refine lv_iconst (v := nI 1) hx hb dL_law_1088 (by decide) ?_
  refine lv_iadd hx hb dL_law_1089 ?_
  refine va_sld hx hb hX hbl hbA hS (zs_vi (c := 1) (by omega) (by omega)) dL_law_1090 ?_
  refine lw_call C0 (n := 1) (N := MX12_from) (As := [.int (xs (nI i + nI 1).toNatClampNeg)]) (rest := []) (T := TX12) (NN := 19) hZ hT hP hAE hS hl.1 (y_fromW (xs (nI i + nI 1).toNatClampNeg) S2 hJ2) dL_law_1091 ⟨⟨rfl, rfl, Nat.le_of_ble_eq_true rfl, Nat.le_of_ble_eq_true rfl⟩, cwX12_from, iwX12_from, ⟨by decide, by decide⟩, by decide +kernel⟩ lk_154 mwX12_from ewX12_from (by decide) rfl rfl rfl rfl (Nat.le_of_ble_eq_true rfl) ?_
  rintro _ S3 H2 locs2 ⟨y1, rfl, hc2⟩ hP hS
  have hI3 := hI.from hc1 hc2
  refine lv_pop hx hb dL_law_1094 rfl ?_
  refine lv_goto (tgt := 1157) hx hb dL_law_1095 (by decide) ?_
  exact kend _ _ _ hI3.1 hP hS
set_option maxRecDepth 100000 in
theorem lk_155 : Cond.methodLink R_law 155 yX11_status ∈ zs_tbl := zs_iq4 200 rfl rfl
set_option maxRecDepth 100000 in
theorem lk_158 : Cond.methodLink R_law 158 yX12_status ∈ zs_tbl := zs_iq6 105 rfl rfl
set_option maxRecDepth 100000 in
theorem lcase_34 {p : Program} {e : Env} {s : State} {m : MethodId} {below : List Frame} {meth : Method} {c : Code} {l : Launch} {b L : Nat} {xs : Nat → Int32} (C0 : lw_At p s m meth c b L xs) (hL : L ≤ 2560) {E : zs_E} {H : Heap} {locs : List Loc} {ls : Array Slot} {QQ : State → Prop} (hZ : zs_Z E s) (hT : zs_T E.2.2.2 (fun q : Nat => s.heap.size ≤ q) s s.heap) {S : zs_S} (hI : zs_Iw S) (hP : va_P (zs_D E) vwCl (zs_ws E S) H) (hAE : ∀ x, zs_A E x → s.heap.size ≤ x) (hS : va_S (fun q : Nat => s.heap.size ≤ q) s.heap H locs) {i : Nat} (hi : i + 5 ≤ L) (hl : lv_has ls 4 [(3, .int (nI i)), (2, .ref (E.2.2.2 80)), (1, .ref (E.2.2.2 0)), (0, .ref b)]) (kend : ∀ (S : zs_S) (H : Heap) (locs : List Loc), zs_Iw S → va_P (zs_D E) vwCl (zs_ws E S) H → va_S (fun q : Nat => s.heap.size ≤ q) s.heap H locs → W p l e room_1 s m #[Value.ref b] below meth c H locs 90 4068 QQ (F0 m 1157 ls [])) : W p l e room_1 s m #[Value.ref b] below meth c H locs 90 4068 QQ (F0 m 1098 ls []) := by
  obtain ⟨hx, hb, hr, hml, hown, hts0, hX, hbl, hlocks, hgv⟩ := id C0
  have hbA : ¬ (fun q : Nat => s.heap.size ≤ q) b := Nat.not_le.mpr hbl
  refine lv_aload_n hx hb dL_law_1098 rfl (lv_at hl 2 rfl) ?_
  refine lv_aload_n hx hb dL_law_1099 rfl (lv_at hl 3 rfl) ?_
  refine lv_iload_n hx hb dL_law_1100 rfl (lv_at hl 0 rfl) ?_
  refine lv_iconst (v := nI 1) hx hb dL_law_1101 (by decide) ?_
  refine lv_iadd hx hb dL_law_1102 ?_
  refine va_sld hx hb hX hbl hbA hS (zs_vi (c := 1) (by omega) (by omega)) dL_law_1103 ?_
  refine lw_call C0 (n := 1) (N := MX11_status) (As := [.int (xs (nI i + nI 1).toNatClampNeg)]) (rest := []) (T := TX11) (NN := 18) hZ hT hP hAE hS hl.1 (v_X11_status_0_W (xs (nI i + nI 1).toNatClampNeg) S) dL_law_1104 ⟨⟨rfl, rfl, Nat.le_of_ble_eq_true rfl, Nat.le_of_ble_eq_true rfl⟩, cwX11_status, iwX11_status, ⟨by decide, by decide⟩, by decide +kernel⟩ lk_155 mwX11_status ewX11_status (by decide) rfl rfl rfl rfl (Nat.le_of_ble_eq_true rfl) ?_
  rintro _ S2 H1 locs1 ⟨⟨x1, rfl⟩, hf1⟩ hP hS
  have hJ2 : zs_J S2 := hf1.n.q.j hI.1
  refine lv_pop hx hb dL_law_1107 rfl ?_
  refine lv_aload_n hx hb dL_law_1108 rfl (lv_at hl 1 rfl) ?_
  refine lv_aload_n hx hb dL_law_1109 rfl (lv_at hl 3 rfl) ?_
  refine lv_iload_n hx hb dL_law_1110 rfl (lv_at hl 0 rfl) ?_
  refine lv_iconst (v := nI 1) hx hb dL_law_1111 (by decide) ?_
  refine lv_iadd hx hb dL_law_1112 ?_
  refine va_sld hx hb hX hbl hbA hS (zs_vi (c := 1) (by omega) (by omega)) dL_law_1113 ?_
  refine lw_call C0 (n := 1) (N := MX12_status) (As := [.int (xs (nI i + nI 1).toNatClampNeg)]) (rest := []) (T := TX12) (NN := 19) hZ hT hP hAE hS hl.1 (y_X12_status_W (xs (nI i + nI 1).toNatClampNeg) S2 hJ2) dL_law_1114 ⟨⟨rfl, rfl, Nat.le_of_ble_eq_true rfl, Nat.le_of_ble_eq_true rfl⟩, cwX12_status, iwX12_status, ⟨by decide, by decide⟩, by decide +kernel⟩ lk_158 mwX12_status ewX12_status (by decide) rfl rfl rfl rfl (Nat.le_of_ble_eq_true rfl) ?_
  rintro _ S3 H2 locs2 ⟨⟨y1, rfl⟩, hJ3, hm3⟩ hP hS
  have hI3 : zs_Iw S3 := hI.st hf1 hJ3 hm3
  refine lv_pop hx hb dL_law_1117 rfl ?_
  refine lv_goto (tgt := 1157) hx hb dL_law_1118 (by decide) ?_
  exact kend _ _ _ hI3 hP hS
set_option maxRecDepth 100000 in
theorem lk_159 : Cond.methodLink R_law 159 yX11_count ∈ zs_tbl := zs_iq4 204 rfl rfl
set_option maxRecDepth 100000 in
theorem lk_162 : Cond.methodLink R_law 162 yX12_count ∈ zs_tbl := zs_iq6 109 rfl rfl
set_option maxRecDepth 100000 in
theorem lcase_35 {p : Program} {e : Env} {s : State} {m : MethodId} {below : List Frame} {meth : Method} {c : Code} {l : Launch} {b L : Nat} {xs : Nat → Int32} (C0 : lw_At p s m meth c b L xs) (hL : L ≤ 2560) {E : zs_E} {H : Heap} {locs : List Loc} {ls : Array Slot} {QQ : State → Prop} (hZ : zs_Z E s) (hT : zs_T E.2.2.2 (fun q : Nat => s.heap.size ≤ q) s s.heap) {S : zs_S} (hI : zs_Iw S) (hP : va_P (zs_D E) vwCl (zs_ws E S) H) (hAE : ∀ x, zs_A E x → s.heap.size ≤ x) (hS : va_S (fun q : Nat => s.heap.size ≤ q) s.heap H locs) {i : Nat} (hi : i + 5 ≤ L) (hl : lv_has ls 4 [(3, .int (nI i)), (2, .ref (E.2.2.2 80)), (1, .ref (E.2.2.2 0)), (0, .ref b)]) (kend : ∀ (S : zs_S) (H : Heap) (locs : List Loc), zs_Iw S → va_P (zs_D E) vwCl (zs_ws E S) H → va_S (fun q : Nat => s.heap.size ≤ q) s.heap H locs → W p l e room_1 s m #[Value.ref b] below meth c H locs 90 4068 QQ (F0 m 1157 ls [])) : W p l e room_1 s m #[Value.ref b] below meth c H locs 90 4068 QQ (F0 m 1121 ls []) := by
  obtain ⟨hx, hb, hr, hml, hown, hts0, hX, hbl, hlocks, hgv⟩ := id C0
  have hbA : ¬ (fun q : Nat => s.heap.size ≤ q) b := Nat.not_le.mpr hbl
  refine lv_aload_n hx hb dL_law_1121 rfl (lv_at hl 2 rfl) ?_
  refine lv_aload_n hx hb dL_law_1122 rfl (lv_at hl 3 rfl) ?_
  refine lv_iload_n hx hb dL_law_1123 rfl (lv_at hl 0 rfl) ?_
  refine lv_iconst (v := nI 1) hx hb dL_law_1124 (by decide) ?_
  refine lv_iadd hx hb dL_law_1125 ?_
  refine va_sld hx hb hX hbl hbA hS (zs_vi (c := 1) (by omega) (by omega)) dL_law_1126 ?_
  refine lw_call C0 (n := 1) (N := MX11_count) (As := [.int (xs (nI i + nI 1).toNatClampNeg)]) (rest := []) (T := TX11) (NN := 18) hZ hT hP hAE hS hl.1 (v_X11_count_0_W (xs (nI i + nI 1).toNatClampNeg) S) dL_law_1127 ⟨⟨rfl, rfl, Nat.le_of_ble_eq_true rfl, Nat.le_of_ble_eq_true rfl⟩, cwX11_count, iwX11_count, ⟨by decide, by decide⟩, by decide +kernel⟩ lk_159 mwX11_count ewX11_count (by decide) rfl rfl rfl rfl (Nat.le_of_ble_eq_true rfl) ?_
  rintro _ S2 H1 locs1 ⟨⟨x1, rfl⟩, hf1⟩ hP hS
  have hJ2 : zs_J S2 := hf1.n.q.j hI.1
  refine lv_pop hx hb dL_law_1130 rfl ?_
  refine lv_aload_n hx hb dL_law_1131 rfl (lv_at hl 1 rfl) ?_
  refine lv_aload_n hx hb dL_law_1132 rfl (lv_at hl 3 rfl) ?_
  refine lv_iload_n hx hb dL_law_1133 rfl (lv_at hl 0 rfl) ?_
  refine lv_iconst (v := nI 1) hx hb dL_law_1134 (by decide) ?_
  refine lv_iadd hx hb dL_law_1135 ?_
  refine va_sld hx hb hX hbl hbA hS (zs_vi (c := 1) (by omega) (by omega)) dL_law_1136 ?_
  refine lw_call C0 (n := 1) (N := MX12_count) (As := [.int (xs (nI i + nI 1).toNatClampNeg)]) (rest := []) (T := TX12) (NN := 19) hZ hT hP hAE hS hl.1 (y_X12_count_W (xs (nI i + nI 1).toNatClampNeg) S2 hJ2) dL_law_1137 ⟨⟨rfl, rfl, Nat.le_of_ble_eq_true rfl, Nat.le_of_ble_eq_true rfl⟩, cwX12_count, iwX12_count, ⟨by decide, by decide⟩, by decide +kernel⟩ lk_162 mwX12_count ewX12_count (by decide) rfl rfl rfl rfl (Nat.le_of_ble_eq_true rfl) ?_
  rintro _ S3 H2 locs2 ⟨⟨y1, rfl⟩, hJ3, hm3⟩ hP hS
  have hI3 : zs_Iw S3 := hI.st hf1 hJ3 hm3
  refine lv_pop hx hb dL_law_1140 rfl ?_
  refine lv_goto (tgt := 1157) hx hb dL_law_1141 (by decide) ?_
  exact kend _ _ _ hI3 hP hS
set_option maxRecDepth 100000 in
theorem lk_163 : Cond.methodLink R_law 163 yX11_digest ∈ zs_tbl := zs_iq4 212 rfl rfl
set_option maxRecDepth 100000 in
theorem lk_167 : Cond.methodLink R_law 167 yX12_digest ∈ zs_tbl := zs_iq6 117 rfl rfl
set_option maxRecDepth 100000 in
theorem lcase_36 {p : Program} {e : Env} {s : State} {m : MethodId} {below : List Frame} {meth : Method} {c : Code} {l : Launch} {b L : Nat} {xs : Nat → Int32} (C0 : lw_At p s m meth c b L xs) (hL : L ≤ 2560) {E : zs_E} {H : Heap} {locs : List Loc} {ls : Array Slot} {QQ : State → Prop} (hZ : zs_Z E s) (hT : zs_T E.2.2.2 (fun q : Nat => s.heap.size ≤ q) s s.heap) {S : zs_S} (hI : zs_Iw S) (hP : va_P (zs_D E) vwCl (zs_ws E S) H) (hAE : ∀ x, zs_A E x → s.heap.size ≤ x) (hS : va_S (fun q : Nat => s.heap.size ≤ q) s.heap H locs) {i : Nat} (hi : i + 5 ≤ L) (hl : lv_has ls 4 [(3, .int (nI i)), (2, .ref (E.2.2.2 80)), (1, .ref (E.2.2.2 0)), (0, .ref b)]) (kend : ∀ (S : zs_S) (H : Heap) (locs : List Loc), zs_Iw S → va_P (zs_D E) vwCl (zs_ws E S) H → va_S (fun q : Nat => s.heap.size ≤ q) s.heap H locs → W p l e room_1 s m #[Value.ref b] below meth c H locs 90 4068 QQ (F0 m 1157 ls [])) : W p l e room_1 s m #[Value.ref b] below meth c H locs 90 4068 QQ (F0 m 1144 ls []) := by
  obtain ⟨hx, hb, hr, hml, hown, hts0, hX, hbl, hlocks, hgv⟩ := id C0
  have hbA : ¬ (fun q : Nat => s.heap.size ≤ q) b := Nat.not_le.mpr hbl
  refine lv_aload_n hx hb dL_law_1144 rfl (lv_at hl 2 rfl) ?_
  refine lw_call C0 (n := 0) (N := MX11_digest) (As := []) (rest := []) (T := TX11) (NN := 18) hZ hT hP hAE hS hl.1 (v_X11_digest_0_W S) dL_law_1145 ⟨⟨rfl, rfl, Nat.le_of_ble_eq_true rfl, Nat.le_of_ble_eq_true rfl⟩, cwX11_digest, iwX11_digest, ⟨by decide, by decide⟩, by decide +kernel⟩ lk_163 mwX11_digest ewX11_digest (by decide) rfl rfl rfl rfl (Nat.le_of_ble_eq_true rfl) ?_
  rintro _ S2 H1 locs1 ⟨⟨x1, rfl⟩, hf1⟩ hP hS
  have hJ2 : zs_J S2 := hf1.n.q.j hI.1
  refine lv_pop2_2 hx hb dL_law_1148 rfl ?_
  refine lv_aload_n hx hb dL_law_1149 rfl (lv_at hl 1 rfl) ?_
  refine lw_call C0 (n := 0) (N := MX12_digest) (As := []) (rest := []) (T := TX12) (NN := 19) hZ hT hP hAE hS hl.1 (y_X12_digest_W S2 hJ2) dL_law_1150 ⟨⟨rfl, rfl, Nat.le_of_ble_eq_true rfl, Nat.le_of_ble_eq_true rfl⟩, cwX12_digest, iwX12_digest, ⟨by decide, by decide⟩, by decide +kernel⟩ lk_167 mwX12_digest ewX12_digest (by decide) rfl rfl rfl rfl (Nat.le_of_ble_eq_true rfl) ?_
  rintro _ S3 H2 locs2 ⟨⟨y1, rfl⟩, hJ3, hm3⟩ hP hS
  have hI3 : zs_Iw S3 := hI.st hf1 hJ3 hm3
  refine lv_pop2_2 hx hb dL_law_1153 rfl ?_
  refine lv_goto (tgt := 1157) hx hb dL_law_1154 (by decide) ?_
  exact kend _ _ _ hI3 hP hS
