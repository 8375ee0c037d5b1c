theorem zs_chF {S : zs_S} (h : zs_ch 0 80 zs_S1 S) : zs_F1 S := fun a ha => h a (Or.inr ha.1)
theorem lk_13 : Cond.methodLink R_law 13 yX11_drum ∈ zs_tbl := zs_in 377 (by decide +kernel) rfl
theorem lk_17 : Cond.methodLink R_law 17 yX12_drum ∈ zs_tbl := zs_in 1084 (by decide +kernel) rfl
set_option maxRecDepth 100000 in
theorem lcase_0 {p : Program} {e : Env} {s : State} {m : MethodId} {below : List Frame} {meth : Method} {c : Code} {l : Launch} {b : Nat} {xs : Nat → Int32} (C0 : lw_At p s m meth c b 5 xs) {E : zs_E} {H : Heap} {ls : Array Slot} {QQ : State → Prop} (hZ : zs_Z E s) (hP : va_P (zs_D E) vwCl (zs_ws E zs_S1) H) (hAE : ∀ x, zs_A E x → s.heap.size ≤ x) (hS : va_S (fun q : Nat => s.heap.size ≤ q) s.heap H []) (hl : lv_has ls 4 [(3, .int 0), (2, .ref (E.2.2.2 80)), (1, .ref (E.2.2.2 0)), (0, .ref b)]) (kend : ∀ (H : Heap) (locs : List Loc), va_S (fun q : Nat => s.heap.size ≤ q) s.heap H locs → W p l e room_1 s m #[Value.ref b] below meth c H locs 90 4068 QQ (F0 m 1159 ls [])) : W p l e room_1 s m #[Value.ref b] below meth c H [] 90 4068 QQ (F0 m 196 ls []) := by
  obtain ⟨hx, hb, hr, hml, hown, hts0, hX, hbl, hlocks, hgv⟩ := id C0
  have hbA : ¬ (fun q : Nat => s.heap.size ≤ q) b := Nat.not_le.mpr hbl
  refine lv_aload_n hx hb dL_law_196 rfl (lv_at hl 2 rfl) ?_
  refine lv_aload_n hx hb dL_law_197 rfl (lv_at hl 3 rfl) ?_
  refine lv_iload_n hx hb dL_law_198 rfl (lv_at hl 0 rfl) ?_
  refine lv_iconst (v := 1) hx hb dL_law_199 (by decide) ?_
  refine lv_iadd hx hb dL_law_200 ?_
  refine va_sld hx hb hX hbl hbA hS (by unfold vp_in; decide) dL_law_201 ?_
  refine lv_aload_n hx hb dL_law_202 rfl (lv_at hl 3 rfl) ?_
  refine lv_iload_n hx hb dL_law_203 rfl (lv_at hl 0 rfl) ?_
  refine lv_iconst (v := 2) hx hb dL_law_204 (by decide) ?_
  refine lv_iadd hx hb dL_law_205 ?_
  refine va_sld hx hb hX hbl hbA hS (by unfold vp_in; decide) dL_law_206 ?_
  refine lv_aload_n hx hb dL_law_207 rfl (lv_at hl 3 rfl) ?_
  refine lv_iload_n hx hb dL_law_208 rfl (lv_at hl 0 rfl) ?_
  refine lv_iconst (v := 3) hx hb dL_law_209 (by decide) ?_
  refine lv_iadd hx hb dL_law_210 ?_
  refine va_sld hx hb hX hbl hbA hS (by unfold vp_in; decide) dL_law_211 ?_
  refine lw_call C0 (n := 3) (N := MX11_drum) (As := [.int (xs ((0 + 1) : Int32).toNatClampNeg), .int (xs ((0 + 2) : Int32).toNatClampNeg), .int (xs ((0 + 3) : Int32).toNatClampNeg)]) (rest := []) (T := TX11) (NN := 18) hZ hP hAE hS hl.1 (t_drum zs_S1 zs_F0S (xs ((0 + 1) : Int32).toNatClampNeg) (xs ((0 + 2) : Int32).toNatClampNeg) (xs ((0 + 3) : Int32).toNatClampNeg)) dL_law_212 ⟨⟨rfl, rfl, Nat.le_of_ble_eq_true rfl, Nat.le_of_ble_eq_true rfl⟩, cwX11_drum, iwX11_drum, ⟨by decide, by decide⟩, by decide +kernel⟩ lk_13 mwX11_drum ewX11_drum (by decide) rfl rfl rfl rfl (Nat.le_of_ble_eq_true rfl) ?_
  rintro _ S2 H1 locs1 ⟨x1, rfl, h1, hch⟩ hP hS
  refine lv_aload_n hx hb dL_law_215 rfl (lv_at hl 1 rfl) ?_
  refine lv_aload_n hx hb dL_law_216 rfl (lv_at hl 3 rfl) ?_
  refine lv_iload_n hx hb dL_law_217 rfl (lv_at hl 0 rfl) ?_
  refine lv_iconst (v := 1) hx hb dL_law_218 (by decide) ?_
  refine lv_iadd hx hb dL_law_219 ?_
  refine va_sld hx hb hX hbl hbA hS (by unfold vp_in; decide) dL_law_220 ?_
  refine lv_aload_n hx hb dL_law_221 rfl (lv_at hl 3 rfl) ?_
  refine lv_iload_n hx hb dL_law_222 rfl (lv_at hl 0 rfl) ?_
  refine lv_iconst (v := 2) hx hb dL_law_223 (by decide) ?_
  refine lv_iadd hx hb dL_law_224 ?_
  refine va_sld hx hb hX hbl hbA hS (by unfold vp_in; decide) dL_law_225 ?_
  refine lv_aload_n hx hb dL_law_226 rfl (lv_at hl 3 rfl) ?_
  refine lv_iload_n hx hb dL_law_227 rfl (lv_at hl 0 rfl) ?_
  refine lv_iconst (v := 3) hx hb dL_law_228 (by decide) ?_
  refine lv_iadd hx hb dL_law_229 ?_
  refine va_sld hx hb hX hbl hbA hS (by unfold vp_in; decide) dL_law_230 ?_
  refine lw_call C0 (n := 3) (N := MX12_drum) (As := [.int (xs ((0 + 1) : Int32).toNatClampNeg), .int (xs ((0 + 2) : Int32).toNatClampNeg), .int (xs ((0 + 3) : Int32).toNatClampNeg)]) (rest := [.int x1]) (T := TX12) (NN := 19) hZ hP hAE hS hl.1 (w_drum S2 (zs_chF hch) (xs ((0 + 1) : Int32).toNatClampNeg) (xs ((0 + 2) : Int32).toNatClampNeg) (xs ((0 + 3) : Int32).toNatClampNeg)) dL_law_231 ⟨⟨rfl, rfl, Nat.le_of_ble_eq_true rfl, Nat.le_of_ble_eq_true rfl⟩, cwX12_drum, iwX12_drum, ⟨by decide, by decide⟩, by decide +kernel⟩ lk_17 mwX12_drum ewX12_drum (by decide) rfl rfl rfl rfl (Nat.le_of_ble_eq_true rfl) ?_
  rintro _ S3 H2 locs2 ⟨y1, rfl, h2⟩ hP hS
  obtain rfl : x1 = y1 := h1.trans h2.symm
  exact lv_icmp_eq (tgt := 1159) hx hb dL_law_234 (by decide) (fun _ => kend _ _ hS) (fun z => absurd rfl z)
