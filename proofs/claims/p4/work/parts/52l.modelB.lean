theorem zs_fm.t {S S2 : zs_S} (h : zs_fm S S2) : S2.1 84 = S.1 84 := funext fun i => (h 84 i rfl).1
theorem zs_nb8 : ∀ c, c < 128 → vp_nar .byte (Int8.toInt32 (Int32.toInt8 (nI c))) = nI c := by decide +kernel
set_option maxRecDepth 100000 in
theorem y_imageB (a : Int32) (S : zs_S) (hJ : zs_J S) : zs_Ci MX12_image [.ref 80, .int a] S (fun x S2 => S2.1 84 = S.1 84 ∧ zs_J S2 ∧ zs_fx S S2 ∧ S2.1 80 3 = S.1 80 3 ∧ ((∃ k, k < 2 ∧ a = nI k ∧ x = nI 1 ∧ ∀ i, S2.1 83 i = if i = k then nI 1 else S.1 83 i) ∨ (¬ (nI 0 ≤ a ∧ a ≤ nI 1) ∧ x = (-2) ∧ ∀ i, S2.1 83 i = S.1 83 i))) := by
  obtain ⟨m, g1, g2, g3⟩ := hJ.1 82 0 1 12 rfl
  refine zs_C.of (by decide) (Nat.le_of_ble_eq_true rfl) ?_
  show zs_P MX12_image 0 [(0, .ref 80), (1, .int a)] [] S _
  refine g_iload_n dX12_image_0 rfl rfl ?_
  refine g_i2l dX12_image_1 rfl ?_
  refine g_lconst (v := 0) dX12_image_2 (by decide) ?_
  refine g_lconst (v := 1) dX12_image_3 (by decide) ?_
  refine g_callS [.long (Int32.toInt64 a), .long 0, .long 1] [] (z_in S a 0 1 (by decide) (by decide)) dX12_image_4 kk_X12_image_X12_in ml_RX12_54 swX12_in rfl rfl (Nat.le_of_ble_eq_true rfl) ?_
  rintro _ _ ⟨_, rfl, rfl, rfl⟩
  refine g_if_ne 15 dX12_image_7 (by decide) (fun h3 => ?_) (fun h3 => ?_)
  · have h3 := zs_b1 h3
    obtain ⟨a', a'a, a'b, rfl⟩ := zs_rng h3 (by omega)
    refine g_aload_n dX12_image_15 rfl rfl ?_
    refine g_iconst (v := (nI 0)) dX12_image_16 rfl ?_
    refine g_sipush (v := (nI 225)) dX12_image_17 rfl ?_
    refine g_iload_n dX12_image_20 rfl rfl ?_
    refine g_iconst (v := (nI 1)) dX12_image_21 rfl ?_
    refine g_iaddN dX12_image_22 ?_
    refine g_imulN dX12_image_23 ?_
    refine g_iconst (v := (nI 0)) dX12_image_24 rfl ?_
    refine g_bipush (v := (nI 66)) dX12_image_25 rfl ?_
    refine g_iload_n dX12_image_27 rfl rfl ?_
    refine g_iconst (v := (nI 1)) dX12_image_28 rfl ?_
    refine g_iaddN dX12_image_29 ?_
    refine g_imulN dX12_image_30 ?_
    refine g_callV (T := TX12) (NN := 19) [] (y_carries 0 (225 * (a' + 1)) 0 (66 * (a' + 1)) m (by omega) (by omega) (by omega) (by omega) (by omega) (by omega) g1 g2 S hJ g3) dX12_image_31 kk_X12_image_X12_carries ml_RX12_245 mwX12_carries ewX12_carries (by decide) rfl rfl rfl rfl (Nat.le_of_ble_eq_true rfl) ?_
    rintro _ S4 ⟨rfl, jS4⟩
    refine g_aload_n dX12_image_34 rfl rfl ?_
    refine g_getR 2 (83) (C := RX12) (T := TX12) (N := 19) dX12_image_35 (by decide) rfl rfl (by decide) rfl fl_RX12_16 ?_
    refine g_iload_n dX12_image_38 rfl rfl ?_
    refine g_iconst (v := (nI 1)) dX12_image_39 rfl ?_
    refine g_iastN dX12_image_40 (by decide) rfl (by omega) (by decide) ?_
    refine g_iconst (v := (nI 1)) dX12_image_41 rfl ?_
    refine g_iret dX12_image_42 rfl rfl ?_
    exact ⟨_, rfl, funext fun i => (zs_up_m (by omega)).trans (congrFun jS4.2.1.t i), jS4.1.kp (fun _ => ⟨m, g1, g2, jS4.2.2⟩), fun b i hb => ⟨(zs_up_m (by omega)).trans (jS4.2.1.x b i hb).1, (jS4.2.1.x b i hb).2⟩, (zs_up_m (by omega)).trans jS4.2.1.l, Or.inl ⟨a', by omega, rfl, rfl, fun i => by
        show zs_up S4.1 83 a' (nI 1) 83 i = _
        by_cases hi : i = a'
        · rw [if_pos hi, hi]; exact zs_up_s
        · rw [if_neg hi]; exact (zs_up_n (fun q => hi q.2)).trans (jS4.2.1.k i)⟩⟩
  · have h3 := zs_b0 h3
    refine g_aload_n dX12_image_10 rfl rfl ?_
    refine g_callV (T := TX12) (NN := 19) [] (q_bad S hJ) dX12_image_11 kk_X12_image_X12_bad ml_RX12_62 mwX12_bad ewX12_bad (by decide) rfl rfl rfl rfl (Nat.le_of_ble_eq_true rfl) ?_
    rintro _ S5 ⟨x6, rfl, ex6, jS5, fS5⟩
    refine g_iret dX12_image_14 rfl rfl ?_
    exact ⟨_, rfl, (((zs_fm.rf).tr fS5)).t, jS5, (((zs_fm.rf).tr fS5)).x, (((zs_fm.rf).tr fS5)).l, Or.inr ⟨h3, ex6, (((zs_fm.rf).tr fS5)).k⟩⟩
set_option maxRecDepth 100000 in
theorem y_typeB (c : Int32) (m : Nat) (S : zs_S) (hJ : zs_J S) (g3 : S.1 80 3 = nI m) (hm : m ≤ 150) : zs_Ci MX12_type [.ref 80, .int c] S (fun x S2 => zs_J S2 ∧ zs_fx S S2 ∧ (∀ i, S2.1 83 i = S.1 83 i) ∧ ((¬ (nI 0 ≤ c ∧ c ≤ nI 127) ∧ x = (-2) ∧ S2.1 80 3 = S.1 80 3 ∧ S2.1 84 = S.1 84) ∨ ((nI 0 ≤ c ∧ c ≤ nI 127) ∧ ((150 ≤ m ∧ x = (-4) ∧ S2.1 80 3 = S.1 80 3 ∧ S2.1 84 = S.1 84) ∨ (m < 150 ∧ x = nI (m + 1) ∧ S2.1 80 3 = nI (m + 1) ∧ S2.1 84 m = c ∧ ∀ i, i ≠ m → S2.1 84 i = S.1 84 i))))) := by
  have hmN : (nI m).toNatClampNeg = m := Int32.toNatClampNeg_ofNat_of_lt (by omega)
  refine zs_C.of (by decide) (Nat.le_of_ble_eq_true rfl) ?_
  show zs_P MX12_type 0 [(0, .ref 80), (1, .int c)] [] S _
  refine g_iload_n dX12_type_0 rfl rfl ?_
  refine g_i2l dX12_type_1 rfl ?_
  refine g_lconst (v := 0) dX12_type_2 (by decide) ?_
  refine g_ldc2 (v := 127) dX12_type_3 cl_RX12_73 ?_
  refine g_callS [.long (Int32.toInt64 c), .long 0, .long 127] [] (z_in S c 0 127 (by decide) (by decide)) dX12_type_6 kk_X12_type_X12_in ml_RX12_54 swX12_in rfl rfl (Nat.le_of_ble_eq_true rfl) ?_
  rintro _ _ ⟨_, rfl, rfl, rfl⟩
  refine g_if_ne 17 dX12_type_9 (by decide) (fun h3 => ?_) (fun h3 => ?_)
  · have h3 := zs_b1 h3
    obtain ⟨c', c'a, c'b, rfl⟩ := zs_rng h3 (by omega)
    have hcc : nI 0 ≤ (nI c') ∧ (nI c') ≤ nI 127 := ⟨nI_le (by omega) (by omega), nI_le (by omega) (by omega)⟩
    refine g_aload_n dX12_type_17 rfl rfl ?_
    refine g_getV 3 (C := RX12) (T := TX12) (N := 19) (v := (nI m)) dX12_type_18 (by decide) rfl rfl (by decide) rfl fl_RX12_75 g3 ?_
    refine g_sipush (v := (nI 150)) dX12_type_21 rfl ?_
    refine g_ic_neN 32 dX12_type_24 (by decide) (by omega) (by omega) (fun h4 => ?_) (fun h4 => ?_)
    · refine g_aload_n dX12_type_32 rfl rfl ?_
      refine g_getR 4 (84) (C := RX12) (T := TX12) (N := 19) dX12_type_33 (by decide) rfl rfl (by decide) rfl fl_RX12_19 ?_
      refine g_aload_n dX12_type_36 rfl rfl ?_
      refine g_getV 3 (C := RX12) (T := TX12) (N := 19) (v := (nI m)) dX12_type_37 (by decide) rfl rfl (by decide) rfl fl_RX12_75 g3 ?_
      refine g_iload_n dX12_type_40 rfl rfl ?_
      refine g_i2b dX12_type_41 rfl ?_
      refine g_bast dX12_type_42 (by decide) rfl (vp_in_nI (by omega) (by omega)) ?_
      refine g_aload_n dX12_type_43 rfl rfl ?_
      refine g_dup dX12_type_44 rfl ?_
      refine g_getV 3 (C := RX12) (T := TX12) (N := 19) (v := (nI m)) dX12_type_45 (by decide) rfl rfl (by decide) rfl fl_RX12_75 ((zs_up_m (by omega)).trans g3) ?_
      refine g_iconst (v := (nI 1)) dX12_type_48 rfl ?_
      refine g_iaddN dX12_type_49 ?_
      refine g_putI 3 (C := RX12) (T := TX12) (N := 19) (ty := .int) dX12_type_50 (by decide) rfl rfl (by decide) rfl fl_RX12_75 rfl (by decide +kernel) ⟨rfl, rfl⟩ ?_
      refine g_aload_n dX12_type_53 rfl rfl ?_
      refine g_getV 3 (C := RX12) (T := TX12) (N := 19) (v := (nI (m + 1))) dX12_type_54 (by decide) rfl rfl (by decide) rfl fl_RX12_75 zs_up_q ?_
      refine g_iret dX12_type_57 rfl rfl ?_
      exact ⟨_, rfl, (hJ.up (zs_okN rfl (by decide) (by decide))).ln (by omega), fun b i hb => ⟨(zs_up_m (by omega)).trans (zs_up_m (by omega)), rfl⟩, fun i => (zs_up_m (by omega)).trans (zs_up_m (by omega)), Or.inr ⟨hcc, Or.inr ⟨by omega, rfl, zs_up_q, by rw [zs_up_m (by omega), zs_nb8 c' (by omega), hmN]; exact zs_up_q, fun i hi => (zs_up_m (by omega)).trans (zs_up_m (by rw [hmN]; omega))⟩⟩⟩
    · refine g_aload_n dX12_type_27 rfl rfl ?_
      refine g_callV (T := TX12) (NN := 19) [] (q_full S hJ) dX12_type_28 kk_X12_type_X12_full ml_RX12_66 mwX12_full ewX12_full (by decide) rfl rfl rfl rfl (Nat.le_of_ble_eq_true rfl) ?_
      rintro _ S5 ⟨x6, rfl, ex6, jS5, fS5⟩
      refine g_iret dX12_type_31 rfl rfl ?_
      exact ⟨_, rfl, jS5, (((zs_fm.rf).tr fS5)).x, (((zs_fm.rf).tr fS5)).k, Or.inr ⟨hcc, Or.inl ⟨by omega, ex6, (((zs_fm.rf).tr fS5)).l, (((zs_fm.rf).tr fS5)).t⟩⟩⟩
  · have h3 := zs_b0 h3
    refine g_aload_n dX12_type_12 rfl rfl ?_
    refine g_callV (T := TX12) (NN := 19) [] (q_bad S hJ) dX12_type_13 kk_X12_type_X12_bad ml_RX12_62 mwX12_bad ewX12_bad (by decide) rfl rfl rfl rfl (Nat.le_of_ble_eq_true rfl) ?_
    rintro _ S7 ⟨x8, rfl, ex8, jS7, fS7⟩
    refine g_iret dX12_type_16 rfl rfl ?_
    exact ⟨_, rfl, jS7, (((zs_fm.rf).tr fS7)).x, (((zs_fm.rf).tr fS7)).k, Or.inl ⟨h3, ex8, (((zs_fm.rf).tr fS7)).l, (((zs_fm.rf).tr fS7)).t⟩⟩
