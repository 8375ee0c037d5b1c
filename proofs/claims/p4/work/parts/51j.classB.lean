theorem zs_fr.t {S S2 : zs_S} (h : zs_fr S S2) : S2.1 44 = S.1 44 := funext fun i => (h 44 i rfl).1
theorem zs_o4.f {S S2 : zs_S} (h : zs_o4 S S2) : zs_fr S S2 := fun b i hb => by
  simp only [zs_pr, Bool.or_eq_true, Bool.and_eq_true, Nat.ble_eq, Nat.beq_eq] at hb
  rcases hb with ((h1 | ⟨rfl, h2⟩) | ⟨rfl, rfl⟩) | rfl
  · exact ⟨by rw [h.1 b (Or.inr (by omega)) (by omega)], by rw [h.2.2.1 b (Or.inr (by omega))]⟩
  · exact ⟨by rw [h.1 0 (Or.inl (by omega)) (by omega)], by rw [h.2.2.1 0 (Or.inl (by omega))]⟩
  · exact ⟨h.2.1 1 (by omega), by rw [h.2.2.1 43 (Or.inl (by omega))]⟩
  · exact ⟨by rw [h.1 44 (Or.inl (by omega)) (by omega)], by rw [h.2.2.1 44 (Or.inl (by omega))]⟩
set_option maxRecDepth 100000 in
theorem c_imageB (S : zs_S) (a : Int32) : zs_Ci MX11_image [.ref 0, .int a] S (fun x S2 => S2.1 44 = S.1 44 ∧ zs_fq S S2 ∧ S2.1 43 1 = S.1 43 1 ∧ ((∃ k, k < 2 ∧ a = nI k ∧ x = nI 1 ∧ ∀ i, i < 2 → S2.1 0 (3 + i) = if i = k then nI 1 else S.1 0 (3 + i)) ∨ (¬ (nI 0 ≤ a ∧ a ≤ nI 1) ∧ x = (-2) ∧ ∀ i, i < 2 → S2.1 0 (3 + i) = S.1 0 (3 + i)))) := by
  refine zs_C.of (by decide) (Nat.le_of_ble_eq_true rfl) ?_
  show zs_P MX11_image 0 [(0, .ref 0), (1, .int a)] [] S _
  refine g_iload_n dX11_image_0 rfl rfl ?_
  refine g_iconst (v := (nI 0)) dX11_image_1 rfl ?_
  refine g_iconst (v := (nI 1)) dX11_image_2 rfl ?_
  refine g_callS [.int a, .int (nI 0), .int (nI 1)] [] (x_within S a (nI 0) (nI 1)) dX11_image_3 kk_X11_image_X11_within ml_RX11_75 swX11_within rfl rfl (Nat.le_of_ble_eq_true rfl) ?_
  rintro _ _ ⟨_, rfl, rfl, rfl⟩
  refine g_if_ne 16 dX11_image_6 (by decide) (fun h1 => ?_) (fun h1 => ?_)
  · have h1 := zs_b1 h1
    obtain ⟨a', a'a, a'b, rfl⟩ := zs_rng h1 (by omega)
    refine g_iload_n dX11_image_16 rfl rfl ?_
    refine g_if_neN 39 dX11_image_17 (by decide) (by omega) (fun h2 => ?_) (fun h2 => ?_)
    · refine g_aload_n dX11_image_39 rfl rfl ?_
      refine g_getR 2 (29) (C := RX11) (T := TX11) (N := 18) dX11_image_40 (by decide) rfl rfl (by decide) rfl fl_RX11_19 ?_
      refine g_aload_n dX11_image_43 rfl rfl ?_
      refine g_getR 0 (1) (C := RX11) (T := TX11) (N := 18) dX11_image_44 (by decide) rfl rfl (by decide) rfl fl_RX11_10 ?_
      refine g_callV (T := TX6) (NN := 9) [] (v_X6_become_29_1 S) dX11_image_47 kk_X11_image_X6_become ml_RX11_133 mwX6_become ewX6_become (by decide) rfl rfl rfl rfl (Nat.le_of_ble_eq_true rfl) ?_
      rintro _ S3 ⟨rfl, fS3⟩
      refine g_aload_n dX11_image_50 rfl rfl ?_
      refine g_iconst (v := (nI 1)) dX11_image_51 rfl ?_
      refine g_putI 4 (C := RX11) (T := TX11) (N := 18) (ty := .boolean) dX11_image_52 (by decide) rfl rfl (by decide) rfl fl_RX11_311 rfl (by decide +kernel) ⟨rfl, rfl⟩ ?_
      refine g_iconst (v := (nI 1)) dX11_image_55 rfl ?_
      refine g_iret dX11_image_56 rfl rfl ?_
      exact ⟨_, rfl, funext fun i => (zs_up_m (by omega)).trans (congrFun fS3.t i), fun b i hb => ⟨(zs_up_m (by omega)).trans (fS3.q b i hb).1, (fS3.q b i hb).2⟩, (zs_up_m (by omega)).trans fS3.l, Or.inl ⟨a', by omega, rfl, rfl, fun i hi => by
          obtain rfl : a' = 1 := by omega
          show zs_up S3.1 0 4 (nI 1) 0 (3 + i) = _
          by_cases h9 : i = 1
          · subst h9; exact zs_up_s
          · rw [if_neg h9]; exact (zs_up_n (by omega)).trans (fS3.k hi)⟩⟩
    · refine g_aload_n dX11_image_20 rfl rfl ?_
      refine g_getR 1 (15) (C := RX11) (T := TX11) (N := 18) dX11_image_21 (by decide) rfl rfl (by decide) rfl fl_RX11_16 ?_
      refine g_aload_n dX11_image_24 rfl rfl ?_
      refine g_getR 0 (1) (C := RX11) (T := TX11) (N := 18) dX11_image_25 (by decide) rfl rfl (by decide) rfl fl_RX11_10 ?_
      refine g_callV (T := TX6) (NN := 9) [] (v_X6_become_15_1 S) dX11_image_28 kk_X11_image_X6_become ml_RX11_133 mwX6_become ewX6_become (by decide) rfl rfl rfl rfl (Nat.le_of_ble_eq_true rfl) ?_
      rintro _ S4 ⟨rfl, fS4⟩
      refine g_aload_n dX11_image_31 rfl rfl ?_
      refine g_iconst (v := (nI 1)) dX11_image_32 rfl ?_
      refine g_putI 3 (C := RX11) (T := TX11) (N := 18) (ty := .boolean) dX11_image_33 (by decide) rfl rfl (by decide) rfl fl_RX11_307 rfl (by decide +kernel) ⟨rfl, rfl⟩ ?_
      refine g_goto 55 dX11_image_36 (by decide) ?_
      refine g_iconst (v := (nI 1)) dX11_image_55 rfl ?_
      refine g_iret dX11_image_56 rfl rfl ?_
      exact ⟨_, rfl, funext fun i => (zs_up_m (by omega)).trans (congrFun fS4.t i), fun b i hb => ⟨(zs_up_m (by omega)).trans (fS4.q b i hb).1, (fS4.q b i hb).2⟩, (zs_up_m (by omega)).trans fS4.l, Or.inl ⟨a', by omega, rfl, rfl, fun i hi => by
          obtain rfl : a' = 0 := by omega
          show zs_up S4.1 0 3 (nI 1) 0 (3 + i) = _
          by_cases h9 : i = 0
          · subst h9; exact zs_up_s
          · rw [if_neg h9]; exact (zs_up_n (by omega)).trans (fS4.k hi)⟩⟩
  · have h1 := zs_b0 h1
    refine g_aload_n dX11_image_9 rfl rfl ?_
    refine g_bipush (v := (-2)) dX11_image_10 rfl ?_
    refine g_callV (T := TX11) (NN := 18) [] (x_refuseBad S (-2)) dX11_image_12 kk_X11_image_X11_refuseBad ml_RX11_86 mwX11_refuseBad ewX11_refuseBad (by decide) rfl rfl rfl rfl (Nat.le_of_ble_eq_true rfl) ?_
    rintro _ _ ⟨_, rfl, rfl, rfl⟩
    refine g_iret dX11_image_15 rfl rfl ?_
    exact ⟨_, rfl, (zs_rfB S _).t, (zs_rfB S _).q, (zs_rfB S _).l, Or.inr ⟨h1, rfl, fun i hi => (zs_rfB S _).k hi⟩⟩
set_option maxRecDepth 100000 in
theorem c_addB (S : zs_S) (m : Nat) (c : Int32) (hm1 : m < 150) (hm : S.1 43 1 = nI m) : zs_Ci MX10_add [.ref 43, .int c] S (fun x S2 => x = nI (m + 1) ∧ S2.1 43 1 = nI (m + 1) ∧ (∀ b i, b ≠ 43 → b ≠ 44 → S2.1 b i = S.1 b i ∧ S2.2 b i = S.2 b i) ∧ S2.1 44 m = c ∧ ∀ i, i ≠ m → S2.1 44 i = S.1 44 i) := by
  refine zs_C.of (by decide) (Nat.le_of_ble_eq_true rfl) ?_
  show zs_P MX10_add 0 [(0, .ref 43), (1, .int c)] [] S _
  refine g_aload_n dX10_add_0 rfl rfl ?_
  refine g_getR 0 (44) (C := RX10) (T := TX10) (N := 8) dX10_add_1 (by decide) rfl rfl (by decide) rfl fl_RX10_9 ?_
  refine g_aload_n dX10_add_4 rfl rfl ?_
  refine g_getV 1 (C := RX10) (T := TX10) (N := 8) (v := (nI m)) dX10_add_5 (by decide) rfl rfl (by decide) rfl fl_RX10_34 hm ?_
  refine g_iload_n dX10_add_8 rfl rfl ?_
  refine g_callN [.ref 44, .int (nI m), .int c] [] (x_putN S 44 150 m c (by decide) rfl (by decide) hm1) dX10_add_9 kk_X10_add_X11_put nl_RX10_38 swX11_put rfl rfl (Nat.le_of_ble_eq_true rfl) ?_
  rintro _ _ ⟨rfl, rfl⟩
  refine g_aload_n dX10_add_12 rfl rfl ?_
  refine g_dup dX10_add_13 rfl ?_
  refine g_getV 1 (C := RX10) (T := TX10) (N := 8) (v := (nI m)) dX10_add_14 (by decide) rfl rfl (by decide) rfl fl_RX10_34 ((zs_up_m (by omega)).trans hm) ?_
  refine g_iconst (v := (nI 1)) dX10_add_17 rfl ?_
  refine g_iaddN dX10_add_18 ?_
  refine g_putI 1 (C := RX10) (T := TX10) (N := 8) (ty := .int) dX10_add_19 (by decide) rfl rfl (by decide) rfl fl_RX10_34 rfl (by decide +kernel) ⟨rfl, rfl⟩ ?_
  refine g_aload_n dX10_add_22 rfl rfl ?_
  refine g_getV 1 (C := RX10) (T := TX10) (N := 8) (v := (nI (m + 1))) dX10_add_23 (by decide) rfl rfl (by decide) rfl fl_RX10_34 zs_up_q ?_
  refine g_iret dX10_add_26 rfl rfl ?_
  exact ⟨_, rfl, rfl, zs_up_q, fun b i h1 h2 => ⟨(zs_up_m (by omega)).trans (zs_up_m (by omega)), rfl⟩, (zs_up_m (by omega)).trans zs_up_q, fun i hi => (zs_up_m (by omega)).trans (zs_up_m (by omega))⟩
set_option maxRecDepth 100000 in
theorem c_typeB (S : zs_S) (m : Nat) (c : Int32) (hm : S.1 43 1 = nI m) (h : m ≤ 150) : zs_Ci MX11_type [.ref 0, .int c] S (fun x S2 => zs_fq S S2 ∧ (∀ i, i < 2 → S2.1 0 (3 + i) = S.1 0 (3 + i)) ∧ ((¬ (nI 0 ≤ c ∧ c ≤ nI 127) ∧ x = (-2) ∧ S2.1 43 1 = S.1 43 1 ∧ S2.1 44 = S.1 44) ∨ ((nI 0 ≤ c ∧ c ≤ nI 127) ∧ ((150 ≤ m ∧ x = (-4) ∧ S2.1 43 1 = S.1 43 1 ∧ S2.1 44 = S.1 44) ∨ (m < 150 ∧ x = nI (m + 1) ∧ S2.1 43 1 = nI (m + 1) ∧ S2.1 44 m = c ∧ ∀ i, i ≠ m → S2.1 44 i = S.1 44 i))))) := by
  refine zs_C.of (by decide) (Nat.le_of_ble_eq_true rfl) ?_
  show zs_P MX11_type 0 [(0, .ref 0), (1, .int c)] [] S _
  refine g_iload_n dX11_type_0 rfl rfl ?_
  refine g_iconst (v := (nI 0)) dX11_type_1 rfl ?_
  refine g_bipush (v := (nI 127)) dX11_type_2 rfl ?_
  refine g_callS [.int c, .int (nI 0), .int (nI 127)] [] (x_within S c (nI 0) (nI 127)) dX11_type_4 kk_X11_type_X11_within ml_RX11_75 swX11_within rfl rfl (Nat.le_of_ble_eq_true rfl) ?_
  rintro _ _ ⟨_, rfl, rfl, rfl⟩
  refine g_if_ne 17 dX11_type_7 (by decide) (fun h1 => ?_) (fun h1 => ?_)
  · have h1 := zs_b1 h1
    obtain ⟨c', c'a, c'b, rfl⟩ := zs_rng h1 (by omega)
    have hcc : nI 0 ≤ (nI c') ∧ (nI c') ≤ nI 127 := ⟨nI_le (by omega) (by omega), nI_le (by omega) (by omega)⟩
    refine g_aload_n dX11_type_17 rfl rfl ?_
    refine g_getR 5 (43) (C := RX11) (T := TX11) (N := 18) dX11_type_18 (by decide) rfl rfl (by decide) rfl fl_RX11_25 ?_
    refine g_callV (T := TX10) (NN := 8) [] (c_isFull S m hm h) dX11_type_21 kk_X11_type_X10_isFull ml_RX11_118 mwX10_isFull ewX10_isFull (by decide) rfl rfl rfl rfl (Nat.le_of_ble_eq_true rfl) ?_
    rintro _ _ ⟨_, rfl, rfl, rfl⟩
    refine g_if_eq 34 dX11_type_24 (by decide) (fun h2 => ?_) (fun h2 => ?_)
    · have h2 := zs_b0 h2
      refine g_aload_n dX11_type_34 rfl rfl ?_
      refine g_getR 5 (43) (C := RX11) (T := TX11) (N := 18) dX11_type_35 (by decide) rfl rfl (by decide) rfl fl_RX11_25 ?_
      refine g_iload_n dX11_type_38 rfl rfl ?_
      refine g_callV (T := TX10) (NN := 8) [] (c_addB S m (nI c') (by omega) hm) dX11_type_39 kk_X11_type_X10_add ml_RX11_122 mwX10_add ewX10_add (by decide) rfl rfl rfl rfl (Nat.le_of_ble_eq_true rfl) ?_
      rintro _ S3 ⟨_, rfl, rfl, lS3, fS3⟩
      refine g_iret dX11_type_42 rfl rfl ?_
      exact ⟨_, rfl, fun b i hb => (fS3.1 b i (by omega) (by omega)), fun i hi => (fS3.1 0 (3 + i) (by decide) (by decide)).1, Or.inr ⟨hcc, Or.inr ⟨by omega, rfl, lS3, fS3.2⟩⟩⟩
    · have h2 := zs_b1 h2
      refine g_aload_n dX11_type_27 rfl rfl ?_
      refine g_callV (T := TX11) (NN := 18) [] (x_refuseFull S) dX11_type_28 kk_X11_type_X11_refuseFull ml_RX11_110 mwX11_refuseFull ewX11_refuseFull (by decide) rfl rfl rfl rfl (Nat.le_of_ble_eq_true rfl) ?_
      rintro _ _ ⟨_, rfl, rfl, rfl⟩
      refine g_goto 42 dX11_type_31 (by decide) ?_
      refine g_iret dX11_type_42 rfl rfl ?_
      exact ⟨_, rfl, (zs_rfF S _).q, fun i hi => (zs_rfF S _).k hi, Or.inr ⟨hcc, Or.inl ⟨h2, rfl, (zs_rfF S _).l, (zs_rfF S _).t⟩⟩⟩
  · have h1 := zs_b0 h1
    refine g_aload_n dX11_type_10 rfl rfl ?_
    refine g_bipush (v := (-2)) dX11_type_11 rfl ?_
    refine g_callV (T := TX11) (NN := 18) [] (x_refuseBad S (-2)) dX11_type_13 kk_X11_type_X11_refuseBad ml_RX11_86 mwX11_refuseBad ewX11_refuseBad (by decide) rfl rfl rfl rfl (Nat.le_of_ble_eq_true rfl) ?_
    rintro _ _ ⟨_, rfl, rfl, rfl⟩
    refine g_iret dX11_type_16 rfl rfl ?_
    exact ⟨_, rfl, (zs_rfB S _).q, fun i hi => (zs_rfB S _).k hi, Or.inl ⟨h1, rfl, (zs_rfB S _).l, (zs_rfB S _).t⟩⟩
set_option maxRecDepth 100000 in
theorem c_readB (B : Nat → Nat) (L : Nat) (S : zs_S) (hT : zs_tx S B L) : zs_Ci MX11_read [.ref 0] S (fun x S2 => zs_fr S S2 ∧ ((tp_read (tx_k B L) (tx_v B L)).1 = true → x = nI (tp_read (tx_k B L) (tx_v B L)).2.1) ∧ ((tp_read (tx_k B L) (tx_v B L)).1 = false → x = (-10) - nI (tx_p B L (tp_read (tx_k B L) (tx_v B L)).2.2.1))) := by
  refine zs_C.of (by decide) (Nat.le_of_ble_eq_true rfl) ?_
  show zs_P MX11_read 0 [(0, .ref 0)] [] S _
  refine g_aload_n dX11_read_0 rfl rfl ?_
  refine g_getR 5 (43) (C := RX11) (T := TX11) (N := 18) dX11_read_1 (by decide) rfl rfl (by decide) rfl fl_RX11_25 ?_
  refine g_callV (T := TX10) (NN := 8) [] (c_readDraft B L S hT) dX11_read_4 kk_X11_read_X10_readDraft ml_RX11_127 mwX10_readDraft ewX10_readDraft (by decide) rfl rfl rfl rfl (Nat.le_of_ble_eq_true rfl) ?_
  rintro _ S2 ⟨x1, rfl, oS2, pS2, qS2⟩
  refine g_istore_n (lv' := [(1, .int x1), (0, .ref 0)]) dX11_read_7 rfl (by decide) rfl ?_
  refine g_iload_n dX11_read_8 rfl rfl ?_
  refine g_if_le 26 dX11_read_9 (by decide) (fun h3 => ?_) (fun h3 => ?_)
  · refine g_iload_n dX11_read_26 rfl rfl ?_
    refine g_iret dX11_read_27 rfl rfl ?_
    exact ⟨_, rfl, oS2.f, fun z => (pS2 z).1, qS2⟩
  · refine g_aload_n dX11_read_12 rfl rfl ?_
    refine g_getR 0 (1) (C := RX11) (T := TX11) (N := 18) dX11_read_13 (by decide) rfl rfl (by decide) rfl fl_RX11_10 ?_
    refine g_aload_n dX11_read_16 rfl rfl ?_
    refine g_getR 5 (43) (C := RX11) (T := TX11) (N := 18) dX11_read_17 (by decide) rfl rfl (by decide) rfl fl_RX11_25 ?_
    refine g_getR 2 (45) (C := RX10) (T := TX10) (N := 8) dX11_read_20 (by decide) rfl rfl (by decide) rfl fl_RX11_130 ?_
    refine g_callV (T := TX6) (NN := 9) [] (v_X6_become_1_45 S2) dX11_read_23 kk_X11_read_X6_become ml_RX11_133 mwX6_become ewX6_become (by decide) rfl rfl rfl rfl (Nat.le_of_ble_eq_true rfl) ?_
    rintro _ S4 ⟨rfl, fS4⟩
    refine g_iload_n dX11_read_26 rfl rfl ?_
    refine g_iret dX11_read_27 rfl rfl ?_
    exact ⟨_, rfl, (oS2.f.tr fS4), fun z => (pS2 z).1, qS2⟩
