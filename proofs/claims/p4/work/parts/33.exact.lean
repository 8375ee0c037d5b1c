/-- what is guarded, but the flags and the length: the model's cells -/
def zs_fq (S S2 : zs_S) : Prop := ∀ b i, 80 ≤ b → S2.1 b i = S.1 b i ∧ S2.2 b i = S.2 b i
theorem zs_fr.q {S S2 : zs_S} (h : zs_fr S S2) : zs_fq S S2 := fun b i hb => h b i (by
  unfold zs_pr
  rw [show Nat.ble 80 b = true from Nat.ble_eq_true_of_le hb]; rfl)
theorem zs_fr.k {S S2 : zs_S} (h : zs_fr S S2) {k : Nat} (hk : k < 2) : S2.1 0 (3 + k) = S.1 0 (3 + k) := by
  obtain rfl | rfl : k = 0 ∨ k = 1 := by omega
  · exact (h 0 3 rfl).1
  · exact (h 0 4 rfl).1
theorem zs_fr.l {S S2 : zs_S} (h : zs_fr S S2) : S2.1 43 1 = S.1 43 1 := (h 43 1 rfl).1
theorem zs_rfB (S : zs_S) (v : Int32) : zs_fr S (zs_up S.1 0 8 v, S.2) := zs_fr.up rfl
theorem zs_rfN (S : zs_S) (v : Int32) : zs_fr S (zs_up S.1 0 9 v, S.2) := zs_fr.up rfl
theorem zs_rfF (S : zs_S) (v : Int32) : zs_fr S (zs_up S.1 0 10 v, S.2) := zs_fr.up rfl
theorem zs_ab {a : Int32} (h : nI 0 ≤ a ∧ a ≤ nI 1) : ∃ k, k < 2 ∧ a = nI k := by
  obtain ⟨k, -, h2, rfl⟩ := zs_rng h (by omega)
  exact ⟨k, by omega, rfl⟩
set_option maxRecDepth 100000 in
theorem c_image (S : zs_S) (a : Int32) : zs_Ci MX11_image [.ref 0, .int a] S (fun x S2 => zs_fq S S2 ∧ S2.1 43 1 = S.1 43 1 ∧ ((∃ k, k < 2 ∧ a = nI k ∧ x = nI 1 ∧ ∀ i, i < 2 → S2.1 0 (3 + i) = if i = k then nI 1 else S.1 0 (3 + i)) ∨ (¬ (nI 0 ≤ a ∧ a ≤ nI 1) ∧ x = (-2) ∧ ∀ i, i < 2 → S2.1 0 (3 + i) = S.1 0 (3 + i)))) := by
  refine zs_C.of (by decide) (Nat.le_of_ble_eq_true rfl) ?_
  show zs_P MX11_image 0 [(0, .ref 0), (1, .int a)] [] S _
  refine g_iload_n dX11_image_0 rfl rfl ?_
  refine g_iconst (v := (nI 0)) dX11_image_1 rfl ?_
  refine g_iconst (v := (nI 1)) dX11_image_2 rfl ?_
  refine g_callS [.int a, .int (nI 0), .int (nI 1)] [] (x_within S a (nI 0) (nI 1)) dX11_image_3 kk_X11_image_X11_within ml_RX11_75 swX11_within rfl rfl (Nat.le_of_ble_eq_true rfl) ?_
  rintro _ _ ⟨_, rfl, rfl, rfl⟩
  refine g_if_ne 16 dX11_image_6 (by decide) (fun h1 => ?_) (fun h1 => ?_)
  · have h1 := zs_b1 h1
    obtain ⟨a', a'a, a'b, rfl⟩ := zs_rng h1 (by omega)
    refine g_iload_n dX11_image_16 rfl rfl ?_
    refine g_if_neN 39 dX11_image_17 (by decide) (by omega) (fun h2 => ?_) (fun h2 => ?_)
    · refine g_aload_n dX11_image_39 rfl rfl ?_
      refine g_getR 2 (29) (C := RX11) (T := TX11) (N := 18) dX11_image_40 (by decide) rfl rfl (by decide) rfl fl_RX11_19 ?_
      refine g_aload_n dX11_image_43 rfl rfl ?_
      refine g_getR 0 (1) (C := RX11) (T := TX11) (N := 18) dX11_image_44 (by decide) rfl rfl (by decide) rfl fl_RX11_10 ?_
      refine g_callV (T := TX6) (NN := 9) [] (v_X6_become_29_1 S) dX11_image_47 kk_X11_image_X6_become ml_RX11_133 mwX6_become ewX6_become (by decide) rfl rfl rfl rfl (Nat.le_of_ble_eq_true rfl) ?_
      rintro _ S3 ⟨rfl, fS3⟩
      refine g_aload_n dX11_image_50 rfl rfl ?_
      refine g_iconst (v := (nI 1)) dX11_image_51 rfl ?_
      refine g_putI 4 (C := RX11) (T := TX11) (N := 18) (ty := .boolean) dX11_image_52 (by decide) rfl rfl (by decide) rfl fl_RX11_311 rfl (by decide +kernel) ⟨rfl, rfl⟩ ?_
      refine g_iconst (v := (nI 1)) dX11_image_55 rfl ?_
      refine g_iret dX11_image_56 rfl rfl ?_
      exact ⟨_, rfl, fun b i hb => ⟨(zs_up_m (by omega)).trans (fS3.q b i hb).1, (fS3.q b i hb).2⟩, (zs_up_m (by omega)).trans fS3.l, Or.inl ⟨a', by omega, rfl, rfl, fun i hi => by
          obtain rfl : a' = 1 := by omega
          show zs_up S3.1 0 4 (nI 1) 0 (3 + i) = _
          by_cases h9 : i = 1
          · subst h9; exact zs_up_s
          · rw [if_neg h9]; exact (zs_up_n (by omega)).trans (fS3.k hi)⟩⟩
    · refine g_aload_n dX11_image_20 rfl rfl ?_
      refine g_getR 1 (15) (C := RX11) (T := TX11) (N := 18) dX11_image_21 (by decide) rfl rfl (by decide) rfl fl_RX11_16 ?_
      refine g_aload_n dX11_image_24 rfl rfl ?_
      refine g_getR 0 (1) (C := RX11) (T := TX11) (N := 18) dX11_image_25 (by decide) rfl rfl (by decide) rfl fl_RX11_10 ?_
      refine g_callV (T := TX6) (NN := 9) [] (v_X6_become_15_1 S) dX11_image_28 kk_X11_image_X6_become ml_RX11_133 mwX6_become ewX6_become (by decide) rfl rfl rfl rfl (Nat.le_of_ble_eq_true rfl) ?_
      rintro _ S4 ⟨rfl, fS4⟩
      refine g_aload_n dX11_image_31 rfl rfl ?_
      refine g_iconst (v := (nI 1)) dX11_image_32 rfl ?_
      refine g_putI 3 (C := RX11) (T := TX11) (N := 18) (ty := .boolean) dX11_image_33 (by decide) rfl rfl (by decide) rfl fl_RX11_307 rfl (by decide +kernel) ⟨rfl, rfl⟩ ?_
      refine g_goto 55 dX11_image_36 (by decide) ?_
      refine g_iconst (v := (nI 1)) dX11_image_55 rfl ?_
      refine g_iret dX11_image_56 rfl rfl ?_
      exact ⟨_, rfl, fun b i hb => ⟨(zs_up_m (by omega)).trans (fS4.q b i hb).1, (fS4.q b i hb).2⟩, (zs_up_m (by omega)).trans fS4.l, Or.inl ⟨a', by omega, rfl, rfl, fun i hi => by
          obtain rfl : a' = 0 := by omega
          show zs_up S4.1 0 3 (nI 1) 0 (3 + i) = _
          by_cases h9 : i = 0
          · subst h9; exact zs_up_s
          · rw [if_neg h9]; exact (zs_up_n (by omega)).trans (fS4.k hi)⟩⟩
  · have h1 := zs_b0 h1
    refine g_aload_n dX11_image_9 rfl rfl ?_
    refine g_bipush (v := (-2)) dX11_image_10 rfl ?_
    refine g_callV (T := TX11) (NN := 18) [] (x_refuseBad S (-2)) dX11_image_12 kk_X11_image_X11_refuseBad ml_RX11_86 mwX11_refuseBad ewX11_refuseBad (by decide) rfl rfl rfl rfl (Nat.le_of_ble_eq_true rfl) ?_
    rintro _ _ ⟨_, rfl, rfl, rfl⟩
    refine g_iret dX11_image_15 rfl rfl ?_
    exact ⟨_, rfl, (zs_rfB S _).q, (zs_rfB S _).l, Or.inr ⟨h1, rfl, fun i hi => (zs_rfB S _).k hi⟩⟩
set_option maxRecDepth 100000 in
theorem c_from (S : zs_S) (a : Int32) : zs_Ci MX11_from [.ref 0, .int a] S (fun x S2 => zs_fr S S2 ∧ ((¬ (nI 0 ≤ a ∧ a ≤ nI 1) ∧ x = (-2)) ∨ ∃ k, k < 2 ∧ a = nI k ∧ ((S.1 0 (3 + k) = 0 ∧ x = (-3)) ∨ (¬ S.1 0 (3 + k) = 0 ∧ x = nI 1)))) := by
  refine zs_C.of (by decide) (Nat.le_of_ble_eq_true rfl) ?_
  show zs_P MX11_from 0 [(0, .ref 0), (1, .int a)] [] S _
  refine g_iload_n dX11_from_0 rfl rfl ?_
  refine g_iconst (v := (nI 0)) dX11_from_1 rfl ?_
  refine g_iconst (v := (nI 1)) dX11_from_2 rfl ?_
  refine g_callS [.int a, .int (nI 0), .int (nI 1)] [] (x_within S a (nI 0) (nI 1)) dX11_from_3 kk_X11_from_X11_within ml_RX11_75 swX11_within rfl rfl (Nat.le_of_ble_eq_true rfl) ?_
  rintro _ _ ⟨_, rfl, rfl, rfl⟩
  refine g_if_ne 16 dX11_from_6 (by decide) (fun h1 => ?_) (fun h1 => ?_)
  · have h1 := zs_b1 h1
    obtain ⟨a', a'a, a'b, rfl⟩ := zs_rng h1 (by omega)
    refine g_iload_n dX11_from_16 rfl rfl ?_
    refine g_if_neN 27 dX11_from_17 (by decide) (by omega) (fun h2 => ?_) (fun h2 => ?_)
    · refine g_aload_n dX11_from_27 rfl rfl ?_
      refine g_getI 4 (C := RX11) (T := TX11) (N := 18) dX11_from_28 (by decide) rfl rfl (by decide) rfl fl_RX11_311 ?_
      refine g_istore_n (lv' := [(2, .int (S.1 0 4)), (0, .ref 0), (1, .int (nI a'))]) dX11_from_31 rfl (by decide) rfl ?_
      refine g_iload_n dX11_from_32 rfl rfl ?_
      refine g_if_ne 41 dX11_from_33 (by decide) (fun h3 => ?_) (fun h3 => ?_)
      · refine g_aload_n dX11_from_41 rfl rfl ?_
        refine g_getR 0 (1) (C := RX11) (T := TX11) (N := 18) dX11_from_42 (by decide) rfl rfl (by decide) rfl fl_RX11_10 ?_
        refine g_iload_n dX11_from_45 rfl rfl ?_
        refine g_if_neN 56 dX11_from_46 (by decide) (by omega) (fun _ => ?_) (fun z => absurd z (by omega))
        refine g_aload_n dX11_from_56 rfl rfl ?_
        refine g_getR 2 (29) (C := RX11) (T := TX11) (N := 18) dX11_from_57 (by decide) rfl rfl (by decide) rfl fl_RX11_19 ?_
        refine g_callV (T := TX6) (NN := 9) [] (v_X6_become_1_29 S) dX11_from_60 kk_X11_from_X6_become ml_RX11_133 mwX6_become ewX6_become (by decide) rfl rfl rfl rfl (Nat.le_of_ble_eq_true rfl) ?_
        rintro _ S4 ⟨rfl, fS4⟩
        refine g_iconst (v := (nI 1)) dX11_from_63 rfl ?_
        refine g_iret dX11_from_64 rfl rfl ?_
        exact ⟨_, rfl, fS4, Or.inr ⟨1, by omega, (by rw [show a' = 1 by omega]), Or.inr ⟨h3, rfl⟩⟩⟩
      · refine g_aload_n dX11_from_36 rfl rfl ?_
        refine g_callV (T := TX11) (NN := 18) [] (x_refuseNo S) dX11_from_37 kk_X11_from_X11_refuseNo ml_RX11_156 mwX11_refuseNo ewX11_refuseNo (by decide) rfl rfl rfl rfl (Nat.le_of_ble_eq_true rfl) ?_
        rintro _ _ ⟨_, rfl, rfl, rfl⟩
        refine g_iret dX11_from_40 rfl rfl ?_
        exact ⟨_, rfl, zs_rfN S _, Or.inr ⟨1, by omega, (by rw [show a' = 1 by omega]), Or.inl ⟨h3, rfl⟩⟩⟩
    · refine g_aload_n dX11_from_20 rfl rfl ?_
      refine g_getI 3 (C := RX11) (T := TX11) (N := 18) dX11_from_21 (by decide) rfl rfl (by decide) rfl fl_RX11_307 ?_
      refine g_goto 31 dX11_from_24 (by decide) ?_
      refine g_istore_n (lv' := [(2, .int (S.1 0 3)), (0, .ref 0), (1, .int (nI a'))]) dX11_from_31 rfl (by decide) rfl ?_
      refine g_iload_n dX11_from_32 rfl rfl ?_
      refine g_if_ne 41 dX11_from_33 (by decide) (fun h5 => ?_) (fun h5 => ?_)
      · refine g_aload_n dX11_from_41 rfl rfl ?_
        refine g_getR 0 (1) (C := RX11) (T := TX11) (N := 18) dX11_from_42 (by decide) rfl rfl (by decide) rfl fl_RX11_10 ?_
        refine g_iload_n dX11_from_45 rfl rfl ?_
        refine g_if_neN 56 dX11_from_46 (by decide) (by omega) (fun z => absurd z (by omega)) (fun _ => ?_)
        refine g_aload_n dX11_from_49 rfl rfl ?_
        refine g_getR 1 (15) (C := RX11) (T := TX11) (N := 18) dX11_from_50 (by decide) rfl rfl (by decide) rfl fl_RX11_16 ?_
        refine g_goto 60 dX11_from_53 (by decide) ?_
        refine g_callV (T := TX6) (NN := 9) [] (v_X6_become_1_15 S) dX11_from_60 kk_X11_from_X6_become ml_RX11_133 mwX6_become ewX6_become (by decide) rfl rfl rfl rfl (Nat.le_of_ble_eq_true rfl) ?_
        rintro _ S6 ⟨rfl, fS6⟩
        refine g_iconst (v := (nI 1)) dX11_from_63 rfl ?_
        refine g_iret dX11_from_64 rfl rfl ?_
        exact ⟨_, rfl, fS6, Or.inr ⟨0, by omega, (by rw [show a' = 0 by omega]), Or.inr ⟨h5, rfl⟩⟩⟩
      · refine g_aload_n dX11_from_36 rfl rfl ?_
        refine g_callV (T := TX11) (NN := 18) [] (x_refuseNo S) dX11_from_37 kk_X11_from_X11_refuseNo ml_RX11_156 mwX11_refuseNo ewX11_refuseNo (by decide) rfl rfl rfl rfl (Nat.le_of_ble_eq_true rfl) ?_
        rintro _ _ ⟨_, rfl, rfl, rfl⟩
        refine g_iret dX11_from_40 rfl rfl ?_
        exact ⟨_, rfl, zs_rfN S _, Or.inr ⟨0, by omega, (by rw [show a' = 0 by omega]), Or.inl ⟨h5, rfl⟩⟩⟩
  · have h1 := zs_b0 h1
    refine g_aload_n dX11_from_9 rfl rfl ?_
    refine g_bipush (v := (-2)) dX11_from_10 rfl ?_
    refine g_callV (T := TX11) (NN := 18) [] (x_refuseBad S (-2)) dX11_from_12 kk_X11_from_X11_refuseBad ml_RX11_86 mwX11_refuseBad ewX11_refuseBad (by decide) rfl rfl rfl rfl (Nat.le_of_ble_eq_true rfl) ?_
    rintro _ _ ⟨_, rfl, rfl, rfl⟩
    refine g_iret dX11_from_15 rfl rfl ?_
    exact ⟨_, rfl, zs_rfB S _, Or.inl ⟨h1, rfl⟩⟩
set_option maxRecDepth 100000 in
theorem c_isFull (S : zs_S) (m : Nat) (hm : S.1 43 1 = nI m) (h : m ≤ 150) : zs_Ci MX10_isFull [.ref 43] S (fun x S2 => x = zs_b (150 ≤ m) ∧ S = S2) := by
  refine zs_C.of (by decide) (Nat.le_of_ble_eq_true rfl) ?_
  show zs_P MX10_isFull 0 [(0, .ref 43)] [] S _
  refine g_aload_n dX10_isFull_0 rfl rfl ?_
  refine g_getV 1 (C := RX10) (T := TX10) (N := 8) (v := (nI m)) dX10_isFull_1 (by decide) rfl rfl (by decide) rfl fl_RX10_34 hm ?_
  refine g_sipush (v := (nI 150)) dX10_isFull_4 rfl ?_
  refine g_ic_ltN 14 dX10_isFull_7 (by decide) (by omega) (by omega) (fun h1 => ?_) (fun h1 => ?_)
  · refine g_iconst (v := (nI 0)) dX10_isFull_14 rfl ?_
    refine g_iret dX10_isFull_15 rfl rfl ?_
    exact ⟨_, rfl, (zs_bf (by omega)).symm, rfl⟩
  · refine g_iconst (v := (nI 1)) dX10_isFull_10 rfl ?_
    refine g_goto 15 dX10_isFull_11 (by decide) ?_
    refine g_iret dX10_isFull_15 rfl rfl ?_
    exact ⟨_, rfl, (zs_bt (by omega)).symm, rfl⟩
theorem zs_puo {S : zs_S} {a b n j : Nat} {i v : Int32} (h : b ≠ a) : (zs_pu S a n i v).1 b j = S.1 b j := by
  unfold zs_pu
  split
  · exact zs_up_n (fun q => h q.1)
  · rfl
theorem zs_pu2 {S : zs_S} {a n : Nat} {i v : Int32} : (zs_pu S a n i v).2 = S.2 := by
  unfold zs_pu
  split <;> rfl
set_option maxRecDepth 100000 in
theorem c_add (S : zs_S) (m : Nat) (c : Int32) (hm : S.1 43 1 = nI m) : zs_Ci MX10_add [.ref 43, .int c] S (fun x S2 => x = nI (m + 1) ∧ S2.1 43 1 = nI (m + 1) ∧ ∀ b i, b ≠ 43 → b ≠ 44 → S2.1 b i = S.1 b i ∧ S2.2 b i = S.2 b i) := by
  refine zs_C.of (by decide) (Nat.le_of_ble_eq_true rfl) ?_
  show zs_P MX10_add 0 [(0, .ref 43), (1, .int c)] [] S _
  refine g_aload_n dX10_add_0 rfl rfl ?_
  refine g_getR 0 (44) (C := RX10) (T := TX10) (N := 8) dX10_add_1 (by decide) rfl rfl (by decide) rfl fl_RX10_9 ?_
  refine g_aload_n dX10_add_4 rfl rfl ?_
  refine g_getV 1 (C := RX10) (T := TX10) (N := 8) (v := (nI m)) dX10_add_5 (by decide) rfl rfl (by decide) rfl fl_RX10_34 hm ?_
  refine g_iload_n dX10_add_8 rfl rfl ?_
  refine g_callN [.ref 44, .int (nI m), .int c] [] (x_put S 44 150 (nI m) c (by decide) rfl (by decide)) dX10_add_9 kk_X10_add_X11_put nl_RX10_38 swX11_put rfl rfl (Nat.le_of_ble_eq_true rfl) ?_
  rintro _ _ ⟨rfl, rfl⟩
  refine g_aload_n dX10_add_12 rfl rfl ?_
  refine g_dup dX10_add_13 rfl ?_
  refine g_getV 1 (C := RX10) (T := TX10) (N := 8) (v := (nI m)) dX10_add_14 (by decide) rfl rfl (by decide) rfl fl_RX10_34 ((zs_puo (by decide)).trans hm) ?_
  refine g_iconst (v := (nI 1)) dX10_add_17 rfl ?_
  refine g_iaddN dX10_add_18 ?_
  refine g_putI 1 (C := RX10) (T := TX10) (N := 8) (ty := .int) dX10_add_19 (by decide) rfl rfl (by decide) rfl fl_RX10_34 rfl (by decide +kernel) ⟨rfl, rfl⟩ ?_
  refine g_aload_n dX10_add_22 rfl rfl ?_
  refine g_getV 1 (C := RX10) (T := TX10) (N := 8) (v := (nI (m + 1))) dX10_add_23 (by decide) rfl rfl (by decide) rfl fl_RX10_34 zs_up_q ?_
  refine g_iret dX10_add_26 rfl rfl ?_
  exact ⟨_, rfl, rfl, zs_up_q, fun b i h1 h2 => ⟨(zs_up_m (fun q => h1 q.1)).trans (zs_puo h2), by rw [show (_ : zs_S).2 = _ from zs_pu2]⟩⟩
set_option maxRecDepth 100000 in
theorem c_type (S : zs_S) (m : Nat) (c : Int32) (hm : S.1 43 1 = nI m) (h : m ≤ 150) : zs_Ci MX11_type [.ref 0, .int c] S (fun x S2 => zs_fq S S2 ∧ (∀ i, i < 2 → S2.1 0 (3 + i) = S.1 0 (3 + i)) ∧ ((¬ (nI 0 ≤ c ∧ c ≤ nI 127) ∧ x = (-2) ∧ S2.1 43 1 = S.1 43 1) ∨ ((nI 0 ≤ c ∧ c ≤ nI 127) ∧ ((150 ≤ m ∧ x = (-4) ∧ S2.1 43 1 = S.1 43 1) ∨ (m < 150 ∧ x = nI (m + 1) ∧ S2.1 43 1 = nI (m + 1)))))) := by
  refine zs_C.of (by decide) (Nat.le_of_ble_eq_true rfl) ?_
  show zs_P MX11_type 0 [(0, .ref 0), (1, .int c)] [] S _
  refine g_iload_n dX11_type_0 rfl rfl ?_
  refine g_iconst (v := (nI 0)) dX11_type_1 rfl ?_
  refine g_bipush (v := (nI 127)) dX11_type_2 rfl ?_
  refine g_callS [.int c, .int (nI 0), .int (nI 127)] [] (x_within S c (nI 0) (nI 127)) dX11_type_4 kk_X11_type_X11_within ml_RX11_75 swX11_within rfl rfl (Nat.le_of_ble_eq_true rfl) ?_
  rintro _ _ ⟨_, rfl, rfl, rfl⟩
  refine g_if_ne 17 dX11_type_7 (by decide) (fun h1 => ?_) (fun h1 => ?_)
  · have h1 := zs_b1 h1
    obtain ⟨c', c'a, c'b, rfl⟩ := zs_rng h1 (by omega)
    have hcc : nI 0 ≤ (nI c') ∧ (nI c') ≤ nI 127 := ⟨nI_le (by omega) (by omega), nI_le (by omega) (by omega)⟩
    refine g_aload_n dX11_type_17 rfl rfl ?_
    refine g_getR 5 (43) (C := RX11) (T := TX11) (N := 18) dX11_type_18 (by decide) rfl rfl (by decide) rfl fl_RX11_25 ?_
    refine g_callV (T := TX10) (NN := 8) [] (c_isFull S m hm h) dX11_type_21 kk_X11_type_X10_isFull ml_RX11_118 mwX10_isFull ewX10_isFull (by decide) rfl rfl rfl rfl (Nat.le_of_ble_eq_true rfl) ?_
    rintro _ _ ⟨_, rfl, rfl, rfl⟩
    refine g_if_eq 34 dX11_type_24 (by decide) (fun h2 => ?_) (fun h2 => ?_)
    · have h2 := zs_b0 h2
      refine g_aload_n dX11_type_34 rfl rfl ?_
      refine g_getR 5 (43) (C := RX11) (T := TX11) (N := 18) dX11_type_35 (by decide) rfl rfl (by decide) rfl fl_RX11_25 ?_
      refine g_iload_n dX11_type_38 rfl rfl ?_
      refine g_callV (T := TX10) (NN := 8) [] (c_add S m (nI c') hm) dX11_type_39 kk_X11_type_X10_add ml_RX11_122 mwX10_add ewX10_add (by decide) rfl rfl rfl rfl (Nat.le_of_ble_eq_true rfl) ?_
      rintro _ S3 ⟨_, rfl, rfl, lS3, fS3⟩
      refine g_iret dX11_type_42 rfl rfl ?_
      exact ⟨_, rfl, fun b i hb => fS3 b i (by omega) (by omega), fun i hi => (fS3 0 (3 + i) (by decide) (by decide)).1, Or.inr ⟨hcc, Or.inr ⟨by omega, rfl, lS3⟩⟩⟩
    · have h2 := zs_b1 h2
      refine g_aload_n dX11_type_27 rfl rfl ?_
      refine g_callV (T := TX11) (NN := 18) [] (x_refuseFull S) dX11_type_28 kk_X11_type_X11_refuseFull ml_RX11_110 mwX11_refuseFull ewX11_refuseFull (by decide) rfl rfl rfl rfl (Nat.le_of_ble_eq_true rfl) ?_
      rintro _ _ ⟨_, rfl, rfl, rfl⟩
      refine g_goto 42 dX11_type_31 (by decide) ?_
      refine g_iret dX11_type_42 rfl rfl ?_
      exact ⟨_, rfl, (zs_rfF S _).q, fun i hi => (zs_rfF S _).k hi, Or.inr ⟨hcc, Or.inl ⟨h2, rfl, (zs_rfF S _).l⟩⟩⟩
  · have h1 := zs_b0 h1
    refine g_aload_n dX11_type_10 rfl rfl ?_
    refine g_bipush (v := (-2)) dX11_type_11 rfl ?_
    refine g_callV (T := TX11) (NN := 18) [] (x_refuseBad S (-2)) dX11_type_13 kk_X11_type_X11_refuseBad ml_RX11_86 mwX11_refuseBad ewX11_refuseBad (by decide) rfl rfl rfl rfl (Nat.le_of_ble_eq_true rfl) ?_
    rintro _ _ ⟨_, rfl, rfl, rfl⟩
    refine g_iret dX11_type_16 rfl rfl ?_
    exact ⟨_, rfl, (zs_rfB S _).q, fun i hi => (zs_rfB S _).k hi, Or.inl ⟨h1, rfl, (zs_rfB S _).l⟩⟩
set_option maxRecDepth 100000 in
theorem c_empty (S : zs_S) : zs_Ci MX10_empty [.ref 43] S (fun x S2 => x = S.1 43 1 ∧ S2 = (zs_up S.1 43 1 (nI 0), S.2)) := by
  refine zs_C.of (by decide) (Nat.le_of_ble_eq_true rfl) ?_
  show zs_P MX10_empty 0 [(0, .ref 43)] [] S _
  refine g_aload_n dX10_empty_0 rfl rfl ?_
  refine g_getI 1 (C := RX10) (T := TX10) (N := 8) dX10_empty_1 (by decide) rfl rfl (by decide) rfl fl_RX10_34 ?_
  refine g_istore_n (lv' := [(1, .int (S.1 43 1)), (0, .ref 43)]) dX10_empty_4 rfl (by decide) rfl ?_
  refine g_aload_n dX10_empty_5 rfl rfl ?_
  refine g_iconst (v := (nI 0)) dX10_empty_6 rfl ?_
  refine g_putI 1 (C := RX10) (T := TX10) (N := 8) (ty := .int) dX10_empty_7 (by decide) rfl rfl (by decide) rfl fl_RX10_34 rfl (by decide +kernel) ⟨rfl, rfl⟩ ?_
  refine g_iload_n dX10_empty_10 rfl rfl ?_
  refine g_iret dX10_empty_11 rfl rfl ?_
  exact ⟨_, rfl, rfl, rfl⟩
set_option maxRecDepth 100000 in
theorem c_clear (S : zs_S) : zs_Ci MX11_clear [.ref 0] S (fun x S2 => zs_fq S S2 ∧ (∀ i, i < 2 → S2.1 0 (3 + i) = S.1 0 (3 + i)) ∧ S2.1 43 1 = nI 0 ∧ x = S.1 43 1) := by
  refine zs_C.of (by decide) (Nat.le_of_ble_eq_true rfl) ?_
  show zs_P MX11_clear 0 [(0, .ref 0)] [] S _
  refine g_aload_n dX11_clear_0 rfl rfl ?_
  refine g_getR 5 (43) (C := RX11) (T := TX11) (N := 18) dX11_clear_1 (by decide) rfl rfl (by decide) rfl fl_RX11_25 ?_
  refine g_callV (T := TX10) (NN := 8) [] (c_empty S) dX11_clear_4 kk_X11_clear_X10_empty ml_RX11_125 mwX10_empty ewX10_empty (by decide) rfl rfl rfl rfl (Nat.le_of_ble_eq_true rfl) ?_
  rintro _ _ ⟨_, rfl, rfl, rfl⟩
  refine g_iret dX11_clear_7 rfl rfl ?_
  exact ⟨_, rfl, fun b i hb => ⟨zs_up_m (by omega), rfl⟩, fun i hi => zs_up_m (by omega), zs_up_q, rfl⟩
