theorem zs_bnf {b : Bool} (h : ¬ b = false) : b = true := by
  cases b
  · exact absurd rfl h
  · rfl
theorem zs_tw {w : Int32} (h : zs_q 0 2 w = false) : w.toInt < 0 ∨ 2 < w.toInt := by
  have h1 := of_decide_eq_false h
  rw [Int32.le_iff_toInt_le, Int32.le_iff_toInt_le, nI_toInt (by omega), nI_toInt (by omega)] at h1
  omega
theorem zs_Psn {b i c : Nat} (hc : c = 1 ∨ c = 15 ∨ c = 29) (h : zs_Ps c b i) : 1 ≤ b ∧ b < 43 := by
  unfold zs_Ps at h
  omega
theorem zs_ups {c s : Nat} {S S1 : zs_S} {j : Nat} {v : Int32} (h : zs_sc c s S S1) (hc : 1 ≤ c) : zs_sc c s S (zs_up S1.1 0 j v, S1.2) := fun a i hr => (zs_up_n (by omega)).trans (h a i hr)
theorem tp_allB {K V : Nat → Nat} {fr : Nat} : ∀ (d m ey j : Nat), m ≤ (tp_all K V fr d m ey j).2.1 ∧ (tp_all K V fr d m ey j).2.1 ≤ m + d := by
  intro d
  induction d with
  | zero => intro m ey j; exact ⟨Nat.le_refl _, Nat.le_refl _⟩
  | succ d ih =>
    intro m ey j
    by_cases h0 : K (j + 1) = 0
    · rw [show tp_all K V fr (d + 1) m ey j = (true, m, j + 1, ey) from if_pos h0]
      exact ⟨Nat.le_refl _, Nat.le_add_right _ _⟩
    · by_cases hi : (tp_item K V fr ey (j + 1)).1 = true
      · rw [show tp_all K V fr (d + 1) m ey j = tp_all K V fr d (m + 1) (tp_ey K ey (j + 1)) (tp_item K V fr ey (j + 1)).2 from (if_neg h0).trans (if_pos hi)]
        have := ih (m + 1) (tp_ey K ey (j + 1)) (tp_item K V fr ey (j + 1)).2
        omega
      · rw [show tp_all K V fr (d + 1) m ey j = (false, m, (tp_item K V fr ey (j + 1)).2, ey) from (if_neg h0).trans (if_neg hi)]
        exact ⟨Nat.le_refl _, Nat.le_add_right _ _⟩
theorem tp_readB {K V : Nat → Nat} (h : (tp_read K V).1 = true) : 1 ≤ (tp_read K V).2.1 ∧ (tp_read K V).2.1 ≤ 151 := by
  by_cases h0 : K 0 = 4
  · by_cases hd : (tp_drum K V).1 = true
    · rw [show tp_read K V = tp_all K V (V 1) 150 1 0 (tp_drum K V).2 from (if_pos h0).trans (if_pos hd)]
      exact tp_allB 150 1 0 (tp_drum K V).2
    · rw [show tp_read K V = (false, 0, (tp_drum K V).2, 0) from (if_pos h0).trans (if_neg hd)] at h; cases h
  · rw [show tp_read K V = (false, 0, 0, 0) from if_neg h0] at h; cases h
theorem zs_m10 {p : Nat} (h : p ≤ 150) : (-10 : Int32) - nI p ≤ 0 := by
  rw [Int32.le_iff_toInt_le, Int32.toInt_sub, nI_toInt (by omega), show (-10 : Int32).toInt = -10 from rfl, show (0 : Int32).toInt = 0 from rfl, Int.bmod_eq_of_le (by omega) (by omega)]
  omega
theorem zs_npos {n : Nat} (h : 1 ≤ n) (h2 : n ≤ 151) : ¬ nI n ≤ 0 := by
  rw [Int32.le_iff_toInt_le, nI_toInt (by omega), show (0 : Int32).toInt = 0 from rfl]
  omega
theorem zs_o4.s {c : Nat} {S S2 : zs_S} (h : zs_o4 S S2) (hc : c = 1 ∨ c = 15 ∨ c = 29) : zs_sc c c S S2 := fun j i hr => by
  have := zs_rp13 hr
  rw [h.1 (c + j) (by omega) (by omega)]
set_option maxRecDepth 100000 in
theorem c_forgetW (S : zs_S) (w : Int32) : zs_Ci MX11_forget [.ref 0, .int w] S (fun x S2 => (zs_q 0 2 w = false → x = (-2) ∧ zs_fr_W S S2) ∧ (∀ k, k < 3 → w = nI k → x = S.1 (9 + 2 * k) 2 ∧ S2.1 (9 + 2 * k) 2 = nI 0 ∧ zs_fP (zs_P1 (9 + 2 * k) 2) S S2)) := by
  refine zs_C.of (by decide) (Nat.le_of_ble_eq_true rfl) ?_
  show zs_P MX11_forget 0 [(0, .ref 0), (1, .int w)] [] S _
  refine g_iload_n dX11_forget_0 rfl rfl ?_
  by_cases h0 : zs_q 0 2 w = false
  · refine g_tout 61 dX11_forget_1 (zs_tw h0) (by decide) ?_
    refine g_aload_n dX11_forget_61 rfl rfl ?_
    refine g_bipush (v := (-2)) dX11_forget_62 rfl ?_
    refine g_callV (T := TX11) (NN := 18) [] (x_refuseBad S (-2)) dX11_forget_64 kk_X11_forget_X11_refuseBad ml_RX11_86 mwX11_refuseBad ewX11_refuseBad (by decide) rfl rfl rfl rfl (Nat.le_of_ble_eq_true rfl) ?_
    rintro _ _ ⟨_, rfl, rfl, rfl⟩
    refine g_iret dX11_forget_67 rfl rfl ?_
    exact ⟨_, rfl, fun _ => ⟨rfl, zs_fr_W.up rfl⟩, fun k hk z => absurd h0 (by rw [z, zs_qN (by omega) (by omega) (by decide)]; decide)⟩
  obtain ⟨j, -, hj, rfl⟩ := zs_rng (of_decide_eq_true (zs_bnf h0)) (by omega)
  obtain rfl | rfl | rfl : j = 0 ∨ j = 1 ∨ j = 2 := by omega
  · refine g_tin (off := 27) 28 dX11_forget_1 (by decide) (by decide) (by decide +kernel) (by decide) ?_
    refine g_aload_n dX11_forget_28 rfl rfl ?_
    refine g_getR 0 (1) (C := RX11) (T := TX11) (N := 18) dX11_forget_29 (by decide) rfl rfl (by decide) rfl fl_RX11_10 ?_
    refine g_getR 6 (9) (C := RX6) (T := TX6) (N := 9) dX11_forget_32 (by decide) rfl rfl (by decide) rfl fl_RX11_223 ?_
    refine g_callV (T := TX5) (NN := 3) [] (c_rempty_9 S) dX11_forget_35 kk_X11_forget_X5_empty ml_RX11_254 mwX5_empty ewX5_empty (by decide) rfl rfl rfl rfl (Nat.le_of_ble_eq_true rfl) ?_
    rintro _ _ ⟨_, rfl, rfl, rfl⟩
    refine g_iret dX11_forget_38 rfl rfl ?_
    exact ⟨_, rfl, fun z => absurd z h0, fun k hk z => by
      obtain rfl : 0 = k := (nI_eq (by omega) (by omega)).mp z
      exact ⟨rfl, zs_up_q, zs_fP.up ⟨rfl, rfl⟩⟩⟩
  · refine g_tin (off := 38) 39 dX11_forget_1 (by decide) (by decide) (by decide +kernel) (by decide) ?_
    refine g_aload_n dX11_forget_39 rfl rfl ?_
    refine g_getR 0 (1) (C := RX11) (T := TX11) (N := 18) dX11_forget_40 (by decide) rfl rfl (by decide) rfl fl_RX11_10 ?_
    refine g_getR 7 (11) (C := RX6) (T := TX6) (N := 9) dX11_forget_43 (by decide) rfl rfl (by decide) rfl fl_RX11_248 ?_
    refine g_callV (T := TX5) (NN := 3) [] (c_rempty_11 S) dX11_forget_46 kk_X11_forget_X5_empty ml_RX11_254 mwX5_empty ewX5_empty (by decide) rfl rfl rfl rfl (Nat.le_of_ble_eq_true rfl) ?_
    rintro _ _ ⟨_, rfl, rfl, rfl⟩
    refine g_iret dX11_forget_49 rfl rfl ?_
    exact ⟨_, rfl, fun z => absurd z h0, fun k hk z => by
      obtain rfl : 1 = k := (nI_eq (by omega) (by omega)).mp z
      exact ⟨rfl, zs_up_q, zs_fP.up ⟨rfl, rfl⟩⟩⟩
  · refine g_tin (off := 49) 50 dX11_forget_1 (by decide) (by decide) (by decide +kernel) (by decide) ?_
    refine g_aload_n dX11_forget_50 rfl rfl ?_
    refine g_getR 0 (1) (C := RX11) (T := TX11) (N := 18) dX11_forget_51 (by decide) rfl rfl (by decide) rfl fl_RX11_10 ?_
    refine g_getR 8 (13) (C := RX6) (T := TX6) (N := 9) dX11_forget_54 (by decide) rfl rfl (by decide) rfl fl_RX11_251 ?_
    refine g_callV (T := TX5) (NN := 3) [] (c_rempty_13 S) dX11_forget_57 kk_X11_forget_X5_empty ml_RX11_254 mwX5_empty ewX5_empty (by decide) rfl rfl rfl rfl (Nat.le_of_ble_eq_true rfl) ?_
    rintro _ _ ⟨_, rfl, rfl, rfl⟩
    refine g_iret dX11_forget_60 rfl rfl ?_
    exact ⟨_, rfl, fun z => absurd z h0, fun k hk z => by
      obtain rfl : 2 = k := (nI_eq (by omega) (by omega)).mp z
      exact ⟨rfl, zs_up_q, zs_fP.up ⟨rfl, rfl⟩⟩⟩
set_option maxRecDepth 100000 in
theorem c_imageW (S : zs_S) (a : Int32) : zs_Ci MX11_image [.ref 0, .int a] S (fun x S2 => ((zs_q 0 1 a = false → zs_fr_W S S2) ∧ ∀ k, k < 2 → a = nI k → zs_sc (15 + 14 * k) 1 S S2 ∧ ∀ d, (d = 1 ∨ d = 15 ∨ d = 29) → d ≠ 15 + 14 * k → zs_sc d d S S2) ∧ S2.1 44 = S.1 44 ∧ zs_fq S S2 ∧ S2.1 43 1 = S.1 43 1 ∧ ((∃ k, k < 2 ∧ a = nI k ∧ x = nI 1 ∧ ∀ i, i < 2 → S2.1 0 (3 + i) = if i = k then nI 1 else S.1 0 (3 + i)) ∨ (¬ (nI 0 ≤ a ∧ a ≤ nI 1) ∧ x = (-2) ∧ ∀ i, i < 2 → S2.1 0 (3 + i) = S.1 0 (3 + i)))) := by
  refine zs_C.of (by decide) (Nat.le_of_ble_eq_true rfl) ?_
  show zs_P MX11_image 0 [(0, .ref 0), (1, .int a)] [] S _
  refine g_iload_n dX11_image_0 rfl rfl ?_
  refine g_iconst (v := (nI 0)) dX11_image_1 rfl ?_
  refine g_iconst (v := (nI 1)) dX11_image_2 rfl ?_
  refine g_callS [.int a, .int (nI 0), .int (nI 1)] [] (x_within S a (nI 0) (nI 1)) dX11_image_3 kk_X11_image_X11_within ml_RX11_75 swX11_within rfl rfl (Nat.le_of_ble_eq_true rfl) ?_
  rintro _ _ ⟨_, rfl, rfl, rfl⟩
  refine g_if_ne 16 dX11_image_6 (by decide) (fun h1 => ?_) (fun h1 => ?_)
  · have h1 := zs_b1 h1
    obtain ⟨a', a'a, a'b, rfl⟩ := zs_rng h1 (by omega)
    refine g_iload_n dX11_image_16 rfl rfl ?_
    refine g_if_neN 39 dX11_image_17 (by decide) (by omega) (fun h2 => ?_) (fun h2 => ?_)
    · refine g_aload_n dX11_image_39 rfl rfl ?_
      refine g_getR 2 (29) (C := RX11) (T := TX11) (N := 18) dX11_image_40 (by decide) rfl rfl (by decide) rfl fl_RX11_19 ?_
      refine g_aload_n dX11_image_43 rfl rfl ?_
      refine g_getR 0 (1) (C := RX11) (T := TX11) (N := 18) dX11_image_44 (by decide) rfl rfl (by decide) rfl fl_RX11_10 ?_
      refine g_callV (T := TX6) (NN := 9) [] (c_become_29_1 S) dX11_image_47 kk_X11_image_X6_become ml_RX11_133 mwX6_become ewX6_become (by decide) rfl rfl rfl rfl (Nat.le_of_ble_eq_true rfl) ?_
      rintro _ S3 ⟨rfl, bS3⟩
      have fS3 := bS3.2.n (fun _ _ z => zs_Psn (by omega) z)
      refine g_aload_n dX11_image_50 rfl rfl ?_
      refine g_iconst (v := (nI 1)) dX11_image_51 rfl ?_
      refine g_putI 4 (C := RX11) (T := TX11) (N := 18) (ty := .boolean) dX11_image_52 (by decide) rfl rfl (by decide) rfl fl_RX11_311 rfl (by decide +kernel) ⟨rfl, rfl⟩ ?_
      refine g_iconst (v := (nI 1)) dX11_image_55 rfl ?_
      refine g_iret dX11_image_56 rfl rfl ?_
      exact ⟨_, rfl, ⟨fun z => absurd z (by rw [zs_qN (by omega) (by omega) (by decide)]; decide), fun k hk z => by
          obtain rfl : 1 = k := by
            have := (nI_eq (by omega) (by omega)).mp z
            omega
          exact ⟨zs_ups bS3.1 (by decide), fun d hd hn => zs_ups (zs_Ps.s bS3.2 (by omega) (by omega)) (by omega)⟩⟩, funext fun i => (zs_up_m (by omega)).trans (congrFun fS3.t i), fun b i hb => ⟨(zs_up_m (by omega)).trans (fS3.q b i hb).1, (fS3.q b i hb).2⟩, (zs_up_m (by omega)).trans fS3.l, Or.inl ⟨a', by omega, rfl, rfl, fun i hi => by
          obtain rfl : a' = 1 := by omega
          show zs_up S3.1 0 4 (nI 1) 0 (3 + i) = _
          by_cases h9 : i = 1
          · subst h9; exact zs_up_s
          · rw [if_neg h9]; exact (zs_up_n (by omega)).trans (fS3.k hi)⟩⟩
    · refine g_aload_n dX11_image_20 rfl rfl ?_
      refine g_getR 1 (15) (C := RX11) (T := TX11) (N := 18) dX11_image_21 (by decide) rfl rfl (by decide) rfl fl_RX11_16 ?_
      refine g_aload_n dX11_image_24 rfl rfl ?_
      refine g_getR 0 (1) (C := RX11) (T := TX11) (N := 18) dX11_image_25 (by decide) rfl rfl (by decide) rfl fl_RX11_10 ?_
      refine g_callV (T := TX6) (NN := 9) [] (c_become_15_1 S) dX11_image_28 kk_X11_image_X6_become ml_RX11_133 mwX6_become ewX6_become (by decide) rfl rfl rfl rfl (Nat.le_of_ble_eq_true rfl) ?_
      rintro _ S4 ⟨rfl, bS4⟩
      have fS4 := bS4.2.n (fun _ _ z => zs_Psn (by omega) z)
      refine g_aload_n dX11_image_31 rfl rfl ?_
      refine g_iconst (v := (nI 1)) dX11_image_32 rfl ?_
      refine g_putI 3 (C := RX11) (T := TX11) (N := 18) (ty := .boolean) dX11_image_33 (by decide) rfl rfl (by decide) rfl fl_RX11_307 rfl (by decide +kernel) ⟨rfl, rfl⟩ ?_
      refine g_goto 55 dX11_image_36 (by decide) ?_
      refine g_iconst (v := (nI 1)) dX11_image_55 rfl ?_
      refine g_iret dX11_image_56 rfl rfl ?_
      exact ⟨_, rfl, ⟨fun z => absurd z (by rw [zs_qN (by omega) (by omega) (by decide)]; decide), fun k hk z => by
          obtain rfl : 0 = k := by
            have := (nI_eq (by omega) (by omega)).mp z
            omega
          exact ⟨zs_ups bS4.1 (by decide), fun d hd hn => zs_ups (zs_Ps.s bS4.2 (by omega) (by omega)) (by omega)⟩⟩, funext fun i => (zs_up_m (by omega)).trans (congrFun fS4.t i), fun b i hb => ⟨(zs_up_m (by omega)).trans (fS4.q b i hb).1, (fS4.q b i hb).2⟩, (zs_up_m (by omega)).trans fS4.l, Or.inl ⟨a', by omega, rfl, rfl, fun i hi => by
          obtain rfl : a' = 0 := by omega
          show zs_up S4.1 0 3 (nI 1) 0 (3 + i) = _
          by_cases h9 : i = 0
          · subst h9; exact zs_up_s
          · rw [if_neg h9]; exact (zs_up_n (by omega)).trans (fS4.k hi)⟩⟩
  · have h1 := zs_b0 h1
    refine g_aload_n dX11_image_9 rfl rfl ?_
    refine g_bipush (v := (-2)) dX11_image_10 rfl ?_
    refine g_callV (T := TX11) (NN := 18) [] (x_refuseBad S (-2)) dX11_image_12 kk_X11_image_X11_refuseBad ml_RX11_86 mwX11_refuseBad ewX11_refuseBad (by decide) rfl rfl rfl rfl (Nat.le_of_ble_eq_true rfl) ?_
    rintro _ _ ⟨_, rfl, rfl, rfl⟩
    refine g_iret dX11_image_15 rfl rfl ?_
    exact ⟨_, rfl, ⟨fun _ => zs_fr_W.up rfl, fun k hk z => absurd (show nI 0 ≤ a ∧ a ≤ nI 1 from by rw [z]; exact ⟨nI_le (by omega) (by omega), nI_le (by omega) (by omega)⟩) h1⟩, (zs_rfB S _).t, (zs_rfB S _).q, (zs_rfB S _).l, Or.inr ⟨h1, rfl, fun i hi => (zs_rfB S _).k hi⟩⟩
set_option maxRecDepth 100000 in
theorem c_fromW (S : zs_S) (a : Int32) : zs_Ci MX11_from [.ref 0, .int a] S (fun x S2 => (((∀ k, k < 2 → a = nI k → S.1 0 (3 + k) = 0) → zs_fr_W S S2) ∧ ∀ k, k < 2 → a = nI k → ¬ S.1 0 (3 + k) = 0 → zs_sc 1 (15 + 14 * k) S S2 ∧ ∀ d, (d = 15 ∨ d = 29) → zs_sc d d S S2) ∧ zs_fr S S2 ∧ ((¬ (nI 0 ≤ a ∧ a ≤ nI 1) ∧ x = (-2)) ∨ ∃ k, k < 2 ∧ a = nI k ∧ ((S.1 0 (3 + k) = 0 ∧ x = (-3)) ∨ (¬ S.1 0 (3 + k) = 0 ∧ x = nI 1)))) := by
  refine zs_C.of (by decide) (Nat.le_of_ble_eq_true rfl) ?_
  show zs_P MX11_from 0 [(0, .ref 0), (1, .int a)] [] S _
  refine g_iload_n dX11_from_0 rfl rfl ?_
  refine g_iconst (v := (nI 0)) dX11_from_1 rfl ?_
  refine g_iconst (v := (nI 1)) dX11_from_2 rfl ?_
  refine g_callS [.int a, .int (nI 0), .int (nI 1)] [] (x_within S a (nI 0) (nI 1)) dX11_from_3 kk_X11_from_X11_within ml_RX11_75 swX11_within rfl rfl (Nat.le_of_ble_eq_true rfl) ?_
  rintro _ _ ⟨_, rfl, rfl, rfl⟩
  refine g_if_ne 16 dX11_from_6 (by decide) (fun h1 => ?_) (fun h1 => ?_)
  · have h1 := zs_b1 h1
    obtain ⟨a', a'a, a'b, rfl⟩ := zs_rng h1 (by omega)
    refine g_iload_n dX11_from_16 rfl rfl ?_
    refine g_if_neN 27 dX11_from_17 (by decide) (by omega) (fun h2 => ?_) (fun h2 => ?_)
    · refine g_aload_n dX11_from_27 rfl rfl ?_
      refine g_getI 4 (C := RX11) (T := TX11) (N := 18) dX11_from_28 (by decide) rfl rfl (by decide) rfl fl_RX11_311 ?_
      refine g_istore_n (lv' := [(2, .int (S.1 0 4)), (0, .ref 0), (1, .int (nI a'))]) dX11_from_31 rfl (by decide) rfl ?_
      refine g_iload_n dX11_from_32 rfl rfl ?_
      refine g_if_ne 41 dX11_from_33 (by decide) (fun h3 => ?_) (fun h3 => ?_)
      · refine g_aload_n dX11_from_41 rfl rfl ?_
        refine g_getR 0 (1) (C := RX11) (T := TX11) (N := 18) dX11_from_42 (by decide) rfl rfl (by decide) rfl fl_RX11_10 ?_
        refine g_iload_n dX11_from_45 rfl rfl ?_
        refine g_if_neN 56 dX11_from_46 (by decide) (by omega) (fun _ => ?_) (fun z => absurd z (by omega))
        refine g_aload_n dX11_from_56 rfl rfl ?_
        refine g_getR 2 (29) (C := RX11) (T := TX11) (N := 18) dX11_from_57 (by decide) rfl rfl (by decide) rfl fl_RX11_19 ?_
        refine g_callV (T := TX6) (NN := 9) [] (c_become_1_29 S) dX11_from_60 kk_X11_from_X6_become ml_RX11_133 mwX6_become ewX6_become (by decide) rfl rfl rfl rfl (Nat.le_of_ble_eq_true rfl) ?_
        rintro _ S4 ⟨rfl, bS4⟩
        have fS4 := bS4.2.n (fun _ _ z => zs_Psn (by omega) z)
        refine g_iconst (v := (nI 1)) dX11_from_63 rfl ?_
        refine g_iret dX11_from_64 rfl rfl ?_
        exact ⟨_, rfl, ⟨fun y => absurd (y 1 (by omega) (by rw [show a' = 1 by omega])) h3, fun k hk z y => by
            obtain rfl : 1 = k := by
              have := (nI_eq (by omega) (by omega)).mp z
              omega
            exact ⟨bS4.1, fun d hd => zs_Ps.s bS4.2 (by omega) (by omega)⟩⟩, fS4, Or.inr ⟨1, by omega, (by rw [show a' = 1 by omega]), Or.inr ⟨h3, rfl⟩⟩⟩
      · refine g_aload_n dX11_from_36 rfl rfl ?_
        refine g_callV (T := TX11) (NN := 18) [] (x_refuseNo S) dX11_from_37 kk_X11_from_X11_refuseNo ml_RX11_156 mwX11_refuseNo ewX11_refuseNo (by decide) rfl rfl rfl rfl (Nat.le_of_ble_eq_true rfl) ?_
        rintro _ _ ⟨_, rfl, rfl, rfl⟩
        refine g_iret dX11_from_40 rfl rfl ?_
        exact ⟨_, rfl, ⟨fun _ => zs_fr_W.up rfl, fun k hk z y => by
            obtain rfl : 1 = k := by
              have := (nI_eq (by omega) (by omega)).mp z
              omega
            exact absurd h3 y⟩, zs_rfN S _, Or.inr ⟨1, by omega, (by rw [show a' = 1 by omega]), Or.inl ⟨h3, rfl⟩⟩⟩
    · refine g_aload_n dX11_from_20 rfl rfl ?_
      refine g_getI 3 (C := RX11) (T := TX11) (N := 18) dX11_from_21 (by decide) rfl rfl (by decide) rfl fl_RX11_307 ?_
      refine g_goto 31 dX11_from_24 (by decide) ?_
      refine g_istore_n (lv' := [(2, .int (S.1 0 3)), (0, .ref 0), (1, .int (nI a'))]) dX11_from_31 rfl (by decide) rfl ?_
      refine g_iload_n dX11_from_32 rfl rfl ?_
      refine g_if_ne 41 dX11_from_33 (by decide) (fun h5 => ?_) (fun h5 => ?_)
      · refine g_aload_n dX11_from_41 rfl rfl ?_
        refine g_getR 0 (1) (C := RX11) (T := TX11) (N := 18) dX11_from_42 (by decide) rfl rfl (by decide) rfl fl_RX11_10 ?_
        refine g_iload_n dX11_from_45 rfl rfl ?_
        refine g_if_neN 56 dX11_from_46 (by decide) (by omega) (fun z => absurd z (by omega)) (fun _ => ?_)
        refine g_aload_n dX11_from_49 rfl rfl ?_
        refine g_getR 1 (15) (C := RX11) (T := TX11) (N := 18) dX11_from_50 (by decide) rfl rfl (by decide) rfl fl_RX11_16 ?_
        refine g_goto 60 dX11_from_53 (by decide) ?_
        refine g_callV (T := TX6) (NN := 9) [] (c_become_1_15 S) dX11_from_60 kk_X11_from_X6_become ml_RX11_133 mwX6_become ewX6_become (by decide) rfl rfl rfl rfl (Nat.le_of_ble_eq_true rfl) ?_
        rintro _ S6 ⟨rfl, bS6⟩
        have fS6 := bS6.2.n (fun _ _ z => zs_Psn (by omega) z)
        refine g_iconst (v := (nI 1)) dX11_from_63 rfl ?_
        refine g_iret dX11_from_64 rfl rfl ?_
        exact ⟨_, rfl, ⟨fun y => absurd (y 0 (by omega) (by rw [show a' = 0 by omega])) h5, fun k hk z y => by
            obtain rfl : 0 = k := by
              have := (nI_eq (by omega) (by omega)).mp z
              omega
            exact ⟨bS6.1, fun d hd => zs_Ps.s bS6.2 (by omega) (by omega)⟩⟩, fS6, Or.inr ⟨0, by omega, (by rw [show a' = 0 by omega]), Or.inr ⟨h5, rfl⟩⟩⟩
      · refine g_aload_n dX11_from_36 rfl rfl ?_
        refine g_callV (T := TX11) (NN := 18) [] (x_refuseNo S) dX11_from_37 kk_X11_from_X11_refuseNo ml_RX11_156 mwX11_refuseNo ewX11_refuseNo (by decide) rfl rfl rfl rfl (Nat.le_of_ble_eq_true rfl) ?_
        rintro _ _ ⟨_, rfl, rfl, rfl⟩
        refine g_iret dX11_from_40 rfl rfl ?_
        exact ⟨_, rfl, ⟨fun _ => zs_fr_W.up rfl, fun k hk z y => by
            obtain rfl : 0 = k := by
              have := (nI_eq (by omega) (by omega)).mp z
              omega
            exact absurd h5 y⟩, zs_rfN S _, Or.inr ⟨0, by omega, (by rw [show a' = 0 by omega]), Or.inl ⟨h5, rfl⟩⟩⟩
  · have h1 := zs_b0 h1
    refine g_aload_n dX11_from_9 rfl rfl ?_
    refine g_bipush (v := (-2)) dX11_from_10 rfl ?_
    refine g_callV (T := TX11) (NN := 18) [] (x_refuseBad S (-2)) dX11_from_12 kk_X11_from_X11_refuseBad ml_RX11_86 mwX11_refuseBad ewX11_refuseBad (by decide) rfl rfl rfl rfl (Nat.le_of_ble_eq_true rfl) ?_
    rintro _ _ ⟨_, rfl, rfl, rfl⟩
    refine g_iret dX11_from_15 rfl rfl ?_
    exact ⟨_, rfl, ⟨fun _ => zs_fr_W.up rfl, fun k hk z _ => absurd (show nI 0 ≤ a ∧ a ≤ nI 1 from by rw [z]; exact ⟨nI_le (by omega) (by omega), nI_le (by omega) (by omega)⟩) h1⟩, zs_rfB S _, Or.inl ⟨h1, rfl⟩⟩
set_option maxRecDepth 100000 in
theorem c_typeW (S : zs_S) (m : Nat) (c : Int32) (hm : S.1 43 1 = nI m) (h : m ≤ 150) : zs_Ci MX11_type [.ref 0, .int c] S (fun x S2 => zs_hk S S2 ∧ zs_fq S S2 ∧ (∀ i, i < 2 → S2.1 0 (3 + i) = S.1 0 (3 + i)) ∧ ((¬ (nI 0 ≤ c ∧ c ≤ nI 127) ∧ x = (-2) ∧ S2.1 43 1 = S.1 43 1 ∧ S2.1 44 = S.1 44) ∨ ((nI 0 ≤ c ∧ c ≤ nI 127) ∧ ((150 ≤ m ∧ x = (-4) ∧ S2.1 43 1 = S.1 43 1 ∧ S2.1 44 = S.1 44) ∨ (m < 150 ∧ x = nI (m + 1) ∧ S2.1 43 1 = nI (m + 1) ∧ S2.1 44 m = c ∧ ∀ i, i ≠ m → S2.1 44 i = S.1 44 i))))) := by
  refine zs_C.of (by decide) (Nat.le_of_ble_eq_true rfl) ?_
  show zs_P MX11_type 0 [(0, .ref 0), (1, .int c)] [] S _
  refine g_iload_n dX11_type_0 rfl rfl ?_
  refine g_iconst (v := (nI 0)) dX11_type_1 rfl ?_
  refine g_bipush (v := (nI 127)) dX11_type_2 rfl ?_
  refine g_callS [.int c, .int (nI 0), .int (nI 127)] [] (x_within S c (nI 0) (nI 127)) dX11_type_4 kk_X11_type_X11_within ml_RX11_75 swX11_within rfl rfl (Nat.le_of_ble_eq_true rfl) ?_
  rintro _ _ ⟨_, rfl, rfl, rfl⟩
  refine g_if_ne 17 dX11_type_7 (by decide) (fun h1 => ?_) (fun h1 => ?_)
  · have h1 := zs_b1 h1
    obtain ⟨c', c'a, c'b, rfl⟩ := zs_rng h1 (by omega)
    have hcc : nI 0 ≤ (nI c') ∧ (nI c') ≤ nI 127 := ⟨nI_le (by omega) (by omega), nI_le (by omega) (by omega)⟩
    refine g_aload_n dX11_type_17 rfl rfl ?_
    refine g_getR 5 (43) (C := RX11) (T := TX11) (N := 18) dX11_type_18 (by decide) rfl rfl (by decide) rfl fl_RX11_25 ?_
    refine g_callV (T := TX10) (NN := 8) [] (c_isFull S m hm h) dX11_type_21 kk_X11_type_X10_isFull ml_RX11_118 mwX10_isFull ewX10_isFull (by decide) rfl rfl rfl rfl (Nat.le_of_ble_eq_true rfl) ?_
    rintro _ _ ⟨_, rfl, rfl, rfl⟩
    refine g_if_eq 34 dX11_type_24 (by decide) (fun h2 => ?_) (fun h2 => ?_)
    · have h2 := zs_b0 h2
      refine g_aload_n dX11_type_34 rfl rfl ?_
      refine g_getR 5 (43) (C := RX11) (T := TX11) (N := 18) dX11_type_35 (by decide) rfl rfl (by decide) rfl fl_RX11_25 ?_
      refine g_iload_n dX11_type_38 rfl rfl ?_
      refine g_callV (T := TX10) (NN := 8) [] (c_addB S m (nI c') (by omega) hm) dX11_type_39 kk_X11_type_X10_add ml_RX11_122 mwX10_add ewX10_add (by decide) rfl rfl rfl rfl (Nat.le_of_ble_eq_true rfl) ?_
      rintro _ S3 ⟨_, rfl, rfl, lS3, fS3⟩
      refine g_iret dX11_type_42 rfl rfl ?_
      exact ⟨_, rfl, fun b i hb => (fS3.1 b i (zs_pq0 hb).2.1 (zs_pq0 hb).2.2.1).1, fun b i hb => (fS3.1 b i (by omega) (by omega)), fun i hi => (fS3.1 0 (3 + i) (by decide) (by decide)).1, Or.inr ⟨hcc, Or.inr ⟨by omega, rfl, lS3, fS3.2⟩⟩⟩
    · have h2 := zs_b1 h2
      refine g_aload_n dX11_type_27 rfl rfl ?_
      refine g_callV (T := TX11) (NN := 18) [] (x_refuseFull S) dX11_type_28 kk_X11_type_X11_refuseFull ml_RX11_110 mwX11_refuseFull ewX11_refuseFull (by decide) rfl rfl rfl rfl (Nat.le_of_ble_eq_true rfl) ?_
      rintro _ _ ⟨_, rfl, rfl, rfl⟩
      refine g_goto 42 dX11_type_31 (by decide) ?_
      refine g_iret dX11_type_42 rfl rfl ?_
      exact ⟨_, rfl, fun b i hb => zs_up_n (fun q => (zs_pq0 hb).1 q.1), (zs_rfF S _).q, fun i hi => (zs_rfF S _).k hi, Or.inr ⟨hcc, Or.inl ⟨h2, rfl, (zs_rfF S _).l, (zs_rfF S _).t⟩⟩⟩
  · have h1 := zs_b0 h1
    refine g_aload_n dX11_type_10 rfl rfl ?_
    refine g_bipush (v := (-2)) dX11_type_11 rfl ?_
    refine g_callV (T := TX11) (NN := 18) [] (x_refuseBad S (-2)) dX11_type_13 kk_X11_type_X11_refuseBad ml_RX11_86 mwX11_refuseBad ewX11_refuseBad (by decide) rfl rfl rfl rfl (Nat.le_of_ble_eq_true rfl) ?_
    rintro _ _ ⟨_, rfl, rfl, rfl⟩
    refine g_iret dX11_type_16 rfl rfl ?_
    exact ⟨_, rfl, fun b i hb => zs_up_n (fun q => (zs_pq0 hb).1 q.1), (zs_rfB S _).q, fun i hi => (zs_rfB S _).k hi, Or.inl ⟨h1, rfl, (zs_rfB S _).l, (zs_rfB S _).t⟩⟩
set_option maxRecDepth 100000 in
theorem c_clearW (S : zs_S) : zs_Ci MX11_clear [.ref 0] S (fun x S2 => zs_hk S S2 ∧ zs_fq S S2 ∧ (∀ i, i < 2 → S2.1 0 (3 + i) = S.1 0 (3 + i)) ∧ S2.1 43 1 = nI 0 ∧ x = S.1 43 1) := by
  refine zs_C.of (by decide) (Nat.le_of_ble_eq_true rfl) ?_
  show zs_P MX11_clear 0 [(0, .ref 0)] [] S _
  refine g_aload_n dX11_clear_0 rfl rfl ?_
  refine g_getR 5 (43) (C := RX11) (T := TX11) (N := 18) dX11_clear_1 (by decide) rfl rfl (by decide) rfl fl_RX11_25 ?_
  refine g_callV (T := TX10) (NN := 8) [] (c_empty S) dX11_clear_4 kk_X11_clear_X10_empty ml_RX11_125 mwX10_empty ewX10_empty (by decide) rfl rfl rfl rfl (Nat.le_of_ble_eq_true rfl) ?_
  rintro _ _ ⟨_, rfl, rfl, rfl⟩
  refine g_iret dX11_clear_7 rfl rfl ?_
  exact ⟨_, rfl, fun b i hb => zs_up_n (fun q => (zs_pq0 hb).2.1 q.1), fun b i hb => ⟨zs_up_m (by omega), rfl⟩, fun i hi => zs_up_m (by omega), zs_up_q, rfl⟩
set_option maxRecDepth 100000 in
theorem c_readW (B : Nat → Nat) (L : Nat) (S : zs_S) (hT : zs_tx S B L) : zs_Ci MX11_read [.ref 0] S (fun x S2 => zs_fr S S2 ∧ ((tp_read (tx_k B L) (tx_v B L)).1 = true → x = nI (tp_read (tx_k B L) (tx_v B L)).2.1) ∧ ((tp_read (tx_k B L) (tx_v B L)).1 = false → x = (-10) - nI (tx_p B L (tp_read (tx_k B L) (tx_v B L)).2.2.1)) ∧ (∀ d, (d = 15 ∨ d = 29) → zs_sc d d S S2) ∧ ((tp_read (tx_k B L) (tx_v B L)).1 = true → S2.1 1 0 = nI (tx_v B L 1) ∧ S2.1 1 1 = nI (tx_v B L 2) ∧ S2.1 1 2 = nI (tp_read (tx_k B L) (tx_v B L)).2.2.2 ∧ S2.1 9 2 = nI 0 ∧ S2.1 11 2 = nI 0 ∧ S2.1 13 2 = nI 0) ∧ ((tp_read (tx_k B L) (tx_v B L)).1 = false → zs_sc 1 1 S S2)) := by
  refine zs_C.of (by decide) (Nat.le_of_ble_eq_true rfl) ?_
  show zs_P MX11_read 0 [(0, .ref 0)] [] S _
  refine g_aload_n dX11_read_0 rfl rfl ?_
  refine g_getR 5 (43) (C := RX11) (T := TX11) (N := 18) dX11_read_1 (by decide) rfl rfl (by decide) rfl fl_RX11_25 ?_
  refine g_callV (T := TX10) (NN := 8) [] (c_readDraft B L S hT) dX11_read_4 kk_X11_read_X10_readDraft ml_RX11_127 mwX10_readDraft ewX10_readDraft (by decide) rfl rfl rfl rfl (Nat.le_of_ble_eq_true rfl) ?_
  rintro _ S2 ⟨x1, rfl, oS2, pS2, qS2⟩
  refine g_istore_n (lv' := [(1, .int x1), (0, .ref 0)]) dX11_read_7 rfl (by decide) rfl ?_
  refine g_iload_n dX11_read_8 rfl rfl ?_
  refine g_if_le 26 dX11_read_9 (by decide) (fun h3 => ?_) (fun h3 => ?_)
  · refine g_iload_n dX11_read_26 rfl rfl ?_
    refine g_iret dX11_read_27 rfl rfl ?_
    exact ⟨_, rfl, oS2.f, fun z => (pS2 z).1, qS2, fun d hd => oS2.s (by omega), fun z => absurd h3 (by rw [(pS2 z).1]; exact zs_npos (tp_readB z).1 (tp_readB z).2), fun _ => oS2.s (by omega)⟩
  · refine g_aload_n dX11_read_12 rfl rfl ?_
    refine g_getR 0 (1) (C := RX11) (T := TX11) (N := 18) dX11_read_13 (by decide) rfl rfl (by decide) rfl fl_RX11_10 ?_
    refine g_aload_n dX11_read_16 rfl rfl ?_
    refine g_getR 5 (43) (C := RX11) (T := TX11) (N := 18) dX11_read_17 (by decide) rfl rfl (by decide) rfl fl_RX11_25 ?_
    refine g_getR 2 (45) (C := RX10) (T := TX10) (N := 8) dX11_read_20 (by decide) rfl rfl (by decide) rfl fl_RX11_130 ?_
    refine g_callV (T := TX6) (NN := 9) [] (c_become_1_45 S2) dX11_read_23 kk_X11_read_X6_become ml_RX11_133 mwX6_become ewX6_become (by decide) rfl rfl rfl rfl (Nat.le_of_ble_eq_true rfl) ?_
    rintro _ S4 ⟨rfl, bS4⟩
    have fS4 := bS4.2.n (fun _ _ z => zs_Psn (by omega) z)
    refine g_iload_n dX11_read_26 rfl rfl ?_
    refine g_iret dX11_read_27 rfl rfl ?_
    exact ⟨_, rfl, oS2.f.tr fS4, fun z => (pS2 z).1, qS2, fun d hd j i hr => (zs_Ps.s bS4.2 (by omega) (by omega) j i hr).trans (oS2.s (by omega) j i hr), fun z => ⟨(bS4.1 0 0 (by unfold zs_rp; omega)).trans (pS2 z).2.1, (bS4.1 0 1 (by unfold zs_rp; omega)).trans (pS2 z).2.2.1, (bS4.1 0 2 (by unfold zs_rp; omega)).trans (pS2 z).2.2.2.1, (bS4.1 8 2 (by unfold zs_rp; omega)).trans (pS2 z).2.2.2.2.1, (bS4.1 10 2 (by unfold zs_rp; omega)).trans (pS2 z).2.2.2.2.2.1, (bS4.1 12 2 (by unfold zs_rp; omega)).trans (pS2 z).2.2.2.2.2.2⟩, fun z => absurd (show _ ≤ (0 : Int32) from by rw [qS2 z]; exact zs_m10 (Nat.le_trans tx_p_le hT.1)) h3⟩
