theorem tx_chr : ∀ i, i < 5 → ∀ k, k < zs_sl.getD i 0 → (((zs_sb.getD i []).getD k 0 &&& 255).toUInt32 % 65536).toInt32 = nI ((tx_ws.getD i []).getD k 0) ∧ (tx_ws.getD i []).getD k 0 < 128 := by decide
theorem tx_len : ∀ i, i < 5 → (tx_ws.getD i []).length = zs_sl.getD i 0 := by decide
set_option maxRecDepth 100000 in
theorem c_isWord_l (i : Nat) (hi : i < 5) (B : Nat → Nat) (L s e : Nat) (S : zs_S) (hT : zs_tx S B L) (he : e ≤ L) (hs : s ≤ e) (hl : e - s = zs_sl.getD i 0) : ∀ (d k : Nat), k + d = zs_sl.getD i 0 → (∀ m, m < k → B (s + m) = (tx_ws.getD i []).getD m 0) → zs_P MX10_isWord 15 [(4, .int (nI k)), (0, .ref 43), (1, .ref (90 + i)), (2, .int (nI s)), (3, .int (nI e))] [] S (fun v S2 => ∃ x, v = some (.int x) ∧ x = zs_b (tx_w B s e (tx_ws.getD i [])) ∧ S = S2) := by
  have h4 := zs_sl4 i hi
  have hL := hT.1
  intro d
  induction d with
  | zero =>
    intro k hk hm
    refine g_iload dX10_isWord_15 rfl ?_
    refine g_aload_n dX10_isWord_17 rfl rfl ?_
    refine g_callVS hi rfl [.int (nI k)] (v_slen i hi S) dX10_isWord_18 kk_X10_isWord_J0_length_8abf5 ml_RX10_141 mwJ0_length_8abf5 ewJ0_length_8abf5 rfl rfl (Nat.le_of_ble_eq_true rfl) ?_
    rintro _ _ ⟨_, rfl, rfl, rfl⟩
    refine g_ic_geN 52 dX10_isWord_21 (by decide) (by omega) (by omega) (fun _ => ?_) (fun z => absurd z (by omega))
    refine g_iconst (v := 1) dX10_isWord_52 rfl ?_
    exact g_iret dX10_isWord_53 rfl rfl ⟨_, rfl, (zs_bt ⟨by rw [tx_len i hi]; exact hl, fun m hm2 => hm m (by rw [tx_len i hi] at hm2; omega)⟩).symm, rfl⟩
  | succ d ih =>
    intro k hk hm
    refine g_iload dX10_isWord_15 rfl ?_
    refine g_aload_n dX10_isWord_17 rfl rfl ?_
    refine g_callVS hi rfl [.int (nI k)] (v_slen i hi S) dX10_isWord_18 kk_X10_isWord_J0_length_8abf5 ml_RX10_141 mwJ0_length_8abf5 ewJ0_length_8abf5 rfl rfl (Nat.le_of_ble_eq_true rfl) ?_
    rintro _ _ ⟨_, rfl, rfl, rfl⟩
    refine g_ic_geN 52 dX10_isWord_21 (by decide) (by omega) (by omega) (fun z => absurd z (by omega)) (fun _ => ?_)
    refine g_aload_n dX10_isWord_24 rfl rfl ?_
    refine g_getR 0 44 (C := RX10) (T := TX10) (N := 8) dX10_isWord_25 (by decide) rfl rfl (by decide) rfl fl_RX10_9 ?_
    refine g_iload_n dX10_isWord_28 rfl rfl ?_
    refine g_iload dX10_isWord_29 rfl ?_
    refine g_iaddN dX10_isWord_31 ?_
    refine g_callN [.ref 44, .int (nI (s + k))] [] (x_cellN S 44 150 (s + k) (by decide) rfl (by decide) (by omega)) dX10_isWord_32 kk_X10_isWord_X11_cell nl_RX10_66 swX11_cell rfl rfl (Nat.le_of_ble_eq_true rfl) ?_
    rintro _ _ ⟨_, rfl, rfl, rfl⟩
    rw [(hT.2.2 (s + k) (by omega)).2]
    have hB := (hT.2.2 (s + k) (by omega)).1
    obtain ⟨hc1, hc2⟩ := tx_chr i hi k (by omega)
    refine g_aload_n dX10_isWord_35 rfl rfl ?_
    refine g_iload dX10_isWord_36 rfl ?_
    refine g_callVS hi rfl [.int (nI (B (s + k)))] (v_scharAt i k hi (by omega) (by omega) S) dX10_isWord_38 kk_X10_isWord_J0_charAt_5068e ml_RX10_145 mwJ0_charAt_5068e ewJ0_charAt_5068e rfl rfl (Nat.le_of_ble_eq_true rfl) ?_
    rintro _ _ ⟨y, rfl, hy, rfl⟩
    rw [hy, hc1]
    refine g_ic_eqN 46 dX10_isWord_41 (by decide) (by omega) (by omega) (fun hq => ?_) (fun hq => ?_)
    · refine g_iinc (v := nI (k + 1)) (lv' := [(4, .int (nI (k + 1))), (0, .ref 43), (1, .ref (90 + i)), (2, .int (nI s)), (3, .int (nI e))]) dX10_isWord_46 rfl (nI_1 k) (by decide) rfl ?_
      refine g_goto 15 dX10_isWord_49 (by decide) ?_
      exact ih (k + 1) (by omega) (fun m hm2 => by
        rcases Nat.lt_or_ge m k with z | z
        · exact hm m z
        · obtain rfl : m = k := by omega
          exact hq)
    · refine g_iconst (v := 0) dX10_isWord_44 rfl ?_
      exact g_iret dX10_isWord_45 rfl rfl ⟨_, rfl, (zs_bf (fun z => hq (z.2 k (by rw [tx_len i hi]; omega)))).symm, rfl⟩
theorem c_isWord (i : Nat) (hi : i < 5) (B : Nat → Nat) (L s e : Nat) (S : zs_S) (hT : zs_tx S B L) (he : e ≤ L) (hs : s ≤ e) : zs_Ci MX10_isWord [.ref 43, .ref (90 + i), .int (nI s), .int (nI e)] S (fun x S2 => x = zs_b (tx_w B s e (tx_ws.getD i [])) ∧ S = S2) := by
  have h4 := zs_sl4 i hi
  have hL := hT.1
  refine zs_C.of (by decide) (Nat.le_of_ble_eq_true rfl) ?_
  show zs_P MX10_isWord 0 [(0, .ref 43), (1, .ref (90 + i)), (2, .int (nI s)), (3, .int (nI e))] [] S _
  refine g_iload_n dX10_isWord_0 rfl rfl ?_
  refine g_iload_n dX10_isWord_1 rfl rfl ?_
  refine g_isubN dX10_isWord_2 (by omega) ?_
  refine g_aload_n dX10_isWord_3 rfl rfl ?_
  refine g_callVS hi rfl [.int (nI (e - s))] (v_slen i hi S) dX10_isWord_4 kk_X10_isWord_J0_length_8abf5 ml_RX10_141 mwJ0_length_8abf5 ewJ0_length_8abf5 rfl rfl (Nat.le_of_ble_eq_true rfl) ?_
  rintro _ _ ⟨_, rfl, rfl, rfl⟩
  refine g_ic_eqN 12 dX10_isWord_7 (by decide) (by omega) (by omega) (fun hq => ?_) (fun hq => ?_)
  · refine g_iconst (v := nI 0) dX10_isWord_12 rfl ?_
    refine g_istore (lv' := [(4, .int (nI 0)), (0, .ref 43), (1, .ref (90 + i)), (2, .int (nI s)), (3, .int (nI e))]) dX10_isWord_13 (by decide) rfl ?_
    exact c_isWord_l i hi B L s e S hT he hs hq (zs_sl.getD i 0) 0 (Nat.zero_add _) (fun m z => absurd z (by omega))
  · refine g_iconst (v := 0) dX10_isWord_10 rfl ?_
    exact g_iret dX10_isWord_11 rfl rfl ⟨_, rfl, (zs_bf (fun z => hq (by rw [← tx_len i hi]; exact z.1))).symm, rfl⟩
set_option maxRecDepth 100000 in
theorem c_wordFrom (B : Nat → Nat) (L s e : Nat) (S : zs_S) (hT : zs_tx S B L) (he : e ≤ L) (hs : s ≤ e) : zs_Ci MX10_wordFrom [.ref 43, .int (nI s), .int (nI e)] S (fun x S2 => x = nI (tx_wc B s e) ∧ S = S2) := by
  refine zs_C.of (by decide) (Nat.le_of_ble_eq_true rfl) ?_
  show zs_P MX10_wordFrom 0 [(0, .ref 43), (1, .int (nI s)), (2, .int (nI e))] [] S _
  refine g_aload_n dX10_wordFrom_0 rfl rfl ?_
  refine g_ldcS (i := 0) (by decide) rfl dX10_wordFrom_1 ?_
  refine g_iload_n dX10_wordFrom_3 rfl rfl ?_
  refine g_iload_n dX10_wordFrom_4 rfl rfl ?_
  refine g_callV (T := TX10) (NN := 8) [] (c_isWord 0 (by decide) B L s e S hT he hs) dX10_wordFrom_5 kk_X10_wordFrom_X10_isWord ml_RX10_131 mwX10_isWord ewX10_isWord (by decide) rfl rfl rfl rfl (Nat.le_of_ble_eq_true rfl) ?_
  rintro _ _ ⟨_, rfl, rfl, rfl⟩
  refine g_if_eq 13 dX10_wordFrom_8 (by decide) (fun h0 => ?_) (fun h0 => ?_)
  rotate_left
  · refine g_iconst (v := nI 4) dX10_wordFrom_11 rfl ?_
    exact g_iret dX10_wordFrom_12 rfl rfl ⟨_, rfl, by unfold tx_wc; rw [if_pos (zs_b1 h0)], rfl⟩
  refine g_aload_n dX10_wordFrom_13 rfl rfl ?_
  refine g_ldcS (i := 1) (by decide) rfl dX10_wordFrom_14 ?_
  refine g_iload_n dX10_wordFrom_16 rfl rfl ?_
  refine g_iload_n dX10_wordFrom_17 rfl rfl ?_
  refine g_callV (T := TX10) (NN := 8) [] (c_isWord 1 (by decide) B L s e S hT he hs) dX10_wordFrom_18 kk_X10_wordFrom_X10_isWord ml_RX10_131 mwX10_isWord ewX10_isWord (by decide) rfl rfl rfl rfl (Nat.le_of_ble_eq_true rfl) ?_
  rintro _ _ ⟨_, rfl, rfl, rfl⟩
  refine g_if_eq 26 dX10_wordFrom_21 (by decide) (fun h1 => ?_) (fun h1 => ?_)
  rotate_left
  · refine g_iconst (v := nI 5) dX10_wordFrom_24 rfl ?_
    exact g_iret dX10_wordFrom_25 rfl rfl ⟨_, rfl, by unfold tx_wc; rw [if_neg (zs_b0 h0), if_pos (zs_b1 h1)], rfl⟩
  refine g_aload_n dX10_wordFrom_26 rfl rfl ?_
  refine g_ldcS (i := 2) (by decide) rfl dX10_wordFrom_27 ?_
  refine g_iload_n dX10_wordFrom_29 rfl rfl ?_
  refine g_iload_n dX10_wordFrom_30 rfl rfl ?_
  refine g_callV (T := TX10) (NN := 8) [] (c_isWord 2 (by decide) B L s e S hT he hs) dX10_wordFrom_31 kk_X10_wordFrom_X10_isWord ml_RX10_131 mwX10_isWord ewX10_isWord (by decide) rfl rfl rfl rfl (Nat.le_of_ble_eq_true rfl) ?_
  rintro _ _ ⟨_, rfl, rfl, rfl⟩
  refine g_if_eq 40 dX10_wordFrom_34 (by decide) (fun h2 => ?_) (fun h2 => ?_)
  rotate_left
  · refine g_bipush (v := nI 6) dX10_wordFrom_37 rfl ?_
    exact g_iret dX10_wordFrom_39 rfl rfl ⟨_, rfl, by unfold tx_wc; rw [if_neg (zs_b0 h0), if_neg (zs_b0 h1), if_pos (zs_b1 h2)], rfl⟩
  refine g_aload_n dX10_wordFrom_40 rfl rfl ?_
  refine g_ldcS (i := 3) (by decide) rfl dX10_wordFrom_41 ?_
  refine g_iload_n dX10_wordFrom_43 rfl rfl ?_
  refine g_iload_n dX10_wordFrom_44 rfl rfl ?_
  refine g_callV (T := TX10) (NN := 8) [] (c_isWord 3 (by decide) B L s e S hT he hs) dX10_wordFrom_45 kk_X10_wordFrom_X10_isWord ml_RX10_131 mwX10_isWord ewX10_isWord (by decide) rfl rfl rfl rfl (Nat.le_of_ble_eq_true rfl) ?_
  rintro _ _ ⟨_, rfl, rfl, rfl⟩
  refine g_if_eq 54 dX10_wordFrom_48 (by decide) (fun h3 => ?_) (fun h3 => ?_)
  rotate_left
  · refine g_bipush (v := nI 7) dX10_wordFrom_51 rfl ?_
    exact g_iret dX10_wordFrom_53 rfl rfl ⟨_, rfl, by unfold tx_wc; rw [if_neg (zs_b0 h0), if_neg (zs_b0 h1), if_neg (zs_b0 h2), if_pos (zs_b1 h3)], rfl⟩
  refine g_aload_n dX10_wordFrom_54 rfl rfl ?_
  refine g_ldcS (i := 4) (by decide) rfl dX10_wordFrom_55 ?_
  refine g_iload_n dX10_wordFrom_57 rfl rfl ?_
  refine g_iload_n dX10_wordFrom_58 rfl rfl ?_
  refine g_callV (T := TX10) (NN := 8) [] (c_isWord 4 (by decide) B L s e S hT he hs) dX10_wordFrom_59 kk_X10_wordFrom_X10_isWord ml_RX10_131 mwX10_isWord ewX10_isWord (by decide) rfl rfl rfl rfl (Nat.le_of_ble_eq_true rfl) ?_
  rintro _ _ ⟨_, rfl, rfl, rfl⟩
  refine g_if_eq 70 dX10_wordFrom_62 (by decide) (fun h4 => ?_) (fun h4 => ?_)
  rotate_left
  · refine g_bipush (v := nI 8) dX10_wordFrom_65 rfl ?_
    refine g_goto 71 dX10_wordFrom_67 (by decide) ?_
    exact g_iret dX10_wordFrom_71 rfl rfl ⟨_, rfl, by unfold tx_wc; rw [if_neg (zs_b0 h0), if_neg (zs_b0 h1), if_neg (zs_b0 h2), if_neg (zs_b0 h3), if_pos (zs_b1 h4)], rfl⟩
  refine g_iconst (v := nI 3) dX10_wordFrom_70 rfl ?_
  exact g_iret dX10_wordFrom_71 rfl rfl ⟨_, rfl, by unfold tx_wc; rw [if_neg (zs_b0 h0), if_neg (zs_b0 h1), if_neg (zs_b0 h2), if_neg (zs_b0 h3), if_neg (zs_b0 h4)], rfl⟩
theorem tx_numA {x y : Int32} {a b : Nat} (hx : x = nI a) (hy : y = nI b) (ha : 48 ≤ a) (hb : 48 ≤ b) : (nI 10 * (x - nI 48) + y) - nI 48 = nI (10 * (a - 48) + (b - 48)) := by
  rw [hx, hy, pk_sub ha, pk_mul, nI_add, pk_sub (by omega)]
  congr 1
  omega
theorem tx_numB {y : Int32} {b : Nat} (hy : y = nI b) (hb : 48 ≤ b) : (nI (10 * 0) + y) - nI 48 = nI (10 * 0 + (b - 48)) := by
  rw [hy, nI_add, pk_sub (by omega)]
  congr 1
  omega
set_option maxRecDepth 100000 in
theorem c_numberFrom (B : Nat → Nat) (L s e : Nat) (S : zs_S) (hT : zs_tx S B L) (he : e ≤ L) (hs : s < e) : zs_Ci MX10_numberFrom [.ref 43, .int (nI s), .int (nI e)] S (fun x S2 => (48 ≤ B s → 48 ≤ B (e - 1) → x = nI (tx_vl B s e)) ∧ S = S2) := by
  have hL := hT.1
  refine zs_C.of (by decide) (Nat.le_of_ble_eq_true rfl) ?_
  show zs_P MX10_numberFrom 0 [(0, .ref 43), (1, .int (nI s)), (2, .int (nI e))] [] S _
  refine g_iload_n dX10_numberFrom_0 rfl rfl ?_
  refine g_iload_n dX10_numberFrom_1 rfl rfl ?_
  refine g_isubN dX10_numberFrom_2 (by omega) ?_
  refine g_iconst (v := (nI 1)) dX10_numberFrom_3 rfl ?_
  refine g_ic_leN 21 dX10_numberFrom_4 (by decide) (by omega) (by omega) (fun h1 => ?_) (fun h1 => ?_)
  · refine g_iconst (v := (nI 0)) dX10_numberFrom_21 rfl ?_
    refine g_istore_n (lv' := [(3, .int (nI 0)), (0, .ref 43), (1, .int (nI s)), (2, .int (nI e))]) dX10_numberFrom_22 rfl (by decide) rfl ?_
    refine g_bipush (v := (nI 10)) dX10_numberFrom_23 rfl ?_
    refine g_iload_n dX10_numberFrom_25 rfl rfl ?_
    refine g_imulN dX10_numberFrom_26 ?_
    refine g_aload_n dX10_numberFrom_27 rfl rfl ?_
    refine g_getR 0 (44) (C := RX10) (T := TX10) (N := 8) dX10_numberFrom_28 (by decide) rfl rfl (by decide) rfl fl_RX10_9 ?_
    refine g_iload_n dX10_numberFrom_31 rfl rfl ?_
    refine g_iconst (v := (nI 1)) dX10_numberFrom_32 rfl ?_
    refine g_isubN dX10_numberFrom_33 (by omega) ?_
    refine g_callN [.ref 44, .int (nI (e - 1))] [.int (nI (10 * 0))] (x_cellN S 44 150 (e - 1) (by decide) rfl (by decide) (by omega)) dX10_numberFrom_34 kk_X10_numberFrom_X11_cell nl_RX10_66 swX11_cell rfl rfl (Nat.le_of_ble_eq_true rfl) ?_
    rintro _ _ ⟨x2, rfl, ex2, rfl⟩
    rw [(hT.2.2 (e - 1) (by omega)).2] at ex2
    refine g_iadd dX10_numberFrom_37 ?_
    refine g_bipush (v := (nI 48)) dX10_numberFrom_38 rfl ?_
    refine g_isub dX10_numberFrom_40 ?_
    refine g_iret dX10_numberFrom_41 rfl rfl ?_
    exact ⟨_, rfl, fun _ hb => by unfold tx_vl; rw [if_neg (by omega)]; exact tx_numB ex2 hb, rfl⟩
  · refine g_aload_n dX10_numberFrom_7 rfl rfl ?_
    refine g_getR 0 (44) (C := RX10) (T := TX10) (N := 8) dX10_numberFrom_8 (by decide) rfl rfl (by decide) rfl fl_RX10_9 ?_
    refine g_iload_n dX10_numberFrom_11 rfl rfl ?_
    refine g_callN [.ref 44, .int (nI s)] [] (x_cellN S 44 150 s (by decide) rfl (by decide) (by omega)) dX10_numberFrom_12 kk_X10_numberFrom_X11_cell nl_RX10_66 swX11_cell rfl rfl (Nat.le_of_ble_eq_true rfl) ?_
    rintro _ _ ⟨x3, rfl, ex3, rfl⟩
    rw [(hT.2.2 s (by omega)).2] at ex3
    refine g_bipush (v := (nI 48)) dX10_numberFrom_15 rfl ?_
    refine g_isub dX10_numberFrom_17 ?_
    refine g_goto 22 dX10_numberFrom_18 (by decide) ?_
    refine g_istore_n (lv' := [(3, .int (x3 - (nI 48))), (0, .ref 43), (1, .int (nI s)), (2, .int (nI e))]) dX10_numberFrom_22 rfl (by decide) rfl ?_
    refine g_bipush (v := (nI 10)) dX10_numberFrom_23 rfl ?_
    refine g_iload_n dX10_numberFrom_25 rfl rfl ?_
    refine g_imul dX10_numberFrom_26 ?_
    refine g_aload_n dX10_numberFrom_27 rfl rfl ?_
    refine g_getR 0 (44) (C := RX10) (T := TX10) (N := 8) dX10_numberFrom_28 (by decide) rfl rfl (by decide) rfl fl_RX10_9 ?_
    refine g_iload_n dX10_numberFrom_31 rfl rfl ?_
    refine g_iconst (v := (nI 1)) dX10_numberFrom_32 rfl ?_
    refine g_isubN dX10_numberFrom_33 (by omega) ?_
    refine g_callN [.ref 44, .int (nI (e - 1))] [.int ((nI 10) * (x3 - (nI 48)))] (x_cellN S 44 150 (e - 1) (by decide) rfl (by decide) (by omega)) dX10_numberFrom_34 kk_X10_numberFrom_X11_cell nl_RX10_66 swX11_cell rfl rfl (Nat.le_of_ble_eq_true rfl) ?_
    rintro _ _ ⟨x4, rfl, ex4, rfl⟩
    rw [(hT.2.2 (e - 1) (by omega)).2] at ex4
    refine g_iadd dX10_numberFrom_37 ?_
    refine g_bipush (v := (nI 48)) dX10_numberFrom_38 rfl ?_
    refine g_isub dX10_numberFrom_40 ?_
    refine g_iret dX10_numberFrom_41 rfl rfl ?_
    exact ⟨_, rfl, fun ha hb => by unfold tx_vl; rw [if_pos (by omega)]; exact tx_numA ex3 ex4 ha hb, rfl⟩
set_option maxRecDepth 100000 in
theorem c_tokenFrom (B : Nat → Nat) (L s e : Nat) (S : zs_S) (hT : zs_tx S B L) (he : e ≤ L) (hs : s < e) : zs_Ci MX10_tokenFrom [.ref 43, .int (nI s), .int (nI e)] S (fun x S2 => x = nI (tx_kd B s e) ∧ S = S2) := by
  have hL := hT.1
  have hB := (hT.2.2 s (by omega)).1
  refine zs_C.of (by decide) (Nat.le_of_ble_eq_true rfl) ?_
  show zs_P MX10_tokenFrom 0 [(0, .ref 43), (1, .int (nI s)), (2, .int (nI e))] [] S _
  refine g_aload_n dX10_tokenFrom_0 rfl rfl ?_
  refine g_getR 0 (44) (C := RX10) (T := TX10) (N := 8) dX10_tokenFrom_1 (by decide) rfl rfl (by decide) rfl fl_RX10_9 ?_
  refine g_iload_n dX10_tokenFrom_4 rfl rfl ?_
  refine g_callN [.ref 44, .int (nI s)] [] (x_cellN S 44 150 s (by decide) rfl (by decide) (by omega)) dX10_tokenFrom_5 kk_X10_tokenFrom_X11_cell nl_RX10_66 swX11_cell rfl rfl (Nat.le_of_ble_eq_true rfl) ?_
  rintro _ _ ⟨_, rfl, rfl, rfl⟩
  rw [(hT.2.2 s (by omega)).2]
  refine g_istore_n (lv' := [(3, .int (nI (B s))), (0, .ref 43), (1, .int (nI s)), (2, .int (nI e))]) dX10_tokenFrom_8 rfl (by decide) rfl ?_
  refine g_iload_n dX10_tokenFrom_9 rfl rfl ?_
  refine g_callS [.int (nI (B s))] [] (c_sortOf S (B s) (hT.2.2 s (by omega)).1) dX10_tokenFrom_10 kk_X10_tokenFrom_X10_sortOf ml_RX10_115 swX10_sortOf rfl rfl (Nat.le_of_ble_eq_true rfl) ?_
  rintro _ _ ⟨_, rfl, rfl, rfl⟩
  have hs3 := tx_so3 (c := B s)
  generalize hso : tx_so (B s) = c
  by_cases hk1 : c = 1
  · obtain rfl := hk1
    refine g_lsw (off := 27) 40 dX10_tokenFrom_13 (by decide) (by decide) (by decide) ?_
    refine g_aload_n dX10_tokenFrom_40 rfl rfl ?_
    refine g_iload_n dX10_tokenFrom_41 rfl rfl ?_
    refine g_iload_n dX10_tokenFrom_42 rfl rfl ?_
    refine g_callV (T := TX10) (NN := 8) [] (c_wordFrom B L s e S hT he (by omega)) dX10_tokenFrom_43 kk_X10_tokenFrom_X10_wordFrom ml_RX10_126 mwX10_wordFrom ewX10_wordFrom (by decide) rfl rfl rfl rfl (Nat.le_of_ble_eq_true rfl) ?_
    rintro _ _ ⟨_, rfl, rfl, rfl⟩
    refine g_iret dX10_tokenFrom_46 rfl rfl ?_
    exact ⟨_, rfl, by unfold tx_kd; rw [if_pos hso], rfl⟩
  by_cases hk2 : c = 2
  · obtain rfl := hk2
    refine g_lsw (off := 34) 47 dX10_tokenFrom_13 (by decide) (by decide) (by decide) ?_
    refine g_iload_n dX10_tokenFrom_47 rfl rfl ?_
    refine g_iload_n dX10_tokenFrom_48 rfl rfl ?_
    refine g_isubN dX10_tokenFrom_49 (by omega) ?_
    refine g_iconst (v := (nI 2)) dX10_tokenFrom_50 rfl ?_
    refine g_ic_leN 58 dX10_tokenFrom_51 (by decide) (by omega) (by omega) (fun h2 => ?_) (fun h2 => ?_)
    · refine g_iconst (v := (nI 1)) dX10_tokenFrom_58 rfl ?_
      refine g_iret dX10_tokenFrom_59 rfl rfl ?_
      exact ⟨_, rfl, by unfold tx_kd; rw [if_neg (by omega), if_pos hso, if_neg (by omega)], rfl⟩
    · refine g_iconst (v := (nI 3)) dX10_tokenFrom_54 rfl ?_
      refine g_goto 59 dX10_tokenFrom_55 (by decide) ?_
      refine g_iret dX10_tokenFrom_59 rfl rfl ?_
      exact ⟨_, rfl, by unfold tx_kd; rw [if_neg (by omega), if_pos hso, if_pos (by omega)], rfl⟩
  refine g_lsw (off := 47) 60 dX10_tokenFrom_13 (by decide) (by have e : (nI c).toInt = c := nI_toInt (by omega); simp [Op.lookupswitch.offset, e]; omega) (by decide) ?_
  refine g_iload_n dX10_tokenFrom_60 rfl rfl ?_
  refine g_bipush (v := (nI 59)) dX10_tokenFrom_61 rfl ?_
  refine g_ic_neN 70 dX10_tokenFrom_63 (by decide) (by omega) (by omega) (fun h3 => ?_) (fun h3 => ?_)
  · refine g_iconst (v := (nI 3)) dX10_tokenFrom_70 rfl ?_
    refine g_iret dX10_tokenFrom_71 rfl rfl ?_
    exact ⟨_, rfl, by unfold tx_kd; rw [if_neg (by omega), if_neg (by omega), if_neg (by omega)], rfl⟩
  · refine g_iconst (v := (nI 2)) dX10_tokenFrom_66 rfl ?_
    refine g_goto 71 dX10_tokenFrom_67 (by decide) ?_
    refine g_iret dX10_tokenFrom_71 rfl rfl ?_
    exact ⟨_, rfl, by unfold tx_kd; rw [if_neg (by omega), if_neg (by omega), if_pos (by omega)], rfl⟩
