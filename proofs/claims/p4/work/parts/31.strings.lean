theorem zs_up_q {f : Nat → Nat → Int32} {g : Nat → Nat → Int64} {a j : Nat} {v : Int32} : ((zs_up f a j v, g) : zs_S).1 a j = v := zs_up_s
theorem zs_up_m {f : Nat → Nat → Int32} {g : Nat → Nat → Int64} {a j b i : Nat} {v : Int32} (h : ¬ (b = a ∧ i = j)) : ((zs_up f a j v, g) : zs_S).1 b i = f b i := zs_up_n h
theorem zs_lc0 {d : Int64} (h : ¬ lg_cmp d 0 ≤ 0) : ¬ d = 0 := fun e => h (by subst e; decide)
theorem zs_1le {y : Int32} (h : nI 1 ≤ y) : ¬ y = 0 := fun e => by subst e; exact absurd h (by decide)
theorem v_scoder (i : Nat) (hi : i < 5) (S : zs_S) : zs_Ci MJ0_coder_7d493 [.ref (90 + i)] S (fun x S2 => x = 0 ∧ S = S2) := by
  refine zs_CF (by decide +kernel) (Nat.le_of_ble_eq_true rfl) ?_
  show zs_P MJ0_coder_7d493 0 [(0, .ref (90 + i))] [] S _
  refine g_getCS fs_RJ0_38 dJ0_coder_7d493_0 ?_
  refine g_if_eq 13 dJ0_coder_7d493_3 (by decide) (fun z => absurd z (by decide)) (fun _ => ?_)
  refine g_aload_n dJ0_coder_7d493_6 rfl rfl ?_
  refine g_getSc hi fs_RJ0_15 dJ0_coder_7d493_7 ?_
  refine g_goto 14 dJ0_coder_7d493_10 (by decide) ?_
  exact g_iret dJ0_coder_7d493_14 rfl rfl ⟨_, rfl, rfl, rfl⟩
theorem v_slatin (i : Nat) (hi : i < 5) (S : zs_S) : zs_Ci MJ0_isLatin1_aae02 [.ref (90 + i)] S (fun x S2 => x = 1 ∧ S = S2) := by
  refine zs_CF (by decide +kernel) (Nat.le_of_ble_eq_true rfl) ?_
  show zs_P MJ0_isLatin1_aae02 0 [(0, .ref (90 + i))] [] S _
  refine g_getCS fs_RJ0_38 dJ0_isLatin1_aae02_0 ?_
  refine g_if_eq 17 dJ0_isLatin1_aae02_3 (by decide) (fun z => absurd z (by decide)) (fun _ => ?_)
  refine g_aload_n dJ0_isLatin1_aae02_6 rfl rfl ?_
  refine g_getSc hi fs_RJ0_15 dJ0_isLatin1_aae02_7 ?_
  refine g_if_ne 17 dJ0_isLatin1_aae02_10 (by decide) (fun z => absurd rfl z) (fun _ => ?_)
  refine g_iconst (v := 1) dJ0_isLatin1_aae02_13 rfl ?_
  refine g_goto 18 dJ0_isLatin1_aae02_14 (by decide) ?_
  exact g_iret dJ0_isLatin1_aae02_18 rfl rfl ⟨_, rfl, rfl, rfl⟩
theorem zs_sh0 : ∀ i, i < 5 → nI (zs_sl.getD i 0) >>> ((0 : Int32) &&& 31) = nI (zs_sl.getD i 0) := by decide
theorem v_slen (i : Nat) (hi : i < 5) (S : zs_S) : zs_Ci MJ0_length_8abf5 [.ref (90 + i)] S (fun x S2 => x = nI (zs_sl.getD i 0) ∧ S = S2) := by
  refine zs_CF (by decide +kernel) (Nat.le_of_ble_eq_true rfl) ?_
  show zs_P MJ0_length_8abf5 0 [(0, .ref (90 + i))] [] S _
  refine g_aload_n dJ0_length_8abf5_0 rfl rfl ?_
  refine g_getSv hi fs_RJ0_9 dJ0_length_8abf5_1 ?_
  refine g_alenS hi dJ0_length_8abf5_4 ?_
  refine g_aload_n dJ0_length_8abf5_5 rfl rfl ?_
  refine g_callVS hi rfl [.int (nI (zs_sl.getD i 0))] (v_scoder i hi S) dJ0_length_8abf5_6 kk_J0_length_8abf5_J0_coder_7d493 ml_RJ0_335 mwJ0_coder_7d493 ewJ0_coder_7d493 rfl rfl (Nat.le_of_ble_eq_true rfl) ?_
  rintro _ _ ⟨_, rfl, rfl, rfl⟩
  refine g_ishr dJ0_length_8abf5_9 ?_
  exact g_iret dJ0_length_8abf5_10 rfl rfl ⟨_, rfl, zs_sh0 i hi, rfl⟩
theorem v_scheck (k n : Nat) (w : Value) (hw : w.category = 1) (hk : k < n) (hn : n < 2 ^ 31) (S : zs_S) : zs_X MJ3_checkIndex_8e157 [.int (nI k), .int (nI n), w] S (some (.int (nI k)), S) := by
  have h : zs_P MJ3_checkIndex_8e157 0 [(0, .int (nI k)), (1, .int (nI n)), (2, w)] [] S (fun v S2 => v = some (.int (nI k)) ∧ S2 = S) := by
    refine g_iload_n dJ3_checkIndex_8e157_0 rfl rfl ?_
    refine g_if_ltN 9 dJ3_checkIndex_8e157_1 (by decide) (by omega) ?_
    refine g_iload_n dJ3_checkIndex_8e157_4 rfl rfl ?_
    refine g_iload_n dJ3_checkIndex_8e157_5 rfl rfl ?_
    refine g_ic_ltN 16 dJ3_checkIndex_8e157_6 (by decide) (by omega) (by omega) (fun _ => ?_) (fun z => absurd z (by omega))
    refine g_iload_n dJ3_checkIndex_8e157_16 rfl rfl ?_
    exact g_iret dJ3_checkIndex_8e157_17 rfl rfl ⟨rfl, rfl⟩
  obtain ⟨⟨v, S2⟩, g, h1, h2⟩ := h
  obtain rfl : v = _ := h1
  obtain rfl : S2 = _ := h2
  exact zs_XF (by decide +kernel) (by simp only [lg_sl, List.flatMap_cons, List.flatMap_nil, List.length_append, hw]; exact Nat.le_of_ble_eq_true rfl) (by
    have e : lv_args 0 [.int (nI k), .int (nI n), w] = [(0, .int (nI k)), (1, .int (nI n)), (2, w)] := by simp [lv_args, Value.category]
    rw [e]; exact g)
theorem v_scheck1 (k n : Nat) (hk : k < n) (hn : n < 2 ^ 31) (S : zs_S) : zs_Cv MJ0_checkIndex_df160 [.int (nI k), .int (nI n)] S (fun S2 => S = S2) := by
  refine zs_CF (by decide +kernel) (Nat.le_of_ble_eq_true rfl) ?_
  show zs_P MJ0_checkIndex_df160 0 [(0, .int (nI k)), (1, .int (nI n))] [] S _
  refine g_iload_n dJ0_checkIndex_df160_0 rfl rfl ?_
  refine g_iload_n dJ0_checkIndex_df160_1 rfl rfl ?_
  have key : ∀ w : Value, w.category = 1 → zs_G MJ0_checkIndex_df160 5 [(0, .int (nI k)), (1, .int (nI n))] [w, .int (nI n), .int (nI k)] S (none, S) := by
    intro w hw
    have h : zs_P MJ0_checkIndex_df160 5 [(0, .int (nI k)), (1, .int (nI n))] [w, .int (nI n), .int (nI k)] S (fun v S2 => v = none ∧ S2 = S) := by
      refine g_callS [.int (nI k), .int (nI n), w] [] (Q1 := fun v S2 => v = some (.int (nI k)) ∧ S = S2) ⟨_, v_scheck k n w hw hk hn S, rfl, rfl⟩ dJ0_checkIndex_df160_5 kk_J0_checkIndex_df160_J3_checkIndex_8e157 ml_RJ0_1059 swJ3_checkIndex_8e157 rfl rfl (Nat.le_of_ble_eq_true rfl) ?_
      rintro _ _ ⟨rfl, rfl⟩
      refine g_pop dJ0_checkIndex_df160_8 rfl ?_
      exact g_ret dJ0_checkIndex_df160_9 rfl ⟨rfl, rfl⟩
    obtain ⟨⟨v, S2⟩, g, h1, h2⟩ := h
    obtain rfl : v = _ := h1
    obtain rfl : S2 = _ := h2
    exact g
  exact ⟨(none, S), g_getFM fs_RJ0_1053 dJ0_checkIndex_df160_2 (key _ rfl) (key _ rfl), rfl, rfl⟩
theorem v_snar (x : Int32) : narrow .char (.int ((x &&& 255).toUInt32 % 65536).toInt32) = .int ((x &&& 255).toUInt32 % 65536).toInt32 := by
  have h : ∀ y : Int32, ((((y.toUInt32 % 65536).toInt32).toUInt32 % 65536).toInt32) = (y.toUInt32 % 65536).toInt32 := by
    intro y
    congr 1
    apply UInt32.toNat_inj.mp
    simp
  exact congrArg Value.int (h _)
theorem v_schar (i k : Nat) (hi : i < 5) (hk : k < zs_sl.getD i 0) (hn : zs_sl.getD i 0 < 2 ^ 31) (S : zs_S) : zs_Ci MJ1_charAt_3b067 [.ref (95 + i), .int (nI k)] S (fun x S2 => (narrow .char (.int x) = .int x ∧ x = (((zs_sb.getD i []).getD k 0 &&& 255).toUInt32 % 65536).toInt32) ∧ S = S2) := by
  refine zs_CF (by decide +kernel) (Nat.le_of_ble_eq_true rfl) ?_
  show zs_P MJ1_charAt_3b067 0 [(0, .ref (95 + i)), (1, .int (nI k))] [] S _
  refine g_iload_n dJ1_charAt_3b067_0 rfl rfl ?_
  refine g_aload_n dJ1_charAt_3b067_1 rfl rfl ?_
  refine g_alenS hi dJ1_charAt_3b067_2 ?_
  refine g_callS [.int (nI k), .int (nI (zs_sl.getD i 0))] [] (v_scheck1 k _ hk hn S) dJ1_charAt_3b067_3 kk_J1_charAt_3b067_J0_checkIndex_df160 ml_RJ1_9 swJ0_checkIndex_df160 rfl rfl (Nat.le_of_ble_eq_true rfl) ?_
  rintro _ _ ⟨rfl, rfl⟩
  refine g_aload_n dJ1_charAt_3b067_6 rfl rfl ?_
  refine g_iload_n dJ1_charAt_3b067_7 rfl rfl ?_
  refine g_baldS hi (vp_in_nI hk (by omega)) dJ1_charAt_3b067_8 ?_
  refine g_sipush (v := 255) dJ1_charAt_3b067_9 rfl ?_
  refine g_iand dJ1_charAt_3b067_12 ?_
  refine g_i2c dJ1_charAt_3b067_13 rfl ?_
  rw [nI_clamp (by omega)]
  exact g_iret dJ1_charAt_3b067_14 rfl (v_snar _) ⟨_, rfl, ⟨v_snar _, rfl⟩, rfl⟩
theorem v_scharAt (i k : Nat) (hi : i < 5) (hk : k < zs_sl.getD i 0) (hn : zs_sl.getD i 0 < 2 ^ 31) (S : zs_S) : zs_Ci MJ0_charAt_5068e [.ref (90 + i), .int (nI k)] S (fun x S2 => x = (((zs_sb.getD i []).getD k 0 &&& 255).toUInt32 % 65536).toInt32 ∧ S = S2) := by
  refine zs_CF (by decide +kernel) (Nat.le_of_ble_eq_true rfl) ?_
  show zs_P MJ0_charAt_5068e 0 [(0, .ref (90 + i)), (1, .int (nI k))] [] S _
  refine g_aload_n dJ0_charAt_5068e_0 rfl rfl ?_
  refine g_callVS hi rfl [] (v_slatin i hi S) dJ0_charAt_5068e_1 kk_J0_charAt_5068e_J0_isLatin1_aae02 ml_RJ0_492 mwJ0_isLatin1_aae02 ewJ0_isLatin1_aae02 rfl rfl (Nat.le_of_ble_eq_true rfl) ?_
  rintro _ _ ⟨_, rfl, rfl, rfl⟩
  refine g_if_eq 16 dJ0_charAt_5068e_4 (by decide) (fun z => absurd z (by decide)) (fun _ => ?_)
  refine g_aload_n dJ0_charAt_5068e_7 rfl rfl ?_
  refine g_getSv hi fs_RJ0_9 dJ0_charAt_5068e_8 ?_
  refine g_iload_n dJ0_charAt_5068e_11 rfl rfl ?_
  refine g_callS [.ref (95 + i), .int (nI k)] [] (v_schar i k hi hk hn S) dJ0_charAt_5068e_12 kk_J0_charAt_5068e_J1_charAt_3b067 ml_RJ0_495 swJ1_charAt_3b067 rfl rfl (Nat.le_of_ble_eq_true rfl) ?_
  rintro _ _ ⟨x, rfl, ⟨hx, hv⟩, rfl⟩
  exact g_iret dJ0_charAt_5068e_15 rfl hx ⟨_, rfl, hv, rfl⟩
theorem zs_sl4 : ∀ i, i < 5 → zs_sl.getD i 0 ≤ 4 := by decide
set_option maxRecDepth 100000 in
theorem v_isWord_l (i : Nat) (hi : i < 5) (a b : Int32) (S : zs_S) : ∀ (d k : Nat), k + d = zs_sl.getD i 0 → zs_P MX10_isWord 15 [(4, .int (nI k)), (0, .ref 43), (1, .ref (90 + i)), (2, .int a), (3, .int b)] [] S (fun v S2 => zs_Rb v ∧ S2 = S) := by
  have h4 := zs_sl4 i hi
  intro d
  induction d with
  | zero =>
    intro k hk
    refine g_iload dX10_isWord_15 rfl ?_
    refine g_aload_n dX10_isWord_17 rfl rfl ?_
    refine g_callVS hi rfl [.int (nI k)] (v_slen i hi S) dX10_isWord_18 kk_X10_isWord_J0_length_8abf5 ml_RX10_141 mwJ0_length_8abf5 ewJ0_length_8abf5 rfl rfl (Nat.le_of_ble_eq_true rfl) ?_
    rintro _ _ ⟨_, rfl, rfl, rfl⟩
    refine g_ic_geN 52 dX10_isWord_21 (by decide) (by omega) (by omega) (fun _ => ?_) (fun z => absurd z (by omega))
    refine g_iconst (v := 1) dX10_isWord_52 rfl ?_
    exact g_iret dX10_isWord_53 rfl rfl ⟨⟨_, rfl, rfl⟩, rfl⟩
  | succ d ih =>
    intro k hk
    refine g_iload dX10_isWord_15 rfl ?_
    refine g_aload_n dX10_isWord_17 rfl rfl ?_
    refine g_callVS hi rfl [.int (nI k)] (v_slen i hi S) dX10_isWord_18 kk_X10_isWord_J0_length_8abf5 ml_RX10_141 mwJ0_length_8abf5 ewJ0_length_8abf5 rfl rfl (Nat.le_of_ble_eq_true rfl) ?_
    rintro _ _ ⟨_, rfl, rfl, rfl⟩
    refine g_ic_geN 52 dX10_isWord_21 (by decide) (by omega) (by omega) (fun z => absurd z (by omega)) (fun _ => ?_)
    refine g_aload_n dX10_isWord_24 rfl rfl ?_
    refine g_getR 0 44 (C := RX10) (T := TX10) (N := 8) dX10_isWord_25 (by decide) rfl rfl (by decide) rfl fl_RX10_9 ?_
    refine g_iload_n dX10_isWord_28 rfl rfl ?_
    refine g_iload dX10_isWord_29 rfl ?_
    refine g_iadd dX10_isWord_31 ?_
    refine g_callN [.ref 44, .int (a + nI k)] [] (x_cell S 44 150 (a + nI k) (by decide) rfl (by decide)) dX10_isWord_32 kk_X10_isWord_X11_cell nl_RX10_66 swX11_cell rfl rfl (Nat.le_of_ble_eq_true rfl) ?_
    rintro _ _ ⟨x, rfl, -, rfl⟩
    refine g_aload_n dX10_isWord_35 rfl rfl ?_
    refine g_iload dX10_isWord_36 rfl ?_
    refine g_callVS hi rfl [.int x] (v_scharAt i k hi (by omega) (by omega) S) dX10_isWord_38 kk_X10_isWord_J0_charAt_5068e ml_RX10_145 mwJ0_charAt_5068e ewJ0_charAt_5068e rfl rfl (Nat.le_of_ble_eq_true rfl) ?_
    rintro _ _ ⟨y, rfl, -, rfl⟩
    refine g_ic_eq 46 dX10_isWord_41 (by decide) (fun _ => ?_) (fun _ => ?_)
    · refine g_iinc (v := nI (k + 1)) (lv' := [(4, .int (nI (k + 1))), (0, .ref 43), (1, .ref (90 + i)), (2, .int a), (3, .int b)]) dX10_isWord_46 rfl (nI_1 k) (by decide) rfl ?_
      refine g_goto 15 dX10_isWord_49 (by decide) ?_
      exact ih (k + 1) (by omega)
    · refine g_iconst (v := 0) dX10_isWord_44 rfl ?_
      exact g_iret dX10_isWord_45 rfl rfl ⟨⟨_, rfl, rfl⟩, rfl⟩
theorem v_isWord (i : Nat) (hi : i < 5) (a b : Int32) : zs_Dd' MX10_isWord [.ref 43, .ref (90 + i), .int a, .int b] zs_Rb := by
  intro S
  have h4 := zs_sl4 i hi
  refine zs_C.of (by decide) (Nat.le_of_ble_eq_true rfl) ?_
  show zs_P MX10_isWord 0 [(0, .ref 43), (1, .ref (90 + i)), (2, .int a), (3, .int b)] [] S _
  refine g_iload_n dX10_isWord_0 rfl rfl ?_
  refine g_iload_n dX10_isWord_1 rfl rfl ?_
  refine g_isub dX10_isWord_2 ?_
  refine g_aload_n dX10_isWord_3 rfl rfl ?_
  refine g_callVS hi rfl [.int (b - a)] (v_slen i hi S) dX10_isWord_4 kk_X10_isWord_J0_length_8abf5 ml_RX10_141 mwJ0_length_8abf5 ewJ0_length_8abf5 rfl rfl (Nat.le_of_ble_eq_true rfl) ?_
  rintro _ _ ⟨_, rfl, rfl, rfl⟩
  refine g_ic_eq 12 dX10_isWord_7 (by decide) (fun _ => ?_) (fun _ => ?_)
  · refine g_iconst (v := nI 0) dX10_isWord_12 rfl ?_
    refine g_istore (lv' := [(4, .int (nI 0)), (0, .ref 43), (1, .ref (90 + i)), (2, .int a), (3, .int b)]) dX10_isWord_13 (by decide) rfl ?_
    exact (v_isWord_l i hi a b S (zs_sl.getD i 0) 0 (Nat.zero_add _)).mono (fun _ _ q => ⟨q.1, by rw [q.2]; exact zs_fr.rf⟩)
  · refine g_iconst (v := 0) dX10_isWord_10 rfl ?_
    exact g_iret dX10_isWord_11 rfl rfl ⟨⟨_, rfl, rfl⟩, zs_fr.rf⟩
theorem v_floorMod (x y : Int32) (hy : ¬ y = 0) : zs_Dd' MJ9_floorMod_7cf53 [.int x, .int y] zs_Ri := by
  refine zs_WoF (by decide +kernel) (Nat.le_of_ble_eq_true rfl) ?_
  show zs_W MJ9_floorMod_7cf53 0 [(0, .int x), (1, .int y)] [] zs_Ri
  refine h_iload_n dJ9_floorMod_7cf53_0 rfl rfl ?_
  refine h_iload_n dJ9_floorMod_7cf53_1 rfl rfl ?_
  refine h_irem dJ9_floorMod_7cf53_2 hy (fun r => ?_)
  refine h_istore_n (lv' := [(2, .int r), (0, .int x), (1, .int y)]) dJ9_floorMod_7cf53_3 rfl (by decide) rfl ?_
  refine h_iload_n dJ9_floorMod_7cf53_4 rfl rfl ?_
  refine h_iload_n dJ9_floorMod_7cf53_5 rfl rfl ?_
  refine h_ixor dJ9_floorMod_7cf53_6 (fun _ => ?_)
  have j : zs_W MJ9_floorMod_7cf53 18 [(2, .int r), (0, .int x), (1, .int y)] [] zs_Ri := by
    refine h_iload_n dJ9_floorMod_7cf53_18 rfl rfl ?_
    exact h_iret dJ9_floorMod_7cf53_19 rfl rfl ⟨_, rfl⟩
  refine h_if_ge 18 dJ9_floorMod_7cf53_7 (by decide) (fun _ => j) (fun _ => ?_)
  refine h_iload_n dJ9_floorMod_7cf53_10 rfl rfl ?_
  refine h_if_eq 18 dJ9_floorMod_7cf53_11 (by decide) (fun _ => j) (fun _ => ?_)
  refine h_iload_n dJ9_floorMod_7cf53_14 rfl rfl ?_
  refine h_iload_n dJ9_floorMod_7cf53_15 rfl rfl ?_
  refine h_iadd dJ9_floorMod_7cf53_16 (fun _ => ?_)
  exact h_iret dJ9_floorMod_7cf53_17 rfl rfl ⟨_, rfl⟩
