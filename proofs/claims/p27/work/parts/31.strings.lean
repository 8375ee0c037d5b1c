theorem zs_up_q {f : Nat → Nat → Int32} {g : Nat → Nat → Int64} {a j : Nat} {v : Int32} : ((zs_up f a j v, g) : zs_S).1 a j = v := zs_up_s
theorem zs_up_m {f : Nat → Nat → Int32} {g : Nat → Nat → Int64} {a j b i : Nat} {v : Int32} (h : ¬ (b = a ∧ i = j)) : ((zs_up f a j v, g) : zs_S).1 b i = f b i := zs_up_n h
theorem zs_lc0 {d : Int64} (h : ¬ lg_cmp d 0 ≤ 0) : ¬ d = 0 := fun e => h (by subst e; decide)
theorem zs_1le {y : Int32} (h : nI 1 ≤ y) : ¬ y = 0 := fun e => by subst e; exact absurd h (by decide)
theorem v_scoder (i : Nat) (hi : i < 5) (S : zs_S) : zs_Ci MJ0_coder_7d493 [.ref (90 + i)] S (fun x S2 => x = 0 ∧ S = S2) := by
  refine zs_CF pf_J0_coder_7d493 (Nat.le_of_ble_eq_true rfl) ?_
  show zs_P MJ0_coder_7d493 0 [(0, .ref (90 + i))] [] S _
  refine g_getCS fs_RJ0_38 dJ0_coder_7d493_0 ?_
  refine g_if_eq 13 dJ0_coder_7d493_3 (by decide) (fun z => absurd z (by decide)) (fun _ => ?_)
  refine g_aload_n dJ0_coder_7d493_6 rfl rfl ?_
  refine g_getSc hi fs_RJ0_15 dJ0_coder_7d493_7 ?_
  refine g_goto 14 dJ0_coder_7d493_10 (by decide) ?_
  exact g_iret dJ0_coder_7d493_14 rfl rfl ⟨_, rfl, rfl, rfl⟩
theorem v_slatin (i : Nat) (hi : i < 5) (S : zs_S) : zs_Ci MJ0_isLatin1_aae02 [.ref (90 + i)] S (fun x S2 => x = 1 ∧ S = S2) := by
  refine zs_CF pf_J0_isLatin1_aae02 (Nat.le_of_ble_eq_true rfl) ?_
  show zs_P MJ0_isLatin1_aae02 0 [(0, .ref (90 + i))] [] S _
  refine g_getCS fs_RJ0_38 dJ0_isLatin1_aae02_0 ?_
  refine g_if_eq 17 dJ0_isLatin1_aae02_3 (by decide) (fun z => absurd z (by decide)) (fun _ => ?_)
  refine g_aload_n dJ0_isLatin1_aae02_6 rfl rfl ?_
  refine g_getSc hi fs_RJ0_15 dJ0_isLatin1_aae02_7 ?_
  refine g_if_ne 17 dJ0_isLatin1_aae02_10 (by decide) (fun z => absurd rfl z) (fun _ => ?_)
  refine g_iconst (v := 1) dJ0_isLatin1_aae02_13 rfl ?_
  refine g_goto 18 dJ0_isLatin1_aae02_14 (by decide) ?_
  exact g_iret dJ0_isLatin1_aae02_18 rfl rfl ⟨_, rfl, rfl, rfl⟩
theorem zs_sh0 : ∀ i, i < 5 → nI (zs_sl.getD i 0) >>> ((0 : Int32) &&& 31) = nI (zs_sl.getD i 0) := by decide
theorem v_slen (i : Nat) (hi : i < 5) (S : zs_S) : zs_Ci MJ0_length_8abf5 [.ref (90 + i)] S (fun x S2 => x = nI (zs_sl.getD i 0) ∧ S = S2) := by
  refine zs_CF pf_J0_length_8abf5 (Nat.le_of_ble_eq_true rfl) ?_
  show zs_P MJ0_length_8abf5 0 [(0, .ref (90 + i))] [] S _
  refine g_aload_n dJ0_length_8abf5_0 rfl rfl ?_
  refine g_getSv hi fs_RJ0_9 dJ0_length_8abf5_1 ?_
  refine g_alenS hi dJ0_length_8abf5_4 ?_
  refine g_aload_n dJ0_length_8abf5_5 rfl rfl ?_
  refine g_callVS hi rfl [.int (nI (zs_sl.getD i 0))] (v_scoder i hi S) dJ0_length_8abf5_6 kk_J0_length_8abf5_J0_coder_7d493 ml_RJ0_335 mwJ0_coder_7d493 ewJ0_coder_7d493 rfl rfl (Nat.le_of_ble_eq_true rfl) ?_
  rintro _ _ ⟨_, rfl, rfl, rfl⟩
  refine g_ishr dJ0_length_8abf5_9 ?_
  exact g_iret dJ0_length_8abf5_10 rfl rfl ⟨_, rfl, zs_sh0 i hi, rfl⟩
theorem v_scheck (k n : Nat) (w : Value) (hw : w.category = 1) (hk : k < n) (hn : n < 2 ^ 31) (S : zs_S) : zs_X MJ3_checkIndex_8e157 [.int (nI k), .int (nI n), w] S (some (.int (nI k)), S) := by
  have h : zs_P MJ3_checkIndex_8e157 0 [(0, .int (nI k)), (1, .int (nI n)), (2, w)] [] S (fun v S2 => v = some (.int (nI k)) ∧ S2 = S) := by
    refine g_iload_n dJ3_checkIndex_8e157_0 rfl rfl ?_
    refine g_if_ltN 9 dJ3_checkIndex_8e157_1 (by decide) (by omega) ?_
    refine g_iload_n dJ3_checkIndex_8e157_4 rfl rfl ?_
    refine g_iload_n dJ3_checkIndex_8e157_5 rfl rfl ?_
    refine g_ic_ltN 16 dJ3_checkIndex_8e157_6 (by decide) (by omega) (by omega) (fun _ => ?_) (fun z => absurd z (by omega))
    refine g_iload_n dJ3_checkIndex_8e157_16 rfl rfl ?_
    exact g_iret dJ3_checkIndex_8e157_17 rfl rfl ⟨rfl, rfl⟩
  obtain ⟨⟨v, S2⟩, g, h1, h2⟩ := h
  obtain rfl : v = _ := h1
  obtain rfl : S2 = _ := h2
  exact zs_XF (by decide +kernel) (by simp only [lg_sl, List.flatMap_cons, List.flatMap_nil, List.length_append, hw]; exact Nat.le_of_ble_eq_true rfl) (by
    have e : lv_args 0 [.int (nI k), .int (nI n), w] = [(0, .int (nI k)), (1, .int (nI n)), (2, w)] := by simp [lv_args, Value.category]
    rw [e]; exact g)
theorem v_scheck1 (k n : Nat) (hk : k < n) (hn : n < 2 ^ 31) (S : zs_S) : zs_Cv MJ0_checkIndex_df160 [.int (nI k), .int (nI n)] S (fun S2 => S = S2) := by
  refine zs_CF pf_J0_checkIndex_df160 (Nat.le_of_ble_eq_true rfl) ?_
  show zs_P MJ0_checkIndex_df160 0 [(0, .int (nI k)), (1, .int (nI n))] [] S _
  refine g_iload_n dJ0_checkIndex_df160_0 rfl rfl ?_
  refine g_iload_n dJ0_checkIndex_df160_1 rfl rfl ?_
  have key : ∀ w : Value, w.category = 1 → zs_G MJ0_checkIndex_df160 5 [(0, .int (nI k)), (1, .int (nI n))] [w, .int (nI n), .int (nI k)] S (none, S) := by
    intro w hw
    have h : zs_P MJ0_checkIndex_df160 5 [(0, .int (nI k)), (1, .int (nI n))] [w, .int (nI n), .int (nI k)] S (fun v S2 => v = none ∧ S2 = S) := by
      refine g_callS [.int (nI k), .int (nI n), w] [] (Q1 := fun v S2 => v = some (.int (nI k)) ∧ S = S2) ⟨_, v_scheck k n w hw hk hn S, rfl, rfl⟩ dJ0_checkIndex_df160_5 kk_J0_checkIndex_df160_J3_checkIndex_8e157 ml_RJ0_1059 swJ3_checkIndex_8e157 rfl rfl (Nat.le_of_ble_eq_true rfl) ?_
      rintro _ _ ⟨rfl, rfl⟩
      refine g_pop dJ0_checkIndex_df160_8 rfl ?_
      exact g_ret dJ0_checkIndex_df160_9 rfl ⟨rfl, rfl⟩
    obtain ⟨⟨v, S2⟩, g, h1, h2⟩ := h
    obtain rfl : v = _ := h1
    obtain rfl : S2 = _ := h2
    exact g
  exact ⟨(none, S), g_getFM fs_RJ0_1053 dJ0_checkIndex_df160_2 (key _ rfl) (key _ rfl), rfl, rfl⟩
theorem v_snar (x : Int32) : narrow .char (.int ((x &&& 255).toUInt32 % 65536).toInt32) = .int ((x &&& 255).toUInt32 % 65536).toInt32 := by
  have h : ∀ y : Int32, ((((y.toUInt32 % 65536).toInt32).toUInt32 % 65536).toInt32) = (y.toUInt32 % 65536).toInt32 := by
    intro y
    congr 1
    apply UInt32.toNat_inj.mp
    simp
  exact congrArg Value.int (h _)
theorem v_schar (i k : Nat) (hi : i < 5) (hk : k < zs_sl.getD i 0) (hn : zs_sl.getD i 0 < 2 ^ 31) (S : zs_S) : zs_Ci MJ1_charAt_3b067 [.ref (95 + i), .int (nI k)] S (fun x S2 => (narrow .char (.int x) = .int x ∧ x = (((zs_sb.getD i []).getD k 0 &&& 255).toUInt32 % 65536).toInt32) ∧ S = S2) := by
  refine zs_CF pf_J1_charAt_3b067 (Nat.le_of_ble_eq_true rfl) ?_
  show zs_P MJ1_charAt_3b067 0 [(0, .ref (95 + i)), (1, .int (nI k))] [] S _
  refine g_iload_n dJ1_charAt_3b067_0 rfl rfl ?_
  refine g_aload_n dJ1_charAt_3b067_1 rfl rfl ?_
  refine g_alenS hi dJ1_charAt_3b067_2 ?_
  refine g_callS [.int (nI k), .int (nI (zs_sl.getD i 0))] [] (v_scheck1 k _ hk hn S) dJ1_charAt_3b067_3 kk_J1_charAt_3b067_J0_checkIndex_df160 ml_RJ1_9 swJ0_checkIndex_df160 rfl rfl (Nat.le_of_ble_eq_true rfl) ?_
  rintro _ _ ⟨rfl, rfl⟩
  refine g_aload_n dJ1_charAt_3b067_6 rfl rfl ?_
  refine g_iload_n dJ1_charAt_3b067_7 rfl rfl ?_
  refine g_baldS hi (vp_in_nI hk (by omega)) dJ1_charAt_3b067_8 ?_
  refine g_sipush (v := 255) dJ1_charAt_3b067_9 rfl ?_
  refine g_iand dJ1_charAt_3b067_12 ?_
  refine g_i2c dJ1_charAt_3b067_13 rfl ?_
  rw [nI_clamp (by omega)]
  exact g_iret dJ1_charAt_3b067_14 rfl (v_snar _) ⟨_, rfl, ⟨v_snar _, rfl⟩, rfl⟩
theorem v_scharAt (i k : Nat) (hi : i < 5) (hk : k < zs_sl.getD i 0) (hn : zs_sl.getD i 0 < 2 ^ 31) (S : zs_S) : zs_Ci MJ0_charAt_5068e [.ref (90 + i), .int (nI k)] S (fun x S2 => x = (((zs_sb.getD i []).getD k 0 &&& 255).toUInt32 % 65536).toInt32 ∧ S = S2) := by
  refine zs_CF pf_J0_charAt_5068e (Nat.le_of_ble_eq_true rfl) ?_
  show zs_P MJ0_charAt_5068e 0 [(0, .ref (90 + i)), (1, .int (nI k))] [] S _
  refine g_aload_n dJ0_charAt_5068e_0 rfl rfl ?_
  refine g_callVS hi rfl [] (v_slatin i hi S) dJ0_charAt_5068e_1 kk_J0_charAt_5068e_J0_isLatin1_aae02 ml_RJ0_492 mwJ0_isLatin1_aae02 ewJ0_isLatin1_aae02 rfl rfl (Nat.le_of_ble_eq_true rfl) ?_
  rintro _ _ ⟨_, rfl, rfl, rfl⟩
  refine g_if_eq 16 dJ0_charAt_5068e_4 (by decide) (fun z => absurd z (by decide)) (fun _ => ?_)
  refine g_aload_n dJ0_charAt_5068e_7 rfl rfl ?_
  refine g_getSv hi fs_RJ0_9 dJ0_charAt_5068e_8 ?_
  refine g_iload_n dJ0_charAt_5068e_11 rfl rfl ?_
  refine g_callS [.ref (95 + i), .int (nI k)] [] (v_schar i k hi hk hn S) dJ0_charAt_5068e_12 kk_J0_charAt_5068e_J1_charAt_3b067 ml_RJ0_495 swJ1_charAt_3b067 rfl rfl (Nat.le_of_ble_eq_true rfl) ?_
  rintro _ _ ⟨x, rfl, ⟨hx, hv⟩, rfl⟩
  exact g_iret dJ0_charAt_5068e_15 rfl hx ⟨_, rfl, hv, rfl⟩
theorem zs_sl4 : ∀ i, i < 5 → zs_sl.getD i 0 ≤ 4 := by decide
