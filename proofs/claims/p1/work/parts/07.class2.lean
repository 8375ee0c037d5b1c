theorem zs_pu_o {S : zs_S} {a b n j : Nat} {i v : Int32} (h : b ≠ a) : (zs_pu S a n i v).1 b j = S.1 b j := by
  unfold zs_pu
  split
  · exact zs_up_n (fun q => h q.1)
  · rfl
theorem zs_fi_o {S : zs_S} {a b n j : Nat} {v : Int32} (h : b ≠ a) : (zs_fi S a n v).1 b j = S.1 b j := by
  simp only [zs_fi]
  rw [if_neg (fun q => h q.1)]
theorem zs_fi_i {S : zs_S} {a n j : Nat} {v : Int32} (h : j < n) : (zs_fi S a n v).1 a j = v := if_pos ⟨rfl, h⟩
theorem zs_cp_o {S : zs_S} {a b c n j : Nat} (h : c ≠ b) : (zs_cp S a b n).1 c j = S.1 c j := by
  simp only [zs_cp]
  rw [if_neg (fun q => h q.1)]
theorem zs_cp_i {S : zs_S} {a b n j : Nat} (h : j < n) : (zs_cp S a b n).1 b j = S.1 a j := if_pos ⟨rfl, h⟩
def zs_Ar (a n : Nat) : Prop := a < zs_n ∧ zs_sh a = .inl (0, n)
def zs_Mo (a : Nat) : Prop := a < zs_n ∧ zs_sh a = .inr (1, [0, 0, 0, a + 3, a + 4, a + 5]) ∧ zs_Ar (a + 1) 12 ∧ zs_Ar (a + 2) 5 ∧ zs_Ar (a + 3) 5
def zs_Pa (a : Nat) : Prop := a < zs_n ∧ zs_sh a = .inr (2, [a + 3, 0]) ∧ zs_Ar (a + 1) 200
def zs_Ro (a : Nat) : Prop := a < zs_n ∧ zs_sh a = .inr (3, [0, a + 3, 0]) ∧ zs_Ar (a + 1) 24
def zs_Sw (a : Nat) : Prop := a < zs_n ∧ zs_sh a = .inr (4, [0, 0, 0, a + 3, a + 4, a + 8, a + 10, a + 12, a + 14]) ∧ zs_Ar (a + 1) 5 ∧ zs_Mo (a + 2) ∧ zs_Pa (a + 6) ∧ zs_Ro (a + 8) ∧ zs_Ro (a + 10) ∧ zs_Ro (a + 12)
theorem zs_ar2 : zs_Ar 2 5 := ⟨by decide, rfl⟩
theorem zs_ar4 : zs_Ar 4 12 := ⟨by decide, rfl⟩
theorem zs_ar5 : zs_Ar 5 5 := ⟨by decide, rfl⟩
theorem zs_ar6 : zs_Ar 6 5 := ⟨by decide, rfl⟩
theorem zs_ar8 : zs_Ar 8 200 := ⟨by decide, rfl⟩
theorem zs_ar10 : zs_Ar 10 24 := ⟨by decide, rfl⟩
theorem zs_ar12 : zs_Ar 12 24 := ⟨by decide, rfl⟩
theorem zs_ar14 : zs_Ar 14 24 := ⟨by decide, rfl⟩
theorem zs_ar16 : zs_Ar 16 5 := ⟨by decide, rfl⟩
theorem zs_ar18 : zs_Ar 18 12 := ⟨by decide, rfl⟩
theorem zs_ar19 : zs_Ar 19 5 := ⟨by decide, rfl⟩
theorem zs_ar20 : zs_Ar 20 5 := ⟨by decide, rfl⟩
theorem zs_ar22 : zs_Ar 22 200 := ⟨by decide, rfl⟩
theorem zs_ar24 : zs_Ar 24 24 := ⟨by decide, rfl⟩
theorem zs_ar26 : zs_Ar 26 24 := ⟨by decide, rfl⟩
theorem zs_ar28 : zs_Ar 28 24 := ⟨by decide, rfl⟩
theorem zs_ar30 : zs_Ar 30 5 := ⟨by decide, rfl⟩
theorem zs_ar32 : zs_Ar 32 12 := ⟨by decide, rfl⟩
theorem zs_ar33 : zs_Ar 33 5 := ⟨by decide, rfl⟩
theorem zs_ar34 : zs_Ar 34 5 := ⟨by decide, rfl⟩
theorem zs_ar36 : zs_Ar 36 200 := ⟨by decide, rfl⟩
theorem zs_ar38 : zs_Ar 38 24 := ⟨by decide, rfl⟩
theorem zs_ar40 : zs_Ar 40 24 := ⟨by decide, rfl⟩
theorem zs_ar42 : zs_Ar 42 24 := ⟨by decide, rfl⟩
theorem zs_ar44 : zs_Ar 44 150 := ⟨by decide, rfl⟩
theorem zs_ar46 : zs_Ar 46 5 := ⟨by decide, rfl⟩
theorem zs_ar48 : zs_Ar 48 12 := ⟨by decide, rfl⟩
theorem zs_ar49 : zs_Ar 49 5 := ⟨by decide, rfl⟩
theorem zs_ar50 : zs_Ar 50 5 := ⟨by decide, rfl⟩
theorem zs_ar52 : zs_Ar 52 200 := ⟨by decide, rfl⟩
theorem zs_ar54 : zs_Ar 54 24 := ⟨by decide, rfl⟩
theorem zs_ar56 : zs_Ar 56 24 := ⟨by decide, rfl⟩
theorem zs_ar58 : zs_Ar 58 24 := ⟨by decide, rfl⟩
theorem zs_ar59 : zs_Ar 59 151 := ⟨by decide, rfl⟩
theorem zs_ar60 : zs_Ar 60 151 := ⟨by decide, rfl⟩
theorem zs_ar61 : zs_Ar 61 151 := ⟨by decide, rfl⟩
theorem zs_ar62 : zs_Ar 62 151 := ⟨by decide, rfl⟩
theorem zs_ar64 : zs_Ar 64 12 := ⟨by decide, rfl⟩
theorem zs_ar65 : zs_Ar 65 5 := ⟨by decide, rfl⟩
theorem zs_ar66 : zs_Ar 66 5 := ⟨by decide, rfl⟩
theorem zs_ar68 : zs_Ar 68 120 := ⟨by decide, rfl⟩
theorem zs_ar69 : zs_Ar 69 12 := ⟨by decide, rfl⟩
theorem zs_ar71 : zs_Ar 71 372 := ⟨by decide, rfl⟩
theorem zs_ar72 : zs_Ar 72 144 := ⟨by decide, rfl⟩
theorem zs_ar74 : zs_Ar 74 32 := ⟨by decide, rfl⟩
theorem zs_ar76 : zs_Ar 76 10 := ⟨by decide, rfl⟩
theorem zs_ar77 : zs_Ar 77 10 := ⟨by decide, rfl⟩
theorem zs_ar78 : zs_Ar 78 8 := ⟨by decide, rfl⟩
theorem zs_ar79 : zs_Ar 79 8 := ⟨by decide, rfl⟩
theorem zs_ar81 : zs_Ar 81 700 := ⟨by decide, rfl⟩
theorem zs_ar82 : zs_Ar 82 198 := ⟨by decide, rfl⟩
theorem zs_ar83 : zs_Ar 83 2 := ⟨by decide, rfl⟩
theorem zs_ar85 : zs_Ar 85 3 := ⟨by decide, rfl⟩
theorem zs_ar86 : zs_Ar 86 120 := ⟨by decide, rfl⟩
theorem zs_ar87 : zs_Ar 87 10 := ⟨by decide, rfl⟩
theorem zs_ar88 : zs_Ar 88 16 := ⟨by decide, rfl⟩
theorem zs_ar89 : zs_Ar 89 16 := ⟨by decide, rfl⟩
theorem zs_Mo3 : zs_Mo 3 := ⟨by decide, (rfl : zs_sh 3 = .inr (1, [0, 0, 0, 6, 7, 8])), zs_ar4, zs_ar5, zs_ar6⟩
theorem zs_Mo17 : zs_Mo 17 := ⟨by decide, (rfl : zs_sh 17 = .inr (1, [0, 0, 0, 20, 21, 22])), zs_ar18, zs_ar19, zs_ar20⟩
theorem zs_Mo31 : zs_Mo 31 := ⟨by decide, (rfl : zs_sh 31 = .inr (1, [0, 0, 0, 34, 35, 36])), zs_ar32, zs_ar33, zs_ar34⟩
theorem zs_Mo47 : zs_Mo 47 := ⟨by decide, (rfl : zs_sh 47 = .inr (1, [0, 0, 0, 50, 51, 52])), zs_ar48, zs_ar49, zs_ar50⟩
theorem zs_Mo63 : zs_Mo 63 := ⟨by decide, (rfl : zs_sh 63 = .inr (1, [0, 0, 0, 66, 67, 68])), zs_ar64, zs_ar65, zs_ar66⟩
theorem zs_Pa7 : zs_Pa 7 := ⟨by decide, (rfl : zs_sh 7 = .inr (2, [10, 0])), zs_ar8⟩
theorem zs_Pa21 : zs_Pa 21 := ⟨by decide, (rfl : zs_sh 21 = .inr (2, [24, 0])), zs_ar22⟩
theorem zs_Pa35 : zs_Pa 35 := ⟨by decide, (rfl : zs_sh 35 = .inr (2, [38, 0])), zs_ar36⟩
theorem zs_Pa51 : zs_Pa 51 := ⟨by decide, (rfl : zs_sh 51 = .inr (2, [54, 0])), zs_ar52⟩
theorem zs_Ro9 : zs_Ro 9 := ⟨by decide, (rfl : zs_sh 9 = .inr (3, [0, 12, 0])), zs_ar10⟩
theorem zs_Ro11 : zs_Ro 11 := ⟨by decide, (rfl : zs_sh 11 = .inr (3, [0, 14, 0])), zs_ar12⟩
theorem zs_Ro13 : zs_Ro 13 := ⟨by decide, (rfl : zs_sh 13 = .inr (3, [0, 16, 0])), zs_ar14⟩
theorem zs_Sw1 : zs_Sw 1 := ⟨by decide, (rfl : zs_sh 1 = .inr (4, [0, 0, 0, 4, 5, 9, 11, 13, 15])), zs_ar2, zs_Mo3, zs_Pa7, zs_Ro9, zs_Ro11, zs_Ro13⟩
theorem zs_Ro23 : zs_Ro 23 := ⟨by decide, (rfl : zs_sh 23 = .inr (3, [0, 26, 0])), zs_ar24⟩
theorem zs_Ro25 : zs_Ro 25 := ⟨by decide, (rfl : zs_sh 25 = .inr (3, [0, 28, 0])), zs_ar26⟩
theorem zs_Ro27 : zs_Ro 27 := ⟨by decide, (rfl : zs_sh 27 = .inr (3, [0, 30, 0])), zs_ar28⟩
theorem zs_Sw15 : zs_Sw 15 := ⟨by decide, (rfl : zs_sh 15 = .inr (4, [0, 0, 0, 18, 19, 23, 25, 27, 29])), zs_ar16, zs_Mo17, zs_Pa21, zs_Ro23, zs_Ro25, zs_Ro27⟩
theorem zs_Ro37 : zs_Ro 37 := ⟨by decide, (rfl : zs_sh 37 = .inr (3, [0, 40, 0])), zs_ar38⟩
theorem zs_Ro39 : zs_Ro 39 := ⟨by decide, (rfl : zs_sh 39 = .inr (3, [0, 42, 0])), zs_ar40⟩
theorem zs_Ro41 : zs_Ro 41 := ⟨by decide, (rfl : zs_sh 41 = .inr (3, [0, 44, 0])), zs_ar42⟩
theorem zs_Sw29 : zs_Sw 29 := ⟨by decide, (rfl : zs_sh 29 = .inr (4, [0, 0, 0, 32, 33, 37, 39, 41, 43])), zs_ar30, zs_Mo31, zs_Pa35, zs_Ro37, zs_Ro39, zs_Ro41⟩
theorem zs_Ro53 : zs_Ro 53 := ⟨by decide, (rfl : zs_sh 53 = .inr (3, [0, 56, 0])), zs_ar54⟩
theorem zs_Ro55 : zs_Ro 55 := ⟨by decide, (rfl : zs_sh 55 = .inr (3, [0, 58, 0])), zs_ar56⟩
theorem zs_Ro57 : zs_Ro 57 := ⟨by decide, (rfl : zs_sh 57 = .inr (3, [0, 60, 0])), zs_ar58⟩
theorem zs_Sw45 : zs_Sw 45 := ⟨by decide, (rfl : zs_sh 45 = .inr (4, [0, 0, 0, 48, 49, 53, 55, 57, 59])), zs_ar46, zs_Mo47, zs_Pa51, zs_Ro53, zs_Ro55, zs_Ro57⟩
set_option maxRecDepth 100000 in
theorem m_begin (S : zs_S) (a : Nat) (v : Int32) (hm : zs_Mo a) : zs_Cv MX3_begin [.ref a, .int v] S (fun S2 => zs_ch a (a + 4) S S2) := by
  refine zs_C.of (by decide) (Nat.le_of_ble_eq_true rfl) ?_
  show zs_P MX3_begin 0 [(0, .ref a), (1, .int v)] [] S _
  refine g_aload_n dX3_begin_0 rfl rfl ?_
  refine g_iconst (v := (nI 0)) dX3_begin_1 rfl ?_
  refine g_putI 0 (C := RX3) (T := TX3) (N := 6) (ty := .int) dX3_begin_2 hm.1 hm.2.1 rfl (by decide) rfl fl_RX3_25 rfl (by decide +kernel) ⟨rfl, rfl⟩ ?_
  refine g_aload_n dX3_begin_5 rfl rfl ?_
  refine g_iconst (v := (nI 0)) dX3_begin_6 rfl ?_
  refine g_putI 1 (C := RX3) (T := TX3) (N := 6) (ty := .int) dX3_begin_7 hm.1 hm.2.1 rfl (by decide) rfl fl_RX3_28 rfl (by decide +kernel) ⟨rfl, rfl⟩ ?_
  refine g_aload_n dX3_begin_10 rfl rfl ?_
  refine g_iload_n dX3_begin_11 rfl rfl ?_
  refine g_putI 2 (C := RX3) (T := TX3) (N := 6) (ty := .int) dX3_begin_12 hm.1 hm.2.1 rfl (by decide) rfl fl_RX3_9 rfl (by decide +kernel) ⟨rfl, rfl⟩ ?_
  refine g_aload_n dX3_begin_15 rfl rfl ?_
  refine g_getR 3 (a + 1) (C := RX3) (T := TX3) (N := 6) dX3_begin_16 hm.1 hm.2.1 rfl (by decide) rfl fl_RX3_15 ?_
  refine g_iconst (v := (nI 0)) dX3_begin_19 rfl ?_
  refine g_callN [.ref (a + 1), .int (nI 0)] [] (x_fill (zs_up (zs_up (zs_up S.1 a 0 (nI 0), S.2).1 a 1 (nI 0), (zs_up S.1 a 0 (nI 0), S.2).2).1 a 2 v, (zs_up (zs_up S.1 a 0 (nI 0), S.2).1 a 1 (nI 0), (zs_up S.1 a 0 (nI 0), S.2).2).2) (a + 1) 12 (nI 0) hm.2.2.1.1 hm.2.2.1.2 (by decide)) dX3_begin_20 kk_X3_begin_X11_fill nl_RX3_31 swX11_fill rfl rfl (Nat.le_of_ble_eq_true rfl) ?_
  rintro _ _ ⟨rfl, rfl⟩
  refine g_aload_n dX3_begin_23 rfl rfl ?_
  refine g_getR 4 (a + 2) (C := RX3) (T := TX3) (N := 6) dX3_begin_24 hm.1 hm.2.1 rfl (by decide) rfl fl_RX3_19 ?_
  refine g_iconst (v := (nI 0)) dX3_begin_27 rfl ?_
  refine g_callN [.ref (a + 2), .int (nI 0)] [] (x_fill (zs_fi (zs_up (zs_up (zs_up S.1 a 0 (nI 0), S.2).1 a 1 (nI 0), (zs_up S.1 a 0 (nI 0), S.2).2).1 a 2 v, (zs_up (zs_up S.1 a 0 (nI 0), S.2).1 a 1 (nI 0), (zs_up S.1 a 0 (nI 0), S.2).2).2) (a + 1) 12 (nI 0)) (a + 2) 5 (nI 0) hm.2.2.2.1.1 hm.2.2.2.1.2 (by decide)) dX3_begin_28 kk_X3_begin_X11_fill nl_RX3_31 swX11_fill rfl rfl (Nat.le_of_ble_eq_true rfl) ?_
  rintro _ _ ⟨rfl, rfl⟩
  refine g_aload_n dX3_begin_31 rfl rfl ?_
  refine g_getR 5 (a + 3) (C := RX3) (T := TX3) (N := 6) dX3_begin_32 hm.1 hm.2.1 rfl (by decide) rfl fl_RX3_22 ?_
  refine g_iconst (v := (nI 0)) dX3_begin_35 rfl ?_
  refine g_callN [.ref (a + 3), .int (nI 0)] [] (x_fill (zs_fi (zs_fi (zs_up (zs_up (zs_up S.1 a 0 (nI 0), S.2).1 a 1 (nI 0), (zs_up S.1 a 0 (nI 0), S.2).2).1 a 2 v, (zs_up (zs_up S.1 a 0 (nI 0), S.2).1 a 1 (nI 0), (zs_up S.1 a 0 (nI 0), S.2).2).2) (a + 1) 12 (nI 0)) (a + 2) 5 (nI 0)) (a + 3) 5 (nI 0) hm.2.2.2.2.1 hm.2.2.2.2.2 (by decide)) dX3_begin_36 kk_X3_begin_X11_fill nl_RX3_31 swX11_fill rfl rfl (Nat.le_of_ble_eq_true rfl) ?_
  rintro _ _ ⟨rfl, rfl⟩
  refine g_ret dX3_begin_39 rfl ?_
  exact ⟨rfl, ((((((zs_ch.rf.up (by omega) (by omega)).up (by omega) (by omega)).up (by omega) (by omega)).fi (by omega) (by omega)).fi (by omega) (by omega)).fi (by omega) (by omega))⟩
set_option maxRecDepth 100000 in
theorem m_become (S : zs_S) (a b : Nat) (hm : zs_Mo a) (hb : zs_Mo b) (hab : a + 4 ≤ b ∨ b + 4 ≤ a) : zs_Cv MX3_become [.ref a, .ref b] S (fun S2 => zs_ch a (a + 4) S S2 ∧ S2.1 a 0 = S.1 b 0 ∧ S2.1 a 1 = S.1 b 1 ∧ (∀ j, j < 12 → S2.1 (a + 1) j = S.1 (b + 1) j) ∧ (∀ j, j < 5 → S2.1 (a + 2) j = S.1 (b + 2) j)) := by
  refine zs_C.of (by decide) (Nat.le_of_ble_eq_true rfl) ?_
  show zs_P MX3_become 0 [(0, .ref a), (1, .ref b)] [] S _
  refine g_aload_n dX3_become_0 rfl rfl ?_
  refine g_aload_n dX3_become_1 rfl rfl ?_
  refine g_getI 0 (C := RX3) (T := TX3) (N := 6) dX3_become_2 hb.1 hb.2.1 rfl (by decide) rfl fl_RX3_25 ?_
  refine g_putI 0 (C := RX3) (T := TX3) (N := 6) (ty := .int) dX3_become_5 hm.1 hm.2.1 rfl (by decide) rfl fl_RX3_25 rfl (by decide +kernel) ⟨rfl, rfl⟩ ?_
  refine g_aload_n dX3_become_8 rfl rfl ?_
  refine g_aload_n dX3_become_9 rfl rfl ?_
  refine g_getI 1 (C := RX3) (T := TX3) (N := 6) dX3_become_10 hb.1 hb.2.1 rfl (by decide) rfl fl_RX3_28 ?_
  refine g_putI 1 (C := RX3) (T := TX3) (N := 6) (ty := .int) dX3_become_13 hm.1 hm.2.1 rfl (by decide) rfl fl_RX3_28 rfl (by decide +kernel) ⟨rfl, rfl⟩ ?_
  refine g_aload_n dX3_become_16 rfl rfl ?_
  refine g_aload_n dX3_become_17 rfl rfl ?_
  refine g_getI 2 (C := RX3) (T := TX3) (N := 6) dX3_become_18 hb.1 hb.2.1 rfl (by decide) rfl fl_RX3_9 ?_
  refine g_putI 2 (C := RX3) (T := TX3) (N := 6) (ty := .int) dX3_become_21 hm.1 hm.2.1 rfl (by decide) rfl fl_RX3_9 rfl (by decide +kernel) ⟨rfl, rfl⟩ ?_
  refine g_aload_n dX3_become_24 rfl rfl ?_
  refine g_getR 3 (b + 1) (C := RX3) (T := TX3) (N := 6) dX3_become_25 hb.1 hb.2.1 rfl (by decide) rfl fl_RX3_15 ?_
  refine g_aload_n dX3_become_28 rfl rfl ?_
  refine g_getR 3 (a + 1) (C := RX3) (T := TX3) (N := 6) dX3_become_29 hm.1 hm.2.1 rfl (by decide) rfl fl_RX3_15 ?_
  refine g_callN [.ref (b + 1), .ref (a + 1)] [] (x_copyRow (zs_up (zs_up (zs_up S.1 a 0 (S.1 b 0), S.2).1 a 1 ((zs_up S.1 a 0 (S.1 b 0), S.2).1 b 1), (zs_up S.1 a 0 (S.1 b 0), S.2).2).1 a 2 ((zs_up (zs_up S.1 a 0 (S.1 b 0), S.2).1 a 1 ((zs_up S.1 a 0 (S.1 b 0), S.2).1 b 1), (zs_up S.1 a 0 (S.1 b 0), S.2).2).1 b 2), (zs_up (zs_up S.1 a 0 (S.1 b 0), S.2).1 a 1 ((zs_up S.1 a 0 (S.1 b 0), S.2).1 b 1), (zs_up S.1 a 0 (S.1 b 0), S.2).2).2) (b + 1) (a + 1) 12 hb.2.2.1.1 hb.2.2.1.2 hm.2.2.1.1 hm.2.2.1.2 (by omega) (by decide)) dX3_become_32 kk_X3_become_X11_copyRow nl_RX3_35 swX11_copyRow rfl rfl (Nat.le_of_ble_eq_true rfl) ?_
  rintro _ _ ⟨rfl, rfl⟩
  refine g_aload_n dX3_become_35 rfl rfl ?_
  refine g_getR 4 (b + 2) (C := RX3) (T := TX3) (N := 6) dX3_become_36 hb.1 hb.2.1 rfl (by decide) rfl fl_RX3_19 ?_
  refine g_aload_n dX3_become_39 rfl rfl ?_
  refine g_getR 4 (a + 2) (C := RX3) (T := TX3) (N := 6) dX3_become_40 hm.1 hm.2.1 rfl (by decide) rfl fl_RX3_19 ?_
  refine g_callN [.ref (b + 2), .ref (a + 2)] [] (x_copyRow (zs_cp (zs_up (zs_up (zs_up S.1 a 0 (S.1 b 0), S.2).1 a 1 ((zs_up S.1 a 0 (S.1 b 0), S.2).1 b 1), (zs_up S.1 a 0 (S.1 b 0), S.2).2).1 a 2 ((zs_up (zs_up S.1 a 0 (S.1 b 0), S.2).1 a 1 ((zs_up S.1 a 0 (S.1 b 0), S.2).1 b 1), (zs_up S.1 a 0 (S.1 b 0), S.2).2).1 b 2), (zs_up (zs_up S.1 a 0 (S.1 b 0), S.2).1 a 1 ((zs_up S.1 a 0 (S.1 b 0), S.2).1 b 1), (zs_up S.1 a 0 (S.1 b 0), S.2).2).2) (b + 1) (a + 1) 12) (b + 2) (a + 2) 5 hb.2.2.2.1.1 hb.2.2.2.1.2 hm.2.2.2.1.1 hm.2.2.2.1.2 (by omega) (by decide)) dX3_become_43 kk_X3_become_X11_copyRow nl_RX3_35 swX11_copyRow rfl rfl (Nat.le_of_ble_eq_true rfl) ?_
  rintro _ _ ⟨rfl, rfl⟩
  refine g_aload_n dX3_become_46 rfl rfl ?_
  refine g_getR 5 (b + 3) (C := RX3) (T := TX3) (N := 6) dX3_become_47 hb.1 hb.2.1 rfl (by decide) rfl fl_RX3_22 ?_
  refine g_aload_n dX3_become_50 rfl rfl ?_
  refine g_getR 5 (a + 3) (C := RX3) (T := TX3) (N := 6) dX3_become_51 hm.1 hm.2.1 rfl (by decide) rfl fl_RX3_22 ?_
  refine g_callN [.ref (b + 3), .ref (a + 3)] [] (x_copyRow (zs_cp (zs_cp (zs_up (zs_up (zs_up S.1 a 0 (S.1 b 0), S.2).1 a 1 ((zs_up S.1 a 0 (S.1 b 0), S.2).1 b 1), (zs_up S.1 a 0 (S.1 b 0), S.2).2).1 a 2 ((zs_up (zs_up S.1 a 0 (S.1 b 0), S.2).1 a 1 ((zs_up S.1 a 0 (S.1 b 0), S.2).1 b 1), (zs_up S.1 a 0 (S.1 b 0), S.2).2).1 b 2), (zs_up (zs_up S.1 a 0 (S.1 b 0), S.2).1 a 1 ((zs_up S.1 a 0 (S.1 b 0), S.2).1 b 1), (zs_up S.1 a 0 (S.1 b 0), S.2).2).2) (b + 1) (a + 1) 12) (b + 2) (a + 2) 5) (b + 3) (a + 3) 5 hb.2.2.2.2.1 hb.2.2.2.2.2 hm.2.2.2.2.1 hm.2.2.2.2.2 (by omega) (by decide)) dX3_become_54 kk_X3_become_X11_copyRow nl_RX3_35 swX11_copyRow rfl rfl (Nat.le_of_ble_eq_true rfl) ?_
  rintro _ _ ⟨rfl, rfl⟩
  refine g_ret dX3_become_57 rfl ?_
  exact ⟨rfl, ((((((zs_ch.rf.up (by omega) (by omega)).up (by omega) (by omega)).up (by omega) (by omega)).cp (by omega) (by omega)).cp (by omega) (by omega)).cp (by omega) (by omega)), ((zs_cp_o (by omega)).trans ((zs_cp_o (by omega)).trans ((zs_cp_o (by omega)).trans ((zs_up_n (by omega)).trans ((zs_up_n (by omega)).trans zs_up_s))))), ((zs_cp_o (by omega)).trans ((zs_cp_o (by omega)).trans ((zs_cp_o (by omega)).trans ((zs_up_n (by omega)).trans (zs_up_s.trans (zs_up_n (by omega))))))), fun j hj => ((zs_cp_o (by omega)).trans ((zs_cp_o (by omega)).trans ((zs_cp_i hj).trans ((zs_up_n (by omega)).trans ((zs_up_n (by omega)).trans (zs_up_n (by omega))))))), fun j hj => ((zs_cp_o (by omega)).trans ((zs_cp_i hj).trans ((zs_cp_o (by omega)).trans ((zs_up_n (by omega)).trans ((zs_up_n (by omega)).trans (zs_up_n (by omega)))))))⟩
set_option maxRecDepth 100000 in
theorem p_empty (S : zs_S) (a : Nat) (hp : zs_Pa a) : zs_Cv MX4_empty [.ref a] S (fun S2 => zs_ch a (a + 2) S S2) := by
  refine zs_C.of (by decide) (Nat.le_of_ble_eq_true rfl) ?_
  show zs_P MX4_empty 0 [(0, .ref a)] [] S _
  refine g_aload_n dX4_empty_0 rfl rfl ?_
  refine g_iconst (v := (nI 0)) dX4_empty_1 rfl ?_
  refine g_putI 1 (C := RX4) (T := TX4) (N := 2) (ty := .int) dX4_empty_2 hp.1 hp.2.1 rfl (by decide) rfl fl_RX4_17 rfl (by decide +kernel) ⟨rfl, rfl⟩ ?_
  refine g_ret dX4_empty_5 rfl ?_
  exact ⟨rfl, (zs_ch.rf.up (by omega) (by omega))⟩
set_option maxRecDepth 100000 in
theorem m_write_l2 (a b : Nat) (p : Int32) (hm : zs_Mo a) (hb : zs_Ar b 200) (S0 : zs_S) (Q : Option Value → zs_S → Prop) (x : Int32) (hk : ∀ S, zs_ch b (b + 1) S0 S → Q none S) : ∀ (d i : Nat), i + d = 5 → ∀ S, zs_ch b (b + 1) S0 S → zs_P MX3_writeTo 74 [(4, .int (nI i)), (3, .int x), (0, .ref a), (1, .ref b), (2, .int p)] [] S Q := by
  intro d
  induction d with
  | zero =>
    intro i hi S hc
    obtain rfl : i = 5 := by omega
    refine g_iload dX3_writeTo_74 rfl ?_
    refine g_iconst (v := (nI 5)) dX3_writeTo_76 rfl ?_
    refine g_ic_geN 122 dX3_writeTo_77 (by decide) (by omega) (by omega) (fun _ => ?_) (fun z => absurd z (by omega))
    refine g_ret dX3_writeTo_122 rfl ?_
    exact hk S hc
  | succ d ih =>
    intro i hi S hc
    refine g_iload dX3_writeTo_74 rfl ?_
    refine g_iconst (v := (nI 5)) dX3_writeTo_76 rfl ?_
    refine g_ic_geN 122 dX3_writeTo_77 (by decide) (by omega) (by omega) (fun z => absurd z (by omega)) (fun _ => ?_)
    refine g_aload_n dX3_writeTo_80 rfl rfl ?_
    refine g_iload_n dX3_writeTo_81 rfl rfl ?_
    refine g_iload dX3_writeTo_82 rfl ?_
    refine g_iadd dX3_writeTo_84 ?_
    refine g_aload_n dX3_writeTo_85 rfl rfl ?_
    refine g_getR 4 (a + 2) (C := RX3) (T := TX3) (N := 6) dX3_writeTo_86 hm.1 hm.2.1 rfl (by decide) rfl fl_RX3_19 ?_
    refine g_iload dX3_writeTo_89 rfl ?_
    refine g_callN [.ref (a + 2), .int (nI i)] [.int (x + (nI i)), .ref b] (x_cell S (a + 2) 5 (nI i) hm.2.2.2.1.1 hm.2.2.2.1.2 (by decide)) dX3_writeTo_91 kk_X3_writeTo_X11_cell nl_RX3_43 swX11_cell rfl rfl (Nat.le_of_ble_eq_true rfl) ?_
    rintro _ _ ⟨_, rfl, rfl, rfl⟩
    refine g_callN [.ref b, .int (x + (nI i)), .int (zs_ce 5 (S.1 (a + 2)) (nI i))] [] (x_put S b 200 (x + (nI i)) (zs_ce 5 (S.1 (a + 2)) (nI i)) hb.1 hb.2 (by decide)) dX3_writeTo_94 kk_X3_writeTo_X11_put nl_RX3_39 swX11_put rfl rfl (Nat.le_of_ble_eq_true rfl) ?_
    rintro _ _ ⟨rfl, rfl⟩
    refine g_aload_n dX3_writeTo_97 rfl rfl ?_
    refine g_iload_n dX3_writeTo_98 rfl rfl ?_
    refine g_iconst (v := (nI 5)) dX3_writeTo_99 rfl ?_
    refine g_iadd dX3_writeTo_100 ?_
    refine g_iload dX3_writeTo_101 rfl ?_
    refine g_iadd dX3_writeTo_103 ?_
    refine g_aload_n dX3_writeTo_104 rfl rfl ?_
    refine g_getR 5 (a + 3) (C := RX3) (T := TX3) (N := 6) dX3_writeTo_105 hm.1 hm.2.1 rfl (by decide) rfl fl_RX3_22 ?_
    refine g_iload dX3_writeTo_108 rfl ?_
    refine g_callN [.ref (a + 3), .int (nI i)] [.int ((x + (nI 5)) + (nI i)), .ref b] (x_cell (zs_pu S b 200 (x + (nI i)) (zs_ce 5 (S.1 (a + 2)) (nI i))) (a + 3) 5 (nI i) hm.2.2.2.2.1 hm.2.2.2.2.2 (by decide)) dX3_writeTo_110 kk_X3_writeTo_X11_cell nl_RX3_43 swX11_cell rfl rfl (Nat.le_of_ble_eq_true rfl) ?_
    rintro _ _ ⟨_, rfl, rfl, rfl⟩
    refine g_callN [.ref b, .int ((x + (nI 5)) + (nI i)), .int (zs_ce 5 ((zs_pu S b 200 (x + (nI i)) (zs_ce 5 (S.1 (a + 2)) (nI i))).1 (a + 3)) (nI i))] [] (x_put (zs_pu S b 200 (x + (nI i)) (zs_ce 5 (S.1 (a + 2)) (nI i))) b 200 ((x + (nI 5)) + (nI i)) (zs_ce 5 ((zs_pu S b 200 (x + (nI i)) (zs_ce 5 (S.1 (a + 2)) (nI i))).1 (a + 3)) (nI i)) hb.1 hb.2 (by decide)) dX3_writeTo_113 kk_X3_writeTo_X11_put nl_RX3_39 swX11_put rfl rfl (Nat.le_of_ble_eq_true rfl) ?_
    rintro _ _ ⟨rfl, rfl⟩
    refine g_iinc (v := (nI (i + 1))) (lv' := [(4, .int (nI (i + 1))), (3, .int x), (0, .ref a), (1, .ref b), (2, .int p)]) dX3_writeTo_116 rfl (nI_1 i) (by decide) rfl ?_
    refine g_goto 74 dX3_writeTo_119 (by decide) ?_
    exact ih (i + 1) (by omega) _ ((hc.pu (by omega) (by omega)).pu (by omega) (by omega))
set_option maxRecDepth 100000 in
theorem m_write_l1 (a b : Nat) (p : Int32) (hm : zs_Mo a) (hb : zs_Ar b 200) (S0 : zs_S) (Q : Option Value → zs_S → Prop) (x : Int32) (hk : ∀ S (x : Int32), zs_ch b (b + 1) S0 S → zs_P MX3_writeTo 68 [(4, .int (nI 12)), (3, .int x), (0, .ref a), (1, .ref b), (2, .int p)] [] S Q) : ∀ (d i : Nat), i + d = 12 → ∀ S, zs_ch b (b + 1) S0 S → zs_P MX3_writeTo 38 [(4, .int (nI i)), (3, .int x), (0, .ref a), (1, .ref b), (2, .int p)] [] S Q := by
  intro d
  induction d with
  | zero =>
    intro i hi S hc
    obtain rfl : i = 12 := by omega
    refine g_iload dX3_writeTo_38 rfl ?_
    refine g_bipush (v := (nI 12)) dX3_writeTo_40 rfl ?_
    refine g_ic_geN 68 dX3_writeTo_42 (by decide) (by omega) (by omega) (fun _ => ?_) (fun z => absurd z (by omega))
    exact hk S x hc
  | succ d ih =>
    intro i hi S hc
    refine g_iload dX3_writeTo_38 rfl ?_
    refine g_bipush (v := (nI 12)) dX3_writeTo_40 rfl ?_
    refine g_ic_geN 68 dX3_writeTo_42 (by decide) (by omega) (by omega) (fun z => absurd z (by omega)) (fun _ => ?_)
    refine g_aload_n dX3_writeTo_45 rfl rfl ?_
    refine g_iload_n dX3_writeTo_46 rfl rfl ?_
    refine g_iload dX3_writeTo_47 rfl ?_
    refine g_iadd dX3_writeTo_49 ?_
    refine g_aload_n dX3_writeTo_50 rfl rfl ?_
    refine g_getR 3 (a + 1) (C := RX3) (T := TX3) (N := 6) dX3_writeTo_51 hm.1 hm.2.1 rfl (by decide) rfl fl_RX3_15 ?_
    refine g_iload dX3_writeTo_54 rfl ?_
    refine g_callN [.ref (a + 1), .int (nI i)] [.int (x + (nI i)), .ref b] (x_cell S (a + 1) 12 (nI i) hm.2.2.1.1 hm.2.2.1.2 (by decide)) dX3_writeTo_56 kk_X3_writeTo_X11_cell nl_RX3_43 swX11_cell rfl rfl (Nat.le_of_ble_eq_true rfl) ?_
    rintro _ _ ⟨_, rfl, rfl, rfl⟩
    refine g_callN [.ref b, .int (x + (nI i)), .int (zs_ce 12 (S.1 (a + 1)) (nI i))] [] (x_put S b 200 (x + (nI i)) (zs_ce 12 (S.1 (a + 1)) (nI i)) hb.1 hb.2 (by decide)) dX3_writeTo_59 kk_X3_writeTo_X11_put nl_RX3_39 swX11_put rfl rfl (Nat.le_of_ble_eq_true rfl) ?_
    rintro _ _ ⟨rfl, rfl⟩
    refine g_iinc (v := (nI (i + 1))) (lv' := [(4, .int (nI (i + 1))), (3, .int x), (0, .ref a), (1, .ref b), (2, .int p)]) dX3_writeTo_62 rfl (nI_1 i) (by decide) rfl ?_
    refine g_goto 38 dX3_writeTo_65 (by decide) ?_
    exact ih (i + 1) (by omega) _ (hc.pu (by omega) (by omega))
set_option maxRecDepth 100000 in
theorem m_writeTo (S : zs_S) (a b : Nat) (p : Int32) (hm : zs_Mo a) (hb : zs_Ar b 200) : zs_Cv MX3_writeTo [.ref a, .ref b, .int p] S (fun S2 => zs_ch b (b + 1) S S2) := by
  refine zs_C.of (by decide) (Nat.le_of_ble_eq_true rfl) ?_
  show zs_P MX3_writeTo 0 [(0, .ref a), (1, .ref b), (2, .int p)] [] S _
  refine g_aload_n dX3_writeTo_0 rfl rfl ?_
  refine g_iload_n dX3_writeTo_1 rfl rfl ?_
  refine g_aload_n dX3_writeTo_2 rfl rfl ?_
  refine g_getI 0 (C := RX3) (T := TX3) (N := 6) dX3_writeTo_3 hm.1 hm.2.1 rfl (by decide) rfl fl_RX3_25 ?_
  refine g_callN [.ref b, .int p, .int (S.1 a 0)] [] (x_put S b 200 p (S.1 a 0) hb.1 hb.2 (by decide)) dX3_writeTo_6 kk_X3_writeTo_X11_put nl_RX3_39 swX11_put rfl rfl (Nat.le_of_ble_eq_true rfl) ?_
  rintro _ _ ⟨rfl, rfl⟩
  refine g_aload_n dX3_writeTo_9 rfl rfl ?_
  refine g_iload_n dX3_writeTo_10 rfl rfl ?_
  refine g_iconst (v := (nI 1)) dX3_writeTo_11 rfl ?_
  refine g_iadd dX3_writeTo_12 ?_
  refine g_aload_n dX3_writeTo_13 rfl rfl ?_
  refine g_getI 1 (C := RX3) (T := TX3) (N := 6) dX3_writeTo_14 hm.1 hm.2.1 rfl (by decide) rfl fl_RX3_28 ?_
  refine g_callN [.ref b, .int (p + (nI 1)), .int ((zs_pu S b 200 p (S.1 a 0)).1 a 1)] [] (x_put (zs_pu S b 200 p (S.1 a 0)) b 200 (p + (nI 1)) ((zs_pu S b 200 p (S.1 a 0)).1 a 1) hb.1 hb.2 (by decide)) dX3_writeTo_17 kk_X3_writeTo_X11_put nl_RX3_39 swX11_put rfl rfl (Nat.le_of_ble_eq_true rfl) ?_
  rintro _ _ ⟨rfl, rfl⟩
  refine g_aload_n dX3_writeTo_20 rfl rfl ?_
  refine g_iload_n dX3_writeTo_21 rfl rfl ?_
  refine g_iconst (v := (nI 2)) dX3_writeTo_22 rfl ?_
  refine g_iadd dX3_writeTo_23 ?_
  refine g_aload_n dX3_writeTo_24 rfl rfl ?_
  refine g_getI 2 (C := RX3) (T := TX3) (N := 6) dX3_writeTo_25 hm.1 hm.2.1 rfl (by decide) rfl fl_RX3_9 ?_
  refine g_callN [.ref b, .int (p + (nI 2)), .int ((zs_pu (zs_pu S b 200 p (S.1 a 0)) b 200 (p + (nI 1)) ((zs_pu S b 200 p (S.1 a 0)).1 a 1)).1 a 2)] [] (x_put (zs_pu (zs_pu S b 200 p (S.1 a 0)) b 200 (p + (nI 1)) ((zs_pu S b 200 p (S.1 a 0)).1 a 1)) b 200 (p + (nI 2)) ((zs_pu (zs_pu S b 200 p (S.1 a 0)) b 200 (p + (nI 1)) ((zs_pu S b 200 p (S.1 a 0)).1 a 1)).1 a 2) hb.1 hb.2 (by decide)) dX3_writeTo_28 kk_X3_writeTo_X11_put nl_RX3_39 swX11_put rfl rfl (Nat.le_of_ble_eq_true rfl) ?_
  rintro _ _ ⟨rfl, rfl⟩
  refine g_iload_n dX3_writeTo_31 rfl rfl ?_
  refine g_iconst (v := (nI 3)) dX3_writeTo_32 rfl ?_
  refine g_iadd dX3_writeTo_33 ?_
  refine g_istore_n (lv' := [(3, .int (p + (nI 3))), (0, .ref a), (1, .ref b), (2, .int p)]) dX3_writeTo_34 rfl (by decide) rfl ?_
  refine g_iconst (v := (nI 0)) dX3_writeTo_35 rfl ?_
  refine g_istore (lv' := [(4, .int (nI 0)), (3, .int (p + (nI 3))), (0, .ref a), (1, .ref b), (2, .int p)]) dX3_writeTo_36 (by decide) rfl ?_
  refine m_write_l1 a b p hm hb S _ _ (fun S1 x h1 => ?_) 12 0 (by omega) _ (((zs_ch.rf.pu (by omega) (by omega)).pu (by omega) (by omega)).pu (by omega) (by omega))
  refine g_iinc (v := (x + 12)) (lv' := [(3, .int (x + 12)), (4, .int (nI 12)), (0, .ref a), (1, .ref b), (2, .int p)]) dX3_writeTo_68 rfl rfl (by decide) rfl ?_
  refine g_iconst (v := (nI 0)) dX3_writeTo_71 rfl ?_
  refine g_istore (lv' := [(4, .int (nI 0)), (3, .int (x + 12)), (0, .ref a), (1, .ref b), (2, .int p)]) dX3_writeTo_72 (by decide) rfl ?_
  exact m_write_l2 a b p hm hb S _ _ (fun S2 h2 => ⟨rfl, h2⟩) 5 0 (by omega) S1 h1
set_option maxRecDepth 100000 in
theorem p_push (S : zs_S) (a b k : Nat) (hp : zs_Pa a) (hm : zs_Mo b) (hk : S.1 a 1 = nI k) (h8 : k < 8) : zs_Cv MX4_push [.ref a, .ref b] S (fun S2 => zs_ch a (a + 2) S S2) := by
  refine zs_C.of (by decide) (Nat.le_of_ble_eq_true rfl) ?_
  show zs_P MX4_push 0 [(0, .ref a), (1, .ref b)] [] S _
  refine g_aload_n dX4_push_0 rfl rfl ?_
  refine g_getV 1 (C := RX4) (T := TX4) (N := 2) (v := (nI k)) dX4_push_1 hp.1 hp.2.1 rfl (by decide) rfl fl_RX4_17 hk ?_
  refine g_bipush (v := (nI 8)) dX4_push_4 rfl ?_
  refine g_ic_ltN 13 dX4_push_6 (by decide) (by omega) (by omega) (fun _ => ?_) (fun z => absurd z (by omega))
  refine g_aload_n dX4_push_13 rfl rfl ?_
  refine g_aload_n dX4_push_14 rfl rfl ?_
  refine g_getR 0 (a + 1) (C := RX4) (T := TX4) (N := 2) dX4_push_15 hp.1 hp.2.1 rfl (by decide) rfl fl_RX4_11 ?_
  refine g_aload_n dX4_push_18 rfl rfl ?_
  refine g_getV 1 (C := RX4) (T := TX4) (N := 2) (v := (nI k)) dX4_push_19 hp.1 hp.2.1 rfl (by decide) rfl fl_RX4_17 hk ?_
  refine g_bipush (v := (nI 25)) dX4_push_22 rfl ?_
  refine g_imulN dX4_push_24 ?_
  refine g_callV (T := TX3) (NN := 6) [] (m_writeTo S b (a + 1) (nI (k * 25)) hm ⟨hp.2.2.1, hp.2.2.2⟩) dX4_push_25 kk_X4_push_X3_writeTo ml_RX4_24 mwX3_writeTo ewX3_writeTo hm.1 hm.2.1 rfl rfl rfl (Nat.le_of_ble_eq_true rfl) ?_
  rintro _ S1 ⟨rfl, c2⟩
  refine g_aload_n dX4_push_28 rfl rfl ?_
  refine g_dup dX4_push_29 rfl ?_
  refine g_getI 1 (C := RX4) (T := TX4) (N := 2) dX4_push_30 hp.1 hp.2.1 rfl (by decide) rfl fl_RX4_17 ?_
  refine g_iconst (v := (nI 1)) dX4_push_33 rfl ?_
  refine g_iadd dX4_push_34 ?_
  refine g_putI 1 (C := RX4) (T := TX4) (N := 2) (ty := .int) dX4_push_35 hp.1 hp.2.1 rfl (by decide) rfl fl_RX4_17 rfl (by decide +kernel) ⟨rfl, rfl⟩ ?_
  refine g_ret dX4_push_38 rfl ?_
  exact ⟨rfl, ((zs_ch.rf.and c2 (by omega) (by omega)).up (by omega) (by omega))⟩
set_option maxRecDepth 100000 in
theorem p_become (S : zs_S) (a b : Nat) (hp : zs_Pa a) (hb : zs_Pa b) (hab : a + 2 ≤ b ∨ b + 2 ≤ a) : zs_Cv MX4_become [.ref a, .ref b] S (fun S2 => zs_ch a (a + 2) S S2) := by
  refine zs_C.of (by decide) (Nat.le_of_ble_eq_true rfl) ?_
  show zs_P MX4_become 0 [(0, .ref a), (1, .ref b)] [] S _
  refine g_aload_n dX4_become_0 rfl rfl ?_
  refine g_getR 0 (b + 1) (C := RX4) (T := TX4) (N := 2) dX4_become_1 hb.1 hb.2.1 rfl (by decide) rfl fl_RX4_11 ?_
  refine g_aload_n dX4_become_4 rfl rfl ?_
  refine g_getR 0 (a + 1) (C := RX4) (T := TX4) (N := 2) dX4_become_5 hp.1 hp.2.1 rfl (by decide) rfl fl_RX4_11 ?_
  refine g_callN [.ref (b + 1), .ref (a + 1)] [] (x_copyRow S (b + 1) (a + 1) 200 hb.2.2.1 hb.2.2.2 hp.2.2.1 hp.2.2.2 (by omega) (by decide)) dX4_become_8 kk_X4_become_X11_copyRow nl_RX4_31 swX11_copyRow rfl rfl (Nat.le_of_ble_eq_true rfl) ?_
  rintro _ _ ⟨rfl, rfl⟩
  refine g_aload_n dX4_become_11 rfl rfl ?_
  refine g_aload_n dX4_become_12 rfl rfl ?_
  refine g_getI 1 (C := RX4) (T := TX4) (N := 2) dX4_become_13 hb.1 hb.2.1 rfl (by decide) rfl fl_RX4_17 ?_
  refine g_putI 1 (C := RX4) (T := TX4) (N := 2) (ty := .int) dX4_become_16 hp.1 hp.2.1 rfl (by decide) rfl fl_RX4_17 rfl (by decide +kernel) ⟨rfl, rfl⟩ ?_
  refine g_ret dX4_become_19 rfl ?_
  exact ⟨rfl, ((zs_ch.rf.cp (by omega) (by omega)).up (by omega) (by omega))⟩
set_option maxRecDepth 100000 in
theorem r_become (S : zs_S) (a b : Nat) (hp : zs_Ro a) (hb : zs_Ro b) (hab : a + 2 ≤ b ∨ b + 2 ≤ a) : zs_Cv MX5_become [.ref a, .ref b] S (fun S2 => zs_ch a (a + 2) S S2) := by
  refine zs_C.of (by decide) (Nat.le_of_ble_eq_true rfl) ?_
  show zs_P MX5_become 0 [(0, .ref a), (1, .ref b)] [] S _
  refine g_aload_n dX5_become_0 rfl rfl ?_
  refine g_getR 1 (b + 1) (C := RX5) (T := TX5) (N := 3) dX5_become_1 hb.1 hb.2.1 rfl (by decide) rfl fl_RX5_9 ?_
  refine g_aload_n dX5_become_4 rfl rfl ?_
  refine g_getR 1 (a + 1) (C := RX5) (T := TX5) (N := 3) dX5_become_5 hp.1 hp.2.1 rfl (by decide) rfl fl_RX5_9 ?_
  refine g_callN [.ref (b + 1), .ref (a + 1)] [] (x_copyRow S (b + 1) (a + 1) 24 hb.2.2.1 hb.2.2.2 hp.2.2.1 hp.2.2.2 (by omega) (by decide)) dX5_become_8 kk_X5_become_X11_copyRow nl_RX5_30 swX11_copyRow rfl rfl (Nat.le_of_ble_eq_true rfl) ?_
  rintro _ _ ⟨rfl, rfl⟩
  refine g_aload_n dX5_become_11 rfl rfl ?_
  refine g_aload_n dX5_become_12 rfl rfl ?_
  refine g_getI 2 (C := RX5) (T := TX5) (N := 3) dX5_become_13 hb.1 hb.2.1 rfl (by decide) rfl fl_RX5_19 ?_
  refine g_putI 2 (C := RX5) (T := TX5) (N := 3) (ty := .int) dX5_become_16 hp.1 hp.2.1 rfl (by decide) rfl fl_RX5_19 rfl (by decide +kernel) ⟨rfl, rfl⟩ ?_
  refine g_ret dX5_become_19 rfl ?_
  exact ⟨rfl, ((zs_ch.rf.cp (by omega) (by omega)).up (by omega) (by omega))⟩
set_option maxRecDepth 100000 in
theorem r_isFull (S : zs_S) (a k : Nat) (hp : zs_Ro a) (hk : S.1 a 2 = nI k) (h : k < 1000) : zs_Ci MX5_isFull [.ref a] S (fun x S2 => x = zs_b (6 ≤ k) ∧ S = S2) := by
  refine zs_C.of (by decide) (Nat.le_of_ble_eq_true rfl) ?_
  show zs_P MX5_isFull 0 [(0, .ref a)] [] S _
  refine g_aload_n dX5_isFull_0 rfl rfl ?_
  refine g_getV 2 (C := RX5) (T := TX5) (N := 3) (v := (nI k)) dX5_isFull_1 hp.1 hp.2.1 rfl (by decide) rfl fl_RX5_19 hk ?_
  refine g_bipush (v := (nI 6)) dX5_isFull_4 rfl ?_
  refine g_ic_ltN 13 dX5_isFull_6 (by decide) (by omega) (by omega) (fun h1 => ?_) (fun h1 => ?_)
  · refine g_iconst (v := (nI 0)) dX5_isFull_13 rfl ?_
    refine g_iret dX5_isFull_14 rfl rfl ?_
    exact ⟨_, rfl, (zs_bf (by omega)).symm, rfl⟩
  · refine g_iconst (v := (nI 1)) dX5_isFull_9 rfl ?_
    refine g_goto 14 dX5_isFull_10 (by decide) ?_
    refine g_iret dX5_isFull_14 rfl rfl ?_
    exact ⟨_, rfl, (zs_bt h1).symm, rfl⟩
theorem zs_pu_nk {S : zs_S} {a n j : Nat} {i v : Int32} : (zs_pu S (a + 1) n i v).1 a j = S.1 a j := by
  unfold zs_pu
  split
  · exact zs_up_n (fun q => by omega)
  · rfl
set_option maxRecDepth 100000 in
theorem r_add (S : zs_S) (a k : Nat) (p q r t : Int32) (hp : zs_Ro a) (hk : S.1 a 2 = nI k) (h : k < 1000) : zs_Ci MX5_add [.ref a, .int p, .int q, .int r, .int t] S (fun x S2 => x = nI (k + 1) ∧ zs_ch a (a + 2) S S2) := by
  refine zs_C.of (by decide) (Nat.le_of_ble_eq_true rfl) ?_
  show zs_P MX5_add 0 [(0, .ref a), (1, .int p), (2, .int q), (3, .int r), (4, .int t)] [] S _
  refine g_iconst (v := (nI 4)) dX5_add_0 rfl ?_
  refine g_aload_n dX5_add_1 rfl rfl ?_
  refine g_getV 2 (C := RX5) (T := TX5) (N := 3) (v := (nI k)) dX5_add_2 hp.1 hp.2.1 rfl (by decide) rfl fl_RX5_19 hk ?_
  refine g_imulN dX5_add_5 ?_
  refine g_istore (lv' := [(5, .int (nI (4 * k))), (0, .ref a), (1, .int p), (2, .int q), (3, .int r), (4, .int t)]) dX5_add_6 (by decide) rfl ?_
  refine g_aload_n dX5_add_8 rfl rfl ?_
  refine g_getR 1 (a + 1) (C := RX5) (T := TX5) (N := 3) dX5_add_9 hp.1 hp.2.1 rfl (by decide) rfl fl_RX5_9 ?_
  refine g_iload dX5_add_12 rfl ?_
  refine g_iload_n dX5_add_14 rfl rfl ?_
  refine g_callN [.ref (a + 1), .int (nI (4 * k)), .int p] [] (x_put S (a + 1) 24 (nI (4 * k)) p hp.2.2.1 hp.2.2.2 (by decide)) dX5_add_15 kk_X5_add_X11_put nl_RX5_22 swX11_put rfl rfl (Nat.le_of_ble_eq_true rfl) ?_
  rintro _ _ ⟨rfl, rfl⟩
  refine g_aload_n dX5_add_18 rfl rfl ?_
  refine g_getR 1 (a + 1) (C := RX5) (T := TX5) (N := 3) dX5_add_19 hp.1 hp.2.1 rfl (by decide) rfl fl_RX5_9 ?_
  refine g_iload dX5_add_22 rfl ?_
  refine g_iconst (v := (nI 1)) dX5_add_24 rfl ?_
  refine g_iaddN dX5_add_25 ?_
  refine g_iload_n dX5_add_26 rfl rfl ?_
  refine g_callN [.ref (a + 1), .int (nI ((4 * k) + 1)), .int q] [] (x_put (zs_pu S (a + 1) 24 (nI (4 * k)) p) (a + 1) 24 (nI ((4 * k) + 1)) q hp.2.2.1 hp.2.2.2 (by decide)) dX5_add_27 kk_X5_add_X11_put nl_RX5_22 swX11_put rfl rfl (Nat.le_of_ble_eq_true rfl) ?_
  rintro _ _ ⟨rfl, rfl⟩
  refine g_aload_n dX5_add_30 rfl rfl ?_
  refine g_getR 1 (a + 1) (C := RX5) (T := TX5) (N := 3) dX5_add_31 hp.1 hp.2.1 rfl (by decide) rfl fl_RX5_9 ?_
  refine g_iload dX5_add_34 rfl ?_
  refine g_iconst (v := (nI 2)) dX5_add_36 rfl ?_
  refine g_iaddN dX5_add_37 ?_
  refine g_iload_n dX5_add_38 rfl rfl ?_
  refine g_callN [.ref (a + 1), .int (nI ((4 * k) + 2)), .int r] [] (x_put (zs_pu (zs_pu S (a + 1) 24 (nI (4 * k)) p) (a + 1) 24 (nI ((4 * k) + 1)) q) (a + 1) 24 (nI ((4 * k) + 2)) r hp.2.2.1 hp.2.2.2 (by decide)) dX5_add_39 kk_X5_add_X11_put nl_RX5_22 swX11_put rfl rfl (Nat.le_of_ble_eq_true rfl) ?_
  rintro _ _ ⟨rfl, rfl⟩
  refine g_aload_n dX5_add_42 rfl rfl ?_
  refine g_getR 1 (a + 1) (C := RX5) (T := TX5) (N := 3) dX5_add_43 hp.1 hp.2.1 rfl (by decide) rfl fl_RX5_9 ?_
  refine g_iload dX5_add_46 rfl ?_
  refine g_iconst (v := (nI 3)) dX5_add_48 rfl ?_
  refine g_iaddN dX5_add_49 ?_
  refine g_iload dX5_add_50 rfl ?_
  refine g_callN [.ref (a + 1), .int (nI ((4 * k) + 3)), .int t] [] (x_put (zs_pu (zs_pu (zs_pu S (a + 1) 24 (nI (4 * k)) p) (a + 1) 24 (nI ((4 * k) + 1)) q) (a + 1) 24 (nI ((4 * k) + 2)) r) (a + 1) 24 (nI ((4 * k) + 3)) t hp.2.2.1 hp.2.2.2 (by decide)) dX5_add_52 kk_X5_add_X11_put nl_RX5_22 swX11_put rfl rfl (Nat.le_of_ble_eq_true rfl) ?_
  rintro _ _ ⟨rfl, rfl⟩
  refine g_aload_n dX5_add_55 rfl rfl ?_
  refine g_dup dX5_add_56 rfl ?_
  refine g_getV 2 (C := RX5) (T := TX5) (N := 3) (v := (nI k)) dX5_add_57 hp.1 hp.2.1 rfl (by decide) rfl fl_RX5_19 (by simp [zs_pu_nk, hk]) ?_
  refine g_iconst (v := (nI 1)) dX5_add_60 rfl ?_
  refine g_iaddN dX5_add_61 ?_
  refine g_putI 2 (C := RX5) (T := TX5) (N := 3) (ty := .int) dX5_add_62 hp.1 hp.2.1 rfl (by decide) rfl fl_RX5_19 rfl (by decide +kernel) ⟨rfl, rfl⟩ ?_
  refine g_aload_n dX5_add_65 rfl rfl ?_
  refine g_getV 2 (C := RX5) (T := TX5) (N := 3) (v := (nI (k + 1))) dX5_add_66 hp.1 hp.2.1 rfl (by decide) rfl fl_RX5_19 (by simp [zs_up]) ?_
  refine g_iret dX5_add_69 rfl rfl ?_
  exact ⟨_, rfl, rfl, (((((zs_ch.rf.pu (by omega) (by omega)).pu (by omega) (by omega)).pu (by omega) (by omega)).pu (by omega) (by omega)).up (by omega) (by omega))⟩
set_option maxRecDepth 100000 in
theorem r_empty (S : zs_S) (a : Nat) (hp : zs_Ro a) : zs_Ci MX5_empty [.ref a] S (fun x S2 => x = S.1 a 2 ∧ zs_ch a (a + 2) S S2) := by
  refine zs_C.of (by decide) (Nat.le_of_ble_eq_true rfl) ?_
  show zs_P MX5_empty 0 [(0, .ref a)] [] S _
  refine g_aload_n dX5_empty_0 rfl rfl ?_
  refine g_getI 2 (C := RX5) (T := TX5) (N := 3) dX5_empty_1 hp.1 hp.2.1 rfl (by decide) rfl fl_RX5_19 ?_
  refine g_istore_n (lv' := [(1, .int (S.1 a 2)), (0, .ref a)]) dX5_empty_4 rfl (by decide) rfl ?_
  refine g_aload_n dX5_empty_5 rfl rfl ?_
  refine g_iconst (v := (nI 0)) dX5_empty_6 rfl ?_
  refine g_putI 2 (C := RX5) (T := TX5) (N := 3) (ty := .int) dX5_empty_7 hp.1 hp.2.1 rfl (by decide) rfl fl_RX5_19 rfl (by decide +kernel) ⟨rfl, rfl⟩ ?_
  refine g_iload_n dX5_empty_10 rfl rfl ?_
  refine g_iret dX5_empty_11 rfl rfl ?_
  exact ⟨_, rfl, rfl, (zs_ch.rf.up (by omega) (by omega))⟩
set_option maxRecDepth 100000 in
theorem s_begin (S : zs_S) (a : Nat) (n c t : Int32) (hw : zs_Sw a) : zs_Cv MX6_begin [.ref a, .int n, .int c, .int t] S (fun S2 => zs_ch a (a + 14) S S2) := by
  refine zs_C.of (by decide) (Nat.le_of_ble_eq_true rfl) ?_
  show zs_P MX6_begin 0 [(0, .ref a), (1, .int n), (2, .int c), (3, .int t)] [] S _
  refine g_aload_n dX6_begin_0 rfl rfl ?_
  refine g_iload_n dX6_begin_1 rfl rfl ?_
  refine g_putI 0 (C := RX6) (T := TX6) (N := 9) (ty := .int) dX6_begin_2 hw.1 hw.2.1 rfl (by decide) rfl fl_RX6_9 rfl (by decide +kernel) ⟨rfl, rfl⟩ ?_
  refine g_aload_n dX6_begin_5 rfl rfl ?_
  refine g_iload_n dX6_begin_6 rfl rfl ?_
  refine g_putI 1 (C := RX6) (T := TX6) (N := 9) (ty := .int) dX6_begin_7 hw.1 hw.2.1 rfl (by decide) rfl fl_RX6_48 rfl (by decide +kernel) ⟨rfl, rfl⟩ ?_
  refine g_aload_n dX6_begin_10 rfl rfl ?_
  refine g_iconst (v := (nI 0)) dX6_begin_11 rfl ?_
  refine g_putI 2 (C := RX6) (T := TX6) (N := 9) (ty := .int) dX6_begin_12 hw.1 hw.2.1 rfl (by decide) rfl fl_RX6_51 rfl (by decide +kernel) ⟨rfl, rfl⟩ ?_
  refine g_aload_n dX6_begin_15 rfl rfl ?_
  refine g_getR 3 (a + 1) (C := RX6) (T := TX6) (N := 9) dX6_begin_16 hw.1 hw.2.1 rfl (by decide) rfl fl_RX6_15 ?_
  refine g_iconst (v := (nI 0)) dX6_begin_19 rfl ?_
  refine g_callN [.ref (a + 1), .int (nI 0)] [] (x_fill (zs_up (zs_up (zs_up S.1 a 0 n, S.2).1 a 1 c, (zs_up S.1 a 0 n, S.2).2).1 a 2 (nI 0), (zs_up (zs_up S.1 a 0 n, S.2).1 a 1 c, (zs_up S.1 a 0 n, S.2).2).2) (a + 1) 5 (nI 0) hw.2.2.1.1 hw.2.2.1.2 (by decide)) dX6_begin_20 kk_X6_begin_X11_fill nl_RX6_54 swX11_fill rfl rfl (Nat.le_of_ble_eq_true rfl) ?_
  rintro _ _ ⟨rfl, rfl⟩
  refine g_aload_n dX6_begin_23 rfl rfl ?_
  refine g_getR 4 (a + 2) (C := RX6) (T := TX6) (N := 9) dX6_begin_24 hw.1 hw.2.1 rfl (by decide) rfl fl_RX6_22 ?_
  refine g_iload_n dX6_begin_27 rfl rfl ?_
  refine g_callV (T := TX3) (NN := 6) [] (m_begin (zs_fi (zs_up (zs_up (zs_up S.1 a 0 n, S.2).1 a 1 c, (zs_up S.1 a 0 n, S.2).2).1 a 2 (nI 0), (zs_up (zs_up S.1 a 0 n, S.2).1 a 1 c, (zs_up S.1 a 0 n, S.2).2).2) (a + 1) 5 (nI 0)) (a + 2) t hw.2.2.2.1) dX6_begin_28 kk_X6_begin_X3_begin ml_RX6_58 mwX3_begin ewX3_begin hw.2.2.2.1.1 hw.2.2.2.1.2.1 rfl rfl rfl (Nat.le_of_ble_eq_true rfl) ?_
  rintro _ S1 ⟨rfl, c2⟩
  refine g_aload_n dX6_begin_31 rfl rfl ?_
  refine g_getR 5 (a + 6) (C := RX6) (T := TX6) (N := 9) dX6_begin_32 hw.1 hw.2.1 rfl (by decide) rfl fl_RX6_29 ?_
  refine g_callV (T := TX4) (NN := 2) [] (p_empty S1 (a + 6) hw.2.2.2.2.1) dX6_begin_35 kk_X6_begin_X4_empty ml_RX6_61 mwX4_empty ewX4_empty hw.2.2.2.2.1.1 hw.2.2.2.2.1.2.1 rfl rfl rfl (Nat.le_of_ble_eq_true rfl) ?_
  rintro _ S3 ⟨rfl, c4⟩
  refine g_aload_n dX6_begin_38 rfl rfl ?_
  refine g_getR 6 (a + 8) (C := RX6) (T := TX6) (N := 9) dX6_begin_39 hw.1 hw.2.1 rfl (by decide) rfl fl_RX6_38 ?_
  refine g_callV (T := TX5) (NN := 3) [] (r_empty S3 (a + 8) hw.2.2.2.2.2.1) dX6_begin_42 kk_X6_begin_X5_empty ml_RX6_64 mwX5_empty ewX5_empty hw.2.2.2.2.2.1.1 hw.2.2.2.2.2.1.2.1 rfl rfl rfl (Nat.le_of_ble_eq_true rfl) ?_
  rintro _ S5 ⟨r7, rfl, e8, c6⟩
  refine g_pop dX6_begin_45 rfl ?_
  refine g_aload_n dX6_begin_46 rfl rfl ?_
  refine g_getR 7 (a + 10) (C := RX6) (T := TX6) (N := 9) dX6_begin_47 hw.1 hw.2.1 rfl (by decide) rfl fl_RX6_42 ?_
  refine g_callV (T := TX5) (NN := 3) [] (r_empty S5 (a + 10) hw.2.2.2.2.2.2.1) dX6_begin_50 kk_X6_begin_X5_empty ml_RX6_64 mwX5_empty ewX5_empty hw.2.2.2.2.2.2.1.1 hw.2.2.2.2.2.2.1.2.1 rfl rfl rfl (Nat.le_of_ble_eq_true rfl) ?_
  rintro _ S9 ⟨r11, rfl, e12, c10⟩
  refine g_pop dX6_begin_53 rfl ?_
  refine g_aload_n dX6_begin_54 rfl rfl ?_
  refine g_getR 8 (a + 12) (C := RX6) (T := TX6) (N := 9) dX6_begin_55 hw.1 hw.2.1 rfl (by decide) rfl fl_RX6_45 ?_
  refine g_callV (T := TX5) (NN := 3) [] (r_empty S9 (a + 12) hw.2.2.2.2.2.2.2) dX6_begin_58 kk_X6_begin_X5_empty ml_RX6_64 mwX5_empty ewX5_empty hw.2.2.2.2.2.2.2.1 hw.2.2.2.2.2.2.2.2.1 rfl rfl rfl (Nat.le_of_ble_eq_true rfl) ?_
  rintro _ S13 ⟨r15, rfl, e16, c14⟩
  refine g_pop dX6_begin_61 rfl ?_
  refine g_ret dX6_begin_62 rfl ?_
  exact ⟨rfl, (((((((((zs_ch.rf.up (by omega) (by omega)).up (by omega) (by omega)).up (by omega) (by omega)).fi (by omega) (by omega)).and c2 (by omega) (by omega)).and c4 (by omega) (by omega)).and c6 (by omega) (by omega)).and c10 (by omega) (by omega)).and c14 (by omega) (by omega))⟩
set_option maxRecDepth 100000 in
theorem s_become (S : zs_S) (a b : Nat) (hw : zs_Sw a) (hv : zs_Sw b) (hab : a + 14 ≤ b ∨ b + 14 ≤ a) : zs_Cv MX6_become [.ref a, .ref b] S (fun S2 => zs_ch a (a + 14) S S2) := by
  refine zs_C.of (by decide) (Nat.le_of_ble_eq_true rfl) ?_
  show zs_P MX6_become 0 [(0, .ref a), (1, .ref b)] [] S _
  refine g_aload_n dX6_become_0 rfl rfl ?_
  refine g_aload_n dX6_become_1 rfl rfl ?_
  refine g_getI 0 (C := RX6) (T := TX6) (N := 9) dX6_become_2 hv.1 hv.2.1 rfl (by decide) rfl fl_RX6_9 ?_
  refine g_putI 0 (C := RX6) (T := TX6) (N := 9) (ty := .int) dX6_become_5 hw.1 hw.2.1 rfl (by decide) rfl fl_RX6_9 rfl (by decide +kernel) ⟨rfl, rfl⟩ ?_
  refine g_aload_n dX6_become_8 rfl rfl ?_
  refine g_aload_n dX6_become_9 rfl rfl ?_
  refine g_getI 1 (C := RX6) (T := TX6) (N := 9) dX6_become_10 hv.1 hv.2.1 rfl (by decide) rfl fl_RX6_48 ?_
  refine g_putI 1 (C := RX6) (T := TX6) (N := 9) (ty := .int) dX6_become_13 hw.1 hw.2.1 rfl (by decide) rfl fl_RX6_48 rfl (by decide +kernel) ⟨rfl, rfl⟩ ?_
  refine g_aload_n dX6_become_16 rfl rfl ?_
  refine g_aload_n dX6_become_17 rfl rfl ?_
  refine g_getI 2 (C := RX6) (T := TX6) (N := 9) dX6_become_18 hv.1 hv.2.1 rfl (by decide) rfl fl_RX6_51 ?_
  refine g_putI 2 (C := RX6) (T := TX6) (N := 9) (ty := .int) dX6_become_21 hw.1 hw.2.1 rfl (by decide) rfl fl_RX6_51 rfl (by decide +kernel) ⟨rfl, rfl⟩ ?_
  refine g_aload_n dX6_become_24 rfl rfl ?_
  refine g_getR 3 (b + 1) (C := RX6) (T := TX6) (N := 9) dX6_become_25 hv.1 hv.2.1 rfl (by decide) rfl fl_RX6_15 ?_
  refine g_aload_n dX6_become_28 rfl rfl ?_
  refine g_getR 3 (a + 1) (C := RX6) (T := TX6) (N := 9) dX6_become_29 hw.1 hw.2.1 rfl (by decide) rfl fl_RX6_15 ?_
  refine g_callN [.ref (b + 1), .ref (a + 1)] [] (x_copyRow (zs_up (zs_up (zs_up S.1 a 0 (S.1 b 0), S.2).1 a 1 ((zs_up S.1 a 0 (S.1 b 0), S.2).1 b 1), (zs_up S.1 a 0 (S.1 b 0), S.2).2).1 a 2 ((zs_up (zs_up S.1 a 0 (S.1 b 0), S.2).1 a 1 ((zs_up S.1 a 0 (S.1 b 0), S.2).1 b 1), (zs_up S.1 a 0 (S.1 b 0), S.2).2).1 b 2), (zs_up (zs_up S.1 a 0 (S.1 b 0), S.2).1 a 1 ((zs_up S.1 a 0 (S.1 b 0), S.2).1 b 1), (zs_up S.1 a 0 (S.1 b 0), S.2).2).2) (b + 1) (a + 1) 5 hv.2.2.1.1 hv.2.2.1.2 hw.2.2.1.1 hw.2.2.1.2 (by omega) (by decide)) dX6_become_32 kk_X6_become_X11_copyRow nl_RX6_67 swX11_copyRow rfl rfl (Nat.le_of_ble_eq_true rfl) ?_
  rintro _ _ ⟨rfl, rfl⟩
  refine g_aload_n dX6_become_35 rfl rfl ?_
  refine g_getR 4 (a + 2) (C := RX6) (T := TX6) (N := 9) dX6_become_36 hw.1 hw.2.1 rfl (by decide) rfl fl_RX6_22 ?_
  refine g_aload_n dX6_become_39 rfl rfl ?_
  refine g_getR 4 (b + 2) (C := RX6) (T := TX6) (N := 9) dX6_become_40 hv.1 hv.2.1 rfl (by decide) rfl fl_RX6_22 ?_
  refine g_callV (T := TX3) (NN := 6) [] (m_become (zs_cp (zs_up (zs_up (zs_up S.1 a 0 (S.1 b 0), S.2).1 a 1 ((zs_up S.1 a 0 (S.1 b 0), S.2).1 b 1), (zs_up S.1 a 0 (S.1 b 0), S.2).2).1 a 2 ((zs_up (zs_up S.1 a 0 (S.1 b 0), S.2).1 a 1 ((zs_up S.1 a 0 (S.1 b 0), S.2).1 b 1), (zs_up S.1 a 0 (S.1 b 0), S.2).2).1 b 2), (zs_up (zs_up S.1 a 0 (S.1 b 0), S.2).1 a 1 ((zs_up S.1 a 0 (S.1 b 0), S.2).1 b 1), (zs_up S.1 a 0 (S.1 b 0), S.2).2).2) (b + 1) (a + 1) 5) (a + 2) (b + 2) hw.2.2.2.1 hv.2.2.2.1 (by omega)) dX6_become_43 kk_X6_become_X3_become ml_RX6_71 mwX3_become ewX3_become hw.2.2.2.1.1 hw.2.2.2.1.2.1 rfl rfl rfl (Nat.le_of_ble_eq_true rfl) ?_
  rintro _ S1 ⟨rfl, c2, -⟩
  refine g_aload_n dX6_become_46 rfl rfl ?_
  refine g_getR 5 (a + 6) (C := RX6) (T := TX6) (N := 9) dX6_become_47 hw.1 hw.2.1 rfl (by decide) rfl fl_RX6_29 ?_
  refine g_aload_n dX6_become_50 rfl rfl ?_
  refine g_getR 5 (b + 6) (C := RX6) (T := TX6) (N := 9) dX6_become_51 hv.1 hv.2.1 rfl (by decide) rfl fl_RX6_29 ?_
  refine g_callV (T := TX4) (NN := 2) [] (p_become S1 (a + 6) (b + 6) hw.2.2.2.2.1 hv.2.2.2.2.1 (by omega)) dX6_become_54 kk_X6_become_X4_become ml_RX6_75 mwX4_become ewX4_become hw.2.2.2.2.1.1 hw.2.2.2.2.1.2.1 rfl rfl rfl (Nat.le_of_ble_eq_true rfl) ?_
  rintro _ S3 ⟨rfl, c4⟩
  refine g_aload_n dX6_become_57 rfl rfl ?_
  refine g_getR 6 (a + 8) (C := RX6) (T := TX6) (N := 9) dX6_become_58 hw.1 hw.2.1 rfl (by decide) rfl fl_RX6_38 ?_
  refine g_aload_n dX6_become_61 rfl rfl ?_
  refine g_getR 6 (b + 8) (C := RX6) (T := TX6) (N := 9) dX6_become_62 hv.1 hv.2.1 rfl (by decide) rfl fl_RX6_38 ?_
  refine g_callV (T := TX5) (NN := 3) [] (r_become S3 (a + 8) (b + 8) hw.2.2.2.2.2.1 hv.2.2.2.2.2.1 (by omega)) dX6_become_65 kk_X6_become_X5_become ml_RX6_78 mwX5_become ewX5_become hw.2.2.2.2.2.1.1 hw.2.2.2.2.2.1.2.1 rfl rfl rfl (Nat.le_of_ble_eq_true rfl) ?_
  rintro _ S5 ⟨rfl, c6⟩
  refine g_aload_n dX6_become_68 rfl rfl ?_
  refine g_getR 7 (a + 10) (C := RX6) (T := TX6) (N := 9) dX6_become_69 hw.1 hw.2.1 rfl (by decide) rfl fl_RX6_42 ?_
  refine g_aload_n dX6_become_72 rfl rfl ?_
  refine g_getR 7 (b + 10) (C := RX6) (T := TX6) (N := 9) dX6_become_73 hv.1 hv.2.1 rfl (by decide) rfl fl_RX6_42 ?_
  refine g_callV (T := TX5) (NN := 3) [] (r_become S5 (a + 10) (b + 10) hw.2.2.2.2.2.2.1 hv.2.2.2.2.2.2.1 (by omega)) dX6_become_76 kk_X6_become_X5_become ml_RX6_78 mwX5_become ewX5_become hw.2.2.2.2.2.2.1.1 hw.2.2.2.2.2.2.1.2.1 rfl rfl rfl (Nat.le_of_ble_eq_true rfl) ?_
  rintro _ S7 ⟨rfl, c8⟩
  refine g_aload_n dX6_become_79 rfl rfl ?_
  refine g_getR 8 (a + 12) (C := RX6) (T := TX6) (N := 9) dX6_become_80 hw.1 hw.2.1 rfl (by decide) rfl fl_RX6_45 ?_
  refine g_aload_n dX6_become_83 rfl rfl ?_
  refine g_getR 8 (b + 12) (C := RX6) (T := TX6) (N := 9) dX6_become_84 hv.1 hv.2.1 rfl (by decide) rfl fl_RX6_45 ?_
  refine g_callV (T := TX5) (NN := 3) [] (r_become S7 (a + 12) (b + 12) hw.2.2.2.2.2.2.2 hv.2.2.2.2.2.2.2 (by omega)) dX6_become_87 kk_X6_become_X5_become ml_RX6_78 mwX5_become ewX5_become hw.2.2.2.2.2.2.2.1 hw.2.2.2.2.2.2.2.2.1 rfl rfl rfl (Nat.le_of_ble_eq_true rfl) ?_
  rintro _ S9 ⟨rfl, c10⟩
  refine g_ret dX6_become_90 rfl ?_
  exact ⟨rfl, (((((((((zs_ch.rf.up (by omega) (by omega)).up (by omega) (by omega)).up (by omega) (by omega)).cp (by omega) (by omega)).and c2 (by omega) (by omega)).and c4 (by omega) (by omega)).and c6 (by omega) (by omega)).and c8 (by omega) (by omega)).and c10 (by omega) (by omega))⟩
set_option maxRecDepth 100000 in
theorem s_hand (S : zs_S) (b a : Nat) (hm : zs_Mo a) : zs_Ci MX6_drawingAtHand [.ref b, .ref a] S (fun x S2 => x = zs_ce 12 (S.1 (a + 1)) (S.1 a 0) ∧ S = S2) := by
  refine zs_C.of (by decide) (Nat.le_of_ble_eq_true rfl) ?_
  show zs_P MX6_drawingAtHand 0 [(0, .ref b), (1, .ref a)] [] S _
  refine g_aload_n dX6_drawingAtHand_0 rfl rfl ?_
  refine g_getR 3 (a + 1) (C := RX3) (T := TX3) (N := 6) dX6_drawingAtHand_1 hm.1 hm.2.1 rfl (by decide) rfl fl_RX6_130 ?_
  refine g_aload_n dX6_drawingAtHand_4 rfl rfl ?_
  refine g_getI 0 (C := RX3) (T := TX3) (N := 6) dX6_drawingAtHand_5 hm.1 hm.2.1 rfl (by decide) rfl fl_RX6_96 ?_
  refine g_callN [.ref (a + 1), .int (S.1 a 0)] [] (x_cell S (a + 1) 12 (S.1 a 0) hm.2.2.1.1 hm.2.2.1.2 (by decide)) dX6_drawingAtHand_8 kk_X6_drawingAtHand_X11_cell nl_RX6_116 swX11_cell rfl rfl (Nat.le_of_ble_eq_true rfl) ?_
  rintro _ _ ⟨_, rfl, rfl, rfl⟩
  refine g_iret dX6_drawingAtHand_11 rfl rfl ?_
  exact ⟨_, rfl, rfl, rfl⟩
