set_option maxRecDepth 100000 in
theorem y_bg1 (S : zs_S) (n t : Nat) (k : Int32) (Q : Option Value → zs_S → Prop) (hk : zs_P MX12_begins 24 [(4, .int (nI 25)), (0, .ref 80), (1, .int (nI n)), (2, .int k), (3, .int (nI t))] [] (zs_fi S 81 25 (nI 0)) Q) : ∀ (d i : Nat), i + d = 25 → zs_P MX12_begins 3 [(4, .int (nI i)), (0, .ref 80), (1, .int (nI n)), (2, .int k), (3, .int (nI t))] [] (zs_fi S 81 i (nI 0)) Q := by
  intro d
  induction d with
  | zero =>
    intro i hi
    obtain rfl : i = 25 := by omega
    refine g_iload dX12_begins_3 rfl ?_
    refine g_bipush (v := (nI 25)) dX12_begins_5 rfl ?_
    refine g_ic_geN 24 dX12_begins_7 (by decide) (by omega) (by omega) (fun _ => ?_) (fun z => absurd z (by omega))
    exact hk
  | succ d ih =>
    intro i hi
    refine g_iload dX12_begins_3 rfl ?_
    refine g_bipush (v := (nI 25)) dX12_begins_5 rfl ?_
    refine g_ic_geN 24 dX12_begins_7 (by decide) (by omega) (by omega) (fun z => absurd z (by omega)) (fun _ => ?_)
    refine g_aload_n dX12_begins_10 rfl rfl ?_
    refine g_getR 0 (81) (C := RX12) (T := TX12) (N := 19) dX12_begins_11 (by decide) rfl rfl (by decide) rfl fl_RX12_7 ?_
    refine g_iload dX12_begins_14 rfl ?_
    refine g_iconst (v := (nI 0)) dX12_begins_16 rfl ?_
    refine g_iastN dX12_begins_17 (by decide) rfl (by omega) (by decide) ?_
    refine g_iinc (v := (nI (i + 1))) (lv' := [(4, .int (nI (i + 1))), (0, .ref 80), (1, .int (nI n)), (2, .int k), (3, .int (nI t))]) dX12_begins_18 rfl (nI_1 i) (by decide) rfl ?_
    refine g_goto 3 dX12_begins_21 (by decide) ?_
    exact zs_Pst (ih (i + 1) (by omega)) zs_fi1
set_option maxRecDepth 100000 in
theorem y_bg2 (S : zs_S) (n t : Nat) (k : Int32) (Q : Option Value → zs_S → Prop) (hk : zs_P MX12_begins 48 [(4, .int (nI 66)), (0, .ref 80), (1, .int (nI n)), (2, .int k), (3, .int (nI t))] [] (zs_fi S 82 66 (nI 0)) Q) : ∀ (d i : Nat), i + d = 66 → zs_P MX12_begins 27 [(4, .int (nI i)), (0, .ref 80), (1, .int (nI n)), (2, .int k), (3, .int (nI t))] [] (zs_fi S 82 i (nI 0)) Q := by
  intro d
  induction d with
  | zero =>
    intro i hi
    obtain rfl : i = 66 := by omega
    refine g_iload dX12_begins_27 rfl ?_
    refine g_bipush (v := (nI 66)) dX12_begins_29 rfl ?_
    refine g_ic_geN 48 dX12_begins_31 (by decide) (by omega) (by omega) (fun _ => ?_) (fun z => absurd z (by omega))
    exact hk
  | succ d ih =>
    intro i hi
    refine g_iload dX12_begins_27 rfl ?_
    refine g_bipush (v := (nI 66)) dX12_begins_29 rfl ?_
    refine g_ic_geN 48 dX12_begins_31 (by decide) (by omega) (by omega) (fun z => absurd z (by omega)) (fun _ => ?_)
    refine g_aload_n dX12_begins_34 rfl rfl ?_
    refine g_getR 1 (82) (C := RX12) (T := TX12) (N := 19) dX12_begins_35 (by decide) rfl rfl (by decide) rfl fl_RX12_13 ?_
    refine g_iload dX12_begins_38 rfl ?_
    refine g_iconst (v := (nI 0)) dX12_begins_40 rfl ?_
    refine g_iastN dX12_begins_41 (by decide) rfl (by omega) (by decide) ?_
    refine g_iinc (v := (nI (i + 1))) (lv' := [(4, .int (nI (i + 1))), (0, .ref 80), (1, .int (nI n)), (2, .int k), (3, .int (nI t))]) dX12_begins_42 rfl (nI_1 i) (by decide) rfl ?_
    refine g_goto 27 dX12_begins_45 (by decide) ?_
    exact zs_Pst (ih (i + 1) (by omega)) zs_fi1
theorem zs_fii {S : zs_S} {a n j : Nat} {v : Int32} (h : j < n) : (zs_fi S a n v).1 a j = v := if_pos ⟨rfl, h⟩
theorem zs_fio {S : zs_S} {a b n j : Nat} {v : Int32} (h : b ≠ a) : (zs_fi S a n v).1 b j = S.1 b j := if_neg (fun q => h q.1)
theorem zs_Jb {S : zs_S} (hJ : zs_J S) {n t : Nat} {k : Int32} (h1 : 1 ≤ n) (h2 : n ≤ 12) (h3 : t ≤ 11) : zs_J (zs_up (zs_up (zs_up (zs_fi (zs_fi S 81 25 (nI 0)) 82 66 (nI 0)).1 82 0 (nI n)) 82 1 k) 81 2 (nI t), S.2) := by
  have e : ∀ a j, (zs_up (zs_up (zs_up (zs_fi (zs_fi S 81 25 (nI 0)) 82 66 (nI 0)).1 82 0 (nI n)) 82 1 k) 81 2 (nI t)) a j = if a = 81 ∧ j = 2 then nI t else if a = 82 ∧ j = 1 then k else if a = 82 ∧ j = 0 then nI n else if a = 82 ∧ j < 66 then nI 0 else if a = 81 ∧ j < 25 then nI 0 else S.1 a j := fun a j => rfl
  refine ⟨fun a j lo up hr => ?_, fun i hi => ?_⟩
  · by_cases c1 : a = 81 ∧ j = 2
    · obtain ⟨rfl, rfl⟩ := c1
      have : zs_rg 81 2 = some (0, 11) := rfl
      rw [this] at hr; cases hr
      exact ⟨t, Nat.zero_le _, h3, (e 81 2).trans (if_pos ⟨rfl, rfl⟩)⟩
    by_cases c2 : a = 82 ∧ j = 1
    · obtain ⟨rfl, rfl⟩ := c2
      have : zs_rg 82 1 = none := rfl
      rw [this] at hr; cases hr
    by_cases c3 : a = 82 ∧ j = 0
    · obtain ⟨rfl, rfl⟩ := c3
      have : zs_rg 82 0 = some (1, 12) := rfl
      rw [this] at hr; cases hr
      exact ⟨n, h1, h2, (e 82 0).trans (by rw [if_neg c1, if_neg c2, if_pos ⟨rfl, rfl⟩])⟩
    have hlo : lo = 0 := zs_lo0 hr c3
    by_cases c4 : a = 82 ∧ j < 66
    · exact ⟨0, by omega, Nat.zero_le _, (e a j).trans (by rw [if_neg c1, if_neg c2, if_neg c3, if_pos c4])⟩
    by_cases c5 : a = 81 ∧ j < 25
    · exact ⟨0, by omega, Nat.zero_le _, (e a j).trans (by rw [if_neg c1, if_neg c2, if_neg c3, if_neg c4, if_pos c5])⟩
    obtain ⟨m, g1, g2, g3⟩ := hJ.1 a j lo up hr
    exact ⟨m, g1, g2, (e a j).trans (by rw [if_neg c1, if_neg c2, if_neg c3, if_neg c4, if_neg c5]; exact g3)⟩
  · have e1 := (e 83 i).trans (by rw [if_neg (by omega), if_neg (by omega), if_neg (by omega), if_neg (by omega), if_neg (by omega)] : _ = S.1 83 i)
    have e2 := (e 82 (66 * (i + 1))).trans (by rw [if_neg (by omega), if_neg (by omega), if_neg (by omega), if_neg (by omega), if_neg (by omega)] : _ = S.1 82 (66 * (i + 1)))
    have h9 := hJ.2 i hi
    rw [← e1, ← e2] at h9
    exact h9
theorem zs_fb {S : zs_S} {n t : Nat} {k : Int32} : zs_fm S (zs_up (zs_up (zs_up (zs_fi (zs_fi S 81 25 (nI 0)) 82 66 (nI 0)).1 82 0 (nI n)) 82 1 k) 81 2 (nI t), S.2) := by
  intro b i hb
  have n1 : b ≠ 81 := fun z => by rw [z, show zs_pm 81 i = false from rfl] at hb; exact absurd hb (by decide)
  have n2 : b ≠ 82 := fun z => by rw [z, show zs_pm 82 i = false from rfl] at hb; exact absurd hb (by decide)
  refine ⟨?_, rfl⟩
  show (if b = 81 ∧ i = 2 then nI t else if b = 82 ∧ i = 1 then k else if b = 82 ∧ i = 0 then nI n else if b = 82 ∧ i < 66 then nI 0 else if b = 81 ∧ i < 25 then nI 0 else S.1 b i) = S.1 b i
  rw [if_neg (fun z => n1 z.1), if_neg (fun z => n2 z.1), if_neg (fun z => n2 z.1), if_neg (fun z => n2 z.1), if_neg (fun z => n1 z.1)]
set_option maxRecDepth 100000 in
theorem y_beginsX (n t : Nat) (k : Int32) (h1 : 1 ≤ n) (h2 : n ≤ 12) (h3 : t ≤ 11) (S : zs_S) (hJ : zs_J S) : zs_Cv MX12_begins [.ref 80, .int (nI n), .int k, .int (nI t)] S (fun S2 => zs_J S2 ∧ zs_fm S S2 ∧ S2.1 82 2 = nI 0 ∧ S2.1 80 = S.1 80) := by
  refine zs_C.of (by decide) (Nat.le_of_ble_eq_true rfl) ?_
  show zs_P MX12_begins 0 [(0, .ref 80), (1, .int (nI n)), (2, .int k), (3, .int (nI t))] [] S _
  refine g_iconst (v := (nI 0)) dX12_begins_0 rfl ?_
  refine g_istore (lv' := [(4, .int (nI 0)), (0, .ref 80), (1, .int (nI n)), (2, .int k), (3, .int (nI t))]) dX12_begins_1 (by decide) rfl ?_
  refine zs_Pst (y_bg1 S n t k _ ?_ 25 0 (by omega)) zs_fi0.symm
  refine g_iconst (v := (nI 0)) dX12_begins_24 rfl ?_
  refine g_istore (lv' := [(4, .int (nI 0)), (0, .ref 80), (1, .int (nI n)), (2, .int k), (3, .int (nI t))]) dX12_begins_25 (by decide) rfl ?_
  refine zs_Pst (y_bg2 (zs_fi S 81 25 (nI 0)) n t k _ ?_ 66 0 (by omega)) zs_fi0.symm
  refine g_aload_n dX12_begins_48 rfl rfl ?_
  refine g_getR 1 (82) (C := RX12) (T := TX12) (N := 19) dX12_begins_49 (by decide) rfl rfl (by decide) rfl fl_RX12_13 ?_
  refine g_iconst (v := (nI 0)) dX12_begins_52 rfl ?_
  refine g_iload_n dX12_begins_53 rfl rfl ?_
  refine g_iastN dX12_begins_54 (by decide) rfl (by omega) (by decide) ?_
  refine g_aload_n dX12_begins_55 rfl rfl ?_
  refine g_getR 1 (82) (C := RX12) (T := TX12) (N := 19) dX12_begins_56 (by decide) rfl rfl (by decide) rfl fl_RX12_13 ?_
  refine g_iconst (v := (nI 1)) dX12_begins_59 rfl ?_
  refine g_iload_n dX12_begins_60 rfl rfl ?_
  refine g_iastN dX12_begins_61 (by decide) rfl (by omega) (by decide) ?_
  refine g_aload_n dX12_begins_62 rfl rfl ?_
  refine g_getR 0 (81) (C := RX12) (T := TX12) (N := 19) dX12_begins_63 (by decide) rfl rfl (by decide) rfl fl_RX12_7 ?_
  refine g_iconst (v := (nI 2)) dX12_begins_66 rfl ?_
  refine g_iload_n dX12_begins_67 rfl rfl ?_
  refine g_iastN dX12_begins_68 (by decide) rfl (by omega) (by decide) ?_
  refine g_ret dX12_begins_69 rfl ?_
  exact ⟨rfl, zs_Jb hJ h1 h2 h3, zs_fb, ((zs_up_m (by omega)).trans ((zs_up_m (by omega)).trans ((zs_up_m (by omega)).trans (zs_fii (by decide))))), funext fun j => (zs_up_m (by omega)).trans ((zs_up_m (by omega)).trans ((zs_up_m (by omega)).trans ((zs_fio (by decide)).trans (zs_fio (by decide)))))⟩
theorem y_begins (n t : Nat) (k : Int32) (h1 : 1 ≤ n) (h2 : n ≤ 12) (h3 : t ≤ 11) : zs_U MX12_begins [.ref 80, .int (nI n), .int k, .int (nI t)] zs_Rv := fun S hJ => (y_beginsX n t k h1 h2 h3 S hJ).mono (fun _ _ q => ⟨q.1, q.2.1, q.2.2.1⟩)
theorem rg_82_3_7 (j : Nat) (h1 : 3 ≤ j) (h2 : j ≤ 7) : zs_rg 82 j = none := by
  obtain rfl | rfl | rfl | rfl | rfl : j = 3 ∨ j = 4 ∨ j = 5 ∨ j = 6 ∨ j = 7 := by omega
  all_goals rfl
theorem rg_81_15_19 (j : Nat) (h1 : 15 ≤ j) (h2 : j ≤ 19) : zs_rg 81 j = none := by
  obtain rfl | rfl | rfl | rfl | rfl : j = 15 ∨ j = 16 ∨ j = 17 ∨ j = 18 ∨ j = 19 := by omega
  all_goals rfl
theorem rg_81_20_24 (j : Nat) (h1 : 20 ≤ j) (h2 : j ≤ 24) : zs_rg 81 j = none := by
  obtain rfl | rfl | rfl | rfl | rfl : j = 20 ∨ j = 21 ∨ j = 22 ∨ j = 23 ∨ j = 24 := by omega
  all_goals rfl
set_option maxRecDepth 100000 in
theorem y_comes (k : Int32) (e : Nat) (he : e ≤ 4) (S : zs_S) (hJ : zs_J S) (h3 : S.1 82 2 = nI e) : zs_Ci MX12_comes [.ref 80, .int k] S (fun x S2 => x = nI e ∧ zs_J S2 ∧ zs_fm S S2 ∧ S2.1 82 2 = nI (e + 1) ∧ S2.1 80 = S.1 80) := by
  refine zs_C.of (by decide) (Nat.le_of_ble_eq_true rfl) ?_
  show zs_P MX12_comes 0 [(0, .ref 80), (1, .int k)] [] S _
  refine g_aload_n dX12_comes_0 rfl rfl ?_
  refine g_getR 1 (82) (C := RX12) (T := TX12) (N := 19) dX12_comes_1 (by decide) rfl rfl (by decide) rfl fl_RX12_13 ?_
  refine g_iconst (v := (nI 2)) dX12_comes_4 rfl ?_
  refine g_ialdN (v := (nI e)) dX12_comes_5 (by decide) rfl (by omega) (by decide) h3 ?_
  refine g_istore_n (lv' := [(2, .int (nI e)), (0, .ref 80), (1, .int k)]) dX12_comes_6 rfl (by decide) rfl ?_
  refine g_aload_n dX12_comes_7 rfl rfl ?_
  refine g_getR 1 (82) (C := RX12) (T := TX12) (N := 19) dX12_comes_8 (by decide) rfl rfl (by decide) rfl fl_RX12_13 ?_
  refine g_iconst (v := (nI 3)) dX12_comes_11 rfl ?_
  refine g_iload_n dX12_comes_12 rfl rfl ?_
  refine g_iaddN dX12_comes_13 ?_
  refine g_iload_n dX12_comes_14 rfl rfl ?_
  refine g_iastN dX12_comes_15 (by decide) rfl (by omega) (by decide) ?_
  refine g_aload_n dX12_comes_16 rfl rfl ?_
  refine g_getR 0 (81) (C := RX12) (T := TX12) (N := 19) dX12_comes_17 (by decide) rfl rfl (by decide) rfl fl_RX12_7 ?_
  refine g_bipush (v := (nI 15)) dX12_comes_20 rfl ?_
  refine g_iload_n dX12_comes_22 rfl rfl ?_
  refine g_iaddN dX12_comes_23 ?_
  refine g_iconst (v := (nI 0)) dX12_comes_24 rfl ?_
  refine g_iastN dX12_comes_25 (by decide) rfl (by omega) (by decide) ?_
  refine g_aload_n dX12_comes_26 rfl rfl ?_
  refine g_getR 0 (81) (C := RX12) (T := TX12) (N := 19) dX12_comes_27 (by decide) rfl rfl (by decide) rfl fl_RX12_7 ?_
  refine g_bipush (v := (nI 20)) dX12_comes_30 rfl ?_
  refine g_iload_n dX12_comes_32 rfl rfl ?_
  refine g_iaddN dX12_comes_33 ?_
  refine g_iconst (v := (nI 0)) dX12_comes_34 rfl ?_
  refine g_iastN dX12_comes_35 (by decide) rfl (by omega) (by decide) ?_
  refine g_aload_n dX12_comes_36 rfl rfl ?_
  refine g_getR 1 (82) (C := RX12) (T := TX12) (N := 19) dX12_comes_37 (by decide) rfl rfl (by decide) rfl fl_RX12_13 ?_
  refine g_iconst (v := (nI 2)) dX12_comes_40 rfl ?_
  refine g_dup2 dX12_comes_41 rfl rfl ?_
  refine g_ialdN (v := (nI e)) dX12_comes_42 (by decide) rfl (by omega) (by decide) ((zs_up_m (by omega)).trans ((zs_up_m (by omega)).trans ((zs_up_m (by omega)).trans h3))) ?_
  refine g_iconst (v := (nI 1)) dX12_comes_43 rfl ?_
  refine g_iaddN dX12_comes_44 ?_
  refine g_iastN dX12_comes_45 (by decide) rfl (by omega) (by decide) ?_
  refine g_aload_n dX12_comes_46 rfl rfl ?_
  refine g_getR 1 (82) (C := RX12) (T := TX12) (N := 19) dX12_comes_47 (by decide) rfl rfl (by decide) rfl fl_RX12_13 ?_
  refine g_bipush (v := (nI 65)) dX12_comes_50 rfl ?_
  refine g_iconst (v := (nI 0)) dX12_comes_52 rfl ?_
  refine g_iastN dX12_comes_53 (by decide) rfl (by omega) (by decide) ?_
  refine g_iload_n dX12_comes_54 rfl rfl ?_
  refine g_iret dX12_comes_55 rfl rfl ?_
  exact ⟨_, rfl, rfl, ((((((((((hJ).up (zs_okN2 (rg_82_3_7 _ (by omega) (by omega)) (by omega)))).up (zs_okN (rg_81_15_19 _ (by omega) (by omega)) (by decide) (by decide)))).up (zs_okN (rg_81_20_24 _ (by omega) (by omega)) (by decide) (by decide)))).up (zs_okR2 rfl (by omega) (by omega) (by omega)))).up (zs_okR2 rfl (by omega) (by omega) (by omega))), ((((((((((zs_fm.rf).tr (zs_fm.up rfl))).tr (zs_fm.up rfl))).tr (zs_fm.up rfl))).tr (zs_fm.up rfl))).tr (zs_fm.up rfl)), ((zs_up_m (by omega)).trans zs_up_q), funext fun j => (zs_up_m (by omega)).trans ((zs_up_m (by omega)).trans ((zs_up_m (by omega)).trans ((zs_up_m (by omega)).trans (zs_up_m (by omega)))))⟩
set_option maxRecDepth 100000 in
theorem y_known : zs_U MX12_known [.ref 80] zs_Rv := by
  refine zs_Vof (by decide) (Nat.le_of_ble_eq_true rfl) ?_
  show zs_V MX12_known 0 [(0, .ref 80)] [] _
  have tail : ∀ (S : zs_S), zs_J S → ∀ m, m ≤ 7 → S.1 82 65 = nI m → zs_P MX12_known 52 [(0, .ref 80)] [] S (fun v S2 => zs_Rv v ∧ zs_J S2 ∧ zs_fm S S2) := by
    intro S hJ m hm h3
    refine g_aload_n dX12_known_52 rfl rfl ?_
    refine g_getR 1 (82) (C := RX12) (T := TX12) (N := 19) dX12_known_53 (by decide) rfl rfl (by decide) rfl fl_RX12_13 ?_
    refine g_bipush (v := (nI 65)) dX12_known_56 rfl ?_
    refine g_dup2 dX12_known_58 rfl rfl ?_
    refine g_ialdN (v := (nI m)) dX12_known_59 (by decide) rfl (by omega) (by decide) h3 ?_
    refine g_iconst (v := (nI 1)) dX12_known_60 rfl ?_
    refine g_iaddN dX12_known_61 ?_
    refine g_iastN dX12_known_62 (by decide) rfl (by omega) (by decide) ?_
    refine g_aload_n dX12_known_63 rfl rfl ?_
    refine g_iconst (v := (nI 0)) dX12_known_64 rfl ?_
    refine g_aload_n dX12_known_65 rfl rfl ?_
    refine g_getR 1 (82) (C := RX12) (T := TX12) (N := 19) dX12_known_66 (by decide) rfl rfl (by decide) rfl fl_RX12_13 ?_
    refine g_bipush (v := (nI 65)) dX12_known_69 rfl ?_
    refine g_ialdN (v := (nI (m + 1))) dX12_known_71 (by decide) rfl (by omega) (by decide) zs_up_q ?_
    refine g_bipush (v := (nI 25)) dX12_known_72 rfl ?_
    refine g_imulN dX12_known_74 ?_
    refine g_callV (T := TX12) (NN := 19) [] (y_copiesX 0 ((m + 1) * 25) (by omega) (by omega) (by omega) (by omega) (zs_up S.1 82 65 (nI (m + 1)), S.2) ((hJ).up (zs_okR2 rfl (by omega) (by omega) (by omega)))) dX12_known_75 kk_X12_known_X12_copies ml_RX12_169 mwX12_copies ewX12_copies (by decide) rfl rfl rfl rfl (Nat.le_of_ble_eq_true rfl) ?_
    rintro _ S1 ⟨rfl, jS1⟩
    refine g_ret dX12_known_78 rfl ?_
    exact ⟨rfl, jS1.1, ((((zs_fm.rf).tr (zs_fm.up rfl))).tr jS1.2.1)⟩
  have aft : ∀ i : Int32, zs_V MX12_known 43 [(1, .int i), (0, .ref 80)] [] zs_Rv := by
    intro i S hJ
    refine g_aload_n dX12_known_43 rfl rfl ?_
    refine g_getR 1 82 (C := RX12) (T := TX12) (N := 19) dX12_known_44 (by decide) rfl rfl (by decide) rfl fl_RX12_13 ?_
    refine g_bipush (v := nI 65) dX12_known_47 rfl ?_
    refine g_bipush (v := nI 7) dX12_known_49 rfl ?_
    refine g_iastN dX12_known_51 (by decide) rfl (by decide) (by decide) ?_
    exact ((tail _ (hJ.up (zs_okR2 rfl (by decide) (by decide) (by decide))) 7 (by decide) zs_up_q).lv (zs_mc 1 rfl zs_mn)).mono (fun _ _ q => ⟨q.1, q.2.1, (zs_fm.up rfl).tr q.2.2⟩)
  have key : ∀ (d i : Nat), 25 ≤ i → i + d = 200 → zs_V MX12_known 15 [(1, .int (nI i)), (0, .ref 80)] [] zs_Rv := by
    intro d
    induction d with
    | zero =>
      intro i h25 hi
      refine n_iload_n dX12_known_15 rfl rfl ?_
      refine n_sipush (v := nI 200) dX12_known_16 rfl ?_
      exact n_ic_geN 43 dX12_known_19 (by decide) (by omega) (by omega) (fun _ => aft _) (fun z => absurd z (by omega))
    | succ d ih =>
      intro i h25 hi
      refine n_iload_n dX12_known_15 rfl rfl ?_
      refine n_sipush (v := nI 200) dX12_known_16 rfl ?_
      refine n_ic_geN 43 dX12_known_19 (by decide) (by omega) (by omega) (fun z => absurd z (by omega)) (fun _ => ?_)
      refine n_aload_n dX12_known_22 rfl rfl ?_
      refine n_getR 0 81 (C := RX12) (T := TX12) (N := 19) dX12_known_23 (by decide) rfl rfl (by decide) rfl fl_RX12_7 ?_
      refine n_iload_n dX12_known_26 rfl rfl ?_
      refine n_aload_n dX12_known_27 rfl rfl ?_
      refine n_getR 0 81 (C := RX12) (T := TX12) (N := 19) dX12_known_28 (by decide) rfl rfl (by decide) rfl fl_RX12_7 ?_
      refine n_iload_n dX12_known_31 rfl rfl ?_
      refine n_bipush (v := nI 25) dX12_known_32 rfl ?_
      refine n_iaddN dX12_known_34 ?_
      refine n_aldX (j := i) dX12_known_35 (by omega) (by omega) (fun v hv => ?_)
      refine n_ast dX12_known_36 (by decide) rfl (by omega) (by decide) rfl hv ?_
      refine n_iinc (v := nI (i + 1)) (lv' := [(1, .int (nI (i + 1))), (0, .ref 80)]) dX12_known_37 rfl (nI_1 i) (by decide) rfl ?_
      refine n_goto 15 dX12_known_40 (by decide) ?_
      exact ih (i + 1) (by omega) (by omega)
  intro S hJ
  obtain ⟨m, h1, h2, h3⟩ := hJ.1 82 65 0 8 rfl
  refine g_aload_n dX12_known_0 rfl rfl ?_
  refine g_getR 1 82 (C := RX12) (T := TX12) (N := 19) dX12_known_1 (by decide) rfl rfl (by decide) rfl fl_RX12_13 ?_
  refine g_bipush (v := nI 65) dX12_known_4 rfl ?_
  refine g_ialdN (v := nI m) dX12_known_6 (by decide) rfl (by decide) (by decide) h3 ?_
  refine g_bipush (v := nI 8) dX12_known_7 rfl ?_
  refine g_ic_neN 52 dX12_known_9 (by decide) (by omega) (by omega) (fun h => tail S hJ m (by omega) h3) (fun h => ?_)
  refine g_bipush (v := nI 25) dX12_known_12 rfl ?_
  refine g_istore_n (lv' := [(1, .int (nI 25)), (0, .ref 80)]) dX12_known_14 rfl (by decide) rfl ?_
  exact key 175 25 (by decide) (by decide) S hJ
set_option maxRecDepth 100000 in
theorem y_X12_eye (a1 : Int32) : zs_U MX12_eye [.ref 80, .int a1] zs_Ri := by
  refine zs_Vof (by decide) (Nat.le_of_ble_eq_true rfl) ?_
  show zs_V MX12_eye 0 [(0, .ref 80), (1, .int a1)] [] zs_Ri
  refine n_iload_n dX12_eye_0 rfl rfl ?_
  refine n_i2l dX12_eye_1 ?_
  refine n_lconst (v := 0) dX12_eye_2 (by decide) ?_
  refine n_ldc2 (v := 5) dX12_eye_3 cl_RX12_58 ?_
  refine n_callS [.long (Int32.toInt64 a1), .long 0, .long 5] [] (y_in (Int32.toInt64 a1) 0 5) dX12_eye_6 kk_X12_eye_X12_in ml_RX12_54 swX12_in rfl rfl (Nat.le_of_ble_eq_true rfl) ?_
  rintro _ ⟨x1, rfl, bx1, fx1⟩
  refine n_if_ne 17 dX12_eye_9 (by decide) (fun h2 => ?_) (fun h2 => ?_)
  · obtain ⟨k3, lk3, uk3, rfl⟩ := zs_inR (lo := 0) (hi := 5) (fx1 h2) (by decide) (by decide)
    intro S hJ
    obtain ⟨m, h1, h2, h3⟩ := hJ.1 82 2 0 5 rfl
    refine g_aload_n dX12_eye_17 rfl rfl ?_
    refine g_getR 1 (82) (C := RX12) (T := TX12) (N := 19) dX12_eye_18 (by decide) rfl rfl (by decide) rfl fl_RX12_13 ?_
    refine g_iconst (v := (nI 2)) dX12_eye_21 rfl ?_
    refine g_ialdN (v := (nI m)) dX12_eye_22 (by decide) rfl (by omega) (by decide) h3 ?_
    refine g_iconst (v := (nI 5)) dX12_eye_23 rfl ?_
    refine g_ic_neN 34 dX12_eye_24 (by decide) (by omega) (by omega) (fun h1 => ?_) (fun h1 => ?_)
    · refine g_aload_n dX12_eye_34 rfl rfl ?_
      refine g_iload_n dX12_eye_35 rfl rfl ?_
      refine g_callV (T := TX12) (NN := 19) [] (y_comes (nI k3) m (by omega) S hJ h3) dX12_eye_36 kk_X12_eye_X12_comes ml_RX12_69 mwX12_comes ewX12_comes (by decide) rfl rfl rfl rfl (Nat.le_of_ble_eq_true rfl) ?_
      rintro _ S2 ⟨x3, rfl, -, jS2, fS2, -, -⟩
      refine g_iret dX12_eye_39 rfl rfl ?_
      exact ⟨⟨_, rfl⟩, jS2, ((zs_fm.rf).tr fS2)⟩
    · refine g_aload_n dX12_eye_27 rfl rfl ?_
      refine g_callV (T := TX12) (NN := 19) [] (y_X12_full S hJ) dX12_eye_28 kk_X12_eye_X12_full ml_RX12_66 mwX12_full ewX12_full (by decide) rfl rfl rfl rfl (Nat.le_of_ble_eq_true rfl) ?_
      rintro _ S4 ⟨⟨x5, rfl⟩, jS4, fS4⟩
      refine g_goto 39 dX12_eye_31 (by decide) ?_
      refine g_iret dX12_eye_39 rfl rfl ?_
      exact ⟨⟨_, rfl⟩, jS4, ((zs_fm.rf).tr fS4)⟩
  · refine n_aload_n dX12_eye_12 rfl rfl ?_
    refine n_callV (T := TX12) (NN := 19) [] (y_X12_bad) dX12_eye_13 kk_X12_eye_X12_bad ml_RX12_62 mwX12_bad ewX12_bad (by decide) rfl rfl rfl rfl (Nat.le_of_ble_eq_true rfl) ?_
    rintro _ ⟨x4, rfl⟩
    exact n_iret dX12_eye_16 rfl rfl ⟨_, rfl⟩
set_option maxRecDepth 100000 in
theorem y_X12_undo : zs_U MX12_undo [.ref 80] zs_Ri := by
  refine zs_Vof (by decide) (Nat.le_of_ble_eq_true rfl) ?_
  show zs_V MX12_undo 0 [(0, .ref 80)] [] zs_Ri
  intro S hJ
  obtain ⟨m, h1, h2, h3⟩ := hJ.1 82 65 0 8 rfl
  refine g_aload_n dX12_undo_0 rfl rfl ?_
  refine g_getR 1 (82) (C := RX12) (T := TX12) (N := 19) dX12_undo_1 (by decide) rfl rfl (by decide) rfl fl_RX12_13 ?_
  refine g_bipush (v := (nI 65)) dX12_undo_4 rfl ?_
  refine g_ialdN (v := (nI m)) dX12_undo_6 (by decide) rfl (by omega) (by decide) h3 ?_
  refine g_if_neN 15 dX12_undo_7 (by decide) (by omega) (fun h1 => ?_) (fun h1 => ?_)
  · refine g_aload_n dX12_undo_15 rfl rfl ?_
    refine g_aload_n dX12_undo_16 rfl rfl ?_
    refine g_getR 1 (82) (C := RX12) (T := TX12) (N := 19) dX12_undo_17 (by decide) rfl rfl (by decide) rfl fl_RX12_13 ?_
    refine g_bipush (v := (nI 65)) dX12_undo_20 rfl ?_
    refine g_ialdN (v := (nI m)) dX12_undo_22 (by decide) rfl (by omega) (by decide) h3 ?_
    refine g_bipush (v := (nI 25)) dX12_undo_23 rfl ?_
    refine g_imulN dX12_undo_25 ?_
    refine g_iconst (v := (nI 0)) dX12_undo_26 rfl ?_
    refine g_callV (T := TX12) (NN := 19) [] (y_copiesX (m * 25) 0 (by omega) (by omega) (by omega) (by omega) S hJ) dX12_undo_27 kk_X12_undo_X12_copies ml_RX12_169 mwX12_copies ewX12_copies (by decide) rfl rfl rfl rfl (Nat.le_of_ble_eq_true rfl) ?_
    rintro _ S2 ⟨rfl, jS2⟩
    refine g_aload_n dX12_undo_30 rfl rfl ?_
    refine g_getR 1 (82) (C := RX12) (T := TX12) (N := 19) dX12_undo_31 (by decide) rfl rfl (by decide) rfl fl_RX12_13 ?_
    refine g_bipush (v := (nI 65)) dX12_undo_34 rfl ?_
    refine g_dup2 dX12_undo_36 rfl rfl ?_
    refine g_ialdN (v := (nI m)) dX12_undo_37 (by decide) rfl (by omega) (by decide) ((congrFun jS2.2.2.1 65).trans h3) ?_
    refine g_iconst (v := (nI 1)) dX12_undo_38 rfl ?_
    refine g_isubN dX12_undo_39 (by omega) ?_
    refine g_iastN dX12_undo_40 (by decide) rfl (by omega) (by decide) ?_
    refine g_aload_n dX12_undo_41 rfl rfl ?_
    refine g_getR 0 (81) (C := RX12) (T := TX12) (N := 19) dX12_undo_42 (by decide) rfl rfl (by decide) rfl fl_RX12_7 ?_
    refine g_iconst (v := (nI 1)) dX12_undo_45 rfl ?_
    refine g_ialdN (v := ((zs_up S2.1 82 65 (nI (m - 1)), S2.2).1 81 1)) dX12_undo_46 (by decide) rfl (by omega) (by decide) rfl ?_
    refine g_iret dX12_undo_47 rfl rfl ?_
    exact ⟨⟨_, rfl⟩, ((jS2.1).up (zs_okR2 rfl (by omega) (by omega) (by omega))), ((((zs_fm.rf).tr jS2.2.1)).tr (zs_fm.up rfl))⟩
  · refine g_aload_n dX12_undo_10 rfl rfl ?_
    refine g_callV (T := TX12) (NN := 19) [] (y_X12_no S hJ) dX12_undo_11 kk_X12_undo_X12_no ml_RX12_178 mwX12_no ewX12_no (by decide) rfl rfl rfl rfl (Nat.le_of_ble_eq_true rfl) ?_
    rintro _ S3 ⟨⟨x4, rfl⟩, jS3, fS3⟩
    refine g_iret dX12_undo_14 rfl rfl ?_
    exact ⟨⟨_, rfl⟩, jS3, ((zs_fm.rf).tr fS3)⟩
theorem rg_82_15_20 (j : Nat) (h1 : 15 ≤ j) (h2 : j ≤ 20) : zs_rg 82 j = none := by
  obtain rfl | rfl | rfl | rfl | rfl | rfl : j = 15 ∨ j = 16 ∨ j = 17 ∨ j = 18 ∨ j = 19 ∨ j = 20 := by omega
  all_goals rfl
set_option maxRecDepth 100000 in
theorem y_X12_seen (a1 : Int32) (a2 : Int32) : zs_U MX12_seen [.ref 80, .int a1, .int a2] zs_Ri := by
  refine zs_Vof (by decide) (Nat.le_of_ble_eq_true rfl) ?_
  show zs_V MX12_seen 0 [(0, .ref 80), (1, .int a1), (2, .int a2)] [] zs_Ri
  refine n_iload_n dX12_seen_0 rfl rfl ?_
  refine n_i2l dX12_seen_1 ?_
  refine n_lconst (v := 1) dX12_seen_2 (by decide) ?_
  refine n_ldc2 (v := 30) dX12_seen_3 cl_RX12_202 ?_
  refine n_callS [.long (Int32.toInt64 a1), .long 1, .long 30] [] (y_in (Int32.toInt64 a1) 1 30) dX12_seen_6 kk_X12_seen_X12_in ml_RX12_54 swX12_in rfl rfl (Nat.le_of_ble_eq_true rfl) ?_
  rintro _ ⟨x1, rfl, bx1, fx1⟩
  refine n_if_eq 24 dX12_seen_9 (by decide) (fun h2 => ?_) (fun h2 => ?_)
  · refine n_aload_n dX12_seen_24 rfl rfl ?_
    refine n_callV (T := TX12) (NN := 19) [] (y_X12_bad) dX12_seen_25 kk_X12_seen_X12_bad ml_RX12_62 mwX12_bad ewX12_bad (by decide) rfl rfl rfl rfl (Nat.le_of_ble_eq_true rfl) ?_
    rintro _ ⟨x3, rfl⟩
    exact n_iret dX12_seen_28 rfl rfl ⟨_, rfl⟩
  · obtain ⟨k4, lk4, uk4, rfl⟩ := zs_inR (lo := 1) (hi := 30) (fx1 h2) (by decide) (by decide)
    refine n_iload_n dX12_seen_12 rfl rfl ?_
    refine n_i2l dX12_seen_13 ?_
    refine n_lconst (v := 0) dX12_seen_14 (by decide) ?_
    refine n_ldc2 (v := 9) dX12_seen_15 cl_RX12_121 ?_
    refine n_callS [.long (Int32.toInt64 a2), .long 0, .long 9] [] (y_in (Int32.toInt64 a2) 0 9) dX12_seen_18 kk_X12_seen_X12_in ml_RX12_54 swX12_in rfl rfl (Nat.le_of_ble_eq_true rfl) ?_
    rintro _ ⟨x5, rfl, bx5, fx5⟩
    refine n_if_ne 29 dX12_seen_21 (by decide) (fun h6 => ?_) (fun h6 => ?_)
    · obtain ⟨k7, lk7, uk7, rfl⟩ := zs_inR (lo := 0) (hi := 9) (fx5 h6) (by decide) (by decide)
      intro S hJ
      obtain ⟨m, h1, h2, h3⟩ := hJ.1 82 8 0 6 rfl
      refine g_aload_n dX12_seen_29 rfl rfl ?_
      refine g_getR 1 (82) (C := RX12) (T := TX12) (N := 19) dX12_seen_30 (by decide) rfl rfl (by decide) rfl fl_RX12_13 ?_
      refine g_bipush (v := (nI 8)) dX12_seen_33 rfl ?_
      refine g_ialdN (v := (nI m)) dX12_seen_35 (by decide) rfl (by omega) (by decide) h3 ?_
      refine g_istore_n (lv' := [(3, .int (nI m)), (0, .ref 80), (1, .int (nI k4)), (2, .int (nI k7))]) dX12_seen_36 rfl (by decide) rfl ?_
      refine g_iload_n dX12_seen_37 rfl rfl ?_
      refine g_bipush (v := (nI 6)) dX12_seen_38 rfl ?_
      refine g_ic_neN 48 dX12_seen_40 (by decide) (by omega) (by omega) (fun h1 => ?_) (fun h1 => ?_)
      · refine g_aload_n dX12_seen_48 rfl rfl ?_
        refine g_getR 1 (82) (C := RX12) (T := TX12) (N := 19) dX12_seen_49 (by decide) rfl rfl (by decide) rfl fl_RX12_13 ?_
        refine g_bipush (v := (nI 9)) dX12_seen_52 rfl ?_
        refine g_iload_n dX12_seen_54 rfl rfl ?_
        refine g_iaddN dX12_seen_55 ?_
        refine g_iload_n dX12_seen_56 rfl rfl ?_
        refine g_iastN dX12_seen_57 (by decide) rfl (by omega) (by decide) ?_
        refine g_aload_n dX12_seen_58 rfl rfl ?_
        refine g_getR 1 (82) (C := RX12) (T := TX12) (N := 19) dX12_seen_59 (by decide) rfl rfl (by decide) rfl fl_RX12_13 ?_
        refine g_bipush (v := (nI 15)) dX12_seen_62 rfl ?_
        refine g_iload_n dX12_seen_64 rfl rfl ?_
        refine g_iaddN dX12_seen_65 ?_
        refine g_iload_n dX12_seen_66 rfl rfl ?_
        refine g_iastN dX12_seen_67 (by decide) rfl (by omega) (by decide) ?_
        refine g_aload_n dX12_seen_68 rfl rfl ?_
        refine g_getR 1 (82) (C := RX12) (T := TX12) (N := 19) dX12_seen_69 (by decide) rfl rfl (by decide) rfl fl_RX12_13 ?_
        refine g_bipush (v := (nI 8)) dX12_seen_72 rfl ?_
        refine g_dup2 dX12_seen_74 rfl rfl ?_
        refine g_ialdN (v := (nI m)) dX12_seen_75 (by decide) rfl (by omega) (by decide) ((zs_up_m (by omega)).trans ((zs_up_m (by omega)).trans h3)) ?_
        refine g_iconst (v := (nI 1)) dX12_seen_76 rfl ?_
        refine g_iaddN dX12_seen_77 ?_
        refine g_iastN dX12_seen_78 (by decide) rfl (by omega) (by decide) ?_
        refine g_aload_n dX12_seen_79 rfl rfl ?_
        refine g_getR 1 (82) (C := RX12) (T := TX12) (N := 19) dX12_seen_80 (by decide) rfl rfl (by decide) rfl fl_RX12_13 ?_
        refine g_bipush (v := (nI 8)) dX12_seen_83 rfl ?_
        refine g_ialdN (v := (nI (m + 1))) dX12_seen_85 (by decide) rfl (by omega) (by decide) zs_up_q ?_
        refine g_iret dX12_seen_86 rfl rfl ?_
        exact ⟨⟨_, rfl⟩, ((((((hJ).up (zs_okR2 (rg_82_9_14 _ (by omega) (by omega)) (by omega) (by omega) (by omega)))).up (zs_okN2 (rg_82_15_20 _ (by omega) (by omega)) (by omega)))).up (zs_okR2 rfl (by omega) (by omega) (by omega))), ((((((zs_fm.rf).tr (zs_fm.up rfl))).tr (zs_fm.up rfl))).tr (zs_fm.up rfl))⟩
      · refine g_aload_n dX12_seen_43 rfl rfl ?_
        refine g_callV (T := TX12) (NN := 19) [] (y_X12_full S hJ) dX12_seen_44 kk_X12_seen_X12_full ml_RX12_66 mwX12_full ewX12_full (by decide) rfl rfl rfl rfl (Nat.le_of_ble_eq_true rfl) ?_
        rintro _ S2 ⟨⟨x3, rfl⟩, jS2, fS2⟩
        refine g_iret dX12_seen_47 rfl rfl ?_
        exact ⟨⟨_, rfl⟩, jS2, ((zs_fm.rf).tr fS2)⟩
    · refine n_aload_n dX12_seen_24 rfl rfl ?_
      refine n_callV (T := TX12) (NN := 19) [] (y_X12_bad) dX12_seen_25 kk_X12_seen_X12_bad ml_RX12_62 mwX12_bad ewX12_bad (by decide) rfl rfl rfl rfl (Nat.le_of_ble_eq_true rfl) ?_
      rintro _ ⟨x8, rfl⟩
      exact n_iret dX12_seen_28 rfl rfl ⟨_, rfl⟩
theorem rg_82_22_27 (j : Nat) (h1 : 22 ≤ j) (h2 : j ≤ 27) : zs_rg 82 j = none := by
  obtain rfl | rfl | rfl | rfl | rfl | rfl : j = 22 ∨ j = 23 ∨ j = 24 ∨ j = 25 ∨ j = 26 ∨ j = 27 := by omega
  all_goals rfl
theorem rg_82_28_33 (j : Nat) (h1 : 28 ≤ j) (h2 : j ≤ 33) : zs_rg 82 j = none := by
  obtain rfl | rfl | rfl | rfl | rfl | rfl : j = 28 ∨ j = 29 ∨ j = 30 ∨ j = 31 ∨ j = 32 ∨ j = 33 := by omega
  all_goals rfl
theorem rg_82_34_39 (j : Nat) (h1 : 34 ≤ j) (h2 : j ≤ 39) : zs_rg 82 j = none := by
  obtain rfl | rfl | rfl | rfl | rfl | rfl : j = 34 ∨ j = 35 ∨ j = 36 ∨ j = 37 ∨ j = 38 ∨ j = 39 := by omega
  all_goals rfl
theorem rg_82_40_45 (j : Nat) (h1 : 40 ≤ j) (h2 : j ≤ 45) : zs_rg 82 j = none := by
  obtain rfl | rfl | rfl | rfl | rfl | rfl : j = 40 ∨ j = 41 ∨ j = 42 ∨ j = 43 ∨ j = 44 ∨ j = 45 := by omega
  all_goals rfl
set_option maxRecDepth 100000 in
theorem y_X12_note (a1 : Int32) (a2 : Int32) (a3 : Int32) (a4 : Int32) : zs_U MX12_note [.ref 80, .int a1, .int a2, .int a3, .int a4] zs_Ri := by
  refine zs_Vof (by decide) (Nat.le_of_ble_eq_true rfl) ?_
  show zs_V MX12_note 0 [(0, .ref 80), (1, .int a1), (2, .int a2), (3, .int a3), (4, .int a4)] [] zs_Ri
  refine n_aload_n dX12_note_0 rfl rfl ?_
  refine n_iload_n dX12_note_1 rfl rfl ?_
  refine n_callV (T := TX12) (NN := 19) [] (y_isEye a1) dX12_note_2 kk_X12_note_X12_isEye ml_RX12_185 mwX12_isEye ewX12_isEye (by decide) rfl rfl rfl rfl (Nat.le_of_ble_eq_true rfl) ?_
  rintro _ ⟨x1, rfl, bx1, fx1⟩
  refine n_if_eq 45 dX12_note_5 (by decide) (fun h2 => ?_) (fun h2 => ?_)
  · refine n_aload_n dX12_note_45 rfl rfl ?_
    refine n_callV (T := TX12) (NN := 19) [] (y_X12_bad) dX12_note_46 kk_X12_note_X12_bad ml_RX12_62 mwX12_bad ewX12_bad (by decide) rfl rfl rfl rfl (Nat.le_of_ble_eq_true rfl) ?_
    rintro _ ⟨x3, rfl⟩
    exact n_iret dX12_note_49 rfl rfl ⟨_, rfl⟩
  · obtain ⟨k4, uk4, rfl⟩ := fx1 h2
    refine n_iload_n dX12_note_8 rfl rfl ?_
    refine n_i2l dX12_note_9 ?_
    refine n_lconst (v := 0) dX12_note_10 (by decide) ?_
    refine n_ldc2 (v := 9) dX12_note_11 cl_RX12_121 ?_
    refine n_callS [.long (Int32.toInt64 a2), .long 0, .long 9] [] (y_in (Int32.toInt64 a2) 0 9) dX12_note_14 kk_X12_note_X12_in ml_RX12_54 swX12_in rfl rfl (Nat.le_of_ble_eq_true rfl) ?_
    rintro _ ⟨x5, rfl, bx5, fx5⟩
    refine n_if_eq 45 dX12_note_17 (by decide) (fun h6 => ?_) (fun h6 => ?_)
    · refine n_aload_n dX12_note_45 rfl rfl ?_
      refine n_callV (T := TX12) (NN := 19) [] (y_X12_bad) dX12_note_46 kk_X12_note_X12_bad ml_RX12_62 mwX12_bad ewX12_bad (by decide) rfl rfl rfl rfl (Nat.le_of_ble_eq_true rfl) ?_
      rintro _ ⟨x7, rfl⟩
      exact n_iret dX12_note_49 rfl rfl ⟨_, rfl⟩
    · obtain ⟨k8, lk8, uk8, rfl⟩ := zs_inR (lo := 0) (hi := 9) (fx5 h6) (by decide) (by decide)
      refine n_iload_n dX12_note_20 rfl rfl ?_
      refine n_i2l dX12_note_21 ?_
      refine n_lconst (v := 0) dX12_note_22 (by decide) ?_
      refine n_ldc2 (v := 9) dX12_note_23 cl_RX12_121 ?_
      refine n_callS [.long (Int32.toInt64 a3), .long 0, .long 9] [] (y_in (Int32.toInt64 a3) 0 9) dX12_note_26 kk_X12_note_X12_in ml_RX12_54 swX12_in rfl rfl (Nat.le_of_ble_eq_true rfl) ?_
      rintro _ ⟨x9, rfl, bx9, fx9⟩
      refine n_if_eq 45 dX12_note_29 (by decide) (fun h10 => ?_) (fun h10 => ?_)
      · refine n_aload_n dX12_note_45 rfl rfl ?_
        refine n_callV (T := TX12) (NN := 19) [] (y_X12_bad) dX12_note_46 kk_X12_note_X12_bad ml_RX12_62 mwX12_bad ewX12_bad (by decide) rfl rfl rfl rfl (Nat.le_of_ble_eq_true rfl) ?_
        rintro _ ⟨x11, rfl⟩
        exact n_iret dX12_note_49 rfl rfl ⟨_, rfl⟩
      · obtain ⟨k12, lk12, uk12, rfl⟩ := zs_inR (lo := 0) (hi := 9) (fx9 h10) (by decide) (by decide)
        refine n_iload dX12_note_32 rfl ?_
        refine n_i2l dX12_note_34 ?_
        refine n_lconst (v := 0) dX12_note_35 (by decide) ?_
        refine n_ldc2 (v := 9) dX12_note_36 cl_RX12_121 ?_
        refine n_callS [.long (Int32.toInt64 a4), .long 0, .long 9] [] (y_in (Int32.toInt64 a4) 0 9) dX12_note_39 kk_X12_note_X12_in ml_RX12_54 swX12_in rfl rfl (Nat.le_of_ble_eq_true rfl) ?_
        rintro _ ⟨x13, rfl, bx13, fx13⟩
        refine n_if_ne 50 dX12_note_42 (by decide) (fun h14 => ?_) (fun h14 => ?_)
        · obtain ⟨k15, lk15, uk15, rfl⟩ := zs_inR (lo := 0) (hi := 9) (fx13 h14) (by decide) (by decide)
          intro S hJ
          obtain ⟨m, h1, h2, h3⟩ := hJ.1 82 21 0 6 rfl
          refine g_aload_n dX12_note_50 rfl rfl ?_
          refine g_getR 1 (82) (C := RX12) (T := TX12) (N := 19) dX12_note_51 (by decide) rfl rfl (by decide) rfl fl_RX12_13 ?_
          refine g_bipush (v := (nI 21)) dX12_note_54 rfl ?_
          refine g_ialdN (v := (nI m)) dX12_note_56 (by decide) rfl (by omega) (by decide) h3 ?_
          refine g_istore (lv' := [(5, .int (nI m)), (0, .ref 80), (1, .int (nI k4)), (2, .int (nI k8)), (3, .int (nI k12)), (4, .int (nI k15))]) dX12_note_57 (by decide) rfl ?_
          refine g_iload dX12_note_59 rfl ?_
          refine g_bipush (v := (nI 6)) dX12_note_61 rfl ?_
          refine g_ic_neN 71 dX12_note_63 (by decide) (by omega) (by omega) (fun h1 => ?_) (fun h1 => ?_)
          · refine g_aload_n dX12_note_71 rfl rfl ?_
            refine g_getR 1 (82) (C := RX12) (T := TX12) (N := 19) dX12_note_72 (by decide) rfl rfl (by decide) rfl fl_RX12_13 ?_
            refine g_bipush (v := (nI 22)) dX12_note_75 rfl ?_
            refine g_iload dX12_note_77 rfl ?_
            refine g_iaddN dX12_note_79 ?_
            refine g_iload_n dX12_note_80 rfl rfl ?_
            refine g_iastN dX12_note_81 (by decide) rfl (by omega) (by decide) ?_
            refine g_aload_n dX12_note_82 rfl rfl ?_
            refine g_getR 1 (82) (C := RX12) (T := TX12) (N := 19) dX12_note_83 (by decide) rfl rfl (by decide) rfl fl_RX12_13 ?_
            refine g_bipush (v := (nI 28)) dX12_note_86 rfl ?_
            refine g_iload dX12_note_88 rfl ?_
            refine g_iaddN dX12_note_90 ?_
            refine g_iload_n dX12_note_91 rfl rfl ?_
            refine g_iastN dX12_note_92 (by decide) rfl (by omega) (by decide) ?_
            refine g_aload_n dX12_note_93 rfl rfl ?_
            refine g_getR 1 (82) (C := RX12) (T := TX12) (N := 19) dX12_note_94 (by decide) rfl rfl (by decide) rfl fl_RX12_13 ?_
            refine g_bipush (v := (nI 34)) dX12_note_97 rfl ?_
            refine g_iload dX12_note_99 rfl ?_
            refine g_iaddN dX12_note_101 ?_
            refine g_iload_n dX12_note_102 rfl rfl ?_
            refine g_iastN dX12_note_103 (by decide) rfl (by omega) (by decide) ?_
            refine g_aload_n dX12_note_104 rfl rfl ?_
            refine g_getR 1 (82) (C := RX12) (T := TX12) (N := 19) dX12_note_105 (by decide) rfl rfl (by decide) rfl fl_RX12_13 ?_
            refine g_bipush (v := (nI 40)) dX12_note_108 rfl ?_
            refine g_iload dX12_note_110 rfl ?_
            refine g_iaddN dX12_note_112 ?_
            refine g_iload dX12_note_113 rfl ?_
            refine g_iastN dX12_note_115 (by decide) rfl (by omega) (by decide) ?_
            refine g_aload_n dX12_note_116 rfl rfl ?_
            refine g_getR 1 (82) (C := RX12) (T := TX12) (N := 19) dX12_note_117 (by decide) rfl rfl (by decide) rfl fl_RX12_13 ?_
            refine g_bipush (v := (nI 21)) dX12_note_120 rfl ?_
            refine g_dup2 dX12_note_122 rfl rfl ?_
            refine g_ialdN (v := (nI m)) dX12_note_123 (by decide) rfl (by omega) (by decide) ((zs_up_m (by omega)).trans ((zs_up_m (by omega)).trans ((zs_up_m (by omega)).trans ((zs_up_m (by omega)).trans h3)))) ?_
            refine g_iconst (v := (nI 1)) dX12_note_124 rfl ?_
            refine g_iaddN dX12_note_125 ?_
            refine g_iastN dX12_note_126 (by decide) rfl (by omega) (by decide) ?_
            refine g_aload_n dX12_note_127 rfl rfl ?_
            refine g_getR 1 (82) (C := RX12) (T := TX12) (N := 19) dX12_note_128 (by decide) rfl rfl (by decide) rfl fl_RX12_13 ?_
            refine g_bipush (v := (nI 21)) dX12_note_131 rfl ?_
            refine g_ialdN (v := (nI (m + 1))) dX12_note_133 (by decide) rfl (by omega) (by decide) zs_up_q ?_
            refine g_iret dX12_note_134 rfl rfl ?_
            exact ⟨⟨_, rfl⟩, ((((((((((hJ).up (zs_okN2 (rg_82_22_27 _ (by omega) (by omega)) (by omega)))).up (zs_okN2 (rg_82_28_33 _ (by omega) (by omega)) (by omega)))).up (zs_okN2 (rg_82_34_39 _ (by omega) (by omega)) (by omega)))).up (zs_okN2 (rg_82_40_45 _ (by omega) (by omega)) (by omega)))).up (zs_okR2 rfl (by omega) (by omega) (by omega))), ((((((((((zs_fm.rf).tr (zs_fm.up rfl))).tr (zs_fm.up rfl))).tr (zs_fm.up rfl))).tr (zs_fm.up rfl))).tr (zs_fm.up rfl))⟩
          · refine g_aload_n dX12_note_66 rfl rfl ?_
            refine g_callV (T := TX12) (NN := 19) [] (y_X12_full S hJ) dX12_note_67 kk_X12_note_X12_full ml_RX12_66 mwX12_full ewX12_full (by decide) rfl rfl rfl rfl (Nat.le_of_ble_eq_true rfl) ?_
            rintro _ S2 ⟨⟨x3, rfl⟩, jS2, fS2⟩
            refine g_iret dX12_note_70 rfl rfl ?_
            exact ⟨⟨_, rfl⟩, jS2, ((zs_fm.rf).tr fS2)⟩
        · refine n_aload_n dX12_note_45 rfl rfl ?_
          refine n_callV (T := TX12) (NN := 19) [] (y_X12_bad) dX12_note_46 kk_X12_note_X12_bad ml_RX12_62 mwX12_bad ewX12_bad (by decide) rfl rfl rfl rfl (Nat.le_of_ble_eq_true rfl) ?_
          rintro _ ⟨x16, rfl⟩
          exact n_iret dX12_note_49 rfl rfl ⟨_, rfl⟩
theorem rg_82_47_52 (j : Nat) (h1 : 47 ≤ j) (h2 : j ≤ 52) : zs_rg 82 j = none := by
  obtain rfl | rfl | rfl | rfl | rfl | rfl : j = 47 ∨ j = 48 ∨ j = 49 ∨ j = 50 ∨ j = 51 ∨ j = 52 := by omega
  all_goals rfl
theorem rg_82_53_58 (j : Nat) (h1 : 53 ≤ j) (h2 : j ≤ 58) : zs_rg 82 j = none := by
  obtain rfl | rfl | rfl | rfl | rfl | rfl : j = 53 ∨ j = 54 ∨ j = 55 ∨ j = 56 ∨ j = 57 ∨ j = 58 := by omega
  all_goals rfl
theorem rg_82_59_64 (j : Nat) (h1 : 59 ≤ j) (h2 : j ≤ 64) : zs_rg 82 j = none := by
  obtain rfl | rfl | rfl | rfl | rfl | rfl : j = 59 ∨ j = 60 ∨ j = 61 ∨ j = 62 ∨ j = 63 ∨ j = 64 := by omega
  all_goals rfl
set_option maxRecDepth 100000 in
theorem y_X12_mark (a1 : Int32) (a2 : Int32) (a3 : Int32) : zs_U MX12_mark [.ref 80, .int a1, .int a2, .int a3] zs_Ri := by
  refine zs_Vof (by decide) (Nat.le_of_ble_eq_true rfl) ?_
  show zs_V MX12_mark 0 [(0, .ref 80), (1, .int a1), (2, .int a2), (3, .int a3)] [] zs_Ri
  refine n_iload_n dX12_mark_0 rfl rfl ?_
  refine n_i2l dX12_mark_1 ?_
  refine n_lconst (v := 0) dX12_mark_2 (by decide) ?_
  refine n_ldc2 (v := 11) dX12_mark_3 cl_RX12_60 ?_
  refine n_callS [.long (Int32.toInt64 a1), .long 0, .long 11] [] (y_in (Int32.toInt64 a1) 0 11) dX12_mark_6 kk_X12_mark_X12_in ml_RX12_54 swX12_in rfl rfl (Nat.le_of_ble_eq_true rfl) ?_
  rintro _ ⟨x1, rfl, bx1, fx1⟩
  refine n_if_eq 36 dX12_mark_9 (by decide) (fun h2 => ?_) (fun h2 => ?_)
  · refine n_aload_n dX12_mark_36 rfl rfl ?_
    refine n_callV (T := TX12) (NN := 19) [] (y_X12_bad) dX12_mark_37 kk_X12_mark_X12_bad ml_RX12_62 mwX12_bad ewX12_bad (by decide) rfl rfl rfl rfl (Nat.le_of_ble_eq_true rfl) ?_
    rintro _ ⟨x3, rfl⟩
    exact n_iret dX12_mark_40 rfl rfl ⟨_, rfl⟩
  · obtain ⟨k4, lk4, uk4, rfl⟩ := zs_inR (lo := 0) (hi := 11) (fx1 h2) (by decide) (by decide)
    refine n_iload_n dX12_mark_12 rfl rfl ?_
    refine n_i2l dX12_mark_13 ?_
    refine n_lconst (v := 0) dX12_mark_14 (by decide) ?_
    refine n_ldc2 (v := 99) dX12_mark_15 cl_RX12_210 ?_
    refine n_callS [.long (Int32.toInt64 a2), .long 0, .long 99] [] (y_in (Int32.toInt64 a2) 0 99) dX12_mark_18 kk_X12_mark_X12_in ml_RX12_54 swX12_in rfl rfl (Nat.le_of_ble_eq_true rfl) ?_
    rintro _ ⟨x5, rfl, bx5, fx5⟩
    refine n_if_eq 36 dX12_mark_21 (by decide) (fun h6 => ?_) (fun h6 => ?_)
    · refine n_aload_n dX12_mark_36 rfl rfl ?_
      refine n_callV (T := TX12) (NN := 19) [] (y_X12_bad) dX12_mark_37 kk_X12_mark_X12_bad ml_RX12_62 mwX12_bad ewX12_bad (by decide) rfl rfl rfl rfl (Nat.le_of_ble_eq_true rfl) ?_
      rintro _ ⟨x7, rfl⟩
      exact n_iret dX12_mark_40 rfl rfl ⟨_, rfl⟩
    · obtain ⟨k8, lk8, uk8, rfl⟩ := zs_inR (lo := 0) (hi := 99) (fx5 h6) (by decide) (by decide)
      refine n_iload_n dX12_mark_24 rfl rfl ?_
      refine n_i2l dX12_mark_25 ?_
      refine n_lconst (v := 0) dX12_mark_26 (by decide) ?_
      refine n_ldc2 (v := 30) dX12_mark_27 cl_RX12_202 ?_
      refine n_callS [.long (Int32.toInt64 a3), .long 0, .long 30] [] (y_in (Int32.toInt64 a3) 0 30) dX12_mark_30 kk_X12_mark_X12_in ml_RX12_54 swX12_in rfl rfl (Nat.le_of_ble_eq_true rfl) ?_
      rintro _ ⟨x9, rfl, bx9, fx9⟩
      refine n_if_ne 41 dX12_mark_33 (by decide) (fun h10 => ?_) (fun h10 => ?_)
      · obtain ⟨k11, lk11, uk11, rfl⟩ := zs_inR (lo := 0) (hi := 30) (fx9 h10) (by decide) (by decide)
        intro S hJ
        obtain ⟨m, h1, h2, h3⟩ := hJ.1 82 46 0 6 rfl
        refine g_aload_n dX12_mark_41 rfl rfl ?_
        refine g_getR 1 (82) (C := RX12) (T := TX12) (N := 19) dX12_mark_42 (by decide) rfl rfl (by decide) rfl fl_RX12_13 ?_
        refine g_bipush (v := (nI 46)) dX12_mark_45 rfl ?_
        refine g_ialdN (v := (nI m)) dX12_mark_47 (by decide) rfl (by omega) (by decide) h3 ?_
        refine g_istore (lv' := [(4, .int (nI m)), (0, .ref 80), (1, .int (nI k4)), (2, .int (nI k8)), (3, .int (nI k11))]) dX12_mark_48 (by decide) rfl ?_
        refine g_iload dX12_mark_50 rfl ?_
        refine g_bipush (v := (nI 6)) dX12_mark_52 rfl ?_
        refine g_ic_neN 62 dX12_mark_54 (by decide) (by omega) (by omega) (fun h1 => ?_) (fun h1 => ?_)
        · refine g_aload_n dX12_mark_62 rfl rfl ?_
          refine g_getR 1 (82) (C := RX12) (T := TX12) (N := 19) dX12_mark_63 (by decide) rfl rfl (by decide) rfl fl_RX12_13 ?_
          refine g_bipush (v := (nI 47)) dX12_mark_66 rfl ?_
          refine g_iload dX12_mark_68 rfl ?_
          refine g_iaddN dX12_mark_70 ?_
          refine g_iload_n dX12_mark_71 rfl rfl ?_
          refine g_iastN dX12_mark_72 (by decide) rfl (by omega) (by decide) ?_
          refine g_aload_n dX12_mark_73 rfl rfl ?_
          refine g_getR 1 (82) (C := RX12) (T := TX12) (N := 19) dX12_mark_74 (by decide) rfl rfl (by decide) rfl fl_RX12_13 ?_
          refine g_bipush (v := (nI 53)) dX12_mark_77 rfl ?_
          refine g_iload dX12_mark_79 rfl ?_
          refine g_iaddN dX12_mark_81 ?_
          refine g_iload_n dX12_mark_82 rfl rfl ?_
          refine g_iastN dX12_mark_83 (by decide) rfl (by omega) (by decide) ?_
          refine g_aload_n dX12_mark_84 rfl rfl ?_
          refine g_getR 1 (82) (C := RX12) (T := TX12) (N := 19) dX12_mark_85 (by decide) rfl rfl (by decide) rfl fl_RX12_13 ?_
          refine g_bipush (v := (nI 59)) dX12_mark_88 rfl ?_
          refine g_iload dX12_mark_90 rfl ?_
          refine g_iaddN dX12_mark_92 ?_
          refine g_iload_n dX12_mark_93 rfl rfl ?_
          refine g_iastN dX12_mark_94 (by decide) rfl (by omega) (by decide) ?_
          refine g_aload_n dX12_mark_95 rfl rfl ?_
          refine g_getR 1 (82) (C := RX12) (T := TX12) (N := 19) dX12_mark_96 (by decide) rfl rfl (by decide) rfl fl_RX12_13 ?_
          refine g_bipush (v := (nI 46)) dX12_mark_99 rfl ?_
          refine g_dup2 dX12_mark_101 rfl rfl ?_
          refine g_ialdN (v := (nI m)) dX12_mark_102 (by decide) rfl (by omega) (by decide) ((zs_up_m (by omega)).trans ((zs_up_m (by omega)).trans ((zs_up_m (by omega)).trans h3))) ?_
          refine g_iconst (v := (nI 1)) dX12_mark_103 rfl ?_
          refine g_iaddN dX12_mark_104 ?_
          refine g_iastN dX12_mark_105 (by decide) rfl (by omega) (by decide) ?_
          refine g_aload_n dX12_mark_106 rfl rfl ?_
          refine g_getR 1 (82) (C := RX12) (T := TX12) (N := 19) dX12_mark_107 (by decide) rfl rfl (by decide) rfl fl_RX12_13 ?_
          refine g_bipush (v := (nI 46)) dX12_mark_110 rfl ?_
          refine g_ialdN (v := (nI (m + 1))) dX12_mark_112 (by decide) rfl (by omega) (by decide) zs_up_q ?_
          refine g_iret dX12_mark_113 rfl rfl ?_
          exact ⟨⟨_, rfl⟩, ((((((((hJ).up (zs_okN2 (rg_82_47_52 _ (by omega) (by omega)) (by omega)))).up (zs_okN2 (rg_82_53_58 _ (by omega) (by omega)) (by omega)))).up (zs_okN2 (rg_82_59_64 _ (by omega) (by omega)) (by omega)))).up (zs_okR2 rfl (by omega) (by omega) (by omega))), ((((((((zs_fm.rf).tr (zs_fm.up rfl))).tr (zs_fm.up rfl))).tr (zs_fm.up rfl))).tr (zs_fm.up rfl))⟩
        · refine g_aload_n dX12_mark_57 rfl rfl ?_
          refine g_callV (T := TX12) (NN := 19) [] (y_X12_full S hJ) dX12_mark_58 kk_X12_mark_X12_full ml_RX12_66 mwX12_full ewX12_full (by decide) rfl rfl rfl rfl (Nat.le_of_ble_eq_true rfl) ?_
          rintro _ S2 ⟨⟨x3, rfl⟩, jS2, fS2⟩
          refine g_iret dX12_mark_61 rfl rfl ?_
          exact ⟨⟨_, rfl⟩, jS2, ((zs_fm.rf).tr fS2)⟩
      · refine n_aload_n dX12_mark_36 rfl rfl ?_
        refine n_callV (T := TX12) (NN := 19) [] (y_X12_bad) dX12_mark_37 kk_X12_mark_X12_bad ml_RX12_62 mwX12_bad ewX12_bad (by decide) rfl rfl rfl rfl (Nat.le_of_ble_eq_true rfl) ?_
        rintro _ ⟨x12, rfl⟩
        exact n_iret dX12_mark_40 rfl rfl ⟨_, rfl⟩
set_option maxRecDepth 100000 in
theorem y_X12_forget (a1 : Int32) : zs_U MX12_forget [.ref 80, .int a1] zs_Ri := by
  refine zs_Vof (by decide) (Nat.le_of_ble_eq_true rfl) ?_
  show zs_V MX12_forget 0 [(0, .ref 80), (1, .int a1)] [] zs_Ri
  refine n_iload_n dX12_forget_0 rfl rfl ?_
  refine n_i2l dX12_forget_1 ?_
  refine n_lconst (v := 0) dX12_forget_2 (by decide) ?_
  refine n_ldc2 (v := 2) dX12_forget_3 cl_RX12_50 ?_
  refine n_callS [.long (Int32.toInt64 a1), .long 0, .long 2] [] (y_in (Int32.toInt64 a1) 0 2) dX12_forget_6 kk_X12_forget_X12_in ml_RX12_54 swX12_in rfl rfl (Nat.le_of_ble_eq_true rfl) ?_
  rintro _ ⟨x1, rfl, bx1, fx1⟩
  refine n_if_ne 17 dX12_forget_9 (by decide) (fun h2 => ?_) (fun h2 => ?_)
  · obtain ⟨k3, lk3, uk3, rfl⟩ := zs_inR (lo := 0) (hi := 2) (fx1 h2) (by decide) (by decide)
    have j38 : ∀ (s38_0 : Nat), 8 ≤ s38_0 → s38_0 ≤ 46 → zs_V MX12_forget 38 [(0, .ref 80), (1, .int (nI k3))] [.int (nI s38_0)] zs_Ri := by
      intro s38_0 ls38_0 us38_0
      refine n_istore_n (lv' := [(2, .int (nI s38_0)), (0, .ref 80), (1, .int (nI k3))]) dX12_forget_38 rfl (by decide) rfl ?_
      refine n_aload_n dX12_forget_39 rfl rfl ?_
      refine n_getR 1 82 (C := RX12) (T := TX12) (N := 19) dX12_forget_40 (by decide) rfl rfl (by decide) rfl fl_RX12_13 ?_
      refine n_iload_n dX12_forget_43 rfl rfl ?_
      refine n_ald dX12_forget_44 (by decide) rfl (by omega) (by decide) (fun x4 => ?_)
      refine n_istore_n (lv' := [(3, .int x4), (2, .int (nI s38_0)), (0, .ref 80), (1, .int (nI k3))]) dX12_forget_45 rfl (by decide) rfl ?_
      refine n_aload_n dX12_forget_46 rfl rfl ?_
      refine n_getR 1 82 (C := RX12) (T := TX12) (N := 19) dX12_forget_47 (by decide) rfl rfl (by decide) rfl fl_RX12_13 ?_
      refine n_iload_n dX12_forget_50 rfl rfl ?_
      refine n_iconst (v := (nI 0)) dX12_forget_51 rfl ?_
      refine n_ast dX12_forget_52 (by decide) rfl (by omega) (by decide) rfl (zs_ok02 (by omega) (by omega)) ?_
      refine n_iload_n dX12_forget_53 rfl rfl ?_
      exact n_iret dX12_forget_54 rfl rfl ⟨_, rfl⟩
    refine n_iload_n dX12_forget_17 rfl rfl ?_
    refine n_if_neN 26 dX12_forget_18 (by decide) (by omega) (fun h5 => ?_) (fun h5 => ?_)
    · refine n_iload_n dX12_forget_26 rfl rfl ?_
      refine n_iconst (v := (nI 1)) dX12_forget_27 rfl ?_
      refine n_ic_neN 36 dX12_forget_28 (by decide) (by omega) (by omega) (fun h6 => ?_) (fun h6 => ?_)
      · refine n_bipush (v := (nI 46)) dX12_forget_36 rfl ?_
        exact j38 46 (by omega) (by omega)
      · refine n_bipush (v := (nI 21)) dX12_forget_31 rfl ?_
        refine n_goto 38 dX12_forget_33 (by decide) ?_
        exact j38 21 (by omega) (by omega)
    · refine n_bipush (v := (nI 8)) dX12_forget_21 rfl ?_
      refine n_goto 38 dX12_forget_23 (by decide) ?_
      exact j38 8 (by omega) (by omega)
  · refine n_aload_n dX12_forget_12 rfl rfl ?_
    refine n_callV (T := TX12) (NN := 19) [] (y_X12_bad) dX12_forget_13 kk_X12_forget_X12_bad ml_RX12_62 mwX12_bad ewX12_bad (by decide) rfl rfl rfl rfl (Nat.le_of_ble_eq_true rfl) ?_
    rintro _ ⟨x7, rfl⟩
    exact n_iret dX12_forget_16 rfl rfl ⟨_, rfl⟩
set_option maxRecDepth 100000 in
theorem y_X12_lamp (a1 : Int32) : zs_U MX12_lamp [.ref 80, .int a1] zs_Ri := by
  refine zs_Vof (by decide) (Nat.le_of_ble_eq_true rfl) ?_
  show zs_V MX12_lamp 0 [(0, .ref 80), (1, .int a1)] [] zs_Ri
  refine n_iload_n dX12_lamp_0 rfl rfl ?_
  refine n_i2l dX12_lamp_1 ?_
  refine n_lconst (v := 0) dX12_lamp_2 (by decide) ?_
  refine n_ldc2 (v := 5) dX12_lamp_3 cl_RX12_58 ?_
  refine n_callS [.long (Int32.toInt64 a1), .long 0, .long 5] [] (y_in (Int32.toInt64 a1) 0 5) dX12_lamp_6 kk_X12_lamp_X12_in ml_RX12_54 swX12_in rfl rfl (Nat.le_of_ble_eq_true rfl) ?_
  rintro _ ⟨x1, rfl, bx1, fx1⟩
  refine n_if_ne 17 dX12_lamp_9 (by decide) (fun h2 => ?_) (fun h2 => ?_)
  · obtain ⟨k3, lk3, uk3, rfl⟩ := zs_inR (lo := 0) (hi := 5) (fx1 h2) (by decide) (by decide)
    refine n_aload_n dX12_lamp_17 rfl rfl ?_
    refine n_getR 1 82 (C := RX12) (T := TX12) (N := 19) dX12_lamp_18 (by decide) rfl rfl (by decide) rfl fl_RX12_13 ?_
    refine n_iconst (v := (nI 1)) dX12_lamp_21 rfl ?_
    refine n_ald dX12_lamp_22 (by decide) rfl (by omega) (by decide) (fun x4 => ?_)
    refine n_istore_n (lv' := [(2, .int x4), (0, .ref 80), (1, .int (nI k3))]) dX12_lamp_23 rfl (by decide) rfl ?_
    refine n_aload_n dX12_lamp_24 rfl rfl ?_
    refine n_getR 1 82 (C := RX12) (T := TX12) (N := 19) dX12_lamp_25 (by decide) rfl rfl (by decide) rfl fl_RX12_13 ?_
    refine n_iconst (v := (nI 1)) dX12_lamp_28 rfl ?_
    refine n_iload_n dX12_lamp_29 rfl rfl ?_
    refine n_ast dX12_lamp_30 (by decide) rfl (by omega) (by decide) rfl (zs_okN2 rfl (by omega)) ?_
    refine n_aload_n dX12_lamp_31 rfl rfl ?_
    refine n_getR 1 82 (C := RX12) (T := TX12) (N := 19) dX12_lamp_32 (by decide) rfl rfl (by decide) rfl fl_RX12_13 ?_
    refine n_bipush (v := (nI 65)) dX12_lamp_35 rfl ?_
    refine n_iconst (v := (nI 0)) dX12_lamp_37 rfl ?_
    refine n_ast dX12_lamp_38 (by decide) rfl (by omega) (by decide) rfl (zs_okR2 rfl (by omega) (by omega) (by omega)) ?_
    refine n_iload_n dX12_lamp_39 rfl rfl ?_
    exact n_iret dX12_lamp_40 rfl rfl ⟨_, rfl⟩
  · refine n_aload_n dX12_lamp_12 rfl rfl ?_
    refine n_callV (T := TX12) (NN := 19) [] (y_X12_bad) dX12_lamp_13 kk_X12_lamp_X12_bad ml_RX12_62 mwX12_bad ewX12_bad (by decide) rfl rfl rfl rfl (Nat.le_of_ble_eq_true rfl) ?_
    rintro _ ⟨x5, rfl⟩
    exact n_iret dX12_lamp_16 rfl rfl ⟨_, rfl⟩
set_option maxRecDepth 100000 in
theorem y_X12_drum (a1 : Int32) (a2 : Int32) (a3 : Int32) : zs_U MX12_drum [.ref 80, .int a1, .int a2, .int a3] zs_Ri := by
  refine zs_Vof (by decide) (Nat.le_of_ble_eq_true rfl) ?_
  show zs_V MX12_drum 0 [(0, .ref 80), (1, .int a1), (2, .int a2), (3, .int a3)] [] zs_Ri
  refine n_iload_n dX12_drum_0 rfl rfl ?_
  refine n_i2l dX12_drum_1 ?_
  refine n_ldc2 (v := 2) dX12_drum_2 cl_RX12_50 ?_
  refine n_ldc2 (v := 12) dX12_drum_5 cl_RX12_52 ?_
  refine n_callS [.long (Int32.toInt64 a1), .long 2, .long 12] [] (y_in (Int32.toInt64 a1) 2 12) dX12_drum_8 kk_X12_drum_X12_in ml_RX12_54 swX12_in rfl rfl (Nat.le_of_ble_eq_true rfl) ?_
  rintro _ ⟨x1, rfl, bx1, fx1⟩
  refine n_if_eq 38 dX12_drum_11 (by decide) (fun h2 => ?_) (fun h2 => ?_)
  · refine n_aload_n dX12_drum_38 rfl rfl ?_
    refine n_callV (T := TX12) (NN := 19) [] (y_X12_bad) dX12_drum_39 kk_X12_drum_X12_bad ml_RX12_62 mwX12_bad ewX12_bad (by decide) rfl rfl rfl rfl (Nat.le_of_ble_eq_true rfl) ?_
    rintro _ ⟨x3, rfl⟩
    exact n_iret dX12_drum_42 rfl rfl ⟨_, rfl⟩
  · obtain ⟨k4, lk4, uk4, rfl⟩ := zs_inR (lo := 2) (hi := 12) (fx1 h2) (by decide) (by decide)
    refine n_iload_n dX12_drum_14 rfl rfl ?_
    refine n_i2l dX12_drum_15 ?_
    refine n_lconst (v := 0) dX12_drum_16 (by decide) ?_
    refine n_ldc2 (v := 5) dX12_drum_17 cl_RX12_58 ?_
    refine n_callS [.long (Int32.toInt64 a2), .long 0, .long 5] [] (y_in (Int32.toInt64 a2) 0 5) dX12_drum_20 kk_X12_drum_X12_in ml_RX12_54 swX12_in rfl rfl (Nat.le_of_ble_eq_true rfl) ?_
    rintro _ ⟨x5, rfl, bx5, fx5⟩
    refine n_if_eq 38 dX12_drum_23 (by decide) (fun h6 => ?_) (fun h6 => ?_)
    · refine n_aload_n dX12_drum_38 rfl rfl ?_
      refine n_callV (T := TX12) (NN := 19) [] (y_X12_bad) dX12_drum_39 kk_X12_drum_X12_bad ml_RX12_62 mwX12_bad ewX12_bad (by decide) rfl rfl rfl rfl (Nat.le_of_ble_eq_true rfl) ?_
      rintro _ ⟨x7, rfl⟩
      exact n_iret dX12_drum_42 rfl rfl ⟨_, rfl⟩
    · obtain ⟨k8, lk8, uk8, rfl⟩ := zs_inR (lo := 0) (hi := 5) (fx5 h6) (by decide) (by decide)
      refine n_iload_n dX12_drum_26 rfl rfl ?_
      refine n_i2l dX12_drum_27 ?_
      refine n_lconst (v := 0) dX12_drum_28 (by decide) ?_
      refine n_ldc2 (v := 11) dX12_drum_29 cl_RX12_60 ?_
      refine n_callS [.long (Int32.toInt64 a3), .long 0, .long 11] [] (y_in (Int32.toInt64 a3) 0 11) dX12_drum_32 kk_X12_drum_X12_in ml_RX12_54 swX12_in rfl rfl (Nat.le_of_ble_eq_true rfl) ?_
      rintro _ ⟨x9, rfl, bx9, fx9⟩
      refine n_if_ne 43 dX12_drum_35 (by decide) (fun h10 => ?_) (fun h10 => ?_)
      · obtain ⟨k11, lk11, uk11, rfl⟩ := zs_inR (lo := 0) (hi := 11) (fx9 h10) (by decide) (by decide)
        refine n_aload_n dX12_drum_43 rfl rfl ?_
        refine n_getR 1 82 (C := RX12) (T := TX12) (N := 19) dX12_drum_44 (by decide) rfl rfl (by decide) rfl fl_RX12_13 ?_
        refine n_iconst (v := (nI 2)) dX12_drum_47 rfl ?_
        refine n_aldR (lo := 0) (up := 5) dX12_drum_48 (by decide) rfl (by omega) (by decide) rfl (fun m12 hm12 km12 => ?_)
        refine n_istore (lv' := [(4, .int (nI m12)), (0, .ref 80), (1, .int (nI k4)), (2, .int (nI k8)), (3, .int (nI k11))]) dX12_drum_49 (by decide) rfl ?_
        refine n_aload_n dX12_drum_51 rfl rfl ?_
        refine n_iload_n dX12_drum_52 rfl rfl ?_
        refine n_iload_n dX12_drum_53 rfl rfl ?_
        refine n_iload_n dX12_drum_54 rfl rfl ?_
        refine n_callV (T := TX12) (NN := 19) [] (y_begins k4 k11 (nI k8) (by omega) (by omega) (by omega)) dX12_drum_55 kk_X12_drum_X12_begins ml_RX12_42 mwX12_begins ewX12_begins (by decide) rfl rfl rfl rfl (Nat.le_of_ble_eq_true rfl) ?_
        rintro _ rfl
        refine n_iload dX12_drum_58 rfl ?_
        exact n_iret dX12_drum_60 rfl rfl ⟨_, rfl⟩
      · refine n_aload_n dX12_drum_38 rfl rfl ?_
        refine n_callV (T := TX12) (NN := 19) [] (y_X12_bad) dX12_drum_39 kk_X12_drum_X12_bad ml_RX12_62 mwX12_bad ewX12_bad (by decide) rfl rfl rfl rfl (Nat.le_of_ble_eq_true rfl) ?_
        rintro _ ⟨x13, rfl⟩
        exact n_iret dX12_drum_42 rfl rfl ⟨_, rfl⟩
theorem rg_81_0_0 (j : Nat) (h1 : 0 ≤ j) (h2 : j ≤ 0) : zs_rg 81 j = some (0, 11) := by
  obtain rfl : j = 0 := by omega
  all_goals rfl
theorem rg_81_1_1 (j : Nat) (h1 : 1 ≤ j) (h2 : j ≤ 1) : zs_rg 81 j = none := by
  obtain rfl : j = 1 := by omega
  all_goals rfl
set_option maxRecDepth 100000 in
theorem y_X12_flash_0 (a2 : Nat) (la2 : 0 ≤ a2) (ua2 : a2 ≤ 11) (a3 : Int32) : zs_U MX12_flash [.ref 80, .int (nI 0), .int (nI a2), .int a3] zs_Rv := by
  refine zs_Vof (by decide) (Nat.le_of_ble_eq_true rfl) ?_
  show zs_V MX12_flash 0 [(0, .ref 80), (1, .int (nI 0)), (2, .int (nI a2)), (3, .int a3)] [] zs_Rv
  have j57 : ∀ (n57 : Nat) (c57 : Nat), 0 ≤ c57 → c57 ≤ 5 → 5 - c57 < n57 → zs_V MX12_flash 57 [(0, .ref 80), (1, .int (nI 0)), (2, .int (nI a2)), (3, .int a3), (4, .int (nI c57))] [] zs_Rv := by
    intro n57
    induction n57 with
    | zero => intro c57 lc57 uc57 hn57; exact absurd hn57 (Nat.not_lt_zero _)
    | succ n57 ih57 =>
      intro c57 lc57 uc57 hn57
      have j187 : c57 + 1 ≤ 5 → ∀ (v187_5 : Int32) (v187_6 : Int32) (s187_0 : Int32) (s187_1 : Int32) (s187_2 : Nat), 20 ≤ s187_2 → s187_2 ≤ 24 → zs_V MX12_flash 187 [(0, .ref 80), (1, .int (nI 0)), (2, .int (nI a2)), (3, .int a3), (4, .int (nI c57)), (5, .int v187_5), (6, .int v187_6)] [.int s187_0, .int s187_1, .int (nI s187_2), .ref 81] zs_Rv := by
        intro hd57 v187_5 v187_6 s187_0 s187_1 s187_2 ls187_2 us187_2
        refine n_iadd dX12_flash_187 (fun x1 => ?_)
        refine n_ast dX12_flash_188 (by decide) rfl (by omega) (by decide) rfl (zs_okN (rg_81_20_24 _ (by omega) (by omega)) (by decide) (by decide)) ?_
        refine n_aload_n dX12_flash_189 rfl rfl ?_
        refine n_getR 0 81 (C := RX12) (T := TX12) (N := 19) dX12_flash_190 (by decide) rfl rfl (by decide) rfl fl_RX12_7 ?_
        refine n_iload_n dX12_flash_193 rfl rfl ?_
        refine n_bipush (v := (nI 15)) dX12_flash_194 rfl ?_
        refine n_iaddN dX12_flash_196 ?_
        refine n_iload dX12_flash_197 rfl ?_
        refine n_iaddN dX12_flash_199 ?_
        refine n_iload dX12_flash_200 rfl ?_
        refine n_ast dX12_flash_202 (by decide) rfl (by omega) (by decide) rfl (zs_okN (rg_81_15_19 _ (by omega) (by omega)) (by decide) (by decide)) ?_
        refine n_iinc (v := (nI (c57 + 1))) (lv' := [(4, .int (nI (c57 + 1))), (0, .ref 80), (1, .int (nI 0)), (2, .int (nI a2)), (3, .int a3), (5, .int v187_5), (6, .int v187_6)]) dX12_flash_203 rfl (nI_1 c57) (by decide) rfl ?_
        refine n_goto 57 dX12_flash_206 (by decide) ?_
        exact zs_Vlv (ih57 (c57 + 1) (by omega) (by omega) (by omega)) (zs_mc 1 rfl (zs_mc 2 rfl (zs_mc 3 rfl (zs_mc 4 rfl (zs_mc 0 rfl zs_mn)))))
      have j162 : c57 + 1 ≤ 5 → ∀ (v162_5 : Int32) (s162_0 : Int32), zs_V MX12_flash 162 [(0, .ref 80), (1, .int (nI 0)), (2, .int (nI a2)), (3, .int a3), (4, .int (nI c57)), (5, .int v162_5)] [.int s162_0] zs_Rv := by
        intro hd57 v162_5 s162_0
        refine n_istore (lv' := [(6, .int s162_0), (0, .ref 80), (1, .int (nI 0)), (2, .int (nI a2)), (3, .int a3), (4, .int (nI c57)), (5, .int v162_5)]) dX12_flash_162 (by decide) rfl ?_
        refine n_aload_n dX12_flash_164 rfl rfl ?_
        refine n_getR 0 81 (C := RX12) (T := TX12) (N := 19) dX12_flash_165 (by decide) rfl rfl (by decide) rfl fl_RX12_7 ?_
        refine n_iload_n dX12_flash_168 rfl rfl ?_
        refine n_bipush (v := (nI 20)) dX12_flash_169 rfl ?_
        refine n_iaddN dX12_flash_171 ?_
        refine n_iload dX12_flash_172 rfl ?_
        refine n_iaddN dX12_flash_174 ?_
        refine n_dup2 dX12_flash_175 rfl rfl ?_
        refine n_ald dX12_flash_176 (by decide) rfl (by omega) (by decide) (fun x2 => ?_)
        refine n_iload dX12_flash_177 rfl ?_
        refine n_if_eq 186 dX12_flash_179 (by decide) (fun h3 => ?_) (fun h3 => ?_)
        · refine n_iconst (v := (nI 0)) dX12_flash_186 rfl ?_
          exact zs_Vlv (j187 (by omega) v162_5 s162_0 (nI 0) x2 ((0 + 20) + c57) (by omega) (by omega)) (zs_mc 1 rfl (zs_mc 2 rfl (zs_mc 3 rfl (zs_mc 4 rfl (zs_mc 5 rfl (zs_mc 6 rfl (zs_mc 0 rfl zs_mn)))))))
        · refine n_iconst (v := (nI 1)) dX12_flash_182 rfl ?_
          refine n_goto 187 dX12_flash_183 (by decide) ?_
          exact zs_Vlv (j187 (by omega) v162_5 s162_0 (nI 1) x2 ((0 + 20) + c57) (by omega) (by omega)) (zs_mc 1 rfl (zs_mc 2 rfl (zs_mc 3 rfl (zs_mc 4 rfl (zs_mc 5 rfl (zs_mc 6 rfl (zs_mc 0 rfl zs_mn)))))))
      have j161 : c57 + 1 ≤ 5 → ∀ (v161_5 : Int32), zs_V MX12_flash 161 [(0, .ref 80), (1, .int (nI 0)), (2, .int (nI a2)), (3, .int a3), (4, .int (nI c57)), (5, .int v161_5)] [] zs_Rv := by
        intro hd57 v161_5
        refine n_iconst (v := (nI 0)) dX12_flash_161 rfl ?_
        exact j162 (by omega) v161_5 (nI 0)
      have j157 : c57 + 1 ≤ 5 → ∀ (v157_5 : Int32), zs_V MX12_flash 157 [(0, .ref 80), (1, .int (nI 0)), (2, .int (nI a2)), (3, .int a3), (4, .int (nI c57)), (5, .int v157_5)] [] zs_Rv := by
        intro hd57 v157_5
        refine n_iconst (v := (nI 1)) dX12_flash_157 rfl ?_
        refine n_goto 162 dX12_flash_158 (by decide) ?_
        exact j162 (by omega) v157_5 (nI 1)
      refine n_iload dX12_flash_57 rfl ?_
      refine n_aload_n dX12_flash_59 rfl rfl ?_
      refine n_getR 1 82 (C := RX12) (T := TX12) (N := 19) dX12_flash_60 (by decide) rfl rfl (by decide) rfl fl_RX12_13 ?_
      refine n_iconst (v := (nI 2)) dX12_flash_63 rfl ?_
      refine n_aldR (lo := 0) (up := 5) dX12_flash_64 (by decide) rfl (by omega) (by decide) rfl (fun m4 hm4 km4 => ?_)
      refine n_ic_geN 209 dX12_flash_65 (by decide) (by omega) (by omega) (fun h5 => ?_) (fun h5 => ?_)
      · exact n_ret dX12_flash_209 rfl rfl
      · refine n_iload_n dX12_flash_68 rfl rfl ?_
        refine n_if_eq 209 dX12_flash_69 (by decide) (fun h6 => ?_) (fun h6 => ?_)
        · exact n_ret dX12_flash_209 rfl rfl
        · refine n_aload_n dX12_flash_72 rfl rfl ?_
          refine n_getR 1 82 (C := RX12) (T := TX12) (N := 19) dX12_flash_73 (by decide) rfl rfl (by decide) rfl fl_RX12_13 ?_
          refine n_iconst (v := (nI 3)) dX12_flash_76 rfl ?_
          refine n_iload dX12_flash_77 rfl ?_
          refine n_iaddN dX12_flash_79 ?_
          refine n_ald dX12_flash_80 (by decide) rfl (by omega) (by decide) (fun x7 => ?_)
          refine n_aload_n dX12_flash_81 rfl rfl ?_
          refine n_getR 0 81 (C := RX12) (T := TX12) (N := 19) dX12_flash_82 (by decide) rfl rfl (by decide) rfl fl_RX12_7 ?_
          refine n_iload_n dX12_flash_85 rfl rfl ?_
          refine n_iconst (v := (nI 3)) dX12_flash_86 rfl ?_
          refine n_iaddN dX12_flash_87 ?_
          refine n_aload_n dX12_flash_88 rfl rfl ?_
          refine n_getR 0 81 (C := RX12) (T := TX12) (N := 19) dX12_flash_89 (by decide) rfl rfl (by decide) rfl fl_RX12_7 ?_
          refine n_iload_n dX12_flash_92 rfl rfl ?_
          refine n_iconst (v := (nI 0)) dX12_flash_93 rfl ?_
          refine n_iaddN dX12_flash_94 ?_
          refine n_aldR (lo := 0) (up := 11) dX12_flash_95 (by decide) rfl (by omega) (by decide) (rg_81_0_0 _ (by omega) (by omega)) (fun m8 hm8 km8 => ?_)
          refine n_iaddN dX12_flash_96 ?_
          refine n_aldR (lo := 0) (up := 9) dX12_flash_97 (by decide) rfl (by omega) (by decide) (rg_81_3_14 _ (by omega) (by omega)) (fun m9 hm9 km9 => ?_)
          refine n_aload_n dX12_flash_98 rfl rfl ?_
          refine n_getR 0 81 (C := RX12) (T := TX12) (N := 19) dX12_flash_99 (by decide) rfl rfl (by decide) rfl fl_RX12_7 ?_
          refine n_iload_n dX12_flash_102 rfl rfl ?_
          refine n_bipush (v := (nI 15)) dX12_flash_103 rfl ?_
          refine n_iaddN dX12_flash_105 ?_
          refine n_iload dX12_flash_106 rfl ?_
          refine n_iaddN dX12_flash_108 ?_
          refine n_ald dX12_flash_109 (by decide) rfl (by omega) (by decide) (fun x10 => ?_)
          refine n_callS [.int x7, .int (nI m9), .int x10] [] (y_X12_looks x7 (nI m9) x10) dX12_flash_110 kk_X12_flash_X12_looks ml_RX12_166 swX12_looks rfl rfl (Nat.le_of_ble_eq_true rfl) ?_
          rintro _ ⟨x11, rfl⟩
          refine n_istore (lv' := [(5, .int x11), (0, .ref 80), (1, .int (nI 0)), (2, .int (nI a2)), (3, .int a3), (4, .int (nI c57))]) dX12_flash_113 (by decide) rfl ?_
          refine n_iload dX12_flash_115 rfl ?_
          refine n_aload_n dX12_flash_117 rfl rfl ?_
          refine n_getR 0 81 (C := RX12) (T := TX12) (N := 19) dX12_flash_118 (by decide) rfl rfl (by decide) rfl fl_RX12_7 ?_
          refine n_iload_n dX12_flash_121 rfl rfl ?_
          refine n_bipush (v := (nI 15)) dX12_flash_122 rfl ?_
          refine n_iaddN dX12_flash_124 ?_
          refine n_iload dX12_flash_125 rfl ?_
          refine n_iaddN dX12_flash_127 ?_
          refine n_ald dX12_flash_128 (by decide) rfl (by omega) (by decide) (fun x12 => ?_)
          refine n_ic_eq 161 dX12_flash_129 (by decide) (fun h13 => ?_) (fun h13 => ?_)
          · exact zs_Vlv (j161 (by omega) x11) (zs_mc 1 rfl (zs_mc 2 rfl (zs_mc 3 rfl (zs_mc 4 rfl (zs_mc 5 rfl (zs_mc 0 rfl zs_mn))))))
          · refine n_iload_n dX12_flash_132 rfl rfl ?_
            refine n_sipush (v := (nI 675)) dX12_flash_133 rfl ?_
            refine n_ic_eqN 157 dX12_flash_136 (by decide) (by omega) (by omega) (fun h14 => ?_) (fun h14 => ?_)
            · exact absurd h14 (by omega)
            · refine n_aload_n dX12_flash_139 rfl rfl ?_
              refine n_getR 0 81 (C := RX12) (T := TX12) (N := 19) dX12_flash_140 (by decide) rfl rfl (by decide) rfl fl_RX12_7 ?_
              refine n_iload_n dX12_flash_143 rfl rfl ?_
              refine n_bipush (v := (nI 20)) dX12_flash_144 rfl ?_
              refine n_iaddN dX12_flash_146 ?_
              refine n_iload dX12_flash_147 rfl ?_
              refine n_iaddN dX12_flash_149 ?_
              refine n_ald dX12_flash_150 (by decide) rfl (by omega) (by decide) (fun x15 => ?_)
              refine n_sipush (v := (nI 9999)) dX12_flash_151 rfl ?_
              refine n_ic_ge 161 dX12_flash_154 (by decide) (fun h16 => ?_) (fun h16 => ?_)
              · exact zs_Vlv (j161 (by omega) x11) (zs_mc 1 rfl (zs_mc 2 rfl (zs_mc 3 rfl (zs_mc 4 rfl (zs_mc 5 rfl (zs_mc 0 rfl zs_mn))))))
              · exact zs_Vlv (j157 (by omega) x11) (zs_mc 1 rfl (zs_mc 2 rfl (zs_mc 3 rfl (zs_mc 4 rfl (zs_mc 5 rfl (zs_mc 0 rfl zs_mn))))))
  refine n_aload_n dX12_flash_0 rfl rfl ?_
  refine n_getR 0 81 (C := RX12) (T := TX12) (N := 19) dX12_flash_1 (by decide) rfl rfl (by decide) rfl fl_RX12_7 ?_
  refine n_iload_n dX12_flash_4 rfl rfl ?_
  refine n_iconst (v := (nI 1)) dX12_flash_5 rfl ?_
  refine n_iaddN dX12_flash_6 ?_
  refine n_dup2 dX12_flash_7 rfl rfl ?_
  refine n_ald dX12_flash_8 (by decide) rfl (by omega) (by decide) (fun x17 => ?_)
  refine n_iconst (v := (nI 1)) dX12_flash_9 rfl ?_
  refine n_iadd dX12_flash_10 (fun x18 => ?_)
  refine n_ast dX12_flash_11 (by decide) rfl (by omega) (by decide) rfl (zs_okN (rg_81_1_1 _ (by omega) (by omega)) (by decide) (by decide)) ?_
  refine n_aload_n dX12_flash_12 rfl rfl ?_
  refine n_getR 0 81 (C := RX12) (T := TX12) (N := 19) dX12_flash_13 (by decide) rfl rfl (by decide) rfl fl_RX12_7 ?_
  refine n_iload_n dX12_flash_16 rfl rfl ?_
  refine n_iconst (v := (nI 0)) dX12_flash_17 rfl ?_
  refine n_iaddN dX12_flash_18 ?_
  refine n_aload_n dX12_flash_19 rfl rfl ?_
  refine n_getR 0 81 (C := RX12) (T := TX12) (N := 19) dX12_flash_20 (by decide) rfl rfl (by decide) rfl fl_RX12_7 ?_
  refine n_iload_n dX12_flash_23 rfl rfl ?_
  refine n_iconst (v := (nI 0)) dX12_flash_24 rfl ?_
  refine n_iaddN dX12_flash_25 ?_
  refine n_aldR (lo := 0) (up := 11) dX12_flash_26 (by decide) rfl (by omega) (by decide) (rg_81_0_0 _ (by omega) (by omega)) (fun m19 hm19 km19 => ?_)
  refine n_aload_n dX12_flash_27 rfl rfl ?_
  refine n_getR 1 82 (C := RX12) (T := TX12) (N := 19) dX12_flash_28 (by decide) rfl rfl (by decide) rfl fl_RX12_13 ?_
  refine n_iconst (v := (nI 1)) dX12_flash_31 rfl ?_
  refine n_ald dX12_flash_32 (by decide) rfl (by omega) (by decide) (fun x20 => ?_)
  refine n_iload_n dX12_flash_33 rfl rfl ?_
  refine n_aload_n dX12_flash_34 rfl rfl ?_
  refine n_getR 0 81 (C := RX12) (T := TX12) (N := 19) dX12_flash_35 (by decide) rfl rfl (by decide) rfl fl_RX12_7 ?_
  refine n_iload_n dX12_flash_38 rfl rfl ?_
  refine n_iconst (v := (nI 1)) dX12_flash_39 rfl ?_
  refine n_iaddN dX12_flash_40 ?_
  refine n_ald dX12_flash_41 (by decide) rfl (by omega) (by decide) (fun x21 => ?_)
  refine n_callS [.int x20, .int (nI a2), .int x21] [.int (nI m19), .int (nI (0 + 0)), .ref 81] (y_X12_passes x20 a2 (by omega) (by omega) x21) dX12_flash_42 kk_X12_flash_X12_passes ml_RX12_162 swX12_passes rfl rfl (Nat.le_of_ble_eq_true rfl) ?_
  rintro _ ⟨m22, hm22, km22, rfl⟩
  refine n_iaddN dX12_flash_45 ?_
  refine n_aload_n dX12_flash_46 rfl rfl ?_
  refine n_getR 1 82 (C := RX12) (T := TX12) (N := 19) dX12_flash_47 (by decide) rfl rfl (by decide) rfl fl_RX12_13 ?_
  refine n_iconst (v := (nI 0)) dX12_flash_50 rfl ?_
  refine n_aldR (lo := 1) (up := 12) dX12_flash_51 (by decide) rfl (by omega) (by decide) rfl (fun m23 hm23 km23 => ?_)
  refine n_iremN dX12_flash_52 (by omega) (by omega) (by omega) ?_
  have hm24 := Nat.mod_lt (m19 + m22) (show m23 > 0 by omega)
  generalize (m19 + m22) % m23 = m24 at hm24 ⊢
  refine n_ast dX12_flash_53 (by decide) rfl (by omega) (by decide) rfl (zs_okR (rg_81_0_0 _ (by omega) (by omega)) (by omega) (by omega) (by decide) (by decide)) ?_
  refine n_iconst (v := (nI 0)) dX12_flash_54 rfl ?_
  refine n_istore (lv' := [(4, .int (nI 0)), (0, .ref 80), (1, .int (nI 0)), (2, .int (nI a2)), (3, .int a3)]) dX12_flash_55 (by decide) rfl ?_
  exact zs_Vlv (j57 _ 0 (by omega) (by omega) (Nat.lt_succ_self _)) (zs_mc 1 rfl (zs_mc 2 rfl (zs_mc 3 rfl (zs_mc 4 rfl (zs_mc 0 rfl zs_mn)))))
set_option maxRecDepth 100000 in
theorem y_X12_spins (a1 : Int32) : zs_U MX12_spins [.ref 80, .int a1] zs_Ri := by
  refine zs_Vof (by decide) (Nat.le_of_ble_eq_true rfl) ?_
  show zs_V MX12_spins 0 [(0, .ref 80), (1, .int a1)] [] zs_Ri
  refine n_iload_n dX12_spins_0 rfl rfl ?_
  refine n_i2l dX12_spins_1 ?_
  refine n_lconst (v := 1) dX12_spins_2 (by decide) ?_
  refine n_ldc2 (v := 60) dX12_spins_3 cl_RX12_173 ?_
  refine n_callS [.long (Int32.toInt64 a1), .long 1, .long 60] [] (y_in (Int32.toInt64 a1) 1 60) dX12_spins_6 kk_X12_spins_X12_in ml_RX12_54 swX12_in rfl rfl (Nat.le_of_ble_eq_true rfl) ?_
  rintro _ ⟨x1, rfl, bx1, fx1⟩
  refine n_if_ne 17 dX12_spins_9 (by decide) (fun h2 => ?_) (fun h2 => ?_)
  · obtain ⟨k3, lk3, uk3, rfl⟩ := zs_inR (lo := 1) (hi := 60) (fx1 h2) (by decide) (by decide)
    have j58 : ∀ (v58_2 : Int32), zs_V MX12_spins 58 [(0, .ref 80), (1, .int (nI k3)), (2, .int v58_2)] [] zs_Ri := by
      intro v58_2
      refine n_aload_n dX12_spins_58 rfl rfl ?_
      refine n_getR 0 81 (C := RX12) (T := TX12) (N := 19) dX12_spins_59 (by decide) rfl rfl (by decide) rfl fl_RX12_7 ?_
      refine n_iconst (v := (nI 0)) dX12_spins_62 rfl ?_
      refine n_aldR (lo := 0) (up := 11) dX12_spins_63 (by decide) rfl (by omega) (by decide) rfl (fun m4 hm4 km4 => ?_)
      exact n_iret dX12_spins_64 rfl rfl ⟨_, rfl⟩
    have j23 : ∀ (n23 : Nat) (c23 : Int32), zs_mu c23 < n23 → zs_V MX12_spins 23 [(0, .ref 80), (1, .int (nI k3)), (2, .int c23)] [] zs_Ri := by
      intro n23
      induction n23 with
      | zero => intro c23 hn23; exact absurd hn23 (Nat.not_lt_zero _)
      | succ n23 ih23 =>
        intro c23 hn23
        refine n_iload_n dX12_spins_23 rfl rfl ?_
        refine n_iload_n dX12_spins_24 rfl rfl ?_
        refine n_ic_ge 58 dX12_spins_25 (by decide) (fun h5 => ?_) (fun h5 => ?_)
        · exact j58 c23
        · have hd23 := zs_muA h5 hn23
          refine n_aload_n dX12_spins_28 rfl rfl ?_
          refine n_getR 0 81 (C := RX12) (T := TX12) (N := 19) dX12_spins_29 (by decide) rfl rfl (by decide) rfl fl_RX12_7 ?_
          refine n_iconst (v := (nI 1)) dX12_spins_32 rfl ?_
          refine n_ald dX12_spins_33 (by decide) rfl (by omega) (by decide) (fun x6 => ?_)
          refine n_sipush (v := (nI 9999)) dX12_spins_34 rfl ?_
          refine n_ic_ge 58 dX12_spins_37 (by decide) (fun h7 => ?_) (fun h7 => ?_)
          · exact j58 c23
          · refine n_aload_n dX12_spins_40 rfl rfl ?_
            refine n_iconst (v := (nI 0)) dX12_spins_41 rfl ?_
            refine n_aload_n dX12_spins_42 rfl rfl ?_
            refine n_getR 0 81 (C := RX12) (T := TX12) (N := 19) dX12_spins_43 (by decide) rfl rfl (by decide) rfl fl_RX12_7 ?_
            refine n_iconst (v := (nI 2)) dX12_spins_46 rfl ?_
            refine n_aldR (lo := 0) (up := 11) dX12_spins_47 (by decide) rfl (by omega) (by decide) rfl (fun m8 hm8 km8 => ?_)
            refine n_iconst (v := (nI 1)) dX12_spins_48 rfl ?_
            refine n_callV (T := TX12) (NN := 19) [] (y_X12_flash_0 m8 (by omega) (by omega) (nI 1)) dX12_spins_49 kk_X12_spins_X12_flash ml_RX12_132 mwX12_flash ewX12_flash (by decide) rfl rfl rfl rfl (Nat.le_of_ble_eq_true rfl) ?_
            rintro _ rfl
            refine n_iinc (v := (c23 + Int32.ofInt 1)) (lv' := [(2, .int (c23 + Int32.ofInt 1)), (0, .ref 80), (1, .int (nI k3))]) dX12_spins_52 rfl rfl (by decide) rfl ?_
            refine n_goto 23 dX12_spins_55 (by decide) ?_
            exact zs_Vlv (ih23 (c23 + Int32.ofInt 1) hd23) (zs_mc 1 rfl (zs_mc 2 rfl (zs_mc 0 rfl zs_mn)))
    refine n_aload_n dX12_spins_17 rfl rfl ?_
    refine n_callV (T := TX12) (NN := 19) [] (y_known) dX12_spins_18 kk_X12_spins_X12_known ml_RX12_175 mwX12_known ewX12_known (by decide) rfl rfl rfl rfl (Nat.le_of_ble_eq_true rfl) ?_
    rintro _ rfl
    refine n_iconst (v := (nI 0)) dX12_spins_21 rfl ?_
    refine n_istore_n (lv' := [(2, .int (nI 0)), (0, .ref 80), (1, .int (nI k3))]) dX12_spins_22 rfl (by decide) rfl ?_
    exact zs_Vlv (j23 _ (nI 0) (Nat.lt_succ_self _)) (zs_mc 1 rfl (zs_mc 2 rfl (zs_mc 0 rfl zs_mn)))
  · refine n_aload_n dX12_spins_12 rfl rfl ?_
    refine n_callV (T := TX12) (NN := 19) [] (y_X12_bad) dX12_spins_13 kk_X12_spins_X12_bad ml_RX12_62 mwX12_bad ewX12_bad (by decide) rfl rfl rfl rfl (Nat.le_of_ble_eq_true rfl) ?_
    rintro _ ⟨x9, rfl⟩
    exact n_iret dX12_spins_16 rfl rfl ⟨_, rfl⟩
set_option maxRecDepth 100000 in
theorem y_X12_steps (a1 : Int32) : zs_U MX12_steps [.ref 80, .int a1] zs_Ri := by
  refine zs_Vof (by decide) (Nat.le_of_ble_eq_true rfl) ?_
  show zs_V MX12_steps 0 [(0, .ref 80), (1, .int a1)] [] zs_Ri
  refine n_iload_n dX12_steps_0 rfl rfl ?_
  refine n_i2l dX12_steps_1 ?_
  refine n_lconst (v := 0) dX12_steps_2 (by decide) ?_
  refine n_ldc2 (v := 11) dX12_steps_3 cl_RX12_60 ?_
  refine n_callS [.long (Int32.toInt64 a1), .long 0, .long 11] [] (y_in (Int32.toInt64 a1) 0 11) dX12_steps_6 kk_X12_steps_X12_in ml_RX12_54 swX12_in rfl rfl (Nat.le_of_ble_eq_true rfl) ?_
  rintro _ ⟨x1, rfl, bx1, fx1⟩
  refine n_if_ne 17 dX12_steps_9 (by decide) (fun h2 => ?_) (fun h2 => ?_)
  · obtain ⟨k3, lk3, uk3, rfl⟩ := zs_inR (lo := 0) (hi := 11) (fx1 h2) (by decide) (by decide)
    refine n_aload_n dX12_steps_17 rfl rfl ?_
    refine n_getR 0 81 (C := RX12) (T := TX12) (N := 19) dX12_steps_18 (by decide) rfl rfl (by decide) rfl fl_RX12_7 ?_
    refine n_iconst (v := (nI 2)) dX12_steps_21 rfl ?_
    refine n_aldR (lo := 0) (up := 11) dX12_steps_22 (by decide) rfl (by omega) (by decide) rfl (fun m4 hm4 km4 => ?_)
    refine n_iload_n dX12_steps_23 rfl rfl ?_
    refine n_ic_neN 32 dX12_steps_24 (by decide) (by omega) (by omega) (fun h5 => ?_) (fun h5 => ?_)
    · refine n_aload_n dX12_steps_32 rfl rfl ?_
      refine n_callV (T := TX12) (NN := 19) [] (y_known) dX12_steps_33 kk_X12_steps_X12_known ml_RX12_175 mwX12_known ewX12_known (by decide) rfl rfl rfl rfl (Nat.le_of_ble_eq_true rfl) ?_
      rintro _ rfl
      refine n_aload_n dX12_steps_36 rfl rfl ?_
      refine n_getR 0 81 (C := RX12) (T := TX12) (N := 19) dX12_steps_37 (by decide) rfl rfl (by decide) rfl fl_RX12_7 ?_
      refine n_iconst (v := (nI 2)) dX12_steps_40 rfl ?_
      refine n_aldR (lo := 0) (up := 11) dX12_steps_41 (by decide) rfl (by omega) (by decide) rfl (fun m6 hm6 km6 => ?_)
      refine n_istore_n (lv' := [(2, .int (nI m6)), (0, .ref 80), (1, .int (nI k3))]) dX12_steps_42 rfl (by decide) rfl ?_
      refine n_aload_n dX12_steps_43 rfl rfl ?_
      refine n_getR 0 81 (C := RX12) (T := TX12) (N := 19) dX12_steps_44 (by decide) rfl rfl (by decide) rfl fl_RX12_7 ?_
      refine n_iconst (v := (nI 2)) dX12_steps_47 rfl ?_
      refine n_iload_n dX12_steps_48 rfl rfl ?_
      refine n_ast dX12_steps_49 (by decide) rfl (by omega) (by decide) rfl (zs_okR rfl (by omega) (by omega) (by decide) (by decide)) ?_
      refine n_iload_n dX12_steps_50 rfl rfl ?_
      exact n_iret dX12_steps_51 rfl rfl ⟨_, rfl⟩
    · refine n_aload_n dX12_steps_27 rfl rfl ?_
      refine n_callV (T := TX12) (NN := 19) [] (y_X12_no) dX12_steps_28 kk_X12_steps_X12_no ml_RX12_178 mwX12_no ewX12_no (by decide) rfl rfl rfl rfl (Nat.le_of_ble_eq_true rfl) ?_
      rintro _ ⟨x7, rfl⟩
      exact n_iret dX12_steps_31 rfl rfl ⟨_, rfl⟩
  · refine n_aload_n dX12_steps_12 rfl rfl ?_
    refine n_callV (T := TX12) (NN := 19) [] (y_X12_bad) dX12_steps_13 kk_X12_steps_X12_bad ml_RX12_62 mwX12_bad ewX12_bad (by decide) rfl rfl rfl rfl (Nat.le_of_ble_eq_true rfl) ?_
    rintro _ ⟨x8, rfl⟩
    exact n_iret dX12_steps_16 rfl rfl ⟨_, rfl⟩
set_option maxRecDepth 100000 in
theorem y_X12_draws (a1 : Int32) (a2 : Int32) : zs_U MX12_draws [.ref 80, .int a1, .int a2] zs_Ri := by
  refine zs_Vof (by decide) (Nat.le_of_ble_eq_true rfl) ?_
  show zs_V MX12_draws 0 [(0, .ref 80), (1, .int a1), (2, .int a2)] [] zs_Ri
  refine n_aload_n dX12_draws_0 rfl rfl ?_
  refine n_iload_n dX12_draws_1 rfl rfl ?_
  refine n_callV (T := TX12) (NN := 19) [] (y_isFrame a1) dX12_draws_2 kk_X12_draws_X12_isFrame ml_RX12_181 mwX12_isFrame ewX12_isFrame (by decide) rfl rfl rfl rfl (Nat.le_of_ble_eq_true rfl) ?_
  rintro _ ⟨x1, rfl, bx1, fx1⟩
  refine n_if_eq 20 dX12_draws_5 (by decide) (fun h2 => ?_) (fun h2 => ?_)
  · refine n_aload_n dX12_draws_20 rfl rfl ?_
    refine n_callV (T := TX12) (NN := 19) [] (y_X12_bad) dX12_draws_21 kk_X12_draws_X12_bad ml_RX12_62 mwX12_bad ewX12_bad (by decide) rfl rfl rfl rfl (Nat.le_of_ble_eq_true rfl) ?_
    rintro _ ⟨x3, rfl⟩
    exact n_iret dX12_draws_24 rfl rfl ⟨_, rfl⟩
  · obtain ⟨k4, uk4, rfl⟩ := fx1 h2
    refine n_iload_n dX12_draws_8 rfl rfl ?_
    refine n_i2l dX12_draws_9 ?_
    refine n_lconst (v := 0) dX12_draws_10 (by decide) ?_
    refine n_ldc2 (v := 9) dX12_draws_11 cl_RX12_121 ?_
    refine n_callS [.long (Int32.toInt64 a2), .long 0, .long 9] [] (y_in (Int32.toInt64 a2) 0 9) dX12_draws_14 kk_X12_draws_X12_in ml_RX12_54 swX12_in rfl rfl (Nat.le_of_ble_eq_true rfl) ?_
    rintro _ ⟨x5, rfl, bx5, fx5⟩
    refine n_if_ne 25 dX12_draws_17 (by decide) (fun h6 => ?_) (fun h6 => ?_)
    · obtain ⟨k7, lk7, uk7, rfl⟩ := zs_inR (lo := 0) (hi := 9) (fx5 h6) (by decide) (by decide)
      refine n_aload_n dX12_draws_25 rfl rfl ?_
      refine n_getR 0 81 (C := RX12) (T := TX12) (N := 19) dX12_draws_26 (by decide) rfl rfl (by decide) rfl fl_RX12_7 ?_
      refine n_iconst (v := (nI 3)) dX12_draws_29 rfl ?_
      refine n_iload_n dX12_draws_30 rfl rfl ?_
      refine n_iaddN dX12_draws_31 ?_
      refine n_aldR (lo := 0) (up := 9) dX12_draws_32 (by decide) rfl (by omega) (by decide) (rg_81_3_14 _ (by omega) (by omega)) (fun m8 hm8 km8 => ?_)
      refine n_iload_n dX12_draws_33 rfl rfl ?_
      refine n_ic_neN 42 dX12_draws_34 (by decide) (by omega) (by omega) (fun h9 => ?_) (fun h9 => ?_)
      · refine n_aload_n dX12_draws_42 rfl rfl ?_
        refine n_callV (T := TX12) (NN := 19) [] (y_known) dX12_draws_43 kk_X12_draws_X12_known ml_RX12_175 mwX12_known ewX12_known (by decide) rfl rfl rfl rfl (Nat.le_of_ble_eq_true rfl) ?_
        rintro _ rfl
        refine n_aload_n dX12_draws_46 rfl rfl ?_
        refine n_getR 0 81 (C := RX12) (T := TX12) (N := 19) dX12_draws_47 (by decide) rfl rfl (by decide) rfl fl_RX12_7 ?_
        refine n_iconst (v := (nI 3)) dX12_draws_50 rfl ?_
        refine n_iload_n dX12_draws_51 rfl rfl ?_
        refine n_iaddN dX12_draws_52 ?_
        refine n_aldR (lo := 0) (up := 9) dX12_draws_53 (by decide) rfl (by omega) (by decide) (rg_81_3_14 _ (by omega) (by omega)) (fun m10 hm10 km10 => ?_)
        refine n_istore_n (lv' := [(3, .int (nI m10)), (0, .ref 80), (1, .int (nI k4)), (2, .int (nI k7))]) dX12_draws_54 rfl (by decide) rfl ?_
        refine n_aload_n dX12_draws_55 rfl rfl ?_
        refine n_getR 0 81 (C := RX12) (T := TX12) (N := 19) dX12_draws_56 (by decide) rfl rfl (by decide) rfl fl_RX12_7 ?_
        refine n_iconst (v := (nI 3)) dX12_draws_59 rfl ?_
        refine n_iload_n dX12_draws_60 rfl rfl ?_
        refine n_iaddN dX12_draws_61 ?_
        refine n_iload_n dX12_draws_62 rfl rfl ?_
        refine n_ast dX12_draws_63 (by decide) rfl (by omega) (by decide) rfl (zs_okR (rg_81_3_14 _ (by omega) (by omega)) (by omega) (by omega) (by decide) (by decide)) ?_
        refine n_iload_n dX12_draws_64 rfl rfl ?_
        exact n_iret dX12_draws_65 rfl rfl ⟨_, rfl⟩
      · refine n_aload_n dX12_draws_37 rfl rfl ?_
        refine n_callV (T := TX12) (NN := 19) [] (y_X12_no) dX12_draws_38 kk_X12_draws_X12_no ml_RX12_178 mwX12_no ewX12_no (by decide) rfl rfl rfl rfl (Nat.le_of_ble_eq_true rfl) ?_
        rintro _ ⟨x11, rfl⟩
        exact n_iret dX12_draws_41 rfl rfl ⟨_, rfl⟩
    · refine n_aload_n dX12_draws_20 rfl rfl ?_
      refine n_callV (T := TX12) (NN := 19) [] (y_X12_bad) dX12_draws_21 kk_X12_draws_X12_bad ml_RX12_62 mwX12_bad ewX12_bad (by decide) rfl rfl rfl rfl (Nat.le_of_ble_eq_true rfl) ?_
      rintro _ ⟨x12, rfl⟩
      exact n_iret dX12_draws_24 rfl rfl ⟨_, rfl⟩
