set_option maxRecDepth 100000 in
theorem z_has0 (S : zs_S)  : zs_Ci MX12_has [.int (nI 63), .int (nI 0)] S (fun x S2 => x = nI 1 ∧ S = S2) := by
  refine zs_C.of (by decide) (Nat.le_of_ble_eq_true rfl) ?_
  show zs_P MX12_has 0 [(0, .int (nI 63)), (1, .int (nI 0))] [] S _
  refine g_iload_n dX12_has_0 rfl rfl ?_
  refine g_iload_n dX12_has_1 rfl rfl ?_
  refine g_ishr dX12_has_2 ?_
  refine g_iconst (v := (nI 1)) dX12_has_3 rfl ?_
  refine g_iand dX12_has_4 ?_
  refine g_iconst (v := (nI 1)) dX12_has_5 rfl ?_
  refine g_ic_ne 13 dX12_has_6 (by decide) (fun z => absurd (by decide) z) (fun _ => ?_)
  refine g_iconst (v := (nI 1)) dX12_has_9 rfl ?_
  refine g_goto 14 dX12_has_10 (by decide) ?_
  refine g_iret dX12_has_14 rfl rfl ?_
  exact ⟨_, rfl, rfl, rfl⟩
set_option maxRecDepth 100000 in
theorem z_has1 (S : zs_S)  : zs_Ci MX12_has [.int (nI 63), .int (nI 1)] S (fun x S2 => x = nI 1 ∧ S = S2) := by
  refine zs_C.of (by decide) (Nat.le_of_ble_eq_true rfl) ?_
  show zs_P MX12_has 0 [(0, .int (nI 63)), (1, .int (nI 1))] [] S _
  refine g_iload_n dX12_has_0 rfl rfl ?_
  refine g_iload_n dX12_has_1 rfl rfl ?_
  refine g_ishr dX12_has_2 ?_
  refine g_iconst (v := (nI 1)) dX12_has_3 rfl ?_
  refine g_iand dX12_has_4 ?_
  refine g_iconst (v := (nI 1)) dX12_has_5 rfl ?_
  refine g_ic_ne 13 dX12_has_6 (by decide) (fun z => absurd (by decide) z) (fun _ => ?_)
  refine g_iconst (v := (nI 1)) dX12_has_9 rfl ?_
  refine g_goto 14 dX12_has_10 (by decide) ?_
  refine g_iret dX12_has_14 rfl rfl ?_
  exact ⟨_, rfl, rfl, rfl⟩
set_option maxRecDepth 100000 in
theorem z_has2 (S : zs_S)  : zs_Ci MX12_has [.int (nI 63), .int (nI 2)] S (fun x S2 => x = nI 1 ∧ S = S2) := by
  refine zs_C.of (by decide) (Nat.le_of_ble_eq_true rfl) ?_
  show zs_P MX12_has 0 [(0, .int (nI 63)), (1, .int (nI 2))] [] S _
  refine g_iload_n dX12_has_0 rfl rfl ?_
  refine g_iload_n dX12_has_1 rfl rfl ?_
  refine g_ishr dX12_has_2 ?_
  refine g_iconst (v := (nI 1)) dX12_has_3 rfl ?_
  refine g_iand dX12_has_4 ?_
  refine g_iconst (v := (nI 1)) dX12_has_5 rfl ?_
  refine g_ic_ne 13 dX12_has_6 (by decide) (fun z => absurd (by decide) z) (fun _ => ?_)
  refine g_iconst (v := (nI 1)) dX12_has_9 rfl ?_
  refine g_goto 14 dX12_has_10 (by decide) ?_
  refine g_iret dX12_has_14 rfl rfl ?_
  exact ⟨_, rfl, rfl, rfl⟩
set_option maxRecDepth 100000 in
theorem z_has3 (S : zs_S)  : zs_Ci MX12_has [.int (nI 63), .int (nI 3)] S (fun x S2 => x = nI 1 ∧ S = S2) := by
  refine zs_C.of (by decide) (Nat.le_of_ble_eq_true rfl) ?_
  show zs_P MX12_has 0 [(0, .int (nI 63)), (1, .int (nI 3))] [] S _
  refine g_iload_n dX12_has_0 rfl rfl ?_
  refine g_iload_n dX12_has_1 rfl rfl ?_
  refine g_ishr dX12_has_2 ?_
  refine g_iconst (v := (nI 1)) dX12_has_3 rfl ?_
  refine g_iand dX12_has_4 ?_
  refine g_iconst (v := (nI 1)) dX12_has_5 rfl ?_
  refine g_ic_ne 13 dX12_has_6 (by decide) (fun z => absurd (by decide) z) (fun _ => ?_)
  refine g_iconst (v := (nI 1)) dX12_has_9 rfl ?_
  refine g_goto 14 dX12_has_10 (by decide) ?_
  refine g_iret dX12_has_14 rfl rfl ?_
  exact ⟨_, rfl, rfl, rfl⟩
set_option maxRecDepth 100000 in
theorem z_has4 (S : zs_S)  : zs_Ci MX12_has [.int (nI 63), .int (nI 4)] S (fun x S2 => x = nI 1 ∧ S = S2) := by
  refine zs_C.of (by decide) (Nat.le_of_ble_eq_true rfl) ?_
  show zs_P MX12_has 0 [(0, .int (nI 63)), (1, .int (nI 4))] [] S _
  refine g_iload_n dX12_has_0 rfl rfl ?_
  refine g_iload_n dX12_has_1 rfl rfl ?_
  refine g_ishr dX12_has_2 ?_
  refine g_iconst (v := (nI 1)) dX12_has_3 rfl ?_
  refine g_iand dX12_has_4 ?_
  refine g_iconst (v := (nI 1)) dX12_has_5 rfl ?_
  refine g_ic_ne 13 dX12_has_6 (by decide) (fun z => absurd (by decide) z) (fun _ => ?_)
  refine g_iconst (v := (nI 1)) dX12_has_9 rfl ?_
  refine g_goto 14 dX12_has_10 (by decide) ?_
  refine g_iret dX12_has_14 rfl rfl ?_
  exact ⟨_, rfl, rfl, rfl⟩
set_option maxRecDepth 100000 in
theorem z_has5 (S : zs_S)  : zs_Ci MX12_has [.int (nI 63), .int (nI 5)] S (fun x S2 => x = nI 1 ∧ S = S2) := by
  refine zs_C.of (by decide) (Nat.le_of_ble_eq_true rfl) ?_
  show zs_P MX12_has 0 [(0, .int (nI 63)), (1, .int (nI 5))] [] S _
  refine g_iload_n dX12_has_0 rfl rfl ?_
  refine g_iload_n dX12_has_1 rfl rfl ?_
  refine g_ishr dX12_has_2 ?_
  refine g_iconst (v := (nI 1)) dX12_has_3 rfl ?_
  refine g_iand dX12_has_4 ?_
  refine g_iconst (v := (nI 1)) dX12_has_5 rfl ?_
  refine g_ic_ne 13 dX12_has_6 (by decide) (fun z => absurd (by decide) z) (fun _ => ?_)
  refine g_iconst (v := (nI 1)) dX12_has_9 rfl ?_
  refine g_goto 14 dX12_has_10 (by decide) ?_
  refine g_iret dX12_has_14 rfl rfl ?_
  exact ⟨_, rfl, rfl, rfl⟩
theorem z_has (S : zs_S) (a : Nat) (ha : a < 6) : zs_Ci MX12_has [.int (nI 63), .int (nI a)] S (fun x S2 => x = nI 1 ∧ S = S2) := by
  match a, ha with
  | 0, _ => exact z_has0 S
  | 1, _ => exact z_has1 S
  | 2, _ => exact z_has2 S
  | 3, _ => exact z_has3 S
  | 4, _ => exact z_has4 S
  | 5, _ => exact z_has5 S
theorem z_passes (S : zs_S) (c s k : Nat) (hc : c < 6) (hs : s < 2 ^ 20) (hk : k < 2 ^ 30) : zs_Ci MX12_passes [.int (nI c), .int (nI s), .int (nI k)] S (fun z S2 => z = nI (zs_pas c s k) ∧ S = S2) := by
  match c, hc with
  | 0, _ => exact z_pass0 S s k hs hk
  | 1, _ => exact z_pass1 S s k hs hk
  | 2, _ => exact z_pass2 S s k hs hk
  | 3, _ => exact z_pass3 S s k hs hk
  | 4, _ => exact z_pass4 S s k hs hk
  | 5, _ => exact z_pass5 S s k hs hk
def zs_nb (s k a : Nat) : Nat → Nat
  | 0 => 0
  | b + 1 => zs_nb s k a b + (if zs_pas a s k = zs_pas b s k then 1 else 0)
theorem zs_nb_le (s k a : Nat) : ∀ b, zs_nb s k a b ≤ b
  | 0 => Nat.le_refl 0
  | b + 1 => by
    have := zs_nb_le s k a b
    show zs_nb s k a b + _ ≤ b + 1
    split <;> omega
def zs_ma (s k : Nat) : Nat → Nat
  | 0 => 0
  | a + 1 => max (zs_ma s k a) (zs_nb s k a 6)
theorem zs_ma_le (s k : Nat) : ∀ a, zs_ma s k a ≤ 6
  | 0 => Nat.zero_le 6
  | a + 1 => by
    have h1 := zs_ma_le s k a
    have h2 := zs_nb_le s k a 6
    show max _ _ ≤ 6
    omega
theorem zs_ma_mst : ∀ s, s < 12 → ∀ k, k < 20 → zs_ma s k 6 = zs_mst s k := by decide +kernel
set_option maxRecDepth 100000 in
theorem z_ask_b (S : zs_S) (s k a mo : Nat) (hs : s < 12) (hk20 : k < 20) (ha : a < 6) (x4 x3 x2 : Int32) (Q : Option Value → zs_S → Prop) (hk : zs_P MX12_ask 120 [(10, .int (nI 6)), (9, .int (nI (zs_nb s k a 6))), (8, .int (nI a)), (7, .int (nI mo)), (6, .int (nI k)), (5, .int (nI s)), (4, .int x4), (3, .int x3), (2, .int x2), (1, .int (nI 63)), (0, .ref 80)] [] S Q) : ∀ (d b : Nat), b + d = 6 → zs_P MX12_ask 58 [(10, .int (nI b)), (9, .int (nI (zs_nb s k a b))), (8, .int (nI a)), (7, .int (nI mo)), (6, .int (nI k)), (5, .int (nI s)), (4, .int x4), (3, .int x3), (2, .int x2), (1, .int (nI 63)), (0, .ref 80)] [] S Q := by
  intro d
  induction d with
  | zero =>
    intro b hb
    obtain rfl : b = 6 := by omega
    refine g_iload dX12_ask_58 rfl ?_
    refine g_bipush (v := (nI 6)) dX12_ask_60 rfl ?_
    refine g_ic_geN 120 dX12_ask_62 (by decide) (by omega) (by omega) (fun _ => ?_) (fun z => absurd z (by omega))
    exact hk
  | succ d ih =>
    intro b hb
    refine g_iload dX12_ask_58 rfl ?_
    refine g_bipush (v := (nI 6)) dX12_ask_60 rfl ?_
    refine g_ic_geN 120 dX12_ask_62 (by decide) (by omega) (by omega) (fun z => absurd z (by omega)) (fun _ => ?_)
    refine g_iload dX12_ask_65 rfl ?_
    refine g_iload_n dX12_ask_67 rfl rfl ?_
    refine g_iload dX12_ask_68 rfl ?_
    refine g_callS [.int (nI 63), .int (nI a)] [.int (nI (zs_nb s k a b))] (z_has S (a) (by omega)) dX12_ask_70 kk_X12_ask_X12_has ml_RX12_215 swX12_has rfl rfl (Nat.le_of_ble_eq_true rfl) ?_
    rintro _ _ ⟨_, rfl, rfl, rfl⟩
    refine g_if_eqN 110 dX12_ask_73 (by decide) (by omega) (fun z => absurd z (by omega)) (fun _ => ?_)
    refine g_iload_n dX12_ask_76 rfl rfl ?_
    refine g_iload dX12_ask_77 rfl ?_
    refine g_callS [.int (nI 63), .int (nI b)] [.int (nI (zs_nb s k a b))] (z_has S (b) (by omega)) dX12_ask_79 kk_X12_ask_X12_has ml_RX12_215 swX12_has rfl rfl (Nat.le_of_ble_eq_true rfl) ?_
    rintro _ _ ⟨_, rfl, rfl, rfl⟩
    refine g_if_eqN 110 dX12_ask_82 (by decide) (by omega) (fun z => absurd z (by omega)) (fun _ => ?_)
    refine g_iload dX12_ask_85 rfl ?_
    refine g_iload dX12_ask_87 rfl ?_
    refine g_iload dX12_ask_89 rfl ?_
    refine g_callS [.int (nI a), .int (nI s), .int (nI k)] [.int (nI (zs_nb s k a b))] (z_passes S (a) s k (by omega) (by omega) (by omega)) dX12_ask_91 kk_X12_ask_X12_passes ml_RX12_162 swX12_passes rfl rfl (Nat.le_of_ble_eq_true rfl) ?_
    rintro _ _ ⟨_, rfl, rfl, rfl⟩
    have hpa := zs_pas_lt (c := a) (k := k) hs
    refine g_iload dX12_ask_94 rfl ?_
    refine g_iload dX12_ask_96 rfl ?_
    refine g_iload dX12_ask_98 rfl ?_
    refine g_callS [.int (nI b), .int (nI s), .int (nI k)] [.int (nI (zs_pas a s k)), .int (nI (zs_nb s k a b))] (z_passes S (b) s k (by omega) (by omega) (by omega)) dX12_ask_100 kk_X12_ask_X12_passes ml_RX12_162 swX12_passes rfl rfl (Nat.le_of_ble_eq_true rfl) ?_
    rintro _ _ ⟨_, rfl, rfl, rfl⟩
    have hpb := zs_pas_lt (c := b) (k := k) hs
    refine g_ic_neN 110 dX12_ask_103 (by decide) (by omega) (by omega) (fun h1 => ?_) (fun h1 => ?_)
    · refine g_iconst (v := (nI 0)) dX12_ask_110 rfl ?_
      refine g_iaddN dX12_ask_111 ?_
      refine g_istore (lv' := [(9, .int (nI ((zs_nb s k a b) + 0))), (10, .int (nI b)), (8, .int (nI a)), (7, .int (nI mo)), (6, .int (nI k)), (5, .int (nI s)), (4, .int x4), (3, .int x3), (2, .int x2), (1, .int (nI 63)), (0, .ref 80)]) dX12_ask_112 (by decide) rfl ?_
      refine g_iinc (v := (nI (b + 1))) (lv' := [(10, .int (nI (b + 1))), (9, .int (nI ((zs_nb s k a b) + 0))), (8, .int (nI a)), (7, .int (nI mo)), (6, .int (nI k)), (5, .int (nI s)), (4, .int x4), (3, .int x3), (2, .int x2), (1, .int (nI 63)), (0, .ref 80)]) dX12_ask_114 rfl (nI_1 b) (by decide) rfl ?_
      refine g_goto 58 dX12_ask_117 (by decide) ?_
      have e3 : zs_nb s k a (b + 1) = zs_nb s k a b + 0 := by show zs_nb s k a b + _ = _; rw [if_neg h1]
      have ih := ih (b + 1) (by omega)
      rw [e3] at ih
      exact ih
    · refine g_iconst (v := (nI 1)) dX12_ask_106 rfl ?_
      refine g_goto 111 dX12_ask_107 (by decide) ?_
      refine g_iaddN dX12_ask_111 ?_
      refine g_istore (lv' := [(9, .int (nI ((zs_nb s k a b) + 1))), (10, .int (nI b)), (8, .int (nI a)), (7, .int (nI mo)), (6, .int (nI k)), (5, .int (nI s)), (4, .int x4), (3, .int x3), (2, .int x2), (1, .int (nI 63)), (0, .ref 80)]) dX12_ask_112 (by decide) rfl ?_
      refine g_iinc (v := (nI (b + 1))) (lv' := [(10, .int (nI (b + 1))), (9, .int (nI ((zs_nb s k a b) + 1))), (8, .int (nI a)), (7, .int (nI mo)), (6, .int (nI k)), (5, .int (nI s)), (4, .int x4), (3, .int x3), (2, .int x2), (1, .int (nI 63)), (0, .ref 80)]) dX12_ask_114 rfl (nI_1 b) (by decide) rfl ?_
      refine g_goto 58 dX12_ask_117 (by decide) ?_
      have e3 : zs_nb s k a (b + 1) = zs_nb s k a b + 1 := by show zs_nb s k a b + _ = _; rw [if_pos h1]
      have ih := ih (b + 1) (by omega)
      rw [e3] at ih
      exact ih
set_option maxRecDepth 100000 in
theorem z_ask_a (S : zs_S) (s k : Nat) (hs : s < 12) (hk20 : k < 20) (x4 x3 x2 : Int32) (Q : Option Value → zs_S → Prop) (hk : zs_P MX12_ask 142 [(8, .int (nI 6)), (7, .int (nI (zs_ma s k 6))), (6, .int (nI k)), (5, .int (nI s)), (4, .int x4), (3, .int x3), (2, .int x2), (1, .int (nI 63)), (0, .ref 80)] [] S Q) : ∀ (d a : Nat), a + d = 6 → zs_P MX12_ask 45 [(8, .int (nI a)), (7, .int (nI (zs_ma s k a))), (6, .int (nI k)), (5, .int (nI s)), (4, .int x4), (3, .int x3), (2, .int x2), (1, .int (nI 63)), (0, .ref 80)] [] S Q := by
  intro d
  induction d with
  | zero =>
    intro a ha
    obtain rfl : a = 6 := by omega
    refine g_iload dX12_ask_45 rfl ?_
    refine g_bipush (v := (nI 6)) dX12_ask_47 rfl ?_
    refine g_ic_geN 142 dX12_ask_49 (by decide) (by omega) (by omega) (fun _ => ?_) (fun z => absurd z (by omega))
    exact hk
  | succ d ih =>
    intro a ha
    refine g_iload dX12_ask_45 rfl ?_
    refine g_bipush (v := (nI 6)) dX12_ask_47 rfl ?_
    refine g_ic_geN 142 dX12_ask_49 (by decide) (by omega) (by omega) (fun z => absurd z (by omega)) (fun _ => ?_)
    refine g_iconst (v := (nI 0)) dX12_ask_52 rfl ?_
    refine g_istore (lv' := [(9, .int (nI 0)), (8, .int (nI a)), (7, .int (nI (zs_ma s k a))), (6, .int (nI k)), (5, .int (nI s)), (4, .int x4), (3, .int x3), (2, .int x2), (1, .int (nI 63)), (0, .ref 80)]) dX12_ask_53 (by decide) rfl ?_
    refine g_iconst (v := (nI 0)) dX12_ask_55 rfl ?_
    refine g_istore (lv' := [(10, .int (nI 0)), (9, .int (nI 0)), (8, .int (nI a)), (7, .int (nI (zs_ma s k a))), (6, .int (nI k)), (5, .int (nI s)), (4, .int x4), (3, .int x3), (2, .int x2), (1, .int (nI 63)), (0, .ref 80)]) dX12_ask_56 (by decide) rfl ?_
    refine z_ask_b S s k a (zs_ma s k a) hs hk20 (by omega) x4 x3 x2 _ ?_ 6 0 (by omega)
    have hb6 := zs_nb_le s k a 6
    have ha6 := zs_ma_le s k a
    refine g_iload dX12_ask_120 rfl ?_
    refine g_iload dX12_ask_122 rfl ?_
    refine g_ic_leN 132 dX12_ask_124 (by decide) (by omega) (by omega) (fun h1 => ?_) (fun h1 => ?_)
    · refine g_iload dX12_ask_132 rfl ?_
      refine g_istore (lv' := [(7, .int (nI (zs_ma s k a))), (10, .int (nI 6)), (9, .int (nI (zs_nb s k a 6))), (8, .int (nI a)), (6, .int (nI k)), (5, .int (nI s)), (4, .int x4), (3, .int x3), (2, .int x2), (1, .int (nI 63)), (0, .ref 80)]) dX12_ask_134 (by decide) rfl ?_
      refine g_iinc (v := (nI (a + 1))) (lv' := [(8, .int (nI (a + 1))), (7, .int (nI (zs_ma s k a))), (10, .int (nI 6)), (9, .int (nI (zs_nb s k a 6))), (6, .int (nI k)), (5, .int (nI s)), (4, .int x4), (3, .int x3), (2, .int x2), (1, .int (nI 63)), (0, .ref 80)]) dX12_ask_136 rfl (nI_1 a) (by decide) rfl ?_
      refine g_goto 45 dX12_ask_139 (by decide) ?_
      have e3 : zs_ma s k (a + 1) = zs_ma s k a := by show max _ _ = _; omega
      have ih := ih (a + 1) (by omega)
      rw [e3] at ih
      exact ih.lv (by simp)
    · refine g_iload dX12_ask_127 rfl ?_
      refine g_goto 134 dX12_ask_129 (by decide) ?_
      refine g_istore (lv' := [(7, .int (nI (zs_nb s k a 6))), (10, .int (nI 6)), (9, .int (nI (zs_nb s k a 6))), (8, .int (nI a)), (6, .int (nI k)), (5, .int (nI s)), (4, .int x4), (3, .int x3), (2, .int x2), (1, .int (nI 63)), (0, .ref 80)]) dX12_ask_134 (by decide) rfl ?_
      refine g_iinc (v := (nI (a + 1))) (lv' := [(8, .int (nI (a + 1))), (7, .int (nI (zs_nb s k a 6))), (10, .int (nI 6)), (9, .int (nI (zs_nb s k a 6))), (6, .int (nI k)), (5, .int (nI s)), (4, .int x4), (3, .int x3), (2, .int x2), (1, .int (nI 63)), (0, .ref 80)]) dX12_ask_136 rfl (nI_1 a) (by decide) rfl ?_
      refine g_goto 45 dX12_ask_139 (by decide) ?_
      have e3 : zs_ma s k (a + 1) = zs_nb s k a 6 := by show max _ _ = _; omega
      have ih := ih (a + 1) (by omega)
      rw [e3] at ih
      exact ih.lv (by simp)
set_option maxRecDepth 100000 in
theorem z_ask_t (S : zs_S) (Q : Option Value → zs_S → Prop) (hq : Q (some (.int (zs_bk 99 240).1)) S) : ∀ (d t : Nat), t + d = 240 → zs_P MX12_ask 13 [(4, .int (nI t)), (3, .int (nI ((zs_bk 99 t).2))), (2, .int ((zs_bk 99 t).1)), (1, .int (nI 63)), (0, .ref 80)] [] S Q := by
  intro d
  induction d with
  | zero =>
    intro t ht
    obtain rfl : t = 240 := by omega
    refine g_iload dX12_ask_13 rfl ?_
    refine g_sipush (v := (nI 240)) dX12_ask_15 rfl ?_
    refine g_ic_geN 180 dX12_ask_18 (by decide) (by omega) (by omega) (fun _ => ?_) (fun z => absurd z (by omega))
    refine g_iload_n dX12_ask_180 rfl rfl ?_
    refine g_iret dX12_ask_181 rfl rfl ?_
    exact hq
  | succ d ih =>
    intro t ht
    refine g_iload dX12_ask_13 rfl ?_
    refine g_sipush (v := (nI 240)) dX12_ask_15 rfl ?_
    refine g_ic_geN 180 dX12_ask_18 (by decide) (by omega) (by omega) (fun z => absurd z (by omega)) (fun _ => ?_)
    refine g_iload_n dX12_ask_21 rfl rfl ?_
    refine g_if_leN 180 dX12_ask_22 (by decide) (by omega) (fun z => absurd z (by omega)) (fun _ => ?_)
    refine g_iload dX12_ask_25 rfl ?_
    refine g_bipush (v := (nI 20)) dX12_ask_27 rfl ?_
    refine g_idivN dX12_ask_29 (by omega) (by omega) (by omega) ?_
    refine g_istore (lv' := [(5, .int (nI (t / 20))), (4, .int (nI t)), (3, .int (nI ((zs_bk 99 t).2))), (2, .int ((zs_bk 99 t).1)), (1, .int (nI 63)), (0, .ref 80)]) dX12_ask_30 (by decide) rfl ?_
    refine g_iload dX12_ask_32 rfl ?_
    refine g_bipush (v := (nI 20)) dX12_ask_34 rfl ?_
    refine g_iremN dX12_ask_36 (by omega) (by omega) (by omega) ?_
    refine g_istore (lv' := [(6, .int (nI (t % 20))), (5, .int (nI (t / 20))), (4, .int (nI t)), (3, .int (nI ((zs_bk 99 t).2))), (2, .int ((zs_bk 99 t).1)), (1, .int (nI 63)), (0, .ref 80)]) dX12_ask_37 (by decide) rfl ?_
    refine g_iconst (v := (nI 0)) dX12_ask_39 rfl ?_
    refine g_istore (lv' := [(7, .int (nI 0)), (6, .int (nI (t % 20))), (5, .int (nI (t / 20))), (4, .int (nI t)), (3, .int (nI ((zs_bk 99 t).2))), (2, .int ((zs_bk 99 t).1)), (1, .int (nI 63)), (0, .ref 80)]) dX12_ask_40 (by decide) rfl ?_
    refine g_iconst (v := (nI 0)) dX12_ask_42 rfl ?_
    refine g_istore (lv' := [(8, .int (nI 0)), (7, .int (nI 0)), (6, .int (nI (t % 20))), (5, .int (nI (t / 20))), (4, .int (nI t)), (3, .int (nI ((zs_bk 99 t).2))), (2, .int ((zs_bk 99 t).1)), (1, .int (nI 63)), (0, .ref 80)]) dX12_ask_43 (by decide) rfl ?_
    refine (z_ask_a S (t / 20) (t % 20) (by omega) (by omega) (nI t) (nI (zs_bk 99 t).2) (zs_bk 99 t).1 _ ?_ 6 0 (by omega)).lv (by simp [zs_ma])
    have hb6 := zs_ma_le (t / 20) (t % 20) 6
    have hw6 := zs_bk_le 99 t
    refine g_iload dX12_ask_142 rfl ?_
    refine g_iload_n dX12_ask_144 rfl rfl ?_
    refine g_ic_geN 159 dX12_ask_145 (by decide) (by omega) (by omega) (fun h1 => ?_) (fun h1 => ?_)
    · refine g_iload_n dX12_ask_159 rfl rfl ?_
      refine g_istore_n (lv' := [(2, .int ((zs_bk 99 t).1)), (8, .int (nI 6)), (7, .int (nI (zs_ma (t / 20) (t % 20) 6))), (6, .int (nI (t % 20))), (5, .int (nI (t / 20))), (4, .int (nI t)), (3, .int (nI ((zs_bk 99 t).2))), (1, .int (nI 63)), (0, .ref 80)]) dX12_ask_160 rfl (by decide) rfl ?_
      refine g_iload dX12_ask_161 rfl ?_
      refine g_iload_n dX12_ask_163 rfl rfl ?_
      refine g_ic_geN 172 dX12_ask_164 (by decide) (by omega) (by omega) (fun _ => ?_) (fun z => absurd z (by omega))
      refine g_iload_n dX12_ask_172 rfl rfl ?_
      refine g_istore_n (lv' := [(3, .int (nI ((zs_bk 99 t).2))), (2, .int ((zs_bk 99 t).1)), (8, .int (nI 6)), (7, .int (nI (zs_ma (t / 20) (t % 20) 6))), (6, .int (nI (t % 20))), (5, .int (nI (t / 20))), (4, .int (nI t)), (1, .int (nI 63)), (0, .ref 80)]) dX12_ask_173 rfl (by decide) rfl ?_
      refine g_iinc (v := (nI (t + 1))) (lv' := [(4, .int (nI (t + 1))), (3, .int (nI ((zs_bk 99 t).2))), (2, .int ((zs_bk 99 t).1)), (8, .int (nI 6)), (7, .int (nI (zs_ma (t / 20) (t % 20) 6))), (6, .int (nI (t % 20))), (5, .int (nI (t / 20))), (1, .int (nI 63)), (0, .ref 80)]) dX12_ask_174 rfl (nI_1 t) (by decide) rfl ?_
      refine g_goto 13 dX12_ask_177 (by decide) ?_
      have e3 : zs_bk 99 (t + 1) = zs_bk 99 t := by
        show zs_bs t (zs_bk 99 t) = _
        unfold zs_bs zs_mg
        rw [← zs_ma_mst _ (by omega) _ (by omega), if_neg (by omega)]
      have ih := ih (t + 1) (by omega)
      rw [e3] at ih
      exact ih.lv (by simp)
    · refine g_bipush (v := (nI 100)) dX12_ask_148 rfl ?_
      refine g_iload dX12_ask_150 rfl ?_
      refine g_imulN dX12_ask_152 ?_
      refine g_iload dX12_ask_153 rfl ?_
      refine g_iaddN dX12_ask_155 ?_
      refine g_goto 160 dX12_ask_156 (by decide) ?_
      refine g_istore_n (lv' := [(2, .int (nI ((100 * (t / 20)) + (t % 20)))), (8, .int (nI 6)), (7, .int (nI (zs_ma (t / 20) (t % 20) 6))), (6, .int (nI (t % 20))), (5, .int (nI (t / 20))), (4, .int (nI t)), (3, .int (nI ((zs_bk 99 t).2))), (1, .int (nI 63)), (0, .ref 80)]) dX12_ask_160 rfl (by decide) rfl ?_
      refine g_iload dX12_ask_161 rfl ?_
      refine g_iload_n dX12_ask_163 rfl rfl ?_
      refine g_ic_geN 172 dX12_ask_164 (by decide) (by omega) (by omega) (fun z => absurd z (by omega)) (fun _ => ?_)
      refine g_iload dX12_ask_167 rfl ?_
      refine g_goto 173 dX12_ask_169 (by decide) ?_
      refine g_istore_n (lv' := [(3, .int (nI (zs_ma (t / 20) (t % 20) 6))), (2, .int (nI ((100 * (t / 20)) + (t % 20)))), (8, .int (nI 6)), (7, .int (nI (zs_ma (t / 20) (t % 20) 6))), (6, .int (nI (t % 20))), (5, .int (nI (t / 20))), (4, .int (nI t)), (1, .int (nI 63)), (0, .ref 80)]) dX12_ask_173 rfl (by decide) rfl ?_
      refine g_iinc (v := (nI (t + 1))) (lv' := [(4, .int (nI (t + 1))), (3, .int (nI (zs_ma (t / 20) (t % 20) 6))), (2, .int (nI ((100 * (t / 20)) + (t % 20)))), (8, .int (nI 6)), (7, .int (nI (zs_ma (t / 20) (t % 20) 6))), (6, .int (nI (t % 20))), (5, .int (nI (t / 20))), (1, .int (nI 63)), (0, .ref 80)]) dX12_ask_174 rfl (nI_1 t) (by decide) rfl ?_
      refine g_goto 13 dX12_ask_177 (by decide) ?_
      have e3 : zs_bk 99 (t + 1) = (nI (100 * (t / 20) + t % 20), zs_ma (t / 20) (t % 20) 6) := by
        show zs_bs t (zs_bk 99 t) = _
        unfold zs_bs zs_mg
        rw [← zs_ma_mst _ (by omega) _ (by omega), if_pos (by omega)]
      have ih := ih (t + 1) (by omega)
      rw [e3] at ih
      exact ih.lv (by simp)
set_option maxRecDepth 100000 in
theorem w_ask (S : zs_S) (F : zs_F1 S) : zs_Ci MX12_ask [.ref 80] S (fun x _ => x = nI 201) := by
  refine zs_C.of (by decide) (Nat.le_of_ble_eq_true rfl) ?_
  show zs_P MX12_ask 0 [(0, .ref 80)] [] S _
  refine g_aload_n dX12_ask_0 rfl rfl ?_
  refine g_callV (T := TX12) (NN := 19) [] (z_kinds S F) dX12_ask_1 kk_X12_ask_X12_kinds ml_RX12_219 mwX12_kinds ewX12_kinds (by decide) rfl rfl rfl rfl (Nat.le_of_ble_eq_true rfl) ?_
  rintro _ _ ⟨_, rfl, rfl, rfl⟩
  refine g_istore_n (lv' := [(1, .int (nI 63)), (0, .ref 80)]) dX12_ask_4 rfl (by decide) rfl ?_
  refine g_iconst (v := (-1)) dX12_ask_5 rfl ?_
  refine g_istore_n (lv' := [(2, .int (-1)), (1, .int (nI 63)), (0, .ref 80)]) dX12_ask_6 rfl (by decide) rfl ?_
  refine g_bipush (v := (nI 99)) dX12_ask_7 rfl ?_
  refine g_istore_n (lv' := [(3, .int (nI 99)), (2, .int (-1)), (1, .int (nI 63)), (0, .ref 80)]) dX12_ask_9 rfl (by decide) rfl ?_
  refine g_iconst (v := (nI 0)) dX12_ask_10 rfl ?_
  refine g_istore (lv' := [(4, .int (nI 0)), (3, .int (nI 99)), (2, .int (-1)), (1, .int (nI 63)), (0, .ref 80)]) dX12_ask_11 (by decide) rfl ?_
  exact (z_ask_t S _ ⟨_, rfl, congrArg Prod.fst zs_bk_240b⟩ 240 0 (by omega)).lv (by simp [zs_bk])
