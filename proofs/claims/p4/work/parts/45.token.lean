/-! THE MODEL'S READING -/
def zs_oT (S0 S : zs_S) : Prop := zs_J S ∧ zs_fm S0 S ∧ (∀ b, b ≠ 80 → S.1 b = S0.1 b) ∧ ∀ j, (j = 3 ∨ j = 7 ∨ j = 8 ∨ j = 9 ∨ j = 10) → S.1 80 j = S0.1 80 j
theorem zs_oT.rf {S : zs_S} (hJ : zs_J S) : zs_oT S S := ⟨hJ, zs_fm.rf, fun _ _ => rfl, fun _ _ => rfl⟩
theorem zs_oT.tr {S S1 S2 : zs_S} (h : zs_oT S S1) (k : zs_oT S1 S2) : zs_oT S S2 := ⟨k.1, h.2.1.tr k.2.1, fun b hb => (k.2.2.1 b hb).trans (h.2.2.1 b hb), fun j hj => (k.2.2.2 j hj).trans (h.2.2.2 j hj)⟩
theorem zs_oT.up {S0 S : zs_S} {j : Nat} {v : Int32} (h : zs_oT S0 S) (hj : j = 5 ∨ j = 6 ∨ j = 11) (hv : zs_ok 80 j v) : zs_oT S0 (zs_up S.1 80 j v, S.2) := ⟨h.1.up hv, h.2.1.tr (zs_fm.up (by rcases hj with rfl | rfl | rfl <;> rfl)), fun b hb => (zs_uo (f := S.1) (a := 80) (j := j) (v := v) (b := b) hb).trans (h.2.2.1 b hb), fun i hi => (zs_up_m (by omega)).trans (h.2.2.2 i hi)⟩
theorem zs_q5 {S : zs_S} {q : Nat} (hJ : zs_J S) (h : S.1 80 5 = nI q) (hb : q < 2 ^ 31) : q ≤ 150 := by
  obtain ⟨k, -, h2, h3⟩ := hJ.1 80 5 0 150 rfl
  rw [h] at h3
  have := (nI_eq hb (by omega)).mp h3
  omega
theorem zs_bq {q L : Nat} {x a : Int32} (b : (q < L ∧ x = a) ∨ (L ≤ q ∧ x = -1)) (h : ¬ x = -1) : q < L ∧ x = a := b.resolve_right (fun z => h z.2)
theorem zs_nm1 {k : Nat} (hk : k < 2 ^ 31) : ¬ nI k = -1 := fun z => by
  have h := congrArg Int32.toInt z
  rw [nI_toInt hk] at h
  have : (-1 : Int32).toInt = -1 := rfl
  omega
theorem z_byteAt (q L : Nat) (S : zs_S) (hL : S.1 80 3 = nI L) (hv8 : L ≤ 150) (h9 : q ≤ 150) : zs_Ci MX12_byteAt [.ref 80, .int (nI q)] S (fun x S2 => ((q < L ∧ x = S.1 84 q) ∨ (L ≤ q ∧ x = -1)) ∧ S = S2) := by
  refine zs_C.of (by decide) (Nat.le_of_ble_eq_true rfl) ?_
  show zs_P MX12_byteAt 0 [(0, .ref 80), (1, .int (nI q))] [] S _
  refine g_iload_n dX12_byteAt_0 rfl rfl ?_
  refine g_aload_n dX12_byteAt_1 rfl rfl ?_
  refine g_getV 3 (C := RX12) (T := TX12) (N := 19) (v := (nI L)) dX12_byteAt_2 (by decide) rfl rfl (by decide) rfl fl_RX12_75 hL ?_
  refine g_ic_geN 17 dX12_byteAt_5 (by decide) (by omega) (by omega) (fun h1 => ?_) (fun h1 => ?_)
  · refine g_iconst (v := (-1)) dX12_byteAt_17 rfl ?_
    refine g_iret dX12_byteAt_18 rfl rfl ?_
    exact ⟨_, rfl, Or.inr ⟨by omega, rfl⟩, rfl⟩
  · refine g_aload_n dX12_byteAt_8 rfl rfl ?_
    refine g_getR 4 (84) (C := RX12) (T := TX12) (N := 19) dX12_byteAt_9 (by decide) rfl rfl (by decide) rfl fl_RX12_19 ?_
    refine g_iload_n dX12_byteAt_12 rfl rfl ?_
    refine g_bald dX12_byteAt_13 (by decide) rfl (vp_in_nI (by omega) (by omega)) ?_
    refine g_goto 18 dX12_byteAt_14 (by decide) ?_
    refine g_iret dX12_byteAt_18 rfl rfl ?_
    exact ⟨_, rfl, Or.inl ⟨by omega, by rw [nI_clamp (by omega)]⟩, rfl⟩
set_option maxRecDepth 100000 in
theorem z_tok63 (S0 : zs_S) (q0 L : Nat) (hL : S0.1 80 3 = nI L) (hv8 : L ≤ 150) (c : Int32) : ∀ (d q : Nat), q + d = 151 → ∀ S, zs_oT S0 S → S.1 80 5 = nI q → q0 < q → zs_P MX12_token 63 [(1, .int c), (0, .ref 80)] [] S (fun v S2 => ∃ x, v = some (.int x) ∧ zs_oT S0 S2 ∧ ∃ t q, t ≤ 4 ∧ x = nI t ∧ S2.1 80 5 = nI q ∧ q ≤ 150 ∧ q0 ≤ q ∧ (t ≠ 4 → q0 < q)) := by
  intro d
  induction d with
  | zero =>
    intro q hd S hS hq5 hq0
    obtain ⟨k, -, h2, h3⟩ := hS.1.1 80 5 0 150 rfl
    rw [hq5] at h3
    exact absurd ((nI_eq (by omega) (by omega)).mp h3) (by omega)
  | succ d ih =>
    intro q hd S hS hq5 hq0
    have hq150 : q ≤ 150 := zs_q5 hS.1 hq5 (by omega)
    have ih : ∀ q, q + d = 151 → ∀ S, zs_oT S0 S → S.1 80 5 = nI q → q0 < q → zs_P MX12_token 63 [(1, .int c), (0, .ref 80)] [] S (fun v S2 => ∃ x, v = some (.int x) ∧ zs_oT S0 S2 ∧ ∃ t q, t ≤ 4 ∧ x = nI t ∧ S2.1 80 5 = nI q ∧ q ≤ 150 ∧ q0 ≤ q ∧ (t ≠ 4 → q0 < q)) := ih
    refine g_aload_n dX12_token_63 rfl rfl ?_
    refine g_aload_n dX12_token_64 rfl rfl ?_
    refine g_getV 5 (C := RX12) (T := TX12) (N := 19) (v := (nI q)) dX12_token_65 (by decide) rfl rfl (by decide) rfl fl_RX12_79 hq5 ?_
    refine g_callV (T := TX12) (NN := 19) [] (z_byteAt q L S ((hS.2.2.2 3 (by omega)).trans hL) hv8 (by omega)) dX12_token_68 kk_X12_token_X12_byteAt ml_RX12_82 mwX12_byteAt ewX12_byteAt (by decide) rfl rfl rfl rfl (Nat.le_of_ble_eq_true rfl) ?_
    rintro _ _ ⟨x1, rfl, bx1, rfl⟩
    refine g_i2l dX12_token_71 rfl ?_
    refine g_ldc2 (v := 97) dX12_token_72 cl_RX12_88 ?_
    refine g_ldc2 (v := 122) dX12_token_75 cl_RX12_90 ?_
    refine g_callS [.long (Int32.toInt64 x1), .long 97, .long 122] [] (z_in S x1 97 122 (by decide) (by decide)) dX12_token_78 kk_X12_token_X12_in ml_RX12_54 swX12_in rfl rfl (Nat.le_of_ble_eq_true rfl) ?_
    rintro _ _ ⟨_, rfl, rfl, rfl⟩
    refine g_if_eq 97 dX12_token_81 (by decide) (fun h4 => ?_) (fun h4 => ?_)
    · have h4 := zs_b0 h4
      refine g_iconst (v := (nI 0)) dX12_token_97 rfl ?_
      refine g_iret dX12_token_98 rfl rfl ?_
      exact ⟨_, rfl, hS, _, q, by omega, rfl, hq5, by omega, by omega, by omega⟩
    · have h4 := zs_b1 h4
      obtain ⟨x1', x1'a, x1'b, rfl⟩ := zs_rng h4 (by omega)
      have hqL := (zs_bq bx1 (zs_nm1 (by omega))).1
      refine g_aload_n dX12_token_84 rfl rfl ?_
      refine g_dup dX12_token_85 rfl ?_
      refine g_getV 5 (C := RX12) (T := TX12) (N := 19) (v := (nI q)) dX12_token_86 (by decide) rfl rfl (by decide) rfl fl_RX12_79 hq5 ?_
      refine g_iconst (v := (nI 1)) dX12_token_89 rfl ?_
      refine g_iaddN dX12_token_90 ?_
      refine g_putI 5 (C := RX12) (T := TX12) (N := 19) (ty := .int) dX12_token_91 (by decide) rfl rfl (by decide) rfl fl_RX12_79 rfl (by decide +kernel) ⟨rfl, rfl⟩ ?_
      refine g_goto 63 dX12_token_94 (by decide) ?_
      exact ih (q + 1) (by omega) _ ((hS).up (by omega) (zs_okR rfl (by omega) (by omega) (by decide) (by decide))) zs_up_q (by omega)
set_option maxRecDepth 100000 in
theorem z_tok120 (S0 : zs_S) (q0 L : Nat) (hL : S0.1 80 3 = nI L) (hv8 : L ≤ 150) (c : Int32) : ∀ (d q : Nat), q + d = 151 → ∀ (f : Int32) S, zs_oT S0 S → S.1 80 5 = nI q → q0 < q → zs_P MX12_token 120 [(2, .int f), (1, .int c), (0, .ref 80)] [] S (fun v S2 => ∃ x, v = some (.int x) ∧ zs_oT S0 S2 ∧ ∃ t q, t ≤ 4 ∧ x = nI t ∧ S2.1 80 5 = nI q ∧ q ≤ 150 ∧ q0 ≤ q ∧ (t ≠ 4 → q0 < q)) := by
  intro d
  induction d with
  | zero =>
    intro q hd f S hS hq5 hq0
    obtain ⟨k, -, h2, h3⟩ := hS.1.1 80 5 0 150 rfl
    rw [hq5] at h3
    exact absurd ((nI_eq (by omega) (by omega)).mp h3) (by omega)
  | succ d ih =>
    intro q hd f S hS hq5 hq0
    have hq150 : q ≤ 150 := zs_q5 hS.1 hq5 (by omega)
    have ih : ∀ q, q + d = 151 → ∀ (f : Int32) S, zs_oT S0 S → S.1 80 5 = nI q → q0 < q → zs_P MX12_token 120 [(2, .int f), (1, .int c), (0, .ref 80)] [] S (fun v S2 => ∃ x, v = some (.int x) ∧ zs_oT S0 S2 ∧ ∃ t q, t ≤ 4 ∧ x = nI t ∧ S2.1 80 5 = nI q ∧ q ≤ 150 ∧ q0 ≤ q ∧ (t ≠ 4 → q0 < q)) := ih
    refine g_aload_n dX12_token_120 rfl rfl ?_
    refine g_aload_n dX12_token_121 rfl rfl ?_
    refine g_getV 5 (C := RX12) (T := TX12) (N := 19) (v := (nI q)) dX12_token_122 (by decide) rfl rfl (by decide) rfl fl_RX12_79 hq5 ?_
    refine g_callV (T := TX12) (NN := 19) [] (z_byteAt q L S ((hS.2.2.2 3 (by omega)).trans hL) hv8 (by omega)) dX12_token_125 kk_X12_token_X12_byteAt ml_RX12_82 mwX12_byteAt ewX12_byteAt (by decide) rfl rfl rfl rfl (Nat.le_of_ble_eq_true rfl) ?_
    rintro _ _ ⟨x1, rfl, bx1, rfl⟩
    refine g_i2l dX12_token_128 rfl ?_
    refine g_ldc2 (v := 48) dX12_token_129 cl_RX12_92 ?_
    refine g_ldc2 (v := 57) dX12_token_132 cl_RX12_94 ?_
    refine g_callS [.long (Int32.toInt64 x1), .long 48, .long 57] [] (z_in S x1 48 57 (by decide) (by decide)) dX12_token_135 kk_X12_token_X12_in ml_RX12_54 swX12_in rfl rfl (Nat.le_of_ble_eq_true rfl) ?_
    rintro _ _ ⟨_, rfl, rfl, rfl⟩
    refine g_if_eq 191 dX12_token_138 (by decide) (fun h4 => ?_) (fun h4 => ?_)
    · have h4 := zs_b0 h4
      refine g_iconst (v := (nI 1)) dX12_token_191 rfl ?_
      refine g_iret dX12_token_192 rfl rfl ?_
      exact ⟨_, rfl, hS, _, q, by omega, rfl, hq5, by omega, by omega, by omega⟩
    · have h4 := zs_b1 h4
      obtain ⟨x1', x1'a, x1'b, rfl⟩ := zs_rng h4 (by omega)
      have hqL := (zs_bq bx1 (zs_nm1 (by omega))).1
      refine g_aload_n dX12_token_141 rfl rfl ?_
      refine g_iload_n dX12_token_142 rfl rfl ?_
      refine g_iconst (v := (nI 2)) dX12_token_143 rfl ?_
      refine g_ic_ge 169 dX12_token_144 (by decide) (fun h5 => ?_) (fun h5 => ?_)
      · refine g_sipush (v := (nI 1000)) dX12_token_169 rfl ?_
        refine g_putI 11 (C := RX12) (T := TX12) (N := 19) (ty := .int) dX12_token_172 (by decide) rfl rfl (by decide) rfl fl_RX12_96 rfl (by decide +kernel) ⟨rfl, rfl⟩ ?_
        refine g_iinc (v := (f + 1)) (lv' := [(2, .int (f + 1)), (1, .int c), (0, .ref 80)]) dX12_token_175 rfl rfl (by decide) rfl ?_
        refine g_aload_n dX12_token_178 rfl rfl ?_
        refine g_dup dX12_token_179 rfl ?_
        refine g_getV 5 (C := RX12) (T := TX12) (N := 19) (v := (nI q)) dX12_token_180 (by decide) rfl rfl (by decide) rfl fl_RX12_79 ((zs_up_m (by omega)).trans hq5) ?_
        refine g_iconst (v := (nI 1)) dX12_token_183 rfl ?_
        refine g_iaddN dX12_token_184 ?_
        refine g_putI 5 (C := RX12) (T := TX12) (N := 19) (ty := .int) dX12_token_185 (by decide) rfl rfl (by decide) rfl fl_RX12_79 rfl (by decide +kernel) ⟨rfl, rfl⟩ ?_
        refine g_goto 120 dX12_token_188 (by decide) ?_
        exact ih (q + 1) (by omega) _ _ ((((hS).up (by omega) (zs_okN rfl (by decide) (by decide)))).up (by omega) (zs_okR rfl (by omega) (by omega) (by decide) (by decide))) zs_up_q (by omega)
      · refine g_bipush (v := (nI 10)) dX12_token_147 rfl ?_
        refine g_aload_n dX12_token_149 rfl rfl ?_
        refine g_getI 11 (C := RX12) (T := TX12) (N := 19) dX12_token_150 (by decide) rfl rfl (by decide) rfl fl_RX12_96 ?_
        refine g_imul dX12_token_153 ?_
        refine g_aload_n dX12_token_154 rfl rfl ?_
        refine g_aload_n dX12_token_155 rfl rfl ?_
        refine g_getV 5 (C := RX12) (T := TX12) (N := 19) (v := (nI q)) dX12_token_156 (by decide) rfl rfl (by decide) rfl fl_RX12_79 hq5 ?_
        refine g_callV (T := TX12) (NN := 19) [.int ((nI 10) * (S.1 80 11)), .ref 80] (z_byteAt q L S ((hS.2.2.2 3 (by omega)).trans hL) hv8 (by omega)) dX12_token_159 kk_X12_token_X12_byteAt ml_RX12_82 mwX12_byteAt ewX12_byteAt (by decide) rfl rfl rfl rfl (Nat.le_of_ble_eq_true rfl) ?_
        rintro _ _ ⟨x6, rfl, bx6, rfl⟩
        refine g_iadd dX12_token_162 ?_
        refine g_bipush (v := (nI 48)) dX12_token_163 rfl ?_
        refine g_isub dX12_token_165 ?_
        refine g_goto 172 dX12_token_166 (by decide) ?_
        refine g_putI 11 (C := RX12) (T := TX12) (N := 19) (ty := .int) dX12_token_172 (by decide) rfl rfl (by decide) rfl fl_RX12_96 rfl (by decide +kernel) ⟨rfl, rfl⟩ ?_
        refine g_iinc (v := (f + 1)) (lv' := [(2, .int (f + 1)), (1, .int c), (0, .ref 80)]) dX12_token_175 rfl rfl (by decide) rfl ?_
        refine g_aload_n dX12_token_178 rfl rfl ?_
        refine g_dup dX12_token_179 rfl ?_
        refine g_getV 5 (C := RX12) (T := TX12) (N := 19) (v := (nI q)) dX12_token_180 (by decide) rfl rfl (by decide) rfl fl_RX12_79 ((zs_up_m (by omega)).trans hq5) ?_
        refine g_iconst (v := (nI 1)) dX12_token_183 rfl ?_
        refine g_iaddN dX12_token_184 ?_
        refine g_putI 5 (C := RX12) (T := TX12) (N := 19) (ty := .int) dX12_token_185 (by decide) rfl rfl (by decide) rfl fl_RX12_79 rfl (by decide +kernel) ⟨rfl, rfl⟩ ?_
        refine g_goto 120 dX12_token_188 (by decide) ?_
        exact ih (q + 1) (by omega) _ _ ((((hS).up (by omega) (zs_okN rfl (by decide) (by decide)))).up (by omega) (zs_okR rfl (by omega) (by omega) (by decide) (by decide))) zs_up_q (by omega)
set_option maxRecDepth 100000 in
theorem z_tok26 (S0 : zs_S) (q0 L : Nat) (hL : S0.1 80 3 = nI L) (hv8 : L ≤ 150) (q : Nat) (S : zs_S) (hS : zs_oT S0 S) (hq5 : S.1 80 5 = nI q) (hq0 : q0 ≤ q) (hq9 : q ≤ 150) : zs_P MX12_token 26 [(0, .ref 80)] [] S (fun v S2 => ∃ x, v = some (.int x) ∧ zs_oT S0 S2 ∧ ∃ t q, t ≤ 4 ∧ x = nI t ∧ S2.1 80 5 = nI q ∧ q ≤ 150 ∧ q0 ≤ q ∧ (t ≠ 4 → q0 < q)) := by
  refine g_aload_n dX12_token_26 rfl rfl ?_
  refine g_aload_n dX12_token_27 rfl rfl ?_
  refine g_getV 5 (C := RX12) (T := TX12) (N := 19) (v := (nI q)) dX12_token_28 (by decide) rfl rfl (by decide) rfl fl_RX12_79 hq5 ?_
  refine g_putI 6 (C := RX12) (T := TX12) (N := 19) (ty := .int) dX12_token_31 (by decide) rfl rfl (by decide) rfl fl_RX12_85 rfl (by decide +kernel) ⟨rfl, rfl⟩ ?_
  refine g_aload_n dX12_token_34 rfl rfl ?_
  refine g_aload_n dX12_token_35 rfl rfl ?_
  refine g_getV 5 (C := RX12) (T := TX12) (N := 19) (v := (nI q)) dX12_token_36 (by decide) rfl rfl (by decide) rfl fl_RX12_79 ((zs_up_m (by omega)).trans hq5) ?_
  refine g_callV (T := TX12) (NN := 19) [] (z_byteAt q L (zs_up S.1 80 6 (nI q), S.2) ((zs_up_m (by omega)).trans ((hS.2.2.2 3 (by omega)).trans hL)) hv8 (by omega)) dX12_token_39 kk_X12_token_X12_byteAt ml_RX12_82 mwX12_byteAt ewX12_byteAt (by decide) rfl rfl rfl rfl (Nat.le_of_ble_eq_true rfl) ?_
  rintro _ _ ⟨x1, rfl, bx1, rfl⟩
  refine g_istore_n (lv' := [(1, .int x1), (0, .ref 80)]) dX12_token_42 rfl (by decide) rfl ?_
  refine g_iload_n dX12_token_43 rfl rfl ?_
  refine g_if_ge 49 dX12_token_44 (by decide) (fun h2 => ?_) (fun h2 => ?_)
  · have hqL := zs_bq bx1 (fun z => by rw [z] at h2; exact absurd h2 (by decide))
    refine g_iload_n dX12_token_49 rfl rfl ?_
    refine g_i2l dX12_token_50 rfl ?_
    refine g_ldc2 (v := 97) dX12_token_51 cl_RX12_88 ?_
    refine g_ldc2 (v := 122) dX12_token_54 cl_RX12_90 ?_
    refine g_callS [.long (Int32.toInt64 x1), .long 97, .long 122] [] (z_in (zs_up S.1 80 6 (nI q), S.2) x1 97 122 (by decide) (by decide)) dX12_token_57 kk_X12_token_X12_in ml_RX12_54 swX12_in rfl rfl (Nat.le_of_ble_eq_true rfl) ?_
    rintro _ _ ⟨_, rfl, rfl, rfl⟩
    refine g_if_eq 99 dX12_token_60 (by decide) (fun h5 => ?_) (fun h5 => ?_)
    · have h5 := zs_b0 h5
      refine g_iload_n dX12_token_99 rfl rfl ?_
      refine g_i2l dX12_token_100 rfl ?_
      refine g_ldc2 (v := 48) dX12_token_101 cl_RX12_92 ?_
      refine g_ldc2 (v := 57) dX12_token_104 cl_RX12_94 ?_
      refine g_callS [.long (Int32.toInt64 x1), .long 48, .long 57] [] (z_in (zs_up S.1 80 6 (nI q), S.2) x1 48 57 (by decide) (by decide)) dX12_token_107 kk_X12_token_X12_in ml_RX12_54 swX12_in rfl rfl (Nat.le_of_ble_eq_true rfl) ?_
      rintro _ _ ⟨_, rfl, rfl, rfl⟩
      refine g_if_eq 193 dX12_token_110 (by decide) (fun h8 => ?_) (fun h8 => ?_)
      · have h8 := zs_b0 h8
        refine g_aload_n dX12_token_193 rfl rfl ?_
        refine g_dup dX12_token_194 rfl ?_
        refine g_getV 5 (C := RX12) (T := TX12) (N := 19) (v := (nI q)) dX12_token_195 (by decide) rfl rfl (by decide) rfl fl_RX12_79 ((zs_up_m (by omega)).trans hq5) ?_
        refine g_iconst (v := (nI 1)) dX12_token_198 rfl ?_
        refine g_iaddN dX12_token_199 ?_
        refine g_putI 5 (C := RX12) (T := TX12) (N := 19) (ty := .int) dX12_token_200 (by decide) rfl rfl (by decide) rfl fl_RX12_79 rfl (by decide +kernel) ⟨rfl, rfl⟩ ?_
        refine g_iload_n dX12_token_203 rfl rfl ?_
        refine g_bipush (v := (nI 59)) dX12_token_204 rfl ?_
        refine g_ic_ne 213 dX12_token_206 (by decide) (fun h9 => ?_) (fun h9 => ?_)
        · refine g_iconst (v := (nI 3)) dX12_token_213 rfl ?_
          refine g_iret dX12_token_214 rfl rfl ?_
          exact ⟨_, rfl, ((((hS).up (by omega) (zs_okR rfl (by omega) (by omega) (by decide) (by decide)))).up (by omega) (zs_okR rfl (by omega) (by omega) (by decide) (by decide))), _, (q + 1), by omega, rfl, zs_up_q, by omega, by omega, by omega⟩
        · refine g_iconst (v := (nI 2)) dX12_token_209 rfl ?_
          refine g_goto 214 dX12_token_210 (by decide) ?_
          refine g_iret dX12_token_214 rfl rfl ?_
          exact ⟨_, rfl, ((((hS).up (by omega) (zs_okR rfl (by omega) (by omega) (by decide) (by decide)))).up (by omega) (zs_okR rfl (by omega) (by omega) (by decide) (by decide))), _, (q + 1), by omega, rfl, zs_up_q, by omega, by omega, by omega⟩
      · have h8 := zs_b1 h8
        obtain ⟨x1', x1'a, x1'b, rfl⟩ := zs_rng h8 (by omega)
        refine g_aload_n dX12_token_113 rfl rfl ?_
        refine g_iconst (v := (nI 0)) dX12_token_114 rfl ?_
        refine g_putI 11 (C := RX12) (T := TX12) (N := 19) (ty := .int) dX12_token_115 (by decide) rfl rfl (by decide) rfl fl_RX12_96 rfl (by decide +kernel) ⟨rfl, rfl⟩ ?_
        refine g_iconst (v := (nI 0)) dX12_token_118 rfl ?_
        refine g_istore_n (lv' := [(2, .int (nI 0)), (1, .int (nI x1')), (0, .ref 80)]) dX12_token_119 rfl (by decide) rfl ?_
        refine g_aload_n dX12_token_120 rfl rfl ?_
        refine g_aload_n dX12_token_121 rfl rfl ?_
        refine g_getV 5 (C := RX12) (T := TX12) (N := 19) (v := (nI q)) dX12_token_122 (by decide) rfl rfl (by decide) rfl fl_RX12_79 ((zs_up_m (by omega)).trans ((zs_up_m (by omega)).trans hq5)) ?_
        refine g_callV (T := TX12) (NN := 19) [] (z_byteAt q L (zs_up (zs_up S.1 80 6 (nI q), S.2).1 80 11 (nI 0), (zs_up S.1 80 6 (nI q), S.2).2) ((zs_up_m (by omega)).trans ((zs_up_m (by omega)).trans ((hS.2.2.2 3 (by omega)).trans hL))) hv8 (by omega)) dX12_token_125 kk_X12_token_X12_byteAt ml_RX12_82 mwX12_byteAt ewX12_byteAt (by decide) rfl rfl rfl rfl (Nat.le_of_ble_eq_true rfl) ?_
        rintro _ _ ⟨x10, rfl, bx10, rfl⟩
        obtain rfl : x10 = (nI x1') := ((bx10.resolve_right (fun z => absurd z.1 (by omega))).2.trans ((zs_up_m (by omega)).trans ((zs_up_m (by omega)).trans (rfl)))).trans hqL.2.symm
        refine g_i2l dX12_token_128 rfl ?_
        refine g_ldc2 (v := 48) dX12_token_129 cl_RX12_92 ?_
        refine g_ldc2 (v := 57) dX12_token_132 cl_RX12_94 ?_
        refine g_callS [.long (Int32.toInt64 (nI x1')), .long 48, .long 57] [] (z_in (zs_up (zs_up S.1 80 6 (nI q), S.2).1 80 11 (nI 0), (zs_up S.1 80 6 (nI q), S.2).2) (nI x1') 48 57 (by decide) (by decide)) dX12_token_135 kk_X12_token_X12_in ml_RX12_54 swX12_in rfl rfl (Nat.le_of_ble_eq_true rfl) ?_
        rintro _ _ ⟨_, rfl, rfl, rfl⟩
        refine g_if_eq 191 dX12_token_138 (by decide) (fun h13 => ?_) (fun h13 => ?_)
        · have h13 := zs_b0 h13
          refine g_iconst (v := (nI 1)) dX12_token_191 rfl ?_
          refine g_iret dX12_token_192 rfl rfl ?_
          exact absurd ⟨nI_le (by omega) (by omega), nI_le (by omega) (by omega)⟩ h13
        · have h13 := zs_b1 h13
          refine g_aload_n dX12_token_141 rfl rfl ?_
          refine g_iload_n dX12_token_142 rfl rfl ?_
          refine g_iconst (v := (nI 2)) dX12_token_143 rfl ?_
          refine g_ic_geN 169 dX12_token_144 (by decide) (by omega) (by omega) (fun z => absurd z (by omega)) (fun _ => ?_)
          refine g_bipush (v := (nI 10)) dX12_token_147 rfl ?_
          refine g_aload_n dX12_token_149 rfl rfl ?_
          refine g_getV 11 (C := RX12) (T := TX12) (N := 19) (v := (nI 0)) dX12_token_150 (by decide) rfl rfl (by decide) rfl fl_RX12_96 zs_up_q ?_
          refine g_imulN dX12_token_153 ?_
          refine g_aload_n dX12_token_154 rfl rfl ?_
          refine g_aload_n dX12_token_155 rfl rfl ?_
          refine g_getV 5 (C := RX12) (T := TX12) (N := 19) (v := (nI q)) dX12_token_156 (by decide) rfl rfl (by decide) rfl fl_RX12_79 ((zs_up_m (by omega)).trans ((zs_up_m (by omega)).trans hq5)) ?_
          refine g_callV (T := TX12) (NN := 19) [.int (nI (10 * 0)), .ref 80] (z_byteAt q L (zs_up (zs_up S.1 80 6 (nI q), S.2).1 80 11 (nI 0), (zs_up S.1 80 6 (nI q), S.2).2) ((zs_up_m (by omega)).trans ((zs_up_m (by omega)).trans ((hS.2.2.2 3 (by omega)).trans hL))) hv8 (by omega)) dX12_token_159 kk_X12_token_X12_byteAt ml_RX12_82 mwX12_byteAt ewX12_byteAt (by decide) rfl rfl rfl rfl (Nat.le_of_ble_eq_true rfl) ?_
          rintro _ _ ⟨x14, rfl, bx14, rfl⟩
          refine g_iadd dX12_token_162 ?_
          refine g_bipush (v := (nI 48)) dX12_token_163 rfl ?_
          refine g_isub dX12_token_165 ?_
          refine g_goto 172 dX12_token_166 (by decide) ?_
          refine g_putI 11 (C := RX12) (T := TX12) (N := 19) (ty := .int) dX12_token_172 (by decide) rfl rfl (by decide) rfl fl_RX12_96 rfl (by decide +kernel) ⟨rfl, rfl⟩ ?_
          refine g_iinc (v := (nI (0 + 1))) (lv' := [(2, .int (nI (0 + 1))), (1, .int (nI x1')), (0, .ref 80)]) dX12_token_175 rfl (nI_1 0) (by decide) rfl ?_
          refine g_aload_n dX12_token_178 rfl rfl ?_
          refine g_dup dX12_token_179 rfl ?_
          refine g_getV 5 (C := RX12) (T := TX12) (N := 19) (v := (nI q)) dX12_token_180 (by decide) rfl rfl (by decide) rfl fl_RX12_79 ((zs_up_m (by omega)).trans ((zs_up_m (by omega)).trans ((zs_up_m (by omega)).trans hq5))) ?_
          refine g_iconst (v := (nI 1)) dX12_token_183 rfl ?_
          refine g_iaddN dX12_token_184 ?_
          refine g_putI 5 (C := RX12) (T := TX12) (N := 19) (ty := .int) dX12_token_185 (by decide) rfl rfl (by decide) rfl fl_RX12_79 rfl (by decide +kernel) ⟨rfl, rfl⟩ ?_
          refine g_goto 120 dX12_token_188 (by decide) ?_
          exact (z_tok120 S0 q0 L hL hv8 _ (151 - (q + 1)) (q + 1) (by omega) _ _ ((((((((hS).up (by omega) (zs_okR rfl (by omega) (by omega) (by decide) (by decide)))).up (by omega) (zs_okN rfl (by decide) (by decide)))).up (by omega) (zs_okN rfl (by decide) (by decide)))).up (by omega) (zs_okR rfl (by omega) (by omega) (by decide) (by decide))) zs_up_q (by omega)).lv (zs_mc 0 rfl (zs_mc 1 rfl (zs_mc 2 rfl zs_mn)))
    · have h5 := zs_b1 h5
      obtain ⟨x1', x1'a, x1'b, rfl⟩ := zs_rng h5 (by omega)
      refine g_aload_n dX12_token_63 rfl rfl ?_
      refine g_aload_n dX12_token_64 rfl rfl ?_
      refine g_getV 5 (C := RX12) (T := TX12) (N := 19) (v := (nI q)) dX12_token_65 (by decide) rfl rfl (by decide) rfl fl_RX12_79 ((zs_up_m (by omega)).trans hq5) ?_
      refine g_callV (T := TX12) (NN := 19) [] (z_byteAt q L (zs_up S.1 80 6 (nI q), S.2) ((zs_up_m (by omega)).trans ((hS.2.2.2 3 (by omega)).trans hL)) hv8 (by omega)) dX12_token_68 kk_X12_token_X12_byteAt ml_RX12_82 mwX12_byteAt ewX12_byteAt (by decide) rfl rfl rfl rfl (Nat.le_of_ble_eq_true rfl) ?_
      rintro _ _ ⟨x15, rfl, bx15, rfl⟩
      obtain rfl : x15 = (nI x1') := ((bx15.resolve_right (fun z => absurd z.1 (by omega))).2.trans ((zs_up_m (by omega)).trans (rfl))).trans hqL.2.symm
      refine g_i2l dX12_token_71 rfl ?_
      refine g_ldc2 (v := 97) dX12_token_72 cl_RX12_88 ?_
      refine g_ldc2 (v := 122) dX12_token_75 cl_RX12_90 ?_
      refine g_callS [.long (Int32.toInt64 (nI x1')), .long 97, .long 122] [] (z_in (zs_up S.1 80 6 (nI q), S.2) (nI x1') 97 122 (by decide) (by decide)) dX12_token_78 kk_X12_token_X12_in ml_RX12_54 swX12_in rfl rfl (Nat.le_of_ble_eq_true rfl) ?_
      rintro _ _ ⟨_, rfl, rfl, rfl⟩
      refine g_if_eq 97 dX12_token_81 (by decide) (fun h18 => ?_) (fun h18 => ?_)
      · have h18 := zs_b0 h18
        refine g_iconst (v := (nI 0)) dX12_token_97 rfl ?_
        refine g_iret dX12_token_98 rfl rfl ?_
        exact absurd ⟨nI_le (by omega) (by omega), nI_le (by omega) (by omega)⟩ h18
      · have h18 := zs_b1 h18
        refine g_aload_n dX12_token_84 rfl rfl ?_
        refine g_dup dX12_token_85 rfl ?_
        refine g_getV 5 (C := RX12) (T := TX12) (N := 19) (v := (nI q)) dX12_token_86 (by decide) rfl rfl (by decide) rfl fl_RX12_79 ((zs_up_m (by omega)).trans hq5) ?_
        refine g_iconst (v := (nI 1)) dX12_token_89 rfl ?_
        refine g_iaddN dX12_token_90 ?_
        refine g_putI 5 (C := RX12) (T := TX12) (N := 19) (ty := .int) dX12_token_91 (by decide) rfl rfl (by decide) rfl fl_RX12_79 rfl (by decide +kernel) ⟨rfl, rfl⟩ ?_
        refine g_goto 63 dX12_token_94 (by decide) ?_
        exact (z_tok63 S0 q0 L hL hv8 _ (151 - (q + 1)) (q + 1) (by omega) _ ((((hS).up (by omega) (zs_okR rfl (by omega) (by omega) (by decide) (by decide)))).up (by omega) (zs_okR rfl (by omega) (by omega) (by decide) (by decide))) zs_up_q (by omega)).lv (zs_mc 0 rfl (zs_mc 1 rfl zs_mn))
  · refine g_iconst (v := (nI 4)) dX12_token_47 rfl ?_
    refine g_iret dX12_token_48 rfl rfl ?_
    exact ⟨_, rfl, ((hS).up (by omega) (zs_okR rfl (by omega) (by omega) (by decide) (by decide))), _, q, by omega, rfl, ((zs_up_m (by omega)).trans hq5), by omega, by omega, by omega⟩
set_option maxRecDepth 100000 in
theorem z_tok0 (S0 : zs_S) (q0 L : Nat) (hL : S0.1 80 3 = nI L) (hv8 : L ≤ 150) : ∀ (d q : Nat), q + d = 151 → ∀ S, zs_oT S0 S → S.1 80 5 = nI q → q0 ≤ q → zs_P MX12_token 0 [(0, .ref 80)] [] S (fun v S2 => ∃ x, v = some (.int x) ∧ zs_oT S0 S2 ∧ ∃ t q, t ≤ 4 ∧ x = nI t ∧ S2.1 80 5 = nI q ∧ q ≤ 150 ∧ q0 ≤ q ∧ (t ≠ 4 → q0 < q)) := by
  intro d
  induction d with
  | zero =>
    intro q hd S hS hq5 hq0
    obtain ⟨k, -, h2, h3⟩ := hS.1.1 80 5 0 150 rfl
    rw [hq5] at h3
    exact absurd ((nI_eq (by omega) (by omega)).mp h3) (by omega)
  | succ d ih =>
    intro q hd S hS hq5 hq0
    have hq150 : q ≤ 150 := zs_q5 hS.1 hq5 (by omega)
    have ih : ∀ q, q + d = 151 → ∀ S, zs_oT S0 S → S.1 80 5 = nI q → q0 ≤ q → zs_P MX12_token 0 [(0, .ref 80)] [] S (fun v S2 => ∃ x, v = some (.int x) ∧ zs_oT S0 S2 ∧ ∃ t q, t ≤ 4 ∧ x = nI t ∧ S2.1 80 5 = nI q ∧ q ≤ 150 ∧ q0 ≤ q ∧ (t ≠ 4 → q0 < q)) := ih
    refine g_aload_n dX12_token_0 rfl rfl ?_
    refine g_aload_n dX12_token_1 rfl rfl ?_
    refine g_getV 5 (C := RX12) (T := TX12) (N := 19) (v := (nI q)) dX12_token_2 (by decide) rfl rfl (by decide) rfl fl_RX12_79 hq5 ?_
    refine g_callV (T := TX12) (NN := 19) [] (z_byteAt q L S ((hS.2.2.2 3 (by omega)).trans hL) hv8 (by omega)) dX12_token_5 kk_X12_token_X12_byteAt ml_RX12_82 mwX12_byteAt ewX12_byteAt (by decide) rfl rfl rfl rfl (Nat.le_of_ble_eq_true rfl) ?_
    rintro _ _ ⟨x1, rfl, bx1, rfl⟩
    refine g_bipush (v := (nI 32)) dX12_token_8 rfl ?_
    refine g_ic_ne 26 dX12_token_10 (by decide) (fun h2 => ?_) (fun h2 => ?_)
    · exact z_tok26 S0 q0 L hL hv8 q S hS hq5 hq0 (by omega)
    · have hqL := (zs_bq bx1 (fun z => by rw [z] at h2; exact absurd h2 (by decide))).1
      refine g_aload_n dX12_token_13 rfl rfl ?_
      refine g_dup dX12_token_14 rfl ?_
      refine g_getV 5 (C := RX12) (T := TX12) (N := 19) (v := (nI q)) dX12_token_15 (by decide) rfl rfl (by decide) rfl fl_RX12_79 hq5 ?_
      refine g_iconst (v := (nI 1)) dX12_token_18 rfl ?_
      refine g_iaddN dX12_token_19 ?_
      refine g_putI 5 (C := RX12) (T := TX12) (N := 19) (ty := .int) dX12_token_20 (by decide) rfl rfl (by decide) rfl fl_RX12_79 rfl (by decide +kernel) ⟨rfl, rfl⟩ ?_
      refine g_goto 0 dX12_token_23 (by decide) ?_
      exact ih (q + 1) (by omega) _ ((hS).up (by omega) (zs_okR rfl (by omega) (by omega) (by decide) (by decide))) zs_up_q (by omega)
theorem y_token (q0 : Nat) (S0 : zs_S) (hJ : zs_J S0) (hq : S0.1 80 5 = nI q0) (hq1 : q0 ≤ 150) : zs_Ci MX12_token [.ref 80] S0 (fun x S2 => zs_oT S0 S2 ∧ ∃ t q, t ≤ 4 ∧ x = nI t ∧ S2.1 80 5 = nI q ∧ q ≤ 150 ∧ q0 ≤ q ∧ (t ≠ 4 → q0 < q)) := by
  obtain ⟨L, -, hv8, hL⟩ := hJ.1 80 3 0 150 rfl
  refine zs_C.of (by decide) (Nat.le_of_ble_eq_true rfl) ?_
  exact z_tok0 S0 q0 L hL hv8 (151 - q0) q0 (by omega) S0 (zs_oT.rf hJ) hq (Nat.le_refl _)
