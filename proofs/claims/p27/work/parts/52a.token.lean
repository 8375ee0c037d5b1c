/-! the model's text; what its token() answers -/
def zs_tm (S : zs_S) (B : Nat → Nat) (L : Nat) : Prop := L ≤ 150 ∧ S.1 80 3 = nI L ∧ ∀ i, i < L → B i ≤ 127 ∧ S.1 84 i = nI (B i)
theorem zs_oT.y {S0 S : zs_S} {B : Nat → Nat} {L : Nat} (h : zs_oT S0 S) (k : zs_tm S0 B L) : zs_tm S B L := ⟨k.1, (h.2.2.2 3 (by omega)).trans k.2.1, fun i hi => ⟨(k.2.2 i hi).1, by rw [h.2.2.1 84 (by decide)]; exact (k.2.2 i hi).2⟩⟩
def tx_mt (B : Nat → Nat) (L j : Nat) : Nat := if tx_p B L j < L then (if tx_so (B (tx_p B L j)) = 1 then 0 else if tx_so (B (tx_p B L j)) = 2 then 1 else if B (tx_p B L j) = 59 then 2 else 3) else 4
def tx_nv (B : Nat → Nat) (s q : Nat) : Nat := if q - s = 0 then 0 else if q - s = 1 then B s - 48 else if q - s = 2 then 10 * (B s - 48) + (B (s + 1) - 48) else 1000
theorem tx_nv0 {B : Nat → Nat} {s : Nat} : tx_nv B s s = 0 := by
  unfold tx_nv
  rw [if_pos (by omega)]
theorem tx_nvB {B : Nat → Nat} {s q : Nat} (h : ∀ i, s ≤ i → i < q → B i ≤ 127) (hs : s ≤ q) : tx_nv B s q ≤ 1000 := by
  unfold tx_nv
  split
  · omega
  · split
    · have := h s (by omega) (by omega); omega
    · split
      · have := h s (by omega) (by omega)
        have := h (s + 1) (by omega) (by omega)
        omega
      · omega
theorem tx_nv1 {B : Nat → Nat} {s q : Nat} (h0 : s ≤ q) (h : q - s < 2) (hb : 48 ≤ B q) (hs : 48 ≤ B s) : tx_nv B s (q + 1) = 10 * tx_nv B s q + B q - 48 := by
  unfold tx_nv
  by_cases z : q - s = 0
  · obtain rfl : q = s := by omega
    rw [if_neg (by omega), if_pos (by omega), if_pos (by omega)]
    omega
  · obtain rfl : q = s + 1 := by omega
    rw [if_neg (by omega), if_neg (by omega), if_pos (by omega), if_neg (by omega), if_pos (by omega)]
    omega
theorem tx_nv2 {B : Nat → Nat} {s q : Nat} (h : 2 ≤ q - s) : tx_nv B s (q + 1) = 1000 := by
  unfold tx_nv
  rw [if_neg (by omega), if_neg (by omega), if_neg (by omega)]
theorem tx_inL {c : Nat} (hc : c ≤ 127) : (nI 97 ≤ nI c ∧ nI c ≤ nI 122) ↔ tx_so c = 1 := by
  rw [nI_leI (by omega) (by omega), nI_leI (by omega) (by omega)]
  unfold tx_so
  repeat' split
  all_goals omega
theorem tx_inD {c : Nat} (hc : c ≤ 127) : (nI 48 ≤ nI c ∧ nI c ≤ nI 57) ↔ tx_so c = 2 := by
  rw [nI_leI (by omega) (by omega), nI_leI (by omega) (by omega)]
  unfold tx_so
  repeat' split
  all_goals omega
theorem z_byteE (q : Nat) (B : Nat → Nat) (L : Nat) (S : zs_S) (hT : zs_tm S B L) (h9 : q ≤ 150) : zs_Ci MX12_byteAt [.ref 80, .int (nI q)] S (fun x S2 => ((q < L ∧ x = nI (B q)) ∨ (L ≤ q ∧ x = -1)) ∧ S = S2) := (z_byteAt q L S hT.2.1 hT.1 h9).mono (fun _ _ z => by
  obtain ⟨x, rfl, hx, rfl⟩ := z
  refine ⟨_, rfl, ?_, rfl⟩
  rcases hx with ⟨h1, h2⟩ | h
  · exact Or.inl ⟨h1, h2.trans (hT.2.2 q h1).2⟩
  · exact Or.inr h)
noncomputable abbrev ZB (lo : Nat) (v : Int32) (hi : Nat) : Int32 := zs_b (nI lo ≤ v ∧ v ≤ nI hi)
set_option maxRecDepth 100000 in
theorem z_te63 (S0 : zs_S) (B : Nat → Nat) (L j : Nat) (hT : zs_tm S0 B L) (c : Int32) (hmt : tx_mt B L j = 0) : ∀ (d q : Nat), q + d = 151 → ∀ S, zs_oT S0 S → S.1 80 5 = nI q → S.1 80 6 = nI (tx_p B L j) → tx_rn B L 1 q = tx_q B L (j + 1) → q ≤ L → zs_P MX12_token 63 [(1, .int c), (0, .ref 80)] [] S (fun v S2 => ∃ x, v = some (.int x) ∧ zs_oT S0 S2 ∧ x = nI (tx_mt B L j) ∧ S2.1 80 5 = nI (tx_q B L (j + 1)) ∧ S2.1 80 6 = nI (tx_p B L j) ∧ (tx_mt B L j = 1 → S2.1 80 11 = nI (tx_nv B (tx_p B L j) (tx_q B L (j + 1))))) := by
  have hL := hT.1
  intro d
  induction d with
  | zero => intro q hd S hS hq5 hp6 hrn hqL2; exact absurd hqL2 (by omega)
  | succ d ih =>
    intro q hd S hS hq5 hp6 hrn hqL2
    have ih : ∀ q, q + d = 151 → ∀ S, zs_oT S0 S → S.1 80 5 = nI q → S.1 80 6 = nI (tx_p B L j) → tx_rn B L 1 q = tx_q B L (j + 1) → q ≤ L → zs_P MX12_token 63 [(1, .int c), (0, .ref 80)] [] S (fun v S2 => ∃ x, v = some (.int x) ∧ zs_oT S0 S2 ∧ x = nI (tx_mt B L j) ∧ S2.1 80 5 = nI (tx_q B L (j + 1)) ∧ S2.1 80 6 = nI (tx_p B L j) ∧ (tx_mt B L j = 1 → S2.1 80 11 = nI (tx_nv B (tx_p B L j) (tx_q B L (j + 1))))) := ih
    by_cases hqL : q < L
    · have hB := (hT.2.2 q hqL).1
      by_cases hso : tx_so (B q) = 1
      · skip
        refine g_aload_n dX12_token_63 rfl rfl ?_
        refine g_aload_n dX12_token_64 rfl rfl ?_
        refine g_getV 5 (C := RX12) (T := TX12) (N := 19) (v := (nI q)) dX12_token_65 (by decide) rfl rfl (by decide) rfl fl_RX12_79 hq5 ?_
        refine g_callV (T := TX12) (NN := 19) [] (z_byteE q B L S ((hS).y hT) (by omega)) dX12_token_68 kk_X12_token_X12_byteAt ml_RX12_82 mwX12_byteAt ewX12_byteAt (by decide) rfl rfl rfl rfl (Nat.le_of_ble_eq_true rfl) ?_
        rintro _ _ ⟨x1, rfl, hx, rfl⟩
        obtain rfl : x1 = (nI (B q)) := (hx.resolve_right (fun z => absurd z.1 (by omega))).2
        refine g_i2l dX12_token_71 rfl ?_
        refine g_ldc2 (v := 97) dX12_token_72 cl_RX12_88 ?_
        refine g_ldc2 (v := 122) dX12_token_75 cl_RX12_90 ?_
        refine g_callS [.long (Int32.toInt64 (nI (B q))), .long 97, .long 122] [] (z_in S (nI (B q)) 97 122 (by decide) (by decide)) dX12_token_78 kk_X12_token_X12_in ml_RX12_54 swX12_in rfl rfl (Nat.le_of_ble_eq_true rfl) ?_
        rintro _ _ ⟨_, rfl, rfl, rfl⟩
        refine g_if_eq 97 dX12_token_81 (by decide) (fun z => absurd z (fun z => absurd (zs_b0 z) (fun y => y ((tx_inL hB).mpr hso)))) (fun _ => ?_)
        refine g_aload_n dX12_token_84 rfl rfl ?_
        refine g_dup dX12_token_85 rfl ?_
        refine g_getV 5 (C := RX12) (T := TX12) (N := 19) (v := (nI q)) dX12_token_86 (by decide) rfl rfl (by decide) rfl fl_RX12_79 hq5 ?_
        refine g_iconst (v := (nI 1)) dX12_token_89 rfl ?_
        refine g_iaddN dX12_token_90 ?_
        refine g_putI 5 (C := RX12) (T := TX12) (N := 19) (ty := .int) dX12_token_91 (by decide) rfl rfl (by decide) rfl fl_RX12_79 rfl (by decide +kernel) ⟨rfl, rfl⟩ ?_
        refine g_goto 63 dX12_token_94 (by decide) ?_
        exact ih (q + 1) (by omega) _ ((hS).up (by omega) (zs_okR rfl (by omega) (by omega) (by decide) (by decide))) zs_up_q ((zs_up_m (by omega)).trans hp6) (hrn.symm.trans (tx_rn1 hqL hso)).symm (by omega)
      · have hqe : q = tx_q B L (j + 1) := by rw [← hrn]; exact (tx_rn0 (fun z => hso z.2)).symm
        refine g_aload_n dX12_token_63 rfl rfl ?_
        refine g_aload_n dX12_token_64 rfl rfl ?_
        refine g_getV 5 (C := RX12) (T := TX12) (N := 19) (v := (nI q)) dX12_token_65 (by decide) rfl rfl (by decide) rfl fl_RX12_79 hq5 ?_
        refine g_callV (T := TX12) (NN := 19) [] (z_byteE q B L S ((hS).y hT) (by omega)) dX12_token_68 kk_X12_token_X12_byteAt ml_RX12_82 mwX12_byteAt ewX12_byteAt (by decide) rfl rfl rfl rfl (Nat.le_of_ble_eq_true rfl) ?_
        rintro _ _ ⟨x1, rfl, hx, rfl⟩
        obtain rfl : x1 = (nI (B q)) := (hx.resolve_right (fun z => absurd z.1 (by omega))).2
        refine g_i2l dX12_token_71 rfl ?_
        refine g_ldc2 (v := 97) dX12_token_72 cl_RX12_88 ?_
        refine g_ldc2 (v := 122) dX12_token_75 cl_RX12_90 ?_
        refine g_callS [.long (Int32.toInt64 (nI (B q))), .long 97, .long 122] [] (z_in S (nI (B q)) 97 122 (by decide) (by decide)) dX12_token_78 kk_X12_token_X12_in ml_RX12_54 swX12_in rfl rfl (Nat.le_of_ble_eq_true rfl) ?_
        rintro _ _ ⟨_, rfl, rfl, rfl⟩
        refine g_if_eq 97 dX12_token_81 (by decide) (fun _ => ?_) (fun z => absurd (zs_bf (fun y => hso ((tx_inL hB).mp y))) z)
        refine g_iconst (v := (nI 0)) dX12_token_97 rfl ?_
        refine g_iret dX12_token_98 rfl rfl ?_
        exact ⟨_, rfl, hS, hmt.symm ▸ rfl, (hq5).trans (by rw [hqe]), hp6, fun z => absurd z (by omega)⟩
    · have hqe : q = tx_q B L (j + 1) := by rw [← hrn]; exact (tx_rn0 (fun z => hqL z.1)).symm
      refine g_aload_n dX12_token_63 rfl rfl ?_
      refine g_aload_n dX12_token_64 rfl rfl ?_
      refine g_getV 5 (C := RX12) (T := TX12) (N := 19) (v := (nI q)) dX12_token_65 (by decide) rfl rfl (by decide) rfl fl_RX12_79 hq5 ?_
      refine g_callV (T := TX12) (NN := 19) [] (z_byteE q B L S ((hS).y hT) (by omega)) dX12_token_68 kk_X12_token_X12_byteAt ml_RX12_82 mwX12_byteAt ewX12_byteAt (by decide) rfl rfl rfl rfl (Nat.le_of_ble_eq_true rfl) ?_
      rintro _ _ ⟨x1, rfl, hx, rfl⟩
      obtain rfl : x1 = (-1) := (hx.resolve_left (fun z => absurd z.1 (by omega))).2
      refine g_i2l dX12_token_71 rfl ?_
      refine g_ldc2 (v := 97) dX12_token_72 cl_RX12_88 ?_
      refine g_ldc2 (v := 122) dX12_token_75 cl_RX12_90 ?_
      refine g_callS [.long (Int32.toInt64 (-1)), .long 97, .long 122] [] (z_in S (-1) 97 122 (by decide) (by decide)) dX12_token_78 kk_X12_token_X12_in ml_RX12_54 swX12_in rfl rfl (Nat.le_of_ble_eq_true rfl) ?_
      rintro _ _ ⟨_, rfl, rfl, rfl⟩
      refine g_if_eq 97 dX12_token_81 (by decide) (fun _ => ?_) (fun z => absurd (zs_bf (by decide)) z)
      refine g_iconst (v := (nI 0)) dX12_token_97 rfl ?_
      refine g_iret dX12_token_98 rfl rfl ?_
      exact ⟨_, rfl, hS, hmt.symm ▸ rfl, (hq5).trans (by rw [hqe]), hp6, fun z => absurd z (by omega)⟩
set_option maxRecDepth 100000 in
theorem z_te120 (S0 : zs_S) (B : Nat → Nat) (L j : Nat) (hT : zs_tm S0 B L) (c : Int32) (hmt : tx_mt B L j = 1) : ∀ (d q : Nat), q + d = 151 → ∀ f S, zs_oT S0 S → S.1 80 5 = nI q → S.1 80 6 = nI (tx_p B L j) → S.1 80 11 = nI (tx_nv B (tx_p B L j) q) → tx_rn B L 2 q = tx_q B L (j + 1) → q ≤ L → f + tx_p B L j = q → (tx_p B L j < q → 48 ≤ B (tx_p B L j)) → zs_P MX12_token 120 [(2, .int (nI f)), (1, .int c), (0, .ref 80)] [] S (fun v S2 => ∃ x, v = some (.int x) ∧ zs_oT S0 S2 ∧ x = nI (tx_mt B L j) ∧ S2.1 80 5 = nI (tx_q B L (j + 1)) ∧ S2.1 80 6 = nI (tx_p B L j) ∧ (tx_mt B L j = 1 → S2.1 80 11 = nI (tx_nv B (tx_p B L j) (tx_q B L (j + 1))))) := by
  have hL := hT.1
  intro d
  induction d with
  | zero => intro q hd f S hS hq5 hp6 hv11 hrn hqL2; exact absurd hqL2 (by omega)
  | succ d ih =>
    intro q hd f S hS hq5 hp6 hv11 hrn hqL2 hf hs48f
    have ih : ∀ q, q + d = 151 → ∀ f S, zs_oT S0 S → S.1 80 5 = nI q → S.1 80 6 = nI (tx_p B L j) → S.1 80 11 = nI (tx_nv B (tx_p B L j) q) → tx_rn B L 2 q = tx_q B L (j + 1) → q ≤ L → f + tx_p B L j = q → (tx_p B L j < q → 48 ≤ B (tx_p B L j)) → zs_P MX12_token 120 [(2, .int (nI f)), (1, .int c), (0, .ref 80)] [] S (fun v S2 => ∃ x, v = some (.int x) ∧ zs_oT S0 S2 ∧ x = nI (tx_mt B L j) ∧ S2.1 80 5 = nI (tx_q B L (j + 1)) ∧ S2.1 80 6 = nI (tx_p B L j) ∧ (tx_mt B L j = 1 → S2.1 80 11 = nI (tx_nv B (tx_p B L j) (tx_q B L (j + 1))))) := ih
    have hnv : tx_nv B (tx_p B L j) q ≤ 1000 := tx_nvB (fun i h1 h2 => (hT.2.2 i (by omega)).1) (by omega)
    by_cases hqL : q < L
    · have hB := (hT.2.2 q hqL).1
      by_cases hso : tx_so (B q) = 2
      · have hb48 := tx_so2 hso
        have hs48 : 48 ≤ B (tx_p B L j) := by
          rcases Nat.eq_or_lt_of_le (show tx_p B L j ≤ q by omega) with y | y
          · rw [y]; exact hb48.1
          · exact hs48f y
        have hs48f : tx_p B L j < q + 1 → 48 ≤ B (tx_p B L j) := fun _ => hs48
        refine g_aload_n dX12_token_120 rfl rfl ?_
        refine g_aload_n dX12_token_121 rfl rfl ?_
        refine g_getV 5 (C := RX12) (T := TX12) (N := 19) (v := (nI q)) dX12_token_122 (by decide) rfl rfl (by decide) rfl fl_RX12_79 hq5 ?_
        refine g_callV (T := TX12) (NN := 19) [] (z_byteE q B L S ((hS).y hT) (by omega)) dX12_token_125 kk_X12_token_X12_byteAt ml_RX12_82 mwX12_byteAt ewX12_byteAt (by decide) rfl rfl rfl rfl (Nat.le_of_ble_eq_true rfl) ?_
        rintro _ _ ⟨x1, rfl, hx, rfl⟩
        obtain rfl : x1 = (nI (B q)) := (hx.resolve_right (fun z => absurd z.1 (by omega))).2
        refine g_i2l dX12_token_128 rfl ?_
        refine g_ldc2 (v := 48) dX12_token_129 cl_RX12_92 ?_
        refine g_ldc2 (v := 57) dX12_token_132 cl_RX12_94 ?_
        refine g_callS [.long (Int32.toInt64 (nI (B q))), .long 48, .long 57] [] (z_in S (nI (B q)) 48 57 (by decide) (by decide)) dX12_token_135 kk_X12_token_X12_in ml_RX12_54 swX12_in rfl rfl (Nat.le_of_ble_eq_true rfl) ?_
        rintro _ _ ⟨_, rfl, rfl, rfl⟩
        refine g_if_eq 191 dX12_token_138 (by decide) (fun z => absurd z (fun z => absurd (zs_b0 z) (fun y => y ((tx_inD hB).mpr hso)))) (fun _ => ?_)
        refine g_aload_n dX12_token_141 rfl rfl ?_
        refine g_iload_n dX12_token_142 rfl rfl ?_
        refine g_iconst (v := (nI 2)) dX12_token_143 rfl ?_
        refine g_ic_geN 169 dX12_token_144 (by decide) (by omega) (by omega) (fun h2 => ?_) (fun h2 => ?_)
        · refine g_sipush (v := (nI 1000)) dX12_token_169 rfl ?_
          refine g_putI 11 (C := RX12) (T := TX12) (N := 19) (ty := .int) dX12_token_172 (by decide) rfl rfl (by decide) rfl fl_RX12_96 rfl (by decide +kernel) ⟨rfl, rfl⟩ ?_
          refine g_iinc (v := (nI (f + 1))) (lv' := [(2, .int (nI (f + 1))), (1, .int c), (0, .ref 80)]) dX12_token_175 rfl (nI_1 f) (by decide) rfl ?_
          refine g_aload_n dX12_token_178 rfl rfl ?_
          refine g_dup dX12_token_179 rfl ?_
          refine g_getV 5 (C := RX12) (T := TX12) (N := 19) (v := (nI q)) dX12_token_180 (by decide) rfl rfl (by decide) rfl fl_RX12_79 ((zs_up_m (by omega)).trans hq5) ?_
          refine g_iconst (v := (nI 1)) dX12_token_183 rfl ?_
          refine g_iaddN dX12_token_184 ?_
          refine g_putI 5 (C := RX12) (T := TX12) (N := 19) (ty := .int) dX12_token_185 (by decide) rfl rfl (by decide) rfl fl_RX12_79 rfl (by decide +kernel) ⟨rfl, rfl⟩ ?_
          refine g_goto 120 dX12_token_188 (by decide) ?_
          exact ih (q + 1) (by omega) (f + 1) _ ((((hS).up (by omega) (zs_okN rfl (by decide) (by decide)))).up (by omega) (zs_okR rfl (by omega) (by omega) (by decide) (by decide))) zs_up_q ((zs_up_m (by omega)).trans ((zs_up_m (by omega)).trans hp6)) ((((zs_up_m (by omega)).trans zs_up_q)).trans (by rw [tx_nv2 (by omega)])) (hrn.symm.trans (tx_rn1 hqL hso)).symm (by omega) (by omega) hs48f
        · refine g_bipush (v := (nI 10)) dX12_token_147 rfl ?_
          refine g_aload_n dX12_token_149 rfl rfl ?_
          refine g_getV 11 (C := RX12) (T := TX12) (N := 19) (v := (nI (tx_nv B (tx_p B L j) q))) dX12_token_150 (by decide) rfl rfl (by decide) rfl fl_RX12_96 hv11 ?_
          refine g_imulN dX12_token_153 ?_
          refine g_aload_n dX12_token_154 rfl rfl ?_
          refine g_aload_n dX12_token_155 rfl rfl ?_
          refine g_getV 5 (C := RX12) (T := TX12) (N := 19) (v := (nI q)) dX12_token_156 (by decide) rfl rfl (by decide) rfl fl_RX12_79 hq5 ?_
          refine g_callV (T := TX12) (NN := 19) [.int (nI (10 * (tx_nv B (tx_p B L j) q))), .ref 80] (z_byteE q B L S ((hS).y hT) (by omega)) dX12_token_159 kk_X12_token_X12_byteAt ml_RX12_82 mwX12_byteAt ewX12_byteAt (by decide) rfl rfl rfl rfl (Nat.le_of_ble_eq_true rfl) ?_
          rintro _ _ ⟨x3, rfl, hx, rfl⟩
          obtain rfl : x3 = (nI (B q)) := (hx.resolve_right (fun z => absurd z.1 (by omega))).2
          refine g_iaddN dX12_token_162 ?_
          refine g_bipush (v := (nI 48)) dX12_token_163 rfl ?_
          refine g_isubN dX12_token_165 (by omega) ?_
          refine g_goto 172 dX12_token_166 (by decide) ?_
          refine g_putI 11 (C := RX12) (T := TX12) (N := 19) (ty := .int) dX12_token_172 (by decide) rfl rfl (by decide) rfl fl_RX12_96 rfl (by decide +kernel) ⟨rfl, rfl⟩ ?_
          refine g_iinc (v := (nI (f + 1))) (lv' := [(2, .int (nI (f + 1))), (1, .int c), (0, .ref 80)]) dX12_token_175 rfl (nI_1 f) (by decide) rfl ?_
          refine g_aload_n dX12_token_178 rfl rfl ?_
          refine g_dup dX12_token_179 rfl ?_
          refine g_getV 5 (C := RX12) (T := TX12) (N := 19) (v := (nI q)) dX12_token_180 (by decide) rfl rfl (by decide) rfl fl_RX12_79 ((zs_up_m (by omega)).trans hq5) ?_
          refine g_iconst (v := (nI 1)) dX12_token_183 rfl ?_
          refine g_iaddN dX12_token_184 ?_
          refine g_putI 5 (C := RX12) (T := TX12) (N := 19) (ty := .int) dX12_token_185 (by decide) rfl rfl (by decide) rfl fl_RX12_79 rfl (by decide +kernel) ⟨rfl, rfl⟩ ?_
          refine g_goto 120 dX12_token_188 (by decide) ?_
          exact ih (q + 1) (by omega) (f + 1) _ ((((hS).up (by omega) (zs_okN rfl (by decide) (by decide)))).up (by omega) (zs_okR rfl (by omega) (by omega) (by decide) (by decide))) zs_up_q ((zs_up_m (by omega)).trans ((zs_up_m (by omega)).trans hp6)) ((((zs_up_m (by omega)).trans zs_up_q)).trans (by rw [tx_nv1 (by omega) (by omega) (tx_so2 hso).1 hs48])) (hrn.symm.trans (tx_rn1 hqL hso)).symm (by omega) (by omega) hs48f
      · have hqe : q = tx_q B L (j + 1) := by rw [← hrn]; exact (tx_rn0 (fun z => hso z.2)).symm
        refine g_aload_n dX12_token_120 rfl rfl ?_
        refine g_aload_n dX12_token_121 rfl rfl ?_
        refine g_getV 5 (C := RX12) (T := TX12) (N := 19) (v := (nI q)) dX12_token_122 (by decide) rfl rfl (by decide) rfl fl_RX12_79 hq5 ?_
        refine g_callV (T := TX12) (NN := 19) [] (z_byteE q B L S ((hS).y hT) (by omega)) dX12_token_125 kk_X12_token_X12_byteAt ml_RX12_82 mwX12_byteAt ewX12_byteAt (by decide) rfl rfl rfl rfl (Nat.le_of_ble_eq_true rfl) ?_
        rintro _ _ ⟨x1, rfl, hx, rfl⟩
        obtain rfl : x1 = (nI (B q)) := (hx.resolve_right (fun z => absurd z.1 (by omega))).2
        refine g_i2l dX12_token_128 rfl ?_
        refine g_ldc2 (v := 48) dX12_token_129 cl_RX12_92 ?_
        refine g_ldc2 (v := 57) dX12_token_132 cl_RX12_94 ?_
        refine g_callS [.long (Int32.toInt64 (nI (B q))), .long 48, .long 57] [] (z_in S (nI (B q)) 48 57 (by decide) (by decide)) dX12_token_135 kk_X12_token_X12_in ml_RX12_54 swX12_in rfl rfl (Nat.le_of_ble_eq_true rfl) ?_
        rintro _ _ ⟨_, rfl, rfl, rfl⟩
        refine g_if_eq 191 dX12_token_138 (by decide) (fun _ => ?_) (fun z => absurd (zs_bf (fun y => hso ((tx_inD hB).mp y))) z)
        refine g_iconst (v := (nI 1)) dX12_token_191 rfl ?_
        refine g_iret dX12_token_192 rfl rfl ?_
        exact ⟨_, rfl, hS, hmt.symm ▸ rfl, (hq5).trans (by rw [hqe]), hp6, fun _ => (hv11).trans (by rw [hqe])⟩
    · have hqe : q = tx_q B L (j + 1) := by rw [← hrn]; exact (tx_rn0 (fun z => hqL z.1)).symm
      refine g_aload_n dX12_token_120 rfl rfl ?_
      refine g_aload_n dX12_token_121 rfl rfl ?_
      refine g_getV 5 (C := RX12) (T := TX12) (N := 19) (v := (nI q)) dX12_token_122 (by decide) rfl rfl (by decide) rfl fl_RX12_79 hq5 ?_
      refine g_callV (T := TX12) (NN := 19) [] (z_byteE q B L S ((hS).y hT) (by omega)) dX12_token_125 kk_X12_token_X12_byteAt ml_RX12_82 mwX12_byteAt ewX12_byteAt (by decide) rfl rfl rfl rfl (Nat.le_of_ble_eq_true rfl) ?_
      rintro _ _ ⟨x1, rfl, hx, rfl⟩
      obtain rfl : x1 = (-1) := (hx.resolve_left (fun z => absurd z.1 (by omega))).2
      refine g_i2l dX12_token_128 rfl ?_
      refine g_ldc2 (v := 48) dX12_token_129 cl_RX12_92 ?_
      refine g_ldc2 (v := 57) dX12_token_132 cl_RX12_94 ?_
      refine g_callS [.long (Int32.toInt64 (-1)), .long 48, .long 57] [] (z_in S (-1) 48 57 (by decide) (by decide)) dX12_token_135 kk_X12_token_X12_in ml_RX12_54 swX12_in rfl rfl (Nat.le_of_ble_eq_true rfl) ?_
      rintro _ _ ⟨_, rfl, rfl, rfl⟩
      refine g_if_eq 191 dX12_token_138 (by decide) (fun _ => ?_) (fun z => absurd (zs_bf (by decide)) z)
      refine g_iconst (v := (nI 1)) dX12_token_191 rfl ?_
      refine g_iret dX12_token_192 rfl rfl ?_
      exact ⟨_, rfl, hS, hmt.symm ▸ rfl, (hq5).trans (by rw [hqe]), hp6, fun _ => (hv11).trans (by rw [hqe])⟩
set_option maxRecDepth 100000 in
theorem z_te26 (S0 : zs_S) (B : Nat → Nat) (L j : Nat) (hT : zs_tm S0 B L) (S : zs_S) (hS : zs_oT S0 S) (hq5 : S.1 80 5 = nI (tx_p B L j)) : zs_P MX12_token 26 [(0, .ref 80)] [] S (fun v S2 => ∃ x, v = some (.int x) ∧ zs_oT S0 S2 ∧ x = nI (tx_mt B L j) ∧ S2.1 80 5 = nI (tx_q B L (j + 1)) ∧ S2.1 80 6 = nI (tx_p B L j) ∧ (tx_mt B L j = 1 → S2.1 80 11 = nI (tx_nv B (tx_p B L j) (tx_q B L (j + 1))))) := by
  have hL := hT.1
  have hpL := tx_p_le (B := B) (L := L) (j := j)
  by_cases hp : tx_p B L j < L
  · have hB := (hT.2.2 (tx_p B L j) hp).1
    have hnb := tx_sk_nb (B := B) (q := tx_q B L j) (L := L) (tx_q_le j) hp
    have hqS := tx_qS hp
    unfold tx_te at hqS
    by_cases hso : tx_so (B (tx_p B L j)) = 1
    · have hmt : tx_mt B L j = 0 := (if_pos hp).trans (if_pos hso)
      rw [if_pos (Or.inl hso), hso] at hqS
      have hrn := hqS.symm
      refine g_aload_n dX12_token_26 rfl rfl ?_
      refine g_aload_n dX12_token_27 rfl rfl ?_
      refine g_getV 5 (C := RX12) (T := TX12) (N := 19) (v := (nI (tx_p B L j))) dX12_token_28 (by decide) rfl rfl (by decide) rfl fl_RX12_79 hq5 ?_
      refine g_putI 6 (C := RX12) (T := TX12) (N := 19) (ty := .int) dX12_token_31 (by decide) rfl rfl (by decide) rfl fl_RX12_85 rfl (by decide +kernel) ⟨rfl, rfl⟩ ?_
      refine g_aload_n dX12_token_34 rfl rfl ?_
      refine g_aload_n dX12_token_35 rfl rfl ?_
      refine g_getV 5 (C := RX12) (T := TX12) (N := 19) (v := (nI (tx_p B L j))) dX12_token_36 (by decide) rfl rfl (by decide) rfl fl_RX12_79 ((zs_up_m (by omega)).trans hq5) ?_
      refine g_callV (T := TX12) (NN := 19) [] (z_byteE (tx_p B L j) B L (zs_up S.1 80 6 (nI (tx_p B L j)), S.2) ((((hS).up (by omega) (zs_okR rfl (by omega) (by omega) (by decide) (by decide)))).y hT) (by omega)) dX12_token_39 kk_X12_token_X12_byteAt ml_RX12_82 mwX12_byteAt ewX12_byteAt (by decide) rfl rfl rfl rfl (Nat.le_of_ble_eq_true rfl) ?_
      rintro _ _ ⟨x1, rfl, hx, rfl⟩
      obtain rfl : x1 = (nI (B (tx_p B L j))) := (hx.resolve_right (fun z => absurd z.1 (by omega))).2
      refine g_istore_n (lv' := [(1, .int (nI (B (tx_p B L j)))), (0, .ref 80)]) dX12_token_42 rfl (by decide) rfl ?_
      refine g_iload_n dX12_token_43 rfl rfl ?_
      refine g_if_geN 49 dX12_token_44 (by decide) (by omega) ?_
      refine g_iload_n dX12_token_49 rfl rfl ?_
      refine g_i2l dX12_token_50 rfl ?_
      refine g_ldc2 (v := 97) dX12_token_51 cl_RX12_88 ?_
      refine g_ldc2 (v := 122) dX12_token_54 cl_RX12_90 ?_
      refine g_callS [.long (Int32.toInt64 (nI (B (tx_p B L j)))), .long 97, .long 122] [] (z_in (zs_up S.1 80 6 (nI (tx_p B L j)), S.2) (nI (B (tx_p B L j))) 97 122 (by decide) (by decide)) dX12_token_57 kk_X12_token_X12_in ml_RX12_54 swX12_in rfl rfl (Nat.le_of_ble_eq_true rfl) ?_
      rintro _ _ ⟨_, rfl, rfl, rfl⟩
      refine g_if_eq 99 dX12_token_60 (by decide) (fun z => absurd z (fun z => absurd (zs_b0 z) (fun y => y ((tx_inL hB).mpr hso)))) (fun _ => ?_)
      exact (z_te63 S0 B L j hT _ hmt (151 - tx_p B L j) (tx_p B L j) (by omega) _ ((hS).up (by omega) (zs_okR rfl (by omega) (by omega) (by decide) (by decide))) ((zs_up_m (by omega)).trans hq5) zs_up_q hrn (by omega)).lv (zs_mc 0 rfl (zs_mc 1 rfl zs_mn))
    by_cases hs2 : tx_so (B (tx_p B L j)) = 2
    · have hmt : tx_mt B L j = 1 := (if_pos hp).trans ((if_neg hso).trans (if_pos hs2))
      rw [if_pos (Or.inr hs2), hs2] at hqS
      have hrn := hqS.symm
      refine g_aload_n dX12_token_26 rfl rfl ?_
      refine g_aload_n dX12_token_27 rfl rfl ?_
      refine g_getV 5 (C := RX12) (T := TX12) (N := 19) (v := (nI (tx_p B L j))) dX12_token_28 (by decide) rfl rfl (by decide) rfl fl_RX12_79 hq5 ?_
      refine g_putI 6 (C := RX12) (T := TX12) (N := 19) (ty := .int) dX12_token_31 (by decide) rfl rfl (by decide) rfl fl_RX12_85 rfl (by decide +kernel) ⟨rfl, rfl⟩ ?_
      refine g_aload_n dX12_token_34 rfl rfl ?_
      refine g_aload_n dX12_token_35 rfl rfl ?_
      refine g_getV 5 (C := RX12) (T := TX12) (N := 19) (v := (nI (tx_p B L j))) dX12_token_36 (by decide) rfl rfl (by decide) rfl fl_RX12_79 ((zs_up_m (by omega)).trans hq5) ?_
      refine g_callV (T := TX12) (NN := 19) [] (z_byteE (tx_p B L j) B L (zs_up S.1 80 6 (nI (tx_p B L j)), S.2) ((((hS).up (by omega) (zs_okR rfl (by omega) (by omega) (by decide) (by decide)))).y hT) (by omega)) dX12_token_39 kk_X12_token_X12_byteAt ml_RX12_82 mwX12_byteAt ewX12_byteAt (by decide) rfl rfl rfl rfl (Nat.le_of_ble_eq_true rfl) ?_
      rintro _ _ ⟨x1, rfl, hx, rfl⟩
      obtain rfl : x1 = (nI (B (tx_p B L j))) := (hx.resolve_right (fun z => absurd z.1 (by omega))).2
      refine g_istore_n (lv' := [(1, .int (nI (B (tx_p B L j)))), (0, .ref 80)]) dX12_token_42 rfl (by decide) rfl ?_
      refine g_iload_n dX12_token_43 rfl rfl ?_
      refine g_if_geN 49 dX12_token_44 (by decide) (by omega) ?_
      refine g_iload_n dX12_token_49 rfl rfl ?_
      refine g_i2l dX12_token_50 rfl ?_
      refine g_ldc2 (v := 97) dX12_token_51 cl_RX12_88 ?_
      refine g_ldc2 (v := 122) dX12_token_54 cl_RX12_90 ?_
      refine g_callS [.long (Int32.toInt64 (nI (B (tx_p B L j)))), .long 97, .long 122] [] (z_in (zs_up S.1 80 6 (nI (tx_p B L j)), S.2) (nI (B (tx_p B L j))) 97 122 (by decide) (by decide)) dX12_token_57 kk_X12_token_X12_in ml_RX12_54 swX12_in rfl rfl (Nat.le_of_ble_eq_true rfl) ?_
      rintro _ _ ⟨_, rfl, rfl, rfl⟩
      refine g_if_eq 99 dX12_token_60 (by decide) (fun _ => ?_) (fun z => absurd (zs_bf (fun y => hso ((tx_inL hB).mp y))) z)
      refine g_iload_n dX12_token_99 rfl rfl ?_
      refine g_i2l dX12_token_100 rfl ?_
      refine g_ldc2 (v := 48) dX12_token_101 cl_RX12_92 ?_
      refine g_ldc2 (v := 57) dX12_token_104 cl_RX12_94 ?_
      refine g_callS [.long (Int32.toInt64 (nI (B (tx_p B L j)))), .long 48, .long 57] [] (z_in (zs_up S.1 80 6 (nI (tx_p B L j)), S.2) (nI (B (tx_p B L j))) 48 57 (by decide) (by decide)) dX12_token_107 kk_X12_token_X12_in ml_RX12_54 swX12_in rfl rfl (Nat.le_of_ble_eq_true rfl) ?_
      rintro _ _ ⟨_, rfl, rfl, rfl⟩
      refine g_if_eq 193 dX12_token_110 (by decide) (fun z => absurd z (fun z => absurd (zs_b0 z) (fun y => y ((tx_inD hB).mpr hs2)))) (fun _ => ?_)
      refine g_aload_n dX12_token_113 rfl rfl ?_
      refine g_iconst (v := (nI 0)) dX12_token_114 rfl ?_
      refine g_putI 11 (C := RX12) (T := TX12) (N := 19) (ty := .int) dX12_token_115 (by decide) rfl rfl (by decide) rfl fl_RX12_96 rfl (by decide +kernel) ⟨rfl, rfl⟩ ?_
      refine g_iconst (v := (nI 0)) dX12_token_118 rfl ?_
      refine g_istore_n (lv' := [(2, .int (nI 0)), (1, .int (nI (B (tx_p B L j)))), (0, .ref 80)]) dX12_token_119 rfl (by decide) rfl ?_
      exact (z_te120 S0 B L j hT _ hmt (151 - tx_p B L j) (tx_p B L j) (by omega) 0 _ ((((hS).up (by omega) (zs_okR rfl (by omega) (by omega) (by decide) (by decide)))).up (by omega) (zs_okN rfl (by decide) (by decide))) ((zs_up_m (by omega)).trans ((zs_up_m (by omega)).trans hq5)) ((zs_up_m (by omega)).trans zs_up_q) ((zs_up_q).trans (by rw [tx_nv0])) hrn (by omega) (by omega) (fun z => absurd z (by omega))).lv (zs_mc 0 rfl (zs_mc 1 rfl (zs_mc 2 rfl zs_mn)))
    · rw [if_neg (by omega)] at hqS
      have hqe := hqS.symm
      by_cases h59 : B (tx_p B L j) = 59
      · have hmt : tx_mt B L j = 2 := (if_pos hp).trans ((if_neg hso).trans ((if_neg hs2).trans (if_pos h59)))
        refine g_aload_n dX12_token_26 rfl rfl ?_
        refine g_aload_n dX12_token_27 rfl rfl ?_
        refine g_getV 5 (C := RX12) (T := TX12) (N := 19) (v := (nI (tx_p B L j))) dX12_token_28 (by decide) rfl rfl (by decide) rfl fl_RX12_79 hq5 ?_
        refine g_putI 6 (C := RX12) (T := TX12) (N := 19) (ty := .int) dX12_token_31 (by decide) rfl rfl (by decide) rfl fl_RX12_85 rfl (by decide +kernel) ⟨rfl, rfl⟩ ?_
        refine g_aload_n dX12_token_34 rfl rfl ?_
        refine g_aload_n dX12_token_35 rfl rfl ?_
        refine g_getV 5 (C := RX12) (T := TX12) (N := 19) (v := (nI (tx_p B L j))) dX12_token_36 (by decide) rfl rfl (by decide) rfl fl_RX12_79 ((zs_up_m (by omega)).trans hq5) ?_
        refine g_callV (T := TX12) (NN := 19) [] (z_byteE (tx_p B L j) B L (zs_up S.1 80 6 (nI (tx_p B L j)), S.2) ((((hS).up (by omega) (zs_okR rfl (by omega) (by omega) (by decide) (by decide)))).y hT) (by omega)) dX12_token_39 kk_X12_token_X12_byteAt ml_RX12_82 mwX12_byteAt ewX12_byteAt (by decide) rfl rfl rfl rfl (Nat.le_of_ble_eq_true rfl) ?_
        rintro _ _ ⟨x1, rfl, hx, rfl⟩
        obtain rfl : x1 = (nI (B (tx_p B L j))) := (hx.resolve_right (fun z => absurd z.1 (by omega))).2
        refine g_istore_n (lv' := [(1, .int (nI (B (tx_p B L j)))), (0, .ref 80)]) dX12_token_42 rfl (by decide) rfl ?_
        refine g_iload_n dX12_token_43 rfl rfl ?_
        refine g_if_geN 49 dX12_token_44 (by decide) (by omega) ?_
        refine g_iload_n dX12_token_49 rfl rfl ?_
        refine g_i2l dX12_token_50 rfl ?_
        refine g_ldc2 (v := 97) dX12_token_51 cl_RX12_88 ?_
        refine g_ldc2 (v := 122) dX12_token_54 cl_RX12_90 ?_
        refine g_callS [.long (Int32.toInt64 (nI (B (tx_p B L j)))), .long 97, .long 122] [] (z_in (zs_up S.1 80 6 (nI (tx_p B L j)), S.2) (nI (B (tx_p B L j))) 97 122 (by decide) (by decide)) dX12_token_57 kk_X12_token_X12_in ml_RX12_54 swX12_in rfl rfl (Nat.le_of_ble_eq_true rfl) ?_
        rintro _ _ ⟨_, rfl, rfl, rfl⟩
        refine g_if_eq 99 dX12_token_60 (by decide) (fun _ => ?_) (fun z => absurd (zs_bf (fun y => hso ((tx_inL hB).mp y))) z)
        refine g_iload_n dX12_token_99 rfl rfl ?_
        refine g_i2l dX12_token_100 rfl ?_
        refine g_ldc2 (v := 48) dX12_token_101 cl_RX12_92 ?_
        refine g_ldc2 (v := 57) dX12_token_104 cl_RX12_94 ?_
        refine g_callS [.long (Int32.toInt64 (nI (B (tx_p B L j)))), .long 48, .long 57] [] (z_in (zs_up S.1 80 6 (nI (tx_p B L j)), S.2) (nI (B (tx_p B L j))) 48 57 (by decide) (by decide)) dX12_token_107 kk_X12_token_X12_in ml_RX12_54 swX12_in rfl rfl (Nat.le_of_ble_eq_true rfl) ?_
        rintro _ _ ⟨_, rfl, rfl, rfl⟩
        refine g_if_eq 193 dX12_token_110 (by decide) (fun _ => ?_) (fun z => absurd (zs_bf (fun y => hs2 ((tx_inD hB).mp y))) z)
        refine g_aload_n dX12_token_193 rfl rfl ?_
        refine g_dup dX12_token_194 rfl ?_
        refine g_getV 5 (C := RX12) (T := TX12) (N := 19) (v := (nI (tx_p B L j))) dX12_token_195 (by decide) rfl rfl (by decide) rfl fl_RX12_79 ((zs_up_m (by omega)).trans hq5) ?_
        refine g_iconst (v := (nI 1)) dX12_token_198 rfl ?_
        refine g_iaddN dX12_token_199 ?_
        refine g_putI 5 (C := RX12) (T := TX12) (N := 19) (ty := .int) dX12_token_200 (by decide) rfl rfl (by decide) rfl fl_RX12_79 rfl (by decide +kernel) ⟨rfl, rfl⟩ ?_
        refine g_iload_n dX12_token_203 rfl rfl ?_
        refine g_bipush (v := (nI 59)) dX12_token_204 rfl ?_
        refine g_ic_neN 213 dX12_token_206 (by decide) (by omega) (by omega) (fun z => absurd z (by omega)) (fun _ => ?_)
        refine g_iconst (v := (nI 2)) dX12_token_209 rfl ?_
        refine g_goto 214 dX12_token_210 (by decide) ?_
        refine g_iret dX12_token_214 rfl rfl ?_
        exact ⟨_, rfl, ((((hS).up (by omega) (zs_okR rfl (by omega) (by omega) (by decide) (by decide)))).up (by omega) (zs_okR rfl (by omega) (by omega) (by decide) (by decide))), hmt.symm ▸ rfl, (zs_up_q).trans (by rw [hqe]), ((zs_up_m (by omega)).trans zs_up_q), fun z => absurd z (by omega)⟩
      · have hmt : tx_mt B L j = 3 := (if_pos hp).trans ((if_neg hso).trans ((if_neg hs2).trans (if_neg h59)))
        refine g_aload_n dX12_token_26 rfl rfl ?_
        refine g_aload_n dX12_token_27 rfl rfl ?_
        refine g_getV 5 (C := RX12) (T := TX12) (N := 19) (v := (nI (tx_p B L j))) dX12_token_28 (by decide) rfl rfl (by decide) rfl fl_RX12_79 hq5 ?_
        refine g_putI 6 (C := RX12) (T := TX12) (N := 19) (ty := .int) dX12_token_31 (by decide) rfl rfl (by decide) rfl fl_RX12_85 rfl (by decide +kernel) ⟨rfl, rfl⟩ ?_
        refine g_aload_n dX12_token_34 rfl rfl ?_
        refine g_aload_n dX12_token_35 rfl rfl ?_
        refine g_getV 5 (C := RX12) (T := TX12) (N := 19) (v := (nI (tx_p B L j))) dX12_token_36 (by decide) rfl rfl (by decide) rfl fl_RX12_79 ((zs_up_m (by omega)).trans hq5) ?_
        refine g_callV (T := TX12) (NN := 19) [] (z_byteE (tx_p B L j) B L (zs_up S.1 80 6 (nI (tx_p B L j)), S.2) ((((hS).up (by omega) (zs_okR rfl (by omega) (by omega) (by decide) (by decide)))).y hT) (by omega)) dX12_token_39 kk_X12_token_X12_byteAt ml_RX12_82 mwX12_byteAt ewX12_byteAt (by decide) rfl rfl rfl rfl (Nat.le_of_ble_eq_true rfl) ?_
        rintro _ _ ⟨x1, rfl, hx, rfl⟩
        obtain rfl : x1 = (nI (B (tx_p B L j))) := (hx.resolve_right (fun z => absurd z.1 (by omega))).2
        refine g_istore_n (lv' := [(1, .int (nI (B (tx_p B L j)))), (0, .ref 80)]) dX12_token_42 rfl (by decide) rfl ?_
        refine g_iload_n dX12_token_43 rfl rfl ?_
        refine g_if_geN 49 dX12_token_44 (by decide) (by omega) ?_
        refine g_iload_n dX12_token_49 rfl rfl ?_
        refine g_i2l dX12_token_50 rfl ?_
        refine g_ldc2 (v := 97) dX12_token_51 cl_RX12_88 ?_
        refine g_ldc2 (v := 122) dX12_token_54 cl_RX12_90 ?_
        refine g_callS [.long (Int32.toInt64 (nI (B (tx_p B L j)))), .long 97, .long 122] [] (z_in (zs_up S.1 80 6 (nI (tx_p B L j)), S.2) (nI (B (tx_p B L j))) 97 122 (by decide) (by decide)) dX12_token_57 kk_X12_token_X12_in ml_RX12_54 swX12_in rfl rfl (Nat.le_of_ble_eq_true rfl) ?_
        rintro _ _ ⟨_, rfl, rfl, rfl⟩
        refine g_if_eq 99 dX12_token_60 (by decide) (fun _ => ?_) (fun z => absurd (zs_bf (fun y => hso ((tx_inL hB).mp y))) z)
        refine g_iload_n dX12_token_99 rfl rfl ?_
        refine g_i2l dX12_token_100 rfl ?_
        refine g_ldc2 (v := 48) dX12_token_101 cl_RX12_92 ?_
        refine g_ldc2 (v := 57) dX12_token_104 cl_RX12_94 ?_
        refine g_callS [.long (Int32.toInt64 (nI (B (tx_p B L j)))), .long 48, .long 57] [] (z_in (zs_up S.1 80 6 (nI (tx_p B L j)), S.2) (nI (B (tx_p B L j))) 48 57 (by decide) (by decide)) dX12_token_107 kk_X12_token_X12_in ml_RX12_54 swX12_in rfl rfl (Nat.le_of_ble_eq_true rfl) ?_
        rintro _ _ ⟨_, rfl, rfl, rfl⟩
        refine g_if_eq 193 dX12_token_110 (by decide) (fun _ => ?_) (fun z => absurd (zs_bf (fun y => hs2 ((tx_inD hB).mp y))) z)
        refine g_aload_n dX12_token_193 rfl rfl ?_
        refine g_dup dX12_token_194 rfl ?_
        refine g_getV 5 (C := RX12) (T := TX12) (N := 19) (v := (nI (tx_p B L j))) dX12_token_195 (by decide) rfl rfl (by decide) rfl fl_RX12_79 ((zs_up_m (by omega)).trans hq5) ?_
        refine g_iconst (v := (nI 1)) dX12_token_198 rfl ?_
        refine g_iaddN dX12_token_199 ?_
        refine g_putI 5 (C := RX12) (T := TX12) (N := 19) (ty := .int) dX12_token_200 (by decide) rfl rfl (by decide) rfl fl_RX12_79 rfl (by decide +kernel) ⟨rfl, rfl⟩ ?_
        refine g_iload_n dX12_token_203 rfl rfl ?_
        refine g_bipush (v := (nI 59)) dX12_token_204 rfl ?_
        refine g_ic_neN 213 dX12_token_206 (by decide) (by omega) (by omega) (fun _ => ?_) (fun z => absurd z (by omega))
        refine g_iconst (v := (nI 3)) dX12_token_213 rfl ?_
        refine g_iret dX12_token_214 rfl rfl ?_
        exact ⟨_, rfl, ((((hS).up (by omega) (zs_okR rfl (by omega) (by omega) (by decide) (by decide)))).up (by omega) (zs_okR rfl (by omega) (by omega) (by decide) (by decide))), hmt.symm ▸ rfl, (zs_up_q).trans (by rw [hqe]), ((zs_up_m (by omega)).trans zs_up_q), fun z => absurd z (by omega)⟩
  · have hmt : tx_mt B L j = 4 := if_neg hp
    have hqe : tx_p B L j = tx_q B L (j + 1) := by
      have e9 : tx_q B L (j + 1) = L := if_neg hp
      omega
    refine g_aload_n dX12_token_26 rfl rfl ?_
    refine g_aload_n dX12_token_27 rfl rfl ?_
    refine g_getV 5 (C := RX12) (T := TX12) (N := 19) (v := (nI (tx_p B L j))) dX12_token_28 (by decide) rfl rfl (by decide) rfl fl_RX12_79 hq5 ?_
    refine g_putI 6 (C := RX12) (T := TX12) (N := 19) (ty := .int) dX12_token_31 (by decide) rfl rfl (by decide) rfl fl_RX12_85 rfl (by decide +kernel) ⟨rfl, rfl⟩ ?_
    refine g_aload_n dX12_token_34 rfl rfl ?_
    refine g_aload_n dX12_token_35 rfl rfl ?_
    refine g_getV 5 (C := RX12) (T := TX12) (N := 19) (v := (nI (tx_p B L j))) dX12_token_36 (by decide) rfl rfl (by decide) rfl fl_RX12_79 ((zs_up_m (by omega)).trans hq5) ?_
    refine g_callV (T := TX12) (NN := 19) [] (z_byteE (tx_p B L j) B L (zs_up S.1 80 6 (nI (tx_p B L j)), S.2) ((((hS).up (by omega) (zs_okR rfl (by omega) (by omega) (by decide) (by decide)))).y hT) (by omega)) dX12_token_39 kk_X12_token_X12_byteAt ml_RX12_82 mwX12_byteAt ewX12_byteAt (by decide) rfl rfl rfl rfl (Nat.le_of_ble_eq_true rfl) ?_
    rintro _ _ ⟨x1, rfl, hx, rfl⟩
    obtain rfl : x1 = (-1) := (hx.resolve_left (fun z => absurd z.1 (by omega))).2
    refine g_istore_n (lv' := [(1, .int (-1)), (0, .ref 80)]) dX12_token_42 rfl (by decide) rfl ?_
    refine g_iload_n dX12_token_43 rfl rfl ?_
    refine g_if_ge 49 dX12_token_44 (by decide) (fun z => absurd z (by decide)) (fun _ => ?_)
    refine g_iconst (v := (nI 4)) dX12_token_47 rfl ?_
    refine g_iret dX12_token_48 rfl rfl ?_
    exact ⟨_, rfl, ((hS).up (by omega) (zs_okR rfl (by omega) (by omega) (by decide) (by decide))), hmt.symm ▸ rfl, (((zs_up_m (by omega)).trans hq5)).trans (by rw [hqe]), zs_up_q, fun z => absurd z (by omega)⟩
set_option maxRecDepth 100000 in
theorem z_te0 (S0 : zs_S) (B : Nat → Nat) (L j : Nat) (hT : zs_tm S0 B L) : ∀ (d q : Nat), q + d = 151 → ∀ S, zs_oT S0 S → S.1 80 5 = nI q → tx_sk B L q = tx_p B L j → q ≤ L → zs_P MX12_token 0 [(0, .ref 80)] [] S (fun v S2 => ∃ x, v = some (.int x) ∧ zs_oT S0 S2 ∧ x = nI (tx_mt B L j) ∧ S2.1 80 5 = nI (tx_q B L (j + 1)) ∧ S2.1 80 6 = nI (tx_p B L j) ∧ (tx_mt B L j = 1 → S2.1 80 11 = nI (tx_nv B (tx_p B L j) (tx_q B L (j + 1))))) := by
  have hL := hT.1
  intro d
  induction d with
  | zero => intro q hd S hS hq5 hsk hqL2; exact absurd hqL2 (by omega)
  | succ d ih =>
    intro q hd S hS hq5 hsk hqL2
    have ih : ∀ q, q + d = 151 → ∀ S, zs_oT S0 S → S.1 80 5 = nI q → tx_sk B L q = tx_p B L j → q ≤ L → zs_P MX12_token 0 [(0, .ref 80)] [] S (fun v S2 => ∃ x, v = some (.int x) ∧ zs_oT S0 S2 ∧ x = nI (tx_mt B L j) ∧ S2.1 80 5 = nI (tx_q B L (j + 1)) ∧ S2.1 80 6 = nI (tx_p B L j) ∧ (tx_mt B L j = 1 → S2.1 80 11 = nI (tx_nv B (tx_p B L j) (tx_q B L (j + 1))))) := ih
    by_cases hqL : q < L
    · have hB := (hT.2.2 q hqL).1
      by_cases hb : B q = 32
      · skip
        refine g_aload_n dX12_token_0 rfl rfl ?_
        refine g_aload_n dX12_token_1 rfl rfl ?_
        refine g_getV 5 (C := RX12) (T := TX12) (N := 19) (v := (nI q)) dX12_token_2 (by decide) rfl rfl (by decide) rfl fl_RX12_79 hq5 ?_
        refine g_callV (T := TX12) (NN := 19) [] (z_byteE q B L S ((hS).y hT) (by omega)) dX12_token_5 kk_X12_token_X12_byteAt ml_RX12_82 mwX12_byteAt ewX12_byteAt (by decide) rfl rfl rfl rfl (Nat.le_of_ble_eq_true rfl) ?_
        rintro _ _ ⟨x1, rfl, hx, rfl⟩
        obtain rfl : x1 = (nI (B q)) := (hx.resolve_right (fun z => absurd z.1 (by omega))).2
        refine g_bipush (v := (nI 32)) dX12_token_8 rfl ?_
        refine g_ic_neN 26 dX12_token_10 (by decide) (by omega) (by omega) (fun z => absurd z (by omega)) (fun _ => ?_)
        refine g_aload_n dX12_token_13 rfl rfl ?_
        refine g_dup dX12_token_14 rfl ?_
        refine g_getV 5 (C := RX12) (T := TX12) (N := 19) (v := (nI q)) dX12_token_15 (by decide) rfl rfl (by decide) rfl fl_RX12_79 hq5 ?_
        refine g_iconst (v := (nI 1)) dX12_token_18 rfl ?_
        refine g_iaddN dX12_token_19 ?_
        refine g_putI 5 (C := RX12) (T := TX12) (N := 19) (ty := .int) dX12_token_20 (by decide) rfl rfl (by decide) rfl fl_RX12_79 rfl (by decide +kernel) ⟨rfl, rfl⟩ ?_
        refine g_goto 0 dX12_token_23 (by decide) ?_
        exact ih (q + 1) (by omega) _ ((hS).up (by omega) (zs_okR rfl (by omega) (by omega) (by decide) (by decide))) zs_up_q (hsk.symm.trans (tx_sk1 hqL hb)).symm (by omega)
      · have hqe : q = tx_p B L j := by rw [← hsk]; exact (tx_sk0 (fun z => hb z.2)).symm
        refine g_aload_n dX12_token_0 rfl rfl ?_
        refine g_aload_n dX12_token_1 rfl rfl ?_
        refine g_getV 5 (C := RX12) (T := TX12) (N := 19) (v := (nI q)) dX12_token_2 (by decide) rfl rfl (by decide) rfl fl_RX12_79 hq5 ?_
        refine g_callV (T := TX12) (NN := 19) [] (z_byteE q B L S ((hS).y hT) (by omega)) dX12_token_5 kk_X12_token_X12_byteAt ml_RX12_82 mwX12_byteAt ewX12_byteAt (by decide) rfl rfl rfl rfl (Nat.le_of_ble_eq_true rfl) ?_
        rintro _ _ ⟨x1, rfl, hx, rfl⟩
        obtain rfl : x1 = (nI (B q)) := (hx.resolve_right (fun z => absurd z.1 (by omega))).2
        refine g_bipush (v := (nI 32)) dX12_token_8 rfl ?_
        refine g_ic_neN 26 dX12_token_10 (by decide) (by omega) (by omega) (fun _ => ?_) (fun z => absurd z (by omega))
        exact z_te26 S0 B L j hT S hS (hq5.trans (by rw [hqe]))
    · have hqe : q = tx_p B L j := by rw [← hsk]; exact (tx_sk0 (fun z => hqL z.1)).symm
      refine g_aload_n dX12_token_0 rfl rfl ?_
      refine g_aload_n dX12_token_1 rfl rfl ?_
      refine g_getV 5 (C := RX12) (T := TX12) (N := 19) (v := (nI q)) dX12_token_2 (by decide) rfl rfl (by decide) rfl fl_RX12_79 hq5 ?_
      refine g_callV (T := TX12) (NN := 19) [] (z_byteE q B L S ((hS).y hT) (by omega)) dX12_token_5 kk_X12_token_X12_byteAt ml_RX12_82 mwX12_byteAt ewX12_byteAt (by decide) rfl rfl rfl rfl (Nat.le_of_ble_eq_true rfl) ?_
      rintro _ _ ⟨x1, rfl, hx, rfl⟩
      obtain rfl : x1 = (-1) := (hx.resolve_left (fun z => absurd z.1 (by omega))).2
      refine g_bipush (v := (nI 32)) dX12_token_8 rfl ?_
      refine g_ic_ne 26 dX12_token_10 (by decide) (fun _ => ?_) (fun z => absurd z (by decide))
      exact z_te26 S0 B L j hT S hS (hq5.trans (by rw [hqe]))
theorem y_tokenE (B : Nat → Nat) (L j : Nat) (S0 : zs_S) (hT : zs_tm S0 B L) (hJ : zs_J S0) (hq : S0.1 80 5 = nI (tx_q B L j)) : zs_C MX12_token [.ref 80] S0 (fun v S2 => ∃ x, v = some (.int x) ∧ zs_oT S0 S2 ∧ x = nI (tx_mt B L j) ∧ S2.1 80 5 = nI (tx_q B L (j + 1)) ∧ S2.1 80 6 = nI (tx_p B L j) ∧ (tx_mt B L j = 1 → S2.1 80 11 = nI (tx_nv B (tx_p B L j) (tx_q B L (j + 1))))) := by
  have hL := hT.1
  have hqL := tx_q_le (B := B) (L := L) j
  refine zs_C.of (by decide) (Nat.le_of_ble_eq_true rfl) ?_
  exact z_te0 S0 B L j hT (151 - tx_q B L j) (tx_q B L j) (by omega) S0 (zs_oT.rf hJ) hq rfl hqL
