theorem z_has (S : zs_S) (q j : Int32) : zs_Ci MX12_has [.int q, .int j] S (fun x S2 => x = zs_b ((q >>> (j &&& 31)) &&& 1 = 1) ∧ S = S2) := by
  refine zs_C.of (by decide) (Nat.le_of_ble_eq_true rfl) ?_
  show zs_P MX12_has 0 [(0, .int q), (1, .int j)] [] S _
  refine g_iload_n dX12_has_0 rfl rfl ?_
  refine g_iload_n dX12_has_1 rfl rfl ?_
  refine g_ishr dX12_has_2 ?_
  refine g_iconst (v := (nI 1)) dX12_has_3 rfl ?_
  refine g_iand dX12_has_4 ?_
  refine g_iconst (v := (nI 1)) dX12_has_5 rfl ?_
  refine g_ic_ne 13 dX12_has_6 (by decide) (fun h1 => ?_) (fun h1 => ?_)
  · refine g_iconst (v := (nI 0)) dX12_has_13 rfl ?_
    refine g_iret dX12_has_14 rfl rfl ?_
    exact ⟨_, rfl, (zs_bf h1).symm, rfl⟩
  · refine g_iconst (v := (nI 1)) dX12_has_9 rfl ?_
    refine g_goto 14 dX12_has_10 (by decide) ?_
    refine g_iret dX12_has_14 rfl rfl ?_
    exact ⟨_, rfl, (zs_bt h1).symm, rfl⟩
theorem zs_hb0 : ∀ j, j < 6 → ¬ ((nI 0 >>> (nI j &&& 31)) &&& 1 = 1) := by decide
theorem zs_hb1 : ∀ n, n < 7 → ∀ j, j < n → ((nI (2 ^ n - 1) >>> (nI j &&& 31)) &&& 1 = 1) := by decide
theorem zs_fc {q n c j : Nat} (hn : n ≤ 6) (hj : j < n) (h : nI q >>> (nI j &&& 31) &&& 1 = 1) (z : (c < 10 ∧ q = 0) ∨ (c = 10 ∧ q = 2 ^ n - 1)) : 1 ≤ c := by
  rcases z with ⟨z1, z2⟩ | ⟨z1, z2⟩
  · rw [z2] at h; exact absurd h (zs_hb0 j (by omega))
  · omega
theorem zs_fd {q n c j : Nat} (hn : n ≤ 6) (hj : j < n) (h : ¬ (nI q >>> (nI j &&& 31) &&& 1 = 1)) (z : (c < 10 ∧ q = 0) ∨ (c = 10 ∧ q = 2 ^ n - 1)) : 1 ≤ 10 - c := by
  rcases z with ⟨z1, z2⟩ | ⟨z1, z2⟩
  · omega
  · rw [z2] at h; exact absurd (zs_hb1 n (by omega) j hj) h
theorem zs_sh1 : ∀ n, n < 7 → (nI 1 <<< (nI n &&& 31)) = nI (2 ^ n) := by decide
theorem zs_p2 : ∀ n, n < 7 → 1 ≤ 2 ^ n ∧ 2 ^ n ≤ 64 := by decide
theorem zs_p10 : ∀ n, n < 7 → 10 ^ n ≤ 1000000 := by decide
theorem zs_lcz {r : Nat} (h : 0 < r) (hr : r < 2 ^ 31) : ¬ lg_cmp (lN r) 0 = 0 := fun z => by
  have h1 : 0 < lg_cmp (lN r) 0 := (lg_cmp_gt _ _).mpr ((lN_lt (a := 0) (by decide) hr).mpr h)
  rw [z] at h1
  exact absurd h1 (by decide)
theorem zs_lnz {r : Nat} (h : 0 < r) (hr : r < 2 ^ 31) : ¬ lN r = 0 := fun z => by
  have := (lN_eq (b := 0) hr (by decide)).mp z
  omega
set_option maxRecDepth 100000 in
theorem y_smear_g : ∀ (r p u w : Nat), p < 2 ^ 31 → r < 2 ^ 31 → (r = 0 → 1 ≤ p) → u < 2 ^ 31 → w < 2 ^ 31 → zs_V MX12_smear 190 [(11, .long (lN r)), (9, .long (lN p)), (7, .long (lN w)), (5, .long (lN u)), (0, .ref 80)] [] zs_Ri := by
  intro r
  induction r using Nat.strongRecOn with
  | _ r ih =>
    intro p u w hp hr h0 hu hw S hJ
    by_cases hz : r = 0
    · subst hz
      refine g_lload dX12_smear_190 rfl ?_
      refine g_lconst (v := 0) dX12_smear_192 (by decide) ?_
      refine g_lcmp dX12_smear_193 ?_
      refine g_if_eq 215 dX12_smear_194 (by decide) (fun _ => ?_) (fun z => absurd (by decide) z)
      refine g_aload_n dX12_smear_215 rfl rfl ?_
      refine g_lload dX12_smear_216 rfl ?_
      refine g_lload dX12_smear_218 rfl ?_
      refine g_ldiv dX12_smear_220 (zs_lnz (h0 rfl) hp) ?_
      refine g_putL 12 (C := RX12) (T := TX12) (N := 19) dX12_smear_221 (by decide) rfl rfl (by decide) rfl fl_RX12_229 rfl (by decide +kernel) ?_
      refine g_aload_n dX12_smear_224 rfl rfl ?_
      refine g_lload dX12_smear_225 rfl ?_
      refine g_lload dX12_smear_227 rfl ?_
      refine g_ldiv dX12_smear_229 (zs_lnz (h0 rfl) hp) ?_
      refine g_putL 13 (C := RX12) (T := TX12) (N := 19) dX12_smear_230 (by decide) rfl rfl (by decide) rfl fl_RX12_23 rfl (by decide +kernel) ?_
      refine g_iconst (v := (nI 1)) dX12_smear_233 rfl ?_
      refine g_iret dX12_smear_234 rfl rfl ?_
      exact ⟨⟨_, rfl⟩, hJ, (zs_fm.upL rfl).tr (zs_fm.upL rfl)⟩
    · skip
      refine g_lload dX12_smear_190 rfl ?_
      refine g_lconst (v := 0) dX12_smear_192 (by decide) ?_
      refine g_lcmp dX12_smear_193 ?_
      refine g_if_eq 215 dX12_smear_194 (by decide) (fun z => absurd z (zs_lcz (by omega) hr)) (fun _ => ?_)
      refine g_lload dX12_smear_197 rfl ?_
      refine g_lload dX12_smear_199 rfl ?_
      refine g_lrem dX12_smear_201 (zs_lnz (by omega) hr) ?_
      rw [pk_lRem (by omega) (by omega) (by omega)]
      refine g_lstore (lv' := [(13, .long (lN (p % r))), (11, .long (lN r)), (9, .long (lN p)), (7, .long (lN w)), (5, .long (lN u)), (0, .ref 80)]) dX12_smear_202 (by decide) rfl ?_
      refine g_lload dX12_smear_204 rfl ?_
      refine g_lstore (lv' := [(9, .long (lN r)), (13, .long (lN (p % r))), (11, .long (lN r)), (7, .long (lN w)), (5, .long (lN u)), (0, .ref 80)]) dX12_smear_206 (by decide) rfl ?_
      refine g_lload dX12_smear_208 rfl ?_
      refine g_lstore (lv' := [(11, .long (lN (p % r))), (9, .long (lN r)), (13, .long (lN (p % r))), (7, .long (lN w)), (5, .long (lN u)), (0, .ref 80)]) dX12_smear_210 (by decide) rfl ?_
      refine g_goto 190 dX12_smear_212 (by decide) ?_
      exact (ih (p % r) (Nat.mod_lt _ (by omega)) r u w hr (Nat.lt_of_lt_of_le (Nat.mod_lt p (show r > 0 by omega)) (by omega)) (fun _ => by omega) hu hw S hJ).lv (zs_mc 0 rfl (zs_mc 1 rfl (zs_mc 3 rfl (zs_mc 4 rfl (zs_mc 5 rfl zs_mn)))))
set_option maxRecDepth 100000 in
theorem y_smear_i (e x n c : Nat) (he : e ≤ 4) (hx : x ≤ 9) (hn : n ≤ 6) (hc : c ≤ 10) (q w u : Nat) (hq : q < 2 ^ n) (hw : w ≤ q * 1000000) (hu : u ≤ q * 1000000) (hi1 : c < 10 → 1 ≤ q → 1 ≤ w) (hk : (∀ w' u', w' ≤ (q + 1) * 1000000 → u' ≤ (q + 1) * 1000000 → (c < 10 → 1 ≤ q + 1 → 1 ≤ w') → (c = 10 → q + 1 = 2 ^ n → 1 ≤ w') → zs_V MX12_smear 59 [(9, .int (nI (q + 1))), (7, .long (lN w')), (5, .long (lN u')), (0, .ref 80), (1, .int (nI e)), (2, .int (nI x)), (3, .int (nI n)), (4, .int (nI c))] [] zs_Ri)) : ∀ (d j : Nat), j + d = n → ∀ g, g ≤ 10 ^ j → (((c < 10 ∧ q = 0) ∨ (c = 10 ∧ q = 2 ^ n - 1)) → 1 ≤ g) → zs_V MX12_smear 77 [(12, .int (nI j)), (10, .long (lN g)), (9, .int (nI q)), (7, .long (lN w)), (5, .long (lN u)), (0, .ref 80), (1, .int (nI e)), (2, .int (nI x)), (3, .int (nI n)), (4, .int (nI c))] [] zs_Ri := by
  have h64 := zs_p2 n (by omega)
  have h106 := zs_p10 n (by omega)
  intro d
  induction d with
  | zero =>
    intro j hj g hg hP S hJ
    obtain rfl : n = j := by omega
    have hP1 : c < 10 → q = 0 → 1 ≤ g := fun z1 z2 => hP (Or.inl ⟨z1, z2⟩)
    have hP2 : c = 10 → q + 1 = 2 ^ n → 1 ≤ g := fun z1 z2 => hP (Or.inr ⟨z1, by omega⟩)
    refine g_iload dX12_smear_77 rfl ?_
    refine g_iload_n dX12_smear_79 rfl rfl ?_
    refine g_ic_geN 144 dX12_smear_80 (by decide) (by omega) (by omega) (fun _ => ?_) (fun z => absurd z (by omega))
    refine g_lload dX12_smear_144 rfl ?_
    refine g_lload dX12_smear_146 rfl ?_
    refine g_ladd dX12_smear_148 ?_
    rw [lN_add]
    refine g_lstore (lv' := [(7, .long (lN (w + g))), (12, .int (nI n)), (10, .long (lN g)), (9, .int (nI q)), (5, .long (lN u)), (0, .ref 80), (1, .int (nI e)), (2, .int (nI x)), (3, .int (nI n)), (4, .int (nI c))]) dX12_smear_149 (by decide) rfl ?_
    refine g_lload dX12_smear_151 rfl ?_
    refine g_aload_n dX12_smear_153 rfl rfl ?_
    refine g_getR 0 (81) (C := RX12) (T := TX12) (N := 19) dX12_smear_154 (by decide) rfl rfl (by decide) rfl fl_RX12_7 ?_
    refine g_sipush (v := (nI 690)) dX12_smear_157 rfl ?_
    refine g_iload_n dX12_smear_160 rfl rfl ?_
    refine g_iaddN dX12_smear_161 ?_
    refine g_ialdN (v := (S.1 81 (690 + e))) dX12_smear_162 (by decide) rfl (by omega) (by decide) rfl ?_
    refine g_iload_n dX12_smear_163 rfl rfl ?_
    refine g_ic_ne 172 dX12_smear_164 (by decide) (fun h1 => ?_) (fun h1 => ?_)
    · refine g_lconst (v := 0) dX12_smear_172 (by decide) ?_
      refine g_ladd dX12_smear_173 ?_
      rw [show (0 : Int64) = lN 0 from rfl, lN_add]
      refine g_lstore (lv' := [(5, .long (lN (u + 0))), (7, .long (lN (w + g))), (12, .int (nI n)), (10, .long (lN g)), (9, .int (nI q)), (0, .ref 80), (1, .int (nI e)), (2, .int (nI x)), (3, .int (nI n)), (4, .int (nI c))]) dX12_smear_174 (by decide) rfl ?_
      refine g_iinc (v := (nI (q + 1))) (lv' := [(9, .int (nI (q + 1))), (5, .long (lN (u + 0))), (7, .long (lN (w + g))), (12, .int (nI n)), (10, .long (lN g)), (0, .ref 80), (1, .int (nI e)), (2, .int (nI x)), (3, .int (nI n)), (4, .int (nI c))]) dX12_smear_176 rfl (nI_1 q) (by decide) rfl ?_
      refine g_goto 59 dX12_smear_179 (by decide) ?_
      exact zs_Vlv (hk (w + g) (u + 0) (by omega) (Nat.le_trans hu (Nat.mul_le_mul_right _ (Nat.le_succ _))) (by omega) (by omega)) (zs_mc 0 rfl (zs_mc 2 rfl (zs_mc 1 rfl (zs_mc 5 rfl (zs_mc 6 rfl (zs_mc 7 rfl (zs_mc 8 rfl (zs_mc 9 rfl zs_mn)))))))) S hJ
    · refine g_lload dX12_smear_167 rfl ?_
      refine g_goto 173 dX12_smear_169 (by decide) ?_
      refine g_ladd dX12_smear_173 ?_
      rw [lN_add]
      refine g_lstore (lv' := [(5, .long (lN (u + g))), (7, .long (lN (w + g))), (12, .int (nI n)), (10, .long (lN g)), (9, .int (nI q)), (0, .ref 80), (1, .int (nI e)), (2, .int (nI x)), (3, .int (nI n)), (4, .int (nI c))]) dX12_smear_174 (by decide) rfl ?_
      refine g_iinc (v := (nI (q + 1))) (lv' := [(9, .int (nI (q + 1))), (5, .long (lN (u + g))), (7, .long (lN (w + g))), (12, .int (nI n)), (10, .long (lN g)), (0, .ref 80), (1, .int (nI e)), (2, .int (nI x)), (3, .int (nI n)), (4, .int (nI c))]) dX12_smear_176 rfl (nI_1 q) (by decide) rfl ?_
      refine g_goto 59 dX12_smear_179 (by decide) ?_
      exact zs_Vlv (hk (w + g) (u + g) (by omega) (by omega) (by omega) (by omega)) (zs_mc 0 rfl (zs_mc 2 rfl (zs_mc 1 rfl (zs_mc 5 rfl (zs_mc 6 rfl (zs_mc 7 rfl (zs_mc 8 rfl (zs_mc 9 rfl zs_mn)))))))) S hJ
  | succ d ih =>
    intro j hj g hg hP
    have ih : ∀ j', j' + d = n → ∀ g, g ≤ 10 ^ j' → (((c < 10 ∧ q = 0) ∨ (c = 10 ∧ q = 2 ^ n - 1)) → 1 ≤ g) → zs_V MX12_smear 77 [(12, .int (nI j')), (10, .long (lN g)), (9, .int (nI q)), (7, .long (lN w)), (5, .long (lN u)), (0, .ref 80), (1, .int (nI e)), (2, .int (nI x)), (3, .int (nI n)), (4, .int (nI c))] [] zs_Ri := ih
    intro S hJ
    obtain ⟨st, -, hst, h3⟩ := hJ.1 81 2 0 11 rfl
    refine g_iload dX12_smear_77 rfl ?_
    refine g_iload_n dX12_smear_79 rfl rfl ?_
    refine g_ic_geN 144 dX12_smear_80 (by decide) (by omega) (by omega) (fun z => absurd z (by omega)) (fun _ => ?_)
    refine g_lload dX12_smear_83 rfl ?_
    refine g_iload dX12_smear_85 rfl ?_
    refine g_iload dX12_smear_87 rfl ?_
    refine g_callS [.int (nI q), .int (nI j)] [.long (lN g)] (z_has S (nI q) (nI j)) dX12_smear_89 kk_X12_smear_X12_has ml_RX12_215 swX12_has rfl rfl (Nat.le_of_ble_eq_true rfl) ?_
    rintro _ _ ⟨_, rfl, rfl, rfl⟩
    refine g_if_eq 101 dX12_smear_92 (by decide) (fun h1 => ?_) (fun h1 => ?_)
    · have h1 := zs_b0 h1
      refine g_bipush (v := (nI 10)) dX12_smear_101 rfl ?_
      refine g_iload dX12_smear_103 rfl ?_
      refine g_isubN dX12_smear_105 (by omega) ?_
      refine g_i2l dX12_smear_106 rfl ?_
      rw [nI_l (show 10 - c < 2 ^ 31 by omega)]
      refine g_lmul dX12_smear_107 ?_
      rw [lN_mul]
      refine g_lstore (lv' := [(10, .long (lN (g * (10 - c)))), (12, .int (nI j)), (9, .int (nI q)), (7, .long (lN w)), (5, .long (lN u)), (0, .ref 80), (1, .int (nI e)), (2, .int (nI x)), (3, .int (nI n)), (4, .int (nI c))]) dX12_smear_108 (by decide) rfl ?_
      refine g_aload_n dX12_smear_110 rfl rfl ?_
      refine g_sipush (v := (nI 675)) dX12_smear_111 rfl ?_
      refine g_aload_n dX12_smear_114 rfl rfl ?_
      refine g_getR 0 (81) (C := RX12) (T := TX12) (N := 19) dX12_smear_115 (by decide) rfl rfl (by decide) rfl fl_RX12_7 ?_
      refine g_iconst (v := (nI 2)) dX12_smear_118 rfl ?_
      refine g_ialdN (v := (nI st)) dX12_smear_119 (by decide) rfl (by omega) (by decide) h3 ?_
      refine g_iload dX12_smear_120 rfl ?_
      refine g_iload dX12_smear_122 rfl ?_
      refine g_callS [.int (nI q), .int (nI j)] [.int (nI st), .int (nI 675), .ref 80] (z_has S (nI q) (nI j)) dX12_smear_124 kk_X12_smear_X12_has ml_RX12_215 swX12_has rfl rfl (Nat.le_of_ble_eq_true rfl) ?_
      rintro _ _ ⟨_, rfl, rfl, rfl⟩
      refine g_if_ne 134 dX12_smear_127 (by decide) (fun h2 => ?_) (fun h2 => ?_)
      · have h2 := zs_b1 h2
        refine g_iconst (v := (nI 0)) dX12_smear_134 rfl ?_
        refine g_callV (T := TX12) (NN := 19) [] (y_X12_flash_675 st (by omega) (by omega) (nI 0) S hJ) dX12_smear_135 kk_X12_smear_X12_flash ml_RX12_132 mwX12_flash ewX12_flash (by decide) rfl rfl rfl rfl (Nat.le_of_ble_eq_true rfl) ?_
        rintro _ S3 ⟨rfl, jS3, fS3⟩
        refine g_iinc (v := (nI (j + 1))) (lv' := [(12, .int (nI (j + 1))), (10, .long (lN (g * (10 - c)))), (9, .int (nI q)), (7, .long (lN w)), (5, .long (lN u)), (0, .ref 80), (1, .int (nI e)), (2, .int (nI x)), (3, .int (nI n)), (4, .int (nI c))]) dX12_smear_138 rfl (nI_1 j) (by decide) rfl ?_
        refine g_goto 77 dX12_smear_141 (by decide) ?_
        refine zs_Vfr (zs_Vlv (ih (j + 1) (by omega) (g * (10 - c)) ?_ (fun z => Nat.mul_le_mul (hP z) (zs_fd hn (by omega) h1 z))) (zs_mc 0 rfl (zs_mc 1 rfl (zs_mc 2 rfl (zs_mc 3 rfl (zs_mc 4 rfl (zs_mc 5 rfl (zs_mc 6 rfl (zs_mc 7 rfl (zs_mc 8 rfl (zs_mc 9 rfl zs_mn))))))))))) jS3 ((zs_fm.rf).tr fS3)
        rw [Nat.pow_succ]; exact Nat.mul_le_mul hg (by omega)
      · have h2 := zs_b0 h2
        refine g_iconst (v := (nI 1)) dX12_smear_130 rfl ?_
        refine g_goto 135 dX12_smear_131 (by decide) ?_
        refine g_callV (T := TX12) (NN := 19) [] (y_X12_flash_675 st (by omega) (by omega) (nI 1) S hJ) dX12_smear_135 kk_X12_smear_X12_flash ml_RX12_132 mwX12_flash ewX12_flash (by decide) rfl rfl rfl rfl (Nat.le_of_ble_eq_true rfl) ?_
        rintro _ S4 ⟨rfl, jS4, fS4⟩
        refine g_iinc (v := (nI (j + 1))) (lv' := [(12, .int (nI (j + 1))), (10, .long (lN (g * (10 - c)))), (9, .int (nI q)), (7, .long (lN w)), (5, .long (lN u)), (0, .ref 80), (1, .int (nI e)), (2, .int (nI x)), (3, .int (nI n)), (4, .int (nI c))]) dX12_smear_138 rfl (nI_1 j) (by decide) rfl ?_
        refine g_goto 77 dX12_smear_141 (by decide) ?_
        refine zs_Vfr (zs_Vlv (ih (j + 1) (by omega) (g * (10 - c)) ?_ (fun z => Nat.mul_le_mul (hP z) (zs_fd hn (by omega) h1 z))) (zs_mc 0 rfl (zs_mc 1 rfl (zs_mc 2 rfl (zs_mc 3 rfl (zs_mc 4 rfl (zs_mc 5 rfl (zs_mc 6 rfl (zs_mc 7 rfl (zs_mc 8 rfl (zs_mc 9 rfl zs_mn))))))))))) jS4 ((zs_fm.rf).tr fS4)
        rw [Nat.pow_succ]; exact Nat.mul_le_mul hg (by omega)
    · have h1 := zs_b1 h1
      refine g_iload dX12_smear_95 rfl ?_
      refine g_i2l dX12_smear_97 rfl ?_
      refine g_goto 107 dX12_smear_98 (by decide) ?_
      rw [nI_l (show c < 2 ^ 31 by omega)]
      refine g_lmul dX12_smear_107 ?_
      rw [lN_mul]
      refine g_lstore (lv' := [(10, .long (lN (g * c))), (12, .int (nI j)), (9, .int (nI q)), (7, .long (lN w)), (5, .long (lN u)), (0, .ref 80), (1, .int (nI e)), (2, .int (nI x)), (3, .int (nI n)), (4, .int (nI c))]) dX12_smear_108 (by decide) rfl ?_
      refine g_aload_n dX12_smear_110 rfl rfl ?_
      refine g_sipush (v := (nI 675)) dX12_smear_111 rfl ?_
      refine g_aload_n dX12_smear_114 rfl rfl ?_
      refine g_getR 0 (81) (C := RX12) (T := TX12) (N := 19) dX12_smear_115 (by decide) rfl rfl (by decide) rfl fl_RX12_7 ?_
      refine g_iconst (v := (nI 2)) dX12_smear_118 rfl ?_
      refine g_ialdN (v := (nI st)) dX12_smear_119 (by decide) rfl (by omega) (by decide) h3 ?_
      refine g_iload dX12_smear_120 rfl ?_
      refine g_iload dX12_smear_122 rfl ?_
      refine g_callS [.int (nI q), .int (nI j)] [.int (nI st), .int (nI 675), .ref 80] (z_has S (nI q) (nI j)) dX12_smear_124 kk_X12_smear_X12_has ml_RX12_215 swX12_has rfl rfl (Nat.le_of_ble_eq_true rfl) ?_
      rintro _ _ ⟨_, rfl, rfl, rfl⟩
      refine g_if_ne 134 dX12_smear_127 (by decide) (fun h5 => ?_) (fun h5 => ?_)
      · have h5 := zs_b1 h5
        refine g_iconst (v := (nI 0)) dX12_smear_134 rfl ?_
        refine g_callV (T := TX12) (NN := 19) [] (y_X12_flash_675 st (by omega) (by omega) (nI 0) S hJ) dX12_smear_135 kk_X12_smear_X12_flash ml_RX12_132 mwX12_flash ewX12_flash (by decide) rfl rfl rfl rfl (Nat.le_of_ble_eq_true rfl) ?_
        rintro _ S6 ⟨rfl, jS6, fS6⟩
        refine g_iinc (v := (nI (j + 1))) (lv' := [(12, .int (nI (j + 1))), (10, .long (lN (g * c))), (9, .int (nI q)), (7, .long (lN w)), (5, .long (lN u)), (0, .ref 80), (1, .int (nI e)), (2, .int (nI x)), (3, .int (nI n)), (4, .int (nI c))]) dX12_smear_138 rfl (nI_1 j) (by decide) rfl ?_
        refine g_goto 77 dX12_smear_141 (by decide) ?_
        refine zs_Vfr (zs_Vlv (ih (j + 1) (by omega) (g * c) ?_ (fun z => Nat.mul_le_mul (hP z) (zs_fc hn (by omega) h1 z))) (zs_mc 0 rfl (zs_mc 1 rfl (zs_mc 2 rfl (zs_mc 3 rfl (zs_mc 4 rfl (zs_mc 5 rfl (zs_mc 6 rfl (zs_mc 7 rfl (zs_mc 8 rfl (zs_mc 9 rfl zs_mn))))))))))) jS6 ((zs_fm.rf).tr fS6)
        rw [Nat.pow_succ]; exact Nat.mul_le_mul hg (by omega)
      · have h5 := zs_b0 h5
        refine g_iconst (v := (nI 1)) dX12_smear_130 rfl ?_
        refine g_goto 135 dX12_smear_131 (by decide) ?_
        refine g_callV (T := TX12) (NN := 19) [] (y_X12_flash_675 st (by omega) (by omega) (nI 1) S hJ) dX12_smear_135 kk_X12_smear_X12_flash ml_RX12_132 mwX12_flash ewX12_flash (by decide) rfl rfl rfl rfl (Nat.le_of_ble_eq_true rfl) ?_
        rintro _ S7 ⟨rfl, jS7, fS7⟩
        refine g_iinc (v := (nI (j + 1))) (lv' := [(12, .int (nI (j + 1))), (10, .long (lN (g * c))), (9, .int (nI q)), (7, .long (lN w)), (5, .long (lN u)), (0, .ref 80), (1, .int (nI e)), (2, .int (nI x)), (3, .int (nI n)), (4, .int (nI c))]) dX12_smear_138 rfl (nI_1 j) (by decide) rfl ?_
        refine g_goto 77 dX12_smear_141 (by decide) ?_
        refine zs_Vfr (zs_Vlv (ih (j + 1) (by omega) (g * c) ?_ (fun z => Nat.mul_le_mul (hP z) (zs_fc hn (by omega) h1 z))) (zs_mc 0 rfl (zs_mc 1 rfl (zs_mc 2 rfl (zs_mc 3 rfl (zs_mc 4 rfl (zs_mc 5 rfl (zs_mc 6 rfl (zs_mc 7 rfl (zs_mc 8 rfl (zs_mc 9 rfl zs_mn))))))))))) jS7 ((zs_fm.rf).tr fS7)
        rw [Nat.pow_succ]; exact Nat.mul_le_mul hg (by omega)
set_option maxRecDepth 100000 in
theorem y_smear_o (e x n c : Nat) (he : e ≤ 4) (hx : x ≤ 9) (hn : n ≤ 6) (hc : c ≤ 10) : ∀ (d q : Nat), q + d = 2 ^ n → ∀ w u, w ≤ q * 1000000 → u ≤ q * 1000000 → (c < 10 → 1 ≤ q → 1 ≤ w) → (c = 10 → q = 2 ^ n → 1 ≤ w) → zs_V MX12_smear 59 [(9, .int (nI q)), (7, .long (lN w)), (5, .long (lN u)), (0, .ref 80), (1, .int (nI e)), (2, .int (nI x)), (3, .int (nI n)), (4, .int (nI c))] [] zs_Ri := by
  have h64 := zs_p2 n (by omega)
  intro d
  induction d with
  | zero =>
    intro q hq w u hw hu hi1 hi2 S hJ
    have hw1 : 1 ≤ w := by
      rcases Nat.lt_or_ge c 10 with z | z
      · exact hi1 z (by omega)
      · exact hi2 (by omega) (by omega)
    refine g_iload dX12_smear_59 rfl ?_
    refine g_iconst (v := (nI 1)) dX12_smear_61 rfl ?_
    refine g_iload_n dX12_smear_62 rfl rfl ?_
    refine g_ishl dX12_smear_63 ?_
    rw [zs_sh1 n (by omega)]
    refine g_ic_geN 182 dX12_smear_64 (by decide) (by omega) (by omega) (fun _ => ?_) (fun z => absurd z (by omega))
    refine g_lload dX12_smear_182 rfl ?_
    refine g_lstore (lv' := [(9, .long (lN u)), (7, .long (lN w)), (5, .long (lN u)), (0, .ref 80), (1, .int (nI e)), (2, .int (nI x)), (3, .int (nI n)), (4, .int (nI c))]) dX12_smear_184 (by decide) rfl ?_
    refine g_lload dX12_smear_186 rfl ?_
    refine g_lstore (lv' := [(11, .long (lN w)), (9, .long (lN u)), (7, .long (lN w)), (5, .long (lN u)), (0, .ref 80), (1, .int (nI e)), (2, .int (nI x)), (3, .int (nI n)), (4, .int (nI c))]) dX12_smear_188 (by decide) rfl ?_
    exact zs_Vlv (y_smear_g w u u w (by omega) (by omega) (fun z => absurd z (by omega)) (by omega) (by omega)) (zs_mc 0 rfl (zs_mc 1 rfl (zs_mc 2 rfl (zs_mc 3 rfl (zs_mc 4 rfl zs_mn))))) S hJ
  | succ d ih =>
    intro q hq w u hw hu hi1 hi2
    have ih : ∀ q', q' + d = 2 ^ n → ∀ w u, w ≤ q' * 1000000 → u ≤ q' * 1000000 → (c < 10 → 1 ≤ q' → 1 ≤ w) → (c = 10 → q' = 2 ^ n → 1 ≤ w) → zs_V MX12_smear 59 [(9, .int (nI q')), (7, .long (lN w)), (5, .long (lN u)), (0, .ref 80), (1, .int (nI e)), (2, .int (nI x)), (3, .int (nI n)), (4, .int (nI c))] [] zs_Ri := ih
    intro S hJ
    refine g_iload dX12_smear_59 rfl ?_
    refine g_iconst (v := (nI 1)) dX12_smear_61 rfl ?_
    refine g_iload_n dX12_smear_62 rfl rfl ?_
    refine g_ishl dX12_smear_63 ?_
    rw [zs_sh1 n (by omega)]
    refine g_ic_geN 182 dX12_smear_64 (by decide) (by omega) (by omega) (fun z => absurd z (by omega)) (fun _ => ?_)
    refine g_aload_n dX12_smear_67 rfl rfl ?_
    refine g_callV (T := TX12) (NN := 19) [] (y_X12_tries S hJ) dX12_smear_68 kk_X12_smear_X12_tries ml_RX12_188 mwX12_tries ewX12_tries (by decide) rfl rfl rfl rfl (Nat.le_of_ble_eq_true rfl) ?_
    rintro _ S1 ⟨rfl, jS1, fS1⟩
    refine g_lconst (v := lN 1) dX12_smear_71 rfl ?_
    refine g_lstore (lv' := [(10, .long 1), (9, .int (nI q)), (7, .long (lN w)), (5, .long (lN u)), (0, .ref 80), (1, .int (nI e)), (2, .int (nI x)), (3, .int (nI n)), (4, .int (nI c))]) dX12_smear_72 (by decide) rfl ?_
    refine g_iconst (v := (nI 0)) dX12_smear_74 rfl ?_
    refine g_istore (lv' := [(12, .int (nI 0)), (10, .long (lN 1)), (9, .int (nI q)), (7, .long (lN w)), (5, .long (lN u)), (0, .ref 80), (1, .int (nI e)), (2, .int (nI x)), (3, .int (nI n)), (4, .int (nI c))]) dX12_smear_75 (by decide) rfl ?_
    refine zs_Vfr (zs_Vlv (y_smear_i e x n c he hx hn hc q w u (by omega) hw hu hi1 (fun w9 u9 a1 a2 a3 a4 => ih (q + 1) (by omega) w9 u9 a1 a2 a3 a4) n 0 (by omega) 1 (Nat.le_refl _) (fun _ => Nat.le_refl _)) (zs_mc 0 rfl (zs_mc 1 rfl (zs_mc 2 rfl (zs_mc 3 rfl (zs_mc 4 rfl (zs_mc 5 rfl (zs_mc 6 rfl (zs_mc 7 rfl (zs_mc 8 rfl (zs_mc 9 rfl zs_mn))))))))))) jS1 ((zs_fm.rf).tr fS1)
set_option maxRecDepth 100000 in
theorem y_X12_smear (a1 : Int32) (a2 : Int32) (a3 : Int32) (a4 : Int32) : zs_U MX12_smear [.ref 80, .int a1, .int a2, .int a3, .int a4] zs_Ri := by
  refine zs_Vof (by decide) (Nat.le_of_ble_eq_true rfl) ?_
  show zs_V MX12_smear 0 [(0, .ref 80), (1, .int a1), (2, .int a2), (3, .int a3), (4, .int a4)] [] zs_Ri
  refine n_aload_n dX12_smear_0 rfl rfl ?_
  refine n_iload_n dX12_smear_1 rfl rfl ?_
  refine n_callV (T := TX12) (NN := 19) [] (y_isEye a1) dX12_smear_2 kk_X12_smear_X12_isEye ml_RX12_185 mwX12_isEye ewX12_isEye (by decide) rfl rfl rfl rfl (Nat.le_of_ble_eq_true rfl) ?_
  rintro _ ⟨x1, rfl, bx1, fx1⟩
  refine n_if_eq 45 dX12_smear_5 (by decide) (fun h2 => ?_) (fun h2 => ?_)
  · refine n_aload_n dX12_smear_45 rfl rfl ?_
    refine n_callV (T := TX12) (NN := 19) [] (y_X12_bad) dX12_smear_46 kk_X12_smear_X12_bad ml_RX12_62 mwX12_bad ewX12_bad (by decide) rfl rfl rfl rfl (Nat.le_of_ble_eq_true rfl) ?_
    rintro _ ⟨x3, rfl⟩
    exact n_iret dX12_smear_49 rfl rfl ⟨_, rfl⟩
  · obtain ⟨k4, uk4, rfl⟩ := fx1 h2
    refine n_iload_n dX12_smear_8 rfl rfl ?_
    refine n_i2l dX12_smear_9 ?_
    refine n_lconst (v := 0) dX12_smear_10 (by decide) ?_
    refine n_ldc2 (v := 9) dX12_smear_11 cl_RX12_121 ?_
    refine n_callS [.long (Int32.toInt64 a2), .long 0, .long 9] [] (y_in (Int32.toInt64 a2) 0 9) dX12_smear_14 kk_X12_smear_X12_in ml_RX12_54 swX12_in rfl rfl (Nat.le_of_ble_eq_true rfl) ?_
    rintro _ ⟨x5, rfl, bx5, fx5⟩
    refine n_if_eq 45 dX12_smear_17 (by decide) (fun h6 => ?_) (fun h6 => ?_)
    · refine n_aload_n dX12_smear_45 rfl rfl ?_
      refine n_callV (T := TX12) (NN := 19) [] (y_X12_bad) dX12_smear_46 kk_X12_smear_X12_bad ml_RX12_62 mwX12_bad ewX12_bad (by decide) rfl rfl rfl rfl (Nat.le_of_ble_eq_true rfl) ?_
      rintro _ ⟨x7, rfl⟩
      exact n_iret dX12_smear_49 rfl rfl ⟨_, rfl⟩
    · obtain ⟨k8, lk8, uk8, rfl⟩ := zs_inR (lo := 0) (hi := 9) (fx5 h6) (by decide) (by decide)
      refine n_iload_n dX12_smear_20 rfl rfl ?_
      refine n_i2l dX12_smear_21 ?_
      refine n_lconst (v := 0) dX12_smear_22 (by decide) ?_
      refine n_ldc2 (v := 6) dX12_smear_23 cl_RX12_225 ?_
      refine n_callS [.long (Int32.toInt64 a3), .long 0, .long 6] [] (y_in (Int32.toInt64 a3) 0 6) dX12_smear_26 kk_X12_smear_X12_in ml_RX12_54 swX12_in rfl rfl (Nat.le_of_ble_eq_true rfl) ?_
      rintro _ ⟨x9, rfl, bx9, fx9⟩
      refine n_if_eq 45 dX12_smear_29 (by decide) (fun h10 => ?_) (fun h10 => ?_)
      · refine n_aload_n dX12_smear_45 rfl rfl ?_
        refine n_callV (T := TX12) (NN := 19) [] (y_X12_bad) dX12_smear_46 kk_X12_smear_X12_bad ml_RX12_62 mwX12_bad ewX12_bad (by decide) rfl rfl rfl rfl (Nat.le_of_ble_eq_true rfl) ?_
        rintro _ ⟨x11, rfl⟩
        exact n_iret dX12_smear_49 rfl rfl ⟨_, rfl⟩
      · obtain ⟨k12, lk12, uk12, rfl⟩ := zs_inR (lo := 0) (hi := 6) (fx9 h10) (by decide) (by decide)
        refine n_iload dX12_smear_32 rfl ?_
        refine n_i2l dX12_smear_34 ?_
        refine n_lconst (v := 0) dX12_smear_35 (by decide) ?_
        refine n_ldc2 (v := 10) dX12_smear_36 cl_RX12_227 ?_
        refine n_callS [.long (Int32.toInt64 a4), .long 0, .long 10] [] (y_in (Int32.toInt64 a4) 0 10) dX12_smear_39 kk_X12_smear_X12_in ml_RX12_54 swX12_in rfl rfl (Nat.le_of_ble_eq_true rfl) ?_
        rintro _ ⟨x13, rfl, bx13, fx13⟩
        refine n_if_ne 50 dX12_smear_42 (by decide) (fun h14 => ?_) (fun h14 => ?_)
        · obtain ⟨k15, lk15, uk15, rfl⟩ := zs_inR (lo := 0) (hi := 10) (fx13 h14) (by decide) (by decide)
          intro S hJ
          refine g_lconst (v := lN 0) dX12_smear_50 rfl ?_
          refine g_lstore (lv' := [(5, .long (lN 0)), (0, .ref 80), (1, .int (nI k4)), (2, .int (nI k8)), (3, .int (nI k12)), (4, .int (nI k15))]) dX12_smear_51 (by decide) rfl ?_
          refine g_lconst (v := lN 0) dX12_smear_53 rfl ?_
          refine g_lstore (lv' := [(7, .long (lN 0)), (5, .long (lN 0)), (0, .ref 80), (1, .int (nI k4)), (2, .int (nI k8)), (3, .int (nI k12)), (4, .int (nI k15))]) dX12_smear_54 (by decide) rfl ?_
          refine g_iconst (v := (nI 0)) dX12_smear_56 rfl ?_
          refine g_istore (lv' := [(9, .int (nI 0)), (7, .long (lN 0)), (5, .long (lN 0)), (0, .ref 80), (1, .int (nI k4)), (2, .int (nI k8)), (3, .int (nI k12)), (4, .int (nI k15))]) dX12_smear_57 (by decide) rfl ?_
          exact zs_Vlv (y_smear_o k4 k8 k12 k15 (by omega) (by omega) (by omega) (by omega) (2 ^ k12) 0 (Nat.zero_add _) 0 0 (Nat.zero_le _) (Nat.zero_le _) (fun _ z => absurd z (by omega)) (fun _ z => absurd z (by have := zs_p2 k12 (by omega); omega))) (zs_mc 0 rfl (zs_mc 1 rfl (zs_mc 2 rfl (zs_mc 3 rfl (zs_mc 4 rfl (zs_mc 5 rfl (zs_mc 6 rfl (zs_mc 7 rfl zs_mn)))))))) S hJ
        · refine n_aload_n dX12_smear_45 rfl rfl ?_
          refine n_callV (T := TX12) (NN := 19) [] (y_X12_bad) dX12_smear_46 kk_X12_smear_X12_bad ml_RX12_62 mwX12_bad ewX12_bad (by decide) rfl rfl rfl rfl (Nat.le_of_ble_eq_true rfl) ?_
          rintro _ ⟨x16, rfl⟩
          exact n_iret dX12_smear_49 rfl rfl ⟨_, rfl⟩
