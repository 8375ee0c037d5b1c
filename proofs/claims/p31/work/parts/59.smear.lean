def zs_R1 : Option Value → Prop := fun v => v = some (.int (nI 1))
theorem zs_eyk {e ey : Int32} {m : Nat} (h : nI 0 ≤ e ∧ e ≤ ey - nI 1) (he : ey = nI m) (hm : m ≤ 5) : ∃ k, k ≤ 4 ∧ k < m ∧ e = nI k := by
  subst he
  obtain ⟨h1, h2⟩ := h
  have e1 : (nI m - nI 1).toInt = (m : Int) - 1 := by
    rw [Int32.toInt_sub, nI_toInt (by omega), nI_toInt (by omega), Int.bmod_eq_of_le (by omega) (by omega)]
    rfl
  rw [Int32.le_iff_toInt_le, nI_toInt (by omega)] at h1
  rw [Int32.le_iff_toInt_le, e1] at h2
  have h3 : 1 ≤ m := by omega
  obtain ⟨k, -, hk, rfl⟩ := zs_rng (v := e) (lo := 0) (hi := m - 1) ⟨by rw [Int32.le_iff_toInt_le, nI_toInt (by omega)]; exact h1, by rw [Int32.le_iff_toInt_le, nI_toInt (by omega)]; omega⟩ (by omega)
  exact ⟨k, by omega, by omega, rfl⟩
set_option maxRecDepth 100000 in
theorem u_smear43 (a1 a2 a3 a4 : Int32) : zs_W_W MX11_smear 43 [(0, .ref 0), (1, .int a1), (2, .int a2), (3, .int a3), (4, .int a4)] [] zs_R1 := by
  have j84 : ∀ (n84 : Nat) (v1 : Int32) (v2 : Int32) (v3 : Int32) (v4 : Int32) (v5 : Int64) (c84 : Int32), zs_mu c84 < n84 → zs_W_W MX11_smear 84 [(0, .ref 0), (1, .int v1), (2, .int v2), (3, .int v3), (4, .int v4), (5, .long v5), (7, .int c84)] [] zs_R1 := by
    intro n84
    induction n84 with
    | zero => intro v1 v2 v3 v4 v5 c84 hn84; exact absurd hn84 (Nat.not_lt_zero _)
    | succ n84 ih84 =>
      intro v1 v2 v3 v4 v5 c84 hn84
      refine h_iload_W dX11_smear_84 rfl ?_
      refine h_iload_n_W dX11_smear_86 rfl rfl ?_
      refine h_ic_ge_W 146 dX11_smear_87 (by decide) (fun h1 => ?_) (fun h1 => ?_)
      · refine h_aload_n_W dX11_smear_146 rfl rfl ?_
        refine h_aload_n_W dX11_smear_147 rfl rfl ?_
        refine h_getR_W 15 75 (C := RX11) (T := TX11) (N := 18) dX11_smear_148 (by decide) rfl rfl (by decide) rfl fl_RX11_64 ?_
        refine h_iload_n_W dX11_smear_151 rfl rfl ?_
        refine h_callV_W (T := TX7) (NN := 2) [.ref 0] (v_X7_weightOf_75_W v2) dX11_smear_152 kk_X11_smear_X7_weightOf ml_RX11_283 mwX7_weightOf ewX7_weightOf (by decide) rfl rfl rfl rfl (Nat.le_of_ble_eq_true rfl) ?_
        rintro _ ⟨x2, rfl⟩
        refine h_i2l_W dX11_smear_155 (fun x3 => ?_)
        refine h_lload_W dX11_smear_156 rfl ?_
        refine h_callV_W (T := TX11) (NN := 18) [] (v_X11_keepFraction_0_W x3 v5) dX11_smear_158 kk_X11_smear_X11_keepFraction ml_RX11_286 mwX11_keepFraction ewX11_keepFraction (by decide) rfl rfl rfl rfl (Nat.le_of_ble_eq_true rfl) ?_
        rintro _ rfl
        refine h_iconst_W (v := (nI 1)) dX11_smear_161 rfl ?_
        exact h_iret_W dX11_smear_162 rfl rfl rfl
      · have hd84 := zs_muA h1 hn84
        refine h_aload_n_W dX11_smear_90 rfl rfl ?_
        refine h_getR_W 0 1 (C := RX11) (T := TX11) (N := 18) dX11_smear_91 (by decide) rfl rfl (by decide) rfl fl_RX11_10 ?_
        refine h_aload_n_W dX11_smear_94 rfl rfl ?_
        refine h_getR_W 11 63 (C := RX11) (T := TX11) (N := 18) dX11_smear_95 (by decide) rfl rfl (by decide) rfl fl_RX11_36 ?_
        refine h_callV_W (T := TX6) (NN := 9) [] (v_X6_flash_1_63_W) dX11_smear_98 kk_X11_smear_X6_flash ml_RX11_201 mwX6_flash ewX6_flash (by decide) rfl rfl rfl rfl (Nat.le_of_ble_eq_true rfl) ?_
        rintro _ rfl
        refine h_aload_n_W dX11_smear_101 rfl rfl ?_
        refine h_getR_W 15 75 (C := RX11) (T := TX11) (N := 18) dX11_smear_102 (by decide) rfl rfl (by decide) rfl fl_RX11_64 ?_
        refine h_aload_n_W dX11_smear_105 rfl rfl ?_
        refine h_getR_W 0 1 (C := RX11) (T := TX11) (N := 18) dX11_smear_106 (by decide) rfl rfl (by decide) rfl fl_RX11_10 ?_
        refine h_getR_W 3 2 (C := RX6) (T := TX6) (N := 9) dX11_smear_109 (by decide) rfl rfl (by decide) rfl fl_RX11_185 ?_
        refine h_iload_n_W dX11_smear_112 rfl rfl ?_
        refine h_callS_W [.ref 2, .int v1] [.ref 75] (v_cell_W 2 5 v1 (by decide) rfl (by decide)) dX11_smear_113 kk_X11_smear_X11_cell ml_RX11_168 swX11_cell rfl rfl (Nat.le_of_ble_eq_true rfl) ?_
        rintro _ ⟨x4, rfl⟩
        refine h_aload_n_W dX11_smear_116 rfl rfl ?_
        refine h_getR_W 0 1 (C := RX11) (T := TX11) (N := 18) dX11_smear_117 (by decide) rfl rfl (by decide) rfl fl_RX11_10 ?_
        refine h_aload_n_W dX11_smear_120 rfl rfl ?_
        refine h_getR_W 11 63 (C := RX11) (T := TX11) (N := 18) dX11_smear_121 (by decide) rfl rfl (by decide) rfl fl_RX11_36 ?_
        refine h_callV_W (T := TX6) (NN := 9) [.int x4, .ref 75] (v_X6_drawingAtHand_1_63_W) dX11_smear_124 kk_X11_smear_X6_drawingAtHand ml_RX11_275 mwX6_drawingAtHand ewX6_drawingAtHand (by decide) rfl rfl rfl rfl (Nat.le_of_ble_eq_true rfl) ?_
        rintro _ ⟨x5, rfl⟩
        refine h_iload_W dX11_smear_127 rfl ?_
        refine h_callV_W (T := TX7) (NN := 2) [] (v_X7_flash_75_W x4 x5 v4) dX11_smear_129 kk_X11_smear_X7_flash ml_RX11_279 mwX7_flash ewX7_flash (by decide) rfl rfl rfl rfl (Nat.le_of_ble_eq_true rfl) ?_
        rintro _ rfl
        refine h_lload_W dX11_smear_132 rfl ?_
        refine h_ldc2_W (v := 10) dX11_smear_134 cl_RX11_281 ?_
        refine h_lmul_W dX11_smear_137 (fun x6 => ?_)
        refine h_lstore_W (lv' := [(5, .long x6), (0, .ref 0), (1, .int v1), (2, .int v2), (3, .int v3), (4, .int v4), (7, .int c84)]) dX11_smear_138 (by decide) rfl ?_
        refine h_iinc_W (v := (c84 + Int32.ofInt 1)) (lv' := [(7, .int (c84 + Int32.ofInt 1)), (5, .long x6), (0, .ref 0), (1, .int v1), (2, .int v2), (3, .int v3), (4, .int v4)]) dX11_smear_140 rfl rfl (by decide) rfl ?_
        refine h_goto_W 84 dX11_smear_143 (by decide) ?_
        exact zs_Wlv_W (ih84 v1 v2 v3 v4 x6 (c84 + Int32.ofInt 1) hd84) (zs_mc 2 rfl (zs_mc 3 rfl (zs_mc 4 rfl (zs_mc 5 rfl (zs_mc 6 rfl (zs_mc 1 rfl (zs_mc 0 rfl zs_mn)))))))
  refine h_aload_n_W dX11_smear_43 rfl rfl ?_
  refine h_aload_n_W dX11_smear_44 rfl rfl ?_
  refine h_getR_W 0 1 (C := RX11) (T := TX11) (N := 18) dX11_smear_45 (by decide) rfl rfl (by decide) rfl fl_RX11_10 ?_
  refine h_getR_W 4 3 (C := RX6) (T := TX6) (N := 9) dX11_smear_48 (by decide) rfl rfl (by decide) rfl fl_RX11_137 ?_
  refine h_getI_W 2 (C := RX3) (T := TX3) (N := 6) dX11_smear_51 (by decide) rfl rfl (by decide) rfl fl_RX11_153 (fun x16 => ?_)
  refine h_callV_W (T := TX11) (NN := 18) [] (v_X11_startTrial_0_W x16) dX11_smear_54 kk_X11_smear_X11_startTrial ml_RX11_198 mwX11_startTrial ewX11_startTrial (by decide) rfl rfl rfl rfl (Nat.le_of_ble_eq_true rfl) ?_
  rintro _ rfl
  refine h_aload_n_W dX11_smear_57 rfl rfl ?_
  refine h_getR_W 15 75 (C := RX11) (T := TX11) (N := 18) dX11_smear_58 (by decide) rfl rfl (by decide) rfl fl_RX11_64 ?_
  refine h_aload_n_W dX11_smear_61 rfl rfl ?_
  refine h_getR_W 0 1 (C := RX11) (T := TX11) (N := 18) dX11_smear_62 (by decide) rfl rfl (by decide) rfl fl_RX11_10 ?_
  refine h_getR_W 4 3 (C := RX6) (T := TX6) (N := 9) dX11_smear_65 (by decide) rfl rfl (by decide) rfl fl_RX11_137 ?_
  refine h_getR_W 4 5 (C := RX3) (T := TX3) (N := 6) dX11_smear_68 (by decide) rfl rfl (by decide) rfl fl_RX11_188 ?_
  refine h_iload_n_W dX11_smear_71 rfl rfl ?_
  refine h_callS_W [.ref 5, .int a1] [.ref 75] (v_cell_W 5 5 a1 (by decide) rfl (by decide)) dX11_smear_72 kk_X11_smear_X11_cell ml_RX11_168 swX11_cell rfl rfl (Nat.le_of_ble_eq_true rfl) ?_
  rintro _ ⟨x17, rfl⟩
  refine h_callV_W (T := TX7) (NN := 2) [] (v_X7_begin_75_W x17) dX11_smear_75 kk_X11_smear_X7_begin ml_RX11_273 mwX7_begin ewX7_begin (by decide) rfl rfl rfl rfl (Nat.le_of_ble_eq_true rfl) ?_
  rintro _ rfl
  refine h_lconst_W (v := 1) dX11_smear_78 (by decide) ?_
  refine h_lstore_W (lv' := [(5, .long 1), (0, .ref 0), (1, .int a1), (2, .int a2), (3, .int a3), (4, .int a4)]) dX11_smear_79 (by decide) rfl ?_
  refine h_iconst_W (v := (nI 0)) dX11_smear_81 rfl ?_
  refine h_istore_W (lv' := [(7, .int (nI 0)), (5, .long 1), (0, .ref 0), (1, .int a1), (2, .int a2), (3, .int a3), (4, .int a4)]) dX11_smear_82 (by decide) rfl ?_
  exact zs_Wlv_W (j84 _ a1 a2 a3 a4 1 (nI 0) (Nat.lt_succ_self _)) (zs_mc 2 rfl (zs_mc 3 rfl (zs_mc 4 rfl (zs_mc 5 rfl (zs_mc 6 rfl (zs_mc 1 rfl (zs_mc 0 rfl zs_mn)))))))
set_option maxRecDepth 100000 in
theorem c_smearW (S : zs_S) (e p n c : Int32) : zs_Ci MX11_smear [.ref 0, .int e, .int p, .int n, .int c] S (fun x S2 => zs_fr_W S S2 ∧ ((zs_qe (S.1 1 2) e && (zs_q 0 9 p && (zs_q 0 6 n && (zs_q 0 10 c)))) = false → x = (-2)) ∧ ((zs_qe (S.1 1 2) e && (zs_q 0 9 p && (zs_q 0 6 n && (zs_q 0 10 c)))) = true → x = nI 1)) := by
  refine zs_C.of (by decide) (Nat.le_of_ble_eq_true rfl) ?_
  show zs_P MX11_smear 0 [(0, .ref 0), (1, .int e), (2, .int p), (3, .int n), (4, .int c)] [] S _
  refine g_aload_n dX11_smear_0 rfl rfl ?_
  refine g_iload_n dX11_smear_1 rfl rfl ?_
  refine g_callV (T := TX11) (NN := 18) [] (x_isEye S e) dX11_smear_2 kk_X11_smear_X11_isEye ml_RX11_182 mwX11_isEye ewX11_isEye (by decide) rfl rfl rfl rfl (Nat.le_of_ble_eq_true rfl) ?_
  rintro _ _ ⟨_, rfl, rfl, rfl⟩
  refine g_if_eq 36 dX11_smear_5 (by decide) (fun h1 => ?_) (fun h1 => ?_)
  · have h1 := zs_b0 h1
    refine g_aload_n dX11_smear_36 rfl rfl ?_
    refine g_bipush (v := (-2)) dX11_smear_37 rfl ?_
    refine g_callV (T := TX11) (NN := 18) [] (x_refuseBad S (-2)) dX11_smear_39 kk_X11_smear_X11_refuseBad ml_RX11_86 mwX11_refuseBad ewX11_refuseBad (by decide) rfl rfl rfl rfl (Nat.le_of_ble_eq_true rfl) ?_
    rintro _ _ ⟨_, rfl, rfl, rfl⟩
    refine g_iret dX11_smear_42 rfl rfl ?_
    have q0 : zs_qe (S.1 1 2) e = false := zs_qeF h1
    exact ⟨_, rfl, zs_fr_W.up rfl, fun _ => rfl, fun z => absurd z (by rw [q0]; exact Bool.false_ne_true)⟩
  · have h1 := zs_b1 h1
    refine g_iload_n dX11_smear_8 rfl rfl ?_
    refine g_callS [.int p] [] (x_isDrawing S p) dX11_smear_9 kk_X11_smear_X11_isDrawing ml_RX11_162 swX11_isDrawing rfl rfl (Nat.le_of_ble_eq_true rfl) ?_
    rintro _ _ ⟨_, rfl, rfl, rfl⟩
    refine g_if_eq 36 dX11_smear_12 (by decide) (fun h2 => ?_) (fun h2 => ?_)
    · have h2 := zs_b0 h2
      refine g_aload_n dX11_smear_36 rfl rfl ?_
      refine g_bipush (v := (-2)) dX11_smear_37 rfl ?_
      refine g_callV (T := TX11) (NN := 18) [] (x_refuseBad S (-2)) dX11_smear_39 kk_X11_smear_X11_refuseBad ml_RX11_86 mwX11_refuseBad ewX11_refuseBad (by decide) rfl rfl rfl rfl (Nat.le_of_ble_eq_true rfl) ?_
      rintro _ _ ⟨_, rfl, rfl, rfl⟩
      refine g_iret dX11_smear_42 rfl rfl ?_
      have q0 : zs_qe (S.1 1 2) e = true := zs_qeT h1
      have q1 : zs_q 0 9 p = false := zs_qF h2
      exact ⟨_, rfl, zs_fr_W.up rfl, fun _ => rfl, fun z => absurd z (by rw [q0, q1]; exact Bool.false_ne_true)⟩
    · have h2 := zs_b1 h2
      obtain ⟨p', p'a, p'b, rfl⟩ := zs_rng h2 (by omega)
      refine g_iload_n dX11_smear_15 rfl rfl ?_
      refine g_iconst (v := (nI 0)) dX11_smear_16 rfl ?_
      refine g_bipush (v := (nI 6)) dX11_smear_17 rfl ?_
      refine g_callS [.int n, .int (nI 0), .int (nI 6)] [] (x_within S n (nI 0) (nI 6)) dX11_smear_19 kk_X11_smear_X11_within ml_RX11_75 swX11_within rfl rfl (Nat.le_of_ble_eq_true rfl) ?_
      rintro _ _ ⟨_, rfl, rfl, rfl⟩
      refine g_if_eq 36 dX11_smear_22 (by decide) (fun h3 => ?_) (fun h3 => ?_)
      · have h3 := zs_b0 h3
        refine g_aload_n dX11_smear_36 rfl rfl ?_
        refine g_bipush (v := (-2)) dX11_smear_37 rfl ?_
        refine g_callV (T := TX11) (NN := 18) [] (x_refuseBad S (-2)) dX11_smear_39 kk_X11_smear_X11_refuseBad ml_RX11_86 mwX11_refuseBad ewX11_refuseBad (by decide) rfl rfl rfl rfl (Nat.le_of_ble_eq_true rfl) ?_
        rintro _ _ ⟨_, rfl, rfl, rfl⟩
        refine g_iret dX11_smear_42 rfl rfl ?_
        have q0 : zs_qe (S.1 1 2) e = true := zs_qeT h1
        have q1 : zs_q 0 9 (nI p') = true := zs_qN (by omega) (by omega) (by decide)
        have q2 : zs_q 0 6 n = false := zs_qF h3
        exact ⟨_, rfl, zs_fr_W.up rfl, fun _ => rfl, fun z => absurd z (by rw [q0, q1, q2]; exact Bool.false_ne_true)⟩
      · have h3 := zs_b1 h3
        obtain ⟨n', n'a, n'b, rfl⟩ := zs_rng h3 (by omega)
        refine g_iload dX11_smear_25 rfl ?_
        refine g_iconst (v := (nI 0)) dX11_smear_27 rfl ?_
        refine g_bipush (v := (nI 10)) dX11_smear_28 rfl ?_
        refine g_callS [.int c, .int (nI 0), .int (nI 10)] [] (x_within S c (nI 0) (nI 10)) dX11_smear_30 kk_X11_smear_X11_within ml_RX11_75 swX11_within rfl rfl (Nat.le_of_ble_eq_true rfl) ?_
        rintro _ _ ⟨_, rfl, rfl, rfl⟩
        refine g_if_ne 43 dX11_smear_33 (by decide) (fun h4 => ?_) (fun h4 => ?_)
        · have h4 := zs_b1 h4
          obtain ⟨c', c'a, c'b, rfl⟩ := zs_rng h4 (by omega)
          have q0 : zs_qe (S.1 1 2) e = true := zs_qeT h1
          have q1 : zs_q 0 9 (nI p') = true := zs_qN (by omega) (by omega) (by decide)
          have q2 : zs_q 0 6 (nI n') = true := zs_qN (by omega) (by omega) (by decide)
          have q3 : zs_q 0 10 (nI c') = true := zs_qN (by omega) (by omega) (by decide)
          exact (u_smear43 e (nI p') (nI n') (nI c') S).mono (fun _ _ q => ⟨_, q.1, q.2, fun z => absurd z (by rw [q0, q1, q2, q3]; decide), fun _ => rfl⟩)
        · have h4 := zs_b0 h4
          refine g_aload_n dX11_smear_36 rfl rfl ?_
          refine g_bipush (v := (-2)) dX11_smear_37 rfl ?_
          refine g_callV (T := TX11) (NN := 18) [] (x_refuseBad S (-2)) dX11_smear_39 kk_X11_smear_X11_refuseBad ml_RX11_86 mwX11_refuseBad ewX11_refuseBad (by decide) rfl rfl rfl rfl (Nat.le_of_ble_eq_true rfl) ?_
          rintro _ _ ⟨_, rfl, rfl, rfl⟩
          refine g_iret dX11_smear_42 rfl rfl ?_
          have q0 : zs_qe (S.1 1 2) e = true := zs_qeT h1
          have q1 : zs_q 0 9 (nI p') = true := zs_qN (by omega) (by omega) (by decide)
          have q2 : zs_q 0 6 (nI n') = true := zs_qN (by omega) (by omega) (by decide)
          have q3 : zs_q 0 10 c = false := zs_qF h4
          exact ⟨_, rfl, zs_fr_W.up rfl, fun _ => rfl, fun z => absurd z (by rw [q0, q1, q2, q3]; exact Bool.false_ne_true)⟩
set_option maxRecDepth 100000 in
theorem y_smear_g_1 : ∀ (r p u w : Nat), p < 2 ^ 31 → r < 2 ^ 31 → (r = 0 → 1 ≤ p) → u < 2 ^ 31 → w < 2 ^ 31 → zs_V_W MX12_smear 190 [(11, .long (lN r)), (9, .long (lN p)), (7, .long (lN w)), (5, .long (lN u)), (0, .ref 80)] [] zs_R1 := by
  intro r
  induction r using Nat.strongRecOn with
  | _ r ih =>
    intro p u w hp hr h0 hu hw S hJ
    by_cases hz : r = 0
    · subst hz
      refine g_lload dX12_smear_190 rfl ?_
      refine g_lconst (v := 0) dX12_smear_192 (by decide) ?_
      refine g_lcmp dX12_smear_193 ?_
      refine g_if_eq 215 dX12_smear_194 (by decide) (fun _ => ?_) (fun z => absurd (by decide) z)
      refine g_aload_n dX12_smear_215 rfl rfl ?_
      refine g_lload dX12_smear_216 rfl ?_
      refine g_lload dX12_smear_218 rfl ?_
      refine g_ldiv dX12_smear_220 (zs_lnz (h0 rfl) hp) ?_
      refine g_putL 12 (C := RX12) (T := TX12) (N := 19) dX12_smear_221 (by decide) rfl rfl (by decide) rfl fl_RX12_229 rfl (by decide +kernel) ?_
      refine g_aload_n dX12_smear_224 rfl rfl ?_
      refine g_lload dX12_smear_225 rfl ?_
      refine g_lload dX12_smear_227 rfl ?_
      refine g_ldiv dX12_smear_229 (zs_lnz (h0 rfl) hp) ?_
      refine g_putL 13 (C := RX12) (T := TX12) (N := 19) dX12_smear_230 (by decide) rfl rfl (by decide) rfl fl_RX12_23 rfl (by decide +kernel) ?_
      refine g_iconst (v := (nI 1)) dX12_smear_233 rfl ?_
      refine g_iret dX12_smear_234 rfl rfl ?_
      exact ⟨rfl, hJ, (zs_fm_W.upL rfl).tr (zs_fm_W.upL rfl)⟩
    · skip
      refine g_lload dX12_smear_190 rfl ?_
      refine g_lconst (v := 0) dX12_smear_192 (by decide) ?_
      refine g_lcmp dX12_smear_193 ?_
      refine g_if_eq 215 dX12_smear_194 (by decide) (fun z => absurd z (zs_lcz (by omega) hr)) (fun _ => ?_)
      refine g_lload dX12_smear_197 rfl ?_
      refine g_lload dX12_smear_199 rfl ?_
      refine g_lrem dX12_smear_201 (zs_lnz (by omega) hr) ?_
      rw [pk_lRem (by omega) (by omega) (by omega)]
      refine g_lstore (lv' := [(13, .long (lN (p % r))), (11, .long (lN r)), (9, .long (lN p)), (7, .long (lN w)), (5, .long (lN u)), (0, .ref 80)]) dX12_smear_202 (by decide) rfl ?_
      refine g_lload dX12_smear_204 rfl ?_
      refine g_lstore (lv' := [(9, .long (lN r)), (13, .long (lN (p % r))), (11, .long (lN r)), (7, .long (lN w)), (5, .long (lN u)), (0, .ref 80)]) dX12_smear_206 (by decide) rfl ?_
      refine g_lload dX12_smear_208 rfl ?_
      refine g_lstore (lv' := [(11, .long (lN (p % r))), (9, .long (lN r)), (13, .long (lN (p % r))), (7, .long (lN w)), (5, .long (lN u)), (0, .ref 80)]) dX12_smear_210 (by decide) rfl ?_
      refine g_goto 190 dX12_smear_212 (by decide) ?_
      exact (ih (p % r) (Nat.mod_lt _ (by omega)) r u w hr (Nat.lt_of_lt_of_le (Nat.mod_lt p (show r > 0 by omega)) (by omega)) (fun _ => by omega) hu hw S hJ).lv (zs_mc 0 rfl (zs_mc 1 rfl (zs_mc 3 rfl (zs_mc 4 rfl (zs_mc 5 rfl zs_mn)))))
set_option maxRecDepth 100000 in
theorem y_smear_i_1 (e x n c : Nat) (he : e ≤ 4) (hx : x ≤ 9) (hn : n ≤ 6) (hc : c ≤ 10) (q w u : Nat) (hq : q < 2 ^ n) (hw : w ≤ q * 1000000) (hu : u ≤ q * 1000000) (hi1 : c < 10 → 1 ≤ q → 1 ≤ w) (hk : (∀ w' u', w' ≤ (q + 1) * 1000000 → u' ≤ (q + 1) * 1000000 → (c < 10 → 1 ≤ q + 1 → 1 ≤ w') → (c = 10 → q + 1 = 2 ^ n → 1 ≤ w') → zs_V_W MX12_smear 59 [(9, .int (nI (q + 1))), (7, .long (lN w')), (5, .long (lN u')), (0, .ref 80), (1, .int (nI e)), (2, .int (nI x)), (3, .int (nI n)), (4, .int (nI c))] [] zs_R1)) : ∀ (d j : Nat), j + d = n → ∀ g, g ≤ 10 ^ j → (((c < 10 ∧ q = 0) ∨ (c = 10 ∧ q = 2 ^ n - 1)) → 1 ≤ g) → zs_V_W MX12_smear 77 [(12, .int (nI j)), (10, .long (lN g)), (9, .int (nI q)), (7, .long (lN w)), (5, .long (lN u)), (0, .ref 80), (1, .int (nI e)), (2, .int (nI x)), (3, .int (nI n)), (4, .int (nI c))] [] zs_R1 := by
  have h64 := zs_p2 n (by omega)
  have h106 := zs_p10 n (by omega)
  intro d
  induction d with
  | zero =>
    intro j hj g hg hP S hJ
    obtain rfl : n = j := by omega
    have hP1 : c < 10 → q = 0 → 1 ≤ g := fun z1 z2 => hP (Or.inl ⟨z1, z2⟩)
    have hP2 : c = 10 → q + 1 = 2 ^ n → 1 ≤ g := fun z1 z2 => hP (Or.inr ⟨z1, by omega⟩)
    refine g_iload dX12_smear_77 rfl ?_
    refine g_iload_n dX12_smear_79 rfl rfl ?_
    refine g_ic_geN 144 dX12_smear_80 (by decide) (by omega) (by omega) (fun _ => ?_) (fun z => absurd z (by omega))
    refine g_lload dX12_smear_144 rfl ?_
    refine g_lload dX12_smear_146 rfl ?_
    refine g_ladd dX12_smear_148 ?_
    rw [lN_add]
    refine g_lstore (lv' := [(7, .long (lN (w + g))), (12, .int (nI n)), (10, .long (lN g)), (9, .int (nI q)), (5, .long (lN u)), (0, .ref 80), (1, .int (nI e)), (2, .int (nI x)), (3, .int (nI n)), (4, .int (nI c))]) dX12_smear_149 (by decide) rfl ?_
    refine g_lload dX12_smear_151 rfl ?_
    refine g_aload_n dX12_smear_153 rfl rfl ?_
    refine g_getR 0 (81) (C := RX12) (T := TX12) (N := 19) dX12_smear_154 (by decide) rfl rfl (by decide) rfl fl_RX12_7 ?_
    refine g_sipush (v := (nI 690)) dX12_smear_157 rfl ?_
    refine g_iload_n dX12_smear_160 rfl rfl ?_
    refine g_iaddN dX12_smear_161 ?_
    refine g_ialdN (v := (S.1 81 (690 + e))) dX12_smear_162 (by decide) rfl (by omega) (by decide) rfl ?_
    refine g_iload_n dX12_smear_163 rfl rfl ?_
    refine g_ic_ne 172 dX12_smear_164 (by decide) (fun h1 => ?_) (fun h1 => ?_)
    · refine g_lconst (v := 0) dX12_smear_172 (by decide) ?_
      refine g_ladd dX12_smear_173 ?_
      rw [show (0 : Int64) = lN 0 from rfl, lN_add]
      refine g_lstore (lv' := [(5, .long (lN (u + 0))), (7, .long (lN (w + g))), (12, .int (nI n)), (10, .long (lN g)), (9, .int (nI q)), (0, .ref 80), (1, .int (nI e)), (2, .int (nI x)), (3, .int (nI n)), (4, .int (nI c))]) dX12_smear_174 (by decide) rfl ?_
      refine g_iinc (v := (nI (q + 1))) (lv' := [(9, .int (nI (q + 1))), (5, .long (lN (u + 0))), (7, .long (lN (w + g))), (12, .int (nI n)), (10, .long (lN g)), (0, .ref 80), (1, .int (nI e)), (2, .int (nI x)), (3, .int (nI n)), (4, .int (nI c))]) dX12_smear_176 rfl (nI_1 q) (by decide) rfl ?_
      refine g_goto 59 dX12_smear_179 (by decide) ?_
      exact zs_Vlv_W (hk (w + g) (u + 0) (by omega) (Nat.le_trans hu (Nat.mul_le_mul_right _ (Nat.le_succ _))) (by omega) (by omega)) (zs_mc 0 rfl (zs_mc 2 rfl (zs_mc 1 rfl (zs_mc 5 rfl (zs_mc 6 rfl (zs_mc 7 rfl (zs_mc 8 rfl (zs_mc 9 rfl zs_mn)))))))) S hJ
    · refine g_lload dX12_smear_167 rfl ?_
      refine g_goto 173 dX12_smear_169 (by decide) ?_
      refine g_ladd dX12_smear_173 ?_
      rw [lN_add]
      refine g_lstore (lv' := [(5, .long (lN (u + g))), (7, .long (lN (w + g))), (12, .int (nI n)), (10, .long (lN g)), (9, .int (nI q)), (0, .ref 80), (1, .int (nI e)), (2, .int (nI x)), (3, .int (nI n)), (4, .int (nI c))]) dX12_smear_174 (by decide) rfl ?_
      refine g_iinc (v := (nI (q + 1))) (lv' := [(9, .int (nI (q + 1))), (5, .long (lN (u + g))), (7, .long (lN (w + g))), (12, .int (nI n)), (10, .long (lN g)), (0, .ref 80), (1, .int (nI e)), (2, .int (nI x)), (3, .int (nI n)), (4, .int (nI c))]) dX12_smear_176 rfl (nI_1 q) (by decide) rfl ?_
      refine g_goto 59 dX12_smear_179 (by decide) ?_
      exact zs_Vlv_W (hk (w + g) (u + g) (by omega) (by omega) (by omega) (by omega)) (zs_mc 0 rfl (zs_mc 2 rfl (zs_mc 1 rfl (zs_mc 5 rfl (zs_mc 6 rfl (zs_mc 7 rfl (zs_mc 8 rfl (zs_mc 9 rfl zs_mn)))))))) S hJ
  | succ d ih =>
    intro j hj g hg hP
    have ih : ∀ j', j' + d = n → ∀ g, g ≤ 10 ^ j' → (((c < 10 ∧ q = 0) ∨ (c = 10 ∧ q = 2 ^ n - 1)) → 1 ≤ g) → zs_V_W MX12_smear 77 [(12, .int (nI j')), (10, .long (lN g)), (9, .int (nI q)), (7, .long (lN w)), (5, .long (lN u)), (0, .ref 80), (1, .int (nI e)), (2, .int (nI x)), (3, .int (nI n)), (4, .int (nI c))] [] zs_R1 := ih
    intro S hJ
    obtain ⟨st, -, hst, h3⟩ := hJ.1 81 2 0 11 rfl
    refine g_iload dX12_smear_77 rfl ?_
    refine g_iload_n dX12_smear_79 rfl rfl ?_
    refine g_ic_geN 144 dX12_smear_80 (by decide) (by omega) (by omega) (fun z => absurd z (by omega)) (fun _ => ?_)
    refine g_lload dX12_smear_83 rfl ?_
    refine g_iload dX12_smear_85 rfl ?_
    refine g_iload dX12_smear_87 rfl ?_
    refine g_callS [.int (nI q), .int (nI j)] [.long (lN g)] (z_has S (nI q) (nI j)) dX12_smear_89 kk_X12_smear_X12_has ml_RX12_215 swX12_has rfl rfl (Nat.le_of_ble_eq_true rfl) ?_
    rintro _ _ ⟨_, rfl, rfl, rfl⟩
    refine g_if_eq 101 dX12_smear_92 (by decide) (fun h1 => ?_) (fun h1 => ?_)
    · have h1 := zs_b0 h1
      refine g_bipush (v := (nI 10)) dX12_smear_101 rfl ?_
      refine g_iload dX12_smear_103 rfl ?_
      refine g_isubN dX12_smear_105 (by omega) ?_
      refine g_i2l dX12_smear_106 rfl ?_
      rw [nI_l (show 10 - c < 2 ^ 31 by omega)]
      refine g_lmul dX12_smear_107 ?_
      rw [lN_mul]
      refine g_lstore (lv' := [(10, .long (lN (g * (10 - c)))), (12, .int (nI j)), (9, .int (nI q)), (7, .long (lN w)), (5, .long (lN u)), (0, .ref 80), (1, .int (nI e)), (2, .int (nI x)), (3, .int (nI n)), (4, .int (nI c))]) dX12_smear_108 (by decide) rfl ?_
      refine g_aload_n dX12_smear_110 rfl rfl ?_
      refine g_sipush (v := (nI 675)) dX12_smear_111 rfl ?_
      refine g_aload_n dX12_smear_114 rfl rfl ?_
      refine g_getR 0 (81) (C := RX12) (T := TX12) (N := 19) dX12_smear_115 (by decide) rfl rfl (by decide) rfl fl_RX12_7 ?_
      refine g_iconst (v := (nI 2)) dX12_smear_118 rfl ?_
      refine g_ialdN (v := (nI st)) dX12_smear_119 (by decide) rfl (by omega) (by decide) h3 ?_
      refine g_iload dX12_smear_120 rfl ?_
      refine g_iload dX12_smear_122 rfl ?_
      refine g_callS [.int (nI q), .int (nI j)] [.int (nI st), .int (nI 675), .ref 80] (z_has S (nI q) (nI j)) dX12_smear_124 kk_X12_smear_X12_has ml_RX12_215 swX12_has rfl rfl (Nat.le_of_ble_eq_true rfl) ?_
      rintro _ _ ⟨_, rfl, rfl, rfl⟩
      refine g_if_ne 134 dX12_smear_127 (by decide) (fun h2 => ?_) (fun h2 => ?_)
      · have h2 := zs_b1 h2
        refine g_iconst (v := (nI 0)) dX12_smear_134 rfl ?_
        refine g_callV (T := TX12) (NN := 19) [] (y_X12_flash_675_W st (by omega) (by omega) (nI 0) S hJ) dX12_smear_135 kk_X12_smear_X12_flash ml_RX12_132 mwX12_flash ewX12_flash (by decide) rfl rfl rfl rfl (Nat.le_of_ble_eq_true rfl) ?_
        rintro _ S3 ⟨rfl, jS3, fS3⟩
        refine g_iinc (v := (nI (j + 1))) (lv' := [(12, .int (nI (j + 1))), (10, .long (lN (g * (10 - c)))), (9, .int (nI q)), (7, .long (lN w)), (5, .long (lN u)), (0, .ref 80), (1, .int (nI e)), (2, .int (nI x)), (3, .int (nI n)), (4, .int (nI c))]) dX12_smear_138 rfl (nI_1 j) (by decide) rfl ?_
        refine g_goto 77 dX12_smear_141 (by decide) ?_
        refine zs_Vfr_W (zs_Vlv_W (ih (j + 1) (by omega) (g * (10 - c)) ?_ (fun z => Nat.mul_le_mul (hP z) (zs_fd hn (by omega) h1 z))) (zs_mc 0 rfl (zs_mc 1 rfl (zs_mc 2 rfl (zs_mc 3 rfl (zs_mc 4 rfl (zs_mc 5 rfl (zs_mc 6 rfl (zs_mc 7 rfl (zs_mc 8 rfl (zs_mc 9 rfl zs_mn))))))))))) jS3 ((zs_fm_W.rf).tr fS3)
        rw [Nat.pow_succ]; exact Nat.mul_le_mul hg (by omega)
      · have h2 := zs_b0 h2
        refine g_iconst (v := (nI 1)) dX12_smear_130 rfl ?_
        refine g_goto 135 dX12_smear_131 (by decide) ?_
        refine g_callV (T := TX12) (NN := 19) [] (y_X12_flash_675_W st (by omega) (by omega) (nI 1) S hJ) dX12_smear_135 kk_X12_smear_X12_flash ml_RX12_132 mwX12_flash ewX12_flash (by decide) rfl rfl rfl rfl (Nat.le_of_ble_eq_true rfl) ?_
        rintro _ S4 ⟨rfl, jS4, fS4⟩
        refine g_iinc (v := (nI (j + 1))) (lv' := [(12, .int (nI (j + 1))), (10, .long (lN (g * (10 - c)))), (9, .int (nI q)), (7, .long (lN w)), (5, .long (lN u)), (0, .ref 80), (1, .int (nI e)), (2, .int (nI x)), (3, .int (nI n)), (4, .int (nI c))]) dX12_smear_138 rfl (nI_1 j) (by decide) rfl ?_
        refine g_goto 77 dX12_smear_141 (by decide) ?_
        refine zs_Vfr_W (zs_Vlv_W (ih (j + 1) (by omega) (g * (10 - c)) ?_ (fun z => Nat.mul_le_mul (hP z) (zs_fd hn (by omega) h1 z))) (zs_mc 0 rfl (zs_mc 1 rfl (zs_mc 2 rfl (zs_mc 3 rfl (zs_mc 4 rfl (zs_mc 5 rfl (zs_mc 6 rfl (zs_mc 7 rfl (zs_mc 8 rfl (zs_mc 9 rfl zs_mn))))))))))) jS4 ((zs_fm_W.rf).tr fS4)
        rw [Nat.pow_succ]; exact Nat.mul_le_mul hg (by omega)
    · have h1 := zs_b1 h1
      refine g_iload dX12_smear_95 rfl ?_
      refine g_i2l dX12_smear_97 rfl ?_
      refine g_goto 107 dX12_smear_98 (by decide) ?_
      rw [nI_l (show c < 2 ^ 31 by omega)]
      refine g_lmul dX12_smear_107 ?_
      rw [lN_mul]
      refine g_lstore (lv' := [(10, .long (lN (g * c))), (12, .int (nI j)), (9, .int (nI q)), (7, .long (lN w)), (5, .long (lN u)), (0, .ref 80), (1, .int (nI e)), (2, .int (nI x)), (3, .int (nI n)), (4, .int (nI c))]) dX12_smear_108 (by decide) rfl ?_
      refine g_aload_n dX12_smear_110 rfl rfl ?_
      refine g_sipush (v := (nI 675)) dX12_smear_111 rfl ?_
      refine g_aload_n dX12_smear_114 rfl rfl ?_
      refine g_getR 0 (81) (C := RX12) (T := TX12) (N := 19) dX12_smear_115 (by decide) rfl rfl (by decide) rfl fl_RX12_7 ?_
      refine g_iconst (v := (nI 2)) dX12_smear_118 rfl ?_
      refine g_ialdN (v := (nI st)) dX12_smear_119 (by decide) rfl (by omega) (by decide) h3 ?_
      refine g_iload dX12_smear_120 rfl ?_
      refine g_iload dX12_smear_122 rfl ?_
      refine g_callS [.int (nI q), .int (nI j)] [.int (nI st), .int (nI 675), .ref 80] (z_has S (nI q) (nI j)) dX12_smear_124 kk_X12_smear_X12_has ml_RX12_215 swX12_has rfl rfl (Nat.le_of_ble_eq_true rfl) ?_
      rintro _ _ ⟨_, rfl, rfl, rfl⟩
      refine g_if_ne 134 dX12_smear_127 (by decide) (fun h5 => ?_) (fun h5 => ?_)
      · have h5 := zs_b1 h5
        refine g_iconst (v := (nI 0)) dX12_smear_134 rfl ?_
        refine g_callV (T := TX12) (NN := 19) [] (y_X12_flash_675_W st (by omega) (by omega) (nI 0) S hJ) dX12_smear_135 kk_X12_smear_X12_flash ml_RX12_132 mwX12_flash ewX12_flash (by decide) rfl rfl rfl rfl (Nat.le_of_ble_eq_true rfl) ?_
        rintro _ S6 ⟨rfl, jS6, fS6⟩
        refine g_iinc (v := (nI (j + 1))) (lv' := [(12, .int (nI (j + 1))), (10, .long (lN (g * c))), (9, .int (nI q)), (7, .long (lN w)), (5, .long (lN u)), (0, .ref 80), (1, .int (nI e)), (2, .int (nI x)), (3, .int (nI n)), (4, .int (nI c))]) dX12_smear_138 rfl (nI_1 j) (by decide) rfl ?_
        refine g_goto 77 dX12_smear_141 (by decide) ?_
        refine zs_Vfr_W (zs_Vlv_W (ih (j + 1) (by omega) (g * c) ?_ (fun z => Nat.mul_le_mul (hP z) (zs_fc hn (by omega) h1 z))) (zs_mc 0 rfl (zs_mc 1 rfl (zs_mc 2 rfl (zs_mc 3 rfl (zs_mc 4 rfl (zs_mc 5 rfl (zs_mc 6 rfl (zs_mc 7 rfl (zs_mc 8 rfl (zs_mc 9 rfl zs_mn))))))))))) jS6 ((zs_fm_W.rf).tr fS6)
        rw [Nat.pow_succ]; exact Nat.mul_le_mul hg (by omega)
      · have h5 := zs_b0 h5
        refine g_iconst (v := (nI 1)) dX12_smear_130 rfl ?_
        refine g_goto 135 dX12_smear_131 (by decide) ?_
        refine g_callV (T := TX12) (NN := 19) [] (y_X12_flash_675_W st (by omega) (by omega) (nI 1) S hJ) dX12_smear_135 kk_X12_smear_X12_flash ml_RX12_132 mwX12_flash ewX12_flash (by decide) rfl rfl rfl rfl (Nat.le_of_ble_eq_true rfl) ?_
        rintro _ S7 ⟨rfl, jS7, fS7⟩
        refine g_iinc (v := (nI (j + 1))) (lv' := [(12, .int (nI (j + 1))), (10, .long (lN (g * c))), (9, .int (nI q)), (7, .long (lN w)), (5, .long (lN u)), (0, .ref 80), (1, .int (nI e)), (2, .int (nI x)), (3, .int (nI n)), (4, .int (nI c))]) dX12_smear_138 rfl (nI_1 j) (by decide) rfl ?_
        refine g_goto 77 dX12_smear_141 (by decide) ?_
        refine zs_Vfr_W (zs_Vlv_W (ih (j + 1) (by omega) (g * c) ?_ (fun z => Nat.mul_le_mul (hP z) (zs_fc hn (by omega) h1 z))) (zs_mc 0 rfl (zs_mc 1 rfl (zs_mc 2 rfl (zs_mc 3 rfl (zs_mc 4 rfl (zs_mc 5 rfl (zs_mc 6 rfl (zs_mc 7 rfl (zs_mc 8 rfl (zs_mc 9 rfl zs_mn))))))))))) jS7 ((zs_fm_W.rf).tr fS7)
        rw [Nat.pow_succ]; exact Nat.mul_le_mul hg (by omega)
set_option maxRecDepth 100000 in
theorem y_smear_o_1 (e x n c : Nat) (he : e ≤ 4) (hx : x ≤ 9) (hn : n ≤ 6) (hc : c ≤ 10) : ∀ (d q : Nat), q + d = 2 ^ n → ∀ w u, w ≤ q * 1000000 → u ≤ q * 1000000 → (c < 10 → 1 ≤ q → 1 ≤ w) → (c = 10 → q = 2 ^ n → 1 ≤ w) → zs_V_W MX12_smear 59 [(9, .int (nI q)), (7, .long (lN w)), (5, .long (lN u)), (0, .ref 80), (1, .int (nI e)), (2, .int (nI x)), (3, .int (nI n)), (4, .int (nI c))] [] zs_R1 := by
  have h64 := zs_p2 n (by omega)
  intro d
  induction d with
  | zero =>
    intro q hq w u hw hu hi1 hi2 S hJ
    have hw1 : 1 ≤ w := by
      rcases Nat.lt_or_ge c 10 with z | z
      · exact hi1 z (by omega)
      · exact hi2 (by omega) (by omega)
    refine g_iload dX12_smear_59 rfl ?_
    refine g_iconst (v := (nI 1)) dX12_smear_61 rfl ?_
    refine g_iload_n dX12_smear_62 rfl rfl ?_
    refine g_ishl dX12_smear_63 ?_
    rw [zs_sh1 n (by omega)]
    refine g_ic_geN 182 dX12_smear_64 (by decide) (by omega) (by omega) (fun _ => ?_) (fun z => absurd z (by omega))
    refine g_lload dX12_smear_182 rfl ?_
    refine g_lstore (lv' := [(9, .long (lN u)), (7, .long (lN w)), (5, .long (lN u)), (0, .ref 80), (1, .int (nI e)), (2, .int (nI x)), (3, .int (nI n)), (4, .int (nI c))]) dX12_smear_184 (by decide) rfl ?_
    refine g_lload dX12_smear_186 rfl ?_
    refine g_lstore (lv' := [(11, .long (lN w)), (9, .long (lN u)), (7, .long (lN w)), (5, .long (lN u)), (0, .ref 80), (1, .int (nI e)), (2, .int (nI x)), (3, .int (nI n)), (4, .int (nI c))]) dX12_smear_188 (by decide) rfl ?_
    exact zs_Vlv_W (y_smear_g_1 w u u w (by omega) (by omega) (fun z => absurd z (by omega)) (by omega) (by omega)) (zs_mc 0 rfl (zs_mc 1 rfl (zs_mc 2 rfl (zs_mc 3 rfl (zs_mc 4 rfl zs_mn))))) S hJ
  | succ d ih =>
    intro q hq w u hw hu hi1 hi2
    have ih : ∀ q', q' + d = 2 ^ n → ∀ w u, w ≤ q' * 1000000 → u ≤ q' * 1000000 → (c < 10 → 1 ≤ q' → 1 ≤ w) → (c = 10 → q' = 2 ^ n → 1 ≤ w) → zs_V_W MX12_smear 59 [(9, .int (nI q')), (7, .long (lN w)), (5, .long (lN u)), (0, .ref 80), (1, .int (nI e)), (2, .int (nI x)), (3, .int (nI n)), (4, .int (nI c))] [] zs_R1 := ih
    intro S hJ
    refine g_iload dX12_smear_59 rfl ?_
    refine g_iconst (v := (nI 1)) dX12_smear_61 rfl ?_
    refine g_iload_n dX12_smear_62 rfl rfl ?_
    refine g_ishl dX12_smear_63 ?_
    rw [zs_sh1 n (by omega)]
    refine g_ic_geN 182 dX12_smear_64 (by decide) (by omega) (by omega) (fun z => absurd z (by omega)) (fun _ => ?_)
    refine g_aload_n dX12_smear_67 rfl rfl ?_
    refine g_callV (T := TX12) (NN := 19) [] (y_X12_tries_W S hJ) dX12_smear_68 kk_X12_smear_X12_tries ml_RX12_188 mwX12_tries ewX12_tries (by decide) rfl rfl rfl rfl (Nat.le_of_ble_eq_true rfl) ?_
    rintro _ S1 ⟨rfl, jS1, fS1⟩
    refine g_lconst (v := lN 1) dX12_smear_71 rfl ?_
    refine g_lstore (lv' := [(10, .long 1), (9, .int (nI q)), (7, .long (lN w)), (5, .long (lN u)), (0, .ref 80), (1, .int (nI e)), (2, .int (nI x)), (3, .int (nI n)), (4, .int (nI c))]) dX12_smear_72 (by decide) rfl ?_
    refine g_iconst (v := (nI 0)) dX12_smear_74 rfl ?_
    refine g_istore (lv' := [(12, .int (nI 0)), (10, .long (lN 1)), (9, .int (nI q)), (7, .long (lN w)), (5, .long (lN u)), (0, .ref 80), (1, .int (nI e)), (2, .int (nI x)), (3, .int (nI n)), (4, .int (nI c))]) dX12_smear_75 (by decide) rfl ?_
    refine zs_Vfr_W (zs_Vlv_W (y_smear_i_1 e x n c he hx hn hc q w u (by omega) hw hu hi1 (fun w9 u9 a1 a2 a3 a4 => ih (q + 1) (by omega) w9 u9 a1 a2 a3 a4) n 0 (by omega) 1 (Nat.le_refl _) (fun _ => Nat.le_refl _)) (zs_mc 0 rfl (zs_mc 1 rfl (zs_mc 2 rfl (zs_mc 3 rfl (zs_mc 4 rfl (zs_mc 5 rfl (zs_mc 6 rfl (zs_mc 7 rfl (zs_mc 8 rfl (zs_mc 9 rfl zs_mn))))))))))) jS1 ((zs_fm_W.rf).tr fS1)
set_option maxRecDepth 100000 in
theorem y_smearW (e : Int32) (p : Int32) (n : Int32) (c : Int32) (S : zs_S) (hJ : zs_J S) (m : Nat) (hm : S.1 82 2 = nI m) (h5 : m ≤ 5) : zs_Ci MX12_smear [.ref 80, .int e, .int p, .int n, .int c] S (fun x S2 => zs_J S2 ∧ zs_fm_W S S2 ∧ ((zs_qe (S.1 82 2) e && (zs_q 0 9 p && (zs_q 0 6 n && (zs_q 0 10 c)))) = false → x = (-2)) ∧ ((zs_qe (S.1 82 2) e && (zs_q 0 9 p && (zs_q 0 6 n && (zs_q 0 10 c)))) = true → x = nI 1)) := by
  refine zs_C.of (by decide) (Nat.le_of_ble_eq_true rfl) ?_
  show zs_P MX12_smear 0 [(0, .ref 80), (1, .int e), (2, .int p), (3, .int n), (4, .int c)] [] S _
  refine g_aload_n dX12_smear_0 rfl rfl ?_
  refine g_iload_n dX12_smear_1 rfl rfl ?_
  refine g_callV (T := TX12) (NN := 19) [] (z_isEye S e) dX12_smear_2 kk_X12_smear_X12_isEye ml_RX12_185 mwX12_isEye ewX12_isEye (by decide) rfl rfl rfl rfl (Nat.le_of_ble_eq_true rfl) ?_
  rintro _ _ ⟨_, rfl, rfl, rfl⟩
  refine g_if_eq 45 dX12_smear_5 (by decide) (fun h1 => ?_) (fun h1 => ?_)
  · have h1 := zs_b0 h1
    refine g_aload_n dX12_smear_45 rfl rfl ?_
    refine g_callV (T := TX12) (NN := 19) [] (q_badW S hJ) dX12_smear_46 kk_X12_smear_X12_bad ml_RX12_62 mwX12_bad ewX12_bad (by decide) rfl rfl rfl rfl (Nat.le_of_ble_eq_true rfl) ?_
    rintro _ S2 ⟨x3, rfl, ex3, jS2, fS2⟩
    refine g_iret dX12_smear_49 rfl rfl ?_
    have q0 : zs_qe (S.1 82 2) e = false := zs_qeF h1
    exact ⟨_, rfl, jS2, fS2, fun _ => ex3, fun z => absurd z (by rw [q0]; exact Bool.false_ne_true)⟩
  · have h1 := zs_b1 h1
    refine g_iload_n dX12_smear_8 rfl rfl ?_
    refine g_i2l dX12_smear_9 rfl ?_
    refine g_lconst (v := 0) dX12_smear_10 (by decide) ?_
    refine g_ldc2 (v := 9) dX12_smear_11 cl_RX12_121 ?_
    refine g_callS [.long (Int32.toInt64 p), .long 0, .long 9] [] (z_in S p 0 9 (by decide) (by decide)) dX12_smear_14 kk_X12_smear_X12_in ml_RX12_54 swX12_in rfl rfl (Nat.le_of_ble_eq_true rfl) ?_
    rintro _ _ ⟨_, rfl, rfl, rfl⟩
    refine g_if_eq 45 dX12_smear_17 (by decide) (fun h6 => ?_) (fun h6 => ?_)
    · have h6 := zs_b0 h6
      refine g_aload_n dX12_smear_45 rfl rfl ?_
      refine g_callV (T := TX12) (NN := 19) [] (q_badW S hJ) dX12_smear_46 kk_X12_smear_X12_bad ml_RX12_62 mwX12_bad ewX12_bad (by decide) rfl rfl rfl rfl (Nat.le_of_ble_eq_true rfl) ?_
      rintro _ S7 ⟨x8, rfl, ex8, jS7, fS7⟩
      refine g_iret dX12_smear_49 rfl rfl ?_
      have q0 : zs_qe (S.1 82 2) e = true := zs_qeT h1
      have q1 : zs_q 0 9 p = false := zs_qF h6
      exact ⟨_, rfl, jS7, fS7, fun _ => ex8, fun z => absurd z (by rw [q0, q1]; exact Bool.false_ne_true)⟩
    · have h6 := zs_b1 h6
      obtain ⟨p', p'a, p'b, rfl⟩ := zs_rng h6 (by omega)
      refine g_iload_n dX12_smear_20 rfl rfl ?_
      refine g_i2l dX12_smear_21 rfl ?_
      refine g_lconst (v := 0) dX12_smear_22 (by decide) ?_
      refine g_ldc2 (v := 6) dX12_smear_23 cl_RX12_225 ?_
      refine g_callS [.long (Int32.toInt64 n), .long 0, .long 6] [] (z_in S n 0 6 (by decide) (by decide)) dX12_smear_26 kk_X12_smear_X12_in ml_RX12_54 swX12_in rfl rfl (Nat.le_of_ble_eq_true rfl) ?_
      rintro _ _ ⟨_, rfl, rfl, rfl⟩
      refine g_if_eq 45 dX12_smear_29 (by decide) (fun h11 => ?_) (fun h11 => ?_)
      · have h11 := zs_b0 h11
        refine g_aload_n dX12_smear_45 rfl rfl ?_
        refine g_callV (T := TX12) (NN := 19) [] (q_badW S hJ) dX12_smear_46 kk_X12_smear_X12_bad ml_RX12_62 mwX12_bad ewX12_bad (by decide) rfl rfl rfl rfl (Nat.le_of_ble_eq_true rfl) ?_
        rintro _ S12 ⟨x13, rfl, ex13, jS12, fS12⟩
        refine g_iret dX12_smear_49 rfl rfl ?_
        have q0 : zs_qe (S.1 82 2) e = true := zs_qeT h1
        have q1 : zs_q 0 9 (nI p') = true := zs_qN (by omega) (by omega) (by decide)
        have q2 : zs_q 0 6 n = false := zs_qF h11
        exact ⟨_, rfl, jS12, fS12, fun _ => ex13, fun z => absurd z (by rw [q0, q1, q2]; exact Bool.false_ne_true)⟩
      · have h11 := zs_b1 h11
        obtain ⟨n', n'a, n'b, rfl⟩ := zs_rng h11 (by omega)
        refine g_iload dX12_smear_32 rfl ?_
        refine g_i2l dX12_smear_34 rfl ?_
        refine g_lconst (v := 0) dX12_smear_35 (by decide) ?_
        refine g_ldc2 (v := 10) dX12_smear_36 cl_RX12_227 ?_
        refine g_callS [.long (Int32.toInt64 c), .long 0, .long 10] [] (z_in S c 0 10 (by decide) (by decide)) dX12_smear_39 kk_X12_smear_X12_in ml_RX12_54 swX12_in rfl rfl (Nat.le_of_ble_eq_true rfl) ?_
        rintro _ _ ⟨_, rfl, rfl, rfl⟩
        refine g_if_ne 50 dX12_smear_42 (by decide) (fun h16 => ?_) (fun h16 => ?_)
        · have h16 := zs_b1 h16
          obtain ⟨c', c'a, c'b, rfl⟩ := zs_rng h16 (by omega)
          have q0 : zs_qe (S.1 82 2) e = true := zs_qeT h1
          have q1 : zs_q 0 9 (nI p') = true := zs_qN (by omega) (by omega) (by decide)
          have q2 : zs_q 0 6 (nI n') = true := zs_qN (by omega) (by omega) (by decide)
          have q3 : zs_q 0 10 (nI c') = true := zs_qN (by omega) (by omega) (by decide)
          obtain ⟨k4, uk4, -, rfl⟩ := zs_eyk h1 hm h5
          refine g_lconst (v := lN 0) dX12_smear_50 rfl ?_
          refine g_lstore (lv' := [(5, .long (lN 0)), (0, .ref 80), (1, .int (nI k4)), (2, .int (nI p')), (3, .int (nI n')), (4, .int (nI c'))]) dX12_smear_51 (by decide) rfl ?_
          refine g_lconst (v := lN 0) dX12_smear_53 rfl ?_
          refine g_lstore (lv' := [(7, .long (lN 0)), (5, .long (lN 0)), (0, .ref 80), (1, .int (nI k4)), (2, .int (nI p')), (3, .int (nI n')), (4, .int (nI c'))]) dX12_smear_54 (by decide) rfl ?_
          refine g_iconst (v := (nI 0)) dX12_smear_56 rfl ?_
          refine g_istore (lv' := [(9, .int (nI 0)), (7, .long (lN 0)), (5, .long (lN 0)), (0, .ref 80), (1, .int (nI k4)), (2, .int (nI p')), (3, .int (nI n')), (4, .int (nI c'))]) dX12_smear_57 (by decide) rfl ?_
          exact (zs_Vlv_W (y_smear_o_1 k4 p' n' c' (by omega) (by omega) (by omega) (by omega) (2 ^ n') 0 (Nat.zero_add _) 0 0 (Nat.zero_le _) (Nat.zero_le _) (fun _ z => absurd z (by omega)) (fun _ z => absurd z (by have := zs_p2 n' (by omega); omega))) (zs_mc 0 rfl (zs_mc 1 rfl (zs_mc 2 rfl (zs_mc 3 rfl (zs_mc 4 rfl (zs_mc 5 rfl (zs_mc 6 rfl (zs_mc 7 rfl zs_mn)))))))) S hJ).mono (fun _ _ q => ⟨_, q.1, q.2.1, q.2.2, fun z => absurd z (by rw [q0, q1, q2, q3]; decide), fun _ => rfl⟩)
        · have h16 := zs_b0 h16
          refine g_aload_n dX12_smear_45 rfl rfl ?_
          refine g_callV (T := TX12) (NN := 19) [] (q_badW S hJ) dX12_smear_46 kk_X12_smear_X12_bad ml_RX12_62 mwX12_bad ewX12_bad (by decide) rfl rfl rfl rfl (Nat.le_of_ble_eq_true rfl) ?_
          rintro _ S17 ⟨x18, rfl, ex18, jS17, fS17⟩
          refine g_iret dX12_smear_49 rfl rfl ?_
          have q0 : zs_qe (S.1 82 2) e = true := zs_qeT h1
          have q1 : zs_q 0 9 (nI p') = true := zs_qN (by omega) (by omega) (by decide)
          have q2 : zs_q 0 6 (nI n') = true := zs_qN (by omega) (by omega) (by decide)
          have q3 : zs_q 0 10 c = false := zs_qF h16
          exact ⟨_, rfl, jS17, fS17, fun _ => ex18, fun z => absurd z (by rw [q0, q1, q2, q3]; exact Bool.false_ne_true)⟩
theorem zs_smE {ey ey2 e p n c x y : Int32} (he : ey2 = ey) (c1 : (((zs_qe ey e && (zs_q 0 9 p && (zs_q 0 6 n && (zs_q 0 10 c))))) = false → x = (-2)) ∧ (((zs_qe ey e && (zs_q 0 9 p && (zs_q 0 6 n && (zs_q 0 10 c))))) = true → x = nI 1)) (d : (((zs_qe ey2 e && (zs_q 0 9 p && (zs_q 0 6 n && (zs_q 0 10 c))))) = false → y = (-2)) ∧ (((zs_qe ey2 e && (zs_q 0 9 p && (zs_q 0 6 n && (zs_q 0 10 c))))) = true → y = nI 1)) : x = y := by
  subst he
  cases hb : (zs_qe ey2 e && (zs_q 0 9 p && (zs_q 0 6 n && (zs_q 0 10 c)))) with
  | false => exact (c1.1 hb).trans (d.1 hb).symm
  | true => exact (c1.2 hb).trans (d.2 hb).symm
