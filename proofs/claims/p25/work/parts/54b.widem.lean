set_option maxRecDepth 100000 in
theorem y_X12_eyesThat_W (a1 : Int32) : zs_U_W MX12_eyesThat [.ref 80, .int a1] zs_Ri := by
  refine zs_Vof_W (by decide) (Nat.le_of_ble_eq_true rfl) ?_
  show zs_V_W MX12_eyesThat 0 [(0, .ref 80), (1, .int a1)] [] zs_Ri
  have j4 : ∀ (n4 : Nat) (v4_2 : Int32) (c4 : Int32), zs_mu c4 < n4 → zs_V_W MX12_eyesThat 4 [(0, .ref 80), (1, .int a1), (2, .int v4_2), (3, .int c4)] [] zs_Ri := by
    intro n4
    induction n4 with
    | zero => intro v4_2 c4 hn4; exact absurd hn4 (Nat.not_lt_zero _)
    | succ n4 ih4 =>
      intro v4_2 c4 hn4
      have j110 : zs_mu (c4 + Int32.ofInt 1) < n4 → ∀ (v110_2 : Int32) (v110_4 : Int32) (v110_5 : Int32) (s110_0 : Int32) (s110_1 : Int32), zs_V_W MX12_eyesThat 110 [(0, .ref 80), (1, .int a1), (2, .int v110_2), (3, .int c4), (4, .int v110_4), (5, .int v110_5)] [.int s110_0, .int s110_1] zs_Ri := by
        intro hd4 v110_2 v110_4 v110_5 s110_0 s110_1
        refine n_ior_W dX12_eyesThat_110 (fun x1 => ?_)
        refine n_istore_n_W (lv' := [(2, .int x1), (0, .ref 80), (1, .int a1), (3, .int c4), (4, .int v110_4), (5, .int v110_5)]) dX12_eyesThat_111 rfl (by decide) rfl ?_
        refine n_iinc_W (v := (c4 + Int32.ofInt 1)) (lv' := [(3, .int (c4 + Int32.ofInt 1)), (2, .int x1), (0, .ref 80), (1, .int a1), (4, .int v110_4), (5, .int v110_5)]) dX12_eyesThat_112 rfl rfl (by decide) rfl ?_
        refine n_goto_W 4 dX12_eyesThat_115 (by decide) ?_
        exact zs_Vlv_W (ih4 x1 (c4 + Int32.ofInt 1) hd4) (zs_mc 2 rfl (zs_mc 3 rfl (zs_mc 1 rfl (zs_mc 0 rfl zs_mn))))
      have j16 : zs_mu (c4 + Int32.ofInt 1) < n4 → ∀ (n16 : Nat) (v16_2 : Int32) (v16_4 : Int32) (c16 : Nat), 0 ≤ c16 → c16 ≤ 6 → 6 - c16 < n16 → zs_V_W MX12_eyesThat 16 [(0, .ref 80), (1, .int a1), (2, .int v16_2), (3, .int c4), (4, .int v16_4), (5, .int (nI c16))] [] zs_Ri := by
        intro hd4 n16
        induction n16 with
        | zero => intro v16_2 v16_4 c16 lc16 uc16 hn16; exact absurd hn16 (Nat.not_lt_zero _)
        | succ n16 ih16 =>
          intro v16_2 v16_4 c16 lc16 uc16 hn16
          have j89 : zs_mu (c4 + Int32.ofInt 1) < n4 → c16 + 1 ≤ 6 → ∀ (v89_2 : Int32) (v89_4 : Int32) (s89_0 : Int32), zs_V_W MX12_eyesThat 89 [(0, .ref 80), (1, .int a1), (2, .int v89_2), (3, .int c4), (4, .int v89_4), (5, .int (nI c16))] [.int s89_0] zs_Ri := by
            intro hd4 hd16 v89_2 v89_4 s89_0
            refine n_istore_W (lv' := [(4, .int s89_0), (0, .ref 80), (1, .int a1), (2, .int v89_2), (3, .int c4), (5, .int (nI c16))]) dX12_eyesThat_89 (by decide) rfl ?_
            refine n_iinc_W (v := (nI (c16 + 1))) (lv' := [(5, .int (nI (c16 + 1))), (4, .int s89_0), (0, .ref 80), (1, .int a1), (2, .int v89_2), (3, .int c4)]) dX12_eyesThat_91 rfl (nI_1 c16) (by decide) rfl ?_
            refine n_goto_W 16 dX12_eyesThat_94 (by decide) ?_
            exact zs_Vlv_W (ih16 v89_2 s89_0 (c16 + 1) (by omega) (by omega) (by omega)) (zs_mc 2 rfl (zs_mc 3 rfl (zs_mc 4 rfl (zs_mc 5 rfl (zs_mc 1 rfl (zs_mc 0 rfl zs_mn))))))
          have j88 : zs_mu (c4 + Int32.ofInt 1) < n4 → c16 + 1 ≤ 6 → ∀ (v88_2 : Int32) (v88_4 : Int32), zs_V_W MX12_eyesThat 88 [(0, .ref 80), (1, .int a1), (2, .int v88_2), (3, .int c4), (4, .int v88_4), (5, .int (nI c16))] [] zs_Ri := by
            intro hd4 hd16 v88_2 v88_4
            refine n_iconst_W (v := (nI 0)) dX12_eyesThat_88 rfl ?_
            exact j89 hd4 (by omega) v88_2 v88_4 (nI 0)
          have j84 : zs_mu (c4 + Int32.ofInt 1) < n4 → c16 + 1 ≤ 6 → ∀ (v84_2 : Int32) (v84_4 : Int32), zs_V_W MX12_eyesThat 84 [(0, .ref 80), (1, .int a1), (2, .int v84_2), (3, .int c4), (4, .int v84_4), (5, .int (nI c16))] [] zs_Ri := by
            intro hd4 hd16 v84_2 v84_4
            refine n_iconst_W (v := (nI 1)) dX12_eyesThat_84 rfl ?_
            refine n_goto_W 89 dX12_eyesThat_85 (by decide) ?_
            exact j89 hd4 (by omega) v84_2 v84_4 (nI 1)
          refine n_iload_W dX12_eyesThat_16 rfl ?_
          refine n_aload_n_W dX12_eyesThat_18 rfl rfl ?_
          refine n_getR_W 1 82 (C := RX12) (T := TX12) (N := 19) dX12_eyesThat_19 (by decide) rfl rfl (by decide) rfl fl_RX12_13 ?_
          refine n_bipush_W (v := (nI 21)) dX12_eyesThat_22 rfl ?_
          refine n_aldR_W (lo := 0) (up := 6) dX12_eyesThat_24 (by decide) rfl (by omega) (by decide) rfl (fun m2 hm2 km2 => ?_)
          refine n_ic_geN_W 97 dX12_eyesThat_25 (by decide) (by omega) (by omega) (fun h3 => ?_) (fun h3 => ?_)
          · refine n_iload_n_W dX12_eyesThat_97 rfl rfl ?_
            refine n_iload_W dX12_eyesThat_98 rfl ?_
            refine n_if_eq_W 109 dX12_eyesThat_100 (by decide) (fun h4 => ?_) (fun h4 => ?_)
            · refine n_iconst_W (v := (nI 0)) dX12_eyesThat_109 rfl ?_
              exact j110 hd4 v16_2 v16_4 (nI c16) (nI 0) v16_2
            · refine n_iconst_W (v := (nI 1)) dX12_eyesThat_103 rfl ?_
              refine n_iload_n_W dX12_eyesThat_104 rfl rfl ?_
              refine n_ishl_W dX12_eyesThat_105 (fun x5 => ?_)
              refine n_goto_W 110 dX12_eyesThat_106 (by decide) ?_
              exact j110 hd4 v16_2 v16_4 (nI c16) x5 v16_2
          · refine n_iload_W dX12_eyesThat_28 rfl ?_
            refine n_if_eq_W 88 dX12_eyesThat_30 (by decide) (fun h6 => ?_) (fun h6 => ?_)
            · exact j88 hd4 (by omega) v16_2 v16_4
            · refine n_aload_n_W dX12_eyesThat_33 rfl rfl ?_
              refine n_getR_W 1 82 (C := RX12) (T := TX12) (N := 19) dX12_eyesThat_34 (by decide) rfl rfl (by decide) rfl fl_RX12_13 ?_
              refine n_bipush_W (v := (nI 22)) dX12_eyesThat_37 rfl ?_
              refine n_iload_W dX12_eyesThat_39 rfl ?_
              refine n_iaddN_W dX12_eyesThat_41 ?_
              refine n_ald_W dX12_eyesThat_42 (by decide) rfl (by omega) (by decide) (fun x7 => ?_)
              refine n_iload_n_W dX12_eyesThat_43 rfl rfl ?_
              refine n_ic_ne_W 84 dX12_eyesThat_44 (by decide) (fun h8 => ?_) (fun h8 => ?_)
              · exact j84 hd4 (by omega) v16_2 v16_4
              · refine n_iload_n_W dX12_eyesThat_47 rfl rfl ?_
                refine n_aload_n_W dX12_eyesThat_48 rfl rfl ?_
                refine n_getR_W 1 82 (C := RX12) (T := TX12) (N := 19) dX12_eyesThat_49 (by decide) rfl rfl (by decide) rfl fl_RX12_13 ?_
                refine n_bipush_W (v := (nI 28)) dX12_eyesThat_52 rfl ?_
                refine n_iload_W dX12_eyesThat_54 rfl ?_
                refine n_iaddN_W dX12_eyesThat_56 ?_
                refine n_ald_W dX12_eyesThat_57 (by decide) rfl (by omega) (by decide) (fun x9 => ?_)
                refine n_aload_n_W dX12_eyesThat_58 rfl rfl ?_
                refine n_getR_W 1 82 (C := RX12) (T := TX12) (N := 19) dX12_eyesThat_59 (by decide) rfl rfl (by decide) rfl fl_RX12_13 ?_
                refine n_bipush_W (v := (nI 34)) dX12_eyesThat_62 rfl ?_
                refine n_iload_W dX12_eyesThat_64 rfl ?_
                refine n_iaddN_W dX12_eyesThat_66 ?_
                refine n_ald_W dX12_eyesThat_67 (by decide) rfl (by omega) (by decide) (fun x10 => ?_)
                refine n_callS_W [.int c4, .int x9, .int x10] [] (y_X12_looks_W c4 x9 x10) dX12_eyesThat_68 kk_X12_eyesThat_X12_looks ml_RX12_166 swX12_looks rfl rfl (Nat.le_of_ble_eq_true rfl) ?_
                rintro _ ⟨x11, rfl⟩
                refine n_aload_n_W dX12_eyesThat_71 rfl rfl ?_
                refine n_getR_W 1 82 (C := RX12) (T := TX12) (N := 19) dX12_eyesThat_72 (by decide) rfl rfl (by decide) rfl fl_RX12_13 ?_
                refine n_bipush_W (v := (nI 40)) dX12_eyesThat_75 rfl ?_
                refine n_iload_W dX12_eyesThat_77 rfl ?_
                refine n_iaddN_W dX12_eyesThat_79 ?_
                refine n_ald_W dX12_eyesThat_80 (by decide) rfl (by omega) (by decide) (fun x12 => ?_)
                refine n_ic_ne_W 88 dX12_eyesThat_81 (by decide) (fun h13 => ?_) (fun h13 => ?_)
                · exact j88 hd4 (by omega) v16_2 v16_4
                · exact j84 hd4 (by omega) v16_2 v16_4
      refine n_iload_n_W dX12_eyesThat_4 rfl rfl ?_
      refine n_bipush_W (v := (nI 6)) dX12_eyesThat_5 rfl ?_
      refine n_ic_ge_W 118 dX12_eyesThat_7 (by decide) (fun h14 => ?_) (fun h14 => ?_)
      · refine n_iload_n_W dX12_eyesThat_118 rfl rfl ?_
        exact n_iret_W dX12_eyesThat_119 rfl rfl ⟨_, rfl⟩
      · have hd4 := zs_muA h14 hn4
        refine n_iconst_W (v := (nI 1)) dX12_eyesThat_10 rfl ?_
        refine n_istore_W (lv' := [(4, .int (nI 1)), (0, .ref 80), (1, .int a1), (2, .int v4_2), (3, .int c4)]) dX12_eyesThat_11 (by decide) rfl ?_
        refine n_iconst_W (v := (nI 0)) dX12_eyesThat_13 rfl ?_
        refine n_istore_W (lv' := [(5, .int (nI 0)), (4, .int (nI 1)), (0, .ref 80), (1, .int a1), (2, .int v4_2), (3, .int c4)]) dX12_eyesThat_14 (by decide) rfl ?_
        exact zs_Vlv_W (j16 hd4 _ v4_2 (nI 1) 0 (by omega) (by omega) (Nat.lt_succ_self _)) (zs_mc 2 rfl (zs_mc 3 rfl (zs_mc 4 rfl (zs_mc 5 rfl (zs_mc 1 rfl (zs_mc 0 rfl zs_mn))))))
  refine n_iconst_W (v := (nI 0)) dX12_eyesThat_0 rfl ?_
  refine n_istore_n_W (lv' := [(2, .int (nI 0)), (0, .ref 80), (1, .int a1)]) dX12_eyesThat_1 rfl (by decide) rfl ?_
  refine n_iconst_W (v := (nI 0)) dX12_eyesThat_2 rfl ?_
  refine n_istore_n_W (lv' := [(3, .int (nI 0)), (2, .int (nI 0)), (0, .ref 80), (1, .int a1)]) dX12_eyesThat_3 rfl (by decide) rfl ?_
  exact zs_Vlv_W (j4 _ (nI 0) (nI 0) (Nat.lt_succ_self _)) (zs_mc 2 rfl (zs_mc 3 rfl (zs_mc 1 rfl (zs_mc 0 rfl zs_mn))))
set_option maxRecDepth 100000 in
theorem y_X12_is_W (a1 : Int32) : zs_U_W MX12_is [.ref 80, .int a1] zs_Ri := by
  refine zs_Vof_W (by decide) (Nat.le_of_ble_eq_true rfl) ?_
  show zs_V_W MX12_is 0 [(0, .ref 80), (1, .int a1)] [] zs_Ri
  refine n_aload_n_W dX12_is_0 rfl rfl ?_
  refine n_iload_n_W dX12_is_1 rfl rfl ?_
  refine n_callV_W (T := TX12) (NN := 19) [] (y_isEye_W a1) dX12_is_2 kk_X12_is_X12_isEye ml_RX12_185 mwX12_isEye ewX12_isEye (by decide) rfl rfl rfl rfl (Nat.le_of_ble_eq_true rfl) ?_
  rintro _ ⟨x1, rfl, bx1, fx1⟩
  refine n_if_eq_W 16 dX12_is_5 (by decide) (fun h2 => ?_) (fun h2 => ?_)
  · refine n_aload_n_W dX12_is_16 rfl rfl ?_
    refine n_callV_W (T := TX12) (NN := 19) [] (y_X12_bad_W) dX12_is_17 kk_X12_is_X12_bad ml_RX12_62 mwX12_bad ewX12_bad (by decide) rfl rfl rfl rfl (Nat.le_of_ble_eq_true rfl) ?_
    rintro _ ⟨x3, rfl⟩
    exact n_iret_W dX12_is_20 rfl rfl ⟨_, rfl⟩
  · obtain ⟨k4, uk4, rfl⟩ := fx1 h2
    refine n_aload_n_W dX12_is_8 rfl rfl ?_
    refine n_iload_n_W dX12_is_9 rfl rfl ?_
    refine n_callV_W (T := TX12) (NN := 19) [] (y_X12_eyesThat_W (nI k4)) dX12_is_10 kk_X12_is_X12_eyesThat ml_RX12_212 mwX12_eyesThat ewX12_eyesThat (by decide) rfl rfl rfl rfl (Nat.le_of_ble_eq_true rfl) ?_
    rintro _ ⟨x5, rfl⟩
    refine n_goto_W 20 dX12_is_13 (by decide) ?_
    exact n_iret_W dX12_is_20 rfl rfl ⟨_, rfl⟩
set_option maxRecDepth 100000 in
theorem y_X12_has_W (a1 : Int32) (a2 : Int32) : zs_U_W MX12_has [.int a1, .int a2] zs_Rb := by
  refine zs_Vof_W (by decide) (Nat.le_of_ble_eq_true rfl) ?_
  show zs_V_W MX12_has 0 [(0, .int a1), (1, .int a2)] [] zs_Rb
  refine n_iload_n_W dX12_has_0 rfl rfl ?_
  refine n_iload_n_W dX12_has_1 rfl rfl ?_
  refine n_ishr_W dX12_has_2 (fun x1 => ?_)
  refine n_iconst_W (v := (nI 1)) dX12_has_3 rfl ?_
  refine n_iand_W dX12_has_4 (fun x2 => ?_)
  refine n_iconst_W (v := (nI 1)) dX12_has_5 rfl ?_
  refine n_ic_ne_W 13 dX12_has_6 (by decide) (fun h3 => ?_) (fun h3 => ?_)
  · refine n_iconst_W (v := (nI 0)) dX12_has_13 rfl ?_
    exact n_iret_W dX12_has_14 rfl rfl ⟨_, rfl, rfl⟩
  · refine n_iconst_W (v := (nI 1)) dX12_has_9 rfl ?_
    refine n_goto_W 14 dX12_has_10 (by decide) ?_
    exact n_iret_W dX12_has_14 rfl rfl ⟨_, rfl, rfl⟩
set_option maxRecDepth 100000 in
theorem y_X12_look_W (a1 : Int32) : zs_U_W MX12_look [.ref 80, .int a1] zs_Ri := by
  refine zs_Vof_W (by decide) (Nat.le_of_ble_eq_true rfl) ?_
  show zs_V_W MX12_look 0 [(0, .ref 80), (1, .int a1)] [] zs_Ri
  refine n_aload_n_W dX12_look_0 rfl rfl ?_
  refine n_iload_n_W dX12_look_1 rfl rfl ?_
  refine n_callV_W (T := TX12) (NN := 19) [] (y_isEye_W a1) dX12_look_2 kk_X12_look_X12_isEye ml_RX12_185 mwX12_isEye ewX12_isEye (by decide) rfl rfl rfl rfl (Nat.le_of_ble_eq_true rfl) ?_
  rintro _ ⟨x1, rfl, bx1, fx1⟩
  refine n_if_ne_W 13 dX12_look_5 (by decide) (fun h2 => ?_) (fun h2 => ?_)
  · obtain ⟨k3, uk3, rfl⟩ := fx1 h2
    have j28 : ∀ (n28 : Nat) (v28_2 : Int32) (v28_3 : Int32) (v28_4 : Int32) (c28 : Int32), zs_mu c28 < n28 → zs_V_W MX12_look 28 [(0, .ref 80), (1, .int (nI k3)), (2, .int v28_2), (3, .int v28_3), (4, .int v28_4), (5, .int c28)] [] zs_Ri := by
      intro n28
      induction n28 with
      | zero => intro v28_2 v28_3 v28_4 c28 hn28; exact absurd hn28 (Nat.not_lt_zero _)
      | succ n28 ih28 =>
        intro v28_2 v28_3 v28_4 c28 hn28
        have j182 : zs_mu (c28 + Int32.ofInt 1) < n28 → ∀ (v182_2 : Int32) (v182_3 : Int32) (v182_4 : Int32) (v182_6 : Int32) (v182_7 : Int32) (s182_0 : Int32), zs_V_W MX12_look 182 [(0, .ref 80), (1, .int (nI k3)), (2, .int v182_2), (3, .int v182_3), (4, .int v182_4), (5, .int c28), (6, .int v182_6), (7, .int v182_7)] [.int s182_0] zs_Ri := by
          intro hd28 v182_2 v182_3 v182_4 v182_6 v182_7 s182_0
          refine n_istore_W (lv' := [(4, .int s182_0), (0, .ref 80), (1, .int (nI k3)), (2, .int v182_2), (3, .int v182_3), (5, .int c28), (6, .int v182_6), (7, .int v182_7)]) dX12_look_182 (by decide) rfl ?_
          refine n_iinc_W (v := (c28 + Int32.ofInt 1)) (lv' := [(5, .int (c28 + Int32.ofInt 1)), (4, .int s182_0), (0, .ref 80), (1, .int (nI k3)), (2, .int v182_2), (3, .int v182_3), (6, .int v182_6), (7, .int v182_7)]) dX12_look_184 rfl rfl (by decide) rfl ?_
          refine n_goto_W 28 dX12_look_187 (by decide) ?_
          exact zs_Vlv_W (ih28 v182_2 v182_3 s182_0 (c28 + Int32.ofInt 1) hd28) (zs_mc 2 rfl (zs_mc 3 rfl (zs_mc 4 rfl (zs_mc 5 rfl (zs_mc 1 rfl (zs_mc 0 rfl zs_mn))))))
        have j167 : zs_mu (c28 + Int32.ofInt 1) < n28 → ∀ (v167_2 : Int32) (v167_3 : Int32) (v167_4 : Int32) (v167_6 : Int32) (v167_7 : Int32) (s167_0 : Int32), zs_V_W MX12_look 167 [(0, .ref 80), (1, .int (nI k3)), (2, .int v167_2), (3, .int v167_3), (4, .int v167_4), (5, .int c28), (6, .int v167_6), (7, .int v167_7)] [.int s167_0] zs_Ri := by
          intro hd28 v167_2 v167_3 v167_4 v167_6 v167_7 s167_0
          refine n_istore_n_W (lv' := [(3, .int s167_0), (0, .ref 80), (1, .int (nI k3)), (2, .int v167_2), (4, .int v167_4), (5, .int c28), (6, .int v167_6), (7, .int v167_7)]) dX12_look_167 rfl (by decide) rfl ?_
          refine n_iload_W dX12_look_168 rfl ?_
          refine n_iload_W dX12_look_170 rfl ?_
          refine n_ic_ge_W 180 dX12_look_172 (by decide) (fun h4 => ?_) (fun h4 => ?_)
          · refine n_iload_W dX12_look_180 rfl ?_
            exact zs_Vlv_W (j182 hd28 v167_2 s167_0 v167_4 v167_6 v167_7 v167_4) (zs_mc 1 rfl (zs_mc 2 rfl (zs_mc 3 rfl (zs_mc 0 rfl (zs_mc 4 rfl (zs_mc 5 rfl (zs_mc 6 rfl (zs_mc 7 rfl zs_mn))))))))
          · refine n_iload_W dX12_look_175 rfl ?_
            refine n_goto_W 182 dX12_look_177 (by decide) ?_
            exact zs_Vlv_W (j182 hd28 v167_2 s167_0 v167_4 v167_6 v167_7 v167_6) (zs_mc 1 rfl (zs_mc 2 rfl (zs_mc 3 rfl (zs_mc 0 rfl (zs_mc 4 rfl (zs_mc 5 rfl (zs_mc 6 rfl (zs_mc 7 rfl zs_mn))))))))
        have j45 : zs_mu (c28 + Int32.ofInt 1) < n28 → ∀ (n45 : Nat) (v45_2 : Int32) (v45_3 : Int32) (v45_4 : Int32) (v45_6 : Int32) (c45 : Int32), zs_mu c45 < n45 → zs_V_W MX12_look 45 [(0, .ref 80), (1, .int (nI k3)), (2, .int v45_2), (3, .int v45_3), (4, .int v45_4), (5, .int c28), (6, .int v45_6), (7, .int c45)] [] zs_Ri := by
          intro hd28 n45
          induction n45 with
          | zero => intro v45_2 v45_3 v45_4 v45_6 c45 hn45; exact absurd hn45 (Nat.not_lt_zero _)
          | succ n45 ih45 =>
            intro v45_2 v45_3 v45_4 v45_6 c45 hn45
            have j146 : zs_mu (c28 + Int32.ofInt 1) < n28 → zs_mu (c45 + Int32.ofInt 1) < n45 → ∀ (v146_2 : Int32) (v146_3 : Int32) (v146_4 : Int32) (v146_6 : Int32) (v146_8 : Int32) (v146_9 : Int32) (s146_0 : Int32), zs_V_W MX12_look 146 [(0, .ref 80), (1, .int (nI k3)), (2, .int v146_2), (3, .int v146_3), (4, .int v146_4), (5, .int c28), (6, .int v146_6), (7, .int c45), (8, .int v146_8), (9, .int v146_9)] [.int s146_0] zs_Ri := by
              intro hd28 hd45 v146_2 v146_3 v146_4 v146_6 v146_8 v146_9 s146_0
              refine n_istore_W (lv' := [(6, .int s146_0), (0, .ref 80), (1, .int (nI k3)), (2, .int v146_2), (3, .int v146_3), (4, .int v146_4), (5, .int c28), (7, .int c45), (8, .int v146_8), (9, .int v146_9)]) dX12_look_146 (by decide) rfl ?_
              refine n_iinc_W (v := (c45 + Int32.ofInt 1)) (lv' := [(7, .int (c45 + Int32.ofInt 1)), (6, .int s146_0), (0, .ref 80), (1, .int (nI k3)), (2, .int v146_2), (3, .int v146_3), (4, .int v146_4), (5, .int c28), (8, .int v146_8), (9, .int v146_9)]) dX12_look_148 rfl rfl (by decide) rfl ?_
              refine n_goto_W 45 dX12_look_151 (by decide) ?_
              exact zs_Vlv_W (ih45 v146_2 v146_3 v146_4 s146_0 (c45 + Int32.ofInt 1) hd45) (zs_mc 2 rfl (zs_mc 3 rfl (zs_mc 4 rfl (zs_mc 5 rfl (zs_mc 6 rfl (zs_mc 7 rfl (zs_mc 1 rfl (zs_mc 0 rfl zs_mn))))))))
            have j58 : zs_mu (c28 + Int32.ofInt 1) < n28 → zs_mu (c45 + Int32.ofInt 1) < n45 → ∀ (n58 : Nat) (v58_2 : Int32) (v58_3 : Int32) (v58_4 : Int32) (v58_6 : Int32) (v58_8 : Int32) (c58 : Int32), zs_mu c58 < n58 → zs_V_W MX12_look 58 [(0, .ref 80), (1, .int (nI k3)), (2, .int v58_2), (3, .int v58_3), (4, .int v58_4), (5, .int c28), (6, .int v58_6), (7, .int c45), (8, .int v58_8), (9, .int c58)] [] zs_Ri := by
              intro hd28 hd45 n58
              induction n58 with
              | zero => intro v58_2 v58_3 v58_4 v58_6 v58_8 c58 hn58; exact absurd hn58 (Nat.not_lt_zero _)
              | succ n58 ih58 =>
                intro v58_2 v58_3 v58_4 v58_6 v58_8 c58 hn58
                have j123 : zs_mu (c28 + Int32.ofInt 1) < n28 → zs_mu (c45 + Int32.ofInt 1) < n45 → zs_mu (c58 + Int32.ofInt 1) < n58 → ∀ (v123_2 : Int32) (v123_3 : Int32) (v123_4 : Int32) (v123_6 : Int32) (v123_8 : Int32) (s123_0 : Int32) (s123_1 : Int32), zs_V_W MX12_look 123 [(0, .ref 80), (1, .int (nI k3)), (2, .int v123_2), (3, .int v123_3), (4, .int v123_4), (5, .int c28), (6, .int v123_6), (7, .int c45), (8, .int v123_8), (9, .int c58)] [.int s123_0, .int s123_1] zs_Ri := by
                  intro hd28 hd45 hd58 v123_2 v123_3 v123_4 v123_6 v123_8 s123_0 s123_1
                  refine n_iadd_W dX12_look_123 (fun x5 => ?_)
                  refine n_istore_W (lv' := [(8, .int x5), (0, .ref 80), (1, .int (nI k3)), (2, .int v123_2), (3, .int v123_3), (4, .int v123_4), (5, .int c28), (6, .int v123_6), (7, .int c45), (9, .int c58)]) dX12_look_124 (by decide) rfl ?_
                  refine n_iinc_W (v := (c58 + Int32.ofInt 1)) (lv' := [(9, .int (c58 + Int32.ofInt 1)), (8, .int x5), (0, .ref 80), (1, .int (nI k3)), (2, .int v123_2), (3, .int v123_3), (4, .int v123_4), (5, .int c28), (6, .int v123_6), (7, .int c45)]) dX12_look_126 rfl rfl (by decide) rfl ?_
                  refine n_goto_W 58 dX12_look_129 (by decide) ?_
                  exact zs_Vlv_W (ih58 v123_2 v123_3 v123_4 v123_6 x5 (c58 + Int32.ofInt 1) hd58) (zs_mc 2 rfl (zs_mc 3 rfl (zs_mc 4 rfl (zs_mc 5 rfl (zs_mc 6 rfl (zs_mc 7 rfl (zs_mc 8 rfl (zs_mc 9 rfl (zs_mc 1 rfl (zs_mc 0 rfl zs_mn))))))))))
                have j122 : zs_mu (c28 + Int32.ofInt 1) < n28 → zs_mu (c45 + Int32.ofInt 1) < n45 → zs_mu (c58 + Int32.ofInt 1) < n58 → ∀ (v122_2 : Int32) (v122_3 : Int32) (v122_4 : Int32) (v122_6 : Int32) (v122_8 : Int32) (s122_0 : Int32), zs_V_W MX12_look 122 [(0, .ref 80), (1, .int (nI k3)), (2, .int v122_2), (3, .int v122_3), (4, .int v122_4), (5, .int c28), (6, .int v122_6), (7, .int c45), (8, .int v122_8), (9, .int c58)] [.int s122_0] zs_Ri := by
                  intro hd28 hd45 hd58 v122_2 v122_3 v122_4 v122_6 v122_8 s122_0
                  refine n_iconst_W (v := (nI 0)) dX12_look_122 rfl ?_
                  exact j123 hd28 hd45 hd58 v122_2 v122_3 v122_4 v122_6 v122_8 (nI 0) s122_0
                refine n_iload_W dX12_look_58 rfl ?_
                refine n_bipush_W (v := (nI 6)) dX12_look_60 rfl ?_
                refine n_ic_ge_W 132 dX12_look_62 (by decide) (fun h6 => ?_) (fun h6 => ?_)
                · refine n_iload_W dX12_look_132 rfl ?_
                  refine n_iload_W dX12_look_134 rfl ?_
                  refine n_ic_le_W 144 dX12_look_136 (by decide) (fun h7 => ?_) (fun h7 => ?_)
                  · refine n_iload_W dX12_look_144 rfl ?_
                    exact j146 hd28 hd45 v58_2 v58_3 v58_4 v58_6 v58_8 c58 v58_6
                  · refine n_iload_W dX12_look_139 rfl ?_
                    refine n_goto_W 146 dX12_look_141 (by decide) ?_
                    exact j146 hd28 hd45 v58_2 v58_3 v58_4 v58_6 v58_8 c58 v58_8
                · have hd58 := zs_muA h6 hn58
                  refine n_iload_W dX12_look_65 rfl ?_
                  refine n_iload_n_W dX12_look_67 rfl rfl ?_
                  refine n_iload_W dX12_look_68 rfl ?_
                  refine n_callS_W [.int v58_2, .int c45] [.int v58_8] (y_X12_has_W v58_2 c45) dX12_look_70 kk_X12_look_X12_has ml_RX12_215 swX12_has rfl rfl (Nat.le_of_ble_eq_true rfl) ?_
                  rintro _ ⟨x8, rfl, bx8⟩
                  refine n_if_eq_W 122 dX12_look_73 (by decide) (fun h9 => ?_) (fun h9 => ?_)
                  · exact j122 hd28 hd45 hd58 v58_2 v58_3 v58_4 v58_6 v58_8 v58_8
                  · refine n_iload_n_W dX12_look_76 rfl rfl ?_
                    refine n_iload_W dX12_look_77 rfl ?_
                    refine n_callS_W [.int v58_2, .int c58] [.int v58_8] (y_X12_has_W v58_2 c58) dX12_look_79 kk_X12_look_X12_has ml_RX12_215 swX12_has rfl rfl (Nat.le_of_ble_eq_true rfl) ?_
                    rintro _ ⟨x10, rfl, bx10⟩
                    refine n_if_eq_W 122 dX12_look_82 (by decide) (fun h11 => ?_) (fun h11 => ?_)
                    · exact j122 hd28 hd45 hd58 v58_2 v58_3 v58_4 v58_6 v58_8 v58_8
                    · refine n_iload_W dX12_look_85 rfl ?_
                      refine n_iload_W dX12_look_87 rfl ?_
                      refine n_bipush_W (v := (nI 10)) dX12_look_89 rfl ?_
                      refine n_idiv_W dX12_look_91 (by decide) (fun x12 => ?_)
                      refine n_iload_W dX12_look_92 rfl ?_
                      refine n_bipush_W (v := (nI 10)) dX12_look_94 rfl ?_
                      refine n_irem_W dX12_look_96 (by decide) (fun x13 => ?_)
                      refine n_callS_W [.int c45, .int x12, .int x13] [.int v58_8] (y_X12_looks_W c45 x12 x13) dX12_look_97 kk_X12_look_X12_looks ml_RX12_166 swX12_looks rfl rfl (Nat.le_of_ble_eq_true rfl) ?_
                      rintro _ ⟨x14, rfl⟩
                      refine n_iload_W dX12_look_100 rfl ?_
                      refine n_iload_W dX12_look_102 rfl ?_
                      refine n_bipush_W (v := (nI 10)) dX12_look_104 rfl ?_
                      refine n_idiv_W dX12_look_106 (by decide) (fun x15 => ?_)
                      refine n_iload_W dX12_look_107 rfl ?_
                      refine n_bipush_W (v := (nI 10)) dX12_look_109 rfl ?_
                      refine n_irem_W dX12_look_111 (by decide) (fun x16 => ?_)
                      refine n_callS_W [.int c58, .int x15, .int x16] [.int x14, .int v58_8] (y_X12_looks_W c58 x15 x16) dX12_look_112 kk_X12_look_X12_looks ml_RX12_166 swX12_looks rfl rfl (Nat.le_of_ble_eq_true rfl) ?_
                      rintro _ ⟨x17, rfl⟩
                      refine n_ic_ne_W 122 dX12_look_115 (by decide) (fun h18 => ?_) (fun h18 => ?_)
                      · exact j122 hd28 hd45 hd58 v58_2 v58_3 v58_4 v58_6 v58_8 v58_8
                      · refine n_iconst_W (v := (nI 1)) dX12_look_118 rfl ?_
                        refine n_goto_W 123 dX12_look_119 (by decide) ?_
                        exact j123 hd28 hd45 hd58 v58_2 v58_3 v58_4 v58_6 v58_8 (nI 1) v58_8
            refine n_iload_W dX12_look_45 rfl ?_
            refine n_bipush_W (v := (nI 6)) dX12_look_47 rfl ?_
            refine n_ic_ge_W 154 dX12_look_49 (by decide) (fun h19 => ?_) (fun h19 => ?_)
            · refine n_iload_W dX12_look_154 rfl ?_
              refine n_iload_W dX12_look_156 rfl ?_
              refine n_ic_ge_W 166 dX12_look_158 (by decide) (fun h20 => ?_) (fun h20 => ?_)
              · refine n_iload_n_W dX12_look_166 rfl rfl ?_
                exact j167 hd28 v45_2 v45_3 v45_4 v45_6 c45 v45_3
              · refine n_iload_W dX12_look_161 rfl ?_
                refine n_goto_W 167 dX12_look_163 (by decide) ?_
                exact j167 hd28 v45_2 v45_3 v45_4 v45_6 c45 c28
            · have hd45 := zs_muA h19 hn45
              refine n_iconst_W (v := (nI 0)) dX12_look_52 rfl ?_
              refine n_istore_W (lv' := [(8, .int (nI 0)), (0, .ref 80), (1, .int (nI k3)), (2, .int v45_2), (3, .int v45_3), (4, .int v45_4), (5, .int c28), (6, .int v45_6), (7, .int c45)]) dX12_look_53 (by decide) rfl ?_
              refine n_iconst_W (v := (nI 0)) dX12_look_55 rfl ?_
              refine n_istore_W (lv' := [(9, .int (nI 0)), (8, .int (nI 0)), (0, .ref 80), (1, .int (nI k3)), (2, .int v45_2), (3, .int v45_3), (4, .int v45_4), (5, .int c28), (6, .int v45_6), (7, .int c45)]) dX12_look_56 (by decide) rfl ?_
              exact zs_Vlv_W (j58 hd28 hd45 _ v45_2 v45_3 v45_4 v45_6 (nI 0) (nI 0) (Nat.lt_succ_self _)) (zs_mc 2 rfl (zs_mc 3 rfl (zs_mc 4 rfl (zs_mc 5 rfl (zs_mc 6 rfl (zs_mc 7 rfl (zs_mc 8 rfl (zs_mc 9 rfl (zs_mc 1 rfl (zs_mc 0 rfl zs_mn))))))))))
        refine n_iload_W dX12_look_28 rfl ?_
        refine n_bipush_W (v := (nI 100)) dX12_look_30 rfl ?_
        refine n_ic_ge_W 190 dX12_look_32 (by decide) (fun h21 => ?_) (fun h21 => ?_)
        · refine n_iload_n_W dX12_look_190 rfl rfl ?_
          exact n_iret_W dX12_look_191 rfl rfl ⟨_, rfl⟩
        · have hd28 := zs_muA h21 hn28
          refine n_iload_n_W dX12_look_35 rfl rfl ?_
          refine n_if_le_W 190 dX12_look_36 (by decide) (fun h22 => ?_) (fun h22 => ?_)
          · refine n_iload_n_W dX12_look_190 rfl rfl ?_
            exact n_iret_W dX12_look_191 rfl rfl ⟨_, rfl⟩
          · refine n_iconst_W (v := (nI 0)) dX12_look_39 rfl ?_
            refine n_istore_W (lv' := [(6, .int (nI 0)), (0, .ref 80), (1, .int (nI k3)), (2, .int v28_2), (3, .int v28_3), (4, .int v28_4), (5, .int c28)]) dX12_look_40 (by decide) rfl ?_
            refine n_iconst_W (v := (nI 0)) dX12_look_42 rfl ?_
            refine n_istore_W (lv' := [(7, .int (nI 0)), (6, .int (nI 0)), (0, .ref 80), (1, .int (nI k3)), (2, .int v28_2), (3, .int v28_3), (4, .int v28_4), (5, .int c28)]) dX12_look_43 (by decide) rfl ?_
            exact zs_Vlv_W (j45 hd28 _ v28_2 v28_3 v28_4 (nI 0) (nI 0) (Nat.lt_succ_self _)) (zs_mc 2 rfl (zs_mc 3 rfl (zs_mc 4 rfl (zs_mc 5 rfl (zs_mc 6 rfl (zs_mc 7 rfl (zs_mc 1 rfl (zs_mc 0 rfl zs_mn))))))))
    refine n_aload_n_W dX12_look_13 rfl rfl ?_
    refine n_iload_n_W dX12_look_14 rfl rfl ?_
    refine n_callV_W (T := TX12) (NN := 19) [] (y_X12_eyesThat_W (nI k3)) dX12_look_15 kk_X12_look_X12_eyesThat ml_RX12_212 mwX12_eyesThat ewX12_eyesThat (by decide) rfl rfl rfl rfl (Nat.le_of_ble_eq_true rfl) ?_
    rintro _ ⟨x23, rfl⟩
    refine n_istore_n_W (lv' := [(2, .int x23), (0, .ref 80), (1, .int (nI k3))]) dX12_look_18 rfl (by decide) rfl ?_
    refine n_iconst_W (v := (-1)) dX12_look_19 rfl ?_
    refine n_istore_n_W (lv' := [(3, .int (-1)), (2, .int x23), (0, .ref 80), (1, .int (nI k3))]) dX12_look_20 rfl (by decide) rfl ?_
    refine n_bipush_W (v := (nI 99)) dX12_look_21 rfl ?_
    refine n_istore_W (lv' := [(4, .int (nI 99)), (3, .int (-1)), (2, .int x23), (0, .ref 80), (1, .int (nI k3))]) dX12_look_23 (by decide) rfl ?_
    refine n_iconst_W (v := (nI 0)) dX12_look_25 rfl ?_
    refine n_istore_W (lv' := [(5, .int (nI 0)), (4, .int (nI 99)), (3, .int (-1)), (2, .int x23), (0, .ref 80), (1, .int (nI k3))]) dX12_look_26 (by decide) rfl ?_
    exact zs_Vlv_W (j28 _ x23 (-1) (nI 99) (nI 0) (Nat.lt_succ_self _)) (zs_mc 4 rfl (zs_mc 5 rfl (zs_mc 3 rfl (zs_mc 2 rfl (zs_mc 1 rfl (zs_mc 0 rfl zs_mn))))))
  · refine n_aload_n_W dX12_look_8 rfl rfl ?_
    refine n_callV_W (T := TX12) (NN := 19) [] (y_X12_bad_W) dX12_look_9 kk_X12_look_X12_bad ml_RX12_62 mwX12_bad ewX12_bad (by decide) rfl rfl rfl rfl (Nat.le_of_ble_eq_true rfl) ?_
    rintro _ ⟨x24, rfl⟩
    exact n_iret_W dX12_look_12 rfl rfl ⟨_, rfl⟩
set_option maxRecDepth 100000 in
theorem y_X12_passes_1_W (a1 : Int32) (a2 : Int32) (a3 : Int32) : zs_U_W MX12_passes [.int a1, .int a2, .int a3] zs_Ri := by
  refine zs_Vof_W (by decide) (Nat.le_of_ble_eq_true rfl) ?_
  show zs_V_W MX12_passes 0 [(0, .int a1), (1, .int a2), (2, .int a3)] [] zs_Ri
  have j79 : ∀ (v79_3 : Int32) (s79_0 : Int32), zs_V_W MX12_passes 79 [(0, .int a1), (1, .int a2), (2, .int a3), (3, .int v79_3)] [.int s79_0] zs_Ri := by
    intro v79_3 s79_0
    refine n_istore_n_W (lv' := [(3, .int s79_0), (0, .int a1), (1, .int a2), (2, .int a3)]) dX12_passes_79 rfl (by decide) rfl ?_
    refine n_iload_n_W dX12_passes_80 rfl rfl ?_
    refine n_iconst_W (v := (nI 5)) dX12_passes_81 rfl ?_
    refine n_ic_ne_W 94 dX12_passes_82 (by decide) (fun h1 => ?_) (fun h1 => ?_)
    · refine n_iload_n_W dX12_passes_94 rfl rfl ?_
      exact n_iret_W dX12_passes_95 rfl rfl ⟨_, rfl⟩
    · refine n_iload_n_W dX12_passes_85 rfl rfl ?_
      refine n_iconst_W (v := (nI 1)) dX12_passes_86 rfl ?_
      refine n_ic_ge_W 94 dX12_passes_87 (by decide) (fun h2 => ?_) (fun h2 => ?_)
      · refine n_iload_n_W dX12_passes_94 rfl rfl ?_
        exact n_iret_W dX12_passes_95 rfl rfl ⟨_, rfl⟩
      · refine n_iconst_W (v := (nI 1)) dX12_passes_90 rfl ?_
        refine n_goto_W 95 dX12_passes_91 (by decide) ?_
        exact n_iret_W dX12_passes_95 rfl rfl ⟨_, rfl⟩
  have j78 : ∀ (v78_3 : Int32), zs_V_W MX12_passes 78 [(0, .int a1), (1, .int a2), (2, .int a3), (3, .int v78_3)] [] zs_Ri := by
    intro v78_3
    refine n_iload_n_W dX12_passes_78 rfl rfl ?_
    exact j79 v78_3 v78_3
  have j60 : ∀ (v60_3 : Int32) (s60_0 : Int32) (s60_1 : Int32), zs_V_W MX12_passes 60 [(0, .int a1), (1, .int a2), (2, .int a3), (3, .int v60_3)] [.int s60_0, .int s60_1] zs_Ri := by
    intro v60_3 s60_0 s60_1
    refine n_iadd_W dX12_passes_60 (fun x3 => ?_)
    refine n_istore_n_W (lv' := [(3, .int x3), (0, .int a1), (1, .int a2), (2, .int a3)]) dX12_passes_61 rfl (by decide) rfl ?_
    refine n_iload_n_W dX12_passes_62 rfl rfl ?_
    refine n_iconst_W (v := (nI 4)) dX12_passes_63 rfl ?_
    refine n_ic_ne_W 78 dX12_passes_64 (by decide) (fun h4 => ?_) (fun h4 => ?_)
    · exact zs_Vlv_W (j78 x3) (zs_mc 1 rfl (zs_mc 2 rfl (zs_mc 3 rfl (zs_mc 0 rfl zs_mn))))
    · refine n_iload_n_W dX12_passes_67 rfl rfl ?_
      refine n_iconst_W (v := (nI 5)) dX12_passes_68 rfl ?_
      refine n_irem_W dX12_passes_69 (by decide) (fun x5 => ?_)
      refine n_iconst_W (v := (nI 4)) dX12_passes_70 rfl ?_
      refine n_ic_ne_W 78 dX12_passes_71 (by decide) (fun h6 => ?_) (fun h6 => ?_)
      · exact zs_Vlv_W (j78 x3) (zs_mc 1 rfl (zs_mc 2 rfl (zs_mc 3 rfl (zs_mc 0 rfl zs_mn))))
      · refine n_iconst_W (v := (nI 0)) dX12_passes_74 rfl ?_
        refine n_goto_W 79 dX12_passes_75 (by decide) ?_
        exact zs_Vlv_W (j79 x3 (nI 0)) (zs_mc 1 rfl (zs_mc 2 rfl (zs_mc 3 rfl (zs_mc 0 rfl zs_mn))))
  have j59 : ∀ (v59_3 : Int32) (s59_0 : Int32), zs_V_W MX12_passes 59 [(0, .int a1), (1, .int a2), (2, .int a3), (3, .int v59_3)] [.int s59_0] zs_Ri := by
    intro v59_3 s59_0
    refine n_iconst_W (v := (nI 0)) dX12_passes_59 rfl ?_
    exact j60 v59_3 (nI 0) s59_0
  have j41 : ∀ (v41_3 : Int32) (s41_0 : Int32) (s41_1 : Int32), zs_V_W MX12_passes 41 [(0, .int a1), (1, .int a2), (2, .int a3), (3, .int v41_3)] [.int s41_0, .int s41_1] zs_Ri := by
    intro v41_3 s41_0 s41_1
    refine n_iadd_W dX12_passes_41 (fun x7 => ?_)
    refine n_istore_n_W (lv' := [(3, .int x7), (0, .int a1), (1, .int a2), (2, .int a3)]) dX12_passes_42 rfl (by decide) rfl ?_
    refine n_iload_n_W dX12_passes_43 rfl rfl ?_
    refine n_iload_n_W dX12_passes_44 rfl rfl ?_
    refine n_iconst_W (v := (nI 3)) dX12_passes_45 rfl ?_
    refine n_ic_ne_W 59 dX12_passes_46 (by decide) (fun h8 => ?_) (fun h8 => ?_)
    · exact zs_Vlv_W (j59 x7 x7) (zs_mc 1 rfl (zs_mc 2 rfl (zs_mc 3 rfl (zs_mc 0 rfl zs_mn))))
    · refine n_iload_n_W dX12_passes_49 rfl rfl ?_
      refine n_iconst_W (v := (nI 4)) dX12_passes_50 rfl ?_
      refine n_irem_W dX12_passes_51 (by decide) (fun x9 => ?_)
      refine n_if_ne_W 59 dX12_passes_52 (by decide) (fun h10 => ?_) (fun h10 => ?_)
      · exact zs_Vlv_W (j59 x7 x7) (zs_mc 1 rfl (zs_mc 2 rfl (zs_mc 3 rfl (zs_mc 0 rfl zs_mn))))
      · refine n_iconst_W (v := (nI 1)) dX12_passes_55 rfl ?_
        refine n_goto_W 60 dX12_passes_56 (by decide) ?_
        exact zs_Vlv_W (j60 x7 (nI 1) x7) (zs_mc 1 rfl (zs_mc 2 rfl (zs_mc 3 rfl (zs_mc 0 rfl zs_mn))))
  have j40 : ∀ (v40_3 : Int32) (s40_0 : Int32), zs_V_W MX12_passes 40 [(0, .int a1), (1, .int a2), (2, .int a3), (3, .int v40_3)] [.int s40_0] zs_Ri := by
    intro v40_3 s40_0
    refine n_iconst_W (v := (nI 0)) dX12_passes_40 rfl ?_
    exact j41 v40_3 (nI 0) s40_0
  have j29 : ∀ (v29_3 : Int32) (s29_0 : Int32), zs_V_W MX12_passes 29 [(0, .int a1), (1, .int a2), (2, .int a3), (3, .int v29_3)] [.int s29_0] zs_Ri := by
    intro v29_3 s29_0
    refine n_iload_n_W dX12_passes_29 rfl rfl ?_
    refine n_iconst_W (v := (nI 2)) dX12_passes_30 rfl ?_
    refine n_irem_W dX12_passes_31 (by decide) (fun x11 => ?_)
    refine n_iconst_W (v := (nI 1)) dX12_passes_32 rfl ?_
    refine n_ic_ne_W 40 dX12_passes_33 (by decide) (fun h12 => ?_) (fun h12 => ?_)
    · exact j40 v29_3 s29_0
    · refine n_iconst_W (v := (nI 1)) dX12_passes_36 rfl ?_
      refine n_goto_W 41 dX12_passes_37 (by decide) ?_
      exact j41 v29_3 (nI 1) s29_0
  have j17 : ∀ (s17_0 : Int32), zs_V_W MX12_passes 17 [(0, .int a1), (1, .int a2), (2, .int a3)] [.int s17_0] zs_Ri := by
    intro s17_0
    refine n_istore_n_W (lv' := [(3, .int s17_0), (0, .int a1), (1, .int a2), (2, .int a3)]) dX12_passes_17 rfl (by decide) rfl ?_
    refine n_iload_n_W dX12_passes_18 rfl rfl ?_
    refine n_iload_n_W dX12_passes_19 rfl rfl ?_
    refine n_iconst_W (v := (nI 2)) dX12_passes_20 rfl ?_
    refine n_ic_eq_W 29 dX12_passes_21 (by decide) (fun h13 => ?_) (fun h13 => ?_)
    · exact zs_Vlv_W (j29 s17_0 s17_0) (zs_mc 1 rfl (zs_mc 2 rfl (zs_mc 3 rfl (zs_mc 0 rfl zs_mn))))
    · refine n_iload_n_W dX12_passes_24 rfl rfl ?_
      refine n_iconst_W (v := (nI 4)) dX12_passes_25 rfl ?_
      refine n_ic_ne_W 40 dX12_passes_26 (by decide) (fun h14 => ?_) (fun h14 => ?_)
      · exact zs_Vlv_W (j40 s17_0 s17_0) (zs_mc 1 rfl (zs_mc 2 rfl (zs_mc 3 rfl (zs_mc 0 rfl zs_mn))))
      · exact zs_Vlv_W (j29 s17_0 s17_0) (zs_mc 1 rfl (zs_mc 2 rfl (zs_mc 3 rfl (zs_mc 0 rfl zs_mn))))
  have j10 : zs_V_W MX12_passes 10 [(0, .int a1), (1, .int a2), (2, .int a3)] [] zs_Ri := by
    refine n_iconst_W (v := (nI 2)) dX12_passes_10 rfl ?_
    refine n_iload_n_W dX12_passes_11 rfl rfl ?_
    refine n_imul_W dX12_passes_12 (fun x15 => ?_)
    refine n_goto_W 17 dX12_passes_13 (by decide) ?_
    exact j17 x15
  refine n_iload_n_W dX12_passes_0 rfl rfl ?_
  refine n_iconst_W (v := (nI 1)) dX12_passes_1 rfl ?_
  refine n_ic_eq_W 10 dX12_passes_2 (by decide) (fun h16 => ?_) (fun h16 => ?_)
  · exact j10 
  · refine n_iload_n_W dX12_passes_5 rfl rfl ?_
    refine n_iconst_W (v := (nI 3)) dX12_passes_6 rfl ?_
    refine n_ic_ne_W 16 dX12_passes_7 (by decide) (fun h17 => ?_) (fun h17 => ?_)
    · refine n_iload_n_W dX12_passes_16 rfl rfl ?_
      exact j17 a2
    · exact j10 
set_option maxRecDepth 100000 in
theorem y_X12_kinds_W : zs_U_W MX12_kinds [.ref 80] zs_Ri := by
  refine zs_Vof_W (by decide) (Nat.le_of_ble_eq_true rfl) ?_
  show zs_V_W MX12_kinds 0 [(0, .ref 80)] [] zs_Ri
  have j4 : ∀ (n4 : Nat) (v4_1 : Int32) (c4 : Int32), zs_mu c4 < n4 → zs_V_W MX12_kinds 4 [(0, .ref 80), (1, .int v4_1), (2, .int c4)] [] zs_Ri := by
    intro n4
    induction n4 with
    | zero => intro v4_1 c4 hn4; exact absurd hn4 (Nat.not_lt_zero _)
    | succ n4 ih4 =>
      intro v4_1 c4 hn4
      have j92 : zs_mu (c4 + Int32.ofInt 1) < n4 → ∀ (v92_1 : Int32) (v92_3 : Int32) (v92_4 : Int32) (s92_0 : Int32) (s92_1 : Int32), zs_V_W MX12_kinds 92 [(0, .ref 80), (1, .int v92_1), (2, .int c4), (3, .int v92_3), (4, .int v92_4)] [.int s92_0, .int s92_1] zs_Ri := by
        intro hd4 v92_1 v92_3 v92_4 s92_0 s92_1
        refine n_ior_W dX12_kinds_92 (fun x1 => ?_)
        refine n_istore_n_W (lv' := [(1, .int x1), (0, .ref 80), (2, .int c4), (3, .int v92_3), (4, .int v92_4)]) dX12_kinds_93 rfl (by decide) rfl ?_
        refine n_iinc_W (v := (c4 + Int32.ofInt 1)) (lv' := [(2, .int (c4 + Int32.ofInt 1)), (1, .int x1), (0, .ref 80), (3, .int v92_3), (4, .int v92_4)]) dX12_kinds_94 rfl rfl (by decide) rfl ?_
        refine n_goto_W 4 dX12_kinds_97 (by decide) ?_
        exact zs_Vlv_W (ih4 x1 (c4 + Int32.ofInt 1) hd4) (zs_mc 2 rfl (zs_mc 1 rfl (zs_mc 0 rfl zs_mn)))
      have j15 : zs_mu (c4 + Int32.ofInt 1) < n4 → ∀ (n15 : Nat) (v15_1 : Int32) (v15_3 : Int32) (c15 : Nat), 0 ≤ c15 → c15 ≤ 6 → 6 - c15 < n15 → zs_V_W MX12_kinds 15 [(0, .ref 80), (1, .int v15_1), (2, .int c4), (3, .int v15_3), (4, .int (nI c15))] [] zs_Ri := by
        intro hd4 n15
        induction n15 with
        | zero => intro v15_1 v15_3 c15 lc15 uc15 hn15; exact absurd hn15 (Nat.not_lt_zero _)
        | succ n15 ih15 =>
          intro v15_1 v15_3 c15 lc15 uc15 hn15
          have j73 : zs_mu (c4 + Int32.ofInt 1) < n4 → c15 + 1 ≤ 6 → ∀ (v73_1 : Int32) (v73_3 : Int32) (s73_0 : Int32), zs_V_W MX12_kinds 73 [(0, .ref 80), (1, .int v73_1), (2, .int c4), (3, .int v73_3), (4, .int (nI c15))] [.int s73_0] zs_Ri := by
            intro hd4 hd15 v73_1 v73_3 s73_0
            refine n_istore_n_W (lv' := [(3, .int s73_0), (0, .ref 80), (1, .int v73_1), (2, .int c4), (4, .int (nI c15))]) dX12_kinds_73 rfl (by decide) rfl ?_
            refine n_iinc_W (v := (nI (c15 + 1))) (lv' := [(4, .int (nI (c15 + 1))), (3, .int s73_0), (0, .ref 80), (1, .int v73_1), (2, .int c4)]) dX12_kinds_74 rfl (nI_1 c15) (by decide) rfl ?_
            refine n_goto_W 15 dX12_kinds_77 (by decide) ?_
            exact zs_Vlv_W (ih15 v73_1 s73_0 (c15 + 1) (by omega) (by omega) (by omega)) (zs_mc 2 rfl (zs_mc 3 rfl (zs_mc 4 rfl (zs_mc 1 rfl (zs_mc 0 rfl zs_mn)))))
          have j72 : zs_mu (c4 + Int32.ofInt 1) < n4 → c15 + 1 ≤ 6 → ∀ (v72_1 : Int32) (v72_3 : Int32), zs_V_W MX12_kinds 72 [(0, .ref 80), (1, .int v72_1), (2, .int c4), (3, .int v72_3), (4, .int (nI c15))] [] zs_Ri := by
            intro hd4 hd15 v72_1 v72_3
            refine n_iconst_W (v := (nI 0)) dX12_kinds_72 rfl ?_
            exact j73 hd4 (by omega) v72_1 v72_3 (nI 0)
          refine n_iload_W dX12_kinds_15 rfl ?_
          refine n_aload_n_W dX12_kinds_17 rfl rfl ?_
          refine n_getR_W 1 82 (C := RX12) (T := TX12) (N := 19) dX12_kinds_18 (by decide) rfl rfl (by decide) rfl fl_RX12_13 ?_
          refine n_bipush_W (v := (nI 46)) dX12_kinds_21 rfl ?_
          refine n_aldR_W (lo := 0) (up := 6) dX12_kinds_23 (by decide) rfl (by omega) (by decide) rfl (fun m2 hm2 km2 => ?_)
          refine n_ic_geN_W 80 dX12_kinds_24 (by decide) (by omega) (by omega) (fun h3 => ?_) (fun h3 => ?_)
          · refine n_iload_n_W dX12_kinds_80 rfl rfl ?_
            refine n_iload_n_W dX12_kinds_81 rfl rfl ?_
            refine n_if_eq_W 91 dX12_kinds_82 (by decide) (fun h4 => ?_) (fun h4 => ?_)
            · refine n_iconst_W (v := (nI 0)) dX12_kinds_91 rfl ?_
              exact j92 hd4 v15_1 v15_3 (nI c15) (nI 0) v15_1
            · refine n_iconst_W (v := (nI 1)) dX12_kinds_85 rfl ?_
              refine n_iload_n_W dX12_kinds_86 rfl rfl ?_
              refine n_ishl_W dX12_kinds_87 (fun x5 => ?_)
              refine n_goto_W 92 dX12_kinds_88 (by decide) ?_
              exact j92 hd4 v15_1 v15_3 (nI c15) x5 v15_1
          · refine n_iload_n_W dX12_kinds_27 rfl rfl ?_
            refine n_if_eq_W 72 dX12_kinds_28 (by decide) (fun h6 => ?_) (fun h6 => ?_)
            · exact j72 hd4 (by omega) v15_1 v15_3
            · refine n_iload_n_W dX12_kinds_31 rfl rfl ?_
              refine n_aload_n_W dX12_kinds_32 rfl rfl ?_
              refine n_getR_W 1 82 (C := RX12) (T := TX12) (N := 19) dX12_kinds_33 (by decide) rfl rfl (by decide) rfl fl_RX12_13 ?_
              refine n_bipush_W (v := (nI 47)) dX12_kinds_36 rfl ?_
              refine n_iload_W dX12_kinds_38 rfl ?_
              refine n_iaddN_W dX12_kinds_40 ?_
              refine n_ald_W dX12_kinds_41 (by decide) rfl (by omega) (by decide) (fun x7 => ?_)
              refine n_aload_n_W dX12_kinds_42 rfl rfl ?_
              refine n_getR_W 1 82 (C := RX12) (T := TX12) (N := 19) dX12_kinds_43 (by decide) rfl rfl (by decide) rfl fl_RX12_13 ?_
              refine n_bipush_W (v := (nI 53)) dX12_kinds_46 rfl ?_
              refine n_iload_W dX12_kinds_48 rfl ?_
              refine n_iaddN_W dX12_kinds_50 ?_
              refine n_ald_W dX12_kinds_51 (by decide) rfl (by omega) (by decide) (fun x8 => ?_)
              refine n_callS_W [.int c4, .int x7, .int x8] [] (y_X12_passes_1_W c4 x7 x8) dX12_kinds_52 kk_X12_kinds_X12_passes ml_RX12_162 swX12_passes rfl rfl (Nat.le_of_ble_eq_true rfl) ?_
              rintro _ ⟨x9, rfl⟩
              refine n_aload_n_W dX12_kinds_55 rfl rfl ?_
              refine n_getR_W 1 82 (C := RX12) (T := TX12) (N := 19) dX12_kinds_56 (by decide) rfl rfl (by decide) rfl fl_RX12_13 ?_
              refine n_bipush_W (v := (nI 59)) dX12_kinds_59 rfl ?_
              refine n_iload_W dX12_kinds_61 rfl ?_
              refine n_iaddN_W dX12_kinds_63 ?_
              refine n_ald_W dX12_kinds_64 (by decide) rfl (by omega) (by decide) (fun x10 => ?_)
              refine n_ic_ne_W 72 dX12_kinds_65 (by decide) (fun h11 => ?_) (fun h11 => ?_)
              · exact j72 hd4 (by omega) v15_1 v15_3
              · refine n_iconst_W (v := (nI 1)) dX12_kinds_68 rfl ?_
                refine n_goto_W 73 dX12_kinds_69 (by decide) ?_
                exact j73 hd4 (by omega) v15_1 v15_3 (nI 1)
      refine n_iload_n_W dX12_kinds_4 rfl rfl ?_
      refine n_bipush_W (v := (nI 6)) dX12_kinds_5 rfl ?_
      refine n_ic_ge_W 100 dX12_kinds_7 (by decide) (fun h12 => ?_) (fun h12 => ?_)
      · refine n_iload_n_W dX12_kinds_100 rfl rfl ?_
        exact n_iret_W dX12_kinds_101 rfl rfl ⟨_, rfl⟩
      · have hd4 := zs_muA h12 hn4
        refine n_iconst_W (v := (nI 1)) dX12_kinds_10 rfl ?_
        refine n_istore_n_W (lv' := [(3, .int (nI 1)), (0, .ref 80), (1, .int v4_1), (2, .int c4)]) dX12_kinds_11 rfl (by decide) rfl ?_
        refine n_iconst_W (v := (nI 0)) dX12_kinds_12 rfl ?_
        refine n_istore_W (lv' := [(4, .int (nI 0)), (3, .int (nI 1)), (0, .ref 80), (1, .int v4_1), (2, .int c4)]) dX12_kinds_13 (by decide) rfl ?_
        exact zs_Vlv_W (j15 hd4 _ v4_1 (nI 1) 0 (by omega) (by omega) (Nat.lt_succ_self _)) (zs_mc 2 rfl (zs_mc 3 rfl (zs_mc 4 rfl (zs_mc 1 rfl (zs_mc 0 rfl zs_mn)))))
  refine n_iconst_W (v := (nI 0)) dX12_kinds_0 rfl ?_
  refine n_istore_n_W (lv' := [(1, .int (nI 0)), (0, .ref 80)]) dX12_kinds_1 rfl (by decide) rfl ?_
  refine n_iconst_W (v := (nI 0)) dX12_kinds_2 rfl ?_
  refine n_istore_n_W (lv' := [(2, .int (nI 0)), (1, .int (nI 0)), (0, .ref 80)]) dX12_kinds_3 rfl (by decide) rfl ?_
  exact zs_Vlv_W (j4 _ (nI 0) (nI 0) (Nat.lt_succ_self _)) (zs_mc 2 rfl (zs_mc 1 rfl (zs_mc 0 rfl zs_mn)))
set_option maxRecDepth 100000 in
theorem y_X12_ask_W : zs_U_W MX12_ask [.ref 80] zs_Ri := by
  refine zs_Vof_W (by decide) (Nat.le_of_ble_eq_true rfl) ?_
  show zs_V_W MX12_ask 0 [(0, .ref 80)] [] zs_Ri
  have j13 : ∀ (n13 : Nat) (v13_1 : Int32) (v13_2 : Int32) (v13_3 : Int32) (c13 : Int32), zs_mu c13 < n13 → zs_V_W MX12_ask 13 [(0, .ref 80), (1, .int v13_1), (2, .int v13_2), (3, .int v13_3), (4, .int c13)] [] zs_Ri := by
    intro n13
    induction n13 with
    | zero => intro v13_1 v13_2 v13_3 c13 hn13; exact absurd hn13 (Nat.not_lt_zero _)
    | succ n13 ih13 =>
      intro v13_1 v13_2 v13_3 c13 hn13
      have j173 : zs_mu (c13 + Int32.ofInt 1) < n13 → ∀ (v173_1 : Int32) (v173_2 : Int32) (v173_3 : Int32) (v173_5 : Int32) (v173_6 : Int32) (v173_7 : Int32) (v173_8 : Int32) (s173_0 : Int32), zs_V_W MX12_ask 173 [(0, .ref 80), (1, .int v173_1), (2, .int v173_2), (3, .int v173_3), (4, .int c13), (5, .int v173_5), (6, .int v173_6), (7, .int v173_7), (8, .int v173_8)] [.int s173_0] zs_Ri := by
        intro hd13 v173_1 v173_2 v173_3 v173_5 v173_6 v173_7 v173_8 s173_0
        refine n_istore_n_W (lv' := [(3, .int s173_0), (0, .ref 80), (1, .int v173_1), (2, .int v173_2), (4, .int c13), (5, .int v173_5), (6, .int v173_6), (7, .int v173_7), (8, .int v173_8)]) dX12_ask_173 rfl (by decide) rfl ?_
        refine n_iinc_W (v := (c13 + Int32.ofInt 1)) (lv' := [(4, .int (c13 + Int32.ofInt 1)), (3, .int s173_0), (0, .ref 80), (1, .int v173_1), (2, .int v173_2), (5, .int v173_5), (6, .int v173_6), (7, .int v173_7), (8, .int v173_8)]) dX12_ask_174 rfl rfl (by decide) rfl ?_
        refine n_goto_W 13 dX12_ask_177 (by decide) ?_
        exact zs_Vlv_W (ih13 v173_1 v173_2 s173_0 (c13 + Int32.ofInt 1) hd13) (zs_mc 2 rfl (zs_mc 3 rfl (zs_mc 4 rfl (zs_mc 1 rfl (zs_mc 0 rfl zs_mn)))))
      have j160 : zs_mu (c13 + Int32.ofInt 1) < n13 → ∀ (v160_1 : Int32) (v160_2 : Int32) (v160_3 : Int32) (v160_5 : Int32) (v160_6 : Int32) (v160_7 : Int32) (v160_8 : Int32) (s160_0 : Int32), zs_V_W MX12_ask 160 [(0, .ref 80), (1, .int v160_1), (2, .int v160_2), (3, .int v160_3), (4, .int c13), (5, .int v160_5), (6, .int v160_6), (7, .int v160_7), (8, .int v160_8)] [.int s160_0] zs_Ri := by
        intro hd13 v160_1 v160_2 v160_3 v160_5 v160_6 v160_7 v160_8 s160_0
        refine n_istore_n_W (lv' := [(2, .int s160_0), (0, .ref 80), (1, .int v160_1), (3, .int v160_3), (4, .int c13), (5, .int v160_5), (6, .int v160_6), (7, .int v160_7), (8, .int v160_8)]) dX12_ask_160 rfl (by decide) rfl ?_
        refine n_iload_W dX12_ask_161 rfl ?_
        refine n_iload_n_W dX12_ask_163 rfl rfl ?_
        refine n_ic_ge_W 172 dX12_ask_164 (by decide) (fun h1 => ?_) (fun h1 => ?_)
        · refine n_iload_n_W dX12_ask_172 rfl rfl ?_
          exact zs_Vlv_W (j173 hd13 v160_1 s160_0 v160_3 v160_5 v160_6 v160_7 v160_8 v160_3) (zs_mc 1 rfl (zs_mc 2 rfl (zs_mc 0 rfl (zs_mc 3 rfl (zs_mc 4 rfl (zs_mc 5 rfl (zs_mc 6 rfl (zs_mc 7 rfl (zs_mc 8 rfl zs_mn)))))))))
        · refine n_iload_W dX12_ask_167 rfl ?_
          refine n_goto_W 173 dX12_ask_169 (by decide) ?_
          exact zs_Vlv_W (j173 hd13 v160_1 s160_0 v160_3 v160_5 v160_6 v160_7 v160_8 v160_7) (zs_mc 1 rfl (zs_mc 2 rfl (zs_mc 0 rfl (zs_mc 3 rfl (zs_mc 4 rfl (zs_mc 5 rfl (zs_mc 6 rfl (zs_mc 7 rfl (zs_mc 8 rfl zs_mn)))))))))
      have j45 : zs_mu (c13 + Int32.ofInt 1) < n13 → ∀ (n45 : Nat) (v45_1 : Int32) (v45_2 : Int32) (v45_3 : Int32) (v45_5 : Int32) (v45_6 : Int32) (v45_7 : Int32) (c45 : Int32), zs_mu c45 < n45 → zs_V_W MX12_ask 45 [(0, .ref 80), (1, .int v45_1), (2, .int v45_2), (3, .int v45_3), (4, .int c13), (5, .int v45_5), (6, .int v45_6), (7, .int v45_7), (8, .int c45)] [] zs_Ri := by
        intro hd13 n45
        induction n45 with
        | zero => intro v45_1 v45_2 v45_3 v45_5 v45_6 v45_7 c45 hn45; exact absurd hn45 (Nat.not_lt_zero _)
        | succ n45 ih45 =>
          intro v45_1 v45_2 v45_3 v45_5 v45_6 v45_7 c45 hn45
          have j134 : zs_mu (c13 + Int32.ofInt 1) < n13 → zs_mu (c45 + Int32.ofInt 1) < n45 → ∀ (v134_1 : Int32) (v134_2 : Int32) (v134_3 : Int32) (v134_5 : Int32) (v134_6 : Int32) (v134_7 : Int32) (v134_9 : Int32) (v134_10 : Int32) (s134_0 : Int32), zs_V_W MX12_ask 134 [(0, .ref 80), (1, .int v134_1), (2, .int v134_2), (3, .int v134_3), (4, .int c13), (5, .int v134_5), (6, .int v134_6), (7, .int v134_7), (8, .int c45), (9, .int v134_9), (10, .int v134_10)] [.int s134_0] zs_Ri := by
            intro hd13 hd45 v134_1 v134_2 v134_3 v134_5 v134_6 v134_7 v134_9 v134_10 s134_0
            refine n_istore_W (lv' := [(7, .int s134_0), (0, .ref 80), (1, .int v134_1), (2, .int v134_2), (3, .int v134_3), (4, .int c13), (5, .int v134_5), (6, .int v134_6), (8, .int c45), (9, .int v134_9), (10, .int v134_10)]) dX12_ask_134 (by decide) rfl ?_
            refine n_iinc_W (v := (c45 + Int32.ofInt 1)) (lv' := [(8, .int (c45 + Int32.ofInt 1)), (7, .int s134_0), (0, .ref 80), (1, .int v134_1), (2, .int v134_2), (3, .int v134_3), (4, .int c13), (5, .int v134_5), (6, .int v134_6), (9, .int v134_9), (10, .int v134_10)]) dX12_ask_136 rfl rfl (by decide) rfl ?_
            refine n_goto_W 45 dX12_ask_139 (by decide) ?_
            exact zs_Vlv_W (ih45 v134_1 v134_2 v134_3 v134_5 v134_6 s134_0 (c45 + Int32.ofInt 1) hd45) (zs_mc 2 rfl (zs_mc 3 rfl (zs_mc 4 rfl (zs_mc 5 rfl (zs_mc 6 rfl (zs_mc 7 rfl (zs_mc 8 rfl (zs_mc 1 rfl (zs_mc 0 rfl zs_mn)))))))))
          have j58 : zs_mu (c13 + Int32.ofInt 1) < n13 → zs_mu (c45 + Int32.ofInt 1) < n45 → ∀ (n58 : Nat) (v58_1 : Int32) (v58_2 : Int32) (v58_3 : Int32) (v58_5 : Int32) (v58_6 : Int32) (v58_7 : Int32) (v58_9 : Int32) (c58 : Int32), zs_mu c58 < n58 → zs_V_W MX12_ask 58 [(0, .ref 80), (1, .int v58_1), (2, .int v58_2), (3, .int v58_3), (4, .int c13), (5, .int v58_5), (6, .int v58_6), (7, .int v58_7), (8, .int c45), (9, .int v58_9), (10, .int c58)] [] zs_Ri := by
            intro hd13 hd45 n58
            induction n58 with
            | zero => intro v58_1 v58_2 v58_3 v58_5 v58_6 v58_7 v58_9 c58 hn58; exact absurd hn58 (Nat.not_lt_zero _)
            | succ n58 ih58 =>
              intro v58_1 v58_2 v58_3 v58_5 v58_6 v58_7 v58_9 c58 hn58
              have j111 : zs_mu (c13 + Int32.ofInt 1) < n13 → zs_mu (c45 + Int32.ofInt 1) < n45 → zs_mu (c58 + Int32.ofInt 1) < n58 → ∀ (v111_1 : Int32) (v111_2 : Int32) (v111_3 : Int32) (v111_5 : Int32) (v111_6 : Int32) (v111_7 : Int32) (v111_9 : Int32) (s111_0 : Int32) (s111_1 : Int32), zs_V_W MX12_ask 111 [(0, .ref 80), (1, .int v111_1), (2, .int v111_2), (3, .int v111_3), (4, .int c13), (5, .int v111_5), (6, .int v111_6), (7, .int v111_7), (8, .int c45), (9, .int v111_9), (10, .int c58)] [.int s111_0, .int s111_1] zs_Ri := by
                intro hd13 hd45 hd58 v111_1 v111_2 v111_3 v111_5 v111_6 v111_7 v111_9 s111_0 s111_1
                refine n_iadd_W dX12_ask_111 (fun x2 => ?_)
                refine n_istore_W (lv' := [(9, .int x2), (0, .ref 80), (1, .int v111_1), (2, .int v111_2), (3, .int v111_3), (4, .int c13), (5, .int v111_5), (6, .int v111_6), (7, .int v111_7), (8, .int c45), (10, .int c58)]) dX12_ask_112 (by decide) rfl ?_
                refine n_iinc_W (v := (c58 + Int32.ofInt 1)) (lv' := [(10, .int (c58 + Int32.ofInt 1)), (9, .int x2), (0, .ref 80), (1, .int v111_1), (2, .int v111_2), (3, .int v111_3), (4, .int c13), (5, .int v111_5), (6, .int v111_6), (7, .int v111_7), (8, .int c45)]) dX12_ask_114 rfl rfl (by decide) rfl ?_
                refine n_goto_W 58 dX12_ask_117 (by decide) ?_
                exact zs_Vlv_W (ih58 v111_1 v111_2 v111_3 v111_5 v111_6 v111_7 x2 (c58 + Int32.ofInt 1) hd58) (zs_mc 2 rfl (zs_mc 3 rfl (zs_mc 4 rfl (zs_mc 5 rfl (zs_mc 6 rfl (zs_mc 7 rfl (zs_mc 8 rfl (zs_mc 9 rfl (zs_mc 10 rfl (zs_mc 1 rfl (zs_mc 0 rfl zs_mn)))))))))))
              have j110 : zs_mu (c13 + Int32.ofInt 1) < n13 → zs_mu (c45 + Int32.ofInt 1) < n45 → zs_mu (c58 + Int32.ofInt 1) < n58 → ∀ (v110_1 : Int32) (v110_2 : Int32) (v110_3 : Int32) (v110_5 : Int32) (v110_6 : Int32) (v110_7 : Int32) (v110_9 : Int32) (s110_0 : Int32), zs_V_W MX12_ask 110 [(0, .ref 80), (1, .int v110_1), (2, .int v110_2), (3, .int v110_3), (4, .int c13), (5, .int v110_5), (6, .int v110_6), (7, .int v110_7), (8, .int c45), (9, .int v110_9), (10, .int c58)] [.int s110_0] zs_Ri := by
                intro hd13 hd45 hd58 v110_1 v110_2 v110_3 v110_5 v110_6 v110_7 v110_9 s110_0
                refine n_iconst_W (v := (nI 0)) dX12_ask_110 rfl ?_
                exact j111 hd13 hd45 hd58 v110_1 v110_2 v110_3 v110_5 v110_6 v110_7 v110_9 (nI 0) s110_0
              refine n_iload_W dX12_ask_58 rfl ?_
              refine n_bipush_W (v := (nI 6)) dX12_ask_60 rfl ?_
              refine n_ic_ge_W 120 dX12_ask_62 (by decide) (fun h3 => ?_) (fun h3 => ?_)
              · refine n_iload_W dX12_ask_120 rfl ?_
                refine n_iload_W dX12_ask_122 rfl ?_
                refine n_ic_le_W 132 dX12_ask_124 (by decide) (fun h4 => ?_) (fun h4 => ?_)
                · refine n_iload_W dX12_ask_132 rfl ?_
                  exact j134 hd13 hd45 v58_1 v58_2 v58_3 v58_5 v58_6 v58_7 v58_9 c58 v58_7
                · refine n_iload_W dX12_ask_127 rfl ?_
                  refine n_goto_W 134 dX12_ask_129 (by decide) ?_
                  exact j134 hd13 hd45 v58_1 v58_2 v58_3 v58_5 v58_6 v58_7 v58_9 c58 v58_9
              · have hd58 := zs_muA h3 hn58
                refine n_iload_W dX12_ask_65 rfl ?_
                refine n_iload_n_W dX12_ask_67 rfl rfl ?_
                refine n_iload_W dX12_ask_68 rfl ?_
                refine n_callS_W [.int v58_1, .int c45] [.int v58_9] (y_X12_has_W v58_1 c45) dX12_ask_70 kk_X12_ask_X12_has ml_RX12_215 swX12_has rfl rfl (Nat.le_of_ble_eq_true rfl) ?_
                rintro _ ⟨x5, rfl, bx5⟩
                refine n_if_eq_W 110 dX12_ask_73 (by decide) (fun h6 => ?_) (fun h6 => ?_)
                · exact j110 hd13 hd45 hd58 v58_1 v58_2 v58_3 v58_5 v58_6 v58_7 v58_9 v58_9
                · refine n_iload_n_W dX12_ask_76 rfl rfl ?_
                  refine n_iload_W dX12_ask_77 rfl ?_
                  refine n_callS_W [.int v58_1, .int c58] [.int v58_9] (y_X12_has_W v58_1 c58) dX12_ask_79 kk_X12_ask_X12_has ml_RX12_215 swX12_has rfl rfl (Nat.le_of_ble_eq_true rfl) ?_
                  rintro _ ⟨x7, rfl, bx7⟩
                  refine n_if_eq_W 110 dX12_ask_82 (by decide) (fun h8 => ?_) (fun h8 => ?_)
                  · exact j110 hd13 hd45 hd58 v58_1 v58_2 v58_3 v58_5 v58_6 v58_7 v58_9 v58_9
                  · refine n_iload_W dX12_ask_85 rfl ?_
                    refine n_iload_W dX12_ask_87 rfl ?_
                    refine n_iload_W dX12_ask_89 rfl ?_
                    refine n_callS_W [.int c45, .int v58_5, .int v58_6] [.int v58_9] (y_X12_passes_1_W c45 v58_5 v58_6) dX12_ask_91 kk_X12_ask_X12_passes ml_RX12_162 swX12_passes rfl rfl (Nat.le_of_ble_eq_true rfl) ?_
                    rintro _ ⟨x9, rfl⟩
                    refine n_iload_W dX12_ask_94 rfl ?_
                    refine n_iload_W dX12_ask_96 rfl ?_
                    refine n_iload_W dX12_ask_98 rfl ?_
                    refine n_callS_W [.int c58, .int v58_5, .int v58_6] [.int x9, .int v58_9] (y_X12_passes_1_W c58 v58_5 v58_6) dX12_ask_100 kk_X12_ask_X12_passes ml_RX12_162 swX12_passes rfl rfl (Nat.le_of_ble_eq_true rfl) ?_
                    rintro _ ⟨x10, rfl⟩
                    refine n_ic_ne_W 110 dX12_ask_103 (by decide) (fun h11 => ?_) (fun h11 => ?_)
                    · exact j110 hd13 hd45 hd58 v58_1 v58_2 v58_3 v58_5 v58_6 v58_7 v58_9 v58_9
                    · refine n_iconst_W (v := (nI 1)) dX12_ask_106 rfl ?_
                      refine n_goto_W 111 dX12_ask_107 (by decide) ?_
                      exact j111 hd13 hd45 hd58 v58_1 v58_2 v58_3 v58_5 v58_6 v58_7 v58_9 (nI 1) v58_9
          refine n_iload_W dX12_ask_45 rfl ?_
          refine n_bipush_W (v := (nI 6)) dX12_ask_47 rfl ?_
          refine n_ic_ge_W 142 dX12_ask_49 (by decide) (fun h12 => ?_) (fun h12 => ?_)
          · refine n_iload_W dX12_ask_142 rfl ?_
            refine n_iload_n_W dX12_ask_144 rfl rfl ?_
            refine n_ic_ge_W 159 dX12_ask_145 (by decide) (fun h13 => ?_) (fun h13 => ?_)
            · refine n_iload_n_W dX12_ask_159 rfl rfl ?_
              exact j160 hd13 v45_1 v45_2 v45_3 v45_5 v45_6 v45_7 c45 v45_2
            · refine n_bipush_W (v := (nI 100)) dX12_ask_148 rfl ?_
              refine n_iload_W dX12_ask_150 rfl ?_
              refine n_imul_W dX12_ask_152 (fun x14 => ?_)
              refine n_iload_W dX12_ask_153 rfl ?_
              refine n_iadd_W dX12_ask_155 (fun x15 => ?_)
              refine n_goto_W 160 dX12_ask_156 (by decide) ?_
              exact j160 hd13 v45_1 v45_2 v45_3 v45_5 v45_6 v45_7 c45 x15
          · have hd45 := zs_muA h12 hn45
            refine n_iconst_W (v := (nI 0)) dX12_ask_52 rfl ?_
            refine n_istore_W (lv' := [(9, .int (nI 0)), (0, .ref 80), (1, .int v45_1), (2, .int v45_2), (3, .int v45_3), (4, .int c13), (5, .int v45_5), (6, .int v45_6), (7, .int v45_7), (8, .int c45)]) dX12_ask_53 (by decide) rfl ?_
            refine n_iconst_W (v := (nI 0)) dX12_ask_55 rfl ?_
            refine n_istore_W (lv' := [(10, .int (nI 0)), (9, .int (nI 0)), (0, .ref 80), (1, .int v45_1), (2, .int v45_2), (3, .int v45_3), (4, .int c13), (5, .int v45_5), (6, .int v45_6), (7, .int v45_7), (8, .int c45)]) dX12_ask_56 (by decide) rfl ?_
            exact zs_Vlv_W (j58 hd13 hd45 _ v45_1 v45_2 v45_3 v45_5 v45_6 v45_7 (nI 0) (nI 0) (Nat.lt_succ_self _)) (zs_mc 2 rfl (zs_mc 3 rfl (zs_mc 4 rfl (zs_mc 5 rfl (zs_mc 6 rfl (zs_mc 7 rfl (zs_mc 8 rfl (zs_mc 9 rfl (zs_mc 10 rfl (zs_mc 1 rfl (zs_mc 0 rfl zs_mn)))))))))))
      refine n_iload_W dX12_ask_13 rfl ?_
      refine n_sipush_W (v := (nI 240)) dX12_ask_15 rfl ?_
      refine n_ic_ge_W 180 dX12_ask_18 (by decide) (fun h16 => ?_) (fun h16 => ?_)
      · refine n_iload_n_W dX12_ask_180 rfl rfl ?_
        exact n_iret_W dX12_ask_181 rfl rfl ⟨_, rfl⟩
      · have hd13 := zs_muA h16 hn13
        refine n_iload_n_W dX12_ask_21 rfl rfl ?_
        refine n_if_le_W 180 dX12_ask_22 (by decide) (fun h17 => ?_) (fun h17 => ?_)
        · refine n_iload_n_W dX12_ask_180 rfl rfl ?_
          exact n_iret_W dX12_ask_181 rfl rfl ⟨_, rfl⟩
        · refine n_iload_W dX12_ask_25 rfl ?_
          refine n_bipush_W (v := (nI 20)) dX12_ask_27 rfl ?_
          refine n_idiv_W dX12_ask_29 (by decide) (fun x18 => ?_)
          refine n_istore_W (lv' := [(5, .int x18), (0, .ref 80), (1, .int v13_1), (2, .int v13_2), (3, .int v13_3), (4, .int c13)]) dX12_ask_30 (by decide) rfl ?_
          refine n_iload_W dX12_ask_32 rfl ?_
          refine n_bipush_W (v := (nI 20)) dX12_ask_34 rfl ?_
          refine n_irem_W dX12_ask_36 (by decide) (fun x19 => ?_)
          refine n_istore_W (lv' := [(6, .int x19), (5, .int x18), (0, .ref 80), (1, .int v13_1), (2, .int v13_2), (3, .int v13_3), (4, .int c13)]) dX12_ask_37 (by decide) rfl ?_
          refine n_iconst_W (v := (nI 0)) dX12_ask_39 rfl ?_
          refine n_istore_W (lv' := [(7, .int (nI 0)), (6, .int x19), (5, .int x18), (0, .ref 80), (1, .int v13_1), (2, .int v13_2), (3, .int v13_3), (4, .int c13)]) dX12_ask_40 (by decide) rfl ?_
          refine n_iconst_W (v := (nI 0)) dX12_ask_42 rfl ?_
          refine n_istore_W (lv' := [(8, .int (nI 0)), (7, .int (nI 0)), (6, .int x19), (5, .int x18), (0, .ref 80), (1, .int v13_1), (2, .int v13_2), (3, .int v13_3), (4, .int c13)]) dX12_ask_43 (by decide) rfl ?_
          exact zs_Vlv_W (j45 hd13 _ v13_1 v13_2 v13_3 x18 x19 (nI 0) (nI 0) (Nat.lt_succ_self _)) (zs_mc 4 rfl (zs_mc 5 rfl (zs_mc 6 rfl (zs_mc 7 rfl (zs_mc 8 rfl (zs_mc 3 rfl (zs_mc 2 rfl (zs_mc 1 rfl (zs_mc 0 rfl zs_mn)))))))))
  refine n_aload_n_W dX12_ask_0 rfl rfl ?_
  refine n_callV_W (T := TX12) (NN := 19) [] (y_X12_kinds_W) dX12_ask_1 kk_X12_ask_X12_kinds ml_RX12_219 mwX12_kinds ewX12_kinds (by decide) rfl rfl rfl rfl (Nat.le_of_ble_eq_true rfl) ?_
  rintro _ ⟨x20, rfl⟩
  refine n_istore_n_W (lv' := [(1, .int x20), (0, .ref 80)]) dX12_ask_4 rfl (by decide) rfl ?_
  refine n_iconst_W (v := (-1)) dX12_ask_5 rfl ?_
  refine n_istore_n_W (lv' := [(2, .int (-1)), (1, .int x20), (0, .ref 80)]) dX12_ask_6 rfl (by decide) rfl ?_
  refine n_bipush_W (v := (nI 99)) dX12_ask_7 rfl ?_
  refine n_istore_n_W (lv' := [(3, .int (nI 99)), (2, .int (-1)), (1, .int x20), (0, .ref 80)]) dX12_ask_9 rfl (by decide) rfl ?_
  refine n_iconst_W (v := (nI 0)) dX12_ask_10 rfl ?_
  refine n_istore_W (lv' := [(4, .int (nI 0)), (3, .int (nI 99)), (2, .int (-1)), (1, .int x20), (0, .ref 80)]) dX12_ask_11 (by decide) rfl ?_
  exact zs_Vlv_W (j13 _ x20 (-1) (nI 99) (nI 0) (Nat.lt_succ_self _)) (zs_mc 4 rfl (zs_mc 3 rfl (zs_mc 2 rfl (zs_mc 1 rfl (zs_mc 0 rfl zs_mn)))))
set_option maxRecDepth 100000 in
theorem y_X12_rests_W (a1 : Nat) (la1 : 0 ≤ a1) (ua1 : a1 ≤ 3) (a2 : Nat) (la2 : 0 ≤ a2) (ua2 : a2 ≤ 3) : zs_U_W MX12_rests [.ref 80, .int (nI a1), .int (nI a2)] zs_Rb := by
  refine zs_Vof_W (by decide) (Nat.le_of_ble_eq_true rfl) ?_
  show zs_V_W MX12_rests 0 [(0, .ref 80), (1, .int (nI a1)), (2, .int (nI a2))] [] zs_Rb
  have j5 : ∀ (n5 : Nat) (v5_3 : Nat) (c5 : Nat), 0 ≤ v5_3 → v5_3 ≤ 1 → 0 ≤ c5 → c5 ≤ 4 → 4 - c5 < n5 → zs_V_W MX12_rests 5 [(0, .ref 80), (1, .int (nI a1)), (2, .int (nI a2)), (3, .int (nI v5_3)), (4, .int (nI c5))] [] zs_Rb := by
    intro n5
    induction n5 with
    | zero => intro v5_3 c5 lv5_3 uv5_3 lc5 uc5 hn5; exact absurd hn5 (Nat.not_lt_zero _)
    | succ n5 ih5 =>
      intro v5_3 c5 lv5_3 uv5_3 lc5 uc5 hn5
      have j68 : c5 + 1 ≤ 4 → ∀ (v68_3 : Nat) (s68_0 : Nat), 0 ≤ v68_3 → v68_3 ≤ 1 → 0 ≤ s68_0 → s68_0 ≤ 1 → zs_V_W MX12_rests 68 [(0, .ref 80), (1, .int (nI a1)), (2, .int (nI a2)), (3, .int (nI v68_3)), (4, .int (nI c5))] [.int (nI s68_0)] zs_Rb := by
        intro hd5 v68_3 s68_0 lv68_3 uv68_3 ls68_0 us68_0
        refine n_istore_n_W (lv' := [(3, .int (nI s68_0)), (0, .ref 80), (1, .int (nI a1)), (2, .int (nI a2)), (4, .int (nI c5))]) dX12_rests_68 rfl (by decide) rfl ?_
        refine n_iinc_W (v := (nI (c5 + 1))) (lv' := [(4, .int (nI (c5 + 1))), (3, .int (nI s68_0)), (0, .ref 80), (1, .int (nI a1)), (2, .int (nI a2))]) dX12_rests_69 rfl (nI_1 c5) (by decide) rfl ?_
        refine n_goto_W 5 dX12_rests_72 (by decide) ?_
        exact zs_Vlv_W (ih5 s68_0 (c5 + 1) (by omega) (by omega) (by omega) (by omega) (by omega)) (zs_mc 2 rfl (zs_mc 3 rfl (zs_mc 4 rfl (zs_mc 1 rfl (zs_mc 0 rfl zs_mn)))))
      have j67 : c5 + 1 ≤ 4 → ∀ (v67_3 : Nat), 0 ≤ v67_3 → v67_3 ≤ 1 → zs_V_W MX12_rests 67 [(0, .ref 80), (1, .int (nI a1)), (2, .int (nI a2)), (3, .int (nI v67_3)), (4, .int (nI c5))] [] zs_Rb := by
        intro hd5 v67_3 lv67_3 uv67_3
        refine n_iconst_W (v := (nI 0)) dX12_rests_67 rfl ?_
        exact j68 (by omega) v67_3 0 (by omega) (by omega) (by omega) (by omega)
      refine n_iload_W dX12_rests_5 rfl ?_
      refine n_iconst_W (v := (nI 4)) dX12_rests_7 rfl ?_
      refine n_ic_geN_W 75 dX12_rests_8 (by decide) (by omega) (by omega) (fun h1 => ?_) (fun h1 => ?_)
      · refine n_iload_n_W dX12_rests_75 rfl rfl ?_
        exact n_iret_W dX12_rests_76 rfl (zs_nb (by omega)) ⟨_, rfl, (zs_nb (by omega))⟩
      · refine n_iload_n_W dX12_rests_11 rfl rfl ?_
        refine n_if_eqN_W 67 dX12_rests_12 (by decide) (by omega) (fun h2 => ?_) (fun h2 => ?_)
        · exact j67 (by omega) v5_3 (by omega) (by omega)
        · refine n_aload_n_W dX12_rests_15 rfl rfl ?_
          refine n_getR_W 17 88 (C := RX12) (T := TX12) (N := 19) dX12_rests_16 (by decide) rfl rfl (by decide) rfl fl_RX12_36 ?_
          refine n_iconst_W (v := (nI 4)) dX12_rests_19 rfl ?_
          refine n_iload_W dX12_rests_20 rfl ?_
          refine n_imulN_W dX12_rests_22 ?_
          refine n_iload_n_W dX12_rests_23 rfl rfl ?_
          refine n_iaddN_W dX12_rests_24 ?_
          refine n_ald_W dX12_rests_25 (by decide) rfl (by omega) (by decide) (fun x3 => ?_)
          refine n_aload_n_W dX12_rests_26 rfl rfl ?_
          refine n_getR_W 17 88 (C := RX12) (T := TX12) (N := 19) dX12_rests_27 (by decide) rfl rfl (by decide) rfl fl_RX12_36 ?_
          refine n_iconst_W (v := (nI 4)) dX12_rests_30 rfl ?_
          refine n_iload_n_W dX12_rests_31 rfl rfl ?_
          refine n_imulN_W dX12_rests_32 ?_
          refine n_iload_n_W dX12_rests_33 rfl rfl ?_
          refine n_iaddN_W dX12_rests_34 ?_
          refine n_ald_W dX12_rests_35 (by decide) rfl (by omega) (by decide) (fun x4 => ?_)
          refine n_ic_gt_W 67 dX12_rests_36 (by decide) (fun h5 => ?_) (fun h5 => ?_)
          · exact j67 (by omega) v5_3 (by omega) (by omega)
          · refine n_aload_n_W dX12_rests_39 rfl rfl ?_
            refine n_getR_W 18 89 (C := RX12) (T := TX12) (N := 19) dX12_rests_40 (by decide) rfl rfl (by decide) rfl fl_RX12_39 ?_
            refine n_iconst_W (v := (nI 4)) dX12_rests_43 rfl ?_
            refine n_iload_n_W dX12_rests_44 rfl rfl ?_
            refine n_imulN_W dX12_rests_45 ?_
            refine n_iload_W dX12_rests_46 rfl ?_
            refine n_iaddN_W dX12_rests_48 ?_
            refine n_ald_W dX12_rests_49 (by decide) rfl (by omega) (by decide) (fun x6 => ?_)
            refine n_aload_n_W dX12_rests_50 rfl rfl ?_
            refine n_getR_W 18 89 (C := RX12) (T := TX12) (N := 19) dX12_rests_51 (by decide) rfl rfl (by decide) rfl fl_RX12_39 ?_
            refine n_iconst_W (v := (nI 4)) dX12_rests_54 rfl ?_
            refine n_iload_n_W dX12_rests_55 rfl rfl ?_
            refine n_imulN_W dX12_rests_56 ?_
            refine n_iload_n_W dX12_rests_57 rfl rfl ?_
            refine n_iaddN_W dX12_rests_58 ?_
            refine n_ald_W dX12_rests_59 (by decide) rfl (by omega) (by decide) (fun x7 => ?_)
            refine n_ic_gt_W 67 dX12_rests_60 (by decide) (fun h8 => ?_) (fun h8 => ?_)
            · exact j67 (by omega) v5_3 (by omega) (by omega)
            · refine n_iconst_W (v := (nI 1)) dX12_rests_63 rfl ?_
              refine n_goto_W 68 dX12_rests_64 (by decide) ?_
              exact j68 (by omega) v5_3 1 (by omega) (by omega) (by omega) (by omega)
  refine n_iconst_W (v := (nI 1)) dX12_rests_0 rfl ?_
  refine n_istore_n_W (lv' := [(3, .int (nI 1)), (0, .ref 80), (1, .int (nI a1)), (2, .int (nI a2))]) dX12_rests_1 rfl (by decide) rfl ?_
  refine n_iconst_W (v := (nI 0)) dX12_rests_2 rfl ?_
  refine n_istore_W (lv' := [(4, .int (nI 0)), (3, .int (nI 1)), (0, .ref 80), (1, .int (nI a1)), (2, .int (nI a2))]) dX12_rests_3 (by decide) rfl ?_
  exact zs_Vlv_W (j5 _ 1 0 (by omega) (by omega) (by omega) (by omega) (Nat.lt_succ_self _)) (zs_mc 2 rfl (zs_mc 3 rfl (zs_mc 4 rfl (zs_mc 1 rfl (zs_mc 0 rfl zs_mn)))))
set_option maxRecDepth 100000 in
theorem y_X12_hands_W (a1 : Int32) (a2 : Int32) (a3 : Int32) : zs_U_W MX12_hands [.ref 80, .int a1, .int a2, .int a3] zs_Ri := by
  refine zs_Vof_W (by decide) (Nat.le_of_ble_eq_true rfl) ?_
  show zs_V_W MX12_hands 0 [(0, .ref 80), (1, .int a1), (2, .int a2), (3, .int a3)] [] zs_Ri
  refine n_aload_n_W dX12_hands_0 rfl rfl ?_
  refine n_iload_n_W dX12_hands_1 rfl rfl ?_
  refine n_callV_W (T := TX12) (NN := 19) [] (y_isEye_W a1) dX12_hands_2 kk_X12_hands_X12_isEye ml_RX12_185 mwX12_isEye ewX12_isEye (by decide) rfl rfl rfl rfl (Nat.le_of_ble_eq_true rfl) ?_
  rintro _ ⟨x1, rfl, bx1, fx1⟩
  refine n_if_eq_W 26 dX12_hands_5 (by decide) (fun h2 => ?_) (fun h2 => ?_)
  · refine n_aload_n_W dX12_hands_26 rfl rfl ?_
    refine n_callV_W (T := TX12) (NN := 19) [] (y_X12_bad10_W) dX12_hands_27 kk_X12_hands_X12_bad10 ml_RX12_196 mwX12_bad10 ewX12_bad10 (by decide) rfl rfl rfl rfl (Nat.le_of_ble_eq_true rfl) ?_
    rintro _ ⟨x3, rfl⟩
    exact n_iret_W dX12_hands_30 rfl rfl ⟨_, rfl⟩
  · obtain ⟨k4, uk4, rfl⟩ := fx1 h2
    refine n_aload_n_W dX12_hands_8 rfl rfl ?_
    refine n_iload_n_W dX12_hands_9 rfl rfl ?_
    refine n_callV_W (T := TX12) (NN := 19) [] (y_isEye_W a2) dX12_hands_10 kk_X12_hands_X12_isEye ml_RX12_185 mwX12_isEye ewX12_isEye (by decide) rfl rfl rfl rfl (Nat.le_of_ble_eq_true rfl) ?_
    rintro _ ⟨x5, rfl, bx5, fx5⟩
    refine n_if_eq_W 26 dX12_hands_13 (by decide) (fun h6 => ?_) (fun h6 => ?_)
    · refine n_aload_n_W dX12_hands_26 rfl rfl ?_
      refine n_callV_W (T := TX12) (NN := 19) [] (y_X12_bad10_W) dX12_hands_27 kk_X12_hands_X12_bad10 ml_RX12_196 mwX12_bad10 ewX12_bad10 (by decide) rfl rfl rfl rfl (Nat.le_of_ble_eq_true rfl) ?_
      rintro _ ⟨x7, rfl⟩
      exact n_iret_W dX12_hands_30 rfl rfl ⟨_, rfl⟩
    · obtain ⟨k8, uk8, rfl⟩ := fx5 h6
      refine n_iload_n_W dX12_hands_16 rfl rfl ?_
      refine n_iload_n_W dX12_hands_17 rfl rfl ?_
      refine n_ic_eqN_W 26 dX12_hands_18 (by decide) (by omega) (by omega) (fun h9 => ?_) (fun h9 => ?_)
      · refine n_aload_n_W dX12_hands_26 rfl rfl ?_
        refine n_callV_W (T := TX12) (NN := 19) [] (y_X12_bad10_W) dX12_hands_27 kk_X12_hands_X12_bad10 ml_RX12_196 mwX12_bad10 ewX12_bad10 (by decide) rfl rfl rfl rfl (Nat.le_of_ble_eq_true rfl) ?_
        rintro _ ⟨x10, rfl⟩
        exact n_iret_W dX12_hands_30 rfl rfl ⟨_, rfl⟩
      · refine n_iload_n_W dX12_hands_21 rfl rfl ?_
        refine n_iconst_W (v := (-1)) dX12_hands_22 rfl ?_
        refine n_ic_ge_W 31 dX12_hands_23 (by decide) (fun h11 => ?_) (fun h11 => ?_)
        · have j133 : ∀ (n133 : Nat) (v133_4 : Int32) (c133 : Nat), 0 ≤ c133 → c133 ≤ 16 → 16 - c133 < n133 → zs_V_W MX12_hands 133 [(0, .ref 80), (1, .int (nI k4)), (2, .int (nI k8)), (3, .int a3), (4, .int v133_4), (5, .int (nI c133))] [] zs_Ri := by
            intro n133
            induction n133 with
            | zero => intro v133_4 c133 lc133 uc133 hn133; exact absurd hn133 (Nat.not_lt_zero _)
            | succ n133 ih133 =>
              intro v133_4 c133 lc133 uc133 hn133
              have j177 : c133 + 1 ≤ 16 → ∀ (v177_4 : Int32), zs_V_W MX12_hands 177 [(0, .ref 80), (1, .int (nI k4)), (2, .int (nI k8)), (3, .int a3), (4, .int v177_4), (5, .int (nI c133))] [] zs_Ri := by
                intro hd133 v177_4
                refine n_iinc_W (v := (nI (c133 + 1))) (lv' := [(5, .int (nI (c133 + 1))), (0, .ref 80), (1, .int (nI k4)), (2, .int (nI k8)), (3, .int a3), (4, .int v177_4)]) dX12_hands_177 rfl (nI_1 c133) (by decide) rfl ?_
                refine n_goto_W 133 dX12_hands_180 (by decide) ?_
                exact zs_Vlv_W (ih133 v177_4 (c133 + 1) (by omega) (by omega) (by omega)) (zs_mc 1 rfl (zs_mc 2 rfl (zs_mc 3 rfl (zs_mc 4 rfl (zs_mc 5 rfl (zs_mc 0 rfl zs_mn))))))
              refine n_iload_W dX12_hands_133 rfl ?_
              refine n_bipush_W (v := (nI 16)) dX12_hands_135 rfl ?_
              refine n_ic_geN_W 183 dX12_hands_137 (by decide) (by omega) (by omega) (fun h12 => ?_) (fun h12 => ?_)
              · refine n_iload_n_W dX12_hands_183 rfl rfl ?_
                refine n_if_ge_W 192 dX12_hands_184 (by decide) (fun h13 => ?_) (fun h13 => ?_)
                · refine n_bipush_W (v := (-5)) dX12_hands_192 rfl ?_
                  exact n_iret_W dX12_hands_194 rfl rfl ⟨_, rfl⟩
                · refine n_iload_W dX12_hands_187 rfl ?_
                  refine n_goto_W 194 dX12_hands_189 (by decide) ?_
                  exact n_iret_W dX12_hands_194 rfl rfl ⟨_, rfl⟩
              · refine n_aload_n_W dX12_hands_140 rfl rfl ?_
                refine n_iload_W dX12_hands_141 rfl ?_
                refine n_iconst_W (v := (nI 4)) dX12_hands_143 rfl ?_
                refine n_idivN_W dX12_hands_144 (by omega) (by omega) (by omega) ?_
                refine n_iload_W dX12_hands_145 rfl ?_
                refine n_iconst_W (v := (nI 4)) dX12_hands_147 rfl ?_
                refine n_iremN_W dX12_hands_148 (by omega) (by omega) (by omega) ?_
                refine n_callV_W (T := TX12) (NN := 19) [] (y_X12_rests_W (c133 / 4) (by omega) (by omega) (c133 % 4) (by omega) (by omega)) dX12_hands_149 kk_X12_hands_X12_rests ml_RX12_222 mwX12_rests ewX12_rests (by decide) rfl rfl rfl rfl (Nat.le_of_ble_eq_true rfl) ?_
                rintro _ ⟨x14, rfl, bx14⟩
                refine n_if_eq_W 177 dX12_hands_152 (by decide) (fun h15 => ?_) (fun h15 => ?_)
                · exact j177 (by omega) v133_4
                · refine n_iload_W dX12_hands_155 rfl ?_
                  refine n_iload_n_W dX12_hands_157 rfl rfl ?_
                  refine n_ic_ne_W 174 dX12_hands_158 (by decide) (fun h16 => ?_) (fun h16 => ?_)
                  · refine n_iinc_W (v := (v133_4 + Int32.ofInt 1)) (lv' := [(4, .int (v133_4 + Int32.ofInt 1)), (0, .ref 80), (1, .int (nI k4)), (2, .int (nI k8)), (3, .int a3), (5, .int (nI c133))]) dX12_hands_174 rfl rfl (by decide) rfl ?_
                    exact zs_Vlv_W (j177 (by omega) (v133_4 + Int32.ofInt 1)) (zs_mc 1 rfl (zs_mc 2 rfl (zs_mc 3 rfl (zs_mc 4 rfl (zs_mc 0 rfl (zs_mc 5 rfl zs_mn))))))
                  · refine n_bipush_W (v := (nI 10)) dX12_hands_161 rfl ?_
                    refine n_iload_W dX12_hands_163 rfl ?_
                    refine n_iconst_W (v := (nI 4)) dX12_hands_165 rfl ?_
                    refine n_idivN_W dX12_hands_166 (by omega) (by omega) (by omega) ?_
                    refine n_imulN_W dX12_hands_167 ?_
                    refine n_iload_W dX12_hands_168 rfl ?_
                    refine n_iconst_W (v := (nI 4)) dX12_hands_170 rfl ?_
                    refine n_iremN_W dX12_hands_171 (by omega) (by omega) (by omega) ?_
                    refine n_iaddN_W dX12_hands_172 ?_
                    exact n_iret_W dX12_hands_173 rfl rfl ⟨_, rfl⟩
          have j34 : ∀ (n34 : Nat) (c34 : Nat), 0 ≤ c34 → c34 ≤ 16 → 16 - c34 < n34 → zs_V_W MX12_hands 34 [(0, .ref 80), (1, .int (nI k4)), (2, .int (nI k8)), (3, .int a3), (4, .int (nI c34))] [] zs_Ri := by
            intro n34
            induction n34 with
            | zero => intro c34 lc34 uc34 hn34; exact absurd hn34 (Nat.not_lt_zero _)
            | succ n34 ih34 =>
              intro c34 lc34 uc34 hn34
              have j119 : c34 + 1 ≤ 16 → ∀ (s119_0 : Int32) (s119_1 : Int32) (s119_2 : Nat), 0 ≤ s119_2 → s119_2 ≤ 15 → zs_V_W MX12_hands 119 [(0, .ref 80), (1, .int (nI k4)), (2, .int (nI k8)), (3, .int a3), (4, .int (nI c34))] [.int s119_0, .int s119_1, .int (nI s119_2), .ref 89] zs_Ri := by
                intro hd34 s119_0 s119_1 s119_2 ls119_2 us119_2
                refine n_isub_W dX12_hands_119 (fun x17 => ?_)
                refine n_ast_W dX12_hands_120 (by decide) rfl (by omega) (by decide) rfl (zs_okN rfl (by decide) (by decide)) ?_
                refine n_iinc_W (v := (nI (c34 + 1))) (lv' := [(4, .int (nI (c34 + 1))), (0, .ref 80), (1, .int (nI k4)), (2, .int (nI k8)), (3, .int a3)]) dX12_hands_121 rfl (nI_1 c34) (by decide) rfl ?_
                refine n_goto_W 34 dX12_hands_124 (by decide) ?_
                exact zs_Vlv_W (ih34 (c34 + 1) (by omega) (by omega) (by omega)) (zs_mc 1 rfl (zs_mc 2 rfl (zs_mc 3 rfl (zs_mc 4 rfl (zs_mc 0 rfl zs_mn)))))
              have j88 : c34 + 1 ≤ 16 → ∀ (s88_0 : Int32) (s88_1 : Int32) (s88_2 : Nat), 0 ≤ s88_2 → s88_2 ≤ 15 → zs_V_W MX12_hands 88 [(0, .ref 80), (1, .int (nI k4)), (2, .int (nI k8)), (3, .int a3), (4, .int (nI c34))] [.int s88_0, .int s88_1, .int (nI s88_2), .ref 88] zs_Ri := by
                intro hd34 s88_0 s88_1 s88_2 ls88_2 us88_2
                refine n_isub_W dX12_hands_88 (fun x18 => ?_)
                refine n_ast_W dX12_hands_89 (by decide) rfl (by omega) (by decide) rfl (zs_okN rfl (by decide) (by decide)) ?_
                refine n_aload_n_W dX12_hands_90 rfl rfl ?_
                refine n_getR_W 18 89 (C := RX12) (T := TX12) (N := 19) dX12_hands_91 (by decide) rfl rfl (by decide) rfl fl_RX12_39 ?_
                refine n_iload_W dX12_hands_94 rfl ?_
                refine n_aload_n_W dX12_hands_96 rfl rfl ?_
                refine n_getR_W 0 81 (C := RX12) (T := TX12) (N := 19) dX12_hands_97 (by decide) rfl rfl (by decide) rfl fl_RX12_7 ?_
                refine n_sipush_W (v := (nI 695)) dX12_hands_100 rfl ?_
                refine n_iload_n_W dX12_hands_103 rfl rfl ?_
                refine n_iaddN_W dX12_hands_104 ?_
                refine n_ald_W dX12_hands_105 (by decide) rfl (by omega) (by decide) (fun x19 => ?_)
                refine n_iload_W dX12_hands_106 rfl ?_
                refine n_iconst_W (v := (nI 4)) dX12_hands_108 rfl ?_
                refine n_iremN_W dX12_hands_109 (by omega) (by omega) (by omega) ?_
                refine n_iconst_W (v := (nI 3)) dX12_hands_110 rfl ?_
                refine n_ic_neN_W 118 dX12_hands_111 (by decide) (by omega) (by omega) (fun h20 => ?_) (fun h20 => ?_)
                · refine n_iconst_W (v := (nI 0)) dX12_hands_118 rfl ?_
                  exact j119 (by omega) (nI 0) x19 c34 (by omega) (by omega)
                · refine n_iconst_W (v := (nI 1)) dX12_hands_114 rfl ?_
                  refine n_goto_W 119 dX12_hands_115 (by decide) ?_
                  exact j119 (by omega) (nI 1) x19 c34 (by omega) (by omega)
              refine n_iload_W dX12_hands_34 rfl ?_
              refine n_bipush_W (v := (nI 16)) dX12_hands_36 rfl ?_
              refine n_ic_geN_W 127 dX12_hands_38 (by decide) (by omega) (by omega) (fun h21 => ?_) (fun h21 => ?_)
              · refine n_iconst_W (v := (nI 0)) dX12_hands_127 rfl ?_
                refine n_istore_W (lv' := [(4, .int (nI 0)), (0, .ref 80), (1, .int (nI k4)), (2, .int (nI k8)), (3, .int a3)]) dX12_hands_128 (by decide) rfl ?_
                refine n_iconst_W (v := (nI 0)) dX12_hands_130 rfl ?_
                refine n_istore_W (lv' := [(5, .int (nI 0)), (4, .int (nI 0)), (0, .ref 80), (1, .int (nI k4)), (2, .int (nI k8)), (3, .int a3)]) dX12_hands_131 (by decide) rfl ?_
                exact zs_Vlv_W (j133 _ (nI 0) 0 (by omega) (by omega) (Nat.lt_succ_self _)) (zs_mc 2 rfl (zs_mc 3 rfl (zs_mc 4 rfl (zs_mc 5 rfl (zs_mc 1 rfl (zs_mc 0 rfl zs_mn))))))
              · refine n_aload_n_W dX12_hands_41 rfl rfl ?_
                refine n_callV_W (T := TX12) (NN := 19) [] (y_X12_tries_W) dX12_hands_42 kk_X12_hands_X12_tries ml_RX12_188 mwX12_tries ewX12_tries (by decide) rfl rfl rfl rfl (Nat.le_of_ble_eq_true rfl) ?_
                rintro _ rfl
                refine n_aload_n_W dX12_hands_45 rfl rfl ?_
                refine n_iconst_W (v := (nI 4)) dX12_hands_46 rfl ?_
                refine n_iload_W dX12_hands_47 rfl ?_
                refine n_iconst_W (v := (nI 4)) dX12_hands_49 rfl ?_
                refine n_idivN_W dX12_hands_50 (by omega) (by omega) (by omega) ?_
                refine n_iload_W dX12_hands_51 rfl ?_
                refine n_iconst_W (v := (nI 4)) dX12_hands_53 rfl ?_
                refine n_iremN_W dX12_hands_54 (by omega) (by omega) (by omega) ?_
                refine n_iaddN_W dX12_hands_55 ?_
                refine n_callV_W (T := TX12) (NN := 19) [] (y_X12_flashes_W (nI 4) ((c34 / 4) + (c34 % 4)) (by omega) (by omega)) dX12_hands_56 kk_X12_hands_X12_flashes ml_RX12_191 mwX12_flashes ewX12_flashes (by decide) rfl rfl rfl rfl (Nat.le_of_ble_eq_true rfl) ?_
                rintro _ rfl
                refine n_aload_n_W dX12_hands_59 rfl rfl ?_
                refine n_getR_W 17 88 (C := RX12) (T := TX12) (N := 19) dX12_hands_60 (by decide) rfl rfl (by decide) rfl fl_RX12_36 ?_
                refine n_iload_W dX12_hands_63 rfl ?_
                refine n_aload_n_W dX12_hands_65 rfl rfl ?_
                refine n_getR_W 0 81 (C := RX12) (T := TX12) (N := 19) dX12_hands_66 (by decide) rfl rfl (by decide) rfl fl_RX12_7 ?_
                refine n_sipush_W (v := (nI 695)) dX12_hands_69 rfl ?_
                refine n_iload_n_W dX12_hands_72 rfl rfl ?_
                refine n_iaddN_W dX12_hands_73 ?_
                refine n_ald_W dX12_hands_74 (by decide) rfl (by omega) (by decide) (fun x22 => ?_)
                refine n_iload_W dX12_hands_75 rfl ?_
                refine n_iconst_W (v := (nI 4)) dX12_hands_77 rfl ?_
                refine n_idivN_W dX12_hands_78 (by omega) (by omega) (by omega) ?_
                refine n_iconst_W (v := (nI 3)) dX12_hands_79 rfl ?_
                refine n_ic_neN_W 87 dX12_hands_80 (by decide) (by omega) (by omega) (fun h23 => ?_) (fun h23 => ?_)
                · refine n_iconst_W (v := (nI 0)) dX12_hands_87 rfl ?_
                  exact j88 (by omega) (nI 0) x22 c34 (by omega) (by omega)
                · refine n_iconst_W (v := (nI 1)) dX12_hands_83 rfl ?_
                  refine n_goto_W 88 dX12_hands_84 (by decide) ?_
                  exact j88 (by omega) (nI 1) x22 c34 (by omega) (by omega)
          refine n_iconst_W (v := (nI 0)) dX12_hands_31 rfl ?_
          refine n_istore_W (lv' := [(4, .int (nI 0)), (0, .ref 80), (1, .int (nI k4)), (2, .int (nI k8)), (3, .int a3)]) dX12_hands_32 (by decide) rfl ?_
          exact zs_Vlv_W (j34 _ 0 (by omega) (by omega) (Nat.lt_succ_self _)) (zs_mc 1 rfl (zs_mc 2 rfl (zs_mc 3 rfl (zs_mc 4 rfl (zs_mc 0 rfl zs_mn)))))
        · refine n_aload_n_W dX12_hands_26 rfl rfl ?_
          refine n_callV_W (T := TX12) (NN := 19) [] (y_X12_bad10_W) dX12_hands_27 kk_X12_hands_X12_bad10 ml_RX12_196 mwX12_bad10 ewX12_bad10 (by decide) rfl rfl rfl rfl (Nat.le_of_ble_eq_true rfl) ?_
          rintro _ ⟨x24, rfl⟩
          exact n_iret_W dX12_hands_30 rfl rfl ⟨_, rfl⟩
set_option maxRecDepth 100000 in
theorem y_X12_part_W (a1 : Int32) : zs_U_W MX12_part [.ref 80, .int a1] zs_Rl := by
  refine zs_Vof_W (by decide) (Nat.le_of_ble_eq_true rfl) ?_
  show zs_V_W MX12_part 0 [(0, .ref 80), (1, .int a1)] [] zs_Rl
  refine n_iload_n_W dX12_part_0 rfl rfl ?_
  refine n_i2l_W dX12_part_1 ?_
  refine n_lconst_W (v := 0) dX12_part_2 (by decide) ?_
  refine n_lconst_W (v := 1) dX12_part_3 (by decide) ?_
  refine n_callS_W [.long (Int32.toInt64 a1), .long 0, .long 1] [] (y_in_W (Int32.toInt64 a1) 0 1) dX12_part_4 kk_X12_part_X12_in ml_RX12_54 swX12_in rfl rfl (Nat.le_of_ble_eq_true rfl) ?_
  rintro _ ⟨x1, rfl, bx1, fx1⟩
  refine n_if_ne_W 16 dX12_part_7 (by decide) (fun h2 => ?_) (fun h2 => ?_)
  · obtain ⟨k3, lk3, uk3, rfl⟩ := zs_inR (lo := 0) (hi := 1) (fx1 h2) (by decide) (by decide)
    refine n_iload_n_W dX12_part_16 rfl rfl ?_
    refine n_if_neN_W 27 dX12_part_17 (by decide) (by omega) (fun h4 => ?_) (fun h4 => ?_)
    · refine n_aload_n_W dX12_part_27 rfl rfl ?_
      refine n_getL_W 13 (C := RX12) (T := TX12) (N := 19) dX12_part_28 (by decide) rfl rfl (by decide) rfl fl_RX12_23 (fun x5 => ?_)
      exact n_lret_W dX12_part_31 rfl ⟨_, rfl⟩
    · refine n_aload_n_W dX12_part_20 rfl rfl ?_
      refine n_getL_W 12 (C := RX12) (T := TX12) (N := 19) dX12_part_21 (by decide) rfl rfl (by decide) rfl fl_RX12_229 (fun x6 => ?_)
      refine n_goto_W 31 dX12_part_24 (by decide) ?_
      exact n_lret_W dX12_part_31 rfl ⟨_, rfl⟩
  · refine n_aload_n_W dX12_part_10 rfl rfl ?_
    refine n_callV_W (T := TX12) (NN := 19) [] (y_X12_bad_W) dX12_part_11 kk_X12_part_X12_bad ml_RX12_62 mwX12_bad ewX12_bad (by decide) rfl rfl rfl rfl (Nat.le_of_ble_eq_true rfl) ?_
    rintro _ ⟨x7, rfl⟩
    refine n_i2l_W dX12_part_14 ?_
    exact n_lret_W dX12_part_15 rfl ⟨_, rfl⟩
set_option maxRecDepth 100000 in
theorem y_X12_status_W (a1 : Int32) : zs_U_W MX12_status [.ref 80, .int a1] zs_Ri := by
  refine zs_Vof_W (by decide) (Nat.le_of_ble_eq_true rfl) ?_
  show zs_V_W MX12_status 0 [(0, .ref 80), (1, .int a1)] [] zs_Ri
  refine n_iload_n_W dX12_status_0 rfl rfl ?_
  refine n_i2l_W dX12_status_1 ?_
  refine n_lconst_W (v := 0) dX12_status_2 (by decide) ?_
  refine n_ldc2_W (v := 2) dX12_status_3 cl_RX12_50 ?_
  refine n_callS_W [.long (Int32.toInt64 a1), .long 0, .long 2] [] (y_in_W (Int32.toInt64 a1) 0 2) dX12_status_6 kk_X12_status_X12_in ml_RX12_54 swX12_in rfl rfl (Nat.le_of_ble_eq_true rfl) ?_
  rintro _ ⟨x1, rfl, bx1, fx1⟩
  refine n_if_ne_W 24 dX12_status_9 (by decide) (fun h2 => ?_) (fun h2 => ?_)
  · obtain ⟨k3, lk3, uk3, rfl⟩ := zs_inR (lo := 0) (hi := 2) (fx1 h2) (by decide) (by decide)
    refine n_aload_n_W dX12_status_24 rfl rfl ?_
    refine n_getR_W 14 85 (C := RX12) (T := TX12) (N := 19) dX12_status_25 (by decide) rfl rfl (by decide) rfl fl_RX12_27 ?_
    refine n_iload_n_W dX12_status_28 rfl rfl ?_
    refine n_ald_W dX12_status_29 (by decide) rfl (by omega) (by decide) (fun x4 => ?_)
    exact n_iret_W dX12_status_30 rfl rfl ⟨_, rfl⟩
  · refine n_aload_n_W dX12_status_12 rfl rfl ?_
    refine n_getR_W 14 85 (C := RX12) (T := TX12) (N := 19) dX12_status_13 (by decide) rfl rfl (by decide) rfl fl_RX12_27 ?_
    refine n_iconst_W (v := (nI 0)) dX12_status_16 rfl ?_
    refine n_dup2_W dX12_status_17 rfl rfl ?_
    refine n_ald_W dX12_status_18 (by decide) rfl (by omega) (by decide) (fun x5 => ?_)
    refine n_iconst_W (v := (nI 1)) dX12_status_19 rfl ?_
    refine n_iadd_W dX12_status_20 (fun x6 => ?_)
    refine n_ast_W dX12_status_21 (by decide) rfl (by omega) (by decide) rfl (zs_okN rfl (by decide) (by decide)) ?_
    refine n_iconst_W (v := (-1)) dX12_status_22 rfl ?_
    exact n_iret_W dX12_status_23 rfl rfl ⟨_, rfl⟩
set_option maxRecDepth 100000 in
theorem y_X12_movesOf_0_W : zs_U_W MX12_movesOf [.ref 80, .int (nI 0)] zs_Ri := by
  refine zs_Vof_W (by decide) (Nat.le_of_ble_eq_true rfl) ?_
  show zs_V_W MX12_movesOf 0 [(0, .ref 80), (1, .int (nI 0))] [] zs_Ri
  have j4 : ∀ (n4 : Nat) (v4_2 : Int32) (c4 : Nat), 0 ≤ c4 → c4 ≤ 5 → 5 - c4 < n4 → zs_V_W MX12_movesOf 4 [(0, .ref 80), (1, .int (nI 0)), (2, .int v4_2), (3, .int (nI c4))] [] zs_Ri := by
    intro n4
    induction n4 with
    | zero => intro v4_2 c4 lc4 uc4 hn4; exact absurd hn4 (Nat.not_lt_zero _)
    | succ n4 ih4 =>
      intro v4_2 c4 lc4 uc4 hn4
      refine n_iload_n_W dX12_movesOf_4 rfl rfl ?_
      refine n_aload_n_W dX12_movesOf_5 rfl rfl ?_
      refine n_getR_W 1 82 (C := RX12) (T := TX12) (N := 19) dX12_movesOf_6 (by decide) rfl rfl (by decide) rfl fl_RX12_13 ?_
      refine n_iconst_W (v := (nI 2)) dX12_movesOf_9 rfl ?_
      refine n_aldR_W (lo := 0) (up := 5) dX12_movesOf_10 (by decide) rfl (by omega) (by decide) rfl (fun m1 hm1 km1 => ?_)
      refine n_ic_geN_W 34 dX12_movesOf_11 (by decide) (by omega) (by omega) (fun h2 => ?_) (fun h2 => ?_)
      · refine n_iload_n_W dX12_movesOf_34 rfl rfl ?_
        exact n_iret_W dX12_movesOf_35 rfl rfl ⟨_, rfl⟩
      · refine n_iload_n_W dX12_movesOf_14 rfl rfl ?_
        refine n_aload_n_W dX12_movesOf_15 rfl rfl ?_
        refine n_getR_W 0 81 (C := RX12) (T := TX12) (N := 19) dX12_movesOf_16 (by decide) rfl rfl (by decide) rfl fl_RX12_7 ?_
        refine n_iload_n_W dX12_movesOf_19 rfl rfl ?_
        refine n_bipush_W (v := (nI 20)) dX12_movesOf_20 rfl ?_
        refine n_iaddN_W dX12_movesOf_22 ?_
        refine n_iload_n_W dX12_movesOf_23 rfl rfl ?_
        refine n_iaddN_W dX12_movesOf_24 ?_
        refine n_ald_W dX12_movesOf_25 (by decide) rfl (by omega) (by decide) (fun x3 => ?_)
        refine n_iadd_W dX12_movesOf_26 (fun x4 => ?_)
        refine n_istore_n_W (lv' := [(2, .int x4), (0, .ref 80), (1, .int (nI 0)), (3, .int (nI c4))]) dX12_movesOf_27 rfl (by decide) rfl ?_
        refine n_iinc_W (v := (nI (c4 + 1))) (lv' := [(3, .int (nI (c4 + 1))), (2, .int x4), (0, .ref 80), (1, .int (nI 0))]) dX12_movesOf_28 rfl (nI_1 c4) (by decide) rfl ?_
        refine n_goto_W 4 dX12_movesOf_31 (by decide) ?_
        exact zs_Vlv_W (ih4 x4 (c4 + 1) (by omega) (by omega) (by omega)) (zs_mc 2 rfl (zs_mc 3 rfl (zs_mc 1 rfl (zs_mc 0 rfl zs_mn))))
  refine n_iconst_W (v := (nI 0)) dX12_movesOf_0 rfl ?_
  refine n_istore_n_W (lv' := [(2, .int (nI 0)), (0, .ref 80), (1, .int (nI 0))]) dX12_movesOf_1 rfl (by decide) rfl ?_
  refine n_iconst_W (v := (nI 0)) dX12_movesOf_2 rfl ?_
  refine n_istore_n_W (lv' := [(3, .int (nI 0)), (2, .int (nI 0)), (0, .ref 80), (1, .int (nI 0))]) dX12_movesOf_3 rfl (by decide) rfl ?_
  exact zs_Vlv_W (j4 _ (nI 0) 0 (by omega) (by omega) (Nat.lt_succ_self _)) (zs_mc 2 rfl (zs_mc 3 rfl (zs_mc 1 rfl (zs_mc 0 rfl zs_mn))))
set_option maxRecDepth 100000 in
theorem y_X12_countOf_W (a1 : Int32) : zs_U_W MX12_countOf [.ref 80, .int a1] zs_Ri := by
  refine zs_Vof_W (by decide) (Nat.le_of_ble_eq_true rfl) ?_
  show zs_V_W MX12_countOf 0 [(0, .ref 80), (1, .int a1)] [] zs_Ri
  refine n_iload_n_W dX12_countOf_0 rfl rfl ?_
  refine n_if_ne_W 13 dX12_countOf_1 (by decide) (fun h1 => ?_) (fun h1 => ?_)
  · refine n_iload_n_W dX12_countOf_13 rfl rfl ?_
    refine n_iconst_W (v := (nI 1)) dX12_countOf_14 rfl ?_
    refine n_ic_ne_W 27 dX12_countOf_15 (by decide) (fun h2 => ?_) (fun h2 => ?_)
    · refine n_iload_n_W dX12_countOf_27 rfl rfl ?_
      refine n_iconst_W (v := (nI 2)) dX12_countOf_28 rfl ?_
      refine n_ic_ne_W 41 dX12_countOf_29 (by decide) (fun h3 => ?_) (fun h3 => ?_)
      · refine n_iload_n_W dX12_countOf_41 rfl rfl ?_
        refine n_iconst_W (v := (nI 3)) dX12_countOf_42 rfl ?_
        refine n_ic_ne_W 55 dX12_countOf_43 (by decide) (fun h4 => ?_) (fun h4 => ?_)
        · refine n_iload_n_W dX12_countOf_55 rfl rfl ?_
          refine n_iconst_W (v := (nI 4)) dX12_countOf_56 rfl ?_
          refine n_ic_ne_W 69 dX12_countOf_57 (by decide) (fun h5 => ?_) (fun h5 => ?_)
          · refine n_iload_n_W dX12_countOf_69 rfl rfl ?_
            refine n_iconst_W (v := (nI 5)) dX12_countOf_70 rfl ?_
            refine n_ic_ne_W 83 dX12_countOf_71 (by decide) (fun h6 => ?_) (fun h6 => ?_)
            · refine n_iload_n_W dX12_countOf_83 rfl rfl ?_
              refine n_bipush_W (v := (nI 6)) dX12_countOf_84 rfl ?_
              refine n_ic_ne_W 97 dX12_countOf_86 (by decide) (fun h7 => ?_) (fun h7 => ?_)
              · refine n_iload_n_W dX12_countOf_97 rfl rfl ?_
                refine n_bipush_W (v := (nI 7)) dX12_countOf_98 rfl ?_
                refine n_ic_ne_W 113 dX12_countOf_100 (by decide) (fun h8 => ?_) (fun h8 => ?_)
                · refine n_iload_n_W dX12_countOf_113 rfl rfl ?_
                  refine n_bipush_W (v := (nI 8)) dX12_countOf_114 rfl ?_
                  refine n_ic_ne_W 129 dX12_countOf_116 (by decide) (fun h9 => ?_) (fun h9 => ?_)
                  · refine n_iload_n_W dX12_countOf_129 rfl rfl ?_
                    refine n_bipush_W (v := (nI 9)) dX12_countOf_130 rfl ?_
                    refine n_ic_ne_W 145 dX12_countOf_132 (by decide) (fun h10 => ?_) (fun h10 => ?_)
                    · refine n_iload_n_W dX12_countOf_145 rfl rfl ?_
                      refine n_bipush_W (v := (nI 10)) dX12_countOf_146 rfl ?_
                      refine n_ic_ne_W 161 dX12_countOf_148 (by decide) (fun h11 => ?_) (fun h11 => ?_)
                      · refine n_aload_n_W dX12_countOf_161 rfl rfl ?_
                        refine n_getIR_W (lo := 0) (up := 150) 3 (C := RX12) (T := TX12) (N := 19) dX12_countOf_162 (by decide) rfl rfl (by decide) rfl fl_RX12_75 rfl (fun m12 hm12 km12 => ?_)
                        exact n_iret_W dX12_countOf_165 rfl rfl ⟨_, rfl⟩
                      · refine n_aload_n_W dX12_countOf_151 rfl rfl ?_
                        refine n_getR_W 1 82 (C := RX12) (T := TX12) (N := 19) dX12_countOf_152 (by decide) rfl rfl (by decide) rfl fl_RX12_13 ?_
                        refine n_bipush_W (v := (nI 65)) dX12_countOf_155 rfl ?_
                        refine n_aldR_W (lo := 0) (up := 8) dX12_countOf_157 (by decide) rfl (by omega) (by decide) rfl (fun m13 hm13 km13 => ?_)
                        refine n_goto_W 165 dX12_countOf_158 (by decide) ?_
                        exact n_iret_W dX12_countOf_165 rfl rfl ⟨_, rfl⟩
                    · refine n_aload_n_W dX12_countOf_135 rfl rfl ?_
                      refine n_getR_W 1 82 (C := RX12) (T := TX12) (N := 19) dX12_countOf_136 (by decide) rfl rfl (by decide) rfl fl_RX12_13 ?_
                      refine n_bipush_W (v := (nI 46)) dX12_countOf_139 rfl ?_
                      refine n_aldR_W (lo := 0) (up := 6) dX12_countOf_141 (by decide) rfl (by omega) (by decide) rfl (fun m14 hm14 km14 => ?_)
                      refine n_goto_W 165 dX12_countOf_142 (by decide) ?_
                      exact n_iret_W dX12_countOf_165 rfl rfl ⟨_, rfl⟩
                  · refine n_aload_n_W dX12_countOf_119 rfl rfl ?_
                    refine n_getR_W 1 82 (C := RX12) (T := TX12) (N := 19) dX12_countOf_120 (by decide) rfl rfl (by decide) rfl fl_RX12_13 ?_
                    refine n_bipush_W (v := (nI 21)) dX12_countOf_123 rfl ?_
                    refine n_aldR_W (lo := 0) (up := 6) dX12_countOf_125 (by decide) rfl (by omega) (by decide) rfl (fun m15 hm15 km15 => ?_)
                    refine n_goto_W 165 dX12_countOf_126 (by decide) ?_
                    exact n_iret_W dX12_countOf_165 rfl rfl ⟨_, rfl⟩
                · refine n_aload_n_W dX12_countOf_103 rfl rfl ?_
                  refine n_getR_W 1 82 (C := RX12) (T := TX12) (N := 19) dX12_countOf_104 (by decide) rfl rfl (by decide) rfl fl_RX12_13 ?_
                  refine n_bipush_W (v := (nI 8)) dX12_countOf_107 rfl ?_
                  refine n_aldR_W (lo := 0) (up := 6) dX12_countOf_109 (by decide) rfl (by omega) (by decide) rfl (fun m16 hm16 km16 => ?_)
                  refine n_goto_W 165 dX12_countOf_110 (by decide) ?_
                  exact n_iret_W dX12_countOf_165 rfl rfl ⟨_, rfl⟩
              · refine n_aload_n_W dX12_countOf_89 rfl rfl ?_
                refine n_iconst_W (v := (nI 0)) dX12_countOf_90 rfl ?_
                refine n_callV_W (T := TX12) (NN := 19) [] (y_X12_movesOf_0_W) dX12_countOf_91 kk_X12_countOf_X12_movesOf ml_RX12_242 mwX12_movesOf ewX12_movesOf (by decide) rfl rfl rfl rfl (Nat.le_of_ble_eq_true rfl) ?_
                rintro _ ⟨x17, rfl⟩
                refine n_goto_W 165 dX12_countOf_94 (by decide) ?_
                exact n_iret_W dX12_countOf_165 rfl rfl ⟨_, rfl⟩
            · refine n_aload_n_W dX12_countOf_74 rfl rfl ?_
              refine n_getR_W 1 82 (C := RX12) (T := TX12) (N := 19) dX12_countOf_75 (by decide) rfl rfl (by decide) rfl fl_RX12_13 ?_
              refine n_iconst_W (v := (nI 2)) dX12_countOf_78 rfl ?_
              refine n_aldR_W (lo := 0) (up := 5) dX12_countOf_79 (by decide) rfl (by omega) (by decide) rfl (fun m18 hm18 km18 => ?_)
              refine n_goto_W 165 dX12_countOf_80 (by decide) ?_
              exact n_iret_W dX12_countOf_165 rfl rfl ⟨_, rfl⟩
          · refine n_aload_n_W dX12_countOf_60 rfl rfl ?_
            refine n_getR_W 0 81 (C := RX12) (T := TX12) (N := 19) dX12_countOf_61 (by decide) rfl rfl (by decide) rfl fl_RX12_7 ?_
            refine n_iconst_W (v := (nI 1)) dX12_countOf_64 rfl ?_
            refine n_ald_W dX12_countOf_65 (by decide) rfl (by omega) (by decide) (fun x19 => ?_)
            refine n_goto_W 165 dX12_countOf_66 (by decide) ?_
            exact n_iret_W dX12_countOf_165 rfl rfl ⟨_, rfl⟩
        · refine n_aload_n_W dX12_countOf_46 rfl rfl ?_
          refine n_getR_W 0 81 (C := RX12) (T := TX12) (N := 19) dX12_countOf_47 (by decide) rfl rfl (by decide) rfl fl_RX12_7 ?_
          refine n_iconst_W (v := (nI 0)) dX12_countOf_50 rfl ?_
          refine n_aldR_W (lo := 0) (up := 11) dX12_countOf_51 (by decide) rfl (by omega) (by decide) rfl (fun m20 hm20 km20 => ?_)
          refine n_goto_W 165 dX12_countOf_52 (by decide) ?_
          exact n_iret_W dX12_countOf_165 rfl rfl ⟨_, rfl⟩
      · refine n_aload_n_W dX12_countOf_32 rfl rfl ?_
        refine n_getR_W 0 81 (C := RX12) (T := TX12) (N := 19) dX12_countOf_33 (by decide) rfl rfl (by decide) rfl fl_RX12_7 ?_
        refine n_iconst_W (v := (nI 2)) dX12_countOf_36 rfl ?_
        refine n_aldR_W (lo := 0) (up := 11) dX12_countOf_37 (by decide) rfl (by omega) (by decide) rfl (fun m21 hm21 km21 => ?_)
        refine n_goto_W 165 dX12_countOf_38 (by decide) ?_
        exact n_iret_W dX12_countOf_165 rfl rfl ⟨_, rfl⟩
    · refine n_aload_n_W dX12_countOf_18 rfl rfl ?_
      refine n_getR_W 1 82 (C := RX12) (T := TX12) (N := 19) dX12_countOf_19 (by decide) rfl rfl (by decide) rfl fl_RX12_13 ?_
      refine n_iconst_W (v := (nI 1)) dX12_countOf_22 rfl ?_
      refine n_ald_W dX12_countOf_23 (by decide) rfl (by omega) (by decide) (fun x22 => ?_)
      refine n_goto_W 165 dX12_countOf_24 (by decide) ?_
      exact n_iret_W dX12_countOf_165 rfl rfl ⟨_, rfl⟩
  · refine n_aload_n_W dX12_countOf_4 rfl rfl ?_
    refine n_getR_W 1 82 (C := RX12) (T := TX12) (N := 19) dX12_countOf_5 (by decide) rfl rfl (by decide) rfl fl_RX12_13 ?_
    refine n_iconst_W (v := (nI 0)) dX12_countOf_8 rfl ?_
    refine n_aldR_W (lo := 1) (up := 12) dX12_countOf_9 (by decide) rfl (by omega) (by decide) rfl (fun m23 hm23 km23 => ?_)
    refine n_goto_W 165 dX12_countOf_10 (by decide) ?_
    exact n_iret_W dX12_countOf_165 rfl rfl ⟨_, rfl⟩
set_option maxRecDepth 100000 in
theorem y_X12_count_W (a1 : Int32) : zs_U_W MX12_count [.ref 80, .int a1] zs_Ri := by
  refine zs_Vof_W (by decide) (Nat.le_of_ble_eq_true rfl) ?_
  show zs_V_W MX12_count 0 [(0, .ref 80), (1, .int a1)] [] zs_Ri
  refine n_iload_n_W dX12_count_0 rfl rfl ?_
  refine n_i2l_W dX12_count_1 ?_
  refine n_lconst_W (v := 0) dX12_count_2 (by decide) ?_
  refine n_ldc2_W (v := 11) dX12_count_3 cl_RX12_60 ?_
  refine n_callS_W [.long (Int32.toInt64 a1), .long 0, .long 11] [] (y_in_W (Int32.toInt64 a1) 0 11) dX12_count_6 kk_X12_count_X12_in ml_RX12_54 swX12_in rfl rfl (Nat.le_of_ble_eq_true rfl) ?_
  rintro _ ⟨x1, rfl, bx1, fx1⟩
  refine n_if_eq_W 20 dX12_count_9 (by decide) (fun h2 => ?_) (fun h2 => ?_)
  · refine n_aload_n_W dX12_count_20 rfl rfl ?_
    refine n_callV_W (T := TX12) (NN := 19) [] (y_X12_bad_W) dX12_count_21 kk_X12_count_X12_bad ml_RX12_62 mwX12_bad ewX12_bad (by decide) rfl rfl rfl rfl (Nat.le_of_ble_eq_true rfl) ?_
    rintro _ ⟨x3, rfl⟩
    exact n_iret_W dX12_count_24 rfl rfl ⟨_, rfl⟩
  · obtain ⟨k4, lk4, uk4, rfl⟩ := zs_inR (lo := 0) (hi := 11) (fx1 h2) (by decide) (by decide)
    refine n_aload_n_W dX12_count_12 rfl rfl ?_
    refine n_iload_n_W dX12_count_13 rfl rfl ?_
    refine n_callV_W (T := TX12) (NN := 19) [] (y_X12_countOf_W (nI k4)) dX12_count_14 kk_X12_count_X12_countOf ml_RX12_249 mwX12_countOf ewX12_countOf (by decide) rfl rfl rfl rfl (Nat.le_of_ble_eq_true rfl) ?_
    rintro _ ⟨x5, rfl⟩
    refine n_goto_W 24 dX12_count_17 (by decide) ?_
    exact n_iret_W dX12_count_24 rfl rfl ⟨_, rfl⟩
set_option maxRecDepth 100000 in
theorem y_X12_digest_W : zs_U_W MX12_digest [.ref 80] zs_Rl := by
  refine zs_Vof_W (by decide) (Nat.le_of_ble_eq_true rfl) ?_
  show zs_V_W MX12_digest 0 [(0, .ref 80)] [] zs_Rl
  have j263 : ∀ (n263 : Nat) (v263_1 : Int64) (c263 : Nat), 0 ≤ c263 → c263 ≤ 6 → 6 - c263 < n263 → zs_V_W MX12_digest 263 [(0, .ref 80), (1, .long v263_1), (3, .int (nI c263))] [] zs_Rl := by
    intro n263
    induction n263 with
    | zero => intro v263_1 c263 lc263 uc263 hn263; exact absurd hn263 (Nat.not_lt_zero _)
    | succ n263 ih263 =>
      intro v263_1 c263 lc263 uc263 hn263
      refine n_iload_n_W dX12_digest_263 rfl rfl ?_
      refine n_aload_n_W dX12_digest_264 rfl rfl ?_
      refine n_getR_W 1 82 (C := RX12) (T := TX12) (N := 19) dX12_digest_265 (by decide) rfl rfl (by decide) rfl fl_RX12_13 ?_
      refine n_bipush_W (v := (nI 46)) dX12_digest_268 rfl ?_
      refine n_aldR_W (lo := 0) (up := 6) dX12_digest_270 (by decide) rfl (by omega) (by decide) rfl (fun m1 hm1 km1 => ?_)
      refine n_ic_geN_W 327 dX12_digest_271 (by decide) (by omega) (by omega) (fun h2 => ?_) (fun h2 => ?_)
      · refine n_ldc2_W (v := 31) dX12_digest_327 cl_RX12_254 ?_
        refine n_ldc2_W (v := 31) dX12_digest_330 cl_RX12_254 ?_
        refine n_lload_n_W dX12_digest_333 rfl rfl ?_
        refine n_lmul_W dX12_digest_334 (fun x3 => ?_)
        refine n_aload_n_W dX12_digest_335 rfl rfl ?_
        refine n_getL_W 12 (C := RX12) (T := TX12) (N := 19) dX12_digest_336 (by decide) rfl rfl (by decide) rfl fl_RX12_229 (fun x4 => ?_)
        refine n_ladd_W dX12_digest_339 (fun x5 => ?_)
        refine n_lmul_W dX12_digest_340 (fun x6 => ?_)
        refine n_aload_n_W dX12_digest_341 rfl rfl ?_
        refine n_getL_W 13 (C := RX12) (T := TX12) (N := 19) dX12_digest_342 (by decide) rfl rfl (by decide) rfl fl_RX12_23 (fun x7 => ?_)
        refine n_ladd_W dX12_digest_345 (fun x8 => ?_)
        exact n_lret_W dX12_digest_346 rfl ⟨_, rfl⟩
      · refine n_ldc2_W (v := 31) dX12_digest_274 cl_RX12_254 ?_
        refine n_ldc2_W (v := 31) dX12_digest_277 cl_RX12_254 ?_
        refine n_ldc2_W (v := 31) dX12_digest_280 cl_RX12_254 ?_
        refine n_lload_n_W dX12_digest_283 rfl rfl ?_
        refine n_lmul_W dX12_digest_284 (fun x9 => ?_)
        refine n_aload_n_W dX12_digest_285 rfl rfl ?_
        refine n_getR_W 1 82 (C := RX12) (T := TX12) (N := 19) dX12_digest_286 (by decide) rfl rfl (by decide) rfl fl_RX12_13 ?_
        refine n_bipush_W (v := (nI 47)) dX12_digest_289 rfl ?_
        refine n_iload_n_W dX12_digest_291 rfl rfl ?_
        refine n_iaddN_W dX12_digest_292 ?_
        refine n_ald_W dX12_digest_293 (by decide) rfl (by omega) (by decide) (fun x10 => ?_)
        refine n_i2l_W dX12_digest_294 ?_
        refine n_ladd_W dX12_digest_295 (fun x11 => ?_)
        refine n_lmul_W dX12_digest_296 (fun x12 => ?_)
        refine n_aload_n_W dX12_digest_297 rfl rfl ?_
        refine n_getR_W 1 82 (C := RX12) (T := TX12) (N := 19) dX12_digest_298 (by decide) rfl rfl (by decide) rfl fl_RX12_13 ?_
        refine n_bipush_W (v := (nI 53)) dX12_digest_301 rfl ?_
        refine n_iload_n_W dX12_digest_303 rfl rfl ?_
        refine n_iaddN_W dX12_digest_304 ?_
        refine n_ald_W dX12_digest_305 (by decide) rfl (by omega) (by decide) (fun x13 => ?_)
        refine n_i2l_W dX12_digest_306 ?_
        refine n_ladd_W dX12_digest_307 (fun x14 => ?_)
        refine n_lmul_W dX12_digest_308 (fun x15 => ?_)
        refine n_aload_n_W dX12_digest_309 rfl rfl ?_
        refine n_getR_W 1 82 (C := RX12) (T := TX12) (N := 19) dX12_digest_310 (by decide) rfl rfl (by decide) rfl fl_RX12_13 ?_
        refine n_bipush_W (v := (nI 59)) dX12_digest_313 rfl ?_
        refine n_iload_n_W dX12_digest_315 rfl rfl ?_
        refine n_iaddN_W dX12_digest_316 ?_
        refine n_ald_W dX12_digest_317 (by decide) rfl (by omega) (by decide) (fun x16 => ?_)
        refine n_i2l_W dX12_digest_318 ?_
        refine n_ladd_W dX12_digest_319 (fun x17 => ?_)
        refine n_lstore_n_W (lv' := [(1, .long x17), (0, .ref 80), (3, .int (nI c263))]) dX12_digest_320 rfl (by decide) rfl ?_
        refine n_iinc_W (v := (nI (c263 + 1))) (lv' := [(3, .int (nI (c263 + 1))), (1, .long x17), (0, .ref 80)]) dX12_digest_321 rfl (nI_1 c263) (by decide) rfl ?_
        refine n_goto_W 263 dX12_digest_324 (by decide) ?_
        exact zs_Vlv_W (ih263 x17 (c263 + 1) (by omega) (by omega) (by omega)) (zs_mc 2 rfl (zs_mc 1 rfl (zs_mc 0 rfl zs_mn)))
  have j182 : ∀ (n182 : Nat) (v182_1 : Int64) (c182 : Nat), 0 ≤ c182 → c182 ≤ 6 → 6 - c182 < n182 → zs_V_W MX12_digest 182 [(0, .ref 80), (1, .long v182_1), (3, .int (nI c182))] [] zs_Rl := by
    intro n182
    induction n182 with
    | zero => intro v182_1 c182 lc182 uc182 hn182; exact absurd hn182 (Nat.not_lt_zero _)
    | succ n182 ih182 =>
      intro v182_1 c182 lc182 uc182 hn182
      refine n_iload_n_W dX12_digest_182 rfl rfl ?_
      refine n_aload_n_W dX12_digest_183 rfl rfl ?_
      refine n_getR_W 1 82 (C := RX12) (T := TX12) (N := 19) dX12_digest_184 (by decide) rfl rfl (by decide) rfl fl_RX12_13 ?_
      refine n_bipush_W (v := (nI 21)) dX12_digest_187 rfl ?_
      refine n_aldR_W (lo := 0) (up := 6) dX12_digest_189 (by decide) rfl (by omega) (by decide) rfl (fun m18 hm18 km18 => ?_)
      refine n_ic_geN_W 261 dX12_digest_190 (by decide) (by omega) (by omega) (fun h19 => ?_) (fun h19 => ?_)
      · refine n_iconst_W (v := (nI 0)) dX12_digest_261 rfl ?_
        refine n_istore_n_W (lv' := [(3, .int (nI 0)), (0, .ref 80), (1, .long v182_1)]) dX12_digest_262 rfl (by decide) rfl ?_
        exact zs_Vlv_W (j263 _ v182_1 0 (by omega) (by omega) (Nat.lt_succ_self _)) (zs_mc 1 rfl (zs_mc 2 rfl (zs_mc 0 rfl zs_mn)))
      · refine n_ldc2_W (v := 31) dX12_digest_193 cl_RX12_254 ?_
        refine n_ldc2_W (v := 31) dX12_digest_196 cl_RX12_254 ?_
        refine n_ldc2_W (v := 31) dX12_digest_199 cl_RX12_254 ?_
        refine n_ldc2_W (v := 31) dX12_digest_202 cl_RX12_254 ?_
        refine n_lload_n_W dX12_digest_205 rfl rfl ?_
        refine n_lmul_W dX12_digest_206 (fun x20 => ?_)
        refine n_aload_n_W dX12_digest_207 rfl rfl ?_
        refine n_getR_W 1 82 (C := RX12) (T := TX12) (N := 19) dX12_digest_208 (by decide) rfl rfl (by decide) rfl fl_RX12_13 ?_
        refine n_bipush_W (v := (nI 22)) dX12_digest_211 rfl ?_
        refine n_iload_n_W dX12_digest_213 rfl rfl ?_
        refine n_iaddN_W dX12_digest_214 ?_
        refine n_ald_W dX12_digest_215 (by decide) rfl (by omega) (by decide) (fun x21 => ?_)
        refine n_i2l_W dX12_digest_216 ?_
        refine n_ladd_W dX12_digest_217 (fun x22 => ?_)
        refine n_lmul_W dX12_digest_218 (fun x23 => ?_)
        refine n_aload_n_W dX12_digest_219 rfl rfl ?_
        refine n_getR_W 1 82 (C := RX12) (T := TX12) (N := 19) dX12_digest_220 (by decide) rfl rfl (by decide) rfl fl_RX12_13 ?_
        refine n_bipush_W (v := (nI 28)) dX12_digest_223 rfl ?_
        refine n_iload_n_W dX12_digest_225 rfl rfl ?_
        refine n_iaddN_W dX12_digest_226 ?_
        refine n_ald_W dX12_digest_227 (by decide) rfl (by omega) (by decide) (fun x24 => ?_)
        refine n_i2l_W dX12_digest_228 ?_
        refine n_ladd_W dX12_digest_229 (fun x25 => ?_)
        refine n_lmul_W dX12_digest_230 (fun x26 => ?_)
        refine n_aload_n_W dX12_digest_231 rfl rfl ?_
        refine n_getR_W 1 82 (C := RX12) (T := TX12) (N := 19) dX12_digest_232 (by decide) rfl rfl (by decide) rfl fl_RX12_13 ?_
        refine n_bipush_W (v := (nI 34)) dX12_digest_235 rfl ?_
        refine n_iload_n_W dX12_digest_237 rfl rfl ?_
        refine n_iaddN_W dX12_digest_238 ?_
        refine n_ald_W dX12_digest_239 (by decide) rfl (by omega) (by decide) (fun x27 => ?_)
        refine n_i2l_W dX12_digest_240 ?_
        refine n_ladd_W dX12_digest_241 (fun x28 => ?_)
        refine n_lmul_W dX12_digest_242 (fun x29 => ?_)
        refine n_aload_n_W dX12_digest_243 rfl rfl ?_
        refine n_getR_W 1 82 (C := RX12) (T := TX12) (N := 19) dX12_digest_244 (by decide) rfl rfl (by decide) rfl fl_RX12_13 ?_
        refine n_bipush_W (v := (nI 40)) dX12_digest_247 rfl ?_
        refine n_iload_n_W dX12_digest_249 rfl rfl ?_
        refine n_iaddN_W dX12_digest_250 ?_
        refine n_ald_W dX12_digest_251 (by decide) rfl (by omega) (by decide) (fun x30 => ?_)
        refine n_i2l_W dX12_digest_252 ?_
        refine n_ladd_W dX12_digest_253 (fun x31 => ?_)
        refine n_lstore_n_W (lv' := [(1, .long x31), (0, .ref 80), (3, .int (nI c182))]) dX12_digest_254 rfl (by decide) rfl ?_
        refine n_iinc_W (v := (nI (c182 + 1))) (lv' := [(3, .int (nI (c182 + 1))), (1, .long x31), (0, .ref 80)]) dX12_digest_255 rfl (nI_1 c182) (by decide) rfl ?_
        refine n_goto_W 182 dX12_digest_258 (by decide) ?_
        exact zs_Vlv_W (ih182 x31 (c182 + 1) (by omega) (by omega) (by omega)) (zs_mc 2 rfl (zs_mc 1 rfl (zs_mc 0 rfl zs_mn)))
  have j131 : ∀ (n131 : Nat) (v131_1 : Int64) (c131 : Nat), 0 ≤ c131 → c131 ≤ 6 → 6 - c131 < n131 → zs_V_W MX12_digest 131 [(0, .ref 80), (1, .long v131_1), (3, .int (nI c131))] [] zs_Rl := by
    intro n131
    induction n131 with
    | zero => intro v131_1 c131 lc131 uc131 hn131; exact absurd hn131 (Nat.not_lt_zero _)
    | succ n131 ih131 =>
      intro v131_1 c131 lc131 uc131 hn131
      refine n_iload_n_W dX12_digest_131 rfl rfl ?_
      refine n_aload_n_W dX12_digest_132 rfl rfl ?_
      refine n_getR_W 1 82 (C := RX12) (T := TX12) (N := 19) dX12_digest_133 (by decide) rfl rfl (by decide) rfl fl_RX12_13 ?_
      refine n_bipush_W (v := (nI 8)) dX12_digest_136 rfl ?_
      refine n_aldR_W (lo := 0) (up := 6) dX12_digest_138 (by decide) rfl (by omega) (by decide) rfl (fun m32 hm32 km32 => ?_)
      refine n_ic_geN_W 180 dX12_digest_139 (by decide) (by omega) (by omega) (fun h33 => ?_) (fun h33 => ?_)
      · refine n_iconst_W (v := (nI 0)) dX12_digest_180 rfl ?_
        refine n_istore_n_W (lv' := [(3, .int (nI 0)), (0, .ref 80), (1, .long v131_1)]) dX12_digest_181 rfl (by decide) rfl ?_
        exact zs_Vlv_W (j182 _ v131_1 0 (by omega) (by omega) (Nat.lt_succ_self _)) (zs_mc 1 rfl (zs_mc 2 rfl (zs_mc 0 rfl zs_mn)))
      · refine n_ldc2_W (v := 31) dX12_digest_142 cl_RX12_254 ?_
        refine n_ldc2_W (v := 31) dX12_digest_145 cl_RX12_254 ?_
        refine n_lload_n_W dX12_digest_148 rfl rfl ?_
        refine n_lmul_W dX12_digest_149 (fun x34 => ?_)
        refine n_aload_n_W dX12_digest_150 rfl rfl ?_
        refine n_getR_W 1 82 (C := RX12) (T := TX12) (N := 19) dX12_digest_151 (by decide) rfl rfl (by decide) rfl fl_RX12_13 ?_
        refine n_bipush_W (v := (nI 9)) dX12_digest_154 rfl ?_
        refine n_iload_n_W dX12_digest_156 rfl rfl ?_
        refine n_iaddN_W dX12_digest_157 ?_
        refine n_aldR_W (lo := 0) (up := 30) dX12_digest_158 (by decide) rfl (by omega) (by decide) (rg_82_9_14 _ (by omega) (by omega)) (fun m35 hm35 km35 => ?_)
        refine n_i2l_W dX12_digest_159 ?_
        refine n_ladd_W dX12_digest_160 (fun x36 => ?_)
        refine n_lmul_W dX12_digest_161 (fun x37 => ?_)
        refine n_aload_n_W dX12_digest_162 rfl rfl ?_
        refine n_getR_W 1 82 (C := RX12) (T := TX12) (N := 19) dX12_digest_163 (by decide) rfl rfl (by decide) rfl fl_RX12_13 ?_
        refine n_bipush_W (v := (nI 15)) dX12_digest_166 rfl ?_
        refine n_iload_n_W dX12_digest_168 rfl rfl ?_
        refine n_iaddN_W dX12_digest_169 ?_
        refine n_ald_W dX12_digest_170 (by decide) rfl (by omega) (by decide) (fun x38 => ?_)
        refine n_i2l_W dX12_digest_171 ?_
        refine n_ladd_W dX12_digest_172 (fun x39 => ?_)
        refine n_lstore_n_W (lv' := [(1, .long x39), (0, .ref 80), (3, .int (nI c131))]) dX12_digest_173 rfl (by decide) rfl ?_
        refine n_iinc_W (v := (nI (c131 + 1))) (lv' := [(3, .int (nI (c131 + 1))), (1, .long x39), (0, .ref 80)]) dX12_digest_174 rfl (nI_1 c131) (by decide) rfl ?_
        refine n_goto_W 131 dX12_digest_177 (by decide) ?_
        exact zs_Vlv_W (ih131 x39 (c131 + 1) (by omega) (by omega) (by omega)) (zs_mc 2 rfl (zs_mc 1 rfl (zs_mc 0 rfl zs_mn)))
  have j67 : ∀ (n67 : Nat) (v67_1 : Int64) (c67 : Nat), 0 ≤ c67 → c67 ≤ 5 → 5 - c67 < n67 → zs_V_W MX12_digest 67 [(0, .ref 80), (1, .long v67_1), (3, .int (nI c67))] [] zs_Rl := by
    intro n67
    induction n67 with
    | zero => intro v67_1 c67 lc67 uc67 hn67; exact absurd hn67 (Nat.not_lt_zero _)
    | succ n67 ih67 =>
      intro v67_1 c67 lc67 uc67 hn67
      refine n_iload_n_W dX12_digest_67 rfl rfl ?_
      refine n_aload_n_W dX12_digest_68 rfl rfl ?_
      refine n_getR_W 1 82 (C := RX12) (T := TX12) (N := 19) dX12_digest_69 (by decide) rfl rfl (by decide) rfl fl_RX12_13 ?_
      refine n_iconst_W (v := (nI 2)) dX12_digest_72 rfl ?_
      refine n_aldR_W (lo := 0) (up := 5) dX12_digest_73 (by decide) rfl (by omega) (by decide) rfl (fun m40 hm40 km40 => ?_)
      refine n_ic_geN_W 129 dX12_digest_74 (by decide) (by omega) (by omega) (fun h41 => ?_) (fun h41 => ?_)
      · refine n_iconst_W (v := (nI 0)) dX12_digest_129 rfl ?_
        refine n_istore_n_W (lv' := [(3, .int (nI 0)), (0, .ref 80), (1, .long v67_1)]) dX12_digest_130 rfl (by decide) rfl ?_
        exact zs_Vlv_W (j131 _ v67_1 0 (by omega) (by omega) (Nat.lt_succ_self _)) (zs_mc 1 rfl (zs_mc 2 rfl (zs_mc 0 rfl zs_mn)))
      · refine n_ldc2_W (v := 31) dX12_digest_77 cl_RX12_254 ?_
        refine n_ldc2_W (v := 31) dX12_digest_80 cl_RX12_254 ?_
        refine n_ldc2_W (v := 31) dX12_digest_83 cl_RX12_254 ?_
        refine n_lload_n_W dX12_digest_86 rfl rfl ?_
        refine n_lmul_W dX12_digest_87 (fun x42 => ?_)
        refine n_aload_n_W dX12_digest_88 rfl rfl ?_
        refine n_getR_W 1 82 (C := RX12) (T := TX12) (N := 19) dX12_digest_89 (by decide) rfl rfl (by decide) rfl fl_RX12_13 ?_
        refine n_iconst_W (v := (nI 3)) dX12_digest_92 rfl ?_
        refine n_iload_n_W dX12_digest_93 rfl rfl ?_
        refine n_iaddN_W dX12_digest_94 ?_
        refine n_ald_W dX12_digest_95 (by decide) rfl (by omega) (by decide) (fun x43 => ?_)
        refine n_i2l_W dX12_digest_96 ?_
        refine n_ladd_W dX12_digest_97 (fun x44 => ?_)
        refine n_lmul_W dX12_digest_98 (fun x45 => ?_)
        refine n_aload_n_W dX12_digest_99 rfl rfl ?_
        refine n_getR_W 0 81 (C := RX12) (T := TX12) (N := 19) dX12_digest_100 (by decide) rfl rfl (by decide) rfl fl_RX12_7 ?_
        refine n_bipush_W (v := (nI 15)) dX12_digest_103 rfl ?_
        refine n_iload_n_W dX12_digest_105 rfl rfl ?_
        refine n_iaddN_W dX12_digest_106 ?_
        refine n_ald_W dX12_digest_107 (by decide) rfl (by omega) (by decide) (fun x46 => ?_)
        refine n_i2l_W dX12_digest_108 ?_
        refine n_ladd_W dX12_digest_109 (fun x47 => ?_)
        refine n_lmul_W dX12_digest_110 (fun x48 => ?_)
        refine n_aload_n_W dX12_digest_111 rfl rfl ?_
        refine n_getR_W 0 81 (C := RX12) (T := TX12) (N := 19) dX12_digest_112 (by decide) rfl rfl (by decide) rfl fl_RX12_7 ?_
        refine n_bipush_W (v := (nI 20)) dX12_digest_115 rfl ?_
        refine n_iload_n_W dX12_digest_117 rfl rfl ?_
        refine n_iaddN_W dX12_digest_118 ?_
        refine n_ald_W dX12_digest_119 (by decide) rfl (by omega) (by decide) (fun x49 => ?_)
        refine n_i2l_W dX12_digest_120 ?_
        refine n_ladd_W dX12_digest_121 (fun x50 => ?_)
        refine n_lstore_n_W (lv' := [(1, .long x50), (0, .ref 80), (3, .int (nI c67))]) dX12_digest_122 rfl (by decide) rfl ?_
        refine n_iinc_W (v := (nI (c67 + 1))) (lv' := [(3, .int (nI (c67 + 1))), (1, .long x50), (0, .ref 80)]) dX12_digest_123 rfl (nI_1 c67) (by decide) rfl ?_
        refine n_goto_W 67 dX12_digest_126 (by decide) ?_
        exact zs_Vlv_W (ih67 x50 (c67 + 1) (by omega) (by omega) (by omega)) (zs_mc 2 rfl (zs_mc 1 rfl (zs_mc 0 rfl zs_mn)))
  have j33 : ∀ (n33 : Nat) (v33_1 : Int64) (c33 : Nat), 0 ≤ c33 → c33 ≤ 12 → 12 - c33 < n33 → zs_V_W MX12_digest 33 [(0, .ref 80), (1, .long v33_1), (3, .int (nI c33))] [] zs_Rl := by
    intro n33
    induction n33 with
    | zero => intro v33_1 c33 lc33 uc33 hn33; exact absurd hn33 (Nat.not_lt_zero _)
    | succ n33 ih33 =>
      intro v33_1 c33 lc33 uc33 hn33
      refine n_iload_n_W dX12_digest_33 rfl rfl ?_
      refine n_aload_n_W dX12_digest_34 rfl rfl ?_
      refine n_getR_W 1 82 (C := RX12) (T := TX12) (N := 19) dX12_digest_35 (by decide) rfl rfl (by decide) rfl fl_RX12_13 ?_
      refine n_iconst_W (v := (nI 0)) dX12_digest_38 rfl ?_
      refine n_aldR_W (lo := 1) (up := 12) dX12_digest_39 (by decide) rfl (by omega) (by decide) rfl (fun m51 hm51 km51 => ?_)
      refine n_ic_geN_W 65 dX12_digest_40 (by decide) (by omega) (by omega) (fun h52 => ?_) (fun h52 => ?_)
      · refine n_iconst_W (v := (nI 0)) dX12_digest_65 rfl ?_
        refine n_istore_n_W (lv' := [(3, .int (nI 0)), (0, .ref 80), (1, .long v33_1)]) dX12_digest_66 rfl (by decide) rfl ?_
        exact zs_Vlv_W (j67 _ v33_1 0 (by omega) (by omega) (Nat.lt_succ_self _)) (zs_mc 1 rfl (zs_mc 2 rfl (zs_mc 0 rfl zs_mn)))
      · refine n_ldc2_W (v := 31) dX12_digest_43 cl_RX12_254 ?_
        refine n_lload_n_W dX12_digest_46 rfl rfl ?_
        refine n_lmul_W dX12_digest_47 (fun x53 => ?_)
        refine n_aload_n_W dX12_digest_48 rfl rfl ?_
        refine n_getR_W 0 81 (C := RX12) (T := TX12) (N := 19) dX12_digest_49 (by decide) rfl rfl (by decide) rfl fl_RX12_7 ?_
        refine n_iconst_W (v := (nI 3)) dX12_digest_52 rfl ?_
        refine n_iload_n_W dX12_digest_53 rfl rfl ?_
        refine n_iaddN_W dX12_digest_54 ?_
        refine n_aldR_W (lo := 0) (up := 9) dX12_digest_55 (by decide) rfl (by omega) (by decide) (rg_81_3_14 _ (by omega) (by omega)) (fun m54 hm54 km54 => ?_)
        refine n_i2l_W dX12_digest_56 ?_
        refine n_ladd_W dX12_digest_57 (fun x55 => ?_)
        refine n_lstore_n_W (lv' := [(1, .long x55), (0, .ref 80), (3, .int (nI c33))]) dX12_digest_58 rfl (by decide) rfl ?_
        refine n_iinc_W (v := (nI (c33 + 1))) (lv' := [(3, .int (nI (c33 + 1))), (1, .long x55), (0, .ref 80)]) dX12_digest_59 rfl (nI_1 c33) (by decide) rfl ?_
        refine n_goto_W 33 dX12_digest_62 (by decide) ?_
        exact zs_Vlv_W (ih33 x55 (c33 + 1) (by omega) (by omega) (by omega)) (zs_mc 2 rfl (zs_mc 1 rfl (zs_mc 0 rfl zs_mn)))
  have j6 : ∀ (n6 : Nat) (v6_1 : Int64) (c6 : Int32), zs_mu c6 < n6 → zs_V_W MX12_digest 6 [(0, .ref 80), (1, .long v6_1), (3, .int c6)] [] zs_Rl := by
    intro n6
    induction n6 with
    | zero => intro v6_1 c6 hn6; exact absurd hn6 (Nat.not_lt_zero _)
    | succ n6 ih6 =>
      intro v6_1 c6 hn6
      refine n_iload_n_W dX12_digest_6 rfl rfl ?_
      refine n_bipush_W (v := (nI 12)) dX12_digest_7 rfl ?_
      refine n_ic_ge_W 31 dX12_digest_9 (by decide) (fun h56 => ?_) (fun h56 => ?_)
      · refine n_iconst_W (v := (nI 0)) dX12_digest_31 rfl ?_
        refine n_istore_n_W (lv' := [(3, .int (nI 0)), (0, .ref 80), (1, .long v6_1)]) dX12_digest_32 rfl (by decide) rfl ?_
        exact zs_Vlv_W (j33 _ v6_1 0 (by omega) (by omega) (Nat.lt_succ_self _)) (zs_mc 1 rfl (zs_mc 2 rfl (zs_mc 0 rfl zs_mn)))
      · have hd6 := zs_muA h56 hn6
        refine n_ldc2_W (v := 31) dX12_digest_12 cl_RX12_254 ?_
        refine n_lload_n_W dX12_digest_15 rfl rfl ?_
        refine n_lmul_W dX12_digest_16 (fun x57 => ?_)
        refine n_aload_n_W dX12_digest_17 rfl rfl ?_
        refine n_iload_n_W dX12_digest_18 rfl rfl ?_
        refine n_callV_W (T := TX12) (NN := 19) [.long x57] (y_X12_countOf_W c6) dX12_digest_19 kk_X12_digest_X12_countOf ml_RX12_249 mwX12_countOf ewX12_countOf (by decide) rfl rfl rfl rfl (Nat.le_of_ble_eq_true rfl) ?_
        rintro _ ⟨x58, rfl⟩
        refine n_i2l_W dX12_digest_22 ?_
        refine n_ladd_W dX12_digest_23 (fun x59 => ?_)
        refine n_lstore_n_W (lv' := [(1, .long x59), (0, .ref 80), (3, .int c6)]) dX12_digest_24 rfl (by decide) rfl ?_
        refine n_iinc_W (v := (c6 + Int32.ofInt 1)) (lv' := [(3, .int (c6 + Int32.ofInt 1)), (1, .long x59), (0, .ref 80)]) dX12_digest_25 rfl rfl (by decide) rfl ?_
        refine n_goto_W 6 dX12_digest_28 (by decide) ?_
        exact zs_Vlv_W (ih6 x59 (c6 + Int32.ofInt 1) hd6) (zs_mc 2 rfl (zs_mc 1 rfl (zs_mc 0 rfl zs_mn)))
  refine n_ldc2_W (v := 1787) dX12_digest_0 cl_RX12_252 ?_
  refine n_lstore_n_W (lv' := [(1, .long 1787), (0, .ref 80)]) dX12_digest_3 rfl (by decide) rfl ?_
  refine n_iconst_W (v := (nI 0)) dX12_digest_4 rfl ?_
  refine n_istore_n_W (lv' := [(3, .int (nI 0)), (1, .long 1787), (0, .ref 80)]) dX12_digest_5 rfl (by decide) rfl ?_
  exact zs_Vlv_W (j6 _ 1787 (nI 0) (Nat.lt_succ_self _)) (zs_mc 2 rfl (zs_mc 1 rfl (zs_mc 0 rfl zs_mn)))
