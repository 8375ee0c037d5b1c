set_option maxRecDepth 100000 in
theorem y_X12_rests_W (a1 : Nat) (la1 : 0 ≤ a1) (ua1 : a1 ≤ 3) (a2 : Nat) (la2 : 0 ≤ a2) (ua2 : a2 ≤ 3) : zs_U_W MX12_rests [.ref 80, .int (nI a1), .int (nI a2)] zs_Rb := by
  refine zs_Vof_W (by decide) (Nat.le_of_ble_eq_true rfl) ?_
  show zs_V_W MX12_rests 0 [(0, .ref 80), (1, .int (nI a1)), (2, .int (nI a2))] [] zs_Rb
  have j5 : ∀ (n5 : Nat) (v5_3 : Nat) (c5 : Nat), 0 ≤ v5_3 → v5_3 ≤ 1 → 0 ≤ c5 → c5 ≤ 4 → 4 - c5 < n5 → zs_V_W MX12_rests 5 [(0, .ref 80), (1, .int (nI a1)), (2, .int (nI a2)), (3, .int (nI v5_3)), (4, .int (nI c5))] [] zs_Rb := by
    intro n5
    induction n5 with
    | zero => intro v5_3 c5 lv5_3 uv5_3 lc5 uc5 hn5; exact absurd hn5 (Nat.not_lt_zero _)
    | succ n5 ih5 =>
      intro v5_3 c5 lv5_3 uv5_3 lc5 uc5 hn5
      have j68 : c5 + 1 ≤ 4 → ∀ (v68_3 : Nat) (s68_0 : Nat), 0 ≤ v68_3 → v68_3 ≤ 1 → 0 ≤ s68_0 → s68_0 ≤ 1 → zs_V_W MX12_rests 68 [(0, .ref 80), (1, .int (nI a1)), (2, .int (nI a2)), (3, .int (nI v68_3)), (4, .int (nI c5))] [.int (nI s68_0)] zs_Rb := by
        intro hd5 v68_3 s68_0 lv68_3 uv68_3 ls68_0 us68_0
        refine n_istore_n_W (lv' := [(3, .int (nI s68_0)), (0, .ref 80), (1, .int (nI a1)), (2, .int (nI a2)), (4, .int (nI c5))]) dX12_rests_68 rfl (by decide) rfl ?_
        refine n_iinc_W (v := (nI (c5 + 1))) (lv' := [(4, .int (nI (c5 + 1))), (3, .int (nI s68_0)), (0, .ref 80), (1, .int (nI a1)), (2, .int (nI a2))]) dX12_rests_69 rfl (nI_1 c5) (by decide) rfl ?_
        refine n_goto_W 5 dX12_rests_72 (by decide) ?_
        exact zs_Vlv_W (ih5 s68_0 (c5 + 1) (by omega) (by omega) (by omega) (by omega) (by omega)) (zs_mc 2 rfl (zs_mc 3 rfl (zs_mc 4 rfl (zs_mc 1 rfl (zs_mc 0 rfl zs_mn)))))
      have j67 : c5 + 1 ≤ 4 → ∀ (v67_3 : Nat), 0 ≤ v67_3 → v67_3 ≤ 1 → zs_V_W MX12_rests 67 [(0, .ref 80), (1, .int (nI a1)), (2, .int (nI a2)), (3, .int (nI v67_3)), (4, .int (nI c5))] [] zs_Rb := by
        intro hd5 v67_3 lv67_3 uv67_3
        refine n_iconst_W (v := (nI 0)) dX12_rests_67 rfl ?_
        exact j68 (by omega) v67_3 0 (by omega) (by omega) (by omega) (by omega)
      refine n_iload_W dX12_rests_5 rfl ?_
      refine n_iconst_W (v := (nI 4)) dX12_rests_7 rfl ?_
      refine n_ic_geN_W 75 dX12_rests_8 (by decide) (by omega) (by omega) (fun h1 => ?_) (fun h1 => ?_)
      · refine n_iload_n_W dX12_rests_75 rfl rfl ?_
        exact n_iret_W dX12_rests_76 rfl (zs_nb (by omega)) ⟨_, rfl, (zs_nb (by omega))⟩
      · refine n_iload_n_W dX12_rests_11 rfl rfl ?_
        refine n_if_eqN_W 67 dX12_rests_12 (by decide) (by omega) (fun h2 => ?_) (fun h2 => ?_)
        · exact j67 (by omega) v5_3 (by omega) (by omega)
        · refine n_aload_n_W dX12_rests_15 rfl rfl ?_
          refine n_getR_W 17 88 (C := RX12) (T := TX12) (N := 19) dX12_rests_16 (by decide) rfl rfl (by decide) rfl fl_RX12_36 ?_
          refine n_iconst_W (v := (nI 4)) dX12_rests_19 rfl ?_
          refine n_iload_W dX12_rests_20 rfl ?_
          refine n_imulN_W dX12_rests_22 ?_
          refine n_iload_n_W dX12_rests_23 rfl rfl ?_
          refine n_iaddN_W dX12_rests_24 ?_
          refine n_ald_W dX12_rests_25 (by decide) rfl (by omega) (by decide) (fun x3 => ?_)
          refine n_aload_n_W dX12_rests_26 rfl rfl ?_
          refine n_getR_W 17 88 (C := RX12) (T := TX12) (N := 19) dX12_rests_27 (by decide) rfl rfl (by decide) rfl fl_RX12_36 ?_
          refine n_iconst_W (v := (nI 4)) dX12_rests_30 rfl ?_
          refine n_iload_n_W dX12_rests_31 rfl rfl ?_
          refine n_imulN_W dX12_rests_32 ?_
          refine n_iload_n_W dX12_rests_33 rfl rfl ?_
          refine n_iaddN_W dX12_rests_34 ?_
          refine n_ald_W dX12_rests_35 (by decide) rfl (by omega) (by decide) (fun x4 => ?_)
          refine n_ic_gt_W 67 dX12_rests_36 (by decide) (fun h5 => ?_) (fun h5 => ?_)
          · exact j67 (by omega) v5_3 (by omega) (by omega)
          · refine n_aload_n_W dX12_rests_39 rfl rfl ?_
            refine n_getR_W 18 89 (C := RX12) (T := TX12) (N := 19) dX12_rests_40 (by decide) rfl rfl (by decide) rfl fl_RX12_39 ?_
            refine n_iconst_W (v := (nI 4)) dX12_rests_43 rfl ?_
            refine n_iload_n_W dX12_rests_44 rfl rfl ?_
            refine n_imulN_W dX12_rests_45 ?_
            refine n_iload_W dX12_rests_46 rfl ?_
            refine n_iaddN_W dX12_rests_48 ?_
            refine n_ald_W dX12_rests_49 (by decide) rfl (by omega) (by decide) (fun x6 => ?_)
            refine n_aload_n_W dX12_rests_50 rfl rfl ?_
            refine n_getR_W 18 89 (C := RX12) (T := TX12) (N := 19) dX12_rests_51 (by decide) rfl rfl (by decide) rfl fl_RX12_39 ?_
            refine n_iconst_W (v := (nI 4)) dX12_rests_54 rfl ?_
            refine n_iload_n_W dX12_rests_55 rfl rfl ?_
            refine n_imulN_W dX12_rests_56 ?_
            refine n_iload_n_W dX12_rests_57 rfl rfl ?_
            refine n_iaddN_W dX12_rests_58 ?_
            refine n_ald_W dX12_rests_59 (by decide) rfl (by omega) (by decide) (fun x7 => ?_)
            refine n_ic_gt_W 67 dX12_rests_60 (by decide) (fun h8 => ?_) (fun h8 => ?_)
            · exact j67 (by omega) v5_3 (by omega) (by omega)
            · refine n_iconst_W (v := (nI 1)) dX12_rests_63 rfl ?_
              refine n_goto_W 68 dX12_rests_64 (by decide) ?_
              exact j68 (by omega) v5_3 1 (by omega) (by omega) (by omega) (by omega)
  refine n_iconst_W (v := (nI 1)) dX12_rests_0 rfl ?_
  refine n_istore_n_W (lv' := [(3, .int (nI 1)), (0, .ref 80), (1, .int (nI a1)), (2, .int (nI a2))]) dX12_rests_1 rfl (by decide) rfl ?_
  refine n_iconst_W (v := (nI 0)) dX12_rests_2 rfl ?_
  refine n_istore_W (lv' := [(4, .int (nI 0)), (3, .int (nI 1)), (0, .ref 80), (1, .int (nI a1)), (2, .int (nI a2))]) dX12_rests_3 (by decide) rfl ?_
  exact zs_Vlv_W (j5 _ 1 0 (by omega) (by omega) (by omega) (by omega) (Nat.lt_succ_self _)) (zs_mc 2 rfl (zs_mc 3 rfl (zs_mc 4 rfl (zs_mc 1 rfl (zs_mc 0 rfl zs_mn)))))
set_option maxRecDepth 100000 in
theorem y_X12_hands_W (a1 : Int32) (a2 : Int32) (a3 : Int32) : zs_U_W MX12_hands [.ref 80, .int a1, .int a2, .int a3] zs_Ri := by
  refine zs_Vof_W (by decide) (Nat.le_of_ble_eq_true rfl) ?_
  show zs_V_W MX12_hands 0 [(0, .ref 80), (1, .int a1), (2, .int a2), (3, .int a3)] [] zs_Ri
  refine n_aload_n_W dX12_hands_0 rfl rfl ?_
  refine n_iload_n_W dX12_hands_1 rfl rfl ?_
  refine n_callV_W (T := TX12) (NN := 19) [] (y_isEye_W a1) dX12_hands_2 kk_X12_hands_X12_isEye ml_RX12_185 mwX12_isEye ewX12_isEye (by decide) rfl rfl rfl rfl (Nat.le_of_ble_eq_true rfl) ?_
  rintro _ ⟨x1, rfl, bx1, fx1⟩
  refine n_if_eq_W 26 dX12_hands_5 (by decide) (fun h2 => ?_) (fun h2 => ?_)
  · refine n_aload_n_W dX12_hands_26 rfl rfl ?_
    refine n_callV_W (T := TX12) (NN := 19) [] (y_X12_bad10_W) dX12_hands_27 kk_X12_hands_X12_bad10 ml_RX12_196 mwX12_bad10 ewX12_bad10 (by decide) rfl rfl rfl rfl (Nat.le_of_ble_eq_true rfl) ?_
    rintro _ ⟨x3, rfl⟩
    exact n_iret_W dX12_hands_30 rfl rfl ⟨_, rfl⟩
  · obtain ⟨k4, uk4, rfl⟩ := fx1 h2
    refine n_aload_n_W dX12_hands_8 rfl rfl ?_
    refine n_iload_n_W dX12_hands_9 rfl rfl ?_
    refine n_callV_W (T := TX12) (NN := 19) [] (y_isEye_W a2) dX12_hands_10 kk_X12_hands_X12_isEye ml_RX12_185 mwX12_isEye ewX12_isEye (by decide) rfl rfl rfl rfl (Nat.le_of_ble_eq_true rfl) ?_
    rintro _ ⟨x5, rfl, bx5, fx5⟩
    refine n_if_eq_W 26 dX12_hands_13 (by decide) (fun h6 => ?_) (fun h6 => ?_)
    · refine n_aload_n_W dX12_hands_26 rfl rfl ?_
      refine n_callV_W (T := TX12) (NN := 19) [] (y_X12_bad10_W) dX12_hands_27 kk_X12_hands_X12_bad10 ml_RX12_196 mwX12_bad10 ewX12_bad10 (by decide) rfl rfl rfl rfl (Nat.le_of_ble_eq_true rfl) ?_
      rintro _ ⟨x7, rfl⟩
      exact n_iret_W dX12_hands_30 rfl rfl ⟨_, rfl⟩
    · obtain ⟨k8, uk8, rfl⟩ := fx5 h6
      refine n_iload_n_W dX12_hands_16 rfl rfl ?_
      refine n_iload_n_W dX12_hands_17 rfl rfl ?_
      refine n_ic_eqN_W 26 dX12_hands_18 (by decide) (by omega) (by omega) (fun h9 => ?_) (fun h9 => ?_)
      · refine n_aload_n_W dX12_hands_26 rfl rfl ?_
        refine n_callV_W (T := TX12) (NN := 19) [] (y_X12_bad10_W) dX12_hands_27 kk_X12_hands_X12_bad10 ml_RX12_196 mwX12_bad10 ewX12_bad10 (by decide) rfl rfl rfl rfl (Nat.le_of_ble_eq_true rfl) ?_
        rintro _ ⟨x10, rfl⟩
        exact n_iret_W dX12_hands_30 rfl rfl ⟨_, rfl⟩
      · refine n_iload_n_W dX12_hands_21 rfl rfl ?_
        refine n_iconst_W (v := (-1)) dX12_hands_22 rfl ?_
        refine n_ic_ge_W 31 dX12_hands_23 (by decide) (fun h11 => ?_) (fun h11 => ?_)
        · have j133 : ∀ (n133 : Nat) (v133_4 : Int32) (c133 : Nat), 0 ≤ c133 → c133 ≤ 16 → 16 - c133 < n133 → zs_V_W MX12_hands 133 [(0, .ref 80), (1, .int (nI k4)), (2, .int (nI k8)), (3, .int a3), (4, .int v133_4), (5, .int (nI c133))] [] zs_Ri := by
            intro n133
            induction n133 with
            | zero => intro v133_4 c133 lc133 uc133 hn133; exact absurd hn133 (Nat.not_lt_zero _)
            | succ n133 ih133 =>
              intro v133_4 c133 lc133 uc133 hn133
              have j177 : c133 + 1 ≤ 16 → ∀ (v177_4 : Int32), zs_V_W MX12_hands 177 [(0, .ref 80), (1, .int (nI k4)), (2, .int (nI k8)), (3, .int a3), (4, .int v177_4), (5, .int (nI c133))] [] zs_Ri := by
                intro hd133 v177_4
                refine n_iinc_W (v := (nI (c133 + 1))) (lv' := [(5, .int (nI (c133 + 1))), (0, .ref 80), (1, .int (nI k4)), (2, .int (nI k8)), (3, .int a3), (4, .int v177_4)]) dX12_hands_177 rfl (nI_1 c133) (by decide) rfl ?_
                refine n_goto_W 133 dX12_hands_180 (by decide) ?_
                exact zs_Vlv_W (ih133 v177_4 (c133 + 1) (by omega) (by omega) (by omega)) (zs_mc 1 rfl (zs_mc 2 rfl (zs_mc 3 rfl (zs_mc 4 rfl (zs_mc 5 rfl (zs_mc 0 rfl zs_mn))))))
              refine n_iload_W dX12_hands_133 rfl ?_
              refine n_bipush_W (v := (nI 16)) dX12_hands_135 rfl ?_
              refine n_ic_geN_W 183 dX12_hands_137 (by decide) (by omega) (by omega) (fun h12 => ?_) (fun h12 => ?_)
              · refine n_iload_n_W dX12_hands_183 rfl rfl ?_
                refine n_if_ge_W 192 dX12_hands_184 (by decide) (fun h13 => ?_) (fun h13 => ?_)
                · refine n_bipush_W (v := (-5)) dX12_hands_192 rfl ?_
                  exact n_iret_W dX12_hands_194 rfl rfl ⟨_, rfl⟩
                · refine n_iload_W dX12_hands_187 rfl ?_
                  refine n_goto_W 194 dX12_hands_189 (by decide) ?_
                  exact n_iret_W dX12_hands_194 rfl rfl ⟨_, rfl⟩
              · refine n_aload_n_W dX12_hands_140 rfl rfl ?_
                refine n_iload_W dX12_hands_141 rfl ?_
                refine n_iconst_W (v := (nI 4)) dX12_hands_143 rfl ?_
                refine n_idivN_W dX12_hands_144 (by omega) (by omega) (by omega) ?_
                refine n_iload_W dX12_hands_145 rfl ?_
                refine n_iconst_W (v := (nI 4)) dX12_hands_147 rfl ?_
                refine n_iremN_W dX12_hands_148 (by omega) (by omega) (by omega) ?_
                refine n_callV_W (T := TX12) (NN := 19) [] (y_X12_rests_W (c133 / 4) (by omega) (by omega) (c133 % 4) (by omega) (by omega)) dX12_hands_149 kk_X12_hands_X12_rests ml_RX12_222 mwX12_rests ewX12_rests (by decide) rfl rfl rfl rfl (Nat.le_of_ble_eq_true rfl) ?_
                rintro _ ⟨x14, rfl, bx14⟩
                refine n_if_eq_W 177 dX12_hands_152 (by decide) (fun h15 => ?_) (fun h15 => ?_)
                · exact j177 (by omega) v133_4
                · refine n_iload_W dX12_hands_155 rfl ?_
                  refine n_iload_n_W dX12_hands_157 rfl rfl ?_
                  refine n_ic_ne_W 174 dX12_hands_158 (by decide) (fun h16 => ?_) (fun h16 => ?_)
                  · refine n_iinc_W (v := (v133_4 + Int32.ofInt 1)) (lv' := [(4, .int (v133_4 + Int32.ofInt 1)), (0, .ref 80), (1, .int (nI k4)), (2, .int (nI k8)), (3, .int a3), (5, .int (nI c133))]) dX12_hands_174 rfl rfl (by decide) rfl ?_
                    exact zs_Vlv_W (j177 (by omega) (v133_4 + Int32.ofInt 1)) (zs_mc 1 rfl (zs_mc 2 rfl (zs_mc 3 rfl (zs_mc 4 rfl (zs_mc 0 rfl (zs_mc 5 rfl zs_mn))))))
                  · refine n_bipush_W (v := (nI 10)) dX12_hands_161 rfl ?_
                    refine n_iload_W dX12_hands_163 rfl ?_
                    refine n_iconst_W (v := (nI 4)) dX12_hands_165 rfl ?_
                    refine n_idivN_W dX12_hands_166 (by omega) (by omega) (by omega) ?_
                    refine n_imulN_W dX12_hands_167 ?_
                    refine n_iload_W dX12_hands_168 rfl ?_
                    refine n_iconst_W (v := (nI 4)) dX12_hands_170 rfl ?_
                    refine n_iremN_W dX12_hands_171 (by omega) (by omega) (by omega) ?_
                    refine n_iaddN_W dX12_hands_172 ?_
                    exact n_iret_W dX12_hands_173 rfl rfl ⟨_, rfl⟩
          have j34 : ∀ (n34 : Nat) (c34 : Nat), 0 ≤ c34 → c34 ≤ 16 → 16 - c34 < n34 → zs_V_W MX12_hands 34 [(0, .ref 80), (1, .int (nI k4)), (2, .int (nI k8)), (3, .int a3), (4, .int (nI c34))] [] zs_Ri := by
            intro n34
            induction n34 with
            | zero => intro c34 lc34 uc34 hn34; exact absurd hn34 (Nat.not_lt_zero _)
            | succ n34 ih34 =>
              intro c34 lc34 uc34 hn34
              have j119 : c34 + 1 ≤ 16 → ∀ (s119_0 : Int32) (s119_1 : Int32) (s119_2 : Nat), 0 ≤ s119_2 → s119_2 ≤ 15 → zs_V_W MX12_hands 119 [(0, .ref 80), (1, .int (nI k4)), (2, .int (nI k8)), (3, .int a3), (4, .int (nI c34))] [.int s119_0, .int s119_1, .int (nI s119_2), .ref 89] zs_Ri := by
                intro hd34 s119_0 s119_1 s119_2 ls119_2 us119_2
                refine n_isub_W dX12_hands_119 (fun x17 => ?_)
                refine n_ast_W dX12_hands_120 (by decide) rfl (by omega) (by decide) rfl (zs_okN rfl (by decide) (by decide)) ?_
                refine n_iinc_W (v := (nI (c34 + 1))) (lv' := [(4, .int (nI (c34 + 1))), (0, .ref 80), (1, .int (nI k4)), (2, .int (nI k8)), (3, .int a3)]) dX12_hands_121 rfl (nI_1 c34) (by decide) rfl ?_
                refine n_goto_W 34 dX12_hands_124 (by decide) ?_
                exact zs_Vlv_W (ih34 (c34 + 1) (by omega) (by omega) (by omega)) (zs_mc 1 rfl (zs_mc 2 rfl (zs_mc 3 rfl (zs_mc 4 rfl (zs_mc 0 rfl zs_mn)))))
              have j88 : c34 + 1 ≤ 16 → ∀ (s88_0 : Int32) (s88_1 : Int32) (s88_2 : Nat), 0 ≤ s88_2 → s88_2 ≤ 15 → zs_V_W MX12_hands 88 [(0, .ref 80), (1, .int (nI k4)), (2, .int (nI k8)), (3, .int a3), (4, .int (nI c34))] [.int s88_0, .int s88_1, .int (nI s88_2), .ref 88] zs_Ri := by
                intro hd34 s88_0 s88_1 s88_2 ls88_2 us88_2
                refine n_isub_W dX12_hands_88 (fun x18 => ?_)
                refine n_ast_W dX12_hands_89 (by decide) rfl (by omega) (by decide) rfl (zs_okN rfl (by decide) (by decide)) ?_
                refine n_aload_n_W dX12_hands_90 rfl rfl ?_
                refine n_getR_W 18 89 (C := RX12) (T := TX12) (N := 19) dX12_hands_91 (by decide) rfl rfl (by decide) rfl fl_RX12_39 ?_
                refine n_iload_W dX12_hands_94 rfl ?_
                refine n_aload_n_W dX12_hands_96 rfl rfl ?_
                refine n_getR_W 0 81 (C := RX12) (T := TX12) (N := 19) dX12_hands_97 (by decide) rfl rfl (by decide) rfl fl_RX12_7 ?_
                refine n_sipush_W (v := (nI 695)) dX12_hands_100 rfl ?_
                refine n_iload_n_W dX12_hands_103 rfl rfl ?_
                refine n_iaddN_W dX12_hands_104 ?_
                refine n_ald_W dX12_hands_105 (by decide) rfl (by omega) (by decide) (fun x19 => ?_)
                refine n_iload_W dX12_hands_106 rfl ?_
                refine n_iconst_W (v := (nI 4)) dX12_hands_108 rfl ?_
                refine n_iremN_W dX12_hands_109 (by omega) (by omega) (by omega) ?_
                refine n_iconst_W (v := (nI 3)) dX12_hands_110 rfl ?_
                refine n_ic_neN_W 118 dX12_hands_111 (by decide) (by omega) (by omega) (fun h20 => ?_) (fun h20 => ?_)
                · refine n_iconst_W (v := (nI 0)) dX12_hands_118 rfl ?_
                  exact j119 (by omega) (nI 0) x19 c34 (by omega) (by omega)
                · refine n_iconst_W (v := (nI 1)) dX12_hands_114 rfl ?_
                  refine n_goto_W 119 dX12_hands_115 (by decide) ?_
                  exact j119 (by omega) (nI 1) x19 c34 (by omega) (by omega)
              refine n_iload_W dX12_hands_34 rfl ?_
              refine n_bipush_W (v := (nI 16)) dX12_hands_36 rfl ?_
              refine n_ic_geN_W 127 dX12_hands_38 (by decide) (by omega) (by omega) (fun h21 => ?_) (fun h21 => ?_)
              · refine n_iconst_W (v := (nI 0)) dX12_hands_127 rfl ?_
                refine n_istore_W (lv' := [(4, .int (nI 0)), (0, .ref 80), (1, .int (nI k4)), (2, .int (nI k8)), (3, .int a3)]) dX12_hands_128 (by decide) rfl ?_
                refine n_iconst_W (v := (nI 0)) dX12_hands_130 rfl ?_
                refine n_istore_W (lv' := [(5, .int (nI 0)), (4, .int (nI 0)), (0, .ref 80), (1, .int (nI k4)), (2, .int (nI k8)), (3, .int a3)]) dX12_hands_131 (by decide) rfl ?_
                exact zs_Vlv_W (j133 _ (nI 0) 0 (by omega) (by omega) (Nat.lt_succ_self _)) (zs_mc 2 rfl (zs_mc 3 rfl (zs_mc 4 rfl (zs_mc 5 rfl (zs_mc 1 rfl (zs_mc 0 rfl zs_mn))))))
              · refine n_aload_n_W dX12_hands_41 rfl rfl ?_
                refine n_callV_W (T := TX12) (NN := 19) [] (y_X12_tries_W) dX12_hands_42 kk_X12_hands_X12_tries ml_RX12_188 mwX12_tries ewX12_tries (by decide) rfl rfl rfl rfl (Nat.le_of_ble_eq_true rfl) ?_
                rintro _ rfl
                refine n_aload_n_W dX12_hands_45 rfl rfl ?_
                refine n_iconst_W (v := (nI 4)) dX12_hands_46 rfl ?_
                refine n_iload_W dX12_hands_47 rfl ?_
                refine n_iconst_W (v := (nI 4)) dX12_hands_49 rfl ?_
                refine n_idivN_W dX12_hands_50 (by omega) (by omega) (by omega) ?_
                refine n_iload_W dX12_hands_51 rfl ?_
                refine n_iconst_W (v := (nI 4)) dX12_hands_53 rfl ?_
                refine n_iremN_W dX12_hands_54 (by omega) (by omega) (by omega) ?_
                refine n_iaddN_W dX12_hands_55 ?_
                refine n_callV_W (T := TX12) (NN := 19) [] (y_X12_flashes_W (nI 4) ((c34 / 4) + (c34 % 4)) (by omega) (by omega)) dX12_hands_56 kk_X12_hands_X12_flashes ml_RX12_191 mwX12_flashes ewX12_flashes (by decide) rfl rfl rfl rfl (Nat.le_of_ble_eq_true rfl) ?_
                rintro _ rfl
                refine n_aload_n_W dX12_hands_59 rfl rfl ?_
                refine n_getR_W 17 88 (C := RX12) (T := TX12) (N := 19) dX12_hands_60 (by decide) rfl rfl (by decide) rfl fl_RX12_36 ?_
                refine n_iload_W dX12_hands_63 rfl ?_
                refine n_aload_n_W dX12_hands_65 rfl rfl ?_
                refine n_getR_W 0 81 (C := RX12) (T := TX12) (N := 19) dX12_hands_66 (by decide) rfl rfl (by decide) rfl fl_RX12_7 ?_
                refine n_sipush_W (v := (nI 695)) dX12_hands_69 rfl ?_
                refine n_iload_n_W dX12_hands_72 rfl rfl ?_
                refine n_iaddN_W dX12_hands_73 ?_
                refine n_ald_W dX12_hands_74 (by decide) rfl (by omega) (by decide) (fun x22 => ?_)
                refine n_iload_W dX12_hands_75 rfl ?_
                refine n_iconst_W (v := (nI 4)) dX12_hands_77 rfl ?_
                refine n_idivN_W dX12_hands_78 (by omega) (by omega) (by omega) ?_
                refine n_iconst_W (v := (nI 3)) dX12_hands_79 rfl ?_
                refine n_ic_neN_W 87 dX12_hands_80 (by decide) (by omega) (by omega) (fun h23 => ?_) (fun h23 => ?_)
                · refine n_iconst_W (v := (nI 0)) dX12_hands_87 rfl ?_
                  exact j88 (by omega) (nI 0) x22 c34 (by omega) (by omega)
                · refine n_iconst_W (v := (nI 1)) dX12_hands_83 rfl ?_
                  refine n_goto_W 88 dX12_hands_84 (by decide) ?_
                  exact j88 (by omega) (nI 1) x22 c34 (by omega) (by omega)
          refine n_iconst_W (v := (nI 0)) dX12_hands_31 rfl ?_
          refine n_istore_W (lv' := [(4, .int (nI 0)), (0, .ref 80), (1, .int (nI k4)), (2, .int (nI k8)), (3, .int a3)]) dX12_hands_32 (by decide) rfl ?_
          exact zs_Vlv_W (j34 _ 0 (by omega) (by omega) (Nat.lt_succ_self _)) (zs_mc 1 rfl (zs_mc 2 rfl (zs_mc 3 rfl (zs_mc 4 rfl (zs_mc 0 rfl zs_mn)))))
        · refine n_aload_n_W dX12_hands_26 rfl rfl ?_
          refine n_callV_W (T := TX12) (NN := 19) [] (y_X12_bad10_W) dX12_hands_27 kk_X12_hands_X12_bad10 ml_RX12_196 mwX12_bad10 ewX12_bad10 (by decide) rfl rfl rfl rfl (Nat.le_of_ble_eq_true rfl) ?_
          rintro _ ⟨x24, rfl⟩
          exact n_iret_W dX12_hands_30 rfl rfl ⟨_, rfl⟩
set_option maxRecDepth 100000 in
theorem y_X12_part_W (a1 : Int32) : zs_U_W MX12_part [.ref 80, .int a1] zs_Rl := by
  refine zs_Vof_W (by decide) (Nat.le_of_ble_eq_true rfl) ?_
  show zs_V_W MX12_part 0 [(0, .ref 80), (1, .int a1)] [] zs_Rl
  refine n_iload_n_W dX12_part_0 rfl rfl ?_
  refine n_i2l_W dX12_part_1 ?_
  refine n_lconst_W (v := 0) dX12_part_2 (by decide) ?_
  refine n_lconst_W (v := 1) dX12_part_3 (by decide) ?_
  refine n_callS_W [.long (Int32.toInt64 a1), .long 0, .long 1] [] (y_in_W (Int32.toInt64 a1) 0 1) dX12_part_4 kk_X12_part_X12_in ml_RX12_54 swX12_in rfl rfl (Nat.le_of_ble_eq_true rfl) ?_
  rintro _ ⟨x1, rfl, bx1, fx1⟩
  refine n_if_ne_W 16 dX12_part_7 (by decide) (fun h2 => ?_) (fun h2 => ?_)
  · obtain ⟨k3, lk3, uk3, rfl⟩ := zs_inR (lo := 0) (hi := 1) (fx1 h2) (by decide) (by decide)
    refine n_iload_n_W dX12_part_16 rfl rfl ?_
    refine n_if_neN_W 27 dX12_part_17 (by decide) (by omega) (fun h4 => ?_) (fun h4 => ?_)
    · refine n_aload_n_W dX12_part_27 rfl rfl ?_
      refine n_getL_W 13 (C := RX12) (T := TX12) (N := 19) dX12_part_28 (by decide) rfl rfl (by decide) rfl fl_RX12_23 (fun x5 => ?_)
      exact n_lret_W dX12_part_31 rfl ⟨_, rfl⟩
    · refine n_aload_n_W dX12_part_20 rfl rfl ?_
      refine n_getL_W 12 (C := RX12) (T := TX12) (N := 19) dX12_part_21 (by decide) rfl rfl (by decide) rfl fl_RX12_229 (fun x6 => ?_)
      refine n_goto_W 31 dX12_part_24 (by decide) ?_
      exact n_lret_W dX12_part_31 rfl ⟨_, rfl⟩
  · refine n_aload_n_W dX12_part_10 rfl rfl ?_
    refine n_callV_W (T := TX12) (NN := 19) [] (y_X12_bad_W) dX12_part_11 kk_X12_part_X12_bad ml_RX12_62 mwX12_bad ewX12_bad (by decide) rfl rfl rfl rfl (Nat.le_of_ble_eq_true rfl) ?_
    rintro _ ⟨x7, rfl⟩
    refine n_i2l_W dX12_part_14 ?_
    exact n_lret_W dX12_part_15 rfl ⟨_, rfl⟩
set_option maxRecDepth 100000 in
theorem y_X12_status_W (a1 : Int32) : zs_U_W MX12_status [.ref 80, .int a1] zs_Ri := by
  refine zs_Vof_W (by decide) (Nat.le_of_ble_eq_true rfl) ?_
  show zs_V_W MX12_status 0 [(0, .ref 80), (1, .int a1)] [] zs_Ri
  refine n_iload_n_W dX12_status_0 rfl rfl ?_
  refine n_i2l_W dX12_status_1 ?_
  refine n_lconst_W (v := 0) dX12_status_2 (by decide) ?_
  refine n_ldc2_W (v := 2) dX12_status_3 cl_RX12_50 ?_
  refine n_callS_W [.long (Int32.toInt64 a1), .long 0, .long 2] [] (y_in_W (Int32.toInt64 a1) 0 2) dX12_status_6 kk_X12_status_X12_in ml_RX12_54 swX12_in rfl rfl (Nat.le_of_ble_eq_true rfl) ?_
  rintro _ ⟨x1, rfl, bx1, fx1⟩
  refine n_if_ne_W 24 dX12_status_9 (by decide) (fun h2 => ?_) (fun h2 => ?_)
  · obtain ⟨k3, lk3, uk3, rfl⟩ := zs_inR (lo := 0) (hi := 2) (fx1 h2) (by decide) (by decide)
    refine n_aload_n_W dX12_status_24 rfl rfl ?_
    refine n_getR_W 14 85 (C := RX12) (T := TX12) (N := 19) dX12_status_25 (by decide) rfl rfl (by decide) rfl fl_RX12_27 ?_
    refine n_iload_n_W dX12_status_28 rfl rfl ?_
    refine n_ald_W dX12_status_29 (by decide) rfl (by omega) (by decide) (fun x4 => ?_)
    exact n_iret_W dX12_status_30 rfl rfl ⟨_, rfl⟩
  · refine n_aload_n_W dX12_status_12 rfl rfl ?_
    refine n_getR_W 14 85 (C := RX12) (T := TX12) (N := 19) dX12_status_13 (by decide) rfl rfl (by decide) rfl fl_RX12_27 ?_
    refine n_iconst_W (v := (nI 0)) dX12_status_16 rfl ?_
    refine n_dup2_W dX12_status_17 rfl rfl ?_
    refine n_ald_W dX12_status_18 (by decide) rfl (by omega) (by decide) (fun x5 => ?_)
    refine n_iconst_W (v := (nI 1)) dX12_status_19 rfl ?_
    refine n_iadd_W dX12_status_20 (fun x6 => ?_)
    refine n_ast_W dX12_status_21 (by decide) rfl (by omega) (by decide) rfl (zs_okN rfl (by decide) (by decide)) ?_
    refine n_iconst_W (v := (-1)) dX12_status_22 rfl ?_
    exact n_iret_W dX12_status_23 rfl rfl ⟨_, rfl⟩
set_option maxRecDepth 100000 in
theorem y_X12_movesOf_0_W : zs_U_W MX12_movesOf [.ref 80, .int (nI 0)] zs_Ri := by
  refine zs_Vof_W (by decide) (Nat.le_of_ble_eq_true rfl) ?_
  show zs_V_W MX12_movesOf 0 [(0, .ref 80), (1, .int (nI 0))] [] zs_Ri
  have j4 : ∀ (n4 : Nat) (v4_2 : Int32) (c4 : Nat), 0 ≤ c4 → c4 ≤ 5 → 5 - c4 < n4 → zs_V_W MX12_movesOf 4 [(0, .ref 80), (1, .int (nI 0)), (2, .int v4_2), (3, .int (nI c4))] [] zs_Ri := by
    intro n4
    induction n4 with
    | zero => intro v4_2 c4 lc4 uc4 hn4; exact absurd hn4 (Nat.not_lt_zero _)
    | succ n4 ih4 =>
      intro v4_2 c4 lc4 uc4 hn4
      refine n_iload_n_W dX12_movesOf_4 rfl rfl ?_
      refine n_aload_n_W dX12_movesOf_5 rfl rfl ?_
      refine n_getR_W 1 82 (C := RX12) (T := TX12) (N := 19) dX12_movesOf_6 (by decide) rfl rfl (by decide) rfl fl_RX12_13 ?_
      refine n_iconst_W (v := (nI 2)) dX12_movesOf_9 rfl ?_
      refine n_aldR_W (lo := 0) (up := 5) dX12_movesOf_10 (by decide) rfl (by omega) (by decide) rfl (fun m1 hm1 km1 => ?_)
      refine n_ic_geN_W 34 dX12_movesOf_11 (by decide) (by omega) (by omega) (fun h2 => ?_) (fun h2 => ?_)
      · refine n_iload_n_W dX12_movesOf_34 rfl rfl ?_
        exact n_iret_W dX12_movesOf_35 rfl rfl ⟨_, rfl⟩
      · refine n_iload_n_W dX12_movesOf_14 rfl rfl ?_
        refine n_aload_n_W dX12_movesOf_15 rfl rfl ?_
        refine n_getR_W 0 81 (C := RX12) (T := TX12) (N := 19) dX12_movesOf_16 (by decide) rfl rfl (by decide) rfl fl_RX12_7 ?_
        refine n_iload_n_W dX12_movesOf_19 rfl rfl ?_
        refine n_bipush_W (v := (nI 20)) dX12_movesOf_20 rfl ?_
        refine n_iaddN_W dX12_movesOf_22 ?_
        refine n_iload_n_W dX12_movesOf_23 rfl rfl ?_
        refine n_iaddN_W dX12_movesOf_24 ?_
        refine n_ald_W dX12_movesOf_25 (by decide) rfl (by omega) (by decide) (fun x3 => ?_)
        refine n_iadd_W dX12_movesOf_26 (fun x4 => ?_)
        refine n_istore_n_W (lv' := [(2, .int x4), (0, .ref 80), (1, .int (nI 0)), (3, .int (nI c4))]) dX12_movesOf_27 rfl (by decide) rfl ?_
        refine n_iinc_W (v := (nI (c4 + 1))) (lv' := [(3, .int (nI (c4 + 1))), (2, .int x4), (0, .ref 80), (1, .int (nI 0))]) dX12_movesOf_28 rfl (nI_1 c4) (by decide) rfl ?_
        refine n_goto_W 4 dX12_movesOf_31 (by decide) ?_
        exact zs_Vlv_W (ih4 x4 (c4 + 1) (by omega) (by omega) (by omega)) (zs_mc 2 rfl (zs_mc 3 rfl (zs_mc 1 rfl (zs_mc 0 rfl zs_mn))))
  refine n_iconst_W (v := (nI 0)) dX12_movesOf_0 rfl ?_
  refine n_istore_n_W (lv' := [(2, .int (nI 0)), (0, .ref 80), (1, .int (nI 0))]) dX12_movesOf_1 rfl (by decide) rfl ?_
  refine n_iconst_W (v := (nI 0)) dX12_movesOf_2 rfl ?_
  refine n_istore_n_W (lv' := [(3, .int (nI 0)), (2, .int (nI 0)), (0, .ref 80), (1, .int (nI 0))]) dX12_movesOf_3 rfl (by decide) rfl ?_
  exact zs_Vlv_W (j4 _ (nI 0) 0 (by omega) (by omega) (Nat.lt_succ_self _)) (zs_mc 2 rfl (zs_mc 3 rfl (zs_mc 1 rfl (zs_mc 0 rfl zs_mn))))
set_option maxRecDepth 100000 in
theorem y_X12_countOf_W (a1 : Int32) : zs_U_W MX12_countOf [.ref 80, .int a1] zs_Ri := by
  refine zs_Vof_W (by decide) (Nat.le_of_ble_eq_true rfl) ?_
  show zs_V_W MX12_countOf 0 [(0, .ref 80), (1, .int a1)] [] zs_Ri
  refine n_iload_n_W dX12_countOf_0 rfl rfl ?_
  refine n_if_ne_W 13 dX12_countOf_1 (by decide) (fun h1 => ?_) (fun h1 => ?_)
  · refine n_iload_n_W dX12_countOf_13 rfl rfl ?_
    refine n_iconst_W (v := (nI 1)) dX12_countOf_14 rfl ?_
    refine n_ic_ne_W 27 dX12_countOf_15 (by decide) (fun h2 => ?_) (fun h2 => ?_)
    · refine n_iload_n_W dX12_countOf_27 rfl rfl ?_
      refine n_iconst_W (v := (nI 2)) dX12_countOf_28 rfl ?_
      refine n_ic_ne_W 41 dX12_countOf_29 (by decide) (fun h3 => ?_) (fun h3 => ?_)
      · refine n_iload_n_W dX12_countOf_41 rfl rfl ?_
        refine n_iconst_W (v := (nI 3)) dX12_countOf_42 rfl ?_
        refine n_ic_ne_W 55 dX12_countOf_43 (by decide) (fun h4 => ?_) (fun h4 => ?_)
        · refine n_iload_n_W dX12_countOf_55 rfl rfl ?_
          refine n_iconst_W (v := (nI 4)) dX12_countOf_56 rfl ?_
          refine n_ic_ne_W 69 dX12_countOf_57 (by decide) (fun h5 => ?_) (fun h5 => ?_)
          · refine n_iload_n_W dX12_countOf_69 rfl rfl ?_
            refine n_iconst_W (v := (nI 5)) dX12_countOf_70 rfl ?_
            refine n_ic_ne_W 83 dX12_countOf_71 (by decide) (fun h6 => ?_) (fun h6 => ?_)
            · refine n_iload_n_W dX12_countOf_83 rfl rfl ?_
              refine n_bipush_W (v := (nI 6)) dX12_countOf_84 rfl ?_
              refine n_ic_ne_W 97 dX12_countOf_86 (by decide) (fun h7 => ?_) (fun h7 => ?_)
              · refine n_iload_n_W dX12_countOf_97 rfl rfl ?_
                refine n_bipush_W (v := (nI 7)) dX12_countOf_98 rfl ?_
                refine n_ic_ne_W 113 dX12_countOf_100 (by decide) (fun h8 => ?_) (fun h8 => ?_)
                · refine n_iload_n_W dX12_countOf_113 rfl rfl ?_
                  refine n_bipush_W (v := (nI 8)) dX12_countOf_114 rfl ?_
                  refine n_ic_ne_W 129 dX12_countOf_116 (by decide) (fun h9 => ?_) (fun h9 => ?_)
                  · refine n_iload_n_W dX12_countOf_129 rfl rfl ?_
                    refine n_bipush_W (v := (nI 9)) dX12_countOf_130 rfl ?_
                    refine n_ic_ne_W 145 dX12_countOf_132 (by decide) (fun h10 => ?_) (fun h10 => ?_)
                    · refine n_iload_n_W dX12_countOf_145 rfl rfl ?_
                      refine n_bipush_W (v := (nI 10)) dX12_countOf_146 rfl ?_
                      refine n_ic_ne_W 161 dX12_countOf_148 (by decide) (fun h11 => ?_) (fun h11 => ?_)
                      · refine n_aload_n_W dX12_countOf_161 rfl rfl ?_
                        refine n_getIR_W (lo := 0) (up := 150) 3 (C := RX12) (T := TX12) (N := 19) dX12_countOf_162 (by decide) rfl rfl (by decide) rfl fl_RX12_75 rfl (fun m12 hm12 km12 => ?_)
                        exact n_iret_W dX12_countOf_165 rfl rfl ⟨_, rfl⟩
                      · refine n_aload_n_W dX12_countOf_151 rfl rfl ?_
                        refine n_getR_W 1 82 (C := RX12) (T := TX12) (N := 19) dX12_countOf_152 (by decide) rfl rfl (by decide) rfl fl_RX12_13 ?_
                        refine n_bipush_W (v := (nI 65)) dX12_countOf_155 rfl ?_
                        refine n_aldR_W (lo := 0) (up := 8) dX12_countOf_157 (by decide) rfl (by omega) (by decide) rfl (fun m13 hm13 km13 => ?_)
                        refine n_goto_W 165 dX12_countOf_158 (by decide) ?_
                        exact n_iret_W dX12_countOf_165 rfl rfl ⟨_, rfl⟩
                    · refine n_aload_n_W dX12_countOf_135 rfl rfl ?_
                      refine n_getR_W 1 82 (C := RX12) (T := TX12) (N := 19) dX12_countOf_136 (by decide) rfl rfl (by decide) rfl fl_RX12_13 ?_
                      refine n_bipush_W (v := (nI 46)) dX12_countOf_139 rfl ?_
                      refine n_aldR_W (lo := 0) (up := 6) dX12_countOf_141 (by decide) rfl (by omega) (by decide) rfl (fun m14 hm14 km14 => ?_)
                      refine n_goto_W 165 dX12_countOf_142 (by decide) ?_
                      exact n_iret_W dX12_countOf_165 rfl rfl ⟨_, rfl⟩
                  · refine n_aload_n_W dX12_countOf_119 rfl rfl ?_
                    refine n_getR_W 1 82 (C := RX12) (T := TX12) (N := 19) dX12_countOf_120 (by decide) rfl rfl (by decide) rfl fl_RX12_13 ?_
                    refine n_bipush_W (v := (nI 21)) dX12_countOf_123 rfl ?_
                    refine n_aldR_W (lo := 0) (up := 6) dX12_countOf_125 (by decide) rfl (by omega) (by decide) rfl (fun m15 hm15 km15 => ?_)
                    refine n_goto_W 165 dX12_countOf_126 (by decide) ?_
                    exact n_iret_W dX12_countOf_165 rfl rfl ⟨_, rfl⟩
                · refine n_aload_n_W dX12_countOf_103 rfl rfl ?_
                  refine n_getR_W 1 82 (C := RX12) (T := TX12) (N := 19) dX12_countOf_104 (by decide) rfl rfl (by decide) rfl fl_RX12_13 ?_
                  refine n_bipush_W (v := (nI 8)) dX12_countOf_107 rfl ?_
                  refine n_aldR_W (lo := 0) (up := 6) dX12_countOf_109 (by decide) rfl (by omega) (by decide) rfl (fun m16 hm16 km16 => ?_)
                  refine n_goto_W 165 dX12_countOf_110 (by decide) ?_
                  exact n_iret_W dX12_countOf_165 rfl rfl ⟨_, rfl⟩
              · refine n_aload_n_W dX12_countOf_89 rfl rfl ?_
                refine n_iconst_W (v := (nI 0)) dX12_countOf_90 rfl ?_
                refine n_callV_W (T := TX12) (NN := 19) [] (y_X12_movesOf_0_W) dX12_countOf_91 kk_X12_countOf_X12_movesOf ml_RX12_242 mwX12_movesOf ewX12_movesOf (by decide) rfl rfl rfl rfl (Nat.le_of_ble_eq_true rfl) ?_
                rintro _ ⟨x17, rfl⟩
                refine n_goto_W 165 dX12_countOf_94 (by decide) ?_
                exact n_iret_W dX12_countOf_165 rfl rfl ⟨_, rfl⟩
            · refine n_aload_n_W dX12_countOf_74 rfl rfl ?_
              refine n_getR_W 1 82 (C := RX12) (T := TX12) (N := 19) dX12_countOf_75 (by decide) rfl rfl (by decide) rfl fl_RX12_13 ?_
              refine n_iconst_W (v := (nI 2)) dX12_countOf_78 rfl ?_
              refine n_aldR_W (lo := 0) (up := 5) dX12_countOf_79 (by decide) rfl (by omega) (by decide) rfl (fun m18 hm18 km18 => ?_)
              refine n_goto_W 165 dX12_countOf_80 (by decide) ?_
              exact n_iret_W dX12_countOf_165 rfl rfl ⟨_, rfl⟩
          · refine n_aload_n_W dX12_countOf_60 rfl rfl ?_
            refine n_getR_W 0 81 (C := RX12) (T := TX12) (N := 19) dX12_countOf_61 (by decide) rfl rfl (by decide) rfl fl_RX12_7 ?_
            refine n_iconst_W (v := (nI 1)) dX12_countOf_64 rfl ?_
            refine n_ald_W dX12_countOf_65 (by decide) rfl (by omega) (by decide) (fun x19 => ?_)
            refine n_goto_W 165 dX12_countOf_66 (by decide) ?_
            exact n_iret_W dX12_countOf_165 rfl rfl ⟨_, rfl⟩
        · refine n_aload_n_W dX12_countOf_46 rfl rfl ?_
          refine n_getR_W 0 81 (C := RX12) (T := TX12) (N := 19) dX12_countOf_47 (by decide) rfl rfl (by decide) rfl fl_RX12_7 ?_
          refine n_iconst_W (v := (nI 0)) dX12_countOf_50 rfl ?_
          refine n_aldR_W (lo := 0) (up := 11) dX12_countOf_51 (by decide) rfl (by omega) (by decide) rfl (fun m20 hm20 km20 => ?_)
          refine n_goto_W 165 dX12_countOf_52 (by decide) ?_
          exact n_iret_W dX12_countOf_165 rfl rfl ⟨_, rfl⟩
      · refine n_aload_n_W dX12_countOf_32 rfl rfl ?_
        refine n_getR_W 0 81 (C := RX12) (T := TX12) (N := 19) dX12_countOf_33 (by decide) rfl rfl (by decide) rfl fl_RX12_7 ?_
        refine n_iconst_W (v := (nI 2)) dX12_countOf_36 rfl ?_
        refine n_aldR_W (lo := 0) (up := 11) dX12_countOf_37 (by decide) rfl (by omega) (by decide) rfl (fun m21 hm21 km21 => ?_)
        refine n_goto_W 165 dX12_countOf_38 (by decide) ?_
        exact n_iret_W dX12_countOf_165 rfl rfl ⟨_, rfl⟩
    · refine n_aload_n_W dX12_countOf_18 rfl rfl ?_
      refine n_getR_W 1 82 (C := RX12) (T := TX12) (N := 19) dX12_countOf_19 (by decide) rfl rfl (by decide) rfl fl_RX12_13 ?_
      refine n_iconst_W (v := (nI 1)) dX12_countOf_22 rfl ?_
      refine n_ald_W dX12_countOf_23 (by decide) rfl (by omega) (by decide) (fun x22 => ?_)
      refine n_goto_W 165 dX12_countOf_24 (by decide) ?_
      exact n_iret_W dX12_countOf_165 rfl rfl ⟨_, rfl⟩
  · refine n_aload_n_W dX12_countOf_4 rfl rfl ?_
    refine n_getR_W 1 82 (C := RX12) (T := TX12) (N := 19) dX12_countOf_5 (by decide) rfl rfl (by decide) rfl fl_RX12_13 ?_
    refine n_iconst_W (v := (nI 0)) dX12_countOf_8 rfl ?_
    refine n_aldR_W (lo := 1) (up := 12) dX12_countOf_9 (by decide) rfl (by omega) (by decide) rfl (fun m23 hm23 km23 => ?_)
    refine n_goto_W 165 dX12_countOf_10 (by decide) ?_
    exact n_iret_W dX12_countOf_165 rfl rfl ⟨_, rfl⟩
set_option maxRecDepth 100000 in
theorem y_X12_count_W (a1 : Int32) : zs_U_W MX12_count [.ref 80, .int a1] zs_Ri := by
  refine zs_Vof_W (by decide) (Nat.le_of_ble_eq_true rfl) ?_
  show zs_V_W MX12_count 0 [(0, .ref 80), (1, .int a1)] [] zs_Ri
  refine n_iload_n_W dX12_count_0 rfl rfl ?_
  refine n_i2l_W dX12_count_1 ?_
  refine n_lconst_W (v := 0) dX12_count_2 (by decide) ?_
  refine n_ldc2_W (v := 11) dX12_count_3 cl_RX12_60 ?_
  refine n_callS_W [.long (Int32.toInt64 a1), .long 0, .long 11] [] (y_in_W (Int32.toInt64 a1) 0 11) dX12_count_6 kk_X12_count_X12_in ml_RX12_54 swX12_in rfl rfl (Nat.le_of_ble_eq_true rfl) ?_
  rintro _ ⟨x1, rfl, bx1, fx1⟩
  refine n_if_eq_W 20 dX12_count_9 (by decide) (fun h2 => ?_) (fun h2 => ?_)
  · refine n_aload_n_W dX12_count_20 rfl rfl ?_
    refine n_callV_W (T := TX12) (NN := 19) [] (y_X12_bad_W) dX12_count_21 kk_X12_count_X12_bad ml_RX12_62 mwX12_bad ewX12_bad (by decide) rfl rfl rfl rfl (Nat.le_of_ble_eq_true rfl) ?_
    rintro _ ⟨x3, rfl⟩
    exact n_iret_W dX12_count_24 rfl rfl ⟨_, rfl⟩
  · obtain ⟨k4, lk4, uk4, rfl⟩ := zs_inR (lo := 0) (hi := 11) (fx1 h2) (by decide) (by decide)
    refine n_aload_n_W dX12_count_12 rfl rfl ?_
    refine n_iload_n_W dX12_count_13 rfl rfl ?_
    refine n_callV_W (T := TX12) (NN := 19) [] (y_X12_countOf_W (nI k4)) dX12_count_14 kk_X12_count_X12_countOf ml_RX12_249 mwX12_countOf ewX12_countOf (by decide) rfl rfl rfl rfl (Nat.le_of_ble_eq_true rfl) ?_
    rintro _ ⟨x5, rfl⟩
    refine n_goto_W 24 dX12_count_17 (by decide) ?_
    exact n_iret_W dX12_count_24 rfl rfl ⟨_, rfl⟩
set_option maxRecDepth 100000 in
theorem y_X12_digest_W : zs_U_W MX12_digest [.ref 80] zs_Rl := by
  refine zs_Vof_W (by decide) (Nat.le_of_ble_eq_true rfl) ?_
  show zs_V_W MX12_digest 0 [(0, .ref 80)] [] zs_Rl
  have j263 : ∀ (n263 : Nat) (v263_1 : Int64) (c263 : Nat), 0 ≤ c263 → c263 ≤ 6 → 6 - c263 < n263 → zs_V_W MX12_digest 263 [(0, .ref 80), (1, .long v263_1), (3, .int (nI c263))] [] zs_Rl := by
    intro n263
    induction n263 with
    | zero => intro v263_1 c263 lc263 uc263 hn263; exact absurd hn263 (Nat.not_lt_zero _)
    | succ n263 ih263 =>
      intro v263_1 c263 lc263 uc263 hn263
      refine n_iload_n_W dX12_digest_263 rfl rfl ?_
      refine n_aload_n_W dX12_digest_264 rfl rfl ?_
      refine n_getR_W 1 82 (C := RX12) (T := TX12) (N := 19) dX12_digest_265 (by decide) rfl rfl (by decide) rfl fl_RX12_13 ?_
      refine n_bipush_W (v := (nI 46)) dX12_digest_268 rfl ?_
      refine n_aldR_W (lo := 0) (up := 6) dX12_digest_270 (by decide) rfl (by omega) (by decide) rfl (fun m1 hm1 km1 => ?_)
      refine n_ic_geN_W 327 dX12_digest_271 (by decide) (by omega) (by omega) (fun h2 => ?_) (fun h2 => ?_)
      · refine n_ldc2_W (v := 31) dX12_digest_327 cl_RX12_254 ?_
        refine n_ldc2_W (v := 31) dX12_digest_330 cl_RX12_254 ?_
        refine n_lload_n_W dX12_digest_333 rfl rfl ?_
        refine n_lmul_W dX12_digest_334 (fun x3 => ?_)
        refine n_aload_n_W dX12_digest_335 rfl rfl ?_
        refine n_getL_W 12 (C := RX12) (T := TX12) (N := 19) dX12_digest_336 (by decide) rfl rfl (by decide) rfl fl_RX12_229 (fun x4 => ?_)
        refine n_ladd_W dX12_digest_339 (fun x5 => ?_)
        refine n_lmul_W dX12_digest_340 (fun x6 => ?_)
        refine n_aload_n_W dX12_digest_341 rfl rfl ?_
        refine n_getL_W 13 (C := RX12) (T := TX12) (N := 19) dX12_digest_342 (by decide) rfl rfl (by decide) rfl fl_RX12_23 (fun x7 => ?_)
        refine n_ladd_W dX12_digest_345 (fun x8 => ?_)
        exact n_lret_W dX12_digest_346 rfl ⟨_, rfl⟩
      · refine n_ldc2_W (v := 31) dX12_digest_274 cl_RX12_254 ?_
        refine n_ldc2_W (v := 31) dX12_digest_277 cl_RX12_254 ?_
        refine n_ldc2_W (v := 31) dX12_digest_280 cl_RX12_254 ?_
        refine n_lload_n_W dX12_digest_283 rfl rfl ?_
        refine n_lmul_W dX12_digest_284 (fun x9 => ?_)
        refine n_aload_n_W dX12_digest_285 rfl rfl ?_
        refine n_getR_W 1 82 (C := RX12) (T := TX12) (N := 19) dX12_digest_286 (by decide) rfl rfl (by decide) rfl fl_RX12_13 ?_
        refine n_bipush_W (v := (nI 47)) dX12_digest_289 rfl ?_
        refine n_iload_n_W dX12_digest_291 rfl rfl ?_
        refine n_iaddN_W dX12_digest_292 ?_
        refine n_ald_W dX12_digest_293 (by decide) rfl (by omega) (by decide) (fun x10 => ?_)
        refine n_i2l_W dX12_digest_294 ?_
        refine n_ladd_W dX12_digest_295 (fun x11 => ?_)
        refine n_lmul_W dX12_digest_296 (fun x12 => ?_)
        refine n_aload_n_W dX12_digest_297 rfl rfl ?_
        refine n_getR_W 1 82 (C := RX12) (T := TX12) (N := 19) dX12_digest_298 (by decide) rfl rfl (by decide) rfl fl_RX12_13 ?_
        refine n_bipush_W (v := (nI 53)) dX12_digest_301 rfl ?_
        refine n_iload_n_W dX12_digest_303 rfl rfl ?_
        refine n_iaddN_W dX12_digest_304 ?_
        refine n_ald_W dX12_digest_305 (by decide) rfl (by omega) (by decide) (fun x13 => ?_)
        refine n_i2l_W dX12_digest_306 ?_
        refine n_ladd_W dX12_digest_307 (fun x14 => ?_)
        refine n_lmul_W dX12_digest_308 (fun x15 => ?_)
        refine n_aload_n_W dX12_digest_309 rfl rfl ?_
        refine n_getR_W 1 82 (C := RX12) (T := TX12) (N := 19) dX12_digest_310 (by decide) rfl rfl (by decide) rfl fl_RX12_13 ?_
        refine n_bipush_W (v := (nI 59)) dX12_digest_313 rfl ?_
        refine n_iload_n_W dX12_digest_315 rfl rfl ?_
        refine n_iaddN_W dX12_digest_316 ?_
        refine n_ald_W dX12_digest_317 (by decide) rfl (by omega) (by decide) (fun x16 => ?_)
        refine n_i2l_W dX12_digest_318 ?_
        refine n_ladd_W dX12_digest_319 (fun x17 => ?_)
        refine n_lstore_n_W (lv' := [(1, .long x17), (0, .ref 80), (3, .int (nI c263))]) dX12_digest_320 rfl (by decide) rfl ?_
        refine n_iinc_W (v := (nI (c263 + 1))) (lv' := [(3, .int (nI (c263 + 1))), (1, .long x17), (0, .ref 80)]) dX12_digest_321 rfl (nI_1 c263) (by decide) rfl ?_
        refine n_goto_W 263 dX12_digest_324 (by decide) ?_
        exact zs_Vlv_W (ih263 x17 (c263 + 1) (by omega) (by omega) (by omega)) (zs_mc 2 rfl (zs_mc 1 rfl (zs_mc 0 rfl zs_mn)))
  have j182 : ∀ (n182 : Nat) (v182_1 : Int64) (c182 : Nat), 0 ≤ c182 → c182 ≤ 6 → 6 - c182 < n182 → zs_V_W MX12_digest 182 [(0, .ref 80), (1, .long v182_1), (3, .int (nI c182))] [] zs_Rl := by
    intro n182
    induction n182 with
    | zero => intro v182_1 c182 lc182 uc182 hn182; exact absurd hn182 (Nat.not_lt_zero _)
    | succ n182 ih182 =>
      intro v182_1 c182 lc182 uc182 hn182
      refine n_iload_n_W dX12_digest_182 rfl rfl ?_
      refine n_aload_n_W dX12_digest_183 rfl rfl ?_
      refine n_getR_W 1 82 (C := RX12) (T := TX12) (N := 19) dX12_digest_184 (by decide) rfl rfl (by decide) rfl fl_RX12_13 ?_
      refine n_bipush_W (v := (nI 21)) dX12_digest_187 rfl ?_
      refine n_aldR_W (lo := 0) (up := 6) dX12_digest_189 (by decide) rfl (by omega) (by decide) rfl (fun m18 hm18 km18 => ?_)
      refine n_ic_geN_W 261 dX12_digest_190 (by decide) (by omega) (by omega) (fun h19 => ?_) (fun h19 => ?_)
      · refine n_iconst_W (v := (nI 0)) dX12_digest_261 rfl ?_
        refine n_istore_n_W (lv' := [(3, .int (nI 0)), (0, .ref 80), (1, .long v182_1)]) dX12_digest_262 rfl (by decide) rfl ?_
        exact zs_Vlv_W (j263 _ v182_1 0 (by omega) (by omega) (Nat.lt_succ_self _)) (zs_mc 1 rfl (zs_mc 2 rfl (zs_mc 0 rfl zs_mn)))
      · refine n_ldc2_W (v := 31) dX12_digest_193 cl_RX12_254 ?_
        refine n_ldc2_W (v := 31) dX12_digest_196 cl_RX12_254 ?_
        refine n_ldc2_W (v := 31) dX12_digest_199 cl_RX12_254 ?_
        refine n_ldc2_W (v := 31) dX12_digest_202 cl_RX12_254 ?_
        refine n_lload_n_W dX12_digest_205 rfl rfl ?_
        refine n_lmul_W dX12_digest_206 (fun x20 => ?_)
        refine n_aload_n_W dX12_digest_207 rfl rfl ?_
        refine n_getR_W 1 82 (C := RX12) (T := TX12) (N := 19) dX12_digest_208 (by decide) rfl rfl (by decide) rfl fl_RX12_13 ?_
        refine n_bipush_W (v := (nI 22)) dX12_digest_211 rfl ?_
        refine n_iload_n_W dX12_digest_213 rfl rfl ?_
        refine n_iaddN_W dX12_digest_214 ?_
        refine n_ald_W dX12_digest_215 (by decide) rfl (by omega) (by decide) (fun x21 => ?_)
        refine n_i2l_W dX12_digest_216 ?_
        refine n_ladd_W dX12_digest_217 (fun x22 => ?_)
        refine n_lmul_W dX12_digest_218 (fun x23 => ?_)
        refine n_aload_n_W dX12_digest_219 rfl rfl ?_
        refine n_getR_W 1 82 (C := RX12) (T := TX12) (N := 19) dX12_digest_220 (by decide) rfl rfl (by decide) rfl fl_RX12_13 ?_
        refine n_bipush_W (v := (nI 28)) dX12_digest_223 rfl ?_
        refine n_iload_n_W dX12_digest_225 rfl rfl ?_
        refine n_iaddN_W dX12_digest_226 ?_
        refine n_ald_W dX12_digest_227 (by decide) rfl (by omega) (by decide) (fun x24 => ?_)
        refine n_i2l_W dX12_digest_228 ?_
        refine n_ladd_W dX12_digest_229 (fun x25 => ?_)
        refine n_lmul_W dX12_digest_230 (fun x26 => ?_)
        refine n_aload_n_W dX12_digest_231 rfl rfl ?_
        refine n_getR_W 1 82 (C := RX12) (T := TX12) (N := 19) dX12_digest_232 (by decide) rfl rfl (by decide) rfl fl_RX12_13 ?_
        refine n_bipush_W (v := (nI 34)) dX12_digest_235 rfl ?_
        refine n_iload_n_W dX12_digest_237 rfl rfl ?_
        refine n_iaddN_W dX12_digest_238 ?_
        refine n_ald_W dX12_digest_239 (by decide) rfl (by omega) (by decide) (fun x27 => ?_)
        refine n_i2l_W dX12_digest_240 ?_
        refine n_ladd_W dX12_digest_241 (fun x28 => ?_)
        refine n_lmul_W dX12_digest_242 (fun x29 => ?_)
        refine n_aload_n_W dX12_digest_243 rfl rfl ?_
        refine n_getR_W 1 82 (C := RX12) (T := TX12) (N := 19) dX12_digest_244 (by decide) rfl rfl (by decide) rfl fl_RX12_13 ?_
        refine n_bipush_W (v := (nI 40)) dX12_digest_247 rfl ?_
        refine n_iload_n_W dX12_digest_249 rfl rfl ?_
        refine n_iaddN_W dX12_digest_250 ?_
        refine n_ald_W dX12_digest_251 (by decide) rfl (by omega) (by decide) (fun x30 => ?_)
        refine n_i2l_W dX12_digest_252 ?_
        refine n_ladd_W dX12_digest_253 (fun x31 => ?_)
        refine n_lstore_n_W (lv' := [(1, .long x31), (0, .ref 80), (3, .int (nI c182))]) dX12_digest_254 rfl (by decide) rfl ?_
        refine n_iinc_W (v := (nI (c182 + 1))) (lv' := [(3, .int (nI (c182 + 1))), (1, .long x31), (0, .ref 80)]) dX12_digest_255 rfl (nI_1 c182) (by decide) rfl ?_
        refine n_goto_W 182 dX12_digest_258 (by decide) ?_
        exact zs_Vlv_W (ih182 x31 (c182 + 1) (by omega) (by omega) (by omega)) (zs_mc 2 rfl (zs_mc 1 rfl (zs_mc 0 rfl zs_mn)))
  have j131 : ∀ (n131 : Nat) (v131_1 : Int64) (c131 : Nat), 0 ≤ c131 → c131 ≤ 6 → 6 - c131 < n131 → zs_V_W MX12_digest 131 [(0, .ref 80), (1, .long v131_1), (3, .int (nI c131))] [] zs_Rl := by
    intro n131
    induction n131 with
    | zero => intro v131_1 c131 lc131 uc131 hn131; exact absurd hn131 (Nat.not_lt_zero _)
    | succ n131 ih131 =>
      intro v131_1 c131 lc131 uc131 hn131
      refine n_iload_n_W dX12_digest_131 rfl rfl ?_
      refine n_aload_n_W dX12_digest_132 rfl rfl ?_
      refine n_getR_W 1 82 (C := RX12) (T := TX12) (N := 19) dX12_digest_133 (by decide) rfl rfl (by decide) rfl fl_RX12_13 ?_
      refine n_bipush_W (v := (nI 8)) dX12_digest_136 rfl ?_
      refine n_aldR_W (lo := 0) (up := 6) dX12_digest_138 (by decide) rfl (by omega) (by decide) rfl (fun m32 hm32 km32 => ?_)
      refine n_ic_geN_W 180 dX12_digest_139 (by decide) (by omega) (by omega) (fun h33 => ?_) (fun h33 => ?_)
      · refine n_iconst_W (v := (nI 0)) dX12_digest_180 rfl ?_
        refine n_istore_n_W (lv' := [(3, .int (nI 0)), (0, .ref 80), (1, .long v131_1)]) dX12_digest_181 rfl (by decide) rfl ?_
        exact zs_Vlv_W (j182 _ v131_1 0 (by omega) (by omega) (Nat.lt_succ_self _)) (zs_mc 1 rfl (zs_mc 2 rfl (zs_mc 0 rfl zs_mn)))
      · refine n_ldc2_W (v := 31) dX12_digest_142 cl_RX12_254 ?_
        refine n_ldc2_W (v := 31) dX12_digest_145 cl_RX12_254 ?_
        refine n_lload_n_W dX12_digest_148 rfl rfl ?_
        refine n_lmul_W dX12_digest_149 (fun x34 => ?_)
        refine n_aload_n_W dX12_digest_150 rfl rfl ?_
        refine n_getR_W 1 82 (C := RX12) (T := TX12) (N := 19) dX12_digest_151 (by decide) rfl rfl (by decide) rfl fl_RX12_13 ?_
        refine n_bipush_W (v := (nI 9)) dX12_digest_154 rfl ?_
        refine n_iload_n_W dX12_digest_156 rfl rfl ?_
        refine n_iaddN_W dX12_digest_157 ?_
        refine n_aldR_W (lo := 0) (up := 30) dX12_digest_158 (by decide) rfl (by omega) (by decide) (rg_82_9_14 _ (by omega) (by omega)) (fun m35 hm35 km35 => ?_)
        refine n_i2l_W dX12_digest_159 ?_
        refine n_ladd_W dX12_digest_160 (fun x36 => ?_)
        refine n_lmul_W dX12_digest_161 (fun x37 => ?_)
        refine n_aload_n_W dX12_digest_162 rfl rfl ?_
        refine n_getR_W 1 82 (C := RX12) (T := TX12) (N := 19) dX12_digest_163 (by decide) rfl rfl (by decide) rfl fl_RX12_13 ?_
        refine n_bipush_W (v := (nI 15)) dX12_digest_166 rfl ?_
        refine n_iload_n_W dX12_digest_168 rfl rfl ?_
        refine n_iaddN_W dX12_digest_169 ?_
        refine n_ald_W dX12_digest_170 (by decide) rfl (by omega) (by decide) (fun x38 => ?_)
        refine n_i2l_W dX12_digest_171 ?_
        refine n_ladd_W dX12_digest_172 (fun x39 => ?_)
        refine n_lstore_n_W (lv' := [(1, .long x39), (0, .ref 80), (3, .int (nI c131))]) dX12_digest_173 rfl (by decide) rfl ?_
        refine n_iinc_W (v := (nI (c131 + 1))) (lv' := [(3, .int (nI (c131 + 1))), (1, .long x39), (0, .ref 80)]) dX12_digest_174 rfl (nI_1 c131) (by decide) rfl ?_
        refine n_goto_W 131 dX12_digest_177 (by decide) ?_
        exact zs_Vlv_W (ih131 x39 (c131 + 1) (by omega) (by omega) (by omega)) (zs_mc 2 rfl (zs_mc 1 rfl (zs_mc 0 rfl zs_mn)))
  have j67 : ∀ (n67 : Nat) (v67_1 : Int64) (c67 : Nat), 0 ≤ c67 → c67 ≤ 5 → 5 - c67 < n67 → zs_V_W MX12_digest 67 [(0, .ref 80), (1, .long v67_1), (3, .int (nI c67))] [] zs_Rl := by
    intro n67
    induction n67 with
    | zero => intro v67_1 c67 lc67 uc67 hn67; exact absurd hn67 (Nat.not_lt_zero _)
    | succ n67 ih67 =>
      intro v67_1 c67 lc67 uc67 hn67
      refine n_iload_n_W dX12_digest_67 rfl rfl ?_
      refine n_aload_n_W dX12_digest_68 rfl rfl ?_
      refine n_getR_W 1 82 (C := RX12) (T := TX12) (N := 19) dX12_digest_69 (by decide) rfl rfl (by decide) rfl fl_RX12_13 ?_
      refine n_iconst_W (v := (nI 2)) dX12_digest_72 rfl ?_
      refine n_aldR_W (lo := 0) (up := 5) dX12_digest_73 (by decide) rfl (by omega) (by decide) rfl (fun m40 hm40 km40 => ?_)
      refine n_ic_geN_W 129 dX12_digest_74 (by decide) (by omega) (by omega) (fun h41 => ?_) (fun h41 => ?_)
      · refine n_iconst_W (v := (nI 0)) dX12_digest_129 rfl ?_
        refine n_istore_n_W (lv' := [(3, .int (nI 0)), (0, .ref 80), (1, .long v67_1)]) dX12_digest_130 rfl (by decide) rfl ?_
        exact zs_Vlv_W (j131 _ v67_1 0 (by omega) (by omega) (Nat.lt_succ_self _)) (zs_mc 1 rfl (zs_mc 2 rfl (zs_mc 0 rfl zs_mn)))
      · refine n_ldc2_W (v := 31) dX12_digest_77 cl_RX12_254 ?_
        refine n_ldc2_W (v := 31) dX12_digest_80 cl_RX12_254 ?_
        refine n_ldc2_W (v := 31) dX12_digest_83 cl_RX12_254 ?_
        refine n_lload_n_W dX12_digest_86 rfl rfl ?_
        refine n_lmul_W dX12_digest_87 (fun x42 => ?_)
        refine n_aload_n_W dX12_digest_88 rfl rfl ?_
        refine n_getR_W 1 82 (C := RX12) (T := TX12) (N := 19) dX12_digest_89 (by decide) rfl rfl (by decide) rfl fl_RX12_13 ?_
        refine n_iconst_W (v := (nI 3)) dX12_digest_92 rfl ?_
        refine n_iload_n_W dX12_digest_93 rfl rfl ?_
        refine n_iaddN_W dX12_digest_94 ?_
        refine n_ald_W dX12_digest_95 (by decide) rfl (by omega) (by decide) (fun x43 => ?_)
        refine n_i2l_W dX12_digest_96 ?_
        refine n_ladd_W dX12_digest_97 (fun x44 => ?_)
        refine n_lmul_W dX12_digest_98 (fun x45 => ?_)
        refine n_aload_n_W dX12_digest_99 rfl rfl ?_
        refine n_getR_W 0 81 (C := RX12) (T := TX12) (N := 19) dX12_digest_100 (by decide) rfl rfl (by decide) rfl fl_RX12_7 ?_
        refine n_bipush_W (v := (nI 15)) dX12_digest_103 rfl ?_
        refine n_iload_n_W dX12_digest_105 rfl rfl ?_
        refine n_iaddN_W dX12_digest_106 ?_
        refine n_ald_W dX12_digest_107 (by decide) rfl (by omega) (by decide) (fun x46 => ?_)
        refine n_i2l_W dX12_digest_108 ?_
        refine n_ladd_W dX12_digest_109 (fun x47 => ?_)
        refine n_lmul_W dX12_digest_110 (fun x48 => ?_)
        refine n_aload_n_W dX12_digest_111 rfl rfl ?_
        refine n_getR_W 0 81 (C := RX12) (T := TX12) (N := 19) dX12_digest_112 (by decide) rfl rfl (by decide) rfl fl_RX12_7 ?_
        refine n_bipush_W (v := (nI 20)) dX12_digest_115 rfl ?_
        refine n_iload_n_W dX12_digest_117 rfl rfl ?_
        refine n_iaddN_W dX12_digest_118 ?_
        refine n_ald_W dX12_digest_119 (by decide) rfl (by omega) (by decide) (fun x49 => ?_)
        refine n_i2l_W dX12_digest_120 ?_
        refine n_ladd_W dX12_digest_121 (fun x50 => ?_)
        refine n_lstore_n_W (lv' := [(1, .long x50), (0, .ref 80), (3, .int (nI c67))]) dX12_digest_122 rfl (by decide) rfl ?_
        refine n_iinc_W (v := (nI (c67 + 1))) (lv' := [(3, .int (nI (c67 + 1))), (1, .long x50), (0, .ref 80)]) dX12_digest_123 rfl (nI_1 c67) (by decide) rfl ?_
        refine n_goto_W 67 dX12_digest_126 (by decide) ?_
        exact zs_Vlv_W (ih67 x50 (c67 + 1) (by omega) (by omega) (by omega)) (zs_mc 2 rfl (zs_mc 1 rfl (zs_mc 0 rfl zs_mn)))
  have j33 : ∀ (n33 : Nat) (v33_1 : Int64) (c33 : Nat), 0 ≤ c33 → c33 ≤ 12 → 12 - c33 < n33 → zs_V_W MX12_digest 33 [(0, .ref 80), (1, .long v33_1), (3, .int (nI c33))] [] zs_Rl := by
    intro n33
    induction n33 with
    | zero => intro v33_1 c33 lc33 uc33 hn33; exact absurd hn33 (Nat.not_lt_zero _)
    | succ n33 ih33 =>
      intro v33_1 c33 lc33 uc33 hn33
      refine n_iload_n_W dX12_digest_33 rfl rfl ?_
      refine n_aload_n_W dX12_digest_34 rfl rfl ?_
      refine n_getR_W 1 82 (C := RX12) (T := TX12) (N := 19) dX12_digest_35 (by decide) rfl rfl (by decide) rfl fl_RX12_13 ?_
      refine n_iconst_W (v := (nI 0)) dX12_digest_38 rfl ?_
      refine n_aldR_W (lo := 1) (up := 12) dX12_digest_39 (by decide) rfl (by omega) (by decide) rfl (fun m51 hm51 km51 => ?_)
      refine n_ic_geN_W 65 dX12_digest_40 (by decide) (by omega) (by omega) (fun h52 => ?_) (fun h52 => ?_)
      · refine n_iconst_W (v := (nI 0)) dX12_digest_65 rfl ?_
        refine n_istore_n_W (lv' := [(3, .int (nI 0)), (0, .ref 80), (1, .long v33_1)]) dX12_digest_66 rfl (by decide) rfl ?_
        exact zs_Vlv_W (j67 _ v33_1 0 (by omega) (by omega) (Nat.lt_succ_self _)) (zs_mc 1 rfl (zs_mc 2 rfl (zs_mc 0 rfl zs_mn)))
      · refine n_ldc2_W (v := 31) dX12_digest_43 cl_RX12_254 ?_
        refine n_lload_n_W dX12_digest_46 rfl rfl ?_
        refine n_lmul_W dX12_digest_47 (fun x53 => ?_)
        refine n_aload_n_W dX12_digest_48 rfl rfl ?_
        refine n_getR_W 0 81 (C := RX12) (T := TX12) (N := 19) dX12_digest_49 (by decide) rfl rfl (by decide) rfl fl_RX12_7 ?_
        refine n_iconst_W (v := (nI 3)) dX12_digest_52 rfl ?_
        refine n_iload_n_W dX12_digest_53 rfl rfl ?_
        refine n_iaddN_W dX12_digest_54 ?_
        refine n_aldR_W (lo := 0) (up := 9) dX12_digest_55 (by decide) rfl (by omega) (by decide) (rg_81_3_14 _ (by omega) (by omega)) (fun m54 hm54 km54 => ?_)
        refine n_i2l_W dX12_digest_56 ?_
        refine n_ladd_W dX12_digest_57 (fun x55 => ?_)
        refine n_lstore_n_W (lv' := [(1, .long x55), (0, .ref 80), (3, .int (nI c33))]) dX12_digest_58 rfl (by decide) rfl ?_
        refine n_iinc_W (v := (nI (c33 + 1))) (lv' := [(3, .int (nI (c33 + 1))), (1, .long x55), (0, .ref 80)]) dX12_digest_59 rfl (nI_1 c33) (by decide) rfl ?_
        refine n_goto_W 33 dX12_digest_62 (by decide) ?_
        exact zs_Vlv_W (ih33 x55 (c33 + 1) (by omega) (by omega) (by omega)) (zs_mc 2 rfl (zs_mc 1 rfl (zs_mc 0 rfl zs_mn)))
  have j6 : ∀ (n6 : Nat) (v6_1 : Int64) (c6 : Int32), zs_mu c6 < n6 → zs_V_W MX12_digest 6 [(0, .ref 80), (1, .long v6_1), (3, .int c6)] [] zs_Rl := by
    intro n6
    induction n6 with
    | zero => intro v6_1 c6 hn6; exact absurd hn6 (Nat.not_lt_zero _)
    | succ n6 ih6 =>
      intro v6_1 c6 hn6
      refine n_iload_n_W dX12_digest_6 rfl rfl ?_
      refine n_bipush_W (v := (nI 12)) dX12_digest_7 rfl ?_
      refine n_ic_ge_W 31 dX12_digest_9 (by decide) (fun h56 => ?_) (fun h56 => ?_)
      · refine n_iconst_W (v := (nI 0)) dX12_digest_31 rfl ?_
        refine n_istore_n_W (lv' := [(3, .int (nI 0)), (0, .ref 80), (1, .long v6_1)]) dX12_digest_32 rfl (by decide) rfl ?_
        exact zs_Vlv_W (j33 _ v6_1 0 (by omega) (by omega) (Nat.lt_succ_self _)) (zs_mc 1 rfl (zs_mc 2 rfl (zs_mc 0 rfl zs_mn)))
      · have hd6 := zs_muA h56 hn6
        refine n_ldc2_W (v := 31) dX12_digest_12 cl_RX12_254 ?_
        refine n_lload_n_W dX12_digest_15 rfl rfl ?_
        refine n_lmul_W dX12_digest_16 (fun x57 => ?_)
        refine n_aload_n_W dX12_digest_17 rfl rfl ?_
        refine n_iload_n_W dX12_digest_18 rfl rfl ?_
        refine n_callV_W (T := TX12) (NN := 19) [.long x57] (y_X12_countOf_W c6) dX12_digest_19 kk_X12_digest_X12_countOf ml_RX12_249 mwX12_countOf ewX12_countOf (by decide) rfl rfl rfl rfl (Nat.le_of_ble_eq_true rfl) ?_
        rintro _ ⟨x58, rfl⟩
        refine n_i2l_W dX12_digest_22 ?_
        refine n_ladd_W dX12_digest_23 (fun x59 => ?_)
        refine n_lstore_n_W (lv' := [(1, .long x59), (0, .ref 80), (3, .int c6)]) dX12_digest_24 rfl (by decide) rfl ?_
        refine n_iinc_W (v := (c6 + Int32.ofInt 1)) (lv' := [(3, .int (c6 + Int32.ofInt 1)), (1, .long x59), (0, .ref 80)]) dX12_digest_25 rfl rfl (by decide) rfl ?_
        refine n_goto_W 6 dX12_digest_28 (by decide) ?_
        exact zs_Vlv_W (ih6 x59 (c6 + Int32.ofInt 1) hd6) (zs_mc 2 rfl (zs_mc 1 rfl (zs_mc 0 rfl zs_mn)))
  refine n_ldc2_W (v := 1787) dX12_digest_0 cl_RX12_252 ?_
  refine n_lstore_n_W (lv' := [(1, .long 1787), (0, .ref 80)]) dX12_digest_3 rfl (by decide) rfl ?_
  refine n_iconst_W (v := (nI 0)) dX12_digest_4 rfl ?_
  refine n_istore_n_W (lv' := [(3, .int (nI 0)), (1, .long 1787), (0, .ref 80)]) dX12_digest_5 rfl (by decide) rfl ?_
  exact zs_Vlv_W (j6 _ 1787 (nI 0) (Nat.lt_succ_self _)) (zs_mc 2 rfl (zs_mc 1 rfl (zs_mc 0 rfl zs_mn)))
