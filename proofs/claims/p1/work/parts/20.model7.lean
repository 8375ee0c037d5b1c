theorem z_inS (S : zs_S) (v : Int32) : zs_Ci MX12_in [.long v.toInt64, .long (-1), .long (nI 1).toInt64] S (fun x S2 => x = zs_b (v = -1 ∨ (nI 0 ≤ v ∧ v ≤ nI 1)) ∧ S = S2) := (z_inL S v.toInt64 (-1) (nI 1).toInt64).mono (by
  rintro _ _ ⟨x, rfl, rfl, rfl⟩
  refine ⟨_, rfl, congrArg zs_b (propext ?_), rfl⟩
  have a1 : (-1 : Int64).toInt = -1 := by decide
  have a2 : ((nI 1).toInt64).toInt = 1 := by decide
  have a3 : (-1 : Int32).toInt = -1 := by decide
  have a4 : (nI 0).toInt = 0 := by decide
  have a5 : (nI 1).toInt = 1 := by decide
  rw [Int64.le_iff_toInt_le, Int64.le_iff_toInt_le, Int32.le_iff_toInt_le, Int32.le_iff_toInt_le, ← Int32.toInt_inj, Int32.toInt_toInt64, a1, a2, a3, a4, a5]
  omega)
theorem zs_3 {v : Int32} (h : v = -1 ∨ (nI 0 ≤ v ∧ v ≤ nI 1)) : v = -1 ∨ v = nI 0 ∨ v = nI 1 := by
  rcases h with h | h
  · exact Or.inl h
  · obtain ⟨k, h1, h2, rfl⟩ := zs_rng h (by decide)
    rcases (show k = 0 ∨ k = 1 by omega) with rfl | rfl
    · exact Or.inr (Or.inl rfl)
    · exact Or.inr (Or.inr rfl)
set_option maxRecDepth 100000 in
theorem z_sm_p (S0 : zs_S) (F1 : zs_F1 S0) (v : Int32) (Q : Option Value → zs_S → Prop) (hk : ∀ S, zs_ch 86 87 S0 S → zs_P MX12_smooth 81 [(4, .int (nI 10)), (3, .int (nI 0)), (2, .int (nI 0)), (0, .ref 80), (1, .int v)] [] S Q) : ∀ (d i : Nat), i + d = 10 → ∀ S, zs_ch 86 87 S0 S → zs_P MX12_smooth 34 [(4, .int (nI i)), (3, .int (nI 0)), (2, .int (nI 0)), (0, .ref 80), (1, .int v)] [] S Q := by
  intro d
  induction d with
  | zero =>
    intro i hi S hc
    obtain rfl : i = 10 := by omega
    refine g_iload dX12_smooth_34 rfl ?_
    refine g_bipush (v := (nI 10)) dX12_smooth_36 rfl ?_
    refine g_ic_geN 81 dX12_smooth_38 (by decide) (by omega) (by omega) (fun _ => ?_) (fun z => absurd z (by omega))
    exact hk S hc
  | succ d ih =>
    intro i hi S hc
    refine g_iload dX12_smooth_34 rfl ?_
    refine g_bipush (v := (nI 10)) dX12_smooth_36 rfl ?_
    refine g_ic_geN 81 dX12_smooth_38 (by decide) (by omega) (by omega) (fun z => absurd z (by omega)) (fun _ => ?_)
    refine g_aload_n dX12_smooth_41 rfl rfl ?_
    refine g_iload dX12_smooth_42 rfl ?_
    refine g_callV (T := TX12) (NN := 19) [] (z_costOf S0 S F1 i (by omega) hc) dX12_smooth_44 kk_X12_smooth_X12_costOf ml_RX12_199 mwX12_costOf ewX12_costOf (by decide) rfl rfl rfl rfl (Nat.le_of_ble_eq_true rfl) ?_
    rintro _ S2 ⟨_, rfl, rfl, h2, -, -⟩
    have hml := zs_ml_le i i 10
    have how := zs_own_le i
    have hdd : zs_d0 i i ≤ 101 := by unfold zs_d0; omega
    refine g_istore (lv' := [(5, .int (nI (zs_d0 i i))), (4, .int (nI i)), (3, .int (nI 0)), (2, .int (nI 0)), (0, .ref 80), (1, .int v)]) dX12_smooth_47 (by decide) rfl ?_
    refine g_iload dX12_smooth_49 rfl ?_
    refine g_iload_n dX12_smooth_51 rfl rfl ?_
    refine g_ic_geN 60 dX12_smooth_52 (by decide) (by omega) (by omega) (fun _ => ?_) (fun z => absurd z (by omega))
    refine g_iload_n dX12_smooth_60 rfl rfl ?_
    refine g_istore_n (lv' := [(2, .int (nI 0)), (5, .int (nI (zs_d0 i i))), (4, .int (nI i)), (3, .int (nI 0)), (0, .ref 80), (1, .int v)]) dX12_smooth_61 rfl (by decide) rfl ?_
    refine g_iload dX12_smooth_62 rfl ?_
    refine g_iload_n dX12_smooth_64 rfl rfl ?_
    refine g_ic_geN 73 dX12_smooth_65 (by decide) (by omega) (by omega) (fun _ => ?_) (fun z => absurd z (by omega))
    refine g_iload_n dX12_smooth_73 rfl rfl ?_
    refine g_istore_n (lv' := [(3, .int (nI 0)), (2, .int (nI 0)), (5, .int (nI (zs_d0 i i))), (4, .int (nI i)), (0, .ref 80), (1, .int v)]) dX12_smooth_74 rfl (by decide) rfl ?_
    refine g_iinc (v := (nI (i + 1))) (lv' := [(4, .int (nI (i + 1))), (3, .int (nI 0)), (2, .int (nI 0)), (5, .int (nI (zs_d0 i i))), (0, .ref 80), (1, .int v)]) dX12_smooth_75 rfl (nI_1 i) (by decide) rfl ?_
    refine g_goto 34 dX12_smooth_78 (by decide) ?_
    exact (ih (i + 1) (by omega) S2 h2).lv (by simp)
set_option maxRecDepth 100000 in
theorem z_sm_tm (S0 : zs_S) (F1 : zs_F1 S0) (Q : Option Value → zs_S → Prop) (hq : ∀ S, Q (some (.int (nI 0))) S) (S : zs_S) (hc : zs_ch 86 87 S0 S) : zs_P MX12_smooth 81 [(4, .int (nI 10)), (3, .int (nI 0)), (2, .int (nI 0)), (0, .ref 80), (1, .int (-1))] [] S Q := by
  refine g_aload_n dX12_smooth_81 rfl rfl ?_
  refine g_iload_n dX12_smooth_82 rfl rfl ?_
  refine g_callV (T := TX12) (NN := 19) [] (z_costOf S0 S F1 0 (by decide) hc) dX12_smooth_83 kk_X12_smooth_X12_costOf ml_RX12_199 mwX12_costOf ewX12_costOf (by decide) rfl rfl rfl rfl (Nat.le_of_ble_eq_true rfl) ?_
  rintro _ S2 ⟨_, rfl, rfl, h2, q1, q0⟩
  refine g_pop dX12_smooth_86 rfl ?_
  refine g_iload_n dX12_smooth_87 rfl rfl ?_
  refine g_istore (lv' := [(4, .int (nI 0)), (3, .int (nI 0)), (2, .int (nI 0)), (0, .ref 80), (1, .int (-1))]) dX12_smooth_88 (by decide) rfl ?_
  refine g_iconst (v := (nI 1)) dX12_smooth_90 rfl ?_
  refine g_istore (lv' := [(5, .int (nI 1)), (4, .int (nI 0)), (3, .int (nI 0)), (2, .int (nI 0)), (0, .ref 80), (1, .int (-1))]) dX12_smooth_91 (by decide) rfl ?_
  refine g_iload dX12_smooth_93 rfl ?_
  refine g_iload_n dX12_smooth_95 rfl rfl ?_
  refine g_ic_gt 186 dX12_smooth_96 (by decide) (fun _ => ?_) (fun z => absurd (by decide) z)
  refine g_iload_n dX12_smooth_186 rfl rfl ?_
  refine g_if_ge 194 dX12_smooth_187 (by decide) (fun z => absurd z (by decide)) (fun _ => ?_)
  refine g_iload_n dX12_smooth_190 rfl rfl ?_
  refine g_goto 196 dX12_smooth_191 (by decide) ?_
  refine g_iret dX12_smooth_196 rfl rfl ?_
  exact hq S2
set_option maxRecDepth 100000 in
theorem z_sm_t0 (S0 : zs_S) (F1 : zs_F1 S0) (Q : Option Value → zs_S → Prop) (hq : ∀ S, Q (some (.int (nI 0))) S) (S : zs_S) (hc : zs_ch 86 87 S0 S) : zs_P MX12_smooth 81 [(4, .int (nI 10)), (3, .int (nI 0)), (2, .int (nI 0)), (0, .ref 80), (1, .int (nI 0))] [] S Q := by
  refine g_aload_n dX12_smooth_81 rfl rfl ?_
  refine g_iload_n dX12_smooth_82 rfl rfl ?_
  refine g_callV (T := TX12) (NN := 19) [] (z_costOf S0 S F1 0 (by decide) hc) dX12_smooth_83 kk_X12_smooth_X12_costOf ml_RX12_199 mwX12_costOf ewX12_costOf (by decide) rfl rfl rfl rfl (Nat.le_of_ble_eq_true rfl) ?_
  rintro _ S2 ⟨_, rfl, rfl, h2, q1, q0⟩
  refine g_pop dX12_smooth_86 rfl ?_
  refine g_iload_n dX12_smooth_87 rfl rfl ?_
  refine g_istore (lv' := [(4, .int (nI 0)), (3, .int (nI 0)), (2, .int (nI 0)), (0, .ref 80), (1, .int (nI 0))]) dX12_smooth_88 (by decide) rfl ?_
  refine g_iconst (v := (nI 1)) dX12_smooth_90 rfl ?_
  refine g_istore (lv' := [(5, .int (nI 1)), (4, .int (nI 0)), (3, .int (nI 0)), (2, .int (nI 0)), (0, .ref 80), (1, .int (nI 0))]) dX12_smooth_91 (by decide) rfl ?_
  refine g_iload dX12_smooth_93 rfl ?_
  refine g_iload_n dX12_smooth_95 rfl rfl ?_
  refine g_ic_gtN 186 dX12_smooth_96 (by decide) (by omega) (by omega) (fun _ => ?_) (fun z => absurd z (by omega))
  refine g_iload_n dX12_smooth_186 rfl rfl ?_
  refine g_if_geN 194 dX12_smooth_187 (by decide) (by omega) ?_
  refine g_iload dX12_smooth_194 rfl ?_
  refine g_iret dX12_smooth_196 rfl rfl ?_
  exact hq S2
set_option maxRecDepth 100000 in
theorem z_sm_t1 (S0 : zs_S) (F1 : zs_F1 S0) (Q : Option Value → zs_S → Prop) (hq : ∀ S, Q (some (.int (nI 0))) S) (S : zs_S) (hc : zs_ch 86 87 S0 S) : zs_P MX12_smooth 81 [(4, .int (nI 10)), (3, .int (nI 0)), (2, .int (nI 0)), (0, .ref 80), (1, .int (nI 1))] [] S Q := by
  refine g_aload_n dX12_smooth_81 rfl rfl ?_
  refine g_iload_n dX12_smooth_82 rfl rfl ?_
  refine g_callV (T := TX12) (NN := 19) [] (z_costOf S0 S F1 0 (by decide) hc) dX12_smooth_83 kk_X12_smooth_X12_costOf ml_RX12_199 mwX12_costOf ewX12_costOf (by decide) rfl rfl rfl rfl (Nat.le_of_ble_eq_true rfl) ?_
  rintro _ S2 ⟨_, rfl, rfl, h2, q1, q0⟩
  refine g_pop dX12_smooth_86 rfl ?_
  refine g_iload_n dX12_smooth_87 rfl rfl ?_
  refine g_istore (lv' := [(4, .int (nI 0)), (3, .int (nI 0)), (2, .int (nI 0)), (0, .ref 80), (1, .int (nI 1))]) dX12_smooth_88 (by decide) rfl ?_
  refine g_iconst (v := (nI 1)) dX12_smooth_90 rfl ?_
  refine g_istore (lv' := [(5, .int (nI 1)), (4, .int (nI 0)), (3, .int (nI 0)), (2, .int (nI 0)), (0, .ref 80), (1, .int (nI 1))]) dX12_smooth_91 (by decide) rfl ?_
  refine g_iload dX12_smooth_93 rfl ?_
  refine g_iload_n dX12_smooth_95 rfl rfl ?_
  refine g_ic_gtN 186 dX12_smooth_96 (by decide) (by omega) (by omega) (fun z => absurd z (by omega)) (fun _ => ?_)
  refine g_aload_n dX12_smooth_99 rfl rfl ?_
  refine g_getR 15 (86) (C := RX12) (T := TX12) (N := 19) dX12_smooth_100 (by decide) rfl rfl (by decide) rfl fl_RX12_30 ?_
  refine g_bipush (v := (nI 10)) dX12_smooth_103 rfl ?_
  refine g_iload dX12_smooth_105 rfl ?_
  refine g_iconst (v := (nI 1)) dX12_smooth_107 rfl ?_
  refine g_isubN dX12_smooth_108 (by omega) ?_
  refine g_imulN dX12_smooth_109 ?_
  refine g_iload dX12_smooth_110 rfl ?_
  refine g_iaddN dX12_smooth_112 ?_
  refine g_ialdN (v := (nI 0)) dX12_smooth_113 (by decide) rfl (by omega) (by decide) ((q0 0 (by decide)).trans (congrArg nI zs_d000)) ?_
  refine g_aload_n dX12_smooth_114 rfl rfl ?_
  refine g_getR 0 (81) (C := RX12) (T := TX12) (N := 19) dX12_smooth_115 (by decide) rfl rfl (by decide) rfl fl_RX12_7 ?_
  refine g_iconst (v := (nI 3)) dX12_smooth_118 rfl ?_
  refine g_iload dX12_smooth_119 rfl ?_
  refine g_iaddN dX12_smooth_121 ?_
  refine g_iconst (v := (nI 1)) dX12_smooth_122 rfl ?_
  refine g_isubN dX12_smooth_123 (by omega) ?_
  refine g_ialdN (v := (nI 0)) dX12_smooth_124 (by decide) rfl (by omega) (by decide) ((congrFun (h2 81 (by omega)).1 3).trans (congrFun (F1 81 (by decide)).1 3)) ?_
  refine g_iload dX12_smooth_125 rfl ?_
  refine g_ic_neN 134 dX12_smooth_127 (by decide) (by omega) (by omega) (fun z => absurd z (by omega)) (fun _ => ?_)
  refine g_iconst (v := (nI 0)) dX12_smooth_130 rfl ?_
  refine g_goto 135 dX12_smooth_131 (by decide) ?_
  refine g_isubN dX12_smooth_135 (by omega) ?_
  refine g_istore (lv' := [(6, .int (nI 0)), (5, .int (nI 1)), (4, .int (nI 0)), (3, .int (nI 0)), (2, .int (nI 0)), (0, .ref 80), (1, .int (nI 1))]) dX12_smooth_136 (by decide) rfl ?_
  refine g_iconst (v := (nI 0)) dX12_smooth_138 rfl ?_
  refine g_istore (lv' := [(7, .int (nI 0)), (6, .int (nI 0)), (5, .int (nI 1)), (4, .int (nI 0)), (3, .int (nI 0)), (2, .int (nI 0)), (0, .ref 80), (1, .int (nI 1))]) dX12_smooth_139 (by decide) rfl ?_
  refine g_iload dX12_smooth_141 rfl ?_
  refine g_iload dX12_smooth_143 rfl ?_
  refine g_callS [.int (nI 0), .int (nI 0)] [] (z_apart S2 0 0 (by decide) (by decide)) dX12_smooth_145 kk_X12_smooth_X12_apart ml_RX12_46 swX12_apart rfl rfl (Nat.le_of_ble_eq_true rfl) ?_
  rintro _ _ ⟨_, rfl, rfl, rfl⟩
  have hap : zs_ap 0 0 = 0 := by decide
  refine g_iconst (v := (nI 1)) dX12_smooth_148 rfl ?_
  refine g_ic_gtN 170 dX12_smooth_149 (by decide) (by omega) (by omega) (fun z => absurd z (by omega)) (fun _ => ?_)
  refine g_aload_n dX12_smooth_152 rfl rfl ?_
  refine g_getR 15 (86) (C := RX12) (T := TX12) (N := 19) dX12_smooth_153 (by decide) rfl rfl (by decide) rfl fl_RX12_30 ?_
  refine g_bipush (v := (nI 10)) dX12_smooth_156 rfl ?_
  refine g_iload dX12_smooth_158 rfl ?_
  refine g_imulN dX12_smooth_160 ?_
  refine g_iload dX12_smooth_161 rfl ?_
  refine g_iaddN dX12_smooth_163 ?_
  refine g_ialdN (v := (nI 0)) dX12_smooth_164 (by decide) rfl (by omega) (by decide) ((q1 0 (by decide)).trans (congrArg nI zs_d100)) ?_
  refine g_iload dX12_smooth_165 rfl ?_
  refine g_ic_eqN 176 dX12_smooth_167 (by decide) (by omega) (by omega) (fun _ => ?_) (fun z => absurd z (by omega))
  refine g_iload dX12_smooth_176 rfl ?_
  refine g_istore (lv' := [(4, .int (nI 0)), (7, .int (nI 0)), (6, .int (nI 0)), (5, .int (nI 1)), (3, .int (nI 0)), (2, .int (nI 0)), (0, .ref 80), (1, .int (nI 1))]) dX12_smooth_178 (by decide) rfl ?_
  refine g_iinc (v := (nI 2)) (lv' := [(5, .int (nI 2)), (4, .int (nI 0)), (7, .int (nI 0)), (6, .int (nI 0)), (3, .int (nI 0)), (2, .int (nI 0)), (0, .ref 80), (1, .int (nI 1))]) dX12_smooth_180 rfl (nI_1 1) (by decide) rfl ?_
  refine g_goto 93 dX12_smooth_183 (by decide) ?_
  refine g_iload dX12_smooth_93 rfl ?_
  refine g_iload_n dX12_smooth_95 rfl rfl ?_
  refine g_ic_gtN 186 dX12_smooth_96 (by decide) (by omega) (by omega) (fun _ => ?_) (fun z => absurd z (by omega))
  refine g_iload_n dX12_smooth_186 rfl rfl ?_
  refine g_if_geN 194 dX12_smooth_187 (by decide) (by omega) ?_
  refine g_iload dX12_smooth_194 rfl ?_
  refine g_iret dX12_smooth_196 rfl rfl ?_
  exact hq S2
set_option maxRecDepth 100000 in
theorem z_sm_a (S0 : zs_S) (F1 : zs_F1 S0) (v : Int32) (Q : Option Value → zs_S → Prop) (hk : ∀ S, zs_ch 86 87 S0 S → zs_P MX12_smooth 81 [(4, .int (nI 10)), (3, .int (nI 0)), (2, .int (nI 0)), (0, .ref 80), (1, .int v)] [] S Q) : zs_P MX12_smooth 25 [(0, .ref 80), (1, .int v)] [] S0 Q := by
  refine g_iconst (v := (nI 0)) dX12_smooth_25 rfl ?_
  refine g_istore_n (lv' := [(2, .int (nI 0)), (0, .ref 80), (1, .int v)]) dX12_smooth_26 rfl (by decide) rfl ?_
  refine g_sipush (v := (nI 999)) dX12_smooth_27 rfl ?_
  refine g_istore_n (lv' := [(3, .int (nI 999)), (2, .int (nI 0)), (0, .ref 80), (1, .int v)]) dX12_smooth_30 rfl (by decide) rfl ?_
  refine g_iconst (v := (nI 0)) dX12_smooth_31 rfl ?_
  refine g_istore (lv' := [(4, .int (nI 0)), (3, .int (nI 999)), (2, .int (nI 0)), (0, .ref 80), (1, .int v)]) dX12_smooth_32 (by decide) rfl ?_
  refine g_iload dX12_smooth_34 rfl ?_
  refine g_bipush (v := (nI 10)) dX12_smooth_36 rfl ?_
  refine g_ic_geN 81 dX12_smooth_38 (by decide) (by omega) (by omega) (fun z => absurd z (by omega)) (fun _ => ?_)
  refine g_aload_n dX12_smooth_41 rfl rfl ?_
  refine g_iload dX12_smooth_42 rfl ?_
  refine g_callV (T := TX12) (NN := 19) [] (z_costOf S0 S0 F1 0 (by decide) zs_ch.rf) dX12_smooth_44 kk_X12_smooth_X12_costOf ml_RX12_199 mwX12_costOf ewX12_costOf (by decide) rfl rfl rfl rfl (Nat.le_of_ble_eq_true rfl) ?_
  rintro _ S2 ⟨_, rfl, rfl, h2, -, -⟩
  rw [zs_d000]
  refine g_istore (lv' := [(5, .int (nI 0)), (4, .int (nI 0)), (3, .int (nI 999)), (2, .int (nI 0)), (0, .ref 80), (1, .int v)]) dX12_smooth_47 (by decide) rfl ?_
  refine g_iload dX12_smooth_49 rfl ?_
  refine g_iload_n dX12_smooth_51 rfl rfl ?_
  refine g_ic_geN 60 dX12_smooth_52 (by decide) (by omega) (by omega) (fun z => absurd z (by omega)) (fun _ => ?_)
  refine g_iload dX12_smooth_55 rfl ?_
  refine g_goto 61 dX12_smooth_57 (by decide) ?_
  refine g_istore_n (lv' := [(2, .int (nI 0)), (5, .int (nI 0)), (4, .int (nI 0)), (3, .int (nI 999)), (0, .ref 80), (1, .int v)]) dX12_smooth_61 rfl (by decide) rfl ?_
  refine g_iload dX12_smooth_62 rfl ?_
  refine g_iload_n dX12_smooth_64 rfl rfl ?_
  refine g_ic_geN 73 dX12_smooth_65 (by decide) (by omega) (by omega) (fun z => absurd z (by omega)) (fun _ => ?_)
  refine g_iload dX12_smooth_68 rfl ?_
  refine g_goto 74 dX12_smooth_70 (by decide) ?_
  refine g_istore_n (lv' := [(3, .int (nI 0)), (2, .int (nI 0)), (5, .int (nI 0)), (4, .int (nI 0)), (0, .ref 80), (1, .int v)]) dX12_smooth_74 rfl (by decide) rfl ?_
  refine g_iinc (v := (nI 1)) (lv' := [(4, .int (nI 1)), (3, .int (nI 0)), (2, .int (nI 0)), (5, .int (nI 0)), (0, .ref 80), (1, .int v)]) dX12_smooth_75 rfl (nI_1 0) (by decide) rfl ?_
  refine g_goto 34 dX12_smooth_78 (by decide) ?_
  exact (z_sm_p S0 F1 v _ hk 9 1 (by omega) S2 h2).lv (by simp)
set_option maxRecDepth 100000 in
theorem w_smooth (S : zs_S) (F : zs_F1 S) (f : Int32) : zs_Ci MX12_smooth [.ref 80, .int f] S (fun x _ => x = zs_if (f = -1 ∨ (nI 0 ≤ f ∧ f ≤ nI 1)) (nI 0) (-10)) := by
  refine zs_C.of (by decide) (Nat.le_of_ble_eq_true rfl) ?_
  show zs_P MX12_smooth 0 [(0, .ref 80), (1, .int f)] [] S _
  refine g_iload_n dX12_smooth_0 rfl rfl ?_
  refine g_i2l dX12_smooth_1 rfl ?_
  refine g_ldc2 (v := -1) dX12_smooth_2 cl_RX12_194 ?_
  refine g_aload_n dX12_smooth_5 rfl rfl ?_
  refine g_getR 1 (82) (C := RX12) (T := TX12) (N := 19) dX12_smooth_6 (by decide) rfl rfl (by decide) rfl fl_RX12_13 ?_
  refine g_iconst (v := (nI 0)) dX12_smooth_9 rfl ?_
  refine g_ialdN (v := (nI 2)) dX12_smooth_10 (by decide) rfl (by omega) (by decide) (congrFun (F 82 (by decide)).1 0) ?_
  refine g_iconst (v := (nI 1)) dX12_smooth_11 rfl ?_
  refine g_isubN dX12_smooth_12 (by omega) ?_
  refine g_i2l dX12_smooth_13 rfl ?_
  refine g_callS [.long (Int32.toInt64 f), .long (-1), .long (Int32.toInt64 (nI 1))] [] (z_inS S f) dX12_smooth_14 kk_X12_smooth_X12_in ml_RX12_54 swX12_in rfl rfl (Nat.le_of_ble_eq_true rfl) ?_
  rintro _ _ ⟨_, rfl, rfl, rfl⟩
  refine g_if_ne 25 dX12_smooth_17 (by decide) (fun h1 => ?_) (fun h1 => ?_)
  · have h1 := zs_b1 h1
    refine z_sm_a S F f _ (fun S3 h3 => ?_)
    rcases zs_3 h1 with rfl | rfl | rfl
    · exact z_sm_tm S F _ (fun S4 => ⟨_, rfl, (zs_it h1).symm⟩) S3 h3
    · exact z_sm_t0 S F _ (fun S4 => ⟨_, rfl, (zs_it h1).symm⟩) S3 h3
    · exact z_sm_t1 S F _ (fun S4 => ⟨_, rfl, (zs_it h1).symm⟩) S3 h3
  · have h1 := zs_b0 h1
    refine g_aload_n dX12_smooth_20 rfl rfl ?_
    refine g_callV (T := TX12) (NN := 19) [] (z_bad10 S) dX12_smooth_21 kk_X12_smooth_X12_bad10 ml_RX12_196 mwX12_bad10 ewX12_bad10 (by decide) rfl rfl rfl rfl (Nat.le_of_ble_eq_true rfl) ?_
    rintro _ S2 ⟨_, rfl, rfl⟩
    refine g_iret dX12_smooth_24 rfl rfl ?_
    exact ⟨_, rfl, (zs_ie h1).symm⟩
