def zs_ap (x y : Nat) : Nat := if x < y then y - x else x - y
def zs_d1 (F p : Nat) : Nat := (if zs_ap p F < 2 then 0 else 99) + zs_own p
def zs_ml (F p : Nat) : Nat → Nat
  | 0 => 99
  | q + 1 => if zs_ap p q < 2 ∧ zs_d1 F q < zs_ml F p q then zs_d1 F q else zs_ml F p q
def zs_d0 (F p : Nat) : Nat := zs_ml F p 10 + zs_own p
theorem zs_own_le (p : Nat) : zs_own p ≤ 1 := by unfold zs_own; split <;> omega
theorem zs_d1_le (F p : Nat) : zs_d1 F p ≤ 100 := by
  have := zs_own_le p
  unfold zs_d1
  split <;> omega
theorem zs_ml_le (F p : Nat) : ∀ q, zs_ml F p q ≤ 100
  | 0 => by show 99 ≤ 100; omega
  | q + 1 => by
    have := zs_ml_le F p q
    have := zs_d1_le F q
    show (if _ then _ else _) ≤ 100
    split <;> omega
theorem zs_d000 : zs_d0 0 0 = 0 := by decide
theorem zs_d100 : zs_d1 0 0 = 0 := by decide
def zs_q1 (S : zs_S) (F i : Nat) : Prop := ∀ j, j < i → S.1 86 (10 * 1 + j) = nI (zs_d1 F j)
def zs_q0 (S : zs_S) (F i : Nat) : Prop := ∀ j, j < i → S.1 86 (10 * 0 + j) = nI (zs_d0 F j)
set_option maxRecDepth 100000 in
theorem z_apart (S : zs_S) (x y : Nat) (hx : x < 100) (hy : y < 100) : zs_Ci MX12_apart [.int (nI x), .int (nI y)] S (fun z S2 => z = nI (zs_ap x y) ∧ S = S2) := by
  refine zs_C.of (by decide) (Nat.le_of_ble_eq_true rfl) ?_
  show zs_P MX12_apart 0 [(0, .int (nI x)), (1, .int (nI y))] [] S _
  refine g_iload_n dX12_apart_0 rfl rfl ?_
  refine g_iload_n dX12_apart_1 rfl rfl ?_
  refine g_ic_geN 11 dX12_apart_2 (by decide) (by omega) (by omega) (fun h1 => ?_) (fun h1 => ?_)
  · refine g_iload_n dX12_apart_11 rfl rfl ?_
    refine g_iload_n dX12_apart_12 rfl rfl ?_
    refine g_isubN dX12_apart_13 (by omega) ?_
    refine g_iret dX12_apart_14 rfl rfl ?_
    exact ⟨_, rfl, congrArg nI (by unfold zs_ap; split <;> omega), rfl⟩
  · refine g_iload_n dX12_apart_5 rfl rfl ?_
    refine g_iload_n dX12_apart_6 rfl rfl ?_
    refine g_isubN dX12_apart_7 (by omega) ?_
    refine g_goto 14 dX12_apart_8 (by decide) ?_
    refine g_iret dX12_apart_14 rfl rfl ?_
    exact ⟨_, rfl, congrArg nI (by unfold zs_ap; split <;> omega), rfl⟩
set_option maxRecDepth 100000 in
theorem z_cost1 (S0 : zs_S) (F1 : zs_F1 S0) (F : Nat) (hF : F < 10) (Q : Option Value → zs_S → Prop) (hk : ∀ S, zs_ch 86 87 S0 S → zs_q1 S F 10 → zs_P MX12_costOf 168 [(4, .int (nI 10)), (3, .int (nI 1)), (2, .int (nI 2)), (0, .ref 80), (1, .int (nI F))] [] S Q) : ∀ (d i : Nat), i + d = 10 → ∀ S, zs_ch 86 87 S0 S → zs_q1 S F i → zs_P MX12_costOf 18 [(4, .int (nI i)), (3, .int (nI 1)), (2, .int (nI 2)), (0, .ref 80), (1, .int (nI F))] [] S Q := by
  intro d
  induction d with
  | zero =>
    intro i hi S hc q1
    obtain rfl : i = 10 := by omega
    refine g_iload dX12_costOf_18 rfl ?_
    refine g_bipush (v := (nI 10)) dX12_costOf_20 rfl ?_
    refine g_ic_geN 168 dX12_costOf_22 (by decide) (by omega) (by omega) (fun _ => ?_) (fun z => absurd z (by omega))
    exact hk S hc q1
  | succ d ih =>
    intro i hi S hc q1
    refine g_iload dX12_costOf_18 rfl ?_
    refine g_bipush (v := (nI 10)) dX12_costOf_20 rfl ?_
    refine g_ic_geN 168 dX12_costOf_22 (by decide) (by omega) (by omega) (fun z => absurd z (by omega)) (fun _ => ?_)
    refine g_iload_n dX12_costOf_25 rfl rfl ?_
    refine g_iload_n dX12_costOf_26 rfl rfl ?_
    refine g_iconst (v := (nI 1)) dX12_costOf_27 rfl ?_
    refine g_isubN dX12_costOf_28 (by omega) ?_
    refine g_ic_neN 51 dX12_costOf_29 (by decide) (by omega) (by omega) (fun z => absurd z (by omega)) (fun _ => ?_)
    refine g_iload dX12_costOf_32 rfl ?_
    refine g_iload_n dX12_costOf_34 rfl rfl ?_
    refine g_callS [.int (nI i), .int (nI F)] [] (z_apart S (i) (F) (by omega) (by omega)) dX12_costOf_35 kk_X12_costOf_X12_apart ml_RX12_46 swX12_apart rfl rfl (Nat.le_of_ble_eq_true rfl) ?_
    rintro _ _ ⟨_, rfl, rfl, rfl⟩
    have hap : zs_ap (i) (F) < 100 := by unfold zs_ap; split <;> omega
    refine g_iconst (v := (nI 2)) dX12_costOf_38 rfl ?_
    refine g_ic_geN 46 dX12_costOf_39 (by decide) (by omega) (by omega) (fun h1 => ?_) (fun h1 => ?_)
    · refine g_bipush (v := (nI 99)) dX12_costOf_46 rfl ?_
      refine g_goto 53 dX12_costOf_48 (by decide) ?_
      refine g_istore (lv' := [(5, .int (nI 99)), (4, .int (nI i)), (3, .int (nI 1)), (2, .int (nI 2)), (0, .ref 80), (1, .int (nI F))]) dX12_costOf_53 (by decide) rfl ?_
      refine g_iconst (v := (nI 0)) dX12_costOf_55 rfl ?_
      refine g_istore (lv' := [(6, .int (nI 0)), (5, .int (nI 99)), (4, .int (nI i)), (3, .int (nI 1)), (2, .int (nI 2)), (0, .ref 80), (1, .int (nI F))]) dX12_costOf_56 (by decide) rfl ?_
      refine g_iload dX12_costOf_58 rfl ?_
      refine g_bipush (v := (nI 10)) dX12_costOf_60 rfl ?_
      refine g_ic_geN 129 dX12_costOf_62 (by decide) (by omega) (by omega) (fun z => absurd z (by omega)) (fun _ => ?_)
      refine g_iload_n dX12_costOf_65 rfl rfl ?_
      refine g_iload_n dX12_costOf_66 rfl rfl ?_
      refine g_iconst (v := (nI 1)) dX12_costOf_67 rfl ?_
      refine g_isubN dX12_costOf_68 (by omega) ?_
      refine g_ic_geN 129 dX12_costOf_69 (by decide) (by omega) (by omega) (fun _ => ?_) (fun z => absurd z (by omega))
      have hoi := zs_own_le i
      refine g_aload_n dX12_costOf_129 rfl rfl ?_
      refine g_getR 15 (86) (C := RX12) (T := TX12) (N := 19) dX12_costOf_130 (by decide) rfl rfl (by decide) rfl fl_RX12_30 ?_
      refine g_bipush (v := (nI 10)) dX12_costOf_133 rfl ?_
      refine g_iload_n dX12_costOf_135 rfl rfl ?_
      refine g_imulN dX12_costOf_136 ?_
      refine g_iload dX12_costOf_137 rfl ?_
      refine g_iaddN dX12_costOf_139 ?_
      refine g_iload dX12_costOf_140 rfl ?_
      refine g_aload_n dX12_costOf_142 rfl rfl ?_
      refine g_getR 0 (81) (C := RX12) (T := TX12) (N := 19) dX12_costOf_143 (by decide) rfl rfl (by decide) rfl fl_RX12_7 ?_
      refine g_iconst (v := (nI 3)) dX12_costOf_146 rfl ?_
      refine g_iload_n dX12_costOf_147 rfl rfl ?_
      refine g_iaddN dX12_costOf_148 ?_
      refine g_ialdN (v := (nI 0)) dX12_costOf_149 (by decide) rfl (by omega) (by decide) ((congrFun (hc 81 (by omega)).1 4).trans (congrFun (F1 81 (by decide)).1 4)) ?_
      refine g_iload dX12_costOf_150 rfl ?_
      refine g_ic_neN 159 dX12_costOf_152 (by decide) (by omega) (by omega) (fun h2 => ?_) (fun h2 => ?_)
      · refine g_iconst (v := (nI 1)) dX12_costOf_159 rfl ?_
        refine zs_Ptop (y := nI (zs_own i)) (by unfold zs_own; rw [if_neg (fun e => h2 e.symm)]) ?_
        refine g_iaddN dX12_costOf_160 ?_
        refine g_iastN dX12_costOf_161 (by decide) rfl (by omega) (by decide) ?_
        refine g_iinc (v := (nI (i + 1))) (lv' := [(4, .int (nI (i + 1))), (6, .int (nI 0)), (5, .int (nI 99)), (3, .int (nI 1)), (2, .int (nI 2)), (0, .ref 80), (1, .int (nI F))]) dX12_costOf_162 rfl (nI_1 i) (by decide) rfl ?_
        refine g_goto 18 dX12_costOf_165 (by decide) ?_
        refine zs_P.lv (ih (i + 1) (by omega) _ (hc.up (by omega) (by omega)) (fun j hj => ?_)) (by simp)
        by_cases e : j = i
        · subst e
          refine zs_up_q.trans (congrArg nI ?_)
          unfold zs_d1
          rw [if_neg (by omega)]
        · exact (zs_up_m (by omega)).trans (q1 j (by omega))
      · refine g_iconst (v := (nI 0)) dX12_costOf_155 rfl ?_
        refine g_goto 160 dX12_costOf_156 (by decide) ?_
        refine zs_Ptop (y := nI (zs_own i)) (by unfold zs_own; rw [if_pos h2.symm]) ?_
        refine g_iaddN dX12_costOf_160 ?_
        refine g_iastN dX12_costOf_161 (by decide) rfl (by omega) (by decide) ?_
        refine g_iinc (v := (nI (i + 1))) (lv' := [(4, .int (nI (i + 1))), (6, .int (nI 0)), (5, .int (nI 99)), (3, .int (nI 1)), (2, .int (nI 2)), (0, .ref 80), (1, .int (nI F))]) dX12_costOf_162 rfl (nI_1 i) (by decide) rfl ?_
        refine g_goto 18 dX12_costOf_165 (by decide) ?_
        refine zs_P.lv (ih (i + 1) (by omega) _ (hc.up (by omega) (by omega)) (fun j hj => ?_)) (by simp)
        by_cases e : j = i
        · subst e
          refine zs_up_q.trans (congrArg nI ?_)
          unfold zs_d1
          rw [if_neg (by omega)]
        · exact (zs_up_m (by omega)).trans (q1 j (by omega))
    · refine g_iconst (v := (nI 0)) dX12_costOf_42 rfl ?_
      refine g_goto 53 dX12_costOf_43 (by decide) ?_
      refine g_istore (lv' := [(5, .int (nI 0)), (4, .int (nI i)), (3, .int (nI 1)), (2, .int (nI 2)), (0, .ref 80), (1, .int (nI F))]) dX12_costOf_53 (by decide) rfl ?_
      refine g_iconst (v := (nI 0)) dX12_costOf_55 rfl ?_
      refine g_istore (lv' := [(6, .int (nI 0)), (5, .int (nI 0)), (4, .int (nI i)), (3, .int (nI 1)), (2, .int (nI 2)), (0, .ref 80), (1, .int (nI F))]) dX12_costOf_56 (by decide) rfl ?_
      refine g_iload dX12_costOf_58 rfl ?_
      refine g_bipush (v := (nI 10)) dX12_costOf_60 rfl ?_
      refine g_ic_geN 129 dX12_costOf_62 (by decide) (by omega) (by omega) (fun z => absurd z (by omega)) (fun _ => ?_)
      refine g_iload_n dX12_costOf_65 rfl rfl ?_
      refine g_iload_n dX12_costOf_66 rfl rfl ?_
      refine g_iconst (v := (nI 1)) dX12_costOf_67 rfl ?_
      refine g_isubN dX12_costOf_68 (by omega) ?_
      refine g_ic_geN 129 dX12_costOf_69 (by decide) (by omega) (by omega) (fun _ => ?_) (fun z => absurd z (by omega))
      have hoi := zs_own_le i
      refine g_aload_n dX12_costOf_129 rfl rfl ?_
      refine g_getR 15 (86) (C := RX12) (T := TX12) (N := 19) dX12_costOf_130 (by decide) rfl rfl (by decide) rfl fl_RX12_30 ?_
      refine g_bipush (v := (nI 10)) dX12_costOf_133 rfl ?_
      refine g_iload_n dX12_costOf_135 rfl rfl ?_
      refine g_imulN dX12_costOf_136 ?_
      refine g_iload dX12_costOf_137 rfl ?_
      refine g_iaddN dX12_costOf_139 ?_
      refine g_iload dX12_costOf_140 rfl ?_
      refine g_aload_n dX12_costOf_142 rfl rfl ?_
      refine g_getR 0 (81) (C := RX12) (T := TX12) (N := 19) dX12_costOf_143 (by decide) rfl rfl (by decide) rfl fl_RX12_7 ?_
      refine g_iconst (v := (nI 3)) dX12_costOf_146 rfl ?_
      refine g_iload_n dX12_costOf_147 rfl rfl ?_
      refine g_iaddN dX12_costOf_148 ?_
      refine g_ialdN (v := (nI 0)) dX12_costOf_149 (by decide) rfl (by omega) (by decide) ((congrFun (hc 81 (by omega)).1 4).trans (congrFun (F1 81 (by decide)).1 4)) ?_
      refine g_iload dX12_costOf_150 rfl ?_
      refine g_ic_neN 159 dX12_costOf_152 (by decide) (by omega) (by omega) (fun h3 => ?_) (fun h3 => ?_)
      · refine g_iconst (v := (nI 1)) dX12_costOf_159 rfl ?_
        refine zs_Ptop (y := nI (zs_own i)) (by unfold zs_own; rw [if_neg (fun e => h3 e.symm)]) ?_
        refine g_iaddN dX12_costOf_160 ?_
        refine g_iastN dX12_costOf_161 (by decide) rfl (by omega) (by decide) ?_
        refine g_iinc (v := (nI (i + 1))) (lv' := [(4, .int (nI (i + 1))), (6, .int (nI 0)), (5, .int (nI 0)), (3, .int (nI 1)), (2, .int (nI 2)), (0, .ref 80), (1, .int (nI F))]) dX12_costOf_162 rfl (nI_1 i) (by decide) rfl ?_
        refine g_goto 18 dX12_costOf_165 (by decide) ?_
        refine zs_P.lv (ih (i + 1) (by omega) _ (hc.up (by omega) (by omega)) (fun j hj => ?_)) (by simp)
        by_cases e : j = i
        · subst e
          refine zs_up_q.trans (congrArg nI ?_)
          unfold zs_d1
          rw [if_pos (by omega)]
        · exact (zs_up_m (by omega)).trans (q1 j (by omega))
      · refine g_iconst (v := (nI 0)) dX12_costOf_155 rfl ?_
        refine g_goto 160 dX12_costOf_156 (by decide) ?_
        refine zs_Ptop (y := nI (zs_own i)) (by unfold zs_own; rw [if_pos h3.symm]) ?_
        refine g_iaddN dX12_costOf_160 ?_
        refine g_iastN dX12_costOf_161 (by decide) rfl (by omega) (by decide) ?_
        refine g_iinc (v := (nI (i + 1))) (lv' := [(4, .int (nI (i + 1))), (6, .int (nI 0)), (5, .int (nI 0)), (3, .int (nI 1)), (2, .int (nI 2)), (0, .ref 80), (1, .int (nI F))]) dX12_costOf_162 rfl (nI_1 i) (by decide) rfl ?_
        refine g_goto 18 dX12_costOf_165 (by decide) ?_
        refine zs_P.lv (ih (i + 1) (by omega) _ (hc.up (by omega) (by omega)) (fun j hj => ?_)) (by simp)
        by_cases e : j = i
        · subst e
          refine zs_up_q.trans (congrArg nI ?_)
          unfold zs_d1
          rw [if_pos (by omega)]
        · exact (zs_up_m (by omega)).trans (q1 j (by omega))
set_option maxRecDepth 100000 in
theorem z_costq (S : zs_S) (F i : Nat) (hi : i < 10) (q1 : zs_q1 S F 10) (Q : Option Value → zs_S → Prop) (hk : zs_P MX12_costOf 129 [(6, .int (nI 10)), (5, .int (nI (zs_ml F i 10))), (4, .int (nI i)), (3, .int (nI 0)), (2, .int (nI 2)), (0, .ref 80), (1, .int (nI F))] [] S Q) : ∀ (d q : Nat), q + d = 10 → zs_P MX12_costOf 58 [(6, .int (nI q)), (5, .int (nI (zs_ml F i q))), (4, .int (nI i)), (3, .int (nI 0)), (2, .int (nI 2)), (0, .ref 80), (1, .int (nI F))] [] S Q := by
  intro d
  induction d with
  | zero =>
    intro q hq
    obtain rfl : q = 10 := by omega
    refine g_iload dX12_costOf_58 rfl ?_
    refine g_bipush (v := (nI 10)) dX12_costOf_60 rfl ?_
    refine g_ic_geN 129 dX12_costOf_62 (by decide) (by omega) (by omega) (fun _ => ?_) (fun z => absurd z (by omega))
    exact hk
  | succ d ih =>
    intro q hq
    refine g_iload dX12_costOf_58 rfl ?_
    refine g_bipush (v := (nI 10)) dX12_costOf_60 rfl ?_
    refine g_ic_geN 129 dX12_costOf_62 (by decide) (by omega) (by omega) (fun z => absurd z (by omega)) (fun _ => ?_)
    have hml := zs_ml_le F i q
    have hd1 := zs_d1_le F q
    refine g_iload_n dX12_costOf_65 rfl rfl ?_
    refine g_iload_n dX12_costOf_66 rfl rfl ?_
    refine g_iconst (v := (nI 1)) dX12_costOf_67 rfl ?_
    refine g_isubN dX12_costOf_68 (by omega) ?_
    refine g_ic_geN 129 dX12_costOf_69 (by decide) (by omega) (by omega) (fun z => absurd z (by omega)) (fun _ => ?_)
    refine g_iload dX12_costOf_72 rfl ?_
    refine g_iload dX12_costOf_74 rfl ?_
    refine g_callS [.int (nI i), .int (nI q)] [] (z_apart S (i) (q) (by omega) (by omega)) dX12_costOf_76 kk_X12_costOf_X12_apart ml_RX12_46 swX12_apart rfl rfl (Nat.le_of_ble_eq_true rfl) ?_
    rintro _ _ ⟨_, rfl, rfl, rfl⟩
    have hap : zs_ap (i) (q) < 100 := by unfold zs_ap; split <;> omega
    refine g_iconst (v := (nI 2)) dX12_costOf_79 rfl ?_
    refine g_ic_geN 119 dX12_costOf_80 (by decide) (by omega) (by omega) (fun h1 => ?_) (fun h1 => ?_)
    · refine g_iload dX12_costOf_119 rfl ?_
      refine g_istore (lv' := [(5, .int (nI (zs_ml F i q))), (6, .int (nI q)), (4, .int (nI i)), (3, .int (nI 0)), (2, .int (nI 2)), (0, .ref 80), (1, .int (nI F))]) dX12_costOf_121 (by decide) rfl ?_
      refine g_iinc (v := (nI (q + 1))) (lv' := [(6, .int (nI (q + 1))), (5, .int (nI (zs_ml F i q))), (4, .int (nI i)), (3, .int (nI 0)), (2, .int (nI 2)), (0, .ref 80), (1, .int (nI F))]) dX12_costOf_123 rfl (nI_1 q) (by decide) rfl ?_
      refine g_goto 58 dX12_costOf_126 (by decide) ?_
      have e3 : zs_ml F i (q + 1) = zs_ml F i q := if_neg (fun z => absurd z.1 (by omega))
      have ih := ih (q + 1) (by omega)
      rw [e3] at ih
      exact ih.lv (by simp)
    · refine g_aload_n dX12_costOf_83 rfl rfl ?_
      refine g_getR 15 (86) (C := RX12) (T := TX12) (N := 19) dX12_costOf_84 (by decide) rfl rfl (by decide) rfl fl_RX12_30 ?_
      refine g_bipush (v := (nI 10)) dX12_costOf_87 rfl ?_
      refine g_iload_n dX12_costOf_89 rfl rfl ?_
      refine g_iconst (v := (nI 1)) dX12_costOf_90 rfl ?_
      refine g_iaddN dX12_costOf_91 ?_
      refine g_imulN dX12_costOf_92 ?_
      refine g_iload dX12_costOf_93 rfl ?_
      refine g_iaddN dX12_costOf_95 ?_
      refine g_ialdN (v := (nI (zs_d1 F q))) dX12_costOf_96 (by decide) rfl (by omega) (by decide) (q1 q (by omega)) ?_
      refine g_iload dX12_costOf_97 rfl ?_
      refine g_ic_geN 119 dX12_costOf_99 (by decide) (by omega) (by omega) (fun h2 => ?_) (fun h2 => ?_)
      · refine g_iload dX12_costOf_119 rfl ?_
        refine g_istore (lv' := [(5, .int (nI (zs_ml F i q))), (6, .int (nI q)), (4, .int (nI i)), (3, .int (nI 0)), (2, .int (nI 2)), (0, .ref 80), (1, .int (nI F))]) dX12_costOf_121 (by decide) rfl ?_
        refine g_iinc (v := (nI (q + 1))) (lv' := [(6, .int (nI (q + 1))), (5, .int (nI (zs_ml F i q))), (4, .int (nI i)), (3, .int (nI 0)), (2, .int (nI 2)), (0, .ref 80), (1, .int (nI F))]) dX12_costOf_123 rfl (nI_1 q) (by decide) rfl ?_
        refine g_goto 58 dX12_costOf_126 (by decide) ?_
        have e3 : zs_ml F i (q + 1) = zs_ml F i q := if_neg (fun z => absurd z.2 (by omega))
        have ih := ih (q + 1) (by omega)
        rw [e3] at ih
        exact ih.lv (by simp)
      · refine g_aload_n dX12_costOf_102 rfl rfl ?_
        refine g_getR 15 (86) (C := RX12) (T := TX12) (N := 19) dX12_costOf_103 (by decide) rfl rfl (by decide) rfl fl_RX12_30 ?_
        refine g_bipush (v := (nI 10)) dX12_costOf_106 rfl ?_
        refine g_iload_n dX12_costOf_108 rfl rfl ?_
        refine g_iconst (v := (nI 1)) dX12_costOf_109 rfl ?_
        refine g_iaddN dX12_costOf_110 ?_
        refine g_imulN dX12_costOf_111 ?_
        refine g_iload dX12_costOf_112 rfl ?_
        refine g_iaddN dX12_costOf_114 ?_
        refine g_ialdN (v := (nI (zs_d1 F q))) dX12_costOf_115 (by decide) rfl (by omega) (by decide) (q1 q (by omega)) ?_
        refine g_goto 121 dX12_costOf_116 (by decide) ?_
        refine g_istore (lv' := [(5, .int (nI (zs_d1 F q))), (6, .int (nI q)), (4, .int (nI i)), (3, .int (nI 0)), (2, .int (nI 2)), (0, .ref 80), (1, .int (nI F))]) dX12_costOf_121 (by decide) rfl ?_
        refine g_iinc (v := (nI (q + 1))) (lv' := [(6, .int (nI (q + 1))), (5, .int (nI (zs_d1 F q))), (4, .int (nI i)), (3, .int (nI 0)), (2, .int (nI 2)), (0, .ref 80), (1, .int (nI F))]) dX12_costOf_123 rfl (nI_1 q) (by decide) rfl ?_
        refine g_goto 58 dX12_costOf_126 (by decide) ?_
        have e3 : zs_ml F i (q + 1) = zs_d1 F q := if_pos ⟨by omega, by omega⟩
        have ih := ih (q + 1) (by omega)
        rw [e3] at ih
        exact ih.lv (by simp)
set_option maxRecDepth 100000 in
theorem z_cost0 (S0 : zs_S) (F1 : zs_F1 S0) (F : Nat) (hF : F < 10) (Q : Option Value → zs_S → Prop) (hk : ∀ S, zs_ch 86 87 S0 S → zs_q1 S F 10 → zs_q0 S F 10 → zs_P MX12_costOf 168 [(4, .int (nI 10)), (3, .int (nI 0)), (2, .int (nI 2)), (0, .ref 80), (1, .int (nI F))] [] S Q) : ∀ (d i : Nat), i + d = 10 → ∀ S, zs_ch 86 87 S0 S → zs_q1 S F 10 → zs_q0 S F i → zs_P MX12_costOf 18 [(4, .int (nI i)), (3, .int (nI 0)), (2, .int (nI 2)), (0, .ref 80), (1, .int (nI F))] [] S Q := by
  intro d
  induction d with
  | zero =>
    intro i hi S hc q1 q0
    obtain rfl : i = 10 := by omega
    refine g_iload dX12_costOf_18 rfl ?_
    refine g_bipush (v := (nI 10)) dX12_costOf_20 rfl ?_
    refine g_ic_geN 168 dX12_costOf_22 (by decide) (by omega) (by omega) (fun _ => ?_) (fun z => absurd z (by omega))
    exact hk S hc q1 q0
  | succ d ih =>
    intro i hi S hc q1 q0
    refine g_iload dX12_costOf_18 rfl ?_
    refine g_bipush (v := (nI 10)) dX12_costOf_20 rfl ?_
    refine g_ic_geN 168 dX12_costOf_22 (by decide) (by omega) (by omega) (fun z => absurd z (by omega)) (fun _ => ?_)
    refine g_iload_n dX12_costOf_25 rfl rfl ?_
    refine g_iload_n dX12_costOf_26 rfl rfl ?_
    refine g_iconst (v := (nI 1)) dX12_costOf_27 rfl ?_
    refine g_isubN dX12_costOf_28 (by omega) ?_
    refine g_ic_neN 51 dX12_costOf_29 (by decide) (by omega) (by omega) (fun _ => ?_) (fun z => absurd z (by omega))
    refine g_bipush (v := (nI 99)) dX12_costOf_51 rfl ?_
    refine g_istore (lv' := [(5, .int (nI 99)), (4, .int (nI i)), (3, .int (nI 0)), (2, .int (nI 2)), (0, .ref 80), (1, .int (nI F))]) dX12_costOf_53 (by decide) rfl ?_
    refine g_iconst (v := (nI 0)) dX12_costOf_55 rfl ?_
    refine g_istore (lv' := [(6, .int (nI 0)), (5, .int (nI 99)), (4, .int (nI i)), (3, .int (nI 0)), (2, .int (nI 2)), (0, .ref 80), (1, .int (nI F))]) dX12_costOf_56 (by decide) rfl ?_
    refine z_costq S F i (by omega) q1 _ ?_ 10 0 (by omega)
    have hoi := zs_own_le i
    have hml := zs_ml_le F i 10
    refine g_aload_n dX12_costOf_129 rfl rfl ?_
    refine g_getR 15 (86) (C := RX12) (T := TX12) (N := 19) dX12_costOf_130 (by decide) rfl rfl (by decide) rfl fl_RX12_30 ?_
    refine g_bipush (v := (nI 10)) dX12_costOf_133 rfl ?_
    refine g_iload_n dX12_costOf_135 rfl rfl ?_
    refine g_imulN dX12_costOf_136 ?_
    refine g_iload dX12_costOf_137 rfl ?_
    refine g_iaddN dX12_costOf_139 ?_
    refine g_iload dX12_costOf_140 rfl ?_
    refine g_aload_n dX12_costOf_142 rfl rfl ?_
    refine g_getR 0 (81) (C := RX12) (T := TX12) (N := 19) dX12_costOf_143 (by decide) rfl rfl (by decide) rfl fl_RX12_7 ?_
    refine g_iconst (v := (nI 3)) dX12_costOf_146 rfl ?_
    refine g_iload_n dX12_costOf_147 rfl rfl ?_
    refine g_iaddN dX12_costOf_148 ?_
    refine g_ialdN (v := (nI 0)) dX12_costOf_149 (by decide) rfl (by omega) (by decide) ((congrFun (hc 81 (by omega)).1 3).trans (congrFun (F1 81 (by decide)).1 3)) ?_
    refine g_iload dX12_costOf_150 rfl ?_
    refine g_ic_neN 159 dX12_costOf_152 (by decide) (by omega) (by omega) (fun h1 => ?_) (fun h1 => ?_)
    · refine g_iconst (v := (nI 1)) dX12_costOf_159 rfl ?_
      refine zs_Ptop (y := nI (zs_own i)) (by unfold zs_own; rw [if_neg (fun e => h1 e.symm)]) ?_
      refine g_iaddN dX12_costOf_160 ?_
      refine g_iastN dX12_costOf_161 (by decide) rfl (by omega) (by decide) ?_
      refine g_iinc (v := (nI (i + 1))) (lv' := [(4, .int (nI (i + 1))), (6, .int (nI 10)), (5, .int (nI (zs_ml F i 10))), (3, .int (nI 0)), (2, .int (nI 2)), (0, .ref 80), (1, .int (nI F))]) dX12_costOf_162 rfl (nI_1 i) (by decide) rfl ?_
      refine g_goto 18 dX12_costOf_165 (by decide) ?_
      refine zs_P.lv (ih (i + 1) (by omega) _ (hc.up (by omega) (by omega)) (fun j hj => (zs_up_m (by omega)).trans (q1 j hj)) (fun j hj => ?_)) (by simp)
      by_cases e : j = i
      · subst e
        rw [show 10 * 0 + j = 10 * 0 + j from rfl]
        exact zs_up_q
      · exact (zs_up_m (by omega)).trans (q0 j (by omega))
    · refine g_iconst (v := (nI 0)) dX12_costOf_155 rfl ?_
      refine g_goto 160 dX12_costOf_156 (by decide) ?_
      refine zs_Ptop (y := nI (zs_own i)) (by unfold zs_own; rw [if_pos h1.symm]) ?_
      refine g_iaddN dX12_costOf_160 ?_
      refine g_iastN dX12_costOf_161 (by decide) rfl (by omega) (by decide) ?_
      refine g_iinc (v := (nI (i + 1))) (lv' := [(4, .int (nI (i + 1))), (6, .int (nI 10)), (5, .int (nI (zs_ml F i 10))), (3, .int (nI 0)), (2, .int (nI 2)), (0, .ref 80), (1, .int (nI F))]) dX12_costOf_162 rfl (nI_1 i) (by decide) rfl ?_
      refine g_goto 18 dX12_costOf_165 (by decide) ?_
      refine zs_P.lv (ih (i + 1) (by omega) _ (hc.up (by omega) (by omega)) (fun j hj => (zs_up_m (by omega)).trans (q1 j hj)) (fun j hj => ?_)) (by simp)
      by_cases e : j = i
      · subst e
        rw [show 10 * 0 + j = 10 * 0 + j from rfl]
        exact zs_up_q
      · exact (zs_up_m (by omega)).trans (q0 j (by omega))
set_option maxRecDepth 100000 in
theorem z_costOf (S0 S : zs_S) (F1 : zs_F1 S0) (F : Nat) (hF : F < 10) (hc : zs_ch 86 87 S0 S) : zs_Ci MX12_costOf [.ref 80, .int (nI F)] S (fun x S2 => x = nI (zs_d0 F F) ∧ zs_ch 86 87 S0 S2 ∧ zs_q1 S2 F 10 ∧ zs_q0 S2 F 10) := by
  refine zs_C.of (by decide) (Nat.le_of_ble_eq_true rfl) ?_
  show zs_P MX12_costOf 0 [(0, .ref 80), (1, .int (nI F))] [] S _
  refine g_aload_n dX12_costOf_0 rfl rfl ?_
  refine g_getR 1 (82) (C := RX12) (T := TX12) (N := 19) dX12_costOf_1 (by decide) rfl rfl (by decide) rfl fl_RX12_13 ?_
  refine g_iconst (v := (nI 0)) dX12_costOf_4 rfl ?_
  refine g_ialdN (v := (nI 2)) dX12_costOf_5 (by decide) rfl (by omega) (by decide) ((congrFun (hc 82 (by omega)).1 0).trans (congrFun (F1 82 (by decide)).1 0)) ?_
  refine g_istore_n (lv' := [(2, .int (nI 2)), (0, .ref 80), (1, .int (nI F))]) dX12_costOf_6 rfl (by decide) rfl ?_
  refine g_iload_n dX12_costOf_7 rfl rfl ?_
  refine g_iconst (v := (nI 1)) dX12_costOf_8 rfl ?_
  refine g_isubN dX12_costOf_9 (by omega) ?_
  refine g_istore_n (lv' := [(3, .int (nI 1)), (2, .int (nI 2)), (0, .ref 80), (1, .int (nI F))]) dX12_costOf_10 rfl (by decide) rfl ?_
  refine g_iload_n dX12_costOf_11 rfl rfl ?_
  refine g_if_ltN 174 dX12_costOf_12 (by decide) (by omega) ?_
  refine g_iconst (v := (nI 0)) dX12_costOf_15 rfl ?_
  refine g_istore (lv' := [(4, .int (nI 0)), (3, .int (nI 1)), (2, .int (nI 2)), (0, .ref 80), (1, .int (nI F))]) dX12_costOf_16 (by decide) rfl ?_
  refine (z_cost1 S0 F1 F hF _ (fun S1 h1 h2 => ?_) 10 0 (by omega) S hc (fun j hj => absurd hj (by omega))).lv (by simp)
  refine g_iinc (v := (nI (1 - 1))) (lv' := [(3, .int (nI (1 - 1))), (4, .int (nI 10)), (2, .int (nI 2)), (0, .ref 80), (1, .int (nI F))]) dX12_costOf_168 rfl (sb_m1 (by omega)) (by decide) rfl ?_
  refine g_goto 11 dX12_costOf_171 (by decide) ?_
  refine g_iload_n dX12_costOf_11 rfl rfl ?_
  refine g_if_ltN 174 dX12_costOf_12 (by decide) (by omega) ?_
  refine g_iconst (v := (nI 0)) dX12_costOf_15 rfl ?_
  refine g_istore (lv' := [(4, .int (nI 0)), (3, .int (nI (1 - 1))), (2, .int (nI 2)), (0, .ref 80), (1, .int (nI F))]) dX12_costOf_16 (by decide) rfl ?_
  refine (z_cost0 S0 F1 F hF _ (fun S3 h3 h4 h5 => ?_) 10 0 (by omega) S1 h1 h2 (fun j hj => absurd hj (by omega))).lv (by simp)
  refine g_iinc (v := (-1)) (lv' := [(3, .int (-1)), (4, .int (nI 10)), (2, .int (nI 2)), (0, .ref 80), (1, .int (nI F))]) dX12_costOf_168 rfl (by decide) (by decide) rfl ?_
  refine g_goto 11 dX12_costOf_171 (by decide) ?_
  refine g_iload_n dX12_costOf_11 rfl rfl ?_
  refine g_if_lt 174 dX12_costOf_12 (by decide) (fun _ => ?_) (fun z => absurd (show (-1 : Int32) < 0 by decide) z)
  refine g_aload_n dX12_costOf_174 rfl rfl ?_
  refine g_getR 15 (86) (C := RX12) (T := TX12) (N := 19) dX12_costOf_175 (by decide) rfl rfl (by decide) rfl fl_RX12_30 ?_
  refine g_iload_n dX12_costOf_178 rfl rfl ?_
  refine g_ialdN (v := (nI (zs_d0 F F))) dX12_costOf_179 (by decide) rfl (by omega) (by decide) ((congrArg (S3.1 86) (show F = 10 * 0 + F by omega)).trans (h5 F hF)) ?_
  refine g_iret dX12_costOf_180 rfl rfl ?_
  exact ⟨_, rfl, rfl, h3, h4, h5⟩
