theorem g_ldcw {M : zs_M} {pc : Nat} {lv : List (Nat × Value)} {st : List Value} {S : zs_S} {Q : Option Value → zs_S → Prop} {i : Nat} {v : Int32} (hd : decode M.2.1 pc = .ok (.ldc_w i, 3)) (hw : Cond.constant M.1.cls i v ∈ zs_tbl) (k : zs_P M (pc + 3) lv (.int v :: st) S Q) : zs_P M pc lv (st) S Q := let ⟨r, g, q⟩ := k; ⟨r, fun p l e s m args below meth c E H locs ls B hZ hP hS hl => lv_ldcw B.1 B.2.1 B.2.2.2.2.1 (B.2.2.2.2.2.1 _ hw) hd (g p l e s m args below meth c E H locs ls B hZ hP hS hl), q⟩
theorem cl_RX11_290 : Cond.constant RX11 290 (999999) ∈ zs_tbl := zs_in 970 (by decide +kernel) rfl
theorem zs_Ptop {M : zs_M} {pc : Nat} {lv : List (Nat × Value)} {st : List Value} {S : zs_S} {Q : Option Value → zs_S → Prop} {x y : Int32} (e : x = y) (k : zs_P M pc lv (.int y :: st) S Q) : zs_P M pc lv (.int x :: st) S Q := e ▸ k
theorem zs_lcg {v : Nat} (hv : v < 2147483648) : (lN v * 1103515245 + 12345) - (lN v * 1103515245 + 12345) / 2147483648 * 2147483648 = lN ((v * 1103515245 + 12345) % 2147483648) := by
  have e1 : (1103515245 : Int64) = lN 1103515245 := by decide
  have e2 : (12345 : Int64) = lN 12345 := by decide
  have e3 : (2147483648 : Int64) = lN 2147483648 := by decide
  rw [e1, e2, e3, lN_mul, lN_add]
  exact pk_lRem (by omega) (by omega) (by omega)
theorem zs_stp {v : Nat} (hv : v < 2147483648) : (lN v / 65536 - lN v / 65536 / 12 * 12).toInt32 = nI (v / 65536 % 12) := by
  have e1 : (65536 : Int64) = lN 65536 := by decide
  have e2 : (12 : Int64) = lN 12 := by decide
  rw [e1, e2, pk_lDiv (by omega) (by omega) (by omega), pk_lRem (by omega) (by omega) (by omega)]
  exact lN_i _
set_option maxRecDepth 100000 in
theorem v_nights_l (S0 : zs_S) (F : zs_F0 S0) (n : Nat) (hn : n ≤ 60) (z : Int32) (Q : Option Value → zs_S → Prop) (hq : ∀ S, zs_ch 63 67 S0 S → Q (some (.int (nI 0))) S) : ∀ (d i : Nat), i + d = n → ∀ v, v < 2147483648 → ∀ f, f < 2 → ∀ s S, zs_tr S0 S f i s → zs_P MX11_nights 48 [(5, .int (nI i)), (3, .long (lN v)), (0, .ref 0), (1, .int z), (2, .int (nI n))] [] S Q := by
  intro d
  induction d with
  | zero =>
    intro i hi v hv f hf s S h
    obtain rfl : i = n := by omega
    refine g_iload dX11_nights_48 rfl ?_
    refine g_iload_n dX11_nights_50 rfl rfl ?_
    refine g_ic_geN 102 dX11_nights_51 (by decide) (by omega) (by omega) (fun _ => ?_) (fun z => absurd z (by omega))
    refine g_aload_n dX11_nights_102 rfl rfl ?_
    refine g_getR 0 (1) (C := RX11) (T := TX11) (N := 18) dX11_nights_103 (by decide) rfl rfl (by decide) rfl fl_RX11_10 ?_
    refine g_aload_n dX11_nights_106 rfl rfl ?_
    refine g_getR 11 (63) (C := RX11) (T := TX11) (N := 18) dX11_nights_107 (by decide) rfl rfl (by decide) rfl fl_RX11_36 ?_
    refine g_callV (T := TX6) (NN := 9) [] (v_moves63 S ((congrFun (h.1 1 (by omega)).1 2).trans (congrFun (F 1 (by decide)).1 2))) dX11_nights_110 kk_X11_nights_X6_movesTogether ml_RX11_301 mwX6_movesTogether ewX6_movesTogether (by decide) rfl rfl rfl rfl (Nat.le_of_ble_eq_true rfl) ?_
    rintro _ _ ⟨_, rfl, rfl, rfl⟩
    refine g_iret dX11_nights_113 rfl rfl ?_
    exact hq S h.1
  | succ d ih =>
    intro i hi v hv f hf s S h
    refine g_iload dX11_nights_48 rfl ?_
    refine g_iload_n dX11_nights_50 rfl rfl ?_
    refine g_ic_geN 102 dX11_nights_51 (by decide) (by omega) (by omega) (fun z => absurd z (by omega)) (fun _ => ?_)
    refine g_lload_n dX11_nights_54 rfl rfl ?_
    refine g_ldc2 (v := 1103515245) dX11_nights_55 cl_RX11_291 ?_
    refine g_lmul dX11_nights_58 ?_
    refine g_ldc2 (v := 12345) dX11_nights_59 cl_RX11_293 ?_
    refine g_ladd dX11_nights_62 ?_
    refine g_ldc2 (v := 2147483648) dX11_nights_63 cl_RX11_295 ?_
    refine g_lrem dX11_nights_66 (by decide) ?_
    rw [zs_lcg hv]
    obtain ⟨v2, hv2, ev2⟩ : ∃ v2, v2 < 2147483648 ∧ v2 = (v * 1103515245 + 12345) % 2147483648 := ⟨_, Nat.mod_lt _ (by decide), rfl⟩
    rw [← ev2]
    refine g_lstore_n (lv' := [(3, .long (lN v2)), (5, .int (nI i)), (0, .ref 0), (1, .int z), (2, .int (nI n))]) dX11_nights_67 rfl (by decide) rfl ?_
    refine g_aload_n dX11_nights_68 rfl rfl ?_
    refine g_getR 11 (63) (C := RX11) (T := TX11) (N := 18) dX11_nights_69 (by decide) rfl rfl (by decide) rfl fl_RX11_36 ?_
    refine g_lload_n dX11_nights_72 rfl rfl ?_
    refine g_ldc2 (v := 65536) dX11_nights_73 cl_RX11_297 ?_
    refine g_ldiv dX11_nights_76 (by decide) ?_
    refine g_ldc2 (v := 12) dX11_nights_77 cl_RX11_299 ?_
    refine g_lrem dX11_nights_80 (by decide) ?_
    refine g_l2i dX11_nights_81 rfl ?_
    rw [zs_stp hv2]
    obtain ⟨s2, hs2, es2⟩ : ∃ s2, s2 < 12 ∧ s2 = v2 / 65536 % 12 := ⟨_, Nat.mod_lt _ (by decide), rfl⟩
    rw [← es2]
    refine g_putI 2 (C := RX3) (T := TX3) (N := 6) (ty := .int) dX11_nights_82 (by decide) rfl rfl (by decide) rfl fl_RX11_153 rfl (by decide +kernel) ⟨rfl, rfl⟩ ?_
    refine g_aload_n dX11_nights_85 rfl rfl ?_
    refine g_getR 0 (1) (C := RX11) (T := TX11) (N := 18) dX11_nights_86 (by decide) rfl rfl (by decide) rfl fl_RX11_10 ?_
    refine g_aload_n dX11_nights_89 rfl rfl ?_
    refine g_getR 11 (63) (C := RX11) (T := TX11) (N := 18) dX11_nights_90 (by decide) rfl rfl (by decide) rfl fl_RX11_36 ?_
    refine g_callV (T := TX6) (NN := 9) [] (v_flash_tr S0 (zs_up S.1 63 2 (nI s2), S.2) F f i s2 hf (by omega) hs2 ⟨h.1.up (by omega) (by omega), (zs_up_m (by decide)).trans h.2.1, (zs_up_m (by decide)).trans h.2.2.1, zs_up_q, fun j hj => (zs_up_m (by omega)).trans (h.2.2.2.2 j hj)⟩) dX11_nights_93 kk_X11_nights_X6_flash ml_RX11_201 mwX6_flash ewX6_flash (by decide) rfl rfl rfl rfl (Nat.le_of_ble_eq_true rfl) ?_
    rintro _ S2 ⟨rfl, h2⟩
    refine g_iinc (v := (nI (i + 1))) (lv' := [(5, .int (nI (i + 1))), (3, .long (lN v2)), (0, .ref 0), (1, .int z), (2, .int (nI n))]) dX11_nights_96 rfl (nI_1 i) (by decide) rfl ?_
    refine g_goto 48 dX11_nights_99 (by decide) ?_
    exact ih (i + 1) (by omega) v2 hv2 ((f + s2) % 2) (Nat.mod_lt _ (by decide)) s2 S2 h2
set_option maxRecDepth 100000 in
theorem t_nights (S : zs_S) (F : zs_F0 S) (z n : Int32) : zs_Ci MX11_nights [.ref 0, .int z, .int n] S (fun x S2 => x = zs_if ((nI 0 ≤ z ∧ z ≤ nI 999999) ∧ (nI 0 ≤ n ∧ n ≤ nI 60)) (nI 0) (-2) ∧ zs_ch 0 80 S S2) := by
  refine zs_C.of (by decide) (Nat.le_of_ble_eq_true rfl) ?_
  show zs_P MX11_nights 0 [(0, .ref 0), (1, .int z), (2, .int n)] [] S _
  refine g_iload_n dX11_nights_0 rfl rfl ?_
  refine g_iconst (v := (nI 0)) dX11_nights_1 rfl ?_
  refine g_ldcw (v := (nI 999999)) dX11_nights_2 cl_RX11_290 ?_
  refine g_callS [.int z, .int (nI 0), .int (nI 999999)] [] (x_within S z (nI 0) (nI 999999)) dX11_nights_5 kk_X11_nights_X11_within ml_RX11_75 swX11_within rfl rfl (Nat.le_of_ble_eq_true rfl) ?_
  rintro _ _ ⟨_, rfl, rfl, rfl⟩
  refine g_if_eq 21 dX11_nights_8 (by decide) (fun h1 => ?_) (fun h1 => ?_)
  · have h1 := zs_b0 h1
    refine g_aload_n dX11_nights_21 rfl rfl ?_
    refine g_bipush (v := (-2)) dX11_nights_22 rfl ?_
    refine g_callV (T := TX11) (NN := 18) [] (x_refuseBad S (-2)) dX11_nights_24 kk_X11_nights_X11_refuseBad ml_RX11_86 mwX11_refuseBad ewX11_refuseBad (by decide) rfl rfl rfl rfl (Nat.le_of_ble_eq_true rfl) ?_
    rintro _ _ ⟨_, rfl, rfl, rfl⟩
    refine g_iret dX11_nights_27 rfl rfl ?_
    exact ⟨_, rfl, (zs_ie (fun q => h1 q.1)).symm, (zs_ch.rf.up (by omega) (by omega))⟩
  · have h1 := zs_b1 h1
    obtain ⟨z', z'a, z'b, rfl⟩ := zs_rng h1 (by omega)
    refine g_iload_n dX11_nights_11 rfl rfl ?_
    refine g_iconst (v := (nI 0)) dX11_nights_12 rfl ?_
    refine g_bipush (v := (nI 60)) dX11_nights_13 rfl ?_
    refine g_callS [.int n, .int (nI 0), .int (nI 60)] [] (x_within S n (nI 0) (nI 60)) dX11_nights_15 kk_X11_nights_X11_within ml_RX11_75 swX11_within rfl rfl (Nat.le_of_ble_eq_true rfl) ?_
    rintro _ _ ⟨_, rfl, rfl, rfl⟩
    refine g_if_ne 28 dX11_nights_18 (by decide) (fun h2 => ?_) (fun h2 => ?_)
    · have h2 := zs_b1 h2
      obtain ⟨n', n'a, n'b, rfl⟩ := zs_rng h2 (by omega)
      refine g_aload_n dX11_nights_28 rfl rfl ?_
      refine g_aload_n dX11_nights_29 rfl rfl ?_
      refine g_getR 0 (1) (C := RX11) (T := TX11) (N := 18) dX11_nights_30 (by decide) rfl rfl (by decide) rfl fl_RX11_10 ?_
      refine g_getR 4 (3) (C := RX6) (T := TX6) (N := 9) dX11_nights_33 (by decide) rfl rfl (by decide) rfl fl_RX11_137 ?_
      refine g_getV 2 (C := RX3) (T := TX3) (N := 6) (v := (nI 1)) dX11_nights_36 (by decide) rfl rfl (by decide) rfl fl_RX11_153 (congrFun (F 3 (by decide)).1 2) ?_
      refine g_callV (T := TX11) (NN := 18) [] (v_start S S F 1 zs_ch.rf) dX11_nights_39 kk_X11_nights_X11_startTrial ml_RX11_198 mwX11_startTrial ewX11_startTrial (by decide) rfl rfl rfl rfl (Nat.le_of_ble_eq_true rfl) ?_
      rintro _ S1 ⟨rfl, t1⟩
      refine g_iload_n dX11_nights_42 rfl rfl ?_
      refine g_i2l dX11_nights_43 rfl ?_
      rw [nI_l (by omega)]
      refine g_lstore_n (lv' := [(3, .long (lN z')), (0, .ref 0), (1, .int (nI z')), (2, .int (nI n'))]) dX11_nights_44 rfl (by decide) rfl ?_
      refine g_iconst (v := (nI 0)) dX11_nights_45 rfl ?_
      refine g_istore (lv' := [(5, .int (nI 0)), (3, .long (lN z')), (0, .ref 0), (1, .int (nI z')), (2, .int (nI n'))]) dX11_nights_46 (by decide) rfl ?_
      exact v_nights_l S F n' (by omega) _ _ (fun S2 h3 => ⟨_, rfl, (zs_it ⟨h1, h2⟩).symm, h3.wide (by decide) (by decide)⟩) n' 0 (by omega) z' (by omega) 0 (by decide) 1 S1 t1
    · have h2 := zs_b0 h2
      refine g_aload_n dX11_nights_21 rfl rfl ?_
      refine g_bipush (v := (-2)) dX11_nights_22 rfl ?_
      refine g_callV (T := TX11) (NN := 18) [] (x_refuseBad S (-2)) dX11_nights_24 kk_X11_nights_X11_refuseBad ml_RX11_86 mwX11_refuseBad ewX11_refuseBad (by decide) rfl rfl rfl rfl (Nat.le_of_ble_eq_true rfl) ?_
      rintro _ _ ⟨_, rfl, rfl, rfl⟩
      refine g_iret dX11_nights_27 rfl rfl ?_
      exact ⟨_, rfl, (zs_ie (fun q => h2 q.2)).symm, (zs_ch.rf.up (by omega) (by omega))⟩
def zs_own (j : Nat) : Nat := if j = 0 then 0 else 1
def zs_clo (d f : Nat) : Nat := if d ≤ f + 1 ∧ f ≤ d + 1 then 0 else 1000000
def zs_c1 (f j : Nat) : Nat := min 1000000 (zs_own j + zs_clo j f)
def zs_bb (g : Nat → Nat) (j : Nat) : Nat := if j = 0 then (if g 1 < g 0 then 1 else 0) else if j = 9 then (if g 9 < g 8 then 9 else 8) else if g (j + 1) < g (if g j < g (j - 1) then j else j - 1) then j + 1 else (if g j < g (j - 1) then j else j - 1)
def zs_c0 (f j : Nat) : Nat := min 1000000 (zs_own j + zs_c1 f (zs_bb (zs_c1 f) j))
theorem zs_c1_le (f j : Nat) : zs_c1 f j ≤ 1000000 := by unfold zs_c1; omega
theorem zs_bb_lt (g : Nat → Nat) {j : Nat} (h : j < 10) : zs_bb g j < 10 := by
  unfold zs_bb
  repeat' split
  all_goals omega
theorem zs_sub_abs {x y : Nat} (hx : x < 2 ^ 30) (hy : y < 2 ^ 30) : (0 ≤ nI x - nI y ↔ y ≤ x) ∧ (y ≤ x → nI x - nI y = nI (x - y)) ∧ (x ≤ y → -(nI x - nI y) = nI (y - x)) := by
  refine ⟨?_, fun h => pk_sub h, fun h => ?_⟩
  · rw [Int32.le_iff_toInt_le, pk_sub_toInt hx hy, show (0 : Int32).toInt = 0 from rfl]
    omega
  · rw [Int32.neg_sub, pk_sub h]
set_option maxRecDepth 100000 in
theorem x_cost (S : zs_S) (f d : Nat) (hf : f < 2) (hd : d < 10) : zs_Ci MX8_cost [.ref 67, .int (nI f), .int (nI d)] S (fun x S2 => x = S.1 68 (f * 10 + d) ∧ S = S2) := by
  refine zs_C.of (by decide) (Nat.le_of_ble_eq_true rfl) ?_
  show zs_P MX8_cost 0 [(0, .ref 67), (1, .int (nI f)), (2, .int (nI d))] [] S _
  refine g_aload_n dX8_cost_0 rfl rfl ?_
  refine g_getR 0 (68) (C := RX8) (T := TX8) (N := 3) dX8_cost_1 (by decide) rfl rfl (by decide) rfl fl_RX8_9 ?_
  refine g_iload_n dX8_cost_4 rfl rfl ?_
  refine g_bipush (v := (nI 10)) dX8_cost_5 rfl ?_
  refine g_imulN dX8_cost_7 ?_
  refine g_iload_n dX8_cost_8 rfl rfl ?_
  refine g_iaddN dX8_cost_9 ?_
  refine g_callN [.ref 68, .int (nI ((f * 10) + d))] [] (x_cell S 68 120 (nI ((f * 10) + d)) (by decide) rfl (by decide)) dX8_cost_10 kk_X8_cost_X11_cell nl_RX8_34 swX11_cell rfl rfl (Nat.le_of_ble_eq_true rfl) ?_
  rintro _ _ ⟨_, rfl, rfl, rfl⟩
  refine g_iret dX8_cost_13 rfl rfl ?_
  exact ⟨_, rfl, zs_ce_nI (by omega) (by decide), rfl⟩
set_option maxRecDepth 100000 in
theorem x_absD (S : zs_S) (x y : Nat) (hx : x < 2 ^ 30) (hy : y < 2 ^ 30) : zs_Ci MJ9_abs_0f7a4 [.int (nI x - nI y)] S (fun z S2 => z = nI (if y ≤ x then x - y else y - x) ∧ S = S2) := by
  refine zs_CF (by decide +kernel) (Nat.le_of_ble_eq_true rfl) ?_
  show zs_P MJ9_abs_0f7a4 0 [(0, .int (nI x - nI y))] [] S _
  refine g_iload_n dJ9_abs_0f7a4_0 rfl rfl ?_
  refine g_if_ge 9 dJ9_abs_0f7a4_1 (by decide) (fun h1 => ?_) (fun h1 => ?_)
  · refine g_iload_n dJ9_abs_0f7a4_9 rfl rfl ?_
    refine g_iret dJ9_abs_0f7a4_10 rfl rfl ?_
    exact ⟨_, rfl, ((zs_sub_abs hx hy).2.1 ((zs_sub_abs hx hy).1.mp h1)).trans (by rw [if_pos ((zs_sub_abs hx hy).1.mp h1)]), rfl⟩
  · refine g_iload_n dJ9_abs_0f7a4_4 rfl rfl ?_
    refine g_ineg dJ9_abs_0f7a4_5 ?_
    refine g_goto 10 dJ9_abs_0f7a4_6 (by decide) ?_
    refine g_iret dJ9_abs_0f7a4_10 rfl rfl ?_
    exact ⟨_, rfl, ((zs_sub_abs hx hy).2.2 (by have := mt (zs_sub_abs hx hy).1.mpr h1; omega)).trans (by rw [if_neg (mt (zs_sub_abs hx hy).1.mpr h1)]), rfl⟩
set_option maxRecDepth 100000 in
theorem x_closing (S : zs_S) (x y : Nat) (hx : x < 10) (hy : y < 10) : zs_Ci MX8_closing [.int (nI x), .int (nI y)] S (fun z S2 => z = nI (zs_clo x y) ∧ S = S2) := by
  refine zs_C.of (by decide) (Nat.le_of_ble_eq_true rfl) ?_
  show zs_P MX8_closing 0 [(0, .int (nI x)), (1, .int (nI y))] [] S _
  have hb : (if y ≤ x then x - y else y - x) < 10 := by split <;> omega
  refine g_iload_n dX8_closing_0 rfl rfl ?_
  refine g_iload_n dX8_closing_1 rfl rfl ?_
  refine g_isub dX8_closing_2 ?_
  refine g_callS [.int (nI x - nI y)] [] (x_absD S x y (by omega) (by omega)) dX8_closing_3 kk_X8_closing_J9_abs_0f7a4 ml_RX8_49 swJ9_abs_0f7a4 rfl rfl (Nat.le_of_ble_eq_true rfl) ?_
  rintro _ _ ⟨_, rfl, rfl, rfl⟩
  refine g_iconst (v := (nI 1)) dX8_closing_6 rfl ?_
  refine g_ic_gtN 14 dX8_closing_7 (by decide) (by omega) (by omega) (fun h1 => ?_) (fun h1 => ?_)
  · refine g_ldc (v := (nI 1000000)) dX8_closing_14 cl_RX8_18 ?_
    refine g_iret dX8_closing_16 rfl rfl ?_
    exact ⟨_, rfl, by unfold zs_clo; congr 1; split at h1 <;> split <;> omega, rfl⟩
  · refine g_iconst (v := (nI 0)) dX8_closing_10 rfl ?_
    refine g_goto 16 dX8_closing_11 (by decide) ?_
    refine g_iret dX8_closing_16 rfl rfl ?_
    exact ⟨_, rfl, by unfold zs_clo; congr 1; split at h1 <;> split <;> omega, rfl⟩
theorem x_costg (S : zs_S) (g : Nat → Nat) (hg : ∀ j, j < 10 → S.1 68 (1 * 10 + j) = nI (g j)) (d : Nat) (hd : d < 10) : zs_Ci MX8_cost [.ref 67, .int (nI 1), .int (nI d)] S (fun x S2 => x = nI (g d) ∧ S = S2) := (x_cost S 1 d (by decide) hd).mono (by
  rintro _ _ ⟨x, rfl, rfl, rfl⟩
  exact ⟨_, rfl, hg d hd, rfl⟩)
set_option maxRecDepth 100000 in
theorem x_max0 (S : zs_S) : zs_Ci MJ9_max_7cf53 [.int (nI 0), .int (nI 0 - nI 1)] S (fun z S2 => z = nI 0 ∧ S = S2) := by
  refine zs_CF (by decide +kernel) (Nat.le_of_ble_eq_true rfl) ?_
  show zs_P MJ9_max_7cf53 0 [(0, .int (nI 0)), (1, .int (nI 0 - nI 1))] [] S _
  refine g_iload_n dJ9_max_7cf53_0 rfl rfl ?_
  refine g_iload_n dJ9_max_7cf53_1 rfl rfl ?_
  refine g_ic_lt 9 dJ9_max_7cf53_2 (by decide) (fun z => absurd z (by decide)) (fun _ => ?_)
  refine g_iload_n dJ9_max_7cf53_5 rfl rfl ?_
  refine g_goto 10 dJ9_max_7cf53_6 (by decide) ?_
  refine g_iret dJ9_max_7cf53_10 rfl rfl ?_
  exact ⟨_, rfl, rfl, rfl⟩
set_option maxRecDepth 100000 in
theorem x_bb0 (S : zs_S) (g : Nat → Nat) (hb : ∀ j, g j < 2 ^ 30) (hg : ∀ j, j < 10 → S.1 68 (1 * 10 + j) = nI (g j)) : zs_Ci MX8_bestBeside [.ref 67, .int (nI 1), .int (nI 0)] S (fun x S2 => x = nI (zs_bb g 0) ∧ S = S2) := by
  refine zs_C.of (by decide) (Nat.le_of_ble_eq_true rfl) ?_
  show zs_P MX8_bestBeside 0 [(0, .ref 67), (1, .int (nI 1)), (2, .int (nI 0))] [] S _
  have b0 := hb 0
  have b1 := hb (0 + 1)
  refine g_iconst (v := (nI 0)) dX8_bestBeside_0 rfl ?_
  refine g_iload_n dX8_bestBeside_1 rfl rfl ?_
  refine g_iconst (v := (nI 1)) dX8_bestBeside_2 rfl ?_
  refine g_isub dX8_bestBeside_3 ?_
  refine g_callS [.int (nI 0), .int (nI 0 - nI 1)] [] (x_max0 S) dX8_bestBeside_4 kk_X8_bestBeside_J9_max_7cf53 ml_RX8_53 swJ9_max_7cf53 rfl rfl (Nat.le_of_ble_eq_true rfl) ?_
  rintro _ _ ⟨_, rfl, rfl, rfl⟩
  refine g_istore_n (lv' := [(3, .int (nI 0)), (0, .ref 67), (1, .int (nI 1)), (2, .int (nI 0))]) dX8_bestBeside_7 rfl (by decide) rfl ?_
  refine g_iload_n dX8_bestBeside_8 rfl rfl ?_
  refine g_istore (lv' := [(4, .int (nI 0)), (3, .int (nI 0)), (0, .ref 67), (1, .int (nI 1)), (2, .int (nI 0))]) dX8_bestBeside_9 (by decide) rfl ?_
  refine g_iload_n dX8_bestBeside_11 rfl rfl ?_
  refine g_istore (lv' := [(5, .int (nI 0)), (4, .int (nI 0)), (3, .int (nI 0)), (0, .ref 67), (1, .int (nI 1)), (2, .int (nI 0))]) dX8_bestBeside_12 (by decide) rfl ?_
  refine g_iload dX8_bestBeside_14 rfl ?_
  refine g_iload_n dX8_bestBeside_16 rfl rfl ?_
  refine g_iconst (v := (nI 1)) dX8_bestBeside_17 rfl ?_
  refine g_iaddN dX8_bestBeside_18 ?_
  refine g_ic_gtN 56 dX8_bestBeside_19 (by decide) (by omega) (by omega) (fun z => absurd z (by omega)) (fun _ => ?_)
  refine g_iload dX8_bestBeside_22 rfl ?_
  refine g_bipush (v := (nI 10)) dX8_bestBeside_24 rfl ?_
  refine g_ic_geN 56 dX8_bestBeside_26 (by decide) (by omega) (by omega) (fun z => absurd z (by omega)) (fun _ => ?_)
  refine g_aload_n dX8_bestBeside_29 rfl rfl ?_
  refine g_iload_n dX8_bestBeside_30 rfl rfl ?_
  refine g_iload dX8_bestBeside_31 rfl ?_
  refine g_callV (T := TX8) (NN := 3) [] (x_costg S g hg (0) (by omega)) dX8_bestBeside_33 kk_X8_bestBeside_X8_cost ml_RX8_27 mwX8_cost ewX8_cost (by decide) rfl rfl rfl rfl (Nat.le_of_ble_eq_true rfl) ?_
  rintro _ _ ⟨_, rfl, rfl, rfl⟩
  refine g_aload_n dX8_bestBeside_36 rfl rfl ?_
  refine g_iload_n dX8_bestBeside_37 rfl rfl ?_
  refine g_iload dX8_bestBeside_38 rfl ?_
  refine g_callV (T := TX8) (NN := 3) [.int (nI (g 0))] (x_costg S g hg (0) (by omega)) dX8_bestBeside_40 kk_X8_bestBeside_X8_cost ml_RX8_27 mwX8_cost ewX8_cost (by decide) rfl rfl rfl rfl (Nat.le_of_ble_eq_true rfl) ?_
  rintro _ _ ⟨_, rfl, rfl, rfl⟩
  refine g_ic_geN 50 dX8_bestBeside_43 (by decide) (by omega) (by omega) (fun _ => ?_) (fun z => absurd z (by omega))
  refine g_iinc (v := (nI (0 + 1))) (lv' := [(5, .int (nI (0 + 1))), (4, .int (nI 0)), (3, .int (nI 0)), (0, .ref 67), (1, .int (nI 1)), (2, .int (nI 0))]) dX8_bestBeside_50 rfl (nI_1 0) (by decide) rfl ?_
  refine g_goto 14 dX8_bestBeside_53 (by decide) ?_
  refine g_iload dX8_bestBeside_14 rfl ?_
  refine g_iload_n dX8_bestBeside_16 rfl rfl ?_
  refine g_iconst (v := (nI 1)) dX8_bestBeside_17 rfl ?_
  refine g_iaddN dX8_bestBeside_18 ?_
  refine g_ic_gtN 56 dX8_bestBeside_19 (by decide) (by omega) (by omega) (fun z => absurd z (by omega)) (fun _ => ?_)
  refine g_iload dX8_bestBeside_22 rfl ?_
  refine g_bipush (v := (nI 10)) dX8_bestBeside_24 rfl ?_
  refine g_ic_geN 56 dX8_bestBeside_26 (by decide) (by omega) (by omega) (fun z => absurd z (by omega)) (fun _ => ?_)
  refine g_aload_n dX8_bestBeside_29 rfl rfl ?_
  refine g_iload_n dX8_bestBeside_30 rfl rfl ?_
  refine g_iload dX8_bestBeside_31 rfl ?_
  refine g_callV (T := TX8) (NN := 3) [] (x_costg S g hg (0 + 1) (by omega)) dX8_bestBeside_33 kk_X8_bestBeside_X8_cost ml_RX8_27 mwX8_cost ewX8_cost (by decide) rfl rfl rfl rfl (Nat.le_of_ble_eq_true rfl) ?_
  rintro _ _ ⟨_, rfl, rfl, rfl⟩
  refine g_aload_n dX8_bestBeside_36 rfl rfl ?_
  refine g_iload_n dX8_bestBeside_37 rfl rfl ?_
  refine g_iload dX8_bestBeside_38 rfl ?_
  refine g_callV (T := TX8) (NN := 3) [.int (nI (g (0 + 1)))] (x_costg S g hg (0) (by omega)) dX8_bestBeside_40 kk_X8_bestBeside_X8_cost ml_RX8_27 mwX8_cost ewX8_cost (by decide) rfl rfl rfl rfl (Nat.le_of_ble_eq_true rfl) ?_
  rintro _ _ ⟨_, rfl, rfl, rfl⟩
  refine g_ic_geN 50 dX8_bestBeside_43 (by decide) (by omega) (by omega) (fun h1 => ?_) (fun h1 => ?_)
  · refine g_iinc (v := (nI (0 + 1 + 1))) (lv' := [(5, .int (nI (0 + 1 + 1))), (4, .int (nI 0)), (3, .int (nI 0)), (0, .ref 67), (1, .int (nI 1)), (2, .int (nI 0))]) dX8_bestBeside_50 rfl (nI_1 (0 + 1)) (by decide) rfl ?_
    refine g_goto 14 dX8_bestBeside_53 (by decide) ?_
    refine g_iload dX8_bestBeside_14 rfl ?_
    refine g_iload_n dX8_bestBeside_16 rfl rfl ?_
    refine g_iconst (v := (nI 1)) dX8_bestBeside_17 rfl ?_
    refine g_iaddN dX8_bestBeside_18 ?_
    refine g_ic_gtN 56 dX8_bestBeside_19 (by decide) (by omega) (by omega) (fun _ => ?_) (fun z => absurd z (by omega))
    refine g_iload dX8_bestBeside_56 rfl ?_
    refine g_iret dX8_bestBeside_58 rfl rfl ?_
    exact ⟨_, rfl, by unfold zs_bb; rw [if_pos rfl, if_neg (show ¬ g 1 < g 0 from Nat.not_lt.mpr h1)], rfl⟩
  · refine g_iload dX8_bestBeside_46 rfl ?_
    refine g_istore (lv' := [(4, .int (nI (0 + 1))), (5, .int (nI (0 + 1))), (3, .int (nI 0)), (0, .ref 67), (1, .int (nI 1)), (2, .int (nI 0))]) dX8_bestBeside_48 (by decide) rfl ?_
    refine g_iinc (v := (nI (0 + 1 + 1))) (lv' := [(5, .int (nI (0 + 1 + 1))), (4, .int (nI (0 + 1))), (3, .int (nI 0)), (0, .ref 67), (1, .int (nI 1)), (2, .int (nI 0))]) dX8_bestBeside_50 rfl (nI_1 (0 + 1)) (by decide) rfl ?_
    refine g_goto 14 dX8_bestBeside_53 (by decide) ?_
    refine g_iload dX8_bestBeside_14 rfl ?_
    refine g_iload_n dX8_bestBeside_16 rfl rfl ?_
    refine g_iconst (v := (nI 1)) dX8_bestBeside_17 rfl ?_
    refine g_iaddN dX8_bestBeside_18 ?_
    refine g_ic_gtN 56 dX8_bestBeside_19 (by decide) (by omega) (by omega) (fun _ => ?_) (fun z => absurd z (by omega))
    refine g_iload dX8_bestBeside_56 rfl ?_
    refine g_iret dX8_bestBeside_58 rfl rfl ?_
    exact ⟨_, rfl, by unfold zs_bb; rw [if_pos rfl, if_pos h1], rfl⟩
set_option maxRecDepth 100000 in
theorem x_bbj (S : zs_S) (g : Nat → Nat) (hb : ∀ j, g j < 2 ^ 30) (hg : ∀ j, j < 10 → S.1 68 (1 * 10 + j) = nI (g j)) (j : Nat) (hj : 0 < j) (hj9 : j < 10) : zs_Ci MX8_bestBeside [.ref 67, .int (nI 1), .int (nI j)] S (fun x S2 => x = nI (zs_bb g j) ∧ S = S2) := by
  refine zs_C.of (by decide) (Nat.le_of_ble_eq_true rfl) ?_
  show zs_P MX8_bestBeside 0 [(0, .ref 67), (1, .int (nI 1)), (2, .int (nI j))] [] S _
  have b0 := hb (j - 1)
  have b1 := hb (j - 1 + 1)
  have b2 := hb (j - 1 + 1 + 1)
  refine g_iconst (v := (nI 0)) dX8_bestBeside_0 rfl ?_
  refine g_iload_n dX8_bestBeside_1 rfl rfl ?_
  refine g_iconst (v := (nI 1)) dX8_bestBeside_2 rfl ?_
  refine g_isubN dX8_bestBeside_3 (by omega) ?_
  refine g_callS [.int (nI 0), .int (nI (j - 1))] [] (x_maxN S 0 (j - 1) (by omega) (by omega)) dX8_bestBeside_4 kk_X8_bestBeside_J9_max_7cf53 ml_RX8_53 swJ9_max_7cf53 rfl rfl (Nat.le_of_ble_eq_true rfl) ?_
  rintro _ _ ⟨_, rfl, rfl, rfl⟩
  rw [show max 0 (j - 1) = j - 1 by omega]
  refine g_istore_n (lv' := [(3, .int (nI (j - 1))), (0, .ref 67), (1, .int (nI 1)), (2, .int (nI j))]) dX8_bestBeside_7 rfl (by decide) rfl ?_
  refine g_iload_n dX8_bestBeside_8 rfl rfl ?_
  refine g_istore (lv' := [(4, .int (nI (j - 1))), (3, .int (nI (j - 1))), (0, .ref 67), (1, .int (nI 1)), (2, .int (nI j))]) dX8_bestBeside_9 (by decide) rfl ?_
  refine g_iload_n dX8_bestBeside_11 rfl rfl ?_
  refine g_istore (lv' := [(5, .int (nI (j - 1))), (4, .int (nI (j - 1))), (3, .int (nI (j - 1))), (0, .ref 67), (1, .int (nI 1)), (2, .int (nI j))]) dX8_bestBeside_12 (by decide) rfl ?_
  refine g_iload dX8_bestBeside_14 rfl ?_
  refine g_iload_n dX8_bestBeside_16 rfl rfl ?_
  refine g_iconst (v := (nI 1)) dX8_bestBeside_17 rfl ?_
  refine g_iaddN dX8_bestBeside_18 ?_
  refine g_ic_gtN 56 dX8_bestBeside_19 (by decide) (by omega) (by omega) (fun z => absurd z (by omega)) (fun _ => ?_)
  refine g_iload dX8_bestBeside_22 rfl ?_
  refine g_bipush (v := (nI 10)) dX8_bestBeside_24 rfl ?_
  refine g_ic_geN 56 dX8_bestBeside_26 (by decide) (by omega) (by omega) (fun z => absurd z (by omega)) (fun _ => ?_)
  refine g_aload_n dX8_bestBeside_29 rfl rfl ?_
  refine g_iload_n dX8_bestBeside_30 rfl rfl ?_
  refine g_iload dX8_bestBeside_31 rfl ?_
  refine g_callV (T := TX8) (NN := 3) [] (x_costg S g hg (j - 1) (by omega)) dX8_bestBeside_33 kk_X8_bestBeside_X8_cost ml_RX8_27 mwX8_cost ewX8_cost (by decide) rfl rfl rfl rfl (Nat.le_of_ble_eq_true rfl) ?_
  rintro _ _ ⟨_, rfl, rfl, rfl⟩
  refine g_aload_n dX8_bestBeside_36 rfl rfl ?_
  refine g_iload_n dX8_bestBeside_37 rfl rfl ?_
  refine g_iload dX8_bestBeside_38 rfl ?_
  refine g_callV (T := TX8) (NN := 3) [.int (nI (g (j - 1)))] (x_costg S g hg (j - 1) (by omega)) dX8_bestBeside_40 kk_X8_bestBeside_X8_cost ml_RX8_27 mwX8_cost ewX8_cost (by decide) rfl rfl rfl rfl (Nat.le_of_ble_eq_true rfl) ?_
  rintro _ _ ⟨_, rfl, rfl, rfl⟩
  refine g_ic_geN 50 dX8_bestBeside_43 (by decide) (by omega) (by omega) (fun _ => ?_) (fun z => absurd z (by omega))
  refine g_iinc (v := (nI (j - 1 + 1))) (lv' := [(5, .int (nI (j - 1 + 1))), (4, .int (nI (j - 1))), (3, .int (nI (j - 1))), (0, .ref 67), (1, .int (nI 1)), (2, .int (nI j))]) dX8_bestBeside_50 rfl (nI_1 (j - 1)) (by decide) rfl ?_
  refine g_goto 14 dX8_bestBeside_53 (by decide) ?_
  refine g_iload dX8_bestBeside_14 rfl ?_
  refine g_iload_n dX8_bestBeside_16 rfl rfl ?_
  refine g_iconst (v := (nI 1)) dX8_bestBeside_17 rfl ?_
  refine g_iaddN dX8_bestBeside_18 ?_
  refine g_ic_gtN 56 dX8_bestBeside_19 (by decide) (by omega) (by omega) (fun z => absurd z (by omega)) (fun _ => ?_)
  refine g_iload dX8_bestBeside_22 rfl ?_
  refine g_bipush (v := (nI 10)) dX8_bestBeside_24 rfl ?_
  refine g_ic_geN 56 dX8_bestBeside_26 (by decide) (by omega) (by omega) (fun z => absurd z (by omega)) (fun _ => ?_)
  refine g_aload_n dX8_bestBeside_29 rfl rfl ?_
  refine g_iload_n dX8_bestBeside_30 rfl rfl ?_
  refine g_iload dX8_bestBeside_31 rfl ?_
  refine g_callV (T := TX8) (NN := 3) [] (x_costg S g hg (j - 1 + 1) (by omega)) dX8_bestBeside_33 kk_X8_bestBeside_X8_cost ml_RX8_27 mwX8_cost ewX8_cost (by decide) rfl rfl rfl rfl (Nat.le_of_ble_eq_true rfl) ?_
  rintro _ _ ⟨_, rfl, rfl, rfl⟩
  refine g_aload_n dX8_bestBeside_36 rfl rfl ?_
  refine g_iload_n dX8_bestBeside_37 rfl rfl ?_
  refine g_iload dX8_bestBeside_38 rfl ?_
  refine g_callV (T := TX8) (NN := 3) [.int (nI (g (j - 1 + 1)))] (x_costg S g hg (j - 1) (by omega)) dX8_bestBeside_40 kk_X8_bestBeside_X8_cost ml_RX8_27 mwX8_cost ewX8_cost (by decide) rfl rfl rfl rfl (Nat.le_of_ble_eq_true rfl) ?_
  rintro _ _ ⟨_, rfl, rfl, rfl⟩
  refine g_ic_geN 50 dX8_bestBeside_43 (by decide) (by omega) (by omega) (fun h1 => ?_) (fun h1 => ?_)
  · refine g_iinc (v := (nI (j - 1 + 1 + 1))) (lv' := [(5, .int (nI (j - 1 + 1 + 1))), (4, .int (nI (j - 1))), (3, .int (nI (j - 1))), (0, .ref 67), (1, .int (nI 1)), (2, .int (nI j))]) dX8_bestBeside_50 rfl (nI_1 (j - 1 + 1)) (by decide) rfl ?_
    refine g_goto 14 dX8_bestBeside_53 (by decide) ?_
    refine g_iload dX8_bestBeside_14 rfl ?_
    refine g_iload_n dX8_bestBeside_16 rfl rfl ?_
    refine g_iconst (v := (nI 1)) dX8_bestBeside_17 rfl ?_
    refine g_iaddN dX8_bestBeside_18 ?_
    refine g_ic_gtN 56 dX8_bestBeside_19 (by decide) (by omega) (by omega) (fun z => absurd z (by omega)) (fun _ => ?_)
    refine g_iload dX8_bestBeside_22 rfl ?_
    refine g_bipush (v := (nI 10)) dX8_bestBeside_24 rfl ?_
    refine g_ic_geN 56 dX8_bestBeside_26 (by decide) (by omega) (by omega) (fun h2 => ?_) (fun h2 => ?_)
    · refine g_iload dX8_bestBeside_56 rfl ?_
      refine g_iret dX8_bestBeside_58 rfl rfl ?_
      refine ⟨_, rfl, ?_, rfl⟩
      congr 1
      unfold zs_bb
      simp only [show j - 1 + 1 = j by omega, show j - 1 + 1 + 1 = j + 1 by omega] at *
      repeat' split
      all_goals first | omega | rfl | (simp_all; done) | (simp_all; omega) | (subst_vars; simp_all; omega)
    · refine g_aload_n dX8_bestBeside_29 rfl rfl ?_
      refine g_iload_n dX8_bestBeside_30 rfl rfl ?_
      refine g_iload dX8_bestBeside_31 rfl ?_
      refine g_callV (T := TX8) (NN := 3) [] (x_costg S g hg (j - 1 + 1 + 1) (by omega)) dX8_bestBeside_33 kk_X8_bestBeside_X8_cost ml_RX8_27 mwX8_cost ewX8_cost (by decide) rfl rfl rfl rfl (Nat.le_of_ble_eq_true rfl) ?_
      rintro _ _ ⟨_, rfl, rfl, rfl⟩
      refine g_aload_n dX8_bestBeside_36 rfl rfl ?_
      refine g_iload_n dX8_bestBeside_37 rfl rfl ?_
      refine g_iload dX8_bestBeside_38 rfl ?_
      refine g_callV (T := TX8) (NN := 3) [.int (nI (g (j - 1 + 1 + 1)))] (x_costg S g hg (j - 1) (by omega)) dX8_bestBeside_40 kk_X8_bestBeside_X8_cost ml_RX8_27 mwX8_cost ewX8_cost (by decide) rfl rfl rfl rfl (Nat.le_of_ble_eq_true rfl) ?_
      rintro _ _ ⟨_, rfl, rfl, rfl⟩
      refine g_ic_geN 50 dX8_bestBeside_43 (by decide) (by omega) (by omega) (fun h3 => ?_) (fun h3 => ?_)
      · refine g_iinc (v := (nI (j - 1 + 1 + 1 + 1))) (lv' := [(5, .int (nI (j - 1 + 1 + 1 + 1))), (4, .int (nI (j - 1))), (3, .int (nI (j - 1))), (0, .ref 67), (1, .int (nI 1)), (2, .int (nI j))]) dX8_bestBeside_50 rfl (nI_1 (j - 1 + 1 + 1)) (by decide) rfl ?_
        refine g_goto 14 dX8_bestBeside_53 (by decide) ?_
        refine g_iload dX8_bestBeside_14 rfl ?_
        refine g_iload_n dX8_bestBeside_16 rfl rfl ?_
        refine g_iconst (v := (nI 1)) dX8_bestBeside_17 rfl ?_
        refine g_iaddN dX8_bestBeside_18 ?_
        refine g_ic_gtN 56 dX8_bestBeside_19 (by decide) (by omega) (by omega) (fun _ => ?_) (fun z => absurd z (by omega))
        refine g_iload dX8_bestBeside_56 rfl ?_
        refine g_iret dX8_bestBeside_58 rfl rfl ?_
        refine ⟨_, rfl, ?_, rfl⟩
        congr 1
        unfold zs_bb
        simp only [show j - 1 + 1 = j by omega, show j - 1 + 1 + 1 = j + 1 by omega] at *
        repeat' split
        all_goals first | omega | rfl | (simp_all; done) | (simp_all; omega) | (subst_vars; simp_all; omega)
      · refine g_iload dX8_bestBeside_46 rfl ?_
        refine g_istore (lv' := [(4, .int (nI (j - 1 + 1 + 1))), (5, .int (nI (j - 1 + 1 + 1))), (3, .int (nI (j - 1))), (0, .ref 67), (1, .int (nI 1)), (2, .int (nI j))]) dX8_bestBeside_48 (by decide) rfl ?_
        refine g_iinc (v := (nI (j - 1 + 1 + 1 + 1))) (lv' := [(5, .int (nI (j - 1 + 1 + 1 + 1))), (4, .int (nI (j - 1 + 1 + 1))), (3, .int (nI (j - 1))), (0, .ref 67), (1, .int (nI 1)), (2, .int (nI j))]) dX8_bestBeside_50 rfl (nI_1 (j - 1 + 1 + 1)) (by decide) rfl ?_
        refine g_goto 14 dX8_bestBeside_53 (by decide) ?_
        refine g_iload dX8_bestBeside_14 rfl ?_
        refine g_iload_n dX8_bestBeside_16 rfl rfl ?_
        refine g_iconst (v := (nI 1)) dX8_bestBeside_17 rfl ?_
        refine g_iaddN dX8_bestBeside_18 ?_
        refine g_ic_gtN 56 dX8_bestBeside_19 (by decide) (by omega) (by omega) (fun _ => ?_) (fun z => absurd z (by omega))
        refine g_iload dX8_bestBeside_56 rfl ?_
        refine g_iret dX8_bestBeside_58 rfl rfl ?_
        refine ⟨_, rfl, ?_, rfl⟩
        congr 1
        unfold zs_bb
        simp only [show j - 1 + 1 = j by omega, show j - 1 + 1 + 1 = j + 1 by omega] at *
        repeat' split
        all_goals first | omega | rfl | (simp_all; done) | (simp_all; omega) | (subst_vars; simp_all; omega)
  · refine g_iload dX8_bestBeside_46 rfl ?_
    refine g_istore (lv' := [(4, .int (nI (j - 1 + 1))), (5, .int (nI (j - 1 + 1))), (3, .int (nI (j - 1))), (0, .ref 67), (1, .int (nI 1)), (2, .int (nI j))]) dX8_bestBeside_48 (by decide) rfl ?_
    refine g_iinc (v := (nI (j - 1 + 1 + 1))) (lv' := [(5, .int (nI (j - 1 + 1 + 1))), (4, .int (nI (j - 1 + 1))), (3, .int (nI (j - 1))), (0, .ref 67), (1, .int (nI 1)), (2, .int (nI j))]) dX8_bestBeside_50 rfl (nI_1 (j - 1 + 1)) (by decide) rfl ?_
    refine g_goto 14 dX8_bestBeside_53 (by decide) ?_
    refine g_iload dX8_bestBeside_14 rfl ?_
    refine g_iload_n dX8_bestBeside_16 rfl rfl ?_
    refine g_iconst (v := (nI 1)) dX8_bestBeside_17 rfl ?_
    refine g_iaddN dX8_bestBeside_18 ?_
    refine g_ic_gtN 56 dX8_bestBeside_19 (by decide) (by omega) (by omega) (fun z => absurd z (by omega)) (fun _ => ?_)
    refine g_iload dX8_bestBeside_22 rfl ?_
    refine g_bipush (v := (nI 10)) dX8_bestBeside_24 rfl ?_
    refine g_ic_geN 56 dX8_bestBeside_26 (by decide) (by omega) (by omega) (fun h4 => ?_) (fun h4 => ?_)
    · refine g_iload dX8_bestBeside_56 rfl ?_
      refine g_iret dX8_bestBeside_58 rfl rfl ?_
      refine ⟨_, rfl, ?_, rfl⟩
      congr 1
      unfold zs_bb
      simp only [show j - 1 + 1 = j by omega, show j - 1 + 1 + 1 = j + 1 by omega] at *
      repeat' split
      all_goals first | omega | rfl | (simp_all; done) | (simp_all; omega) | (subst_vars; simp_all; omega)
    · refine g_aload_n dX8_bestBeside_29 rfl rfl ?_
      refine g_iload_n dX8_bestBeside_30 rfl rfl ?_
      refine g_iload dX8_bestBeside_31 rfl ?_
      refine g_callV (T := TX8) (NN := 3) [] (x_costg S g hg (j - 1 + 1 + 1) (by omega)) dX8_bestBeside_33 kk_X8_bestBeside_X8_cost ml_RX8_27 mwX8_cost ewX8_cost (by decide) rfl rfl rfl rfl (Nat.le_of_ble_eq_true rfl) ?_
      rintro _ _ ⟨_, rfl, rfl, rfl⟩
      refine g_aload_n dX8_bestBeside_36 rfl rfl ?_
      refine g_iload_n dX8_bestBeside_37 rfl rfl ?_
      refine g_iload dX8_bestBeside_38 rfl ?_
      refine g_callV (T := TX8) (NN := 3) [.int (nI (g (j - 1 + 1 + 1)))] (x_costg S g hg (j - 1 + 1) (by omega)) dX8_bestBeside_40 kk_X8_bestBeside_X8_cost ml_RX8_27 mwX8_cost ewX8_cost (by decide) rfl rfl rfl rfl (Nat.le_of_ble_eq_true rfl) ?_
      rintro _ _ ⟨_, rfl, rfl, rfl⟩
      refine g_ic_geN 50 dX8_bestBeside_43 (by decide) (by omega) (by omega) (fun h5 => ?_) (fun h5 => ?_)
      · refine g_iinc (v := (nI (j - 1 + 1 + 1 + 1))) (lv' := [(5, .int (nI (j - 1 + 1 + 1 + 1))), (4, .int (nI (j - 1 + 1))), (3, .int (nI (j - 1))), (0, .ref 67), (1, .int (nI 1)), (2, .int (nI j))]) dX8_bestBeside_50 rfl (nI_1 (j - 1 + 1 + 1)) (by decide) rfl ?_
        refine g_goto 14 dX8_bestBeside_53 (by decide) ?_
        refine g_iload dX8_bestBeside_14 rfl ?_
        refine g_iload_n dX8_bestBeside_16 rfl rfl ?_
        refine g_iconst (v := (nI 1)) dX8_bestBeside_17 rfl ?_
        refine g_iaddN dX8_bestBeside_18 ?_
        refine g_ic_gtN 56 dX8_bestBeside_19 (by decide) (by omega) (by omega) (fun _ => ?_) (fun z => absurd z (by omega))
        refine g_iload dX8_bestBeside_56 rfl ?_
        refine g_iret dX8_bestBeside_58 rfl rfl ?_
        refine ⟨_, rfl, ?_, rfl⟩
        congr 1
        unfold zs_bb
        simp only [show j - 1 + 1 = j by omega, show j - 1 + 1 + 1 = j + 1 by omega] at *
        repeat' split
        all_goals first | omega | rfl | (simp_all; done) | (simp_all; omega) | (subst_vars; simp_all; omega)
      · refine g_iload dX8_bestBeside_46 rfl ?_
        refine g_istore (lv' := [(4, .int (nI (j - 1 + 1 + 1))), (5, .int (nI (j - 1 + 1 + 1))), (3, .int (nI (j - 1))), (0, .ref 67), (1, .int (nI 1)), (2, .int (nI j))]) dX8_bestBeside_48 (by decide) rfl ?_
        refine g_iinc (v := (nI (j - 1 + 1 + 1 + 1))) (lv' := [(5, .int (nI (j - 1 + 1 + 1 + 1))), (4, .int (nI (j - 1 + 1 + 1))), (3, .int (nI (j - 1))), (0, .ref 67), (1, .int (nI 1)), (2, .int (nI j))]) dX8_bestBeside_50 rfl (nI_1 (j - 1 + 1 + 1)) (by decide) rfl ?_
        refine g_goto 14 dX8_bestBeside_53 (by decide) ?_
        refine g_iload dX8_bestBeside_14 rfl ?_
        refine g_iload_n dX8_bestBeside_16 rfl rfl ?_
        refine g_iconst (v := (nI 1)) dX8_bestBeside_17 rfl ?_
        refine g_iaddN dX8_bestBeside_18 ?_
        refine g_ic_gtN 56 dX8_bestBeside_19 (by decide) (by omega) (by omega) (fun _ => ?_) (fun z => absurd z (by omega))
        refine g_iload dX8_bestBeside_56 rfl ?_
        refine g_iret dX8_bestBeside_58 rfl rfl ?_
        refine ⟨_, rfl, ?_, rfl⟩
        congr 1
        unfold zs_bb
        simp only [show j - 1 + 1 = j by omega, show j - 1 + 1 + 1 = j + 1 by omega] at *
        repeat' split
        all_goals first | omega | rfl | (simp_all; done) | (simp_all; omega) | (subst_vars; simp_all; omega)
theorem x_bb (S : zs_S) (g : Nat → Nat) (hb : ∀ j, g j < 2 ^ 30) (hg : ∀ j, j < 10 → S.1 68 (1 * 10 + j) = nI (g j)) (j : Nat) (hj : j < 10) : zs_Ci MX8_bestBeside [.ref 67, .int (nI 1), .int (nI j)] S (fun x S2 => x = nI (zs_bb g j) ∧ S = S2) := by
  rcases Nat.eq_zero_or_pos j with h | h
  · subst h; exact x_bb0 S g hb hg
  · exact x_bbj S g hb hg j h hj
/-- rows of costs for the first drawing fd, up to i -/
def zs_r1 (S : zs_S) (fd i : Nat) : Prop := ∀ j, j < i → S.1 68 (1 * 10 + j) = nI (zs_c1 fd j)
def zs_r0 (S : zs_S) (fd i : Nat) : Prop := ∀ j, j < i → S.1 68 (0 * 10 + j) = nI (zs_c0 fd j)
theorem zs_up_68 {S : zs_S} {i : Nat} {v : Int32} (h : i < 120) : zs_pu S 68 120 (nI i) v = (zs_up S.1 68 i v, S.2) := zs_pu_nI h (by decide)
theorem x_cz (S : zs_S) (hd : S.1 4 = fun _ => nI 0) (v : Int32) : zs_Ci MX11_cell [.ref 4, .int v] S (fun x S2 => x = nI 0 ∧ S = S2) := (x_cell S 4 12 v (by decide) rfl (by decide)).mono (by
  rintro _ _ ⟨x, rfl, rfl, rfl⟩
  exact ⟨_, rfl, zs_ceF hd, rfl⟩)
set_option maxRecDepth 100000 in
theorem c_fill1 (S0 : zs_S) (fd : Nat) (hf : fd < 10) (hd0 : S0.1 4 = fun _ => nI 0) (Q : Option Value → zs_S → Prop) (hk : ∀ S, zs_ch 68 69 S0 S → zs_r1 S fd 10 → zs_P MX8_fillCosts 106 [(5, .int (nI 10)), (4, .int (nI 1)), (0, .ref 67), (1, .ref 4), (2, .int (nI 2)), (3, .int (nI fd))] [] S Q) : ∀ (d i : Nat), i + d = 10 → ∀ S, zs_ch 68 69 S0 S → zs_r1 S fd i → zs_P MX8_fillCosts 13 [(5, .int (nI i)), (4, .int (nI 1)), (0, .ref 67), (1, .ref 4), (2, .int (nI 2)), (3, .int (nI fd))] [] S Q := by
  intro d
  induction d with
  | zero =>
    intro i hi S hc q1
    obtain rfl : i = 10 := by omega
    refine g_iload dX8_fillCosts_13 rfl ?_
    refine g_bipush (v := (nI 10)) dX8_fillCosts_15 rfl ?_
    refine g_ic_geN 106 dX8_fillCosts_17 (by decide) (by omega) (by omega) (fun _ => ?_) (fun z => absurd z (by omega))
    exact hk S hc q1
  | succ d ih =>
    intro i hi S hc q1
    refine g_iload dX8_fillCosts_13 rfl ?_
    refine g_bipush (v := (nI 10)) dX8_fillCosts_15 rfl ?_
    refine g_ic_geN 106 dX8_fillCosts_17 (by decide) (by omega) (by omega) (fun z => absurd z (by omega)) (fun _ => ?_)
    have hd := (hc 4 (by omega)).1.trans hd0
    have ho : zs_own i ≤ 1 := by unfold zs_own; split <;> omega
    have hl : zs_clo i fd ≤ 1000000 := by unfold zs_clo; split <;> omega
    have hc1 := zs_c1_le fd (zs_bb (zs_c1 fd) i)
    refine g_aload_n dX8_fillCosts_20 rfl rfl ?_
    refine g_iload dX8_fillCosts_21 rfl ?_
    refine g_callN [.ref 4, .int (nI 1)] [] (x_cz S hd (nI 1)) dX8_fillCosts_23 kk_X8_fillCosts_X11_cell nl_RX8_34 swX11_cell rfl rfl (Nat.le_of_ble_eq_true rfl) ?_
    rintro _ _ ⟨_, rfl, rfl, rfl⟩
    refine g_iload dX8_fillCosts_26 rfl ?_
    refine g_ic_neN 35 dX8_fillCosts_28 (by decide) (by omega) (by omega) (fun h1 => ?_) (fun h1 => ?_)
    · refine g_iconst (v := (nI 1)) dX8_fillCosts_35 rfl ?_
      refine zs_Ptop (y := nI (zs_own i)) (by unfold zs_own; rw [if_neg (by omega)]) ?_
      refine g_istore (lv' := [(6, .int (nI (zs_own i))), (5, .int (nI i)), (4, .int (nI 1)), (0, .ref 67), (1, .ref 4), (2, .int (nI 2)), (3, .int (nI fd))]) dX8_fillCosts_36 (by decide) rfl ?_
      refine g_iload dX8_fillCosts_38 rfl ?_
      refine g_iload_n dX8_fillCosts_40 rfl rfl ?_
      refine g_iconst (v := (nI 1)) dX8_fillCosts_41 rfl ?_
      refine g_isubN dX8_fillCosts_42 (by omega) ?_
      refine g_ic_neN 55 dX8_fillCosts_43 (by decide) (by omega) (by omega) (fun z => absurd z (by omega)) (fun _ => ?_)
      refine g_iload dX8_fillCosts_46 rfl ?_
      refine g_iload_n dX8_fillCosts_48 rfl rfl ?_
      refine g_callS [.int (nI i), .int (nI fd)] [] (x_closing S i fd (by omega) hf) dX8_fillCosts_49 kk_X8_fillCosts_X8_closing ml_RX8_41 swX8_closing rfl rfl (Nat.le_of_ble_eq_true rfl) ?_
      rintro _ _ ⟨_, rfl, rfl, rfl⟩
      refine g_goto 73 dX8_fillCosts_52 (by decide) ?_
      refine g_istore (lv' := [(7, .int (nI (zs_clo i fd))), (6, .int (nI (zs_own i))), (5, .int (nI i)), (4, .int (nI 1)), (0, .ref 67), (1, .ref 4), (2, .int (nI 2)), (3, .int (nI fd))]) dX8_fillCosts_73 (by decide) rfl ?_
      refine g_aload_n dX8_fillCosts_75 rfl rfl ?_
      refine g_getR 0 (68) (C := RX8) (T := TX8) (N := 3) dX8_fillCosts_76 (by decide) rfl rfl (by decide) rfl fl_RX8_9 ?_
      refine g_iload dX8_fillCosts_79 rfl ?_
      refine g_bipush (v := (nI 10)) dX8_fillCosts_81 rfl ?_
      refine g_imulN dX8_fillCosts_83 ?_
      refine g_iload dX8_fillCosts_84 rfl ?_
      refine g_iaddN dX8_fillCosts_86 ?_
      refine g_ldc (v := (nI 1000000)) dX8_fillCosts_87 cl_RX8_18 ?_
      refine g_iload dX8_fillCosts_89 rfl ?_
      refine g_iload dX8_fillCosts_91 rfl ?_
      refine g_iaddN dX8_fillCosts_93 ?_
      refine g_callS [.int (nI 1000000), .int (nI ((zs_own i) + (zs_clo i fd)))] [.int (nI ((1 * 10) + i)), .ref 68] (x_minN S 1000000 ((zs_own i) + (zs_clo i fd)) (by decide) (by omega)) dX8_fillCosts_94 kk_X8_fillCosts_J9_min_7cf53 ml_RX8_44 swJ9_min_7cf53 rfl rfl (Nat.le_of_ble_eq_true rfl) ?_
      rintro _ _ ⟨_, rfl, rfl, rfl⟩
      refine g_callN [.ref 68, .int (nI ((1 * 10) + i)), .int (nI (min 1000000 ((zs_own i) + (zs_clo i fd))))] [] (x_put S 68 120 (nI ((1 * 10) + i)) (nI (min 1000000 ((zs_own i) + (zs_clo i fd)))) (by decide) rfl (by decide)) dX8_fillCosts_97 kk_X8_fillCosts_X11_put nl_RX8_31 swX11_put rfl rfl (Nat.le_of_ble_eq_true rfl) ?_
      rintro _ _ ⟨rfl, rfl⟩
      refine g_iinc (v := (nI (i + 1))) (lv' := [(5, .int (nI (i + 1))), (7, .int (nI (zs_clo i fd))), (6, .int (nI (zs_own i))), (4, .int (nI 1)), (0, .ref 67), (1, .ref 4), (2, .int (nI 2)), (3, .int (nI fd))]) dX8_fillCosts_100 rfl (nI_1 i) (by decide) rfl ?_
      refine g_goto 13 dX8_fillCosts_103 (by decide) ?_
      refine zs_P.lv (ih (i + 1) (by omega) _ (hc.pu (a := 68) (by omega) (by omega)) (fun j hj => ?_)) (by simp)
      rw [zs_up_68 (by omega)]
      by_cases e : j = i
      · subst e; exact zs_up_q
      · exact (zs_up_m (by omega)).trans (q1 j (by omega))
    · refine g_iconst (v := (nI 0)) dX8_fillCosts_31 rfl ?_
      refine g_goto 36 dX8_fillCosts_32 (by decide) ?_
      refine zs_Ptop (y := nI (zs_own i)) (by unfold zs_own; rw [if_pos (by omega)]) ?_
      refine g_istore (lv' := [(6, .int (nI (zs_own i))), (5, .int (nI i)), (4, .int (nI 1)), (0, .ref 67), (1, .ref 4), (2, .int (nI 2)), (3, .int (nI fd))]) dX8_fillCosts_36 (by decide) rfl ?_
      refine g_iload dX8_fillCosts_38 rfl ?_
      refine g_iload_n dX8_fillCosts_40 rfl rfl ?_
      refine g_iconst (v := (nI 1)) dX8_fillCosts_41 rfl ?_
      refine g_isubN dX8_fillCosts_42 (by omega) ?_
      refine g_ic_neN 55 dX8_fillCosts_43 (by decide) (by omega) (by omega) (fun z => absurd z (by omega)) (fun _ => ?_)
      refine g_iload dX8_fillCosts_46 rfl ?_
      refine g_iload_n dX8_fillCosts_48 rfl rfl ?_
      refine g_callS [.int (nI i), .int (nI fd)] [] (x_closing S i fd (by omega) hf) dX8_fillCosts_49 kk_X8_fillCosts_X8_closing ml_RX8_41 swX8_closing rfl rfl (Nat.le_of_ble_eq_true rfl) ?_
      rintro _ _ ⟨_, rfl, rfl, rfl⟩
      refine g_goto 73 dX8_fillCosts_52 (by decide) ?_
      refine g_istore (lv' := [(7, .int (nI (zs_clo i fd))), (6, .int (nI (zs_own i))), (5, .int (nI i)), (4, .int (nI 1)), (0, .ref 67), (1, .ref 4), (2, .int (nI 2)), (3, .int (nI fd))]) dX8_fillCosts_73 (by decide) rfl ?_
      refine g_aload_n dX8_fillCosts_75 rfl rfl ?_
      refine g_getR 0 (68) (C := RX8) (T := TX8) (N := 3) dX8_fillCosts_76 (by decide) rfl rfl (by decide) rfl fl_RX8_9 ?_
      refine g_iload dX8_fillCosts_79 rfl ?_
      refine g_bipush (v := (nI 10)) dX8_fillCosts_81 rfl ?_
      refine g_imulN dX8_fillCosts_83 ?_
      refine g_iload dX8_fillCosts_84 rfl ?_
      refine g_iaddN dX8_fillCosts_86 ?_
      refine g_ldc (v := (nI 1000000)) dX8_fillCosts_87 cl_RX8_18 ?_
      refine g_iload dX8_fillCosts_89 rfl ?_
      refine g_iload dX8_fillCosts_91 rfl ?_
      refine g_iaddN dX8_fillCosts_93 ?_
      refine g_callS [.int (nI 1000000), .int (nI ((zs_own i) + (zs_clo i fd)))] [.int (nI ((1 * 10) + i)), .ref 68] (x_minN S 1000000 ((zs_own i) + (zs_clo i fd)) (by decide) (by omega)) dX8_fillCosts_94 kk_X8_fillCosts_J9_min_7cf53 ml_RX8_44 swJ9_min_7cf53 rfl rfl (Nat.le_of_ble_eq_true rfl) ?_
      rintro _ _ ⟨_, rfl, rfl, rfl⟩
      refine g_callN [.ref 68, .int (nI ((1 * 10) + i)), .int (nI (min 1000000 ((zs_own i) + (zs_clo i fd))))] [] (x_put S 68 120 (nI ((1 * 10) + i)) (nI (min 1000000 ((zs_own i) + (zs_clo i fd)))) (by decide) rfl (by decide)) dX8_fillCosts_97 kk_X8_fillCosts_X11_put nl_RX8_31 swX11_put rfl rfl (Nat.le_of_ble_eq_true rfl) ?_
      rintro _ _ ⟨rfl, rfl⟩
      refine g_iinc (v := (nI (i + 1))) (lv' := [(5, .int (nI (i + 1))), (7, .int (nI (zs_clo i fd))), (6, .int (nI (zs_own i))), (4, .int (nI 1)), (0, .ref 67), (1, .ref 4), (2, .int (nI 2)), (3, .int (nI fd))]) dX8_fillCosts_100 rfl (nI_1 i) (by decide) rfl ?_
      refine g_goto 13 dX8_fillCosts_103 (by decide) ?_
      refine zs_P.lv (ih (i + 1) (by omega) _ (hc.pu (a := 68) (by omega) (by omega)) (fun j hj => ?_)) (by simp)
      rw [zs_up_68 (by omega)]
      by_cases e : j = i
      · subst e; exact zs_up_q
      · exact (zs_up_m (by omega)).trans (q1 j (by omega))
set_option maxRecDepth 100000 in
theorem c_fill0 (S0 : zs_S) (fd : Nat) (hf : fd < 10) (hd0 : S0.1 4 = fun _ => nI 0) (Q : Option Value → zs_S → Prop) (hk : ∀ S, zs_ch 68 69 S0 S → zs_r1 S fd 10 → zs_r0 S fd 10 → zs_P MX8_fillCosts 106 [(5, .int (nI 10)), (4, .int (nI 0)), (0, .ref 67), (1, .ref 4), (2, .int (nI 2)), (3, .int (nI fd))] [] S Q) : ∀ (d i : Nat), i + d = 10 → ∀ S, zs_ch 68 69 S0 S → zs_r1 S fd 10 → zs_r0 S fd i → zs_P MX8_fillCosts 13 [(5, .int (nI i)), (4, .int (nI 0)), (0, .ref 67), (1, .ref 4), (2, .int (nI 2)), (3, .int (nI fd))] [] S Q := by
  intro d
  induction d with
  | zero =>
    intro i hi S hc q1 q0
    obtain rfl : i = 10 := by omega
    refine g_iload dX8_fillCosts_13 rfl ?_
    refine g_bipush (v := (nI 10)) dX8_fillCosts_15 rfl ?_
    refine g_ic_geN 106 dX8_fillCosts_17 (by decide) (by omega) (by omega) (fun _ => ?_) (fun z => absurd z (by omega))
    exact hk S hc q1 q0
  | succ d ih =>
    intro i hi S hc q1 q0
    refine g_iload dX8_fillCosts_13 rfl ?_
    refine g_bipush (v := (nI 10)) dX8_fillCosts_15 rfl ?_
    refine g_ic_geN 106 dX8_fillCosts_17 (by decide) (by omega) (by omega) (fun z => absurd z (by omega)) (fun _ => ?_)
    have hd := (hc 4 (by omega)).1.trans hd0
    have ho : zs_own i ≤ 1 := by unfold zs_own; split <;> omega
    have hl : zs_clo i fd ≤ 1000000 := by unfold zs_clo; split <;> omega
    have hc1 := zs_c1_le fd (zs_bb (zs_c1 fd) i)
    refine g_aload_n dX8_fillCosts_20 rfl rfl ?_
    refine g_iload dX8_fillCosts_21 rfl ?_
    refine g_callN [.ref 4, .int (nI 0)] [] (x_cz S hd (nI 0)) dX8_fillCosts_23 kk_X8_fillCosts_X11_cell nl_RX8_34 swX11_cell rfl rfl (Nat.le_of_ble_eq_true rfl) ?_
    rintro _ _ ⟨_, rfl, rfl, rfl⟩
    refine g_iload dX8_fillCosts_26 rfl ?_
    refine g_ic_neN 35 dX8_fillCosts_28 (by decide) (by omega) (by omega) (fun h1 => ?_) (fun h1 => ?_)
    · refine g_iconst (v := (nI 1)) dX8_fillCosts_35 rfl ?_
      refine zs_Ptop (y := nI (zs_own i)) (by unfold zs_own; rw [if_neg (by omega)]) ?_
      refine g_istore (lv' := [(6, .int (nI (zs_own i))), (5, .int (nI i)), (4, .int (nI 0)), (0, .ref 67), (1, .ref 4), (2, .int (nI 2)), (3, .int (nI fd))]) dX8_fillCosts_36 (by decide) rfl ?_
      refine g_iload dX8_fillCosts_38 rfl ?_
      refine g_iload_n dX8_fillCosts_40 rfl rfl ?_
      refine g_iconst (v := (nI 1)) dX8_fillCosts_41 rfl ?_
      refine g_isubN dX8_fillCosts_42 (by omega) ?_
      refine g_ic_neN 55 dX8_fillCosts_43 (by decide) (by omega) (by omega) (fun _ => ?_) (fun z => absurd z (by omega))
      refine g_aload_n dX8_fillCosts_55 rfl rfl ?_
      refine g_iload dX8_fillCosts_56 rfl ?_
      refine g_iconst (v := (nI 1)) dX8_fillCosts_58 rfl ?_
      refine g_iaddN dX8_fillCosts_59 ?_
      refine g_aload_n dX8_fillCosts_60 rfl rfl ?_
      refine g_iload dX8_fillCosts_61 rfl ?_
      refine g_iconst (v := (nI 1)) dX8_fillCosts_63 rfl ?_
      refine g_iaddN dX8_fillCosts_64 ?_
      refine g_iload dX8_fillCosts_65 rfl ?_
      refine g_callV (T := TX8) (NN := 3) [.int (nI (0 + 1)), .ref 67] (x_bb S (zs_c1 fd) (fun j => by have := zs_c1_le fd j; omega) q1 i (by omega)) dX8_fillCosts_67 kk_X8_fillCosts_X8_bestBeside ml_RX8_38 mwX8_bestBeside ewX8_bestBeside (by decide) rfl rfl rfl rfl (Nat.le_of_ble_eq_true rfl) ?_
      rintro _ _ ⟨_, rfl, rfl, rfl⟩
      refine g_callV (T := TX8) (NN := 3) [] (x_costg S (zs_c1 fd) q1 (zs_bb (zs_c1 fd) i) (zs_bb_lt _ (by omega))) dX8_fillCosts_70 kk_X8_fillCosts_X8_cost ml_RX8_27 mwX8_cost ewX8_cost (by decide) rfl rfl rfl rfl (Nat.le_of_ble_eq_true rfl) ?_
      rintro _ _ ⟨_, rfl, rfl, rfl⟩
      refine g_istore (lv' := [(7, .int (nI (zs_c1 fd (zs_bb (zs_c1 fd) i)))), (6, .int (nI (zs_own i))), (5, .int (nI i)), (4, .int (nI 0)), (0, .ref 67), (1, .ref 4), (2, .int (nI 2)), (3, .int (nI fd))]) dX8_fillCosts_73 (by decide) rfl ?_
      refine g_aload_n dX8_fillCosts_75 rfl rfl ?_
      refine g_getR 0 (68) (C := RX8) (T := TX8) (N := 3) dX8_fillCosts_76 (by decide) rfl rfl (by decide) rfl fl_RX8_9 ?_
      refine g_iload dX8_fillCosts_79 rfl ?_
      refine g_bipush (v := (nI 10)) dX8_fillCosts_81 rfl ?_
      refine g_imulN dX8_fillCosts_83 ?_
      refine g_iload dX8_fillCosts_84 rfl ?_
      refine g_iaddN dX8_fillCosts_86 ?_
      refine g_ldc (v := (nI 1000000)) dX8_fillCosts_87 cl_RX8_18 ?_
      refine g_iload dX8_fillCosts_89 rfl ?_
      refine g_iload dX8_fillCosts_91 rfl ?_
      refine g_iaddN dX8_fillCosts_93 ?_
      refine g_callS [.int (nI 1000000), .int (nI ((zs_own i) + (zs_c1 fd (zs_bb (zs_c1 fd) i))))] [.int (nI ((0 * 10) + i)), .ref 68] (x_minN S 1000000 ((zs_own i) + (zs_c1 fd (zs_bb (zs_c1 fd) i))) (by decide) (by omega)) dX8_fillCosts_94 kk_X8_fillCosts_J9_min_7cf53 ml_RX8_44 swJ9_min_7cf53 rfl rfl (Nat.le_of_ble_eq_true rfl) ?_
      rintro _ _ ⟨_, rfl, rfl, rfl⟩
      refine g_callN [.ref 68, .int (nI ((0 * 10) + i)), .int (nI (min 1000000 ((zs_own i) + (zs_c1 fd (zs_bb (zs_c1 fd) i)))))] [] (x_put S 68 120 (nI ((0 * 10) + i)) (nI (min 1000000 ((zs_own i) + (zs_c1 fd (zs_bb (zs_c1 fd) i))))) (by decide) rfl (by decide)) dX8_fillCosts_97 kk_X8_fillCosts_X11_put nl_RX8_31 swX11_put rfl rfl (Nat.le_of_ble_eq_true rfl) ?_
      rintro _ _ ⟨rfl, rfl⟩
      refine g_iinc (v := (nI (i + 1))) (lv' := [(5, .int (nI (i + 1))), (7, .int (nI (zs_c1 fd (zs_bb (zs_c1 fd) i)))), (6, .int (nI (zs_own i))), (4, .int (nI 0)), (0, .ref 67), (1, .ref 4), (2, .int (nI 2)), (3, .int (nI fd))]) dX8_fillCosts_100 rfl (nI_1 i) (by decide) rfl ?_
      refine g_goto 13 dX8_fillCosts_103 (by decide) ?_
      refine zs_P.lv (ih (i + 1) (by omega) _ (hc.pu (a := 68) (by omega) (by omega)) (fun j hj => ?_) (fun j hj => ?_)) (by simp)
      · rw [zs_up_68 (by omega)]
        exact (zs_up_m (by omega)).trans (q1 j hj)
      · rw [zs_up_68 (by omega)]
        by_cases e : j = i
        · subst e; exact zs_up_q
        · exact (zs_up_m (by omega)).trans (q0 j (by omega))
    · refine g_iconst (v := (nI 0)) dX8_fillCosts_31 rfl ?_
      refine g_goto 36 dX8_fillCosts_32 (by decide) ?_
      refine zs_Ptop (y := nI (zs_own i)) (by unfold zs_own; rw [if_pos (by omega)]) ?_
      refine g_istore (lv' := [(6, .int (nI (zs_own i))), (5, .int (nI i)), (4, .int (nI 0)), (0, .ref 67), (1, .ref 4), (2, .int (nI 2)), (3, .int (nI fd))]) dX8_fillCosts_36 (by decide) rfl ?_
      refine g_iload dX8_fillCosts_38 rfl ?_
      refine g_iload_n dX8_fillCosts_40 rfl rfl ?_
      refine g_iconst (v := (nI 1)) dX8_fillCosts_41 rfl ?_
      refine g_isubN dX8_fillCosts_42 (by omega) ?_
      refine g_ic_neN 55 dX8_fillCosts_43 (by decide) (by omega) (by omega) (fun _ => ?_) (fun z => absurd z (by omega))
      refine g_aload_n dX8_fillCosts_55 rfl rfl ?_
      refine g_iload dX8_fillCosts_56 rfl ?_
      refine g_iconst (v := (nI 1)) dX8_fillCosts_58 rfl ?_
      refine g_iaddN dX8_fillCosts_59 ?_
      refine g_aload_n dX8_fillCosts_60 rfl rfl ?_
      refine g_iload dX8_fillCosts_61 rfl ?_
      refine g_iconst (v := (nI 1)) dX8_fillCosts_63 rfl ?_
      refine g_iaddN dX8_fillCosts_64 ?_
      refine g_iload dX8_fillCosts_65 rfl ?_
      refine g_callV (T := TX8) (NN := 3) [.int (nI (0 + 1)), .ref 67] (x_bb S (zs_c1 fd) (fun j => by have := zs_c1_le fd j; omega) q1 i (by omega)) dX8_fillCosts_67 kk_X8_fillCosts_X8_bestBeside ml_RX8_38 mwX8_bestBeside ewX8_bestBeside (by decide) rfl rfl rfl rfl (Nat.le_of_ble_eq_true rfl) ?_
      rintro _ _ ⟨_, rfl, rfl, rfl⟩
      refine g_callV (T := TX8) (NN := 3) [] (x_costg S (zs_c1 fd) q1 (zs_bb (zs_c1 fd) i) (zs_bb_lt _ (by omega))) dX8_fillCosts_70 kk_X8_fillCosts_X8_cost ml_RX8_27 mwX8_cost ewX8_cost (by decide) rfl rfl rfl rfl (Nat.le_of_ble_eq_true rfl) ?_
      rintro _ _ ⟨_, rfl, rfl, rfl⟩
      refine g_istore (lv' := [(7, .int (nI (zs_c1 fd (zs_bb (zs_c1 fd) i)))), (6, .int (nI (zs_own i))), (5, .int (nI i)), (4, .int (nI 0)), (0, .ref 67), (1, .ref 4), (2, .int (nI 2)), (3, .int (nI fd))]) dX8_fillCosts_73 (by decide) rfl ?_
      refine g_aload_n dX8_fillCosts_75 rfl rfl ?_
      refine g_getR 0 (68) (C := RX8) (T := TX8) (N := 3) dX8_fillCosts_76 (by decide) rfl rfl (by decide) rfl fl_RX8_9 ?_
      refine g_iload dX8_fillCosts_79 rfl ?_
      refine g_bipush (v := (nI 10)) dX8_fillCosts_81 rfl ?_
      refine g_imulN dX8_fillCosts_83 ?_
      refine g_iload dX8_fillCosts_84 rfl ?_
      refine g_iaddN dX8_fillCosts_86 ?_
      refine g_ldc (v := (nI 1000000)) dX8_fillCosts_87 cl_RX8_18 ?_
      refine g_iload dX8_fillCosts_89 rfl ?_
      refine g_iload dX8_fillCosts_91 rfl ?_
      refine g_iaddN dX8_fillCosts_93 ?_
      refine g_callS [.int (nI 1000000), .int (nI ((zs_own i) + (zs_c1 fd (zs_bb (zs_c1 fd) i))))] [.int (nI ((0 * 10) + i)), .ref 68] (x_minN S 1000000 ((zs_own i) + (zs_c1 fd (zs_bb (zs_c1 fd) i))) (by decide) (by omega)) dX8_fillCosts_94 kk_X8_fillCosts_J9_min_7cf53 ml_RX8_44 swJ9_min_7cf53 rfl rfl (Nat.le_of_ble_eq_true rfl) ?_
      rintro _ _ ⟨_, rfl, rfl, rfl⟩
      refine g_callN [.ref 68, .int (nI ((0 * 10) + i)), .int (nI (min 1000000 ((zs_own i) + (zs_c1 fd (zs_bb (zs_c1 fd) i)))))] [] (x_put S 68 120 (nI ((0 * 10) + i)) (nI (min 1000000 ((zs_own i) + (zs_c1 fd (zs_bb (zs_c1 fd) i))))) (by decide) rfl (by decide)) dX8_fillCosts_97 kk_X8_fillCosts_X11_put nl_RX8_31 swX11_put rfl rfl (Nat.le_of_ble_eq_true rfl) ?_
      rintro _ _ ⟨rfl, rfl⟩
      refine g_iinc (v := (nI (i + 1))) (lv' := [(5, .int (nI (i + 1))), (7, .int (nI (zs_c1 fd (zs_bb (zs_c1 fd) i)))), (6, .int (nI (zs_own i))), (4, .int (nI 0)), (0, .ref 67), (1, .ref 4), (2, .int (nI 2)), (3, .int (nI fd))]) dX8_fillCosts_100 rfl (nI_1 i) (by decide) rfl ?_
      refine g_goto 13 dX8_fillCosts_103 (by decide) ?_
      refine zs_P.lv (ih (i + 1) (by omega) _ (hc.pu (a := 68) (by omega) (by omega)) (fun j hj => ?_) (fun j hj => ?_)) (by simp)
      · rw [zs_up_68 (by omega)]
        exact (zs_up_m (by omega)).trans (q1 j hj)
      · rw [zs_up_68 (by omega)]
        by_cases e : j = i
        · subst e; exact zs_up_q
        · exact (zs_up_m (by omega)).trans (q0 j (by omega))
set_option maxRecDepth 100000 in
theorem c_fillCosts (S : zs_S) (fd : Nat) (hf : fd < 10) (hd0 : S.1 4 = fun _ => nI 0) : zs_Cv MX8_fillCosts [.ref 67, .ref 4, .int (nI 2), .int (nI fd)] S (fun S2 => zs_ch 68 69 S S2 ∧ zs_r1 S2 fd 10 ∧ zs_r0 S2 fd 10) := by
  refine zs_C.of (by decide) (Nat.le_of_ble_eq_true rfl) ?_
  show zs_P MX8_fillCosts 0 [(0, .ref 67), (1, .ref 4), (2, .int (nI 2)), (3, .int (nI fd))] [] S _
  refine g_iload_n dX8_fillCosts_0 rfl rfl ?_
  refine g_iconst (v := (nI 1)) dX8_fillCosts_1 rfl ?_
  refine g_isubN dX8_fillCosts_2 (by omega) ?_
  refine g_istore (lv' := [(4, .int (nI (2 - 1))), (0, .ref 67), (1, .ref 4), (2, .int (nI 2)), (3, .int (nI fd))]) dX8_fillCosts_3 (by decide) rfl ?_
  refine g_iload dX8_fillCosts_5 rfl ?_
  refine g_if_ltN 112 dX8_fillCosts_7 (by decide) (by omega) ?_
  refine g_iconst (v := (nI 0)) dX8_fillCosts_10 rfl ?_
  refine g_istore (lv' := [(5, .int (nI 0)), (4, .int (nI (2 - 1))), (0, .ref 67), (1, .ref 4), (2, .int (nI 2)), (3, .int (nI fd))]) dX8_fillCosts_11 (by decide) rfl ?_
  refine (c_fill1 S fd hf hd0 _ (fun S1 h1 h2 => ?_) 10 0 (by omega) S zs_ch.rf (fun j hj => absurd hj (by omega))).lv (by simp)
  refine g_iinc (v := (nI (1 - 1))) (lv' := [(4, .int (nI (1 - 1))), (5, .int (nI 10)), (0, .ref 67), (1, .ref 4), (2, .int (nI 2)), (3, .int (nI fd))]) dX8_fillCosts_106 rfl (sb_m1 (by omega)) (by decide) rfl ?_
  refine g_goto 5 dX8_fillCosts_109 (by decide) ?_
  refine g_iload dX8_fillCosts_5 rfl ?_
  refine g_if_ltN 112 dX8_fillCosts_7 (by decide) (by omega) ?_
  refine g_iconst (v := (nI 0)) dX8_fillCosts_10 rfl ?_
  refine g_istore (lv' := [(5, .int (nI 0)), (4, .int (nI (1 - 1))), (0, .ref 67), (1, .ref 4), (2, .int (nI 2)), (3, .int (nI fd))]) dX8_fillCosts_11 (by decide) rfl ?_
  refine (c_fill0 S fd hf hd0 _ (fun S2 h2 h3 h4 => ?_) 10 0 (by omega) S1 h1 h2 (fun j hj => absurd hj (by omega))).lv (by simp)
  refine g_iinc (v := (-1)) (lv' := [(4, .int (-1)), (5, .int (nI 10)), (0, .ref 67), (1, .ref 4), (2, .int (nI 2)), (3, .int (nI fd))]) dX8_fillCosts_106 rfl (by decide) (by decide) rfl ?_
  refine g_goto 5 dX8_fillCosts_109 (by decide) ?_
  refine g_iload dX8_fillCosts_5 rfl ?_
  refine g_if_lt 112 dX8_fillCosts_7 (by decide) (fun _ => ?_) (fun z => absurd (show (-1 : Int32) < 0 by decide) z)
  refine g_ret dX8_fillCosts_112 rfl ?_
  exact ⟨rfl, h2, h3, h4⟩
theorem x_cost0 (S : zs_S) (i : Nat) (hi : i < 10) (r0 : zs_r0 S i 10) : zs_Ci MX8_cost [.ref 67, .int (nI 0), .int (nI i)] S (fun x S2 => x = nI (zs_c0 i i) ∧ S = S2) := (x_cost S 0 i (by decide) hi).mono (by
  rintro _ _ ⟨x, rfl, rfl, rfl⟩
  exact ⟨_, rfl, r0 i hi, rfl⟩)
theorem zs_c0_le (f j : Nat) : zs_c0 f j ≤ 1000000 := by unfold zs_c0; omega
theorem zs_c000 : zs_c0 0 0 = 0 := by decide
theorem zs_bb00 : zs_bb (zs_c1 0) 0 = 0 := by decide
set_option maxRecDepth 100000 in
theorem c_plan_l (S0 : zs_S) (hd0 : S0.1 4 = fun _ => nI 0) (Q : Option Value → zs_S → Prop) (hk : ∀ S, zs_ch 67 70 S0 S → S.1 67 2 = nI 0 → zs_P MX8_plan 60 [(4, .int (nI 10)), (3, .int (nI 0)), (0, .ref 67), (1, .ref 4), (2, .int (nI 2))] [] S Q) : ∀ (d i : Nat), i + d = 10 → ∀ S, zs_ch 67 70 S0 S → S.1 67 2 = nI 0 → zs_P MX8_plan 11 [(4, .int (nI i)), (3, .int (nI 0)), (0, .ref 67), (1, .ref 4), (2, .int (nI 2))] [] S Q := by
  intro d
  induction d with
  | zero =>
    intro i hi S hc hw
    obtain rfl : i = 10 := by omega
    refine g_iload dX8_plan_11 rfl ?_
    refine g_bipush (v := (nI 10)) dX8_plan_13 rfl ?_
    refine g_ic_geN 60 dX8_plan_15 (by decide) (by omega) (by omega) (fun _ => ?_) (fun z => absurd z (by omega))
    exact hk S hc hw
  | succ d ih =>
    intro i hi S hc hw
    refine g_iload dX8_plan_11 rfl ?_
    refine g_bipush (v := (nI 10)) dX8_plan_13 rfl ?_
    refine g_ic_geN 60 dX8_plan_15 (by decide) (by omega) (by omega) (fun z => absurd z (by omega)) (fun _ => ?_)
    refine g_aload_n dX8_plan_18 rfl rfl ?_
    refine g_aload_n dX8_plan_19 rfl rfl ?_
    refine g_iload_n dX8_plan_20 rfl rfl ?_
    refine g_iload dX8_plan_21 rfl ?_
    refine g_callV (T := TX8) (NN := 3) [] (c_fillCosts S (i) (by omega) ((hc 4 (by omega)).1.trans hd0)) dX8_plan_23 kk_X8_plan_X8_fillCosts ml_RX8_23 mwX8_fillCosts ewX8_fillCosts (by decide) rfl rfl rfl rfl (Nat.le_of_ble_eq_true rfl) ?_
    rintro _ S2 ⟨rfl, c2, r1, r0⟩
    have hl := zs_c0_le i i
    refine g_aload_n dX8_plan_26 rfl rfl ?_
    refine g_iconst (v := (nI 0)) dX8_plan_27 rfl ?_
    refine g_iload dX8_plan_28 rfl ?_
    refine g_callV (T := TX8) (NN := 3) [] (x_cost0 S2 i (by omega) r0) dX8_plan_30 kk_X8_plan_X8_cost ml_RX8_27 mwX8_cost ewX8_cost (by decide) rfl rfl rfl rfl (Nat.le_of_ble_eq_true rfl) ?_
    rintro _ _ ⟨_, rfl, rfl, rfl⟩
    refine g_aload_n dX8_plan_33 rfl rfl ?_
    refine g_getV 2 (C := RX8) (T := TX8) (N := 3) (v := (nI 0)) dX8_plan_34 (by decide) rfl rfl (by decide) rfl fl_RX8_19 ((congrFun (c2 67 (by omega)).1 2).trans hw) ?_
    refine g_ic_geN 54 dX8_plan_37 (by decide) (by omega) (by omega) (fun _ => ?_) (fun z => absurd z (by omega))
    refine g_iinc (v := (nI (i + 1))) (lv' := [(4, .int (nI (i + 1))), (3, .int (nI 0)), (0, .ref 67), (1, .ref 4), (2, .int (nI 2))]) dX8_plan_54 rfl (nI_1 i) (by decide) rfl ?_
    refine g_goto 11 dX8_plan_57 (by decide) ?_
    exact ih (i + 1) (by omega) S2 (hc.and c2 (by omega) (by omega)) ((congrFun (c2 67 (by omega)).1 2).trans hw)
set_option maxRecDepth 100000 in
theorem c_plan_t (S0 : zs_S) (hd0 : S0.1 4 = fun _ => nI 0) (Q : Option Value → zs_S → Prop) (hq : ∀ S, zs_ch 67 70 S0 S → S.1 67 2 = nI 0 → S.1 69 0 = nI 0 → S.1 69 1 = nI 0 → Q none S) (S : zs_S) (hc : zs_ch 67 70 S0 S) (hw : S.1 67 2 = nI 0) : zs_P MX8_plan 60 [(4, .int (nI 10)), (3, .int (nI 0)), (0, .ref 67), (1, .ref 4), (2, .int (nI 2))] [] S Q := by
  refine g_aload_n dX8_plan_60 rfl rfl ?_
  refine g_aload_n dX8_plan_61 rfl rfl ?_
  refine g_iload_n dX8_plan_62 rfl rfl ?_
  refine g_iload_n dX8_plan_63 rfl rfl ?_
  refine g_callV (T := TX8) (NN := 3) [] (c_fillCosts S 0 (by decide) ((hc 4 (by omega)).1.trans hd0)) dX8_plan_64 kk_X8_plan_X8_fillCosts ml_RX8_23 mwX8_fillCosts ewX8_fillCosts (by decide) rfl rfl rfl rfl (Nat.le_of_ble_eq_true rfl) ?_
  rintro _ S2 ⟨rfl, c2, r1, r0⟩
  refine g_aload_n dX8_plan_67 rfl rfl ?_
  refine g_getR 1 (69) (C := RX8) (T := TX8) (N := 3) dX8_plan_68 (by decide) rfl rfl (by decide) rfl fl_RX8_15 ?_
  refine g_iconst (v := (nI 0)) dX8_plan_71 rfl ?_
  refine g_iload_n dX8_plan_72 rfl rfl ?_
  refine g_callN [.ref 69, .int (nI 0), .int (nI 0)] [] (x_put S2 69 12 (nI 0) (nI 0) (by decide) rfl (by decide)) dX8_plan_73 kk_X8_plan_X11_put nl_RX8_31 swX11_put rfl rfl (Nat.le_of_ble_eq_true rfl) ?_
  rintro _ _ ⟨rfl, rfl⟩
  refine g_iconst (v := (nI 1)) dX8_plan_76 rfl ?_
  refine g_istore (lv' := [(4, .int (nI 1)), (3, .int (nI 0)), (0, .ref 67), (1, .ref 4), (2, .int (nI 2))]) dX8_plan_77 (by decide) rfl ?_
  refine g_iload dX8_plan_79 rfl ?_
  refine g_iload_n dX8_plan_81 rfl rfl ?_
  refine g_ic_geN 117 dX8_plan_82 (by decide) (by omega) (by omega) (fun z => absurd z (by omega)) (fun _ => ?_)
  refine g_aload_n dX8_plan_85 rfl rfl ?_
  refine g_getR 1 (69) (C := RX8) (T := TX8) (N := 3) dX8_plan_86 (by decide) rfl rfl (by decide) rfl fl_RX8_15 ?_
  refine g_iload dX8_plan_89 rfl ?_
  refine g_aload_n dX8_plan_91 rfl rfl ?_
  refine g_iload dX8_plan_92 rfl ?_
  refine g_aload_n dX8_plan_94 rfl rfl ?_
  refine g_getR 1 (69) (C := RX8) (T := TX8) (N := 3) dX8_plan_95 (by decide) rfl rfl (by decide) rfl fl_RX8_15 ?_
  refine g_iload dX8_plan_98 rfl ?_
  refine g_iconst (v := (nI 1)) dX8_plan_100 rfl ?_
  refine g_isubN dX8_plan_101 (by omega) ?_
  refine g_callN [.ref 69, .int (nI (1 - 1))] [.int (nI 1), .ref 67, .int (nI 1), .ref 69] (x_cell (zs_pu S2 69 12 (nI 0) (nI 0)) 69 12 (nI (1 - 1)) (by decide) rfl (by decide)) dX8_plan_102 kk_X8_plan_X11_cell nl_RX8_34 swX11_cell rfl rfl (Nat.le_of_ble_eq_true rfl) ?_
  rintro _ _ ⟨_, rfl, rfl, rfl⟩
  rw [show zs_ce 12 ((zs_pu S2 69 12 (nI 0) (nI 0)).1 69) (nI (1 - 1)) = nI 0 by rw [zs_pu0 (by decide) (by decide)]; exact (zs_ce_nI (by decide) (by decide)).trans zs_up_q]
  refine g_callV (T := TX8) (NN := 3) [.int (nI 1), .ref 69] (x_bb (zs_pu S2 69 12 (nI 0) (nI 0)) (zs_c1 0) (fun j => by have := zs_c1_le 0 j; omega) (fun j hj => (zs_pu_o (by decide)).trans (r1 j hj)) 0 (by decide)) dX8_plan_105 kk_X8_plan_X8_bestBeside ml_RX8_38 mwX8_bestBeside ewX8_bestBeside (by decide) rfl rfl rfl rfl (Nat.le_of_ble_eq_true rfl) ?_
  rintro _ _ ⟨_, rfl, rfl, rfl⟩
  rw [zs_bb00]
  refine g_callN [.ref 69, .int (nI 1), .int (nI 0)] [] (x_put (zs_pu S2 69 12 (nI 0) (nI 0)) 69 12 (nI 1) (nI 0) (by decide) rfl (by decide)) dX8_plan_108 kk_X8_plan_X11_put nl_RX8_31 swX11_put rfl rfl (Nat.le_of_ble_eq_true rfl) ?_
  rintro _ _ ⟨rfl, rfl⟩
  refine g_iinc (v := (nI (1 + 1))) (lv' := [(4, .int (nI (1 + 1))), (3, .int (nI 0)), (0, .ref 67), (1, .ref 4), (2, .int (nI 2))]) dX8_plan_111 rfl (nI_1 1) (by decide) rfl ?_
  refine g_goto 79 dX8_plan_114 (by decide) ?_
  refine g_iload dX8_plan_79 rfl ?_
  refine g_iload_n dX8_plan_81 rfl rfl ?_
  refine g_ic_geN 117 dX8_plan_82 (by decide) (by omega) (by omega) (fun _ => ?_) (fun z => absurd z (by omega))
  refine g_ret dX8_plan_117 rfl ?_
  exact hq _ (((hc.and c2 (by omega) (by omega)).pu (by omega) (by omega)).pu (by omega) (by omega)) ((zs_pu_o (by decide)).trans ((zs_pu_o (by decide)).trans ((congrFun (c2 67 (by omega)).1 2).trans hw))) (by rw [zs_pu_nI (by decide) (by decide), zs_pu0 (by decide) (by decide)]; exact (zs_up_m (by decide)).trans zs_up_q) (by rw [zs_pu_nI (by decide) (by decide)]; exact zs_up_q)
set_option maxRecDepth 100000 in
theorem c_plan (S : zs_S) (hd0 : S.1 4 = fun _ => nI 0) : zs_Cv MX8_plan [.ref 67, .ref 4, .int (nI 2)] S (fun S2 => zs_ch 67 70 S S2 ∧ S2.1 67 2 = nI 0 ∧ S2.1 69 0 = nI 0 ∧ S2.1 69 1 = nI 0) := by
  refine zs_C.of (by decide) (Nat.le_of_ble_eq_true rfl) ?_
  show zs_P MX8_plan 0 [(0, .ref 67), (1, .ref 4), (2, .int (nI 2))] [] S _
  refine g_aload_n dX8_plan_0 rfl rfl ?_
  refine g_ldc (v := (nI 1000000)) dX8_plan_1 cl_RX8_18 ?_
  refine g_putI 2 (C := RX8) (T := TX8) (N := 3) (ty := .int) dX8_plan_3 (by decide) rfl rfl (by decide) rfl fl_RX8_19 rfl (by decide +kernel) ⟨rfl, rfl⟩ ?_
  refine g_iconst (v := (nI 0)) dX8_plan_6 rfl ?_
  refine g_istore_n (lv' := [(3, .int (nI 0)), (0, .ref 67), (1, .ref 4), (2, .int (nI 2))]) dX8_plan_7 rfl (by decide) rfl ?_
  refine g_iconst (v := (nI 0)) dX8_plan_8 rfl ?_
  refine g_istore (lv' := [(4, .int (nI 0)), (3, .int (nI 0)), (0, .ref 67), (1, .ref 4), (2, .int (nI 2))]) dX8_plan_9 (by decide) rfl ?_
  refine g_iload dX8_plan_11 rfl ?_
  refine g_bipush (v := (nI 10)) dX8_plan_13 rfl ?_
  refine g_ic_geN 60 dX8_plan_15 (by decide) (by omega) (by omega) (fun z => absurd z (by omega)) (fun _ => ?_)
  refine g_aload_n dX8_plan_18 rfl rfl ?_
  refine g_aload_n dX8_plan_19 rfl rfl ?_
  refine g_iload_n dX8_plan_20 rfl rfl ?_
  refine g_iload dX8_plan_21 rfl ?_
  refine g_callV (T := TX8) (NN := 3) [] (c_fillCosts (zs_up S.1 67 2 (nI 1000000), S.2) 0 (by decide) ((funext fun j => zs_up_m (by omega)).trans hd0)) dX8_plan_23 kk_X8_plan_X8_fillCosts ml_RX8_23 mwX8_fillCosts ewX8_fillCosts (by decide) rfl rfl rfl rfl (Nat.le_of_ble_eq_true rfl) ?_
  rintro _ S2 ⟨rfl, c2, r1, r0⟩
  refine g_aload_n dX8_plan_26 rfl rfl ?_
  refine g_iconst (v := (nI 0)) dX8_plan_27 rfl ?_
  refine g_iload dX8_plan_28 rfl ?_
  refine g_callV (T := TX8) (NN := 3) [] (x_cost0 S2 0 (by decide) r0) dX8_plan_30 kk_X8_plan_X8_cost ml_RX8_27 mwX8_cost ewX8_cost (by decide) rfl rfl rfl rfl (Nat.le_of_ble_eq_true rfl) ?_
  rintro _ _ ⟨_, rfl, rfl, rfl⟩
  rw [zs_c000]
  refine g_aload_n dX8_plan_33 rfl rfl ?_
  refine g_getV 2 (C := RX8) (T := TX8) (N := 3) (v := (nI 1000000)) dX8_plan_34 (by decide) rfl rfl (by decide) rfl fl_RX8_19 ((congrFun (c2 67 (by omega)).1 2).trans zs_up_q) ?_
  refine g_ic_geN 54 dX8_plan_37 (by decide) (by omega) (by omega) (fun z => absurd z (by omega)) (fun _ => ?_)
  refine g_aload_n dX8_plan_40 rfl rfl ?_
  refine g_aload_n dX8_plan_41 rfl rfl ?_
  refine g_iconst (v := (nI 0)) dX8_plan_42 rfl ?_
  refine g_iload dX8_plan_43 rfl ?_
  refine g_callV (T := TX8) (NN := 3) [.ref 67] (x_cost0 S2 0 (by decide) r0) dX8_plan_45 kk_X8_plan_X8_cost ml_RX8_27 mwX8_cost ewX8_cost (by decide) rfl rfl rfl rfl (Nat.le_of_ble_eq_true rfl) ?_
  rintro _ _ ⟨_, rfl, rfl, rfl⟩
  rw [zs_c000]
  refine g_putI 2 (C := RX8) (T := TX8) (N := 3) (ty := .int) dX8_plan_48 (by decide) rfl rfl (by decide) rfl fl_RX8_19 rfl (by decide +kernel) ⟨rfl, rfl⟩ ?_
  refine g_iload dX8_plan_51 rfl ?_
  refine g_istore_n (lv' := [(3, .int (nI 0)), (4, .int (nI 0)), (0, .ref 67), (1, .ref 4), (2, .int (nI 2))]) dX8_plan_53 rfl (by decide) rfl ?_
  refine g_iinc (v := (nI (0 + 1))) (lv' := [(4, .int (nI (0 + 1))), (3, .int (nI 0)), (0, .ref 67), (1, .ref 4), (2, .int (nI 2))]) dX8_plan_54 rfl (nI_1 0) (by decide) rfl ?_
  refine g_goto 11 dX8_plan_57 (by decide) ?_
  refine zs_P.lv (c_plan_l S hd0 _ (fun S3 h3 h4 => c_plan_t S hd0 _ (fun S4 a1 a2 a3 a4 => ⟨rfl, a1, a2, a3, a4⟩) S3 h3 h4) 9 1 (by omega) _ (((zs_ch.rf.up (by omega) (by omega)).and c2 (by omega) (by omega)).up (by omega) (by omega)) zs_up_q) (by simp)
theorem nI_m1 (k : Nat) (hk : k ≤ 1) : ¬ nI k = -1 := by
  rcases (show k = 0 ∨ k = 1 by omega) with rfl | rfl <;> decide
set_option maxRecDepth 100000 in
theorem t_smooth (S : zs_S) (F : zs_F0 S) (f : Int32) : zs_Ci MX11_smooth [.ref 0, .int f] S (fun x S2 => x = zs_if (f = -1 ∨ (nI 0 ≤ f ∧ f ≤ nI 1)) (nI 0) (-10) ∧ zs_ch 0 80 S S2) := by
  refine zs_C.of (by decide) (Nat.le_of_ble_eq_true rfl) ?_
  show zs_P MX11_smooth 0 [(0, .ref 0), (1, .int f)] [] S _
  refine g_iload_n dX11_smooth_0 rfl rfl ?_
  refine g_iconst (v := (-1)) dX11_smooth_1 rfl ?_
  refine g_ic_eq 20 dX11_smooth_2 (by decide) (fun h1 => ?_) (fun h1 => ?_)
  · refine g_aload_n dX11_smooth_20 rfl rfl ?_
    refine g_getR 12 (67) (C := RX11) (T := TX11) (N := 18) dX11_smooth_21 (by decide) rfl rfl (by decide) rfl fl_RX11_43 ?_
    refine g_aload_n dX11_smooth_24 rfl rfl ?_
    refine g_getR 0 (1) (C := RX11) (T := TX11) (N := 18) dX11_smooth_25 (by decide) rfl rfl (by decide) rfl fl_RX11_10 ?_
    refine g_getR 4 (3) (C := RX6) (T := TX6) (N := 9) dX11_smooth_28 (by decide) rfl rfl (by decide) rfl fl_RX11_137 ?_
    refine g_getR 3 (4) (C := RX3) (T := TX3) (N := 6) dX11_smooth_31 (by decide) rfl rfl (by decide) rfl fl_RX11_165 ?_
    refine g_aload_n dX11_smooth_34 rfl rfl ?_
    refine g_getR 0 (1) (C := RX11) (T := TX11) (N := 18) dX11_smooth_35 (by decide) rfl rfl (by decide) rfl fl_RX11_10 ?_
    refine g_getV 0 (C := RX6) (T := TX6) (N := 9) (v := (nI 2)) dX11_smooth_38 (by decide) rfl rfl (by decide) rfl fl_RX11_210 (congrFun (F 1 (by decide)).1 0) ?_
    refine g_callV (T := TX8) (NN := 3) [] (c_plan S (F 4 (by decide)).1) dX11_smooth_41 kk_X11_smooth_X8_plan ml_RX11_213 mwX8_plan ewX8_plan (by decide) rfl rfl rfl rfl (Nat.le_of_ble_eq_true rfl) ?_
    rintro _ S2 ⟨rfl, c2, e2, b0, b1⟩
    refine g_iload_n dX11_smooth_44 rfl rfl ?_
    refine g_iconst (v := (-1)) dX11_smooth_45 rfl ?_
    refine g_ic_ne 59 dX11_smooth_46 (by decide) (fun z => absurd h1 z) (fun _ => ?_)
    refine g_aload_n dX11_smooth_49 rfl rfl ?_
    refine g_getR 12 (67) (C := RX11) (T := TX11) (N := 18) dX11_smooth_50 (by decide) rfl rfl (by decide) rfl fl_RX11_43 ?_
    refine g_getV 2 (C := RX8) (T := TX8) (N := 3) (v := (nI 0)) dX11_smooth_53 (by decide) rfl rfl (by decide) rfl fl_RX11_217 e2 ?_
    refine g_goto 70 dX11_smooth_56 (by decide) ?_
    refine g_iret dX11_smooth_70 rfl rfl ?_
    exact ⟨_, rfl, (zs_it (Or.inl h1)).symm, (zs_ch.rf.and c2 (by omega) (by omega))⟩
  · refine g_aload_n dX11_smooth_5 rfl rfl ?_
    refine g_iload_n dX11_smooth_6 rfl rfl ?_
    refine g_callV (T := TX11) (NN := 18) [] (x_isFrame0 S F f) dX11_smooth_7 kk_X11_smooth_X11_isFrame ml_RX11_159 mwX11_isFrame ewX11_isFrame (by decide) rfl rfl rfl rfl (Nat.le_of_ble_eq_true rfl) ?_
    rintro _ _ ⟨_, rfl, rfl, rfl⟩
    refine g_if_ne 20 dX11_smooth_10 (by decide) (fun h2 => ?_) (fun h2 => ?_)
    · have h2 := zs_b1 h2
      obtain ⟨f', f'a, f'b, rfl⟩ := zs_rng h2 (by omega)
      refine g_aload_n dX11_smooth_20 rfl rfl ?_
      refine g_getR 12 (67) (C := RX11) (T := TX11) (N := 18) dX11_smooth_21 (by decide) rfl rfl (by decide) rfl fl_RX11_43 ?_
      refine g_aload_n dX11_smooth_24 rfl rfl ?_
      refine g_getR 0 (1) (C := RX11) (T := TX11) (N := 18) dX11_smooth_25 (by decide) rfl rfl (by decide) rfl fl_RX11_10 ?_
      refine g_getR 4 (3) (C := RX6) (T := TX6) (N := 9) dX11_smooth_28 (by decide) rfl rfl (by decide) rfl fl_RX11_137 ?_
      refine g_getR 3 (4) (C := RX3) (T := TX3) (N := 6) dX11_smooth_31 (by decide) rfl rfl (by decide) rfl fl_RX11_165 ?_
      refine g_aload_n dX11_smooth_34 rfl rfl ?_
      refine g_getR 0 (1) (C := RX11) (T := TX11) (N := 18) dX11_smooth_35 (by decide) rfl rfl (by decide) rfl fl_RX11_10 ?_
      refine g_getV 0 (C := RX6) (T := TX6) (N := 9) (v := (nI 2)) dX11_smooth_38 (by decide) rfl rfl (by decide) rfl fl_RX11_210 (congrFun (F 1 (by decide)).1 0) ?_
      refine g_callV (T := TX8) (NN := 3) [] (c_plan S (F 4 (by decide)).1) dX11_smooth_41 kk_X11_smooth_X8_plan ml_RX11_213 mwX8_plan ewX8_plan (by decide) rfl rfl rfl rfl (Nat.le_of_ble_eq_true rfl) ?_
      rintro _ S2 ⟨rfl, c2, e2, b0, b1⟩
      refine g_iload_n dX11_smooth_44 rfl rfl ?_
      refine g_iconst (v := (-1)) dX11_smooth_45 rfl ?_
      refine g_ic_ne 59 dX11_smooth_46 (by decide) (fun _ => ?_) (fun z => absurd z (nI_m1 f' (by omega)))
      refine g_aload_n dX11_smooth_59 rfl rfl ?_
      refine g_getR 12 (67) (C := RX11) (T := TX11) (N := 18) dX11_smooth_60 (by decide) rfl rfl (by decide) rfl fl_RX11_43 ?_
      refine g_getR 1 (69) (C := RX8) (T := TX8) (N := 3) dX11_smooth_63 (by decide) rfl rfl (by decide) rfl fl_RX11_220 ?_
      refine g_iload_n dX11_smooth_66 rfl rfl ?_
      refine g_callS [.ref 69, .int (nI f')] [] (x_cell S2 69 12 (nI f') (by decide) rfl (by decide)) dX11_smooth_67 kk_X11_smooth_X11_cell ml_RX11_168 swX11_cell rfl rfl (Nat.le_of_ble_eq_true rfl) ?_
      rintro _ _ ⟨_, rfl, rfl, rfl⟩
      refine g_iret dX11_smooth_70 rfl rfl ?_
      refine ⟨_, rfl, ?_, (zs_ch.rf.and c2 (by omega) (by omega))⟩
      rw [zs_it (Or.inr h2), zs_ce_nI (by omega) (by decide)]
      rcases (show f' = 0 ∨ f' = 1 by omega) with rfl | rfl
      · exact b0
      · exact b1
    · have h2 := zs_b0 h2
      refine g_aload_n dX11_smooth_13 rfl rfl ?_
      refine g_bipush (v := (-10)) dX11_smooth_14 rfl ?_
      refine g_callV (T := TX11) (NN := 18) [] (x_refuseBad S (-10)) dX11_smooth_16 kk_X11_smooth_X11_refuseBad ml_RX11_86 mwX11_refuseBad ewX11_refuseBad (by decide) rfl rfl rfl rfl (Nat.le_of_ble_eq_true rfl) ?_
      rintro _ _ ⟨_, rfl, rfl, rfl⟩
      refine g_iret dX11_smooth_19 rfl rfl ?_
      exact ⟨_, rfl, (zs_ie (fun q => q.elim h1 h2)).symm, (zs_ch.rf.up (by omega) (by omega))⟩
