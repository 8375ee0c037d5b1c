noncomputable def zs_b (p : Prop) : Int32 := @ite Int32 p (Classical.propDecidable p) 1 0
theorem zs_bt {p : Prop} (h : p) : zs_b p = 1 := by unfold zs_b; exact if_pos h
theorem zs_bf {p : Prop} (h : ¬ p) : zs_b p = 0 := by unfold zs_b; exact if_neg h
theorem zs_b0 {p : Prop} (h : zs_b p = 0) : ¬ p := fun q => by rw [zs_bt q] at h; exact absurd h (by decide)
theorem zs_b1 {p : Prop} (h : ¬ zs_b p = 0) : p := Classical.byContradiction fun q => h (zs_bf q)
theorem zs_bn {p : Prop} : narrow .boolean (.int (zs_b p)) = .int (zs_b p) := by
  by_cases h : p
  · rw [zs_bt h]; rfl
  · rw [zs_bf h]; rfl
theorem zs_rng {v : Int32} {lo hi : Nat} (h : nI lo ≤ v ∧ v ≤ nI hi) (hh : lo < 2 ^ 31 ∧ hi < 2 ^ 31) : ∃ k : Nat, lo ≤ k ∧ k ≤ hi ∧ v = nI k := by
  obtain ⟨h1, h2⟩ := h
  have e1 := nI_toInt hh.1
  have e2 := nI_toInt hh.2
  have p1 : (lo : Int) ≤ v.toInt := by rw [← e1]; exact Int32.le_iff_toInt_le.mp h1
  have p2 : v.toInt ≤ (hi : Int) := by rw [← e2]; exact Int32.le_iff_toInt_le.mp h2
  have hv : ¬ v < 0 := by
    intro q
    have := Int32.lt_iff_toInt_lt.mp q
    have z : (0 : Int32).toInt = 0 := rfl
    omega
  obtain ⟨j, hj, rfl⟩ := nI_of hv
  rw [nI_toInt hj] at p1 p2
  exact ⟨j, by omega, by omega, rfl⟩
/-- what an array of n ints answers at i: 0 outside -/
def zs_ce (n : Nat) (f : Nat → Int32) (i : Int32) : Int32 := if 0 ≤ i.toInt ∧ i.toInt < n then f i.toNatClampNeg else 0
def zs_pu (S : zs_S) (a n : Nat) (i v : Int32) : zs_S := if 0 ≤ i.toInt ∧ i.toInt < n then (zs_up S.1 a i.toNatClampNeg v, S.2) else S
def zs_fi (S : zs_S) (a n : Nat) (v : Int32) : zs_S := (fun b j => if b = a ∧ j < n then v else S.1 b j, S.2)
def zs_cp (S : zs_S) (a b n : Nat) : zs_S := (fun c j => if c = b ∧ j < n then S.1 a j else S.1 c j, S.2)
/-- only cells from l on, below h, have changed -/
def zs_ch (l h : Nat) (S S' : zs_S) : Prop := ∀ b, (b < l ∨ h ≤ b) → S'.1 b = S.1 b ∧ S'.2 b = S.2 b
theorem zs_ch.rf {l h : Nat} {S : zs_S} : zs_ch l h S S := fun _ _ => ⟨rfl, rfl⟩
theorem zs_ch.up {l h a j : Nat} {S S' : zs_S} {v : Int32} (c : zs_ch l h S S') (h1 : l ≤ a) (h2 : a < h) : zs_ch l h S (zs_up S'.1 a j v, S'.2) := fun b hb => ⟨by
  rw [← (c b hb).1]
  funext i
  exact zs_up_n (fun q => by omega), (c b hb).2⟩
theorem zs_ch.upL {l h a j : Nat} {S S' : zs_S} {v : Int64} (c : zs_ch l h S S') (h1 : l ≤ a) (h2 : a < h) : zs_ch l h S (S'.1, zs_upL S'.2 a j v) := fun b hb => ⟨(c b hb).1, by
  rw [← (c b hb).2]
  funext i
  simp only [zs_upL]
  rw [if_neg (fun q => by omega)]⟩
theorem zs_ch.trans {l h : Nat} {S S' S2 : zs_S} (c : zs_ch l h S S') (d : zs_ch l h S' S2) : zs_ch l h S S2 := fun b hb => ⟨(d b hb).1.trans (c b hb).1, (d b hb).2.trans (c b hb).2⟩
theorem zs_ch.wide {l h l2 h2 : Nat} {S S' : zs_S} (c : zs_ch l h S S') (h1 : l2 ≤ l) (h3 : h ≤ h2) : zs_ch l2 h2 S S' := fun b hb => c b (by omega)
theorem zs_ch.and {l h l2 h2 : Nat} {S S' S2 : zs_S} (c : zs_ch l h S S') (d : zs_ch l2 h2 S' S2) (h1 : l ≤ l2) (h3 : h2 ≤ h) : zs_ch l h S S2 := c.trans (d.wide h1 h3)
theorem zs_ch.pu {l h a n : Nat} {i v : Int32} {S S' : zs_S} (c : zs_ch l h S S') (h1 : l ≤ a) (h2 : a < h) : zs_ch l h S (zs_pu S' a n i v) := by
  unfold zs_pu
  split
  · exact c.up h1 h2
  · exact c
theorem zs_ch.fi {l h a n : Nat} {v : Int32} {S S' : zs_S} (c : zs_ch l h S S') (h1 : l ≤ a) (h2 : a < h) : zs_ch l h S (zs_fi S' a n v) := fun b hb => ⟨by
  rw [← (c b hb).1]
  funext i
  simp only [zs_fi]
  rw [if_neg (fun q => by omega)], (c b hb).2⟩
theorem zs_ch.cp {l h a b n : Nat} {S S' : zs_S} (c : zs_ch l h S S') (h1 : l ≤ b) (h2 : b < h) : zs_ch l h S (zs_cp S' a b n) := fun b' hb => ⟨by
  rw [← (c b' hb).1]
  funext i
  simp only [zs_cp]
  rw [if_neg (fun q => by omega)], (c b' hb).2⟩
theorem zs_inn {i : Int32} {n : Nat} (h1 : ¬ i < 0) (h2 : ¬ nI n ≤ i) (hn : n < 2 ^ 31) : vp_in i n ∧ 0 ≤ i.toInt ∧ i.toInt < n := by
  have e := nI_toInt hn
  simp only [Int32.lt_iff_toInt_lt, Int32.le_iff_toInt_le, e] at h1 h2
  have z : (0 : Int32).toInt = 0 := rfl
  rw [z] at h1
  exact ⟨vp_in_iff.mpr ⟨by omega, by omega⟩, by omega, by omega⟩
theorem zs_out1 {i : Int32} {n : Nat} (h1 : i < 0) : ¬ (0 ≤ i.toInt ∧ i.toInt < n) := by
  simp only [Int32.lt_iff_toInt_lt] at h1
  have z : (0 : Int32).toInt = 0 := rfl
  rw [z] at h1
  omega
theorem zs_out2 {i : Int32} {n : Nat} (h2 : nI n ≤ i) (hn : n < 2 ^ 31) : ¬ (0 ≤ i.toInt ∧ i.toInt < n) := by
  have e := nI_toInt hn
  simp only [Int32.le_iff_toInt_le, e] at h2
  omega
theorem zs_ce_nI {n k : Nat} {f : Nat → Int32} (h : k < n) (hn : n < 2 ^ 31) : zs_ce n f (nI k) = f k := by
  unfold zs_ce
  rw [nI_toInt (by omega), if_pos (by omega), nI_clamp (by omega)]
theorem zs_pu_nI {S : zs_S} {a n k : Nat} {v : Int32} (h : k < n) (hn : n < 2 ^ 31) : zs_pu S a n (nI k) v = (zs_up S.1 a k v, S.2) := by
  unfold zs_pu
  rw [nI_toInt (by omega), if_pos (by omega), nI_clamp (by omega)]
theorem zs_fi0 {S : zs_S} {a : Nat} {v : Int32} : zs_fi S a 0 v = S := by
  unfold zs_fi
  refine Prod.ext ?_ rfl
  funext b j
  simp
theorem zs_fi1 {S : zs_S} {a n : Nat} {v : Int32} : (zs_up (zs_fi S a n v).1 a n v, (zs_fi S a n v).2) = zs_fi S a (n + 1) v := by
  refine Prod.ext ?_ rfl
  funext b j
  simp only [zs_up, zs_fi]
  by_cases h1 : b = a ∧ j = n
  · rw [if_pos h1, if_pos ⟨h1.1, by omega⟩]
  · rw [if_neg h1]
    by_cases h2 : b = a ∧ j < n
    · rw [if_pos h2, if_pos ⟨h2.1, by omega⟩]
    · rw [if_neg h2, if_neg (fun q => by omega)]
theorem zs_cp0 {S : zs_S} {a b : Nat} : zs_cp S a b 0 = S := by
  unfold zs_cp
  refine Prod.ext ?_ rfl
  funext c j
  simp
theorem zs_cp1 {S : zs_S} {a b n : Nat} (hab : a ≠ b) : (zs_up (zs_cp S a b n).1 b n ((zs_cp S a b n).1 a n), (zs_cp S a b n).2) = zs_cp S a b (n + 1) := by
  refine Prod.ext ?_ rfl
  funext c j
  simp only [zs_up, zs_cp]
  rw [if_neg (show ¬ (a = b ∧ n < n) from fun q => hab q.1)]
  by_cases h1 : c = b ∧ j = n
  · rw [if_pos h1, if_pos ⟨h1.1, by omega⟩, h1.2]
  · rw [if_neg h1]
    by_cases h2 : c = b ∧ j < n
    · rw [if_pos h2, if_pos ⟨h2.1, by omega⟩]
    · rw [if_neg h2, if_neg (fun q => by omega)]
set_option maxRecDepth 100000 in
theorem x_within (S : zs_S) (v lo hi : Int32) : zs_Ci MX11_within [.int v, .int lo, .int hi] S (fun x S2 => x = zs_b (lo ≤ v ∧ v ≤ hi) ∧ S = S2) := by
  refine zs_C.of (by decide) (Nat.le_of_ble_eq_true rfl) ?_
  show zs_P MX11_within 0 [(0, .int v), (1, .int lo), (2, .int hi)] [] S _
  refine g_iload_n dX11_within_0 rfl rfl ?_
  refine g_iload_n dX11_within_1 rfl rfl ?_
  refine g_ic_lt 14 dX11_within_2 (by decide) (fun h1 => ?_) (fun h1 => ?_)
  · refine g_iconst (v := (nI 0)) dX11_within_14 rfl ?_
    refine g_iret dX11_within_15 rfl rfl ?_
    exact ⟨_, rfl, (zs_bf (fun q => absurd q.1 (Int32.not_le.mpr h1))).symm, rfl⟩
  · refine g_iload_n dX11_within_5 rfl rfl ?_
    refine g_iload_n dX11_within_6 rfl rfl ?_
    refine g_ic_gt 14 dX11_within_7 (by decide) (fun h2 => ?_) (fun h2 => ?_)
    · refine g_iconst (v := (nI 0)) dX11_within_14 rfl ?_
      refine g_iret dX11_within_15 rfl rfl ?_
      exact ⟨_, rfl, (zs_bf (fun q => absurd q.2 (Int32.not_le.mpr h2))).symm, rfl⟩
    · refine g_iconst (v := (nI 1)) dX11_within_10 rfl ?_
      refine g_goto 15 dX11_within_11 (by decide) ?_
      refine g_iret dX11_within_15 rfl rfl ?_
      exact ⟨_, rfl, (zs_bt ⟨Int32.not_lt.mp h1, Int32.not_lt.mp h2⟩).symm, rfl⟩
set_option maxRecDepth 100000 in
theorem x_isKind (S : zs_S) (v : Int32) : zs_Ci MX11_isKind [.int v] S (fun x S2 => x = zs_b (nI 0 ≤ v ∧ v ≤ nI 5) ∧ S = S2) := by
  refine zs_C.of (by decide) (Nat.le_of_ble_eq_true rfl) ?_
  show zs_P MX11_isKind 0 [(0, .int v)] [] S _
  refine g_iload_n dX11_isKind_0 rfl rfl ?_
  refine g_iconst (v := (nI 0)) dX11_isKind_1 rfl ?_
  refine g_iconst (v := (nI 5)) dX11_isKind_2 rfl ?_
  refine g_callS [.int v, .int (nI 0), .int (nI 5)] [] (x_within S v (nI 0) (nI 5)) dX11_isKind_3 kk_X11_isKind_X11_within ml_RX11_75 swX11_within rfl rfl (Nat.le_of_ble_eq_true rfl) ?_
  rintro _ _ ⟨_, rfl, rfl, rfl⟩
  refine g_iret dX11_isKind_6 rfl zs_bn ?_
  exact ⟨_, rfl, rfl, rfl⟩
set_option maxRecDepth 100000 in
theorem x_isStep (S : zs_S) (v : Int32) : zs_Ci MX11_isStep [.int v] S (fun x S2 => x = zs_b (nI 0 ≤ v ∧ v ≤ nI 11) ∧ S = S2) := by
  refine zs_C.of (by decide) (Nat.le_of_ble_eq_true rfl) ?_
  show zs_P MX11_isStep 0 [(0, .int v)] [] S _
  refine g_iload_n dX11_isStep_0 rfl rfl ?_
  refine g_iconst (v := (nI 0)) dX11_isStep_1 rfl ?_
  refine g_bipush (v := (nI 11)) dX11_isStep_2 rfl ?_
  refine g_callS [.int v, .int (nI 0), .int (nI 11)] [] (x_within S v (nI 0) (nI 11)) dX11_isStep_4 kk_X11_isStep_X11_within ml_RX11_75 swX11_within rfl rfl (Nat.le_of_ble_eq_true rfl) ?_
  rintro _ _ ⟨_, rfl, rfl, rfl⟩
  refine g_iret dX11_isStep_7 rfl zs_bn ?_
  exact ⟨_, rfl, rfl, rfl⟩
set_option maxRecDepth 100000 in
theorem x_isDrawing (S : zs_S) (v : Int32) : zs_Ci MX11_isDrawing [.int v] S (fun x S2 => x = zs_b (nI 0 ≤ v ∧ v ≤ nI 9) ∧ S = S2) := by
  refine zs_C.of (by decide) (Nat.le_of_ble_eq_true rfl) ?_
  show zs_P MX11_isDrawing 0 [(0, .int v)] [] S _
  refine g_iload_n dX11_isDrawing_0 rfl rfl ?_
  refine g_iconst (v := (nI 0)) dX11_isDrawing_1 rfl ?_
  refine g_bipush (v := (nI 9)) dX11_isDrawing_2 rfl ?_
  refine g_callS [.int v, .int (nI 0), .int (nI 9)] [] (x_within S v (nI 0) (nI 9)) dX11_isDrawing_4 kk_X11_isDrawing_X11_within ml_RX11_75 swX11_within rfl rfl (Nat.le_of_ble_eq_true rfl) ?_
  rintro _ _ ⟨_, rfl, rfl, rfl⟩
  refine g_iret dX11_isDrawing_7 rfl zs_bn ?_
  exact ⟨_, rfl, rfl, rfl⟩
set_option maxRecDepth 100000 in
theorem x_isEye (S : zs_S) (v : Int32) : zs_Ci MX11_isEye [.ref 0, .int v] S (fun x S2 => x = zs_b (nI 0 ≤ v ∧ v ≤ S.1 1 2 - nI 1) ∧ S = S2) := by
  refine zs_C.of (by decide) (Nat.le_of_ble_eq_true rfl) ?_
  show zs_P MX11_isEye 0 [(0, .ref 0), (1, .int v)] [] S _
  refine g_iload_n dX11_isEye_0 rfl rfl ?_
  refine g_iconst (v := (nI 0)) dX11_isEye_1 rfl ?_
  refine g_aload_n dX11_isEye_2 rfl rfl ?_
  refine g_getR 0 (1) (C := RX11) (T := TX11) (N := 18) dX11_isEye_3 (by decide) rfl rfl (by decide) rfl fl_RX11_10 ?_
  refine g_getI 2 (C := RX6) (T := TX6) (N := 9) dX11_isEye_6 (by decide) rfl rfl (by decide) rfl fl_RX11_90 ?_
  refine g_iconst (v := (nI 1)) dX11_isEye_9 rfl ?_
  refine g_isub dX11_isEye_10 ?_
  refine g_callS [.int v, .int (nI 0), .int ((S.1 1 2) - (nI 1))] [] (x_within S v (nI 0) ((S.1 1 2) - (nI 1))) dX11_isEye_11 kk_X11_isEye_X11_within ml_RX11_75 swX11_within rfl rfl (Nat.le_of_ble_eq_true rfl) ?_
  rintro _ _ ⟨_, rfl, rfl, rfl⟩
  refine g_iret dX11_isEye_14 rfl zs_bn ?_
  exact ⟨_, rfl, rfl, rfl⟩
set_option maxRecDepth 100000 in
theorem x_refuseBad (S : zs_S) (v : Int32) : zs_Ci MX11_refuseBad [.ref 0, .int v] S (fun x S2 => x = v ∧ S2 = (zs_up S.1 0 8 (S.1 0 8 + nI 1), S.2)) := by
  refine zs_C.of (by decide) (Nat.le_of_ble_eq_true rfl) ?_
  show zs_P MX11_refuseBad 0 [(0, .ref 0), (1, .int v)] [] S _
  refine g_aload_n dX11_refuseBad_0 rfl rfl ?_
  refine g_dup dX11_refuseBad_1 rfl ?_
  refine g_getI 8 (C := RX11) (T := TX11) (N := 18) dX11_refuseBad_2 (by decide) rfl rfl (by decide) rfl fl_RX11_314 ?_
  refine g_iconst (v := (nI 1)) dX11_refuseBad_5 rfl ?_
  refine g_iadd dX11_refuseBad_6 ?_
  refine g_putI 8 (C := RX11) (T := TX11) (N := 18) (ty := .int) dX11_refuseBad_7 (by decide) rfl rfl (by decide) rfl fl_RX11_314 rfl (by decide +kernel) ⟨rfl, rfl⟩ ?_
  refine g_iload_n dX11_refuseBad_10 rfl rfl ?_
  refine g_iret dX11_refuseBad_11 rfl rfl ?_
  exact ⟨_, rfl, rfl, rfl⟩
set_option maxRecDepth 100000 in
theorem x_refuseNo (S : zs_S) : zs_Ci MX11_refuseNo [.ref 0] S (fun x S2 => x = -3 ∧ S2 = (zs_up S.1 0 9 (S.1 0 9 + nI 1), S.2)) := by
  refine zs_C.of (by decide) (Nat.le_of_ble_eq_true rfl) ?_
  show zs_P MX11_refuseNo 0 [(0, .ref 0)] [] S _
  refine g_aload_n dX11_refuseNo_0 rfl rfl ?_
  refine g_dup dX11_refuseNo_1 rfl ?_
  refine g_getI 9 (C := RX11) (T := TX11) (N := 18) dX11_refuseNo_2 (by decide) rfl rfl (by decide) rfl fl_RX11_317 ?_
  refine g_iconst (v := (nI 1)) dX11_refuseNo_5 rfl ?_
  refine g_iadd dX11_refuseNo_6 ?_
  refine g_putI 9 (C := RX11) (T := TX11) (N := 18) (ty := .int) dX11_refuseNo_7 (by decide) rfl rfl (by decide) rfl fl_RX11_317 rfl (by decide +kernel) ⟨rfl, rfl⟩ ?_
  refine g_bipush (v := (-3)) dX11_refuseNo_10 rfl ?_
  refine g_iret dX11_refuseNo_12 rfl rfl ?_
  exact ⟨_, rfl, rfl, rfl⟩
set_option maxRecDepth 100000 in
theorem x_refuseFull (S : zs_S) : zs_Ci MX11_refuseFull [.ref 0] S (fun x S2 => x = -4 ∧ S2 = (zs_up S.1 0 10 (S.1 0 10 + nI 1), S.2)) := by
  refine zs_C.of (by decide) (Nat.le_of_ble_eq_true rfl) ?_
  show zs_P MX11_refuseFull 0 [(0, .ref 0)] [] S _
  refine g_aload_n dX11_refuseFull_0 rfl rfl ?_
  refine g_dup dX11_refuseFull_1 rfl ?_
  refine g_getI 10 (C := RX11) (T := TX11) (N := 18) dX11_refuseFull_2 (by decide) rfl rfl (by decide) rfl fl_RX11_320 ?_
  refine g_iconst (v := (nI 1)) dX11_refuseFull_5 rfl ?_
  refine g_iadd dX11_refuseFull_6 ?_
  refine g_putI 10 (C := RX11) (T := TX11) (N := 18) (ty := .int) dX11_refuseFull_7 (by decide) rfl rfl (by decide) rfl fl_RX11_320 rfl (by decide +kernel) ⟨rfl, rfl⟩ ?_
  refine g_bipush (v := (-4)) dX11_refuseFull_10 rfl ?_
  refine g_iret dX11_refuseFull_12 rfl rfl ?_
  exact ⟨_, rfl, rfl, rfl⟩
set_option maxRecDepth 100000 in
theorem x_cell (S : zs_S) (a n : Nat) (i : Int32) (ha : a < zs_n) (hs : zs_sh a = .inl (0, n)) (hn : n < 2 ^ 31) : zs_Ci MX11_cell [.ref a, .int i] S (fun x S2 => x = zs_ce n (S.1 a) i ∧ S = S2) := by
  refine zs_C.of (by decide) (Nat.le_of_ble_eq_true rfl) ?_
  show zs_P MX11_cell 0 [(0, .ref a), (1, .int i)] [] S _
  refine g_iload_n dX11_cell_0 rfl rfl ?_
  refine g_if_lt 16 dX11_cell_1 (by decide) (fun h1 => ?_) (fun h1 => ?_)
  · refine g_iconst (v := (nI 0)) dX11_cell_16 rfl ?_
    refine g_iret dX11_cell_17 rfl rfl ?_
    exact ⟨_, rfl, by unfold zs_ce; rw [if_neg (zs_out1 h1)]; rfl, rfl⟩
  · refine g_iload_n dX11_cell_4 rfl rfl ?_
    refine g_aload_n dX11_cell_5 rfl rfl ?_
    refine g_alen (v := (nI n)) dX11_cell_6 ha hs (by decide) rfl ?_
    refine g_ic_ge 16 dX11_cell_7 (by decide) (fun h2 => ?_) (fun h2 => ?_)
    · refine g_iconst (v := (nI 0)) dX11_cell_16 rfl ?_
      refine g_iret dX11_cell_17 rfl rfl ?_
      exact ⟨_, rfl, by unfold zs_ce; rw [if_neg (zs_out2 h2 hn)]; rfl, rfl⟩
    · refine g_aload_n dX11_cell_10 rfl rfl ?_
      refine g_iload_n dX11_cell_11 rfl rfl ?_
      refine g_iald dX11_cell_12 ha hs (zs_inn h1 h2 hn).1 ?_
      refine g_goto 17 dX11_cell_13 (by decide) ?_
      refine g_iret dX11_cell_17 rfl rfl ?_
      exact ⟨_, rfl, by unfold zs_ce; rw [if_pos ((zs_inn h1 h2 hn).2)], rfl⟩
set_option maxRecDepth 100000 in
theorem x_put (S : zs_S) (a n : Nat) (i v : Int32) (ha : a < zs_n) (hs : zs_sh a = .inl (0, n)) (hn : n < 2 ^ 31) : zs_Cv MX11_put [.ref a, .int i, .int v] S (fun S2 => S2 = zs_pu S a n i v) := by
  refine zs_C.of (by decide) (Nat.le_of_ble_eq_true rfl) ?_
  show zs_P MX11_put 0 [(0, .ref a), (1, .int i), (2, .int v)] [] S _
  refine g_iload_n dX11_put_0 rfl rfl ?_
  refine g_if_lt 14 dX11_put_1 (by decide) (fun h1 => ?_) (fun h1 => ?_)
  · refine g_ret dX11_put_14 rfl ?_
    exact ⟨rfl, by unfold zs_pu; rw [if_neg (zs_out1 h1)]⟩
  · refine g_iload_n dX11_put_4 rfl rfl ?_
    refine g_aload_n dX11_put_5 rfl rfl ?_
    refine g_alen (v := (nI n)) dX11_put_6 ha hs (by decide) rfl ?_
    refine g_ic_ge 14 dX11_put_7 (by decide) (fun h2 => ?_) (fun h2 => ?_)
    · refine g_ret dX11_put_14 rfl ?_
      exact ⟨rfl, by unfold zs_pu; rw [if_neg (zs_out2 h2 hn)]⟩
    · refine g_aload_n dX11_put_10 rfl rfl ?_
      refine g_iload_n dX11_put_11 rfl rfl ?_
      refine g_iload_n dX11_put_12 rfl rfl ?_
      refine g_iast dX11_put_13 ha hs (zs_inn h1 h2 hn).1 ?_
      refine g_ret dX11_put_14 rfl ?_
      exact ⟨rfl, by unfold zs_pu; rw [if_pos (zs_inn h1 h2 hn).2]⟩
set_option maxRecDepth 100000 in
theorem x_fill_l (S : zs_S) (a n : Nat) (v : Int32) (ha : a < zs_n) (hs : zs_sh a = .inl (0, n)) (hn : n < 2 ^ 30) (Q : Option Value → zs_S → Prop) (hq : Q none (zs_fi S a n v)) : ∀ (d i : Nat), i + d = n → zs_P MX11_fill 2 [(2, .int (nI i)), (0, .ref a), (1, .int v)] [] (zs_fi S a i v) Q := by
  intro d
  induction d with
  | zero =>
    intro i hi
    obtain rfl : i = n := by omega
    refine g_iload_n dX11_fill_2 rfl rfl ?_
    refine g_aload_n dX11_fill_3 rfl rfl ?_
    refine g_alen (v := (nI i)) dX11_fill_4 ha hs (by decide) rfl ?_
    refine g_ic_geN 18 dX11_fill_5 (by decide) (by omega) (by omega) (fun _ => ?_) (fun z => absurd z (by omega))
    refine g_ret dX11_fill_18 rfl ?_
    exact hq
  | succ d ih =>
    intro i hi
    refine g_iload_n dX11_fill_2 rfl rfl ?_
    refine g_aload_n dX11_fill_3 rfl rfl ?_
    refine g_alen (v := (nI n)) dX11_fill_4 ha hs (by decide) rfl ?_
    refine g_ic_geN 18 dX11_fill_5 (by decide) (by omega) (by omega) (fun z => absurd z (by omega)) (fun _ => ?_)
    refine g_aload_n dX11_fill_8 rfl rfl ?_
    refine g_iload_n dX11_fill_9 rfl rfl ?_
    refine g_iload_n dX11_fill_10 rfl rfl ?_
    refine g_iastN dX11_fill_11 ha hs (by omega) (by omega) ?_
    refine g_iinc (v := (nI (i + 1))) (lv' := [(2, .int (nI (i + 1))), (0, .ref a), (1, .int v)]) dX11_fill_12 rfl (nI_1 i) (by decide) rfl ?_
    refine g_goto 2 dX11_fill_15 (by decide) ?_
    refine zs_Pst (ih (i + 1) (by omega)) zs_fi1
set_option maxRecDepth 100000 in
theorem x_fill (S : zs_S) (a n : Nat) (v : Int32) (ha : a < zs_n) (hs : zs_sh a = .inl (0, n)) (hn : n < 2 ^ 30) : zs_Cv MX11_fill [.ref a, .int v] S (fun S2 => S2 = zs_fi S a n v) := by
  refine zs_C.of (by decide) (Nat.le_of_ble_eq_true rfl) ?_
  show zs_P MX11_fill 0 [(0, .ref a), (1, .int v)] [] S _
  refine g_iconst (v := (nI 0)) dX11_fill_0 rfl ?_
  refine g_istore_n (lv' := [(2, .int (nI 0)), (0, .ref a), (1, .int v)]) dX11_fill_1 rfl (by decide) rfl ?_
  exact zs_Pst (x_fill_l S a n v ha hs hn _ ⟨rfl, rfl⟩ n 0 (by omega)) zs_fi0.symm
set_option maxRecDepth 100000 in
theorem x_copyRow_l (S : zs_S) (a b n : Nat) (ha : a < zs_n) (hs : zs_sh a = .inl (0, n)) (hb : b < zs_n) (ht : zs_sh b = .inl (0, n)) (hab : a ≠ b) (hn : n < 2 ^ 30) (Q : Option Value → zs_S → Prop) (hq : Q none (zs_cp S a b n)) : ∀ (d i : Nat), i + d = n → zs_P MX11_copyRow 2 [(2, .int (nI i)), (0, .ref a), (1, .ref b)] [] (zs_cp S a b i) Q := by
  intro d
  induction d with
  | zero =>
    intro i hi
    obtain rfl : i = n := by omega
    refine g_iload_n dX11_copyRow_2 rfl rfl ?_
    refine g_aload_n dX11_copyRow_3 rfl rfl ?_
    refine g_alen (v := (nI i)) dX11_copyRow_4 ha hs (by decide) rfl ?_
    refine g_ic_geN 26 dX11_copyRow_5 (by decide) (by omega) (by omega) (fun _ => ?_) (fun z => absurd z (by omega))
    refine g_ret dX11_copyRow_26 rfl ?_
    exact hq
  | succ d ih =>
    intro i hi
    refine g_iload_n dX11_copyRow_2 rfl rfl ?_
    refine g_aload_n dX11_copyRow_3 rfl rfl ?_
    refine g_alen (v := (nI n)) dX11_copyRow_4 ha hs (by decide) rfl ?_
    refine g_ic_geN 26 dX11_copyRow_5 (by decide) (by omega) (by omega) (fun z => absurd z (by omega)) (fun _ => ?_)
    refine g_iload_n dX11_copyRow_8 rfl rfl ?_
    refine g_aload_n dX11_copyRow_9 rfl rfl ?_
    refine g_alen (v := (nI n)) dX11_copyRow_10 hb ht (by decide) rfl ?_
    refine g_ic_geN 26 dX11_copyRow_11 (by decide) (by omega) (by omega) (fun z => absurd z (by omega)) (fun _ => ?_)
    refine g_aload_n dX11_copyRow_14 rfl rfl ?_
    refine g_iload_n dX11_copyRow_15 rfl rfl ?_
    refine g_aload_n dX11_copyRow_16 rfl rfl ?_
    refine g_iload_n dX11_copyRow_17 rfl rfl ?_
    refine g_ialdN (v := ((zs_cp S a b i).1 a i)) dX11_copyRow_18 ha hs (by omega) (by omega) rfl ?_
    refine g_iastN dX11_copyRow_19 hb ht (by omega) (by omega) ?_
    refine g_iinc (v := (nI (i + 1))) (lv' := [(2, .int (nI (i + 1))), (0, .ref a), (1, .ref b)]) dX11_copyRow_20 rfl (nI_1 i) (by decide) rfl ?_
    refine g_goto 2 dX11_copyRow_23 (by decide) ?_
    refine zs_Pst (ih (i + 1) (by omega)) (zs_cp1 hab)
set_option maxRecDepth 100000 in
theorem x_copyRow (S : zs_S) (a b n : Nat) (ha : a < zs_n) (hs : zs_sh a = .inl (0, n)) (hb : b < zs_n) (ht : zs_sh b = .inl (0, n)) (hab : a ≠ b) (hn : n < 2 ^ 30) : zs_Cv MX11_copyRow [.ref a, .ref b] S (fun S2 => S2 = zs_cp S a b n) := by
  refine zs_C.of (by decide) (Nat.le_of_ble_eq_true rfl) ?_
  show zs_P MX11_copyRow 0 [(0, .ref a), (1, .ref b)] [] S _
  refine g_iconst (v := (nI 0)) dX11_copyRow_0 rfl ?_
  refine g_istore_n (lv' := [(2, .int (nI 0)), (0, .ref a), (1, .ref b)]) dX11_copyRow_1 rfl (by decide) rfl ?_
  exact zs_Pst (x_copyRow_l S a b n ha hs hb ht hab hn _ ⟨rfl, rfl⟩ n 0 (by omega)) zs_cp0.symm
set_option maxRecDepth 100000 in
theorem x_maxN (S : zs_S) (x y : Nat) (hx : x < 2 ^ 31) (hy : y < 2 ^ 31) : zs_Ci MJ9_max_7cf53 [.int (nI x), .int (nI y)] S (fun z S2 => z = nI (max x y) ∧ S = S2) := by
  refine zs_CF pf_J9_max_7cf53 (Nat.le_of_ble_eq_true rfl) ?_
  show zs_P MJ9_max_7cf53 0 [(0, .int (nI x)), (1, .int (nI y))] [] S _
  refine g_iload_n dJ9_max_7cf53_0 rfl rfl ?_
  refine g_iload_n dJ9_max_7cf53_1 rfl rfl ?_
  refine g_ic_ltN 9 dJ9_max_7cf53_2 (by decide) (by omega) (by omega) (fun h1 => ?_) (fun h1 => ?_)
  · refine g_iload_n dJ9_max_7cf53_9 rfl rfl ?_
    refine g_iret dJ9_max_7cf53_10 rfl rfl ?_
    exact ⟨_, rfl, by congr 1; omega, rfl⟩
  · refine g_iload_n dJ9_max_7cf53_5 rfl rfl ?_
    refine g_goto 10 dJ9_max_7cf53_6 (by decide) ?_
    refine g_iret dJ9_max_7cf53_10 rfl rfl ?_
    exact ⟨_, rfl, by congr 1; omega, rfl⟩
set_option maxRecDepth 100000 in
theorem x_minN (S : zs_S) (x y : Nat) (hx : x < 2 ^ 31) (hy : y < 2 ^ 31) : zs_Ci MJ9_min_7cf53 [.int (nI x), .int (nI y)] S (fun z S2 => z = nI (min x y) ∧ S = S2) := by
  refine zs_CF pf_J9_min_7cf53 (Nat.le_of_ble_eq_true rfl) ?_
  show zs_P MJ9_min_7cf53 0 [(0, .int (nI x)), (1, .int (nI y))] [] S _
  refine g_iload_n dJ9_min_7cf53_0 rfl rfl ?_
  refine g_iload_n dJ9_min_7cf53_1 rfl rfl ?_
  refine g_ic_gtN 9 dJ9_min_7cf53_2 (by decide) (by omega) (by omega) (fun h1 => ?_) (fun h1 => ?_)
  · refine g_iload_n dJ9_min_7cf53_9 rfl rfl ?_
    refine g_iret dJ9_min_7cf53_10 rfl rfl ?_
    exact ⟨_, rfl, by congr 1; omega, rfl⟩
  · refine g_iload_n dJ9_min_7cf53_5 rfl rfl ?_
    refine g_goto 10 dJ9_min_7cf53_6 (by decide) ?_
    refine g_iret dJ9_min_7cf53_10 rfl rfl ?_
    exact ⟨_, rfl, by congr 1; omega, rfl⟩
def zs_pas (c s k : Nat) : Nat := match c with
  | 1 => 2 * s
  | 2 => if k % 2 = 0 then s else s + 1
  | 3 => if k % 4 = 0 then 2 * s + 1 else 2 * s
  | 4 => if k % 5 = 4 then 0 else if k % 2 = 0 then s else s + 1
  | 5 => max 1 s
  | _ => s
set_option maxRecDepth 100000 in
theorem x_twice (S : zs_S) (s : Nat) : zs_Ci MX2_twice [.int (nI s)] S (fun z S2 => z = nI (2 * s) ∧ S = S2) := by
  refine zs_C.of (by decide) (Nat.le_of_ble_eq_true rfl) ?_
  show zs_P MX2_twice 0 [(0, .int (nI s))] [] S _
  refine g_iconst (v := (nI 2)) dX2_twice_0 rfl ?_
  refine g_iload_n dX2_twice_1 rfl rfl ?_
  refine g_imulN dX2_twice_2 ?_
  refine g_iret dX2_twice_3 rfl rfl ?_
  exact ⟨_, rfl, rfl, rfl⟩
set_option maxRecDepth 100000 in
theorem x_jerk (S : zs_S) (s k : Nat) (hk : k < 2 ^ 31) : zs_Ci MX2_jerk [.int (nI s), .int (nI k)] S (fun z S2 => z = nI (if k % 2 = 0 then s else s + 1) ∧ S = S2) := by
  refine zs_C.of (by decide) (Nat.le_of_ble_eq_true rfl) ?_
  show zs_P MX2_jerk 0 [(0, .int (nI s)), (1, .int (nI k))] [] S _
  refine g_iload_n dX2_jerk_0 rfl rfl ?_
  refine g_iconst (v := (nI 2)) dX2_jerk_1 rfl ?_
  refine g_iremN dX2_jerk_2 (by omega) (by omega) (by omega) ?_
  refine g_if_neN 10 dX2_jerk_3 (by decide) (by omega) (fun h1 => ?_) (fun h1 => ?_)
  · refine g_iload_n dX2_jerk_10 rfl rfl ?_
    refine g_iconst (v := (nI 1)) dX2_jerk_11 rfl ?_
    refine g_iaddN dX2_jerk_12 ?_
    refine g_iret dX2_jerk_13 rfl rfl ?_
    exact ⟨_, rfl, by rw [if_neg h1], rfl⟩
  · refine g_iload_n dX2_jerk_6 rfl rfl ?_
    refine g_goto 13 dX2_jerk_7 (by decide) ?_
    refine g_iret dX2_jerk_13 rfl rfl ?_
    exact ⟨_, rfl, by rw [if_pos h1], rfl⟩
set_option maxRecDepth 100000 in
theorem x_pass0 (S : zs_S) (s k : Nat) (hs : s < 2 ^ 20) (hk : k < 2 ^ 31) : zs_Ci MX2_passing [.int (nI 0), .int (nI s), .int (nI k)] S (fun z S2 => z = nI (zs_pas 0 s k) ∧ S = S2) := by
  refine zs_C.of (by decide) (Nat.le_of_ble_eq_true rfl) ?_
  show zs_P MX2_passing 0 [(0, .int (nI 0)), (1, .int (nI s)), (2, .int (nI k))] [] S _
  refine g_iload_n dX2_passing_0 rfl rfl ?_
  refine g_tout 90 dX2_passing_1 (by decide) (by decide) ?_
  refine g_iload_n dX2_passing_90 rfl rfl ?_
  refine g_iret dX2_passing_91 rfl rfl ?_
  exact ⟨_, rfl, rfl, rfl⟩
set_option maxRecDepth 100000 in
theorem x_pass1 (S : zs_S) (s k : Nat) (hs : s < 2 ^ 20) (hk : k < 2 ^ 31) : zs_Ci MX2_passing [.int (nI 1), .int (nI s), .int (nI k)] S (fun z S2 => z = nI (zs_pas 1 s k) ∧ S = S2) := by
  refine zs_C.of (by decide) (Nat.le_of_ble_eq_true rfl) ?_
  show zs_P MX2_passing 0 [(0, .int (nI 1)), (1, .int (nI s)), (2, .int (nI k))] [] S _
  refine g_iload_n dX2_passing_0 rfl rfl ?_
  refine g_tin (off := 35) 36 dX2_passing_1 (by decide) (by decide) (by decide +kernel) (by decide) ?_
  refine g_iload_n dX2_passing_36 rfl rfl ?_
  refine g_callS [.int (nI s)] [] (x_twice S s) dX2_passing_37 kk_X2_passing_X2_twice ml_RX2_7 swX2_twice rfl rfl (Nat.le_of_ble_eq_true rfl) ?_
  rintro _ _ ⟨_, rfl, rfl, rfl⟩
  refine g_iret dX2_passing_40 rfl rfl ?_
  exact ⟨_, rfl, rfl, rfl⟩
set_option maxRecDepth 100000 in
theorem x_pass2 (S : zs_S) (s k : Nat) (hs : s < 2 ^ 20) (hk : k < 2 ^ 31) : zs_Ci MX2_passing [.int (nI 2), .int (nI s), .int (nI k)] S (fun z S2 => z = nI (zs_pas 2 s k) ∧ S = S2) := by
  refine zs_C.of (by decide) (Nat.le_of_ble_eq_true rfl) ?_
  show zs_P MX2_passing 0 [(0, .int (nI 2)), (1, .int (nI s)), (2, .int (nI k))] [] S _
  refine g_iload_n dX2_passing_0 rfl rfl ?_
  refine g_tin (off := 40) 41 dX2_passing_1 (by decide) (by decide) (by decide +kernel) (by decide) ?_
  refine g_iload_n dX2_passing_41 rfl rfl ?_
  refine g_iload_n dX2_passing_42 rfl rfl ?_
  refine g_callS [.int (nI s), .int (nI k)] [] (x_jerk S s k (by omega)) dX2_passing_43 kk_X2_passing_X2_jerk ml_RX2_13 swX2_jerk rfl rfl (Nat.le_of_ble_eq_true rfl) ?_
  rintro _ _ ⟨_, rfl, rfl, rfl⟩
  refine g_iret dX2_passing_46 rfl rfl ?_
  exact ⟨_, rfl, rfl, rfl⟩
set_option maxRecDepth 100000 in
theorem x_pass3 (S : zs_S) (s k : Nat) (hs : s < 2 ^ 20) (hk : k < 2 ^ 31) : zs_Ci MX2_passing [.int (nI 3), .int (nI s), .int (nI k)] S (fun z S2 => z = nI (zs_pas 3 s k) ∧ S = S2) := by
  refine zs_C.of (by decide) (Nat.le_of_ble_eq_true rfl) ?_
  show zs_P MX2_passing 0 [(0, .int (nI 3)), (1, .int (nI s)), (2, .int (nI k))] [] S _
  refine g_iload_n dX2_passing_0 rfl rfl ?_
  refine g_tin (off := 46) 47 dX2_passing_1 (by decide) (by decide) (by decide +kernel) (by decide) ?_
  refine g_iload_n dX2_passing_47 rfl rfl ?_
  refine g_iconst (v := (nI 4)) dX2_passing_48 rfl ?_
  refine g_iremN dX2_passing_49 (by omega) (by omega) (by omega) ?_
  refine g_if_neN 62 dX2_passing_50 (by decide) (by omega) (fun h1 => ?_) (fun h1 => ?_)
  · refine g_iload_n dX2_passing_62 rfl rfl ?_
    refine g_callS [.int (nI s)] [] (x_twice S s) dX2_passing_63 kk_X2_passing_X2_twice ml_RX2_7 swX2_twice rfl rfl (Nat.le_of_ble_eq_true rfl) ?_
    rintro _ _ ⟨_, rfl, rfl, rfl⟩
    refine g_iret dX2_passing_66 rfl rfl ?_
    exact ⟨_, rfl, by simp only [zs_pas]; rw [if_neg h1], rfl⟩
  · refine g_iload_n dX2_passing_53 rfl rfl ?_
    refine g_callS [.int (nI s)] [] (x_twice S s) dX2_passing_54 kk_X2_passing_X2_twice ml_RX2_7 swX2_twice rfl rfl (Nat.le_of_ble_eq_true rfl) ?_
    rintro _ _ ⟨_, rfl, rfl, rfl⟩
    refine g_iconst (v := (nI 1)) dX2_passing_57 rfl ?_
    refine g_iaddN dX2_passing_58 ?_
    refine g_goto 66 dX2_passing_59 (by decide) ?_
    refine g_iret dX2_passing_66 rfl rfl ?_
    exact ⟨_, rfl, by simp only [zs_pas]; rw [if_pos h1], rfl⟩
set_option maxRecDepth 100000 in
theorem x_pass4 (S : zs_S) (s k : Nat) (hs : s < 2 ^ 20) (hk : k < 2 ^ 31) : zs_Ci MX2_passing [.int (nI 4), .int (nI s), .int (nI k)] S (fun z S2 => z = nI (zs_pas 4 s k) ∧ S = S2) := by
  refine zs_C.of (by decide) (Nat.le_of_ble_eq_true rfl) ?_
  show zs_P MX2_passing 0 [(0, .int (nI 4)), (1, .int (nI s)), (2, .int (nI k))] [] S _
  refine g_iload_n dX2_passing_0 rfl rfl ?_
  refine g_tin (off := 66) 67 dX2_passing_1 (by decide) (by decide) (by decide +kernel) (by decide) ?_
  refine g_iload_n dX2_passing_67 rfl rfl ?_
  refine g_iconst (v := (nI 5)) dX2_passing_68 rfl ?_
  refine g_iremN dX2_passing_69 (by omega) (by omega) (by omega) ?_
  refine g_iconst (v := (nI 4)) dX2_passing_70 rfl ?_
  refine g_ic_neN 78 dX2_passing_71 (by decide) (by omega) (by omega) (fun h1 => ?_) (fun h1 => ?_)
  · refine g_iload_n dX2_passing_78 rfl rfl ?_
    refine g_iload_n dX2_passing_79 rfl rfl ?_
    refine g_callS [.int (nI s), .int (nI k)] [] (x_jerk S s k (by omega)) dX2_passing_80 kk_X2_passing_X2_jerk ml_RX2_13 swX2_jerk rfl rfl (Nat.le_of_ble_eq_true rfl) ?_
    rintro _ _ ⟨_, rfl, rfl, rfl⟩
    refine g_iret dX2_passing_83 rfl rfl ?_
    exact ⟨_, rfl, by simp only [zs_pas]; rw [if_neg h1], rfl⟩
  · refine g_iconst (v := (nI 0)) dX2_passing_74 rfl ?_
    refine g_goto 83 dX2_passing_75 (by decide) ?_
    refine g_iret dX2_passing_83 rfl rfl ?_
    exact ⟨_, rfl, by simp only [zs_pas]; rw [if_pos h1], rfl⟩
set_option maxRecDepth 100000 in
theorem x_pass5 (S : zs_S) (s k : Nat) (hs : s < 2 ^ 20) (hk : k < 2 ^ 31) : zs_Ci MX2_passing [.int (nI 5), .int (nI s), .int (nI k)] S (fun z S2 => z = nI (zs_pas 5 s k) ∧ S = S2) := by
  refine zs_C.of (by decide) (Nat.le_of_ble_eq_true rfl) ?_
  show zs_P MX2_passing 0 [(0, .int (nI 5)), (1, .int (nI s)), (2, .int (nI k))] [] S _
  refine g_iload_n dX2_passing_0 rfl rfl ?_
  refine g_tin (off := 83) 84 dX2_passing_1 (by decide) (by decide) (by decide +kernel) (by decide) ?_
  refine g_iconst (v := (nI 1)) dX2_passing_84 rfl ?_
  refine g_iload_n dX2_passing_85 rfl rfl ?_
  refine g_callS [.int (nI 1), .int (nI s)] [] (x_maxN S 1 s (by omega) (by omega)) dX2_passing_86 kk_X2_passing_J9_max_7cf53 ml_RX2_17 swJ9_max_7cf53 rfl rfl (Nat.le_of_ble_eq_true rfl) ?_
  rintro _ _ ⟨_, rfl, rfl, rfl⟩
  refine g_iret dX2_passing_89 rfl rfl ?_
  exact ⟨_, rfl, rfl, rfl⟩
theorem x_passing (S : zs_S) (c s k : Nat) (hc : c ≤ 5) (hs : s < 2 ^ 20) (hk : k < 2 ^ 31) : zs_Ci MX2_passing [.int (nI c), .int (nI s), .int (nI k)] S (fun z S2 => z = nI (zs_pas c s k) ∧ S = S2) := by
  match c, hc with
  | 0, _ => exact x_pass0 S s k hs hk
  | 1, _ => exact x_pass1 S s k hs hk
  | 2, _ => exact x_pass2 S s k hs hk
  | 3, _ => exact x_pass3 S s k hs hk
  | 4, _ => exact x_pass4 S s k hs hk
  | 5, _ => exact x_pass5 S s k hs hk
