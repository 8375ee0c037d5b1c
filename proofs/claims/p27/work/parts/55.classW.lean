/-! WHAT THE WIDE GUARD SAYS -/
theorem zs_pq0 {b i : Nat} (h : zs_pq b i = true) : b ≠ 0 ∧ b ≠ 43 ∧ b ≠ 44 ∧ b < 80 := by
  simp only [zs_pq, Bool.or_eq_true, Bool.and_eq_true, Nat.ble_eq, Nat.beq_eq] at h
  omega
theorem zs_pqW {b i : Nat} (h : zs_pq b i = true) : zs_pr_W b i = true := by
  unfold zs_pr_W
  rw [h, Bool.or_true]
theorem zs_prW {b i : Nat} (h : zs_pr b i = true) : zs_pr_W b i = true := by
  simp only [zs_pr, zs_pr_W, Bool.or_eq_true, Bool.and_eq_true, Nat.ble_eq, Nat.beq_eq] at h ⊢
  omega
theorem zs_prn {b i : Nat} (h : zs_pr b i = true) : b = 0 ∨ 43 ≤ b := by
  simp only [zs_pr, Bool.or_eq_true, Bool.and_eq_true, Nat.ble_eq, Nat.beq_eq] at h
  omega
theorem zs_fr_W.n {S S2 : zs_S} (h : zs_fr_W S S2) : zs_fr S S2 := fun b i hb => h b i (zs_prW hb)
def zs_hk (S S2 : zs_S) : Prop := ∀ b i, zs_pq b i = true → S2.1 b i = S.1 b i
theorem zs_fr_W.h {S S2 : zs_S} (h : zs_fr_W S S2) : zs_hk S S2 := fun b i hb => (h b i (zs_pqW hb)).1
def zs_fP (P : Nat → Nat → Prop) (S S2 : zs_S) : Prop := ∀ b i, zs_pr_W b i = true → ¬ P b i → S2.1 b i = S.1 b i ∧ S2.2 b i = S.2 b i
theorem zs_fP.rf {P : Nat → Nat → Prop} {S : zs_S} : zs_fP P S S := fun _ _ _ _ => ⟨rfl, rfl⟩
theorem zs_fP.tr {P : Nat → Nat → Prop} {S S1 S2 : zs_S} (h : zs_fP P S S1) (k : zs_fP P S1 S2) : zs_fP P S S2 := fun b i hb hp => ⟨(k b i hb hp).1.trans (h b i hb hp).1, (k b i hb hp).2.trans (h b i hb hp).2⟩
theorem zs_fr_W.p {P : Nat → Nat → Prop} {S S2 : zs_S} (h : zs_fr_W S S2) : zs_fP P S S2 := fun b i hb _ => h b i hb
theorem zs_fP.up {P : Nat → Nat → Prop} {S : zs_S} {a j : Nat} {v : Int32} (h : P a j) : zs_fP P S (zs_up S.1 a j v, S.2) := fun b i _ hp => ⟨zs_up_n (fun q => by rw [q.1, q.2] at hp; exact hp h), rfl⟩
def zs_Ps (c : Nat) : Nat → Nat → Prop := fun b _ => c ≤ b ∧ b ≤ c + 13
def zs_P1 (a j : Nat) : Nat → Nat → Prop := fun b i => b = a ∧ i = j
def zs_Pr (a : Nat) : Nat → Nat → Prop := fun b i => (b = a ∧ i = 2) ∨ b = a + 1
theorem zs_fP.n {P : Nat → Nat → Prop} {S S2 : zs_S} (h : zs_fP P S S2) (hP : ∀ b i, P b i → 1 ≤ b ∧ b < 43) : zs_fr S S2 := fun b i hb => h b i (zs_prW hb) (fun z => by
  have h1 := hP b i z
  have h2 := zs_prn hb
  omega)
/-- the places of a drum that are told of -/
def zs_rp (j i : Nat) : Prop := (j = 0 ∧ i ≤ 2) ∨ ((j = 8 ∨ j = 10 ∨ j = 12) ∧ i = 2) ∨ ((j = 9 ∨ j = 11 ∨ j = 13) ∧ i < 24)
theorem zs_rp13 {j i : Nat} (h : zs_rp j i) : j ≤ 13 := by unfold zs_rp at h; omega
def zs_sc (c s : Nat) (S S2 : zs_S) : Prop := ∀ j i, zs_rp j i → S2.1 (c + j) i = S.1 (s + j) i
theorem zs_rpW {c j i : Nat} (hc : c = 1 ∨ c = 15 ∨ c = 29 ∨ c = 45) (h : zs_rp j i) : zs_pq (c + j) i = true := by
  unfold zs_rp at h
  simp only [zs_pq, Bool.or_eq_true, Bool.and_eq_true, Nat.ble_eq, Nat.beq_eq]
  omega
theorem zs_hk.s {c : Nat} {S S2 : zs_S} (h : zs_hk S S2) (hc : c = 1 ∨ c = 15 ∨ c = 29 ∨ c = 45) : zs_sc c c S S2 := fun _ _ hr => h _ _ (zs_rpW hc hr)
theorem zs_fP.s {P : Nat → Nat → Prop} {c : Nat} {S S2 : zs_S} (h : zs_fP P S S2) (hc : c = 1 ∨ c = 15 ∨ c = 29 ∨ c = 45) (hP : ∀ j i, zs_rp j i → ¬ P (c + j) i) : zs_sc c c S S2 := fun _ _ hr => (h _ _ (zs_pqW (zs_rpW hc hr)) (hP _ _ hr)).1
theorem zs_Ps.s {c d : Nat} {S S2 : zs_S} (h : zs_fP (zs_Ps c) S S2) (hd : d = 1 ∨ d = 15 ∨ d = 29 ∨ d = 45) (hcd : c + 14 ≤ d ∨ d + 14 ≤ c) : zs_sc d d S S2 := h.s hd (fun j i hr z => by
  have := zs_rp13 hr
  unfold zs_Ps at z
  omega)
theorem zs_cpn {S : zs_S} {a b n c j : Nat} (h : c ≠ b) : (zs_cp S a b n).1 c j = S.1 c j := if_neg (fun q => h q.1)
/-- a row that becomes another -/
def zs_rb (a b : Nat) (S S2 : zs_S) : Prop := (∀ i, i < 24 → S2.1 (a + 1) i = S.1 (b + 1) i) ∧ S2.1 a 2 = S.1 b 2 ∧ ∀ x i, ¬ (x = a ∧ i = 2) → x ≠ a + 1 → S2.1 x i = S.1 x i ∧ S2.2 x i = S.2 x i
theorem zs_bec {c s : Nat} {S S1 S2 S3 S4 S5 S6 S7 : zs_S} (hs : s = 1 ∨ s = 15 ∨ s = 29 ∨ s = 45) (hcs : c + 14 ≤ s ∨ s + 14 ≤ c) (hc : c = 1 ∨ c = 15 ∨ c = 29 ∨ c = 45) (e1 : S1 = (zs_up (zs_up (zs_up S.1 c 0 (S.1 s 0)) c 1 ((zs_up S.1 c 0 (S.1 s 0)) s 1)) c 2 ((zs_up (zs_up S.1 c 0 (S.1 s 0)) c 1 ((zs_up S.1 c 0 (S.1 s 0)) s 1)) s 2), S.2)) (f2 : zs_fr_W S1 S2) (f3 : zs_fr_W S2 S3) (f4 : zs_fr_W S3 S4) (r5 : zs_rb (c + 8) (s + 8) S4 S5) (r6 : zs_rb (c + 10) (s + 10) S5 S6) (r7 : zs_rb (c + 12) (s + 12) S6 S7) : zs_sc c s S S7 ∧ zs_fP (zs_Ps c) S S7 := by
  have f := (f2.tr f3).tr f4
  have a1 : ∀ x i, (x = c → 2 < i) → S1.1 x i = S.1 x i := fun x i h => by
    rw [e1]
    exact (zs_up_n (by omega)).trans ((zs_up_n (by omega)).trans (zs_up_n (by omega)))
  have z0 : S1.1 c 0 = S.1 s 0 := by rw [e1]; exact (zs_up_n (by omega)).trans ((zs_up_n (by omega)).trans zs_up_s)
  have z1 : S1.1 c 1 = S.1 s 1 := by rw [e1]; exact ((zs_up_n (by omega)).trans zs_up_s).trans (zs_up_n (by omega))
  have z2 : S1.1 c 2 = S.1 s 2 := by rw [e1]; exact zs_up_s.trans ((zs_up_n (by omega)).trans (zs_up_n (by omega)))
  have g : ∀ j i, zs_rp j i → S4.1 (s + j) i = S.1 (s + j) i := fun j i hr => by
    have := zs_rp13 hr
    exact (f _ _ (zs_pqW (zs_rpW hs hr))).1.trans (a1 _ _ (by omega))
  refine ⟨fun j i hr => ?_, fun b i hb hp => ?_⟩
  · have h0 : zs_rp j i := hr
    unfold zs_rp at hr
    rcases hr with ⟨rfl, hi⟩ | ⟨hj, rfl⟩ | ⟨hj, hi⟩
    · rw [(r7.2.2 (c + 0) i (by omega) (by omega)).1, (r6.2.2 (c + 0) i (by omega) (by omega)).1, (r5.2.2 (c + 0) i (by omega) (by omega)).1, (f _ _ (zs_pqW (zs_rpW hc h0))).1]
      obtain rfl | rfl | rfl : i = 0 ∨ i = 1 ∨ i = 2 := by omega
      · exact z0
      · exact z1
      · exact z2
    · rcases hj with rfl | rfl | rfl
      · rw [(r7.2.2 (c + 8) 2 (by omega) (by omega)).1, (r6.2.2 (c + 8) 2 (by omega) (by omega)).1, r5.2.1]; exact g 8 2 h0
      · rw [(r7.2.2 (c + 10) 2 (by omega) (by omega)).1, r6.2.1, (r5.2.2 (s + 10) 2 (by omega) (by omega)).1]; exact g 10 2 h0
      · rw [r7.2.1, (r6.2.2 (s + 12) 2 (by omega) (by omega)).1, (r5.2.2 (s + 12) 2 (by omega) (by omega)).1]; exact g 12 2 h0
    · rcases hj with rfl | rfl | rfl
      · rw [(r7.2.2 (c + 9) i (by omega) (by omega)).1, (r6.2.2 (c + 9) i (by omega) (by omega)).1, show c + 9 = c + 8 + 1 by omega, r5.1 i hi]; exact g 9 i h0
      · rw [(r7.2.2 (c + 11) i (by omega) (by omega)).1, show c + 11 = c + 10 + 1 by omega, r6.1 i hi, (r5.2.2 (s + 10 + 1) i (by omega) (by omega)).1]; exact g 11 i h0
      · rw [show c + 13 = c + 12 + 1 by omega, r7.1 i hi, (r6.2.2 (s + 12 + 1) i (by omega) (by omega)).1, (r5.2.2 (s + 12 + 1) i (by omega) (by omega)).1]; exact g 13 i h0
  · unfold zs_Ps at hp
    have q7 := r7.2.2 b i (by omega) (by omega)
    have q6 := r6.2.2 b i (by omega) (by omega)
    have q5 := r5.2.2 b i (by omega) (by omega)
    have q4 := f b i hb
    have q1 := a1 b i (by omega)
    have q2 : S1.2 = S.2 := by rw [e1]
    exact ⟨q7.1.trans (q6.1.trans (q5.1.trans (q4.1.trans q1))), q7.2.trans (q6.2.trans (q5.2.trans (q4.2.trans (by rw [q2]))))⟩
/-- a row's next place -/
def zs_nw (A m : Nat) (a b c d : Int32) (S S2 : zs_S) : Prop := (S2.1 A (4 * m) = a ∧ S2.1 A (4 * m + 1) = b ∧ S2.1 A (4 * m + 2) = c ∧ S2.1 A (4 * m + 3) = d) ∧ ∀ i, (i < 4 * m ∨ 4 * m + 3 < i) → S2.1 A i = S.1 A i
def zs_q (lo hi : Nat) (v : Int32) : Bool := decide (nI lo ≤ v ∧ v ≤ nI hi)
theorem zs_qT {lo hi : Nat} {v : Int32} (h : nI lo ≤ v ∧ v ≤ nI hi) : zs_q lo hi v = true := decide_eq_true h
theorem zs_qF {lo hi : Nat} {v : Int32} (h : ¬ (nI lo ≤ v ∧ v ≤ nI hi)) : zs_q lo hi v = false := decide_eq_false h
theorem zs_qN {lo hi k : Nat} (h1 : lo ≤ k) (h2 : k ≤ hi) (h3 : hi < 2 ^ 31) : zs_q lo hi (nI k) = true := zs_qT ⟨nI_le h1 (by omega), nI_le h2 h3⟩
def zs_qe (ey : Int32) (v : Int32) : Bool := decide (nI 0 ≤ v ∧ v ≤ ey - nI 1)
theorem zs_qeT {ey v : Int32} (h : nI 0 ≤ v ∧ v ≤ ey - nI 1) : zs_qe ey v = true := decide_eq_true h
theorem zs_qeF {ey v : Int32} (h : ¬ (nI 0 ≤ v ∧ v ≤ ey - nI 1)) : zs_qe ey v = false := decide_eq_false h
set_option maxRecDepth 100000 in
theorem c_rempty_9 (S : zs_S) : zs_Ci MX5_empty [.ref 9] S (fun x S2 => x = S.1 9 2 ∧ S2 = (zs_up S.1 9 2 (nI 0), S.2)) := by
  refine zs_C.of (by decide) (Nat.le_of_ble_eq_true rfl) ?_
  show zs_P MX5_empty 0 [(0, .ref 9)] [] S _
  refine g_aload_n dX5_empty_0 rfl rfl ?_
  refine g_getI 2 (C := RX5) (T := TX5) (N := 3) dX5_empty_1 (by decide) rfl rfl (by decide) rfl fl_RX5_19 ?_
  refine g_istore_n (lv' := [(1, .int (S.1 9 2)), (0, .ref 9)]) dX5_empty_4 rfl (by decide) rfl ?_
  refine g_aload_n dX5_empty_5 rfl rfl ?_
  refine g_iconst (v := (nI 0)) dX5_empty_6 rfl ?_
  refine g_putI 2 (C := RX5) (T := TX5) (N := 3) (ty := .int) dX5_empty_7 (by decide) rfl rfl (by decide) rfl fl_RX5_19 rfl (by decide +kernel) ⟨rfl, rfl⟩ ?_
  refine g_iload_n dX5_empty_10 rfl rfl ?_
  refine g_iret dX5_empty_11 rfl rfl ?_
  exact ⟨_, rfl, rfl, rfl⟩
set_option maxRecDepth 100000 in
theorem c_rempty_11 (S : zs_S) : zs_Ci MX5_empty [.ref 11] S (fun x S2 => x = S.1 11 2 ∧ S2 = (zs_up S.1 11 2 (nI 0), S.2)) := by
  refine zs_C.of (by decide) (Nat.le_of_ble_eq_true rfl) ?_
  show zs_P MX5_empty 0 [(0, .ref 11)] [] S _
  refine g_aload_n dX5_empty_0 rfl rfl ?_
  refine g_getI 2 (C := RX5) (T := TX5) (N := 3) dX5_empty_1 (by decide) rfl rfl (by decide) rfl fl_RX5_19 ?_
  refine g_istore_n (lv' := [(1, .int (S.1 11 2)), (0, .ref 11)]) dX5_empty_4 rfl (by decide) rfl ?_
  refine g_aload_n dX5_empty_5 rfl rfl ?_
  refine g_iconst (v := (nI 0)) dX5_empty_6 rfl ?_
  refine g_putI 2 (C := RX5) (T := TX5) (N := 3) (ty := .int) dX5_empty_7 (by decide) rfl rfl (by decide) rfl fl_RX5_19 rfl (by decide +kernel) ⟨rfl, rfl⟩ ?_
  refine g_iload_n dX5_empty_10 rfl rfl ?_
  refine g_iret dX5_empty_11 rfl rfl ?_
  exact ⟨_, rfl, rfl, rfl⟩
set_option maxRecDepth 100000 in
theorem c_rempty_13 (S : zs_S) : zs_Ci MX5_empty [.ref 13] S (fun x S2 => x = S.1 13 2 ∧ S2 = (zs_up S.1 13 2 (nI 0), S.2)) := by
  refine zs_C.of (by decide) (Nat.le_of_ble_eq_true rfl) ?_
  show zs_P MX5_empty 0 [(0, .ref 13)] [] S _
  refine g_aload_n dX5_empty_0 rfl rfl ?_
  refine g_getI 2 (C := RX5) (T := TX5) (N := 3) dX5_empty_1 (by decide) rfl rfl (by decide) rfl fl_RX5_19 ?_
  refine g_istore_n (lv' := [(1, .int (S.1 13 2)), (0, .ref 13)]) dX5_empty_4 rfl (by decide) rfl ?_
  refine g_aload_n dX5_empty_5 rfl rfl ?_
  refine g_iconst (v := (nI 0)) dX5_empty_6 rfl ?_
  refine g_putI 2 (C := RX5) (T := TX5) (N := 3) (ty := .int) dX5_empty_7 (by decide) rfl rfl (by decide) rfl fl_RX5_19 rfl (by decide +kernel) ⟨rfl, rfl⟩ ?_
  refine g_iload_n dX5_empty_10 rfl rfl ?_
  refine g_iret dX5_empty_11 rfl rfl ?_
  exact ⟨_, rfl, rfl, rfl⟩
set_option maxRecDepth 100000 in
theorem c_rbec_9_23 (S : zs_S) : zs_Cv MX5_become [.ref 9, .ref 23] S (fun S2 => zs_rb 9 23 S S2) := by
  refine zs_C.of (by decide) (Nat.le_of_ble_eq_true rfl) ?_
  show zs_P MX5_become 0 [(0, .ref 9), (1, .ref 23)] [] S _
  refine g_aload_n dX5_become_0 rfl rfl ?_
  refine g_getR 1 (24) (C := RX5) (T := TX5) (N := 3) dX5_become_1 (by decide) rfl rfl (by decide) rfl fl_RX5_9 ?_
  refine g_aload_n dX5_become_4 rfl rfl ?_
  refine g_getR 1 (10) (C := RX5) (T := TX5) (N := 3) dX5_become_5 (by decide) rfl rfl (by decide) rfl fl_RX5_9 ?_
  refine g_callN [.ref 24, .ref 10] [] (x_copyRow S 24 10 24 (by decide) rfl (by decide) rfl (by decide) (by decide)) dX5_become_8 kk_X5_become_X11_copyRow nl_RX5_30 swX11_copyRow rfl rfl (Nat.le_of_ble_eq_true rfl) ?_
  rintro _ _ ⟨rfl, rfl⟩
  refine g_aload_n dX5_become_11 rfl rfl ?_
  refine g_aload_n dX5_become_12 rfl rfl ?_
  refine g_getI 2 (C := RX5) (T := TX5) (N := 3) dX5_become_13 (by decide) rfl rfl (by decide) rfl fl_RX5_19 ?_
  refine g_putI 2 (C := RX5) (T := TX5) (N := 3) (ty := .int) dX5_become_16 (by decide) rfl rfl (by decide) rfl fl_RX5_19 rfl (by decide +kernel) ⟨rfl, rfl⟩ ?_
  refine g_ret dX5_become_19 rfl ?_
  exact ⟨rfl, fun i hi => (zs_up_m (by omega)).trans (if_pos ⟨rfl, hi⟩), zs_up_q.trans (zs_cpn (by decide)), fun x i h1 h2 => ⟨(zs_up_n h1).trans (zs_cpn h2), rfl⟩⟩
set_option maxRecDepth 100000 in
theorem c_rbec_11_25 (S : zs_S) : zs_Cv MX5_become [.ref 11, .ref 25] S (fun S2 => zs_rb 11 25 S S2) := by
  refine zs_C.of (by decide) (Nat.le_of_ble_eq_true rfl) ?_
  show zs_P MX5_become 0 [(0, .ref 11), (1, .ref 25)] [] S _
  refine g_aload_n dX5_become_0 rfl rfl ?_
  refine g_getR 1 (26) (C := RX5) (T := TX5) (N := 3) dX5_become_1 (by decide) rfl rfl (by decide) rfl fl_RX5_9 ?_
  refine g_aload_n dX5_become_4 rfl rfl ?_
  refine g_getR 1 (12) (C := RX5) (T := TX5) (N := 3) dX5_become_5 (by decide) rfl rfl (by decide) rfl fl_RX5_9 ?_
  refine g_callN [.ref 26, .ref 12] [] (x_copyRow S 26 12 24 (by decide) rfl (by decide) rfl (by decide) (by decide)) dX5_become_8 kk_X5_become_X11_copyRow nl_RX5_30 swX11_copyRow rfl rfl (Nat.le_of_ble_eq_true rfl) ?_
  rintro _ _ ⟨rfl, rfl⟩
  refine g_aload_n dX5_become_11 rfl rfl ?_
  refine g_aload_n dX5_become_12 rfl rfl ?_
  refine g_getI 2 (C := RX5) (T := TX5) (N := 3) dX5_become_13 (by decide) rfl rfl (by decide) rfl fl_RX5_19 ?_
  refine g_putI 2 (C := RX5) (T := TX5) (N := 3) (ty := .int) dX5_become_16 (by decide) rfl rfl (by decide) rfl fl_RX5_19 rfl (by decide +kernel) ⟨rfl, rfl⟩ ?_
  refine g_ret dX5_become_19 rfl ?_
  exact ⟨rfl, fun i hi => (zs_up_m (by omega)).trans (if_pos ⟨rfl, hi⟩), zs_up_q.trans (zs_cpn (by decide)), fun x i h1 h2 => ⟨(zs_up_n h1).trans (zs_cpn h2), rfl⟩⟩
set_option maxRecDepth 100000 in
theorem c_rbec_13_27 (S : zs_S) : zs_Cv MX5_become [.ref 13, .ref 27] S (fun S2 => zs_rb 13 27 S S2) := by
  refine zs_C.of (by decide) (Nat.le_of_ble_eq_true rfl) ?_
  show zs_P MX5_become 0 [(0, .ref 13), (1, .ref 27)] [] S _
  refine g_aload_n dX5_become_0 rfl rfl ?_
  refine g_getR 1 (28) (C := RX5) (T := TX5) (N := 3) dX5_become_1 (by decide) rfl rfl (by decide) rfl fl_RX5_9 ?_
  refine g_aload_n dX5_become_4 rfl rfl ?_
  refine g_getR 1 (14) (C := RX5) (T := TX5) (N := 3) dX5_become_5 (by decide) rfl rfl (by decide) rfl fl_RX5_9 ?_
  refine g_callN [.ref 28, .ref 14] [] (x_copyRow S 28 14 24 (by decide) rfl (by decide) rfl (by decide) (by decide)) dX5_become_8 kk_X5_become_X11_copyRow nl_RX5_30 swX11_copyRow rfl rfl (Nat.le_of_ble_eq_true rfl) ?_
  rintro _ _ ⟨rfl, rfl⟩
  refine g_aload_n dX5_become_11 rfl rfl ?_
  refine g_aload_n dX5_become_12 rfl rfl ?_
  refine g_getI 2 (C := RX5) (T := TX5) (N := 3) dX5_become_13 (by decide) rfl rfl (by decide) rfl fl_RX5_19 ?_
  refine g_putI 2 (C := RX5) (T := TX5) (N := 3) (ty := .int) dX5_become_16 (by decide) rfl rfl (by decide) rfl fl_RX5_19 rfl (by decide +kernel) ⟨rfl, rfl⟩ ?_
  refine g_ret dX5_become_19 rfl ?_
  exact ⟨rfl, fun i hi => (zs_up_m (by omega)).trans (if_pos ⟨rfl, hi⟩), zs_up_q.trans (zs_cpn (by decide)), fun x i h1 h2 => ⟨(zs_up_n h1).trans (zs_cpn h2), rfl⟩⟩
set_option maxRecDepth 100000 in
theorem c_rbec_9_37 (S : zs_S) : zs_Cv MX5_become [.ref 9, .ref 37] S (fun S2 => zs_rb 9 37 S S2) := by
  refine zs_C.of (by decide) (Nat.le_of_ble_eq_true rfl) ?_
  show zs_P MX5_become 0 [(0, .ref 9), (1, .ref 37)] [] S _
  refine g_aload_n dX5_become_0 rfl rfl ?_
  refine g_getR 1 (38) (C := RX5) (T := TX5) (N := 3) dX5_become_1 (by decide) rfl rfl (by decide) rfl fl_RX5_9 ?_
  refine g_aload_n dX5_become_4 rfl rfl ?_
  refine g_getR 1 (10) (C := RX5) (T := TX5) (N := 3) dX5_become_5 (by decide) rfl rfl (by decide) rfl fl_RX5_9 ?_
  refine g_callN [.ref 38, .ref 10] [] (x_copyRow S 38 10 24 (by decide) rfl (by decide) rfl (by decide) (by decide)) dX5_become_8 kk_X5_become_X11_copyRow nl_RX5_30 swX11_copyRow rfl rfl (Nat.le_of_ble_eq_true rfl) ?_
  rintro _ _ ⟨rfl, rfl⟩
  refine g_aload_n dX5_become_11 rfl rfl ?_
  refine g_aload_n dX5_become_12 rfl rfl ?_
  refine g_getI 2 (C := RX5) (T := TX5) (N := 3) dX5_become_13 (by decide) rfl rfl (by decide) rfl fl_RX5_19 ?_
  refine g_putI 2 (C := RX5) (T := TX5) (N := 3) (ty := .int) dX5_become_16 (by decide) rfl rfl (by decide) rfl fl_RX5_19 rfl (by decide +kernel) ⟨rfl, rfl⟩ ?_
  refine g_ret dX5_become_19 rfl ?_
  exact ⟨rfl, fun i hi => (zs_up_m (by omega)).trans (if_pos ⟨rfl, hi⟩), zs_up_q.trans (zs_cpn (by decide)), fun x i h1 h2 => ⟨(zs_up_n h1).trans (zs_cpn h2), rfl⟩⟩
set_option maxRecDepth 100000 in
theorem c_rbec_11_39 (S : zs_S) : zs_Cv MX5_become [.ref 11, .ref 39] S (fun S2 => zs_rb 11 39 S S2) := by
  refine zs_C.of (by decide) (Nat.le_of_ble_eq_true rfl) ?_
  show zs_P MX5_become 0 [(0, .ref 11), (1, .ref 39)] [] S _
  refine g_aload_n dX5_become_0 rfl rfl ?_
  refine g_getR 1 (40) (C := RX5) (T := TX5) (N := 3) dX5_become_1 (by decide) rfl rfl (by decide) rfl fl_RX5_9 ?_
  refine g_aload_n dX5_become_4 rfl rfl ?_
  refine g_getR 1 (12) (C := RX5) (T := TX5) (N := 3) dX5_become_5 (by decide) rfl rfl (by decide) rfl fl_RX5_9 ?_
  refine g_callN [.ref 40, .ref 12] [] (x_copyRow S 40 12 24 (by decide) rfl (by decide) rfl (by decide) (by decide)) dX5_become_8 kk_X5_become_X11_copyRow nl_RX5_30 swX11_copyRow rfl rfl (Nat.le_of_ble_eq_true rfl) ?_
  rintro _ _ ⟨rfl, rfl⟩
  refine g_aload_n dX5_become_11 rfl rfl ?_
  refine g_aload_n dX5_become_12 rfl rfl ?_
  refine g_getI 2 (C := RX5) (T := TX5) (N := 3) dX5_become_13 (by decide) rfl rfl (by decide) rfl fl_RX5_19 ?_
  refine g_putI 2 (C := RX5) (T := TX5) (N := 3) (ty := .int) dX5_become_16 (by decide) rfl rfl (by decide) rfl fl_RX5_19 rfl (by decide +kernel) ⟨rfl, rfl⟩ ?_
  refine g_ret dX5_become_19 rfl ?_
  exact ⟨rfl, fun i hi => (zs_up_m (by omega)).trans (if_pos ⟨rfl, hi⟩), zs_up_q.trans (zs_cpn (by decide)), fun x i h1 h2 => ⟨(zs_up_n h1).trans (zs_cpn h2), rfl⟩⟩
set_option maxRecDepth 100000 in
theorem c_rbec_13_41 (S : zs_S) : zs_Cv MX5_become [.ref 13, .ref 41] S (fun S2 => zs_rb 13 41 S S2) := by
  refine zs_C.of (by decide) (Nat.le_of_ble_eq_true rfl) ?_
  show zs_P MX5_become 0 [(0, .ref 13), (1, .ref 41)] [] S _
  refine g_aload_n dX5_become_0 rfl rfl ?_
  refine g_getR 1 (42) (C := RX5) (T := TX5) (N := 3) dX5_become_1 (by decide) rfl rfl (by decide) rfl fl_RX5_9 ?_
  refine g_aload_n dX5_become_4 rfl rfl ?_
  refine g_getR 1 (14) (C := RX5) (T := TX5) (N := 3) dX5_become_5 (by decide) rfl rfl (by decide) rfl fl_RX5_9 ?_
  refine g_callN [.ref 42, .ref 14] [] (x_copyRow S 42 14 24 (by decide) rfl (by decide) rfl (by decide) (by decide)) dX5_become_8 kk_X5_become_X11_copyRow nl_RX5_30 swX11_copyRow rfl rfl (Nat.le_of_ble_eq_true rfl) ?_
  rintro _ _ ⟨rfl, rfl⟩
  refine g_aload_n dX5_become_11 rfl rfl ?_
  refine g_aload_n dX5_become_12 rfl rfl ?_
  refine g_getI 2 (C := RX5) (T := TX5) (N := 3) dX5_become_13 (by decide) rfl rfl (by decide) rfl fl_RX5_19 ?_
  refine g_putI 2 (C := RX5) (T := TX5) (N := 3) (ty := .int) dX5_become_16 (by decide) rfl rfl (by decide) rfl fl_RX5_19 rfl (by decide +kernel) ⟨rfl, rfl⟩ ?_
  refine g_ret dX5_become_19 rfl ?_
  exact ⟨rfl, fun i hi => (zs_up_m (by omega)).trans (if_pos ⟨rfl, hi⟩), zs_up_q.trans (zs_cpn (by decide)), fun x i h1 h2 => ⟨(zs_up_n h1).trans (zs_cpn h2), rfl⟩⟩
set_option maxRecDepth 100000 in
theorem c_rbec_23_9 (S : zs_S) : zs_Cv MX5_become [.ref 23, .ref 9] S (fun S2 => zs_rb 23 9 S S2) := by
  refine zs_C.of (by decide) (Nat.le_of_ble_eq_true rfl) ?_
  show zs_P MX5_become 0 [(0, .ref 23), (1, .ref 9)] [] S _
  refine g_aload_n dX5_become_0 rfl rfl ?_
  refine g_getR 1 (10) (C := RX5) (T := TX5) (N := 3) dX5_become_1 (by decide) rfl rfl (by decide) rfl fl_RX5_9 ?_
  refine g_aload_n dX5_become_4 rfl rfl ?_
  refine g_getR 1 (24) (C := RX5) (T := TX5) (N := 3) dX5_become_5 (by decide) rfl rfl (by decide) rfl fl_RX5_9 ?_
  refine g_callN [.ref 10, .ref 24] [] (x_copyRow S 10 24 24 (by decide) rfl (by decide) rfl (by decide) (by decide)) dX5_become_8 kk_X5_become_X11_copyRow nl_RX5_30 swX11_copyRow rfl rfl (Nat.le_of_ble_eq_true rfl) ?_
  rintro _ _ ⟨rfl, rfl⟩
  refine g_aload_n dX5_become_11 rfl rfl ?_
  refine g_aload_n dX5_become_12 rfl rfl ?_
  refine g_getI 2 (C := RX5) (T := TX5) (N := 3) dX5_become_13 (by decide) rfl rfl (by decide) rfl fl_RX5_19 ?_
  refine g_putI 2 (C := RX5) (T := TX5) (N := 3) (ty := .int) dX5_become_16 (by decide) rfl rfl (by decide) rfl fl_RX5_19 rfl (by decide +kernel) ⟨rfl, rfl⟩ ?_
  refine g_ret dX5_become_19 rfl ?_
  exact ⟨rfl, fun i hi => (zs_up_m (by omega)).trans (if_pos ⟨rfl, hi⟩), zs_up_q.trans (zs_cpn (by decide)), fun x i h1 h2 => ⟨(zs_up_n h1).trans (zs_cpn h2), rfl⟩⟩
set_option maxRecDepth 100000 in
theorem c_rbec_25_11 (S : zs_S) : zs_Cv MX5_become [.ref 25, .ref 11] S (fun S2 => zs_rb 25 11 S S2) := by
  refine zs_C.of (by decide) (Nat.le_of_ble_eq_true rfl) ?_
  show zs_P MX5_become 0 [(0, .ref 25), (1, .ref 11)] [] S _
  refine g_aload_n dX5_become_0 rfl rfl ?_
  refine g_getR 1 (12) (C := RX5) (T := TX5) (N := 3) dX5_become_1 (by decide) rfl rfl (by decide) rfl fl_RX5_9 ?_
  refine g_aload_n dX5_become_4 rfl rfl ?_
  refine g_getR 1 (26) (C := RX5) (T := TX5) (N := 3) dX5_become_5 (by decide) rfl rfl (by decide) rfl fl_RX5_9 ?_
  refine g_callN [.ref 12, .ref 26] [] (x_copyRow S 12 26 24 (by decide) rfl (by decide) rfl (by decide) (by decide)) dX5_become_8 kk_X5_become_X11_copyRow nl_RX5_30 swX11_copyRow rfl rfl (Nat.le_of_ble_eq_true rfl) ?_
  rintro _ _ ⟨rfl, rfl⟩
  refine g_aload_n dX5_become_11 rfl rfl ?_
  refine g_aload_n dX5_become_12 rfl rfl ?_
  refine g_getI 2 (C := RX5) (T := TX5) (N := 3) dX5_become_13 (by decide) rfl rfl (by decide) rfl fl_RX5_19 ?_
  refine g_putI 2 (C := RX5) (T := TX5) (N := 3) (ty := .int) dX5_become_16 (by decide) rfl rfl (by decide) rfl fl_RX5_19 rfl (by decide +kernel) ⟨rfl, rfl⟩ ?_
  refine g_ret dX5_become_19 rfl ?_
  exact ⟨rfl, fun i hi => (zs_up_m (by omega)).trans (if_pos ⟨rfl, hi⟩), zs_up_q.trans (zs_cpn (by decide)), fun x i h1 h2 => ⟨(zs_up_n h1).trans (zs_cpn h2), rfl⟩⟩
set_option maxRecDepth 100000 in
theorem c_rbec_27_13 (S : zs_S) : zs_Cv MX5_become [.ref 27, .ref 13] S (fun S2 => zs_rb 27 13 S S2) := by
  refine zs_C.of (by decide) (Nat.le_of_ble_eq_true rfl) ?_
  show zs_P MX5_become 0 [(0, .ref 27), (1, .ref 13)] [] S _
  refine g_aload_n dX5_become_0 rfl rfl ?_
  refine g_getR 1 (14) (C := RX5) (T := TX5) (N := 3) dX5_become_1 (by decide) rfl rfl (by decide) rfl fl_RX5_9 ?_
  refine g_aload_n dX5_become_4 rfl rfl ?_
  refine g_getR 1 (28) (C := RX5) (T := TX5) (N := 3) dX5_become_5 (by decide) rfl rfl (by decide) rfl fl_RX5_9 ?_
  refine g_callN [.ref 14, .ref 28] [] (x_copyRow S 14 28 24 (by decide) rfl (by decide) rfl (by decide) (by decide)) dX5_become_8 kk_X5_become_X11_copyRow nl_RX5_30 swX11_copyRow rfl rfl (Nat.le_of_ble_eq_true rfl) ?_
  rintro _ _ ⟨rfl, rfl⟩
  refine g_aload_n dX5_become_11 rfl rfl ?_
  refine g_aload_n dX5_become_12 rfl rfl ?_
  refine g_getI 2 (C := RX5) (T := TX5) (N := 3) dX5_become_13 (by decide) rfl rfl (by decide) rfl fl_RX5_19 ?_
  refine g_putI 2 (C := RX5) (T := TX5) (N := 3) (ty := .int) dX5_become_16 (by decide) rfl rfl (by decide) rfl fl_RX5_19 rfl (by decide +kernel) ⟨rfl, rfl⟩ ?_
  refine g_ret dX5_become_19 rfl ?_
  exact ⟨rfl, fun i hi => (zs_up_m (by omega)).trans (if_pos ⟨rfl, hi⟩), zs_up_q.trans (zs_cpn (by decide)), fun x i h1 h2 => ⟨(zs_up_n h1).trans (zs_cpn h2), rfl⟩⟩
set_option maxRecDepth 100000 in
theorem c_rbec_37_9 (S : zs_S) : zs_Cv MX5_become [.ref 37, .ref 9] S (fun S2 => zs_rb 37 9 S S2) := by
  refine zs_C.of (by decide) (Nat.le_of_ble_eq_true rfl) ?_
  show zs_P MX5_become 0 [(0, .ref 37), (1, .ref 9)] [] S _
  refine g_aload_n dX5_become_0 rfl rfl ?_
  refine g_getR 1 (10) (C := RX5) (T := TX5) (N := 3) dX5_become_1 (by decide) rfl rfl (by decide) rfl fl_RX5_9 ?_
  refine g_aload_n dX5_become_4 rfl rfl ?_
  refine g_getR 1 (38) (C := RX5) (T := TX5) (N := 3) dX5_become_5 (by decide) rfl rfl (by decide) rfl fl_RX5_9 ?_
  refine g_callN [.ref 10, .ref 38] [] (x_copyRow S 10 38 24 (by decide) rfl (by decide) rfl (by decide) (by decide)) dX5_become_8 kk_X5_become_X11_copyRow nl_RX5_30 swX11_copyRow rfl rfl (Nat.le_of_ble_eq_true rfl) ?_
  rintro _ _ ⟨rfl, rfl⟩
  refine g_aload_n dX5_become_11 rfl rfl ?_
  refine g_aload_n dX5_become_12 rfl rfl ?_
  refine g_getI 2 (C := RX5) (T := TX5) (N := 3) dX5_become_13 (by decide) rfl rfl (by decide) rfl fl_RX5_19 ?_
  refine g_putI 2 (C := RX5) (T := TX5) (N := 3) (ty := .int) dX5_become_16 (by decide) rfl rfl (by decide) rfl fl_RX5_19 rfl (by decide +kernel) ⟨rfl, rfl⟩ ?_
  refine g_ret dX5_become_19 rfl ?_
  exact ⟨rfl, fun i hi => (zs_up_m (by omega)).trans (if_pos ⟨rfl, hi⟩), zs_up_q.trans (zs_cpn (by decide)), fun x i h1 h2 => ⟨(zs_up_n h1).trans (zs_cpn h2), rfl⟩⟩
set_option maxRecDepth 100000 in
theorem c_rbec_39_11 (S : zs_S) : zs_Cv MX5_become [.ref 39, .ref 11] S (fun S2 => zs_rb 39 11 S S2) := by
  refine zs_C.of (by decide) (Nat.le_of_ble_eq_true rfl) ?_
  show zs_P MX5_become 0 [(0, .ref 39), (1, .ref 11)] [] S _
  refine g_aload_n dX5_become_0 rfl rfl ?_
  refine g_getR 1 (12) (C := RX5) (T := TX5) (N := 3) dX5_become_1 (by decide) rfl rfl (by decide) rfl fl_RX5_9 ?_
  refine g_aload_n dX5_become_4 rfl rfl ?_
  refine g_getR 1 (40) (C := RX5) (T := TX5) (N := 3) dX5_become_5 (by decide) rfl rfl (by decide) rfl fl_RX5_9 ?_
  refine g_callN [.ref 12, .ref 40] [] (x_copyRow S 12 40 24 (by decide) rfl (by decide) rfl (by decide) (by decide)) dX5_become_8 kk_X5_become_X11_copyRow nl_RX5_30 swX11_copyRow rfl rfl (Nat.le_of_ble_eq_true rfl) ?_
  rintro _ _ ⟨rfl, rfl⟩
  refine g_aload_n dX5_become_11 rfl rfl ?_
  refine g_aload_n dX5_become_12 rfl rfl ?_
  refine g_getI 2 (C := RX5) (T := TX5) (N := 3) dX5_become_13 (by decide) rfl rfl (by decide) rfl fl_RX5_19 ?_
  refine g_putI 2 (C := RX5) (T := TX5) (N := 3) (ty := .int) dX5_become_16 (by decide) rfl rfl (by decide) rfl fl_RX5_19 rfl (by decide +kernel) ⟨rfl, rfl⟩ ?_
  refine g_ret dX5_become_19 rfl ?_
  exact ⟨rfl, fun i hi => (zs_up_m (by omega)).trans (if_pos ⟨rfl, hi⟩), zs_up_q.trans (zs_cpn (by decide)), fun x i h1 h2 => ⟨(zs_up_n h1).trans (zs_cpn h2), rfl⟩⟩
set_option maxRecDepth 100000 in
theorem c_rbec_41_13 (S : zs_S) : zs_Cv MX5_become [.ref 41, .ref 13] S (fun S2 => zs_rb 41 13 S S2) := by
  refine zs_C.of (by decide) (Nat.le_of_ble_eq_true rfl) ?_
  show zs_P MX5_become 0 [(0, .ref 41), (1, .ref 13)] [] S _
  refine g_aload_n dX5_become_0 rfl rfl ?_
  refine g_getR 1 (14) (C := RX5) (T := TX5) (N := 3) dX5_become_1 (by decide) rfl rfl (by decide) rfl fl_RX5_9 ?_
  refine g_aload_n dX5_become_4 rfl rfl ?_
  refine g_getR 1 (42) (C := RX5) (T := TX5) (N := 3) dX5_become_5 (by decide) rfl rfl (by decide) rfl fl_RX5_9 ?_
  refine g_callN [.ref 14, .ref 42] [] (x_copyRow S 14 42 24 (by decide) rfl (by decide) rfl (by decide) (by decide)) dX5_become_8 kk_X5_become_X11_copyRow nl_RX5_30 swX11_copyRow rfl rfl (Nat.le_of_ble_eq_true rfl) ?_
  rintro _ _ ⟨rfl, rfl⟩
  refine g_aload_n dX5_become_11 rfl rfl ?_
  refine g_aload_n dX5_become_12 rfl rfl ?_
  refine g_getI 2 (C := RX5) (T := TX5) (N := 3) dX5_become_13 (by decide) rfl rfl (by decide) rfl fl_RX5_19 ?_
  refine g_putI 2 (C := RX5) (T := TX5) (N := 3) (ty := .int) dX5_become_16 (by decide) rfl rfl (by decide) rfl fl_RX5_19 rfl (by decide +kernel) ⟨rfl, rfl⟩ ?_
  refine g_ret dX5_become_19 rfl ?_
  exact ⟨rfl, fun i hi => (zs_up_m (by omega)).trans (if_pos ⟨rfl, hi⟩), zs_up_q.trans (zs_cpn (by decide)), fun x i h1 h2 => ⟨(zs_up_n h1).trans (zs_cpn h2), rfl⟩⟩
set_option maxRecDepth 100000 in
theorem c_rbec_9_53 (S : zs_S) : zs_Cv MX5_become [.ref 9, .ref 53] S (fun S2 => zs_rb 9 53 S S2) := by
  refine zs_C.of (by decide) (Nat.le_of_ble_eq_true rfl) ?_
  show zs_P MX5_become 0 [(0, .ref 9), (1, .ref 53)] [] S _
  refine g_aload_n dX5_become_0 rfl rfl ?_
  refine g_getR 1 (54) (C := RX5) (T := TX5) (N := 3) dX5_become_1 (by decide) rfl rfl (by decide) rfl fl_RX5_9 ?_
  refine g_aload_n dX5_become_4 rfl rfl ?_
  refine g_getR 1 (10) (C := RX5) (T := TX5) (N := 3) dX5_become_5 (by decide) rfl rfl (by decide) rfl fl_RX5_9 ?_
  refine g_callN [.ref 54, .ref 10] [] (x_copyRow S 54 10 24 (by decide) rfl (by decide) rfl (by decide) (by decide)) dX5_become_8 kk_X5_become_X11_copyRow nl_RX5_30 swX11_copyRow rfl rfl (Nat.le_of_ble_eq_true rfl) ?_
  rintro _ _ ⟨rfl, rfl⟩
  refine g_aload_n dX5_become_11 rfl rfl ?_
  refine g_aload_n dX5_become_12 rfl rfl ?_
  refine g_getI 2 (C := RX5) (T := TX5) (N := 3) dX5_become_13 (by decide) rfl rfl (by decide) rfl fl_RX5_19 ?_
  refine g_putI 2 (C := RX5) (T := TX5) (N := 3) (ty := .int) dX5_become_16 (by decide) rfl rfl (by decide) rfl fl_RX5_19 rfl (by decide +kernel) ⟨rfl, rfl⟩ ?_
  refine g_ret dX5_become_19 rfl ?_
  exact ⟨rfl, fun i hi => (zs_up_m (by omega)).trans (if_pos ⟨rfl, hi⟩), zs_up_q.trans (zs_cpn (by decide)), fun x i h1 h2 => ⟨(zs_up_n h1).trans (zs_cpn h2), rfl⟩⟩
set_option maxRecDepth 100000 in
theorem c_rbec_11_55 (S : zs_S) : zs_Cv MX5_become [.ref 11, .ref 55] S (fun S2 => zs_rb 11 55 S S2) := by
  refine zs_C.of (by decide) (Nat.le_of_ble_eq_true rfl) ?_
  show zs_P MX5_become 0 [(0, .ref 11), (1, .ref 55)] [] S _
  refine g_aload_n dX5_become_0 rfl rfl ?_
  refine g_getR 1 (56) (C := RX5) (T := TX5) (N := 3) dX5_become_1 (by decide) rfl rfl (by decide) rfl fl_RX5_9 ?_
  refine g_aload_n dX5_become_4 rfl rfl ?_
  refine g_getR 1 (12) (C := RX5) (T := TX5) (N := 3) dX5_become_5 (by decide) rfl rfl (by decide) rfl fl_RX5_9 ?_
  refine g_callN [.ref 56, .ref 12] [] (x_copyRow S 56 12 24 (by decide) rfl (by decide) rfl (by decide) (by decide)) dX5_become_8 kk_X5_become_X11_copyRow nl_RX5_30 swX11_copyRow rfl rfl (Nat.le_of_ble_eq_true rfl) ?_
  rintro _ _ ⟨rfl, rfl⟩
  refine g_aload_n dX5_become_11 rfl rfl ?_
  refine g_aload_n dX5_become_12 rfl rfl ?_
  refine g_getI 2 (C := RX5) (T := TX5) (N := 3) dX5_become_13 (by decide) rfl rfl (by decide) rfl fl_RX5_19 ?_
  refine g_putI 2 (C := RX5) (T := TX5) (N := 3) (ty := .int) dX5_become_16 (by decide) rfl rfl (by decide) rfl fl_RX5_19 rfl (by decide +kernel) ⟨rfl, rfl⟩ ?_
  refine g_ret dX5_become_19 rfl ?_
  exact ⟨rfl, fun i hi => (zs_up_m (by omega)).trans (if_pos ⟨rfl, hi⟩), zs_up_q.trans (zs_cpn (by decide)), fun x i h1 h2 => ⟨(zs_up_n h1).trans (zs_cpn h2), rfl⟩⟩
set_option maxRecDepth 100000 in
theorem c_rbec_13_57 (S : zs_S) : zs_Cv MX5_become [.ref 13, .ref 57] S (fun S2 => zs_rb 13 57 S S2) := by
  refine zs_C.of (by decide) (Nat.le_of_ble_eq_true rfl) ?_
  show zs_P MX5_become 0 [(0, .ref 13), (1, .ref 57)] [] S _
  refine g_aload_n dX5_become_0 rfl rfl ?_
  refine g_getR 1 (58) (C := RX5) (T := TX5) (N := 3) dX5_become_1 (by decide) rfl rfl (by decide) rfl fl_RX5_9 ?_
  refine g_aload_n dX5_become_4 rfl rfl ?_
  refine g_getR 1 (14) (C := RX5) (T := TX5) (N := 3) dX5_become_5 (by decide) rfl rfl (by decide) rfl fl_RX5_9 ?_
  refine g_callN [.ref 58, .ref 14] [] (x_copyRow S 58 14 24 (by decide) rfl (by decide) rfl (by decide) (by decide)) dX5_become_8 kk_X5_become_X11_copyRow nl_RX5_30 swX11_copyRow rfl rfl (Nat.le_of_ble_eq_true rfl) ?_
  rintro _ _ ⟨rfl, rfl⟩
  refine g_aload_n dX5_become_11 rfl rfl ?_
  refine g_aload_n dX5_become_12 rfl rfl ?_
  refine g_getI 2 (C := RX5) (T := TX5) (N := 3) dX5_become_13 (by decide) rfl rfl (by decide) rfl fl_RX5_19 ?_
  refine g_putI 2 (C := RX5) (T := TX5) (N := 3) (ty := .int) dX5_become_16 (by decide) rfl rfl (by decide) rfl fl_RX5_19 rfl (by decide +kernel) ⟨rfl, rfl⟩ ?_
  refine g_ret dX5_become_19 rfl ?_
  exact ⟨rfl, fun i hi => (zs_up_m (by omega)).trans (if_pos ⟨rfl, hi⟩), zs_up_q.trans (zs_cpn (by decide)), fun x i h1 h2 => ⟨(zs_up_n h1).trans (zs_cpn h2), rfl⟩⟩
set_option maxRecDepth 100000 in
theorem c_become_1_15 (S : zs_S) : zs_Cv MX6_become [.ref 1, .ref 15] S (fun S2 => zs_sc 1 15 S S2 ∧ zs_fP (zs_Ps 1) S S2) := by
  refine zs_C.of (by decide) (Nat.le_of_ble_eq_true rfl) ?_
  show zs_P MX6_become 0 [(0, .ref 1), (1, .ref 15)] [] S _
  refine g_aload_n dX6_become_0 rfl rfl ?_
  refine g_aload_n dX6_become_1 rfl rfl ?_
  refine g_getI 0 (C := RX6) (T := TX6) (N := 9) dX6_become_2 (by decide) rfl rfl (by decide) rfl fl_RX6_9 ?_
  refine g_putI 0 (C := RX6) (T := TX6) (N := 9) (ty := .int) dX6_become_5 (by decide) rfl rfl (by decide) rfl fl_RX6_9 rfl (by decide +kernel) ⟨rfl, rfl⟩ ?_
  refine g_aload_n dX6_become_8 rfl rfl ?_
  refine g_aload_n dX6_become_9 rfl rfl ?_
  refine g_getI 1 (C := RX6) (T := TX6) (N := 9) dX6_become_10 (by decide) rfl rfl (by decide) rfl fl_RX6_48 ?_
  refine g_putI 1 (C := RX6) (T := TX6) (N := 9) (ty := .int) dX6_become_13 (by decide) rfl rfl (by decide) rfl fl_RX6_48 rfl (by decide +kernel) ⟨rfl, rfl⟩ ?_
  refine g_aload_n dX6_become_16 rfl rfl ?_
  refine g_aload_n dX6_become_17 rfl rfl ?_
  refine g_getI 2 (C := RX6) (T := TX6) (N := 9) dX6_become_18 (by decide) rfl rfl (by decide) rfl fl_RX6_51 ?_
  refine g_putI 2 (C := RX6) (T := TX6) (N := 9) (ty := .int) dX6_become_21 (by decide) rfl rfl (by decide) rfl fl_RX6_51 rfl (by decide +kernel) ⟨rfl, rfl⟩ ?_
  refine g_aload_n dX6_become_24 rfl rfl ?_
  refine g_getR 3 (16) (C := RX6) (T := TX6) (N := 9) dX6_become_25 (by decide) rfl rfl (by decide) rfl fl_RX6_15 ?_
  refine g_aload_n dX6_become_28 rfl rfl ?_
  refine g_getR 3 (2) (C := RX6) (T := TX6) (N := 9) dX6_become_29 (by decide) rfl rfl (by decide) rfl fl_RX6_15 ?_
  refine g_callN [.ref 16, .ref 2] [] (v_copyRow_W 16 2 5 (by decide) rfl (by decide) rfl (by decide) (by decide) ⟨by decide, by decide, by decide⟩ (zs_up (zs_up (zs_up S.1 1 0 (S.1 15 0), S.2).1 1 1 ((zs_up S.1 1 0 (S.1 15 0), S.2).1 15 1), (zs_up S.1 1 0 (S.1 15 0), S.2).2).1 1 2 ((zs_up (zs_up S.1 1 0 (S.1 15 0), S.2).1 1 1 ((zs_up S.1 1 0 (S.1 15 0), S.2).1 15 1), (zs_up S.1 1 0 (S.1 15 0), S.2).2).1 15 2), (zs_up (zs_up S.1 1 0 (S.1 15 0), S.2).1 1 1 ((zs_up S.1 1 0 (S.1 15 0), S.2).1 15 1), (zs_up S.1 1 0 (S.1 15 0), S.2).2).2)) dX6_become_32 kk_X6_become_X11_copyRow nl_RX6_67 swX11_copyRow rfl rfl (Nat.le_of_ble_eq_true rfl) ?_
  rintro _ S1 ⟨rfl, fS1⟩
  refine g_aload_n dX6_become_35 rfl rfl ?_
  refine g_getR 4 (3) (C := RX6) (T := TX6) (N := 9) dX6_become_36 (by decide) rfl rfl (by decide) rfl fl_RX6_22 ?_
  refine g_aload_n dX6_become_39 rfl rfl ?_
  refine g_getR 4 (17) (C := RX6) (T := TX6) (N := 9) dX6_become_40 (by decide) rfl rfl (by decide) rfl fl_RX6_22 ?_
  refine g_callV (T := TX3) (NN := 6) [] (v_X3_become_3_17_W S1) dX6_become_43 kk_X6_become_X3_become ml_RX6_71 mwX3_become ewX3_become (by decide) rfl rfl rfl rfl (Nat.le_of_ble_eq_true rfl) ?_
  rintro _ S3 ⟨rfl, fS3⟩
  refine g_aload_n dX6_become_46 rfl rfl ?_
  refine g_getR 5 (7) (C := RX6) (T := TX6) (N := 9) dX6_become_47 (by decide) rfl rfl (by decide) rfl fl_RX6_29 ?_
  refine g_aload_n dX6_become_50 rfl rfl ?_
  refine g_getR 5 (21) (C := RX6) (T := TX6) (N := 9) dX6_become_51 (by decide) rfl rfl (by decide) rfl fl_RX6_29 ?_
  refine g_callV (T := TX4) (NN := 2) [] (v_X4_become_7_21_W S3) dX6_become_54 kk_X6_become_X4_become ml_RX6_75 mwX4_become ewX4_become (by decide) rfl rfl rfl rfl (Nat.le_of_ble_eq_true rfl) ?_
  rintro _ S5 ⟨rfl, fS5⟩
  refine g_aload_n dX6_become_57 rfl rfl ?_
  refine g_getR 6 (9) (C := RX6) (T := TX6) (N := 9) dX6_become_58 (by decide) rfl rfl (by decide) rfl fl_RX6_38 ?_
  refine g_aload_n dX6_become_61 rfl rfl ?_
  refine g_getR 6 (23) (C := RX6) (T := TX6) (N := 9) dX6_become_62 (by decide) rfl rfl (by decide) rfl fl_RX6_38 ?_
  refine g_callV (T := TX5) (NN := 3) [] (c_rbec_9_23 S5) dX6_become_65 kk_X6_become_X5_become ml_RX6_78 mwX5_become ewX5_become (by decide) rfl rfl rfl rfl (Nat.le_of_ble_eq_true rfl) ?_
  rintro _ S7 ⟨rfl, rS7⟩
  refine g_aload_n dX6_become_68 rfl rfl ?_
  refine g_getR 7 (11) (C := RX6) (T := TX6) (N := 9) dX6_become_69 (by decide) rfl rfl (by decide) rfl fl_RX6_42 ?_
  refine g_aload_n dX6_become_72 rfl rfl ?_
  refine g_getR 7 (25) (C := RX6) (T := TX6) (N := 9) dX6_become_73 (by decide) rfl rfl (by decide) rfl fl_RX6_42 ?_
  refine g_callV (T := TX5) (NN := 3) [] (c_rbec_11_25 S7) dX6_become_76 kk_X6_become_X5_become ml_RX6_78 mwX5_become ewX5_become (by decide) rfl rfl rfl rfl (Nat.le_of_ble_eq_true rfl) ?_
  rintro _ S8 ⟨rfl, rS8⟩
  refine g_aload_n dX6_become_79 rfl rfl ?_
  refine g_getR 8 (13) (C := RX6) (T := TX6) (N := 9) dX6_become_80 (by decide) rfl rfl (by decide) rfl fl_RX6_45 ?_
  refine g_aload_n dX6_become_83 rfl rfl ?_
  refine g_getR 8 (27) (C := RX6) (T := TX6) (N := 9) dX6_become_84 (by decide) rfl rfl (by decide) rfl fl_RX6_45 ?_
  refine g_callV (T := TX5) (NN := 3) [] (c_rbec_13_27 S8) dX6_become_87 kk_X6_become_X5_become ml_RX6_78 mwX5_become ewX5_become (by decide) rfl rfl rfl rfl (Nat.le_of_ble_eq_true rfl) ?_
  rintro _ S9 ⟨rfl, rS9⟩
  refine g_ret dX6_become_90 rfl ?_
  exact ⟨rfl, zs_bec (by omega) (by omega) (by omega) rfl fS1 fS3 fS5 rS7 rS8 rS9⟩
set_option maxRecDepth 100000 in
theorem c_become_1_29 (S : zs_S) : zs_Cv MX6_become [.ref 1, .ref 29] S (fun S2 => zs_sc 1 29 S S2 ∧ zs_fP (zs_Ps 1) S S2) := by
  refine zs_C.of (by decide) (Nat.le_of_ble_eq_true rfl) ?_
  show zs_P MX6_become 0 [(0, .ref 1), (1, .ref 29)] [] S _
  refine g_aload_n dX6_become_0 rfl rfl ?_
  refine g_aload_n dX6_become_1 rfl rfl ?_
  refine g_getI 0 (C := RX6) (T := TX6) (N := 9) dX6_become_2 (by decide) rfl rfl (by decide) rfl fl_RX6_9 ?_
  refine g_putI 0 (C := RX6) (T := TX6) (N := 9) (ty := .int) dX6_become_5 (by decide) rfl rfl (by decide) rfl fl_RX6_9 rfl (by decide +kernel) ⟨rfl, rfl⟩ ?_
  refine g_aload_n dX6_become_8 rfl rfl ?_
  refine g_aload_n dX6_become_9 rfl rfl ?_
  refine g_getI 1 (C := RX6) (T := TX6) (N := 9) dX6_become_10 (by decide) rfl rfl (by decide) rfl fl_RX6_48 ?_
  refine g_putI 1 (C := RX6) (T := TX6) (N := 9) (ty := .int) dX6_become_13 (by decide) rfl rfl (by decide) rfl fl_RX6_48 rfl (by decide +kernel) ⟨rfl, rfl⟩ ?_
  refine g_aload_n dX6_become_16 rfl rfl ?_
  refine g_aload_n dX6_become_17 rfl rfl ?_
  refine g_getI 2 (C := RX6) (T := TX6) (N := 9) dX6_become_18 (by decide) rfl rfl (by decide) rfl fl_RX6_51 ?_
  refine g_putI 2 (C := RX6) (T := TX6) (N := 9) (ty := .int) dX6_become_21 (by decide) rfl rfl (by decide) rfl fl_RX6_51 rfl (by decide +kernel) ⟨rfl, rfl⟩ ?_
  refine g_aload_n dX6_become_24 rfl rfl ?_
  refine g_getR 3 (30) (C := RX6) (T := TX6) (N := 9) dX6_become_25 (by decide) rfl rfl (by decide) rfl fl_RX6_15 ?_
  refine g_aload_n dX6_become_28 rfl rfl ?_
  refine g_getR 3 (2) (C := RX6) (T := TX6) (N := 9) dX6_become_29 (by decide) rfl rfl (by decide) rfl fl_RX6_15 ?_
  refine g_callN [.ref 30, .ref 2] [] (v_copyRow_W 30 2 5 (by decide) rfl (by decide) rfl (by decide) (by decide) ⟨by decide, by decide, by decide⟩ (zs_up (zs_up (zs_up S.1 1 0 (S.1 29 0), S.2).1 1 1 ((zs_up S.1 1 0 (S.1 29 0), S.2).1 29 1), (zs_up S.1 1 0 (S.1 29 0), S.2).2).1 1 2 ((zs_up (zs_up S.1 1 0 (S.1 29 0), S.2).1 1 1 ((zs_up S.1 1 0 (S.1 29 0), S.2).1 29 1), (zs_up S.1 1 0 (S.1 29 0), S.2).2).1 29 2), (zs_up (zs_up S.1 1 0 (S.1 29 0), S.2).1 1 1 ((zs_up S.1 1 0 (S.1 29 0), S.2).1 29 1), (zs_up S.1 1 0 (S.1 29 0), S.2).2).2)) dX6_become_32 kk_X6_become_X11_copyRow nl_RX6_67 swX11_copyRow rfl rfl (Nat.le_of_ble_eq_true rfl) ?_
  rintro _ S1 ⟨rfl, fS1⟩
  refine g_aload_n dX6_become_35 rfl rfl ?_
  refine g_getR 4 (3) (C := RX6) (T := TX6) (N := 9) dX6_become_36 (by decide) rfl rfl (by decide) rfl fl_RX6_22 ?_
  refine g_aload_n dX6_become_39 rfl rfl ?_
  refine g_getR 4 (31) (C := RX6) (T := TX6) (N := 9) dX6_become_40 (by decide) rfl rfl (by decide) rfl fl_RX6_22 ?_
  refine g_callV (T := TX3) (NN := 6) [] (v_X3_become_3_31_W S1) dX6_become_43 kk_X6_become_X3_become ml_RX6_71 mwX3_become ewX3_become (by decide) rfl rfl rfl rfl (Nat.le_of_ble_eq_true rfl) ?_
  rintro _ S3 ⟨rfl, fS3⟩
  refine g_aload_n dX6_become_46 rfl rfl ?_
  refine g_getR 5 (7) (C := RX6) (T := TX6) (N := 9) dX6_become_47 (by decide) rfl rfl (by decide) rfl fl_RX6_29 ?_
  refine g_aload_n dX6_become_50 rfl rfl ?_
  refine g_getR 5 (35) (C := RX6) (T := TX6) (N := 9) dX6_become_51 (by decide) rfl rfl (by decide) rfl fl_RX6_29 ?_
  refine g_callV (T := TX4) (NN := 2) [] (v_X4_become_7_35_W S3) dX6_become_54 kk_X6_become_X4_become ml_RX6_75 mwX4_become ewX4_become (by decide) rfl rfl rfl rfl (Nat.le_of_ble_eq_true rfl) ?_
  rintro _ S5 ⟨rfl, fS5⟩
  refine g_aload_n dX6_become_57 rfl rfl ?_
  refine g_getR 6 (9) (C := RX6) (T := TX6) (N := 9) dX6_become_58 (by decide) rfl rfl (by decide) rfl fl_RX6_38 ?_
  refine g_aload_n dX6_become_61 rfl rfl ?_
  refine g_getR 6 (37) (C := RX6) (T := TX6) (N := 9) dX6_become_62 (by decide) rfl rfl (by decide) rfl fl_RX6_38 ?_
  refine g_callV (T := TX5) (NN := 3) [] (c_rbec_9_37 S5) dX6_become_65 kk_X6_become_X5_become ml_RX6_78 mwX5_become ewX5_become (by decide) rfl rfl rfl rfl (Nat.le_of_ble_eq_true rfl) ?_
  rintro _ S7 ⟨rfl, rS7⟩
  refine g_aload_n dX6_become_68 rfl rfl ?_
  refine g_getR 7 (11) (C := RX6) (T := TX6) (N := 9) dX6_become_69 (by decide) rfl rfl (by decide) rfl fl_RX6_42 ?_
  refine g_aload_n dX6_become_72 rfl rfl ?_
  refine g_getR 7 (39) (C := RX6) (T := TX6) (N := 9) dX6_become_73 (by decide) rfl rfl (by decide) rfl fl_RX6_42 ?_
  refine g_callV (T := TX5) (NN := 3) [] (c_rbec_11_39 S7) dX6_become_76 kk_X6_become_X5_become ml_RX6_78 mwX5_become ewX5_become (by decide) rfl rfl rfl rfl (Nat.le_of_ble_eq_true rfl) ?_
  rintro _ S8 ⟨rfl, rS8⟩
  refine g_aload_n dX6_become_79 rfl rfl ?_
  refine g_getR 8 (13) (C := RX6) (T := TX6) (N := 9) dX6_become_80 (by decide) rfl rfl (by decide) rfl fl_RX6_45 ?_
  refine g_aload_n dX6_become_83 rfl rfl ?_
  refine g_getR 8 (41) (C := RX6) (T := TX6) (N := 9) dX6_become_84 (by decide) rfl rfl (by decide) rfl fl_RX6_45 ?_
  refine g_callV (T := TX5) (NN := 3) [] (c_rbec_13_41 S8) dX6_become_87 kk_X6_become_X5_become ml_RX6_78 mwX5_become ewX5_become (by decide) rfl rfl rfl rfl (Nat.le_of_ble_eq_true rfl) ?_
  rintro _ S9 ⟨rfl, rS9⟩
  refine g_ret dX6_become_90 rfl ?_
  exact ⟨rfl, zs_bec (by omega) (by omega) (by omega) rfl fS1 fS3 fS5 rS7 rS8 rS9⟩
set_option maxRecDepth 100000 in
theorem c_become_15_1 (S : zs_S) : zs_Cv MX6_become [.ref 15, .ref 1] S (fun S2 => zs_sc 15 1 S S2 ∧ zs_fP (zs_Ps 15) S S2) := by
  refine zs_C.of (by decide) (Nat.le_of_ble_eq_true rfl) ?_
  show zs_P MX6_become 0 [(0, .ref 15), (1, .ref 1)] [] S _
  refine g_aload_n dX6_become_0 rfl rfl ?_
  refine g_aload_n dX6_become_1 rfl rfl ?_
  refine g_getI 0 (C := RX6) (T := TX6) (N := 9) dX6_become_2 (by decide) rfl rfl (by decide) rfl fl_RX6_9 ?_
  refine g_putI 0 (C := RX6) (T := TX6) (N := 9) (ty := .int) dX6_become_5 (by decide) rfl rfl (by decide) rfl fl_RX6_9 rfl (by decide +kernel) ⟨rfl, rfl⟩ ?_
  refine g_aload_n dX6_become_8 rfl rfl ?_
  refine g_aload_n dX6_become_9 rfl rfl ?_
  refine g_getI 1 (C := RX6) (T := TX6) (N := 9) dX6_become_10 (by decide) rfl rfl (by decide) rfl fl_RX6_48 ?_
  refine g_putI 1 (C := RX6) (T := TX6) (N := 9) (ty := .int) dX6_become_13 (by decide) rfl rfl (by decide) rfl fl_RX6_48 rfl (by decide +kernel) ⟨rfl, rfl⟩ ?_
  refine g_aload_n dX6_become_16 rfl rfl ?_
  refine g_aload_n dX6_become_17 rfl rfl ?_
  refine g_getI 2 (C := RX6) (T := TX6) (N := 9) dX6_become_18 (by decide) rfl rfl (by decide) rfl fl_RX6_51 ?_
  refine g_putI 2 (C := RX6) (T := TX6) (N := 9) (ty := .int) dX6_become_21 (by decide) rfl rfl (by decide) rfl fl_RX6_51 rfl (by decide +kernel) ⟨rfl, rfl⟩ ?_
  refine g_aload_n dX6_become_24 rfl rfl ?_
  refine g_getR 3 (2) (C := RX6) (T := TX6) (N := 9) dX6_become_25 (by decide) rfl rfl (by decide) rfl fl_RX6_15 ?_
  refine g_aload_n dX6_become_28 rfl rfl ?_
  refine g_getR 3 (16) (C := RX6) (T := TX6) (N := 9) dX6_become_29 (by decide) rfl rfl (by decide) rfl fl_RX6_15 ?_
  refine g_callN [.ref 2, .ref 16] [] (v_copyRow_W 2 16 5 (by decide) rfl (by decide) rfl (by decide) (by decide) ⟨by decide, by decide, by decide⟩ (zs_up (zs_up (zs_up S.1 15 0 (S.1 1 0), S.2).1 15 1 ((zs_up S.1 15 0 (S.1 1 0), S.2).1 1 1), (zs_up S.1 15 0 (S.1 1 0), S.2).2).1 15 2 ((zs_up (zs_up S.1 15 0 (S.1 1 0), S.2).1 15 1 ((zs_up S.1 15 0 (S.1 1 0), S.2).1 1 1), (zs_up S.1 15 0 (S.1 1 0), S.2).2).1 1 2), (zs_up (zs_up S.1 15 0 (S.1 1 0), S.2).1 15 1 ((zs_up S.1 15 0 (S.1 1 0), S.2).1 1 1), (zs_up S.1 15 0 (S.1 1 0), S.2).2).2)) dX6_become_32 kk_X6_become_X11_copyRow nl_RX6_67 swX11_copyRow rfl rfl (Nat.le_of_ble_eq_true rfl) ?_
  rintro _ S1 ⟨rfl, fS1⟩
  refine g_aload_n dX6_become_35 rfl rfl ?_
  refine g_getR 4 (17) (C := RX6) (T := TX6) (N := 9) dX6_become_36 (by decide) rfl rfl (by decide) rfl fl_RX6_22 ?_
  refine g_aload_n dX6_become_39 rfl rfl ?_
  refine g_getR 4 (3) (C := RX6) (T := TX6) (N := 9) dX6_become_40 (by decide) rfl rfl (by decide) rfl fl_RX6_22 ?_
  refine g_callV (T := TX3) (NN := 6) [] (v_X3_become_17_3_W S1) dX6_become_43 kk_X6_become_X3_become ml_RX6_71 mwX3_become ewX3_become (by decide) rfl rfl rfl rfl (Nat.le_of_ble_eq_true rfl) ?_
  rintro _ S3 ⟨rfl, fS3⟩
  refine g_aload_n dX6_become_46 rfl rfl ?_
  refine g_getR 5 (21) (C := RX6) (T := TX6) (N := 9) dX6_become_47 (by decide) rfl rfl (by decide) rfl fl_RX6_29 ?_
  refine g_aload_n dX6_become_50 rfl rfl ?_
  refine g_getR 5 (7) (C := RX6) (T := TX6) (N := 9) dX6_become_51 (by decide) rfl rfl (by decide) rfl fl_RX6_29 ?_
  refine g_callV (T := TX4) (NN := 2) [] (v_X4_become_21_7_W S3) dX6_become_54 kk_X6_become_X4_become ml_RX6_75 mwX4_become ewX4_become (by decide) rfl rfl rfl rfl (Nat.le_of_ble_eq_true rfl) ?_
  rintro _ S5 ⟨rfl, fS5⟩
  refine g_aload_n dX6_become_57 rfl rfl ?_
  refine g_getR 6 (23) (C := RX6) (T := TX6) (N := 9) dX6_become_58 (by decide) rfl rfl (by decide) rfl fl_RX6_38 ?_
  refine g_aload_n dX6_become_61 rfl rfl ?_
  refine g_getR 6 (9) (C := RX6) (T := TX6) (N := 9) dX6_become_62 (by decide) rfl rfl (by decide) rfl fl_RX6_38 ?_
  refine g_callV (T := TX5) (NN := 3) [] (c_rbec_23_9 S5) dX6_become_65 kk_X6_become_X5_become ml_RX6_78 mwX5_become ewX5_become (by decide) rfl rfl rfl rfl (Nat.le_of_ble_eq_true rfl) ?_
  rintro _ S7 ⟨rfl, rS7⟩
  refine g_aload_n dX6_become_68 rfl rfl ?_
  refine g_getR 7 (25) (C := RX6) (T := TX6) (N := 9) dX6_become_69 (by decide) rfl rfl (by decide) rfl fl_RX6_42 ?_
  refine g_aload_n dX6_become_72 rfl rfl ?_
  refine g_getR 7 (11) (C := RX6) (T := TX6) (N := 9) dX6_become_73 (by decide) rfl rfl (by decide) rfl fl_RX6_42 ?_
  refine g_callV (T := TX5) (NN := 3) [] (c_rbec_25_11 S7) dX6_become_76 kk_X6_become_X5_become ml_RX6_78 mwX5_become ewX5_become (by decide) rfl rfl rfl rfl (Nat.le_of_ble_eq_true rfl) ?_
  rintro _ S8 ⟨rfl, rS8⟩
  refine g_aload_n dX6_become_79 rfl rfl ?_
  refine g_getR 8 (27) (C := RX6) (T := TX6) (N := 9) dX6_become_80 (by decide) rfl rfl (by decide) rfl fl_RX6_45 ?_
  refine g_aload_n dX6_become_83 rfl rfl ?_
  refine g_getR 8 (13) (C := RX6) (T := TX6) (N := 9) dX6_become_84 (by decide) rfl rfl (by decide) rfl fl_RX6_45 ?_
  refine g_callV (T := TX5) (NN := 3) [] (c_rbec_27_13 S8) dX6_become_87 kk_X6_become_X5_become ml_RX6_78 mwX5_become ewX5_become (by decide) rfl rfl rfl rfl (Nat.le_of_ble_eq_true rfl) ?_
  rintro _ S9 ⟨rfl, rS9⟩
  refine g_ret dX6_become_90 rfl ?_
  exact ⟨rfl, zs_bec (by omega) (by omega) (by omega) rfl fS1 fS3 fS5 rS7 rS8 rS9⟩
set_option maxRecDepth 100000 in
theorem c_become_29_1 (S : zs_S) : zs_Cv MX6_become [.ref 29, .ref 1] S (fun S2 => zs_sc 29 1 S S2 ∧ zs_fP (zs_Ps 29) S S2) := by
  refine zs_C.of (by decide) (Nat.le_of_ble_eq_true rfl) ?_
  show zs_P MX6_become 0 [(0, .ref 29), (1, .ref 1)] [] S _
  refine g_aload_n dX6_become_0 rfl rfl ?_
  refine g_aload_n dX6_become_1 rfl rfl ?_
  refine g_getI 0 (C := RX6) (T := TX6) (N := 9) dX6_become_2 (by decide) rfl rfl (by decide) rfl fl_RX6_9 ?_
  refine g_putI 0 (C := RX6) (T := TX6) (N := 9) (ty := .int) dX6_become_5 (by decide) rfl rfl (by decide) rfl fl_RX6_9 rfl (by decide +kernel) ⟨rfl, rfl⟩ ?_
  refine g_aload_n dX6_become_8 rfl rfl ?_
  refine g_aload_n dX6_become_9 rfl rfl ?_
  refine g_getI 1 (C := RX6) (T := TX6) (N := 9) dX6_become_10 (by decide) rfl rfl (by decide) rfl fl_RX6_48 ?_
  refine g_putI 1 (C := RX6) (T := TX6) (N := 9) (ty := .int) dX6_become_13 (by decide) rfl rfl (by decide) rfl fl_RX6_48 rfl (by decide +kernel) ⟨rfl, rfl⟩ ?_
  refine g_aload_n dX6_become_16 rfl rfl ?_
  refine g_aload_n dX6_become_17 rfl rfl ?_
  refine g_getI 2 (C := RX6) (T := TX6) (N := 9) dX6_become_18 (by decide) rfl rfl (by decide) rfl fl_RX6_51 ?_
  refine g_putI 2 (C := RX6) (T := TX6) (N := 9) (ty := .int) dX6_become_21 (by decide) rfl rfl (by decide) rfl fl_RX6_51 rfl (by decide +kernel) ⟨rfl, rfl⟩ ?_
  refine g_aload_n dX6_become_24 rfl rfl ?_
  refine g_getR 3 (2) (C := RX6) (T := TX6) (N := 9) dX6_become_25 (by decide) rfl rfl (by decide) rfl fl_RX6_15 ?_
  refine g_aload_n dX6_become_28 rfl rfl ?_
  refine g_getR 3 (30) (C := RX6) (T := TX6) (N := 9) dX6_become_29 (by decide) rfl rfl (by decide) rfl fl_RX6_15 ?_
  refine g_callN [.ref 2, .ref 30] [] (v_copyRow_W 2 30 5 (by decide) rfl (by decide) rfl (by decide) (by decide) ⟨by decide, by decide, by decide⟩ (zs_up (zs_up (zs_up S.1 29 0 (S.1 1 0), S.2).1 29 1 ((zs_up S.1 29 0 (S.1 1 0), S.2).1 1 1), (zs_up S.1 29 0 (S.1 1 0), S.2).2).1 29 2 ((zs_up (zs_up S.1 29 0 (S.1 1 0), S.2).1 29 1 ((zs_up S.1 29 0 (S.1 1 0), S.2).1 1 1), (zs_up S.1 29 0 (S.1 1 0), S.2).2).1 1 2), (zs_up (zs_up S.1 29 0 (S.1 1 0), S.2).1 29 1 ((zs_up S.1 29 0 (S.1 1 0), S.2).1 1 1), (zs_up S.1 29 0 (S.1 1 0), S.2).2).2)) dX6_become_32 kk_X6_become_X11_copyRow nl_RX6_67 swX11_copyRow rfl rfl (Nat.le_of_ble_eq_true rfl) ?_
  rintro _ S1 ⟨rfl, fS1⟩
  refine g_aload_n dX6_become_35 rfl rfl ?_
  refine g_getR 4 (31) (C := RX6) (T := TX6) (N := 9) dX6_become_36 (by decide) rfl rfl (by decide) rfl fl_RX6_22 ?_
  refine g_aload_n dX6_become_39 rfl rfl ?_
  refine g_getR 4 (3) (C := RX6) (T := TX6) (N := 9) dX6_become_40 (by decide) rfl rfl (by decide) rfl fl_RX6_22 ?_
  refine g_callV (T := TX3) (NN := 6) [] (v_X3_become_31_3_W S1) dX6_become_43 kk_X6_become_X3_become ml_RX6_71 mwX3_become ewX3_become (by decide) rfl rfl rfl rfl (Nat.le_of_ble_eq_true rfl) ?_
  rintro _ S3 ⟨rfl, fS3⟩
  refine g_aload_n dX6_become_46 rfl rfl ?_
  refine g_getR 5 (35) (C := RX6) (T := TX6) (N := 9) dX6_become_47 (by decide) rfl rfl (by decide) rfl fl_RX6_29 ?_
  refine g_aload_n dX6_become_50 rfl rfl ?_
  refine g_getR 5 (7) (C := RX6) (T := TX6) (N := 9) dX6_become_51 (by decide) rfl rfl (by decide) rfl fl_RX6_29 ?_
  refine g_callV (T := TX4) (NN := 2) [] (v_X4_become_35_7_W S3) dX6_become_54 kk_X6_become_X4_become ml_RX6_75 mwX4_become ewX4_become (by decide) rfl rfl rfl rfl (Nat.le_of_ble_eq_true rfl) ?_
  rintro _ S5 ⟨rfl, fS5⟩
  refine g_aload_n dX6_become_57 rfl rfl ?_
  refine g_getR 6 (37) (C := RX6) (T := TX6) (N := 9) dX6_become_58 (by decide) rfl rfl (by decide) rfl fl_RX6_38 ?_
  refine g_aload_n dX6_become_61 rfl rfl ?_
  refine g_getR 6 (9) (C := RX6) (T := TX6) (N := 9) dX6_become_62 (by decide) rfl rfl (by decide) rfl fl_RX6_38 ?_
  refine g_callV (T := TX5) (NN := 3) [] (c_rbec_37_9 S5) dX6_become_65 kk_X6_become_X5_become ml_RX6_78 mwX5_become ewX5_become (by decide) rfl rfl rfl rfl (Nat.le_of_ble_eq_true rfl) ?_
  rintro _ S7 ⟨rfl, rS7⟩
  refine g_aload_n dX6_become_68 rfl rfl ?_
  refine g_getR 7 (39) (C := RX6) (T := TX6) (N := 9) dX6_become_69 (by decide) rfl rfl (by decide) rfl fl_RX6_42 ?_
  refine g_aload_n dX6_become_72 rfl rfl ?_
  refine g_getR 7 (11) (C := RX6) (T := TX6) (N := 9) dX6_become_73 (by decide) rfl rfl (by decide) rfl fl_RX6_42 ?_
  refine g_callV (T := TX5) (NN := 3) [] (c_rbec_39_11 S7) dX6_become_76 kk_X6_become_X5_become ml_RX6_78 mwX5_become ewX5_become (by decide) rfl rfl rfl rfl (Nat.le_of_ble_eq_true rfl) ?_
  rintro _ S8 ⟨rfl, rS8⟩
  refine g_aload_n dX6_become_79 rfl rfl ?_
  refine g_getR 8 (41) (C := RX6) (T := TX6) (N := 9) dX6_become_80 (by decide) rfl rfl (by decide) rfl fl_RX6_45 ?_
  refine g_aload_n dX6_become_83 rfl rfl ?_
  refine g_getR 8 (13) (C := RX6) (T := TX6) (N := 9) dX6_become_84 (by decide) rfl rfl (by decide) rfl fl_RX6_45 ?_
  refine g_callV (T := TX5) (NN := 3) [] (c_rbec_41_13 S8) dX6_become_87 kk_X6_become_X5_become ml_RX6_78 mwX5_become ewX5_become (by decide) rfl rfl rfl rfl (Nat.le_of_ble_eq_true rfl) ?_
  rintro _ S9 ⟨rfl, rS9⟩
  refine g_ret dX6_become_90 rfl ?_
  exact ⟨rfl, zs_bec (by omega) (by omega) (by omega) rfl fS1 fS3 fS5 rS7 rS8 rS9⟩
set_option maxRecDepth 100000 in
theorem c_become_1_45 (S : zs_S) : zs_Cv MX6_become [.ref 1, .ref 45] S (fun S2 => zs_sc 1 45 S S2 ∧ zs_fP (zs_Ps 1) S S2) := by
  refine zs_C.of (by decide) (Nat.le_of_ble_eq_true rfl) ?_
  show zs_P MX6_become 0 [(0, .ref 1), (1, .ref 45)] [] S _
  refine g_aload_n dX6_become_0 rfl rfl ?_
  refine g_aload_n dX6_become_1 rfl rfl ?_
  refine g_getI 0 (C := RX6) (T := TX6) (N := 9) dX6_become_2 (by decide) rfl rfl (by decide) rfl fl_RX6_9 ?_
  refine g_putI 0 (C := RX6) (T := TX6) (N := 9) (ty := .int) dX6_become_5 (by decide) rfl rfl (by decide) rfl fl_RX6_9 rfl (by decide +kernel) ⟨rfl, rfl⟩ ?_
  refine g_aload_n dX6_become_8 rfl rfl ?_
  refine g_aload_n dX6_become_9 rfl rfl ?_
  refine g_getI 1 (C := RX6) (T := TX6) (N := 9) dX6_become_10 (by decide) rfl rfl (by decide) rfl fl_RX6_48 ?_
  refine g_putI 1 (C := RX6) (T := TX6) (N := 9) (ty := .int) dX6_become_13 (by decide) rfl rfl (by decide) rfl fl_RX6_48 rfl (by decide +kernel) ⟨rfl, rfl⟩ ?_
  refine g_aload_n dX6_become_16 rfl rfl ?_
  refine g_aload_n dX6_become_17 rfl rfl ?_
  refine g_getI 2 (C := RX6) (T := TX6) (N := 9) dX6_become_18 (by decide) rfl rfl (by decide) rfl fl_RX6_51 ?_
  refine g_putI 2 (C := RX6) (T := TX6) (N := 9) (ty := .int) dX6_become_21 (by decide) rfl rfl (by decide) rfl fl_RX6_51 rfl (by decide +kernel) ⟨rfl, rfl⟩ ?_
  refine g_aload_n dX6_become_24 rfl rfl ?_
  refine g_getR 3 (46) (C := RX6) (T := TX6) (N := 9) dX6_become_25 (by decide) rfl rfl (by decide) rfl fl_RX6_15 ?_
  refine g_aload_n dX6_become_28 rfl rfl ?_
  refine g_getR 3 (2) (C := RX6) (T := TX6) (N := 9) dX6_become_29 (by decide) rfl rfl (by decide) rfl fl_RX6_15 ?_
  refine g_callN [.ref 46, .ref 2] [] (v_copyRow_W 46 2 5 (by decide) rfl (by decide) rfl (by decide) (by decide) ⟨by decide, by decide, by decide⟩ (zs_up (zs_up (zs_up S.1 1 0 (S.1 45 0), S.2).1 1 1 ((zs_up S.1 1 0 (S.1 45 0), S.2).1 45 1), (zs_up S.1 1 0 (S.1 45 0), S.2).2).1 1 2 ((zs_up (zs_up S.1 1 0 (S.1 45 0), S.2).1 1 1 ((zs_up S.1 1 0 (S.1 45 0), S.2).1 45 1), (zs_up S.1 1 0 (S.1 45 0), S.2).2).1 45 2), (zs_up (zs_up S.1 1 0 (S.1 45 0), S.2).1 1 1 ((zs_up S.1 1 0 (S.1 45 0), S.2).1 45 1), (zs_up S.1 1 0 (S.1 45 0), S.2).2).2)) dX6_become_32 kk_X6_become_X11_copyRow nl_RX6_67 swX11_copyRow rfl rfl (Nat.le_of_ble_eq_true rfl) ?_
  rintro _ S1 ⟨rfl, fS1⟩
  refine g_aload_n dX6_become_35 rfl rfl ?_
  refine g_getR 4 (3) (C := RX6) (T := TX6) (N := 9) dX6_become_36 (by decide) rfl rfl (by decide) rfl fl_RX6_22 ?_
  refine g_aload_n dX6_become_39 rfl rfl ?_
  refine g_getR 4 (47) (C := RX6) (T := TX6) (N := 9) dX6_become_40 (by decide) rfl rfl (by decide) rfl fl_RX6_22 ?_
  refine g_callV (T := TX3) (NN := 6) [] (v_X3_become_3_47_W S1) dX6_become_43 kk_X6_become_X3_become ml_RX6_71 mwX3_become ewX3_become (by decide) rfl rfl rfl rfl (Nat.le_of_ble_eq_true rfl) ?_
  rintro _ S3 ⟨rfl, fS3⟩
  refine g_aload_n dX6_become_46 rfl rfl ?_
  refine g_getR 5 (7) (C := RX6) (T := TX6) (N := 9) dX6_become_47 (by decide) rfl rfl (by decide) rfl fl_RX6_29 ?_
  refine g_aload_n dX6_become_50 rfl rfl ?_
  refine g_getR 5 (51) (C := RX6) (T := TX6) (N := 9) dX6_become_51 (by decide) rfl rfl (by decide) rfl fl_RX6_29 ?_
  refine g_callV (T := TX4) (NN := 2) [] (v_X4_become_7_51_W S3) dX6_become_54 kk_X6_become_X4_become ml_RX6_75 mwX4_become ewX4_become (by decide) rfl rfl rfl rfl (Nat.le_of_ble_eq_true rfl) ?_
  rintro _ S5 ⟨rfl, fS5⟩
  refine g_aload_n dX6_become_57 rfl rfl ?_
  refine g_getR 6 (9) (C := RX6) (T := TX6) (N := 9) dX6_become_58 (by decide) rfl rfl (by decide) rfl fl_RX6_38 ?_
  refine g_aload_n dX6_become_61 rfl rfl ?_
  refine g_getR 6 (53) (C := RX6) (T := TX6) (N := 9) dX6_become_62 (by decide) rfl rfl (by decide) rfl fl_RX6_38 ?_
  refine g_callV (T := TX5) (NN := 3) [] (c_rbec_9_53 S5) dX6_become_65 kk_X6_become_X5_become ml_RX6_78 mwX5_become ewX5_become (by decide) rfl rfl rfl rfl (Nat.le_of_ble_eq_true rfl) ?_
  rintro _ S7 ⟨rfl, rS7⟩
  refine g_aload_n dX6_become_68 rfl rfl ?_
  refine g_getR 7 (11) (C := RX6) (T := TX6) (N := 9) dX6_become_69 (by decide) rfl rfl (by decide) rfl fl_RX6_42 ?_
  refine g_aload_n dX6_become_72 rfl rfl ?_
  refine g_getR 7 (55) (C := RX6) (T := TX6) (N := 9) dX6_become_73 (by decide) rfl rfl (by decide) rfl fl_RX6_42 ?_
  refine g_callV (T := TX5) (NN := 3) [] (c_rbec_11_55 S7) dX6_become_76 kk_X6_become_X5_become ml_RX6_78 mwX5_become ewX5_become (by decide) rfl rfl rfl rfl (Nat.le_of_ble_eq_true rfl) ?_
  rintro _ S8 ⟨rfl, rS8⟩
  refine g_aload_n dX6_become_79 rfl rfl ?_
  refine g_getR 8 (13) (C := RX6) (T := TX6) (N := 9) dX6_become_80 (by decide) rfl rfl (by decide) rfl fl_RX6_45 ?_
  refine g_aload_n dX6_become_83 rfl rfl ?_
  refine g_getR 8 (57) (C := RX6) (T := TX6) (N := 9) dX6_become_84 (by decide) rfl rfl (by decide) rfl fl_RX6_45 ?_
  refine g_callV (T := TX5) (NN := 3) [] (c_rbec_13_57 S8) dX6_become_87 kk_X6_become_X5_become ml_RX6_78 mwX5_become ewX5_become (by decide) rfl rfl rfl rfl (Nat.le_of_ble_eq_true rfl) ?_
  rintro _ S9 ⟨rfl, rS9⟩
  refine g_ret dX6_become_90 rfl ?_
  exact ⟨rfl, zs_bec (by omega) (by omega) (by omega) rfl fS1 fS3 fS5 rS7 rS8 rS9⟩
set_option maxRecDepth 100000 in
theorem c_begin1 (S : zs_S) (n k t : Int32) : zs_Cv MX6_begin [.ref 1, .int n, .int k, .int t] S (fun S2 => zs_fP (zs_Ps 1) S S2 ∧ S2.1 1 0 = n ∧ S2.1 1 1 = k ∧ S2.1 1 2 = nI 0 ∧ S2.1 9 2 = nI 0 ∧ S2.1 11 2 = nI 0 ∧ S2.1 13 2 = nI 0) := by
  refine zs_C.of (by decide) (Nat.le_of_ble_eq_true rfl) ?_
  show zs_P MX6_begin 0 [(0, .ref 1), (1, .int n), (2, .int k), (3, .int t)] [] S _
  refine g_aload_n dX6_begin_0 rfl rfl ?_
  refine g_iload_n dX6_begin_1 rfl rfl ?_
  refine g_putI 0 (C := RX6) (T := TX6) (N := 9) (ty := .int) dX6_begin_2 (by decide) rfl rfl (by decide) rfl fl_RX6_9 rfl (by decide +kernel) ⟨rfl, rfl⟩ ?_
  refine g_aload_n dX6_begin_5 rfl rfl ?_
  refine g_iload_n dX6_begin_6 rfl rfl ?_
  refine g_putI 1 (C := RX6) (T := TX6) (N := 9) (ty := .int) dX6_begin_7 (by decide) rfl rfl (by decide) rfl fl_RX6_48 rfl (by decide +kernel) ⟨rfl, rfl⟩ ?_
  refine g_aload_n dX6_begin_10 rfl rfl ?_
  refine g_iconst (v := (nI 0)) dX6_begin_11 rfl ?_
  refine g_putI 2 (C := RX6) (T := TX6) (N := 9) (ty := .int) dX6_begin_12 (by decide) rfl rfl (by decide) rfl fl_RX6_51 rfl (by decide +kernel) ⟨rfl, rfl⟩ ?_
  refine g_aload_n dX6_begin_15 rfl rfl ?_
  refine g_getR 3 (2) (C := RX6) (T := TX6) (N := 9) dX6_begin_16 (by decide) rfl rfl (by decide) rfl fl_RX6_15 ?_
  refine g_iconst (v := (nI 0)) dX6_begin_19 rfl ?_
  refine g_callN [.ref 2, .int (nI 0)] [] (v_fill_W 2 5 (nI 0) (by decide) rfl (by decide) ⟨by decide, by decide, by decide⟩ (zs_up (zs_up (zs_up S.1 1 0 n, S.2).1 1 1 k, (zs_up S.1 1 0 n, S.2).2).1 1 2 (nI 0), (zs_up (zs_up S.1 1 0 n, S.2).1 1 1 k, (zs_up S.1 1 0 n, S.2).2).2)) dX6_begin_20 kk_X6_begin_X11_fill nl_RX6_54 swX11_fill rfl rfl (Nat.le_of_ble_eq_true rfl) ?_
  rintro _ S1 ⟨rfl, fS1⟩
  refine g_aload_n dX6_begin_23 rfl rfl ?_
  refine g_getR 4 (3) (C := RX6) (T := TX6) (N := 9) dX6_begin_24 (by decide) rfl rfl (by decide) rfl fl_RX6_22 ?_
  refine g_iload_n dX6_begin_27 rfl rfl ?_
  refine g_callV (T := TX3) (NN := 6) [] (v_X3_begin_3_W t S1) dX6_begin_28 kk_X6_begin_X3_begin ml_RX6_58 mwX3_begin ewX3_begin (by decide) rfl rfl rfl rfl (Nat.le_of_ble_eq_true rfl) ?_
  rintro _ S3 ⟨rfl, fS3⟩
  refine g_aload_n dX6_begin_31 rfl rfl ?_
  refine g_getR 5 (7) (C := RX6) (T := TX6) (N := 9) dX6_begin_32 (by decide) rfl rfl (by decide) rfl fl_RX6_29 ?_
  refine g_callV (T := TX4) (NN := 2) [] (v_X4_empty_7_W S3) dX6_begin_35 kk_X6_begin_X4_empty ml_RX6_61 mwX4_empty ewX4_empty (by decide) rfl rfl rfl rfl (Nat.le_of_ble_eq_true rfl) ?_
  rintro _ S5 ⟨rfl, fS5⟩
  refine g_aload_n dX6_begin_38 rfl rfl ?_
  refine g_getR 6 (9) (C := RX6) (T := TX6) (N := 9) dX6_begin_39 (by decide) rfl rfl (by decide) rfl fl_RX6_38 ?_
  refine g_callV (T := TX5) (NN := 3) [] (c_rempty_9 S5) dX6_begin_42 kk_X6_begin_X5_empty ml_RX6_64 mwX5_empty ewX5_empty (by decide) rfl rfl rfl rfl (Nat.le_of_ble_eq_true rfl) ?_
  rintro _ _ ⟨_, rfl, rfl, rfl⟩
  refine g_pop dX6_begin_45 rfl ?_
  refine g_aload_n dX6_begin_46 rfl rfl ?_
  refine g_getR 7 (11) (C := RX6) (T := TX6) (N := 9) dX6_begin_47 (by decide) rfl rfl (by decide) rfl fl_RX6_42 ?_
  refine g_callV (T := TX5) (NN := 3) [] (c_rempty_11 (zs_up S5.1 9 2 (nI 0), S5.2)) dX6_begin_50 kk_X6_begin_X5_empty ml_RX6_64 mwX5_empty ewX5_empty (by decide) rfl rfl rfl rfl (Nat.le_of_ble_eq_true rfl) ?_
  rintro _ _ ⟨_, rfl, rfl, rfl⟩
  refine g_pop dX6_begin_53 rfl ?_
  refine g_aload_n dX6_begin_54 rfl rfl ?_
  refine g_getR 8 (13) (C := RX6) (T := TX6) (N := 9) dX6_begin_55 (by decide) rfl rfl (by decide) rfl fl_RX6_45 ?_
  refine g_callV (T := TX5) (NN := 3) [] (c_rempty_13 (zs_up (zs_up S5.1 9 2 (nI 0), S5.2).1 11 2 (nI 0), (zs_up S5.1 9 2 (nI 0), S5.2).2)) dX6_begin_58 kk_X6_begin_X5_empty ml_RX6_64 mwX5_empty ewX5_empty (by decide) rfl rfl rfl rfl (Nat.le_of_ble_eq_true rfl) ?_
  rintro _ _ ⟨_, rfl, rfl, rfl⟩
  refine g_pop dX6_begin_61 rfl ?_
  refine g_ret dX6_begin_62 rfl ?_
  exact ⟨rfl, ((((((((((((((((((zs_fP.rf).tr (zs_fP.up ⟨by decide, by decide⟩))).tr (zs_fP.up ⟨by decide, by decide⟩))).tr (zs_fP.up ⟨by decide, by decide⟩))).tr fS1.p)).tr fS3.p)).tr fS5.p)).tr (zs_fP.up ⟨by decide, by decide⟩))).tr (zs_fP.up ⟨by decide, by decide⟩))).tr (zs_fP.up ⟨by decide, by decide⟩)), ((zs_up_m (by omega)).trans ((zs_up_m (by omega)).trans ((zs_up_m (by omega)).trans ((fS5 1 0 rfl).1.trans ((fS3 1 0 rfl).1.trans ((fS1 1 0 rfl).1.trans ((zs_up_m (by omega)).trans ((zs_up_m (by omega)).trans zs_up_q)))))))), ((zs_up_m (by omega)).trans ((zs_up_m (by omega)).trans ((zs_up_m (by omega)).trans ((fS5 1 1 rfl).1.trans ((fS3 1 1 rfl).1.trans ((fS1 1 1 rfl).1.trans ((zs_up_m (by omega)).trans zs_up_q))))))), ((zs_up_m (by omega)).trans ((zs_up_m (by omega)).trans ((zs_up_m (by omega)).trans ((fS5 1 2 rfl).1.trans ((fS3 1 2 rfl).1.trans ((fS1 1 2 rfl).1.trans zs_up_q)))))), ((zs_up_m (by omega)).trans ((zs_up_m (by omega)).trans zs_up_q)), ((zs_up_m (by omega)).trans zs_up_q), zs_up_q⟩
set_option maxRecDepth 100000 in
theorem c_addEye1 (S : zs_S) (k : Int32) (m : Nat) (hm : S.1 1 2 = nI m) : zs_Cv MX6_addEye [.ref 1, .int k] S (fun S2 => zs_fP (zs_P1 1 2) S S2 ∧ S2.1 1 2 = nI (m + 1)) := by
  refine zs_C.of (by decide) (Nat.le_of_ble_eq_true rfl) ?_
  show zs_P MX6_addEye 0 [(0, .ref 1), (1, .int k)] [] S _
  refine g_aload_n dX6_addEye_0 rfl rfl ?_
  refine g_getR 3 (2) (C := RX6) (T := TX6) (N := 9) dX6_addEye_1 (by decide) rfl rfl (by decide) rfl fl_RX6_15 ?_
  refine g_aload_n dX6_addEye_4 rfl rfl ?_
  refine g_getV 2 (C := RX6) (T := TX6) (N := 9) (v := (nI m)) dX6_addEye_5 (by decide) rfl rfl (by decide) rfl fl_RX6_51 hm ?_
  refine g_iload_n dX6_addEye_8 rfl rfl ?_
  refine g_callN [.ref 2, .int (nI m), .int k] [] (v_put_W 2 5 (nI m) k (by decide) rfl (by decide) ⟨by decide, by decide, by decide⟩ S) dX6_addEye_9 kk_X6_addEye_X11_put nl_RX6_81 swX11_put rfl rfl (Nat.le_of_ble_eq_true rfl) ?_
  rintro _ S1 ⟨rfl, fS1⟩
  refine g_aload_n dX6_addEye_12 rfl rfl ?_
  refine g_getR 4 (3) (C := RX6) (T := TX6) (N := 9) dX6_addEye_13 (by decide) rfl rfl (by decide) rfl fl_RX6_22 ?_
  refine g_getR 4 (5) (C := RX3) (T := TX3) (N := 6) dX6_addEye_16 (by decide) rfl rfl (by decide) rfl fl_RX6_85 ?_
  refine g_aload_n dX6_addEye_19 rfl rfl ?_
  refine g_getV 2 (C := RX6) (T := TX6) (N := 9) (v := (nI m)) dX6_addEye_20 (by decide) rfl rfl (by decide) rfl fl_RX6_51 ((fS1 1 2 rfl).1.trans hm) ?_
  refine g_iconst (v := (nI 0)) dX6_addEye_23 rfl ?_
  refine g_callN [.ref 5, .int (nI m), .int (nI 0)] [] (v_put_W 5 5 (nI m) (nI 0) (by decide) rfl (by decide) ⟨by decide, by decide, by decide⟩ S1) dX6_addEye_24 kk_X6_addEye_X11_put nl_RX6_81 swX11_put rfl rfl (Nat.le_of_ble_eq_true rfl) ?_
  rintro _ S3 ⟨rfl, fS3⟩
  refine g_aload_n dX6_addEye_27 rfl rfl ?_
  refine g_getR 4 (3) (C := RX6) (T := TX6) (N := 9) dX6_addEye_28 (by decide) rfl rfl (by decide) rfl fl_RX6_22 ?_
  refine g_getR 5 (6) (C := RX3) (T := TX3) (N := 6) dX6_addEye_31 (by decide) rfl rfl (by decide) rfl fl_RX6_88 ?_
  refine g_aload_n dX6_addEye_34 rfl rfl ?_
  refine g_getV 2 (C := RX6) (T := TX6) (N := 9) (v := (nI m)) dX6_addEye_35 (by decide) rfl rfl (by decide) rfl fl_RX6_51 ((fS3 1 2 rfl).1.trans ((fS1 1 2 rfl).1.trans hm)) ?_
  refine g_iconst (v := (nI 0)) dX6_addEye_38 rfl ?_
  refine g_callN [.ref 6, .int (nI m), .int (nI 0)] [] (v_put_W 6 5 (nI m) (nI 0) (by decide) rfl (by decide) ⟨by decide, by decide, by decide⟩ S3) dX6_addEye_39 kk_X6_addEye_X11_put nl_RX6_81 swX11_put rfl rfl (Nat.le_of_ble_eq_true rfl) ?_
  rintro _ S5 ⟨rfl, fS5⟩
  refine g_aload_n dX6_addEye_42 rfl rfl ?_
  refine g_dup dX6_addEye_43 rfl ?_
  refine g_getV 2 (C := RX6) (T := TX6) (N := 9) (v := (nI m)) dX6_addEye_44 (by decide) rfl rfl (by decide) rfl fl_RX6_51 ((fS5 1 2 rfl).1.trans ((fS3 1 2 rfl).1.trans ((fS1 1 2 rfl).1.trans hm))) ?_
  refine g_iconst (v := (nI 1)) dX6_addEye_47 rfl ?_
  refine g_iaddN dX6_addEye_48 ?_
  refine g_putI 2 (C := RX6) (T := TX6) (N := 9) (ty := .int) dX6_addEye_49 (by decide) rfl rfl (by decide) rfl fl_RX6_51 rfl (by decide +kernel) ⟨rfl, rfl⟩ ?_
  refine g_ret dX6_addEye_52 rfl ?_
  exact ⟨rfl, ((((((((zs_fP.rf).tr fS1.p)).tr fS3.p)).tr fS5.p)).tr (zs_fP.up ⟨rfl, rfl⟩)), zs_up_q⟩
set_option maxRecDepth 100000 in
theorem c_radd_9 (S : zs_S) (a b c d : Int32) (m : Nat) (hm : S.1 9 2 = nI m) (h6 : m < 6) : zs_Ci MX5_add [.ref 9, .int a, .int b, .int c, .int d] S (fun x S2 => x = nI (m + 1) ∧ S2.1 9 2 = nI (m + 1) ∧ zs_fP (zs_Pr 9) S S2 ∧ zs_nw 10 m a b c d S S2) := by
  refine zs_C.of (by decide) (Nat.le_of_ble_eq_true rfl) ?_
  show zs_P MX5_add 0 [(0, .ref 9), (1, .int a), (2, .int b), (3, .int c), (4, .int d)] [] S _
  refine g_iconst (v := (nI 4)) dX5_add_0 rfl ?_
  refine g_aload_n dX5_add_1 rfl rfl ?_
  refine g_getV 2 (C := RX5) (T := TX5) (N := 3) (v := (nI m)) dX5_add_2 (by decide) rfl rfl (by decide) rfl fl_RX5_19 hm ?_
  refine g_imulN dX5_add_5 ?_
  refine g_istore (lv' := [(5, .int (nI (4 * m))), (0, .ref 9), (1, .int a), (2, .int b), (3, .int c), (4, .int d)]) dX5_add_6 (by decide) rfl ?_
  refine g_aload_n dX5_add_8 rfl rfl ?_
  refine g_getR 1 (10) (C := RX5) (T := TX5) (N := 3) dX5_add_9 (by decide) rfl rfl (by decide) rfl fl_RX5_9 ?_
  refine g_iload dX5_add_12 rfl ?_
  refine g_iload_n dX5_add_14 rfl rfl ?_
  refine g_callN [.ref 10, .int (nI (4 * m)), .int a] [] (x_putN S 10 24 (4 * m) a (by decide) rfl (by decide) (by omega)) dX5_add_15 kk_X5_add_X11_put nl_RX5_22 swX11_put rfl rfl (Nat.le_of_ble_eq_true rfl) ?_
  rintro _ _ ⟨rfl, rfl⟩
  refine g_aload_n dX5_add_18 rfl rfl ?_
  refine g_getR 1 (10) (C := RX5) (T := TX5) (N := 3) dX5_add_19 (by decide) rfl rfl (by decide) rfl fl_RX5_9 ?_
  refine g_iload dX5_add_22 rfl ?_
  refine g_iconst (v := (nI 1)) dX5_add_24 rfl ?_
  refine g_iaddN dX5_add_25 ?_
  refine g_iload_n dX5_add_26 rfl rfl ?_
  refine g_callN [.ref 10, .int (nI ((4 * m) + 1)), .int b] [] (x_putN (zs_up S.1 10 (4 * m) a, S.2) 10 24 ((4 * m) + 1) b (by decide) rfl (by decide) (by omega)) dX5_add_27 kk_X5_add_X11_put nl_RX5_22 swX11_put rfl rfl (Nat.le_of_ble_eq_true rfl) ?_
  rintro _ _ ⟨rfl, rfl⟩
  refine g_aload_n dX5_add_30 rfl rfl ?_
  refine g_getR 1 (10) (C := RX5) (T := TX5) (N := 3) dX5_add_31 (by decide) rfl rfl (by decide) rfl fl_RX5_9 ?_
  refine g_iload dX5_add_34 rfl ?_
  refine g_iconst (v := (nI 2)) dX5_add_36 rfl ?_
  refine g_iaddN dX5_add_37 ?_
  refine g_iload_n dX5_add_38 rfl rfl ?_
  refine g_callN [.ref 10, .int (nI ((4 * m) + 2)), .int c] [] (x_putN (zs_up (zs_up S.1 10 (4 * m) a, S.2).1 10 ((4 * m) + 1) b, (zs_up S.1 10 (4 * m) a, S.2).2) 10 24 ((4 * m) + 2) c (by decide) rfl (by decide) (by omega)) dX5_add_39 kk_X5_add_X11_put nl_RX5_22 swX11_put rfl rfl (Nat.le_of_ble_eq_true rfl) ?_
  rintro _ _ ⟨rfl, rfl⟩
  refine g_aload_n dX5_add_42 rfl rfl ?_
  refine g_getR 1 (10) (C := RX5) (T := TX5) (N := 3) dX5_add_43 (by decide) rfl rfl (by decide) rfl fl_RX5_9 ?_
  refine g_iload dX5_add_46 rfl ?_
  refine g_iconst (v := (nI 3)) dX5_add_48 rfl ?_
  refine g_iaddN dX5_add_49 ?_
  refine g_iload dX5_add_50 rfl ?_
  refine g_callN [.ref 10, .int (nI ((4 * m) + 3)), .int d] [] (x_putN (zs_up (zs_up (zs_up S.1 10 (4 * m) a, S.2).1 10 ((4 * m) + 1) b, (zs_up S.1 10 (4 * m) a, S.2).2).1 10 ((4 * m) + 2) c, (zs_up (zs_up S.1 10 (4 * m) a, S.2).1 10 ((4 * m) + 1) b, (zs_up S.1 10 (4 * m) a, S.2).2).2) 10 24 ((4 * m) + 3) d (by decide) rfl (by decide) (by omega)) dX5_add_52 kk_X5_add_X11_put nl_RX5_22 swX11_put rfl rfl (Nat.le_of_ble_eq_true rfl) ?_
  rintro _ _ ⟨rfl, rfl⟩
  refine g_aload_n dX5_add_55 rfl rfl ?_
  refine g_dup dX5_add_56 rfl ?_
  refine g_getV 2 (C := RX5) (T := TX5) (N := 3) (v := (nI m)) dX5_add_57 (by decide) rfl rfl (by decide) rfl fl_RX5_19 ((zs_up_m (by omega)).trans ((zs_up_m (by omega)).trans ((zs_up_m (by omega)).trans ((zs_up_m (by omega)).trans hm)))) ?_
  refine g_iconst (v := (nI 1)) dX5_add_60 rfl ?_
  refine g_iaddN dX5_add_61 ?_
  refine g_putI 2 (C := RX5) (T := TX5) (N := 3) (ty := .int) dX5_add_62 (by decide) rfl rfl (by decide) rfl fl_RX5_19 rfl (by decide +kernel) ⟨rfl, rfl⟩ ?_
  refine g_aload_n dX5_add_65 rfl rfl ?_
  refine g_getV 2 (C := RX5) (T := TX5) (N := 3) (v := (nI (m + 1))) dX5_add_66 (by decide) rfl rfl (by decide) rfl fl_RX5_19 zs_up_q ?_
  refine g_iret dX5_add_69 rfl rfl ?_
  exact ⟨_, rfl, rfl, zs_up_q, fun b i _ hp => by
    have h1 : ¬ (b = 9 ∧ i = 2) := fun z => hp (Or.inl z)
    have h2 : b ≠ 10 := fun z => hp (Or.inr z)
    exact ⟨(zs_up_n h1).trans ((zs_up_n (by omega)).trans ((zs_up_n (by omega)).trans ((zs_up_n (by omega)).trans (zs_up_n (by omega))))), rfl⟩, ⟨(zs_up_m (by omega)).trans ((zs_up_m (by omega)).trans ((zs_up_m (by omega)).trans ((zs_up_m (by omega)).trans (zs_up_q)))), (zs_up_m (by omega)).trans ((zs_up_m (by omega)).trans ((zs_up_m (by omega)).trans (zs_up_q))), (zs_up_m (by omega)).trans ((zs_up_m (by omega)).trans (zs_up_q)), (zs_up_m (by omega)).trans (zs_up_q)⟩, fun i hi => (zs_up_m (by omega)).trans ((zs_up_m (by omega)).trans ((zs_up_m (by omega)).trans ((zs_up_m (by omega)).trans ((zs_up_m (by omega))))))⟩
set_option maxRecDepth 100000 in
theorem c_rfull_9 (S : zs_S) (m : Nat) (hm : S.1 9 2 = nI m) (h : m ≤ 6) : zs_Ci MX5_isFull [.ref 9] S (fun x S2 => x = zs_b (6 ≤ m) ∧ S = S2) := by
  refine zs_C.of (by decide) (Nat.le_of_ble_eq_true rfl) ?_
  show zs_P MX5_isFull 0 [(0, .ref 9)] [] S _
  refine g_aload_n dX5_isFull_0 rfl rfl ?_
  refine g_getV 2 (C := RX5) (T := TX5) (N := 3) (v := (nI m)) dX5_isFull_1 (by decide) rfl rfl (by decide) rfl fl_RX5_19 hm ?_
  refine g_bipush (v := (nI 6)) dX5_isFull_4 rfl ?_
  refine g_ic_ltN 13 dX5_isFull_6 (by decide) (by omega) (by omega) (fun h1 => ?_) (fun h1 => ?_)
  · refine g_iconst (v := (nI 0)) dX5_isFull_13 rfl ?_
    refine g_iret dX5_isFull_14 rfl rfl ?_
    exact ⟨_, rfl, (zs_bf (by omega)).symm, rfl⟩
  · refine g_iconst (v := (nI 1)) dX5_isFull_9 rfl ?_
    refine g_goto 14 dX5_isFull_10 (by decide) ?_
    refine g_iret dX5_isFull_14 rfl rfl ?_
    exact ⟨_, rfl, (zs_bt (by omega)).symm, rfl⟩
set_option maxRecDepth 100000 in
theorem c_radd_11 (S : zs_S) (a b c d : Int32) (m : Nat) (hm : S.1 11 2 = nI m) (h6 : m < 6) : zs_Ci MX5_add [.ref 11, .int a, .int b, .int c, .int d] S (fun x S2 => x = nI (m + 1) ∧ S2.1 11 2 = nI (m + 1) ∧ zs_fP (zs_Pr 11) S S2 ∧ zs_nw 12 m a b c d S S2) := by
  refine zs_C.of (by decide) (Nat.le_of_ble_eq_true rfl) ?_
  show zs_P MX5_add 0 [(0, .ref 11), (1, .int a), (2, .int b), (3, .int c), (4, .int d)] [] S _
  refine g_iconst (v := (nI 4)) dX5_add_0 rfl ?_
  refine g_aload_n dX5_add_1 rfl rfl ?_
  refine g_getV 2 (C := RX5) (T := TX5) (N := 3) (v := (nI m)) dX5_add_2 (by decide) rfl rfl (by decide) rfl fl_RX5_19 hm ?_
  refine g_imulN dX5_add_5 ?_
  refine g_istore (lv' := [(5, .int (nI (4 * m))), (0, .ref 11), (1, .int a), (2, .int b), (3, .int c), (4, .int d)]) dX5_add_6 (by decide) rfl ?_
  refine g_aload_n dX5_add_8 rfl rfl ?_
  refine g_getR 1 (12) (C := RX5) (T := TX5) (N := 3) dX5_add_9 (by decide) rfl rfl (by decide) rfl fl_RX5_9 ?_
  refine g_iload dX5_add_12 rfl ?_
  refine g_iload_n dX5_add_14 rfl rfl ?_
  refine g_callN [.ref 12, .int (nI (4 * m)), .int a] [] (x_putN S 12 24 (4 * m) a (by decide) rfl (by decide) (by omega)) dX5_add_15 kk_X5_add_X11_put nl_RX5_22 swX11_put rfl rfl (Nat.le_of_ble_eq_true rfl) ?_
  rintro _ _ ⟨rfl, rfl⟩
  refine g_aload_n dX5_add_18 rfl rfl ?_
  refine g_getR 1 (12) (C := RX5) (T := TX5) (N := 3) dX5_add_19 (by decide) rfl rfl (by decide) rfl fl_RX5_9 ?_
  refine g_iload dX5_add_22 rfl ?_
  refine g_iconst (v := (nI 1)) dX5_add_24 rfl ?_
  refine g_iaddN dX5_add_25 ?_
  refine g_iload_n dX5_add_26 rfl rfl ?_
  refine g_callN [.ref 12, .int (nI ((4 * m) + 1)), .int b] [] (x_putN (zs_up S.1 12 (4 * m) a, S.2) 12 24 ((4 * m) + 1) b (by decide) rfl (by decide) (by omega)) dX5_add_27 kk_X5_add_X11_put nl_RX5_22 swX11_put rfl rfl (Nat.le_of_ble_eq_true rfl) ?_
  rintro _ _ ⟨rfl, rfl⟩
  refine g_aload_n dX5_add_30 rfl rfl ?_
  refine g_getR 1 (12) (C := RX5) (T := TX5) (N := 3) dX5_add_31 (by decide) rfl rfl (by decide) rfl fl_RX5_9 ?_
  refine g_iload dX5_add_34 rfl ?_
  refine g_iconst (v := (nI 2)) dX5_add_36 rfl ?_
  refine g_iaddN dX5_add_37 ?_
  refine g_iload_n dX5_add_38 rfl rfl ?_
  refine g_callN [.ref 12, .int (nI ((4 * m) + 2)), .int c] [] (x_putN (zs_up (zs_up S.1 12 (4 * m) a, S.2).1 12 ((4 * m) + 1) b, (zs_up S.1 12 (4 * m) a, S.2).2) 12 24 ((4 * m) + 2) c (by decide) rfl (by decide) (by omega)) dX5_add_39 kk_X5_add_X11_put nl_RX5_22 swX11_put rfl rfl (Nat.le_of_ble_eq_true rfl) ?_
  rintro _ _ ⟨rfl, rfl⟩
  refine g_aload_n dX5_add_42 rfl rfl ?_
  refine g_getR 1 (12) (C := RX5) (T := TX5) (N := 3) dX5_add_43 (by decide) rfl rfl (by decide) rfl fl_RX5_9 ?_
  refine g_iload dX5_add_46 rfl ?_
  refine g_iconst (v := (nI 3)) dX5_add_48 rfl ?_
  refine g_iaddN dX5_add_49 ?_
  refine g_iload dX5_add_50 rfl ?_
  refine g_callN [.ref 12, .int (nI ((4 * m) + 3)), .int d] [] (x_putN (zs_up (zs_up (zs_up S.1 12 (4 * m) a, S.2).1 12 ((4 * m) + 1) b, (zs_up S.1 12 (4 * m) a, S.2).2).1 12 ((4 * m) + 2) c, (zs_up (zs_up S.1 12 (4 * m) a, S.2).1 12 ((4 * m) + 1) b, (zs_up S.1 12 (4 * m) a, S.2).2).2) 12 24 ((4 * m) + 3) d (by decide) rfl (by decide) (by omega)) dX5_add_52 kk_X5_add_X11_put nl_RX5_22 swX11_put rfl rfl (Nat.le_of_ble_eq_true rfl) ?_
  rintro _ _ ⟨rfl, rfl⟩
  refine g_aload_n dX5_add_55 rfl rfl ?_
  refine g_dup dX5_add_56 rfl ?_
  refine g_getV 2 (C := RX5) (T := TX5) (N := 3) (v := (nI m)) dX5_add_57 (by decide) rfl rfl (by decide) rfl fl_RX5_19 ((zs_up_m (by omega)).trans ((zs_up_m (by omega)).trans ((zs_up_m (by omega)).trans ((zs_up_m (by omega)).trans hm)))) ?_
  refine g_iconst (v := (nI 1)) dX5_add_60 rfl ?_
  refine g_iaddN dX5_add_61 ?_
  refine g_putI 2 (C := RX5) (T := TX5) (N := 3) (ty := .int) dX5_add_62 (by decide) rfl rfl (by decide) rfl fl_RX5_19 rfl (by decide +kernel) ⟨rfl, rfl⟩ ?_
  refine g_aload_n dX5_add_65 rfl rfl ?_
  refine g_getV 2 (C := RX5) (T := TX5) (N := 3) (v := (nI (m + 1))) dX5_add_66 (by decide) rfl rfl (by decide) rfl fl_RX5_19 zs_up_q ?_
  refine g_iret dX5_add_69 rfl rfl ?_
  exact ⟨_, rfl, rfl, zs_up_q, fun b i _ hp => by
    have h1 : ¬ (b = 11 ∧ i = 2) := fun z => hp (Or.inl z)
    have h2 : b ≠ 12 := fun z => hp (Or.inr z)
    exact ⟨(zs_up_n h1).trans ((zs_up_n (by omega)).trans ((zs_up_n (by omega)).trans ((zs_up_n (by omega)).trans (zs_up_n (by omega))))), rfl⟩, ⟨(zs_up_m (by omega)).trans ((zs_up_m (by omega)).trans ((zs_up_m (by omega)).trans ((zs_up_m (by omega)).trans (zs_up_q)))), (zs_up_m (by omega)).trans ((zs_up_m (by omega)).trans ((zs_up_m (by omega)).trans (zs_up_q))), (zs_up_m (by omega)).trans ((zs_up_m (by omega)).trans (zs_up_q)), (zs_up_m (by omega)).trans (zs_up_q)⟩, fun i hi => (zs_up_m (by omega)).trans ((zs_up_m (by omega)).trans ((zs_up_m (by omega)).trans ((zs_up_m (by omega)).trans ((zs_up_m (by omega))))))⟩
set_option maxRecDepth 100000 in
theorem c_rfull_11 (S : zs_S) (m : Nat) (hm : S.1 11 2 = nI m) (h : m ≤ 6) : zs_Ci MX5_isFull [.ref 11] S (fun x S2 => x = zs_b (6 ≤ m) ∧ S = S2) := by
  refine zs_C.of (by decide) (Nat.le_of_ble_eq_true rfl) ?_
  show zs_P MX5_isFull 0 [(0, .ref 11)] [] S _
  refine g_aload_n dX5_isFull_0 rfl rfl ?_
  refine g_getV 2 (C := RX5) (T := TX5) (N := 3) (v := (nI m)) dX5_isFull_1 (by decide) rfl rfl (by decide) rfl fl_RX5_19 hm ?_
  refine g_bipush (v := (nI 6)) dX5_isFull_4 rfl ?_
  refine g_ic_ltN 13 dX5_isFull_6 (by decide) (by omega) (by omega) (fun h1 => ?_) (fun h1 => ?_)
  · refine g_iconst (v := (nI 0)) dX5_isFull_13 rfl ?_
    refine g_iret dX5_isFull_14 rfl rfl ?_
    exact ⟨_, rfl, (zs_bf (by omega)).symm, rfl⟩
  · refine g_iconst (v := (nI 1)) dX5_isFull_9 rfl ?_
    refine g_goto 14 dX5_isFull_10 (by decide) ?_
    refine g_iret dX5_isFull_14 rfl rfl ?_
    exact ⟨_, rfl, (zs_bt (by omega)).symm, rfl⟩
set_option maxRecDepth 100000 in
theorem c_radd_13 (S : zs_S) (a b c d : Int32) (m : Nat) (hm : S.1 13 2 = nI m) (h6 : m < 6) : zs_Ci MX5_add [.ref 13, .int a, .int b, .int c, .int d] S (fun x S2 => x = nI (m + 1) ∧ S2.1 13 2 = nI (m + 1) ∧ zs_fP (zs_Pr 13) S S2 ∧ zs_nw 14 m a b c d S S2) := by
  refine zs_C.of (by decide) (Nat.le_of_ble_eq_true rfl) ?_
  show zs_P MX5_add 0 [(0, .ref 13), (1, .int a), (2, .int b), (3, .int c), (4, .int d)] [] S _
  refine g_iconst (v := (nI 4)) dX5_add_0 rfl ?_
  refine g_aload_n dX5_add_1 rfl rfl ?_
  refine g_getV 2 (C := RX5) (T := TX5) (N := 3) (v := (nI m)) dX5_add_2 (by decide) rfl rfl (by decide) rfl fl_RX5_19 hm ?_
  refine g_imulN dX5_add_5 ?_
  refine g_istore (lv' := [(5, .int (nI (4 * m))), (0, .ref 13), (1, .int a), (2, .int b), (3, .int c), (4, .int d)]) dX5_add_6 (by decide) rfl ?_
  refine g_aload_n dX5_add_8 rfl rfl ?_
  refine g_getR 1 (14) (C := RX5) (T := TX5) (N := 3) dX5_add_9 (by decide) rfl rfl (by decide) rfl fl_RX5_9 ?_
  refine g_iload dX5_add_12 rfl ?_
  refine g_iload_n dX5_add_14 rfl rfl ?_
  refine g_callN [.ref 14, .int (nI (4 * m)), .int a] [] (x_putN S 14 24 (4 * m) a (by decide) rfl (by decide) (by omega)) dX5_add_15 kk_X5_add_X11_put nl_RX5_22 swX11_put rfl rfl (Nat.le_of_ble_eq_true rfl) ?_
  rintro _ _ ⟨rfl, rfl⟩
  refine g_aload_n dX5_add_18 rfl rfl ?_
  refine g_getR 1 (14) (C := RX5) (T := TX5) (N := 3) dX5_add_19 (by decide) rfl rfl (by decide) rfl fl_RX5_9 ?_
  refine g_iload dX5_add_22 rfl ?_
  refine g_iconst (v := (nI 1)) dX5_add_24 rfl ?_
  refine g_iaddN dX5_add_25 ?_
  refine g_iload_n dX5_add_26 rfl rfl ?_
  refine g_callN [.ref 14, .int (nI ((4 * m) + 1)), .int b] [] (x_putN (zs_up S.1 14 (4 * m) a, S.2) 14 24 ((4 * m) + 1) b (by decide) rfl (by decide) (by omega)) dX5_add_27 kk_X5_add_X11_put nl_RX5_22 swX11_put rfl rfl (Nat.le_of_ble_eq_true rfl) ?_
  rintro _ _ ⟨rfl, rfl⟩
  refine g_aload_n dX5_add_30 rfl rfl ?_
  refine g_getR 1 (14) (C := RX5) (T := TX5) (N := 3) dX5_add_31 (by decide) rfl rfl (by decide) rfl fl_RX5_9 ?_
  refine g_iload dX5_add_34 rfl ?_
  refine g_iconst (v := (nI 2)) dX5_add_36 rfl ?_
  refine g_iaddN dX5_add_37 ?_
  refine g_iload_n dX5_add_38 rfl rfl ?_
  refine g_callN [.ref 14, .int (nI ((4 * m) + 2)), .int c] [] (x_putN (zs_up (zs_up S.1 14 (4 * m) a, S.2).1 14 ((4 * m) + 1) b, (zs_up S.1 14 (4 * m) a, S.2).2) 14 24 ((4 * m) + 2) c (by decide) rfl (by decide) (by omega)) dX5_add_39 kk_X5_add_X11_put nl_RX5_22 swX11_put rfl rfl (Nat.le_of_ble_eq_true rfl) ?_
  rintro _ _ ⟨rfl, rfl⟩
  refine g_aload_n dX5_add_42 rfl rfl ?_
  refine g_getR 1 (14) (C := RX5) (T := TX5) (N := 3) dX5_add_43 (by decide) rfl rfl (by decide) rfl fl_RX5_9 ?_
  refine g_iload dX5_add_46 rfl ?_
  refine g_iconst (v := (nI 3)) dX5_add_48 rfl ?_
  refine g_iaddN dX5_add_49 ?_
  refine g_iload dX5_add_50 rfl ?_
  refine g_callN [.ref 14, .int (nI ((4 * m) + 3)), .int d] [] (x_putN (zs_up (zs_up (zs_up S.1 14 (4 * m) a, S.2).1 14 ((4 * m) + 1) b, (zs_up S.1 14 (4 * m) a, S.2).2).1 14 ((4 * m) + 2) c, (zs_up (zs_up S.1 14 (4 * m) a, S.2).1 14 ((4 * m) + 1) b, (zs_up S.1 14 (4 * m) a, S.2).2).2) 14 24 ((4 * m) + 3) d (by decide) rfl (by decide) (by omega)) dX5_add_52 kk_X5_add_X11_put nl_RX5_22 swX11_put rfl rfl (Nat.le_of_ble_eq_true rfl) ?_
  rintro _ _ ⟨rfl, rfl⟩
  refine g_aload_n dX5_add_55 rfl rfl ?_
  refine g_dup dX5_add_56 rfl ?_
  refine g_getV 2 (C := RX5) (T := TX5) (N := 3) (v := (nI m)) dX5_add_57 (by decide) rfl rfl (by decide) rfl fl_RX5_19 ((zs_up_m (by omega)).trans ((zs_up_m (by omega)).trans ((zs_up_m (by omega)).trans ((zs_up_m (by omega)).trans hm)))) ?_
  refine g_iconst (v := (nI 1)) dX5_add_60 rfl ?_
  refine g_iaddN dX5_add_61 ?_
  refine g_putI 2 (C := RX5) (T := TX5) (N := 3) (ty := .int) dX5_add_62 (by decide) rfl rfl (by decide) rfl fl_RX5_19 rfl (by decide +kernel) ⟨rfl, rfl⟩ ?_
  refine g_aload_n dX5_add_65 rfl rfl ?_
  refine g_getV 2 (C := RX5) (T := TX5) (N := 3) (v := (nI (m + 1))) dX5_add_66 (by decide) rfl rfl (by decide) rfl fl_RX5_19 zs_up_q ?_
  refine g_iret dX5_add_69 rfl rfl ?_
  exact ⟨_, rfl, rfl, zs_up_q, fun b i _ hp => by
    have h1 : ¬ (b = 13 ∧ i = 2) := fun z => hp (Or.inl z)
    have h2 : b ≠ 14 := fun z => hp (Or.inr z)
    exact ⟨(zs_up_n h1).trans ((zs_up_n (by omega)).trans ((zs_up_n (by omega)).trans ((zs_up_n (by omega)).trans (zs_up_n (by omega))))), rfl⟩, ⟨(zs_up_m (by omega)).trans ((zs_up_m (by omega)).trans ((zs_up_m (by omega)).trans ((zs_up_m (by omega)).trans (zs_up_q)))), (zs_up_m (by omega)).trans ((zs_up_m (by omega)).trans ((zs_up_m (by omega)).trans (zs_up_q))), (zs_up_m (by omega)).trans ((zs_up_m (by omega)).trans (zs_up_q)), (zs_up_m (by omega)).trans (zs_up_q)⟩, fun i hi => (zs_up_m (by omega)).trans ((zs_up_m (by omega)).trans ((zs_up_m (by omega)).trans ((zs_up_m (by omega)).trans ((zs_up_m (by omega))))))⟩
set_option maxRecDepth 100000 in
theorem c_rfull_13 (S : zs_S) (m : Nat) (hm : S.1 13 2 = nI m) (h : m ≤ 6) : zs_Ci MX5_isFull [.ref 13] S (fun x S2 => x = zs_b (6 ≤ m) ∧ S = S2) := by
  refine zs_C.of (by decide) (Nat.le_of_ble_eq_true rfl) ?_
  show zs_P MX5_isFull 0 [(0, .ref 13)] [] S _
  refine g_aload_n dX5_isFull_0 rfl rfl ?_
  refine g_getV 2 (C := RX5) (T := TX5) (N := 3) (v := (nI m)) dX5_isFull_1 (by decide) rfl rfl (by decide) rfl fl_RX5_19 hm ?_
  refine g_bipush (v := (nI 6)) dX5_isFull_4 rfl ?_
  refine g_ic_ltN 13 dX5_isFull_6 (by decide) (by omega) (by omega) (fun h1 => ?_) (fun h1 => ?_)
  · refine g_iconst (v := (nI 0)) dX5_isFull_13 rfl ?_
    refine g_iret dX5_isFull_14 rfl rfl ?_
    exact ⟨_, rfl, (zs_bf (by omega)).symm, rfl⟩
  · refine g_iconst (v := (nI 1)) dX5_isFull_9 rfl ?_
    refine g_goto 14 dX5_isFull_10 (by decide) ?_
    refine g_iret dX5_isFull_14 rfl rfl ?_
    exact ⟨_, rfl, (zs_bt (by omega)).symm, rfl⟩
set_option maxRecDepth 100000 in
theorem c_drumW (S : zs_S) (n k t : Int32) : zs_Ci MX11_drum [.ref 0, .int n, .int k, .int t] S (fun x S2 => zs_fP (zs_Ps 1) S S2 ∧ ((zs_q 2 12 n && (zs_q 0 5 k && (zs_q 0 11 t))) = false → x = (-2) ∧ zs_fr_W S S2) ∧ ((zs_q 2 12 n && (zs_q 0 5 k && (zs_q 0 11 t))) = true → x = S.1 1 2 ∧ S2.1 1 0 = n ∧ S2.1 1 1 = k ∧ S2.1 1 2 = nI 0 ∧ S2.1 9 2 = nI 0 ∧ S2.1 11 2 = nI 0 ∧ S2.1 13 2 = nI 0)) := by
  refine zs_C.of (by decide) (Nat.le_of_ble_eq_true rfl) ?_
  show zs_P MX11_drum 0 [(0, .ref 0), (1, .int n), (2, .int k), (3, .int t)] [] S _
  refine g_iload_n dX11_drum_0 rfl rfl ?_
  refine g_iconst (v := (nI 2)) dX11_drum_1 rfl ?_
  refine g_bipush (v := (nI 12)) dX11_drum_2 rfl ?_
  refine g_callS [.int n, .int (nI 2), .int (nI 12)] [] (x_within S n (nI 2) (nI 12)) dX11_drum_4 kk_X11_drum_X11_within ml_RX11_75 swX11_within rfl rfl (Nat.le_of_ble_eq_true rfl) ?_
  rintro _ _ ⟨_, rfl, rfl, rfl⟩
  refine g_if_eq 24 dX11_drum_7 (by decide) (fun h1 => ?_) (fun h1 => ?_)
  · have h1 := zs_b0 h1
    refine g_aload_n dX11_drum_24 rfl rfl ?_
    refine g_bipush (v := (-2)) dX11_drum_25 rfl ?_
    refine g_callV (T := TX11) (NN := 18) [] (x_refuseBad S (-2)) dX11_drum_27 kk_X11_drum_X11_refuseBad ml_RX11_86 mwX11_refuseBad ewX11_refuseBad (by decide) rfl rfl rfl rfl (Nat.le_of_ble_eq_true rfl) ?_
    rintro _ _ ⟨_, rfl, rfl, rfl⟩
    refine g_iret dX11_drum_30 rfl rfl ?_
    have q0 : zs_q 2 12 n = false := zs_qF h1
    exact ⟨_, rfl, (zs_fr_W.up rfl).p, fun _ => ⟨rfl, zs_fr_W.up rfl⟩, fun z => absurd z (by rw [q0]; exact Bool.false_ne_true)⟩
  · have h1 := zs_b1 h1
    obtain ⟨n', n'a, n'b, rfl⟩ := zs_rng h1 (by omega)
    refine g_iload_n dX11_drum_10 rfl rfl ?_
    refine g_callS [.int k] [] (x_isKind S k) dX11_drum_11 kk_X11_drum_X11_isKind ml_RX11_79 swX11_isKind rfl rfl (Nat.le_of_ble_eq_true rfl) ?_
    rintro _ _ ⟨_, rfl, rfl, rfl⟩
    refine g_if_eq 24 dX11_drum_14 (by decide) (fun h2 => ?_) (fun h2 => ?_)
    · have h2 := zs_b0 h2
      refine g_aload_n dX11_drum_24 rfl rfl ?_
      refine g_bipush (v := (-2)) dX11_drum_25 rfl ?_
      refine g_callV (T := TX11) (NN := 18) [] (x_refuseBad S (-2)) dX11_drum_27 kk_X11_drum_X11_refuseBad ml_RX11_86 mwX11_refuseBad ewX11_refuseBad (by decide) rfl rfl rfl rfl (Nat.le_of_ble_eq_true rfl) ?_
      rintro _ _ ⟨_, rfl, rfl, rfl⟩
      refine g_iret dX11_drum_30 rfl rfl ?_
      have q0 : zs_q 2 12 (nI n') = true := zs_qN (by omega) (by omega) (by decide)
      have q1 : zs_q 0 5 k = false := zs_qF h2
      exact ⟨_, rfl, (zs_fr_W.up rfl).p, fun _ => ⟨rfl, zs_fr_W.up rfl⟩, fun z => absurd z (by rw [q0, q1]; exact Bool.false_ne_true)⟩
    · have h2 := zs_b1 h2
      obtain ⟨k', k'a, k'b, rfl⟩ := zs_rng h2 (by omega)
      refine g_iload_n dX11_drum_17 rfl rfl ?_
      refine g_callS [.int t] [] (x_isStep S t) dX11_drum_18 kk_X11_drum_X11_isStep ml_RX11_83 swX11_isStep rfl rfl (Nat.le_of_ble_eq_true rfl) ?_
      rintro _ _ ⟨_, rfl, rfl, rfl⟩
      refine g_if_ne 31 dX11_drum_21 (by decide) (fun h3 => ?_) (fun h3 => ?_)
      · have h3 := zs_b1 h3
        obtain ⟨t', t'a, t'b, rfl⟩ := zs_rng h3 (by omega)
        refine g_aload_n dX11_drum_31 rfl rfl ?_
        refine g_getR 0 (1) (C := RX11) (T := TX11) (N := 18) dX11_drum_32 (by decide) rfl rfl (by decide) rfl fl_RX11_10 ?_
        refine g_getI 2 (C := RX6) (T := TX6) (N := 9) dX11_drum_35 (by decide) rfl rfl (by decide) rfl fl_RX11_90 ?_
        refine g_istore (lv' := [(4, .int (S.1 1 2)), (0, .ref 0), (1, .int (nI n')), (2, .int (nI k')), (3, .int (nI t'))]) dX11_drum_38 (by decide) rfl ?_
        refine g_aload_n dX11_drum_40 rfl rfl ?_
        refine g_getR 0 (1) (C := RX11) (T := TX11) (N := 18) dX11_drum_41 (by decide) rfl rfl (by decide) rfl fl_RX11_10 ?_
        refine g_iload_n dX11_drum_44 rfl rfl ?_
        refine g_iload_n dX11_drum_45 rfl rfl ?_
        refine g_iload_n dX11_drum_46 rfl rfl ?_
        refine g_callV (T := TX6) (NN := 9) [] (c_begin1 S (nI n') (nI k') (nI t')) dX11_drum_47 kk_X11_drum_X6_begin ml_RX11_94 mwX6_begin ewX6_begin (by decide) rfl rfl rfl rfl (Nat.le_of_ble_eq_true rfl) ?_
        rintro _ S4 ⟨rfl, bS4⟩
        refine g_iload dX11_drum_50 rfl ?_
        refine g_iret dX11_drum_52 rfl rfl ?_
        have q0 : zs_q 2 12 (nI n') = true := zs_qN (by omega) (by omega) (by decide)
        have q1 : zs_q 0 5 (nI k') = true := zs_qN (by omega) (by omega) (by decide)
        have q2 : zs_q 0 11 (nI t') = true := zs_qN (by omega) (by omega) (by decide)
        exact ⟨_, rfl, bS4.1, fun z => absurd z (by rw [q0, q1, q2]; decide), fun _ => ⟨rfl, bS4.2⟩⟩
      · have h3 := zs_b0 h3
        refine g_aload_n dX11_drum_24 rfl rfl ?_
        refine g_bipush (v := (-2)) dX11_drum_25 rfl ?_
        refine g_callV (T := TX11) (NN := 18) [] (x_refuseBad S (-2)) dX11_drum_27 kk_X11_drum_X11_refuseBad ml_RX11_86 mwX11_refuseBad ewX11_refuseBad (by decide) rfl rfl rfl rfl (Nat.le_of_ble_eq_true rfl) ?_
        rintro _ _ ⟨_, rfl, rfl, rfl⟩
        refine g_iret dX11_drum_30 rfl rfl ?_
        have q0 : zs_q 2 12 (nI n') = true := zs_qN (by omega) (by omega) (by decide)
        have q1 : zs_q 0 5 (nI k') = true := zs_qN (by omega) (by omega) (by decide)
        have q2 : zs_q 0 11 t = false := zs_qF h3
        exact ⟨_, rfl, (zs_fr_W.up rfl).p, fun _ => ⟨rfl, zs_fr_W.up rfl⟩, fun z => absurd z (by rw [q0, q1, q2]; exact Bool.false_ne_true)⟩
set_option maxRecDepth 100000 in
theorem c_lampW (S : zs_S) (k : Int32) : zs_Ci MX11_lamp [.ref 0, .int k] S (fun x S2 => zs_fP (zs_P1 1 1) S S2 ∧ ((zs_q 0 5 k) = false → x = (-2) ∧ zs_fr_W S S2) ∧ ((zs_q 0 5 k) = true → x = S.1 1 1 ∧ S2.1 1 1 = k)) := by
  refine zs_C.of (by decide) (Nat.le_of_ble_eq_true rfl) ?_
  show zs_P MX11_lamp 0 [(0, .ref 0), (1, .int k)] [] S _
  refine g_iload_n dX11_lamp_0 rfl rfl ?_
  refine g_callS [.int k] [] (x_isKind S k) dX11_lamp_1 kk_X11_lamp_X11_isKind ml_RX11_79 swX11_isKind rfl rfl (Nat.le_of_ble_eq_true rfl) ?_
  rintro _ _ ⟨_, rfl, rfl, rfl⟩
  refine g_if_ne 14 dX11_lamp_4 (by decide) (fun h1 => ?_) (fun h1 => ?_)
  · have h1 := zs_b1 h1
    obtain ⟨k', k'a, k'b, rfl⟩ := zs_rng h1 (by omega)
    refine g_aload_n dX11_lamp_14 rfl rfl ?_
    refine g_getR 0 (1) (C := RX11) (T := TX11) (N := 18) dX11_lamp_15 (by decide) rfl rfl (by decide) rfl fl_RX11_10 ?_
    refine g_getI 1 (C := RX6) (T := TX6) (N := 9) dX11_lamp_18 (by decide) rfl rfl (by decide) rfl fl_RX11_98 ?_
    refine g_istore_n (lv' := [(2, .int (S.1 1 1)), (0, .ref 0), (1, .int (nI k'))]) dX11_lamp_21 rfl (by decide) rfl ?_
    refine g_aload_n dX11_lamp_22 rfl rfl ?_
    refine g_getR 0 (1) (C := RX11) (T := TX11) (N := 18) dX11_lamp_23 (by decide) rfl rfl (by decide) rfl fl_RX11_10 ?_
    refine g_iload_n dX11_lamp_26 rfl rfl ?_
    refine g_putI 1 (C := RX6) (T := TX6) (N := 9) (ty := .int) dX11_lamp_27 (by decide) rfl rfl (by decide) rfl fl_RX11_98 rfl (by decide +kernel) ⟨rfl, rfl⟩ ?_
    refine g_aload_n dX11_lamp_30 rfl rfl ?_
    refine g_getR 0 (1) (C := RX11) (T := TX11) (N := 18) dX11_lamp_31 (by decide) rfl rfl (by decide) rfl fl_RX11_10 ?_
    refine g_getR 5 (7) (C := RX6) (T := TX6) (N := 9) dX11_lamp_34 (by decide) rfl rfl (by decide) rfl fl_RX11_101 ?_
    refine g_callV (T := TX4) (NN := 2) [] (v_X4_empty_7_W (zs_up S.1 1 1 (nI k'), S.2)) dX11_lamp_37 kk_X11_lamp_X4_empty ml_RX11_105 mwX4_empty ewX4_empty (by decide) rfl rfl rfl rfl (Nat.le_of_ble_eq_true rfl) ?_
    rintro _ S2 ⟨rfl, fS2⟩
    refine g_iload_n dX11_lamp_40 rfl rfl ?_
    refine g_iret dX11_lamp_41 rfl rfl ?_
    have q0 : zs_q 0 5 (nI k') = true := zs_qN (by omega) (by omega) (by decide)
    exact ⟨_, rfl, ((((zs_fP.rf).tr (zs_fP.up ⟨rfl, rfl⟩))).tr fS2.p), fun z => absurd z (by rw [q0]; decide), fun _ => ⟨rfl, ((fS2 1 1 rfl).1.trans zs_up_q)⟩⟩
  · have h1 := zs_b0 h1
    refine g_aload_n dX11_lamp_7 rfl rfl ?_
    refine g_bipush (v := (-2)) dX11_lamp_8 rfl ?_
    refine g_callV (T := TX11) (NN := 18) [] (x_refuseBad S (-2)) dX11_lamp_10 kk_X11_lamp_X11_refuseBad ml_RX11_86 mwX11_refuseBad ewX11_refuseBad (by decide) rfl rfl rfl rfl (Nat.le_of_ble_eq_true rfl) ?_
    rintro _ _ ⟨_, rfl, rfl, rfl⟩
    refine g_iret dX11_lamp_13 rfl rfl ?_
    have q0 : zs_q 0 5 k = false := zs_qF h1
    exact ⟨_, rfl, (zs_fr_W.up rfl).p, fun _ => ⟨rfl, zs_fr_W.up rfl⟩, fun z => absurd z (by rw [q0]; exact Bool.false_ne_true)⟩
set_option maxRecDepth 100000 in
theorem c_eyeW (S : zs_S) (k : Int32) (m : Nat) (hm : S.1 1 2 = nI m) (h5 : m ≤ 5) : zs_Ci MX11_eye [.ref 0, .int k] S (fun x S2 => zs_fP (zs_P1 1 2) S S2 ∧ ((zs_q 0 5 k) = false → x = (-2) ∧ zs_fr_W S S2) ∧ ((zs_q 0 5 k) = true → (5 ≤ m → x = (-4) ∧ zs_fr_W S S2) ∧ (m < 5 → x = nI m ∧ S2.1 1 2 = nI (m + 1)))) := by
  refine zs_C.of (by decide) (Nat.le_of_ble_eq_true rfl) ?_
  show zs_P MX11_eye 0 [(0, .ref 0), (1, .int k)] [] S _
  refine g_iload_n dX11_eye_0 rfl rfl ?_
  refine g_callS [.int k] [] (x_isKind S k) dX11_eye_1 kk_X11_eye_X11_isKind ml_RX11_79 swX11_isKind rfl rfl (Nat.le_of_ble_eq_true rfl) ?_
  rintro _ _ ⟨_, rfl, rfl, rfl⟩
  refine g_if_ne 14 dX11_eye_4 (by decide) (fun h1 => ?_) (fun h1 => ?_)
  · have h1 := zs_b1 h1
    obtain ⟨k', k'a, k'b, rfl⟩ := zs_rng h1 (by omega)
    refine g_aload_n dX11_eye_14 rfl rfl ?_
    refine g_getR 0 (1) (C := RX11) (T := TX11) (N := 18) dX11_eye_15 (by decide) rfl rfl (by decide) rfl fl_RX11_10 ?_
    refine g_getV 2 (C := RX6) (T := TX6) (N := 9) (v := (nI m)) dX11_eye_18 (by decide) rfl rfl (by decide) rfl fl_RX11_90 hm ?_
    refine g_iconst (v := (nI 5)) dX11_eye_21 rfl ?_
    refine g_ic_ltN 30 dX11_eye_22 (by decide) (by omega) (by omega) (fun h2 => ?_) (fun h2 => ?_)
    · refine g_aload_n dX11_eye_30 rfl rfl ?_
      refine g_getR 0 (1) (C := RX11) (T := TX11) (N := 18) dX11_eye_31 (by decide) rfl rfl (by decide) rfl fl_RX11_10 ?_
      refine g_iload_n dX11_eye_34 rfl rfl ?_
      refine g_callV (T := TX6) (NN := 9) [] (c_addEye1 S (nI k') m hm) dX11_eye_35 kk_X11_eye_X6_addEye ml_RX11_114 mwX6_addEye ewX6_addEye (by decide) rfl rfl rfl rfl (Nat.le_of_ble_eq_true rfl) ?_
      rintro _ S3 ⟨rfl, bS3⟩
      refine g_aload_n dX11_eye_38 rfl rfl ?_
      refine g_getR 0 (1) (C := RX11) (T := TX11) (N := 18) dX11_eye_39 (by decide) rfl rfl (by decide) rfl fl_RX11_10 ?_
      refine g_getR 5 (7) (C := RX6) (T := TX6) (N := 9) dX11_eye_42 (by decide) rfl rfl (by decide) rfl fl_RX11_101 ?_
      refine g_callV (T := TX4) (NN := 2) [] (v_X4_empty_7_W S3) dX11_eye_45 kk_X11_eye_X4_empty ml_RX11_105 mwX4_empty ewX4_empty (by decide) rfl rfl rfl rfl (Nat.le_of_ble_eq_true rfl) ?_
      rintro _ S4 ⟨rfl, fS4⟩
      refine g_aload_n dX11_eye_48 rfl rfl ?_
      refine g_getR 0 (1) (C := RX11) (T := TX11) (N := 18) dX11_eye_49 (by decide) rfl rfl (by decide) rfl fl_RX11_10 ?_
      refine g_getV 2 (C := RX6) (T := TX6) (N := 9) (v := (nI (m + 1))) dX11_eye_52 (by decide) rfl rfl (by decide) rfl fl_RX11_90 ((fS4 1 2 rfl).1.trans bS3.2) ?_
      refine g_iconst (v := (nI 1)) dX11_eye_55 rfl ?_
      refine g_isubN dX11_eye_56 (by omega) ?_
      refine g_iret dX11_eye_57 rfl rfl ?_
      have q0 : zs_q 0 5 (nI k') = true := zs_qN (by omega) (by omega) (by decide)
      exact ⟨_, rfl, bS3.1.tr fS4.p, fun z => absurd z (by rw [q0]; decide), fun _ => ⟨fun z => absurd z (by omega), fun _ => ⟨rfl, (fS4 1 2 rfl).1.trans bS3.2⟩⟩⟩
    · refine g_aload_n dX11_eye_25 rfl rfl ?_
      refine g_callV (T := TX11) (NN := 18) [] (x_refuseFull S) dX11_eye_26 kk_X11_eye_X11_refuseFull ml_RX11_110 mwX11_refuseFull ewX11_refuseFull (by decide) rfl rfl rfl rfl (Nat.le_of_ble_eq_true rfl) ?_
      rintro _ _ ⟨_, rfl, rfl, rfl⟩
      refine g_iret dX11_eye_29 rfl rfl ?_
      have q0 : zs_q 0 5 (nI k') = true := zs_qN (by omega) (by omega) (by decide)
      exact ⟨_, rfl, (zs_fr_W.up rfl).p, fun z => absurd z (by rw [q0]; decide), fun _ => ⟨fun _ => ⟨rfl, zs_fr_W.up rfl⟩, fun z => absurd z (by omega)⟩⟩
  · have h1 := zs_b0 h1
    refine g_aload_n dX11_eye_7 rfl rfl ?_
    refine g_bipush (v := (-2)) dX11_eye_8 rfl ?_
    refine g_callV (T := TX11) (NN := 18) [] (x_refuseBad S (-2)) dX11_eye_10 kk_X11_eye_X11_refuseBad ml_RX11_86 mwX11_refuseBad ewX11_refuseBad (by decide) rfl rfl rfl rfl (Nat.le_of_ble_eq_true rfl) ?_
    rintro _ _ ⟨_, rfl, rfl, rfl⟩
    refine g_iret dX11_eye_13 rfl rfl ?_
    have q0 : zs_q 0 5 k = false := zs_qF h1
    exact ⟨_, rfl, (zs_fr_W.up rfl).p, fun _ => ⟨rfl, zs_fr_W.up rfl⟩, fun z => absurd z (by rw [q0]; exact Bool.false_ne_true)⟩
set_option maxRecDepth 100000 in
theorem c_seenW (S : zs_S) (k p : Int32) (m : Nat) (hm : S.1 9 2 = nI m) (h6 : m ≤ 6) : zs_Ci MX11_seen [.ref 0, .int k, .int p] S (fun x S2 => zs_fP (zs_Pr 9) S S2 ∧ ((zs_q 1 30 k && (zs_q 0 9 p)) = false → x = (-2) ∧ zs_fr_W S S2) ∧ ((zs_q 1 30 k && (zs_q 0 9 p)) = true → (6 ≤ m → x = (-4) ∧ zs_fr_W S S2) ∧ (m < 6 → x = nI (m + 1) ∧ S2.1 9 2 = nI (m + 1) ∧ zs_nw 10 m k p (nI 0) (nI 0) S S2))) := by
  refine zs_C.of (by decide) (Nat.le_of_ble_eq_true rfl) ?_
  show zs_P MX11_seen 0 [(0, .ref 0), (1, .int k), (2, .int p)] [] S _
  refine g_iload_n dX11_seen_0 rfl rfl ?_
  refine g_iconst (v := (nI 1)) dX11_seen_1 rfl ?_
  refine g_bipush (v := (nI 30)) dX11_seen_2 rfl ?_
  refine g_callS [.int k, .int (nI 1), .int (nI 30)] [] (x_within S k (nI 1) (nI 30)) dX11_seen_4 kk_X11_seen_X11_within ml_RX11_75 swX11_within rfl rfl (Nat.le_of_ble_eq_true rfl) ?_
  rintro _ _ ⟨_, rfl, rfl, rfl⟩
  refine g_if_eq 17 dX11_seen_7 (by decide) (fun h1 => ?_) (fun h1 => ?_)
  · have h1 := zs_b0 h1
    refine g_aload_n dX11_seen_17 rfl rfl ?_
    refine g_bipush (v := (-2)) dX11_seen_18 rfl ?_
    refine g_callV (T := TX11) (NN := 18) [] (x_refuseBad S (-2)) dX11_seen_20 kk_X11_seen_X11_refuseBad ml_RX11_86 mwX11_refuseBad ewX11_refuseBad (by decide) rfl rfl rfl rfl (Nat.le_of_ble_eq_true rfl) ?_
    rintro _ _ ⟨_, rfl, rfl, rfl⟩
    refine g_iret dX11_seen_23 rfl rfl ?_
    have q0 : zs_q 1 30 k = false := zs_qF h1
    exact ⟨_, rfl, (zs_fr_W.up rfl).p, fun _ => ⟨rfl, zs_fr_W.up rfl⟩, fun z => absurd z (by rw [q0]; exact Bool.false_ne_true)⟩
  · have h1 := zs_b1 h1
    obtain ⟨k', k'a, k'b, rfl⟩ := zs_rng h1 (by omega)
    refine g_iload_n dX11_seen_10 rfl rfl ?_
    refine g_callS [.int p] [] (x_isDrawing S p) dX11_seen_11 kk_X11_seen_X11_isDrawing ml_RX11_162 swX11_isDrawing rfl rfl (Nat.le_of_ble_eq_true rfl) ?_
    rintro _ _ ⟨_, rfl, rfl, rfl⟩
    refine g_if_ne 24 dX11_seen_14 (by decide) (fun h2 => ?_) (fun h2 => ?_)
    · have h2 := zs_b1 h2
      obtain ⟨p', p'a, p'b, rfl⟩ := zs_rng h2 (by omega)
      refine g_aload_n dX11_seen_24 rfl rfl ?_
      refine g_getR 0 (1) (C := RX11) (T := TX11) (N := 18) dX11_seen_25 (by decide) rfl rfl (by decide) rfl fl_RX11_10 ?_
      refine g_getR 6 (9) (C := RX6) (T := TX6) (N := 9) dX11_seen_28 (by decide) rfl rfl (by decide) rfl fl_RX11_223 ?_
      refine g_callV (T := TX5) (NN := 3) [] (c_rfull_9 S m hm h6) dX11_seen_31 kk_X11_seen_X5_isFull ml_RX11_227 mwX5_isFull ewX5_isFull (by decide) rfl rfl rfl rfl (Nat.le_of_ble_eq_true rfl) ?_
      rintro _ _ ⟨_, rfl, rfl, rfl⟩
      refine g_if_eq 44 dX11_seen_34 (by decide) (fun h3 => ?_) (fun h3 => ?_)
      · have h3 := zs_b0 h3
        refine g_aload_n dX11_seen_44 rfl rfl ?_
        refine g_getR 0 (1) (C := RX11) (T := TX11) (N := 18) dX11_seen_45 (by decide) rfl rfl (by decide) rfl fl_RX11_10 ?_
        refine g_getR 6 (9) (C := RX6) (T := TX6) (N := 9) dX11_seen_48 (by decide) rfl rfl (by decide) rfl fl_RX11_223 ?_
        refine g_iload_n dX11_seen_51 rfl rfl ?_
        refine g_iload_n dX11_seen_52 rfl rfl ?_
        refine g_iconst (v := (nI 0)) dX11_seen_53 rfl ?_
        refine g_iconst (v := (nI 0)) dX11_seen_54 rfl ?_
        refine g_callV (T := TX5) (NN := 3) [] (c_radd_9 S (nI k') (nI p') (nI 0) (nI 0) m hm (by omega)) dX11_seen_55 kk_X11_seen_X5_add ml_RX11_230 mwX5_add ewX5_add (by decide) rfl rfl rfl rfl (Nat.le_of_ble_eq_true rfl) ?_
        rintro _ S4 ⟨_, rfl, rfl, bS4⟩
        refine g_iret dX11_seen_58 rfl rfl ?_
        have q0 : zs_q 1 30 (nI k') = true := zs_qN (by omega) (by omega) (by decide)
        have q1 : zs_q 0 9 (nI p') = true := zs_qN (by omega) (by omega) (by decide)
        exact ⟨_, rfl, bS4.2.1, fun z => absurd z (by rw [q0, q1]; decide), fun _ => ⟨fun z => absurd z (by omega), fun _ => ⟨rfl, bS4.1, bS4.2.2⟩⟩⟩
      · have h3 := zs_b1 h3
        refine g_aload_n dX11_seen_37 rfl rfl ?_
        refine g_callV (T := TX11) (NN := 18) [] (x_refuseFull S) dX11_seen_38 kk_X11_seen_X11_refuseFull ml_RX11_110 mwX11_refuseFull ewX11_refuseFull (by decide) rfl rfl rfl rfl (Nat.le_of_ble_eq_true rfl) ?_
        rintro _ _ ⟨_, rfl, rfl, rfl⟩
        refine g_goto 58 dX11_seen_41 (by decide) ?_
        refine g_iret dX11_seen_58 rfl rfl ?_
        have q0 : zs_q 1 30 (nI k') = true := zs_qN (by omega) (by omega) (by decide)
        have q1 : zs_q 0 9 (nI p') = true := zs_qN (by omega) (by omega) (by decide)
        exact ⟨_, rfl, (zs_fr_W.up rfl).p, fun z => absurd z (by rw [q0, q1]; decide), fun _ => ⟨fun _ => ⟨rfl, zs_fr_W.up rfl⟩, fun z => absurd z (by omega)⟩⟩
    · have h2 := zs_b0 h2
      refine g_aload_n dX11_seen_17 rfl rfl ?_
      refine g_bipush (v := (-2)) dX11_seen_18 rfl ?_
      refine g_callV (T := TX11) (NN := 18) [] (x_refuseBad S (-2)) dX11_seen_20 kk_X11_seen_X11_refuseBad ml_RX11_86 mwX11_refuseBad ewX11_refuseBad (by decide) rfl rfl rfl rfl (Nat.le_of_ble_eq_true rfl) ?_
      rintro _ _ ⟨_, rfl, rfl, rfl⟩
      refine g_iret dX11_seen_23 rfl rfl ?_
      have q0 : zs_q 1 30 (nI k') = true := zs_qN (by omega) (by omega) (by decide)
      have q1 : zs_q 0 9 p = false := zs_qF h2
      exact ⟨_, rfl, (zs_fr_W.up rfl).p, fun _ => ⟨rfl, zs_fr_W.up rfl⟩, fun z => absurd z (by rw [q0, q1]; exact Bool.false_ne_true)⟩
set_option maxRecDepth 100000 in
theorem c_noteW (S : zs_S) (e p q y : Int32) (m : Nat) (hm : S.1 11 2 = nI m) (h6 : m ≤ 6) : zs_Ci MX11_note [.ref 0, .int e, .int p, .int q, .int y] S (fun x S2 => zs_fP (zs_Pr 11) S S2 ∧ ((zs_qe (S.1 1 2) e && (zs_q 0 9 p && (zs_q 0 9 q && (zs_q 0 9 y)))) = false → x = (-2) ∧ zs_fr_W S S2) ∧ ((zs_qe (S.1 1 2) e && (zs_q 0 9 p && (zs_q 0 9 q && (zs_q 0 9 y)))) = true → (6 ≤ m → x = (-4) ∧ zs_fr_W S S2) ∧ (m < 6 → x = nI (m + 1) ∧ S2.1 11 2 = nI (m + 1) ∧ zs_nw 12 m e p q y S S2))) := by
  refine zs_C.of (by decide) (Nat.le_of_ble_eq_true rfl) ?_
  show zs_P MX11_note 0 [(0, .ref 0), (1, .int e), (2, .int p), (3, .int q), (4, .int y)] [] S _
  refine g_aload_n dX11_note_0 rfl rfl ?_
  refine g_iload_n dX11_note_1 rfl rfl ?_
  refine g_callV (T := TX11) (NN := 18) [] (x_isEye S e) dX11_note_2 kk_X11_note_X11_isEye ml_RX11_182 mwX11_isEye ewX11_isEye (by decide) rfl rfl rfl rfl (Nat.le_of_ble_eq_true rfl) ?_
  rintro _ _ ⟨_, rfl, rfl, rfl⟩
  refine g_if_eq 30 dX11_note_5 (by decide) (fun h1 => ?_) (fun h1 => ?_)
  · have h1 := zs_b0 h1
    refine g_aload_n dX11_note_30 rfl rfl ?_
    refine g_bipush (v := (-2)) dX11_note_31 rfl ?_
    refine g_callV (T := TX11) (NN := 18) [] (x_refuseBad S (-2)) dX11_note_33 kk_X11_note_X11_refuseBad ml_RX11_86 mwX11_refuseBad ewX11_refuseBad (by decide) rfl rfl rfl rfl (Nat.le_of_ble_eq_true rfl) ?_
    rintro _ _ ⟨_, rfl, rfl, rfl⟩
    refine g_iret dX11_note_36 rfl rfl ?_
    have q0 : zs_qe (S.1 1 2) e = false := zs_qeF h1
    exact ⟨_, rfl, (zs_fr_W.up rfl).p, fun _ => ⟨rfl, zs_fr_W.up rfl⟩, fun z => absurd z (by rw [q0]; exact Bool.false_ne_true)⟩
  · have h1 := zs_b1 h1
    refine g_iload_n dX11_note_8 rfl rfl ?_
    refine g_callS [.int p] [] (x_isDrawing S p) dX11_note_9 kk_X11_note_X11_isDrawing ml_RX11_162 swX11_isDrawing rfl rfl (Nat.le_of_ble_eq_true rfl) ?_
    rintro _ _ ⟨_, rfl, rfl, rfl⟩
    refine g_if_eq 30 dX11_note_12 (by decide) (fun h2 => ?_) (fun h2 => ?_)
    · have h2 := zs_b0 h2
      refine g_aload_n dX11_note_30 rfl rfl ?_
      refine g_bipush (v := (-2)) dX11_note_31 rfl ?_
      refine g_callV (T := TX11) (NN := 18) [] (x_refuseBad S (-2)) dX11_note_33 kk_X11_note_X11_refuseBad ml_RX11_86 mwX11_refuseBad ewX11_refuseBad (by decide) rfl rfl rfl rfl (Nat.le_of_ble_eq_true rfl) ?_
      rintro _ _ ⟨_, rfl, rfl, rfl⟩
      refine g_iret dX11_note_36 rfl rfl ?_
      have q0 : zs_qe (S.1 1 2) e = true := zs_qeT h1
      have q1 : zs_q 0 9 p = false := zs_qF h2
      exact ⟨_, rfl, (zs_fr_W.up rfl).p, fun _ => ⟨rfl, zs_fr_W.up rfl⟩, fun z => absurd z (by rw [q0, q1]; exact Bool.false_ne_true)⟩
    · have h2 := zs_b1 h2
      obtain ⟨p', p'a, p'b, rfl⟩ := zs_rng h2 (by omega)
      refine g_iload_n dX11_note_15 rfl rfl ?_
      refine g_callS [.int q] [] (x_isDrawing S q) dX11_note_16 kk_X11_note_X11_isDrawing ml_RX11_162 swX11_isDrawing rfl rfl (Nat.le_of_ble_eq_true rfl) ?_
      rintro _ _ ⟨_, rfl, rfl, rfl⟩
      refine g_if_eq 30 dX11_note_19 (by decide) (fun h3 => ?_) (fun h3 => ?_)
      · have h3 := zs_b0 h3
        refine g_aload_n dX11_note_30 rfl rfl ?_
        refine g_bipush (v := (-2)) dX11_note_31 rfl ?_
        refine g_callV (T := TX11) (NN := 18) [] (x_refuseBad S (-2)) dX11_note_33 kk_X11_note_X11_refuseBad ml_RX11_86 mwX11_refuseBad ewX11_refuseBad (by decide) rfl rfl rfl rfl (Nat.le_of_ble_eq_true rfl) ?_
        rintro _ _ ⟨_, rfl, rfl, rfl⟩
        refine g_iret dX11_note_36 rfl rfl ?_
        have q0 : zs_qe (S.1 1 2) e = true := zs_qeT h1
        have q1 : zs_q 0 9 (nI p') = true := zs_qN (by omega) (by omega) (by decide)
        have q2 : zs_q 0 9 q = false := zs_qF h3
        exact ⟨_, rfl, (zs_fr_W.up rfl).p, fun _ => ⟨rfl, zs_fr_W.up rfl⟩, fun z => absurd z (by rw [q0, q1, q2]; exact Bool.false_ne_true)⟩
      · have h3 := zs_b1 h3
        obtain ⟨q', q'a, q'b, rfl⟩ := zs_rng h3 (by omega)
        refine g_iload dX11_note_22 rfl ?_
        refine g_callS [.int y] [] (x_isDrawing S y) dX11_note_24 kk_X11_note_X11_isDrawing ml_RX11_162 swX11_isDrawing rfl rfl (Nat.le_of_ble_eq_true rfl) ?_
        rintro _ _ ⟨_, rfl, rfl, rfl⟩
        refine g_if_ne 37 dX11_note_27 (by decide) (fun h4 => ?_) (fun h4 => ?_)
        · have h4 := zs_b1 h4
          obtain ⟨y', y'a, y'b, rfl⟩ := zs_rng h4 (by omega)
          refine g_aload_n dX11_note_37 rfl rfl ?_
          refine g_getR 0 (1) (C := RX11) (T := TX11) (N := 18) dX11_note_38 (by decide) rfl rfl (by decide) rfl fl_RX11_10 ?_
          refine g_getR 7 (11) (C := RX6) (T := TX6) (N := 9) dX11_note_41 (by decide) rfl rfl (by decide) rfl fl_RX11_248 ?_
          refine g_callV (T := TX5) (NN := 3) [] (c_rfull_11 S m hm h6) dX11_note_44 kk_X11_note_X5_isFull ml_RX11_227 mwX5_isFull ewX5_isFull (by decide) rfl rfl rfl rfl (Nat.le_of_ble_eq_true rfl) ?_
          rintro _ _ ⟨_, rfl, rfl, rfl⟩
          refine g_if_eq 57 dX11_note_47 (by decide) (fun h5 => ?_) (fun h5 => ?_)
          · have h5 := zs_b0 h5
            refine g_aload_n dX11_note_57 rfl rfl ?_
            refine g_getR 0 (1) (C := RX11) (T := TX11) (N := 18) dX11_note_58 (by decide) rfl rfl (by decide) rfl fl_RX11_10 ?_
            refine g_getR 7 (11) (C := RX6) (T := TX6) (N := 9) dX11_note_61 (by decide) rfl rfl (by decide) rfl fl_RX11_248 ?_
            refine g_iload_n dX11_note_64 rfl rfl ?_
            refine g_iload_n dX11_note_65 rfl rfl ?_
            refine g_iload_n dX11_note_66 rfl rfl ?_
            refine g_iload dX11_note_67 rfl ?_
            refine g_callV (T := TX5) (NN := 3) [] (c_radd_11 S e (nI p') (nI q') (nI y') m hm (by omega)) dX11_note_69 kk_X11_note_X5_add ml_RX11_230 mwX5_add ewX5_add (by decide) rfl rfl rfl rfl (Nat.le_of_ble_eq_true rfl) ?_
            rintro _ S6 ⟨_, rfl, rfl, bS6⟩
            refine g_iret dX11_note_72 rfl rfl ?_
            have q0 : zs_qe (S.1 1 2) e = true := zs_qeT h1
            have q1 : zs_q 0 9 (nI p') = true := zs_qN (by omega) (by omega) (by decide)
            have q2 : zs_q 0 9 (nI q') = true := zs_qN (by omega) (by omega) (by decide)
            have q3 : zs_q 0 9 (nI y') = true := zs_qN (by omega) (by omega) (by decide)
            exact ⟨_, rfl, bS6.2.1, fun z => absurd z (by rw [q0, q1, q2, q3]; decide), fun _ => ⟨fun z => absurd z (by omega), fun _ => ⟨rfl, bS6.1, bS6.2.2⟩⟩⟩
          · have h5 := zs_b1 h5
            refine g_aload_n dX11_note_50 rfl rfl ?_
            refine g_callV (T := TX11) (NN := 18) [] (x_refuseFull S) dX11_note_51 kk_X11_note_X11_refuseFull ml_RX11_110 mwX11_refuseFull ewX11_refuseFull (by decide) rfl rfl rfl rfl (Nat.le_of_ble_eq_true rfl) ?_
            rintro _ _ ⟨_, rfl, rfl, rfl⟩
            refine g_goto 72 dX11_note_54 (by decide) ?_
            refine g_iret dX11_note_72 rfl rfl ?_
            have q0 : zs_qe (S.1 1 2) e = true := zs_qeT h1
            have q1 : zs_q 0 9 (nI p') = true := zs_qN (by omega) (by omega) (by decide)
            have q2 : zs_q 0 9 (nI q') = true := zs_qN (by omega) (by omega) (by decide)
            have q3 : zs_q 0 9 (nI y') = true := zs_qN (by omega) (by omega) (by decide)
            exact ⟨_, rfl, (zs_fr_W.up rfl).p, fun z => absurd z (by rw [q0, q1, q2, q3]; decide), fun _ => ⟨fun _ => ⟨rfl, zs_fr_W.up rfl⟩, fun z => absurd z (by omega)⟩⟩
        · have h4 := zs_b0 h4
          refine g_aload_n dX11_note_30 rfl rfl ?_
          refine g_bipush (v := (-2)) dX11_note_31 rfl ?_
          refine g_callV (T := TX11) (NN := 18) [] (x_refuseBad S (-2)) dX11_note_33 kk_X11_note_X11_refuseBad ml_RX11_86 mwX11_refuseBad ewX11_refuseBad (by decide) rfl rfl rfl rfl (Nat.le_of_ble_eq_true rfl) ?_
          rintro _ _ ⟨_, rfl, rfl, rfl⟩
          refine g_iret dX11_note_36 rfl rfl ?_
          have q0 : zs_qe (S.1 1 2) e = true := zs_qeT h1
          have q1 : zs_q 0 9 (nI p') = true := zs_qN (by omega) (by omega) (by decide)
          have q2 : zs_q 0 9 (nI q') = true := zs_qN (by omega) (by omega) (by decide)
          have q3 : zs_q 0 9 y = false := zs_qF h4
          exact ⟨_, rfl, (zs_fr_W.up rfl).p, fun _ => ⟨rfl, zs_fr_W.up rfl⟩, fun z => absurd z (by rw [q0, q1, q2, q3]; exact Bool.false_ne_true)⟩
set_option maxRecDepth 100000 in
theorem c_markW (S : zs_S) (s k y : Int32) (m : Nat) (hm : S.1 13 2 = nI m) (h6 : m ≤ 6) : zs_Ci MX11_mark [.ref 0, .int s, .int k, .int y] S (fun x S2 => zs_fP (zs_Pr 13) S S2 ∧ ((zs_q 0 11 s && (zs_q 0 99 k && (zs_q 0 30 y))) = false → x = (-2) ∧ zs_fr_W S S2) ∧ ((zs_q 0 11 s && (zs_q 0 99 k && (zs_q 0 30 y))) = true → (6 ≤ m → x = (-4) ∧ zs_fr_W S S2) ∧ (m < 6 → x = nI (m + 1) ∧ S2.1 13 2 = nI (m + 1) ∧ zs_nw 14 m s k y (nI 0) S S2))) := by
  refine zs_C.of (by decide) (Nat.le_of_ble_eq_true rfl) ?_
  show zs_P MX11_mark 0 [(0, .ref 0), (1, .int s), (2, .int k), (3, .int y)] [] S _
  refine g_iload_n dX11_mark_0 rfl rfl ?_
  refine g_callS [.int s] [] (x_isStep S s) dX11_mark_1 kk_X11_mark_X11_isStep ml_RX11_83 swX11_isStep rfl rfl (Nat.le_of_ble_eq_true rfl) ?_
  rintro _ _ ⟨_, rfl, rfl, rfl⟩
  refine g_if_eq 27 dX11_mark_4 (by decide) (fun h1 => ?_) (fun h1 => ?_)
  · have h1 := zs_b0 h1
    refine g_aload_n dX11_mark_27 rfl rfl ?_
    refine g_bipush (v := (-2)) dX11_mark_28 rfl ?_
    refine g_callV (T := TX11) (NN := 18) [] (x_refuseBad S (-2)) dX11_mark_30 kk_X11_mark_X11_refuseBad ml_RX11_86 mwX11_refuseBad ewX11_refuseBad (by decide) rfl rfl rfl rfl (Nat.le_of_ble_eq_true rfl) ?_
    rintro _ _ ⟨_, rfl, rfl, rfl⟩
    refine g_iret dX11_mark_33 rfl rfl ?_
    have q0 : zs_q 0 11 s = false := zs_qF h1
    exact ⟨_, rfl, (zs_fr_W.up rfl).p, fun _ => ⟨rfl, zs_fr_W.up rfl⟩, fun z => absurd z (by rw [q0]; exact Bool.false_ne_true)⟩
  · have h1 := zs_b1 h1
    obtain ⟨s', s'a, s'b, rfl⟩ := zs_rng h1 (by omega)
    refine g_iload_n dX11_mark_7 rfl rfl ?_
    refine g_iconst (v := (nI 0)) dX11_mark_8 rfl ?_
    refine g_bipush (v := (nI 99)) dX11_mark_9 rfl ?_
    refine g_callS [.int k, .int (nI 0), .int (nI 99)] [] (x_within S k (nI 0) (nI 99)) dX11_mark_11 kk_X11_mark_X11_within ml_RX11_75 swX11_within rfl rfl (Nat.le_of_ble_eq_true rfl) ?_
    rintro _ _ ⟨_, rfl, rfl, rfl⟩
    refine g_if_eq 27 dX11_mark_14 (by decide) (fun h2 => ?_) (fun h2 => ?_)
    · have h2 := zs_b0 h2
      refine g_aload_n dX11_mark_27 rfl rfl ?_
      refine g_bipush (v := (-2)) dX11_mark_28 rfl ?_
      refine g_callV (T := TX11) (NN := 18) [] (x_refuseBad S (-2)) dX11_mark_30 kk_X11_mark_X11_refuseBad ml_RX11_86 mwX11_refuseBad ewX11_refuseBad (by decide) rfl rfl rfl rfl (Nat.le_of_ble_eq_true rfl) ?_
      rintro _ _ ⟨_, rfl, rfl, rfl⟩
      refine g_iret dX11_mark_33 rfl rfl ?_
      have q0 : zs_q 0 11 (nI s') = true := zs_qN (by omega) (by omega) (by decide)
      have q1 : zs_q 0 99 k = false := zs_qF h2
      exact ⟨_, rfl, (zs_fr_W.up rfl).p, fun _ => ⟨rfl, zs_fr_W.up rfl⟩, fun z => absurd z (by rw [q0, q1]; exact Bool.false_ne_true)⟩
    · have h2 := zs_b1 h2
      obtain ⟨k', k'a, k'b, rfl⟩ := zs_rng h2 (by omega)
      refine g_iload_n dX11_mark_17 rfl rfl ?_
      refine g_iconst (v := (nI 0)) dX11_mark_18 rfl ?_
      refine g_bipush (v := (nI 30)) dX11_mark_19 rfl ?_
      refine g_callS [.int y, .int (nI 0), .int (nI 30)] [] (x_within S y (nI 0) (nI 30)) dX11_mark_21 kk_X11_mark_X11_within ml_RX11_75 swX11_within rfl rfl (Nat.le_of_ble_eq_true rfl) ?_
      rintro _ _ ⟨_, rfl, rfl, rfl⟩
      refine g_if_ne 34 dX11_mark_24 (by decide) (fun h3 => ?_) (fun h3 => ?_)
      · have h3 := zs_b1 h3
        obtain ⟨y', y'a, y'b, rfl⟩ := zs_rng h3 (by omega)
        refine g_aload_n dX11_mark_34 rfl rfl ?_
        refine g_getR 0 (1) (C := RX11) (T := TX11) (N := 18) dX11_mark_35 (by decide) rfl rfl (by decide) rfl fl_RX11_10 ?_
        refine g_getR 8 (13) (C := RX6) (T := TX6) (N := 9) dX11_mark_38 (by decide) rfl rfl (by decide) rfl fl_RX11_251 ?_
        refine g_callV (T := TX5) (NN := 3) [] (c_rfull_13 S m hm h6) dX11_mark_41 kk_X11_mark_X5_isFull ml_RX11_227 mwX5_isFull ewX5_isFull (by decide) rfl rfl rfl rfl (Nat.le_of_ble_eq_true rfl) ?_
        rintro _ _ ⟨_, rfl, rfl, rfl⟩
        refine g_if_eq 54 dX11_mark_44 (by decide) (fun h4 => ?_) (fun h4 => ?_)
        · have h4 := zs_b0 h4
          refine g_aload_n dX11_mark_54 rfl rfl ?_
          refine g_getR 0 (1) (C := RX11) (T := TX11) (N := 18) dX11_mark_55 (by decide) rfl rfl (by decide) rfl fl_RX11_10 ?_
          refine g_getR 8 (13) (C := RX6) (T := TX6) (N := 9) dX11_mark_58 (by decide) rfl rfl (by decide) rfl fl_RX11_251 ?_
          refine g_iload_n dX11_mark_61 rfl rfl ?_
          refine g_iload_n dX11_mark_62 rfl rfl ?_
          refine g_iload_n dX11_mark_63 rfl rfl ?_
          refine g_iconst (v := (nI 0)) dX11_mark_64 rfl ?_
          refine g_callV (T := TX5) (NN := 3) [] (c_radd_13 S (nI s') (nI k') (nI y') (nI 0) m hm (by omega)) dX11_mark_65 kk_X11_mark_X5_add ml_RX11_230 mwX5_add ewX5_add (by decide) rfl rfl rfl rfl (Nat.le_of_ble_eq_true rfl) ?_
          rintro _ S5 ⟨_, rfl, rfl, bS5⟩
          refine g_iret dX11_mark_68 rfl rfl ?_
          have q0 : zs_q 0 11 (nI s') = true := zs_qN (by omega) (by omega) (by decide)
          have q1 : zs_q 0 99 (nI k') = true := zs_qN (by omega) (by omega) (by decide)
          have q2 : zs_q 0 30 (nI y') = true := zs_qN (by omega) (by omega) (by decide)
          exact ⟨_, rfl, bS5.2.1, fun z => absurd z (by rw [q0, q1, q2]; decide), fun _ => ⟨fun z => absurd z (by omega), fun _ => ⟨rfl, bS5.1, bS5.2.2⟩⟩⟩
        · have h4 := zs_b1 h4
          refine g_aload_n dX11_mark_47 rfl rfl ?_
          refine g_callV (T := TX11) (NN := 18) [] (x_refuseFull S) dX11_mark_48 kk_X11_mark_X11_refuseFull ml_RX11_110 mwX11_refuseFull ewX11_refuseFull (by decide) rfl rfl rfl rfl (Nat.le_of_ble_eq_true rfl) ?_
          rintro _ _ ⟨_, rfl, rfl, rfl⟩
          refine g_goto 68 dX11_mark_51 (by decide) ?_
          refine g_iret dX11_mark_68 rfl rfl ?_
          have q0 : zs_q 0 11 (nI s') = true := zs_qN (by omega) (by omega) (by decide)
          have q1 : zs_q 0 99 (nI k') = true := zs_qN (by omega) (by omega) (by decide)
          have q2 : zs_q 0 30 (nI y') = true := zs_qN (by omega) (by omega) (by decide)
          exact ⟨_, rfl, (zs_fr_W.up rfl).p, fun z => absurd z (by rw [q0, q1, q2]; decide), fun _ => ⟨fun _ => ⟨rfl, zs_fr_W.up rfl⟩, fun z => absurd z (by omega)⟩⟩
      · have h3 := zs_b0 h3
        refine g_aload_n dX11_mark_27 rfl rfl ?_
        refine g_bipush (v := (-2)) dX11_mark_28 rfl ?_
        refine g_callV (T := TX11) (NN := 18) [] (x_refuseBad S (-2)) dX11_mark_30 kk_X11_mark_X11_refuseBad ml_RX11_86 mwX11_refuseBad ewX11_refuseBad (by decide) rfl rfl rfl rfl (Nat.le_of_ble_eq_true rfl) ?_
        rintro _ _ ⟨_, rfl, rfl, rfl⟩
        refine g_iret dX11_mark_33 rfl rfl ?_
        have q0 : zs_q 0 11 (nI s') = true := zs_qN (by omega) (by omega) (by decide)
        have q1 : zs_q 0 99 (nI k') = true := zs_qN (by omega) (by omega) (by decide)
        have q2 : zs_q 0 30 y = false := zs_qF h3
        exact ⟨_, rfl, (zs_fr_W.up rfl).p, fun _ => ⟨rfl, zs_fr_W.up rfl⟩, fun z => absurd z (by rw [q0, q1, q2]; exact Bool.false_ne_true)⟩
