/-! WHAT READING ASKS: K what the token j is, V its number; an answer: well or not, the token at hand -/
def tp_tn (K V : Nat → Nat) (j lo hi : Nat) : Bool := decide (K (j + 1) = 1 ∧ lo ≤ V (j + 1) ∧ V (j + 1) ≤ hi)
def tp_drum (K V : Nat → Nat) : Bool × Nat := if tp_tn K V 0 2 12 = true then (if tp_tn K V 1 0 5 = true then (if tp_tn K V 2 0 11 = true then (decide (K 4 = 2), 4) else (false, 3)) else (false, 2)) else (false, 1)
def tp_draw (K V : Nat → Nat) : Nat → Nat → Nat → Bool × Nat
  | 0, _, j => (decide (K (j + 1) = 2), j + 1)
  | d + 1, f, j => if tp_tn K V j 0 9 = true then tp_draw K V d (f + 1) (j + 1) else (decide (0 < f ∧ K (j + 1) = 2), j + 1)
/-- an item at the token j, with ey eyes ahead of it -/
def tp_item (K V : Nat → Nat) (fr ey j : Nat) : Bool × Nat := if K j = 5 then tp_draw K V fr 0 j else if K j = 6 then (if 5 ≤ ey then (false, j) else if tp_tn K V j 0 5 = true then (decide (K (j + 2) = 2), j + 2) else (false, j + 1)) else if K j = 7 then (if tp_tn K V j 0 11 = true then (decide (K (j + 2) = 2), j + 2) else (false, j + 1)) else if K j = 8 then (if tp_tn K V j 1 99 = true then (decide (K (j + 2) = 2), j + 2) else (false, j + 1)) else (false, j)
def tp_ey (K : Nat → Nat) (ey j : Nat) : Nat := if K j = 6 then ey + 1 else ey
/-- all items behind the token j: well or not, how many, the token at hand, the eyes -/
def tp_all (K V : Nat → Nat) (fr : Nat) : Nat → Nat → Nat → Nat → Bool × Nat × Nat × Nat
  | 0, m, ey, j => (true, m, j, ey)
  | d + 1, m, ey, j => if K (j + 1) = 0 then (true, m, j + 1, ey) else if (tp_item K V fr ey (j + 1)).1 = true then tp_all K V fr d (m + 1) (tp_ey K ey (j + 1)) (tp_item K V fr ey (j + 1)).2 else (false, m, (tp_item K V fr ey (j + 1)).2, ey)
def tp_read (K V : Nat → Nat) : Bool × Nat × Nat × Nat := if K 0 = 4 then (if (tp_drum K V).1 = true then tp_all K V (V 1) 150 1 0 (tp_drum K V).2 else (false, 0, (tp_drum K V).2, 0)) else (false, 0, 0, 0)
theorem tp_tn1 {K V : Nat → Nat} {j lo hi : Nat} (h : tp_tn K V j lo hi = true) : K (j + 1) = 1 ∧ lo ≤ V (j + 1) ∧ V (j + 1) ≤ hi := of_decide_eq_true h
/-- the drum apart and the token at hand may change -/
def zs_zr (S : zs_S) : Prop := S.1 53 2 = nI 0 ∧ S.1 55 2 = nI 0 ∧ S.1 57 2 = nI 0
def zs_o3 (S0 S : zs_S) : Prop := (∀ b, (b < 45 ∨ 58 < b) → b ≠ 43 → S.1 b = S0.1 b) ∧ (∀ i, i ≠ 7 → S.1 43 i = S0.1 43 i) ∧ (∀ b, (b < 45 ∨ 58 < b) → S.2 b = S0.2 b) ∧ (zs_zr S0 → zs_zr S)
theorem zs_o3.rf {S : zs_S} : zs_o3 S S := ⟨fun _ _ _ => rfl, fun _ _ => rfl, fun _ _ => rfl, id⟩
theorem zs_o3.tr {S S1 S2 : zs_S} (h : zs_o3 S S1) (k : zs_o3 S1 S2) : zs_o3 S S2 := ⟨fun b h1 h2 => (k.1 b h1 h2).trans (h.1 b h1 h2), fun i hi => (k.2.1 i hi).trans (h.2.1 i hi), fun b hb => (k.2.2.1 b hb).trans (h.2.2.1 b hb), fun z => k.2.2.2 (h.2.2.2 z)⟩
theorem zs_o3.u7 {S0 S : zs_S} {v : Int32} (h : zs_o3 S0 S) : zs_o3 S0 (zs_up S.1 43 7 v, S.2) := ⟨fun b h1 h2 => (zs_uo (f := S.1) (a := 43) (j := 7) (v := v) (b := b) h2).trans (h.1 b h1 h2), fun i hi => (zs_up_m (by omega)).trans (h.2.1 i hi), h.2.2.1, fun z => ⟨(zs_up_m (by omega)).trans (h.2.2.2 z).1, (zs_up_m (by omega)).trans (h.2.2.2 z).2.1, (zs_up_m (by omega)).trans (h.2.2.2 z).2.2⟩⟩
theorem zs_o3.ud {S0 S : zs_S} {a j : Nat} {v : Int32} (h : zs_o3 S0 S) (h1 : 45 ≤ a) (h2 : a ≤ 58) (h3 : a ≠ 53 ∧ a ≠ 55 ∧ a ≠ 57) : zs_o3 S0 (zs_up S.1 a j v, S.2) := ⟨fun b h3 h4 => (zs_uo (f := S.1) (a := a) (j := j) (v := v) (b := b) (by omega)).trans (h.1 b h3 h4), fun i hi => (zs_up_m (by omega)).trans (h.2.1 i hi), h.2.2.1, fun z => ⟨(zs_up_m (by omega)).trans (h.2.2.2 z).1, (zs_up_m (by omega)).trans (h.2.2.2 z).2.1, (zs_up_m (by omega)).trans (h.2.2.2 z).2.2⟩⟩
theorem zs_upz {f : Nat → Nat → Int32} {a b : Nat} (h : f b 2 = nI 0) : zs_up f a 2 (nI 0) b 2 = nI 0 := by
  by_cases e : b = a
  · subst e; exact zs_up_s
  · exact (zs_up_n (fun q => e q.1)).trans h
theorem zs_o3.uz {S0 S : zs_S} {a : Nat} (h : zs_o3 S0 S) (h1 : 45 ≤ a) (h2 : a ≤ 58) : zs_o3 S0 (zs_up S.1 a 2 (nI 0), S.2) := ⟨fun b h3 h4 => (zs_uo (f := S.1) (a := a) (j := 2) (v := nI 0) (b := b) (by omega)).trans (h.1 b h3 h4), fun i hi => (zs_up_m (by omega)).trans (h.2.1 i hi), h.2.2.1, fun z => ⟨zs_upz (h.2.2.2 z).1, zs_upz (h.2.2.2 z).2.1, zs_upz (h.2.2.2 z).2.2⟩⟩
theorem zs_o3.w {S0 S S2 : zs_S} (h : zs_o3 S0 S) (f : zs_fr3 S S2) : zs_o3 S0 S2 := by
  have pr : ∀ b i, (b < 45 ∨ 58 < b) → zs_pr3 b i = true := fun b i hb => by
    unfold zs_pr3
    rcases hb with z | z
    · rw [show Nat.ble b 45 = true from Nat.ble_eq_true_of_le (by omega)]; rfl
    · rw [show Nat.ble 59 b = true from Nat.ble_eq_true_of_le (by omega), Bool.or_true]; rfl
  exact ⟨fun b h1 h2 => (funext fun i => (f b i (pr b i h1)).1).trans (h.1 b h1 h2), fun i hi => (f 43 i rfl).1.trans (h.2.1 i hi), fun b hb => (funext fun i => (f b i (pr b i hb)).2).trans (h.2.2.1 b hb), fun z => ⟨(f 53 2 rfl).1.trans (h.2.2.2 z).1, (f 55 2 rfl).1.trans (h.2.2.2 z).2.1, (f 57 2 rfl).1.trans (h.2.2.2 z).2.2⟩⟩
theorem zs_fr3.k {S S2 : zs_S} (f : zs_fr3 S S2) (i : Nat) : S2.1 45 i = S.1 45 i := (f 45 i rfl).1
theorem zs_fr3.c {S S2 : zs_S} (f : zs_fr3 S S2) (i : Nat) : S2.1 43 i = S.1 43 i := (f 43 i rfl).1
theorem zs_o3.t {S0 S : zs_S} {B : Nat → Nat} {L n : Nat} (h : zs_o3 S0 S) (k : zs_tk S0 B L n) : zs_tk S B L n := by
  obtain ⟨⟨a1, a2, a3⟩, b1, b2, b3, b4, b5⟩ := k
  have e59 := h.1 59 (by omega) (by decide)
  have e61 := h.1 61 (by omega) (by decide)
  have e62 := h.1 62 (by omega) (by decide)
  have e44 := h.1 44 (by omega) (by decide)
  exact ⟨⟨a1, (h.2.1 1 (by decide)).trans a2, fun i hi => ⟨(a3 i hi).1, by rw [e44]; exact (a3 i hi).2⟩⟩, b1, b2, b3, fun j hj => by rw [e59, e61]; exact b4 j hj, fun j hj hk => by rw [e62]; exact b5 j hj hk⟩
theorem zs_tk.lt {S : zs_S} {B : Nat → Nat} {L n j : Nat} (h : zs_tk S B L n) (hj : j ≤ n) (hk : tx_k B L j ≠ 0) : j < n := by
  rcases Nat.lt_or_ge j n with z | z
  · exact z
  · obtain rfl : j = n := by omega
    exact absurd (tx_kz.mpr (by rw [h.2.2.1]; omega)) hk
theorem zs_tk.n {S : zs_S} {B : Nat → Nat} {L n : Nat} (h : zs_tk S B L n) : n ≤ 150 := by
  have := h.1.1
  have := h.2.1
  omega
set_option maxRecDepth 100000 in
theorem c_token (B : Nat → Nat) (L n j : Nat) (S : zs_S) (hk : zs_tk S B L n) (hj : S.1 43 7 = nI j) (hjn : j ≤ n) : zs_Ci MX10_token [.ref 43] S (fun x S2 => x = nI (tx_k B L j) ∧ S = S2) := by
  refine zs_C.of (by decide) (Nat.le_of_ble_eq_true rfl) ?_
  show zs_P MX10_token 0 [(0, .ref 43)] [] S _
  refine g_aload_n dX10_token_0 rfl rfl ?_
  refine g_getR 5 (61) (C := RX10) (T := TX10) (N := 8) dX10_token_1 (by decide) rfl rfl (by decide) rfl fl_RX10_28 ?_
  refine g_aload_n dX10_token_4 rfl rfl ?_
  refine g_getV 7 (C := RX10) (T := TX10) (N := 8) (v := (nI j)) dX10_token_5 (by decide) rfl rfl (by decide) rfl fl_RX10_50 hj ?_
  refine g_callN [.ref 61, .int (nI j)] [] (x_cellN S 61 151 j (by decide) rfl (by decide) (by have := hk.n; omega)) dX10_token_8 kk_X10_token_X11_cell nl_RX10_66 swX11_cell rfl rfl (Nat.le_of_ble_eq_true rfl) ?_
  rintro _ _ ⟨_, rfl, rfl, rfl⟩
  rw [(hk.2.2.2.2.1 j hjn).1]
  refine g_iret dX10_token_11 rfl rfl ?_
  exact ⟨_, rfl, rfl, rfl⟩
set_option maxRecDepth 100000 in
theorem c_value (B : Nat → Nat) (L n j : Nat) (S : zs_S) (hk : zs_tk S B L n) (hj : S.1 43 7 = nI j) (hjn : j ≤ n) (h1 : tx_k B L j = 1) : zs_Ci MX10_value [.ref 43] S (fun x S2 => x = nI (tx_v B L j) ∧ S = S2) := by
  refine zs_C.of (by decide) (Nat.le_of_ble_eq_true rfl) ?_
  show zs_P MX10_value 0 [(0, .ref 43)] [] S _
  refine g_aload_n dX10_value_0 rfl rfl ?_
  refine g_getR 6 (62) (C := RX10) (T := TX10) (N := 8) dX10_value_1 (by decide) rfl rfl (by decide) rfl fl_RX10_31 ?_
  refine g_aload_n dX10_value_4 rfl rfl ?_
  refine g_getV 7 (C := RX10) (T := TX10) (N := 8) (v := (nI j)) dX10_value_5 (by decide) rfl rfl (by decide) rfl fl_RX10_50 hj ?_
  refine g_callN [.ref 62, .int (nI j)] [] (x_cellN S 62 151 j (by decide) rfl (by decide) (by have := hk.n; omega)) dX10_value_8 kk_X10_value_X11_cell nl_RX10_66 swX11_cell rfl rfl (Nat.le_of_ble_eq_true rfl) ?_
  rintro _ _ ⟨_, rfl, rfl, rfl⟩
  rw [hk.2.2.2.2.2 j (hk.lt hjn (by omega)) h1]
  refine g_iret dX10_value_11 rfl rfl ?_
  exact ⟨_, rfl, rfl, rfl⟩
set_option maxRecDepth 100000 in
theorem c_fault (B : Nat → Nat) (L n j : Nat) (S : zs_S) (hk : zs_tk S B L n) (hj : S.1 43 7 = nI j) (hjn : j ≤ n) : zs_Ci MX10_fault [.ref 43] S (fun x S2 => x = (-10) - nI (tx_p B L j) ∧ S = S2) := by
  refine zs_C.of (by decide) (Nat.le_of_ble_eq_true rfl) ?_
  show zs_P MX10_fault 0 [(0, .ref 43)] [] S _
  refine g_bipush (v := (-10)) dX10_fault_0 rfl ?_
  refine g_aload_n dX10_fault_2 rfl rfl ?_
  refine g_getR 3 (59) (C := RX10) (T := TX10) (N := 8) dX10_fault_3 (by decide) rfl rfl (by decide) rfl fl_RX10_22 ?_
  refine g_aload_n dX10_fault_6 rfl rfl ?_
  refine g_getV 7 (C := RX10) (T := TX10) (N := 8) (v := (nI j)) dX10_fault_7 (by decide) rfl rfl (by decide) rfl fl_RX10_50 hj ?_
  refine g_callN [.ref 59, .int (nI j)] [.int (-10)] (x_cellN S 59 151 j (by decide) rfl (by decide) (by have := hk.n; omega)) dX10_fault_10 kk_X10_fault_X11_cell nl_RX10_66 swX11_cell rfl rfl (Nat.le_of_ble_eq_true rfl) ?_
  rintro _ _ ⟨_, rfl, rfl, rfl⟩
  rw [(hk.2.2.2.2.1 j hjn).2]
  refine g_isub dX10_fault_13 ?_
  refine g_iret dX10_fault_14 rfl rfl ?_
  exact ⟨_, rfl, rfl, rfl⟩
theorem x_withinT (S : zs_S) (v lo hi : Int32) : zs_Ci MX11_within [.int v, .int lo, .int hi] S (fun x S2 => x = zs_b ((lo ≤ v ∧ v ≤ hi) ∧ True) ∧ S = S2) := (x_within S v lo hi).mono (fun _ _ q => by
  obtain ⟨x, rfl, rfl, rfl⟩ := q
  exact ⟨_, rfl, congrArg zs_b (by rw [and_true]), rfl⟩)
set_option maxRecDepth 100000 in
theorem c_takeNumber (B : Nat → Nat) (L n j : Nat) (S : zs_S) (hk : zs_tk S B L n) (hj : S.1 43 7 = nI j) (hjn : j < n) (lo hi : Nat) (hlo : lo ≤ 100) (hhi : hi ≤ 100) : zs_Ci MX10_takeNumber [.ref 43, .int (nI lo), .int (nI hi)] S (fun x S2 => x = zs_b (tp_tn (tx_k B L) (tx_v B L) j lo hi = true) ∧ S2 = (zs_up S.1 43 7 (nI (j + 1)), S.2)) := by
  refine zs_C.of (by decide) (Nat.le_of_ble_eq_true rfl) ?_
  show zs_P MX10_takeNumber 0 [(0, .ref 43), (1, .int (nI lo)), (2, .int (nI hi))] [] S _
  have hn150 := hk.n
  refine g_aload_n dX10_takeNumber_0 rfl rfl ?_
  refine g_dup dX10_takeNumber_1 rfl ?_
  refine g_getV 7 (C := RX10) (T := TX10) (N := 8) (v := (nI j)) dX10_takeNumber_2 (by decide) rfl rfl (by decide) rfl fl_RX10_50 hj ?_
  refine g_iconst (v := (nI 1)) dX10_takeNumber_5 rfl ?_
  refine g_iaddN dX10_takeNumber_6 ?_
  refine g_putI 7 (C := RX10) (T := TX10) (N := 8) (ty := .int) dX10_takeNumber_7 (by decide) rfl rfl (by decide) rfl fl_RX10_50 rfl (by decide +kernel) ⟨rfl, rfl⟩ ?_
  refine g_aload_n dX10_takeNumber_10 rfl rfl ?_
  refine g_callV (T := TX10) (NN := 8) [] (c_token B L n (j + 1) (zs_up S.1 43 7 (nI (j + 1)), S.2) ((zs_o3.rf).u7.t hk) zs_up_q (by omega)) dX10_takeNumber_11 kk_X10_takeNumber_X10_token ml_RX10_53 mwX10_token ewX10_token (by decide) rfl rfl rfl rfl (Nat.le_of_ble_eq_true rfl) ?_
  rintro _ _ ⟨_, rfl, rfl, rfl⟩
  have k8q1 := tx_k8 (B := B) (L := L) (j := (j + 1))
  refine g_iconst (v := (nI 1)) dX10_takeNumber_14 rfl ?_
  refine g_ic_neN 34 dX10_takeNumber_15 (by decide) (by omega) (by omega) (fun h2 => ?_) (fun h2 => ?_)
  · refine g_iconst (v := (nI 0)) dX10_takeNumber_34 rfl ?_
    refine g_iret dX10_takeNumber_35 rfl rfl ?_
    exact ⟨_, rfl, (zs_bf (fun z => absurd (tp_tn1 z).1 (by omega))).symm, rfl⟩
  · refine g_aload_n dX10_takeNumber_18 rfl rfl ?_
    refine g_callV (T := TX10) (NN := 8) [] (c_value B L n (j + 1) (zs_up S.1 43 7 (nI (j + 1)), S.2) ((zs_o3.rf).u7.t hk) zs_up_q (by omega) (by omega)) dX10_takeNumber_19 kk_X10_takeNumber_X10_value ml_RX10_74 mwX10_value ewX10_value (by decide) rfl rfl rfl rfl (Nat.le_of_ble_eq_true rfl) ?_
    rintro _ _ ⟨_, rfl, rfl, rfl⟩
    refine g_iload_n dX10_takeNumber_22 rfl rfl ?_
    refine g_iload_n dX10_takeNumber_23 rfl rfl ?_
    refine g_callN [.int (nI (tx_v B L (j + 1))), .int (nI lo), .int (nI hi)] [] (x_withinT (zs_up S.1 43 7 (nI (j + 1)), S.2) (nI (tx_v B L (j + 1))) (nI lo) (nI hi)) dX10_takeNumber_24 kk_X10_takeNumber_X11_within nl_RX10_111 swX11_within rfl rfl (Nat.le_of_ble_eq_true rfl) ?_
    rintro _ _ ⟨_, rfl, rfl, rfl⟩
    refine g_if_eq 34 dX10_takeNumber_27 (by decide) (fun h3 => ?_) (fun h3 => ?_)
    · have h3 := zs_b0 h3
      refine g_iconst (v := (nI 0)) dX10_takeNumber_34 rfl ?_
      refine g_iret dX10_takeNumber_35 rfl rfl ?_
      exact ⟨_, rfl, (zs_bf (fun z => h3 ⟨⟨nI_le (tp_tn1 z).2.1 (by have := (tp_tn1 z).2.2; omega), nI_le (tp_tn1 z).2.2 (by omega)⟩, trivial⟩)).symm, rfl⟩
    · have h3 := zs_b1 h3
      refine g_iconst (v := (nI 1)) dX10_takeNumber_30 rfl ?_
      refine g_goto 35 dX10_takeNumber_31 (by decide) ?_
      refine g_iret dX10_takeNumber_35 rfl rfl ?_
      exact ⟨_, rfl, (zs_bt (decide_eq_true ⟨by omega, (nI_leI (by omega) (by have := tx_vB (hk.2.2.2.1 (j + 1) (hk.lt (by omega) (by omega))) (by omega); omega)).mp h3.1.1, (nI_leI (by have := tx_vB (hk.2.2.2.1 (j + 1) (hk.lt (by omega) (by omega))) (by omega); omega) (by omega)).mp h3.1.2⟩)).symm, rfl⟩
set_option maxRecDepth 100000 in
theorem c_takeStop (B : Nat → Nat) (L n j : Nat) (S : zs_S) (hk : zs_tk S B L n) (hj : S.1 43 7 = nI j) (hjn : j < n) : zs_Ci MX10_takeStop [.ref 43] S (fun x S2 => x = zs_b (tx_k B L (j + 1) = 2) ∧ S2 = (zs_up S.1 43 7 (nI (j + 1)), S.2)) := by
  refine zs_C.of (by decide) (Nat.le_of_ble_eq_true rfl) ?_
  show zs_P MX10_takeStop 0 [(0, .ref 43)] [] S _
  have hn150 := hk.n
  refine g_aload_n dX10_takeStop_0 rfl rfl ?_
  refine g_dup dX10_takeStop_1 rfl ?_
  refine g_getV 7 (C := RX10) (T := TX10) (N := 8) (v := (nI j)) dX10_takeStop_2 (by decide) rfl rfl (by decide) rfl fl_RX10_50 hj ?_
  refine g_iconst (v := (nI 1)) dX10_takeStop_5 rfl ?_
  refine g_iaddN dX10_takeStop_6 ?_
  refine g_putI 7 (C := RX10) (T := TX10) (N := 8) (ty := .int) dX10_takeStop_7 (by decide) rfl rfl (by decide) rfl fl_RX10_50 rfl (by decide +kernel) ⟨rfl, rfl⟩ ?_
  refine g_aload_n dX10_takeStop_10 rfl rfl ?_
  refine g_callV (T := TX10) (NN := 8) [] (c_token B L n (j + 1) (zs_up S.1 43 7 (nI (j + 1)), S.2) ((zs_o3.rf).u7.t hk) zs_up_q (by omega)) dX10_takeStop_11 kk_X10_takeStop_X10_token ml_RX10_53 mwX10_token ewX10_token (by decide) rfl rfl rfl rfl (Nat.le_of_ble_eq_true rfl) ?_
  rintro _ _ ⟨_, rfl, rfl, rfl⟩
  have k8q1 := tx_k8 (B := B) (L := L) (j := (j + 1))
  refine g_iconst (v := (nI 2)) dX10_takeStop_14 rfl ?_
  refine g_ic_neN 22 dX10_takeStop_15 (by decide) (by omega) (by omega) (fun h2 => ?_) (fun h2 => ?_)
  · refine g_iconst (v := (nI 0)) dX10_takeStop_22 rfl ?_
    refine g_iret dX10_takeStop_23 rfl rfl ?_
    exact ⟨_, rfl, (zs_bf (by omega)).symm, rfl⟩
  · refine g_iconst (v := (nI 1)) dX10_takeStop_18 rfl ?_
    refine g_goto 23 dX10_takeStop_19 (by decide) ?_
    refine g_iret dX10_takeStop_23 rfl rfl ?_
    exact ⟨_, rfl, (zs_bt (by omega)).symm, rfl⟩
