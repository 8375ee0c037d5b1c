/-! the class's text: its length, its bytes -/
def zs_tx (S : zs_S) (B : Nat → Nat) (L : Nat) : Prop := L ≤ 150 ∧ S.1 43 1 = nI L ∧ ∀ i, i < L → B i ≤ 127 ∧ S.1 44 i = nI (B i)
theorem x_cellN (S : zs_S) (a n i : Nat) (ha : a < zs_n) (hs : zs_sh a = .inl (0, n)) (hn : n < 2 ^ 31) (hi : i < n) : zs_Ci MX11_cell [.ref a, .int (nI i)] S (fun x S2 => x = S.1 a i ∧ S = S2) := (x_cell S a n (nI i) ha hs hn).mono (fun _ _ q => by
  obtain ⟨x, rfl, hx, rfl⟩ := q
  exact ⟨_, rfl, hx.trans (zs_ce_nI hi hn), rfl⟩)
theorem x_putN (S : zs_S) (a n i : Nat) (v : Int32) (ha : a < zs_n) (hs : zs_sh a = .inl (0, n)) (hn : n < 2 ^ 31) (hi : i < n) : zs_Cv MX11_put [.ref a, .int (nI i), .int v] S (fun S2 => S2 = (zs_up S.1 a i v, S.2)) := (x_put S a n (nI i) v ha hs hn).mono (fun _ _ q => by
  obtain ⟨rfl, rfl⟩ := q
  exact ⟨rfl, zs_pu_nI hi hn⟩)
def tx_rx (B : Nat → Nat) (L k i : Nat) : Nat := if k = 1 ∨ k = 2 then tx_rn B L k i else i
theorem tx_rx0 {B : Nat → Nat} {L k i : Nat} (h : ¬ (i < L ∧ tx_so (B i) = k ∧ (k = 1 ∨ k = 2))) : tx_rx B L k i = i := by
  unfold tx_rx
  split
  next z => exact tx_rn0 (fun y => h ⟨y.1, y.2, z⟩)
  next => rfl
theorem tx_rx1 {B : Nat → Nat} {L k i : Nat} (h : i < L) (h1 : tx_so (B i) = k) (h2 : k = 1 ∨ k = 2) : tx_rx B L k i = tx_rx B L k (i + 1) := by
  unfold tx_rx
  rw [if_pos h2, if_pos h2]
  exact tx_rn1 h h1
theorem tx_teX {B : Nat → Nat} {L i : Nat} (h : i < L) : tx_te B L i = tx_rx B L (tx_so (B i)) (i + 1) := by
  unfold tx_te tx_rx
  split
  · exact tx_rn1 h rfl
  · rfl
def zs_sp (B : Nat → Nat) (L : Nat) (S : zs_S) (n k i : Nat) : Prop := (∀ j, j < n → tx_p B L j < L ∧ S.1 59 j = nI (tx_p B L j)) ∧ n ≤ i ∧ i ≤ L ∧ k ≤ 3 ∧ ((k = 0 ∧ tx_p B L n = tx_sk B L i ∧ ∀ j, j < n → S.1 60 j = nI (tx_q B L (j + 1))) ∨ (k ≠ 0 ∧ 0 < n ∧ tx_q B L n = tx_rx B L k i ∧ (∀ j, j + 1 < n → S.1 60 j = nI (tx_q B L (j + 1))) ∧ S.1 60 (n - 1) = nI i))
/-- where nothing goes on, the token before is whole -/
theorem zs_sp.cl {B : Nat → Nat} {L : Nat} {S : zs_S} {n k i : Nat} (h : zs_sp B L S n k i) (hg : ¬ (i < L ∧ tx_so (B i) = k ∧ (k = 1 ∨ k = 2))) : tx_p B L n = tx_sk B L i ∧ ∀ j, j < n → S.1 60 j = nI (tx_q B L (j + 1)) := by
  rcases h.2.2.2.2 with ⟨z1, z2, z3⟩ | ⟨z1, z2, z3, z4, z5⟩
  · exact ⟨z2, z3⟩
  · rw [tx_rx0 hg] at z3
    refine ⟨by unfold tx_p; rw [z3], fun j hj => ?_⟩
    rcases Nat.lt_or_ge (j + 1) n with y | y
    · exact z4 j y
    · obtain rfl : j = n - 1 := by omega
      rw [z5, show n - 1 + 1 = n by omega, z3]
theorem zs_sp.a {B : Nat → Nat} {L : Nat} {S : zs_S} {n k i : Nat} (h : zs_sp B L S n k i) (hi : i < L) (hc : tx_so (B i) = 0) : zs_sp B L S n 0 (i + 1) := by
  obtain ⟨c1, c2⟩ := h.cl (fun z => by omega)
  refine ⟨h.1, by have := h.2.1; omega, by omega, by omega, Or.inl ⟨rfl, ?_, c2⟩⟩
  rw [c1, tx_sk1 hi (tx_soz.mp hc)]
theorem zs_sp.b {B : Nat → Nat} {L : Nat} {S : zs_S} {n k i : Nat} (h : zs_sp B L S n k i) (hi : i < L) (hc : tx_so (B i) = k) (hk : k = 1 ∨ k = 2) : zs_sp B L (zs_up S.1 60 (n - 1) (nI (i + 1)), S.2) n k (i + 1) := by
  rcases h.2.2.2.2 with ⟨z1, z2, z3⟩ | ⟨z1, z2, z3, z4, z5⟩
  · omega
  · refine ⟨fun j hj => ⟨(h.1 j hj).1, (zs_up_m (by omega)).trans (h.1 j hj).2⟩, by have := h.2.1; omega, by omega, by omega, Or.inr ⟨z1, z2, z3.trans (tx_rx1 hi hc hk), fun j hj => (zs_up_m (by omega)).trans (z4 j hj), zs_up_q⟩⟩
theorem zs_sp.c {B : Nat → Nat} {L : Nat} {S : zs_S} {n k i : Nat} (h : zs_sp B L S n k i) (hi : i < L) (hc : tx_so (B i) ≠ 0) (hg : ¬ (tx_so (B i) = k ∧ (k = 1 ∨ k = 2))) : zs_sp B L (zs_up ((zs_up S.1 59 n (nI i), S.2) : zs_S).1 60 n (nI (i + 1)), ((zs_up S.1 59 n (nI i), S.2) : zs_S).2) (n + 1) (tx_so (B i)) (i + 1) := by
  obtain ⟨c1, c2⟩ := h.cl (fun z => hg z.2)
  have e : tx_p B L n = i := by
    rw [c1, tx_sk0 (fun z => hc (tx_soz.mpr z.2))]
  refine ⟨fun j hj => ?_, by have := h.2.1; omega, by omega, tx_so3, Or.inr ⟨hc, by omega, ?_, fun j hj => ?_, zs_up_q⟩⟩
  · rcases Nat.lt_or_ge j n with y | y
    · exact ⟨(h.1 j y).1, (zs_up_m (by omega)).trans ((zs_up_m (by omega)).trans (h.1 j y).2)⟩
    · obtain rfl : j = n := by omega
      exact ⟨by omega, (zs_up_m (by omega)).trans (by rw [e]; exact zs_up_q)⟩
  · rw [tx_qS (by omega), e]
    exact tx_teX hi
  · exact (zs_up_m (by omega)).trans ((zs_up_m (by omega)).trans (c2 j (by omega)))
theorem zs_sp.fin {B : Nat → Nat} {L : Nat} {S : zs_S} {n k : Nat} (h : zs_sp B L S n k L) : tx_p B L n = L ∧ ∀ j, j < n → S.1 60 j = nI (tx_q B L (j + 1)) := by
  obtain ⟨c1, c2⟩ := h.cl (fun z => by omega)
  exact ⟨by rw [c1, tx_sk0 (fun z => by omega)], c2⟩
set_option maxRecDepth 100000 in
theorem c_sortOf (S : zs_S) (c : Nat) (hc : c ≤ 127) : zs_Ci MX10_sortOf [.int (nI c)] S (fun x S2 => x = nI (tx_so c) ∧ S = S2) := by
  refine zs_C.of (by decide) (Nat.le_of_ble_eq_true rfl) ?_
  show zs_P MX10_sortOf 0 [(0, .int (nI c))] [] S _
  refine g_iload_n dX10_sortOf_0 rfl rfl ?_
  refine g_bipush (v := (nI 32)) dX10_sortOf_1 rfl ?_
  refine g_ic_neN 8 dX10_sortOf_3 (by decide) (by omega) (by omega) (fun h1 => ?_) (fun h1 => ?_)
  · refine g_iload_n dX10_sortOf_8 rfl rfl ?_
    refine g_bipush (v := (nI 97)) dX10_sortOf_9 rfl ?_
    refine g_ic_ltN 22 dX10_sortOf_11 (by decide) (by omega) (by omega) (fun h2 => ?_) (fun h2 => ?_)
    · refine g_iload_n dX10_sortOf_22 rfl rfl ?_
      refine g_bipush (v := (nI 48)) dX10_sortOf_23 rfl ?_
      refine g_ic_ltN 38 dX10_sortOf_25 (by decide) (by omega) (by omega) (fun h3 => ?_) (fun h3 => ?_)
      · refine g_iconst (v := (nI 3)) dX10_sortOf_38 rfl ?_
        refine g_iret dX10_sortOf_39 rfl rfl ?_
        exact ⟨_, rfl, by rw [show tx_so c = 3 by unfold tx_so; (repeat' split) <;> omega], rfl⟩
      · refine g_iload_n dX10_sortOf_28 rfl rfl ?_
        refine g_bipush (v := (nI 57)) dX10_sortOf_29 rfl ?_
        refine g_ic_gtN 38 dX10_sortOf_31 (by decide) (by omega) (by omega) (fun h4 => ?_) (fun h4 => ?_)
        · refine g_iconst (v := (nI 3)) dX10_sortOf_38 rfl ?_
          refine g_iret dX10_sortOf_39 rfl rfl ?_
          exact ⟨_, rfl, by rw [show tx_so c = 3 by unfold tx_so; (repeat' split) <;> omega], rfl⟩
        · refine g_iconst (v := (nI 2)) dX10_sortOf_34 rfl ?_
          refine g_goto 39 dX10_sortOf_35 (by decide) ?_
          refine g_iret dX10_sortOf_39 rfl rfl ?_
          exact ⟨_, rfl, by rw [show tx_so c = 2 by unfold tx_so; (repeat' split) <;> omega], rfl⟩
    · refine g_iload_n dX10_sortOf_14 rfl rfl ?_
      refine g_bipush (v := (nI 122)) dX10_sortOf_15 rfl ?_
      refine g_ic_gtN 22 dX10_sortOf_17 (by decide) (by omega) (by omega) (fun h5 => ?_) (fun h5 => ?_)
      · refine g_iload_n dX10_sortOf_22 rfl rfl ?_
        refine g_bipush (v := (nI 48)) dX10_sortOf_23 rfl ?_
        refine g_ic_ltN 38 dX10_sortOf_25 (by decide) (by omega) (by omega) (fun h6 => ?_) (fun h6 => ?_)
        · refine g_iconst (v := (nI 3)) dX10_sortOf_38 rfl ?_
          refine g_iret dX10_sortOf_39 rfl rfl ?_
          exact ⟨_, rfl, by rw [show tx_so c = 3 by unfold tx_so; (repeat' split) <;> omega], rfl⟩
        · refine g_iload_n dX10_sortOf_28 rfl rfl ?_
          refine g_bipush (v := (nI 57)) dX10_sortOf_29 rfl ?_
          refine g_ic_gtN 38 dX10_sortOf_31 (by decide) (by omega) (by omega) (fun h7 => ?_) (fun h7 => ?_)
          · refine g_iconst (v := (nI 3)) dX10_sortOf_38 rfl ?_
            refine g_iret dX10_sortOf_39 rfl rfl ?_
            exact ⟨_, rfl, by rw [show tx_so c = 3 by unfold tx_so; (repeat' split) <;> omega], rfl⟩
          · refine g_iconst (v := (nI 2)) dX10_sortOf_34 rfl ?_
            refine g_goto 39 dX10_sortOf_35 (by decide) ?_
            refine g_iret dX10_sortOf_39 rfl rfl ?_
            exact ⟨_, rfl, by rw [show tx_so c = 2 by unfold tx_so; (repeat' split) <;> omega], rfl⟩
      · refine g_iconst (v := (nI 1)) dX10_sortOf_20 rfl ?_
        refine g_iret dX10_sortOf_21 rfl rfl ?_
        exact ⟨_, rfl, by rw [show tx_so c = 1 by unfold tx_so; (repeat' split) <;> omega], rfl⟩
  · refine g_iconst (v := (nI 0)) dX10_sortOf_6 rfl ?_
    refine g_iret dX10_sortOf_7 rfl rfl ?_
    exact ⟨_, rfl, by rw [show tx_so c = 0 by unfold tx_so; (repeat' split) <;> omega], rfl⟩
def zs_o2 (S0 S : zs_S) : Prop := (∀ b, b ≠ 59 → b ≠ 60 → b ≠ 61 → b ≠ 62 → S.1 b = S0.1 b) ∧ S.2 = S0.2
theorem zs_o2.up {S0 S : zs_S} {a j : Nat} {v : Int32} (h : zs_o2 S0 S) (ha : 59 ≤ a) (hb : a ≤ 62) : zs_o2 S0 (zs_up S.1 a j v, S.2) := ⟨fun b h1 h2 h3 h4 => by
  have e : zs_up S.1 a j v b = S.1 b := funext fun i => zs_up_n (fun q => by omega)
  exact e.trans (h.1 b h1 h2 h3 h4), h.2⟩
theorem zs_o2.rf {S : zs_S} : zs_o2 S S := ⟨fun _ _ _ _ _ => rfl, rfl⟩
theorem zs_o2.tr {S S1 S2 : zs_S} (h : zs_o2 S S1) (k : zs_o2 S1 S2) : zs_o2 S S2 := ⟨fun b h1 h2 h3 h4 => (k.1 b h1 h2 h3 h4).trans (h.1 b h1 h2 h3 h4), k.2.trans h.2⟩
theorem zs_o2.x {S0 S : zs_S} {B : Nat → Nat} {L : Nat} (h : zs_o2 S0 S) (k : zs_tx S0 B L) : zs_tx S B L := ⟨k.1, by rw [h.1 43 (by decide) (by decide) (by decide) (by decide)]; exact k.2.1, fun i hi => ⟨(k.2.2 i hi).1, by rw [h.1 44 (by decide) (by decide) (by decide) (by decide)]; exact (k.2.2 i hi).2⟩⟩
set_option maxRecDepth 100000 in
theorem c_split_l (S0 : zs_S) (B : Nat → Nat) (L : Nat) (hT : zs_tx S0 B L) : ∀ (d i : Nat), i + d = L → ∀ n k S, zs_o2 S0 S → zs_sp B L S n k i → zs_P MX10_splitTokens 6 [(3, .int (nI i)), (2, .int (nI k)), (1, .int (nI n)), (0, .ref 43)] [] S (fun v S2 => ∃ x, v = some (.int x) ∧ ∃ n, x = nI n ∧ n ≤ L ∧ tx_p B L n = L ∧ (∀ j, j < n → tx_p B L j < L ∧ S2.1 59 j = nI (tx_p B L j) ∧ S2.1 60 j = nI (tx_q B L (j + 1))) ∧ zs_o2 S0 S2) := by
  intro d
  induction d with
  | zero =>
    intro i hi n k S ho hp
    obtain rfl : L = i := by omega
    have hTS := ho.x hT
    have hL := hT.1
    have hn := hp.2.1
    have hk := hp.2.2.2.1
    refine g_iload_n dX10_splitTokens_6 rfl rfl ?_
    refine g_aload_n dX10_splitTokens_7 rfl rfl ?_
    refine g_getV 1 (C := RX10) (T := TX10) (N := 8) (v := (nI L)) dX10_splitTokens_8 (by decide) rfl rfl (by decide) rfl fl_RX10_34 hTS.2.1 ?_
    refine g_ic_geN 101 dX10_splitTokens_11 (by decide) (by omega) (by omega) (fun _ => ?_) (fun z => absurd z (by omega))
    refine g_iload_n dX10_splitTokens_101 rfl rfl ?_
    refine g_iret dX10_splitTokens_102 rfl rfl ?_
    exact ⟨_, rfl, n, rfl, by omega, hp.fin.1, fun j hj => ⟨(hp.1 j hj).1, (hp.1 j hj).2, hp.fin.2 j hj⟩, ho⟩
  | succ d ih =>
    intro i hi0 n k S ho hp
    have hi : i < L := by omega
    have hTS := ho.x hT
    have hL := hT.1
    have hn := hp.2.1
    have hk := hp.2.2.2.1
    have hk0 : k = 0 ∨ 0 < n := by
      rcases hp.2.2.2.2 with z | z
      · exact Or.inl z.1
      · exact Or.inr z.2.1
    refine g_iload_n dX10_splitTokens_6 rfl rfl ?_
    refine g_aload_n dX10_splitTokens_7 rfl rfl ?_
    refine g_getV 1 (C := RX10) (T := TX10) (N := 8) (v := (nI L)) dX10_splitTokens_8 (by decide) rfl rfl (by decide) rfl fl_RX10_34 hTS.2.1 ?_
    refine g_ic_geN 101 dX10_splitTokens_11 (by decide) (by omega) (by omega) (fun z => absurd z (by omega)) (fun _ => ?_)
    refine g_aload_n dX10_splitTokens_14 rfl rfl ?_
    refine g_getR 0 (44) (C := RX10) (T := TX10) (N := 8) dX10_splitTokens_15 (by decide) rfl rfl (by decide) rfl fl_RX10_9 ?_
    refine g_iload_n dX10_splitTokens_18 rfl rfl ?_
    refine g_callN [.ref 44, .int (nI i)] [] (x_cellN S 44 150 i (by decide) rfl (by decide) (by omega)) dX10_splitTokens_19 kk_X10_splitTokens_X11_cell nl_RX10_66 swX11_cell rfl rfl (Nat.le_of_ble_eq_true rfl) ?_
    rintro _ _ ⟨_, rfl, rfl, rfl⟩
    rw [(hTS.2.2 i hi).2]
    refine g_callS [.int (nI (B i))] [] (c_sortOf S (B i) (hTS.2.2 i hi).1) dX10_splitTokens_22 kk_X10_splitTokens_X10_sortOf ml_RX10_115 swX10_sortOf rfl rfl (Nat.le_of_ble_eq_true rfl) ?_
    rintro _ _ ⟨_, rfl, rfl, rfl⟩
    have hs3 := tx_so3 (c := B i)
    generalize hso : tx_so (B i) = c
    refine g_istore (lv' := [(4, .int (nI c)), (3, .int (nI i)), (2, .int (nI k)), (1, .int (nI n)), (0, .ref 43)]) dX10_splitTokens_25 (by decide) rfl ?_
    refine g_iload dX10_splitTokens_27 rfl ?_
    refine g_iload_n dX10_splitTokens_29 rfl rfl ?_
    refine g_ic_neN 49 dX10_splitTokens_30 (by decide) (by omega) (by omega) (fun h2 => ?_) (fun h2 => ?_)
    · refine g_iconst (v := (nI 0)) dX10_splitTokens_49 rfl ?_
      refine g_istore (lv' := [(5, .int (nI 0)), (4, .int (nI c)), (3, .int (nI i)), (2, .int (nI k)), (1, .int (nI n)), (0, .ref 43)]) dX10_splitTokens_50 (by decide) rfl ?_
      refine g_iload dX10_splitTokens_52 rfl ?_
      refine g_if_eqN 74 dX10_splitTokens_54 (by decide) (by omega) (fun h3 => ?_) (fun h3 => ?_)
      · refine g_iload dX10_splitTokens_74 rfl ?_
        refine g_if_eqN 92 dX10_splitTokens_76 (by decide) (by omega) (fun _ => ?_) (fun z => absurd z (by omega))
        refine g_iload dX10_splitTokens_92 rfl ?_
        refine g_istore_n (lv' := [(2, .int (nI c)), (5, .int (nI 0)), (4, .int (nI c)), (3, .int (nI i)), (1, .int (nI n)), (0, .ref 43)]) dX10_splitTokens_94 rfl (by decide) rfl ?_
        refine g_iinc (v := (nI (i + 1))) (lv' := [(3, .int (nI (i + 1))), (2, .int (nI c)), (5, .int (nI 0)), (4, .int (nI c)), (1, .int (nI n)), (0, .ref 43)]) dX10_splitTokens_95 rfl (nI_1 i) (by decide) rfl ?_
        refine g_goto 6 dX10_splitTokens_98 (by decide) ?_
        obtain rfl : c = 0 := by omega
        exact (ih (i + 1) (by omega) n 0 S ho (hp.a hi hso)).lv (zs_mc 0 rfl (zs_mc 1 rfl (zs_mc 4 rfl (zs_mc 5 rfl zs_mn))))
      · refine g_iload dX10_splitTokens_57 rfl ?_
        refine g_if_neN 74 dX10_splitTokens_59 (by decide) (by omega) (fun z => absurd z (by omega)) (fun _ => ?_)
        refine g_aload_n dX10_splitTokens_62 rfl rfl ?_
        refine g_getR 3 (59) (C := RX10) (T := TX10) (N := 8) dX10_splitTokens_63 (by decide) rfl rfl (by decide) rfl fl_RX10_22 ?_
        refine g_iload_n dX10_splitTokens_66 rfl rfl ?_
        refine g_iload_n dX10_splitTokens_67 rfl rfl ?_
        refine g_callN [.ref 59, .int (nI n), .int (nI i)] [] (x_putN S 59 151 n (nI i) (by decide) rfl (by decide) (by omega)) dX10_splitTokens_68 kk_X10_splitTokens_X11_put nl_RX10_38 swX11_put rfl rfl (Nat.le_of_ble_eq_true rfl) ?_
        rintro _ _ ⟨rfl, rfl⟩
        refine g_iinc (v := (nI (n + 1))) (lv' := [(1, .int (nI (n + 1))), (5, .int (nI 0)), (4, .int (nI c)), (3, .int (nI i)), (2, .int (nI k)), (0, .ref 43)]) dX10_splitTokens_71 rfl (nI_1 n) (by decide) rfl ?_
        refine g_iload dX10_splitTokens_74 rfl ?_
        refine g_if_eqN 92 dX10_splitTokens_76 (by decide) (by omega) (fun z => absurd z (by omega)) (fun _ => ?_)
        refine g_aload_n dX10_splitTokens_79 rfl rfl ?_
        refine g_getR 4 (60) (C := RX10) (T := TX10) (N := 8) dX10_splitTokens_80 (by decide) rfl rfl (by decide) rfl fl_RX10_25 ?_
        refine g_iload_n dX10_splitTokens_83 rfl rfl ?_
        refine g_iconst (v := (nI 1)) dX10_splitTokens_84 rfl ?_
        refine g_isubN dX10_splitTokens_85 (by omega) ?_
        refine g_iload_n dX10_splitTokens_86 rfl rfl ?_
        refine g_iconst (v := (nI 1)) dX10_splitTokens_87 rfl ?_
        refine g_iaddN dX10_splitTokens_88 ?_
        refine g_callN [.ref 60, .int (nI ((n + 1) - 1)), .int (nI (i + 1))] [] (x_putN (zs_up S.1 59 n (nI i), S.2) 60 151 ((n + 1) - 1) (nI (i + 1)) (by decide) rfl (by decide) (by omega)) dX10_splitTokens_89 kk_X10_splitTokens_X11_put nl_RX10_38 swX11_put rfl rfl (Nat.le_of_ble_eq_true rfl) ?_
        rintro _ _ ⟨rfl, rfl⟩
        refine g_iload dX10_splitTokens_92 rfl ?_
        refine g_istore_n (lv' := [(2, .int (nI c)), (1, .int (nI (n + 1))), (5, .int (nI 0)), (4, .int (nI c)), (3, .int (nI i)), (0, .ref 43)]) dX10_splitTokens_94 rfl (by decide) rfl ?_
        refine g_iinc (v := (nI (i + 1))) (lv' := [(3, .int (nI (i + 1))), (2, .int (nI c)), (1, .int (nI (n + 1))), (5, .int (nI 0)), (4, .int (nI c)), (0, .ref 43)]) dX10_splitTokens_95 rfl (nI_1 i) (by decide) rfl ?_
        refine g_goto 6 dX10_splitTokens_98 (by decide) ?_
        exact (ih (i + 1) (by omega) (n + 1) c _ ((ho.up (by decide) (by decide)).up (by decide) (by decide)) (hso ▸ hp.c hi (by rw [hso]; omega) (by rw [hso]; omega))).lv (zs_mc 0 rfl (zs_mc 1 rfl (zs_mc 2 rfl (zs_mc 5 rfl zs_mn))))
    · refine g_iload dX10_splitTokens_33 rfl ?_
      refine g_iconst (v := (nI 1)) dX10_splitTokens_35 rfl ?_
      refine g_ic_eqN 45 dX10_splitTokens_36 (by decide) (by omega) (by omega) (fun h4 => ?_) (fun h4 => ?_)
      · refine g_iconst (v := (nI 1)) dX10_splitTokens_45 rfl ?_
        refine g_goto 50 dX10_splitTokens_46 (by decide) ?_
        refine g_istore (lv' := [(5, .int (nI 1)), (4, .int (nI c)), (3, .int (nI i)), (2, .int (nI k)), (1, .int (nI n)), (0, .ref 43)]) dX10_splitTokens_50 (by decide) rfl ?_
        refine g_iload dX10_splitTokens_52 rfl ?_
        refine g_if_eqN 74 dX10_splitTokens_54 (by decide) (by omega) (fun h5 => ?_) (fun h5 => ?_)
        · refine g_iload dX10_splitTokens_74 rfl ?_
          refine g_if_eqN 92 dX10_splitTokens_76 (by decide) (by omega) (fun _ => ?_) (fun z => absurd z (by omega))
          refine g_iload dX10_splitTokens_92 rfl ?_
          refine g_istore_n (lv' := [(2, .int (nI c)), (5, .int (nI 1)), (4, .int (nI c)), (3, .int (nI i)), (1, .int (nI n)), (0, .ref 43)]) dX10_splitTokens_94 rfl (by decide) rfl ?_
          refine g_iinc (v := (nI (i + 1))) (lv' := [(3, .int (nI (i + 1))), (2, .int (nI c)), (5, .int (nI 1)), (4, .int (nI c)), (1, .int (nI n)), (0, .ref 43)]) dX10_splitTokens_95 rfl (nI_1 i) (by decide) rfl ?_
          refine g_goto 6 dX10_splitTokens_98 (by decide) ?_
          obtain rfl : c = 0 := by omega
          exact (ih (i + 1) (by omega) n 0 S ho (hp.a hi hso)).lv (zs_mc 0 rfl (zs_mc 1 rfl (zs_mc 4 rfl (zs_mc 5 rfl zs_mn))))
        · refine g_iload dX10_splitTokens_57 rfl ?_
          refine g_if_neN 74 dX10_splitTokens_59 (by decide) (by omega) (fun _ => ?_) (fun z => absurd z (by omega))
          refine g_iload dX10_splitTokens_74 rfl ?_
          refine g_if_eqN 92 dX10_splitTokens_76 (by decide) (by omega) (fun z => absurd z (by omega)) (fun _ => ?_)
          refine g_aload_n dX10_splitTokens_79 rfl rfl ?_
          refine g_getR 4 (60) (C := RX10) (T := TX10) (N := 8) dX10_splitTokens_80 (by decide) rfl rfl (by decide) rfl fl_RX10_25 ?_
          refine g_iload_n dX10_splitTokens_83 rfl rfl ?_
          refine g_iconst (v := (nI 1)) dX10_splitTokens_84 rfl ?_
          refine g_isubN dX10_splitTokens_85 (by omega) ?_
          refine g_iload_n dX10_splitTokens_86 rfl rfl ?_
          refine g_iconst (v := (nI 1)) dX10_splitTokens_87 rfl ?_
          refine g_iaddN dX10_splitTokens_88 ?_
          refine g_callN [.ref 60, .int (nI (n - 1)), .int (nI (i + 1))] [] (x_putN S 60 151 (n - 1) (nI (i + 1)) (by decide) rfl (by decide) (by omega)) dX10_splitTokens_89 kk_X10_splitTokens_X11_put nl_RX10_38 swX11_put rfl rfl (Nat.le_of_ble_eq_true rfl) ?_
          rintro _ _ ⟨rfl, rfl⟩
          refine g_iload dX10_splitTokens_92 rfl ?_
          refine g_istore_n (lv' := [(2, .int (nI c)), (5, .int (nI 1)), (4, .int (nI c)), (3, .int (nI i)), (1, .int (nI n)), (0, .ref 43)]) dX10_splitTokens_94 rfl (by decide) rfl ?_
          refine g_iinc (v := (nI (i + 1))) (lv' := [(3, .int (nI (i + 1))), (2, .int (nI c)), (5, .int (nI 1)), (4, .int (nI c)), (1, .int (nI n)), (0, .ref 43)]) dX10_splitTokens_95 rfl (nI_1 i) (by decide) rfl ?_
          refine g_goto 6 dX10_splitTokens_98 (by decide) ?_
          obtain rfl : c = k := by omega
          exact (ih (i + 1) (by omega) n c _ (ho.up (by decide) (by decide)) (hp.b hi hso (by omega))).lv (zs_mc 0 rfl (zs_mc 1 rfl (zs_mc 4 rfl (zs_mc 5 rfl zs_mn))))
      · refine g_iload dX10_splitTokens_39 rfl ?_
        refine g_iconst (v := (nI 2)) dX10_splitTokens_41 rfl ?_
        refine g_ic_neN 49 dX10_splitTokens_42 (by decide) (by omega) (by omega) (fun h6 => ?_) (fun h6 => ?_)
        · refine g_iconst (v := (nI 0)) dX10_splitTokens_49 rfl ?_
          refine g_istore (lv' := [(5, .int (nI 0)), (4, .int (nI c)), (3, .int (nI i)), (2, .int (nI k)), (1, .int (nI n)), (0, .ref 43)]) dX10_splitTokens_50 (by decide) rfl ?_
          refine g_iload dX10_splitTokens_52 rfl ?_
          refine g_if_eqN 74 dX10_splitTokens_54 (by decide) (by omega) (fun h7 => ?_) (fun h7 => ?_)
          · refine g_iload dX10_splitTokens_74 rfl ?_
            refine g_if_eqN 92 dX10_splitTokens_76 (by decide) (by omega) (fun _ => ?_) (fun z => absurd z (by omega))
            refine g_iload dX10_splitTokens_92 rfl ?_
            refine g_istore_n (lv' := [(2, .int (nI c)), (5, .int (nI 0)), (4, .int (nI c)), (3, .int (nI i)), (1, .int (nI n)), (0, .ref 43)]) dX10_splitTokens_94 rfl (by decide) rfl ?_
            refine g_iinc (v := (nI (i + 1))) (lv' := [(3, .int (nI (i + 1))), (2, .int (nI c)), (5, .int (nI 0)), (4, .int (nI c)), (1, .int (nI n)), (0, .ref 43)]) dX10_splitTokens_95 rfl (nI_1 i) (by decide) rfl ?_
            refine g_goto 6 dX10_splitTokens_98 (by decide) ?_
            obtain rfl : c = 0 := by omega
            exact (ih (i + 1) (by omega) n 0 S ho (hp.a hi hso)).lv (zs_mc 0 rfl (zs_mc 1 rfl (zs_mc 4 rfl (zs_mc 5 rfl zs_mn))))
          · refine g_iload dX10_splitTokens_57 rfl ?_
            refine g_if_neN 74 dX10_splitTokens_59 (by decide) (by omega) (fun z => absurd z (by omega)) (fun _ => ?_)
            refine g_aload_n dX10_splitTokens_62 rfl rfl ?_
            refine g_getR 3 (59) (C := RX10) (T := TX10) (N := 8) dX10_splitTokens_63 (by decide) rfl rfl (by decide) rfl fl_RX10_22 ?_
            refine g_iload_n dX10_splitTokens_66 rfl rfl ?_
            refine g_iload_n dX10_splitTokens_67 rfl rfl ?_
            refine g_callN [.ref 59, .int (nI n), .int (nI i)] [] (x_putN S 59 151 n (nI i) (by decide) rfl (by decide) (by omega)) dX10_splitTokens_68 kk_X10_splitTokens_X11_put nl_RX10_38 swX11_put rfl rfl (Nat.le_of_ble_eq_true rfl) ?_
            rintro _ _ ⟨rfl, rfl⟩
            refine g_iinc (v := (nI (n + 1))) (lv' := [(1, .int (nI (n + 1))), (5, .int (nI 0)), (4, .int (nI c)), (3, .int (nI i)), (2, .int (nI k)), (0, .ref 43)]) dX10_splitTokens_71 rfl (nI_1 n) (by decide) rfl ?_
            refine g_iload dX10_splitTokens_74 rfl ?_
            refine g_if_eqN 92 dX10_splitTokens_76 (by decide) (by omega) (fun z => absurd z (by omega)) (fun _ => ?_)
            refine g_aload_n dX10_splitTokens_79 rfl rfl ?_
            refine g_getR 4 (60) (C := RX10) (T := TX10) (N := 8) dX10_splitTokens_80 (by decide) rfl rfl (by decide) rfl fl_RX10_25 ?_
            refine g_iload_n dX10_splitTokens_83 rfl rfl ?_
            refine g_iconst (v := (nI 1)) dX10_splitTokens_84 rfl ?_
            refine g_isubN dX10_splitTokens_85 (by omega) ?_
            refine g_iload_n dX10_splitTokens_86 rfl rfl ?_
            refine g_iconst (v := (nI 1)) dX10_splitTokens_87 rfl ?_
            refine g_iaddN dX10_splitTokens_88 ?_
            refine g_callN [.ref 60, .int (nI ((n + 1) - 1)), .int (nI (i + 1))] [] (x_putN (zs_up S.1 59 n (nI i), S.2) 60 151 ((n + 1) - 1) (nI (i + 1)) (by decide) rfl (by decide) (by omega)) dX10_splitTokens_89 kk_X10_splitTokens_X11_put nl_RX10_38 swX11_put rfl rfl (Nat.le_of_ble_eq_true rfl) ?_
            rintro _ _ ⟨rfl, rfl⟩
            refine g_iload dX10_splitTokens_92 rfl ?_
            refine g_istore_n (lv' := [(2, .int (nI c)), (1, .int (nI (n + 1))), (5, .int (nI 0)), (4, .int (nI c)), (3, .int (nI i)), (0, .ref 43)]) dX10_splitTokens_94 rfl (by decide) rfl ?_
            refine g_iinc (v := (nI (i + 1))) (lv' := [(3, .int (nI (i + 1))), (2, .int (nI c)), (1, .int (nI (n + 1))), (5, .int (nI 0)), (4, .int (nI c)), (0, .ref 43)]) dX10_splitTokens_95 rfl (nI_1 i) (by decide) rfl ?_
            refine g_goto 6 dX10_splitTokens_98 (by decide) ?_
            exact (ih (i + 1) (by omega) (n + 1) c _ ((ho.up (by decide) (by decide)).up (by decide) (by decide)) (hso ▸ hp.c hi (by rw [hso]; omega) (by rw [hso]; omega))).lv (zs_mc 0 rfl (zs_mc 1 rfl (zs_mc 2 rfl (zs_mc 5 rfl zs_mn))))
        · refine g_iconst (v := (nI 1)) dX10_splitTokens_45 rfl ?_
          refine g_goto 50 dX10_splitTokens_46 (by decide) ?_
          refine g_istore (lv' := [(5, .int (nI 1)), (4, .int (nI c)), (3, .int (nI i)), (2, .int (nI k)), (1, .int (nI n)), (0, .ref 43)]) dX10_splitTokens_50 (by decide) rfl ?_
          refine g_iload dX10_splitTokens_52 rfl ?_
          refine g_if_eqN 74 dX10_splitTokens_54 (by decide) (by omega) (fun h8 => ?_) (fun h8 => ?_)
          · refine g_iload dX10_splitTokens_74 rfl ?_
            refine g_if_eqN 92 dX10_splitTokens_76 (by decide) (by omega) (fun _ => ?_) (fun z => absurd z (by omega))
            refine g_iload dX10_splitTokens_92 rfl ?_
            refine g_istore_n (lv' := [(2, .int (nI c)), (5, .int (nI 1)), (4, .int (nI c)), (3, .int (nI i)), (1, .int (nI n)), (0, .ref 43)]) dX10_splitTokens_94 rfl (by decide) rfl ?_
            refine g_iinc (v := (nI (i + 1))) (lv' := [(3, .int (nI (i + 1))), (2, .int (nI c)), (5, .int (nI 1)), (4, .int (nI c)), (1, .int (nI n)), (0, .ref 43)]) dX10_splitTokens_95 rfl (nI_1 i) (by decide) rfl ?_
            refine g_goto 6 dX10_splitTokens_98 (by decide) ?_
            obtain rfl : c = 0 := by omega
            exact (ih (i + 1) (by omega) n 0 S ho (hp.a hi hso)).lv (zs_mc 0 rfl (zs_mc 1 rfl (zs_mc 4 rfl (zs_mc 5 rfl zs_mn))))
          · refine g_iload dX10_splitTokens_57 rfl ?_
            refine g_if_neN 74 dX10_splitTokens_59 (by decide) (by omega) (fun _ => ?_) (fun z => absurd z (by omega))
            refine g_iload dX10_splitTokens_74 rfl ?_
            refine g_if_eqN 92 dX10_splitTokens_76 (by decide) (by omega) (fun z => absurd z (by omega)) (fun _ => ?_)
            refine g_aload_n dX10_splitTokens_79 rfl rfl ?_
            refine g_getR 4 (60) (C := RX10) (T := TX10) (N := 8) dX10_splitTokens_80 (by decide) rfl rfl (by decide) rfl fl_RX10_25 ?_
            refine g_iload_n dX10_splitTokens_83 rfl rfl ?_
            refine g_iconst (v := (nI 1)) dX10_splitTokens_84 rfl ?_
            refine g_isubN dX10_splitTokens_85 (by omega) ?_
            refine g_iload_n dX10_splitTokens_86 rfl rfl ?_
            refine g_iconst (v := (nI 1)) dX10_splitTokens_87 rfl ?_
            refine g_iaddN dX10_splitTokens_88 ?_
            refine g_callN [.ref 60, .int (nI (n - 1)), .int (nI (i + 1))] [] (x_putN S 60 151 (n - 1) (nI (i + 1)) (by decide) rfl (by decide) (by omega)) dX10_splitTokens_89 kk_X10_splitTokens_X11_put nl_RX10_38 swX11_put rfl rfl (Nat.le_of_ble_eq_true rfl) ?_
            rintro _ _ ⟨rfl, rfl⟩
            refine g_iload dX10_splitTokens_92 rfl ?_
            refine g_istore_n (lv' := [(2, .int (nI c)), (5, .int (nI 1)), (4, .int (nI c)), (3, .int (nI i)), (1, .int (nI n)), (0, .ref 43)]) dX10_splitTokens_94 rfl (by decide) rfl ?_
            refine g_iinc (v := (nI (i + 1))) (lv' := [(3, .int (nI (i + 1))), (2, .int (nI c)), (5, .int (nI 1)), (4, .int (nI c)), (1, .int (nI n)), (0, .ref 43)]) dX10_splitTokens_95 rfl (nI_1 i) (by decide) rfl ?_
            refine g_goto 6 dX10_splitTokens_98 (by decide) ?_
            obtain rfl : c = k := by omega
            exact (ih (i + 1) (by omega) n c _ (ho.up (by decide) (by decide)) (hp.b hi hso (by omega))).lv (zs_mc 0 rfl (zs_mc 1 rfl (zs_mc 4 rfl (zs_mc 5 rfl zs_mn))))
set_option maxRecDepth 100000 in
theorem c_split (S : zs_S) (B : Nat → Nat) (L : Nat) (hT : zs_tx S B L) : zs_C MX10_splitTokens [.ref 43] S (fun v S2 => ∃ x, v = some (.int x) ∧ ∃ n, x = nI n ∧ n ≤ L ∧ tx_p B L n = L ∧ (∀ j, j < n → tx_p B L j < L ∧ S2.1 59 j = nI (tx_p B L j) ∧ S2.1 60 j = nI (tx_q B L (j + 1))) ∧ zs_o2 S S2) := by
  refine zs_C.of (by decide) (Nat.le_of_ble_eq_true rfl) ?_
  show zs_P MX10_splitTokens 0 [(0, .ref 43)] [] S _
  refine g_iconst (v := (nI 0)) dX10_splitTokens_0 rfl ?_
  refine g_istore_n (lv' := [(1, .int (nI 0)), (0, .ref 43)]) dX10_splitTokens_1 rfl (by decide) rfl ?_
  refine g_iconst (v := (nI 0)) dX10_splitTokens_2 rfl ?_
  refine g_istore_n (lv' := [(2, .int (nI 0)), (1, .int (nI 0)), (0, .ref 43)]) dX10_splitTokens_3 rfl (by decide) rfl ?_
  refine g_iconst (v := (nI 0)) dX10_splitTokens_4 rfl ?_
  refine g_istore_n (lv' := [(3, .int (nI 0)), (2, .int (nI 0)), (1, .int (nI 0)), (0, .ref 43)]) dX10_splitTokens_5 rfl (by decide) rfl ?_
  exact (c_split_l S B L hT L 0 (by omega) 0 0 S zs_o2.rf ⟨fun j z => absurd z (by omega), by omega, by omega, by omega, Or.inl ⟨rfl, rfl, fun j z => absurd z (by omega)⟩⟩).lv (zs_mc 0 rfl (zs_mc 1 rfl (zs_mc 2 rfl (zs_mc 3 rfl zs_mn))))
