theorem tx_wc3 {B : Nat → Nat} {s e : Nat} : 3 ≤ tx_wc B s e ∧ tx_wc B s e ≤ 8 := by
  unfold tx_wc
  repeat' split
  all_goals omega
theorem tx_kdB {B : Nat → Nat} {s e : Nat} : 1 ≤ tx_kd B s e ∧ tx_kd B s e ≤ 8 := by
  have := tx_wc3 (B := B) (s := s) (e := e)
  unfold tx_kd
  repeat' split
  all_goals omega
theorem tx_k8 {B : Nat → Nat} {L j : Nat} : tx_k B L j ≤ 8 := by
  have := tx_kdB (B := B) (s := tx_p B L j) (e := tx_q B L (j + 1))
  unfold tx_k
  split
  · omega
  · omega
theorem tx_kz {B : Nat → Nat} {L j : Nat} : tx_k B L j = 0 ↔ ¬ tx_p B L j < L := by
  have := tx_kdB (B := B) (s := tx_p B L j) (e := tx_q B L (j + 1))
  unfold tx_k
  constructor
  · intro h
    split at h
    · omega
    · assumption
  · intro h
    rw [if_neg h]
theorem tx_kS {B : Nat → Nat} {L j : Nat} (h : tx_p B L j < L) : tx_k B L j = tx_kd B (tx_p B L j) (tx_q B L (j + 1)) := if_pos h
/-- a number's figures -/
theorem tx_k1 {B : Nat → Nat} {L j : Nat} (h : tx_p B L j < L) (hk : tx_k B L j = 1) : tx_so (B (tx_p B L j)) = 2 ∧ tx_q B L (j + 1) = tx_rn B L 2 (tx_p B L j) ∧ tx_q B L (j + 1) - tx_p B L j ≤ 2 ∧ 48 ≤ B (tx_p B L j) ∧ B (tx_p B L j) ≤ 57 ∧ 48 ≤ B (tx_q B L (j + 1) - 1) ∧ B (tx_q B L (j + 1) - 1) ≤ 57 := by
  rw [tx_kS h] at hk
  have h3 := tx_wc3 (B := B) (s := tx_p B L j) (e := tx_q B L (j + 1))
  have hg := tx_q_gt h
  unfold tx_kd at hk
  by_cases z1 : tx_so (B (tx_p B L j)) = 1
  · rw [if_pos z1] at hk; omega
  · rw [if_neg z1] at hk
    by_cases z2 : tx_so (B (tx_p B L j)) = 2
    · rw [if_pos z2] at hk
      have e : tx_q B L (j + 1) = tx_rn B L 2 (tx_p B L j) := by
        rw [tx_qS h]
        unfold tx_te
        rw [if_pos (Or.inr z2), z2]
      have a1 := tx_so2 z2
      have a2 := tx_so2 (tx_rn_in (B := B) (k := 2) (q := tx_p B L j) (i := tx_q B L (j + 1) - 1) (L := L) tx_p_le (by omega) (by rw [← e]; omega))
      refine ⟨z2, e, ?_, a1.1, a1.2, a2.1, a2.2⟩
      split at hk <;> omega
    · rw [if_neg z2] at hk
      split at hk <;> omega
theorem tx_vB {B : Nat → Nat} {L j : Nat} (h : tx_p B L j < L) (hk : tx_k B L j = 1) : tx_v B L j ≤ 99 := by
  obtain ⟨-, -, -, h1, h2, h3, h4⟩ := tx_k1 h hk
  unfold tx_v tx_vl
  split <;> omega
def zs_tk (S : zs_S) (B : Nat → Nat) (L n : Nat) : Prop := zs_tx S B L ∧ n ≤ L ∧ tx_p B L n = L ∧ (∀ j, j < n → tx_p B L j < L) ∧ (∀ j, j ≤ n → S.1 61 j = nI (tx_k B L j) ∧ S.1 59 j = nI (tx_p B L j)) ∧ ∀ j, j < n → tx_k B L j = 1 → S.1 62 j = nI (tx_v B L j)
def zs_nm (S0 S : zs_S) (B : Nat → Nat) (L i : Nat) : Prop := zs_o2 S0 S ∧ S.1 59 = S0.1 59 ∧ S.1 60 = S0.1 60 ∧ ∀ j, j < i → S.1 61 j = nI (tx_k B L j) ∧ (tx_k B L j = 1 → S.1 62 j = nI (tx_v B L j))
theorem zs_nm.st {S0 S : zs_S} {B : Nat → Nat} {L i : Nat} {v : Int32} (h : zs_nm S0 S B L i) (hv : tx_k B L i = 1 → v = nI (tx_v B L i)) : zs_nm S0 (zs_up ((zs_up S.1 61 i (nI (tx_k B L i)), S.2) : zs_S).1 62 i v, ((zs_up S.1 61 i (nI (tx_k B L i)), S.2) : zs_S).2) B L (i + 1) := by
  refine ⟨(h.1.up (by decide) (by decide)).up (by decide) (by decide), funext fun j => (zs_up_m (by omega)).trans ((zs_up_m (by omega)).trans (congrFun h.2.1 j)), funext fun j => (zs_up_m (by omega)).trans ((zs_up_m (by omega)).trans (congrFun h.2.2.1 j)), fun j hj => ?_⟩
  rcases Nat.lt_or_ge j i with z | z
  · exact ⟨(zs_up_m (by omega)).trans ((zs_up_m (by omega)).trans (h.2.2.2 j z).1), fun y => (zs_up_m (by omega)).trans ((zs_up_m (by omega)).trans ((h.2.2.2 j z).2 y))⟩
  · obtain rfl : j = i := by omega
    exact ⟨(zs_up_m (by omega)).trans zs_up_q, fun y => zs_up_q.trans (hv y)⟩
theorem zs_nm.fin {S0 S : zs_S} {B : Nat → Nat} {L n : Nat} (hm : zs_nm S0 S B L n) (hT : zs_tx S0 B L) (hn : n ≤ L) (hpn : tx_p B L n = L) (hA : ∀ j, j < n → tx_p B L j < L ∧ S0.1 59 j = nI (tx_p B L j) ∧ S0.1 60 j = nI (tx_q B L (j + 1))) : zs_o2 S0 (zs_up ((zs_up S.1 61 n (nI 0), S.2) : zs_S).1 59 n (nI L), ((zs_up S.1 61 n (nI 0), S.2) : zs_S).2) ∧ zs_tk (zs_up ((zs_up S.1 61 n (nI 0), S.2) : zs_S).1 59 n (nI L), ((zs_up S.1 61 n (nI 0), S.2) : zs_S).2) B L n := by
  have ho := (hm.1.up (a := 61) (j := n) (v := nI 0) (by decide) (by decide)).up (a := 59) (j := n) (v := nI L) (by decide) (by decide)
  refine ⟨ho, ho.x hT, hn, hpn, fun j hj => (hA j hj).1, fun j hj => ?_, fun j hj hk => (zs_up_m (by omega)).trans ((zs_up_m (by omega)).trans ((hm.2.2.2 j hj).2 hk))⟩
  rcases Nat.lt_or_ge j n with z | z
  · exact ⟨(zs_up_m (by omega)).trans ((zs_up_m (by omega)).trans (hm.2.2.2 j z).1), (zs_up_m (by omega)).trans ((zs_up_m (by omega)).trans ((congrFun hm.2.1 j).trans (hA j z).2.1))⟩
  · obtain rfl : j = n := by omega
    have hk : tx_k B L j = 0 := tx_kz.mpr (by omega)
    rw [hk, hpn]
    exact ⟨(zs_up_m (by omega)).trans zs_up_q, zs_up_q⟩
set_option maxRecDepth 100000 in
theorem c_name_l (S0 : zs_S) (B : Nat → Nat) (L n : Nat) (hT : zs_tx S0 B L) (hn : n ≤ L) (hpn : tx_p B L n = L) (hA : ∀ j, j < n → tx_p B L j < L ∧ S0.1 59 j = nI (tx_p B L j) ∧ S0.1 60 j = nI (tx_q B L (j + 1))) : ∀ (d i : Nat), i + d = n → ∀ S, zs_nm S0 S B L i → zs_P MX10_nameTokens 2 [(2, .int (nI i)), (0, .ref 43), (1, .int (nI n))] [] S (fun v S2 => v = none ∧ zs_o2 S0 S2 ∧ zs_tk S2 B L n) := by
  have hL := hT.1
  intro d
  induction d with
  | zero =>
    intro i hi S hm
    obtain rfl : n = i := by omega
    refine g_iload_n dX10_nameTokens_2 rfl rfl ?_
    refine g_iload_n dX10_nameTokens_3 rfl rfl ?_
    refine g_ic_geN 69 dX10_nameTokens_4 (by decide) (by omega) (by omega) (fun _ => ?_) (fun z => absurd z (by omega))
    refine g_aload_n dX10_nameTokens_69 rfl rfl ?_
    refine g_getR 5 (61) (C := RX10) (T := TX10) (N := 8) dX10_nameTokens_70 (by decide) rfl rfl (by decide) rfl fl_RX10_28 ?_
    refine g_iload_n dX10_nameTokens_73 rfl rfl ?_
    refine g_iconst (v := (nI 0)) dX10_nameTokens_74 rfl ?_
    refine g_callN [.ref 61, .int (nI n), .int (nI 0)] [] (x_putN S 61 151 n (nI 0) (by decide) rfl (by decide) (by omega)) dX10_nameTokens_75 kk_X10_nameTokens_X11_put nl_RX10_38 swX11_put rfl rfl (Nat.le_of_ble_eq_true rfl) ?_
    rintro _ _ ⟨rfl, rfl⟩
    refine g_aload_n dX10_nameTokens_78 rfl rfl ?_
    refine g_getR 3 (59) (C := RX10) (T := TX10) (N := 8) dX10_nameTokens_79 (by decide) rfl rfl (by decide) rfl fl_RX10_22 ?_
    refine g_iload_n dX10_nameTokens_82 rfl rfl ?_
    refine g_aload_n dX10_nameTokens_83 rfl rfl ?_
    refine g_getV 1 (C := RX10) (T := TX10) (N := 8) (v := (nI L)) dX10_nameTokens_84 (by decide) rfl rfl (by decide) rfl fl_RX10_34 ((hm.1.up (a := 61) (j := n) (v := nI 0) (by decide) (by decide)).x hT).2.1 ?_
    refine g_callN [.ref 59, .int (nI n), .int (nI L)] [] (x_putN (zs_up S.1 61 n (nI 0), S.2) 59 151 n (nI L) (by decide) rfl (by decide) (by omega)) dX10_nameTokens_87 kk_X10_nameTokens_X11_put nl_RX10_38 swX11_put rfl rfl (Nat.le_of_ble_eq_true rfl) ?_
    rintro _ _ ⟨rfl, rfl⟩
    refine g_ret dX10_nameTokens_90 rfl ?_
    exact ⟨rfl, hm.fin hT hn hpn hA⟩
  | succ d ih =>
    intro i hi S hm
    have hin : i < n := by omega
    have hpi := (hA i hin).1
    have hk8 := tx_k8 (B := B) (L := L) (j := i)
    have hqL := tx_q_le (B := B) (L := L) (i + 1)
    refine g_iload_n dX10_nameTokens_2 rfl rfl ?_
    refine g_iload_n dX10_nameTokens_3 rfl rfl ?_
    refine g_ic_geN 69 dX10_nameTokens_4 (by decide) (by omega) (by omega) (fun z => absurd z (by omega)) (fun _ => ?_)
    refine g_aload_n dX10_nameTokens_7 rfl rfl ?_
    refine g_getR 5 (61) (C := RX10) (T := TX10) (N := 8) dX10_nameTokens_8 (by decide) rfl rfl (by decide) rfl fl_RX10_28 ?_
    refine g_iload_n dX10_nameTokens_11 rfl rfl ?_
    refine g_aload_n dX10_nameTokens_12 rfl rfl ?_
    refine g_aload_n dX10_nameTokens_13 rfl rfl ?_
    refine g_getR 3 (59) (C := RX10) (T := TX10) (N := 8) dX10_nameTokens_14 (by decide) rfl rfl (by decide) rfl fl_RX10_22 ?_
    refine g_iload_n dX10_nameTokens_17 rfl rfl ?_
    refine g_callN [.ref 59, .int (nI i)] [.ref 43, .int (nI i), .ref 61] (x_cellN S 59 151 i (by decide) rfl (by decide) (by omega)) dX10_nameTokens_18 kk_X10_nameTokens_X11_cell nl_RX10_66 swX11_cell rfl rfl (Nat.le_of_ble_eq_true rfl) ?_
    rintro _ _ ⟨_, rfl, rfl, rfl⟩
    rw [show (S : zs_S).1 59 i = _ from (congrFun hm.2.1 i).trans (hA i hin).2.1]
    refine g_aload_n dX10_nameTokens_21 rfl rfl ?_
    refine g_getR 4 (60) (C := RX10) (T := TX10) (N := 8) dX10_nameTokens_22 (by decide) rfl rfl (by decide) rfl fl_RX10_25 ?_
    refine g_iload_n dX10_nameTokens_25 rfl rfl ?_
    refine g_callN [.ref 60, .int (nI i)] [.int (nI (tx_p B L i)), .ref 43, .int (nI i), .ref 61] (x_cellN S 60 151 i (by decide) rfl (by decide) (by omega)) dX10_nameTokens_26 kk_X10_nameTokens_X11_cell nl_RX10_66 swX11_cell rfl rfl (Nat.le_of_ble_eq_true rfl) ?_
    rintro _ _ ⟨_, rfl, rfl, rfl⟩
    rw [show (S : zs_S).1 60 i = _ from (congrFun hm.2.2.1 i).trans (hA i hin).2.2]
    refine g_callV (T := TX10) (NN := 8) [.int (nI i), .ref 61] (c_tokenFrom B L (tx_p B L i) (tx_q B L (i + 1)) S (hm.1.x hT) (tx_q_le _) (tx_q_gt hpi)) dX10_nameTokens_29 kk_X10_nameTokens_X10_tokenFrom ml_RX10_119 mwX10_tokenFrom ewX10_tokenFrom (by decide) rfl rfl rfl rfl (Nat.le_of_ble_eq_true rfl) ?_
    rintro _ _ ⟨_, rfl, rfl, rfl⟩
    rw [← tx_kS hpi]
    refine g_callN [.ref 61, .int (nI i), .int (nI (tx_k B L i))] [] (x_putN S 61 151 i (nI (tx_k B L i)) (by decide) rfl (by decide) (by omega)) dX10_nameTokens_32 kk_X10_nameTokens_X11_put nl_RX10_38 swX11_put rfl rfl (Nat.le_of_ble_eq_true rfl) ?_
    rintro _ _ ⟨rfl, rfl⟩
    refine g_aload_n dX10_nameTokens_35 rfl rfl ?_
    refine g_getR 6 (62) (C := RX10) (T := TX10) (N := 8) dX10_nameTokens_36 (by decide) rfl rfl (by decide) rfl fl_RX10_31 ?_
    refine g_iload_n dX10_nameTokens_39 rfl rfl ?_
    refine g_aload_n dX10_nameTokens_40 rfl rfl ?_
    refine g_aload_n dX10_nameTokens_41 rfl rfl ?_
    refine g_getR 3 (59) (C := RX10) (T := TX10) (N := 8) dX10_nameTokens_42 (by decide) rfl rfl (by decide) rfl fl_RX10_22 ?_
    refine g_iload_n dX10_nameTokens_45 rfl rfl ?_
    refine g_callN [.ref 59, .int (nI i)] [.ref 43, .int (nI i), .ref 62] (x_cellN (zs_up S.1 61 i (nI (tx_k B L i)), S.2) 59 151 i (by decide) rfl (by decide) (by omega)) dX10_nameTokens_46 kk_X10_nameTokens_X11_cell nl_RX10_66 swX11_cell rfl rfl (Nat.le_of_ble_eq_true rfl) ?_
    rintro _ _ ⟨_, rfl, rfl, rfl⟩
    rw [show ((zs_up S.1 61 i (nI (tx_k B L i)), S.2) : zs_S).1 59 i = _ from (zs_up_m (by omega)).trans ((congrFun hm.2.1 i).trans (hA i hin).2.1)]
    refine g_aload_n dX10_nameTokens_49 rfl rfl ?_
    refine g_getR 4 (60) (C := RX10) (T := TX10) (N := 8) dX10_nameTokens_50 (by decide) rfl rfl (by decide) rfl fl_RX10_25 ?_
    refine g_iload_n dX10_nameTokens_53 rfl rfl ?_
    refine g_callN [.ref 60, .int (nI i)] [.int (nI (tx_p B L i)), .ref 43, .int (nI i), .ref 62] (x_cellN (zs_up S.1 61 i (nI (tx_k B L i)), S.2) 60 151 i (by decide) rfl (by decide) (by omega)) dX10_nameTokens_54 kk_X10_nameTokens_X11_cell nl_RX10_66 swX11_cell rfl rfl (Nat.le_of_ble_eq_true rfl) ?_
    rintro _ _ ⟨_, rfl, rfl, rfl⟩
    rw [show ((zs_up S.1 61 i (nI (tx_k B L i)), S.2) : zs_S).1 60 i = _ from (zs_up_m (by omega)).trans ((congrFun hm.2.2.1 i).trans (hA i hin).2.2)]
    refine g_callV (T := TX10) (NN := 8) [.int (nI i), .ref 62] (c_numberFrom B L (tx_p B L i) (tx_q B L (i + 1)) (zs_up S.1 61 i (nI (tx_k B L i)), S.2) ((hm.1.up (by decide) (by decide)).x hT) (tx_q_le _) (tx_q_gt hpi)) dX10_nameTokens_57 kk_X10_nameTokens_X10_numberFrom ml_RX10_123 mwX10_numberFrom ewX10_numberFrom (by decide) rfl rfl rfl rfl (Nat.le_of_ble_eq_true rfl) ?_
    rintro _ _ ⟨y, rfl, hy, rfl⟩
    refine g_callN [.ref 62, .int (nI i), .int y] [] (x_putN (zs_up S.1 61 i (nI (tx_k B L i)), S.2) 62 151 i y (by decide) rfl (by decide) (by omega)) dX10_nameTokens_60 kk_X10_nameTokens_X11_put nl_RX10_38 swX11_put rfl rfl (Nat.le_of_ble_eq_true rfl) ?_
    rintro _ _ ⟨rfl, rfl⟩
    refine g_iinc (v := (nI (i + 1))) (lv' := [(2, .int (nI (i + 1))), (0, .ref 43), (1, .int (nI n))]) dX10_nameTokens_63 rfl (nI_1 i) (by decide) rfl ?_
    refine g_goto 2 dX10_nameTokens_66 (by decide) ?_
    exact (ih (i + 1) (by omega) _ (hm.st (fun z => hy (tx_k1 hpi z).2.2.2.1 (tx_k1 hpi z).2.2.2.2.2.1))).lv (zs_mc 0 rfl (zs_mc 1 rfl (zs_mc 2 rfl zs_mn)))
theorem c_name (S0 : zs_S) (B : Nat → Nat) (L n : Nat) (hT : zs_tx S0 B L) (hn : n ≤ L) (hpn : tx_p B L n = L) (hA : ∀ j, j < n → tx_p B L j < L ∧ S0.1 59 j = nI (tx_p B L j) ∧ S0.1 60 j = nI (tx_q B L (j + 1))) : zs_Cv MX10_nameTokens [.ref 43, .int (nI n)] S0 (fun S2 => zs_o2 S0 S2 ∧ zs_tk S2 B L n) := by
  refine zs_C.of (by decide) (Nat.le_of_ble_eq_true rfl) ?_
  show zs_P MX10_nameTokens 0 [(0, .ref 43), (1, .int (nI n))] [] S0 _
  refine g_iconst (v := nI 0) dX10_nameTokens_0 rfl ?_
  refine g_istore_n (lv' := [(2, .int (nI 0)), (0, .ref 43), (1, .int (nI n))]) dX10_nameTokens_1 rfl (by decide) rfl ?_
  exact c_name_l S0 B L n hT hn hpn hA n 0 (by omega) S0 ⟨zs_o2.rf, rfl, rfl, fun j z => absurd z (by omega)⟩
