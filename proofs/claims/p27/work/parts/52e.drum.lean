def zs_zm (S : zs_S) : Prop := S.1 82 8 = nI 0 ∧ S.1 82 21 = nI 0 ∧ S.1 82 46 = nI 0
def zs_im (S S2 : zs_S) : Prop := ∀ i, 66 ≤ i → S2.1 82 i = S.1 82 i
theorem zs_fij {S : zs_S} {a n j : Nat} {v : Int32} (h : n ≤ j) : (zs_fi S a n v).1 a j = S.1 a j := if_neg (fun q => absurd q.2 (by omega))
set_option maxRecDepth 100000 in
theorem y_beginsE (n t : Nat) (k : Int32) (h1 : 1 ≤ n) (h2 : n ≤ 12) (h3 : t ≤ 11) (S : zs_S) (hJ : zs_J S) : zs_Cv MX12_begins [.ref 80, .int (nI n), .int k, .int (nI t)] S (fun S2 => zs_J S2 ∧ zs_fm S S2 ∧ S2.1 82 2 = nI 0 ∧ S2.1 82 0 = nI n ∧ S2.1 82 1 = k ∧ S2.1 80 = S.1 80 ∧ S2.1 84 = S.1 84 ∧ zs_zm S2 ∧ zs_im S S2) := by
  refine zs_C.of (by decide) (Nat.le_of_ble_eq_true rfl) ?_
  show zs_P MX12_begins 0 [(0, .ref 80), (1, .int (nI n)), (2, .int k), (3, .int (nI t))] [] S _
  refine g_iconst (v := (nI 0)) dX12_begins_0 rfl ?_
  refine g_istore (lv' := [(4, .int (nI 0)), (0, .ref 80), (1, .int (nI n)), (2, .int k), (3, .int (nI t))]) dX12_begins_1 (by decide) rfl ?_
  refine zs_Pst (y_bg1 S n t k _ ?_ 25 0 (by omega)) zs_fi0.symm
  refine g_iconst (v := (nI 0)) dX12_begins_24 rfl ?_
  refine g_istore (lv' := [(4, .int (nI 0)), (0, .ref 80), (1, .int (nI n)), (2, .int k), (3, .int (nI t))]) dX12_begins_25 (by decide) rfl ?_
  refine zs_Pst (y_bg2 (zs_fi S 81 25 (nI 0)) n t k _ ?_ 66 0 (by omega)) zs_fi0.symm
  refine g_aload_n dX12_begins_48 rfl rfl ?_
  refine g_getR 1 (82) (C := RX12) (T := TX12) (N := 19) dX12_begins_49 (by decide) rfl rfl (by decide) rfl fl_RX12_13 ?_
  refine g_iconst (v := (nI 0)) dX12_begins_52 rfl ?_
  refine g_iload_n dX12_begins_53 rfl rfl ?_
  refine g_iastN dX12_begins_54 (by decide) rfl (by omega) (by decide) ?_
  refine g_aload_n dX12_begins_55 rfl rfl ?_
  refine g_getR 1 (82) (C := RX12) (T := TX12) (N := 19) dX12_begins_56 (by decide) rfl rfl (by decide) rfl fl_RX12_13 ?_
  refine g_iconst (v := (nI 1)) dX12_begins_59 rfl ?_
  refine g_iload_n dX12_begins_60 rfl rfl ?_
  refine g_iastN dX12_begins_61 (by decide) rfl (by omega) (by decide) ?_
  refine g_aload_n dX12_begins_62 rfl rfl ?_
  refine g_getR 0 (81) (C := RX12) (T := TX12) (N := 19) dX12_begins_63 (by decide) rfl rfl (by decide) rfl fl_RX12_7 ?_
  refine g_iconst (v := (nI 2)) dX12_begins_66 rfl ?_
  refine g_iload_n dX12_begins_67 rfl rfl ?_
  refine g_iastN dX12_begins_68 (by decide) rfl (by omega) (by decide) ?_
  refine g_ret dX12_begins_69 rfl ?_
  exact ⟨rfl, zs_Jb hJ h1 h2 h3, zs_fb, ((zs_up_m (by omega)).trans ((zs_up_m (by omega)).trans ((zs_up_m (by omega)).trans (zs_fii (by decide))))), (zs_up_m (by omega)).trans ((zs_up_m (by omega)).trans zs_up_q), (zs_up_m (by omega)).trans zs_up_q, funext fun j => (zs_up_m (by omega)).trans ((zs_up_m (by omega)).trans ((zs_up_m (by omega)).trans ((zs_fio (by decide)).trans (zs_fio (by decide))))), funext fun j => (zs_up_m (by omega)).trans ((zs_up_m (by omega)).trans ((zs_up_m (by omega)).trans ((zs_fio (by decide)).trans (zs_fio (by decide))))), ⟨((zs_up_m (by omega)).trans ((zs_up_m (by omega)).trans ((zs_up_m (by omega)).trans (zs_fii (by decide))))), ((zs_up_m (by omega)).trans ((zs_up_m (by omega)).trans ((zs_up_m (by omega)).trans (zs_fii (by decide))))), ((zs_up_m (by omega)).trans ((zs_up_m (by omega)).trans ((zs_up_m (by omega)).trans (zs_fii (by decide)))))⟩, fun i hi => (zs_up_m (by omega)).trans ((zs_up_m (by omega)).trans ((zs_up_m (by omega)).trans ((zs_fij hi).trans (zs_fio (by decide)))))⟩
set_option maxRecDepth 100000 in
theorem y_comesE (k : Int32) (e : Nat) (he : e ≤ 4) (S : zs_S) (hJ : zs_J S) (h3 : S.1 82 2 = nI e) : zs_Ci MX12_comes [.ref 80, .int k] S (fun x S2 => x = nI e ∧ zs_J S2 ∧ zs_fm S S2 ∧ S2.1 82 2 = nI (e + 1) ∧ S2.1 80 = S.1 80 ∧ S2.1 84 = S.1 84 ∧ S2.1 82 0 = S.1 82 0 ∧ S2.1 82 1 = S.1 82 1 ∧ ∀ i, 8 ≤ i → i ≠ 65 → S2.1 82 i = S.1 82 i) := by
  refine zs_C.of (by decide) (Nat.le_of_ble_eq_true rfl) ?_
  show zs_P MX12_comes 0 [(0, .ref 80), (1, .int k)] [] S _
  refine g_aload_n dX12_comes_0 rfl rfl ?_
  refine g_getR 1 (82) (C := RX12) (T := TX12) (N := 19) dX12_comes_1 (by decide) rfl rfl (by decide) rfl fl_RX12_13 ?_
  refine g_iconst (v := (nI 2)) dX12_comes_4 rfl ?_
  refine g_ialdN (v := (nI e)) dX12_comes_5 (by decide) rfl (by omega) (by decide) h3 ?_
  refine g_istore_n (lv' := [(2, .int (nI e)), (0, .ref 80), (1, .int k)]) dX12_comes_6 rfl (by decide) rfl ?_
  refine g_aload_n dX12_comes_7 rfl rfl ?_
  refine g_getR 1 (82) (C := RX12) (T := TX12) (N := 19) dX12_comes_8 (by decide) rfl rfl (by decide) rfl fl_RX12_13 ?_
  refine g_iconst (v := (nI 3)) dX12_comes_11 rfl ?_
  refine g_iload_n dX12_comes_12 rfl rfl ?_
  refine g_iaddN dX12_comes_13 ?_
  refine g_iload_n dX12_comes_14 rfl rfl ?_
  refine g_iastN dX12_comes_15 (by decide) rfl (by omega) (by decide) ?_
  refine g_aload_n dX12_comes_16 rfl rfl ?_
  refine g_getR 0 (81) (C := RX12) (T := TX12) (N := 19) dX12_comes_17 (by decide) rfl rfl (by decide) rfl fl_RX12_7 ?_
  refine g_bipush (v := (nI 15)) dX12_comes_20 rfl ?_
  refine g_iload_n dX12_comes_22 rfl rfl ?_
  refine g_iaddN dX12_comes_23 ?_
  refine g_iconst (v := (nI 0)) dX12_comes_24 rfl ?_
  refine g_iastN dX12_comes_25 (by decide) rfl (by omega) (by decide) ?_
  refine g_aload_n dX12_comes_26 rfl rfl ?_
  refine g_getR 0 (81) (C := RX12) (T := TX12) (N := 19) dX12_comes_27 (by decide) rfl rfl (by decide) rfl fl_RX12_7 ?_
  refine g_bipush (v := (nI 20)) dX12_comes_30 rfl ?_
  refine g_iload_n dX12_comes_32 rfl rfl ?_
  refine g_iaddN dX12_comes_33 ?_
  refine g_iconst (v := (nI 0)) dX12_comes_34 rfl ?_
  refine g_iastN dX12_comes_35 (by decide) rfl (by omega) (by decide) ?_
  refine g_aload_n dX12_comes_36 rfl rfl ?_
  refine g_getR 1 (82) (C := RX12) (T := TX12) (N := 19) dX12_comes_37 (by decide) rfl rfl (by decide) rfl fl_RX12_13 ?_
  refine g_iconst (v := (nI 2)) dX12_comes_40 rfl ?_
  refine g_dup2 dX12_comes_41 rfl rfl ?_
  refine g_ialdN (v := (nI e)) dX12_comes_42 (by decide) rfl (by omega) (by decide) ((zs_up_m (by omega)).trans ((zs_up_m (by omega)).trans ((zs_up_m (by omega)).trans h3))) ?_
  refine g_iconst (v := (nI 1)) dX12_comes_43 rfl ?_
  refine g_iaddN dX12_comes_44 ?_
  refine g_iastN dX12_comes_45 (by decide) rfl (by omega) (by decide) ?_
  refine g_aload_n dX12_comes_46 rfl rfl ?_
  refine g_getR 1 (82) (C := RX12) (T := TX12) (N := 19) dX12_comes_47 (by decide) rfl rfl (by decide) rfl fl_RX12_13 ?_
  refine g_bipush (v := (nI 65)) dX12_comes_50 rfl ?_
  refine g_iconst (v := (nI 0)) dX12_comes_52 rfl ?_
  refine g_iastN dX12_comes_53 (by decide) rfl (by omega) (by decide) ?_
  refine g_iload_n dX12_comes_54 rfl rfl ?_
  refine g_iret dX12_comes_55 rfl rfl ?_
  exact ⟨_, rfl, rfl, ((((((((((hJ).up (zs_okN2 (rg_82_3_7 _ (by omega) (by omega)) (by omega)))).up (zs_okN (rg_81_15_19 _ (by omega) (by omega)) (by decide) (by decide)))).up (zs_okN (rg_81_20_24 _ (by omega) (by omega)) (by decide) (by decide)))).up (zs_okR2 rfl (by omega) (by omega) (by omega)))).up (zs_okR2 rfl (by omega) (by omega) (by omega))), ((((((((((zs_fm.rf).tr (zs_fm.up rfl))).tr (zs_fm.up rfl))).tr (zs_fm.up rfl))).tr (zs_fm.up rfl))).tr (zs_fm.up rfl)), ((zs_up_m (by omega)).trans zs_up_q), funext fun j => (zs_up_m (by omega)).trans ((zs_up_m (by omega)).trans ((zs_up_m (by omega)).trans ((zs_up_m (by omega)).trans (zs_up_m (by omega))))), funext fun j => (zs_up_m (by omega)).trans ((zs_up_m (by omega)).trans ((zs_up_m (by omega)).trans ((zs_up_m (by omega)).trans (zs_up_m (by omega))))), (zs_up_m (by omega)).trans ((zs_up_m (by omega)).trans ((zs_up_m (by omega)).trans ((zs_up_m (by omega)).trans (zs_up_m (by omega))))), (zs_up_m (by omega)).trans ((zs_up_m (by omega)).trans ((zs_up_m (by omega)).trans ((zs_up_m (by omega)).trans (zs_up_m (by omega))))), fun i h8 h65 => (zs_up_m (by omega)).trans ((zs_up_m (by omega)).trans ((zs_up_m (by omega)).trans ((zs_up_m (by omega)).trans (zs_up_m (by omega)))))⟩
def zs_oY (S0 S : zs_S) : Prop := zs_J S ∧ zs_fm S0 S ∧ S.1 84 = S0.1 84 ∧ S.1 80 3 = S0.1 80 3 ∧ S.1 80 8 = S0.1 80 8 ∧ (S0.1 80 8 = nI 0 → S.1 82 = S0.1 82) ∧ (zs_zm S0 → zs_zm S) ∧ zs_im S0 S
theorem zs_oY.e8 {S0 S : zs_S} (h : zs_oY S0 S) : S.1 80 8 = S0.1 80 8 := h.2.2.2.2.1
theorem zs_oY.rf {S : zs_S} (hJ : zs_J S) : zs_oY S S := ⟨hJ, zs_fm.rf, rfl, rfl, rfl, fun _ => rfl, id, fun _ _ => rfl⟩
theorem zs_oY.tr {S S1 S2 : zs_S} (h : zs_oY S S1) (k : zs_oY S1 S2) : zs_oY S S2 := ⟨k.1, h.2.1.tr k.2.1, k.2.2.1.trans h.2.2.1, k.2.2.2.1.trans h.2.2.2.1, k.2.2.2.2.1.trans h.2.2.2.2.1, fun z => (k.2.2.2.2.2.1 (h.2.2.2.2.1.trans z)).trans (h.2.2.2.2.2.1 z), fun z => k.2.2.2.2.2.2.1 (h.2.2.2.2.2.2.1 z), fun i hi => (k.2.2.2.2.2.2.2 i hi).trans (h.2.2.2.2.2.2.2 i hi)⟩
theorem zs_oX.g {S0 S : zs_S} (h : zs_oX S0 S) : zs_oY S0 S := ⟨h.1, h.2.1, h.2.2.1 84 (by decide), h.2.2.2 3 (by omega), h.2.2.2 8 (by omega), fun _ => h.2.2.1 82 (by decide), fun z => (show zs_zm S by unfold zs_zm; rw [h.2.2.1 82 (by decide)]; exact z), fun i _ => congrFun (h.2.2.1 82 (by decide)) i⟩
theorem zs_oY.y {S0 S : zs_S} {B : Nat → Nat} {L : Nat} (h : zs_oY S0 S) (k : zs_tm S0 B L) : zs_tm S B L := ⟨k.1, h.2.2.2.1.trans k.2.1, fun i hi => ⟨(k.2.2 i hi).1, by rw [h.2.2.1]; exact (k.2.2 i hi).2⟩⟩
theorem zs_oY.up {S0 S : zs_S} {a j : Nat} {v : Int32} (h : zs_oY S0 S) (hv : zs_ok a j v) (hp : zs_pm a j = false) (h1 : (84 : Nat) ≠ a) (h2 : ¬ (80 = a ∧ 3 = j)) (h3 : ¬ (80 = a ∧ 8 = j)) (h4 : (82 : Nat) ≠ a) : zs_oY S0 (zs_up S.1 a j v, S.2) := ⟨h.1.up hv, h.2.1.tr (zs_fm.up hp), (zs_uo (f := S.1) (a := a) (j := j) (v := v) (b := 84) h1).trans h.2.2.1, (zs_up_m h2).trans h.2.2.2.1, (zs_up_m h3).trans h.2.2.2.2.1, fun z => (zs_uo (f := S.1) (a := a) (j := j) (v := v) (b := 82) h4).trans (h.2.2.2.2.2.1 z), fun z => ⟨(zs_up_m (fun q => h4 q.1)).trans (h.2.2.2.2.2.2.1 z).1, (zs_up_m (fun q => h4 q.1)).trans (h.2.2.2.2.2.2.1 z).2.1, (zs_up_m (fun q => h4 q.1)).trans (h.2.2.2.2.2.2.1 z).2.2⟩, fun i hi => (zs_up_m (fun q => h4 q.1)).trans (h.2.2.2.2.2.2.2 i hi)⟩
theorem zs_oY.o {S0 S S2 : zs_S} (h : zs_oY S0 S) (hJ : zs_J S2) (hf : zs_fm S S2) (h8 : S2.1 80 = S.1 80) (h4 : S2.1 84 = S.1 84) (h5 : S.1 80 8 = nI 0 → S2.1 82 = S.1 82) (h6 : zs_zm S → zs_zm S2) (h7 : zs_im S S2) : zs_oY S0 S2 := ⟨hJ, h.2.1.tr hf, h4.trans h.2.2.1, (congrFun h8 3).trans h.2.2.2.1, (congrFun h8 8).trans h.2.2.2.2.1, fun z => (h5 (h.2.2.2.2.1.trans z)).trans (h.2.2.2.2.2.1 z), fun z => h6 (h.2.2.2.2.2.2.1 z), fun i hi => (h7 i hi).trans (h.2.2.2.2.2.2.2 i hi)⟩
theorem y_wantsT (B : Nat → Nat) (L : Nat) (S : zs_S) (hT : zs_tm S B L) (hJ : zs_J S) (j lo hi : Nat) (hlo : lo ≤ 99) (hhi : hi ≤ 99) (hmp : zs_mp S B L 0 j) (ht : tp_tn (tx_k B L) (tx_v B L) j lo hi = true) : zs_Ci MX12_wants [.ref 80, .int (nI lo), .int (nI hi)] S (fun x S2 => zs_oX S S2 ∧ zs_mp S2 B L 0 (j + 1) ∧ x = nI (tx_v B L (j + 1))) := (y_wantsE B L S hT hJ 0 j lo hi (by omega) hlo hhi hmp).mono (fun _ _ ⟨x, q1, q2, q3, _⟩ => ⟨x, q1, q2, q3 rfl ht⟩)
theorem y_wantsF (B : Nat → Nat) (L : Nat) (S : zs_S) (hT : zs_tm S B L) (hJ : zs_J S) (j lo hi : Nat) (hlo : lo ≤ 99) (hhi : hi ≤ 99) (hmp : zs_mp S B L 0 j) (ht : ¬ tp_tn (tx_k B L) (tx_v B L) j lo hi = true) : zs_Ci MX12_wants [.ref 80, .int (nI lo), .int (nI hi)] S (fun x S2 => zs_oX S S2 ∧ zs_mp S2 B L 1 (j + 1) ∧ x = nI 0) := (y_wantsE B L S hT hJ 0 j lo hi (by omega) hlo hhi hmp).mono (fun _ _ ⟨x, q1, q2, _, q3, _⟩ => ⟨x, q1, q2, q3 rfl ht⟩)
theorem y_wantsW (B : Nat → Nat) (L : Nat) (S : zs_S) (hT : zs_tm S B L) (hJ : zs_J S) (j lo hi : Nat) (hlo : lo ≤ 99) (hhi : hi ≤ 99) (hmp : zs_mp S B L 1 j) : zs_Ci MX12_wants [.ref 80, .int (nI lo), .int (nI hi)] S (fun x S2 => zs_oX S S2 ∧ zs_mp S2 B L 1 j ∧ x = nI 0) := (y_wantsE B L S hT hJ 1 j lo hi (by omega) hlo hhi hmp).mono (fun _ _ ⟨x, q1, q2, _, _, q3⟩ => ⟨x, q1, q2, q3 (by omega)⟩)
set_option maxRecDepth 100000 in
theorem y_drumE0 (B : Nat → Nat) (L : Nat) (S : zs_S) (hT : zs_tm S B L) (hJ : zs_J S) (dn : Nat) (hdn1 : dn ≤ 1) (hdn : S.1 80 8 = nI dn) (hmp : zs_mp S B L 0 0) (t1 : ¬ tp_tn (tx_k B L) (tx_v B L) 0 2 12 = true) : zs_Cv MX12_drumItem [.ref 80] S (fun S2 => zs_oY S S2 ∧ S2.1 80 9 = S.1 80 9 ∧ zs_mp S2 B L 1 1) := by
  refine zs_C.of (by decide) (Nat.le_of_ble_eq_true rfl) ?_
  show zs_P MX12_drumItem 0 [(0, .ref 80)] [] S _
  refine g_aload_n dX12_drumItem_0 rfl rfl ?_
  refine g_iconst (v := (nI 2)) dX12_drumItem_1 rfl ?_
  refine g_bipush (v := (nI 12)) dX12_drumItem_2 rfl ?_
  refine g_callV (T := TX12) (NN := 19) [] (y_wantsF B L S (((zs_oY.rf hJ)).y hT) hJ 0 2 12 (by omega) (by omega) ⟨hmp.1, hmp.2.1, hmp.2.2⟩ t1) dX12_drumItem_4 kk_X12_drumItem_X12_wants ml_RX12_112 mwX12_wants ewX12_wants (by decide) rfl rfl rfl rfl (Nat.le_of_ble_eq_true rfl) ?_
  rintro _ S1 ⟨_, rfl, oS1, pS1, rfl⟩
  refine g_istore_n (lv' := [(1, .int (nI 0)), (0, .ref 80)]) dX12_drumItem_7 rfl (by decide) rfl ?_
  refine g_aload_n dX12_drumItem_8 rfl rfl ?_
  refine g_iconst (v := (nI 0)) dX12_drumItem_9 rfl ?_
  refine g_iconst (v := (nI 5)) dX12_drumItem_10 rfl ?_
  refine g_callV (T := TX12) (NN := 19) [] (y_wantsW B L S1 (((((zs_oY.rf hJ)).tr oS1.g)).y hT) oS1.1 1 0 5 (by omega) (by omega) ⟨pS1.1, pS1.2.1, pS1.2.2⟩) dX12_drumItem_11 kk_X12_drumItem_X12_wants ml_RX12_112 mwX12_wants ewX12_wants (by decide) rfl rfl rfl rfl (Nat.le_of_ble_eq_true rfl) ?_
  rintro _ S2 ⟨_, rfl, oS2, pS2, rfl⟩
  refine g_istore_n (lv' := [(2, .int (nI 0)), (1, .int (nI 0)), (0, .ref 80)]) dX12_drumItem_14 rfl (by decide) rfl ?_
  refine g_aload_n dX12_drumItem_15 rfl rfl ?_
  refine g_iconst (v := (nI 0)) dX12_drumItem_16 rfl ?_
  refine g_bipush (v := (nI 11)) dX12_drumItem_17 rfl ?_
  refine g_callV (T := TX12) (NN := 19) [] (y_wantsW B L S2 (((((((zs_oY.rf hJ)).tr oS1.g)).tr oS2.g)).y hT) oS2.1 1 0 11 (by omega) (by omega) ⟨pS2.1, pS2.2.1, pS2.2.2⟩) dX12_drumItem_19 kk_X12_drumItem_X12_wants ml_RX12_112 mwX12_wants ewX12_wants (by decide) rfl rfl rfl rfl (Nat.le_of_ble_eq_true rfl) ?_
  rintro _ S3 ⟨_, rfl, oS3, pS3, rfl⟩
  refine g_istore_n (lv' := [(3, .int (nI 0)), (2, .int (nI 0)), (1, .int (nI 0)), (0, .ref 80)]) dX12_drumItem_22 rfl (by decide) rfl ?_
  refine g_aload_n dX12_drumItem_23 rfl rfl ?_
  refine g_iload_n dX12_drumItem_24 rfl rfl ?_
  refine g_putI 10 (C := RX12) (T := TX12) (N := 19) (ty := .int) dX12_drumItem_25 (by decide) rfl rfl (by decide) rfl fl_RX12_115 rfl (by decide +kernel) ⟨rfl, rfl⟩ ?_
  refine g_aload_n dX12_drumItem_28 rfl rfl ?_
  refine g_getV 8 (C := RX12) (T := TX12) (N := 19) (v := (nI dn)) dX12_drumItem_29 (by decide) rfl rfl (by decide) rfl fl_RX12_118 ((zs_up_m (by omega)).trans ((oS3.2.2.2 8 (by omega)).trans ((oS2.2.2.2 8 (by omega)).trans ((oS1.2.2.2 8 (by omega)).trans hdn)))) ?_
  refine g_if_eqN 49 dX12_drumItem_32 (by decide) (by omega) (fun h4 => ?_) (fun h4 => ?_)
  · refine g_ret dX12_drumItem_49 rfl ?_
    exact ⟨rfl, (((((((((zs_oY.rf hJ)).tr oS1.g)).tr oS2.g)).tr oS3.g)).up (zs_okR rfl (by omega) (by omega) (by decide) (by decide)) rfl (by decide) (by omega) (by omega) (by decide)), ((zs_up_m (by omega)).trans ((oS3.2.2.2 9 (by omega)).trans ((oS2.2.2.2 9 (by omega)).trans ((oS1.2.2.2 9 (by omega)).trans rfl)))), ⟨((zs_up_m (by omega)).trans pS3.1), ((zs_up_m (by omega)).trans pS3.2.1), ((zs_up_m (by omega)).trans pS3.2.2)⟩⟩
  · refine g_aload_n dX12_drumItem_35 rfl rfl ?_
    refine g_getV 7 (C := RX12) (T := TX12) (N := 19) (v := (nI 1)) dX12_drumItem_36 (by decide) rfl rfl (by decide) rfl fl_RX12_105 ((zs_up_m (by omega)).trans pS3.1) ?_
    refine g_if_neN 49 dX12_drumItem_39 (by decide) (by omega) (fun _ => ?_) (fun z => absurd z (by omega))
    refine g_ret dX12_drumItem_49 rfl ?_
    exact ⟨rfl, (((((((((zs_oY.rf hJ)).tr oS1.g)).tr oS2.g)).tr oS3.g)).up (zs_okR rfl (by omega) (by omega) (by decide) (by decide)) rfl (by decide) (by omega) (by omega) (by decide)), ((zs_up_m (by omega)).trans ((oS3.2.2.2 9 (by omega)).trans ((oS2.2.2.2 9 (by omega)).trans ((oS1.2.2.2 9 (by omega)).trans rfl)))), ⟨((zs_up_m (by omega)).trans pS3.1), ((zs_up_m (by omega)).trans pS3.2.1), ((zs_up_m (by omega)).trans pS3.2.2)⟩⟩
set_option maxRecDepth 100000 in
theorem y_drumE1 (B : Nat → Nat) (L : Nat) (S : zs_S) (hT : zs_tm S B L) (hJ : zs_J S) (dn : Nat) (hdn1 : dn ≤ 1) (hdn : S.1 80 8 = nI dn) (hmp : zs_mp S B L 0 0) (t1 : tp_tn (tx_k B L) (tx_v B L) 0 2 12 = true) (t2 : ¬ tp_tn (tx_k B L) (tx_v B L) 1 0 5 = true) : zs_Cv MX12_drumItem [.ref 80] S (fun S2 => zs_oY S S2 ∧ S2.1 80 9 = S.1 80 9 ∧ zs_mp S2 B L 1 2) := by
  refine zs_C.of (by decide) (Nat.le_of_ble_eq_true rfl) ?_
  show zs_P MX12_drumItem 0 [(0, .ref 80)] [] S _
  refine g_aload_n dX12_drumItem_0 rfl rfl ?_
  refine g_iconst (v := (nI 2)) dX12_drumItem_1 rfl ?_
  refine g_bipush (v := (nI 12)) dX12_drumItem_2 rfl ?_
  refine g_callV (T := TX12) (NN := 19) [] (y_wantsT B L S (((zs_oY.rf hJ)).y hT) hJ 0 2 12 (by omega) (by omega) ⟨hmp.1, hmp.2.1, hmp.2.2⟩ t1) dX12_drumItem_4 kk_X12_drumItem_X12_wants ml_RX12_112 mwX12_wants ewX12_wants (by decide) rfl rfl rfl rfl (Nat.le_of_ble_eq_true rfl) ?_
  rintro _ S1 ⟨_, rfl, oS1, pS1, rfl⟩
  have vS1 : _ ∧ 2 ≤ tx_v B L 1 ∧ tx_v B L 1 ≤ 12 := tp_tn1 t1
  refine g_istore_n (lv' := [(1, .int (nI (tx_v B L 1))), (0, .ref 80)]) dX12_drumItem_7 rfl (by decide) rfl ?_
  refine g_aload_n dX12_drumItem_8 rfl rfl ?_
  refine g_iconst (v := (nI 0)) dX12_drumItem_9 rfl ?_
  refine g_iconst (v := (nI 5)) dX12_drumItem_10 rfl ?_
  refine g_callV (T := TX12) (NN := 19) [] (y_wantsF B L S1 (((((zs_oY.rf hJ)).tr oS1.g)).y hT) oS1.1 1 0 5 (by omega) (by omega) ⟨pS1.1, pS1.2.1, pS1.2.2⟩ t2) dX12_drumItem_11 kk_X12_drumItem_X12_wants ml_RX12_112 mwX12_wants ewX12_wants (by decide) rfl rfl rfl rfl (Nat.le_of_ble_eq_true rfl) ?_
  rintro _ S2 ⟨_, rfl, oS2, pS2, rfl⟩
  refine g_istore_n (lv' := [(2, .int (nI 0)), (1, .int (nI (tx_v B L 1))), (0, .ref 80)]) dX12_drumItem_14 rfl (by decide) rfl ?_
  refine g_aload_n dX12_drumItem_15 rfl rfl ?_
  refine g_iconst (v := (nI 0)) dX12_drumItem_16 rfl ?_
  refine g_bipush (v := (nI 11)) dX12_drumItem_17 rfl ?_
  refine g_callV (T := TX12) (NN := 19) [] (y_wantsW B L S2 (((((((zs_oY.rf hJ)).tr oS1.g)).tr oS2.g)).y hT) oS2.1 2 0 11 (by omega) (by omega) ⟨pS2.1, pS2.2.1, pS2.2.2⟩) dX12_drumItem_19 kk_X12_drumItem_X12_wants ml_RX12_112 mwX12_wants ewX12_wants (by decide) rfl rfl rfl rfl (Nat.le_of_ble_eq_true rfl) ?_
  rintro _ S3 ⟨_, rfl, oS3, pS3, rfl⟩
  refine g_istore_n (lv' := [(3, .int (nI 0)), (2, .int (nI 0)), (1, .int (nI (tx_v B L 1))), (0, .ref 80)]) dX12_drumItem_22 rfl (by decide) rfl ?_
  refine g_aload_n dX12_drumItem_23 rfl rfl ?_
  refine g_iload_n dX12_drumItem_24 rfl rfl ?_
  refine g_putI 10 (C := RX12) (T := TX12) (N := 19) (ty := .int) dX12_drumItem_25 (by decide) rfl rfl (by decide) rfl fl_RX12_115 rfl (by decide +kernel) ⟨rfl, rfl⟩ ?_
  refine g_aload_n dX12_drumItem_28 rfl rfl ?_
  refine g_getV 8 (C := RX12) (T := TX12) (N := 19) (v := (nI dn)) dX12_drumItem_29 (by decide) rfl rfl (by decide) rfl fl_RX12_118 ((zs_up_m (by omega)).trans ((oS3.2.2.2 8 (by omega)).trans ((oS2.2.2.2 8 (by omega)).trans ((oS1.2.2.2 8 (by omega)).trans hdn)))) ?_
  refine g_if_eqN 49 dX12_drumItem_32 (by decide) (by omega) (fun h4 => ?_) (fun h4 => ?_)
  · refine g_ret dX12_drumItem_49 rfl ?_
    exact ⟨rfl, (((((((((zs_oY.rf hJ)).tr oS1.g)).tr oS2.g)).tr oS3.g)).up (zs_okR rfl (by omega) (by omega) (by decide) (by decide)) rfl (by decide) (by omega) (by omega) (by decide)), ((zs_up_m (by omega)).trans ((oS3.2.2.2 9 (by omega)).trans ((oS2.2.2.2 9 (by omega)).trans ((oS1.2.2.2 9 (by omega)).trans rfl)))), ⟨((zs_up_m (by omega)).trans pS3.1), ((zs_up_m (by omega)).trans pS3.2.1), ((zs_up_m (by omega)).trans pS3.2.2)⟩⟩
  · refine g_aload_n dX12_drumItem_35 rfl rfl ?_
    refine g_getV 7 (C := RX12) (T := TX12) (N := 19) (v := (nI 1)) dX12_drumItem_36 (by decide) rfl rfl (by decide) rfl fl_RX12_105 ((zs_up_m (by omega)).trans pS3.1) ?_
    refine g_if_neN 49 dX12_drumItem_39 (by decide) (by omega) (fun _ => ?_) (fun z => absurd z (by omega))
    refine g_ret dX12_drumItem_49 rfl ?_
    exact ⟨rfl, (((((((((zs_oY.rf hJ)).tr oS1.g)).tr oS2.g)).tr oS3.g)).up (zs_okR rfl (by omega) (by omega) (by decide) (by decide)) rfl (by decide) (by omega) (by omega) (by decide)), ((zs_up_m (by omega)).trans ((oS3.2.2.2 9 (by omega)).trans ((oS2.2.2.2 9 (by omega)).trans ((oS1.2.2.2 9 (by omega)).trans rfl)))), ⟨((zs_up_m (by omega)).trans pS3.1), ((zs_up_m (by omega)).trans pS3.2.1), ((zs_up_m (by omega)).trans pS3.2.2)⟩⟩
set_option maxRecDepth 100000 in
theorem y_drumE2 (B : Nat → Nat) (L : Nat) (S : zs_S) (hT : zs_tm S B L) (hJ : zs_J S) (dn : Nat) (hdn1 : dn ≤ 1) (hdn : S.1 80 8 = nI dn) (hmp : zs_mp S B L 0 0) (t1 : tp_tn (tx_k B L) (tx_v B L) 0 2 12 = true) (t2 : tp_tn (tx_k B L) (tx_v B L) 1 0 5 = true) (t3 : ¬ tp_tn (tx_k B L) (tx_v B L) 2 0 11 = true) : zs_Cv MX12_drumItem [.ref 80] S (fun S2 => zs_oY S S2 ∧ S2.1 80 9 = S.1 80 9 ∧ zs_mp S2 B L 1 3) := by
  refine zs_C.of (by decide) (Nat.le_of_ble_eq_true rfl) ?_
  show zs_P MX12_drumItem 0 [(0, .ref 80)] [] S _
  refine g_aload_n dX12_drumItem_0 rfl rfl ?_
  refine g_iconst (v := (nI 2)) dX12_drumItem_1 rfl ?_
  refine g_bipush (v := (nI 12)) dX12_drumItem_2 rfl ?_
  refine g_callV (T := TX12) (NN := 19) [] (y_wantsT B L S (((zs_oY.rf hJ)).y hT) hJ 0 2 12 (by omega) (by omega) ⟨hmp.1, hmp.2.1, hmp.2.2⟩ t1) dX12_drumItem_4 kk_X12_drumItem_X12_wants ml_RX12_112 mwX12_wants ewX12_wants (by decide) rfl rfl rfl rfl (Nat.le_of_ble_eq_true rfl) ?_
  rintro _ S1 ⟨_, rfl, oS1, pS1, rfl⟩
  have vS1 : _ ∧ 2 ≤ tx_v B L 1 ∧ tx_v B L 1 ≤ 12 := tp_tn1 t1
  refine g_istore_n (lv' := [(1, .int (nI (tx_v B L 1))), (0, .ref 80)]) dX12_drumItem_7 rfl (by decide) rfl ?_
  refine g_aload_n dX12_drumItem_8 rfl rfl ?_
  refine g_iconst (v := (nI 0)) dX12_drumItem_9 rfl ?_
  refine g_iconst (v := (nI 5)) dX12_drumItem_10 rfl ?_
  refine g_callV (T := TX12) (NN := 19) [] (y_wantsT B L S1 (((((zs_oY.rf hJ)).tr oS1.g)).y hT) oS1.1 1 0 5 (by omega) (by omega) ⟨pS1.1, pS1.2.1, pS1.2.2⟩ t2) dX12_drumItem_11 kk_X12_drumItem_X12_wants ml_RX12_112 mwX12_wants ewX12_wants (by decide) rfl rfl rfl rfl (Nat.le_of_ble_eq_true rfl) ?_
  rintro _ S2 ⟨_, rfl, oS2, pS2, rfl⟩
  have vS2 : _ ∧ 0 ≤ tx_v B L 2 ∧ tx_v B L 2 ≤ 5 := tp_tn1 t2
  refine g_istore_n (lv' := [(2, .int (nI (tx_v B L 2))), (1, .int (nI (tx_v B L 1))), (0, .ref 80)]) dX12_drumItem_14 rfl (by decide) rfl ?_
  refine g_aload_n dX12_drumItem_15 rfl rfl ?_
  refine g_iconst (v := (nI 0)) dX12_drumItem_16 rfl ?_
  refine g_bipush (v := (nI 11)) dX12_drumItem_17 rfl ?_
  refine g_callV (T := TX12) (NN := 19) [] (y_wantsF B L S2 (((((((zs_oY.rf hJ)).tr oS1.g)).tr oS2.g)).y hT) oS2.1 2 0 11 (by omega) (by omega) ⟨pS2.1, pS2.2.1, pS2.2.2⟩ t3) dX12_drumItem_19 kk_X12_drumItem_X12_wants ml_RX12_112 mwX12_wants ewX12_wants (by decide) rfl rfl rfl rfl (Nat.le_of_ble_eq_true rfl) ?_
  rintro _ S3 ⟨_, rfl, oS3, pS3, rfl⟩
  refine g_istore_n (lv' := [(3, .int (nI 0)), (2, .int (nI (tx_v B L 2))), (1, .int (nI (tx_v B L 1))), (0, .ref 80)]) dX12_drumItem_22 rfl (by decide) rfl ?_
  refine g_aload_n dX12_drumItem_23 rfl rfl ?_
  refine g_iload_n dX12_drumItem_24 rfl rfl ?_
  refine g_putI 10 (C := RX12) (T := TX12) (N := 19) (ty := .int) dX12_drumItem_25 (by decide) rfl rfl (by decide) rfl fl_RX12_115 rfl (by decide +kernel) ⟨rfl, rfl⟩ ?_
  refine g_aload_n dX12_drumItem_28 rfl rfl ?_
  refine g_getV 8 (C := RX12) (T := TX12) (N := 19) (v := (nI dn)) dX12_drumItem_29 (by decide) rfl rfl (by decide) rfl fl_RX12_118 ((zs_up_m (by omega)).trans ((oS3.2.2.2 8 (by omega)).trans ((oS2.2.2.2 8 (by omega)).trans ((oS1.2.2.2 8 (by omega)).trans hdn)))) ?_
  refine g_if_eqN 49 dX12_drumItem_32 (by decide) (by omega) (fun h4 => ?_) (fun h4 => ?_)
  · refine g_ret dX12_drumItem_49 rfl ?_
    exact ⟨rfl, (((((((((zs_oY.rf hJ)).tr oS1.g)).tr oS2.g)).tr oS3.g)).up (zs_okR rfl (by omega) (by omega) (by decide) (by decide)) rfl (by decide) (by omega) (by omega) (by decide)), ((zs_up_m (by omega)).trans ((oS3.2.2.2 9 (by omega)).trans ((oS2.2.2.2 9 (by omega)).trans ((oS1.2.2.2 9 (by omega)).trans rfl)))), ⟨((zs_up_m (by omega)).trans pS3.1), ((zs_up_m (by omega)).trans pS3.2.1), ((zs_up_m (by omega)).trans pS3.2.2)⟩⟩
  · refine g_aload_n dX12_drumItem_35 rfl rfl ?_
    refine g_getV 7 (C := RX12) (T := TX12) (N := 19) (v := (nI 1)) dX12_drumItem_36 (by decide) rfl rfl (by decide) rfl fl_RX12_105 ((zs_up_m (by omega)).trans pS3.1) ?_
    refine g_if_neN 49 dX12_drumItem_39 (by decide) (by omega) (fun _ => ?_) (fun z => absurd z (by omega))
    refine g_ret dX12_drumItem_49 rfl ?_
    exact ⟨rfl, (((((((((zs_oY.rf hJ)).tr oS1.g)).tr oS2.g)).tr oS3.g)).up (zs_okR rfl (by omega) (by omega) (by decide) (by decide)) rfl (by decide) (by omega) (by omega) (by decide)), ((zs_up_m (by omega)).trans ((oS3.2.2.2 9 (by omega)).trans ((oS2.2.2.2 9 (by omega)).trans ((oS1.2.2.2 9 (by omega)).trans rfl)))), ⟨((zs_up_m (by omega)).trans pS3.1), ((zs_up_m (by omega)).trans pS3.2.1), ((zs_up_m (by omega)).trans pS3.2.2)⟩⟩
set_option maxRecDepth 100000 in
theorem y_drumE3 (B : Nat → Nat) (L : Nat) (S : zs_S) (hT : zs_tm S B L) (hJ : zs_J S) (dn : Nat) (hdn1 : dn ≤ 1) (hdn : S.1 80 8 = nI dn) (hmp : zs_mp S B L 0 0) (t1 : tp_tn (tx_k B L) (tx_v B L) 0 2 12 = true) (t2 : tp_tn (tx_k B L) (tx_v B L) 1 0 5 = true) (t3 : tp_tn (tx_k B L) (tx_v B L) 2 0 11 = true) : zs_Cv MX12_drumItem [.ref 80] S (fun S2 => zs_oY S S2 ∧ S2.1 80 9 = S.1 80 9 ∧ zs_mp S2 B L 0 3 ∧ S2.1 80 10 = nI (tx_v B L 1) ∧ (dn ≠ 0 → S2.1 82 2 = nI 0 ∧ S2.1 82 0 = nI (tx_v B L 1) ∧ S2.1 82 1 = nI (tx_v B L 2) ∧ zs_zm S2)) := by
  refine zs_C.of (by decide) (Nat.le_of_ble_eq_true rfl) ?_
  show zs_P MX12_drumItem 0 [(0, .ref 80)] [] S _
  refine g_aload_n dX12_drumItem_0 rfl rfl ?_
  refine g_iconst (v := (nI 2)) dX12_drumItem_1 rfl ?_
  refine g_bipush (v := (nI 12)) dX12_drumItem_2 rfl ?_
  refine g_callV (T := TX12) (NN := 19) [] (y_wantsT B L S (((zs_oY.rf hJ)).y hT) hJ 0 2 12 (by omega) (by omega) ⟨hmp.1, hmp.2.1, hmp.2.2⟩ t1) dX12_drumItem_4 kk_X12_drumItem_X12_wants ml_RX12_112 mwX12_wants ewX12_wants (by decide) rfl rfl rfl rfl (Nat.le_of_ble_eq_true rfl) ?_
  rintro _ S1 ⟨_, rfl, oS1, pS1, rfl⟩
  have vS1 : _ ∧ 2 ≤ tx_v B L 1 ∧ tx_v B L 1 ≤ 12 := tp_tn1 t1
  refine g_istore_n (lv' := [(1, .int (nI (tx_v B L 1))), (0, .ref 80)]) dX12_drumItem_7 rfl (by decide) rfl ?_
  refine g_aload_n dX12_drumItem_8 rfl rfl ?_
  refine g_iconst (v := (nI 0)) dX12_drumItem_9 rfl ?_
  refine g_iconst (v := (nI 5)) dX12_drumItem_10 rfl ?_
  refine g_callV (T := TX12) (NN := 19) [] (y_wantsT B L S1 (((((zs_oY.rf hJ)).tr oS1.g)).y hT) oS1.1 1 0 5 (by omega) (by omega) ⟨pS1.1, pS1.2.1, pS1.2.2⟩ t2) dX12_drumItem_11 kk_X12_drumItem_X12_wants ml_RX12_112 mwX12_wants ewX12_wants (by decide) rfl rfl rfl rfl (Nat.le_of_ble_eq_true rfl) ?_
  rintro _ S2 ⟨_, rfl, oS2, pS2, rfl⟩
  have vS2 : _ ∧ 0 ≤ tx_v B L 2 ∧ tx_v B L 2 ≤ 5 := tp_tn1 t2
  refine g_istore_n (lv' := [(2, .int (nI (tx_v B L 2))), (1, .int (nI (tx_v B L 1))), (0, .ref 80)]) dX12_drumItem_14 rfl (by decide) rfl ?_
  refine g_aload_n dX12_drumItem_15 rfl rfl ?_
  refine g_iconst (v := (nI 0)) dX12_drumItem_16 rfl ?_
  refine g_bipush (v := (nI 11)) dX12_drumItem_17 rfl ?_
  refine g_callV (T := TX12) (NN := 19) [] (y_wantsT B L S2 (((((((zs_oY.rf hJ)).tr oS1.g)).tr oS2.g)).y hT) oS2.1 2 0 11 (by omega) (by omega) ⟨pS2.1, pS2.2.1, pS2.2.2⟩ t3) dX12_drumItem_19 kk_X12_drumItem_X12_wants ml_RX12_112 mwX12_wants ewX12_wants (by decide) rfl rfl rfl rfl (Nat.le_of_ble_eq_true rfl) ?_
  rintro _ S3 ⟨_, rfl, oS3, pS3, rfl⟩
  have vS3 : _ ∧ 0 ≤ tx_v B L 3 ∧ tx_v B L 3 ≤ 11 := tp_tn1 t3
  refine g_istore_n (lv' := [(3, .int (nI (tx_v B L 3))), (2, .int (nI (tx_v B L 2))), (1, .int (nI (tx_v B L 1))), (0, .ref 80)]) dX12_drumItem_22 rfl (by decide) rfl ?_
  refine g_aload_n dX12_drumItem_23 rfl rfl ?_
  refine g_iload_n dX12_drumItem_24 rfl rfl ?_
  refine g_putI 10 (C := RX12) (T := TX12) (N := 19) (ty := .int) dX12_drumItem_25 (by decide) rfl rfl (by decide) rfl fl_RX12_115 rfl (by decide +kernel) ⟨rfl, rfl⟩ ?_
  refine g_aload_n dX12_drumItem_28 rfl rfl ?_
  refine g_getV 8 (C := RX12) (T := TX12) (N := 19) (v := (nI dn)) dX12_drumItem_29 (by decide) rfl rfl (by decide) rfl fl_RX12_118 ((zs_up_m (by omega)).trans ((oS3.2.2.2 8 (by omega)).trans ((oS2.2.2.2 8 (by omega)).trans ((oS1.2.2.2 8 (by omega)).trans hdn)))) ?_
  refine g_if_eqN 49 dX12_drumItem_32 (by decide) (by omega) (fun h4 => ?_) (fun h4 => ?_)
  · refine g_ret dX12_drumItem_49 rfl ?_
    exact ⟨rfl, (((((((((zs_oY.rf hJ)).tr oS1.g)).tr oS2.g)).tr oS3.g)).up (zs_okR rfl (by omega) (by omega) (by decide) (by decide)) rfl (by decide) (by omega) (by omega) (by decide)), ((zs_up_m (by omega)).trans ((oS3.2.2.2 9 (by omega)).trans ((oS2.2.2.2 9 (by omega)).trans ((oS1.2.2.2 9 (by omega)).trans rfl)))), ⟨((zs_up_m (by omega)).trans pS3.1), ((zs_up_m (by omega)).trans pS3.2.1), ((zs_up_m (by omega)).trans pS3.2.2)⟩, zs_up_q, fun z => absurd z (by omega)⟩
  · refine g_aload_n dX12_drumItem_35 rfl rfl ?_
    refine g_getV 7 (C := RX12) (T := TX12) (N := 19) (v := (nI 0)) dX12_drumItem_36 (by decide) rfl rfl (by decide) rfl fl_RX12_105 ((zs_up_m (by omega)).trans pS3.1) ?_
    refine g_if_neN 49 dX12_drumItem_39 (by decide) (by omega) (fun z => absurd z (by omega)) (fun _ => ?_)
    refine g_aload_n dX12_drumItem_42 rfl rfl ?_
    refine g_iload_n dX12_drumItem_43 rfl rfl ?_
    refine g_iload_n dX12_drumItem_44 rfl rfl ?_
    refine g_iload_n dX12_drumItem_45 rfl rfl ?_
    refine g_callV (T := TX12) (NN := 19) [] (y_beginsE (tx_v B L 1) (tx_v B L 3) (nI (tx_v B L 2)) (by omega) (by omega) (by omega) (zs_up S3.1 80 10 (nI (tx_v B L 1)), S3.2) ((oS3.1).up (zs_okR rfl (by omega) (by omega) (by decide) (by decide)))) dX12_drumItem_46 kk_X12_drumItem_X12_begins ml_RX12_42 mwX12_begins ewX12_begins (by decide) rfl rfl rfl rfl (Nat.le_of_ble_eq_true rfl) ?_
    rintro _ S5 ⟨rfl, bS5⟩
    refine g_ret dX12_drumItem_49 rfl ?_
    exact ⟨rfl, (((((((((((zs_oY.rf hJ)).tr oS1.g)).tr oS2.g)).tr oS3.g)).up (zs_okR rfl (by omega) (by omega) (by decide) (by decide)) rfl (by decide) (by omega) (by omega) (by decide))).o bS5.1 bS5.2.1 bS5.2.2.2.2.2.1 bS5.2.2.2.2.2.2.1 (fun z => absurd ((nI_eq (by omega) (by omega)).mp (Eq.trans (Eq.symm ((zs_up_m (by omega)).trans ((oS3.2.2.2 8 (by omega)).trans ((oS2.2.2.2 8 (by omega)).trans ((oS1.2.2.2 8 (by omega)).trans hdn))))) z)) (by omega)) (fun _ => bS5.2.2.2.2.2.2.2.1) bS5.2.2.2.2.2.2.2.2), ((congrFun bS5.2.2.2.2.2.1 9).trans ((zs_up_m (by omega)).trans ((oS3.2.2.2 9 (by omega)).trans ((oS2.2.2.2 9 (by omega)).trans ((oS1.2.2.2 9 (by omega)).trans rfl))))), ⟨((congrFun bS5.2.2.2.2.2.1 7).trans ((zs_up_m (by omega)).trans pS3.1)), ((congrFun bS5.2.2.2.2.2.1 5).trans ((zs_up_m (by omega)).trans pS3.2.1)), ((congrFun bS5.2.2.2.2.2.1 6).trans ((zs_up_m (by omega)).trans pS3.2.2))⟩, ((congrFun bS5.2.2.2.2.2.1 10).trans zs_up_q), fun _ => ⟨bS5.2.2.1, bS5.2.2.2.1, bS5.2.2.2.2.1, bS5.2.2.2.2.2.2.2.1⟩⟩
