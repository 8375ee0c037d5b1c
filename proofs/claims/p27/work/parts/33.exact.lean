/-- what is guarded, but the flags and the length: the model's cells -/
def zs_fq (S S2 : zs_S) : Prop := ∀ b i, 80 ≤ b → S2.1 b i = S.1 b i ∧ S2.2 b i = S.2 b i
theorem zs_fr.q {S S2 : zs_S} (h : zs_fr S S2) : zs_fq S S2 := fun b i hb => h b i (by
  unfold zs_pr
  rw [show Nat.ble 80 b = true from Nat.ble_eq_true_of_le hb]; rfl)
theorem zs_fr.k {S S2 : zs_S} (h : zs_fr S S2) {k : Nat} (hk : k < 2) : S2.1 0 (3 + k) = S.1 0 (3 + k) := by
  obtain rfl | rfl : k = 0 ∨ k = 1 := by omega
  · exact (h 0 3 rfl).1
  · exact (h 0 4 rfl).1
theorem zs_fr.l {S S2 : zs_S} (h : zs_fr S S2) : S2.1 43 1 = S.1 43 1 := (h 43 1 rfl).1
theorem zs_rfB (S : zs_S) (v : Int32) : zs_fr S (zs_up S.1 0 8 v, S.2) := zs_fr.up rfl
theorem zs_rfN (S : zs_S) (v : Int32) : zs_fr S (zs_up S.1 0 9 v, S.2) := zs_fr.up rfl
theorem zs_rfF (S : zs_S) (v : Int32) : zs_fr S (zs_up S.1 0 10 v, S.2) := zs_fr.up rfl
set_option maxRecDepth 100000 in
theorem c_isFull (S : zs_S) (m : Nat) (hm : S.1 43 1 = nI m) (h : m ≤ 150) : zs_Ci MX10_isFull [.ref 43] S (fun x S2 => x = zs_b (150 ≤ m) ∧ S = S2) := by
  refine zs_C.of (by decide) (Nat.le_of_ble_eq_true rfl) ?_
  show zs_P MX10_isFull 0 [(0, .ref 43)] [] S _
  refine g_aload_n dX10_isFull_0 rfl rfl ?_
  refine g_getV 1 (C := RX10) (T := TX10) (N := 8) (v := (nI m)) dX10_isFull_1 (by decide) rfl rfl (by decide) rfl fl_RX10_34 hm ?_
  refine g_sipush (v := (nI 150)) dX10_isFull_4 rfl ?_
  refine g_ic_ltN 14 dX10_isFull_7 (by decide) (by omega) (by omega) (fun h1 => ?_) (fun h1 => ?_)
  · refine g_iconst (v := (nI 0)) dX10_isFull_14 rfl ?_
    refine g_iret dX10_isFull_15 rfl rfl ?_
    exact ⟨_, rfl, (zs_bf (by omega)).symm, rfl⟩
  · refine g_iconst (v := (nI 1)) dX10_isFull_10 rfl ?_
    refine g_goto 15 dX10_isFull_11 (by decide) ?_
    refine g_iret dX10_isFull_15 rfl rfl ?_
    exact ⟨_, rfl, (zs_bt (by omega)).symm, rfl⟩
set_option maxRecDepth 100000 in
theorem c_empty (S : zs_S) : zs_Ci MX10_empty [.ref 43] S (fun x S2 => x = S.1 43 1 ∧ S2 = (zs_up S.1 43 1 (nI 0), S.2)) := by
  refine zs_C.of (by decide) (Nat.le_of_ble_eq_true rfl) ?_
  show zs_P MX10_empty 0 [(0, .ref 43)] [] S _
  refine g_aload_n dX10_empty_0 rfl rfl ?_
  refine g_getI 1 (C := RX10) (T := TX10) (N := 8) dX10_empty_1 (by decide) rfl rfl (by decide) rfl fl_RX10_34 ?_
  refine g_istore_n (lv' := [(1, .int (S.1 43 1)), (0, .ref 43)]) dX10_empty_4 rfl (by decide) rfl ?_
  refine g_aload_n dX10_empty_5 rfl rfl ?_
  refine g_iconst (v := (nI 0)) dX10_empty_6 rfl ?_
  refine g_putI 1 (C := RX10) (T := TX10) (N := 8) (ty := .int) dX10_empty_7 (by decide) rfl rfl (by decide) rfl fl_RX10_34 rfl (by decide +kernel) ⟨rfl, rfl⟩ ?_
  refine g_iload_n dX10_empty_10 rfl rfl ?_
  refine g_iret dX10_empty_11 rfl rfl ?_
  exact ⟨_, rfl, rfl, rfl⟩
