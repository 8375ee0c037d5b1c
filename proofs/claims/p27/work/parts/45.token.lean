/-! THE MODEL'S READING -/
def zs_oT (S0 S : zs_S) : Prop := zs_J S ∧ zs_fm S0 S ∧ (∀ b, b ≠ 80 → S.1 b = S0.1 b) ∧ ∀ j, (j = 3 ∨ j = 7 ∨ j = 8 ∨ j = 9 ∨ j = 10) → S.1 80 j = S0.1 80 j
theorem zs_oT.rf {S : zs_S} (hJ : zs_J S) : zs_oT S S := ⟨hJ, zs_fm.rf, fun _ _ => rfl, fun _ _ => rfl⟩
theorem zs_oT.tr {S S1 S2 : zs_S} (h : zs_oT S S1) (k : zs_oT S1 S2) : zs_oT S S2 := ⟨k.1, h.2.1.tr k.2.1, fun b hb => (k.2.2.1 b hb).trans (h.2.2.1 b hb), fun j hj => (k.2.2.2 j hj).trans (h.2.2.2 j hj)⟩
theorem zs_oT.up {S0 S : zs_S} {j : Nat} {v : Int32} (h : zs_oT S0 S) (hj : j = 5 ∨ j = 6 ∨ j = 11) (hv : zs_ok 80 j v) : zs_oT S0 (zs_up S.1 80 j v, S.2) := ⟨h.1.up hv, h.2.1.tr (zs_fm.up (by rcases hj with rfl | rfl | rfl <;> rfl)), fun b hb => (zs_uo (f := S.1) (a := 80) (j := j) (v := v) (b := b) hb).trans (h.2.2.1 b hb), fun i hi => (zs_up_m (by omega)).trans (h.2.2.2 i hi)⟩
theorem z_byteAt (q L : Nat) (S : zs_S) (hL : S.1 80 3 = nI L) (hv8 : L ≤ 150) (h9 : q ≤ 150) : zs_Ci MX12_byteAt [.ref 80, .int (nI q)] S (fun x S2 => ((q < L ∧ x = S.1 84 q) ∨ (L ≤ q ∧ x = -1)) ∧ S = S2) := by
  refine zs_C.of (by decide) (Nat.le_of_ble_eq_true rfl) ?_
  show zs_P MX12_byteAt 0 [(0, .ref 80), (1, .int (nI q))] [] S _
  refine g_iload_n dX12_byteAt_0 rfl rfl ?_
  refine g_aload_n dX12_byteAt_1 rfl rfl ?_
  refine g_getV 3 (C := RX12) (T := TX12) (N := 19) (v := (nI L)) dX12_byteAt_2 (by decide) rfl rfl (by decide) rfl fl_RX12_75 hL ?_
  refine g_ic_geN 17 dX12_byteAt_5 (by decide) (by omega) (by omega) (fun h1 => ?_) (fun h1 => ?_)
  · refine g_iconst (v := (-1)) dX12_byteAt_17 rfl ?_
    refine g_iret dX12_byteAt_18 rfl rfl ?_
    exact ⟨_, rfl, Or.inr ⟨by omega, rfl⟩, rfl⟩
  · refine g_aload_n dX12_byteAt_8 rfl rfl ?_
    refine g_getR 4 (84) (C := RX12) (T := TX12) (N := 19) dX12_byteAt_9 (by decide) rfl rfl (by decide) rfl fl_RX12_19 ?_
    refine g_iload_n dX12_byteAt_12 rfl rfl ?_
    refine g_bald dX12_byteAt_13 (by decide) rfl (vp_in_nI (by omega) (by omega)) ?_
    refine g_goto 18 dX12_byteAt_14 (by decide) ?_
    refine g_iret dX12_byteAt_18 rfl rfl ?_
    exact ⟨_, rfl, Or.inl ⟨by omega, by rw [nI_clamp (by omega)]⟩, rfl⟩
