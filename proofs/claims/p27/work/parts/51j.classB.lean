theorem zs_fr.t {S S2 : zs_S} (h : zs_fr S S2) : S2.1 44 = S.1 44 := funext fun i => (h 44 i rfl).1
theorem zs_o4.f {S S2 : zs_S} (h : zs_o4 S S2) : zs_fr S S2 := fun b i hb => by
  simp only [zs_pr, Bool.or_eq_true, Bool.and_eq_true, Nat.ble_eq, Nat.beq_eq] at hb
  rcases hb with ((h1 | ⟨rfl, h2⟩) | ⟨rfl, rfl⟩) | rfl
  · exact ⟨by rw [h.1 b (Or.inr (by omega)) (by omega)], by rw [h.2.2.1 b (Or.inr (by omega))]⟩
  · exact ⟨by rw [h.1 0 (Or.inl (by omega)) (by omega)], by rw [h.2.2.1 0 (Or.inl (by omega))]⟩
  · exact ⟨h.2.1 1 (by omega), by rw [h.2.2.1 43 (Or.inl (by omega))]⟩
  · exact ⟨by rw [h.1 44 (Or.inl (by omega)) (by omega)], by rw [h.2.2.1 44 (Or.inl (by omega))]⟩
set_option maxRecDepth 100000 in
theorem c_addB (S : zs_S) (m : Nat) (c : Int32) (hm1 : m < 150) (hm : S.1 43 1 = nI m) : zs_Ci MX10_add [.ref 43, .int c] S (fun x S2 => x = nI (m + 1) ∧ S2.1 43 1 = nI (m + 1) ∧ (∀ b i, b ≠ 43 → b ≠ 44 → S2.1 b i = S.1 b i ∧ S2.2 b i = S.2 b i) ∧ S2.1 44 m = c ∧ ∀ i, i ≠ m → S2.1 44 i = S.1 44 i) := by
  refine zs_C.of (by decide) (Nat.le_of_ble_eq_true rfl) ?_
  show zs_P MX10_add 0 [(0, .ref 43), (1, .int c)] [] S _
  refine g_aload_n dX10_add_0 rfl rfl ?_
  refine g_getR 0 (44) (C := RX10) (T := TX10) (N := 8) dX10_add_1 (by decide) rfl rfl (by decide) rfl fl_RX10_9 ?_
  refine g_aload_n dX10_add_4 rfl rfl ?_
  refine g_getV 1 (C := RX10) (T := TX10) (N := 8) (v := (nI m)) dX10_add_5 (by decide) rfl rfl (by decide) rfl fl_RX10_34 hm ?_
  refine g_iload_n dX10_add_8 rfl rfl ?_
  refine g_callN [.ref 44, .int (nI m), .int c] [] (x_putN S 44 150 m c (by decide) rfl (by decide) hm1) dX10_add_9 kk_X10_add_X11_put nl_RX10_38 swX11_put rfl rfl (Nat.le_of_ble_eq_true rfl) ?_
  rintro _ _ ⟨rfl, rfl⟩
  refine g_aload_n dX10_add_12 rfl rfl ?_
  refine g_dup dX10_add_13 rfl ?_
  refine g_getV 1 (C := RX10) (T := TX10) (N := 8) (v := (nI m)) dX10_add_14 (by decide) rfl rfl (by decide) rfl fl_RX10_34 ((zs_up_m (by omega)).trans hm) ?_
  refine g_iconst (v := (nI 1)) dX10_add_17 rfl ?_
  refine g_iaddN dX10_add_18 ?_
  refine g_putI 1 (C := RX10) (T := TX10) (N := 8) (ty := .int) dX10_add_19 (by decide) rfl rfl (by decide) rfl fl_RX10_34 rfl (by decide +kernel) ⟨rfl, rfl⟩ ?_
  refine g_aload_n dX10_add_22 rfl rfl ?_
  refine g_getV 1 (C := RX10) (T := TX10) (N := 8) (v := (nI (m + 1))) dX10_add_23 (by decide) rfl rfl (by decide) rfl fl_RX10_34 zs_up_q ?_
  refine g_iret dX10_add_26 rfl rfl ?_
  exact ⟨_, rfl, rfl, zs_up_q, fun b i h1 h2 => ⟨(zs_up_m (by omega)).trans (zs_up_m (by omega)), rfl⟩, (zs_up_m (by omega)).trans zs_up_q, fun i hi => (zs_up_m (by omega)).trans (zs_up_m (by omega))⟩
