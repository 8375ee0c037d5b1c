theorem z_has (S : zs_S) (q j : Int32) : zs_Ci MX12_has [.int q, .int j] S (fun x S2 => x = zs_b ((q >>> (j &&& 31)) &&& 1 = 1) ∧ S = S2) := by
  refine zs_C.of (by decide) (Nat.le_of_ble_eq_true rfl) ?_
  show zs_P MX12_has 0 [(0, .int q), (1, .int j)] [] S _
  refine g_iload_n dX12_has_0 rfl rfl ?_
  refine g_iload_n dX12_has_1 rfl rfl ?_
  refine g_ishr dX12_has_2 ?_
  refine g_iconst (v := (nI 1)) dX12_has_3 rfl ?_
  refine g_iand dX12_has_4 ?_
  refine g_iconst (v := (nI 1)) dX12_has_5 rfl ?_
  refine g_ic_ne 13 dX12_has_6 (by decide) (fun h1 => ?_) (fun h1 => ?_)
  · refine g_iconst (v := (nI 0)) dX12_has_13 rfl ?_
    refine g_iret dX12_has_14 rfl rfl ?_
    exact ⟨_, rfl, (zs_bf h1).symm, rfl⟩
  · refine g_iconst (v := (nI 1)) dX12_has_9 rfl ?_
    refine g_goto 14 dX12_has_10 (by decide) ?_
    refine g_iret dX12_has_14 rfl rfl ?_
    exact ⟨_, rfl, (zs_bt h1).symm, rfl⟩
theorem zs_hb0 : ∀ j, j < 6 → ¬ ((nI 0 >>> (nI j &&& 31)) &&& 1 = 1) := by decide
theorem zs_hb1 : ∀ n, n < 7 → ∀ j, j < n → ((nI (2 ^ n - 1) >>> (nI j &&& 31)) &&& 1 = 1) := by decide
theorem zs_fc {q n c j : Nat} (hn : n ≤ 6) (hj : j < n) (h : nI q >>> (nI j &&& 31) &&& 1 = 1) (z : (c < 10 ∧ q = 0) ∨ (c = 10 ∧ q = 2 ^ n - 1)) : 1 ≤ c := by
  rcases z with ⟨z1, z2⟩ | ⟨z1, z2⟩
  · rw [z2] at h; exact absurd h (zs_hb0 j (by omega))
  · omega
theorem zs_fd {q n c j : Nat} (hn : n ≤ 6) (hj : j < n) (h : ¬ (nI q >>> (nI j &&& 31) &&& 1 = 1)) (z : (c < 10 ∧ q = 0) ∨ (c = 10 ∧ q = 2 ^ n - 1)) : 1 ≤ 10 - c := by
  rcases z with ⟨z1, z2⟩ | ⟨z1, z2⟩
  · omega
  · rw [z2] at h; exact absurd (zs_hb1 n (by omega) j hj) h
theorem zs_sh1 : ∀ n, n < 7 → (nI 1 <<< (nI n &&& 31)) = nI (2 ^ n) := by decide
theorem zs_p2 : ∀ n, n < 7 → 1 ≤ 2 ^ n ∧ 2 ^ n ≤ 64 := by decide
theorem zs_p10 : ∀ n, n < 7 → 10 ^ n ≤ 1000000 := by decide
theorem zs_lcz {r : Nat} (h : 0 < r) (hr : r < 2 ^ 31) : ¬ lg_cmp (lN r) 0 = 0 := fun z => by
  have h1 : 0 < lg_cmp (lN r) 0 := (lg_cmp_gt _ _).mpr ((lN_lt (a := 0) (by decide) hr).mpr h)
  rw [z] at h1
  exact absurd h1 (by decide)
theorem zs_lnz {r : Nat} (h : 0 < r) (hr : r < 2 ^ 31) : ¬ lN r = 0 := fun z => by
  have := (lN_eq (b := 0) hr (by decide)).mp z
  omega
