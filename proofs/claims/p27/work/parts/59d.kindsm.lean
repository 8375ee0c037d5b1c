set_option maxRecDepth 100000 in
theorem z_kinds_i (S : zs_S) (M : Nat → Nat → Nat) (m k : Nat) (hk5 : k ≤ 5) (x1 : Int32) (hM : zs_hm S 46 47 M m 3 99) (Q : Option Value → zs_S → Prop) (hk : ∀ w, w ≤ 1 → (w = 1 ↔ ∀ q, q < m → zs_pas k (M q 0) (M q 1) = M q 2) → zs_P MX12_kinds 80 [(4, .int (nI m)), (3, .int (nI w)), (2, .int (nI k)), (1, .int x1), (0, .ref 80)] [] S Q) : ∀ (d i w : Nat), i + d = m → w ≤ 1 → (w = 1 ↔ ∀ q, q < i → zs_pas k (M q 0) (M q 1) = M q 2) → zs_P MX12_kinds 15 [(4, .int (nI i)), (3, .int (nI w)), (2, .int (nI k)), (1, .int x1), (0, .ref 80)] [] S Q := by
  have hm6 := hM.1
  intro d
  induction d with
  | zero =>
    intro i w hi hw1 hw
    obtain rfl : m = i := by omega
    refine g_iload dX12_kinds_15 rfl ?_
    refine g_aload_n dX12_kinds_17 rfl rfl ?_
    refine g_getR 1 (82) (C := RX12) (T := TX12) (N := 19) dX12_kinds_18 (by decide) rfl rfl (by decide) rfl fl_RX12_13 ?_
    refine g_bipush (v := (nI 46)) dX12_kinds_21 rfl ?_
    refine g_ialdN (v := (nI m)) dX12_kinds_23 (by decide) rfl (by omega) (by decide) hM.2.1 ?_
    refine g_ic_geN 80 dX12_kinds_24 (by decide) (by omega) (by omega) (fun _ => ?_) (fun z => absurd z (by omega))
    exact hk w hw1 hw
  | succ d ih =>
    intro i w hi hw1 hw
    refine g_iload dX12_kinds_15 rfl ?_
    refine g_aload_n dX12_kinds_17 rfl rfl ?_
    refine g_getR 1 (82) (C := RX12) (T := TX12) (N := 19) dX12_kinds_18 (by decide) rfl rfl (by decide) rfl fl_RX12_13 ?_
    refine g_bipush (v := (nI 46)) dX12_kinds_21 rfl ?_
    refine g_ialdN (v := (nI m)) dX12_kinds_23 (by decide) rfl (by omega) (by decide) hM.2.1 ?_
    refine g_ic_geN 80 dX12_kinds_24 (by decide) (by omega) (by omega) (fun z => absurd z (by omega)) (fun _ => ?_)
    refine g_iload_n dX12_kinds_27 rfl rfl ?_
    have b0 := (hM.2.2 i 0 (by omega) (by omega)).2
    have b1 := (hM.2.2 i 1 (by omega) (by omega)).2
    have b2 := (hM.2.2 i 2 (by omega) (by omega)).2
    refine g_if_eqN 72 dX12_kinds_28 (by decide) (by omega) (fun h1 => ?_) (fun h1 => ?_)
    · refine g_iconst (v := (nI 0)) dX12_kinds_72 rfl ?_
      refine g_istore_n (lv' := [(3, .int (nI 0)), (4, .int (nI i)), (2, .int (nI k)), (1, .int x1), (0, .ref 80)]) dX12_kinds_73 rfl (by decide) rfl ?_
      refine g_iinc (v := (nI (i + 1))) (lv' := [(4, .int (nI (i + 1))), (3, .int (nI 0)), (2, .int (nI k)), (1, .int x1), (0, .ref 80)]) dX12_kinds_74 rfl (nI_1 i) (by decide) rfl ?_
      refine g_goto 15 dX12_kinds_77 (by decide) ?_
      exact (ih (i + 1) 0 (by omega) (by omega) ⟨fun z => absurd z (by omega), fun z => absurd (hw.mpr (fun q hq => z q (by omega))) (by omega)⟩).lv (zs_mc 0 rfl (zs_mc 1 rfl (zs_mc 2 rfl (zs_mc 3 rfl (zs_mc 4 rfl zs_mn)))))
    · refine g_iload_n dX12_kinds_31 rfl rfl ?_
      refine g_aload_n dX12_kinds_32 rfl rfl ?_
      refine g_getR 1 (82) (C := RX12) (T := TX12) (N := 19) dX12_kinds_33 (by decide) rfl rfl (by decide) rfl fl_RX12_13 ?_
      refine g_bipush (v := (nI 47)) dX12_kinds_36 rfl ?_
      refine g_iload dX12_kinds_38 rfl ?_
      refine g_iaddN dX12_kinds_40 ?_
      refine g_ialdN (v := (nI (M i 0))) dX12_kinds_41 (by decide) rfl (by omega) (by decide) (by rw [show 47 + i = 47 + 6 * 0 + i by omega]; exact (hM.2.2 i 0 (by omega) (by omega)).1) ?_
      refine g_aload_n dX12_kinds_42 rfl rfl ?_
      refine g_getR 1 (82) (C := RX12) (T := TX12) (N := 19) dX12_kinds_43 (by decide) rfl rfl (by decide) rfl fl_RX12_13 ?_
      refine g_bipush (v := (nI 53)) dX12_kinds_46 rfl ?_
      refine g_iload dX12_kinds_48 rfl ?_
      refine g_iaddN dX12_kinds_50 ?_
      refine g_ialdN (v := (nI (M i 1))) dX12_kinds_51 (by decide) rfl (by omega) (by decide) (by rw [show 53 + i = 47 + 6 * 1 + i by omega]; exact (hM.2.2 i 1 (by omega) (by omega)).1) ?_
      refine g_callS [.int (nI k), .int (nI (M i 0)), .int (nI (M i 1))] [] (z_passes S k (M i 0) (M i 1) (by omega) (by omega) (by omega)) dX12_kinds_52 kk_X12_kinds_X12_passes ml_RX12_162 swX12_passes rfl rfl (Nat.le_of_ble_eq_true rfl) ?_
      rintro _ _ ⟨_, rfl, rfl, rfl⟩
      have hps := zs_pasB (c := k) (s := M i 0) (k := M i 1) (by omega)
      refine g_aload_n dX12_kinds_55 rfl rfl ?_
      refine g_getR 1 (82) (C := RX12) (T := TX12) (N := 19) dX12_kinds_56 (by decide) rfl rfl (by decide) rfl fl_RX12_13 ?_
      refine g_bipush (v := (nI 59)) dX12_kinds_59 rfl ?_
      refine g_iload dX12_kinds_61 rfl ?_
      refine g_iaddN dX12_kinds_63 ?_
      refine g_ialdN (v := (nI (M i 2))) dX12_kinds_64 (by decide) rfl (by omega) (by decide) (by rw [show 59 + i = 47 + 6 * 2 + i by omega]; exact (hM.2.2 i 2 (by omega) (by omega)).1) ?_
      refine g_ic_neN 72 dX12_kinds_65 (by decide) (by omega) (by omega) (fun h2 => ?_) (fun h2 => ?_)
      · refine g_iconst (v := (nI 0)) dX12_kinds_72 rfl ?_
        refine g_istore_n (lv' := [(3, .int (nI 0)), (4, .int (nI i)), (2, .int (nI k)), (1, .int x1), (0, .ref 80)]) dX12_kinds_73 rfl (by decide) rfl ?_
        refine g_iinc (v := (nI (i + 1))) (lv' := [(4, .int (nI (i + 1))), (3, .int (nI 0)), (2, .int (nI k)), (1, .int x1), (0, .ref 80)]) dX12_kinds_74 rfl (nI_1 i) (by decide) rfl ?_
        refine g_goto 15 dX12_kinds_77 (by decide) ?_
        exact (ih (i + 1) 0 (by omega) (by omega) ⟨fun z => absurd z (by omega), fun z => by
          have := z i (by omega)
          omega⟩).lv (zs_mc 0 rfl (zs_mc 1 rfl (zs_mc 2 rfl (zs_mc 3 rfl (zs_mc 4 rfl zs_mn)))))
      · refine g_iconst (v := (nI 1)) dX12_kinds_68 rfl ?_
        refine g_goto 73 dX12_kinds_69 (by decide) ?_
        refine g_istore_n (lv' := [(3, .int (nI 1)), (4, .int (nI i)), (2, .int (nI k)), (1, .int x1), (0, .ref 80)]) dX12_kinds_73 rfl (by decide) rfl ?_
        refine g_iinc (v := (nI (i + 1))) (lv' := [(4, .int (nI (i + 1))), (3, .int (nI 1)), (2, .int (nI k)), (1, .int x1), (0, .ref 80)]) dX12_kinds_74 rfl (nI_1 i) (by decide) rfl ?_
        refine g_goto 15 dX12_kinds_77 (by decide) ?_
        exact (ih (i + 1) 1 (by omega) (by omega) ⟨fun _ q hq => by
          by_cases e9 : q = i
          · subst e9; omega
          · exact hw.mp (by omega) q (by omega), fun _ => rfl⟩).lv (zs_mc 0 rfl (zs_mc 1 rfl (zs_mc 2 rfl (zs_mc 3 rfl (zs_mc 4 rfl zs_mn)))))
set_option maxRecDepth 100000 in
theorem z_kinds_o (S : zs_S) (M : Nat → Nat → Nat) (m : Nat) (hM : zs_hm S 46 47 M m 3 99) : ∀ (d k : Nat), k + d = 6 → zs_P MX12_kinds 4 [(2, .int (nI k)), (1, .int (nI (zs_bits (fun k => zs_lfb M m k) k))), (0, .ref 80)] [] S (fun v S2 => ∃ x, v = some (.int x) ∧ x = nI (zs_ls M m) ∧ S = S2) := by
  have hm6 := hM.1
  intro d
  induction d with
  | zero =>
    intro k hk
    obtain rfl : k = 6 := by omega
    refine g_iload_n dX12_kinds_4 rfl rfl ?_
    refine g_bipush (v := (nI 6)) dX12_kinds_5 rfl ?_
    refine g_ic_geN 100 dX12_kinds_7 (by decide) (by omega) (by omega) (fun _ => ?_) (fun z => absurd z (by omega))
    refine g_iload_n dX12_kinds_100 rfl rfl ?_
    refine g_iret dX12_kinds_101 rfl rfl ?_
    exact ⟨_, rfl, rfl, rfl⟩
  | succ d ih =>
    intro k hk
    refine g_iload_n dX12_kinds_4 rfl rfl ?_
    refine g_bipush (v := (nI 6)) dX12_kinds_5 rfl ?_
    refine g_ic_geN 100 dX12_kinds_7 (by decide) (by omega) (by omega) (fun z => absurd z (by omega)) (fun _ => ?_)
    refine g_iconst (v := (nI 1)) dX12_kinds_10 rfl ?_
    refine g_istore_n (lv' := [(3, .int (nI 1)), (2, .int (nI k)), (1, .int (nI (zs_bits (fun k => zs_lfb M m k) k))), (0, .ref 80)]) dX12_kinds_11 rfl (by decide) rfl ?_
    refine g_iconst (v := (nI 0)) dX12_kinds_12 rfl ?_
    refine g_istore (lv' := [(4, .int (nI 0)), (3, .int (nI 1)), (2, .int (nI k)), (1, .int (nI (zs_bits (fun k => zs_lfb M m k) k))), (0, .ref 80)]) dX12_kinds_13 (by decide) rfl ?_
    refine (z_kinds_i S M m k (by omega) _ hM _ (fun w hw1 hw => ?_) m 0 1 (by omega) (by omega) ⟨fun _ q hq => absurd hq (Nat.not_lt_zero _), fun _ => rfl⟩).lv (zs_mc 0 rfl (zs_mc 1 rfl (zs_mc 2 rfl (zs_mc 3 rfl (zs_mc 4 rfl zs_mn)))))
    refine g_iload_n dX12_kinds_80 rfl rfl ?_
    refine g_iload_n dX12_kinds_81 rfl rfl ?_
    refine g_if_eqN 91 dX12_kinds_82 (by decide) (by omega) (fun h1 => ?_) (fun h1 => ?_)
    · refine g_iconst (v := (nI 0)) dX12_kinds_91 rfl ?_
      refine g_ior dX12_kinds_92 ?_
      have hb6 := zs_bits_lt (fun k => zs_lfb M m k) k
      have hb7 := zs_b64 (f := fun k => zs_lfb M m k) (k := k) (by omega)
      rw [zs_or0 _ hb7]
      refine g_istore_n (lv' := [(1, .int (nI (zs_bits (fun k => zs_lfb M m k) k))), (4, .int (nI m)), (3, .int (nI w)), (2, .int (nI k)), (0, .ref 80)]) dX12_kinds_93 rfl (by decide) rfl ?_
      refine g_iinc (v := (nI (k + 1))) (lv' := [(2, .int (nI (k + 1))), (1, .int (nI (zs_bits (fun k => zs_lfb M m k) k))), (4, .int (nI m)), (3, .int (nI w)), (0, .ref 80)]) dX12_kinds_94 rfl (nI_1 k) (by decide) rfl ?_
      refine g_goto 4 dX12_kinds_97 (by decide) ?_
      have e9 := zs_bitsF (f := fun k => zs_lfb M m k) (k := k) (fun z => absurd (hw.mpr (zs_lfb_iff.mp z)) (by omega))
      have ih := ih (k + 1) (by omega)
      rw [e9] at ih
      exact ih.lv (zs_mc 0 rfl (zs_mc 1 rfl (zs_mc 4 rfl zs_mn)))
    · refine g_iconst (v := (nI 1)) dX12_kinds_85 rfl ?_
      refine g_iload_n dX12_kinds_86 rfl rfl ?_
      refine g_ishl dX12_kinds_87 ?_
      refine g_goto 92 dX12_kinds_88 (by decide) ?_
      refine g_ior dX12_kinds_92 ?_
      have hb6 := zs_bits_lt (fun k => zs_lfb M m k) k
      have hb7 := zs_b64 (f := fun k => zs_lfb M m k) (k := k) (by omega)
      rw [zs_or1 k (by omega) _ hb6]
      refine g_istore_n (lv' := [(1, .int (nI (zs_bits (fun k => zs_lfb M m k) k + 2 ^ k))), (4, .int (nI m)), (3, .int (nI w)), (2, .int (nI k)), (0, .ref 80)]) dX12_kinds_93 rfl (by decide) rfl ?_
      refine g_iinc (v := (nI (k + 1))) (lv' := [(2, .int (nI (k + 1))), (1, .int (nI (zs_bits (fun k => zs_lfb M m k) k + 2 ^ k))), (4, .int (nI m)), (3, .int (nI w)), (0, .ref 80)]) dX12_kinds_94 rfl (nI_1 k) (by decide) rfl ?_
      refine g_goto 4 dX12_kinds_97 (by decide) ?_
      have e9 := zs_bitsT (f := fun k => zs_lfb M m k) (k := k) (zs_lfb_iff.mpr (hw.mp (by omega)))
      have ih := ih (k + 1) (by omega)
      rw [e9] at ih
      exact ih.lv (zs_mc 0 rfl (zs_mc 1 rfl (zs_mc 4 rfl zs_mn)))
set_option maxRecDepth 100000 in
theorem y_kindsX (S : zs_S) (M : Nat → Nat → Nat) (m : Nat) (hM : zs_hm S 46 47 M m 3 99) : zs_Ci MX12_kinds [.ref 80] S (fun x S2 => x = nI (zs_ls M m) ∧ S = S2) := by
  refine zs_C.of (by decide) (Nat.le_of_ble_eq_true rfl) ?_
  show zs_P MX12_kinds 0 [(0, .ref 80)] [] S _
  refine g_iconst (v := (nI 0)) dX12_kinds_0 rfl ?_
  refine g_istore_n (lv' := [(1, .int (nI 0)), (0, .ref 80)]) dX12_kinds_1 rfl (by decide) rfl ?_
  refine g_iconst (v := (nI 0)) dX12_kinds_2 rfl ?_
  refine g_istore_n (lv' := [(2, .int (nI 0)), (1, .int (nI 0)), (0, .ref 80)]) dX12_kinds_3 rfl (by decide) rfl ?_
  exact (z_kinds_o S M m hM 6 0 (by omega)).lv (zs_mc 0 rfl (zs_mc 1 rfl (zs_mc 2 rfl zs_mn)))
set_option maxRecDepth 100000 in
theorem z_eyes_i (S : zs_S) (N : Nat → Nat → Nat) (m e k : Nat) (he4 : e ≤ 4) (hk5 : k ≤ 5) (x2 : Int32) (hM : zs_hm S 21 22 N m 4 9) (Q : Option Value → zs_S → Prop) (hk : ∀ w, w ≤ 1 → (w = 1 ↔ ∀ q, q < m → (N q 0 = e → zs_sit k (N q 1) (N q 2) = N q 3)) → zs_P MX12_eyesThat 97 [(5, .int (nI m)), (4, .int (nI w)), (3, .int (nI k)), (2, .int x2), (0, .ref 80), (1, .int (nI e))] [] S Q) : ∀ (d i w : Nat), i + d = m → w ≤ 1 → (w = 1 ↔ ∀ q, q < i → (N q 0 = e → zs_sit k (N q 1) (N q 2) = N q 3)) → zs_P MX12_eyesThat 16 [(5, .int (nI i)), (4, .int (nI w)), (3, .int (nI k)), (2, .int x2), (0, .ref 80), (1, .int (nI e))] [] S Q := by
  have hm6 := hM.1
  intro d
  induction d with
  | zero =>
    intro i w hi hw1 hw
    obtain rfl : m = i := by omega
    refine g_iload dX12_eyesThat_16 rfl ?_
    refine g_aload_n dX12_eyesThat_18 rfl rfl ?_
    refine g_getR 1 (82) (C := RX12) (T := TX12) (N := 19) dX12_eyesThat_19 (by decide) rfl rfl (by decide) rfl fl_RX12_13 ?_
    refine g_bipush (v := (nI 21)) dX12_eyesThat_22 rfl ?_
    refine g_ialdN (v := (nI m)) dX12_eyesThat_24 (by decide) rfl (by omega) (by decide) hM.2.1 ?_
    refine g_ic_geN 97 dX12_eyesThat_25 (by decide) (by omega) (by omega) (fun _ => ?_) (fun z => absurd z (by omega))
    exact hk w hw1 hw
  | succ d ih =>
    intro i w hi hw1 hw
    refine g_iload dX12_eyesThat_16 rfl ?_
    refine g_aload_n dX12_eyesThat_18 rfl rfl ?_
    refine g_getR 1 (82) (C := RX12) (T := TX12) (N := 19) dX12_eyesThat_19 (by decide) rfl rfl (by decide) rfl fl_RX12_13 ?_
    refine g_bipush (v := (nI 21)) dX12_eyesThat_22 rfl ?_
    refine g_ialdN (v := (nI m)) dX12_eyesThat_24 (by decide) rfl (by omega) (by decide) hM.2.1 ?_
    refine g_ic_geN 97 dX12_eyesThat_25 (by decide) (by omega) (by omega) (fun z => absurd z (by omega)) (fun _ => ?_)
    refine g_iload dX12_eyesThat_28 rfl ?_
    have b0 := (hM.2.2 i 0 (by omega) (by omega)).2
    have b1 := (hM.2.2 i 1 (by omega) (by omega)).2
    have b2 := (hM.2.2 i 2 (by omega) (by omega)).2
    have b3 := (hM.2.2 i 3 (by omega) (by omega)).2
    refine g_if_eqN 88 dX12_eyesThat_30 (by decide) (by omega) (fun h1 => ?_) (fun h1 => ?_)
    · refine g_iconst (v := (nI 0)) dX12_eyesThat_88 rfl ?_
      refine g_istore (lv' := [(4, .int (nI 0)), (5, .int (nI i)), (3, .int (nI k)), (2, .int x2), (0, .ref 80), (1, .int (nI e))]) dX12_eyesThat_89 (by decide) rfl ?_
      refine g_iinc (v := (nI (i + 1))) (lv' := [(5, .int (nI (i + 1))), (4, .int (nI 0)), (3, .int (nI k)), (2, .int x2), (0, .ref 80), (1, .int (nI e))]) dX12_eyesThat_91 rfl (nI_1 i) (by decide) rfl ?_
      refine g_goto 16 dX12_eyesThat_94 (by decide) ?_
      exact (ih (i + 1) 0 (by omega) (by omega) ⟨fun z => absurd z (by omega), fun z => absurd (hw.mpr (fun q hq => z q (by omega))) (by omega)⟩).lv (zs_mc 0 rfl (zs_mc 1 rfl (zs_mc 2 rfl (zs_mc 3 rfl (zs_mc 4 rfl (zs_mc 5 rfl zs_mn))))))
    · refine g_aload_n dX12_eyesThat_33 rfl rfl ?_
      refine g_getR 1 (82) (C := RX12) (T := TX12) (N := 19) dX12_eyesThat_34 (by decide) rfl rfl (by decide) rfl fl_RX12_13 ?_
      refine g_bipush (v := (nI 22)) dX12_eyesThat_37 rfl ?_
      refine g_iload dX12_eyesThat_39 rfl ?_
      refine g_iaddN dX12_eyesThat_41 ?_
      refine g_ialdN (v := (nI (N i 0))) dX12_eyesThat_42 (by decide) rfl (by omega) (by decide) (by rw [show 22 + i = 22 + 6 * 0 + i by omega]; exact (hM.2.2 i 0 (by omega) (by omega)).1) ?_
      refine g_iload_n dX12_eyesThat_43 rfl rfl ?_
      refine g_ic_neN 84 dX12_eyesThat_44 (by decide) (by omega) (by omega) (fun h2 => ?_) (fun h2 => ?_)
      · refine g_iconst (v := (nI 1)) dX12_eyesThat_84 rfl ?_
        refine g_goto 89 dX12_eyesThat_85 (by decide) ?_
        refine g_istore (lv' := [(4, .int (nI 1)), (5, .int (nI i)), (3, .int (nI k)), (2, .int x2), (0, .ref 80), (1, .int (nI e))]) dX12_eyesThat_89 (by decide) rfl ?_
        refine g_iinc (v := (nI (i + 1))) (lv' := [(5, .int (nI (i + 1))), (4, .int (nI 1)), (3, .int (nI k)), (2, .int x2), (0, .ref 80), (1, .int (nI e))]) dX12_eyesThat_91 rfl (nI_1 i) (by decide) rfl ?_
        refine g_goto 16 dX12_eyesThat_94 (by decide) ?_
        exact (ih (i + 1) 1 (by omega) (by omega) ⟨fun _ q hq => by
          by_cases e9 : q = i
          · subst e9; omega
          · exact hw.mp (by omega) q (by omega), fun _ => rfl⟩).lv (zs_mc 0 rfl (zs_mc 1 rfl (zs_mc 2 rfl (zs_mc 3 rfl (zs_mc 4 rfl (zs_mc 5 rfl zs_mn))))))
      · refine g_iload_n dX12_eyesThat_47 rfl rfl ?_
        refine g_aload_n dX12_eyesThat_48 rfl rfl ?_
        refine g_getR 1 (82) (C := RX12) (T := TX12) (N := 19) dX12_eyesThat_49 (by decide) rfl rfl (by decide) rfl fl_RX12_13 ?_
        refine g_bipush (v := (nI 28)) dX12_eyesThat_52 rfl ?_
        refine g_iload dX12_eyesThat_54 rfl ?_
        refine g_iaddN dX12_eyesThat_56 ?_
        refine g_ialdN (v := (nI (N i 1))) dX12_eyesThat_57 (by decide) rfl (by omega) (by decide) (by rw [show 28 + i = 22 + 6 * 1 + i by omega]; exact (hM.2.2 i 1 (by omega) (by omega)).1) ?_
        refine g_aload_n dX12_eyesThat_58 rfl rfl ?_
        refine g_getR 1 (82) (C := RX12) (T := TX12) (N := 19) dX12_eyesThat_59 (by decide) rfl rfl (by decide) rfl fl_RX12_13 ?_
        refine g_bipush (v := (nI 34)) dX12_eyesThat_62 rfl ?_
        refine g_iload dX12_eyesThat_64 rfl ?_
        refine g_iaddN dX12_eyesThat_66 ?_
        refine g_ialdN (v := (nI (N i 2))) dX12_eyesThat_67 (by decide) rfl (by omega) (by decide) (by rw [show 34 + i = 22 + 6 * 2 + i by omega]; exact (hM.2.2 i 2 (by omega) (by omega)).1) ?_
        refine g_callS [.int (nI k), .int (nI (N i 1)), .int (nI (N i 2))] [] (z_looks S k (N i 1) (N i 2) (by omega) (by omega) (by omega)) dX12_eyesThat_68 kk_X12_eyesThat_X12_looks ml_RX12_166 swX12_looks rfl rfl (Nat.le_of_ble_eq_true rfl) ?_
        rintro _ _ ⟨_, rfl, rfl, rfl⟩
        have hs9 := zs_sit9 (c := k) (p := N i 1) (q := N i 2) (by omega) (by omega)
        refine g_aload_n dX12_eyesThat_71 rfl rfl ?_
        refine g_getR 1 (82) (C := RX12) (T := TX12) (N := 19) dX12_eyesThat_72 (by decide) rfl rfl (by decide) rfl fl_RX12_13 ?_
        refine g_bipush (v := (nI 40)) dX12_eyesThat_75 rfl ?_
        refine g_iload dX12_eyesThat_77 rfl ?_
        refine g_iaddN dX12_eyesThat_79 ?_
        refine g_ialdN (v := (nI (N i 3))) dX12_eyesThat_80 (by decide) rfl (by omega) (by decide) (by rw [show 40 + i = 22 + 6 * 3 + i by omega]; exact (hM.2.2 i 3 (by omega) (by omega)).1) ?_
        refine g_ic_neN 88 dX12_eyesThat_81 (by decide) (by omega) (by omega) (fun h3 => ?_) (fun h3 => ?_)
        · refine g_iconst (v := (nI 0)) dX12_eyesThat_88 rfl ?_
          refine g_istore (lv' := [(4, .int (nI 0)), (5, .int (nI i)), (3, .int (nI k)), (2, .int x2), (0, .ref 80), (1, .int (nI e))]) dX12_eyesThat_89 (by decide) rfl ?_
          refine g_iinc (v := (nI (i + 1))) (lv' := [(5, .int (nI (i + 1))), (4, .int (nI 0)), (3, .int (nI k)), (2, .int x2), (0, .ref 80), (1, .int (nI e))]) dX12_eyesThat_91 rfl (nI_1 i) (by decide) rfl ?_
          refine g_goto 16 dX12_eyesThat_94 (by decide) ?_
          exact (ih (i + 1) 0 (by omega) (by omega) ⟨fun z => absurd z (by omega), fun z => by
            have := z i (by omega)
            omega⟩).lv (zs_mc 0 rfl (zs_mc 1 rfl (zs_mc 2 rfl (zs_mc 3 rfl (zs_mc 4 rfl (zs_mc 5 rfl zs_mn))))))
        · refine g_iconst (v := (nI 1)) dX12_eyesThat_84 rfl ?_
          refine g_goto 89 dX12_eyesThat_85 (by decide) ?_
          refine g_istore (lv' := [(4, .int (nI 1)), (5, .int (nI i)), (3, .int (nI k)), (2, .int x2), (0, .ref 80), (1, .int (nI e))]) dX12_eyesThat_89 (by decide) rfl ?_
          refine g_iinc (v := (nI (i + 1))) (lv' := [(5, .int (nI (i + 1))), (4, .int (nI 1)), (3, .int (nI k)), (2, .int x2), (0, .ref 80), (1, .int (nI e))]) dX12_eyesThat_91 rfl (nI_1 i) (by decide) rfl ?_
          refine g_goto 16 dX12_eyesThat_94 (by decide) ?_
          exact (ih (i + 1) 1 (by omega) (by omega) ⟨fun _ q hq => by
            by_cases e9 : q = i
            · subst e9; omega
            · exact hw.mp (by omega) q (by omega), fun _ => rfl⟩).lv (zs_mc 0 rfl (zs_mc 1 rfl (zs_mc 2 rfl (zs_mc 3 rfl (zs_mc 4 rfl (zs_mc 5 rfl zs_mn))))))
set_option maxRecDepth 100000 in
theorem z_eyes_o (S : zs_S) (N : Nat → Nat → Nat) (m e : Nat) (he4 : e ≤ 4) (hM : zs_hm S 21 22 N m 4 9) : ∀ (d k : Nat), k + d = 6 → zs_P MX12_eyesThat 4 [(3, .int (nI k)), (2, .int (nI (zs_bits (fun k => zs_efb N m e k) k))), (0, .ref 80), (1, .int (nI e))] [] S (fun v S2 => ∃ x, v = some (.int x) ∧ x = nI (zs_es N m e) ∧ S = S2) := by
  have hm6 := hM.1
  intro d
  induction d with
  | zero =>
    intro k hk
    obtain rfl : k = 6 := by omega
    refine g_iload_n dX12_eyesThat_4 rfl rfl ?_
    refine g_bipush (v := (nI 6)) dX12_eyesThat_5 rfl ?_
    refine g_ic_geN 118 dX12_eyesThat_7 (by decide) (by omega) (by omega) (fun _ => ?_) (fun z => absurd z (by omega))
    refine g_iload_n dX12_eyesThat_118 rfl rfl ?_
    refine g_iret dX12_eyesThat_119 rfl rfl ?_
    exact ⟨_, rfl, rfl, rfl⟩
  | succ d ih =>
    intro k hk
    refine g_iload_n dX12_eyesThat_4 rfl rfl ?_
    refine g_bipush (v := (nI 6)) dX12_eyesThat_5 rfl ?_
    refine g_ic_geN 118 dX12_eyesThat_7 (by decide) (by omega) (by omega) (fun z => absurd z (by omega)) (fun _ => ?_)
    refine g_iconst (v := (nI 1)) dX12_eyesThat_10 rfl ?_
    refine g_istore (lv' := [(4, .int (nI 1)), (3, .int (nI k)), (2, .int (nI (zs_bits (fun k => zs_efb N m e k) k))), (0, .ref 80), (1, .int (nI e))]) dX12_eyesThat_11 (by decide) rfl ?_
    refine g_iconst (v := (nI 0)) dX12_eyesThat_13 rfl ?_
    refine g_istore (lv' := [(5, .int (nI 0)), (4, .int (nI 1)), (3, .int (nI k)), (2, .int (nI (zs_bits (fun k => zs_efb N m e k) k))), (0, .ref 80), (1, .int (nI e))]) dX12_eyesThat_14 (by decide) rfl ?_
    refine (z_eyes_i S N m e k he4 (by omega) _ hM _ (fun w hw1 hw => ?_) m 0 1 (by omega) (by omega) ⟨fun _ q hq => absurd hq (Nat.not_lt_zero _), fun _ => rfl⟩).lv (zs_mc 0 rfl (zs_mc 1 rfl (zs_mc 2 rfl (zs_mc 3 rfl (zs_mc 4 rfl (zs_mc 5 rfl zs_mn))))))
    refine g_iload_n dX12_eyesThat_97 rfl rfl ?_
    refine g_iload dX12_eyesThat_98 rfl ?_
    refine g_if_eqN 109 dX12_eyesThat_100 (by decide) (by omega) (fun h1 => ?_) (fun h1 => ?_)
    · refine g_iconst (v := (nI 0)) dX12_eyesThat_109 rfl ?_
      refine g_ior dX12_eyesThat_110 ?_
      have hb6 := zs_bits_lt (fun k => zs_efb N m e k) k
      have hb7 := zs_b64 (f := fun k => zs_efb N m e k) (k := k) (by omega)
      rw [zs_or0 _ hb7]
      refine g_istore_n (lv' := [(2, .int (nI (zs_bits (fun k => zs_efb N m e k) k))), (5, .int (nI m)), (4, .int (nI w)), (3, .int (nI k)), (0, .ref 80), (1, .int (nI e))]) dX12_eyesThat_111 rfl (by decide) rfl ?_
      refine g_iinc (v := (nI (k + 1))) (lv' := [(3, .int (nI (k + 1))), (2, .int (nI (zs_bits (fun k => zs_efb N m e k) k))), (5, .int (nI m)), (4, .int (nI w)), (0, .ref 80), (1, .int (nI e))]) dX12_eyesThat_112 rfl (nI_1 k) (by decide) rfl ?_
      refine g_goto 4 dX12_eyesThat_115 (by decide) ?_
      have e9 := zs_bitsF (f := fun k => zs_efb N m e k) (k := k) (fun z => absurd (hw.mpr (zs_efb_iff.mp z)) (by omega))
      have ih := ih (k + 1) (by omega)
      rw [e9] at ih
      exact ih.lv (zs_mc 0 rfl (zs_mc 1 rfl (zs_mc 4 rfl (zs_mc 5 rfl zs_mn))))
    · refine g_iconst (v := (nI 1)) dX12_eyesThat_103 rfl ?_
      refine g_iload_n dX12_eyesThat_104 rfl rfl ?_
      refine g_ishl dX12_eyesThat_105 ?_
      refine g_goto 110 dX12_eyesThat_106 (by decide) ?_
      refine g_ior dX12_eyesThat_110 ?_
      have hb6 := zs_bits_lt (fun k => zs_efb N m e k) k
      have hb7 := zs_b64 (f := fun k => zs_efb N m e k) (k := k) (by omega)
      rw [zs_or1 k (by omega) _ hb6]
      refine g_istore_n (lv' := [(2, .int (nI (zs_bits (fun k => zs_efb N m e k) k + 2 ^ k))), (5, .int (nI m)), (4, .int (nI w)), (3, .int (nI k)), (0, .ref 80), (1, .int (nI e))]) dX12_eyesThat_111 rfl (by decide) rfl ?_
      refine g_iinc (v := (nI (k + 1))) (lv' := [(3, .int (nI (k + 1))), (2, .int (nI (zs_bits (fun k => zs_efb N m e k) k + 2 ^ k))), (5, .int (nI m)), (4, .int (nI w)), (0, .ref 80), (1, .int (nI e))]) dX12_eyesThat_112 rfl (nI_1 k) (by decide) rfl ?_
      refine g_goto 4 dX12_eyesThat_115 (by decide) ?_
      have e9 := zs_bitsT (f := fun k => zs_efb N m e k) (k := k) (zs_efb_iff.mpr (hw.mp (by omega)))
      have ih := ih (k + 1) (by omega)
      rw [e9] at ih
      exact ih.lv (zs_mc 0 rfl (zs_mc 1 rfl (zs_mc 4 rfl (zs_mc 5 rfl zs_mn))))
set_option maxRecDepth 100000 in
theorem y_eyesThatX (S : zs_S) (N : Nat → Nat → Nat) (m e : Nat) (he4 : e ≤ 4) (hM : zs_hm S 21 22 N m 4 9) : zs_Ci MX12_eyesThat [.ref 80, .int (nI e)] S (fun x S2 => x = nI (zs_es N m e) ∧ S = S2) := by
  refine zs_C.of (by decide) (Nat.le_of_ble_eq_true rfl) ?_
  show zs_P MX12_eyesThat 0 [(0, .ref 80), (1, .int (nI e))] [] S _
  refine g_iconst (v := (nI 0)) dX12_eyesThat_0 rfl ?_
  refine g_istore_n (lv' := [(2, .int (nI 0)), (0, .ref 80), (1, .int (nI e))]) dX12_eyesThat_1 rfl (by decide) rfl ?_
  refine g_iconst (v := (nI 0)) dX12_eyesThat_2 rfl ?_
  refine g_istore_n (lv' := [(3, .int (nI 0)), (2, .int (nI 0)), (0, .ref 80), (1, .int (nI e))]) dX12_eyesThat_3 rfl (by decide) rfl ?_
  exact (z_eyes_o S N m e he4 hM 6 0 (by omega)).lv (zs_mc 0 rfl (zs_mc 1 rfl (zs_mc 2 rfl (zs_mc 3 rfl zs_mn))))
set_option maxRecDepth 100000 in
theorem c_isW (S : zs_S) (e : Int32) (ey : Nat) (hy : S.1 1 2 = nI ey) (hy5 : ey ≤ 5) (N : Nat → Nat → Nat) (m : Nat) (hM : zs_hc S 11 N m 4 9) : zs_Ci MX11_is [.ref 0, .int e] S (fun x S2 => zs_fr_W S S2 ∧ (zs_qe (S.1 1 2) e = false → x = (-2)) ∧ (zs_qe (S.1 1 2) e = true → ∀ k, k ≤ 4 → e = nI k → x = nI (zs_es N m k))) := by
  refine zs_C.of (by decide) (Nat.le_of_ble_eq_true rfl) ?_
  show zs_P MX11_is 0 [(0, .ref 0), (1, .int e)] [] S _
  refine g_aload_n dX11_is_0 rfl rfl ?_
  refine g_iload_n dX11_is_1 rfl rfl ?_
  refine g_callV (T := TX11) (NN := 18) [] (x_isEye S e) dX11_is_2 kk_X11_is_X11_isEye ml_RX11_182 mwX11_isEye ewX11_isEye (by decide) rfl rfl rfl rfl (Nat.le_of_ble_eq_true rfl) ?_
  rintro _ _ ⟨_, rfl, rfl, rfl⟩
  refine g_if_eq 16 dX11_is_5 (by decide) (fun h1 => ?_) (fun h1 => ?_)
  · have h1 := zs_b0 h1
    refine g_aload_n dX11_is_16 rfl rfl ?_
    refine g_bipush (v := (-2)) dX11_is_17 rfl ?_
    refine g_callV (T := TX11) (NN := 18) [] (x_refuseBad S (-2)) dX11_is_19 kk_X11_is_X11_refuseBad ml_RX11_86 mwX11_refuseBad ewX11_refuseBad (by decide) rfl rfl rfl rfl (Nat.le_of_ble_eq_true rfl) ?_
    rintro _ _ ⟨_, rfl, rfl, rfl⟩
    refine g_iret dX11_is_22 rfl rfl ?_
    exact ⟨_, rfl, zs_fr_W.up rfl, fun _ => rfl, fun z => absurd z (by rw [zs_qeF h1]; exact Bool.false_ne_true)⟩
  · have h1 := zs_b1 h1
    have q0 := zs_qeT h1
    obtain ⟨ek, hek, -, rfl⟩ := zs_eyk h1 hy hy5
    refine g_aload_n dX11_is_8 rfl rfl ?_
    refine g_iload_n dX11_is_9 rfl rfl ?_
    refine g_callV (T := TX11) (NN := 18) [] (c_eyeKinds S N m ek (by omega) hM) dX11_is_10 kk_X11_is_X11_eyeKinds ml_RX11_255 mwX11_eyeKinds ewX11_eyeKinds (by decide) rfl rfl rfl rfl (Nat.le_of_ble_eq_true rfl) ?_
    rintro _ _ ⟨_, rfl, rfl, rfl⟩
    refine g_goto 22 dX11_is_13 (by decide) ?_
    refine g_iret dX11_is_22 rfl rfl ?_
    exact ⟨_, rfl, zs_fr_W.rf, fun z => absurd z (by rw [q0]; decide), fun _ k hk hz => congrArg (fun k => nI (zs_es N m k)) ((nI_eq (by omega) (by omega)).mp hz)⟩
set_option maxRecDepth 100000 in
theorem y_isW (e : Int32) (S : zs_S) (hJ : zs_J S) (ey : Nat) (hy : S.1 82 2 = nI ey) (hy5 : ey ≤ 5) (N : Nat → Nat → Nat) (m : Nat) (hM : zs_hm S 21 22 N m 4 9) : zs_Ci MX12_is [.ref 80, .int e] S (fun x S2 => zs_J S2 ∧ zs_fm_W S S2 ∧ (zs_qe (S.1 82 2) e = false → x = (-2)) ∧ (zs_qe (S.1 82 2) e = true → ∀ k, k ≤ 4 → e = nI k → x = nI (zs_es N m k))) := by
  refine zs_C.of (by decide) (Nat.le_of_ble_eq_true rfl) ?_
  show zs_P MX12_is 0 [(0, .ref 80), (1, .int e)] [] S _
  refine g_aload_n dX12_is_0 rfl rfl ?_
  refine g_iload_n dX12_is_1 rfl rfl ?_
  refine g_callV (T := TX12) (NN := 19) [] (z_isEye S e) dX12_is_2 kk_X12_is_X12_isEye ml_RX12_185 mwX12_isEye ewX12_isEye (by decide) rfl rfl rfl rfl (Nat.le_of_ble_eq_true rfl) ?_
  rintro _ _ ⟨_, rfl, rfl, rfl⟩
  refine g_if_eq 16 dX12_is_5 (by decide) (fun h1 => ?_) (fun h1 => ?_)
  · have h1 := zs_b0 h1
    refine g_aload_n dX12_is_16 rfl rfl ?_
    refine g_callV (T := TX12) (NN := 19) [] (q_badW S hJ) dX12_is_17 kk_X12_is_X12_bad ml_RX12_62 mwX12_bad ewX12_bad (by decide) rfl rfl rfl rfl (Nat.le_of_ble_eq_true rfl) ?_
    rintro _ S2 ⟨x3, rfl, ex3, jS2, fS2⟩
    refine g_iret dX12_is_20 rfl rfl ?_
    exact ⟨_, rfl, jS2, fS2, fun _ => ex3, fun z => absurd z (by rw [zs_qeF h1]; exact Bool.false_ne_true)⟩
  · have h1 := zs_b1 h1
    have q0 := zs_qeT h1
    obtain ⟨ek, hek, -, rfl⟩ := zs_eyk h1 hy hy5
    refine g_aload_n dX12_is_8 rfl rfl ?_
    refine g_iload_n dX12_is_9 rfl rfl ?_
    refine g_callV (T := TX12) (NN := 19) [] (y_eyesThatX S N m ek (by omega) hM) dX12_is_10 kk_X12_is_X12_eyesThat ml_RX12_212 mwX12_eyesThat ewX12_eyesThat (by decide) rfl rfl rfl rfl (Nat.le_of_ble_eq_true rfl) ?_
    rintro _ _ ⟨_, rfl, rfl, rfl⟩
    refine g_goto 20 dX12_is_13 (by decide) ?_
    refine g_iret dX12_is_20 rfl rfl ?_
    exact ⟨_, rfl, hJ, zs_fm_W.rf, fun z => absurd z (by rw [q0]; decide), fun _ k hk hz => congrArg (fun k => nI (zs_es N m k)) ((nI_eq (by omega) (by omega)).mp hz)⟩
