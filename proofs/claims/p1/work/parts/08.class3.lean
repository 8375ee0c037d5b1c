theorem zs_up_q {f : Nat → Nat → Int32} {g : Nat → Nat → Int64} {a j : Nat} {v : Int32} : ((zs_up f a j v, g) : zs_S).1 a j = v := zs_up_s
theorem zs_up_m {f : Nat → Nat → Int32} {g : Nat → Nat → Int64} {a j b i : Nat} {v : Int32} (h : ¬ (b = a ∧ i = j)) : ((zs_up f a j v, g) : zs_S).1 b i = f b i := zs_up_n h
def zs_i0 : Nat → Nat → Int32 := fun a => match a with
  | 1 | 15 | 29 | 45 => fun j => if j = 0 then nI 2 else nI 0
  | 3 | 17 | 31 | 47 | 63 => fun j => if j = 2 then nI 1 else nI 0
  | 9 | 23 | 37 | 53 => fun j => if j = 0 then nI 2 else nI 0
  | 11 | 25 | 39 | 55 => fun j => if j = 0 then nI 4 else nI 0
  | 13 | 27 | 41 | 57 => fun j => if j = 0 then nI 3 else nI 0
  | 81 => fun j => if j = 2 then nI 1 else nI 0
  | 82 => fun j => if j = 0 then nI 2 else nI 0
  | _ => fun _ => nI 0
def zs_l0 : Nat → Nat → Int64 := fun a => match a with
  | 0 => fun j => if j = 7 then 1 else 0
  | 80 => fun j => if j = 13 then 1 else 0
  | _ => fun _ => 0
/-- the class's cells are as the constructor leaves them -/
def zs_F0 (S : zs_S) : Prop := ∀ a, a < 80 → S.1 a = zs_i0 a ∧ S.2 a = zs_l0 a
noncomputable def zs_if (p : Prop) (a b : Int32) : Int32 := @ite Int32 p (Classical.propDecidable p) a b
theorem zs_it {p : Prop} {a b : Int32} (h : p) : zs_if p a b = a := by unfold zs_if; exact if_pos h
theorem zs_ie {p : Prop} {a b : Int32} (h : ¬ p) : zs_if p a b = b := by unfold zs_if; exact if_neg h
theorem zs_ceF {S : zs_S} {a n : Nat} {i : Int32} (h : S.1 a = fun _ => nI 0) : zs_ce n (S.1 a) i = nI 0 := by
  rw [h]
  unfold zs_ce
  split <;> rfl
theorem x_isEye0 (S : zs_S) (F : zs_F0 S) (v : Int32) : zs_Ci MX11_isEye [.ref 0, .int v] S (fun x S2 => x = nI 0 ∧ S = S2) := (x_isEye S v).mono (by
  rintro _ _ ⟨x, rfl, rfl, rfl⟩
  refine ⟨_, rfl, ?_, rfl⟩
  rw [show S.1 1 2 = nI 0 from congrFun (F 1 (by decide)).1 2]
  exact zs_bf zs_rn0)
theorem x_isFrame0 (S : zs_S) (F : zs_F0 S) (v : Int32) : zs_Ci MX11_isFrame [.ref 0, .int v] S (fun x S2 => x = zs_b (nI 0 ≤ v ∧ v ≤ nI 1) ∧ S = S2) := x_isFrame S v 2 (congrFun (F 1 (by decide)).1 0) (by decide) (by decide)
set_option maxRecDepth 100000 in
theorem t_drum (S : zs_S) (F : zs_F0 S) (n c t : Int32) : zs_Ci MX11_drum [.ref 0, .int n, .int c, .int t] S (fun x S2 => x = zs_if ((nI 2 ≤ n ∧ n ≤ nI 12) ∧ (nI 0 ≤ c ∧ c ≤ nI 5) ∧ (nI 0 ≤ t ∧ t ≤ nI 11)) (nI 0) (-2) ∧ zs_ch 0 80 S S2) := by
  refine zs_C.of (by decide) (Nat.le_of_ble_eq_true rfl) ?_
  show zs_P MX11_drum 0 [(0, .ref 0), (1, .int n), (2, .int c), (3, .int t)] [] S _
  refine g_iload_n dX11_drum_0 rfl rfl ?_
  refine g_iconst (v := (nI 2)) dX11_drum_1 rfl ?_
  refine g_bipush (v := (nI 12)) dX11_drum_2 rfl ?_
  refine g_callS [.int n, .int (nI 2), .int (nI 12)] [] (x_within S n (nI 2) (nI 12)) dX11_drum_4 kk_X11_drum_X11_within ml_RX11_75 swX11_within rfl rfl (Nat.le_of_ble_eq_true rfl) ?_
  rintro _ _ ⟨_, rfl, rfl, rfl⟩
  refine g_if_eq 24 dX11_drum_7 (by decide) (fun h1 => ?_) (fun h1 => ?_)
  · have h1 := zs_b0 h1
    refine g_aload_n dX11_drum_24 rfl rfl ?_
    refine g_bipush (v := (-2)) dX11_drum_25 rfl ?_
    refine g_callV (T := TX11) (NN := 18) [] (x_refuseBad S (-2)) dX11_drum_27 kk_X11_drum_X11_refuseBad ml_RX11_86 mwX11_refuseBad ewX11_refuseBad (by decide) rfl rfl rfl rfl (Nat.le_of_ble_eq_true rfl) ?_
    rintro _ _ ⟨_, rfl, rfl, rfl⟩
    refine g_iret dX11_drum_30 rfl rfl ?_
    exact ⟨_, rfl, (zs_ie (fun q => h1 q.1)).symm, (zs_ch.rf.up (by omega) (by omega))⟩
  · have h1 := zs_b1 h1
    obtain ⟨n', n'a, n'b, rfl⟩ := zs_rng h1 (by omega)
    refine g_iload_n dX11_drum_10 rfl rfl ?_
    refine g_callS [.int c] [] (x_isKind S c) dX11_drum_11 kk_X11_drum_X11_isKind ml_RX11_79 swX11_isKind rfl rfl (Nat.le_of_ble_eq_true rfl) ?_
    rintro _ _ ⟨_, rfl, rfl, rfl⟩
    refine g_if_eq 24 dX11_drum_14 (by decide) (fun h2 => ?_) (fun h2 => ?_)
    · have h2 := zs_b0 h2
      refine g_aload_n dX11_drum_24 rfl rfl ?_
      refine g_bipush (v := (-2)) dX11_drum_25 rfl ?_
      refine g_callV (T := TX11) (NN := 18) [] (x_refuseBad S (-2)) dX11_drum_27 kk_X11_drum_X11_refuseBad ml_RX11_86 mwX11_refuseBad ewX11_refuseBad (by decide) rfl rfl rfl rfl (Nat.le_of_ble_eq_true rfl) ?_
      rintro _ _ ⟨_, rfl, rfl, rfl⟩
      refine g_iret dX11_drum_30 rfl rfl ?_
      exact ⟨_, rfl, (zs_ie (fun q => h2 q.2.1)).symm, (zs_ch.rf.up (by omega) (by omega))⟩
    · have h2 := zs_b1 h2
      obtain ⟨c', c'a, c'b, rfl⟩ := zs_rng h2 (by omega)
      refine g_iload_n dX11_drum_17 rfl rfl ?_
      refine g_callS [.int t] [] (x_isStep S t) dX11_drum_18 kk_X11_drum_X11_isStep ml_RX11_83 swX11_isStep rfl rfl (Nat.le_of_ble_eq_true rfl) ?_
      rintro _ _ ⟨_, rfl, rfl, rfl⟩
      refine g_if_ne 31 dX11_drum_21 (by decide) (fun h3 => ?_) (fun h3 => ?_)
      · have h3 := zs_b1 h3
        obtain ⟨t', t'a, t'b, rfl⟩ := zs_rng h3 (by omega)
        refine g_aload_n dX11_drum_31 rfl rfl ?_
        refine g_getR 0 (1) (C := RX11) (T := TX11) (N := 18) dX11_drum_32 (by decide) rfl rfl (by decide) rfl fl_RX11_10 ?_
        refine g_getV 2 (C := RX6) (T := TX6) (N := 9) (v := (nI 0)) dX11_drum_35 (by decide) rfl rfl (by decide) rfl fl_RX11_90 (congrFun (F 1 (by decide)).1 2) ?_
        refine g_istore (lv' := [(4, .int (nI 0)), (0, .ref 0), (1, .int (nI n')), (2, .int (nI c')), (3, .int (nI t'))]) dX11_drum_38 (by decide) rfl ?_
        refine g_aload_n dX11_drum_40 rfl rfl ?_
        refine g_getR 0 (1) (C := RX11) (T := TX11) (N := 18) dX11_drum_41 (by decide) rfl rfl (by decide) rfl fl_RX11_10 ?_
        refine g_iload_n dX11_drum_44 rfl rfl ?_
        refine g_iload_n dX11_drum_45 rfl rfl ?_
        refine g_iload_n dX11_drum_46 rfl rfl ?_
        refine g_callV (T := TX6) (NN := 9) [] (s_begin S 1 (nI n') (nI c') (nI t') zs_Sw1) dX11_drum_47 kk_X11_drum_X6_begin ml_RX11_94 mwX6_begin ewX6_begin (by decide) rfl rfl rfl rfl (Nat.le_of_ble_eq_true rfl) ?_
        rintro _ S4 ⟨rfl, c5⟩
        refine g_iload dX11_drum_50 rfl ?_
        refine g_iret dX11_drum_52 rfl rfl ?_
        exact ⟨_, rfl, (zs_it ⟨h1, h2, h3⟩).symm, (zs_ch.rf.and c5 (by omega) (by omega))⟩
      · have h3 := zs_b0 h3
        refine g_aload_n dX11_drum_24 rfl rfl ?_
        refine g_bipush (v := (-2)) dX11_drum_25 rfl ?_
        refine g_callV (T := TX11) (NN := 18) [] (x_refuseBad S (-2)) dX11_drum_27 kk_X11_drum_X11_refuseBad ml_RX11_86 mwX11_refuseBad ewX11_refuseBad (by decide) rfl rfl rfl rfl (Nat.le_of_ble_eq_true rfl) ?_
        rintro _ _ ⟨_, rfl, rfl, rfl⟩
        refine g_iret dX11_drum_30 rfl rfl ?_
        exact ⟨_, rfl, (zs_ie (fun q => h3 q.2.2)).symm, (zs_ch.rf.up (by omega) (by omega))⟩
set_option maxRecDepth 100000 in
theorem t_lamp (S : zs_S) (F : zs_F0 S) (c : Int32) : zs_Ci MX11_lamp [.ref 0, .int c] S (fun x S2 => x = zs_if (nI 0 ≤ c ∧ c ≤ nI 5) (nI 0) (-2) ∧ zs_ch 0 80 S S2) := by
  refine zs_C.of (by decide) (Nat.le_of_ble_eq_true rfl) ?_
  show zs_P MX11_lamp 0 [(0, .ref 0), (1, .int c)] [] S _
  refine g_iload_n dX11_lamp_0 rfl rfl ?_
  refine g_callS [.int c] [] (x_isKind S c) dX11_lamp_1 kk_X11_lamp_X11_isKind ml_RX11_79 swX11_isKind rfl rfl (Nat.le_of_ble_eq_true rfl) ?_
  rintro _ _ ⟨_, rfl, rfl, rfl⟩
  refine g_if_ne 14 dX11_lamp_4 (by decide) (fun h1 => ?_) (fun h1 => ?_)
  · have h1 := zs_b1 h1
    obtain ⟨c', c'a, c'b, rfl⟩ := zs_rng h1 (by omega)
    refine g_aload_n dX11_lamp_14 rfl rfl ?_
    refine g_getR 0 (1) (C := RX11) (T := TX11) (N := 18) dX11_lamp_15 (by decide) rfl rfl (by decide) rfl fl_RX11_10 ?_
    refine g_getV 1 (C := RX6) (T := TX6) (N := 9) (v := (nI 0)) dX11_lamp_18 (by decide) rfl rfl (by decide) rfl fl_RX11_98 (congrFun (F 1 (by decide)).1 1) ?_
    refine g_istore_n (lv' := [(2, .int (nI 0)), (0, .ref 0), (1, .int (nI c'))]) dX11_lamp_21 rfl (by decide) rfl ?_
    refine g_aload_n dX11_lamp_22 rfl rfl ?_
    refine g_getR 0 (1) (C := RX11) (T := TX11) (N := 18) dX11_lamp_23 (by decide) rfl rfl (by decide) rfl fl_RX11_10 ?_
    refine g_iload_n dX11_lamp_26 rfl rfl ?_
    refine g_putI 1 (C := RX6) (T := TX6) (N := 9) (ty := .int) dX11_lamp_27 (by decide) rfl rfl (by decide) rfl fl_RX11_98 rfl (by decide +kernel) ⟨rfl, rfl⟩ ?_
    refine g_aload_n dX11_lamp_30 rfl rfl ?_
    refine g_getR 0 (1) (C := RX11) (T := TX11) (N := 18) dX11_lamp_31 (by decide) rfl rfl (by decide) rfl fl_RX11_10 ?_
    refine g_getR 5 (7) (C := RX6) (T := TX6) (N := 9) dX11_lamp_34 (by decide) rfl rfl (by decide) rfl fl_RX11_101 ?_
    refine g_callV (T := TX4) (NN := 2) [] (p_empty (zs_up S.1 1 1 (nI c'), S.2) 7 zs_Pa7) dX11_lamp_37 kk_X11_lamp_X4_empty ml_RX11_105 mwX4_empty ewX4_empty (by decide) rfl rfl rfl rfl (Nat.le_of_ble_eq_true rfl) ?_
    rintro _ S2 ⟨rfl, c3⟩
    refine g_iload_n dX11_lamp_40 rfl rfl ?_
    refine g_iret dX11_lamp_41 rfl rfl ?_
    exact ⟨_, rfl, (zs_it h1).symm, ((zs_ch.rf.up (by omega) (by omega)).and c3 (by omega) (by omega))⟩
  · have h1 := zs_b0 h1
    refine g_aload_n dX11_lamp_7 rfl rfl ?_
    refine g_bipush (v := (-2)) dX11_lamp_8 rfl ?_
    refine g_callV (T := TX11) (NN := 18) [] (x_refuseBad S (-2)) dX11_lamp_10 kk_X11_lamp_X11_refuseBad ml_RX11_86 mwX11_refuseBad ewX11_refuseBad (by decide) rfl rfl rfl rfl (Nat.le_of_ble_eq_true rfl) ?_
    rintro _ _ ⟨_, rfl, rfl, rfl⟩
    refine g_iret dX11_lamp_13 rfl rfl ?_
    exact ⟨_, rfl, (zs_ie (fun q => h1 q)).symm, (zs_ch.rf.up (by omega) (by omega))⟩
set_option maxRecDepth 100000 in
theorem t_of (S : zs_S) (F : zs_F0 S) (e k : Int32) : zs_Ci MX11_of [.ref 0, .int e, .int k] S (fun x S2 => x = (-2) ∧ zs_ch 0 80 S S2) := by
  refine zs_C.of (by decide) (Nat.le_of_ble_eq_true rfl) ?_
  show zs_P MX11_of 0 [(0, .ref 0), (1, .int e), (2, .int k)] [] S _
  refine g_aload_n dX11_of_0 rfl rfl ?_
  refine g_iload_n dX11_of_1 rfl rfl ?_
  refine g_callV (T := TX11) (NN := 18) [] (x_isEye0 S F e) dX11_of_2 kk_X11_of_X11_isEye ml_RX11_182 mwX11_isEye ewX11_isEye (by decide) rfl rfl rfl rfl (Nat.le_of_ble_eq_true rfl) ?_
  rintro _ _ ⟨_, rfl, rfl, rfl⟩
  refine g_if_neN 15 dX11_of_5 (by decide) (by omega) (fun z => absurd z (by omega)) (fun _ => ?_)
  refine g_aload_n dX11_of_8 rfl rfl ?_
  refine g_bipush (v := (-2)) dX11_of_9 rfl ?_
  refine g_callV (T := TX11) (NN := 18) [] (x_refuseBad S (-2)) dX11_of_11 kk_X11_of_X11_refuseBad ml_RX11_86 mwX11_refuseBad ewX11_refuseBad (by decide) rfl rfl rfl rfl (Nat.le_of_ble_eq_true rfl) ?_
  rintro _ _ ⟨_, rfl, rfl, rfl⟩
  refine g_iret dX11_of_14 rfl rfl ?_
  exact ⟨_, rfl, rfl, (zs_ch.rf.up (by omega) (by omega))⟩
set_option maxRecDepth 100000 in
theorem t_sees (S : zs_S) (F : zs_F0 S) (e k : Int32) : zs_Ci MX11_sees [.ref 0, .int e, .int k] S (fun x S2 => x = (-2) ∧ zs_ch 0 80 S S2) := by
  refine zs_C.of (by decide) (Nat.le_of_ble_eq_true rfl) ?_
  show zs_P MX11_sees 0 [(0, .ref 0), (1, .int e), (2, .int k)] [] S _
  refine g_aload_n dX11_sees_0 rfl rfl ?_
  refine g_iload_n dX11_sees_1 rfl rfl ?_
  refine g_callV (T := TX11) (NN := 18) [] (x_isEye0 S F e) dX11_sees_2 kk_X11_sees_X11_isEye ml_RX11_182 mwX11_isEye ewX11_isEye (by decide) rfl rfl rfl rfl (Nat.le_of_ble_eq_true rfl) ?_
  rintro _ _ ⟨_, rfl, rfl, rfl⟩
  refine g_if_eqN 18 dX11_sees_5 (by decide) (by omega) (fun _ => ?_) (fun z => absurd z (by omega))
  refine g_aload_n dX11_sees_18 rfl rfl ?_
  refine g_bipush (v := (-2)) dX11_sees_19 rfl ?_
  refine g_callV (T := TX11) (NN := 18) [] (x_refuseBad S (-2)) dX11_sees_21 kk_X11_sees_X11_refuseBad ml_RX11_86 mwX11_refuseBad ewX11_refuseBad (by decide) rfl rfl rfl rfl (Nat.le_of_ble_eq_true rfl) ?_
  rintro _ _ ⟨_, rfl, rfl, rfl⟩
  refine g_iret dX11_sees_24 rfl rfl ?_
  exact ⟨_, rfl, rfl, (zs_ch.rf.up (by omega) (by omega))⟩
set_option maxRecDepth 100000 in
theorem t_most (S : zs_S) (F : zs_F0 S) (e k w : Int32) : zs_Ci MX11_most [.ref 0, .int e, .int k, .int w] S (fun x S2 => x = (-2) ∧ zs_ch 0 80 S S2) := by
  refine zs_C.of (by decide) (Nat.le_of_ble_eq_true rfl) ?_
  show zs_P MX11_most 0 [(0, .ref 0), (1, .int e), (2, .int k), (3, .int w)] [] S _
  refine g_aload_n dX11_most_0 rfl rfl ?_
  refine g_iload_n dX11_most_1 rfl rfl ?_
  refine g_callV (T := TX11) (NN := 18) [] (x_isEye0 S F e) dX11_most_2 kk_X11_most_X11_isEye ml_RX11_182 mwX11_isEye ewX11_isEye (by decide) rfl rfl rfl rfl (Nat.le_of_ble_eq_true rfl) ?_
  rintro _ _ ⟨_, rfl, rfl, rfl⟩
  refine g_if_eqN 27 dX11_most_5 (by decide) (by omega) (fun _ => ?_) (fun z => absurd z (by omega))
  refine g_aload_n dX11_most_27 rfl rfl ?_
  refine g_bipush (v := (-2)) dX11_most_28 rfl ?_
  refine g_callV (T := TX11) (NN := 18) [] (x_refuseBad S (-2)) dX11_most_30 kk_X11_most_X11_refuseBad ml_RX11_86 mwX11_refuseBad ewX11_refuseBad (by decide) rfl rfl rfl rfl (Nat.le_of_ble_eq_true rfl) ?_
  rintro _ _ ⟨_, rfl, rfl, rfl⟩
  refine g_iret dX11_most_33 rfl rfl ?_
  exact ⟨_, rfl, rfl, (zs_ch.rf.up (by omega) (by omega))⟩
set_option maxRecDepth 100000 in
theorem t_note (S : zs_S) (F : zs_F0 S) (e p q x : Int32) : zs_Ci MX11_note [.ref 0, .int e, .int p, .int q, .int x] S (fun x S2 => x = (-2) ∧ zs_ch 0 80 S S2) := by
  refine zs_C.of (by decide) (Nat.le_of_ble_eq_true rfl) ?_
  show zs_P MX11_note 0 [(0, .ref 0), (1, .int e), (2, .int p), (3, .int q), (4, .int x)] [] S _
  refine g_aload_n dX11_note_0 rfl rfl ?_
  refine g_iload_n dX11_note_1 rfl rfl ?_
  refine g_callV (T := TX11) (NN := 18) [] (x_isEye0 S F e) dX11_note_2 kk_X11_note_X11_isEye ml_RX11_182 mwX11_isEye ewX11_isEye (by decide) rfl rfl rfl rfl (Nat.le_of_ble_eq_true rfl) ?_
  rintro _ _ ⟨_, rfl, rfl, rfl⟩
  refine g_if_eqN 30 dX11_note_5 (by decide) (by omega) (fun _ => ?_) (fun z => absurd z (by omega))
  refine g_aload_n dX11_note_30 rfl rfl ?_
  refine g_bipush (v := (-2)) dX11_note_31 rfl ?_
  refine g_callV (T := TX11) (NN := 18) [] (x_refuseBad S (-2)) dX11_note_33 kk_X11_note_X11_refuseBad ml_RX11_86 mwX11_refuseBad ewX11_refuseBad (by decide) rfl rfl rfl rfl (Nat.le_of_ble_eq_true rfl) ?_
  rintro _ _ ⟨_, rfl, rfl, rfl⟩
  refine g_iret dX11_note_36 rfl rfl ?_
  exact ⟨_, rfl, rfl, (zs_ch.rf.up (by omega) (by omega))⟩
set_option maxRecDepth 100000 in
theorem t_is (S : zs_S) (F : zs_F0 S) (e : Int32) : zs_Ci MX11_is [.ref 0, .int e] S (fun x S2 => x = (-2) ∧ zs_ch 0 80 S S2) := by
  refine zs_C.of (by decide) (Nat.le_of_ble_eq_true rfl) ?_
  show zs_P MX11_is 0 [(0, .ref 0), (1, .int e)] [] S _
  refine g_aload_n dX11_is_0 rfl rfl ?_
  refine g_iload_n dX11_is_1 rfl rfl ?_
  refine g_callV (T := TX11) (NN := 18) [] (x_isEye0 S F e) dX11_is_2 kk_X11_is_X11_isEye ml_RX11_182 mwX11_isEye ewX11_isEye (by decide) rfl rfl rfl rfl (Nat.le_of_ble_eq_true rfl) ?_
  rintro _ _ ⟨_, rfl, rfl, rfl⟩
  refine g_if_eqN 16 dX11_is_5 (by decide) (by omega) (fun _ => ?_) (fun z => absurd z (by omega))
  refine g_aload_n dX11_is_16 rfl rfl ?_
  refine g_bipush (v := (-2)) dX11_is_17 rfl ?_
  refine g_callV (T := TX11) (NN := 18) [] (x_refuseBad S (-2)) dX11_is_19 kk_X11_is_X11_refuseBad ml_RX11_86 mwX11_refuseBad ewX11_refuseBad (by decide) rfl rfl rfl rfl (Nat.le_of_ble_eq_true rfl) ?_
  rintro _ _ ⟨_, rfl, rfl, rfl⟩
  refine g_iret dX11_is_22 rfl rfl ?_
  exact ⟨_, rfl, rfl, (zs_ch.rf.up (by omega) (by omega))⟩
set_option maxRecDepth 100000 in
theorem t_look (S : zs_S) (F : zs_F0 S) (e : Int32) : zs_Ci MX11_look [.ref 0, .int e] S (fun x S2 => x = (-2) ∧ zs_ch 0 80 S S2) := by
  refine zs_C.of (by decide) (Nat.le_of_ble_eq_true rfl) ?_
  show zs_P MX11_look 0 [(0, .ref 0), (1, .int e)] [] S _
  refine g_aload_n dX11_look_0 rfl rfl ?_
  refine g_iload_n dX11_look_1 rfl rfl ?_
  refine g_callV (T := TX11) (NN := 18) [] (x_isEye0 S F e) dX11_look_2 kk_X11_look_X11_isEye ml_RX11_182 mwX11_isEye ewX11_isEye (by decide) rfl rfl rfl rfl (Nat.le_of_ble_eq_true rfl) ?_
  rintro _ _ ⟨_, rfl, rfl, rfl⟩
  refine g_if_neN 15 dX11_look_5 (by decide) (by omega) (fun z => absurd z (by omega)) (fun _ => ?_)
  refine g_aload_n dX11_look_8 rfl rfl ?_
  refine g_bipush (v := (-2)) dX11_look_9 rfl ?_
  refine g_callV (T := TX11) (NN := 18) [] (x_refuseBad S (-2)) dX11_look_11 kk_X11_look_X11_refuseBad ml_RX11_86 mwX11_refuseBad ewX11_refuseBad (by decide) rfl rfl rfl rfl (Nat.le_of_ble_eq_true rfl) ?_
  rintro _ _ ⟨_, rfl, rfl, rfl⟩
  refine g_iret dX11_look_14 rfl rfl ?_
  exact ⟨_, rfl, rfl, (zs_ch.rf.up (by omega) (by omega))⟩
set_option maxRecDepth 100000 in
theorem t_smear (S : zs_S) (F : zs_F0 S) (e x n c : Int32) : zs_Ci MX11_smear [.ref 0, .int e, .int x, .int n, .int c] S (fun x S2 => x = (-2) ∧ zs_ch 0 80 S S2) := by
  refine zs_C.of (by decide) (Nat.le_of_ble_eq_true rfl) ?_
  show zs_P MX11_smear 0 [(0, .ref 0), (1, .int e), (2, .int x), (3, .int n), (4, .int c)] [] S _
  refine g_aload_n dX11_smear_0 rfl rfl ?_
  refine g_iload_n dX11_smear_1 rfl rfl ?_
  refine g_callV (T := TX11) (NN := 18) [] (x_isEye0 S F e) dX11_smear_2 kk_X11_smear_X11_isEye ml_RX11_182 mwX11_isEye ewX11_isEye (by decide) rfl rfl rfl rfl (Nat.le_of_ble_eq_true rfl) ?_
  rintro _ _ ⟨_, rfl, rfl, rfl⟩
  refine g_if_eqN 36 dX11_smear_5 (by decide) (by omega) (fun _ => ?_) (fun z => absurd z (by omega))
  refine g_aload_n dX11_smear_36 rfl rfl ?_
  refine g_bipush (v := (-2)) dX11_smear_37 rfl ?_
  refine g_callV (T := TX11) (NN := 18) [] (x_refuseBad S (-2)) dX11_smear_39 kk_X11_smear_X11_refuseBad ml_RX11_86 mwX11_refuseBad ewX11_refuseBad (by decide) rfl rfl rfl rfl (Nat.le_of_ble_eq_true rfl) ?_
  rintro _ _ ⟨_, rfl, rfl, rfl⟩
  refine g_iret dX11_smear_42 rfl rfl ?_
  exact ⟨_, rfl, rfl, (zs_ch.rf.up (by omega) (by omega))⟩
set_option maxRecDepth 100000 in
theorem t_hands (S : zs_S) (F : zs_F0 S) (e k w : Int32) : zs_Ci MX11_hands [.ref 0, .int e, .int k, .int w] S (fun x S2 => x = (-10) ∧ zs_ch 0 80 S S2) := by
  refine zs_C.of (by decide) (Nat.le_of_ble_eq_true rfl) ?_
  show zs_P MX11_hands 0 [(0, .ref 0), (1, .int e), (2, .int k), (3, .int w)] [] S _
  refine g_aload_n dX11_hands_0 rfl rfl ?_
  refine g_iload_n dX11_hands_1 rfl rfl ?_
  refine g_callV (T := TX11) (NN := 18) [] (x_isEye0 S F e) dX11_hands_2 kk_X11_hands_X11_isEye ml_RX11_182 mwX11_isEye ewX11_isEye (by decide) rfl rfl rfl rfl (Nat.le_of_ble_eq_true rfl) ?_
  rintro _ _ ⟨_, rfl, rfl, rfl⟩
  refine g_if_eqN 26 dX11_hands_5 (by decide) (by omega) (fun _ => ?_) (fun z => absurd z (by omega))
  refine g_aload_n dX11_hands_26 rfl rfl ?_
  refine g_bipush (v := (-10)) dX11_hands_27 rfl ?_
  refine g_callV (T := TX11) (NN := 18) [] (x_refuseBad S (-10)) dX11_hands_29 kk_X11_hands_X11_refuseBad ml_RX11_86 mwX11_refuseBad ewX11_refuseBad (by decide) rfl rfl rfl rfl (Nat.le_of_ble_eq_true rfl) ?_
  rintro _ _ ⟨_, rfl, rfl, rfl⟩
  refine g_iret dX11_hands_32 rfl rfl ?_
  exact ⟨_, rfl, rfl, (zs_ch.rf.up (by omega) (by omega))⟩
set_option maxRecDepth 100000 in
theorem t_undo (S : zs_S) (F : zs_F0 S)  : zs_Ci MX11_undo [.ref 0] S (fun x S2 => x = (-3) ∧ zs_ch 0 80 S S2) := by
  refine zs_C.of (by decide) (Nat.le_of_ble_eq_true rfl) ?_
  show zs_P MX11_undo 0 [(0, .ref 0)] [] S _
  refine g_aload_n dX11_undo_0 rfl rfl ?_
  refine g_getR 0 (1) (C := RX11) (T := TX11) (N := 18) dX11_undo_1 (by decide) rfl rfl (by decide) rfl fl_RX11_10 ?_
  refine g_getR 5 (7) (C := RX6) (T := TX6) (N := 9) dX11_undo_4 (by decide) rfl rfl (by decide) rfl fl_RX11_101 ?_
  refine g_getV 1 (C := RX4) (T := TX4) (N := 2) (v := (nI 0)) dX11_undo_7 (by decide) rfl rfl (by decide) rfl fl_RX11_176 (congrFun (F 7 (by decide)).1 1) ?_
  refine g_iconst (v := (nI 1)) dX11_undo_10 rfl ?_
  refine g_ic_geN 19 dX11_undo_11 (by decide) (by omega) (by omega) (fun z => absurd z (by omega)) (fun _ => ?_)
  refine g_aload_n dX11_undo_14 rfl rfl ?_
  refine g_callV (T := TX11) (NN := 18) [] (x_refuseNo S) dX11_undo_15 kk_X11_undo_X11_refuseNo ml_RX11_156 mwX11_refuseNo ewX11_refuseNo (by decide) rfl rfl rfl rfl (Nat.le_of_ble_eq_true rfl) ?_
  rintro _ _ ⟨_, rfl, rfl, rfl⟩
  refine g_iret dX11_undo_18 rfl rfl ?_
  exact ⟨_, rfl, rfl, (zs_ch.rf.up (by omega) (by omega))⟩
set_option maxRecDepth 100000 in
theorem t_drawn (S : zs_S) (F : zs_F0 S) (f : Int32) : zs_Ci MX11_drawn [.ref 0, .int f] S (fun x S2 => x = zs_if (nI 0 ≤ f ∧ f ≤ nI 1) (nI 0) (-2) ∧ zs_ch 0 80 S S2) := by
  refine zs_C.of (by decide) (Nat.le_of_ble_eq_true rfl) ?_
  show zs_P MX11_drawn 0 [(0, .ref 0), (1, .int f)] [] S _
  refine g_aload_n dX11_drawn_0 rfl rfl ?_
  refine g_iload_n dX11_drawn_1 rfl rfl ?_
  refine g_callV (T := TX11) (NN := 18) [] (x_isFrame0 S F f) dX11_drawn_2 kk_X11_drawn_X11_isFrame ml_RX11_159 mwX11_isFrame ewX11_isFrame (by decide) rfl rfl rfl rfl (Nat.le_of_ble_eq_true rfl) ?_
  rintro _ _ ⟨_, rfl, rfl, rfl⟩
  refine g_if_eq 25 dX11_drawn_5 (by decide) (fun h1 => ?_) (fun h1 => ?_)
  · have h1 := zs_b0 h1
    refine g_aload_n dX11_drawn_25 rfl rfl ?_
    refine g_bipush (v := (-2)) dX11_drawn_26 rfl ?_
    refine g_callV (T := TX11) (NN := 18) [] (x_refuseBad S (-2)) dX11_drawn_28 kk_X11_drawn_X11_refuseBad ml_RX11_86 mwX11_refuseBad ewX11_refuseBad (by decide) rfl rfl rfl rfl (Nat.le_of_ble_eq_true rfl) ?_
    rintro _ _ ⟨_, rfl, rfl, rfl⟩
    refine g_iret dX11_drawn_31 rfl rfl ?_
    exact ⟨_, rfl, (zs_ie h1).symm, (zs_ch.rf.up (by omega) (by omega))⟩
  · have h1 := zs_b1 h1
    obtain ⟨f', f'a, f'b, rfl⟩ := zs_rng h1 (by omega)
    refine g_aload_n dX11_drawn_8 rfl rfl ?_
    refine g_getR 0 (1) (C := RX11) (T := TX11) (N := 18) dX11_drawn_9 (by decide) rfl rfl (by decide) rfl fl_RX11_10 ?_
    refine g_getR 4 (3) (C := RX6) (T := TX6) (N := 9) dX11_drawn_12 (by decide) rfl rfl (by decide) rfl fl_RX11_137 ?_
    refine g_getR 3 (4) (C := RX3) (T := TX3) (N := 6) dX11_drawn_15 (by decide) rfl rfl (by decide) rfl fl_RX11_165 ?_
    refine g_iload_n dX11_drawn_18 rfl rfl ?_
    refine g_callS [.ref 4, .int (nI f')] [] (x_cell S 4 12 (nI f') (by decide) rfl (by decide)) dX11_drawn_19 kk_X11_drawn_X11_cell ml_RX11_168 swX11_cell rfl rfl (Nat.le_of_ble_eq_true rfl) ?_
    rintro _ _ ⟨_, rfl, rfl, rfl⟩
    refine g_goto 31 dX11_drawn_22 (by decide) ?_
    refine g_iret dX11_drawn_31 rfl rfl ?_
    exact ⟨_, rfl, (zs_it h1).symm ▸ zs_ceF (F 4 (by decide)).1, zs_ch.rf⟩
theorem zs_nrng {v : Int32} {lo hi : Nat} (h : ¬ (nI lo ≤ v ∧ v ≤ nI hi)) (hh : lo < 2 ^ 31 ∧ hi < 2 ^ 31) : v.toInt < lo ∨ (hi : Int) < v.toInt := by
  have e1 := nI_toInt hh.1
  have e2 := nI_toInt hh.2
  rw [Int32.le_iff_toInt_le, Int32.le_iff_toInt_le, e1, e2] at h
  omega
set_option maxRecDepth 100000 in
theorem y_isFull (S : zs_S) (k : Nat) (hk : S.1 43 1 = nI k) (h : k < 1000) : zs_Ci MX10_isFull [.ref 43] S (fun x S2 => x = zs_b (150 ≤ k) ∧ S = S2) := by
  refine zs_C.of (by decide) (Nat.le_of_ble_eq_true rfl) ?_
  show zs_P MX10_isFull 0 [(0, .ref 43)] [] S _
  refine g_aload_n dX10_isFull_0 rfl rfl ?_
  refine g_getV 1 (C := RX10) (T := TX10) (N := 8) (v := (nI k)) dX10_isFull_1 (by decide) rfl rfl (by decide) rfl fl_RX10_34 hk ?_
  refine g_sipush (v := (nI 150)) dX10_isFull_4 rfl ?_
  refine g_ic_ltN 14 dX10_isFull_7 (by decide) (by omega) (by omega) (fun h1 => ?_) (fun h1 => ?_)
  · refine g_iconst (v := (nI 0)) dX10_isFull_14 rfl ?_
    refine g_iret dX10_isFull_15 rfl rfl ?_
    exact ⟨_, rfl, (zs_bf (by omega)).symm, rfl⟩
  · refine g_iconst (v := (nI 1)) dX10_isFull_10 rfl ?_
    refine g_goto 15 dX10_isFull_11 (by decide) ?_
    refine g_iret dX10_isFull_15 rfl rfl ?_
    exact ⟨_, rfl, (zs_bt h1).symm, rfl⟩
set_option maxRecDepth 100000 in
theorem y_add (S : zs_S) (k : Nat) (v : Int32) (hk : S.1 43 1 = nI k) (h : k < 1000) : zs_Ci MX10_add [.ref 43, .int v] S (fun x S2 => x = nI (k + 1) ∧ zs_ch 43 45 S S2) := by
  refine zs_C.of (by decide) (Nat.le_of_ble_eq_true rfl) ?_
  show zs_P MX10_add 0 [(0, .ref 43), (1, .int v)] [] S _
  refine g_aload_n dX10_add_0 rfl rfl ?_
  refine g_getR 0 (44) (C := RX10) (T := TX10) (N := 8) dX10_add_1 (by decide) rfl rfl (by decide) rfl fl_RX10_9 ?_
  refine g_aload_n dX10_add_4 rfl rfl ?_
  refine g_getV 1 (C := RX10) (T := TX10) (N := 8) (v := (nI k)) dX10_add_5 (by decide) rfl rfl (by decide) rfl fl_RX10_34 hk ?_
  refine g_iload_n dX10_add_8 rfl rfl ?_
  refine g_callN [.ref 44, .int (nI k), .int v] [] (x_put S 44 150 (nI k) v (by decide) rfl (by decide)) dX10_add_9 kk_X10_add_X11_put nl_RX10_38 swX11_put rfl rfl (Nat.le_of_ble_eq_true rfl) ?_
  rintro _ _ ⟨rfl, rfl⟩
  refine g_aload_n dX10_add_12 rfl rfl ?_
  refine g_dup dX10_add_13 rfl ?_
  refine g_getV 1 (C := RX10) (T := TX10) (N := 8) (v := (nI k)) dX10_add_14 (by decide) rfl rfl (by decide) rfl fl_RX10_34 ((zs_pu_o (by decide)).trans hk) ?_
  refine g_iconst (v := (nI 1)) dX10_add_17 rfl ?_
  refine g_iaddN dX10_add_18 ?_
  refine g_putI 1 (C := RX10) (T := TX10) (N := 8) (ty := .int) dX10_add_19 (by decide) rfl rfl (by decide) rfl fl_RX10_34 rfl (by decide +kernel) ⟨rfl, rfl⟩ ?_
  refine g_aload_n dX10_add_22 rfl rfl ?_
  refine g_getV 1 (C := RX10) (T := TX10) (N := 8) (v := (nI (k + 1))) dX10_add_23 (by decide) rfl rfl (by decide) rfl fl_RX10_34 zs_up_q ?_
  refine g_iret dX10_add_26 rfl rfl ?_
  exact ⟨_, rfl, rfl, ((zs_ch.rf.pu (by omega) (by omega)).up (by omega) (by omega))⟩
set_option maxRecDepth 100000 in
theorem y_empty (S : zs_S) : zs_Ci MX10_empty [.ref 43] S (fun x S2 => x = S.1 43 1 ∧ zs_ch 43 45 S S2) := by
  refine zs_C.of (by decide) (Nat.le_of_ble_eq_true rfl) ?_
  show zs_P MX10_empty 0 [(0, .ref 43)] [] S _
  refine g_aload_n dX10_empty_0 rfl rfl ?_
  refine g_getI 1 (C := RX10) (T := TX10) (N := 8) dX10_empty_1 (by decide) rfl rfl (by decide) rfl fl_RX10_34 ?_
  refine g_istore_n (lv' := [(1, .int (S.1 43 1)), (0, .ref 43)]) dX10_empty_4 rfl (by decide) rfl ?_
  refine g_aload_n dX10_empty_5 rfl rfl ?_
  refine g_iconst (v := (nI 0)) dX10_empty_6 rfl ?_
  refine g_putI 1 (C := RX10) (T := TX10) (N := 8) (ty := .int) dX10_empty_7 (by decide) rfl rfl (by decide) rfl fl_RX10_34 rfl (by decide +kernel) ⟨rfl, rfl⟩ ?_
  refine g_iload_n dX10_empty_10 rfl rfl ?_
  refine g_iret dX10_empty_11 rfl rfl ?_
  exact ⟨_, rfl, rfl, (zs_ch.rf.up (by omega) (by omega))⟩
set_option maxRecDepth 100000 in
theorem t_type (S : zs_S) (F : zs_F0 S) (c : Int32) : zs_Ci MX11_type [.ref 0, .int c] S (fun x S2 => x = zs_if (nI 0 ≤ c ∧ c ≤ nI 127) (nI 1) (-2) ∧ zs_ch 0 80 S S2) := by
  refine zs_C.of (by decide) (Nat.le_of_ble_eq_true rfl) ?_
  show zs_P MX11_type 0 [(0, .ref 0), (1, .int c)] [] S _
  refine g_iload_n dX11_type_0 rfl rfl ?_
  refine g_iconst (v := (nI 0)) dX11_type_1 rfl ?_
  refine g_bipush (v := (nI 127)) dX11_type_2 rfl ?_
  refine g_callS [.int c, .int (nI 0), .int (nI 127)] [] (x_within S c (nI 0) (nI 127)) dX11_type_4 kk_X11_type_X11_within ml_RX11_75 swX11_within rfl rfl (Nat.le_of_ble_eq_true rfl) ?_
  rintro _ _ ⟨_, rfl, rfl, rfl⟩
  refine g_if_ne 17 dX11_type_7 (by decide) (fun h1 => ?_) (fun h1 => ?_)
  · have h1 := zs_b1 h1
    obtain ⟨c', c'a, c'b, rfl⟩ := zs_rng h1 (by omega)
    refine g_aload_n dX11_type_17 rfl rfl ?_
    refine g_getR 5 (43) (C := RX11) (T := TX11) (N := 18) dX11_type_18 (by decide) rfl rfl (by decide) rfl fl_RX11_25 ?_
    refine g_callV (T := TX10) (NN := 8) [] (y_isFull S 0 (congrFun (F 43 (by decide)).1 1) (by decide)) dX11_type_21 kk_X11_type_X10_isFull ml_RX11_118 mwX10_isFull ewX10_isFull (by decide) rfl rfl rfl rfl (Nat.le_of_ble_eq_true rfl) ?_
    rintro _ _ ⟨_, rfl, rfl, rfl⟩
    refine g_if_eq 34 dX11_type_24 (by decide) (fun _ => ?_) (fun z => absurd (zs_bf (by decide)) z)
    refine g_aload_n dX11_type_34 rfl rfl ?_
    refine g_getR 5 (43) (C := RX11) (T := TX11) (N := 18) dX11_type_35 (by decide) rfl rfl (by decide) rfl fl_RX11_25 ?_
    refine g_iload_n dX11_type_38 rfl rfl ?_
    refine g_callV (T := TX10) (NN := 8) [] (y_add S 0 (nI c') (congrFun (F 43 (by decide)).1 1) (by decide)) dX11_type_39 kk_X11_type_X10_add ml_RX11_122 mwX10_add ewX10_add (by decide) rfl rfl rfl rfl (Nat.le_of_ble_eq_true rfl) ?_
    rintro _ S2 ⟨_, rfl, rfl, c3⟩
    refine g_iret dX11_type_42 rfl rfl ?_
    exact ⟨_, rfl, (zs_it h1).symm, (zs_ch.rf.and c3 (by omega) (by omega))⟩
  · have h1 := zs_b0 h1
    refine g_aload_n dX11_type_10 rfl rfl ?_
    refine g_bipush (v := (-2)) dX11_type_11 rfl ?_
    refine g_callV (T := TX11) (NN := 18) [] (x_refuseBad S (-2)) dX11_type_13 kk_X11_type_X11_refuseBad ml_RX11_86 mwX11_refuseBad ewX11_refuseBad (by decide) rfl rfl rfl rfl (Nat.le_of_ble_eq_true rfl) ?_
    rintro _ _ ⟨_, rfl, rfl, rfl⟩
    refine g_iret dX11_type_16 rfl rfl ?_
    exact ⟨_, rfl, (zs_ie h1).symm, (zs_ch.rf.up (by omega) (by omega))⟩
set_option maxRecDepth 100000 in
theorem t_clear (S : zs_S) (F : zs_F0 S)  : zs_Ci MX11_clear [.ref 0] S (fun x S2 => x = nI 0 ∧ zs_ch 0 80 S S2) := by
  refine zs_C.of (by decide) (Nat.le_of_ble_eq_true rfl) ?_
  show zs_P MX11_clear 0 [(0, .ref 0)] [] S _
  refine g_aload_n dX11_clear_0 rfl rfl ?_
  refine g_getR 5 (43) (C := RX11) (T := TX11) (N := 18) dX11_clear_1 (by decide) rfl rfl (by decide) rfl fl_RX11_25 ?_
  refine g_callV (T := TX10) (NN := 8) [] (y_empty S) dX11_clear_4 kk_X11_clear_X10_empty ml_RX11_125 mwX10_empty ewX10_empty (by decide) rfl rfl rfl rfl (Nat.le_of_ble_eq_true rfl) ?_
  rintro _ S1 ⟨_, rfl, rfl, c2⟩
  refine g_iret dX11_clear_7 rfl rfl ?_
  exact ⟨_, rfl, (congrFun (F 43 (by decide)).1 1), (zs_ch.rf.and c2 (by omega) (by omega))⟩
set_option maxRecDepth 100000 in
theorem s_addEye (S : zs_S) (v : Int32) (F : zs_F0 S) : zs_Cv MX6_addEye [.ref 1, .int v] S (fun S2 => S2.1 1 2 = nI 1 ∧ zs_ch 1 15 S S2) := by
  refine zs_C.of (by decide) (Nat.le_of_ble_eq_true rfl) ?_
  show zs_P MX6_addEye 0 [(0, .ref 1), (1, .int v)] [] S _
  refine g_aload_n dX6_addEye_0 rfl rfl ?_
  refine g_getR 3 (2) (C := RX6) (T := TX6) (N := 9) dX6_addEye_1 (by decide) rfl rfl (by decide) rfl fl_RX6_15 ?_
  refine g_aload_n dX6_addEye_4 rfl rfl ?_
  refine g_getV 2 (C := RX6) (T := TX6) (N := 9) (v := (nI 0)) dX6_addEye_5 (by decide) rfl rfl (by decide) rfl fl_RX6_51 (congrFun (F 1 (by decide)).1 2) ?_
  refine g_iload_n dX6_addEye_8 rfl rfl ?_
  refine g_callN [.ref 2, .int (nI 0), .int v] [] (x_put S 2 5 (nI 0) v (by decide) rfl (by decide)) dX6_addEye_9 kk_X6_addEye_X11_put nl_RX6_81 swX11_put rfl rfl (Nat.le_of_ble_eq_true rfl) ?_
  rintro _ _ ⟨rfl, rfl⟩
  refine g_aload_n dX6_addEye_12 rfl rfl ?_
  refine g_getR 4 (3) (C := RX6) (T := TX6) (N := 9) dX6_addEye_13 (by decide) rfl rfl (by decide) rfl fl_RX6_22 ?_
  refine g_getR 4 (5) (C := RX3) (T := TX3) (N := 6) dX6_addEye_16 (by decide) rfl rfl (by decide) rfl fl_RX6_85 ?_
  refine g_aload_n dX6_addEye_19 rfl rfl ?_
  refine g_getV 2 (C := RX6) (T := TX6) (N := 9) (v := (nI 0)) dX6_addEye_20 (by decide) rfl rfl (by decide) rfl fl_RX6_51 ((zs_pu_o (by decide)).trans (congrFun (F 1 (by decide)).1 2)) ?_
  refine g_iconst (v := (nI 0)) dX6_addEye_23 rfl ?_
  refine g_callN [.ref 5, .int (nI 0), .int (nI 0)] [] (x_put (zs_pu S 2 5 (nI 0) v) 5 5 (nI 0) (nI 0) (by decide) rfl (by decide)) dX6_addEye_24 kk_X6_addEye_X11_put nl_RX6_81 swX11_put rfl rfl (Nat.le_of_ble_eq_true rfl) ?_
  rintro _ _ ⟨rfl, rfl⟩
  refine g_aload_n dX6_addEye_27 rfl rfl ?_
  refine g_getR 4 (3) (C := RX6) (T := TX6) (N := 9) dX6_addEye_28 (by decide) rfl rfl (by decide) rfl fl_RX6_22 ?_
  refine g_getR 5 (6) (C := RX3) (T := TX3) (N := 6) dX6_addEye_31 (by decide) rfl rfl (by decide) rfl fl_RX6_88 ?_
  refine g_aload_n dX6_addEye_34 rfl rfl ?_
  refine g_getV 2 (C := RX6) (T := TX6) (N := 9) (v := (nI 0)) dX6_addEye_35 (by decide) rfl rfl (by decide) rfl fl_RX6_51 ((zs_pu_o (by decide)).trans ((zs_pu_o (by decide)).trans (congrFun (F 1 (by decide)).1 2))) ?_
  refine g_iconst (v := (nI 0)) dX6_addEye_38 rfl ?_
  refine g_callN [.ref 6, .int (nI 0), .int (nI 0)] [] (x_put (zs_pu (zs_pu S 2 5 (nI 0) v) 5 5 (nI 0) (nI 0)) 6 5 (nI 0) (nI 0) (by decide) rfl (by decide)) dX6_addEye_39 kk_X6_addEye_X11_put nl_RX6_81 swX11_put rfl rfl (Nat.le_of_ble_eq_true rfl) ?_
  rintro _ _ ⟨rfl, rfl⟩
  refine g_aload_n dX6_addEye_42 rfl rfl ?_
  refine g_dup dX6_addEye_43 rfl ?_
  refine g_getV 2 (C := RX6) (T := TX6) (N := 9) (v := (nI 0)) dX6_addEye_44 (by decide) rfl rfl (by decide) rfl fl_RX6_51 ((zs_pu_o (by decide)).trans ((zs_pu_o (by decide)).trans ((zs_pu_o (by decide)).trans (congrFun (F 1 (by decide)).1 2)))) ?_
  refine g_iconst (v := (nI 1)) dX6_addEye_47 rfl ?_
  refine g_iaddN dX6_addEye_48 ?_
  refine g_putI 2 (C := RX6) (T := TX6) (N := 9) (ty := .int) dX6_addEye_49 (by decide) rfl rfl (by decide) rfl fl_RX6_51 rfl (by decide +kernel) ⟨rfl, rfl⟩ ?_
  refine g_ret dX6_addEye_52 rfl ?_
  exact ⟨rfl, zs_up_q, ((((zs_ch.rf.pu (by omega) (by omega)).pu (by omega) (by omega)).pu (by omega) (by omega)).up (by omega) (by omega))⟩
set_option maxRecDepth 100000 in
theorem t_eye (S : zs_S) (F : zs_F0 S) (c : Int32) : zs_Ci MX11_eye [.ref 0, .int c] S (fun x S2 => x = zs_if (nI 0 ≤ c ∧ c ≤ nI 5) (nI 0) (-2) ∧ zs_ch 0 80 S S2) := by
  refine zs_C.of (by decide) (Nat.le_of_ble_eq_true rfl) ?_
  show zs_P MX11_eye 0 [(0, .ref 0), (1, .int c)] [] S _
  refine g_iload_n dX11_eye_0 rfl rfl ?_
  refine g_callS [.int c] [] (x_isKind S c) dX11_eye_1 kk_X11_eye_X11_isKind ml_RX11_79 swX11_isKind rfl rfl (Nat.le_of_ble_eq_true rfl) ?_
  rintro _ _ ⟨_, rfl, rfl, rfl⟩
  refine g_if_ne 14 dX11_eye_4 (by decide) (fun h1 => ?_) (fun h1 => ?_)
  · have h1 := zs_b1 h1
    obtain ⟨c', c'a, c'b, rfl⟩ := zs_rng h1 (by omega)
    refine g_aload_n dX11_eye_14 rfl rfl ?_
    refine g_getR 0 (1) (C := RX11) (T := TX11) (N := 18) dX11_eye_15 (by decide) rfl rfl (by decide) rfl fl_RX11_10 ?_
    refine g_getV 2 (C := RX6) (T := TX6) (N := 9) (v := (nI 0)) dX11_eye_18 (by decide) rfl rfl (by decide) rfl fl_RX11_90 (congrFun (F 1 (by decide)).1 2) ?_
    refine g_iconst (v := (nI 5)) dX11_eye_21 rfl ?_
    refine g_ic_ltN 30 dX11_eye_22 (by decide) (by omega) (by omega) (fun _ => ?_) (fun z => absurd z (by omega))
    refine g_aload_n dX11_eye_30 rfl rfl ?_
    refine g_getR 0 (1) (C := RX11) (T := TX11) (N := 18) dX11_eye_31 (by decide) rfl rfl (by decide) rfl fl_RX11_10 ?_
    refine g_iload_n dX11_eye_34 rfl rfl ?_
    refine g_callV (T := TX6) (NN := 9) [] (s_addEye S (nI c') F) dX11_eye_35 kk_X11_eye_X6_addEye ml_RX11_114 mwX6_addEye ewX6_addEye (by decide) rfl rfl rfl rfl (Nat.le_of_ble_eq_true rfl) ?_
    rintro _ S2 ⟨rfl, e4, c3⟩
    refine g_aload_n dX11_eye_38 rfl rfl ?_
    refine g_getR 0 (1) (C := RX11) (T := TX11) (N := 18) dX11_eye_39 (by decide) rfl rfl (by decide) rfl fl_RX11_10 ?_
    refine g_getR 5 (7) (C := RX6) (T := TX6) (N := 9) dX11_eye_42 (by decide) rfl rfl (by decide) rfl fl_RX11_101 ?_
    refine g_callV (T := TX4) (NN := 2) [] (p_empty S2 7 zs_Pa7) dX11_eye_45 kk_X11_eye_X4_empty ml_RX11_105 mwX4_empty ewX4_empty (by decide) rfl rfl rfl rfl (Nat.le_of_ble_eq_true rfl) ?_
    rintro _ S5 ⟨rfl, c6⟩
    refine g_aload_n dX11_eye_48 rfl rfl ?_
    refine g_getR 0 (1) (C := RX11) (T := TX11) (N := 18) dX11_eye_49 (by decide) rfl rfl (by decide) rfl fl_RX11_10 ?_
    refine g_getV 2 (C := RX6) (T := TX6) (N := 9) (v := (nI 1)) dX11_eye_52 (by decide) rfl rfl (by decide) rfl fl_RX11_90 ((congrFun (c6 1 (by omega)).1 2).trans e4) ?_
    refine g_iconst (v := (nI 1)) dX11_eye_55 rfl ?_
    refine g_isubN dX11_eye_56 (by omega) ?_
    refine g_iret dX11_eye_57 rfl rfl ?_
    exact ⟨_, rfl, (zs_it h1).symm, ((zs_ch.rf.and c3 (by omega) (by omega)).and c6 (by omega) (by omega))⟩
  · have h1 := zs_b0 h1
    refine g_aload_n dX11_eye_7 rfl rfl ?_
    refine g_bipush (v := (-2)) dX11_eye_8 rfl ?_
    refine g_callV (T := TX11) (NN := 18) [] (x_refuseBad S (-2)) dX11_eye_10 kk_X11_eye_X11_refuseBad ml_RX11_86 mwX11_refuseBad ewX11_refuseBad (by decide) rfl rfl rfl rfl (Nat.le_of_ble_eq_true rfl) ?_
    rintro _ _ ⟨_, rfl, rfl, rfl⟩
    refine g_iret dX11_eye_13 rfl rfl ?_
    exact ⟨_, rfl, (zs_ie (fun q => h1 q)).symm, (zs_ch.rf.up (by omega) (by omega))⟩
set_option maxRecDepth 100000 in
theorem t_steps (S : zs_S) (F : zs_F0 S) (t : Int32) : zs_Ci MX11_steps [.ref 0, .int t] S (fun x S2 => x = zs_if (nI 0 ≤ t ∧ t ≤ nI 11) (zs_if (t = nI 1) (-3) (nI 1)) (-2) ∧ zs_ch 0 80 S S2) := by
  refine zs_C.of (by decide) (Nat.le_of_ble_eq_true rfl) ?_
  show zs_P MX11_steps 0 [(0, .ref 0), (1, .int t)] [] S _
  refine g_iload_n dX11_steps_0 rfl rfl ?_
  refine g_callS [.int t] [] (x_isStep S t) dX11_steps_1 kk_X11_steps_X11_isStep ml_RX11_83 swX11_isStep rfl rfl (Nat.le_of_ble_eq_true rfl) ?_
  rintro _ _ ⟨_, rfl, rfl, rfl⟩
  refine g_if_ne 14 dX11_steps_4 (by decide) (fun h1 => ?_) (fun h1 => ?_)
  · have h1 := zs_b1 h1
    obtain ⟨t', t'a, t'b, rfl⟩ := zs_rng h1 (by omega)
    refine g_aload_n dX11_steps_14 rfl rfl ?_
    refine g_getR 0 (1) (C := RX11) (T := TX11) (N := 18) dX11_steps_15 (by decide) rfl rfl (by decide) rfl fl_RX11_10 ?_
    refine g_getR 4 (3) (C := RX6) (T := TX6) (N := 9) dX11_steps_18 (by decide) rfl rfl (by decide) rfl fl_RX11_137 ?_
    refine g_getV 2 (C := RX3) (T := TX3) (N := 6) (v := (nI 1)) dX11_steps_21 (by decide) rfl rfl (by decide) rfl fl_RX11_153 (congrFun (F 3 (by decide)).1 2) ?_
    refine g_istore_n (lv' := [(2, .int (nI 1)), (0, .ref 0), (1, .int (nI t'))]) dX11_steps_24 rfl (by decide) rfl ?_
    refine g_iload_n dX11_steps_25 rfl rfl ?_
    refine g_iload_n dX11_steps_26 rfl rfl ?_
    refine g_ic_neN 35 dX11_steps_27 (by decide) (by omega) (by omega) (fun h2 => ?_) (fun h2 => ?_)
    · refine g_aload_n dX11_steps_35 rfl rfl ?_
      refine g_getR 0 (1) (C := RX11) (T := TX11) (N := 18) dX11_steps_36 (by decide) rfl rfl (by decide) rfl fl_RX11_10 ?_
      refine g_getR 5 (7) (C := RX6) (T := TX6) (N := 9) dX11_steps_39 (by decide) rfl rfl (by decide) rfl fl_RX11_101 ?_
      refine g_aload_n dX11_steps_42 rfl rfl ?_
      refine g_getR 0 (1) (C := RX11) (T := TX11) (N := 18) dX11_steps_43 (by decide) rfl rfl (by decide) rfl fl_RX11_10 ?_
      refine g_getR 4 (3) (C := RX6) (T := TX6) (N := 9) dX11_steps_46 (by decide) rfl rfl (by decide) rfl fl_RX11_137 ?_
      refine g_callV (T := TX4) (NN := 2) [] (p_push S 7 3 0 zs_Pa7 zs_Mo3 (congrFun (F 7 (by decide)).1 1) (by decide)) dX11_steps_49 kk_X11_steps_X4_push ml_RX11_143 mwX4_push ewX4_push (by decide) rfl rfl rfl rfl (Nat.le_of_ble_eq_true rfl) ?_
      rintro _ S3 ⟨rfl, c4⟩
      refine g_aload_n dX11_steps_52 rfl rfl ?_
      refine g_getR 0 (1) (C := RX11) (T := TX11) (N := 18) dX11_steps_53 (by decide) rfl rfl (by decide) rfl fl_RX11_10 ?_
      refine g_getR 4 (3) (C := RX6) (T := TX6) (N := 9) dX11_steps_56 (by decide) rfl rfl (by decide) rfl fl_RX11_137 ?_
      refine g_iload_n dX11_steps_59 rfl rfl ?_
      refine g_putI 2 (C := RX3) (T := TX3) (N := 6) (ty := .int) dX11_steps_60 (by decide) rfl rfl (by decide) rfl fl_RX11_153 rfl (by decide +kernel) ⟨rfl, rfl⟩ ?_
      refine g_iload_n dX11_steps_63 rfl rfl ?_
      refine g_iret dX11_steps_64 rfl rfl ?_
      exact ⟨_, rfl, ((zs_it h1).trans (zs_ie (fun q => h2 ((nI_eq (by omega) (by decide)).mp q).symm))).symm, ((zs_ch.rf.and c4 (by omega) (by omega)).up (by omega) (by omega))⟩
    · refine g_aload_n dX11_steps_30 rfl rfl ?_
      refine g_callV (T := TX11) (NN := 18) [] (x_refuseNo S) dX11_steps_31 kk_X11_steps_X11_refuseNo ml_RX11_156 mwX11_refuseNo ewX11_refuseNo (by decide) rfl rfl rfl rfl (Nat.le_of_ble_eq_true rfl) ?_
      rintro _ _ ⟨_, rfl, rfl, rfl⟩
      refine g_iret dX11_steps_34 rfl rfl ?_
      exact ⟨_, rfl, ((zs_it h1).trans (zs_it (congrArg nI h2.symm))).symm, (zs_ch.rf.up (by omega) (by omega))⟩
  · have h1 := zs_b0 h1
    refine g_aload_n dX11_steps_7 rfl rfl ?_
    refine g_bipush (v := (-2)) dX11_steps_8 rfl ?_
    refine g_callV (T := TX11) (NN := 18) [] (x_refuseBad S (-2)) dX11_steps_10 kk_X11_steps_X11_refuseBad ml_RX11_86 mwX11_refuseBad ewX11_refuseBad (by decide) rfl rfl rfl rfl (Nat.le_of_ble_eq_true rfl) ?_
    rintro _ _ ⟨_, rfl, rfl, rfl⟩
    refine g_iret dX11_steps_13 rfl rfl ?_
    exact ⟨_, rfl, (zs_ie h1).symm, (zs_ch.rf.up (by omega) (by omega))⟩
theorem zs_cell0 (S : zs_S) (F : zs_F0 S) (v : Int32) : zs_Ci MX11_cell [.ref 4, .int v] S (fun x S2 => x = nI 0 ∧ S = S2) := (x_cell S 4 12 v (by decide) rfl (by decide)).mono (by
  rintro _ _ ⟨x, rfl, rfl, rfl⟩
  exact ⟨_, rfl, zs_ceF (F 4 (by decide)).1, rfl⟩)
set_option maxRecDepth 100000 in
theorem t_draws (S : zs_S) (F : zs_F0 S) (f p : Int32) : zs_Ci MX11_draws [.ref 0, .int f, .int p] S (fun x S2 => x = zs_if ((nI 0 ≤ f ∧ f ≤ nI 1) ∧ (nI 0 ≤ p ∧ p ≤ nI 9)) (zs_if (p = nI 0) (-3) (nI 0)) (-2) ∧ zs_ch 0 80 S S2) := by
  refine zs_C.of (by decide) (Nat.le_of_ble_eq_true rfl) ?_
  show zs_P MX11_draws 0 [(0, .ref 0), (1, .int f), (2, .int p)] [] S _
  refine g_aload_n dX11_draws_0 rfl rfl ?_
  refine g_iload_n dX11_draws_1 rfl rfl ?_
  refine g_callV (T := TX11) (NN := 18) [] (x_isFrame0 S F f) dX11_draws_2 kk_X11_draws_X11_isFrame ml_RX11_159 mwX11_isFrame ewX11_isFrame (by decide) rfl rfl rfl rfl (Nat.le_of_ble_eq_true rfl) ?_
  rintro _ _ ⟨_, rfl, rfl, rfl⟩
  refine g_if_eq 15 dX11_draws_5 (by decide) (fun h1 => ?_) (fun h1 => ?_)
  · have h1 := zs_b0 h1
    refine g_aload_n dX11_draws_15 rfl rfl ?_
    refine g_bipush (v := (-2)) dX11_draws_16 rfl ?_
    refine g_callV (T := TX11) (NN := 18) [] (x_refuseBad S (-2)) dX11_draws_18 kk_X11_draws_X11_refuseBad ml_RX11_86 mwX11_refuseBad ewX11_refuseBad (by decide) rfl rfl rfl rfl (Nat.le_of_ble_eq_true rfl) ?_
    rintro _ _ ⟨_, rfl, rfl, rfl⟩
    refine g_iret dX11_draws_21 rfl rfl ?_
    exact ⟨_, rfl, (zs_ie (fun q => h1 q.1)).symm, (zs_ch.rf.up (by omega) (by omega))⟩
  · have h1 := zs_b1 h1
    obtain ⟨f', f'a, f'b, rfl⟩ := zs_rng h1 (by omega)
    refine g_iload_n dX11_draws_8 rfl rfl ?_
    refine g_callS [.int p] [] (x_isDrawing S p) dX11_draws_9 kk_X11_draws_X11_isDrawing ml_RX11_162 swX11_isDrawing rfl rfl (Nat.le_of_ble_eq_true rfl) ?_
    rintro _ _ ⟨_, rfl, rfl, rfl⟩
    refine g_if_ne 22 dX11_draws_12 (by decide) (fun h2 => ?_) (fun h2 => ?_)
    · have h2 := zs_b1 h2
      obtain ⟨p', p'a, p'b, rfl⟩ := zs_rng h2 (by omega)
      refine g_aload_n dX11_draws_22 rfl rfl ?_
      refine g_getR 0 (1) (C := RX11) (T := TX11) (N := 18) dX11_draws_23 (by decide) rfl rfl (by decide) rfl fl_RX11_10 ?_
      refine g_getR 4 (3) (C := RX6) (T := TX6) (N := 9) dX11_draws_26 (by decide) rfl rfl (by decide) rfl fl_RX11_137 ?_
      refine g_getR 3 (4) (C := RX3) (T := TX3) (N := 6) dX11_draws_29 (by decide) rfl rfl (by decide) rfl fl_RX11_165 ?_
      refine g_iload_n dX11_draws_32 rfl rfl ?_
      refine g_callS [.ref 4, .int (nI f')] [] (zs_cell0 S F (nI f')) dX11_draws_33 kk_X11_draws_X11_cell ml_RX11_168 swX11_cell rfl rfl (Nat.le_of_ble_eq_true rfl) ?_
      rintro _ _ ⟨_, rfl, rfl, rfl⟩
      refine g_istore_n (lv' := [(3, .int (nI 0)), (0, .ref 0), (1, .int (nI f')), (2, .int (nI p'))]) dX11_draws_36 rfl (by decide) rfl ?_
      refine g_iload_n dX11_draws_37 rfl rfl ?_
      refine g_iload_n dX11_draws_38 rfl rfl ?_
      refine g_ic_neN 47 dX11_draws_39 (by decide) (by omega) (by omega) (fun h3 => ?_) (fun h3 => ?_)
      · refine g_aload_n dX11_draws_47 rfl rfl ?_
        refine g_getR 0 (1) (C := RX11) (T := TX11) (N := 18) dX11_draws_48 (by decide) rfl rfl (by decide) rfl fl_RX11_10 ?_
        refine g_getR 5 (7) (C := RX6) (T := TX6) (N := 9) dX11_draws_51 (by decide) rfl rfl (by decide) rfl fl_RX11_101 ?_
        refine g_aload_n dX11_draws_54 rfl rfl ?_
        refine g_getR 0 (1) (C := RX11) (T := TX11) (N := 18) dX11_draws_55 (by decide) rfl rfl (by decide) rfl fl_RX11_10 ?_
        refine g_getR 4 (3) (C := RX6) (T := TX6) (N := 9) dX11_draws_58 (by decide) rfl rfl (by decide) rfl fl_RX11_137 ?_
        refine g_callV (T := TX4) (NN := 2) [] (p_push S 7 3 0 zs_Pa7 zs_Mo3 (congrFun (F 7 (by decide)).1 1) (by decide)) dX11_draws_61 kk_X11_draws_X4_push ml_RX11_143 mwX4_push ewX4_push (by decide) rfl rfl rfl rfl (Nat.le_of_ble_eq_true rfl) ?_
        rintro _ S4 ⟨rfl, c5⟩
        refine g_aload_n dX11_draws_64 rfl rfl ?_
        refine g_getR 0 (1) (C := RX11) (T := TX11) (N := 18) dX11_draws_65 (by decide) rfl rfl (by decide) rfl fl_RX11_10 ?_
        refine g_getR 4 (3) (C := RX6) (T := TX6) (N := 9) dX11_draws_68 (by decide) rfl rfl (by decide) rfl fl_RX11_137 ?_
        refine g_getR 3 (4) (C := RX3) (T := TX3) (N := 6) dX11_draws_71 (by decide) rfl rfl (by decide) rfl fl_RX11_165 ?_
        refine g_iload_n dX11_draws_74 rfl rfl ?_
        refine g_iload_n dX11_draws_75 rfl rfl ?_
        refine g_callS [.ref 4, .int (nI f'), .int (nI p')] [] (x_put S4 4 12 (nI f') (nI p') (by decide) rfl (by decide)) dX11_draws_76 kk_X11_draws_X11_put ml_RX11_172 swX11_put rfl rfl (Nat.le_of_ble_eq_true rfl) ?_
        rintro _ _ ⟨rfl, rfl⟩
        refine g_iload_n dX11_draws_79 rfl rfl ?_
        refine g_iret dX11_draws_80 rfl rfl ?_
        exact ⟨_, rfl, ((zs_it ⟨h1, h2⟩).trans (zs_ie (fun q => h3 ((nI_eq (by omega) (by decide)).mp q).symm))).symm, ((zs_ch.rf.and c5 (by omega) (by omega)).pu (by omega) (by omega))⟩
      · refine g_aload_n dX11_draws_42 rfl rfl ?_
        refine g_callV (T := TX11) (NN := 18) [] (x_refuseNo S) dX11_draws_43 kk_X11_draws_X11_refuseNo ml_RX11_156 mwX11_refuseNo ewX11_refuseNo (by decide) rfl rfl rfl rfl (Nat.le_of_ble_eq_true rfl) ?_
        rintro _ _ ⟨_, rfl, rfl, rfl⟩
        refine g_iret dX11_draws_46 rfl rfl ?_
        exact ⟨_, rfl, ((zs_it ⟨h1, h2⟩).trans (zs_it (congrArg nI h3.symm))).symm, (zs_ch.rf.up (by omega) (by omega))⟩
    · have h2 := zs_b0 h2
      refine g_aload_n dX11_draws_15 rfl rfl ?_
      refine g_bipush (v := (-2)) dX11_draws_16 rfl ?_
      refine g_callV (T := TX11) (NN := 18) [] (x_refuseBad S (-2)) dX11_draws_18 kk_X11_draws_X11_refuseBad ml_RX11_86 mwX11_refuseBad ewX11_refuseBad (by decide) rfl rfl rfl rfl (Nat.le_of_ble_eq_true rfl) ?_
      rintro _ _ ⟨_, rfl, rfl, rfl⟩
      refine g_iret dX11_draws_21 rfl rfl ?_
      exact ⟨_, rfl, (zs_ie (fun q => h2 q.2)).symm, (zs_ch.rf.up (by omega) (by omega))⟩
set_option maxRecDepth 100000 in
theorem t_seen (S : zs_S) (F : zs_F0 S) (k p : Int32) : zs_Ci MX11_seen [.ref 0, .int k, .int p] S (fun x S2 => x = zs_if ((nI 1 ≤ k ∧ k ≤ nI 30) ∧ (nI 0 ≤ p ∧ p ≤ nI 9)) (nI 1) (-2) ∧ zs_ch 0 80 S S2) := by
  refine zs_C.of (by decide) (Nat.le_of_ble_eq_true rfl) ?_
  show zs_P MX11_seen 0 [(0, .ref 0), (1, .int k), (2, .int p)] [] S _
  refine g_iload_n dX11_seen_0 rfl rfl ?_
  refine g_iconst (v := (nI 1)) dX11_seen_1 rfl ?_
  refine g_bipush (v := (nI 30)) dX11_seen_2 rfl ?_
  refine g_callS [.int k, .int (nI 1), .int (nI 30)] [] (x_within S k (nI 1) (nI 30)) dX11_seen_4 kk_X11_seen_X11_within ml_RX11_75 swX11_within rfl rfl (Nat.le_of_ble_eq_true rfl) ?_
  rintro _ _ ⟨_, rfl, rfl, rfl⟩
  refine g_if_eq 17 dX11_seen_7 (by decide) (fun h1 => ?_) (fun h1 => ?_)
  · have h1 := zs_b0 h1
    refine g_aload_n dX11_seen_17 rfl rfl ?_
    refine g_bipush (v := (-2)) dX11_seen_18 rfl ?_
    refine g_callV (T := TX11) (NN := 18) [] (x_refuseBad S (-2)) dX11_seen_20 kk_X11_seen_X11_refuseBad ml_RX11_86 mwX11_refuseBad ewX11_refuseBad (by decide) rfl rfl rfl rfl (Nat.le_of_ble_eq_true rfl) ?_
    rintro _ _ ⟨_, rfl, rfl, rfl⟩
    refine g_iret dX11_seen_23 rfl rfl ?_
    exact ⟨_, rfl, (zs_ie (fun q => h1 q.1)).symm, (zs_ch.rf.up (by omega) (by omega))⟩
  · have h1 := zs_b1 h1
    obtain ⟨k', k'a, k'b, rfl⟩ := zs_rng h1 (by omega)
    refine g_iload_n dX11_seen_10 rfl rfl ?_
    refine g_callS [.int p] [] (x_isDrawing S p) dX11_seen_11 kk_X11_seen_X11_isDrawing ml_RX11_162 swX11_isDrawing rfl rfl (Nat.le_of_ble_eq_true rfl) ?_
    rintro _ _ ⟨_, rfl, rfl, rfl⟩
    refine g_if_ne 24 dX11_seen_14 (by decide) (fun h2 => ?_) (fun h2 => ?_)
    · have h2 := zs_b1 h2
      obtain ⟨p', p'a, p'b, rfl⟩ := zs_rng h2 (by omega)
      refine g_aload_n dX11_seen_24 rfl rfl ?_
      refine g_getR 0 (1) (C := RX11) (T := TX11) (N := 18) dX11_seen_25 (by decide) rfl rfl (by decide) rfl fl_RX11_10 ?_
      refine g_getR 6 (9) (C := RX6) (T := TX6) (N := 9) dX11_seen_28 (by decide) rfl rfl (by decide) rfl fl_RX11_223 ?_
      refine g_callV (T := TX5) (NN := 3) [] (r_isFull S 9 0 zs_Ro9 (congrFun (F 9 (by decide)).1 2) (by decide)) dX11_seen_31 kk_X11_seen_X5_isFull ml_RX11_227 mwX5_isFull ewX5_isFull (by decide) rfl rfl rfl rfl (Nat.le_of_ble_eq_true rfl) ?_
      rintro _ _ ⟨_, rfl, rfl, rfl⟩
      refine g_if_eq 44 dX11_seen_34 (by decide) (fun _ => ?_) (fun z => absurd (zs_bf (by decide)) z)
      refine g_aload_n dX11_seen_44 rfl rfl ?_
      refine g_getR 0 (1) (C := RX11) (T := TX11) (N := 18) dX11_seen_45 (by decide) rfl rfl (by decide) rfl fl_RX11_10 ?_
      refine g_getR 6 (9) (C := RX6) (T := TX6) (N := 9) dX11_seen_48 (by decide) rfl rfl (by decide) rfl fl_RX11_223 ?_
      refine g_iload_n dX11_seen_51 rfl rfl ?_
      refine g_iload_n dX11_seen_52 rfl rfl ?_
      refine g_iconst (v := (nI 0)) dX11_seen_53 rfl ?_
      refine g_iconst (v := (nI 0)) dX11_seen_54 rfl ?_
      refine g_callV (T := TX5) (NN := 3) [] (r_add S 9 0 (nI k') (nI p') (nI 0) (nI 0) zs_Ro9 (congrFun (F 9 (by decide)).1 2) (by decide)) dX11_seen_55 kk_X11_seen_X5_add ml_RX11_230 mwX5_add ewX5_add (by decide) rfl rfl rfl rfl (Nat.le_of_ble_eq_true rfl) ?_
      rintro _ S3 ⟨_, rfl, rfl, c4⟩
      refine g_iret dX11_seen_58 rfl rfl ?_
      exact ⟨_, rfl, (zs_it ⟨h1, h2⟩).symm, (zs_ch.rf.and c4 (by omega) (by omega))⟩
    · have h2 := zs_b0 h2
      refine g_aload_n dX11_seen_17 rfl rfl ?_
      refine g_bipush (v := (-2)) dX11_seen_18 rfl ?_
      refine g_callV (T := TX11) (NN := 18) [] (x_refuseBad S (-2)) dX11_seen_20 kk_X11_seen_X11_refuseBad ml_RX11_86 mwX11_refuseBad ewX11_refuseBad (by decide) rfl rfl rfl rfl (Nat.le_of_ble_eq_true rfl) ?_
      rintro _ _ ⟨_, rfl, rfl, rfl⟩
      refine g_iret dX11_seen_23 rfl rfl ?_
      exact ⟨_, rfl, (zs_ie (fun q => h2 q.2)).symm, (zs_ch.rf.up (by omega) (by omega))⟩
set_option maxRecDepth 100000 in
theorem t_mark (S : zs_S) (F : zs_F0 S) (t k z : Int32) : zs_Ci MX11_mark [.ref 0, .int t, .int k, .int z] S (fun x S2 => x = zs_if ((nI 0 ≤ t ∧ t ≤ nI 11) ∧ (nI 0 ≤ k ∧ k ≤ nI 99) ∧ (nI 0 ≤ z ∧ z ≤ nI 30)) (nI 1) (-2) ∧ zs_ch 0 80 S S2) := by
  refine zs_C.of (by decide) (Nat.le_of_ble_eq_true rfl) ?_
  show zs_P MX11_mark 0 [(0, .ref 0), (1, .int t), (2, .int k), (3, .int z)] [] S _
  refine g_iload_n dX11_mark_0 rfl rfl ?_
  refine g_callS [.int t] [] (x_isStep S t) dX11_mark_1 kk_X11_mark_X11_isStep ml_RX11_83 swX11_isStep rfl rfl (Nat.le_of_ble_eq_true rfl) ?_
  rintro _ _ ⟨_, rfl, rfl, rfl⟩
  refine g_if_eq 27 dX11_mark_4 (by decide) (fun h1 => ?_) (fun h1 => ?_)
  · have h1 := zs_b0 h1
    refine g_aload_n dX11_mark_27 rfl rfl ?_
    refine g_bipush (v := (-2)) dX11_mark_28 rfl ?_
    refine g_callV (T := TX11) (NN := 18) [] (x_refuseBad S (-2)) dX11_mark_30 kk_X11_mark_X11_refuseBad ml_RX11_86 mwX11_refuseBad ewX11_refuseBad (by decide) rfl rfl rfl rfl (Nat.le_of_ble_eq_true rfl) ?_
    rintro _ _ ⟨_, rfl, rfl, rfl⟩
    refine g_iret dX11_mark_33 rfl rfl ?_
    exact ⟨_, rfl, (zs_ie (fun q => h1 q.1)).symm, (zs_ch.rf.up (by omega) (by omega))⟩
  · have h1 := zs_b1 h1
    obtain ⟨t', t'a, t'b, rfl⟩ := zs_rng h1 (by omega)
    refine g_iload_n dX11_mark_7 rfl rfl ?_
    refine g_iconst (v := (nI 0)) dX11_mark_8 rfl ?_
    refine g_bipush (v := (nI 99)) dX11_mark_9 rfl ?_
    refine g_callS [.int k, .int (nI 0), .int (nI 99)] [] (x_within S k (nI 0) (nI 99)) dX11_mark_11 kk_X11_mark_X11_within ml_RX11_75 swX11_within rfl rfl (Nat.le_of_ble_eq_true rfl) ?_
    rintro _ _ ⟨_, rfl, rfl, rfl⟩
    refine g_if_eq 27 dX11_mark_14 (by decide) (fun h2 => ?_) (fun h2 => ?_)
    · have h2 := zs_b0 h2
      refine g_aload_n dX11_mark_27 rfl rfl ?_
      refine g_bipush (v := (-2)) dX11_mark_28 rfl ?_
      refine g_callV (T := TX11) (NN := 18) [] (x_refuseBad S (-2)) dX11_mark_30 kk_X11_mark_X11_refuseBad ml_RX11_86 mwX11_refuseBad ewX11_refuseBad (by decide) rfl rfl rfl rfl (Nat.le_of_ble_eq_true rfl) ?_
      rintro _ _ ⟨_, rfl, rfl, rfl⟩
      refine g_iret dX11_mark_33 rfl rfl ?_
      exact ⟨_, rfl, (zs_ie (fun q => h2 q.2.1)).symm, (zs_ch.rf.up (by omega) (by omega))⟩
    · have h2 := zs_b1 h2
      obtain ⟨k', k'a, k'b, rfl⟩ := zs_rng h2 (by omega)
      refine g_iload_n dX11_mark_17 rfl rfl ?_
      refine g_iconst (v := (nI 0)) dX11_mark_18 rfl ?_
      refine g_bipush (v := (nI 30)) dX11_mark_19 rfl ?_
      refine g_callS [.int z, .int (nI 0), .int (nI 30)] [] (x_within S z (nI 0) (nI 30)) dX11_mark_21 kk_X11_mark_X11_within ml_RX11_75 swX11_within rfl rfl (Nat.le_of_ble_eq_true rfl) ?_
      rintro _ _ ⟨_, rfl, rfl, rfl⟩
      refine g_if_ne 34 dX11_mark_24 (by decide) (fun h3 => ?_) (fun h3 => ?_)
      · have h3 := zs_b1 h3
        obtain ⟨z', z'a, z'b, rfl⟩ := zs_rng h3 (by omega)
        refine g_aload_n dX11_mark_34 rfl rfl ?_
        refine g_getR 0 (1) (C := RX11) (T := TX11) (N := 18) dX11_mark_35 (by decide) rfl rfl (by decide) rfl fl_RX11_10 ?_
        refine g_getR 8 (13) (C := RX6) (T := TX6) (N := 9) dX11_mark_38 (by decide) rfl rfl (by decide) rfl fl_RX11_251 ?_
        refine g_callV (T := TX5) (NN := 3) [] (r_isFull S 13 0 zs_Ro13 (congrFun (F 13 (by decide)).1 2) (by decide)) dX11_mark_41 kk_X11_mark_X5_isFull ml_RX11_227 mwX5_isFull ewX5_isFull (by decide) rfl rfl rfl rfl (Nat.le_of_ble_eq_true rfl) ?_
        rintro _ _ ⟨_, rfl, rfl, rfl⟩
        refine g_if_eq 54 dX11_mark_44 (by decide) (fun _ => ?_) (fun z => absurd (zs_bf (by decide)) z)
        refine g_aload_n dX11_mark_54 rfl rfl ?_
        refine g_getR 0 (1) (C := RX11) (T := TX11) (N := 18) dX11_mark_55 (by decide) rfl rfl (by decide) rfl fl_RX11_10 ?_
        refine g_getR 8 (13) (C := RX6) (T := TX6) (N := 9) dX11_mark_58 (by decide) rfl rfl (by decide) rfl fl_RX11_251 ?_
        refine g_iload_n dX11_mark_61 rfl rfl ?_
        refine g_iload_n dX11_mark_62 rfl rfl ?_
        refine g_iload_n dX11_mark_63 rfl rfl ?_
        refine g_iconst (v := (nI 0)) dX11_mark_64 rfl ?_
        refine g_callV (T := TX5) (NN := 3) [] (r_add S 13 0 (nI t') (nI k') (nI z') (nI 0) zs_Ro13 (congrFun (F 13 (by decide)).1 2) (by decide)) dX11_mark_65 kk_X11_mark_X5_add ml_RX11_230 mwX5_add ewX5_add (by decide) rfl rfl rfl rfl (Nat.le_of_ble_eq_true rfl) ?_
        rintro _ S4 ⟨_, rfl, rfl, c5⟩
        refine g_iret dX11_mark_68 rfl rfl ?_
        exact ⟨_, rfl, (zs_it ⟨h1, h2, h3⟩).symm, (zs_ch.rf.and c5 (by omega) (by omega))⟩
      · have h3 := zs_b0 h3
        refine g_aload_n dX11_mark_27 rfl rfl ?_
        refine g_bipush (v := (-2)) dX11_mark_28 rfl ?_
        refine g_callV (T := TX11) (NN := 18) [] (x_refuseBad S (-2)) dX11_mark_30 kk_X11_mark_X11_refuseBad ml_RX11_86 mwX11_refuseBad ewX11_refuseBad (by decide) rfl rfl rfl rfl (Nat.le_of_ble_eq_true rfl) ?_
        rintro _ _ ⟨_, rfl, rfl, rfl⟩
        refine g_iret dX11_mark_33 rfl rfl ?_
        exact ⟨_, rfl, (zs_ie (fun q => h3 q.2.2)).symm, (zs_ch.rf.up (by omega) (by omega))⟩
set_option maxRecDepth 100000 in
theorem t_forget (S : zs_S) (F : zs_F0 S) (w : Int32) : zs_Ci MX11_forget [.ref 0, .int w] S (fun x S2 => x = zs_if (nI 0 ≤ w ∧ w ≤ nI 2) (nI 0) (-2) ∧ zs_ch 0 80 S S2) := by
  refine zs_C.of (by decide) (Nat.le_of_ble_eq_true rfl) ?_
  show zs_P MX11_forget 0 [(0, .ref 0), (1, .int w)] [] S _
  refine g_iload_n dX11_forget_0 rfl rfl ?_
  by_cases hw : nI 0 ≤ w ∧ w ≤ nI 2
  · obtain ⟨w', hwa, hwb, rfl⟩ := zs_rng hw (by decide)
    rcases (show w' = 0 ∨ w' = 1 ∨ w' = 2 by omega) with rfl | rfl | rfl
    · refine g_tin (off := 27) 28 dX11_forget_1 (by decide) (by decide) (by decide +kernel) (by decide) ?_
      refine g_aload_n dX11_forget_28 rfl rfl ?_
      refine g_getR 0 (1) (C := RX11) (T := TX11) (N := 18) dX11_forget_29 (by decide) rfl rfl (by decide) rfl fl_RX11_10 ?_
      refine g_getR 6 (9) (C := RX6) (T := TX6) (N := 9) dX11_forget_32 (by decide) rfl rfl (by decide) rfl fl_RX11_223 ?_
      refine g_callV (T := TX5) (NN := 3) [] (r_empty S 9 zs_Ro9) dX11_forget_35 kk_X11_forget_X5_empty ml_RX11_254 mwX5_empty ewX5_empty (by decide) rfl rfl rfl rfl (Nat.le_of_ble_eq_true rfl) ?_
      rintro _ S1 ⟨_, rfl, rfl, c2⟩
      refine g_iret dX11_forget_38 rfl rfl ?_
      exact ⟨_, rfl, (congrFun (F 9 (by decide)).1 2).trans (zs_it hw).symm, (zs_ch.rf.and c2 (by omega) (by omega))⟩
    · refine g_tin (off := 38) 39 dX11_forget_1 (by decide) (by decide) (by decide +kernel) (by decide) ?_
      refine g_aload_n dX11_forget_39 rfl rfl ?_
      refine g_getR 0 (1) (C := RX11) (T := TX11) (N := 18) dX11_forget_40 (by decide) rfl rfl (by decide) rfl fl_RX11_10 ?_
      refine g_getR 7 (11) (C := RX6) (T := TX6) (N := 9) dX11_forget_43 (by decide) rfl rfl (by decide) rfl fl_RX11_248 ?_
      refine g_callV (T := TX5) (NN := 3) [] (r_empty S 11 zs_Ro11) dX11_forget_46 kk_X11_forget_X5_empty ml_RX11_254 mwX5_empty ewX5_empty (by decide) rfl rfl rfl rfl (Nat.le_of_ble_eq_true rfl) ?_
      rintro _ S3 ⟨_, rfl, rfl, c4⟩
      refine g_iret dX11_forget_49 rfl rfl ?_
      exact ⟨_, rfl, (congrFun (F 11 (by decide)).1 2).trans (zs_it hw).symm, (zs_ch.rf.and c4 (by omega) (by omega))⟩
    · refine g_tin (off := 49) 50 dX11_forget_1 (by decide) (by decide) (by decide +kernel) (by decide) ?_
      refine g_aload_n dX11_forget_50 rfl rfl ?_
      refine g_getR 0 (1) (C := RX11) (T := TX11) (N := 18) dX11_forget_51 (by decide) rfl rfl (by decide) rfl fl_RX11_10 ?_
      refine g_getR 8 (13) (C := RX6) (T := TX6) (N := 9) dX11_forget_54 (by decide) rfl rfl (by decide) rfl fl_RX11_251 ?_
      refine g_callV (T := TX5) (NN := 3) [] (r_empty S 13 zs_Ro13) dX11_forget_57 kk_X11_forget_X5_empty ml_RX11_254 mwX5_empty ewX5_empty (by decide) rfl rfl rfl rfl (Nat.le_of_ble_eq_true rfl) ?_
      rintro _ S5 ⟨_, rfl, rfl, c6⟩
      refine g_iret dX11_forget_60 rfl rfl ?_
      exact ⟨_, rfl, (congrFun (F 13 (by decide)).1 2).trans (zs_it hw).symm, (zs_ch.rf.and c6 (by omega) (by omega))⟩
  · refine g_tout 61 dX11_forget_1 (zs_nrng hw (by decide)) (by decide) ?_
    refine g_aload_n dX11_forget_61 rfl rfl ?_
    refine g_bipush (v := (-2)) dX11_forget_62 rfl ?_
    refine g_callV (T := TX11) (NN := 18) [] (x_refuseBad S (-2)) dX11_forget_64 kk_X11_forget_X11_refuseBad ml_RX11_86 mwX11_refuseBad ewX11_refuseBad (by decide) rfl rfl rfl rfl (Nat.le_of_ble_eq_true rfl) ?_
    rintro _ _ ⟨_, rfl, rfl, rfl⟩
    refine g_iret dX11_forget_67 rfl rfl ?_
    exact ⟨_, rfl, (zs_ie hw).symm, (zs_ch.rf.up (by omega) (by omega))⟩
set_option maxRecDepth 100000 in
theorem t_status (S : zs_S) (F : zs_F0 S) (w : Int32) : zs_Ci MX11_status [.ref 0, .int w] S (fun x S2 => x = zs_if (nI 0 ≤ w ∧ w ≤ nI 2) (nI 0) (-1) ∧ zs_ch 0 80 S S2) := by
  refine zs_C.of (by decide) (Nat.le_of_ble_eq_true rfl) ?_
  show zs_P MX11_status 0 [(0, .ref 0), (1, .int w)] [] S _
  refine g_iload_n dX11_status_0 rfl rfl ?_
  by_cases hw : nI 0 ≤ w ∧ w ≤ nI 2
  · obtain ⟨w', hwa, hwb, rfl⟩ := zs_rng hw (by decide)
    rcases (show w' = 0 ∨ w' = 1 ∨ w' = 2 by omega) with rfl | rfl | rfl
    · refine g_tin (off := 27) 28 dX11_status_1 (by decide) (by decide) (by decide +kernel) (by decide) ?_
      refine g_aload_n dX11_status_28 rfl rfl ?_
      refine g_getV 8 (C := RX11) (T := TX11) (N := 18) (v := (nI 0)) dX11_status_29 (by decide) rfl rfl (by decide) rfl fl_RX11_314 (congrFun (F 0 (by decide)).1 8) ?_
      refine g_iret dX11_status_32 rfl rfl ?_
      exact ⟨_, rfl, (zs_it hw).symm, zs_ch.rf⟩
    · refine g_tin (off := 32) 33 dX11_status_1 (by decide) (by decide) (by decide +kernel) (by decide) ?_
      refine g_aload_n dX11_status_33 rfl rfl ?_
      refine g_getV 9 (C := RX11) (T := TX11) (N := 18) (v := (nI 0)) dX11_status_34 (by decide) rfl rfl (by decide) rfl fl_RX11_317 (congrFun (F 0 (by decide)).1 9) ?_
      refine g_iret dX11_status_37 rfl rfl ?_
      exact ⟨_, rfl, (zs_it hw).symm, zs_ch.rf⟩
    · refine g_tin (off := 37) 38 dX11_status_1 (by decide) (by decide) (by decide +kernel) (by decide) ?_
      refine g_aload_n dX11_status_38 rfl rfl ?_
      refine g_getV 10 (C := RX11) (T := TX11) (N := 18) (v := (nI 0)) dX11_status_39 (by decide) rfl rfl (by decide) rfl fl_RX11_320 (congrFun (F 0 (by decide)).1 10) ?_
      refine g_iret dX11_status_42 rfl rfl ?_
      exact ⟨_, rfl, (zs_it hw).symm, zs_ch.rf⟩
  · refine g_tout 43 dX11_status_1 (zs_nrng hw (by decide)) (by decide) ?_
    refine g_aload_n dX11_status_43 rfl rfl ?_
    refine g_iconst (v := (-1)) dX11_status_44 rfl ?_
    refine g_callV (T := TX11) (NN := 18) [] (x_refuseBad S (-1)) dX11_status_45 kk_X11_status_X11_refuseBad ml_RX11_86 mwX11_refuseBad ewX11_refuseBad (by decide) rfl rfl rfl rfl (Nat.le_of_ble_eq_true rfl) ?_
    rintro _ _ ⟨_, rfl, rfl, rfl⟩
    refine g_iret dX11_status_48 rfl rfl ?_
    exact ⟨_, rfl, (zs_ie hw).symm, (zs_ch.rf.up (by omega) (by omega))⟩
set_option maxRecDepth 100000 in
theorem t_image (S : zs_S) (F : zs_F0 S) (i : Int32) : zs_Ci MX11_image [.ref 0, .int i] S (fun x S2 => x = zs_if (nI 0 ≤ i ∧ i ≤ nI 1) (nI 1) (-2) ∧ zs_ch 0 80 S S2) := by
  refine zs_C.of (by decide) (Nat.le_of_ble_eq_true rfl) ?_
  show zs_P MX11_image 0 [(0, .ref 0), (1, .int i)] [] S _
  refine g_iload_n dX11_image_0 rfl rfl ?_
  refine g_iconst (v := (nI 0)) dX11_image_1 rfl ?_
  refine g_iconst (v := (nI 1)) dX11_image_2 rfl ?_
  refine g_callS [.int i, .int (nI 0), .int (nI 1)] [] (x_within S i (nI 0) (nI 1)) dX11_image_3 kk_X11_image_X11_within ml_RX11_75 swX11_within rfl rfl (Nat.le_of_ble_eq_true rfl) ?_
  rintro _ _ ⟨_, rfl, rfl, rfl⟩
  refine g_if_ne 16 dX11_image_6 (by decide) (fun h1 => ?_) (fun h1 => ?_)
  · have h1 := zs_b1 h1
    obtain ⟨i', i'a, i'b, rfl⟩ := zs_rng h1 (by omega)
    refine g_iload_n dX11_image_16 rfl rfl ?_
    refine g_if_neN 39 dX11_image_17 (by decide) (by omega) (fun h2 => ?_) (fun h2 => ?_)
    · refine g_aload_n dX11_image_39 rfl rfl ?_
      refine g_getR 2 (29) (C := RX11) (T := TX11) (N := 18) dX11_image_40 (by decide) rfl rfl (by decide) rfl fl_RX11_19 ?_
      refine g_aload_n dX11_image_43 rfl rfl ?_
      refine g_getR 0 (1) (C := RX11) (T := TX11) (N := 18) dX11_image_44 (by decide) rfl rfl (by decide) rfl fl_RX11_10 ?_
      refine g_callV (T := TX6) (NN := 9) [] (s_become S 29 1 zs_Sw29 zs_Sw1 (by decide)) dX11_image_47 kk_X11_image_X6_become ml_RX11_133 mwX6_become ewX6_become (by decide) rfl rfl rfl rfl (Nat.le_of_ble_eq_true rfl) ?_
      rintro _ S3 ⟨rfl, c4⟩
      refine g_aload_n dX11_image_50 rfl rfl ?_
      refine g_iconst (v := (nI 1)) dX11_image_51 rfl ?_
      refine g_putI 4 (C := RX11) (T := TX11) (N := 18) (ty := .boolean) dX11_image_52 (by decide) rfl rfl (by decide) rfl fl_RX11_311 rfl (by decide +kernel) ⟨rfl, rfl⟩ ?_
      refine g_iconst (v := (nI 1)) dX11_image_55 rfl ?_
      refine g_iret dX11_image_56 rfl rfl ?_
      exact ⟨_, rfl, (zs_it h1).symm, ((zs_ch.rf.and c4 (by omega) (by omega)).up (by omega) (by omega))⟩
    · refine g_aload_n dX11_image_20 rfl rfl ?_
      refine g_getR 1 (15) (C := RX11) (T := TX11) (N := 18) dX11_image_21 (by decide) rfl rfl (by decide) rfl fl_RX11_16 ?_
      refine g_aload_n dX11_image_24 rfl rfl ?_
      refine g_getR 0 (1) (C := RX11) (T := TX11) (N := 18) dX11_image_25 (by decide) rfl rfl (by decide) rfl fl_RX11_10 ?_
      refine g_callV (T := TX6) (NN := 9) [] (s_become S 15 1 zs_Sw15 zs_Sw1 (by decide)) dX11_image_28 kk_X11_image_X6_become ml_RX11_133 mwX6_become ewX6_become (by decide) rfl rfl rfl rfl (Nat.le_of_ble_eq_true rfl) ?_
      rintro _ S5 ⟨rfl, c6⟩
      refine g_aload_n dX11_image_31 rfl rfl ?_
      refine g_iconst (v := (nI 1)) dX11_image_32 rfl ?_
      refine g_putI 3 (C := RX11) (T := TX11) (N := 18) (ty := .boolean) dX11_image_33 (by decide) rfl rfl (by decide) rfl fl_RX11_307 rfl (by decide +kernel) ⟨rfl, rfl⟩ ?_
      refine g_goto 55 dX11_image_36 (by decide) ?_
      refine g_iconst (v := (nI 1)) dX11_image_55 rfl ?_
      refine g_iret dX11_image_56 rfl rfl ?_
      exact ⟨_, rfl, (zs_it h1).symm, ((zs_ch.rf.and c6 (by omega) (by omega)).up (by omega) (by omega))⟩
  · have h1 := zs_b0 h1
    refine g_aload_n dX11_image_9 rfl rfl ?_
    refine g_bipush (v := (-2)) dX11_image_10 rfl ?_
    refine g_callV (T := TX11) (NN := 18) [] (x_refuseBad S (-2)) dX11_image_12 kk_X11_image_X11_refuseBad ml_RX11_86 mwX11_refuseBad ewX11_refuseBad (by decide) rfl rfl rfl rfl (Nat.le_of_ble_eq_true rfl) ?_
    rintro _ _ ⟨_, rfl, rfl, rfl⟩
    refine g_iret dX11_image_15 rfl rfl ?_
    exact ⟨_, rfl, (zs_ie (fun q => h1 q)).symm, (zs_ch.rf.up (by omega) (by omega))⟩
set_option maxRecDepth 100000 in
theorem t_from (S : zs_S) (F : zs_F0 S) (i : Int32) : zs_Ci MX11_from [.ref 0, .int i] S (fun x S2 => x = zs_if (nI 0 ≤ i ∧ i ≤ nI 1) (-3) (-2) ∧ zs_ch 0 80 S S2) := by
  refine zs_C.of (by decide) (Nat.le_of_ble_eq_true rfl) ?_
  show zs_P MX11_from 0 [(0, .ref 0), (1, .int i)] [] S _
  refine g_iload_n dX11_from_0 rfl rfl ?_
  refine g_iconst (v := (nI 0)) dX11_from_1 rfl ?_
  refine g_iconst (v := (nI 1)) dX11_from_2 rfl ?_
  refine g_callS [.int i, .int (nI 0), .int (nI 1)] [] (x_within S i (nI 0) (nI 1)) dX11_from_3 kk_X11_from_X11_within ml_RX11_75 swX11_within rfl rfl (Nat.le_of_ble_eq_true rfl) ?_
  rintro _ _ ⟨_, rfl, rfl, rfl⟩
  refine g_if_ne 16 dX11_from_6 (by decide) (fun h1 => ?_) (fun h1 => ?_)
  · have h1 := zs_b1 h1
    obtain ⟨i', i'a, i'b, rfl⟩ := zs_rng h1 (by omega)
    refine g_iload_n dX11_from_16 rfl rfl ?_
    refine g_if_neN 27 dX11_from_17 (by decide) (by omega) (fun h2 => ?_) (fun h2 => ?_)
    · refine g_aload_n dX11_from_27 rfl rfl ?_
      refine g_getV 4 (C := RX11) (T := TX11) (N := 18) (v := (nI 0)) dX11_from_28 (by decide) rfl rfl (by decide) rfl fl_RX11_311 (congrFun (F 0 (by decide)).1 4) ?_
      refine g_istore_n (lv' := [(2, .int (nI 0)), (0, .ref 0), (1, .int (nI i'))]) dX11_from_31 rfl (by decide) rfl ?_
      refine g_iload_n dX11_from_32 rfl rfl ?_
      refine g_if_neN 41 dX11_from_33 (by decide) (by omega) (fun z => absurd z (by omega)) (fun _ => ?_)
      refine g_aload_n dX11_from_36 rfl rfl ?_
      refine g_callV (T := TX11) (NN := 18) [] (x_refuseNo S) dX11_from_37 kk_X11_from_X11_refuseNo ml_RX11_156 mwX11_refuseNo ewX11_refuseNo (by decide) rfl rfl rfl rfl (Nat.le_of_ble_eq_true rfl) ?_
      rintro _ _ ⟨_, rfl, rfl, rfl⟩
      refine g_iret dX11_from_40 rfl rfl ?_
      exact ⟨_, rfl, (zs_it h1).symm, (zs_ch.rf.up (by omega) (by omega))⟩
    · refine g_aload_n dX11_from_20 rfl rfl ?_
      refine g_getV 3 (C := RX11) (T := TX11) (N := 18) (v := (nI 0)) dX11_from_21 (by decide) rfl rfl (by decide) rfl fl_RX11_307 (congrFun (F 0 (by decide)).1 3) ?_
      refine g_goto 31 dX11_from_24 (by decide) ?_
      refine g_istore_n (lv' := [(2, .int (nI 0)), (0, .ref 0), (1, .int (nI i'))]) dX11_from_31 rfl (by decide) rfl ?_
      refine g_iload_n dX11_from_32 rfl rfl ?_
      refine g_if_neN 41 dX11_from_33 (by decide) (by omega) (fun z => absurd z (by omega)) (fun _ => ?_)
      refine g_aload_n dX11_from_36 rfl rfl ?_
      refine g_callV (T := TX11) (NN := 18) [] (x_refuseNo S) dX11_from_37 kk_X11_from_X11_refuseNo ml_RX11_156 mwX11_refuseNo ewX11_refuseNo (by decide) rfl rfl rfl rfl (Nat.le_of_ble_eq_true rfl) ?_
      rintro _ _ ⟨_, rfl, rfl, rfl⟩
      refine g_iret dX11_from_40 rfl rfl ?_
      exact ⟨_, rfl, (zs_it h1).symm, (zs_ch.rf.up (by omega) (by omega))⟩
  · have h1 := zs_b0 h1
    refine g_aload_n dX11_from_9 rfl rfl ?_
    refine g_bipush (v := (-2)) dX11_from_10 rfl ?_
    refine g_callV (T := TX11) (NN := 18) [] (x_refuseBad S (-2)) dX11_from_12 kk_X11_from_X11_refuseBad ml_RX11_86 mwX11_refuseBad ewX11_refuseBad (by decide) rfl rfl rfl rfl (Nat.le_of_ble_eq_true rfl) ?_
    rintro _ _ ⟨_, rfl, rfl, rfl⟩
    refine g_iret dX11_from_15 rfl rfl ?_
    exact ⟨_, rfl, (zs_ie (fun q => h1 q)).symm, (zs_ch.rf.up (by omega) (by omega))⟩
