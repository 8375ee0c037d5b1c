/-! OF THE KINDS LEFT, THE MOST THAT AGREE -/
def zs_kt (v : Nat → Nat) (b : Nat) : Nat → List Nat
  | 0 => []
  | k + 1 => if b / 2 ^ k % 2 = 1 then v k :: zs_kt v b k else zs_kt v b k
theorem zs_ktT {v : Nat → Nat} {b k : Nat} (h : b / 2 ^ k % 2 = 1) : zs_kt v b (k + 1) = v k :: zs_kt v b k := if_pos h
theorem zs_ktF {v : Nat → Nat} {b k : Nat} (h : ¬ b / 2 ^ k % 2 = 1) : zs_kt v b (k + 1) = zs_kt v b k := if_neg h
theorem zs_kt_len (v : Nat → Nat) (b : Nat) : ∀ k, (zs_kt v b k).length ≤ k := by
  intro k
  induction k with
  | zero => exact Nat.le_refl 0
  | succ k ih =>
    by_cases h : b / 2 ^ k % 2 = 1
    · rw [zs_ktT h]; exact Nat.succ_le_succ ih
    · rw [zs_ktF h]; omega
theorem zs_ktB {v : Nat → Nat} {b k : Nat} (hk : k ≤ 6) : (∀ j, (zs_tg (zs_kt v b k)).1 j ≤ 6) ∧ (zs_tg (zs_kt v b k)).2 ≤ 6 := by
  have h1 := zs_tg_le (zs_kt v b k)
  have h2 := zs_kt_len v b k
  exact ⟨fun j => by have := h1.1 j; omega, by have := h1.2; omega⟩
def zs_kn (v : Nat → Nat) (b a : Nat) : Nat → Nat
  | 0 => 0
  | j + 1 => zs_kn v b a j + (if (b / 2 ^ a % 2 = 1 ∧ b / 2 ^ j % 2 = 1) ∧ v a = v j then 1 else 0)
theorem zs_kn1 {v : Nat → Nat} {b a j : Nat} (h : (b / 2 ^ a % 2 = 1 ∧ b / 2 ^ j % 2 = 1) ∧ v a = v j) : zs_kn v b a (j + 1) = zs_kn v b a j + 1 := by
  show zs_kn v b a j + _ = _
  rw [if_pos h]
theorem zs_kn0 {v : Nat → Nat} {b a j : Nat} (h : ¬ ((b / 2 ^ a % 2 = 1 ∧ b / 2 ^ j % 2 = 1) ∧ v a = v j)) : zs_kn v b a (j + 1) = zs_kn v b a j + 0 := by
  show zs_kn v b a j + _ = _
  rw [if_neg h]
theorem zs_knB (v : Nat → Nat) (b a : Nat) : ∀ j, zs_kn v b a j ≤ j
  | 0 => Nat.le_refl 0
  | j + 1 => by
    have := zs_knB v b a j
    show zs_kn v b a j + _ ≤ j + 1
    split <;> omega
def zs_km (v : Nat → Nat) (b : Nat) : Nat → Nat
  | 0 => 0
  | a + 1 => max (zs_km v b a) (zs_kn v b a 6)
theorem zs_kmB (v : Nat → Nat) (b : Nat) : ∀ a, zs_km v b a ≤ 6
  | 0 => Nat.zero_le 6
  | a + 1 => by
    have h1 := zs_kmB v b a
    have h2 := zs_knB v b a 6
    show max _ _ ≤ 6
    omega
theorem zs_kn_tg {v : Nat → Nat} {b a : Nat} (ha : b / 2 ^ a % 2 = 1) : ∀ n, zs_kn v b a n = (zs_tg (zs_kt v b n)).1 (v a) := by
  intro n
  induction n with
  | zero => rfl
  | succ n ih =>
    by_cases hn : b / 2 ^ n % 2 = 1
    · rw [zs_ktT hn]
      show _ = if v a = v n then (zs_tg (zs_kt v b n)).1 (v a) + 1 else (zs_tg (zs_kt v b n)).1 (v a)
      by_cases e : v a = v n
      · rw [zs_kn1 ⟨⟨ha, hn⟩, e⟩, if_pos e, ih]
      · rw [zs_kn0 (fun z => e z.2), if_neg e, ih]; rfl
    · rw [zs_ktF hn, zs_kn0 (fun z => hn z.1.2), ih]; rfl
theorem zs_kn_no {v : Nat → Nat} {b a : Nat} (ha : ¬ b / 2 ^ a % 2 = 1) : ∀ n, zs_kn v b a n = 0 := by
  intro n
  induction n with
  | zero => rfl
  | succ n ih => rw [zs_kn0 (fun z => ha z.1.1), ih]
theorem zs_tgM : ∀ l : List Nat, (∀ x, (zs_tg l).1 x ≤ (zs_tg l).2) ∧ ((zs_tg l).2 = 0 ∨ ∃ x, (zs_tg l).1 x = (zs_tg l).2) := by
  intro l
  induction l with
  | nil => exact ⟨fun _ => Nat.le_refl 0, Or.inl rfl⟩
  | cons x l ih =>
    have e2 : (zs_tg (x :: l)).2 = max (zs_tg l).2 ((zs_tg l).1 x + 1) := rfl
    have e1 : ∀ j, (zs_tg (x :: l)).1 j = if j = x then (zs_tg l).1 j + 1 else (zs_tg l).1 j := fun j => rfl
    refine ⟨fun j => ?_, ?_⟩
    · rw [e1, e2]
      have := ih.1 j
      by_cases e : j = x
      · rw [if_pos e, e]; omega
      · rw [if_neg e]; omega
    · refine Or.inr ?_
      by_cases h : (zs_tg l).2 ≤ (zs_tg l).1 x
      · refine ⟨x, ?_⟩
        rw [e1, if_pos rfl, e2]; omega
      · rcases ih.2 with z | ⟨y, hy⟩
        · omega
        · refine ⟨y, ?_⟩
          rw [e1, if_neg (fun z => by rw [z] at hy; omega), e2]; omega
theorem zs_tg_mem {v : Nat → Nat} {b x : Nat} : ∀ n, 1 ≤ (zs_tg (zs_kt v b n)).1 x → ∃ a, a < n ∧ b / 2 ^ a % 2 = 1 ∧ v a = x := by
  intro n
  induction n with
  | zero => intro h; exact absurd h (Nat.not_succ_le_zero 0)
  | succ n ih =>
    intro h
    by_cases hn : b / 2 ^ n % 2 = 1
    · by_cases e : x = v n
      · exact ⟨n, by omega, hn, e.symm⟩
      · rw [zs_ktT hn] at h
        have h2 : 1 ≤ (zs_tg (zs_kt v b n)).1 x := by
          have e3 : (zs_tg (v n :: zs_kt v b n)).1 x = (zs_tg (zs_kt v b n)).1 x := if_neg e
          omega
        obtain ⟨a, h3, h4⟩ := ih h2
        exact ⟨a, by omega, h4⟩
    · rw [zs_ktF hn] at h
      obtain ⟨a, h3, h4⟩ := ih h
      exact ⟨a, by omega, h4⟩
theorem zs_km_ge {v : Nat → Nat} {b a : Nat} : ∀ n, a < n → zs_kn v b a 6 ≤ zs_km v b n := by
  intro n
  induction n with
  | zero => intro h; exact absurd h (Nat.not_lt_zero _)
  | succ n ih =>
    intro h
    show _ ≤ max (zs_km v b n) (zs_kn v b n 6)
    by_cases e : a = n
    · rw [e]; omega
    · have := ih (by omega); omega
theorem zs_km_le {v : Nat → Nat} {b X : Nat} (h : ∀ a, zs_kn v b a 6 ≤ X) : ∀ n, zs_km v b n ≤ X := by
  intro n
  induction n with
  | zero => exact Nat.zero_le _
  | succ n ih =>
    show max (zs_km v b n) (zs_kn v b n 6) ≤ X
    have := h n
    omega
theorem zs_km_mst {v : Nat → Nat} {b : Nat} : zs_km v b 6 = (zs_tg (zs_kt v b 6)).2 := by
  have hM := zs_tgM (zs_kt v b 6)
  refine Nat.le_antisymm (zs_km_le (fun a => ?_) 6) ?_
  · by_cases ha : b / 2 ^ a % 2 = 1
    · rw [zs_kn_tg ha]; exact hM.1 _
    · rw [zs_kn_no ha]; exact Nat.zero_le _
  · rcases hM.2 with z | ⟨x, hx⟩
    · rw [z]; exact Nat.zero_le _
    · by_cases z : (zs_tg (zs_kt v b 6)).2 = 0
      · rw [z]; exact Nat.zero_le _
      · obtain ⟨a, h1, h2, h3⟩ := zs_tg_mem (v := v) (b := b) (x := x) 6 (by omega)
        have h4 := zs_km_ge (v := v) (b := b) 6 h1
        rw [zs_kn_tg h2, h3] at h4
        omega
/-! THE FIRST WITH THE FEWEST -/
def zs_kg (f c : Nat → Nat) (w : Nat) : Nat → Int32 × Nat
  | 0 => (-1, w)
  | t + 1 => if f t < (zs_kg f c w t).2 then (nI (c t), f t) else zs_kg f c w t
theorem zs_kgT {f c : Nat → Nat} {w t : Nat} (h : f t < (zs_kg f c w t).2) : zs_kg f c w (t + 1) = (nI (c t), f t) := if_pos h
theorem zs_kgF {f c : Nat → Nat} {w t : Nat} (h : ¬ f t < (zs_kg f c w t).2) : zs_kg f c w (t + 1) = zs_kg f c w t := if_neg h
theorem zs_kgB {f c : Nat → Nat} {w : Nat} : ∀ t, (zs_kg f c w t).2 ≤ w := by
  intro t
  induction t with
  | zero => exact Nat.le_refl w
  | succ t ih =>
    by_cases h : f t < (zs_kg f c w t).2
    · rw [zs_kgT h]; show f t ≤ w; omega
    · rw [zs_kgF h]; exact ih
theorem zs_kgw {f c : Nat → Nat} (h : ∀ t, f t ≤ 6) : ∀ t, zs_kg f c 1000000 (t + 1) = zs_kg f c 99 (t + 1) := by
  intro t
  induction t with
  | zero =>
    have := h 0
    rw [zs_kgT (show f 0 < 1000000 by omega), zs_kgT (show f 0 < 99 by omega)]
  | succ t ih =>
    by_cases z : f (t + 1) < (zs_kg f c 99 (t + 1)).2
    · rw [zs_kgT z, zs_kgT (by rw [ih]; exact z)]
    · rw [zs_kgF z, zs_kgF (by rw [ih]; exact z), ih]
def zs_gas (b t : Nat) : Nat := (zs_tg (zs_kt (fun i => zs_pas i (t / 20) (t % 20)) b 6)).2
def zs_ca (t : Nat) : Nat := 100 * (t / 20) + t % 20
def zs_glk (b t : Nat) : Nat := (zs_tg (zs_kt (fun i => zs_sit i (t / 10) (t % 10)) b 6)).2
def zs_cl (t : Nat) : Nat := t
theorem zs_gas6 {b t : Nat} : zs_gas b t ≤ 6 := (zs_ktB (Nat.le_refl 6)).2
theorem zs_glk6 {b t : Nat} : zs_glk b t ≤ 6 := (zs_ktB (Nat.le_refl 6)).2
def zs_akn (b : Nat) : Int32 := if b = 0 then (-1) else (zs_kg (zs_gas b) zs_ca 99 240).1
def zs_lkn (b : Nat) : Int32 := if b = 0 then (-1) else (zs_kg (zs_glk b) zs_cl 99 100).1
theorem zs_ca_at {s k : Nat} (hk : k < 20) : zs_ca (20 * s + k) = 100 * s + k := by unfold zs_ca; omega
theorem zs_gas_at {b s k : Nat} (hk : k < 20) : zs_gas b (20 * s + k) = (zs_tg (zs_kt (fun i => zs_pas i s k) b 6)).2 := by
  unfold zs_gas
  rw [show (20 * s + k) / 20 = s by omega, show (20 * s + k) % 20 = k by omega]
theorem zs_hbN : ∀ k, k < 6 → ∀ b, b < 64 → (((nI b >>> (nI k &&& 31)) &&& nI 1 = nI 1) ↔ b / 2 ^ k % 2 = 1) := by decide +kernel
theorem z_hasN (S : zs_S) (b k : Nat) (hb : b < 64) (hk : k < 6) : zs_Ci MX12_has [.int (nI b), .int (nI k)] S (fun x S2 => x = zs_b (b / 2 ^ k % 2 = 1) ∧ S = S2) := (z_has S (nI b) (nI k)).mono (fun _ _ q => by
  obtain ⟨x, rfl, rfl, rfl⟩ := q
  exact ⟨_, rfl, congrArg zs_b (propext (zs_hbN k hk b hb)), rfl⟩)
set_option maxRecDepth 100000 in
theorem x_hasB (S : zs_S) (b k : Nat) (hb : b < 64) (hk : k < 6) : zs_Ci MX11_hasBit [.int (nI b), .int (nI k)] S (fun x S2 => x = zs_b (b / 2 ^ k % 2 = 1) ∧ S = S2) := by
  refine zs_C.of (by decide) (Nat.le_of_ble_eq_true rfl) ?_
  show zs_P MX11_hasBit 0 [(0, .int (nI b)), (1, .int (nI k))] [] S _
  refine g_iload_n dX11_hasBit_0 rfl rfl ?_
  refine g_iload_n dX11_hasBit_1 rfl rfl ?_
  refine g_ishr dX11_hasBit_2 ?_
  refine g_iconst (v := (nI 1)) dX11_hasBit_3 rfl ?_
  refine g_iand dX11_hasBit_4 ?_
  refine g_iconst (v := (nI 1)) dX11_hasBit_5 rfl ?_
  refine g_ic_ne 13 dX11_hasBit_6 (by decide) (fun h1 => ?_) (fun h1 => ?_)
  · refine g_iconst (v := (nI 0)) dX11_hasBit_13 rfl ?_
    refine g_iret dX11_hasBit_14 rfl rfl ?_
    exact ⟨_, rfl, (zs_bf (fun z => h1 ((zs_hbN k hk b hb).mpr z))).symm, rfl⟩
  · refine g_iconst (v := (nI 1)) dX11_hasBit_9 rfl ?_
    refine g_goto 14 dX11_hasBit_10 (by decide) ?_
    refine g_iret dX11_hasBit_14 rfl rfl ?_
    exact ⟨_, rfl, (zs_bt ((zs_hbN k hk b hb).mp h1)).symm, rfl⟩
set_option maxRecDepth 100000 in
theorem c_tp_l (S0 : zs_S) (b : Nat) (hb : b < 64) (s k : Nat) (hs : s < 12) (hk : k < 20) (Q : Option Value → zs_S → Prop) (hq : ∀ S, zs_ch 73 75 S0 S → S.1 73 1 = nI (zs_tg (zs_kt (fun i => zs_pas i s k) b 6)).2 → Q none S) : ∀ (d i : Nat), i + d = 6 → ∀ S, zs_ch 73 75 S0 S → zs_ta S (zs_tg (zs_kt (fun i => zs_pas i s k) b i)).1 (zs_tg (zs_kt (fun i => zs_pas i s k) b i)).2 → zs_P MX11_tallyPassing 10 [(4, .int (nI i)), (0, .ref 0), (1, .int (nI b)), (2, .int (nI s)), (3, .int (nI k))] [] S Q := by
  intro d
  induction d with
  | zero =>
    intro i hi S hc ht
    obtain rfl : i = 6 := by omega
    refine g_iload dX11_tallyPassing_10 rfl ?_
    refine g_bipush (v := (nI 6)) dX11_tallyPassing_12 rfl ?_
    refine g_ic_geN 46 dX11_tallyPassing_14 (by decide) (by omega) (by omega) (fun _ => ?_) (fun z => absurd z (by omega))
    refine g_ret dX11_tallyPassing_46 rfl ?_
    exact hq S hc ht.2
  | succ d ih =>
    intro i hi S hc ht
    refine g_iload dX11_tallyPassing_10 rfl ?_
    refine g_bipush (v := (nI 6)) dX11_tallyPassing_12 rfl ?_
    refine g_ic_geN 46 dX11_tallyPassing_14 (by decide) (by omega) (by omega) (fun z => absurd z (by omega)) (fun _ => ?_)
    refine g_iload_n dX11_tallyPassing_17 rfl rfl ?_
    refine g_iload dX11_tallyPassing_18 rfl ?_
    refine g_callS [.int (nI b), .int (nI i)] [] (x_hasB S b i hb (by omega)) dX11_tallyPassing_20 kk_X11_tallyPassing_X11_hasBit ml_RX11_360 swX11_hasBit rfl rfl (Nat.le_of_ble_eq_true rfl) ?_
    rintro _ _ ⟨_, rfl, rfl, rfl⟩
    refine g_if_eq 40 dX11_tallyPassing_23 (by decide) (fun h1 => ?_) (fun h1 => ?_)
    · have h1 := zs_b0 h1
      refine g_iinc (v := (nI (i + 1))) (lv' := [(4, .int (nI (i + 1))), (0, .ref 0), (1, .int (nI b)), (2, .int (nI s)), (3, .int (nI k))]) dX11_tallyPassing_40 rfl (nI_1 i) (by decide) rfl ?_
      refine g_goto 10 dX11_tallyPassing_43 (by decide) ?_
      exact (ih (i + 1) (by omega) S hc (by rw [zs_ktF (v := (fun i => zs_pas i s k)) h1]; exact ht)).lv (zs_mc 0 rfl (zs_mc 1 rfl (zs_mc 2 rfl (zs_mc 3 rfl (zs_mc 4 rfl zs_mn)))))
    · have h1 := zs_b1 h1
      refine g_aload_n dX11_tallyPassing_26 rfl rfl ?_
      refine g_getR 14 (73) (C := RX11) (T := TX11) (N := 18) dX11_tallyPassing_27 (by decide) rfl rfl (by decide) rfl fl_RX11_57 ?_
      refine g_iload dX11_tallyPassing_30 rfl ?_
      refine g_iload_n dX11_tallyPassing_32 rfl rfl ?_
      refine g_iload_n dX11_tallyPassing_33 rfl rfl ?_
      refine g_callS [.int (nI i), .int (nI s), .int (nI k)] [.ref 73] (x_passing S i s k (by omega) (by omega) (by omega)) dX11_tallyPassing_34 kk_X11_tallyPassing_X2_passing ml_RX11_368 swX2_passing rfl rfl (Nat.le_of_ble_eq_true rfl) ?_
      rintro _ _ ⟨_, rfl, rfl, rfl⟩
      refine g_callV (T := TX9) (NN := 2) [] (y_tadd S (zs_tg (zs_kt (fun i => zs_pas i s k) b i)).1 (zs_tg (zs_kt (fun i => zs_pas i s k) b i)).2 (zs_pas i s k) (zs_pas_lt hs) (Nat.lt_of_le_of_lt (zs_ktB (by omega)).2 (by omega)) (fun j => Nat.lt_of_le_of_lt ((zs_ktB (by omega)).1 j) (by omega)) ht) dX11_tallyPassing_37 kk_X11_tallyPassing_X9_add ml_RX11_363 mwX9_add ewX9_add (by decide) rfl rfl rfl rfl (Nat.le_of_ble_eq_true rfl) ?_
      rintro _ S2 ⟨rfl, c2, t2⟩
      refine g_iinc (v := (nI (i + 1))) (lv' := [(4, .int (nI (i + 1))), (0, .ref 0), (1, .int (nI b)), (2, .int (nI s)), (3, .int (nI k))]) dX11_tallyPassing_40 rfl (nI_1 i) (by decide) rfl ?_
      refine g_goto 10 dX11_tallyPassing_43 (by decide) ?_
      exact (ih (i + 1) (by omega) S2 (hc.trans c2) (by rw [zs_ktT (v := (fun i => zs_pas i s k)) h1]; exact t2)).lv (zs_mc 0 rfl (zs_mc 1 rfl (zs_mc 2 rfl (zs_mc 3 rfl (zs_mc 4 rfl zs_mn)))))
set_option maxRecDepth 100000 in
theorem c_tallyPassing (S : zs_S) (b : Nat) (hb : b < 64) (s k : Nat) (hs : s < 12) (hk : k < 20) : zs_Cv MX11_tallyPassing [.ref 0, .int (nI b), .int (nI s), .int (nI k)] S (fun S2 => zs_ch 73 75 S S2 ∧ S2.1 73 1 = nI (zs_gas b (20 * s + k))) := by
  refine zs_C.of (by decide) (Nat.le_of_ble_eq_true rfl) ?_
  show zs_P MX11_tallyPassing 0 [(0, .ref 0), (1, .int (nI b)), (2, .int (nI s)), (3, .int (nI k))] [] S _
  refine g_aload_n dX11_tallyPassing_0 rfl rfl ?_
  refine g_getR 14 (73) (C := RX11) (T := TX11) (N := 18) dX11_tallyPassing_1 (by decide) rfl rfl (by decide) rfl fl_RX11_57 ?_
  refine g_callV (T := TX9) (NN := 2) [] (y_tbegin S) dX11_tallyPassing_4 kk_X11_tallyPassing_X9_begin ml_RX11_358 mwX9_begin ewX9_begin (by decide) rfl rfl rfl rfl (Nat.le_of_ble_eq_true rfl) ?_
  rintro _ S1 ⟨rfl, c1, t1⟩
  refine g_iconst (v := (nI 0)) dX11_tallyPassing_7 rfl ?_
  refine g_istore (lv' := [(4, .int (nI 0)), (0, .ref 0), (1, .int (nI b)), (2, .int (nI s)), (3, .int (nI k))]) dX11_tallyPassing_8 (by decide) rfl ?_
  exact (c_tp_l S b hb s k hs hk _ (fun S2 h2 e2 => ⟨rfl, h2, by rw [zs_gas_at hk]; exact e2⟩) 6 0 (by omega) S1 c1 t1).lv (zs_mc 0 rfl (zs_mc 1 rfl (zs_mc 2 rfl (zs_mc 3 rfl (zs_mc 4 rfl zs_mn)))))
set_option maxRecDepth 100000 in
theorem c_ask_k (S0 : zs_S) (b s : Nat) (hb : b < 64) (hs : s < 12) (Q : Option Value → zs_S → Prop) (hk : ∀ S, zs_ch 73 75 S0 S → zs_P MX11_bestAsk 68 [(5, .int (nI 20)), (4, .int (nI s)), (3, .int (nI ((zs_kg (zs_gas b) zs_ca 1000000 (20 * s + 20)).2))), (2, .int ((zs_kg (zs_gas b) zs_ca 1000000 (20 * s + 20)).1)), (0, .ref 0), (1, .int (nI b))] [] S Q) : ∀ (d k : Nat), k + d = 20 → ∀ S, zs_ch 73 75 S0 S → zs_P MX11_bestAsk 18 [(5, .int (nI k)), (4, .int (nI s)), (3, .int (nI ((zs_kg (zs_gas b) zs_ca 1000000 (20 * s + k)).2))), (2, .int ((zs_kg (zs_gas b) zs_ca 1000000 (20 * s + k)).1)), (0, .ref 0), (1, .int (nI b))] [] S Q := by
  intro d
  induction d with
  | zero =>
    intro k hk0 S hc
    obtain rfl : k = 20 := by omega
    refine g_iload dX11_bestAsk_18 rfl ?_
    refine g_bipush (v := (nI 20)) dX11_bestAsk_20 rfl ?_
    refine g_ic_geN 68 dX11_bestAsk_22 (by decide) (by omega) (by omega) (fun _ => ?_) (fun z => absurd z (by omega))
    exact hk S hc
  | succ d ih =>
    intro k hk0 S hc
    refine g_iload dX11_bestAsk_18 rfl ?_
    refine g_bipush (v := (nI 20)) dX11_bestAsk_20 rfl ?_
    refine g_ic_geN 68 dX11_bestAsk_22 (by decide) (by omega) (by omega) (fun z => absurd z (by omega)) (fun _ => ?_)
    refine g_aload_n dX11_bestAsk_25 rfl rfl ?_
    refine g_iload_n dX11_bestAsk_26 rfl rfl ?_
    refine g_iload dX11_bestAsk_27 rfl ?_
    refine g_iload dX11_bestAsk_29 rfl ?_
    refine g_callV (T := TX11) (NN := 18) [] (c_tallyPassing S b hb s k hs (by omega)) dX11_bestAsk_31 kk_X11_bestAsk_X11_tallyPassing ml_RX11_373 mwX11_tallyPassing ewX11_tallyPassing (by decide) rfl rfl rfl rfl (Nat.le_of_ble_eq_true rfl) ?_
    rintro _ S2 ⟨rfl, c2, e2⟩
    have hbb : (zs_kg (zs_gas b) zs_ca 1000000 (20 * s + k)).2 ≤ 1000000 := zs_kgB _
    have hm6 : zs_gas b (20 * s + k) ≤ 6 := zs_gas6
    refine g_aload_n dX11_bestAsk_34 rfl rfl ?_
    refine g_getR 14 (73) (C := RX11) (T := TX11) (N := 18) dX11_bestAsk_35 (by decide) rfl rfl (by decide) rfl fl_RX11_57 ?_
    refine g_getV 1 (C := RX9) (T := TX9) (N := 2) (v := (nI (zs_gas b (20 * s + k)))) dX11_bestAsk_38 (by decide) rfl rfl (by decide) rfl fl_RX11_245 e2 ?_
    refine g_iload_n dX11_bestAsk_41 rfl rfl ?_
    refine g_ic_geN 62 dX11_bestAsk_42 (by decide) (by omega) (by omega) (fun h1 => ?_) (fun h1 => ?_)
    · refine g_iinc (v := (nI (k + 1))) (lv' := [(5, .int (nI (k + 1))), (4, .int (nI s)), (3, .int (nI ((zs_kg (zs_gas b) zs_ca 1000000 (20 * s + k)).2))), (2, .int ((zs_kg (zs_gas b) zs_ca 1000000 (20 * s + k)).1)), (0, .ref 0), (1, .int (nI b))]) dX11_bestAsk_62 rfl (nI_1 k) (by decide) rfl ?_
      refine g_goto 18 dX11_bestAsk_65 (by decide) ?_
      have e3 : (zs_kg (zs_gas b) zs_ca 1000000 (20 * s + (k + 1))) = (zs_kg (zs_gas b) zs_ca 1000000 (20 * s + k)) := zs_kgF (f := zs_gas b) (c := zs_ca) (w := 1000000) (t := 20 * s + k) (by omega)
      have ih := ih (k + 1) (by omega) S2 (hc.trans c2)
      rw [e3] at ih
      exact ih.lv (zs_mc 0 rfl (zs_mc 1 rfl (zs_mc 2 rfl (zs_mc 3 rfl (zs_mc 4 rfl (zs_mc 5 rfl zs_mn))))))
    · refine g_aload_n dX11_bestAsk_45 rfl rfl ?_
      refine g_getR 14 (73) (C := RX11) (T := TX11) (N := 18) dX11_bestAsk_46 (by decide) rfl rfl (by decide) rfl fl_RX11_57 ?_
      refine g_getV 1 (C := RX9) (T := TX9) (N := 2) (v := (nI (zs_gas b (20 * s + k)))) dX11_bestAsk_49 (by decide) rfl rfl (by decide) rfl fl_RX11_245 e2 ?_
      refine g_istore_n (lv' := [(3, .int (nI (zs_gas b (20 * s + k)))), (5, .int (nI k)), (4, .int (nI s)), (2, .int ((zs_kg (zs_gas b) zs_ca 1000000 (20 * s + k)).1)), (0, .ref 0), (1, .int (nI b))]) dX11_bestAsk_52 rfl (by decide) rfl ?_
      refine g_bipush (v := (nI 100)) dX11_bestAsk_53 rfl ?_
      refine g_iload dX11_bestAsk_55 rfl ?_
      refine g_imulN dX11_bestAsk_57 ?_
      refine g_iload dX11_bestAsk_58 rfl ?_
      refine g_iaddN dX11_bestAsk_60 ?_
      refine g_istore_n (lv' := [(2, .int (nI ((100 * s) + k))), (3, .int (nI (zs_gas b (20 * s + k)))), (5, .int (nI k)), (4, .int (nI s)), (0, .ref 0), (1, .int (nI b))]) dX11_bestAsk_61 rfl (by decide) rfl ?_
      refine g_iinc (v := (nI (k + 1))) (lv' := [(5, .int (nI (k + 1))), (2, .int (nI ((100 * s) + k))), (3, .int (nI (zs_gas b (20 * s + k)))), (4, .int (nI s)), (0, .ref 0), (1, .int (nI b))]) dX11_bestAsk_62 rfl (nI_1 k) (by decide) rfl ?_
      refine g_goto 18 dX11_bestAsk_65 (by decide) ?_
      have e3 : (zs_kg (zs_gas b) zs_ca 1000000 (20 * s + (k + 1))) = (nI (100 * s + k), zs_gas b (20 * s + k)) := (zs_kgT (f := zs_gas b) (c := zs_ca) (w := 1000000) (t := 20 * s + k) (by omega)).trans (by rw [zs_ca_at (by omega)])
      have ih := ih (k + 1) (by omega) S2 (hc.trans c2)
      rw [e3] at ih
      exact ih.lv (zs_mc 0 rfl (zs_mc 3 rfl (zs_mc 2 rfl (zs_mc 1 rfl (zs_mc 4 rfl (zs_mc 5 rfl zs_mn))))))
set_option maxRecDepth 100000 in
theorem c_ask_s (S0 : zs_S) (b : Nat) (hb : b < 64) (Q : Option Value → zs_S → Prop) (hq : ∀ S, zs_ch 73 75 S0 S → Q (some (.int (zs_kg (zs_gas b) zs_ca 1000000 (20 * 12)).1)) S) : ∀ (d s : Nat), s + d = 12 → ∀ S, zs_ch 73 75 S0 S → zs_P MX11_bestAsk 8 [(4, .int (nI s)), (3, .int (nI ((zs_kg (zs_gas b) zs_ca 1000000 (20 * s)).2))), (2, .int ((zs_kg (zs_gas b) zs_ca 1000000 (20 * s)).1)), (0, .ref 0), (1, .int (nI b))] [] S Q := by
  intro d
  induction d with
  | zero =>
    intro s hs0 S hc
    obtain rfl : s = 12 := by omega
    refine g_iload dX11_bestAsk_8 rfl ?_
    refine g_bipush (v := (nI 12)) dX11_bestAsk_10 rfl ?_
    refine g_ic_geN 74 dX11_bestAsk_12 (by decide) (by omega) (by omega) (fun _ => ?_) (fun z => absurd z (by omega))
    refine g_iload_n dX11_bestAsk_74 rfl rfl ?_
    refine g_iret dX11_bestAsk_75 rfl rfl ?_
    exact hq S hc
  | succ d ih =>
    intro s hs0 S hc
    refine g_iload dX11_bestAsk_8 rfl ?_
    refine g_bipush (v := (nI 12)) dX11_bestAsk_10 rfl ?_
    refine g_ic_geN 74 dX11_bestAsk_12 (by decide) (by omega) (by omega) (fun z => absurd z (by omega)) (fun _ => ?_)
    refine g_iconst (v := (nI 0)) dX11_bestAsk_15 rfl ?_
    refine g_istore (lv' := [(5, .int (nI 0)), (4, .int (nI s)), (3, .int (nI ((zs_kg (zs_gas b) zs_ca 1000000 (20 * s)).2))), (2, .int ((zs_kg (zs_gas b) zs_ca 1000000 (20 * s)).1)), (0, .ref 0), (1, .int (nI b))]) dX11_bestAsk_16 (by decide) rfl ?_
    refine (c_ask_k S0 b s hb (by omega) _ (fun S1 h1 => ?_) 20 0 (by omega) S hc).lv (zs_mc 0 rfl (zs_mc 1 rfl (zs_mc 2 rfl (zs_mc 3 rfl (zs_mc 4 rfl (zs_mc 5 rfl zs_mn))))))
    refine g_iinc (v := (nI (s + 1))) (lv' := [(4, .int (nI (s + 1))), (5, .int (nI 20)), (3, .int (nI ((zs_kg (zs_gas b) zs_ca 1000000 (20 * s + 20)).2))), (2, .int ((zs_kg (zs_gas b) zs_ca 1000000 (20 * s + 20)).1)), (0, .ref 0), (1, .int (nI b))]) dX11_bestAsk_68 rfl (nI_1 s) (by decide) rfl ?_
    refine g_goto 8 dX11_bestAsk_71 (by decide) ?_
    have ih := ih (s + 1) (by omega) S1 h1
    rw [show 20 * (s + 1) = 20 * s + 20 by omega] at ih
    exact ih.lv (zs_mc 0 rfl (zs_mc 2 rfl (zs_mc 3 rfl (zs_mc 4 rfl (zs_mc 5 rfl zs_mn)))))
set_option maxRecDepth 100000 in
theorem c_bestAsk (S : zs_S) (b : Nat) (hb : b < 64) : zs_Ci MX11_bestAsk [.ref 0, .int (nI b)] S (fun x S2 => x = (zs_kg (zs_gas b) zs_ca 99 240).1 ∧ zs_ch 73 75 S S2) := by
  refine zs_C.of (by decide) (Nat.le_of_ble_eq_true rfl) ?_
  show zs_P MX11_bestAsk 0 [(0, .ref 0), (1, .int (nI b))] [] S _
  refine g_iconst (v := (-1)) dX11_bestAsk_0 rfl ?_
  refine g_istore_n (lv' := [(2, .int (-1)), (0, .ref 0), (1, .int (nI b))]) dX11_bestAsk_1 rfl (by decide) rfl ?_
  refine g_ldc (v := (nI 1000000)) dX11_bestAsk_2 cl_RX11_240 ?_
  refine g_istore_n (lv' := [(3, .int (nI 1000000)), (2, .int (-1)), (0, .ref 0), (1, .int (nI b))]) dX11_bestAsk_4 rfl (by decide) rfl ?_
  refine g_iconst (v := (nI 0)) dX11_bestAsk_5 rfl ?_
  refine g_istore (lv' := [(4, .int (nI 0)), (3, .int (nI 1000000)), (2, .int (-1)), (0, .ref 0), (1, .int (nI b))]) dX11_bestAsk_6 (by decide) rfl ?_
  exact (c_ask_s S b hb _ (fun S2 h2 => ⟨_, rfl, congrArg Prod.fst (zs_kgw (fun _ => zs_gas6) 239), h2⟩) 12 0 (by omega) S zs_ch.rf).lv (zs_mc 0 rfl (zs_mc 1 rfl (zs_mc 2 rfl (zs_mc 3 rfl (zs_mc 4 rfl zs_mn)))))
theorem zs_chW {S S2 : zs_S} (h : zs_ch 73 75 S S2) : zs_fr_W S S2 := fun b i hb => by
  have hn : b < 73 ∨ 75 ≤ b := by
    simp only [zs_pr_W, zs_pq, Bool.or_eq_true, Bool.and_eq_true, Nat.ble_eq, Nat.beq_eq] at hb
    omega
  exact ⟨congrFun (h b hn).1 i, congrFun (h b hn).2 i⟩
theorem zs_ls64 {M : Nat → Nat → Nat} {m : Nat} : zs_ls M m < 64 := zs_bits_lt _ 6
theorem zs_es64 {N : Nat → Nat → Nat} {m e : Nat} : zs_es N m e < 64 := zs_bits_lt _ 6
set_option maxRecDepth 100000 in
theorem c_askW (S : zs_S) (M : Nat → Nat → Nat) (m : Nat) (hM : zs_hc S 13 M m 3 99) : zs_Ci MX11_ask [.ref 0] S (fun x S2 => zs_fr_W S S2 ∧ x = zs_akn (zs_ls M m)) := by
  refine zs_C.of (by decide) (Nat.le_of_ble_eq_true rfl) ?_
  show zs_P MX11_ask 0 [(0, .ref 0)] [] S _
  refine g_aload_n dX11_ask_0 rfl rfl ?_
  refine g_callV (T := TX11) (NN := 18) [] (c_lampKinds S M m hM) dX11_ask_1 kk_X11_ask_X11_lampKinds ml_RX11_261 mwX11_lampKinds ewX11_lampKinds (by decide) rfl rfl rfl rfl (Nat.le_of_ble_eq_true rfl) ?_
  rintro _ _ ⟨_, rfl, rfl, rfl⟩
  have h64 := zs_ls64 (M := M) (m := m)
  refine g_istore_n (lv' := [(1, .int (nI (zs_ls M m))), (0, .ref 0)]) dX11_ask_4 rfl (by decide) rfl ?_
  refine g_iload_n dX11_ask_5 rfl rfl ?_
  refine g_if_neN 13 dX11_ask_6 (by decide) (by omega) (fun h1 => ?_) (fun h1 => ?_)
  · refine g_aload_n dX11_ask_13 rfl rfl ?_
    refine g_iload_n dX11_ask_14 rfl rfl ?_
    refine g_callV (T := TX11) (NN := 18) [] (c_bestAsk S (zs_ls M m) h64) dX11_ask_15 kk_X11_ask_X11_bestAsk ml_RX11_264 mwX11_bestAsk ewX11_bestAsk (by decide) rfl rfl rfl rfl (Nat.le_of_ble_eq_true rfl) ?_
    rintro _ S2 ⟨xa, rfl, ha, c2⟩
    refine g_iret dX11_ask_18 rfl rfl ?_
    exact ⟨_, rfl, zs_chW c2, ha.trans (if_neg (by omega)).symm⟩
  · refine g_iconst (v := (-1)) dX11_ask_9 rfl ?_
    refine g_goto 18 dX11_ask_10 (by decide) ?_
    refine g_iret dX11_ask_18 rfl rfl ?_
    exact ⟨_, rfl, zs_fr_W.rf, (if_pos (by omega)).symm⟩
theorem c_kindsW (S : zs_S) (M : Nat → Nat → Nat) (m : Nat) (hM : zs_hc S 13 M m 3 99) : zs_Ci MX11_kinds [.ref 0] S (fun x S2 => zs_fr_W S S2 ∧ x = nI (zs_ls M m)) := (c_kindsX S M m hM).mono (fun _ _ q => by
  obtain ⟨x, rfl, rfl, rfl⟩ := q
  exact ⟨_, rfl, zs_fr_W.rf, rfl⟩)
theorem y_kindsW (S : zs_S) (hJ : zs_J S) (M : Nat → Nat → Nat) (m : Nat) (hM : zs_hm S 46 47 M m 3 99) : zs_Ci MX12_kinds [.ref 80] S (fun x S2 => zs_J S2 ∧ zs_fm_W S S2 ∧ x = nI (zs_ls M m)) := (y_kindsX S M m hM).mono (fun _ _ q => by
  obtain ⟨x, rfl, rfl, rfl⟩ := q
  exact ⟨_, rfl, hJ, zs_fm_W.rf, rfl⟩)
set_option maxRecDepth 100000 in
theorem c_tl_l (S0 : zs_S) (b : Nat) (hb : b < 64) (t : Nat) (ht0 : t < 100) (x3 x2 : Int32) (Q : Option Value → zs_S → Prop) (hq : ∀ S, zs_ch 73 75 S0 S → S.1 73 1 = nI (zs_tg (zs_kt (fun i => zs_sit i (t / 10) (t % 10)) b 6)).2 → zs_P MX11_bestLook 69 [(5, .int (nI 6)), (4, .int (nI t)), (3, .int x3), (2, .int x2), (0, .ref 0), (1, .int (nI b))] [] S Q) : ∀ (d i : Nat), i + d = 6 → ∀ S, zs_ch 73 75 S0 S → zs_ta S (zs_tg (zs_kt (fun i => zs_sit i (t / 10) (t % 10)) b i)).1 (zs_tg (zs_kt (fun i => zs_sit i (t / 10) (t % 10)) b i)).2 → zs_P MX11_bestLook 25 [(5, .int (nI i)), (4, .int (nI t)), (3, .int x3), (2, .int x2), (0, .ref 0), (1, .int (nI b))] [] S Q := by
  intro d
  induction d with
  | zero =>
    intro i hi S hc ht
    obtain rfl : i = 6 := by omega
    refine g_iload dX11_bestLook_25 rfl ?_
    refine g_bipush (v := (nI 6)) dX11_bestLook_27 rfl ?_
    refine g_ic_geN 69 dX11_bestLook_29 (by decide) (by omega) (by omega) (fun _ => ?_) (fun z => absurd z (by omega))
    exact hq S hc ht.2
  | succ d ih =>
    intro i hi S hc ht
    refine g_iload dX11_bestLook_25 rfl ?_
    refine g_bipush (v := (nI 6)) dX11_bestLook_27 rfl ?_
    refine g_ic_geN 69 dX11_bestLook_29 (by decide) (by omega) (by omega) (fun z => absurd z (by omega)) (fun _ => ?_)
    refine g_iload_n dX11_bestLook_32 rfl rfl ?_
    refine g_iload dX11_bestLook_33 rfl ?_
    refine g_callS [.int (nI b), .int (nI i)] [] (x_hasB S b i hb (by omega)) dX11_bestLook_35 kk_X11_bestLook_X11_hasBit ml_RX11_360 swX11_hasBit rfl rfl (Nat.le_of_ble_eq_true rfl) ?_
    rintro _ _ ⟨_, rfl, rfl, rfl⟩
    refine g_if_eq 63 dX11_bestLook_38 (by decide) (fun h1 => ?_) (fun h1 => ?_)
    · have h1 := zs_b0 h1
      refine g_iinc (v := (nI (i + 1))) (lv' := [(5, .int (nI (i + 1))), (4, .int (nI t)), (3, .int x3), (2, .int x2), (0, .ref 0), (1, .int (nI b))]) dX11_bestLook_63 rfl (nI_1 i) (by decide) rfl ?_
      refine g_goto 25 dX11_bestLook_66 (by decide) ?_
      exact (ih (i + 1) (by omega) S hc (by rw [zs_ktF (v := (fun i => zs_sit i (t / 10) (t % 10))) h1]; exact ht)).lv (zs_mc 0 rfl (zs_mc 1 rfl (zs_mc 2 rfl (zs_mc 3 rfl (zs_mc 4 rfl (zs_mc 5 rfl zs_mn))))))
    · have h1 := zs_b1 h1
      refine g_aload_n dX11_bestLook_41 rfl rfl ?_
      refine g_getR 14 (73) (C := RX11) (T := TX11) (N := 18) dX11_bestLook_42 (by decide) rfl rfl (by decide) rfl fl_RX11_57 ?_
      refine g_iload dX11_bestLook_45 rfl ?_
      refine g_iload dX11_bestLook_47 rfl ?_
      refine g_bipush (v := (nI 10)) dX11_bestLook_49 rfl ?_
      refine g_idivN dX11_bestLook_51 (by omega) (by omega) (by omega) ?_
      refine g_iload dX11_bestLook_52 rfl ?_
      refine g_bipush (v := (nI 10)) dX11_bestLook_54 rfl ?_
      refine g_iremN dX11_bestLook_56 (by omega) (by omega) (by omega) ?_
      refine g_callS [.int (nI i), .int (nI (t / 10)), .int (nI (t % 10))] [.ref 73] (x_sight S i (t / 10) (t % 10) (by omega) (by omega) (by omega)) dX11_bestLook_57 kk_X11_bestLook_X1_sight ml_RX11_352 swX1_sight rfl rfl (Nat.le_of_ble_eq_true rfl) ?_
      rintro _ _ ⟨_, rfl, rfl, rfl⟩
      refine g_callV (T := TX9) (NN := 2) [] (y_tadd S (zs_tg (zs_kt (fun i => zs_sit i (t / 10) (t % 10)) b i)).1 (zs_tg (zs_kt (fun i => zs_sit i (t / 10) (t % 10)) b i)).2 (zs_sit i (t / 10) (t % 10)) (Nat.lt_of_le_of_lt (zs_sit9 (by omega) (by omega)) (by omega)) (Nat.lt_of_le_of_lt (zs_ktB (by omega)).2 (by omega)) (fun j => Nat.lt_of_le_of_lt ((zs_ktB (by omega)).1 j) (by omega)) ht) dX11_bestLook_60 kk_X11_bestLook_X9_add ml_RX11_363 mwX9_add ewX9_add (by decide) rfl rfl rfl rfl (Nat.le_of_ble_eq_true rfl) ?_
      rintro _ S2 ⟨rfl, c2, t2⟩
      refine g_iinc (v := (nI (i + 1))) (lv' := [(5, .int (nI (i + 1))), (4, .int (nI t)), (3, .int x3), (2, .int x2), (0, .ref 0), (1, .int (nI b))]) dX11_bestLook_63 rfl (nI_1 i) (by decide) rfl ?_
      refine g_goto 25 dX11_bestLook_66 (by decide) ?_
      exact (ih (i + 1) (by omega) S2 (hc.trans c2) (by rw [zs_ktT (v := (fun i => zs_sit i (t / 10) (t % 10))) h1]; exact t2)).lv (zs_mc 0 rfl (zs_mc 1 rfl (zs_mc 2 rfl (zs_mc 3 rfl (zs_mc 4 rfl (zs_mc 5 rfl zs_mn))))))
set_option maxRecDepth 100000 in
theorem c_look_t (S0 : zs_S) (b : Nat) (hb : b < 64) (Q : Option Value → zs_S → Prop) (hq : ∀ S, zs_ch 73 75 S0 S → Q (some (.int (zs_kg (zs_glk b) zs_cl 1000000 (100)).1)) S) : ∀ (d t : Nat), t + d = 100 → ∀ S, zs_ch 73 75 S0 S → zs_P MX11_bestLook 8 [(4, .int (nI t)), (3, .int (nI ((zs_kg (zs_glk b) zs_cl 1000000 (t)).2))), (2, .int ((zs_kg (zs_glk b) zs_cl 1000000 (t)).1)), (0, .ref 0), (1, .int (nI b))] [] S Q := by
  intro d
  induction d with
  | zero =>
    intro t ht0 S hc
    obtain rfl : t = 100 := by omega
    refine g_iload dX11_bestLook_8 rfl ?_
    refine g_bipush (v := (nI 100)) dX11_bestLook_10 rfl ?_
    refine g_ic_geN 97 dX11_bestLook_12 (by decide) (by omega) (by omega) (fun _ => ?_) (fun z => absurd z (by omega))
    refine g_iload_n dX11_bestLook_97 rfl rfl ?_
    refine g_iret dX11_bestLook_98 rfl rfl ?_
    exact hq S hc
  | succ d ih =>
    intro t ht0 S hc
    refine g_iload dX11_bestLook_8 rfl ?_
    refine g_bipush (v := (nI 100)) dX11_bestLook_10 rfl ?_
    refine g_ic_geN 97 dX11_bestLook_12 (by decide) (by omega) (by omega) (fun z => absurd z (by omega)) (fun _ => ?_)
    refine g_aload_n dX11_bestLook_15 rfl rfl ?_
    refine g_getR 14 (73) (C := RX11) (T := TX11) (N := 18) dX11_bestLook_16 (by decide) rfl rfl (by decide) rfl fl_RX11_57 ?_
    refine g_callV (T := TX9) (NN := 2) [] (y_tbegin S) dX11_bestLook_19 kk_X11_bestLook_X9_begin ml_RX11_358 mwX9_begin ewX9_begin (by decide) rfl rfl rfl rfl (Nat.le_of_ble_eq_true rfl) ?_
    rintro _ S1 ⟨rfl, c1, t1⟩
    refine g_iconst (v := (nI 0)) dX11_bestLook_22 rfl ?_
    refine g_istore (lv' := [(5, .int (nI 0)), (4, .int (nI t)), (3, .int (nI ((zs_kg (zs_glk b) zs_cl 1000000 (t)).2))), (2, .int ((zs_kg (zs_glk b) zs_cl 1000000 (t)).1)), (0, .ref 0), (1, .int (nI b))]) dX11_bestLook_23 (by decide) rfl ?_
    refine (c_tl_l S0 b hb t (by omega) _ _ _ (fun S3 h3 e2 => ?_) 6 0 (by omega) S1 (hc.trans c1) t1).lv (zs_mc 0 rfl (zs_mc 1 rfl (zs_mc 2 rfl (zs_mc 3 rfl (zs_mc 4 rfl (zs_mc 5 rfl zs_mn))))))
    have hbb : (zs_kg (zs_glk b) zs_cl 1000000 (t)).2 ≤ 1000000 := zs_kgB _
    have hm6 : zs_glk b t ≤ 6 := zs_glk6
    have e2 : S3.1 73 1 = nI (zs_glk b t) := e2
    refine g_aload_n dX11_bestLook_69 rfl rfl ?_
    refine g_getR 14 (73) (C := RX11) (T := TX11) (N := 18) dX11_bestLook_70 (by decide) rfl rfl (by decide) rfl fl_RX11_57 ?_
    refine g_getV 1 (C := RX9) (T := TX9) (N := 2) (v := (nI (zs_glk b t))) dX11_bestLook_73 (by decide) rfl rfl (by decide) rfl fl_RX11_245 e2 ?_
    refine g_iload_n dX11_bestLook_76 rfl rfl ?_
    refine g_ic_geN 91 dX11_bestLook_77 (by decide) (by omega) (by omega) (fun h1 => ?_) (fun h1 => ?_)
    · refine g_iinc (v := (nI (t + 1))) (lv' := [(4, .int (nI (t + 1))), (5, .int (nI 6)), (3, .int (nI ((zs_kg (zs_glk b) zs_cl 1000000 (t)).2))), (2, .int ((zs_kg (zs_glk b) zs_cl 1000000 (t)).1)), (0, .ref 0), (1, .int (nI b))]) dX11_bestLook_91 rfl (nI_1 t) (by decide) rfl ?_
      refine g_goto 8 dX11_bestLook_94 (by decide) ?_
      have e3 : (zs_kg (zs_glk b) zs_cl 1000000 (t + 1)) = (zs_kg (zs_glk b) zs_cl 1000000 (t)) := zs_kgF (f := zs_glk b) (c := zs_cl) (w := 1000000) (t := t) (by omega)
      have ih := ih (t + 1) (by omega) S3 h3
      rw [e3] at ih
      exact ih.lv (zs_mc 0 rfl (zs_mc 2 rfl (zs_mc 3 rfl (zs_mc 4 rfl (zs_mc 5 rfl zs_mn)))))
    · refine g_aload_n dX11_bestLook_80 rfl rfl ?_
      refine g_getR 14 (73) (C := RX11) (T := TX11) (N := 18) dX11_bestLook_81 (by decide) rfl rfl (by decide) rfl fl_RX11_57 ?_
      refine g_getV 1 (C := RX9) (T := TX9) (N := 2) (v := (nI (zs_glk b t))) dX11_bestLook_84 (by decide) rfl rfl (by decide) rfl fl_RX11_245 e2 ?_
      refine g_istore_n (lv' := [(3, .int (nI (zs_glk b t))), (5, .int (nI 6)), (4, .int (nI t)), (2, .int ((zs_kg (zs_glk b) zs_cl 1000000 (t)).1)), (0, .ref 0), (1, .int (nI b))]) dX11_bestLook_87 rfl (by decide) rfl ?_
      refine g_iload dX11_bestLook_88 rfl ?_
      refine g_istore_n (lv' := [(2, .int (nI t)), (3, .int (nI (zs_glk b t))), (5, .int (nI 6)), (4, .int (nI t)), (0, .ref 0), (1, .int (nI b))]) dX11_bestLook_90 rfl (by decide) rfl ?_
      refine g_iinc (v := (nI (t + 1))) (lv' := [(4, .int (nI (t + 1))), (2, .int (nI t)), (3, .int (nI (zs_glk b t))), (5, .int (nI 6)), (0, .ref 0), (1, .int (nI b))]) dX11_bestLook_91 rfl (nI_1 t) (by decide) rfl ?_
      refine g_goto 8 dX11_bestLook_94 (by decide) ?_
      have e3 : (zs_kg (zs_glk b) zs_cl 1000000 (t + 1)) = (nI t, zs_glk b t) := zs_kgT (f := zs_glk b) (c := zs_cl) (w := 1000000) (t := t) (by omega)
      have ih := ih (t + 1) (by omega) S3 h3
      rw [e3] at ih
      exact ih.lv (zs_mc 0 rfl (zs_mc 2 rfl (zs_mc 1 rfl (zs_mc 4 rfl (zs_mc 5 rfl zs_mn)))))
set_option maxRecDepth 100000 in
theorem c_bestLook (S : zs_S) (b : Nat) (hb : b < 64) : zs_Ci MX11_bestLook [.ref 0, .int (nI b)] S (fun x S2 => x = (zs_kg (zs_glk b) zs_cl 99 100).1 ∧ zs_ch 73 75 S S2) := by
  refine zs_C.of (by decide) (Nat.le_of_ble_eq_true rfl) ?_
  show zs_P MX11_bestLook 0 [(0, .ref 0), (1, .int (nI b))] [] S _
  refine g_iconst (v := (-1)) dX11_bestLook_0 rfl ?_
  refine g_istore_n (lv' := [(2, .int (-1)), (0, .ref 0), (1, .int (nI b))]) dX11_bestLook_1 rfl (by decide) rfl ?_
  refine g_ldc (v := (nI 1000000)) dX11_bestLook_2 cl_RX11_240 ?_
  refine g_istore_n (lv' := [(3, .int (nI 1000000)), (2, .int (-1)), (0, .ref 0), (1, .int (nI b))]) dX11_bestLook_4 rfl (by decide) rfl ?_
  refine g_iconst (v := (nI 0)) dX11_bestLook_5 rfl ?_
  refine g_istore (lv' := [(4, .int (nI 0)), (3, .int (nI 1000000)), (2, .int (-1)), (0, .ref 0), (1, .int (nI b))]) dX11_bestLook_6 (by decide) rfl ?_
  exact (c_look_t S b hb _ (fun S2 h2 => ⟨_, rfl, congrArg Prod.fst (zs_kgw (fun _ => zs_glk6) 99), h2⟩) 100 0 (by omega) S zs_ch.rf).lv (zs_mc 0 rfl (zs_mc 1 rfl (zs_mc 2 rfl (zs_mc 3 rfl (zs_mc 4 rfl zs_mn)))))
set_option maxRecDepth 100000 in
theorem c_lookW (S : zs_S) (e : Int32) (ey : Nat) (hy : S.1 1 2 = nI ey) (hy5 : ey ≤ 5) (N : Nat → Nat → Nat) (m : Nat) (hM : zs_hc S 11 N m 4 9) : zs_Ci MX11_look [.ref 0, .int e] S (fun x S2 => zs_fr_W S S2 ∧ (zs_qe (S.1 1 2) e = false → x = (-2)) ∧ (zs_qe (S.1 1 2) e = true → ∀ k, k ≤ 4 → e = nI k → x = zs_lkn (zs_es N m k))) := by
  refine zs_C.of (by decide) (Nat.le_of_ble_eq_true rfl) ?_
  show zs_P MX11_look 0 [(0, .ref 0), (1, .int e)] [] S _
  refine g_aload_n dX11_look_0 rfl rfl ?_
  refine g_iload_n dX11_look_1 rfl rfl ?_
  refine g_callV (T := TX11) (NN := 18) [] (x_isEye S e) dX11_look_2 kk_X11_look_X11_isEye ml_RX11_182 mwX11_isEye ewX11_isEye (by decide) rfl rfl rfl rfl (Nat.le_of_ble_eq_true rfl) ?_
  rintro _ _ ⟨_, rfl, rfl, rfl⟩
  refine g_if_ne 15 dX11_look_5 (by decide) (fun h1 => ?_) (fun h1 => ?_)
  · have h1 := zs_b1 h1
    have q0 := zs_qeT h1
    obtain ⟨ek, hek, -, rfl⟩ := zs_eyk h1 hy hy5
    refine g_aload_n dX11_look_15 rfl rfl ?_
    refine g_iload_n dX11_look_16 rfl rfl ?_
    refine g_callV (T := TX11) (NN := 18) [] (c_eyeKinds S N m ek (by omega) hM) dX11_look_17 kk_X11_look_X11_eyeKinds ml_RX11_255 mwX11_eyeKinds ewX11_eyeKinds (by decide) rfl rfl rfl rfl (Nat.le_of_ble_eq_true rfl) ?_
    rintro _ _ ⟨_, rfl, rfl, rfl⟩
    have h64 := zs_es64 (N := N) (m := m) (e := ek)
    refine g_istore_n (lv' := [(2, .int (nI (zs_es N m ek))), (0, .ref 0), (1, .int (nI ek))]) dX11_look_20 rfl (by decide) rfl ?_
    refine g_iload_n dX11_look_21 rfl rfl ?_
    refine g_if_neN 29 dX11_look_22 (by decide) (by omega) (fun h2 => ?_) (fun h2 => ?_)
    · refine g_aload_n dX11_look_29 rfl rfl ?_
      refine g_iload_n dX11_look_30 rfl rfl ?_
      refine g_callV (T := TX11) (NN := 18) [] (c_bestLook S (zs_es N m ek) h64) dX11_look_31 kk_X11_look_X11_bestLook ml_RX11_258 mwX11_bestLook ewX11_bestLook (by decide) rfl rfl rfl rfl (Nat.le_of_ble_eq_true rfl) ?_
      rintro _ S2 ⟨xa, rfl, ha, c2⟩
      refine g_iret dX11_look_34 rfl rfl ?_
      exact ⟨_, rfl, zs_chW c2, fun z => absurd z (by rw [q0]; decide), fun _ k hk hz => by
        obtain rfl : ek = k := (nI_eq (by omega) (by omega)).mp hz
        exact ha.trans (if_neg (by omega)).symm⟩
    · refine g_iconst (v := (-1)) dX11_look_25 rfl ?_
      refine g_goto 34 dX11_look_26 (by decide) ?_
      refine g_iret dX11_look_34 rfl rfl ?_
      exact ⟨_, rfl, zs_fr_W.rf, fun z => absurd z (by rw [q0]; decide), fun _ k hk hz => by
        obtain rfl : ek = k := (nI_eq (by omega) (by omega)).mp hz
        exact (if_pos (by omega)).symm⟩
  · have h1 := zs_b0 h1
    refine g_aload_n dX11_look_8 rfl rfl ?_
    refine g_bipush (v := (-2)) dX11_look_9 rfl ?_
    refine g_callV (T := TX11) (NN := 18) [] (x_refuseBad S (-2)) dX11_look_11 kk_X11_look_X11_refuseBad ml_RX11_86 mwX11_refuseBad ewX11_refuseBad (by decide) rfl rfl rfl rfl (Nat.le_of_ble_eq_true rfl) ?_
    rintro _ _ ⟨_, rfl, rfl, rfl⟩
    refine g_iret dX11_look_14 rfl rfl ?_
    exact ⟨_, rfl, zs_fr_W.up rfl, fun _ => rfl, fun z => absurd z (by rw [zs_qeF h1]; exact Bool.false_ne_true)⟩
set_option maxRecDepth 100000 in
theorem z_ask_b (S : zs_S) (b a mo : Nat) (hb : b < 64) (ha : a < 6) (s k : Nat) (hs : s < 12) (hk20 : k < 20) (x4 : Int32) (x3 : Int32) (x2 : Int32) (Q : Option Value → zs_S → Prop) (hk : zs_P MX12_ask 120 [(10, .int (nI 6)), (9, .int (nI (zs_kn (fun i => zs_pas i s k) b a 6))), (8, .int (nI a)), (7, .int (nI mo)), (6, .int (nI k)), (5, .int (nI s)), (4, .int x4), (3, .int x3), (2, .int x2), (1, .int (nI b)), (0, .ref 80)] [] S Q) : ∀ (d j : Nat), j + d = 6 → zs_P MX12_ask 58 [(10, .int (nI j)), (9, .int (nI (zs_kn (fun i => zs_pas i s k) b a j))), (8, .int (nI a)), (7, .int (nI mo)), (6, .int (nI k)), (5, .int (nI s)), (4, .int x4), (3, .int x3), (2, .int x2), (1, .int (nI b)), (0, .ref 80)] [] S Q := by
  intro d
  induction d with
  | zero =>
    intro j hj
    obtain rfl : j = 6 := by omega
    refine g_iload dX12_ask_58 rfl ?_
    refine g_bipush (v := (nI 6)) dX12_ask_60 rfl ?_
    refine g_ic_geN 120 dX12_ask_62 (by decide) (by omega) (by omega) (fun _ => ?_) (fun z => absurd z (by omega))
    exact hk
  | succ d ih =>
    intro j hj
    refine g_iload dX12_ask_58 rfl ?_
    refine g_bipush (v := (nI 6)) dX12_ask_60 rfl ?_
    refine g_ic_geN 120 dX12_ask_62 (by decide) (by omega) (by omega) (fun z => absurd z (by omega)) (fun _ => ?_)
    refine g_iload dX12_ask_65 rfl ?_
    refine g_iload_n dX12_ask_67 rfl rfl ?_
    refine g_iload dX12_ask_68 rfl ?_
    refine g_callS [.int (nI b), .int (nI a)] [.int (nI (zs_kn (fun i => zs_pas i s k) b a j))] (z_hasN S b a hb (by omega)) dX12_ask_70 kk_X12_ask_X12_has ml_RX12_215 swX12_has rfl rfl (Nat.le_of_ble_eq_true rfl) ?_
    rintro _ _ ⟨_, rfl, rfl, rfl⟩
    refine g_if_eq 110 dX12_ask_73 (by decide) (fun h1 => ?_) (fun h1 => ?_)
    · have h1 := zs_b0 h1
      refine g_iconst (v := (nI 0)) dX12_ask_110 rfl ?_
      refine g_iaddN dX12_ask_111 ?_
      refine g_istore (lv' := [(9, .int (nI ((zs_kn (fun i => zs_pas i s k) b a j) + 0))), (10, .int (nI j)), (8, .int (nI a)), (7, .int (nI mo)), (6, .int (nI k)), (5, .int (nI s)), (4, .int x4), (3, .int x3), (2, .int x2), (1, .int (nI b)), (0, .ref 80)]) dX12_ask_112 (by decide) rfl ?_
      refine g_iinc (v := (nI (j + 1))) (lv' := [(10, .int (nI (j + 1))), (9, .int (nI ((zs_kn (fun i => zs_pas i s k) b a j) + 0))), (8, .int (nI a)), (7, .int (nI mo)), (6, .int (nI k)), (5, .int (nI s)), (4, .int x4), (3, .int x3), (2, .int x2), (1, .int (nI b)), (0, .ref 80)]) dX12_ask_114 rfl (nI_1 j) (by decide) rfl ?_
      refine g_goto 58 dX12_ask_117 (by decide) ?_
      have e3 : zs_kn (fun i => zs_pas i s k) b a (j + 1) = zs_kn (fun i => zs_pas i s k) b a j + 0 := zs_kn0 (v := (fun i => zs_pas i s k)) (fun z => h1 z.1.1)
      have ih := ih (j + 1) (by omega)
      rw [e3] at ih
      exact ih.lv (zs_mc 0 rfl (zs_mc 1 rfl (zs_mc 2 rfl (zs_mc 3 rfl (zs_mc 4 rfl (zs_mc 5 rfl (zs_mc 6 rfl (zs_mc 7 rfl (zs_mc 8 rfl (zs_mc 9 rfl (zs_mc 10 rfl zs_mn)))))))))))
    · have h1 := zs_b1 h1
      refine g_iload_n dX12_ask_76 rfl rfl ?_
      refine g_iload dX12_ask_77 rfl ?_
      refine g_callS [.int (nI b), .int (nI j)] [.int (nI (zs_kn (fun i => zs_pas i s k) b a j))] (z_hasN S b j hb (by omega)) dX12_ask_79 kk_X12_ask_X12_has ml_RX12_215 swX12_has rfl rfl (Nat.le_of_ble_eq_true rfl) ?_
      rintro _ _ ⟨_, rfl, rfl, rfl⟩
      refine g_if_eq 110 dX12_ask_82 (by decide) (fun h2 => ?_) (fun h2 => ?_)
      · have h2 := zs_b0 h2
        refine g_iconst (v := (nI 0)) dX12_ask_110 rfl ?_
        refine g_iaddN dX12_ask_111 ?_
        refine g_istore (lv' := [(9, .int (nI ((zs_kn (fun i => zs_pas i s k) b a j) + 0))), (10, .int (nI j)), (8, .int (nI a)), (7, .int (nI mo)), (6, .int (nI k)), (5, .int (nI s)), (4, .int x4), (3, .int x3), (2, .int x2), (1, .int (nI b)), (0, .ref 80)]) dX12_ask_112 (by decide) rfl ?_
        refine g_iinc (v := (nI (j + 1))) (lv' := [(10, .int (nI (j + 1))), (9, .int (nI ((zs_kn (fun i => zs_pas i s k) b a j) + 0))), (8, .int (nI a)), (7, .int (nI mo)), (6, .int (nI k)), (5, .int (nI s)), (4, .int x4), (3, .int x3), (2, .int x2), (1, .int (nI b)), (0, .ref 80)]) dX12_ask_114 rfl (nI_1 j) (by decide) rfl ?_
        refine g_goto 58 dX12_ask_117 (by decide) ?_
        have e3 : zs_kn (fun i => zs_pas i s k) b a (j + 1) = zs_kn (fun i => zs_pas i s k) b a j + 0 := zs_kn0 (v := (fun i => zs_pas i s k)) (fun z => h2 z.1.2)
        have ih := ih (j + 1) (by omega)
        rw [e3] at ih
        exact ih.lv (zs_mc 0 rfl (zs_mc 1 rfl (zs_mc 2 rfl (zs_mc 3 rfl (zs_mc 4 rfl (zs_mc 5 rfl (zs_mc 6 rfl (zs_mc 7 rfl (zs_mc 8 rfl (zs_mc 9 rfl (zs_mc 10 rfl zs_mn)))))))))))
      · have h2 := zs_b1 h2
        refine g_iload dX12_ask_85 rfl ?_
        refine g_iload dX12_ask_87 rfl ?_
        refine g_iload dX12_ask_89 rfl ?_
        refine g_callS [.int (nI a), .int (nI s), .int (nI k)] [.int (nI (zs_kn (fun i => zs_pas i s k) b a j))] (z_passes S a s k (by omega) (by omega) (by omega)) dX12_ask_91 kk_X12_ask_X12_passes ml_RX12_162 swX12_passes rfl rfl (Nat.le_of_ble_eq_true rfl) ?_
        rintro _ _ ⟨_, rfl, rfl, rfl⟩
        have hpa := zs_pas_lt (c := a) (k := k) hs
        refine g_iload dX12_ask_94 rfl ?_
        refine g_iload dX12_ask_96 rfl ?_
        refine g_iload dX12_ask_98 rfl ?_
        refine g_callS [.int (nI j), .int (nI s), .int (nI k)] [.int (nI (zs_pas a s k)), .int (nI (zs_kn (fun i => zs_pas i s k) b a j))] (z_passes S j s k (by omega) (by omega) (by omega)) dX12_ask_100 kk_X12_ask_X12_passes ml_RX12_162 swX12_passes rfl rfl (Nat.le_of_ble_eq_true rfl) ?_
        rintro _ _ ⟨_, rfl, rfl, rfl⟩
        have hpj := zs_pas_lt (c := j) (k := k) hs
        refine g_ic_neN 110 dX12_ask_103 (by decide) (by omega) (by omega) (fun h3 => ?_) (fun h3 => ?_)
        · refine g_iconst (v := (nI 0)) dX12_ask_110 rfl ?_
          refine g_iaddN dX12_ask_111 ?_
          refine g_istore (lv' := [(9, .int (nI ((zs_kn (fun i => zs_pas i s k) b a j) + 0))), (10, .int (nI j)), (8, .int (nI a)), (7, .int (nI mo)), (6, .int (nI k)), (5, .int (nI s)), (4, .int x4), (3, .int x3), (2, .int x2), (1, .int (nI b)), (0, .ref 80)]) dX12_ask_112 (by decide) rfl ?_
          refine g_iinc (v := (nI (j + 1))) (lv' := [(10, .int (nI (j + 1))), (9, .int (nI ((zs_kn (fun i => zs_pas i s k) b a j) + 0))), (8, .int (nI a)), (7, .int (nI mo)), (6, .int (nI k)), (5, .int (nI s)), (4, .int x4), (3, .int x3), (2, .int x2), (1, .int (nI b)), (0, .ref 80)]) dX12_ask_114 rfl (nI_1 j) (by decide) rfl ?_
          refine g_goto 58 dX12_ask_117 (by decide) ?_
          have e3 : zs_kn (fun i => zs_pas i s k) b a (j + 1) = zs_kn (fun i => zs_pas i s k) b a j + 0 := zs_kn0 (v := (fun i => zs_pas i s k)) (fun z => h3 z.2)
          have ih := ih (j + 1) (by omega)
          rw [e3] at ih
          exact ih.lv (zs_mc 0 rfl (zs_mc 1 rfl (zs_mc 2 rfl (zs_mc 3 rfl (zs_mc 4 rfl (zs_mc 5 rfl (zs_mc 6 rfl (zs_mc 7 rfl (zs_mc 8 rfl (zs_mc 9 rfl (zs_mc 10 rfl zs_mn)))))))))))
        · refine g_iconst (v := (nI 1)) dX12_ask_106 rfl ?_
          refine g_goto 111 dX12_ask_107 (by decide) ?_
          refine g_iaddN dX12_ask_111 ?_
          refine g_istore (lv' := [(9, .int (nI ((zs_kn (fun i => zs_pas i s k) b a j) + 1))), (10, .int (nI j)), (8, .int (nI a)), (7, .int (nI mo)), (6, .int (nI k)), (5, .int (nI s)), (4, .int x4), (3, .int x3), (2, .int x2), (1, .int (nI b)), (0, .ref 80)]) dX12_ask_112 (by decide) rfl ?_
          refine g_iinc (v := (nI (j + 1))) (lv' := [(10, .int (nI (j + 1))), (9, .int (nI ((zs_kn (fun i => zs_pas i s k) b a j) + 1))), (8, .int (nI a)), (7, .int (nI mo)), (6, .int (nI k)), (5, .int (nI s)), (4, .int x4), (3, .int x3), (2, .int x2), (1, .int (nI b)), (0, .ref 80)]) dX12_ask_114 rfl (nI_1 j) (by decide) rfl ?_
          refine g_goto 58 dX12_ask_117 (by decide) ?_
          have e3 : zs_kn (fun i => zs_pas i s k) b a (j + 1) = zs_kn (fun i => zs_pas i s k) b a j + 1 := zs_kn1 (v := (fun i => zs_pas i s k)) ⟨⟨h1, h2⟩, h3⟩
          have ih := ih (j + 1) (by omega)
          rw [e3] at ih
          exact ih.lv (zs_mc 0 rfl (zs_mc 1 rfl (zs_mc 2 rfl (zs_mc 3 rfl (zs_mc 4 rfl (zs_mc 5 rfl (zs_mc 6 rfl (zs_mc 7 rfl (zs_mc 8 rfl (zs_mc 9 rfl (zs_mc 10 rfl zs_mn)))))))))))
set_option maxRecDepth 100000 in
theorem z_ask_a (S : zs_S) (b : Nat) (hb : b < 64) (s k : Nat) (hs : s < 12) (hk20 : k < 20) (x4 : Int32) (x3 : Int32) (x2 : Int32) (Q : Option Value → zs_S → Prop) (hk : zs_P MX12_ask 142 [(8, .int (nI 6)), (7, .int (nI (zs_km (fun i => zs_pas i s k) b 6))), (6, .int (nI k)), (5, .int (nI s)), (4, .int x4), (3, .int x3), (2, .int x2), (1, .int (nI b)), (0, .ref 80)] [] S Q) : ∀ (d a : Nat), a + d = 6 → zs_P MX12_ask 45 [(8, .int (nI a)), (7, .int (nI (zs_km (fun i => zs_pas i s k) b a))), (6, .int (nI k)), (5, .int (nI s)), (4, .int x4), (3, .int x3), (2, .int x2), (1, .int (nI b)), (0, .ref 80)] [] S Q := by
  intro d
  induction d with
  | zero =>
    intro a ha
    obtain rfl : a = 6 := by omega
    refine g_iload dX12_ask_45 rfl ?_
    refine g_bipush (v := (nI 6)) dX12_ask_47 rfl ?_
    refine g_ic_geN 142 dX12_ask_49 (by decide) (by omega) (by omega) (fun _ => ?_) (fun z => absurd z (by omega))
    exact hk
  | succ d ih =>
    intro a ha
    refine g_iload dX12_ask_45 rfl ?_
    refine g_bipush (v := (nI 6)) dX12_ask_47 rfl ?_
    refine g_ic_geN 142 dX12_ask_49 (by decide) (by omega) (by omega) (fun z => absurd z (by omega)) (fun _ => ?_)
    refine g_iconst (v := (nI 0)) dX12_ask_52 rfl ?_
    refine g_istore (lv' := [(9, .int (nI 0)), (8, .int (nI a)), (7, .int (nI (zs_km (fun i => zs_pas i s k) b a))), (6, .int (nI k)), (5, .int (nI s)), (4, .int x4), (3, .int x3), (2, .int x2), (1, .int (nI b)), (0, .ref 80)]) dX12_ask_53 (by decide) rfl ?_
    refine g_iconst (v := (nI 0)) dX12_ask_55 rfl ?_
    refine g_istore (lv' := [(10, .int (nI 0)), (9, .int (nI 0)), (8, .int (nI a)), (7, .int (nI (zs_km (fun i => zs_pas i s k) b a))), (6, .int (nI k)), (5, .int (nI s)), (4, .int x4), (3, .int x3), (2, .int x2), (1, .int (nI b)), (0, .ref 80)]) dX12_ask_56 (by decide) rfl ?_
    refine (z_ask_b S b a (zs_km (fun i => zs_pas i s k) b a) hb (by omega) s k hs hk20 x4 x3 x2 _ ?_ 6 0 (by omega)).lv (zs_mc 0 rfl (zs_mc 1 rfl (zs_mc 2 rfl (zs_mc 3 rfl (zs_mc 4 rfl (zs_mc 5 rfl (zs_mc 6 rfl (zs_mc 7 rfl (zs_mc 8 rfl (zs_mc 9 rfl (zs_mc 10 rfl zs_mn)))))))))))
    have hb6 := zs_knB (fun i => zs_pas i s k) b a 6
    have ha6 := zs_kmB (fun i => zs_pas i s k) b a
    refine g_iload dX12_ask_120 rfl ?_
    refine g_iload dX12_ask_122 rfl ?_
    refine g_ic_leN 132 dX12_ask_124 (by decide) (by omega) (by omega) (fun h1 => ?_) (fun h1 => ?_)
    · refine g_iload dX12_ask_132 rfl ?_
      refine g_istore (lv' := [(7, .int (nI (zs_km (fun i => zs_pas i s k) b a))), (10, .int (nI 6)), (9, .int (nI (zs_kn (fun i => zs_pas i s k) b a 6))), (8, .int (nI a)), (6, .int (nI k)), (5, .int (nI s)), (4, .int x4), (3, .int x3), (2, .int x2), (1, .int (nI b)), (0, .ref 80)]) dX12_ask_134 (by decide) rfl ?_
      refine g_iinc (v := (nI (a + 1))) (lv' := [(8, .int (nI (a + 1))), (7, .int (nI (zs_km (fun i => zs_pas i s k) b a))), (10, .int (nI 6)), (9, .int (nI (zs_kn (fun i => zs_pas i s k) b a 6))), (6, .int (nI k)), (5, .int (nI s)), (4, .int x4), (3, .int x3), (2, .int x2), (1, .int (nI b)), (0, .ref 80)]) dX12_ask_136 rfl (nI_1 a) (by decide) rfl ?_
      refine g_goto 45 dX12_ask_139 (by decide) ?_
      have e3 : (zs_km (fun i => zs_pas i s k) b (a + 1)) = (zs_km (fun i => zs_pas i s k) b a) := by show max _ _ = _; omega
      have ih := ih (a + 1) (by omega)
      rw [e3] at ih
      exact ih.lv (zs_mc 0 rfl (zs_mc 1 rfl (zs_mc 4 rfl (zs_mc 5 rfl (zs_mc 6 rfl (zs_mc 7 rfl (zs_mc 8 rfl (zs_mc 9 rfl (zs_mc 10 rfl zs_mn)))))))))
    · refine g_iload dX12_ask_127 rfl ?_
      refine g_goto 134 dX12_ask_129 (by decide) ?_
      refine g_istore (lv' := [(7, .int (nI (zs_kn (fun i => zs_pas i s k) b a 6))), (10, .int (nI 6)), (9, .int (nI (zs_kn (fun i => zs_pas i s k) b a 6))), (8, .int (nI a)), (6, .int (nI k)), (5, .int (nI s)), (4, .int x4), (3, .int x3), (2, .int x2), (1, .int (nI b)), (0, .ref 80)]) dX12_ask_134 (by decide) rfl ?_
      refine g_iinc (v := (nI (a + 1))) (lv' := [(8, .int (nI (a + 1))), (7, .int (nI (zs_kn (fun i => zs_pas i s k) b a 6))), (10, .int (nI 6)), (9, .int (nI (zs_kn (fun i => zs_pas i s k) b a 6))), (6, .int (nI k)), (5, .int (nI s)), (4, .int x4), (3, .int x3), (2, .int x2), (1, .int (nI b)), (0, .ref 80)]) dX12_ask_136 rfl (nI_1 a) (by decide) rfl ?_
      refine g_goto 45 dX12_ask_139 (by decide) ?_
      have e3 : (zs_km (fun i => zs_pas i s k) b (a + 1)) = (zs_kn (fun i => zs_pas i s k) b a 6) := by show max _ _ = _; omega
      have ih := ih (a + 1) (by omega)
      rw [e3] at ih
      exact ih.lv (zs_mc 0 rfl (zs_mc 1 rfl (zs_mc 4 rfl (zs_mc 5 rfl (zs_mc 6 rfl (zs_mc 7 rfl (zs_mc 8 rfl (zs_mc 9 rfl (zs_mc 10 rfl zs_mn)))))))))
set_option maxRecDepth 100000 in
theorem z_ask_t (S : zs_S) (b : Nat) (hb : b < 64) (hb0 : b ≠ 0) (Q : Option Value → zs_S → Prop) (hq : Q (some (.int (zs_kg (zs_gas b) zs_ca 99 240).1)) S) : ∀ (d t : Nat), t + d = 240 → zs_P MX12_ask 13 [(4, .int (nI t)), (3, .int (nI ((zs_kg (zs_gas b) zs_ca 99 t).2))), (2, .int ((zs_kg (zs_gas b) zs_ca 99 t).1)), (1, .int (nI b)), (0, .ref 80)] [] S Q := by
  intro d
  induction d with
  | zero =>
    intro t ht
    obtain rfl : t = 240 := by omega
    refine g_iload dX12_ask_13 rfl ?_
    refine g_sipush (v := (nI 240)) dX12_ask_15 rfl ?_
    refine g_ic_geN 180 dX12_ask_18 (by decide) (by omega) (by omega) (fun _ => ?_) (fun z => absurd z (by omega))
    refine g_iload_n dX12_ask_180 rfl rfl ?_
    refine g_iret dX12_ask_181 rfl rfl ?_
    exact hq
  | succ d ih =>
    intro t ht
    refine g_iload dX12_ask_13 rfl ?_
    refine g_sipush (v := (nI 240)) dX12_ask_15 rfl ?_
    refine g_ic_geN 180 dX12_ask_18 (by decide) (by omega) (by omega) (fun z => absurd z (by omega)) (fun _ => ?_)
    refine g_iload_n dX12_ask_21 rfl rfl ?_
    refine g_if_leN 180 dX12_ask_22 (by decide) (by omega) (fun z => absurd z (by omega)) (fun _ => ?_)
    refine g_iload dX12_ask_25 rfl ?_
    refine g_bipush (v := (nI 20)) dX12_ask_27 rfl ?_
    refine g_idivN dX12_ask_29 (by omega) (by omega) (by omega) ?_
    refine g_istore (lv' := [(5, .int (nI (t / 20))), (4, .int (nI t)), (3, .int (nI ((zs_kg (zs_gas b) zs_ca 99 t).2))), (2, .int ((zs_kg (zs_gas b) zs_ca 99 t).1)), (1, .int (nI b)), (0, .ref 80)]) dX12_ask_30 (by decide) rfl ?_
    refine g_iload dX12_ask_32 rfl ?_
    refine g_bipush (v := (nI 20)) dX12_ask_34 rfl ?_
    refine g_iremN dX12_ask_36 (by omega) (by omega) (by omega) ?_
    refine g_istore (lv' := [(6, .int (nI (t % 20))), (5, .int (nI (t / 20))), (4, .int (nI t)), (3, .int (nI ((zs_kg (zs_gas b) zs_ca 99 t).2))), (2, .int ((zs_kg (zs_gas b) zs_ca 99 t).1)), (1, .int (nI b)), (0, .ref 80)]) dX12_ask_37 (by decide) rfl ?_
    refine g_iconst (v := (nI 0)) dX12_ask_39 rfl ?_
    refine g_istore (lv' := [(7, .int (nI 0)), (6, .int (nI (t % 20))), (5, .int (nI (t / 20))), (4, .int (nI t)), (3, .int (nI ((zs_kg (zs_gas b) zs_ca 99 t).2))), (2, .int ((zs_kg (zs_gas b) zs_ca 99 t).1)), (1, .int (nI b)), (0, .ref 80)]) dX12_ask_40 (by decide) rfl ?_
    refine g_iconst (v := (nI 0)) dX12_ask_42 rfl ?_
    refine g_istore (lv' := [(8, .int (nI 0)), (7, .int (nI 0)), (6, .int (nI (t % 20))), (5, .int (nI (t / 20))), (4, .int (nI t)), (3, .int (nI ((zs_kg (zs_gas b) zs_ca 99 t).2))), (2, .int ((zs_kg (zs_gas b) zs_ca 99 t).1)), (1, .int (nI b)), (0, .ref 80)]) dX12_ask_43 (by decide) rfl ?_
    refine (z_ask_a S b hb (t / 20) (t % 20) (by omega) (by omega) _ _ _ _ ?_ 6 0 (by omega)).lv (zs_mc 0 rfl (zs_mc 1 rfl (zs_mc 2 rfl (zs_mc 3 rfl (zs_mc 4 rfl (zs_mc 5 rfl (zs_mc 6 rfl (zs_mc 7 rfl (zs_mc 8 rfl zs_mn)))))))))
    have hb6 := zs_kmB (fun i => zs_pas i (t / 20) (t % 20)) b 6
    have hw6 : (zs_kg (zs_gas b) zs_ca 99 t).2 ≤ 99 := zs_kgB t
    refine g_iload dX12_ask_142 rfl ?_
    refine g_iload_n dX12_ask_144 rfl rfl ?_
    refine g_ic_geN 159 dX12_ask_145 (by decide) (by omega) (by omega) (fun h1 => ?_) (fun h1 => ?_)
    · refine g_iload_n dX12_ask_159 rfl rfl ?_
      refine g_istore_n (lv' := [(2, .int ((zs_kg (zs_gas b) zs_ca 99 t).1)), (8, .int (nI 6)), (7, .int (nI (zs_km (fun i => zs_pas i (t / 20) (t % 20)) b 6))), (6, .int (nI (t % 20))), (5, .int (nI (t / 20))), (4, .int (nI t)), (3, .int (nI ((zs_kg (zs_gas b) zs_ca 99 t).2))), (1, .int (nI b)), (0, .ref 80)]) dX12_ask_160 rfl (by decide) rfl ?_
      refine g_iload dX12_ask_161 rfl ?_
      refine g_iload_n dX12_ask_163 rfl rfl ?_
      refine g_ic_geN 172 dX12_ask_164 (by decide) (by omega) (by omega) (fun _ => ?_) (fun z => absurd z (by omega))
      refine g_iload_n dX12_ask_172 rfl rfl ?_
      refine g_istore_n (lv' := [(3, .int (nI ((zs_kg (zs_gas b) zs_ca 99 t).2))), (2, .int ((zs_kg (zs_gas b) zs_ca 99 t).1)), (8, .int (nI 6)), (7, .int (nI (zs_km (fun i => zs_pas i (t / 20) (t % 20)) b 6))), (6, .int (nI (t % 20))), (5, .int (nI (t / 20))), (4, .int (nI t)), (1, .int (nI b)), (0, .ref 80)]) dX12_ask_173 rfl (by decide) rfl ?_
      refine g_iinc (v := (nI (t + 1))) (lv' := [(4, .int (nI (t + 1))), (3, .int (nI ((zs_kg (zs_gas b) zs_ca 99 t).2))), (2, .int ((zs_kg (zs_gas b) zs_ca 99 t).1)), (8, .int (nI 6)), (7, .int (nI (zs_km (fun i => zs_pas i (t / 20) (t % 20)) b 6))), (6, .int (nI (t % 20))), (5, .int (nI (t / 20))), (1, .int (nI b)), (0, .ref 80)]) dX12_ask_174 rfl (nI_1 t) (by decide) rfl ?_
      refine g_goto 13 dX12_ask_177 (by decide) ?_
      have ef : zs_gas b t = zs_km (fun i => zs_pas i (t / 20) (t % 20)) b 6 := zs_km_mst.symm
      have e3 : zs_kg (zs_gas b) zs_ca 99 (t + 1) = zs_kg (zs_gas b) zs_ca 99 t := zs_kgF (by omega)
      have ih := ih (t + 1) (by omega)
      rw [e3] at ih
      exact ih.lv (zs_mc 0 rfl (zs_mc 1 rfl (zs_mc 2 rfl (zs_mc 7 rfl (zs_mc 8 rfl zs_mn)))))
    · refine g_bipush (v := (nI 100)) dX12_ask_148 rfl ?_
      refine g_iload dX12_ask_150 rfl ?_
      refine g_imulN dX12_ask_152 ?_
      refine g_iload dX12_ask_153 rfl ?_
      refine g_iaddN dX12_ask_155 ?_
      refine g_goto 160 dX12_ask_156 (by decide) ?_
      refine g_istore_n (lv' := [(2, .int (nI ((100 * (t / 20)) + (t % 20)))), (8, .int (nI 6)), (7, .int (nI (zs_km (fun i => zs_pas i (t / 20) (t % 20)) b 6))), (6, .int (nI (t % 20))), (5, .int (nI (t / 20))), (4, .int (nI t)), (3, .int (nI ((zs_kg (zs_gas b) zs_ca 99 t).2))), (1, .int (nI b)), (0, .ref 80)]) dX12_ask_160 rfl (by decide) rfl ?_
      refine g_iload dX12_ask_161 rfl ?_
      refine g_iload_n dX12_ask_163 rfl rfl ?_
      refine g_ic_geN 172 dX12_ask_164 (by decide) (by omega) (by omega) (fun z => absurd z (by omega)) (fun _ => ?_)
      refine g_iload dX12_ask_167 rfl ?_
      refine g_goto 173 dX12_ask_169 (by decide) ?_
      refine g_istore_n (lv' := [(3, .int (nI (zs_km (fun i => zs_pas i (t / 20) (t % 20)) b 6))), (2, .int (nI ((100 * (t / 20)) + (t % 20)))), (8, .int (nI 6)), (7, .int (nI (zs_km (fun i => zs_pas i (t / 20) (t % 20)) b 6))), (6, .int (nI (t % 20))), (5, .int (nI (t / 20))), (4, .int (nI t)), (1, .int (nI b)), (0, .ref 80)]) dX12_ask_173 rfl (by decide) rfl ?_
      refine g_iinc (v := (nI (t + 1))) (lv' := [(4, .int (nI (t + 1))), (3, .int (nI (zs_km (fun i => zs_pas i (t / 20) (t % 20)) b 6))), (2, .int (nI ((100 * (t / 20)) + (t % 20)))), (8, .int (nI 6)), (7, .int (nI (zs_km (fun i => zs_pas i (t / 20) (t % 20)) b 6))), (6, .int (nI (t % 20))), (5, .int (nI (t / 20))), (1, .int (nI b)), (0, .ref 80)]) dX12_ask_174 rfl (nI_1 t) (by decide) rfl ?_
      refine g_goto 13 dX12_ask_177 (by decide) ?_
      have ef : zs_gas b t = zs_km (fun i => zs_pas i (t / 20) (t % 20)) b 6 := zs_km_mst.symm
      have e3 : zs_kg (zs_gas b) zs_ca 99 (t + 1) = (nI (100 * (t / 20) + t % 20), zs_km (fun i => zs_pas i (t / 20) (t % 20)) b 6) := (zs_kgT (by omega)).trans (by rw [ef]; rfl)
      have ih := ih (t + 1) (by omega)
      rw [e3] at ih
      exact ih.lv (zs_mc 0 rfl (zs_mc 1 rfl (zs_mc 2 rfl (zs_mc 7 rfl (zs_mc 8 rfl zs_mn)))))
set_option maxRecDepth 100000 in
theorem y_askX (S : zs_S) (M : Nat → Nat → Nat) (m : Nat) (hM : zs_hm S 46 47 M m 3 99) : zs_Ci MX12_ask [.ref 80] S (fun x S2 => x = zs_akn (zs_ls M m) ∧ S = S2) := by
  refine zs_C.of (by decide) (Nat.le_of_ble_eq_true rfl) ?_
  show zs_P MX12_ask 0 [(0, .ref 80)] [] S _
  refine g_aload_n dX12_ask_0 rfl rfl ?_
  refine g_callV (T := TX12) (NN := 19) [] (y_kindsX S M m hM) dX12_ask_1 kk_X12_ask_X12_kinds ml_RX12_219 mwX12_kinds ewX12_kinds (by decide) rfl rfl rfl rfl (Nat.le_of_ble_eq_true rfl) ?_
  rintro _ _ ⟨_, rfl, rfl, rfl⟩
  have h64 := zs_ls64 (M := M) (m := m)
  refine g_istore_n (lv' := [(1, .int (nI (zs_ls M m))), (0, .ref 80)]) dX12_ask_4 rfl (by decide) rfl ?_
  refine g_iconst (v := (-1)) dX12_ask_5 rfl ?_
  refine g_istore_n (lv' := [(2, .int (-1)), (1, .int (nI (zs_ls M m))), (0, .ref 80)]) dX12_ask_6 rfl (by decide) rfl ?_
  refine g_bipush (v := (nI 99)) dX12_ask_7 rfl ?_
  refine g_istore_n (lv' := [(3, .int (nI 99)), (2, .int (-1)), (1, .int (nI (zs_ls M m))), (0, .ref 80)]) dX12_ask_9 rfl (by decide) rfl ?_
  refine g_iconst (v := (nI 0)) dX12_ask_10 rfl ?_
  refine g_istore (lv' := [(4, .int (nI 0)), (3, .int (nI 99)), (2, .int (-1)), (1, .int (nI (zs_ls M m))), (0, .ref 80)]) dX12_ask_11 (by decide) rfl ?_
  by_cases hb0 : zs_ls M m ≠ 0
  · exact (z_ask_t S (zs_ls M m) h64 hb0 _ ⟨_, rfl, (if_neg hb0).symm, rfl⟩ 240 0 (by omega)).lv (zs_mc 0 rfl (zs_mc 1 rfl (zs_mc 2 rfl (zs_mc 3 rfl (zs_mc 4 rfl zs_mn)))))
  refine g_iload dX12_ask_13 rfl ?_
  refine g_sipush (v := (nI 240)) dX12_ask_15 rfl ?_
  refine g_ic_geN 180 dX12_ask_18 (by decide) (by omega) (by omega) (fun z => absurd z (by omega)) (fun _ => ?_)
  refine g_iload_n dX12_ask_21 rfl rfl ?_
  refine g_if_leN 180 dX12_ask_22 (by decide) (by omega) (fun _ => ?_) (fun z => absurd z (by omega))
  refine g_iload_n dX12_ask_180 rfl rfl ?_
  refine g_iret dX12_ask_181 rfl rfl ?_
  exact ⟨_, rfl, (if_pos (by omega)).symm, rfl⟩
theorem y_askW (S : zs_S) (hJ : zs_J S) (M : Nat → Nat → Nat) (m : Nat) (hM : zs_hm S 46 47 M m 3 99) : zs_Ci MX12_ask [.ref 80] S (fun x S2 => zs_J S2 ∧ zs_fm_W S S2 ∧ x = zs_akn (zs_ls M m)) := (y_askX S M m hM).mono (fun _ _ q => by
  obtain ⟨x, rfl, rfl, rfl⟩ := q
  exact ⟨_, rfl, hJ, zs_fm_W.rf, rfl⟩)
set_option maxRecDepth 100000 in
theorem z_look_b (S : zs_S) (b a mo : Nat) (hb : b < 64) (ha : a < 6) (t : Nat) (ht0 : t < 100) (x4 : Int32) (x3 : Int32) (x1 : Int32) (Q : Option Value → zs_S → Prop) (hk : zs_P MX12_look 132 [(9, .int (nI 6)), (8, .int (nI (zs_kn (fun i => zs_sit i (t / 10) (t % 10)) b a 6))), (7, .int (nI a)), (6, .int (nI mo)), (5, .int (nI t)), (4, .int x4), (3, .int x3), (2, .int (nI b)), (0, .ref 80), (1, .int x1)] [] S Q) : ∀ (d j : Nat), j + d = 6 → zs_P MX12_look 58 [(9, .int (nI j)), (8, .int (nI (zs_kn (fun i => zs_sit i (t / 10) (t % 10)) b a j))), (7, .int (nI a)), (6, .int (nI mo)), (5, .int (nI t)), (4, .int x4), (3, .int x3), (2, .int (nI b)), (0, .ref 80), (1, .int x1)] [] S Q := by
  intro d
  induction d with
  | zero =>
    intro j hj
    obtain rfl : j = 6 := by omega
    refine g_iload dX12_look_58 rfl ?_
    refine g_bipush (v := (nI 6)) dX12_look_60 rfl ?_
    refine g_ic_geN 132 dX12_look_62 (by decide) (by omega) (by omega) (fun _ => ?_) (fun z => absurd z (by omega))
    exact hk
  | succ d ih =>
    intro j hj
    refine g_iload dX12_look_58 rfl ?_
    refine g_bipush (v := (nI 6)) dX12_look_60 rfl ?_
    refine g_ic_geN 132 dX12_look_62 (by decide) (by omega) (by omega) (fun z => absurd z (by omega)) (fun _ => ?_)
    refine g_iload dX12_look_65 rfl ?_
    refine g_iload_n dX12_look_67 rfl rfl ?_
    refine g_iload dX12_look_68 rfl ?_
    refine g_callS [.int (nI b), .int (nI a)] [.int (nI (zs_kn (fun i => zs_sit i (t / 10) (t % 10)) b a j))] (z_hasN S b a hb (by omega)) dX12_look_70 kk_X12_look_X12_has ml_RX12_215 swX12_has rfl rfl (Nat.le_of_ble_eq_true rfl) ?_
    rintro _ _ ⟨_, rfl, rfl, rfl⟩
    refine g_if_eq 122 dX12_look_73 (by decide) (fun h1 => ?_) (fun h1 => ?_)
    · have h1 := zs_b0 h1
      refine g_iconst (v := (nI 0)) dX12_look_122 rfl ?_
      refine g_iaddN dX12_look_123 ?_
      refine g_istore (lv' := [(8, .int (nI ((zs_kn (fun i => zs_sit i (t / 10) (t % 10)) b a j) + 0))), (9, .int (nI j)), (7, .int (nI a)), (6, .int (nI mo)), (5, .int (nI t)), (4, .int x4), (3, .int x3), (2, .int (nI b)), (0, .ref 80), (1, .int x1)]) dX12_look_124 (by decide) rfl ?_
      refine g_iinc (v := (nI (j + 1))) (lv' := [(9, .int (nI (j + 1))), (8, .int (nI ((zs_kn (fun i => zs_sit i (t / 10) (t % 10)) b a j) + 0))), (7, .int (nI a)), (6, .int (nI mo)), (5, .int (nI t)), (4, .int x4), (3, .int x3), (2, .int (nI b)), (0, .ref 80), (1, .int x1)]) dX12_look_126 rfl (nI_1 j) (by decide) rfl ?_
      refine g_goto 58 dX12_look_129 (by decide) ?_
      have e3 : zs_kn (fun i => zs_sit i (t / 10) (t % 10)) b a (j + 1) = zs_kn (fun i => zs_sit i (t / 10) (t % 10)) b a j + 0 := zs_kn0 (v := (fun i => zs_sit i (t / 10) (t % 10))) (fun z => h1 z.1.1)
      have ih := ih (j + 1) (by omega)
      rw [e3] at ih
      exact ih.lv (zs_mc 0 rfl (zs_mc 1 rfl (zs_mc 2 rfl (zs_mc 3 rfl (zs_mc 4 rfl (zs_mc 5 rfl (zs_mc 6 rfl (zs_mc 7 rfl (zs_mc 8 rfl (zs_mc 9 rfl zs_mn))))))))))
    · have h1 := zs_b1 h1
      refine g_iload_n dX12_look_76 rfl rfl ?_
      refine g_iload dX12_look_77 rfl ?_
      refine g_callS [.int (nI b), .int (nI j)] [.int (nI (zs_kn (fun i => zs_sit i (t / 10) (t % 10)) b a j))] (z_hasN S b j hb (by omega)) dX12_look_79 kk_X12_look_X12_has ml_RX12_215 swX12_has rfl rfl (Nat.le_of_ble_eq_true rfl) ?_
      rintro _ _ ⟨_, rfl, rfl, rfl⟩
      refine g_if_eq 122 dX12_look_82 (by decide) (fun h2 => ?_) (fun h2 => ?_)
      · have h2 := zs_b0 h2
        refine g_iconst (v := (nI 0)) dX12_look_122 rfl ?_
        refine g_iaddN dX12_look_123 ?_
        refine g_istore (lv' := [(8, .int (nI ((zs_kn (fun i => zs_sit i (t / 10) (t % 10)) b a j) + 0))), (9, .int (nI j)), (7, .int (nI a)), (6, .int (nI mo)), (5, .int (nI t)), (4, .int x4), (3, .int x3), (2, .int (nI b)), (0, .ref 80), (1, .int x1)]) dX12_look_124 (by decide) rfl ?_
        refine g_iinc (v := (nI (j + 1))) (lv' := [(9, .int (nI (j + 1))), (8, .int (nI ((zs_kn (fun i => zs_sit i (t / 10) (t % 10)) b a j) + 0))), (7, .int (nI a)), (6, .int (nI mo)), (5, .int (nI t)), (4, .int x4), (3, .int x3), (2, .int (nI b)), (0, .ref 80), (1, .int x1)]) dX12_look_126 rfl (nI_1 j) (by decide) rfl ?_
        refine g_goto 58 dX12_look_129 (by decide) ?_
        have e3 : zs_kn (fun i => zs_sit i (t / 10) (t % 10)) b a (j + 1) = zs_kn (fun i => zs_sit i (t / 10) (t % 10)) b a j + 0 := zs_kn0 (v := (fun i => zs_sit i (t / 10) (t % 10))) (fun z => h2 z.1.2)
        have ih := ih (j + 1) (by omega)
        rw [e3] at ih
        exact ih.lv (zs_mc 0 rfl (zs_mc 1 rfl (zs_mc 2 rfl (zs_mc 3 rfl (zs_mc 4 rfl (zs_mc 5 rfl (zs_mc 6 rfl (zs_mc 7 rfl (zs_mc 8 rfl (zs_mc 9 rfl zs_mn))))))))))
      · have h2 := zs_b1 h2
        refine g_iload dX12_look_85 rfl ?_
        refine g_iload dX12_look_87 rfl ?_
        refine g_bipush (v := (nI 10)) dX12_look_89 rfl ?_
        refine g_idivN dX12_look_91 (by omega) (by omega) (by omega) ?_
        refine g_iload dX12_look_92 rfl ?_
        refine g_bipush (v := (nI 10)) dX12_look_94 rfl ?_
        refine g_iremN dX12_look_96 (by omega) (by omega) (by omega) ?_
        refine g_callS [.int (nI a), .int (nI (t / 10)), .int (nI (t % 10))] [.int (nI (zs_kn (fun i => zs_sit i (t / 10) (t % 10)) b a j))] (z_looks S a (t / 10) (t % 10) (by omega) (by omega) (by omega)) dX12_look_97 kk_X12_look_X12_looks ml_RX12_166 swX12_looks rfl rfl (Nat.le_of_ble_eq_true rfl) ?_
        rintro _ _ ⟨_, rfl, rfl, rfl⟩
        have hpa := zs_sit9 (c := a) (p := t / 10) (q := t % 10) (by omega) (by omega)
        refine g_iload dX12_look_100 rfl ?_
        refine g_iload dX12_look_102 rfl ?_
        refine g_bipush (v := (nI 10)) dX12_look_104 rfl ?_
        refine g_idivN dX12_look_106 (by omega) (by omega) (by omega) ?_
        refine g_iload dX12_look_107 rfl ?_
        refine g_bipush (v := (nI 10)) dX12_look_109 rfl ?_
        refine g_iremN dX12_look_111 (by omega) (by omega) (by omega) ?_
        refine g_callS [.int (nI j), .int (nI (t / 10)), .int (nI (t % 10))] [.int (nI (zs_sit a (t / 10) (t % 10))), .int (nI (zs_kn (fun i => zs_sit i (t / 10) (t % 10)) b a j))] (z_looks S j (t / 10) (t % 10) (by omega) (by omega) (by omega)) dX12_look_112 kk_X12_look_X12_looks ml_RX12_166 swX12_looks rfl rfl (Nat.le_of_ble_eq_true rfl) ?_
        rintro _ _ ⟨_, rfl, rfl, rfl⟩
        have hpj := zs_sit9 (c := j) (p := t / 10) (q := t % 10) (by omega) (by omega)
        refine g_ic_neN 122 dX12_look_115 (by decide) (by omega) (by omega) (fun h3 => ?_) (fun h3 => ?_)
        · refine g_iconst (v := (nI 0)) dX12_look_122 rfl ?_
          refine g_iaddN dX12_look_123 ?_
          refine g_istore (lv' := [(8, .int (nI ((zs_kn (fun i => zs_sit i (t / 10) (t % 10)) b a j) + 0))), (9, .int (nI j)), (7, .int (nI a)), (6, .int (nI mo)), (5, .int (nI t)), (4, .int x4), (3, .int x3), (2, .int (nI b)), (0, .ref 80), (1, .int x1)]) dX12_look_124 (by decide) rfl ?_
          refine g_iinc (v := (nI (j + 1))) (lv' := [(9, .int (nI (j + 1))), (8, .int (nI ((zs_kn (fun i => zs_sit i (t / 10) (t % 10)) b a j) + 0))), (7, .int (nI a)), (6, .int (nI mo)), (5, .int (nI t)), (4, .int x4), (3, .int x3), (2, .int (nI b)), (0, .ref 80), (1, .int x1)]) dX12_look_126 rfl (nI_1 j) (by decide) rfl ?_
          refine g_goto 58 dX12_look_129 (by decide) ?_
          have e3 : zs_kn (fun i => zs_sit i (t / 10) (t % 10)) b a (j + 1) = zs_kn (fun i => zs_sit i (t / 10) (t % 10)) b a j + 0 := zs_kn0 (v := (fun i => zs_sit i (t / 10) (t % 10))) (fun z => h3 z.2)
          have ih := ih (j + 1) (by omega)
          rw [e3] at ih
          exact ih.lv (zs_mc 0 rfl (zs_mc 1 rfl (zs_mc 2 rfl (zs_mc 3 rfl (zs_mc 4 rfl (zs_mc 5 rfl (zs_mc 6 rfl (zs_mc 7 rfl (zs_mc 8 rfl (zs_mc 9 rfl zs_mn))))))))))
        · refine g_iconst (v := (nI 1)) dX12_look_118 rfl ?_
          refine g_goto 123 dX12_look_119 (by decide) ?_
          refine g_iaddN dX12_look_123 ?_
          refine g_istore (lv' := [(8, .int (nI ((zs_kn (fun i => zs_sit i (t / 10) (t % 10)) b a j) + 1))), (9, .int (nI j)), (7, .int (nI a)), (6, .int (nI mo)), (5, .int (nI t)), (4, .int x4), (3, .int x3), (2, .int (nI b)), (0, .ref 80), (1, .int x1)]) dX12_look_124 (by decide) rfl ?_
          refine g_iinc (v := (nI (j + 1))) (lv' := [(9, .int (nI (j + 1))), (8, .int (nI ((zs_kn (fun i => zs_sit i (t / 10) (t % 10)) b a j) + 1))), (7, .int (nI a)), (6, .int (nI mo)), (5, .int (nI t)), (4, .int x4), (3, .int x3), (2, .int (nI b)), (0, .ref 80), (1, .int x1)]) dX12_look_126 rfl (nI_1 j) (by decide) rfl ?_
          refine g_goto 58 dX12_look_129 (by decide) ?_
          have e3 : zs_kn (fun i => zs_sit i (t / 10) (t % 10)) b a (j + 1) = zs_kn (fun i => zs_sit i (t / 10) (t % 10)) b a j + 1 := zs_kn1 (v := (fun i => zs_sit i (t / 10) (t % 10))) ⟨⟨h1, h2⟩, h3⟩
          have ih := ih (j + 1) (by omega)
          rw [e3] at ih
          exact ih.lv (zs_mc 0 rfl (zs_mc 1 rfl (zs_mc 2 rfl (zs_mc 3 rfl (zs_mc 4 rfl (zs_mc 5 rfl (zs_mc 6 rfl (zs_mc 7 rfl (zs_mc 8 rfl (zs_mc 9 rfl zs_mn))))))))))
set_option maxRecDepth 100000 in
theorem z_look_a (S : zs_S) (b : Nat) (hb : b < 64) (t : Nat) (ht0 : t < 100) (x4 : Int32) (x3 : Int32) (x1 : Int32) (Q : Option Value → zs_S → Prop) (hk : zs_P MX12_look 154 [(7, .int (nI 6)), (6, .int (nI (zs_km (fun i => zs_sit i (t / 10) (t % 10)) b 6))), (5, .int (nI t)), (4, .int x4), (3, .int x3), (2, .int (nI b)), (0, .ref 80), (1, .int x1)] [] S Q) : ∀ (d a : Nat), a + d = 6 → zs_P MX12_look 45 [(7, .int (nI a)), (6, .int (nI (zs_km (fun i => zs_sit i (t / 10) (t % 10)) b a))), (5, .int (nI t)), (4, .int x4), (3, .int x3), (2, .int (nI b)), (0, .ref 80), (1, .int x1)] [] S Q := by
  intro d
  induction d with
  | zero =>
    intro a ha
    obtain rfl : a = 6 := by omega
    refine g_iload dX12_look_45 rfl ?_
    refine g_bipush (v := (nI 6)) dX12_look_47 rfl ?_
    refine g_ic_geN 154 dX12_look_49 (by decide) (by omega) (by omega) (fun _ => ?_) (fun z => absurd z (by omega))
    exact hk
  | succ d ih =>
    intro a ha
    refine g_iload dX12_look_45 rfl ?_
    refine g_bipush (v := (nI 6)) dX12_look_47 rfl ?_
    refine g_ic_geN 154 dX12_look_49 (by decide) (by omega) (by omega) (fun z => absurd z (by omega)) (fun _ => ?_)
    refine g_iconst (v := (nI 0)) dX12_look_52 rfl ?_
    refine g_istore (lv' := [(8, .int (nI 0)), (7, .int (nI a)), (6, .int (nI (zs_km (fun i => zs_sit i (t / 10) (t % 10)) b a))), (5, .int (nI t)), (4, .int x4), (3, .int x3), (2, .int (nI b)), (0, .ref 80), (1, .int x1)]) dX12_look_53 (by decide) rfl ?_
    refine g_iconst (v := (nI 0)) dX12_look_55 rfl ?_
    refine g_istore (lv' := [(9, .int (nI 0)), (8, .int (nI 0)), (7, .int (nI a)), (6, .int (nI (zs_km (fun i => zs_sit i (t / 10) (t % 10)) b a))), (5, .int (nI t)), (4, .int x4), (3, .int x3), (2, .int (nI b)), (0, .ref 80), (1, .int x1)]) dX12_look_56 (by decide) rfl ?_
    refine (z_look_b S b a (zs_km (fun i => zs_sit i (t / 10) (t % 10)) b a) hb (by omega) t ht0 x4 x3 x1 _ ?_ 6 0 (by omega)).lv (zs_mc 0 rfl (zs_mc 1 rfl (zs_mc 2 rfl (zs_mc 3 rfl (zs_mc 4 rfl (zs_mc 5 rfl (zs_mc 6 rfl (zs_mc 7 rfl (zs_mc 8 rfl (zs_mc 9 rfl zs_mn))))))))))
    have hb6 := zs_knB (fun i => zs_sit i (t / 10) (t % 10)) b a 6
    have ha6 := zs_kmB (fun i => zs_sit i (t / 10) (t % 10)) b a
    refine g_iload dX12_look_132 rfl ?_
    refine g_iload dX12_look_134 rfl ?_
    refine g_ic_leN 144 dX12_look_136 (by decide) (by omega) (by omega) (fun h1 => ?_) (fun h1 => ?_)
    · refine g_iload dX12_look_144 rfl ?_
      refine g_istore (lv' := [(6, .int (nI (zs_km (fun i => zs_sit i (t / 10) (t % 10)) b a))), (9, .int (nI 6)), (8, .int (nI (zs_kn (fun i => zs_sit i (t / 10) (t % 10)) b a 6))), (7, .int (nI a)), (5, .int (nI t)), (4, .int x4), (3, .int x3), (2, .int (nI b)), (0, .ref 80), (1, .int x1)]) dX12_look_146 (by decide) rfl ?_
      refine g_iinc (v := (nI (a + 1))) (lv' := [(7, .int (nI (a + 1))), (6, .int (nI (zs_km (fun i => zs_sit i (t / 10) (t % 10)) b a))), (9, .int (nI 6)), (8, .int (nI (zs_kn (fun i => zs_sit i (t / 10) (t % 10)) b a 6))), (5, .int (nI t)), (4, .int x4), (3, .int x3), (2, .int (nI b)), (0, .ref 80), (1, .int x1)]) dX12_look_148 rfl (nI_1 a) (by decide) rfl ?_
      refine g_goto 45 dX12_look_151 (by decide) ?_
      have e3 : (zs_km (fun i => zs_sit i (t / 10) (t % 10)) b (a + 1)) = (zs_km (fun i => zs_sit i (t / 10) (t % 10)) b a) := by show max _ _ = _; omega
      have ih := ih (a + 1) (by omega)
      rw [e3] at ih
      exact ih.lv (zs_mc 0 rfl (zs_mc 1 rfl (zs_mc 4 rfl (zs_mc 5 rfl (zs_mc 6 rfl (zs_mc 7 rfl (zs_mc 8 rfl (zs_mc 9 rfl zs_mn))))))))
    · refine g_iload dX12_look_139 rfl ?_
      refine g_goto 146 dX12_look_141 (by decide) ?_
      refine g_istore (lv' := [(6, .int (nI (zs_kn (fun i => zs_sit i (t / 10) (t % 10)) b a 6))), (9, .int (nI 6)), (8, .int (nI (zs_kn (fun i => zs_sit i (t / 10) (t % 10)) b a 6))), (7, .int (nI a)), (5, .int (nI t)), (4, .int x4), (3, .int x3), (2, .int (nI b)), (0, .ref 80), (1, .int x1)]) dX12_look_146 (by decide) rfl ?_
      refine g_iinc (v := (nI (a + 1))) (lv' := [(7, .int (nI (a + 1))), (6, .int (nI (zs_kn (fun i => zs_sit i (t / 10) (t % 10)) b a 6))), (9, .int (nI 6)), (8, .int (nI (zs_kn (fun i => zs_sit i (t / 10) (t % 10)) b a 6))), (5, .int (nI t)), (4, .int x4), (3, .int x3), (2, .int (nI b)), (0, .ref 80), (1, .int x1)]) dX12_look_148 rfl (nI_1 a) (by decide) rfl ?_
      refine g_goto 45 dX12_look_151 (by decide) ?_
      have e3 : (zs_km (fun i => zs_sit i (t / 10) (t % 10)) b (a + 1)) = (zs_kn (fun i => zs_sit i (t / 10) (t % 10)) b a 6) := by show max _ _ = _; omega
      have ih := ih (a + 1) (by omega)
      rw [e3] at ih
      exact ih.lv (zs_mc 0 rfl (zs_mc 1 rfl (zs_mc 4 rfl (zs_mc 5 rfl (zs_mc 6 rfl (zs_mc 7 rfl (zs_mc 8 rfl (zs_mc 9 rfl zs_mn))))))))
set_option maxRecDepth 100000 in
theorem z_look_t (S : zs_S) (b : Nat) (hb : b < 64) (hb0 : b ≠ 0) (x1 : Int32) (Q : Option Value → zs_S → Prop) (hq : Q (some (.int (zs_kg (zs_glk b) zs_cl 99 100).1)) S) : ∀ (d t : Nat), t + d = 100 → zs_P MX12_look 28 [(5, .int (nI t)), (4, .int (nI ((zs_kg (zs_glk b) zs_cl 99 t).2))), (3, .int ((zs_kg (zs_glk b) zs_cl 99 t).1)), (2, .int (nI b)), (0, .ref 80), (1, .int x1)] [] S Q := by
  intro d
  induction d with
  | zero =>
    intro t ht
    obtain rfl : t = 100 := by omega
    refine g_iload dX12_look_28 rfl ?_
    refine g_bipush (v := (nI 100)) dX12_look_30 rfl ?_
    refine g_ic_geN 190 dX12_look_32 (by decide) (by omega) (by omega) (fun _ => ?_) (fun z => absurd z (by omega))
    refine g_iload_n dX12_look_190 rfl rfl ?_
    refine g_iret dX12_look_191 rfl rfl ?_
    exact hq
  | succ d ih =>
    intro t ht
    refine g_iload dX12_look_28 rfl ?_
    refine g_bipush (v := (nI 100)) dX12_look_30 rfl ?_
    refine g_ic_geN 190 dX12_look_32 (by decide) (by omega) (by omega) (fun z => absurd z (by omega)) (fun _ => ?_)
    refine g_iload_n dX12_look_35 rfl rfl ?_
    refine g_if_leN 190 dX12_look_36 (by decide) (by omega) (fun z => absurd z (by omega)) (fun _ => ?_)
    refine g_iconst (v := (nI 0)) dX12_look_39 rfl ?_
    refine g_istore (lv' := [(6, .int (nI 0)), (5, .int (nI t)), (4, .int (nI ((zs_kg (zs_glk b) zs_cl 99 t).2))), (3, .int ((zs_kg (zs_glk b) zs_cl 99 t).1)), (2, .int (nI b)), (0, .ref 80), (1, .int x1)]) dX12_look_40 (by decide) rfl ?_
    refine g_iconst (v := (nI 0)) dX12_look_42 rfl ?_
    refine g_istore (lv' := [(7, .int (nI 0)), (6, .int (nI 0)), (5, .int (nI t)), (4, .int (nI ((zs_kg (zs_glk b) zs_cl 99 t).2))), (3, .int ((zs_kg (zs_glk b) zs_cl 99 t).1)), (2, .int (nI b)), (0, .ref 80), (1, .int x1)]) dX12_look_43 (by decide) rfl ?_
    refine (z_look_a S b hb t (by omega) _ _ _ _ ?_ 6 0 (by omega)).lv (zs_mc 0 rfl (zs_mc 1 rfl (zs_mc 2 rfl (zs_mc 3 rfl (zs_mc 4 rfl (zs_mc 5 rfl (zs_mc 6 rfl (zs_mc 7 rfl zs_mn))))))))
    have hb6 := zs_kmB (fun i => zs_sit i (t / 10) (t % 10)) b 6
    have hw6 : (zs_kg (zs_glk b) zs_cl 99 t).2 ≤ 99 := zs_kgB t
    refine g_iload dX12_look_154 rfl ?_
    refine g_iload dX12_look_156 rfl ?_
    refine g_ic_geN 166 dX12_look_158 (by decide) (by omega) (by omega) (fun h1 => ?_) (fun h1 => ?_)
    · refine g_iload_n dX12_look_166 rfl rfl ?_
      refine g_istore_n (lv' := [(3, .int ((zs_kg (zs_glk b) zs_cl 99 t).1)), (7, .int (nI 6)), (6, .int (nI (zs_km (fun i => zs_sit i (t / 10) (t % 10)) b 6))), (5, .int (nI t)), (4, .int (nI ((zs_kg (zs_glk b) zs_cl 99 t).2))), (2, .int (nI b)), (0, .ref 80), (1, .int x1)]) dX12_look_167 rfl (by decide) rfl ?_
      refine g_iload dX12_look_168 rfl ?_
      refine g_iload dX12_look_170 rfl ?_
      refine g_ic_geN 180 dX12_look_172 (by decide) (by omega) (by omega) (fun _ => ?_) (fun z => absurd z (by omega))
      refine g_iload dX12_look_180 rfl ?_
      refine g_istore (lv' := [(4, .int (nI ((zs_kg (zs_glk b) zs_cl 99 t).2))), (3, .int ((zs_kg (zs_glk b) zs_cl 99 t).1)), (7, .int (nI 6)), (6, .int (nI (zs_km (fun i => zs_sit i (t / 10) (t % 10)) b 6))), (5, .int (nI t)), (2, .int (nI b)), (0, .ref 80), (1, .int x1)]) dX12_look_182 (by decide) rfl ?_
      refine g_iinc (v := (nI (t + 1))) (lv' := [(5, .int (nI (t + 1))), (4, .int (nI ((zs_kg (zs_glk b) zs_cl 99 t).2))), (3, .int ((zs_kg (zs_glk b) zs_cl 99 t).1)), (7, .int (nI 6)), (6, .int (nI (zs_km (fun i => zs_sit i (t / 10) (t % 10)) b 6))), (2, .int (nI b)), (0, .ref 80), (1, .int x1)]) dX12_look_184 rfl (nI_1 t) (by decide) rfl ?_
      refine g_goto 28 dX12_look_187 (by decide) ?_
      have ef : zs_glk b t = zs_km (fun i => zs_sit i (t / 10) (t % 10)) b 6 := zs_km_mst.symm
      have e3 : zs_kg (zs_glk b) zs_cl 99 (t + 1) = zs_kg (zs_glk b) zs_cl 99 t := zs_kgF (by omega)
      have ih := ih (t + 1) (by omega)
      rw [e3] at ih
      exact ih.lv (zs_mc 0 rfl (zs_mc 1 rfl (zs_mc 2 rfl (zs_mc 5 rfl (zs_mc 6 rfl (zs_mc 7 rfl zs_mn))))))
    · refine g_iload dX12_look_161 rfl ?_
      refine g_goto 167 dX12_look_163 (by decide) ?_
      refine g_istore_n (lv' := [(3, .int (nI t)), (7, .int (nI 6)), (6, .int (nI (zs_km (fun i => zs_sit i (t / 10) (t % 10)) b 6))), (5, .int (nI t)), (4, .int (nI ((zs_kg (zs_glk b) zs_cl 99 t).2))), (2, .int (nI b)), (0, .ref 80), (1, .int x1)]) dX12_look_167 rfl (by decide) rfl ?_
      refine g_iload dX12_look_168 rfl ?_
      refine g_iload dX12_look_170 rfl ?_
      refine g_ic_geN 180 dX12_look_172 (by decide) (by omega) (by omega) (fun z => absurd z (by omega)) (fun _ => ?_)
      refine g_iload dX12_look_175 rfl ?_
      refine g_goto 182 dX12_look_177 (by decide) ?_
      refine g_istore (lv' := [(4, .int (nI (zs_km (fun i => zs_sit i (t / 10) (t % 10)) b 6))), (3, .int (nI t)), (7, .int (nI 6)), (6, .int (nI (zs_km (fun i => zs_sit i (t / 10) (t % 10)) b 6))), (5, .int (nI t)), (2, .int (nI b)), (0, .ref 80), (1, .int x1)]) dX12_look_182 (by decide) rfl ?_
      refine g_iinc (v := (nI (t + 1))) (lv' := [(5, .int (nI (t + 1))), (4, .int (nI (zs_km (fun i => zs_sit i (t / 10) (t % 10)) b 6))), (3, .int (nI t)), (7, .int (nI 6)), (6, .int (nI (zs_km (fun i => zs_sit i (t / 10) (t % 10)) b 6))), (2, .int (nI b)), (0, .ref 80), (1, .int x1)]) dX12_look_184 rfl (nI_1 t) (by decide) rfl ?_
      refine g_goto 28 dX12_look_187 (by decide) ?_
      have ef : zs_glk b t = zs_km (fun i => zs_sit i (t / 10) (t % 10)) b 6 := zs_km_mst.symm
      have e3 : zs_kg (zs_glk b) zs_cl 99 (t + 1) = (nI (t), zs_km (fun i => zs_sit i (t / 10) (t % 10)) b 6) := (zs_kgT (by omega)).trans (by rw [ef]; rfl)
      have ih := ih (t + 1) (by omega)
      rw [e3] at ih
      exact ih.lv (zs_mc 0 rfl (zs_mc 1 rfl (zs_mc 2 rfl (zs_mc 5 rfl (zs_mc 6 rfl (zs_mc 7 rfl zs_mn))))))
set_option maxRecDepth 100000 in
theorem y_lookW (e : Int32) (S : zs_S) (hJ : zs_J S) (ey : Nat) (hy : S.1 82 2 = nI ey) (hy5 : ey ≤ 5) (N : Nat → Nat → Nat) (m : Nat) (hM : zs_hm S 21 22 N m 4 9) : zs_Ci MX12_look [.ref 80, .int e] S (fun x S2 => zs_J S2 ∧ zs_fm_W S S2 ∧ (zs_qe (S.1 82 2) e = false → x = (-2)) ∧ (zs_qe (S.1 82 2) e = true → ∀ k, k ≤ 4 → e = nI k → x = zs_lkn (zs_es N m k))) := by
  refine zs_C.of (by decide) (Nat.le_of_ble_eq_true rfl) ?_
  show zs_P MX12_look 0 [(0, .ref 80), (1, .int e)] [] S _
  refine g_aload_n dX12_look_0 rfl rfl ?_
  refine g_iload_n dX12_look_1 rfl rfl ?_
  refine g_callV (T := TX12) (NN := 19) [] (z_isEye S e) dX12_look_2 kk_X12_look_X12_isEye ml_RX12_185 mwX12_isEye ewX12_isEye (by decide) rfl rfl rfl rfl (Nat.le_of_ble_eq_true rfl) ?_
  rintro _ _ ⟨_, rfl, rfl, rfl⟩
  refine g_if_ne 13 dX12_look_5 (by decide) (fun h1 => ?_) (fun h1 => ?_)
  · have h1 := zs_b1 h1
    have q0 := zs_qeT h1
    obtain ⟨ek, hek, -, rfl⟩ := zs_eyk h1 hy hy5
    refine g_aload_n dX12_look_13 rfl rfl ?_
    refine g_iload_n dX12_look_14 rfl rfl ?_
    refine g_callV (T := TX12) (NN := 19) [] (y_eyesThatX S N m ek (by omega) hM) dX12_look_15 kk_X12_look_X12_eyesThat ml_RX12_212 mwX12_eyesThat ewX12_eyesThat (by decide) rfl rfl rfl rfl (Nat.le_of_ble_eq_true rfl) ?_
    rintro _ _ ⟨_, rfl, rfl, rfl⟩
    have h64 := zs_es64 (N := N) (m := m) (e := ek)
    refine g_istore_n (lv' := [(2, .int (nI (zs_es N m ek))), (0, .ref 80), (1, .int (nI ek))]) dX12_look_18 rfl (by decide) rfl ?_
    refine g_iconst (v := (-1)) dX12_look_19 rfl ?_
    refine g_istore_n (lv' := [(3, .int (-1)), (2, .int (nI (zs_es N m ek))), (0, .ref 80), (1, .int (nI ek))]) dX12_look_20 rfl (by decide) rfl ?_
    refine g_bipush (v := (nI 99)) dX12_look_21 rfl ?_
    refine g_istore (lv' := [(4, .int (nI 99)), (3, .int (-1)), (2, .int (nI (zs_es N m ek))), (0, .ref 80), (1, .int (nI ek))]) dX12_look_23 (by decide) rfl ?_
    refine g_iconst (v := (nI 0)) dX12_look_25 rfl ?_
    refine g_istore (lv' := [(5, .int (nI 0)), (4, .int (nI 99)), (3, .int (-1)), (2, .int (nI (zs_es N m ek))), (0, .ref 80), (1, .int (nI ek))]) dX12_look_26 (by decide) rfl ?_
    by_cases hb0 : zs_es N m ek ≠ 0
    · exact (z_look_t S (zs_es N m ek) h64 hb0 _ _ ⟨_, rfl, hJ, zs_fm_W.rf, fun z => absurd z (by rw [q0]; decide), fun _ k hk hz => by
        obtain rfl : ek = k := (nI_eq (by omega) (by omega)).mp hz
        exact (if_neg hb0).symm⟩ 100 0 (by omega)).lv (zs_mc 0 rfl (zs_mc 1 rfl (zs_mc 2 rfl (zs_mc 3 rfl (zs_mc 4 rfl (zs_mc 5 rfl zs_mn))))))
    refine g_iload dX12_look_28 rfl ?_
    refine g_bipush (v := (nI 100)) dX12_look_30 rfl ?_
    refine g_ic_geN 190 dX12_look_32 (by decide) (by omega) (by omega) (fun z => absurd z (by omega)) (fun _ => ?_)
    refine g_iload_n dX12_look_35 rfl rfl ?_
    refine g_if_leN 190 dX12_look_36 (by decide) (by omega) (fun _ => ?_) (fun z => absurd z (by omega))
    refine g_iload_n dX12_look_190 rfl rfl ?_
    refine g_iret dX12_look_191 rfl rfl ?_
    exact ⟨_, rfl, hJ, zs_fm_W.rf, fun z => absurd z (by rw [q0]; decide), fun _ k hk hz => by
      obtain rfl : ek = k := (nI_eq (by omega) (by omega)).mp hz
      exact (if_pos (by omega)).symm⟩
  · have h1 := zs_b0 h1
    refine g_aload_n dX12_look_8 rfl rfl ?_
    refine g_callV (T := TX12) (NN := 19) [] (q_badW S hJ) dX12_look_9 kk_X12_look_X12_bad ml_RX12_62 mwX12_bad ewX12_bad (by decide) rfl rfl rfl rfl (Nat.le_of_ble_eq_true rfl) ?_
    rintro _ S2 ⟨x3, rfl, ex3, jS2, fS2⟩
    refine g_iret dX12_look_12 rfl rfl ?_
    exact ⟨_, rfl, jS2, fS2, fun _ => ex3, fun z => absurd z (by rw [zs_qeF h1]; exact Bool.false_ne_true)⟩
