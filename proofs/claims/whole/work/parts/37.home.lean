/-! home: rings of views -/
def walkN (C : Cty) : Nat → Nat → Nat → Nat
  | 0, s, _ => s
  | n + 1, s, a => walkN C n (s ||| 2 ^ a) (zV C a)
def spinN (C : Cty) : Nat → Nat → Nat → Nat
  | 0, s, _ => s
  | d + 1, s, a => if s.testBit a = true then s else spinN C d (s ||| 2 ^ a) (zV C a)
def maskN (C : Cty) : Nat → Nat
  | 0 => 0
  | f + 1 => if (maskN C f).testBit f = true then maskN C f else walkN C (zF C) (maskN C f) f
def seenN (C : Cty) : Nat → Nat
  | 0 => 0
  | f + 1 => seenN C f + (if (maskN C f).testBit f = true then 1 else 0)
def f_home (S : Sy) : Int32 × Sy := ok (seenN (yC S) (zF (yC S))) S
theorem tb_or {s a x : Nat} : (s ||| 2 ^ a).testBit x = (s.testBit x || decide (a = x)) := by
  rw [Nat.testBit_or, Nat.testBit_two_pow]
theorem or_in {s a : Nat} (h : s.testBit a = true) : s ||| 2 ^ a = s := by
  apply Nat.eq_of_testBit_eq
  intro i
  rw [tb_or]
  by_cases q : a = i
  · rw [← q, h, Bool.true_or]
  · rw [decide_eq_false q, Bool.or_false]
theorem or_lt {s a : Nat} (hs : s < 256) (ha : a < 8) : s ||| 2 ^ a < 256 := Nat.or_lt_two_pow (n := 8) hs (Nat.pow_lt_pow_right (by decide) ha)
theorem onN_s {C : Cty} : ∀ n f, onN C (n + 1) f = zV C (onN C n f)
  | 0, _ => rfl
  | n + 1, f => onN_s n (zV C f)
theorem onN_add {C : Cty} : ∀ m n f, onN C (m + n) f = onN C n (onN C m f)
  | 0, n, f => by rw [Nat.zero_add]; rfl
  | m + 1, n, f => by
    rw [Nat.add_right_comm]
    exact onN_add m n (zV C f)
theorem onN_inj {C : Cty} (W : WC C) : ∀ n a b, a < zF C → b < zF C → onN C n a = onN C n b → a = b
  | 0, _, _, _, _, q => q
  | n + 1, a, b, ha, hb, q => W.vi ha hb (onN_inj W n _ _ (W.v ha) (W.v hb) q)
theorem ring {C : Cty} (W : WC C) {f : Nat} (hf : f < zF C) : ∃ p, 1 ≤ p ∧ p ≤ zF C ∧ onN C p f = f := by
  obtain ⟨i, j, hij, hj, q⟩ := fb_twice (m := zF C) (n := zF C + 1) (f := fun i => onN C i f) (fun i _ => onN_lt W i f hf) (by omega)
  refine ⟨j - i, by omega, by omega, ?_⟩
  have q : onN C i f = onN C j f := q
  rw [show j = (j - i) + i by omega, onN_add] at q
  exact (onN_inj W i _ _ hf (onN_lt W _ _ hf) q).symm
theorem least_of (P : Nat → Prop) : ∀ n, (∃ p, 1 ≤ p ∧ p ≤ n ∧ P p) → ∃ p, 1 ≤ p ∧ p ≤ n ∧ P p ∧ ∀ q, 1 ≤ q → q < p → ¬ P q := by
  intro n
  induction n with
  | zero =>
    rintro ⟨p, h1, h2, _⟩
    omega
  | succ n ih =>
    rintro ⟨p, h1, h2, h3⟩
    by_cases c : ∃ p, 1 ≤ p ∧ p ≤ n ∧ P p
    · obtain ⟨p2, a1, a2, a3, a4⟩ := ih c
      exact ⟨p2, a1, by omega, a3, a4⟩
    · refine ⟨p, h1, h2, h3, fun q q1 q2 q3 => c ⟨q, q1, by omega, q3⟩⟩
theorem walk_tb {C : Cty} : ∀ n s a x, (walkN C n s a).testBit x = true ↔ (s.testBit x = true ∨ ∃ i, i < n ∧ onN C i a = x) := by
  intro n
  induction n with
  | zero =>
    intro s a x
    exact ⟨fun z => Or.inl z, fun z => by
      rcases z with z | ⟨i, hi, _⟩
      · exact z
      · omega⟩
  | succ n ih =>
    intro s a x
    rw [walkN, ih, tb_or]
    constructor
    · rintro (z | ⟨i, hi, q⟩)
      · rw [Bool.or_eq_true, decide_eq_true_eq] at z
        rcases z with z | z
        · exact Or.inl z
        · exact Or.inr ⟨0, by omega, z⟩
      · exact Or.inr ⟨i + 1, by omega, q⟩
    · rintro (z | ⟨i, hi, q⟩)
      · exact Or.inl (by rw [z, Bool.true_or])
      · rcases i with _ | i
        · have q : a = x := q
          exact Or.inl (by rw [decide_eq_true q, Bool.or_true])
        · exact Or.inr ⟨i, by omega, q⟩
theorem walk_add {C : Cty} : ∀ m n s a, walkN C (m + n) s a = walkN C n (walkN C m s a) (onN C m a)
  | 0, n, s, a => by rw [Nat.zero_add]; rfl
  | m + 1, n, s, a => by
    rw [Nat.add_right_comm]
    exact walk_add m n (s ||| 2 ^ a) (zV C a)
theorem walk_in {C : Cty} : ∀ n s a, (∀ i, i < n → s.testBit (onN C i a) = true) → walkN C n s a = s
  | 0, _, _, _ => rfl
  | n + 1, s, a, hx => by
    have h0 := hx 0 (by omega)
    rw [walkN, or_in (show s.testBit a = true from h0)]
    exact walk_in n s (zV C a) (fun i hi => hx (i + 1) (by omega))
theorem walk_lt {C : Cty} (W : WC C) : ∀ n s a, s < 256 → a < zF C → walkN C n s a < 256
  | 0, _, _, hs, _ => hs
  | n + 1, s, a, hs, ha => walk_lt W n _ _ (or_lt hs (by have := W.f; omega)) (W.v ha)
/-- a mask is whole rings -/
def isR (C : Cty) (s : Nat) : Prop := s < 256 ∧ (∀ x, x < zF C → (s.testBit (zV C x) = true ↔ s.testBit x = true))
theorem orb_mod {C : Cty} {f p : Nat} (hp : 1 ≤ p) (e : onN C p f = f) : ∀ i, ∃ k, k < p ∧ onN C i f = onN C k f := by
  intro i
  induction i with
  | zero => exact ⟨0, by omega, rfl⟩
  | succ i ih =>
    obtain ⟨k, hk, q⟩ := ih
    by_cases c : k + 1 < p
    · exact ⟨k + 1, c, by rw [onN_s, onN_s, q]⟩
    · refine ⟨0, by omega, ?_⟩
      rw [onN_s, q, ← onN_s, show k + 1 = p by omega, e]
      rfl
theorem isR_walk {C : Cty} (W : WC C) {s f : Nat} (R : isR C s) (hf : f < zF C) : isR C (walkN C (zF C) s f) := by
  obtain ⟨p, p1, p2, p3⟩ := ring W hf
  refine ⟨walk_lt W _ _ _ R.1 hf, fun x hx => ?_⟩
  rw [walk_tb, walk_tb, R.2 x hx]
  constructor
  · rintro (z | ⟨i, hi, q⟩)
    · exact Or.inl z
    · refine Or.inr ?_
      have q2 : onN C (i + (p - 1)) f = x := by
        apply W.vi (onN_lt W _ _ hf) hx
        rw [← q, ← onN_s, show i + (p - 1) + 1 = p + i by omega, onN_add, p3]
      obtain ⟨k, hk, q3⟩ := orb_mod p1 p3 (i + (p - 1))
      exact ⟨k, by omega, q3.symm.trans q2⟩
  · rintro (z | ⟨i, hi, q⟩)
    · exact Or.inl z
    · refine Or.inr ?_
      obtain ⟨k, hk, q3⟩ := orb_mod p1 p3 (i + 1)
      exact ⟨k, by omega, by rw [← q3, onN_s, q]⟩
theorem isR_mask {C : Cty} (W : WC C) : ∀ f, f ≤ zF C → isR C (maskN C f)
  | 0, _ => ⟨by show (0 : Nat) < 256; decide, fun x _ => by show (Nat.testBit 0 _ = true ↔ Nat.testBit 0 _ = true); rw [Nat.zero_testBit, Nat.zero_testBit]⟩
  | f + 1, hf => by
    have ih := isR_mask W f (by omega)
    rw [maskN]
    split
    · exact ih
    · exact isR_walk W ih (by omega)
theorem out_of {C : Cty} (W : WC C) {s f : Nat} (R : isR C s) (hf : f < zF C) (h0 : ¬ s.testBit f = true) : ∀ i, ¬ s.testBit (onN C i f) = true
  | 0 => h0
  | i + 1 => fun z => by
    rw [onN_s] at z
    exact out_of W R hf h0 i ((R.2 _ (onN_lt W i f hf)).mp z)
theorem spin_eq {C : Cty} (W : WC C) {s f : Nat} (R : isR C s) (hf : f < zF C) (h0 : ¬ s.testBit f = true) : spinN C 9 s f = walkN C (zF C) s f := by
  have h8 := W.f
  obtain ⟨p, p1, p2, p3, p4⟩ := least_of (fun p => onN C p f = f) (zF C) (ring W hf)
  have hw : walkN C (zF C) s f = walkN C p s f := by
    rw [show zF C = p + (zF C - p) by omega, walk_add, p3]
    refine walk_in _ _ _ (fun i _ => (walk_tb _ _ _ _).mpr (Or.inr ?_))
    obtain ⟨k, hk, q⟩ := orb_mod p1 p3 i
    exact ⟨k, hk, q.symm⟩
  rw [hw]
  have main : ∀ d j, j ≤ p → p < j + d → spinN C d (walkN C j s f) (onN C j f) = walkN C p s f := by
    intro d
    induction d with
    | zero => intro j h1 h2; omega
    | succ d ih =>
      intro j h1 h2
      rw [spinN]
      by_cases c : j = p
      · rw [if_pos, c]
        rw [c, p3]
        exact (walk_tb _ _ _ _).mpr (Or.inr ⟨0, by omega, rfl⟩)
      · rw [if_neg]
        · have := ih (j + 1) (by omega) (by omega)
          rw [walk_add, onN_s] at this
          exact this
        · intro z
          rcases (walk_tb _ _ _ _).mp z with z | ⟨i, hi, q⟩
          · exact out_of W R hf h0 j z
          · refine p4 (j - i) (by omega) (by omega) ?_
            rw [show j = (j - i) + i by omega, onN_add] at q
            exact (onN_inj W i _ _ hf (onN_lt W _ _ hf) q).symm
  exact main 9 0 (by omega) (by omega)
def spB (C : Cty) : Nat → Nat → Nat → Bool
  | 0, _, _ => false
  | d + 1, s, a => s.testBit a || spB C d (s ||| 2 ^ a) (zV C a)
theorem spin_end {C : Cty} (W : WC C) {s f : Nat} (hf : f < zF C) : spB C 9 s f = true := by
  have h8 := W.f
  obtain ⟨p, p1, p2, p3⟩ := ring W hf
  have main : ∀ d j, j ≤ p → p < j + d → spB C d (walkN C j s f) (onN C j f) = true := by
    intro d
    induction d with
    | zero => intro j h1 h2; omega
    | succ d ih =>
      intro j h1 h2
      rw [spB]
      by_cases c : j = p
      · have : (walkN C j s f).testBit (onN C j f) = true := by
          rw [c, p3]
          exact (walk_tb _ _ _ _).mpr (Or.inr ⟨0, by omega, rfl⟩)
        rw [this, Bool.true_or]
      · have := ih (j + 1) (by omega) (by omega)
        rw [walk_add, onN_s] at this
        have t : spB C d (walkN C j s f ||| 2 ^ onN C j f) (zV C (onN C j f)) = true := this
        rw [t, Bool.or_true]
  exact main 9 0 (by omega) (by omega)
theorem seen_le {C : Cty} : ∀ f, seenN C f ≤ f
  | 0 => Nat.le_refl _
  | f + 1 => by
    have := seen_le (C := C) f
    rw [seenN]
    split <;> omega
theorem pk_sub' {a b : Nat} (hb : b ≤ a) : nI a - nI b = nI (a - b) := pk_sub hb
section HOME
variable {E : En} {h : Hp} {Q : Option Value → Hp → Prop} {S : Sy} {C : Cty} {c : Nat}
theorem c_hoI (hC : isC c) (R : RC h c C) (W : WC C) (r : Int32) {f : Nat} (hf : f < 8) (K : ∀ x y : Value, ∀ s, s < 256 → True) : ∀ d i s a, i + d = zF C → s < 256 → a < zF C → Ev E mX1_exchangesTillHome 31 [.ref c, .int r, .int (nI s), .int (nI f), .int (nI a), .int (nI i)] [] h Q = Ev E mX1_exchangesTillHome 62 [.ref c, .int r, .int (nI (walkN C d s a)), .int (nI f), .int (nI (onN C d a)), .int (nI (zF C))] [] h Q := by
  have h8 := W.f
  intro d
  induction d with
  | zero =>
    intro i s a e hs ha
    rw [e_X1_exchangesTillHome_31]
    simp (disch := first | assumption | omega | exact isB_0 | exact isB_1 | exact isB_bI _ | decide) only [e_X1_exchangesTillHome_0, e_X1_exchangesTillHome_1, e_X1_exchangesTillHome_2, e_X1_exchangesTillHome_3, e_X1_exchangesTillHome_4, e_X1_exchangesTillHome_5, e_X1_exchangesTillHome_7, e_X1_exchangesTillHome_8, e_X1_exchangesTillHome_11, e_X1_exchangesTillHome_14, e_X1_exchangesTillHome_15, e_X1_exchangesTillHome_16, e_X1_exchangesTillHome_17, e_X1_exchangesTillHome_18, e_X1_exchangesTillHome_19, e_X1_exchangesTillHome_22, e_X1_exchangesTillHome_25, e_X1_exchangesTillHome_26, e_X1_exchangesTillHome_28, e_X1_exchangesTillHome_29, e_X1_exchangesTillHome_33, e_X1_exchangesTillHome_34, e_X1_exchangesTillHome_37, e_X1_exchangesTillHome_40, e_X1_exchangesTillHome_41, e_X1_exchangesTillHome_42, e_X1_exchangesTillHome_44, e_X1_exchangesTillHome_45, e_X1_exchangesTillHome_46, e_X1_exchangesTillHome_47, e_X1_exchangesTillHome_48, e_X1_exchangesTillHome_51, e_X1_exchangesTillHome_53, e_X1_exchangesTillHome_54, e_X1_exchangesTillHome_56, e_X1_exchangesTillHome_59, e_X1_exchangesTillHome_65, e_X1_exchangesTillHome_68, e_X1_exchangesTillHome_69, e_X1_exchangesTillHome_72, e_X1_exchangesTillHome_73, e_X1_exchangesTillHome_74, R.F, toL1, toL0, ite_self, if_true, if_false, ite_true, ite_false, nI_add, pk_mul, z_eq, z_lt, z_le, z_ge, z_gt, nI_eq, nI_leI, nI_ltI, bI_0, bI_1, not_true_eq_false, not_false_eq_true]
    rw [if_pos (by omega), show i = zF C by omega]
    rfl
  | succ d ih =>
    intro i s a e hs ha
    have ha8 : a < 8 := by omega
    rw [e_X1_exchangesTillHome_31]
    simp (disch := first | assumption | omega | exact isB_0 | exact isB_1 | exact isB_bI _ | decide) only [e_X1_exchangesTillHome_0, e_X1_exchangesTillHome_1, e_X1_exchangesTillHome_2, e_X1_exchangesTillHome_3, e_X1_exchangesTillHome_4, e_X1_exchangesTillHome_5, e_X1_exchangesTillHome_7, e_X1_exchangesTillHome_8, e_X1_exchangesTillHome_11, e_X1_exchangesTillHome_14, e_X1_exchangesTillHome_15, e_X1_exchangesTillHome_16, e_X1_exchangesTillHome_17, e_X1_exchangesTillHome_18, e_X1_exchangesTillHome_19, e_X1_exchangesTillHome_22, e_X1_exchangesTillHome_25, e_X1_exchangesTillHome_26, e_X1_exchangesTillHome_28, e_X1_exchangesTillHome_29, e_X1_exchangesTillHome_33, e_X1_exchangesTillHome_34, e_X1_exchangesTillHome_37, e_X1_exchangesTillHome_40, e_X1_exchangesTillHome_41, e_X1_exchangesTillHome_42, e_X1_exchangesTillHome_44, e_X1_exchangesTillHome_45, e_X1_exchangesTillHome_46, e_X1_exchangesTillHome_47, e_X1_exchangesTillHome_48, e_X1_exchangesTillHome_51, e_X1_exchangesTillHome_53, e_X1_exchangesTillHome_54, e_X1_exchangesTillHome_56, e_X1_exchangesTillHome_59, e_X1_exchangesTillHome_65, e_X1_exchangesTillHome_68, e_X1_exchangesTillHome_69, e_X1_exchangesTillHome_72, e_X1_exchangesTillHome_73, e_X1_exchangesTillHome_74, R.F, R.V ha8, or_bit s hs a ha8, toL1, toL0, ite_self, if_true, if_false, ite_true, ite_false, nI_add, pk_mul, z_eq, z_lt, z_le, z_ge, z_gt, nI_eq, nI_leI, nI_ltI, bI_0, bI_1, not_true_eq_false, not_false_eq_true]
    rw [if_neg (by omega)]
    exact ih (i + 1) _ _ (by omega) (or_lt hs ha8) (W.v ha)
theorem c_hoL (hC : isC c) (R : RC h c C) (W : WC C) : ∀ d f (x y : Value), f + d = zF C → Ev E mX1_exchangesTillHome 6 [.ref c, .int (nI (f - seenN C f)), .int (nI (maskN C f)), .int (nI f), x, y] [] h Q = Q (some (.int (nI (seenN C (zF C))))) h := by
  have h8 := W.f
  intro d
  induction d with
  | zero =>
    intro f x y e
    have hle := seen_le (C := C) f
    rw [e_X1_exchangesTillHome_6]
    have hsub : nI (zF C) - nI (f - seenN C f) = nI (seenN C (zF C)) := by
      rw [pk_sub (by omega), show f = zF C by omega]
      have := seen_le (C := C) (zF C)
      rw [show zF C - (zF C - seenN C (zF C)) = seenN C (zF C) by omega]
    simp (disch := first | assumption | omega | exact isB_0 | exact isB_1 | exact isB_bI _ | decide) only [e_X1_exchangesTillHome_0, e_X1_exchangesTillHome_1, e_X1_exchangesTillHome_2, e_X1_exchangesTillHome_3, e_X1_exchangesTillHome_4, e_X1_exchangesTillHome_5, e_X1_exchangesTillHome_7, e_X1_exchangesTillHome_8, e_X1_exchangesTillHome_11, e_X1_exchangesTillHome_14, e_X1_exchangesTillHome_15, e_X1_exchangesTillHome_16, e_X1_exchangesTillHome_17, e_X1_exchangesTillHome_18, e_X1_exchangesTillHome_19, e_X1_exchangesTillHome_22, e_X1_exchangesTillHome_25, e_X1_exchangesTillHome_26, e_X1_exchangesTillHome_28, e_X1_exchangesTillHome_29, e_X1_exchangesTillHome_33, e_X1_exchangesTillHome_34, e_X1_exchangesTillHome_37, e_X1_exchangesTillHome_40, e_X1_exchangesTillHome_41, e_X1_exchangesTillHome_42, e_X1_exchangesTillHome_44, e_X1_exchangesTillHome_45, e_X1_exchangesTillHome_46, e_X1_exchangesTillHome_47, e_X1_exchangesTillHome_48, e_X1_exchangesTillHome_51, e_X1_exchangesTillHome_53, e_X1_exchangesTillHome_54, e_X1_exchangesTillHome_56, e_X1_exchangesTillHome_59, e_X1_exchangesTillHome_65, e_X1_exchangesTillHome_68, e_X1_exchangesTillHome_69, e_X1_exchangesTillHome_72, e_X1_exchangesTillHome_73, e_X1_exchangesTillHome_74, R.F, hsub, toL1, toL0, ite_self, if_true, if_false, ite_true, ite_false, nI_add, pk_mul, z_eq, z_lt, z_le, z_ge, z_gt, nI_eq, nI_leI, nI_ltI, bI_0, bI_1, not_true_eq_false, not_false_eq_true]
    rw [if_pos (by omega)]
  | succ d ih =>
    intro f x y e
    have hf8 : f < 8 := by omega
    have hm := (isR_mask W f (by omega)).1
    have hle := seen_le (C := C) f
    rw [e_X1_exchangesTillHome_6]
    by_cases q : (maskN C f).testBit f = true
    · simp (disch := first | assumption | omega | exact isB_0 | exact isB_1 | exact isB_bI _ | decide) only [e_X1_exchangesTillHome_0, e_X1_exchangesTillHome_1, e_X1_exchangesTillHome_2, e_X1_exchangesTillHome_3, e_X1_exchangesTillHome_4, e_X1_exchangesTillHome_5, e_X1_exchangesTillHome_7, e_X1_exchangesTillHome_8, e_X1_exchangesTillHome_11, e_X1_exchangesTillHome_14, e_X1_exchangesTillHome_15, e_X1_exchangesTillHome_16, e_X1_exchangesTillHome_17, e_X1_exchangesTillHome_18, e_X1_exchangesTillHome_19, e_X1_exchangesTillHome_22, e_X1_exchangesTillHome_25, e_X1_exchangesTillHome_26, e_X1_exchangesTillHome_28, e_X1_exchangesTillHome_29, e_X1_exchangesTillHome_33, e_X1_exchangesTillHome_34, e_X1_exchangesTillHome_37, e_X1_exchangesTillHome_40, e_X1_exchangesTillHome_41, e_X1_exchangesTillHome_42, e_X1_exchangesTillHome_44, e_X1_exchangesTillHome_45, e_X1_exchangesTillHome_46, e_X1_exchangesTillHome_47, e_X1_exchangesTillHome_48, e_X1_exchangesTillHome_51, e_X1_exchangesTillHome_53, e_X1_exchangesTillHome_54, e_X1_exchangesTillHome_56, e_X1_exchangesTillHome_59, e_X1_exchangesTillHome_62, e_X1_exchangesTillHome_65, e_X1_exchangesTillHome_68, e_X1_exchangesTillHome_69, e_X1_exchangesTillHome_72, e_X1_exchangesTillHome_73, e_X1_exchangesTillHome_74, R.F, at_bit _ hm f hf8, q, Nat.one_ne_zero, toL1, toL0, ite_self, if_true, if_false, ite_true, ite_false, nI_add, pk_mul, z_eq, z_lt, z_le, z_ge, z_gt, nI_eq, nI_leI, nI_ltI, bI_0, bI_1, not_true_eq_false, not_false_eq_true]
      rw [if_neg (by omega)]
      have ih2 := ih (f + 1) x y (by omega)
      rw [seenN, maskN, if_pos q, if_pos q, show f + 1 - (seenN C f + 1) = f - seenN C f by omega] at ih2
      exact ih2
    · simp (disch := first | assumption | omega | exact isB_0 | exact isB_1 | exact isB_bI _ | decide) only [e_X1_exchangesTillHome_0, e_X1_exchangesTillHome_1, e_X1_exchangesTillHome_2, e_X1_exchangesTillHome_3, e_X1_exchangesTillHome_4, e_X1_exchangesTillHome_5, e_X1_exchangesTillHome_7, e_X1_exchangesTillHome_8, e_X1_exchangesTillHome_11, e_X1_exchangesTillHome_14, e_X1_exchangesTillHome_15, e_X1_exchangesTillHome_16, e_X1_exchangesTillHome_17, e_X1_exchangesTillHome_18, e_X1_exchangesTillHome_19, e_X1_exchangesTillHome_22, e_X1_exchangesTillHome_25, e_X1_exchangesTillHome_26, e_X1_exchangesTillHome_28, e_X1_exchangesTillHome_29, e_X1_exchangesTillHome_33, e_X1_exchangesTillHome_34, e_X1_exchangesTillHome_37, e_X1_exchangesTillHome_40, e_X1_exchangesTillHome_41, e_X1_exchangesTillHome_42, e_X1_exchangesTillHome_44, e_X1_exchangesTillHome_45, e_X1_exchangesTillHome_46, e_X1_exchangesTillHome_47, e_X1_exchangesTillHome_48, e_X1_exchangesTillHome_51, e_X1_exchangesTillHome_53, e_X1_exchangesTillHome_54, e_X1_exchangesTillHome_56, e_X1_exchangesTillHome_59, e_X1_exchangesTillHome_65, e_X1_exchangesTillHome_68, e_X1_exchangesTillHome_69, e_X1_exchangesTillHome_72, e_X1_exchangesTillHome_73, e_X1_exchangesTillHome_74, R.F, at_bit _ hm f hf8, q, Bool.false_eq_true, toL1, toL0, ite_self, if_true, if_false, ite_true, ite_false, nI_add, pk_mul, z_eq, z_lt, z_le, z_ge, z_gt, nI_eq, nI_leI, nI_ltI, bI_0, bI_1, not_true_eq_false, not_false_eq_true]
      rw [if_neg (by omega), c_hoI hC R W _ hf8 (fun _ _ _ _ => trivial) (zF C) 0 _ _ (by omega) hm (by omega)]
      have ih2 := ih (f + 1) (.int (nI (onN C (zF C) f))) (.int (nI (zF C))) (by omega)
      rw [seenN, maskN, if_neg q, if_neg q, show f + 1 - (seenN C f + 0) = f - seenN C f + 1 by omega] at ih2
      rw [e_X1_exchangesTillHome_62]
      simp (disch := first | assumption | omega | exact isB_0 | exact isB_1 | exact isB_bI _ | decide) only [e_X1_exchangesTillHome_0, e_X1_exchangesTillHome_1, e_X1_exchangesTillHome_2, e_X1_exchangesTillHome_3, e_X1_exchangesTillHome_4, e_X1_exchangesTillHome_5, e_X1_exchangesTillHome_7, e_X1_exchangesTillHome_8, e_X1_exchangesTillHome_11, e_X1_exchangesTillHome_14, e_X1_exchangesTillHome_15, e_X1_exchangesTillHome_16, e_X1_exchangesTillHome_17, e_X1_exchangesTillHome_18, e_X1_exchangesTillHome_19, e_X1_exchangesTillHome_22, e_X1_exchangesTillHome_25, e_X1_exchangesTillHome_26, e_X1_exchangesTillHome_28, e_X1_exchangesTillHome_29, e_X1_exchangesTillHome_33, e_X1_exchangesTillHome_34, e_X1_exchangesTillHome_37, e_X1_exchangesTillHome_40, e_X1_exchangesTillHome_41, e_X1_exchangesTillHome_42, e_X1_exchangesTillHome_44, e_X1_exchangesTillHome_45, e_X1_exchangesTillHome_46, e_X1_exchangesTillHome_47, e_X1_exchangesTillHome_48, e_X1_exchangesTillHome_51, e_X1_exchangesTillHome_53, e_X1_exchangesTillHome_54, e_X1_exchangesTillHome_56, e_X1_exchangesTillHome_59, e_X1_exchangesTillHome_65, e_X1_exchangesTillHome_68, e_X1_exchangesTillHome_69, e_X1_exchangesTillHome_72, e_X1_exchangesTillHome_73, e_X1_exchangesTillHome_74, toL1, toL0, ite_self, if_true, if_false, ite_true, ite_false, nI_add, pk_mul, z_eq, z_lt, z_le, z_ge, z_gt, nI_eq, nI_leI, nI_ltI, bI_0, bI_1, not_true_eq_false, not_false_eq_true]
      exact ih2
theorem v_home (R : RV h S) (K : Vo h Q (f_home S)) (W : WS S) : Ev E mX5_home 0 [.ref 0] [] h Q := by
  have hC := isC_1
  simp (disch := first | assumption | omega | exact isB_0 | exact isB_1 | exact isB_bI _ | decide) only [e_X5_home_0, e_X5_home_1, e_X5_home_4, e_X5_home_7, e_X1_exchangesTillHome_0, e_X1_exchangesTillHome_1, e_X1_exchangesTillHome_2, e_X1_exchangesTillHome_3, e_X1_exchangesTillHome_4, e_X1_exchangesTillHome_5, e_X1_exchangesTillHome_7, e_X1_exchangesTillHome_8, e_X1_exchangesTillHome_11, e_X1_exchangesTillHome_14, e_X1_exchangesTillHome_15, e_X1_exchangesTillHome_16, e_X1_exchangesTillHome_17, e_X1_exchangesTillHome_18, e_X1_exchangesTillHome_19, e_X1_exchangesTillHome_22, e_X1_exchangesTillHome_25, e_X1_exchangesTillHome_26, e_X1_exchangesTillHome_28, e_X1_exchangesTillHome_29, e_X1_exchangesTillHome_31, e_X1_exchangesTillHome_33, e_X1_exchangesTillHome_34, e_X1_exchangesTillHome_37, e_X1_exchangesTillHome_40, e_X1_exchangesTillHome_41, e_X1_exchangesTillHome_42, e_X1_exchangesTillHome_44, e_X1_exchangesTillHome_45, e_X1_exchangesTillHome_46, e_X1_exchangesTillHome_47, e_X1_exchangesTillHome_48, e_X1_exchangesTillHome_51, e_X1_exchangesTillHome_53, e_X1_exchangesTillHome_54, e_X1_exchangesTillHome_56, e_X1_exchangesTillHome_59, e_X1_exchangesTillHome_62, e_X1_exchangesTillHome_65, e_X1_exchangesTillHome_68, e_X1_exchangesTillHome_69, e_X1_exchangesTillHome_72, e_X1_exchangesTillHome_73, e_X1_exchangesTillHome_74, toL1, toL0, ite_self, if_true, if_false, ite_true, ite_false, nI_add, pk_mul, z_eq, z_lt, z_le, z_ge, z_gt, nI_eq, nI_leI, nI_ltI, bI_0, bI_1, not_true_eq_false, not_false_eq_true]
  have z := c_hoL (E := E) (Q := Q) isC_1 R.ci W.1 (zF (yC S)) 0 .null .null (by omega)
  first
    | (refine Eq.mpr (c_hoL isC_1 R.ci W.1 (zF (yC S)) 0 .null .null (by omega)) ?_
       simp (disch := first | assumption | omega | exact isB_0 | exact isB_1 | exact isB_bI _ | decide) only [e_X5_home_0, e_X5_home_1, e_X5_home_4, e_X5_home_7, toL1, toL0, ite_self, if_true, if_false, ite_true, ite_false, nI_add, pk_mul, z_eq, z_lt, z_le, z_ge, z_gt, nI_eq, nI_leI, nI_ltI, bI_0, bI_1, not_true_eq_false, not_false_eq_true]
       exact K h R Fr.rf)
theorem m_hoI (R : RR h 37 C) (W : WC C) (n : Int32) {f : Nat} (hf : f < 8) : ∀ d s a, s < 256 → a < zF C → spB C d s a = true → ∃ b : Nat, Ev E mX6_home 36 [.ref 36, .int (nI s), .int n, .int (nI f), .int (nI a)] [] h Q = Ev E mX6_home 64 [.ref 36, .int (nI (spinN C d s a)), .int n, .int (nI f), .int (nI b)] [] h Q := by
  have h8 := W.f
  intro d
  induction d with
  | zero =>
    intro s a hs ha z
    exact absurd (show false = true from z) (by decide)
  | succ d ih =>
    intro s a hs ha z
    have ha8 : a < 8 := by omega
    by_cases q : s.testBit a = true
    · refine ⟨a, ?_⟩
      rw [e_X6_home_36, spinN, if_pos q]
      simp (disch := first | assumption | omega | exact isB_0 | exact isB_1 | exact isB_bI _ | decide) only [e_X6_home_0, e_X6_home_1, e_X6_home_2, e_X6_home_3, e_X6_home_4, e_X6_home_5, e_X6_home_7, e_X6_home_8, e_X6_home_11, e_X6_home_12, e_X6_home_13, e_X6_home_16, e_X6_home_17, e_X6_home_19, e_X6_home_20, e_X6_home_21, e_X6_home_22, e_X6_home_23, e_X6_home_24, e_X6_home_25, e_X6_home_26, e_X6_home_29, e_X6_home_30, e_X6_home_33, e_X6_home_34, e_X6_home_35, e_X6_home_37, e_X6_home_39, e_X6_home_40, e_X6_home_41, e_X6_home_42, e_X6_home_45, e_X6_home_46, e_X6_home_47, e_X6_home_49, e_X6_home_50, e_X6_home_51, e_X6_home_52, e_X6_home_53, e_X6_home_55, e_X6_home_56, e_X6_home_59, e_X6_home_61, e_X6_home_67, e_X6_home_70, e_X6_home_71, at_bit s hs a ha8, q, Nat.one_ne_zero, toL1, toL0, ite_self, if_true, if_false, ite_true, ite_false, nI_add, pk_mul, z_eq, z_lt, z_le, z_ge, z_gt, nI_eq, nI_leI, nI_ltI, bI_0, bI_1, not_true_eq_false, not_false_eq_true]
    · rw [spB] at z
      rw [Bool.or_eq_true] at z
      rcases z with z | z
      · exact absurd z q
      · obtain ⟨b, hb⟩ := ih _ _ (or_lt hs ha8) (W.v ha) z
        refine ⟨b, ?_⟩
        rw [e_X6_home_36, spinN, if_neg q]
        simp (disch := first | assumption | omega | exact isB_0 | exact isB_1 | exact isB_bI _ | decide) only [e_X6_home_0, e_X6_home_1, e_X6_home_2, e_X6_home_3, e_X6_home_4, e_X6_home_5, e_X6_home_7, e_X6_home_8, e_X6_home_11, e_X6_home_12, e_X6_home_13, e_X6_home_16, e_X6_home_17, e_X6_home_19, e_X6_home_20, e_X6_home_21, e_X6_home_22, e_X6_home_23, e_X6_home_24, e_X6_home_25, e_X6_home_26, e_X6_home_29, e_X6_home_30, e_X6_home_33, e_X6_home_34, e_X6_home_35, e_X6_home_37, e_X6_home_39, e_X6_home_40, e_X6_home_41, e_X6_home_42, e_X6_home_45, e_X6_home_46, e_X6_home_47, e_X6_home_49, e_X6_home_50, e_X6_home_51, e_X6_home_52, e_X6_home_53, e_X6_home_55, e_X6_home_56, e_X6_home_59, e_X6_home_61, e_X6_home_67, e_X6_home_70, e_X6_home_71, at_bit s hs a ha8, q, Bool.false_eq_true, or_bit s hs a ha8, m_aV R ha8, toL1, toL0, ite_self, if_true, if_false, ite_true, ite_false, nI_add, pk_mul, z_eq, z_lt, z_le, z_ge, z_gt, nI_eq, nI_leI, nI_ltI, bI_0, bI_1, not_true_eq_false, not_false_eq_true]
        exact hb
theorem m_hoL (R : RR h 37 C) (W : WC C) : ∀ d f (x : Value), f + d = zF C → Ev E mX6_home 6 [.ref 36, .int (nI (maskN C f)), .int (nI (seenN C f)), .int (nI f), x] [] h Q = Q (some (.int (nI (seenN C (zF C))))) h := by
  have h8 := W.f
  intro d
  induction d with
  | zero =>
    intro f x e
    rw [e_X6_home_6]
    simp (disch := first | assumption | omega | exact isB_0 | exact isB_1 | exact isB_bI _ | decide) only [e_X6_home_0, e_X6_home_1, e_X6_home_2, e_X6_home_3, e_X6_home_4, e_X6_home_5, e_X6_home_7, e_X6_home_8, e_X6_home_11, e_X6_home_12, e_X6_home_13, e_X6_home_16, e_X6_home_17, e_X6_home_19, e_X6_home_20, e_X6_home_21, e_X6_home_22, e_X6_home_23, e_X6_home_24, e_X6_home_25, e_X6_home_26, e_X6_home_29, e_X6_home_30, e_X6_home_33, e_X6_home_34, e_X6_home_35, e_X6_home_37, e_X6_home_39, e_X6_home_40, e_X6_home_41, e_X6_home_42, e_X6_home_45, e_X6_home_46, e_X6_home_47, e_X6_home_49, e_X6_home_50, e_X6_home_51, e_X6_home_52, e_X6_home_53, e_X6_home_55, e_X6_home_56, e_X6_home_59, e_X6_home_61, e_X6_home_67, e_X6_home_70, e_X6_home_71, R.F, toL1, toL0, ite_self, if_true, if_false, ite_true, ite_false, nI_add, pk_mul, z_eq, z_lt, z_le, z_ge, z_gt, nI_eq, nI_leI, nI_ltI, bI_0, bI_1, not_true_eq_false, not_false_eq_true]
    rw [if_pos (by omega), show f = zF C by omega]
  | succ d ih =>
    intro f x e
    have hf8 : f < 8 := by omega
    have hR := isR_mask W f (by omega)
    have hm := hR.1
    rw [e_X6_home_6]
    by_cases q : (maskN C f).testBit f = true
    · simp (disch := first | assumption | omega | exact isB_0 | exact isB_1 | exact isB_bI _ | decide) only [e_X6_home_0, e_X6_home_1, e_X6_home_2, e_X6_home_3, e_X6_home_4, e_X6_home_5, e_X6_home_7, e_X6_home_8, e_X6_home_11, e_X6_home_12, e_X6_home_13, e_X6_home_16, e_X6_home_17, e_X6_home_19, e_X6_home_20, e_X6_home_21, e_X6_home_22, e_X6_home_23, e_X6_home_24, e_X6_home_25, e_X6_home_26, e_X6_home_29, e_X6_home_30, e_X6_home_33, e_X6_home_34, e_X6_home_35, e_X6_home_37, e_X6_home_39, e_X6_home_40, e_X6_home_41, e_X6_home_42, e_X6_home_45, e_X6_home_46, e_X6_home_47, e_X6_home_49, e_X6_home_50, e_X6_home_51, e_X6_home_52, e_X6_home_53, e_X6_home_55, e_X6_home_56, e_X6_home_59, e_X6_home_61, e_X6_home_67, e_X6_home_70, e_X6_home_71, R.F, at_bit _ hm f hf8, q, Nat.one_ne_zero, toL1, toL0, ite_self, if_true, if_false, ite_true, ite_false, nI_add, pk_mul, z_eq, z_lt, z_le, z_ge, z_gt, nI_eq, nI_leI, nI_ltI, bI_0, bI_1, not_true_eq_false, not_false_eq_true]
      rw [if_neg (by omega), e_X6_home_36]
      simp (disch := first | assumption | omega | exact isB_0 | exact isB_1 | exact isB_bI _ | decide) only [e_X6_home_0, e_X6_home_1, e_X6_home_2, e_X6_home_3, e_X6_home_4, e_X6_home_5, e_X6_home_7, e_X6_home_8, e_X6_home_11, e_X6_home_12, e_X6_home_13, e_X6_home_16, e_X6_home_17, e_X6_home_19, e_X6_home_20, e_X6_home_21, e_X6_home_22, e_X6_home_23, e_X6_home_24, e_X6_home_25, e_X6_home_26, e_X6_home_29, e_X6_home_30, e_X6_home_33, e_X6_home_34, e_X6_home_35, e_X6_home_37, e_X6_home_39, e_X6_home_40, e_X6_home_41, e_X6_home_42, e_X6_home_45, e_X6_home_46, e_X6_home_47, e_X6_home_49, e_X6_home_50, e_X6_home_51, e_X6_home_52, e_X6_home_53, e_X6_home_55, e_X6_home_56, e_X6_home_59, e_X6_home_61, e_X6_home_64, e_X6_home_67, e_X6_home_70, e_X6_home_71, at_bit _ hm f hf8, q, Nat.one_ne_zero, toL1, toL0, ite_self, if_true, if_false, ite_true, ite_false, nI_add, pk_mul, z_eq, z_lt, z_le, z_ge, z_gt, nI_eq, nI_leI, nI_ltI, bI_0, bI_1, not_true_eq_false, not_false_eq_true]
      have ih2 := ih (f + 1) (.int (nI f)) (by omega)
      rw [seenN, maskN, if_pos q, if_pos q] at ih2
      exact ih2
    · simp (disch := first | assumption | omega | exact isB_0 | exact isB_1 | exact isB_bI _ | decide) only [e_X6_home_0, e_X6_home_1, e_X6_home_2, e_X6_home_3, e_X6_home_4, e_X6_home_5, e_X6_home_7, e_X6_home_8, e_X6_home_11, e_X6_home_12, e_X6_home_13, e_X6_home_16, e_X6_home_17, e_X6_home_19, e_X6_home_20, e_X6_home_21, e_X6_home_22, e_X6_home_23, e_X6_home_24, e_X6_home_25, e_X6_home_26, e_X6_home_29, e_X6_home_30, e_X6_home_33, e_X6_home_34, e_X6_home_35, e_X6_home_37, e_X6_home_39, e_X6_home_40, e_X6_home_41, e_X6_home_42, e_X6_home_45, e_X6_home_46, e_X6_home_47, e_X6_home_49, e_X6_home_50, e_X6_home_51, e_X6_home_52, e_X6_home_53, e_X6_home_55, e_X6_home_56, e_X6_home_59, e_X6_home_61, e_X6_home_67, e_X6_home_70, e_X6_home_71, R.F, at_bit _ hm f hf8, q, Bool.false_eq_true, Nat.zero_ne_one, Nat.add_zero, toL1, toL0, ite_self, if_true, if_false, ite_true, ite_false, nI_add, pk_mul, z_eq, z_lt, z_le, z_ge, z_gt, nI_eq, nI_leI, nI_ltI, bI_0, bI_1, not_true_eq_false, not_false_eq_true]
      rw [if_neg (by omega)]
      obtain ⟨b, hb⟩ := m_hoI (E := E) (Q := Q) R W (nI (seenN C f)) hf8 9 _ f hm (by omega) (spin_end W (by omega))
      rw [hb, spin_eq W hR (by omega) q]
      have ih2 := ih (f + 1) (.int (nI b)) (by omega)
      rw [seenN, maskN, if_neg q, if_neg q, Nat.add_zero] at ih2
      rw [e_X6_home_64]
      simp (disch := first | assumption | omega | exact isB_0 | exact isB_1 | exact isB_bI _ | decide) only [e_X6_home_0, e_X6_home_1, e_X6_home_2, e_X6_home_3, e_X6_home_4, e_X6_home_5, e_X6_home_7, e_X6_home_8, e_X6_home_11, e_X6_home_12, e_X6_home_13, e_X6_home_16, e_X6_home_17, e_X6_home_19, e_X6_home_20, e_X6_home_21, e_X6_home_22, e_X6_home_23, e_X6_home_24, e_X6_home_25, e_X6_home_26, e_X6_home_29, e_X6_home_30, e_X6_home_33, e_X6_home_34, e_X6_home_35, e_X6_home_37, e_X6_home_39, e_X6_home_40, e_X6_home_41, e_X6_home_42, e_X6_home_45, e_X6_home_46, e_X6_home_47, e_X6_home_49, e_X6_home_50, e_X6_home_51, e_X6_home_52, e_X6_home_53, e_X6_home_55, e_X6_home_56, e_X6_home_59, e_X6_home_61, e_X6_home_67, e_X6_home_70, e_X6_home_71, toL1, toL0, ite_self, if_true, if_false, ite_true, ite_false, nI_add, pk_mul, z_eq, z_lt, z_le, z_ge, z_gt, nI_eq, nI_leI, nI_ltI, bI_0, bI_1, not_true_eq_false, not_false_eq_true]
      exact ih2
theorem m_home (R : RM h S) (K : Mo h Q (f_home S)) (W : WS S) : Ev E mX6_home 0 [.ref 36, .null, .null, .null, .null] [] h Q := by
  simp (disch := first | assumption | omega | exact isB_0 | exact isB_1 | exact isB_bI _ | decide) only [e_X6_home_0, e_X6_home_1, e_X6_home_2, e_X6_home_3, e_X6_home_4, e_X6_home_5, e_X6_home_7, e_X6_home_8, e_X6_home_11, e_X6_home_12, e_X6_home_13, e_X6_home_16, e_X6_home_17, e_X6_home_19, e_X6_home_20, e_X6_home_21, e_X6_home_22, e_X6_home_23, e_X6_home_24, e_X6_home_25, e_X6_home_26, e_X6_home_29, e_X6_home_30, e_X6_home_33, e_X6_home_34, e_X6_home_35, e_X6_home_36, e_X6_home_37, e_X6_home_39, e_X6_home_40, e_X6_home_41, e_X6_home_42, e_X6_home_45, e_X6_home_46, e_X6_home_47, e_X6_home_49, e_X6_home_50, e_X6_home_51, e_X6_home_52, e_X6_home_53, e_X6_home_55, e_X6_home_56, e_X6_home_59, e_X6_home_61, e_X6_home_64, e_X6_home_67, e_X6_home_70, e_X6_home_71, toL1, toL0, ite_self, if_true, if_false, ite_true, ite_false, nI_add, pk_mul, z_eq, z_lt, z_le, z_ge, z_gt, nI_eq, nI_leI, nI_ltI, bI_0, bI_1, not_true_eq_false, not_false_eq_true]
  refine Eq.mpr (m_hoL R.ci W.1 (zF (yC S)) 0 .null (by omega)) ?_
  exact K h R Fr.rf
end HOME
