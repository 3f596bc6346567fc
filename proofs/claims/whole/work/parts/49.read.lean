/-! read -/
def rdC (C : Cty) (v k f : Nat) : Cty := zsE (zsK C (updN (zK C) v k)) (updN (zE C) v f)
def fitB (g : Nat → Int64) (C : Cty) (o : Nat) : Nat → Nat → Bool
  | 0, _ => true
  | d + 1, i => if g i = (nI (foreM C i o)).toInt64 then fitB g C o d (i + 1) else false
theorem fitB_t {g : Nat → Int64} {C : Cty} {o d i : Nat} (h : g i = (nI (foreM C i o)).toInt64) : fitB g C o (d + 1) i = fitB g C o d (i + 1) := if_pos h
theorem fitB_f {g : Nat → Int64} {C : Cty} {o d i : Nat} (h : ¬ g i = (nI (foreM C i o)).toInt64) : fitB g C o (d + 1) i = false := if_neg h
def rdN (g : Nat → Int64) (C : Cty) (v o z : Nat) : Nat → Nat
  | 0 => 0
  | q + 1 => rdN g C v o z q + (if fitB g (rdC C v (q / 100) (q % 100)) o z 0 = true then 1 else 0)
theorem rdN_le {g : Nat → Int64} {C : Cty} {v o z : Nat} : ∀ q, rdN g C v o z q ≤ q
  | 0 => Nat.le_refl _
  | q + 1 => by
    have ih := rdN_le (g := g) (C := C) (v := v) (o := o) (z := z) q
    rw [rdN]
    split <;> omega
def f_read (a o v : Int32) (S : Sy) : Int32 × Sy :=
  if nI 0 ≤ a ∧ a ≤ nI 3 then if yW S (nv a) = 0 then bad 5 S else if nI 0 ≤ o ∧ o ≤ nI 3 then if hF v (zF (yC S)) then ok (rdN (yN S (nv a)) (yC S) (nv v) (nv o) (yZ S (nv a)) 600) S else bad 0 S else bad 0 S else bad 0 S
theorem W_rd {C : Cty} (W : WC C) {v k f : Nat} (hk : k < 6) (hf : f ≤ 99) : WC (rdC C v k f) := W_setE (W_setK W hk) hf
theorem sumN_one {p q : Nat → Nat} {j x : Nat} : ∀ n, j < n → p j = q j + x → (∀ i, i < n → i ≠ j → p i = q i) → sumN p n = sumN q n + x
  | 0, hj, _, _ => absurd hj (Nat.not_lt_zero _)
  | n + 1, hj, e, he => by
    rw [sumN, sumN]
    by_cases c : j = n
    · rw [sumN_cong n (fun i hi => he i (by omega) (by omega)), ← c, e]
      omega
    · rw [sumN_one n (by omega) e (fun i hi w => he i (by omega) w), he n (by omega) (by omega)]
      omega
theorem showN_at {C : Cty} (W : WC C) {v : Nat} (hv : v < zF C) : showN C v (zF C) < zF C ∧ zV C (showN C v (zF C)) = v := by
  obtain ⟨j, hj, e⟩ := fb_onto (n := zF C) (f := zV C) (fun i hi => W.v hi) (fun i j hij hj q => by have := W.vi (show i < zF C by omega) hj q; omega) hv
  have z : showN C v (zF C) = j := showN_of _ j hj e (fun i hi q => W.vi hi hj (q.trans e.symm))
  rw [z]
  exact ⟨hj, e⟩
/-- what an owner has with a view of such a kind, and so fine: the view's own worth ahead of the rest -/
theorem rd_min {C : Cty} (W : WC C) {v k f o : Nat} (hv : v < zF C) (i : Nat) : min 99999 (foreM (drC C (showN C v (zF C))) i o + (if zO C (showN C v (zF C)) = o ∧ zU C (showN C v (zF C)) = 0 then worS k f (zH C) i else 0)) = foreM (rdC C v k f) i o := by
  obtain ⟨hr, er⟩ := showN_at W hv
  have key : sumN (earnF (rdC C v k f) i o) (zF C) = sumN (earnF (drC C (showN C v (zF C))) i o) (zF C) + (if zO C (showN C v (zF C)) = o ∧ zU C (showN C v (zF C)) = 0 then worS k f (zH C) i else 0) := by
    refine sumN_one (j := showN C v (zF C)) _ hr ?_ (fun j hj hne => ?_)
    · have a1 : earnF (drC C (showN C v (zF C))) i o (showN C v (zF C)) = 0 := if_neg (fun z => by
        have := z.2
        rw [show zU (drC C (showN C v (zF C))) (showN C v (zF C)) = 1 from updN_s] at this
        omega)
      rw [a1, Nat.zero_add]
      show (if zO C _ = o ∧ zU C _ = 0 then worS (updN (zK C) v k (zV C _)) (updN (zE C) v f (zV C _)) (zH C) i else 0) = _
      rw [er, updN_s, updN_s]
    · show (if zO C j = o ∧ zU C j = 0 then worS (updN (zK C) v k (zV C j)) (updN (zE C) v f (zV C j)) (zH C) i else 0) = (if zO C j = o ∧ updN (zU C) _ 1 j = 0 then worS (zK C (zV C j)) (zE C (zV C j)) (zH C) i else 0)
      have hz : zV C j ≠ v := fun z => hne (W.vi hj hr (z.trans er.symm))
      rw [updN_n hz, updN_n hz, updN_n hne]
  show min 99999 (min 99999 (zM C o + sumN (earnF (drC C (showN C v (zF C))) i o) (zF C)) + _) = min 99999 (zM C o + sumN (earnF (rdC C v k f) i o) (zF C))
  rw [key]
  omega
section READ
variable {E : En} {h : Hp} {Q : Option Value → Hp → Prop} {S : Sy} {C D : Cty}
theorem v_fiL (R : RC h 1 C) (W : WC C) {s z k f v o : Nat} {g : Nat → Int64} (hs : s < 4) (hz : z ≤ 40) (hk : k < 6) (hf : f ≤ 99) (hv : v < zF C) {P : Prop} [Decidable P] (hP : P = (zO C (showN C v (zF C)) = o ∧ zU C (showN C v (zF C)) = 0)) (c1 : gI h (25 + s) 1 = nI z) (c2 : ∀ i, i < z → gL h (25 + s + 4) i = g i) (c3 : ∀ i, i < z → gA h 35 i = nI (foreM (drC C (showN C v (zF C))) i o)) : ∀ d i, i + d = z → Ev E mX5_fits 9 [.ref 0, .ref (25 + s), .int (nI k), .int (nI f), .int (bI P), .int (nI (if P then worS k f (zH C) i else 0)), .int (nI (fineN k f (zH C) i)), .int (nI i)] [] h Q = Q (some (.int (bI (fitB g (rdC C v k f) o d i = true)))) h := by
  have hC := isC_1
  have hS := isS_of hs
  have hh := W.h
  intro d
  induction d with
  | zero =>
    intro i e
    rw [e_X5_fits_9]
    simp (disch := first | assumption | omega | exact isB_0 | exact isB_1 | exact isB_bI _ | decide) only [e_X5_fits_0, e_X5_fits_1, e_X5_fits_3, e_X5_fits_4, e_X5_fits_6, e_X5_fits_7, e_X5_fits_11, e_X5_fits_12, e_X5_fits_15, e_X5_fits_18, e_X5_fits_19, e_X5_fits_22, e_X5_fits_24, e_X5_fits_25, e_X5_fits_27, e_X5_fits_28, e_X5_fits_31, e_X5_fits_33, e_X5_fits_34, e_X5_fits_36, e_X5_fits_37, e_X5_fits_40, e_X5_fits_41, e_X5_fits_42, e_X5_fits_45, e_X5_fits_46, e_X5_fits_47, e_X5_fits_49, e_X5_fits_52, e_X5_fits_54, e_X5_fits_55, e_X5_fits_57, e_X5_fits_58, e_X5_fits_61, e_X5_fits_64, e_X5_fits_66, e_X5_fits_67, e_X5_fits_70, e_X5_fits_71, e_X5_fits_73, e_X5_fits_74, e_X5_fits_76, e_X5_fits_77, e_X5_fits_80, e_X5_fits_83, e_X5_fits_85, e_X5_fits_86, e_X5_fits_89, e_X5_fits_91, e_X5_fits_94, e_X5_fits_97, e_X5_fits_98, c1, toL1, toL0, ite_self, if_true, if_false, ite_true, ite_false, nI_add, pk_mul, z_eq, z_lt, z_le, z_ge, z_gt, nI_eq, nI_leI, nI_ltI, bI_0, bI_1, not_true_eq_false, not_false_eq_true]
    rw [if_pos (by omega), bI_t (show fitB g (rdC C v k f) o 0 i = true from rfl)]
  | succ d ih =>
    intro i e
    have q1 := c2 i (by omega)
    have q2 := c3 i (by omega)
    have hl : fineN k f (zH C) i ≤ 99 := fineN_le hf i
    have hw : worS k f (zH C) i ≤ 120 * i := worS_le hf i
    have b1 : foreM (drC C (showN C v (zF C))) i o ≤ 99999 := Nat.min_le_left _ _
    have main := rd_min (k := k) (f := f) (o := o) W hv i
    have ih2 := ih (i + 1) (by omega)
    have z2 : fineN k f (zH C) (i + 1) = fbe k (fineN k f (zH C) i) (zH C + i) := rfl
    rw [e_X5_fits_9]
    by_cases p : P
    · have p' := hP ▸ p
      rw [if_pos p'] at main
      rw [if_pos p] at ih2 ⊢
      have z1 : worS k f (zH C) (i + 1) = worS k f (zH C) i + wor k (fineN k f (zH C) i) (zH C + i) := rfl
      rw [z1, z2] at ih2
      by_cases c : g i = (nI (foreM (rdC C v k f) i o)).toInt64
      · rw [fitB_t c]
        simp (disch := first | assumption | omega | exact isB_0 | exact isB_1 | exact isB_bI _ | decide) only [e_X5_fits_0, e_X5_fits_1, e_X5_fits_3, e_X5_fits_4, e_X5_fits_6, e_X5_fits_7, e_X5_fits_11, e_X5_fits_12, e_X5_fits_15, e_X5_fits_18, e_X5_fits_19, e_X5_fits_22, e_X5_fits_24, e_X5_fits_25, e_X5_fits_27, e_X5_fits_28, e_X5_fits_31, e_X5_fits_33, e_X5_fits_34, e_X5_fits_36, e_X5_fits_37, e_X5_fits_40, e_X5_fits_41, e_X5_fits_42, e_X5_fits_45, e_X5_fits_46, e_X5_fits_47, e_X5_fits_49, e_X5_fits_52, e_X5_fits_54, e_X5_fits_55, e_X5_fits_57, e_X5_fits_58, e_X5_fits_61, e_X5_fits_64, e_X5_fits_66, e_X5_fits_67, e_X5_fits_70, e_X5_fits_71, e_X5_fits_73, e_X5_fits_74, e_X5_fits_76, e_X5_fits_77, e_X5_fits_80, e_X5_fits_83, e_X5_fits_85, e_X5_fits_86, e_X5_fits_89, e_X5_fits_91, e_X5_fits_94, e_X5_fits_97, e_X5_fits_98, c1, q1, q2, R.H, cmp_eq, bI_0, p, s_worth hk hl (show zH C + i < 1000000 by omega), s_fbe hk hl (show zH C + i < 1000000 by omega), min_I, main, toL1, toL0, ite_self, if_true, if_false, ite_true, ite_false, nI_add, pk_mul, z_eq, z_lt, z_le, z_ge, z_gt, nI_eq, nI_leI, nI_ltI, bI_0, bI_1, not_true_eq_false, not_false_eq_true]
        rw [if_neg (by omega), if_pos c]
        simp (disch := first | assumption | omega | exact isB_0 | exact isB_1 | exact isB_bI _ | decide) only [bI_t p] at ih2 ⊢
        exact ih2
      · rw [fitB_f c, bI_f (show ¬ (false = true) by decide)]
        simp (disch := first | assumption | omega | exact isB_0 | exact isB_1 | exact isB_bI _ | decide) only [e_X5_fits_0, e_X5_fits_1, e_X5_fits_3, e_X5_fits_4, e_X5_fits_6, e_X5_fits_7, e_X5_fits_11, e_X5_fits_12, e_X5_fits_15, e_X5_fits_18, e_X5_fits_19, e_X5_fits_22, e_X5_fits_24, e_X5_fits_25, e_X5_fits_27, e_X5_fits_28, e_X5_fits_31, e_X5_fits_33, e_X5_fits_34, e_X5_fits_36, e_X5_fits_37, e_X5_fits_40, e_X5_fits_41, e_X5_fits_42, e_X5_fits_45, e_X5_fits_46, e_X5_fits_47, e_X5_fits_49, e_X5_fits_52, e_X5_fits_54, e_X5_fits_55, e_X5_fits_57, e_X5_fits_58, e_X5_fits_61, e_X5_fits_64, e_X5_fits_66, e_X5_fits_67, e_X5_fits_70, e_X5_fits_71, e_X5_fits_73, e_X5_fits_74, e_X5_fits_76, e_X5_fits_77, e_X5_fits_80, e_X5_fits_83, e_X5_fits_85, e_X5_fits_86, e_X5_fits_89, e_X5_fits_91, e_X5_fits_94, e_X5_fits_97, e_X5_fits_98, c1, q1, q2, R.H, cmp_eq, bI_0, p, min_I, main, toL1, toL0, ite_self, if_true, if_false, ite_true, ite_false, nI_add, pk_mul, z_eq, z_lt, z_le, z_ge, z_gt, nI_eq, nI_leI, nI_ltI, bI_0, bI_1, not_true_eq_false, not_false_eq_true]
        rw [if_neg (by omega), if_neg c]
    · have p' := hP ▸ p
      rw [if_neg p'] at main
      rw [if_neg p] at ih2 ⊢
      rw [z2] at ih2
      by_cases c : g i = (nI (foreM (rdC C v k f) i o)).toInt64
      · rw [fitB_t c]
        simp (disch := first | assumption | omega | exact isB_0 | exact isB_1 | exact isB_bI _ | decide) only [e_X5_fits_0, e_X5_fits_1, e_X5_fits_3, e_X5_fits_4, e_X5_fits_6, e_X5_fits_7, e_X5_fits_11, e_X5_fits_12, e_X5_fits_15, e_X5_fits_18, e_X5_fits_19, e_X5_fits_22, e_X5_fits_24, e_X5_fits_25, e_X5_fits_27, e_X5_fits_28, e_X5_fits_31, e_X5_fits_33, e_X5_fits_34, e_X5_fits_36, e_X5_fits_37, e_X5_fits_40, e_X5_fits_41, e_X5_fits_42, e_X5_fits_45, e_X5_fits_46, e_X5_fits_47, e_X5_fits_49, e_X5_fits_52, e_X5_fits_54, e_X5_fits_55, e_X5_fits_57, e_X5_fits_58, e_X5_fits_61, e_X5_fits_64, e_X5_fits_66, e_X5_fits_67, e_X5_fits_70, e_X5_fits_71, e_X5_fits_73, e_X5_fits_74, e_X5_fits_76, e_X5_fits_77, e_X5_fits_80, e_X5_fits_83, e_X5_fits_85, e_X5_fits_86, e_X5_fits_89, e_X5_fits_91, e_X5_fits_94, e_X5_fits_97, e_X5_fits_98, c1, q1, q2, R.H, cmp_eq, bI_0, p, s_fbe hk hl (show zH C + i < 1000000 by omega), min_I, main, toL1, toL0, ite_self, if_true, if_false, ite_true, ite_false, nI_add, pk_mul, z_eq, z_lt, z_le, z_ge, z_gt, nI_eq, nI_leI, nI_ltI, bI_0, bI_1, not_true_eq_false, not_false_eq_true]
        rw [if_neg (by omega), if_pos c]
        simp (disch := first | assumption | omega | exact isB_0 | exact isB_1 | exact isB_bI _ | decide) only [bI_f p] at ih2 ⊢
        exact ih2
      · rw [fitB_f c, bI_f (show ¬ (false = true) by decide)]
        simp (disch := first | assumption | omega | exact isB_0 | exact isB_1 | exact isB_bI _ | decide) only [e_X5_fits_0, e_X5_fits_1, e_X5_fits_3, e_X5_fits_4, e_X5_fits_6, e_X5_fits_7, e_X5_fits_11, e_X5_fits_12, e_X5_fits_15, e_X5_fits_18, e_X5_fits_19, e_X5_fits_22, e_X5_fits_24, e_X5_fits_25, e_X5_fits_27, e_X5_fits_28, e_X5_fits_31, e_X5_fits_33, e_X5_fits_34, e_X5_fits_36, e_X5_fits_37, e_X5_fits_40, e_X5_fits_41, e_X5_fits_42, e_X5_fits_45, e_X5_fits_46, e_X5_fits_47, e_X5_fits_49, e_X5_fits_52, e_X5_fits_54, e_X5_fits_55, e_X5_fits_57, e_X5_fits_58, e_X5_fits_61, e_X5_fits_64, e_X5_fits_66, e_X5_fits_67, e_X5_fits_70, e_X5_fits_71, e_X5_fits_73, e_X5_fits_74, e_X5_fits_76, e_X5_fits_77, e_X5_fits_80, e_X5_fits_83, e_X5_fits_85, e_X5_fits_86, e_X5_fits_89, e_X5_fits_91, e_X5_fits_94, e_X5_fits_97, e_X5_fits_98, c1, q1, q2, R.H, cmp_eq, bI_0, p, min_I, main, toL1, toL0, ite_self, if_true, if_false, ite_true, ite_false, nI_add, pk_mul, z_eq, z_lt, z_le, z_ge, z_gt, nI_eq, nI_leI, nI_ltI, bI_0, bI_1, not_true_eq_false, not_false_eq_true]
        rw [if_neg (by omega), if_neg c]
theorem v_fits (R : RC h 1 C) (W : WC C) {s z k f v o : Nat} {g : Nat → Int64} (hs : s < 4) (hz : z ≤ 40) (hk : k < 6) (hf : f ≤ 99) (hv : v < zF C) {P : Prop} [Decidable P] (hP : P = (zO C (showN C v (zF C)) = o ∧ zU C (showN C v (zF C)) = 0)) (c1 : gI h (25 + s) 1 = nI z) (c2 : ∀ i, i < z → gL h (25 + s + 4) i = g i) (c3 : ∀ i, i < z → gA h 35 i = nI (foreM (drC C (showN C v (zF C))) i o)) : Ev E mX5_fits 0 [.ref 0, .ref (25 + s), .int (nI k), .int (nI f), .int (bI P), .null, .null, .null] [] h Q = Q (some (.int (bI (fitB g (rdC C v k f) o z 0 = true)))) h := by
  have q := v_fiL (E := E) (Q := Q) R W hs hz hk hf hv hP c1 c2 c3 z 0 (by omega)
  have z1 : (if P then worS k f (zH C) 0 else 0) = 0 := by
    split
    · rfl
    · rfl
  have z2 : fineN k f (zH C) 0 = f := rfl
  rw [z1, z2] at q
  rw [← q]
  simp (disch := first | assumption | omega | exact isB_0 | exact isB_1 | exact isB_bI _ | decide) only [e_X5_fits_0, e_X5_fits_1, e_X5_fits_3, e_X5_fits_4, e_X5_fits_6, e_X5_fits_7, e_X5_fits_11, e_X5_fits_12, e_X5_fits_15, e_X5_fits_18, e_X5_fits_19, e_X5_fits_22, e_X5_fits_24, e_X5_fits_25, e_X5_fits_27, e_X5_fits_28, e_X5_fits_31, e_X5_fits_33, e_X5_fits_34, e_X5_fits_36, e_X5_fits_37, e_X5_fits_40, e_X5_fits_41, e_X5_fits_42, e_X5_fits_45, e_X5_fits_46, e_X5_fits_47, e_X5_fits_49, e_X5_fits_52, e_X5_fits_54, e_X5_fits_55, e_X5_fits_57, e_X5_fits_58, e_X5_fits_61, e_X5_fits_64, e_X5_fits_66, e_X5_fits_67, e_X5_fits_70, e_X5_fits_71, e_X5_fits_73, e_X5_fits_74, e_X5_fits_76, e_X5_fits_77, e_X5_fits_80, e_X5_fits_83, e_X5_fits_85, e_X5_fits_86, e_X5_fits_89, e_X5_fits_91, e_X5_fits_94, e_X5_fits_97, e_X5_fits_98, toL1, toL0, ite_self, if_true, if_false, ite_true, ite_false, nI_add, pk_mul, z_eq, z_lt, z_le, z_ge, z_gt, nI_eq, nI_leI, nI_ltI, bI_0, bI_1, not_true_eq_false, not_false_eq_true]
theorem v_fwW (R : RC h 1 C) (W : WC C) {z v o : Nat} (hz : z ≤ 40) (hh : zH C ≤ 99999) (hv : v < zF C) (ho : o < 4) {fr : Nat} (hfr : fr < zF C) (K : ∀ h2, (∀ i, i < z → gA h2 35 i = nI (foreM (drC C fr) i o)) → Fr (fun q => Xc 8 q ∨ q = 35) h h2 → Q (some (.int (bI (zO C fr = o ∧ zU C fr = 0)))) h2) : ∀ (d i : Nat) (h' : Hp), i + d = z → RC h' 8 (goN i (drC C fr)) → (∀ j, j < i → gA h' 35 j = nI (foreM (drC C fr) j o)) → Fr (fun q => Xc 8 q ∨ q = 35) h h' → Ev E mX5_foreseeWithout 35 [.ref 0, .int (nI z), .int (nI o), .int (nI v), .int (nI fr), .int (nI i)] [] h' Q := by
  have hC := isC_1
  have hC8 := isC_8
  have h8 := W.f
  have hfr8 : fr < 8 := by omega
  have WD : WC (drC C fr) := W_setU W (by decide)
  intro d
  induction d with
  | zero =>
    intro i h' e R8 J F
    have R' : RC h' 1 C := R.fr F (fun q q1 q2 => by unfold Xc; omega)
    have k := K h' (fun j hj => J j (by omega)) F
    have ho8 := W.o hfr8
    have hu := W.u hfr8
    rw [e_X5_foreseeWithout_35]
    simp (disch := first | assumption | omega | exact isB_0 | exact isB_1 | exact isB_bI _ | decide) only [e_X5_foreseeWithout_0, e_X5_foreseeWithout_1, e_X5_foreseeWithout_4, e_X5_foreseeWithout_5, e_X5_foreseeWithout_8, e_X5_foreseeWithout_10, e_X5_foreseeWithout_11, e_X5_foreseeWithout_14, e_X5_foreseeWithout_15, e_X5_foreseeWithout_18, e_X5_foreseeWithout_21, e_X5_foreseeWithout_22, e_X5_foreseeWithout_25, e_X5_foreseeWithout_28, e_X5_foreseeWithout_30, e_X5_foreseeWithout_31, e_X5_foreseeWithout_32, e_X5_foreseeWithout_33, e_X5_foreseeWithout_37, e_X5_foreseeWithout_38, e_X5_foreseeWithout_41, e_X5_foreseeWithout_42, e_X5_foreseeWithout_45, e_X5_foreseeWithout_47, e_X5_foreseeWithout_48, e_X5_foreseeWithout_51, e_X5_foreseeWithout_54, e_X5_foreseeWithout_55, e_X5_foreseeWithout_56, e_X5_foreseeWithout_57, e_X5_foreseeWithout_58, e_X5_foreseeWithout_61, e_X5_foreseeWithout_64, e_X5_foreseeWithout_67, e_X5_foreseeWithout_70, e_X5_foreseeWithout_71, e_X5_foreseeWithout_74, e_X5_foreseeWithout_77, e_X5_foreseeWithout_79, e_X5_foreseeWithout_80, e_X5_foreseeWithout_81, e_X5_foreseeWithout_84, e_X5_foreseeWithout_85, e_X5_foreseeWithout_88, e_X5_foreseeWithout_91, e_X5_foreseeWithout_93, e_X5_foreseeWithout_94, e_X5_foreseeWithout_97, e_X5_foreseeWithout_98, e_X5_foreseeWithout_101, e_X5_foreseeWithout_102, R'.O hfr8, R'.U hfr8, toL1, toL0, ite_self, if_true, if_false, ite_true, ite_false, nI_add, pk_mul, z_eq, z_lt, z_le, z_ge, z_gt, nI_eq, nI_leI, nI_ltI, bI_0, bI_1, not_true_eq_false, not_false_eq_true]
    rw [if_pos (by omega)]
    by_cases a : zO C fr = o
    · by_cases b : zU C fr = 0
      · rw [bI_t ⟨a, b⟩] at k
        rw [if_pos a, if_pos b]; exact k
      · rw [bI_f (fun w => b w.2)] at k
        rw [if_pos a, if_neg b]; exact k
    · rw [bI_f (fun w => a w.1)] at k
      rw [if_neg a]; exact k
  | succ d ih =>
    intro i h' e R8 J F
    have WK : WC (goN i (drC C fr)) := W_goN WD i (show zH C + i ≤ 200000 by omega)
    have m1 : zM (goN i (drC C fr)) o = foreM (drC C fr) i o := goN_M WD ho i
    rw [e_X5_foreseeWithout_35]
    simp (disch := first | assumption | omega | exact isB_0 | exact isB_1 | exact isB_bI _ | decide) only [e_X5_foreseeWithout_0, e_X5_foreseeWithout_1, e_X5_foreseeWithout_4, e_X5_foreseeWithout_5, e_X5_foreseeWithout_8, e_X5_foreseeWithout_10, e_X5_foreseeWithout_11, e_X5_foreseeWithout_14, e_X5_foreseeWithout_15, e_X5_foreseeWithout_18, e_X5_foreseeWithout_21, e_X5_foreseeWithout_22, e_X5_foreseeWithout_25, e_X5_foreseeWithout_28, e_X5_foreseeWithout_30, e_X5_foreseeWithout_31, e_X5_foreseeWithout_32, e_X5_foreseeWithout_33, e_X5_foreseeWithout_37, e_X5_foreseeWithout_38, e_X5_foreseeWithout_41, e_X5_foreseeWithout_42, e_X5_foreseeWithout_45, e_X5_foreseeWithout_47, e_X5_foreseeWithout_48, e_X5_foreseeWithout_51, e_X5_foreseeWithout_54, e_X5_foreseeWithout_55, e_X5_foreseeWithout_56, e_X5_foreseeWithout_57, e_X5_foreseeWithout_58, e_X5_foreseeWithout_61, e_X5_foreseeWithout_64, e_X5_foreseeWithout_67, e_X5_foreseeWithout_70, e_X5_foreseeWithout_71, e_X5_foreseeWithout_74, e_X5_foreseeWithout_77, e_X5_foreseeWithout_79, e_X5_foreseeWithout_80, e_X5_foreseeWithout_81, e_X5_foreseeWithout_84, e_X5_foreseeWithout_85, e_X5_foreseeWithout_88, e_X5_foreseeWithout_91, e_X5_foreseeWithout_93, e_X5_foreseeWithout_94, e_X5_foreseeWithout_97, e_X5_foreseeWithout_98, e_X5_foreseeWithout_101, e_X5_foreseeWithout_102, R8.M ho, m1, toL1, toL0, ite_self, if_true, if_false, ite_true, ite_false, nI_add, pk_mul, z_eq, z_lt, z_le, z_ge, z_gt, nI_eq, nI_leI, nI_ltI, bI_0, bI_1, not_true_eq_false, not_false_eq_true]
    rw [if_neg (by omega)]
    have F1 : Fr (fun q => q = 35) h' (sA h' 35 (upd (gA h' 35) i (nI (foreM (drC C fr) i o)))) := Fr.sA rfl
    refine c_passHour isC_8 (R8.fr F1 (fun q q1 q2 => by omega)) WK (fun h2 R2 F2 => ?_)
    simp (disch := first | assumption | omega | exact isB_0 | exact isB_1 | exact isB_bI _ | decide) only [e_X5_foreseeWithout_0, e_X5_foreseeWithout_1, e_X5_foreseeWithout_4, e_X5_foreseeWithout_5, e_X5_foreseeWithout_8, e_X5_foreseeWithout_10, e_X5_foreseeWithout_11, e_X5_foreseeWithout_14, e_X5_foreseeWithout_15, e_X5_foreseeWithout_18, e_X5_foreseeWithout_21, e_X5_foreseeWithout_22, e_X5_foreseeWithout_25, e_X5_foreseeWithout_28, e_X5_foreseeWithout_30, e_X5_foreseeWithout_31, e_X5_foreseeWithout_32, e_X5_foreseeWithout_33, e_X5_foreseeWithout_37, e_X5_foreseeWithout_38, e_X5_foreseeWithout_41, e_X5_foreseeWithout_42, e_X5_foreseeWithout_45, e_X5_foreseeWithout_47, e_X5_foreseeWithout_48, e_X5_foreseeWithout_51, e_X5_foreseeWithout_54, e_X5_foreseeWithout_55, e_X5_foreseeWithout_56, e_X5_foreseeWithout_57, e_X5_foreseeWithout_58, e_X5_foreseeWithout_61, e_X5_foreseeWithout_64, e_X5_foreseeWithout_67, e_X5_foreseeWithout_70, e_X5_foreseeWithout_71, e_X5_foreseeWithout_74, e_X5_foreseeWithout_77, e_X5_foreseeWithout_79, e_X5_foreseeWithout_80, e_X5_foreseeWithout_81, e_X5_foreseeWithout_84, e_X5_foreseeWithout_85, e_X5_foreseeWithout_88, e_X5_foreseeWithout_91, e_X5_foreseeWithout_93, e_X5_foreseeWithout_94, e_X5_foreseeWithout_97, e_X5_foreseeWithout_98, e_X5_foreseeWithout_101, e_X5_foreseeWithout_102, toL1, toL0, ite_self, if_true, if_false, ite_true, ite_false, nI_add, pk_mul, z_eq, z_lt, z_le, z_ge, z_gt, nI_eq, nI_leI, nI_ltI, bI_0, bI_1, not_true_eq_false, not_false_eq_true]
    refine ih (i + 1) h2 (by omega) R2 (fun j hj => ?_) ((F.tr (F1.mono (fun q w => Or.inr w))).tr (F2.mono (fun q w => Or.inl w)))
    rw [(F2 35 (by unfold Xc; omega)).2.1, gA_sA, if_pos rfl]
    show (if j = i then _ else _) = _
    by_cases q : j = i
    · rw [if_pos q, q]
    · rw [if_neg q]; exact J j (by omega)
theorem v_fw (R : RC h 1 C) (W : WC C) {z v o : Nat} (hz : z ≤ 40) (hh : zH C ≤ 99999) (hv : v < zF C) (ho : o < 4) (K : ∀ h2, (∀ i, i < z → gA h2 35 i = nI (foreM (drC C (showN C v (zF C))) i o)) → Fr (fun q => Xc 8 q ∨ q = 35) h h2 → Q (some (.int (bI (zO C (showN C v (zF C)) = o ∧ zU C (showN C v (zF C)) = 0)))) h2) : Ev E mX5_foreseeWithout 0 [.ref 0, .int (nI z), .int (nI o), .int (nI v), .null, .null] [] h Q := by
  have hC := isC_1
  have hC8 := isC_8
  have h8 := W.f
  obtain ⟨hfr, _⟩ := showN_at W hv
  simp (disch := first | assumption | omega | exact isB_0 | exact isB_1 | exact isB_bI _ | decide) only [e_X5_foreseeWithout_0, e_X5_foreseeWithout_1, e_X5_foreseeWithout_4, e_X5_foreseeWithout_5, e_X5_foreseeWithout_8, e_X5_foreseeWithout_10, e_X5_foreseeWithout_11, e_X5_foreseeWithout_14, e_X5_foreseeWithout_15, e_X5_foreseeWithout_18, e_X5_foreseeWithout_21, e_X5_foreseeWithout_22, e_X5_foreseeWithout_25, e_X5_foreseeWithout_28, e_X5_foreseeWithout_30, e_X5_foreseeWithout_31, e_X5_foreseeWithout_32, e_X5_foreseeWithout_33, e_X5_foreseeWithout_37, e_X5_foreseeWithout_38, e_X5_foreseeWithout_41, e_X5_foreseeWithout_42, e_X5_foreseeWithout_45, e_X5_foreseeWithout_47, e_X5_foreseeWithout_48, e_X5_foreseeWithout_51, e_X5_foreseeWithout_54, e_X5_foreseeWithout_55, e_X5_foreseeWithout_56, e_X5_foreseeWithout_57, e_X5_foreseeWithout_58, e_X5_foreseeWithout_61, e_X5_foreseeWithout_64, e_X5_foreseeWithout_67, e_X5_foreseeWithout_70, e_X5_foreseeWithout_71, e_X5_foreseeWithout_74, e_X5_foreseeWithout_77, e_X5_foreseeWithout_79, e_X5_foreseeWithout_80, e_X5_foreseeWithout_81, e_X5_foreseeWithout_84, e_X5_foreseeWithout_85, e_X5_foreseeWithout_88, e_X5_foreseeWithout_91, e_X5_foreseeWithout_93, e_X5_foreseeWithout_94, e_X5_foreseeWithout_97, e_X5_foreseeWithout_98, e_X5_foreseeWithout_101, e_X5_foreseeWithout_102, c_frameShowing isC_1 R W (show v < 8 by omega), toL1, toL0, ite_self, if_true, if_false, ite_true, ite_false, nI_add, pk_mul, z_eq, z_lt, z_le, z_ge, z_gt, nI_eq, nI_leI, nI_ltI, bI_0, bI_1, not_true_eq_false, not_false_eq_true]
  refine c_become isC_8 isC_1 (by decide) R (fun h2 R2 F2 => ?_)
  have hf8 : showN C v (zF C) < 8 := by omega
  simp (disch := first | assumption | omega | exact isB_0 | exact isB_1 | exact isB_bI _ | decide) only [e_X5_foreseeWithout_0, e_X5_foreseeWithout_1, e_X5_foreseeWithout_4, e_X5_foreseeWithout_5, e_X5_foreseeWithout_8, e_X5_foreseeWithout_10, e_X5_foreseeWithout_11, e_X5_foreseeWithout_14, e_X5_foreseeWithout_15, e_X5_foreseeWithout_18, e_X5_foreseeWithout_21, e_X5_foreseeWithout_22, e_X5_foreseeWithout_25, e_X5_foreseeWithout_28, e_X5_foreseeWithout_30, e_X5_foreseeWithout_31, e_X5_foreseeWithout_32, e_X5_foreseeWithout_33, e_X5_foreseeWithout_37, e_X5_foreseeWithout_38, e_X5_foreseeWithout_41, e_X5_foreseeWithout_42, e_X5_foreseeWithout_45, e_X5_foreseeWithout_47, e_X5_foreseeWithout_48, e_X5_foreseeWithout_51, e_X5_foreseeWithout_54, e_X5_foreseeWithout_55, e_X5_foreseeWithout_56, e_X5_foreseeWithout_57, e_X5_foreseeWithout_58, e_X5_foreseeWithout_61, e_X5_foreseeWithout_64, e_X5_foreseeWithout_67, e_X5_foreseeWithout_70, e_X5_foreseeWithout_71, e_X5_foreseeWithout_74, e_X5_foreseeWithout_77, e_X5_foreseeWithout_79, e_X5_foreseeWithout_80, e_X5_foreseeWithout_81, e_X5_foreseeWithout_84, e_X5_foreseeWithout_85, e_X5_foreseeWithout_88, e_X5_foreseeWithout_91, e_X5_foreseeWithout_93, e_X5_foreseeWithout_94, e_X5_foreseeWithout_97, e_X5_foreseeWithout_98, e_X5_foreseeWithout_101, e_X5_foreseeWithout_102, toL1, toL0, ite_self, if_true, if_false, ite_true, ite_false, nI_add, pk_mul, z_eq, z_lt, z_le, z_ge, z_gt, nI_eq, nI_leI, nI_ltI, bI_0, bI_1, not_true_eq_false, not_false_eq_true]
  have R3 : RC (sA h2 11 (upd (gA h2 11) (showN C v (zF C)) (nI 1))) 8 (drC C (showN C v (zF C))) := R2.setU _ 1
  have F3 : Fr (Xc 8) h2 (sA h2 11 (upd (gA h2 11) (showN C v (zF C)) (nI 1))) := Fr.sA (by unfold Xc; decide)
  exact v_fwW R W hz hh hv ho hfr K z 0 _ (by omega) R3 (fun j hj => absurd hj (Nat.not_lt_zero j)) ((F2.tr F3).mono (fun q w => Or.inl w))
theorem v_rdF (R : RC h 1 C) (W : WC C) {s z v o k : Nat} {g : Nat → Int64} (a b : Int32) (hs : s < 4) (hz : z ≤ 40) (hk : k < 6) (hv : v < zF C) {P : Prop} [Decidable P] (hP : P = (zO C (showN C v (zF C)) = o ∧ zU C (showN C v (zF C)) = 0)) (c1 : gI h (25 + s) 1 = nI z) (c2 : ∀ i, i < z → gL h (25 + s + 4) i = g i) (c3 : ∀ i, i < z → gA h 35 i = nI (foreM (drC C (showN C v (zF C))) i o)) (K : ∀ x, Ev E mX5_read 119 [.ref 0, .int (nI s), .int a, .int b, .ref (25 + s), .int (bI P), .int (nI (rdN g C v o z (100 * (k + 1)))), .int (nI k), x] [] h Q) : ∀ d f, f + d = 100 → Ev E mX5_read 88 [.ref 0, .int (nI s), .int a, .int b, .ref (25 + s), .int (bI P), .int (nI (rdN g C v o z (100 * k + f))), .int (nI k), .int (nI f)] [] h Q := by
  have hC := isC_1
  have hS := isS_of hs
  intro d
  induction d with
  | zero =>
    intro f e
    have le := rdN_le (g := g) (C := C) (v := v) (o := o) (z := z) (100 * k + f)
    rw [e_X5_read_88]
    simp (disch := first | assumption | omega | exact isB_0 | exact isB_1 | exact isB_bI _ | decide) only [e_X5_read_0, e_X5_read_1, e_X5_read_4, e_X5_read_7, e_X5_read_8, e_X5_read_9, e_X5_read_12, e_X5_read_13, e_X5_read_14, e_X5_read_17, e_X5_read_18, e_X5_read_19, e_X5_read_21, e_X5_read_23, e_X5_read_26, e_X5_read_29, e_X5_read_30, e_X5_read_31, e_X5_read_34, e_X5_read_35, e_X5_read_36, e_X5_read_39, e_X5_read_42, e_X5_read_43, e_X5_read_46, e_X5_read_47, e_X5_read_50, e_X5_read_53, e_X5_read_54, e_X5_read_55, e_X5_read_58, e_X5_read_59, e_X5_read_60, e_X5_read_62, e_X5_read_65, e_X5_read_66, e_X5_read_67, e_X5_read_70, e_X5_read_72, e_X5_read_73, e_X5_read_75, e_X5_read_76, e_X5_read_80, e_X5_read_82, e_X5_read_85, e_X5_read_86, e_X5_read_90, e_X5_read_92, e_X5_read_95, e_X5_read_96, e_X5_read_98, e_X5_read_100, e_X5_read_102, e_X5_read_104, e_X5_read_107, e_X5_read_110, e_X5_read_116, e_X5_read_122, e_X5_read_127, toL1, toL0, ite_self, if_true, if_false, ite_true, ite_false, nI_add, pk_mul, z_eq, z_lt, z_le, z_ge, z_gt, nI_eq, nI_leI, nI_ltI, bI_0, bI_1, not_true_eq_false, not_false_eq_true]
    rw [if_pos (by omega)]
    rw [show 100 * k + f = 100 * (k + 1) by omega]
    exact K _
  | succ d ih =>
    intro f e
    have ih2 := ih (f + 1) (by omega)
    have hf : f ≤ 99 := by omega
    have e1 : rdN g C v o z (100 * k + (f + 1)) = rdN g C v o z (100 * k + f) + (if fitB g (rdC C v k f) o z 0 = true then 1 else 0) := by
      show rdN g C v o z (100 * k + f) + (if fitB g (rdC C v ((100 * k + f) / 100) ((100 * k + f) % 100)) o z 0 = true then 1 else 0) = _
      rw [show (100 * k + f) / 100 = k by omega, show (100 * k + f) % 100 = f by omega]
    rw [e1] at ih2
    rw [e_X5_read_88]
    by_cases c : fitB g (rdC C v k f) o z 0 = true
    · rw [if_pos c] at ih2
      simp (disch := first | assumption | omega | exact isB_0 | exact isB_1 | exact isB_bI _ | decide) only [e_X5_read_0, e_X5_read_1, e_X5_read_4, e_X5_read_7, e_X5_read_8, e_X5_read_9, e_X5_read_12, e_X5_read_13, e_X5_read_14, e_X5_read_17, e_X5_read_18, e_X5_read_19, e_X5_read_21, e_X5_read_23, e_X5_read_26, e_X5_read_29, e_X5_read_30, e_X5_read_31, e_X5_read_34, e_X5_read_35, e_X5_read_36, e_X5_read_39, e_X5_read_42, e_X5_read_43, e_X5_read_46, e_X5_read_47, e_X5_read_50, e_X5_read_53, e_X5_read_54, e_X5_read_55, e_X5_read_58, e_X5_read_59, e_X5_read_60, e_X5_read_62, e_X5_read_65, e_X5_read_66, e_X5_read_67, e_X5_read_70, e_X5_read_72, e_X5_read_73, e_X5_read_75, e_X5_read_76, e_X5_read_80, e_X5_read_82, e_X5_read_85, e_X5_read_86, e_X5_read_90, e_X5_read_92, e_X5_read_95, e_X5_read_96, e_X5_read_98, e_X5_read_100, e_X5_read_102, e_X5_read_104, e_X5_read_107, e_X5_read_110, e_X5_read_116, e_X5_read_122, e_X5_read_127, v_fits R W hs hz hk hf hv hP c1 c2 c3, bI_t c, Nat.one_ne_zero, toL1, toL0, ite_self, if_true, if_false, ite_true, ite_false, nI_add, pk_mul, z_eq, z_lt, z_le, z_ge, z_gt, nI_eq, nI_leI, nI_ltI, bI_0, bI_1, not_true_eq_false, not_false_eq_true]
      rw [if_neg (by omega), e_X5_read_113]
      simp (disch := first | assumption | omega | exact isB_0 | exact isB_1 | exact isB_bI _ | decide) only [e_X5_read_0, e_X5_read_1, e_X5_read_4, e_X5_read_7, e_X5_read_8, e_X5_read_9, e_X5_read_12, e_X5_read_13, e_X5_read_14, e_X5_read_17, e_X5_read_18, e_X5_read_19, e_X5_read_21, e_X5_read_23, e_X5_read_26, e_X5_read_29, e_X5_read_30, e_X5_read_31, e_X5_read_34, e_X5_read_35, e_X5_read_36, e_X5_read_39, e_X5_read_42, e_X5_read_43, e_X5_read_46, e_X5_read_47, e_X5_read_50, e_X5_read_53, e_X5_read_54, e_X5_read_55, e_X5_read_58, e_X5_read_59, e_X5_read_60, e_X5_read_62, e_X5_read_65, e_X5_read_66, e_X5_read_67, e_X5_read_70, e_X5_read_72, e_X5_read_73, e_X5_read_75, e_X5_read_76, e_X5_read_80, e_X5_read_82, e_X5_read_85, e_X5_read_86, e_X5_read_90, e_X5_read_92, e_X5_read_95, e_X5_read_96, e_X5_read_98, e_X5_read_100, e_X5_read_102, e_X5_read_104, e_X5_read_107, e_X5_read_110, e_X5_read_116, e_X5_read_122, e_X5_read_127, toL1, toL0, ite_self, if_true, if_false, ite_true, ite_false, nI_add, pk_mul, z_eq, z_lt, z_le, z_ge, z_gt, nI_eq, nI_leI, nI_ltI, bI_0, bI_1, not_true_eq_false, not_false_eq_true]
      exact ih2
    · rw [if_neg c] at ih2
      simp (disch := first | assumption | omega | exact isB_0 | exact isB_1 | exact isB_bI _ | decide) only [e_X5_read_0, e_X5_read_1, e_X5_read_4, e_X5_read_7, e_X5_read_8, e_X5_read_9, e_X5_read_12, e_X5_read_13, e_X5_read_14, e_X5_read_17, e_X5_read_18, e_X5_read_19, e_X5_read_21, e_X5_read_23, e_X5_read_26, e_X5_read_29, e_X5_read_30, e_X5_read_31, e_X5_read_34, e_X5_read_35, e_X5_read_36, e_X5_read_39, e_X5_read_42, e_X5_read_43, e_X5_read_46, e_X5_read_47, e_X5_read_50, e_X5_read_53, e_X5_read_54, e_X5_read_55, e_X5_read_58, e_X5_read_59, e_X5_read_60, e_X5_read_62, e_X5_read_65, e_X5_read_66, e_X5_read_67, e_X5_read_70, e_X5_read_72, e_X5_read_73, e_X5_read_75, e_X5_read_76, e_X5_read_80, e_X5_read_82, e_X5_read_85, e_X5_read_86, e_X5_read_90, e_X5_read_92, e_X5_read_95, e_X5_read_96, e_X5_read_98, e_X5_read_100, e_X5_read_102, e_X5_read_104, e_X5_read_107, e_X5_read_110, e_X5_read_116, e_X5_read_122, e_X5_read_127, v_fits R W hs hz hk hf hv hP c1 c2 c3, bI_f c, toL1, toL0, ite_self, if_true, if_false, ite_true, ite_false, nI_add, pk_mul, z_eq, z_lt, z_le, z_ge, z_gt, nI_eq, nI_leI, nI_ltI, bI_0, bI_1, not_true_eq_false, not_false_eq_true]
      rw [if_neg (by omega), e_X5_read_113]
      simp (disch := first | assumption | omega | exact isB_0 | exact isB_1 | exact isB_bI _ | decide) only [e_X5_read_0, e_X5_read_1, e_X5_read_4, e_X5_read_7, e_X5_read_8, e_X5_read_9, e_X5_read_12, e_X5_read_13, e_X5_read_14, e_X5_read_17, e_X5_read_18, e_X5_read_19, e_X5_read_21, e_X5_read_23, e_X5_read_26, e_X5_read_29, e_X5_read_30, e_X5_read_31, e_X5_read_34, e_X5_read_35, e_X5_read_36, e_X5_read_39, e_X5_read_42, e_X5_read_43, e_X5_read_46, e_X5_read_47, e_X5_read_50, e_X5_read_53, e_X5_read_54, e_X5_read_55, e_X5_read_58, e_X5_read_59, e_X5_read_60, e_X5_read_62, e_X5_read_65, e_X5_read_66, e_X5_read_67, e_X5_read_70, e_X5_read_72, e_X5_read_73, e_X5_read_75, e_X5_read_76, e_X5_read_80, e_X5_read_82, e_X5_read_85, e_X5_read_86, e_X5_read_90, e_X5_read_92, e_X5_read_95, e_X5_read_96, e_X5_read_98, e_X5_read_100, e_X5_read_102, e_X5_read_104, e_X5_read_107, e_X5_read_110, e_X5_read_116, e_X5_read_122, e_X5_read_127, toL1, toL0, ite_self, if_true, if_false, ite_true, ite_false, nI_add, pk_mul, z_eq, z_lt, z_le, z_ge, z_gt, nI_eq, nI_leI, nI_ltI, bI_0, bI_1, not_true_eq_false, not_false_eq_true]
      exact ih2
theorem v_rdK (R : RC h 1 C) (W : WC C) {s z v o : Nat} {g : Nat → Int64} (a b : Int32) (hs : s < 4) (hz : z ≤ 40) (hv : v < zF C) {P : Prop} [Decidable P] (hP : P = (zO C (showN C v (zF C)) = o ∧ zU C (showN C v (zF C)) = 0)) (c1 : gI h (25 + s) 1 = nI z) (c2 : ∀ i, i < z → gL h (25 + s + 4) i = g i) (c3 : ∀ i, i < z → gA h 35 i = nI (foreM (drC C (showN C v (zF C))) i o)) (K : Q (some (.int (nI (rdN g C v o z 600)))) h) : ∀ d k x, k + d = 6 → Ev E mX5_read 78 [.ref 0, .int (nI s), .int a, .int b, .ref (25 + s), .int (bI P), .int (nI (rdN g C v o z (100 * k))), .int (nI k), x] [] h Q := by
  intro d
  induction d with
  | zero =>
    intro k x e
    rw [e_X5_read_78]
    simp (disch := first | assumption | omega | exact isB_0 | exact isB_1 | exact isB_bI _ | decide) only [e_X5_read_0, e_X5_read_1, e_X5_read_4, e_X5_read_7, e_X5_read_8, e_X5_read_9, e_X5_read_12, e_X5_read_13, e_X5_read_14, e_X5_read_17, e_X5_read_18, e_X5_read_19, e_X5_read_21, e_X5_read_23, e_X5_read_26, e_X5_read_29, e_X5_read_30, e_X5_read_31, e_X5_read_34, e_X5_read_35, e_X5_read_36, e_X5_read_39, e_X5_read_42, e_X5_read_43, e_X5_read_46, e_X5_read_47, e_X5_read_50, e_X5_read_53, e_X5_read_54, e_X5_read_55, e_X5_read_58, e_X5_read_59, e_X5_read_60, e_X5_read_62, e_X5_read_65, e_X5_read_66, e_X5_read_67, e_X5_read_70, e_X5_read_72, e_X5_read_73, e_X5_read_75, e_X5_read_76, e_X5_read_80, e_X5_read_82, e_X5_read_85, e_X5_read_86, e_X5_read_90, e_X5_read_92, e_X5_read_95, e_X5_read_96, e_X5_read_98, e_X5_read_100, e_X5_read_102, e_X5_read_104, e_X5_read_107, e_X5_read_110, e_X5_read_116, e_X5_read_122, e_X5_read_127, toL1, toL0, ite_self, if_true, if_false, ite_true, ite_false, nI_add, pk_mul, z_eq, z_lt, z_le, z_ge, z_gt, nI_eq, nI_leI, nI_ltI, bI_0, bI_1, not_true_eq_false, not_false_eq_true]
    rw [if_pos (by omega), e_X5_read_125]
    simp (disch := first | assumption | omega | exact isB_0 | exact isB_1 | exact isB_bI _ | decide) only [e_X5_read_0, e_X5_read_1, e_X5_read_4, e_X5_read_7, e_X5_read_8, e_X5_read_9, e_X5_read_12, e_X5_read_13, e_X5_read_14, e_X5_read_17, e_X5_read_18, e_X5_read_19, e_X5_read_21, e_X5_read_23, e_X5_read_26, e_X5_read_29, e_X5_read_30, e_X5_read_31, e_X5_read_34, e_X5_read_35, e_X5_read_36, e_X5_read_39, e_X5_read_42, e_X5_read_43, e_X5_read_46, e_X5_read_47, e_X5_read_50, e_X5_read_53, e_X5_read_54, e_X5_read_55, e_X5_read_58, e_X5_read_59, e_X5_read_60, e_X5_read_62, e_X5_read_65, e_X5_read_66, e_X5_read_67, e_X5_read_70, e_X5_read_72, e_X5_read_73, e_X5_read_75, e_X5_read_76, e_X5_read_80, e_X5_read_82, e_X5_read_85, e_X5_read_86, e_X5_read_90, e_X5_read_92, e_X5_read_95, e_X5_read_96, e_X5_read_98, e_X5_read_100, e_X5_read_102, e_X5_read_104, e_X5_read_107, e_X5_read_110, e_X5_read_116, e_X5_read_122, e_X5_read_127, toL1, toL0, ite_self, if_true, if_false, ite_true, ite_false, nI_add, pk_mul, z_eq, z_lt, z_le, z_ge, z_gt, nI_eq, nI_leI, nI_ltI, bI_0, bI_1, not_true_eq_false, not_false_eq_true]
    rw [show 100 * k = 600 by omega]
    exact K
  | succ d ih =>
    intro k x e
    rw [e_X5_read_78]
    simp (disch := first | assumption | omega | exact isB_0 | exact isB_1 | exact isB_bI _ | decide) only [e_X5_read_0, e_X5_read_1, e_X5_read_4, e_X5_read_7, e_X5_read_8, e_X5_read_9, e_X5_read_12, e_X5_read_13, e_X5_read_14, e_X5_read_17, e_X5_read_18, e_X5_read_19, e_X5_read_21, e_X5_read_23, e_X5_read_26, e_X5_read_29, e_X5_read_30, e_X5_read_31, e_X5_read_34, e_X5_read_35, e_X5_read_36, e_X5_read_39, e_X5_read_42, e_X5_read_43, e_X5_read_46, e_X5_read_47, e_X5_read_50, e_X5_read_53, e_X5_read_54, e_X5_read_55, e_X5_read_58, e_X5_read_59, e_X5_read_60, e_X5_read_62, e_X5_read_65, e_X5_read_66, e_X5_read_67, e_X5_read_70, e_X5_read_72, e_X5_read_73, e_X5_read_75, e_X5_read_76, e_X5_read_80, e_X5_read_82, e_X5_read_85, e_X5_read_86, e_X5_read_90, e_X5_read_92, e_X5_read_95, e_X5_read_96, e_X5_read_98, e_X5_read_100, e_X5_read_102, e_X5_read_104, e_X5_read_107, e_X5_read_110, e_X5_read_116, e_X5_read_122, e_X5_read_127, toL1, toL0, ite_self, if_true, if_false, ite_true, ite_false, nI_add, pk_mul, z_eq, z_lt, z_le, z_ge, z_gt, nI_eq, nI_leI, nI_ltI, bI_0, bI_1, not_true_eq_false, not_false_eq_true]
    rw [if_neg (by omega)]
    refine v_rdF R W a b hs hz (show k < 6 by omega) hv hP c1 c2 c3 (fun y => ?_) 100 0 (by omega)
    rw [e_X5_read_119]
    simp (disch := first | assumption | omega | exact isB_0 | exact isB_1 | exact isB_bI _ | decide) only [e_X5_read_0, e_X5_read_1, e_X5_read_4, e_X5_read_7, e_X5_read_8, e_X5_read_9, e_X5_read_12, e_X5_read_13, e_X5_read_14, e_X5_read_17, e_X5_read_18, e_X5_read_19, e_X5_read_21, e_X5_read_23, e_X5_read_26, e_X5_read_29, e_X5_read_30, e_X5_read_31, e_X5_read_34, e_X5_read_35, e_X5_read_36, e_X5_read_39, e_X5_read_42, e_X5_read_43, e_X5_read_46, e_X5_read_47, e_X5_read_50, e_X5_read_53, e_X5_read_54, e_X5_read_55, e_X5_read_58, e_X5_read_59, e_X5_read_60, e_X5_read_62, e_X5_read_65, e_X5_read_66, e_X5_read_67, e_X5_read_70, e_X5_read_72, e_X5_read_73, e_X5_read_75, e_X5_read_76, e_X5_read_80, e_X5_read_82, e_X5_read_85, e_X5_read_86, e_X5_read_90, e_X5_read_92, e_X5_read_95, e_X5_read_96, e_X5_read_98, e_X5_read_100, e_X5_read_102, e_X5_read_104, e_X5_read_107, e_X5_read_110, e_X5_read_116, e_X5_read_122, e_X5_read_127, toL1, toL0, ite_self, if_true, if_false, ite_true, ite_false, nI_add, pk_mul, z_eq, z_lt, z_le, z_ge, z_gt, nI_eq, nI_leI, nI_ltI, bI_0, bI_1, not_true_eq_false, not_false_eq_true]
    exact ih (k + 1) y (by omega)
theorem v_read (R : RV h S) (W : WS S) {a o v : Int32} (K : Vo h Q (f_read a o v S)) : Ev E mX5_read 0 [.ref 0, .int a, .int o, .int v, .null, .null, .null, .null, .null] [] h Q := by
  have hC := isC_1
  have h8 := W.1.f
  unfold f_read at K
  by_cases h1 : nI 0 ≤ a ∧ a ≤ nI 3
  · rw [if_pos h1] at K
    obtain ⟨s, _, hs3, rfl⟩ := vI_of (by decide) h1 (by decide)
    have hs : s < 4 := by omega
    have hS := isS_of hs
    have r7 := R.2.2.2.2.2.2.1 s hs
    have r8 := R.2.2.2.2.2.2.2.1 s hs
    have hb := W.b hs
    have hz := W.z hs
    rw [nv_nI (by omega)] at K
    by_cases h2 : yW S s = 0
    · rw [if_pos h2] at K
      simp (disch := first | assumption | omega | exact isB_0 | exact isB_1 | exact isB_bI _ | decide) only [e_X5_read_0, e_X5_read_1, e_X5_read_4, e_X5_read_7, e_X5_read_8, e_X5_read_9, e_X5_read_12, e_X5_read_13, e_X5_read_14, e_X5_read_17, e_X5_read_18, e_X5_read_19, e_X5_read_21, e_X5_read_23, e_X5_read_26, e_X5_read_29, e_X5_read_30, e_X5_read_31, e_X5_read_34, e_X5_read_35, e_X5_read_36, e_X5_read_39, e_X5_read_42, e_X5_read_43, e_X5_read_46, e_X5_read_47, e_X5_read_50, e_X5_read_53, e_X5_read_54, e_X5_read_55, e_X5_read_58, e_X5_read_59, e_X5_read_60, e_X5_read_62, e_X5_read_65, e_X5_read_66, e_X5_read_67, e_X5_read_70, e_X5_read_72, e_X5_read_73, e_X5_read_75, e_X5_read_76, e_X5_read_80, e_X5_read_82, e_X5_read_85, e_X5_read_86, e_X5_read_88, e_X5_read_90, e_X5_read_92, e_X5_read_95, e_X5_read_96, e_X5_read_98, e_X5_read_100, e_X5_read_102, e_X5_read_104, e_X5_read_107, e_X5_read_110, e_X5_read_113, e_X5_read_116, e_X5_read_119, e_X5_read_122, e_X5_read_125, e_X5_read_127, s_isSheet, hs3, s_isMissing hS hb r7, bI_t h2, v_tell R, Nat.one_ne_zero, and_self, and_true, true_and, Nat.zero_le, nI_ltI, toL1, toL0, ite_self, if_true, if_false, ite_true, ite_false, nI_add, pk_mul, z_eq, z_lt, z_le, z_ge, z_gt, nI_eq, nI_leI, nI_ltI, bI_0, bI_1, not_true_eq_false, not_false_eq_true]
      exact v_bad R K
    · rw [if_neg h2] at K
      by_cases h3 : nI 0 ≤ o ∧ o ≤ nI 3
      · rw [if_pos h3] at K
        by_cases h4 : hF v (zF (yC S))
        · rw [if_pos h4] at K
          obtain ⟨j, _, hj, rfl⟩ := vI_of (by decide) h3 (by decide)
          obtain ⟨u, hu, rfl⟩ := hF_of (by omega) h4
          rw [nv_nI (by omega), nv_nI (by omega)] at K
          simp (disch := first | assumption | omega | exact isB_0 | exact isB_1 | exact isB_bI _ | decide) only [e_X5_read_0, e_X5_read_1, e_X5_read_4, e_X5_read_7, e_X5_read_8, e_X5_read_9, e_X5_read_12, e_X5_read_13, e_X5_read_14, e_X5_read_17, e_X5_read_18, e_X5_read_19, e_X5_read_21, e_X5_read_23, e_X5_read_26, e_X5_read_29, e_X5_read_30, e_X5_read_31, e_X5_read_34, e_X5_read_35, e_X5_read_36, e_X5_read_39, e_X5_read_42, e_X5_read_43, e_X5_read_46, e_X5_read_47, e_X5_read_50, e_X5_read_53, e_X5_read_54, e_X5_read_55, e_X5_read_58, e_X5_read_59, e_X5_read_60, e_X5_read_62, e_X5_read_65, e_X5_read_66, e_X5_read_67, e_X5_read_70, e_X5_read_72, e_X5_read_73, e_X5_read_75, e_X5_read_76, e_X5_read_80, e_X5_read_82, e_X5_read_85, e_X5_read_86, e_X5_read_88, e_X5_read_90, e_X5_read_92, e_X5_read_95, e_X5_read_96, e_X5_read_98, e_X5_read_100, e_X5_read_102, e_X5_read_104, e_X5_read_107, e_X5_read_110, e_X5_read_113, e_X5_read_116, e_X5_read_119, e_X5_read_122, e_X5_read_125, e_X5_read_127, s_isSheet, hs3, s_isMissing hS hb r7, bI_f h2, s_isOwner, hj, c_hasView isC_1 R.ci W.1, bI_t h4, r8, Nat.one_ne_zero, and_self, and_true, true_and, Nat.zero_le, nI_ltI, toL1, toL0, ite_self, if_true, if_false, ite_true, ite_false, nI_add, pk_mul, z_eq, z_lt, z_le, z_ge, z_gt, nI_eq, nI_leI, nI_ltI, bI_0, bI_1, not_true_eq_false, not_false_eq_true]
          refine v_fw R.ci W.1 hz W.2.1 hu (show j < 4 by omega) (fun h5 c3 F5 => ?_)
          have FX : Fr Xv h h5 := F5.mono (fun q w => by unfold Xc at w; unfold Xv; omega)
          have R5 : RC h5 1 (yC S) := R.ci.fr F5 (fun q q1 q2 => by unfold Xc; omega)
          have RV5 : RV h5 S := R.self FX R5
          have c1 := RV5.2.2.2.2.2.2.2.1 s hs
          have c2 : ∀ i, i < yZ S s → gL h5 (25 + s + 4) i = yN S s i := fun i hi => by
            rw [show 25 + s + 4 = 29 + s by omega]
            exact RV5.2.2.2.2.2.2.2.2 s i hs (by omega)
          simp (disch := first | assumption | omega | exact isB_0 | exact isB_1 | exact isB_bI _ | decide) only [e_X5_read_0, e_X5_read_1, e_X5_read_4, e_X5_read_7, e_X5_read_8, e_X5_read_9, e_X5_read_12, e_X5_read_13, e_X5_read_14, e_X5_read_17, e_X5_read_18, e_X5_read_19, e_X5_read_21, e_X5_read_23, e_X5_read_26, e_X5_read_29, e_X5_read_30, e_X5_read_31, e_X5_read_34, e_X5_read_35, e_X5_read_36, e_X5_read_39, e_X5_read_42, e_X5_read_43, e_X5_read_46, e_X5_read_47, e_X5_read_50, e_X5_read_53, e_X5_read_54, e_X5_read_55, e_X5_read_58, e_X5_read_59, e_X5_read_60, e_X5_read_62, e_X5_read_65, e_X5_read_66, e_X5_read_67, e_X5_read_70, e_X5_read_72, e_X5_read_73, e_X5_read_75, e_X5_read_76, e_X5_read_80, e_X5_read_82, e_X5_read_85, e_X5_read_86, e_X5_read_88, e_X5_read_90, e_X5_read_92, e_X5_read_95, e_X5_read_96, e_X5_read_98, e_X5_read_100, e_X5_read_102, e_X5_read_104, e_X5_read_107, e_X5_read_110, e_X5_read_113, e_X5_read_116, e_X5_read_119, e_X5_read_122, e_X5_read_125, e_X5_read_127, toL1, toL0, ite_self, if_true, if_false, ite_true, ite_false, nI_add, pk_mul, z_eq, z_lt, z_le, z_ge, z_gt, nI_eq, nI_leI, nI_ltI, bI_0, bI_1, not_true_eq_false, not_false_eq_true]
          exact v_rdK R5 W.1 _ _ hs hz hu rfl c1 c2 c3 (K h5 RV5 FX.lo) 6 0 .null (by omega)
        · rw [if_neg h4] at K
          simp (disch := first | assumption | omega | exact isB_0 | exact isB_1 | exact isB_bI _ | decide) only [e_X5_read_0, e_X5_read_1, e_X5_read_4, e_X5_read_7, e_X5_read_8, e_X5_read_9, e_X5_read_12, e_X5_read_13, e_X5_read_14, e_X5_read_17, e_X5_read_18, e_X5_read_19, e_X5_read_21, e_X5_read_23, e_X5_read_26, e_X5_read_29, e_X5_read_30, e_X5_read_31, e_X5_read_34, e_X5_read_35, e_X5_read_36, e_X5_read_39, e_X5_read_42, e_X5_read_43, e_X5_read_46, e_X5_read_47, e_X5_read_50, e_X5_read_53, e_X5_read_54, e_X5_read_55, e_X5_read_58, e_X5_read_59, e_X5_read_60, e_X5_read_62, e_X5_read_65, e_X5_read_66, e_X5_read_67, e_X5_read_70, e_X5_read_72, e_X5_read_73, e_X5_read_75, e_X5_read_76, e_X5_read_80, e_X5_read_82, e_X5_read_85, e_X5_read_86, e_X5_read_88, e_X5_read_90, e_X5_read_92, e_X5_read_95, e_X5_read_96, e_X5_read_98, e_X5_read_100, e_X5_read_102, e_X5_read_104, e_X5_read_107, e_X5_read_110, e_X5_read_113, e_X5_read_116, e_X5_read_119, e_X5_read_122, e_X5_read_125, e_X5_read_127, s_isSheet, hs3, s_isMissing hS hb r7, bI_f h2, s_isOwner, bI_t h3, c_hasView isC_1 R.ci W.1, bI_f h4, v_tell R, Nat.one_ne_zero, and_self, and_true, true_and, Nat.zero_le, nI_ltI, toL1, toL0, ite_self, if_true, if_false, ite_true, ite_false, nI_add, pk_mul, z_eq, z_lt, z_le, z_ge, z_gt, nI_eq, nI_leI, nI_ltI, bI_0, bI_1, not_true_eq_false, not_false_eq_true]
          exact v_bad R K
      · rw [if_neg h3] at K
        simp (disch := first | assumption | omega | exact isB_0 | exact isB_1 | exact isB_bI _ | decide) only [e_X5_read_0, e_X5_read_1, e_X5_read_4, e_X5_read_7, e_X5_read_8, e_X5_read_9, e_X5_read_12, e_X5_read_13, e_X5_read_14, e_X5_read_17, e_X5_read_18, e_X5_read_19, e_X5_read_21, e_X5_read_23, e_X5_read_26, e_X5_read_29, e_X5_read_30, e_X5_read_31, e_X5_read_34, e_X5_read_35, e_X5_read_36, e_X5_read_39, e_X5_read_42, e_X5_read_43, e_X5_read_46, e_X5_read_47, e_X5_read_50, e_X5_read_53, e_X5_read_54, e_X5_read_55, e_X5_read_58, e_X5_read_59, e_X5_read_60, e_X5_read_62, e_X5_read_65, e_X5_read_66, e_X5_read_67, e_X5_read_70, e_X5_read_72, e_X5_read_73, e_X5_read_75, e_X5_read_76, e_X5_read_80, e_X5_read_82, e_X5_read_85, e_X5_read_86, e_X5_read_88, e_X5_read_90, e_X5_read_92, e_X5_read_95, e_X5_read_96, e_X5_read_98, e_X5_read_100, e_X5_read_102, e_X5_read_104, e_X5_read_107, e_X5_read_110, e_X5_read_113, e_X5_read_116, e_X5_read_119, e_X5_read_122, e_X5_read_125, e_X5_read_127, s_isSheet, hs3, s_isMissing hS hb r7, bI_f h2, s_isOwner, bI_f h3, v_tell R, and_self, and_true, true_and, Nat.zero_le, nI_ltI, toL1, toL0, ite_self, if_true, if_false, ite_true, ite_false, nI_add, pk_mul, z_eq, z_lt, z_le, z_ge, z_gt, nI_eq, nI_leI, nI_ltI, bI_0, bI_1, not_true_eq_false, not_false_eq_true]
        exact v_bad R K
  · rw [if_neg h1] at K
    simp (disch := first | assumption | omega | exact isB_0 | exact isB_1 | exact isB_bI _ | decide) only [e_X5_read_0, e_X5_read_1, e_X5_read_4, e_X5_read_7, e_X5_read_8, e_X5_read_9, e_X5_read_12, e_X5_read_13, e_X5_read_14, e_X5_read_17, e_X5_read_18, e_X5_read_19, e_X5_read_21, e_X5_read_23, e_X5_read_26, e_X5_read_29, e_X5_read_30, e_X5_read_31, e_X5_read_34, e_X5_read_35, e_X5_read_36, e_X5_read_39, e_X5_read_42, e_X5_read_43, e_X5_read_46, e_X5_read_47, e_X5_read_50, e_X5_read_53, e_X5_read_54, e_X5_read_55, e_X5_read_58, e_X5_read_59, e_X5_read_60, e_X5_read_62, e_X5_read_65, e_X5_read_66, e_X5_read_67, e_X5_read_70, e_X5_read_72, e_X5_read_73, e_X5_read_75, e_X5_read_76, e_X5_read_80, e_X5_read_82, e_X5_read_85, e_X5_read_86, e_X5_read_88, e_X5_read_90, e_X5_read_92, e_X5_read_95, e_X5_read_96, e_X5_read_98, e_X5_read_100, e_X5_read_102, e_X5_read_104, e_X5_read_107, e_X5_read_110, e_X5_read_113, e_X5_read_116, e_X5_read_119, e_X5_read_122, e_X5_read_125, e_X5_read_127, s_isSheet, bI_f h1, v_tell R, and_self, and_true, true_and, Nat.zero_le, nI_ltI, toL1, toL0, ite_self, if_true, if_false, ite_true, ite_false, nI_add, pk_mul, z_eq, z_lt, z_le, z_ge, z_gt, nI_eq, nI_leI, nI_ltI, bI_0, bI_1, not_true_eq_false, not_false_eq_true]
    exact v_bad R K
end READ
