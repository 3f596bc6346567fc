/-! the other side: shifts, hours, copies, counts (the first family below is the kit's, pasted) -/
theorem fb_holes : ∀ (m n : Nat) (f : Nat → Nat), (∀ i, i < n → f i < m) → (∀ i j, i < j → j < n → f i ≠ f j) → n ≤ m := by
  intro m
  induction m with
  | zero =>
    intro n f h1 _
    rcases Nat.eq_zero_or_pos n with h | h
    · omega
    · exact absurd (h1 0 h) (Nat.not_lt_zero _)
  | succ m ih =>
    intro n f h1 h2
    by_cases hx : ∃ i, i < n ∧ f i = m
    · obtain ⟨a, ha, hfa⟩ := hx
      have hg := ih (n - 1) (fun i => if i < a then f i else f (i + 1)) (by
        intro i hi
        by_cases q : i < a
        · simp only [if_pos q]
          have b1 := h1 i (by omega)
          have b2 := h2 i a q ha
          omega
        · simp only [if_neg q]
          have b1 := h1 (i + 1) (by omega)
          have b2 := h2 a (i + 1) (by omega) (by omega)
          omega) (by
        intro i j hij hj
        by_cases q : i < a
        · by_cases r : j < a
          · simp only [if_pos q, if_pos r]
            exact h2 i j hij (by omega)
          · simp only [if_pos q, if_neg r]
            exact h2 i (j + 1) (by omega) (by omega)
        · have r : ¬ j < a := by omega
          simp only [if_neg q, if_neg r]
          exact h2 (i + 1) (j + 1) (by omega) (by omega))
      omega
    · have hg := ih n f (fun i hi => by
        have b1 := h1 i hi
        have b2 : f i ≠ m := fun e => hx ⟨i, hi, e⟩
        omega) h2
      omega
theorem fb_twice {m n : Nat} {f : Nat → Nat} (h : ∀ i, i < n → f i < m) (hm : m < n) : ∃ i j, i < j ∧ j < n ∧ f i = f j := by
  refine Classical.byContradiction fun hx => ?_
  have := fb_holes m n f h (fun i j hij hj e => hx ⟨i, j, hij, hj, e⟩)
  omega
theorem fb_onto {n : Nat} {f : Nat → Nat} (h : ∀ i, i < n → f i < n) (h2 : ∀ i j, i < j → j < n → f i ≠ f j) {y : Nat} (hy : y < n) : ∃ i, i < n ∧ f i = y := by
  refine Classical.byContradiction fun hx => ?_
  have hne : ∀ i, i < n → f i ≠ y := fun i hi e => hx ⟨i, hi, e⟩
  have := fb_holes (n - 1) n (fun i => if f i < y then f i else f i - 1) (by
    intro i hi
    have b1 := h i hi
    have b2 := hne i hi
    by_cases q : f i < y
    · simp only [if_pos q]; omega
    · simp only [if_neg q]; omega) (by
    intro i j hij hj
    have b1 := hne i (by omega)
    have b2 := hne j hj
    have b3 := h2 i j hij hj
    by_cases q : f i < y
    · by_cases r : f j < y
      · simp only [if_pos q, if_pos r]; exact b3
      · simp only [if_pos q, if_neg r]; omega
    · by_cases r : f j < y
      · simp only [if_neg q, if_pos r]; omega
      · simp only [if_neg q, if_neg r]; omega)
  omega
def swpP (C : Cty) (f : Nat) : Nat → Nat := fun i => if i < f then zV C (i + 1) else if i = f then zV C 0 else zV C i
theorem swp_step (C : Cty) (f i : Nat) : updN (updN (swpP C f) f (swpP C f (f + 1))) (f + 1) (swpP C f f) i = swpP C (f + 1) i := by
  unfold updN swpP
  by_cases h1 : i = f + 1
  · rw [if_pos h1, if_neg (by omega), if_pos rfl, if_neg (by omega), if_pos h1]
  · rw [if_neg h1]
    by_cases h2 : i = f
    · rw [if_pos h2, if_neg (by omega), if_neg (by omega), if_pos (by omega), h2]
    · rw [if_neg h2]
      by_cases h3 : i < f
      · rw [if_pos h3, if_pos (by omega)]
      · rw [if_neg h3, if_neg h2, if_neg (by omega), if_neg h1]
theorem fAf_at (C : Cty) : ∀ n i, n ≤ i → fAf C n i = zE C i := by
  intro n
  induction n with
  | zero => intro i _; rfl
  | succ n ihn =>
    intro i hi
    rw [fAf, updN_n (by omega)]
    exact ihn i (by omega)
theorem fbe_le {k f hr : Nat} : fbe k f hr ≤ f := by
  unfold fbe
  split <;> omega
theorem fAf_le {C : Cty} (W : WC C) : ∀ n, n ≤ 8 → ∀ i, i < 8 → fAf C n i ≤ 99 := by
  intro n
  induction n with
  | zero => intro _ i hi; exact W.e hi
  | succ n ih =>
    intro hn i hi
    rw [fAf]
    unfold updN
    split
    · exact Nat.le_trans fbe_le (W.e (by omega))
    · exact ih (by omega) i hi
theorem fAf_no {C : Cty} (h0 : ¬ zH C % 24 = 0) : ∀ n i, fAf C n i = zE C i := by
  intro n
  induction n with
  | zero => intro i; rfl
  | succ n ih =>
    intro i
    rw [fAf]
    unfold updN
    split
    · rename_i hi
      unfold fbe
      rw [if_neg h0, hi]
    · exact ih i
theorem W_go {C : Cty} (W : WC C) (hh : zH C < 200000) : WC (goC C) := by
  refine ⟨W.1, ?_, fun i hi => mAf_le W _ (Nat.le_refl _) i hi, W.2.2.2.1, W.2.2.2.2.1, W.2.2.2.2.2.1, W.2.2.2.2.2.2.1, W.2.2.2.2.2.2.2.1, fun i hi => fAf_le W _ W.f i hi⟩
  show zH C + 1 ≤ 200000
  omega
def goN : Nat → Cty → Cty
  | 0, C => C
  | n + 1, C => goC (goN n C)
theorem goN_H (C : Cty) : ∀ n, zH (goN n C) = zH C + n
  | 0 => rfl
  | n + 1 => by
    show zH (goN n C) + 1 = _
    rw [goN_H C n]
    omega
theorem goN_F (C : Cty) : ∀ n, zF (goN n C) = zF C
  | 0 => rfl
  | n + 1 => goN_F C n
theorem W_goN {C : Cty} (W : WC C) : ∀ n, zH C + n ≤ 200000 → WC (goN n C)
  | 0, _ => W
  | n + 1, hn => W_go (W_goN W n (by omega)) (by rw [goN_H]; omega)
theorem W_rot {C : Cty} (W : WC C) : WC (rotC C) := by
  have h8 := W.f
  refine ⟨W.1, W.2.1, W.2.2.1, W.2.2.2.1, W.2.2.2.2.1, fun i hi => ?_, fun i j hi hj e => ?_, W.2.2.2.2.2.2.2.1, W.2.2.2.2.2.2.2.2⟩
  · have hi : i < zF C := hi
    show rotV C i < zF C
    unfold rotV
    split
    · exact W.v (by omega)
    · split
      · exact W.v (by omega)
      · exact W.v hi
  · have hi : i < zF C := hi
    have hj : j < zF C := hj
    have e : rotV C i = rotV C j := e
    unfold rotV at e
    by_cases a1 : i + 1 < zF C <;> by_cases a2 : j + 1 < zF C
    · rw [if_pos a1, if_pos a2] at e
      have := W.vi a1 a2 e
      omega
    · rw [if_pos a1, if_neg a2, if_pos (by omega)] at e
      have := W.vi a1 (show 0 < zF C by omega) e
      omega
    · rw [if_neg a1, if_pos a2, if_pos (by omega)] at e
      have := W.vi (show 0 < zF C by omega) a2 e
      omega
    · omega
section MODEL2
variable {E : En} {h : Hp} {Q : Option Value → Hp → Prop} {C : Cty}
theorem m_shL (W : WC C) (K : ∀ h', RR h' 37 (rotC C) → Fr Xm h h' → Q none h') : ∀ (d f : Nat) (h' : Hp), f + d = zF C - 1 → RR h' 37 (zsV C (swpP C f)) → Fr Xm h h' → Ev E mX6_shiftsOnce 2 [.ref 36, .int (nI f)] [] h' Q := by
  have h8 := W.f
  intro d
  induction d with
  | zero =>
    intro f h' e R F
    have r := R.F
    rw [zF_zsV] at r
    rw [e_X6_shiftsOnce_2]
    simp (disch := first | assumption | omega | exact isB_0 | exact isB_1 | exact isB_bI _ | decide) only [e_X6_shiftsOnce_0, e_X6_shiftsOnce_1, e_X6_shiftsOnce_3, e_X6_shiftsOnce_4, e_X6_shiftsOnce_5, e_X6_shiftsOnce_6, e_X6_shiftsOnce_9, e_X6_shiftsOnce_10, e_X6_shiftsOnce_11, e_X6_shiftsOnce_14, e_X6_shiftsOnce_15, e_X6_shiftsOnce_16, e_X6_shiftsOnce_17, e_X6_shiftsOnce_18, e_X6_shiftsOnce_19, e_X6_shiftsOnce_22, e_X6_shiftsOnce_25, e_X6_shiftsOnce_28, r, toL1, toL0, ite_self, if_true, if_false, ite_true, ite_false, nI_add, pk_mul, z_eq, z_lt, z_le, z_ge, z_gt, nI_eq, nI_leI, nI_ltI, bI_0, bI_1, not_true_eq_false, not_false_eq_true]
    rw [if_pos (by omega)]
    refine K h' (R.congV (fun i hi => ?_)) F
    unfold swpP rotV
    by_cases h1 : i < f
    · rw [if_pos h1, if_pos (show i + 1 < zF C by omega)]
    · rw [if_neg h1, if_neg (show ¬ i + 1 < zF C by omega)]
      by_cases h2 : i = f
      · rw [if_pos h2]
        by_cases h3 : i + 1 = zF C
        · rw [if_pos h3]
        · rw [if_neg h3, show i = 0 by omega]
      · rw [if_neg h2, if_neg (show ¬ i + 1 = zF C by omega)]
  | succ d ih =>
    intro f h' e R F
    have r := R.F
    rw [zF_zsV] at r
    rw [e_X6_shiftsOnce_2]
    simp (disch := first | assumption | omega | exact isB_0 | exact isB_1 | exact isB_bI _ | decide) only [e_X6_shiftsOnce_0, e_X6_shiftsOnce_1, e_X6_shiftsOnce_3, e_X6_shiftsOnce_4, e_X6_shiftsOnce_5, e_X6_shiftsOnce_6, e_X6_shiftsOnce_9, e_X6_shiftsOnce_10, e_X6_shiftsOnce_11, e_X6_shiftsOnce_14, e_X6_shiftsOnce_15, e_X6_shiftsOnce_16, e_X6_shiftsOnce_17, e_X6_shiftsOnce_18, e_X6_shiftsOnce_19, e_X6_shiftsOnce_22, e_X6_shiftsOnce_25, e_X6_shiftsOnce_28, r, toL1, toL0, ite_self, if_true, if_false, ite_true, ite_false, nI_add, pk_mul, z_eq, z_lt, z_le, z_ge, z_gt, nI_eq, nI_leI, nI_ltI, bI_0, bI_1, not_true_eq_false, not_false_eq_true]
    rw [if_neg (by omega)]
    refine m_changes R (by omega) (by omega) (fun h2 R2 F2 => ?_)
    simp (disch := first | assumption | omega | exact isB_0 | exact isB_1 | exact isB_bI _ | decide) only [e_X6_shiftsOnce_0, e_X6_shiftsOnce_1, e_X6_shiftsOnce_3, e_X6_shiftsOnce_4, e_X6_shiftsOnce_5, e_X6_shiftsOnce_6, e_X6_shiftsOnce_9, e_X6_shiftsOnce_10, e_X6_shiftsOnce_11, e_X6_shiftsOnce_14, e_X6_shiftsOnce_15, e_X6_shiftsOnce_16, e_X6_shiftsOnce_17, e_X6_shiftsOnce_18, e_X6_shiftsOnce_19, e_X6_shiftsOnce_22, e_X6_shiftsOnce_25, e_X6_shiftsOnce_28, toL1, toL0, ite_self, if_true, if_false, ite_true, ite_false, nI_add, pk_mul, z_eq, z_lt, z_le, z_ge, z_gt, nI_eq, nI_leI, nI_ltI, bI_0, bI_1, not_true_eq_false, not_false_eq_true]
    exact ih (f + 1) h2 (by omega) (RR.congV (C := C) R2 (fun i hi => swp_step C f i)) (F.tr F2)
theorem m_shiftsOnce (R : RR h 37 C) (W : WC C) (K : ∀ h', RR h' 37 (rotC C) → Fr Xm h h' → Q none h') : Ev E mX6_shiftsOnce 0 [.ref 36, .null] [] h Q := by
  simp (disch := first | assumption | omega | exact isB_0 | exact isB_1 | exact isB_bI _ | decide) only [e_X6_shiftsOnce_0, e_X6_shiftsOnce_1, e_X6_shiftsOnce_3, e_X6_shiftsOnce_4, e_X6_shiftsOnce_5, e_X6_shiftsOnce_6, e_X6_shiftsOnce_9, e_X6_shiftsOnce_10, e_X6_shiftsOnce_11, e_X6_shiftsOnce_14, e_X6_shiftsOnce_15, e_X6_shiftsOnce_16, e_X6_shiftsOnce_17, e_X6_shiftsOnce_18, e_X6_shiftsOnce_19, e_X6_shiftsOnce_22, e_X6_shiftsOnce_25, e_X6_shiftsOnce_28, toL1, toL0, ite_self, if_true, if_false, ite_true, ite_false, nI_add, pk_mul, z_eq, z_lt, z_le, z_ge, z_gt, nI_eq, nI_leI, nI_ltI, bI_0, bI_1, not_true_eq_false, not_false_eq_true]
  refine m_shL W K (zF C - 1) 0 h (by omega) ?_ Fr.rf
  have : swpP C 0 = zV C := by
    funext i
    unfold swpP
    rw [if_neg (by omega)]
    by_cases hi : i = 0
    · rw [if_pos hi, hi]
    · rw [if_neg hi]
  rw [this]
  exact R
theorem m_goL1 (W : WC C) (K : ∀ h', RR h' 37 (zsM C (mAf C (zF C))) → Fr Xm h h' → Ev E mX6_goes 33 [.ref 36, .int (nI (zF C))] [] h' Q) : ∀ (d f : Nat) (h' : Hp), f + d = zF C → RR h' 37 (zsM C (mAf C f)) → Fr Xm h h' → Ev E mX6_goes 2 [.ref 36, .int (nI f)] [] h' Q := by
  have h8 := W.f
  intro d
  induction d with
  | zero =>
    intro f h' e R F
    have r := R.F
    rw [zF_zsM] at r
    rw [e_X6_goes_2]
    simp (disch := first | assumption | omega | exact isB_0 | exact isB_1 | exact isB_bI _ | decide) only [e_X6_goes_0, e_X6_goes_1, e_X6_goes_3, e_X6_goes_4, e_X6_goes_7, e_X6_goes_8, e_X6_goes_9, e_X6_goes_12, e_X6_goes_13, e_X6_goes_14, e_X6_goes_15, e_X6_goes_16, e_X6_goes_19, e_X6_goes_20, e_X6_goes_21, e_X6_goes_24, e_X6_goes_27, e_X6_goes_30, e_X6_goes_34, e_X6_goes_35, e_X6_goes_36, e_X6_goes_37, e_X6_goes_40, e_X6_goes_41, e_X6_goes_42, e_X6_goes_45, e_X6_goes_46, e_X6_goes_49, e_X6_goes_52, e_X6_goes_53, e_X6_goes_56, e_X6_goes_58, e_X6_goes_59, e_X6_goes_60, e_X6_goes_61, e_X6_goes_62, e_X6_goes_63, e_X6_goes_64, e_X6_goes_65, e_X6_goes_66, e_X6_goes_67, e_X6_goes_70, e_X6_goes_71, e_X6_goes_72, e_X6_goes_75, e_X6_goes_76, e_X6_goes_77, e_X6_goes_79, e_X6_goes_82, e_X6_goes_83, e_X6_goes_86, e_X6_goes_89, e_X6_goes_90, e_X6_goes_93, e_X6_goes_94, e_X6_goes_95, e_X6_goes_96, e_X6_goes_97, e_X6_goes_98, e_X6_goes_99, r, toL1, toL0, ite_self, if_true, if_false, ite_true, ite_false, nI_add, pk_mul, z_eq, z_lt, z_le, z_ge, z_gt, nI_eq, nI_leI, nI_ltI, bI_0, bI_1, not_true_eq_false, not_false_eq_true]
    rw [if_pos (by omega)]
    rw [show f = zF C by omega] at R ⊢
    exact K h' R F
  | succ d ih =>
    intro f h' e R F
    have hf8 : f < 8 := by omega
    have r := R.F
    rw [zF_zsM] at r
    have ho := W.o hf8
    have hW : WC (zsM C (mAf C f)) := ⟨W.1, W.2.1, mAf_le W f (by omega), W.2.2.2⟩
    have ha : ∀ Q', Ev E mX6_about 0 [.ref 36, .int (nI f), .int (nI 0)] [] h' Q' = Q' (some (.int (nI (zO C f)))) h' := fun Q' => m_aO R hf8
    have hw : ∀ Q', Ev E mX6_worthOut 0 [.ref 36, .int (nI f)] [] h' Q' = Q' (some (.int (nI (outW C f)))) h' := fun Q' => m_worthOut R hW (show f < zF C by omega)
    have hol := out_le W (show f < zF C by omega)
    rw [e_X6_goes_2]
    simp (disch := first | assumption | omega | exact isB_0 | exact isB_1 | exact isB_bI _ | decide) only [e_X6_goes_0, e_X6_goes_1, e_X6_goes_3, e_X6_goes_4, e_X6_goes_7, e_X6_goes_8, e_X6_goes_9, e_X6_goes_12, e_X6_goes_13, e_X6_goes_14, e_X6_goes_15, e_X6_goes_16, e_X6_goes_19, e_X6_goes_20, e_X6_goes_21, e_X6_goes_24, e_X6_goes_27, e_X6_goes_30, e_X6_goes_34, e_X6_goes_35, e_X6_goes_36, e_X6_goes_37, e_X6_goes_40, e_X6_goes_41, e_X6_goes_42, e_X6_goes_45, e_X6_goes_46, e_X6_goes_49, e_X6_goes_52, e_X6_goes_53, e_X6_goes_56, e_X6_goes_58, e_X6_goes_59, e_X6_goes_60, e_X6_goes_61, e_X6_goes_62, e_X6_goes_63, e_X6_goes_64, e_X6_goes_65, e_X6_goes_66, e_X6_goes_67, e_X6_goes_70, e_X6_goes_71, e_X6_goes_72, e_X6_goes_75, e_X6_goes_76, e_X6_goes_77, e_X6_goes_79, e_X6_goes_82, e_X6_goes_83, e_X6_goes_86, e_X6_goes_89, e_X6_goes_90, e_X6_goes_93, e_X6_goes_94, e_X6_goes_95, e_X6_goes_96, e_X6_goes_97, e_X6_goes_98, e_X6_goes_99, r, ha, hw, toL1, toL0, ite_self, if_true, if_false, ite_true, ite_false, nI_add, pk_mul, z_eq, z_lt, z_le, z_ge, z_gt, nI_eq, nI_leI, nI_ltI, bI_0, bI_1, not_true_eq_false, not_false_eq_true]
    rw [if_neg (by omega)]
    refine m_earns R ho (mAf_le W f (by omega) _ ho) (by omega) (fun h2 R2 F2 => ?_)
    simp (disch := first | assumption | omega | exact isB_0 | exact isB_1 | exact isB_bI _ | decide) only [e_X6_goes_0, e_X6_goes_1, e_X6_goes_3, e_X6_goes_4, e_X6_goes_7, e_X6_goes_8, e_X6_goes_9, e_X6_goes_12, e_X6_goes_13, e_X6_goes_14, e_X6_goes_15, e_X6_goes_16, e_X6_goes_19, e_X6_goes_20, e_X6_goes_21, e_X6_goes_24, e_X6_goes_27, e_X6_goes_30, e_X6_goes_34, e_X6_goes_35, e_X6_goes_36, e_X6_goes_37, e_X6_goes_40, e_X6_goes_41, e_X6_goes_42, e_X6_goes_45, e_X6_goes_46, e_X6_goes_49, e_X6_goes_52, e_X6_goes_53, e_X6_goes_56, e_X6_goes_58, e_X6_goes_59, e_X6_goes_60, e_X6_goes_61, e_X6_goes_62, e_X6_goes_63, e_X6_goes_64, e_X6_goes_65, e_X6_goes_66, e_X6_goes_67, e_X6_goes_70, e_X6_goes_71, e_X6_goes_72, e_X6_goes_75, e_X6_goes_76, e_X6_goes_77, e_X6_goes_79, e_X6_goes_82, e_X6_goes_83, e_X6_goes_86, e_X6_goes_89, e_X6_goes_90, e_X6_goes_93, e_X6_goes_94, e_X6_goes_95, e_X6_goes_96, e_X6_goes_97, e_X6_goes_98, e_X6_goes_99, toL1, toL0, ite_self, if_true, if_false, ite_true, ite_false, nI_add, pk_mul, z_eq, z_lt, z_le, z_ge, z_gt, nI_eq, nI_leI, nI_ltI, bI_0, bI_1, not_true_eq_false, not_false_eq_true]
    exact ih (f + 1) h2 (by omega) R2 (F.tr F2)
theorem m_heldN {x : Int32} (hx : x < 0) : Ev E mX6_held 0 [.int x, .int (nI 0), .int (nI 99)] [] h Q = Q (some (.int (nI 0))) h := by
  simp (disch := first | assumption | omega | exact isB_0 | exact isB_1 | exact isB_bI _ | decide) only [e_X6_held_0, e_X6_held_1, e_X6_held_2, e_X6_held_5, e_X6_held_6, e_X6_held_9, e_X6_held_10, e_X6_held_11, e_X6_held_14, e_X6_held_15, e_X6_held_18, e_X6_held_19, toL1, toL0, ite_self, if_true, if_false, ite_true, ite_false, nI_add, pk_mul, z_eq, z_lt, z_le, z_ge, z_gt, nI_eq, nI_leI, nI_ltI, bI_0, bI_1, not_true_eq_false, not_false_eq_true]
  rw [if_neg (show ¬ nI 0 ≤ x from Int32.not_le.mpr hx)]
theorem m_goL2 (C0 : Cty) (W : WC C) (W0 : WC C0) (h0 : zF C0 = zF C ∧ zH C0 = zH C ∧ zK C0 = zK C ∧ zE C0 = zE C) (K : ∀ h', RR h' 37 (zsE C0 (fAf C (zF C))) → Fr Xm h h' → ∀ y : Value, Ev E mX6_goes 89 [.ref 36, y] [] h' Q) : ∀ (d v : Nat) (h' : Hp), v + d = zF C → RR h' 37 (zsE C0 (fAf C v)) → Fr Xm h h' → Ev E mX6_goes 35 [.ref 36, .int (nI v)] [] h' Q := by
  have h8 := W.f
  have hh := W.h
  intro d
  induction d with
  | zero =>
    intro v h' e R F
    have r := R.F
    rw [zF_zsE, h0.1] at r
    rw [e_X6_goes_35]
    simp (disch := first | assumption | omega | exact isB_0 | exact isB_1 | exact isB_bI _ | decide) only [e_X6_goes_0, e_X6_goes_1, e_X6_goes_2, e_X6_goes_3, e_X6_goes_4, e_X6_goes_7, e_X6_goes_8, e_X6_goes_9, e_X6_goes_12, e_X6_goes_13, e_X6_goes_14, e_X6_goes_15, e_X6_goes_16, e_X6_goes_19, e_X6_goes_20, e_X6_goes_21, e_X6_goes_24, e_X6_goes_27, e_X6_goes_30, e_X6_goes_33, e_X6_goes_34, e_X6_goes_36, e_X6_goes_37, e_X6_goes_40, e_X6_goes_41, e_X6_goes_42, e_X6_goes_46, e_X6_goes_49, e_X6_goes_52, e_X6_goes_53, e_X6_goes_56, e_X6_goes_58, e_X6_goes_59, e_X6_goes_60, e_X6_goes_61, e_X6_goes_62, e_X6_goes_63, e_X6_goes_64, e_X6_goes_65, e_X6_goes_66, e_X6_goes_67, e_X6_goes_70, e_X6_goes_71, e_X6_goes_72, e_X6_goes_75, e_X6_goes_76, e_X6_goes_77, e_X6_goes_79, e_X6_goes_82, e_X6_goes_83, e_X6_goes_86, e_X6_goes_90, e_X6_goes_93, e_X6_goes_94, e_X6_goes_95, e_X6_goes_96, e_X6_goes_97, e_X6_goes_98, e_X6_goes_99, r, toL1, toL0, ite_self, if_true, if_false, ite_true, ite_false, nI_add, pk_mul, z_eq, z_lt, z_le, z_ge, z_gt, nI_eq, nI_leI, nI_ltI, bI_0, bI_1, not_true_eq_false, not_false_eq_true]
    rw [if_pos (by omega)]
    exact K h' (by rw [show zF C = v by omega]; exact R) F _
  | succ d ih =>
    intro v h' e R F
    have hv8 : v < 8 := by omega
    have r := R.F
    rw [zF_zsE, h0.1] at r
    have hW : WC (zsE C0 (fAf C v)) := ⟨W0.1, W0.2.1, W0.2.2.1, W0.2.2.2.1, W0.2.2.2.2.1, W0.2.2.2.2.2.1, W0.2.2.2.2.2.2.1, W0.2.2.2.2.2.2.2.1, fun i hi => fAf_le W v (by omega) i hi⟩
    have hc : ∀ Q', Ev E mX6_clock 0 [.ref 36] [] h' Q' = Q' (some (.int (nI (zH C % 24)))) h' := fun Q' => by
      have := m_clock (E := E) (Q := Q') R hW
      rw [zH_zsE, h0.2.1] at this
      exact this
    have hi : ∀ Q', Ev E mX6_it 0 [.ref 36, .int (nI v), .int (nI 1)] [] h' Q' = Q' (some (.int (nI (zE C v)))) h' := fun Q' => by
      have := m_iE (E := E) (Q := Q') R hv8
      rw [zE_zsE, fAf_at C v v (Nat.le_refl _)] at this
      exact this
    have hw : ∀ Q', Ev E mX6_wears 0 [.ref 36, .int (nI v)] [] h' Q' = Q' (some (.int (nI (wea (zK C v) (zH C))))) h' := fun Q' => by
      have := m_wears (E := E) (Q := Q') R hW hv8
      rw [zK_zsE, zH_zsE, h0.2.1, h0.2.2.1] at this
      exact this
    have he := W.e hv8
    have hwl := wea_le (zK C v) (zH C)
    rw [e_X6_goes_35]
    by_cases hz : zH C % 24 = 0
    · have fin : ∀ (h2 : Hp), RR h2 37 (zsE C0 (updN (fAf C v) v (fbe (zK C v) (zE C v) (zH C)))) → Fr Xm h h2 → Ev E mX6_goes 35 [.ref 36, .int (nI (v + 1))] [] h2 Q := fun h2 R2 F2 => ih (v + 1) h2 (by omega) R2 F2
      by_cases hwf : wea (zK C v) (zH C) ≤ zE C v
      · have hd : (if zE C v - wea (zK C v) (zH C) < 0 then 0 else if 99 < zE C v - wea (zK C v) (zH C) then 99 else zE C v - wea (zK C v) (zH C)) = fbe (zK C v) (zE C v) (zH C) := by
          unfold fbe
          rw [if_neg (by omega), if_neg (by omega), if_pos hz]
        simp (disch := first | assumption | omega | exact isB_0 | exact isB_1 | exact isB_bI _ | decide) only [e_X6_goes_0, e_X6_goes_1, e_X6_goes_2, e_X6_goes_3, e_X6_goes_4, e_X6_goes_7, e_X6_goes_8, e_X6_goes_9, e_X6_goes_12, e_X6_goes_13, e_X6_goes_14, e_X6_goes_15, e_X6_goes_16, e_X6_goes_19, e_X6_goes_20, e_X6_goes_21, e_X6_goes_24, e_X6_goes_27, e_X6_goes_30, e_X6_goes_33, e_X6_goes_34, e_X6_goes_36, e_X6_goes_37, e_X6_goes_40, e_X6_goes_41, e_X6_goes_42, e_X6_goes_45, e_X6_goes_46, e_X6_goes_49, e_X6_goes_52, e_X6_goes_53, e_X6_goes_56, e_X6_goes_58, e_X6_goes_59, e_X6_goes_60, e_X6_goes_61, e_X6_goes_62, e_X6_goes_63, e_X6_goes_64, e_X6_goes_65, e_X6_goes_66, e_X6_goes_67, e_X6_goes_70, e_X6_goes_71, e_X6_goes_72, e_X6_goes_75, e_X6_goes_76, e_X6_goes_77, e_X6_goes_79, e_X6_goes_82, e_X6_goes_83, e_X6_goes_86, e_X6_goes_90, e_X6_goes_93, e_X6_goes_94, e_X6_goes_95, e_X6_goes_96, e_X6_goes_97, e_X6_goes_98, e_X6_goes_99, r, hc, hi, hw, hz, pk_sub hwf, m_held (lo := 0) (hi := 99) (v := zE C v - wea (zK C v) (zH C)) (by omega) (by omega) (by omega), hd, toL1, toL0, ite_self, if_true, if_false, ite_true, ite_false, nI_add, pk_mul, z_eq, z_lt, z_le, z_ge, z_gt, nI_eq, nI_leI, nI_ltI, bI_0, bI_1, not_true_eq_false, not_false_eq_true]
        rw [if_neg (by omega)]
        exact fin _ (R.setE hv8 _) (F.tr (Fr.sA xm))
      · have e1 : zE C v = 0 := by omega
        have e2 : wea (zK C v) (zH C) = 1 := by omega
        have e3 : fbe (zK C v) (zE C v) (zH C) = 0 := by
          unfold fbe
          rw [if_pos hz, e1]
          omega
        have e4 : nI (zE C v) - nI (wea (zK C v) (zH C)) < 0 := by rw [e1, e2]; decide
        simp (disch := first | assumption | omega | exact isB_0 | exact isB_1 | exact isB_bI _ | decide) only [e_X6_goes_0, e_X6_goes_1, e_X6_goes_2, e_X6_goes_3, e_X6_goes_4, e_X6_goes_7, e_X6_goes_8, e_X6_goes_9, e_X6_goes_12, e_X6_goes_13, e_X6_goes_14, e_X6_goes_15, e_X6_goes_16, e_X6_goes_19, e_X6_goes_20, e_X6_goes_21, e_X6_goes_24, e_X6_goes_27, e_X6_goes_30, e_X6_goes_33, e_X6_goes_34, e_X6_goes_36, e_X6_goes_37, e_X6_goes_40, e_X6_goes_41, e_X6_goes_42, e_X6_goes_45, e_X6_goes_46, e_X6_goes_49, e_X6_goes_52, e_X6_goes_53, e_X6_goes_56, e_X6_goes_58, e_X6_goes_59, e_X6_goes_60, e_X6_goes_61, e_X6_goes_62, e_X6_goes_63, e_X6_goes_64, e_X6_goes_65, e_X6_goes_66, e_X6_goes_67, e_X6_goes_70, e_X6_goes_71, e_X6_goes_72, e_X6_goes_75, e_X6_goes_76, e_X6_goes_77, e_X6_goes_79, e_X6_goes_82, e_X6_goes_83, e_X6_goes_86, e_X6_goes_90, e_X6_goes_93, e_X6_goes_94, e_X6_goes_95, e_X6_goes_96, e_X6_goes_97, e_X6_goes_98, e_X6_goes_99, r, hc, hi, hw, hz, m_heldN e4, toL1, toL0, ite_self, if_true, if_false, ite_true, ite_false, nI_add, pk_mul, z_eq, z_lt, z_le, z_ge, z_gt, nI_eq, nI_leI, nI_ltI, bI_0, bI_1, not_true_eq_false, not_false_eq_true]
        rw [if_neg (by omega)]
        refine fin _ ?_ (F.tr (Fr.sA xm))
        rw [e3]
        exact R.setE hv8 0
    · simp (disch := first | assumption | omega | exact isB_0 | exact isB_1 | exact isB_bI _ | decide) only [e_X6_goes_0, e_X6_goes_1, e_X6_goes_2, e_X6_goes_3, e_X6_goes_4, e_X6_goes_7, e_X6_goes_8, e_X6_goes_9, e_X6_goes_12, e_X6_goes_13, e_X6_goes_14, e_X6_goes_15, e_X6_goes_16, e_X6_goes_19, e_X6_goes_20, e_X6_goes_21, e_X6_goes_24, e_X6_goes_27, e_X6_goes_30, e_X6_goes_33, e_X6_goes_34, e_X6_goes_36, e_X6_goes_37, e_X6_goes_40, e_X6_goes_41, e_X6_goes_42, e_X6_goes_45, e_X6_goes_46, e_X6_goes_49, e_X6_goes_52, e_X6_goes_53, e_X6_goes_56, e_X6_goes_58, e_X6_goes_59, e_X6_goes_60, e_X6_goes_61, e_X6_goes_62, e_X6_goes_63, e_X6_goes_64, e_X6_goes_65, e_X6_goes_66, e_X6_goes_67, e_X6_goes_70, e_X6_goes_71, e_X6_goes_72, e_X6_goes_75, e_X6_goes_76, e_X6_goes_77, e_X6_goes_79, e_X6_goes_82, e_X6_goes_83, e_X6_goes_86, e_X6_goes_90, e_X6_goes_93, e_X6_goes_94, e_X6_goes_95, e_X6_goes_96, e_X6_goes_97, e_X6_goes_98, e_X6_goes_99, r, hc, hz, toL1, toL0, ite_self, if_true, if_false, ite_true, ite_false, nI_add, pk_mul, z_eq, z_lt, z_le, z_ge, z_gt, nI_eq, nI_leI, nI_ltI, bI_0, bI_1, not_true_eq_false, not_false_eq_true]
      refine K h' (R.congE (fun i hi => ?_)) F _
      rw [fAf_no hz, fAf_no hz]
theorem m_goes (R : RR h 37 C) (W : WC C) (K : ∀ h', RR h' 37 (goC C) → Fr Xm h h' → Q none h') : Ev E mX6_goes 0 [.ref 36, .null] [] h Q := by
  simp (disch := first | assumption | omega | exact isB_0 | exact isB_1 | exact isB_bI _ | decide) only [e_X6_goes_0, e_X6_goes_1, e_X6_goes_3, e_X6_goes_4, e_X6_goes_7, e_X6_goes_8, e_X6_goes_9, e_X6_goes_12, e_X6_goes_13, e_X6_goes_14, e_X6_goes_15, e_X6_goes_16, e_X6_goes_19, e_X6_goes_20, e_X6_goes_21, e_X6_goes_24, e_X6_goes_27, e_X6_goes_30, e_X6_goes_34, e_X6_goes_35, e_X6_goes_36, e_X6_goes_37, e_X6_goes_40, e_X6_goes_41, e_X6_goes_42, e_X6_goes_45, e_X6_goes_46, e_X6_goes_49, e_X6_goes_52, e_X6_goes_53, e_X6_goes_56, e_X6_goes_58, e_X6_goes_59, e_X6_goes_60, e_X6_goes_61, e_X6_goes_62, e_X6_goes_63, e_X6_goes_64, e_X6_goes_65, e_X6_goes_66, e_X6_goes_67, e_X6_goes_70, e_X6_goes_71, e_X6_goes_72, e_X6_goes_75, e_X6_goes_76, e_X6_goes_77, e_X6_goes_79, e_X6_goes_82, e_X6_goes_83, e_X6_goes_86, e_X6_goes_89, e_X6_goes_90, e_X6_goes_93, e_X6_goes_94, e_X6_goes_95, e_X6_goes_96, e_X6_goes_97, e_X6_goes_98, e_X6_goes_99, toL1, toL0, ite_self, if_true, if_false, ite_true, ite_false, nI_add, pk_mul, z_eq, z_lt, z_le, z_ge, z_gt, nI_eq, nI_leI, nI_ltI, bI_0, bI_1, not_true_eq_false, not_false_eq_true]
  refine m_goL1 W (fun h1 R1 F1 => ?_) (zF C) 0 h (by omega) R Fr.rf
  rw [e_X6_goes_33]
  simp (disch := first | assumption | omega | exact isB_0 | exact isB_1 | exact isB_bI _ | decide) only [e_X6_goes_0, e_X6_goes_1, e_X6_goes_2, e_X6_goes_3, e_X6_goes_4, e_X6_goes_7, e_X6_goes_8, e_X6_goes_9, e_X6_goes_12, e_X6_goes_13, e_X6_goes_14, e_X6_goes_15, e_X6_goes_16, e_X6_goes_19, e_X6_goes_20, e_X6_goes_21, e_X6_goes_24, e_X6_goes_27, e_X6_goes_30, e_X6_goes_34, e_X6_goes_36, e_X6_goes_37, e_X6_goes_40, e_X6_goes_41, e_X6_goes_42, e_X6_goes_45, e_X6_goes_46, e_X6_goes_49, e_X6_goes_52, e_X6_goes_53, e_X6_goes_56, e_X6_goes_58, e_X6_goes_59, e_X6_goes_60, e_X6_goes_61, e_X6_goes_62, e_X6_goes_63, e_X6_goes_64, e_X6_goes_65, e_X6_goes_66, e_X6_goes_67, e_X6_goes_70, e_X6_goes_71, e_X6_goes_72, e_X6_goes_75, e_X6_goes_76, e_X6_goes_77, e_X6_goes_79, e_X6_goes_82, e_X6_goes_83, e_X6_goes_86, e_X6_goes_89, e_X6_goes_90, e_X6_goes_93, e_X6_goes_94, e_X6_goes_95, e_X6_goes_96, e_X6_goes_97, e_X6_goes_98, e_X6_goes_99, toL1, toL0, ite_self, if_true, if_false, ite_true, ite_false, nI_add, pk_mul, z_eq, z_lt, z_le, z_ge, z_gt, nI_eq, nI_leI, nI_ltI, bI_0, bI_1, not_true_eq_false, not_false_eq_true]
  refine m_goL2 (h := h1) (zsM C (mAf C (zF C))) W ⟨W.1, W.2.1, mAf_le W _ (Nat.le_refl _), W.2.2.2⟩ ⟨rfl, rfl, rfl, rfl⟩ (fun h2 R2 F2 y2 => ?_) (zF C) 0 h1 (by omega) R1 Fr.rf
  have r1 := R2.H
  rw [zH_zsE, zH_zsM] at r1
  rw [e_X6_goes_89]
  simp (disch := first | assumption | omega | exact isB_0 | exact isB_1 | exact isB_bI _ | decide) only [e_X6_goes_0, e_X6_goes_1, e_X6_goes_2, e_X6_goes_3, e_X6_goes_4, e_X6_goes_7, e_X6_goes_8, e_X6_goes_9, e_X6_goes_12, e_X6_goes_13, e_X6_goes_14, e_X6_goes_15, e_X6_goes_16, e_X6_goes_19, e_X6_goes_20, e_X6_goes_21, e_X6_goes_24, e_X6_goes_27, e_X6_goes_30, e_X6_goes_33, e_X6_goes_34, e_X6_goes_35, e_X6_goes_36, e_X6_goes_37, e_X6_goes_40, e_X6_goes_41, e_X6_goes_42, e_X6_goes_45, e_X6_goes_46, e_X6_goes_49, e_X6_goes_52, e_X6_goes_53, e_X6_goes_56, e_X6_goes_58, e_X6_goes_59, e_X6_goes_60, e_X6_goes_61, e_X6_goes_62, e_X6_goes_63, e_X6_goes_64, e_X6_goes_65, e_X6_goes_66, e_X6_goes_67, e_X6_goes_70, e_X6_goes_71, e_X6_goes_72, e_X6_goes_75, e_X6_goes_76, e_X6_goes_77, e_X6_goes_79, e_X6_goes_82, e_X6_goes_83, e_X6_goes_86, e_X6_goes_90, e_X6_goes_93, e_X6_goes_94, e_X6_goes_95, e_X6_goes_96, e_X6_goes_97, e_X6_goes_98, e_X6_goes_99, r1, toL1, toL0, ite_self, if_true, if_false, ite_true, ite_false, nI_add, pk_mul, z_eq, z_lt, z_le, z_ge, z_gt, nI_eq, nI_leI, nI_ltI, bI_0, bI_1, not_true_eq_false, not_false_eq_true]
  exact K _ (R2.setH (zH C + 1)) ((F1.tr F2).tr (Fr.sA xm))
theorem m_gfL (W : WC C) {n : Nat} (hn : zH C + n ≤ 200000) (hn2 : n ≤ 100000) (K : ∀ h', RR h' 37 (goN n C) → Fr Xm h h' → Q none h') : ∀ (d k : Nat) (h' : Hp), k + d = n → RR h' 37 (goN k C) → Fr Xm h h' → Ev E mX6_goesFor 2 [.ref 36, .int (nI n), .int (nI k)] [] h' Q := by
  intro d
  induction d with
  | zero =>
    intro k h' e R F
    rw [e_X6_goesFor_2]
    simp (disch := first | assumption | omega | exact isB_0 | exact isB_1 | exact isB_bI _ | decide) only [e_X6_goesFor_0, e_X6_goesFor_1, e_X6_goesFor_3, e_X6_goesFor_4, e_X6_goesFor_7, e_X6_goesFor_8, e_X6_goesFor_11, e_X6_goesFor_14, e_X6_goesFor_17, toL1, toL0, ite_self, if_true, if_false, ite_true, ite_false, nI_add, pk_mul, z_eq, z_lt, z_le, z_ge, z_gt, nI_eq, nI_leI, nI_ltI, bI_0, bI_1, not_true_eq_false, not_false_eq_true]
    rw [if_pos (by omega)]
    exact K h' (by rw [show n = k by omega]; exact R) F
  | succ d ih =>
    intro k h' e R F
    rw [e_X6_goesFor_2]
    simp (disch := first | assumption | omega | exact isB_0 | exact isB_1 | exact isB_bI _ | decide) only [e_X6_goesFor_0, e_X6_goesFor_1, e_X6_goesFor_3, e_X6_goesFor_4, e_X6_goesFor_7, e_X6_goesFor_8, e_X6_goesFor_11, e_X6_goesFor_14, e_X6_goesFor_17, toL1, toL0, ite_self, if_true, if_false, ite_true, ite_false, nI_add, pk_mul, z_eq, z_lt, z_le, z_ge, z_gt, nI_eq, nI_leI, nI_ltI, bI_0, bI_1, not_true_eq_false, not_false_eq_true]
    rw [if_neg (by omega)]
    refine m_goes R (W_goN W k (by omega)) (fun h2 R2 F2 => ?_)
    simp (disch := first | assumption | omega | exact isB_0 | exact isB_1 | exact isB_bI _ | decide) only [e_X6_goesFor_0, e_X6_goesFor_1, e_X6_goesFor_3, e_X6_goesFor_4, e_X6_goesFor_7, e_X6_goesFor_8, e_X6_goesFor_11, e_X6_goesFor_14, e_X6_goesFor_17, toL1, toL0, ite_self, if_true, if_false, ite_true, ite_false, nI_add, pk_mul, z_eq, z_lt, z_le, z_ge, z_gt, nI_eq, nI_leI, nI_ltI, bI_0, bI_1, not_true_eq_false, not_false_eq_true]
    exact ih (k + 1) h2 (by omega) R2 (F.tr F2)
theorem m_goesFor (R : RR h 37 C) (W : WC C) {n : Nat} (hn : zH C + n ≤ 200000) (hn2 : n ≤ 100000) (K : ∀ h', RR h' 37 (goN n C) → Fr Xm h h' → Q none h') : Ev E mX6_goesFor 0 [.ref 36, .int (nI n), .null] [] h Q := by
  simp (disch := first | assumption | omega | exact isB_0 | exact isB_1 | exact isB_bI _ | decide) only [e_X6_goesFor_0, e_X6_goesFor_1, e_X6_goesFor_3, e_X6_goesFor_4, e_X6_goesFor_7, e_X6_goesFor_8, e_X6_goesFor_11, e_X6_goesFor_14, e_X6_goesFor_17, toL1, toL0, ite_self, if_true, if_false, ite_true, ite_false, nI_add, pk_mul, z_eq, z_lt, z_le, z_ge, z_gt, nI_eq, nI_leI, nI_ltI, bI_0, bI_1, not_true_eq_false, not_false_eq_true]
  exact m_gfL W hn hn2 K n 0 h (by omega) R Fr.rf
theorem m_cpL {a b : Nat} (ha : isM a) (hb : isM b) (hab : a ≠ b) (K : ∀ h', (∀ k, k < 46 → gA h' b k = gA h a k) → Fr (fun o => o = b) h h' → Q none h') : ∀ (d k : Nat) (h' : Hp), k + d = 46 → (∀ j, j < k → gA h' b j = gA h a j) → Fr (fun o => o = b) h h' → Ev E mX6_copyAll 2 [.ref a, .ref b, .int (nI k)] [] h' Q := by
  intro d
  induction d with
  | zero =>
    intro k h' e J F
    rw [e_X6_copyAll_2]
    simp (disch := first | assumption | omega | exact isB_0 | exact isB_1 | exact isB_bI _ | decide) only [e_X6_copyAll_0, e_X6_copyAll_1, e_X6_copyAll_3, e_X6_copyAll_5, e_X6_copyAll_8, e_X6_copyAll_9, e_X6_copyAll_10, e_X6_copyAll_11, e_X6_copyAll_12, e_X6_copyAll_13, e_X6_copyAll_14, e_X6_copyAll_17, e_X6_copyAll_20, toL1, toL0, ite_self, if_true, if_false, ite_true, ite_false, nI_add, pk_mul, z_eq, z_lt, z_le, z_ge, z_gt, nI_eq, nI_leI, nI_ltI, bI_0, bI_1, not_true_eq_false, not_false_eq_true]
    rw [if_pos (by omega)]
    exact K h' (fun j hj => J j (by omega)) F
  | succ d ih =>
    intro k h' e J F
    rw [e_X6_copyAll_2]
    simp (disch := first | assumption | omega | exact isB_0 | exact isB_1 | exact isB_bI _ | decide) only [e_X6_copyAll_0, e_X6_copyAll_1, e_X6_copyAll_3, e_X6_copyAll_5, e_X6_copyAll_8, e_X6_copyAll_9, e_X6_copyAll_10, e_X6_copyAll_11, e_X6_copyAll_12, e_X6_copyAll_13, e_X6_copyAll_14, e_X6_copyAll_17, e_X6_copyAll_20, toL1, toL0, ite_self, if_true, if_false, ite_true, ite_false, nI_add, pk_mul, z_eq, z_lt, z_le, z_ge, z_gt, nI_eq, nI_leI, nI_ltI, bI_0, bI_1, not_true_eq_false, not_false_eq_true]
    rw [if_neg (by omega)]
    refine ih (k + 1) _ (by omega) (fun j hj => ?_) (F.tr (Fr.sA rfl))
    rw [gA_sA, if_pos rfl]
    by_cases hjk : j = k
    · rw [hjk, pk_us, (F a hab).2.1]
    · rw [pk_un hjk]
      exact J j (by omega)
theorem m_copyAll {a b : Nat} (ha : isM a) (hb : isM b) (hab : a ≠ b) (K : ∀ h', (∀ k, k < 46 → gA h' b k = gA h a k) → Fr (fun o => o = b) h h' → Q none h') : Ev E mX6_copyAll 0 [.ref a, .ref b, .null] [] h Q := by
  simp (disch := first | assumption | omega | exact isB_0 | exact isB_1 | exact isB_bI _ | decide) only [e_X6_copyAll_0, e_X6_copyAll_1, e_X6_copyAll_3, e_X6_copyAll_5, e_X6_copyAll_8, e_X6_copyAll_9, e_X6_copyAll_10, e_X6_copyAll_11, e_X6_copyAll_12, e_X6_copyAll_13, e_X6_copyAll_14, e_X6_copyAll_17, e_X6_copyAll_20, toL1, toL0, ite_self, if_true, if_false, ite_true, ite_false, nI_add, pk_mul, z_eq, z_lt, z_le, z_ge, z_gt, nI_eq, nI_leI, nI_ltI, bI_0, bI_1, not_true_eq_false, not_false_eq_true]
  exact m_cpL ha hb hab K 46 0 h (by omega) (fun j hj => absurd hj (Nat.not_lt_zero j)) Fr.rf
theorem m_thinks (R : RR h 37 C) (K : ∀ h', RR h' 39 C → Fr (fun o => o = 39) h h' → Q none h') : Ev E mX6_thinks 0 [.ref 36] [] h Q := by
  simp (disch := first | assumption | omega | exact isB_0 | exact isB_1 | exact isB_bI _ | decide) only [e_X6_thinks_0, e_X6_thinks_1, e_X6_thinks_4, e_X6_thinks_5, e_X6_thinks_8, e_X6_thinks_11, toL1, toL0, ite_self, if_true, if_false, ite_true, ite_false, nI_add, pk_mul, z_eq, z_lt, z_le, z_ge, z_gt, nI_eq, nI_leI, nI_ltI, bI_0, bI_1, not_true_eq_false, not_false_eq_true]
  refine m_copyAll (Or.inl rfl) (Or.inr (Or.inr rfl)) (by decide) (fun h1 J F => ?_)
  simp (disch := first | assumption | omega | exact isB_0 | exact isB_1 | exact isB_bI _ | decide) only [e_X6_thinks_0, e_X6_thinks_1, e_X6_thinks_4, e_X6_thinks_5, e_X6_thinks_8, e_X6_thinks_11, toL1, toL0, ite_self, if_true, if_false, ite_true, ite_false, nI_add, pk_mul, z_eq, z_lt, z_le, z_ge, z_gt, nI_eq, nI_leI, nI_ltI, bI_0, bI_1, not_true_eq_false, not_false_eq_true]
  exact K h1 (R.to J) F
theorem m_putsBack (R : RR h 39 C) (K : ∀ h', RR h' 37 C → Fr Xm h h' → Q none h') : Ev E mX6_putsBack 0 [.ref 36] [] h Q := by
  simp (disch := first | assumption | omega | exact isB_0 | exact isB_1 | exact isB_bI _ | decide) only [e_X6_putsBack_0, e_X6_putsBack_1, e_X6_putsBack_4, e_X6_putsBack_5, e_X6_putsBack_8, e_X6_putsBack_11, toL1, toL0, ite_self, if_true, if_false, ite_true, ite_false, nI_add, pk_mul, z_eq, z_lt, z_le, z_ge, z_gt, nI_eq, nI_leI, nI_ltI, bI_0, bI_1, not_true_eq_false, not_false_eq_true]
  refine m_copyAll (Or.inr (Or.inr rfl)) (Or.inl rfl) (by decide) (fun h1 J F => ?_)
  simp (disch := first | assumption | omega | exact isB_0 | exact isB_1 | exact isB_bI _ | decide) only [e_X6_putsBack_0, e_X6_putsBack_1, e_X6_putsBack_4, e_X6_putsBack_5, e_X6_putsBack_8, e_X6_putsBack_11, toL1, toL0, ite_self, if_true, if_false, ite_true, ite_false, nI_add, pk_mul, z_eq, z_lt, z_le, z_ge, z_gt, nI_eq, nI_leI, nI_ltI, bI_0, bI_1, not_true_eq_false, not_false_eq_true]
  exact K h1 (R.to J) F
theorem m_maL (R : RR h 37 C) : ∀ d o : Nat, o + d = 4 → Ev E mX6_allMoney 4 [.ref 36, .int (nI (sumN (zM C) o)), .int (nI o)] [] h Q = Q (some (.int (nI (sumN (zM C) 4)))) h := by
  intro d
  induction d with
  | zero =>
    intro o e
    rw [e_X6_allMoney_4]
    simp (disch := first | assumption | omega | exact isB_0 | exact isB_1 | exact isB_bI _ | decide) only [e_X6_allMoney_0, e_X6_allMoney_1, e_X6_allMoney_2, e_X6_allMoney_3, e_X6_allMoney_5, e_X6_allMoney_6, e_X6_allMoney_9, e_X6_allMoney_10, e_X6_allMoney_11, e_X6_allMoney_14, e_X6_allMoney_15, e_X6_allMoney_16, e_X6_allMoney_17, e_X6_allMoney_18, e_X6_allMoney_19, e_X6_allMoney_20, e_X6_allMoney_23, e_X6_allMoney_26, e_X6_allMoney_27, toL1, toL0, ite_self, if_true, if_false, ite_true, ite_false, nI_add, pk_mul, z_eq, z_lt, z_le, z_ge, z_gt, nI_eq, nI_leI, nI_ltI, bI_0, bI_1, not_true_eq_false, not_false_eq_true]
    rw [if_pos (by omega), show o = 4 by omega]
  | succ d ih =>
    intro o e
    have ih2 := ih (o + 1) (by omega)
    rw [e_X6_allMoney_4]
    simp (disch := first | assumption | omega | exact isB_0 | exact isB_1 | exact isB_bI _ | decide) only [e_X6_allMoney_0, e_X6_allMoney_1, e_X6_allMoney_2, e_X6_allMoney_3, e_X6_allMoney_5, e_X6_allMoney_6, e_X6_allMoney_9, e_X6_allMoney_10, e_X6_allMoney_11, e_X6_allMoney_14, e_X6_allMoney_15, e_X6_allMoney_16, e_X6_allMoney_17, e_X6_allMoney_18, e_X6_allMoney_19, e_X6_allMoney_20, e_X6_allMoney_23, e_X6_allMoney_26, e_X6_allMoney_27, R.M (show o < 4 by omega), toL1, toL0, ite_self, if_true, if_false, ite_true, ite_false, nI_add, pk_mul, z_eq, z_lt, z_le, z_ge, z_gt, nI_eq, nI_leI, nI_ltI, bI_0, bI_1, not_true_eq_false, not_false_eq_true]
    rw [if_neg (by omega)]
    exact ih2
theorem m_allMoney (R : RR h 37 C) : Ev E mX6_allMoney 0 [.ref 36, .null, .null] [] h Q = Q (some (.int (nI (sumN (zM C) 4)))) h := by
  simp (disch := first | assumption | omega | exact isB_0 | exact isB_1 | exact isB_bI _ | decide) only [e_X6_allMoney_0, e_X6_allMoney_1, e_X6_allMoney_2, e_X6_allMoney_3, e_X6_allMoney_5, e_X6_allMoney_6, e_X6_allMoney_9, e_X6_allMoney_10, e_X6_allMoney_11, e_X6_allMoney_14, e_X6_allMoney_15, e_X6_allMoney_16, e_X6_allMoney_17, e_X6_allMoney_18, e_X6_allMoney_19, e_X6_allMoney_20, e_X6_allMoney_23, e_X6_allMoney_26, e_X6_allMoney_27, toL1, toL0, ite_self, if_true, if_false, ite_true, ite_false, nI_add, pk_mul, z_eq, z_lt, z_le, z_ge, z_gt, nI_eq, nI_leI, nI_ltI, bI_0, bI_1, not_true_eq_false, not_false_eq_true]
  exact m_maL R 4 0 (by omega)
theorem m_afL (R : RR h 37 C) (W : WC C) : ∀ d f : Nat, f + d = zF C → Ev E mX6_allFine 4 [.ref 36, .int (nI (sumN (zE C) f)), .int (nI f)] [] h Q = Q (some (.int (nI (sumN (zE C) (zF C))))) h := by
  have h8 := W.f
  intro d
  induction d with
  | zero =>
    intro f e
    rw [e_X6_allFine_4]
    simp (disch := first | assumption | omega | exact isB_0 | exact isB_1 | exact isB_bI _ | decide) only [e_X6_allFine_0, e_X6_allFine_1, e_X6_allFine_2, e_X6_allFine_3, e_X6_allFine_5, e_X6_allFine_6, e_X6_allFine_9, e_X6_allFine_10, e_X6_allFine_11, e_X6_allFine_14, e_X6_allFine_15, e_X6_allFine_16, e_X6_allFine_17, e_X6_allFine_18, e_X6_allFine_21, e_X6_allFine_22, e_X6_allFine_23, e_X6_allFine_26, e_X6_allFine_29, e_X6_allFine_30, R.F, toL1, toL0, ite_self, if_true, if_false, ite_true, ite_false, nI_add, pk_mul, z_eq, z_lt, z_le, z_ge, z_gt, nI_eq, nI_leI, nI_ltI, bI_0, bI_1, not_true_eq_false, not_false_eq_true]
    rw [if_pos (by omega), show f = zF C by omega]
  | succ d ih =>
    intro f e
    have ih2 := ih (f + 1) (by omega)
    rw [e_X6_allFine_4]
    simp (disch := first | assumption | omega | exact isB_0 | exact isB_1 | exact isB_bI _ | decide) only [e_X6_allFine_0, e_X6_allFine_1, e_X6_allFine_2, e_X6_allFine_3, e_X6_allFine_5, e_X6_allFine_6, e_X6_allFine_9, e_X6_allFine_10, e_X6_allFine_11, e_X6_allFine_14, e_X6_allFine_15, e_X6_allFine_16, e_X6_allFine_17, e_X6_allFine_18, e_X6_allFine_21, e_X6_allFine_22, e_X6_allFine_23, e_X6_allFine_26, e_X6_allFine_29, e_X6_allFine_30, R.F, m_iE R (show f < 8 by omega), toL1, toL0, ite_self, if_true, if_false, ite_true, ite_false, nI_add, pk_mul, z_eq, z_lt, z_le, z_ge, z_gt, nI_eq, nI_leI, nI_ltI, bI_0, bI_1, not_true_eq_false, not_false_eq_true]
    rw [if_neg (by omega)]
    exact ih2
theorem m_allFine (R : RR h 37 C) (W : WC C) : Ev E mX6_allFine 0 [.ref 36, .null, .null] [] h Q = Q (some (.int (nI (sumN (zE C) (zF C))))) h := by
  simp (disch := first | assumption | omega | exact isB_0 | exact isB_1 | exact isB_bI _ | decide) only [e_X6_allFine_0, e_X6_allFine_1, e_X6_allFine_2, e_X6_allFine_3, e_X6_allFine_5, e_X6_allFine_6, e_X6_allFine_9, e_X6_allFine_10, e_X6_allFine_11, e_X6_allFine_14, e_X6_allFine_15, e_X6_allFine_16, e_X6_allFine_17, e_X6_allFine_18, e_X6_allFine_21, e_X6_allFine_22, e_X6_allFine_23, e_X6_allFine_26, e_X6_allFine_29, e_X6_allFine_30, toL1, toL0, ite_self, if_true, if_false, ite_true, ite_false, nI_add, pk_mul, z_eq, z_lt, z_le, z_ge, z_gt, nI_eq, nI_leI, nI_ltI, bI_0, bI_1, not_true_eq_false, not_false_eq_true]
  exact m_afL R W (zF C) 0 (by omega)
theorem m_doL (R : RR h 37 C) (W : WC C) : ∀ d f : Nat, f + d = zF C → Ev E mX6_drawnOnes 4 [.ref 36, .int (nI (sumN (zU C) f)), .int (nI f)] [] h Q = Q (some (.int (nI (sumN (zU C) (zF C))))) h := by
  have h8 := W.f
  intro d
  induction d with
  | zero =>
    intro f e
    rw [e_X6_drawnOnes_4]
    simp (disch := first | assumption | omega | exact isB_0 | exact isB_1 | exact isB_bI _ | decide) only [e_X6_drawnOnes_0, e_X6_drawnOnes_1, e_X6_drawnOnes_2, e_X6_drawnOnes_3, e_X6_drawnOnes_5, e_X6_drawnOnes_6, e_X6_drawnOnes_9, e_X6_drawnOnes_10, e_X6_drawnOnes_11, e_X6_drawnOnes_14, e_X6_drawnOnes_15, e_X6_drawnOnes_16, e_X6_drawnOnes_17, e_X6_drawnOnes_18, e_X6_drawnOnes_21, e_X6_drawnOnes_22, e_X6_drawnOnes_23, e_X6_drawnOnes_26, e_X6_drawnOnes_29, e_X6_drawnOnes_30, R.F, toL1, toL0, ite_self, if_true, if_false, ite_true, ite_false, nI_add, pk_mul, z_eq, z_lt, z_le, z_ge, z_gt, nI_eq, nI_leI, nI_ltI, bI_0, bI_1, not_true_eq_false, not_false_eq_true]
    rw [if_pos (by omega), show f = zF C by omega]
  | succ d ih =>
    intro f e
    have ih2 := ih (f + 1) (by omega)
    rw [e_X6_drawnOnes_4]
    simp (disch := first | assumption | omega | exact isB_0 | exact isB_1 | exact isB_bI _ | decide) only [e_X6_drawnOnes_0, e_X6_drawnOnes_1, e_X6_drawnOnes_2, e_X6_drawnOnes_3, e_X6_drawnOnes_5, e_X6_drawnOnes_6, e_X6_drawnOnes_9, e_X6_drawnOnes_10, e_X6_drawnOnes_11, e_X6_drawnOnes_14, e_X6_drawnOnes_15, e_X6_drawnOnes_16, e_X6_drawnOnes_17, e_X6_drawnOnes_18, e_X6_drawnOnes_21, e_X6_drawnOnes_22, e_X6_drawnOnes_23, e_X6_drawnOnes_26, e_X6_drawnOnes_29, e_X6_drawnOnes_30, R.F, m_aU R (show f < 8 by omega), toL1, toL0, ite_self, if_true, if_false, ite_true, ite_false, nI_add, pk_mul, z_eq, z_lt, z_le, z_ge, z_gt, nI_eq, nI_leI, nI_ltI, bI_0, bI_1, not_true_eq_false, not_false_eq_true]
    rw [if_neg (by omega)]
    exact ih2
theorem m_drawnOnes (R : RR h 37 C) (W : WC C) : Ev E mX6_drawnOnes 0 [.ref 36, .null, .null] [] h Q = Q (some (.int (nI (sumN (zU C) (zF C))))) h := by
  simp (disch := first | assumption | omega | exact isB_0 | exact isB_1 | exact isB_bI _ | decide) only [e_X6_drawnOnes_0, e_X6_drawnOnes_1, e_X6_drawnOnes_2, e_X6_drawnOnes_3, e_X6_drawnOnes_5, e_X6_drawnOnes_6, e_X6_drawnOnes_9, e_X6_drawnOnes_10, e_X6_drawnOnes_11, e_X6_drawnOnes_14, e_X6_drawnOnes_15, e_X6_drawnOnes_16, e_X6_drawnOnes_17, e_X6_drawnOnes_18, e_X6_drawnOnes_21, e_X6_drawnOnes_22, e_X6_drawnOnes_23, e_X6_drawnOnes_26, e_X6_drawnOnes_29, e_X6_drawnOnes_30, toL1, toL0, ite_self, if_true, if_false, ite_true, ite_false, nI_add, pk_mul, z_eq, z_lt, z_le, z_ge, z_gt, nI_eq, nI_leI, nI_ltI, bI_0, bI_1, not_true_eq_false, not_false_eq_true]
  exact m_doL R W (zF C) 0 (by omega)
theorem m_ahL (R : RR h 37 C) (W : WC C) : ∀ d f : Nat, f + d = zF C → Ev E mX6_atHome 4 [.ref 36, .int (setI (fun i => i) (fun i => decide (zV C i = i)) f), .int (nI f)] [] h Q = Q (some (.int (setI (fun i => i) (fun i => decide (zV C i = i)) (zF C)))) h := by
  have h8 := W.f
  intro d
  induction d with
  | zero =>
    intro f e
    rw [e_X6_atHome_4]
    simp (disch := first | assumption | omega | exact isB_0 | exact isB_1 | exact isB_bI _ | decide) only [e_X6_atHome_0, e_X6_atHome_1, e_X6_atHome_2, e_X6_atHome_3, e_X6_atHome_5, e_X6_atHome_6, e_X6_atHome_9, e_X6_atHome_10, e_X6_atHome_11, e_X6_atHome_14, e_X6_atHome_15, e_X6_atHome_16, e_X6_atHome_17, e_X6_atHome_18, e_X6_atHome_21, e_X6_atHome_22, e_X6_atHome_25, e_X6_atHome_26, e_X6_atHome_27, e_X6_atHome_28, e_X6_atHome_31, e_X6_atHome_32, e_X6_atHome_33, e_X6_atHome_34, e_X6_atHome_37, e_X6_atHome_40, e_X6_atHome_41, R.F, toL1, toL0, ite_self, if_true, if_false, ite_true, ite_false, nI_add, pk_mul, z_eq, z_lt, z_le, z_ge, z_gt, nI_eq, nI_leI, nI_ltI, bI_0, bI_1, not_true_eq_false, not_false_eq_true]
    rw [if_pos (by omega), show f = zF C by omega]
  | succ d ih =>
    intro f e
    have hf8 : f < 8 := by omega
    have hv8 := W.v8 (show f < zF C by omega)
    have ih2 := ih (f + 1) (by omega)
    rw [e_X6_atHome_4]
    simp (disch := first | assumption | omega | exact isB_0 | exact isB_1 | exact isB_bI _ | decide) only [e_X6_atHome_0, e_X6_atHome_1, e_X6_atHome_2, e_X6_atHome_3, e_X6_atHome_5, e_X6_atHome_6, e_X6_atHome_9, e_X6_atHome_10, e_X6_atHome_11, e_X6_atHome_14, e_X6_atHome_15, e_X6_atHome_16, e_X6_atHome_17, e_X6_atHome_18, e_X6_atHome_21, e_X6_atHome_22, e_X6_atHome_25, e_X6_atHome_26, e_X6_atHome_27, e_X6_atHome_28, e_X6_atHome_31, e_X6_atHome_32, e_X6_atHome_33, e_X6_atHome_34, e_X6_atHome_37, e_X6_atHome_40, e_X6_atHome_41, R.F, m_aV R hf8, or0, toL1, toL0, ite_self, if_true, if_false, ite_true, ite_false, nI_add, pk_mul, z_eq, z_lt, z_le, z_ge, z_gt, nI_eq, nI_leI, nI_ltI, bI_0, bI_1, not_true_eq_false, not_false_eq_true]
    rw [if_neg (by omega)]
    rw [setI] at ih2
    by_cases h1 : zV C f = f
    · rw [if_pos (by simp [h1])] at ih2
      rw [if_pos h1]
      exact ih2
    · rw [if_neg (by simp [h1])] at ih2
      rw [if_neg h1]
      exact ih2
theorem m_atHome (R : RR h 37 C) (W : WC C) : Ev E mX6_atHome 0 [.ref 36, .null, .null] [] h Q = Q (some (.int (setI (fun i => i) (fun i => decide (zV C i = i)) (zF C)))) h := by
  simp (disch := first | assumption | omega | exact isB_0 | exact isB_1 | exact isB_bI _ | decide) only [e_X6_atHome_0, e_X6_atHome_1, e_X6_atHome_2, e_X6_atHome_3, e_X6_atHome_5, e_X6_atHome_6, e_X6_atHome_9, e_X6_atHome_10, e_X6_atHome_11, e_X6_atHome_14, e_X6_atHome_15, e_X6_atHome_16, e_X6_atHome_17, e_X6_atHome_18, e_X6_atHome_21, e_X6_atHome_22, e_X6_atHome_25, e_X6_atHome_26, e_X6_atHome_27, e_X6_atHome_28, e_X6_atHome_31, e_X6_atHome_32, e_X6_atHome_33, e_X6_atHome_34, e_X6_atHome_37, e_X6_atHome_40, e_X6_atHome_41, toL1, toL0, ite_self, if_true, if_false, ite_true, ite_false, nI_add, pk_mul, z_eq, z_lt, z_le, z_ge, z_gt, nI_eq, nI_leI, nI_ltI, bI_0, bI_1, not_true_eq_false, not_false_eq_true]
  exact m_ahL R W (zF C) 0 (by omega)
theorem showN_of {v : Nat} : ∀ n j, j < n → zV C j = v → (∀ i, i < n → zV C i = v → i = j) → showN C v n = j := by
  intro n
  induction n with
  | zero => intro j hj; omega
  | succ n ih =>
    intro j hj e u
    rw [showN]
    by_cases h1 : zV C n = v
    · rw [if_pos h1]; exact u n (by omega) h1
    · rw [if_neg h1]
      refine ih j ?_ e (fun i hi => u i (by omega))
      rcases Nat.lt_or_ge j n with q | q
      · exact q
      · exfalso
        apply h1
        rw [show n = j by omega]
        exact e
theorem m_fwL (R : RR h 37 C) (W : WC C) {v j : Nat} (hv : v < zF C) (hj : j < zF C) (e : zV C j = v) : ∀ d f : Nat, f + d = j → Ev E mX6_frameWith 2 [.ref 36, .int (nI v), .int (nI f)] [] h Q = Q (some (.int (nI j))) h := by
  have h8 := W.f
  intro d
  induction d with
  | zero =>
    intro f e2
    have hfj : f = j := by omega
    subst hfj
    have hv8 := W.v8 hj
    rw [e_X6_frameWith_2]
    simp (disch := first | assumption | omega | exact isB_0 | exact isB_1 | exact isB_bI _ | decide) only [e_X6_frameWith_0, e_X6_frameWith_1, e_X6_frameWith_3, e_X6_frameWith_4, e_X6_frameWith_5, e_X6_frameWith_8, e_X6_frameWith_9, e_X6_frameWith_12, e_X6_frameWith_15, e_X6_frameWith_18, e_X6_frameWith_19, m_aV R (show f < 8 by omega), toL1, toL0, ite_self, if_true, if_false, ite_true, ite_false, nI_add, pk_mul, z_eq, z_lt, z_le, z_ge, z_gt, nI_eq, nI_leI, nI_ltI, bI_0, bI_1, not_true_eq_false, not_false_eq_true]
    rw [if_pos e]
  | succ d ih =>
    intro f e2
    have hv8 := W.v8 (show f < zF C by omega)
    have ih2 := ih (f + 1) (by omega)
    rw [e_X6_frameWith_2]
    simp (disch := first | assumption | omega | exact isB_0 | exact isB_1 | exact isB_bI _ | decide) only [e_X6_frameWith_0, e_X6_frameWith_1, e_X6_frameWith_3, e_X6_frameWith_4, e_X6_frameWith_5, e_X6_frameWith_8, e_X6_frameWith_9, e_X6_frameWith_12, e_X6_frameWith_15, e_X6_frameWith_18, e_X6_frameWith_19, m_aV R (show f < 8 by omega), toL1, toL0, ite_self, if_true, if_false, ite_true, ite_false, nI_add, pk_mul, z_eq, z_lt, z_le, z_ge, z_gt, nI_eq, nI_leI, nI_ltI, bI_0, bI_1, not_true_eq_false, not_false_eq_true]
    rw [if_neg (fun z => by have := W.vi (show f < zF C by omega) hj (z.trans e.symm); omega)]
    exact ih2
theorem m_frameWith (R : RR h 37 C) (W : WC C) {v : Nat} (hv : v < zF C) : Ev E mX6_frameWith 0 [.ref 36, .int (nI v), .null] [] h Q = Q (some (.int (nI (showN C v (zF C))))) h := by
  obtain ⟨j, hj, e⟩ := fb_onto (f := zV C) (fun i hi => W.v hi) (fun i j hij hj e => by have := W.vi (show i < zF C by omega) hj e; omega) hv
  rw [showN_of (zF C) j hj e (fun i hi e2 => W.vi hi hj (e2.trans e.symm))]
  simp (disch := first | assumption | omega | exact isB_0 | exact isB_1 | exact isB_bI _ | decide) only [e_X6_frameWith_0, e_X6_frameWith_1, e_X6_frameWith_3, e_X6_frameWith_4, e_X6_frameWith_5, e_X6_frameWith_8, e_X6_frameWith_9, e_X6_frameWith_12, e_X6_frameWith_15, e_X6_frameWith_18, e_X6_frameWith_19, toL1, toL0, ite_self, if_true, if_false, ite_true, ite_false, nI_add, pk_mul, z_eq, z_lt, z_le, z_ge, z_gt, nI_eq, nI_leI, nI_ltI, bI_0, bI_1, not_true_eq_false, not_false_eq_true]
  exact m_fwL R W hv hj e j 0 (by omega)
theorem m_comesAs (R : RR h 37 C) {k o fi cu : Nat} (hf : zF C < 8) (K : ∀ h', RR h' 37 (zsE (zsK (zsV (zsU (zsO (zsF C (zF C + 1)) (updN (zO C) (zF C) o)) (updN (zU C) (zF C) cu)) (updN (zV C) (zF C) (zF C))) (updN (zK C) (zF C) k)) (updN (zE C) (zF C) fi)) → Fr Xm h h' → Q (some (.int (nI (zF C)))) h') : Ev E mX6_comesAs 0 [.ref 36, .int (nI k), .int (nI o), .int (nI fi), .int (nI cu), .null] [] h Q := by
  simp (disch := first | assumption | omega | exact isB_0 | exact isB_1 | exact isB_bI _ | decide) only [e_X6_comesAs_0, e_X6_comesAs_1, e_X6_comesAs_4, e_X6_comesAs_5, e_X6_comesAs_6, e_X6_comesAs_8, e_X6_comesAs_9, e_X6_comesAs_12, e_X6_comesAs_13, e_X6_comesAs_14, e_X6_comesAs_15, e_X6_comesAs_16, e_X6_comesAs_17, e_X6_comesAs_18, e_X6_comesAs_19, e_X6_comesAs_22, e_X6_comesAs_24, e_X6_comesAs_25, e_X6_comesAs_27, e_X6_comesAs_28, e_X6_comesAs_29, e_X6_comesAs_30, e_X6_comesAs_31, e_X6_comesAs_32, e_X6_comesAs_35, e_X6_comesAs_37, e_X6_comesAs_38, e_X6_comesAs_40, e_X6_comesAs_41, e_X6_comesAs_42, e_X6_comesAs_43, e_X6_comesAs_44, e_X6_comesAs_46, e_X6_comesAs_47, e_X6_comesAs_48, e_X6_comesAs_51, e_X6_comesAs_53, e_X6_comesAs_54, e_X6_comesAs_56, e_X6_comesAs_57, e_X6_comesAs_58, e_X6_comesAs_59, e_X6_comesAs_60, e_X6_comesAs_62, e_X6_comesAs_63, e_X6_comesAs_64, e_X6_comesAs_67, e_X6_comesAs_69, e_X6_comesAs_70, e_X6_comesAs_72, e_X6_comesAs_73, e_X6_comesAs_74, e_X6_comesAs_75, e_X6_comesAs_76, e_X6_comesAs_77, e_X6_comesAs_80, e_X6_comesAs_82, e_X6_comesAs_83, e_X6_comesAs_85, e_X6_comesAs_86, e_X6_comesAs_87, e_X6_comesAs_88, e_X6_comesAs_89, e_X6_comesAs_90, e_X6_comesAs_91, e_X6_comesAs_93, R.F, toL1, toL0, ite_self, if_true, if_false, ite_true, ite_false, nI_add, pk_mul, z_eq, z_lt, z_le, z_ge, z_gt, nI_eq, nI_leI, nI_ltI, bI_0, bI_1, not_true_eq_false, not_false_eq_true]
  exact K _ ((((((R.setF (zF C + 1)).setO hf o).setU hf cu).setV hf (zF C)).setK hf k).setE hf fi) ((((((Fr.sA xm).tr (Fr.sA xm)).tr (Fr.sA xm)).tr (Fr.sA xm)).tr (Fr.sA xm)).tr (Fr.sA xm))
end MODEL2
