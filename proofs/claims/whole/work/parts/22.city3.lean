/-! a city becomes another; views at home; the way home -/
theorem cp_at {f g : Nat → Int32} {n i : Nat} (hn : n < 2 ^ 31) (hi : i < n) : va_cpy f g (nI 0).toNatClampNeg (nI 0).toNatClampNeg (nI n).toNatClampNeg i = f i := by
  rw [nI_clamp hn, show (nI 0).toNatClampNeg = 0 by decide, pk_cpy_in (Nat.zero_le _) (by omega)]
  congr 1
  omega
section CITY3
variable {E : En} {h : Hp} {Q : Option Value → Hp → Prop} {c c2 : Nat} {C C2 : Cty}
theorem isC_ne (hC : isC c) (hC2 : isC c2) (hn : c2 ≠ c) (i j : Nat) (hi : i ≤ 6) (hj : j ≤ 6) : (c2 + i = c + j) ↔ False := by
  refine ⟨fun z => ?_, fun z => z.elim⟩
  rcases hC with rfl | rfl | rfl <;> rcases hC2 with rfl | rfl | rfl <;> omega
theorem c_become (hC : isC c) (hC2 : isC c2) (hn : c2 ≠ c) (R : RC h c2 C2) (K : ∀ h', RC h' c C2 → Fr (Xc c) h h' → Q none h') : Ev E mX1_become 0 [.ref c, .ref c2] [] h Q := by
  have hne := isC_ne hC hC2 hn
  have hne0 : (c2 = c) ↔ False := ⟨fun z => hn z, fun z => z.elim⟩
  have h04 : ¬ nI 0 < 0 ∧ ¬ nI 0 < 0 ∧ ¬ nI 4 < 0 := by decide
  have h08 : ¬ nI 0 < 0 ∧ ¬ nI 0 < 0 ∧ ¬ nI 8 < 0 := by decide
  have a1 : (nI 0).toNatClampNeg + (nI 4).toNatClampNeg ≤ aN (c + 1) := by rw [aN_of (kC1 hC)]; decide
  have a2 : (nI 0).toNatClampNeg + (nI 8).toNatClampNeg ≤ aN (c + 2) := by rw [aN_of (kC2 hC)]; decide
  have a3 : (nI 0).toNatClampNeg + (nI 8).toNatClampNeg ≤ aN (c + 3) := by rw [aN_of (kC3 hC)]; decide
  have a4 : (nI 0).toNatClampNeg + (nI 8).toNatClampNeg ≤ aN (c + 4) := by rw [aN_of (kC4 hC)]; decide
  have a5 : (nI 0).toNatClampNeg + (nI 8).toNatClampNeg ≤ aN (c + 5) := by rw [aN_of (kC5 hC)]; decide
  have a6 : (nI 0).toNatClampNeg + (nI 8).toNatClampNeg ≤ aN (c + 6) := by rw [aN_of (kC6 hC)]; decide
  have b1 : (nI 0).toNatClampNeg + (nI 4).toNatClampNeg ≤ aN (c2 + 1) := by rw [aN_of (kC1 hC2)]; decide
  have b2 : (nI 0).toNatClampNeg + (nI 8).toNatClampNeg ≤ aN (c2 + 2) := by rw [aN_of (kC2 hC2)]; decide
  have b3 : (nI 0).toNatClampNeg + (nI 8).toNatClampNeg ≤ aN (c2 + 3) := by rw [aN_of (kC3 hC2)]; decide
  have b4 : (nI 0).toNatClampNeg + (nI 8).toNatClampNeg ≤ aN (c2 + 4) := by rw [aN_of (kC4 hC2)]; decide
  have b5 : (nI 0).toNatClampNeg + (nI 8).toNatClampNeg ≤ aN (c2 + 5) := by rw [aN_of (kC5 hC2)]; decide
  have b6 : (nI 0).toNatClampNeg + (nI 8).toNatClampNeg ≤ aN (c2 + 6) := by rw [aN_of (kC6 hC2)]; decide
  simp (disch := first | assumption | omega | exact isB_0 | exact isB_1 | exact isB_bI _ | decide) only [e_X1_become_0, e_X1_become_1, e_X1_become_2, e_X1_become_5, e_X1_become_8, e_X1_become_9, e_X1_become_10, e_X1_become_13, e_X1_become_16, e_X1_become_17, e_X1_become_20, e_X1_become_21, e_X1_become_22, e_X1_become_25, e_X1_become_26, e_X1_become_27, e_X1_become_30, e_X1_become_31, e_X1_become_34, e_X1_become_35, e_X1_become_36, e_X1_become_39, e_X1_become_40, e_X1_become_42, e_X1_become_45, e_X1_become_46, e_X1_become_49, e_X1_become_50, e_X1_become_51, e_X1_become_54, e_X1_become_55, e_X1_become_57, e_X1_become_60, e_X1_become_61, e_X1_become_64, e_X1_become_65, e_X1_become_66, e_X1_become_69, e_X1_become_70, e_X1_become_72, e_X1_become_75, e_X1_become_76, e_X1_become_79, e_X1_become_80, e_X1_become_81, e_X1_become_84, e_X1_become_85, e_X1_become_87, e_X1_become_90, e_X1_become_91, e_X1_become_94, e_X1_become_95, e_X1_become_96, e_X1_become_99, e_X1_become_100, e_X1_become_102, e_X1_become_105, R.H, R.F, hne, hne0, gI_sI, gI_sA, gI_sL, gA_sI, gA_sA, gA_sL, gL_sI, gL_sA, gL_sL, Nat.add_left_cancel_iff, Nat.reduceEqDiff, true_and, and_true, false_and, and_false, if_true, if_false]
  obtain ⟨r1, r2, r3, r4, r5, r6, r7, r8⟩ := R
  refine K _ ⟨?_, ?_, ?_, ?_, ?_, ?_, ?_, ?_⟩ ?_
  · simp only [gI_sI, gI_sA, gI_sL, gA_sI, gA_sA, gA_sL, gL_sI, gL_sA, gL_sL, Nat.add_left_cancel_iff, Nat.reduceEqDiff, true_and, and_true, false_and, and_false, if_true, if_false]
  · simp only [gI_sI, gI_sA, gI_sL, gA_sI, gA_sA, gA_sL, gL_sI, gL_sA, gL_sL, Nat.add_left_cancel_iff, Nat.reduceEqDiff, true_and, and_true, false_and, and_false, if_true, if_false]
  · intro i hi
    simp only [gI_sI, gI_sA, gI_sL, gA_sI, gA_sA, gA_sL, gL_sI, gL_sA, gL_sL, Nat.add_left_cancel_iff, Nat.reduceEqDiff, true_and, and_true, false_and, and_false, if_true, if_false]
    exact (cp_at (by decide) hi).trans (r3 i hi)
  · intro i hi
    simp only [gI_sI, gI_sA, gI_sL, gA_sI, gA_sA, gA_sL, gL_sI, gL_sA, gL_sL, Nat.add_left_cancel_iff, Nat.reduceEqDiff, true_and, and_true, false_and, and_false, if_true, if_false]
    exact (cp_at (by decide) hi).trans (r4 i hi)
  · intro i hi
    simp only [gI_sI, gI_sA, gI_sL, gA_sI, gA_sA, gA_sL, gL_sI, gL_sA, gL_sL, Nat.add_left_cancel_iff, Nat.reduceEqDiff, true_and, and_true, false_and, and_false, if_true, if_false]
    exact (cp_at (by decide) hi).trans (r5 i hi)
  · intro i hi
    simp only [gI_sI, gI_sA, gI_sL, gA_sI, gA_sA, gA_sL, gL_sI, gL_sA, gL_sL, Nat.add_left_cancel_iff, Nat.reduceEqDiff, true_and, and_true, false_and, and_false, if_true, if_false]
    exact (cp_at (by decide) hi).trans (r6 i hi)
  · intro i hi
    simp only [gI_sI, gI_sA, gI_sL, gA_sI, gA_sA, gA_sL, gL_sI, gL_sA, gL_sL, Nat.add_left_cancel_iff, Nat.reduceEqDiff, true_and, and_true, false_and, and_false, if_true, if_false]
    exact (cp_at (by decide) hi).trans (r7 i hi)
  · intro i hi
    simp only [gI_sI, gI_sA, gI_sL, gA_sI, gA_sA, gA_sL, gL_sI, gL_sA, gL_sL, Nat.add_left_cancel_iff, Nat.reduceEqDiff, true_and, and_true, false_and, and_false, if_true, if_false]
    exact (cp_at (by decide) hi).trans (r8 i hi)
  · exact (((((((Fr.sI xc0).tr (Fr.sI xc0)).tr (Fr.sA (xc1 (by omega)))).tr (Fr.sA (xc1 (by omega)))).tr (Fr.sA (xc1 (by omega)))).tr (Fr.sA (xc1 (by omega)))).tr (Fr.sA (xc1 (by omega)))).tr (Fr.sA (xc1 (by omega)))
end CITY3
/-- a set of places below n, told by bits -/
def setN (p : Nat → Bool) : Nat → Nat
  | 0 => 0
  | n + 1 => if p n = true then setN p n ||| 2 ^ n else setN p n
theorem setN_lt (p : Nat → Bool) : ∀ n, setN p n < 2 ^ n
  | 0 => by show 0 < 1; decide
  | n + 1 => by
    have ih := setN_lt p n
    rw [setN]
    split
    · exact Nat.or_lt_two_pow (Nat.lt_of_lt_of_le ih (Nat.pow_le_pow_right (by decide) (by omega))) (Nat.pow_lt_pow_right (by decide) (by omega))
    · exact Nat.lt_of_lt_of_le ih (Nat.pow_le_pow_right (by decide) (by omega))
theorem or_bit : ∀ s, s < 256 → ∀ f, f < 8 → nI s ||| (nI 1 <<< (nI f &&& 31)) = nI (s ||| 2 ^ f) := by decide +kernel
theorem at_bit : ∀ s, s < 256 → ∀ f, f < 8 → (nI s >>> (nI f &&& 31)) &&& nI 1 = nI (if s.testBit f = true then 1 else 0) := by decide +kernel
theorem setI_N {p : Nat → Bool} : ∀ {n : Nat}, n ≤ 8 → setI (fun i => i) p n = nI (setN p n)
  | 0, _ => rfl
  | n + 1, hn => by
    have ih := setI_N (p := p) (n := n) (by omega)
    have hl := setN_lt p n
    have h8 : 2 ^ n ≤ 256 := Nat.le_trans (Nat.pow_le_pow_right (by decide) (show n ≤ 8 by omega)) (by decide)
    rw [setI, setN, ih]
    split
    · exact or_bit _ (by omega) n (by omega)
    · rfl
theorem setN_all {p : Nat → Bool} : ∀ {n : Nat}, setN p n = 2 ^ n - 1 ↔ ∀ i, i < n → p i = true
  | 0 => ⟨fun _ i hi => absurd hi (Nat.not_lt_zero i), fun _ => rfl⟩
  | n + 1 => by
    have ih := setN_all (p := p) (n := n)
    have hl := setN_lt p n
    have hp : 2 ^ (n + 1) = 2 * 2 ^ n := by rw [Nat.pow_succ]; omega
    have hpos : 0 < 2 ^ n := Nat.two_pow_pos n
    rw [setN]
    by_cases hn : p n = true
    · rw [if_pos hn]
      have hor : setN p n ||| 2 ^ n = setN p n + 2 ^ n := by
        have := Nat.two_pow_add_eq_or_of_lt hl 1
        rw [Nat.mul_one] at this
        rw [Nat.or_comm, ← this]
        omega
      rw [hor]
      constructor
      · intro e i hi
        by_cases hin : i = n
        · rw [hin]; exact hn
        · exact ih.mp (by omega) i (by omega)
      · intro e
        have := ih.mpr (fun i hi => e i (by omega))
        omega
    · rw [if_neg hn]
      constructor
      · intro e
        omega
      · intro e
        exact absurd (e n (by omega)) hn
def popN (x : Nat) : Nat := sumN (fun i => if x.testBit i = true then 1 else 0) 8
section BITC
variable {E : En} {h : Hp} {Q : Option Value → Hp → Prop}
def bc1 (x : Int32) : Int32 := x - ((x.toUInt32 >>> ((nI 1).toUInt32 &&& Int32.toUInt32 31)).toInt32 &&& nI 1431655765)
def bc2 (x : Int32) : Int32 := (x &&& nI 858993459) + ((x.toUInt32 >>> ((nI 2).toUInt32 &&& Int32.toUInt32 31)).toInt32 &&& nI 858993459)
def bc3 (x : Int32) : Int32 := (x + (x.toUInt32 >>> ((nI 4).toUInt32 &&& Int32.toUInt32 31)).toInt32) &&& nI 252645135
def bc4 (x : Int32) : Int32 := x + (x.toUInt32 >>> ((nI 8).toUInt32 &&& Int32.toUInt32 31)).toInt32
def bc5 (x : Int32) : Int32 := (x + (x.toUInt32 >>> ((nI 16).toUInt32 &&& Int32.toUInt32 31)).toInt32) &&& nI 63
theorem bc_ok : ∀ x, x < 256 → bc5 (bc4 (bc3 (bc2 (bc1 (nI x))))) = nI (popN x) := by decide +kernel
theorem s_bc {x : Nat} (hx : x < 256) : Ev E mJ6_bitCount_0f7a4 0 [.int (nI x)] [] h Q = Q (some (.int (nI (popN x)))) h := by
  rw [← bc_ok x hx]
  simp (disch := first | assumption | omega | exact isB_0 | exact isB_1 | exact isB_bI _ | decide) only [e_J6_bitCount_0f7a4_0, e_J6_bitCount_0f7a4_1, e_J6_bitCount_0f7a4_2, e_J6_bitCount_0f7a4_3, e_J6_bitCount_0f7a4_4, e_J6_bitCount_0f7a4_7, e_J6_bitCount_0f7a4_8, e_J6_bitCount_0f7a4_9, e_J6_bitCount_0f7a4_10, e_J6_bitCount_0f7a4_11, e_J6_bitCount_0f7a4_14, e_J6_bitCount_0f7a4_15, e_J6_bitCount_0f7a4_16, e_J6_bitCount_0f7a4_17, e_J6_bitCount_0f7a4_18, e_J6_bitCount_0f7a4_21, e_J6_bitCount_0f7a4_22, e_J6_bitCount_0f7a4_23, e_J6_bitCount_0f7a4_24, e_J6_bitCount_0f7a4_25, e_J6_bitCount_0f7a4_26, e_J6_bitCount_0f7a4_27, e_J6_bitCount_0f7a4_28, e_J6_bitCount_0f7a4_29, e_J6_bitCount_0f7a4_32, e_J6_bitCount_0f7a4_33, e_J6_bitCount_0f7a4_34, e_J6_bitCount_0f7a4_35, e_J6_bitCount_0f7a4_36, e_J6_bitCount_0f7a4_38, e_J6_bitCount_0f7a4_39, e_J6_bitCount_0f7a4_40, e_J6_bitCount_0f7a4_41, e_J6_bitCount_0f7a4_42, e_J6_bitCount_0f7a4_43, e_J6_bitCount_0f7a4_45, e_J6_bitCount_0f7a4_46, e_J6_bitCount_0f7a4_47, e_J6_bitCount_0f7a4_48, e_J6_bitCount_0f7a4_49, e_J6_bitCount_0f7a4_51, e_J6_bitCount_0f7a4_52]
  rfl
end BITC
theorem pop_all : ∀ n, n ≤ 8 → ∀ x, x < 2 ^ n → (popN x = n ↔ x = 2 ^ n - 1) := by decide +kernel
section CITY4
variable {E : En} {h : Hp} {Q : Option Value → Hp → Prop} {c : Nat} {C : Cty}
def atHome (C : Cty) : Prop := ∀ i, i < zF C → zV C i = i
def atHB (C : Cty) : Bool := decide (setN (fun i => decide (zV C i = i)) (zF C) = 2 ^ zF C - 1)
theorem atHB_iff {C : Cty} : atHB C = true ↔ atHome C := by
  unfold atHB atHome
  rw [decide_eq_true_eq, setN_all]
  simp only [decide_eq_true_eq]
theorem c_viewsAreHome (hC : isC c) (R : RC h c C) (W : WC C) : Ev E mX1_viewsAreHome 0 [.ref c] [] h Q = Q (some (.int (bI (atHB C = true)))) h := by
  have h8 := W.f
  have hl := setN_lt (fun i => decide (zV C i = i)) (zF C)
  have h256 : 2 ^ zF C ≤ 256 := Nat.le_trans (Nat.pow_le_pow_right (by decide) h8) (by decide)
  have hp := pop_all (zF C) h8 _ hl
  have hpl : popN (setN (fun i => decide (zV C i = i)) (zF C)) ≤ 8 := by
    have : ∀ x, x < 256 → popN x ≤ 8 := by decide +kernel
    exact this _ (by omega)
  simp (disch := first | assumption | omega | exact isB_0 | exact isB_1 | exact isB_bI _ | decide) only [e_X1_viewsAreHome_0, e_X1_viewsAreHome_1, e_X1_viewsAreHome_4, e_X1_viewsAreHome_7, e_X1_viewsAreHome_8, e_X1_viewsAreHome_11, e_X1_viewsAreHome_14, e_X1_viewsAreHome_15, e_X1_viewsAreHome_18, e_X1_viewsAreHome_19, c_framesAtHome hC R W, setI_N h8, s_bc (show setN (fun i => decide (zV C i = i)) (zF C) < 256 by omega), R.F, toL1, toL0, ite_self, if_true, if_false, ite_true, ite_false, nI_add, pk_mul, z_eq, z_lt, z_le, z_ge, z_gt, nI_eq, nI_leI, nI_ltI, bI_0, bI_1, not_true_eq_false, not_false_eq_true]
  unfold atHB
  by_cases e : setN (fun i => decide (zV C i = i)) (zF C) = 2 ^ zF C - 1
  · rw [if_pos (hp.mpr e), bI_t (by rw [decide_eq_true_eq]; exact e)]
  · rw [if_neg (fun z => e (hp.mp z)), bI_f (by rw [decide_eq_true_eq]; exact e)]
end CITY4
