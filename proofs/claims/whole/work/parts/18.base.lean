/-! numbers -/
theorem toL1 {v : Value} {r : List Value} : (some v).toList ++ r = v :: r := rfl
theorem toL0 {r : List Value} : (none : Option Value).toList ++ r = r := rfl
theorem z_eq {a : Nat} (h : a < 2 ^ 31) : nI a = 0 ↔ a = 0 := nI_eq (b := 0) h (by decide)
theorem z_lt {a : Nat} (h : a < 2 ^ 31) : nI a < 0 ↔ False := ⟨fun z => nI_pos h z, fun z => z.elim⟩
theorem z_le {a : Nat} (h : a < 2 ^ 31) : nI a ≤ 0 ↔ a = 0 := (nI_leI (b := 0) h (by decide)).trans Nat.le_zero
theorem z_ge {a : Nat} (h : a < 2 ^ 31) : 0 ≤ nI a ↔ True := ⟨fun _ => trivial, fun _ => nI_pos' h⟩
theorem z_gt {a : Nat} (h : a < 2 ^ 31) : 0 < nI a ↔ 0 < a := nI_ltI (a := 0) (by decide) h
def bI (p : Prop) [Decidable p] : Int32 := if p then nI 1 else nI 0
theorem bI_0 {p : Prop} [Decidable p] : bI p = 0 ↔ ¬ p := by
  unfold bI
  by_cases hp : p
  · rw [if_pos hp]; exact ⟨fun z => absurd z (by decide), fun z => absurd hp z⟩
  · rw [if_neg hp]; exact ⟨fun _ => hp, fun _ => rfl⟩
theorem bI_1 {p : Prop} [Decidable p] : bI p = nI 1 ↔ p := by
  unfold bI
  by_cases hp : p
  · rw [if_pos hp]; exact ⟨fun _ => hp, fun _ => rfl⟩
  · rw [if_neg hp]; exact ⟨fun z => absurd z (by decide), fun z => absurd z hp⟩
theorem isB_0 : isB (nI 0) := Or.inl rfl
theorem isB_1 : isB (nI 1) := Or.inr rfl
theorem isB_bI (p : Prop) [Decidable p] : isB (bI p) := by
  unfold bI
  by_cases hp : p
  · rw [if_pos hp]; exact isB_1
  · rw [if_neg hp]; exact isB_0
theorem bI_t {p : Prop} [Decidable p] (h : p) : bI p = nI 1 := if_pos h
theorem bI_f {p : Prop} [Decidable p] (h : ¬ p) : bI p = nI 0 := if_neg h
theorem rem24 (a d : Nat) : a - a / d * d = a % d := by
  have := Nat.div_add_mod a d
  rw [Nat.mul_comm] at this
  omega
theorem mul_le24 (a d : Nat) : a / d * d ≤ a := Nat.div_mul_le_self a d
/-! what views are worth -/
def seaL (hr : Nat) : Nat := if 6 ≤ hr % 24 ∧ hr % 24 ≤ 17 then 5 else 0
def strL (hr : Nat) : Nat := if hr % 24 % 2 = 0 then 3 else 0
def wor (k f hr : Nat) : Nat := match k with
  | 1 => 2 + f / 10 + seaL hr
  | 2 => 2 + f / 10 + strL hr
  | 3 => f / 4
  | 4 => (2 + f / 10 + seaL hr) * (if hr % 24 = 12 then 2 else 1)
  | 5 => 2 + f / 10 + strL hr + (if hr / 24 % 28 < 7 then f else 0)
  | _ => 2 + f / 10
def wea (k hr : Nat) : Nat := match k with
  | 2 => 1
  | 5 => if hr / 24 % 28 < 7 then 0 else 1
  | _ => 0
def sol (k f hr : Nat) : Nat := match k with
  | 1 => 5 * f + 50
  | 3 => 2 * (5 * f)
  | 4 => 5 * f + 50
  | 5 => if hr / 24 % 28 < 7 then 5 * f + 100 else 5 * f
  | _ => 5 * f
def fbe (k f hr : Nat) : Nat := if hr % 24 = 0 then f - wea k hr else f
section LEAF
variable {E : En} {h : Hp} {Q : Option Value → Hp → Prop}
theorem s_hod {a : Nat} (ha : a < 1000000) : Ev E mX0_hourOfDay 0 [.int (nI a)] [] h Q = Q (some (.int (nI (a % 24)))) h := by
  have h1 := pk_rem (a := a) (d := 24) (by omega) (by omega) (by omega)
  simp (disch := first | assumption | omega | exact isB_0 | exact isB_1 | exact isB_bI _ | decide) only [e_X0_hourOfDay_0, e_X0_hourOfDay_1, e_X0_hourOfDay_3, e_X0_hourOfDay_4, h1]
theorem s_isSpring {a : Nat} (ha : a < 1000000) : Ev E mX0_isSpring 0 [.int (nI a)] [] h Q = Q (some (.int (bI (a / 24 % 28 < 7)))) h := by
  have h1 := pk_div (a := a) (d := 24) (by omega) (by omega) (by omega)
  have h2 := pk_rem (a := a / 24) (d := 28) (by omega) (by omega) (by omega)
  simp (disch := first | assumption | omega | exact isB_0 | exact isB_1 | exact isB_bI _ | decide) only [e_X0_isSpring_0, e_X0_isSpring_1, e_X0_isSpring_3, e_X0_isSpring_4, e_X0_isSpring_6, e_X0_isSpring_7, e_X0_isSpring_9, e_X0_isSpring_12, e_X0_isSpring_13, e_X0_isSpring_16, e_X0_isSpring_17, h1, h2, toL1, toL0, ite_self, if_true, if_false, ite_true, ite_false, nI_add, pk_mul, z_eq, z_lt, z_le, z_ge, z_gt, nI_eq, nI_leI, nI_ltI, bI_0, bI_1, not_true_eq_false, not_false_eq_true]
  by_cases hs : a / 24 % 28 < 7
  · rw [if_neg (by omega), bI_t hs]
  · rw [if_pos (by omega), bI_f hs]
theorem s_seaLight {a : Nat} (ha : a < 1000000) : Ev E mX2_seaLight 0 [.int (nI a), .null] [] h Q = Q (some (.int (nI (seaL a)))) h := by
  simp (disch := first | assumption | omega | exact isB_0 | exact isB_1 | exact isB_bI _ | decide) only [e_X2_seaLight_0, e_X2_seaLight_1, e_X2_seaLight_4, e_X2_seaLight_5, e_X2_seaLight_6, e_X2_seaLight_8, e_X2_seaLight_11, e_X2_seaLight_12, e_X2_seaLight_14, e_X2_seaLight_17, e_X2_seaLight_18, e_X2_seaLight_21, e_X2_seaLight_22, s_hod ha, toL1, toL0, ite_self, if_true, if_false, ite_true, ite_false, nI_add, pk_mul, z_eq, z_lt, z_le, z_ge, z_gt, nI_eq, nI_leI, nI_ltI, bI_0, bI_1, not_true_eq_false, not_false_eq_true]
  unfold seaL
  by_cases h1 : a % 24 < 6
  · rw [if_pos h1, if_neg (by omega)]
  · rw [if_neg h1]
    by_cases h2 : 17 < a % 24
    · rw [if_pos h2, if_neg (by omega)]
    · rw [if_neg h2, if_pos (by omega)]
theorem s_streetLife {a : Nat} (ha : a < 1000000) : Ev E mX2_streetLife 0 [.int (nI a)] [] h Q = Q (some (.int (nI (strL a)))) h := by
  have h2 := pk_rem (a := a % 24) (d := 2) (by omega) (by omega) (by omega)
  simp (disch := first | assumption | omega | exact isB_0 | exact isB_1 | exact isB_bI _ | decide) only [e_X2_streetLife_0, e_X2_streetLife_1, e_X2_streetLife_4, e_X2_streetLife_5, e_X2_streetLife_6, e_X2_streetLife_9, e_X2_streetLife_10, e_X2_streetLife_13, e_X2_streetLife_14, s_hod ha, h2, toL1, toL0, ite_self, if_true, if_false, ite_true, ite_false, nI_add, pk_mul, z_eq, z_lt, z_le, z_ge, z_gt, nI_eq, nI_leI, nI_ltI, bI_0, bI_1, not_true_eq_false, not_false_eq_true]
  unfold strL
  by_cases h1 : a % 24 % 2 = 0
  · rw [if_pos h1, if_pos h1]
  · rw [if_neg h1, if_neg h1]
theorem k6 {k : Nat} (hk : k < 6) : k = 0 ∨ k = 1 ∨ k = 2 ∨ k = 3 ∨ k = 4 ∨ k = 5 := by omega
theorem sl_le (a : Nat) : seaL a ≤ 5 := by unfold seaL; split <;> omega
theorem st_le (a : Nat) : strL a ≤ 3 := by unfold strL; split <;> omega
theorem wor_le {k f hr : Nat} (hf : f ≤ 99) : wor k f hr ≤ 120 := by
  have h1 := sl_le hr
  have h2 := st_le hr
  unfold wor
  split <;> first | omega | (split <;> omega)
theorem s_worth {k f a : Nat} (hk : k < 6) (hf : f ≤ 99) (ha : a < 1000000) : Ev E mX2_worth 0 [.int (nI k), .int (nI f), .int (nI a), .null] [] h Q = Q (some (.int (nI (wor k f a)))) h := by
  have h1 := pk_div (a := f) (d := 10) (by omega) (by omega) (by omega)
  have h2 := pk_div (a := f) (d := 4) (by omega) (by omega) (by omega)
  rcases k6 hk with rfl | rfl | rfl | rfl | rfl | rfl
  · simp (disch := first | assumption | omega | exact isB_0 | exact isB_1 | exact isB_bI _ | decide) only [e_X2_worth_0, e_X2_worth_1, e_X2_worth_2, e_X2_worth_4, e_X2_worth_5, e_X2_worth_6, e_X2_worth_7, e_X2_worth_8_c0, e_X2_worth_8_c1, e_X2_worth_8_c2, e_X2_worth_8_c3, e_X2_worth_8_c4, e_X2_worth_8_c5, e_X2_worth_8_n, e_X2_worth_8_g, e_X2_worth_44, e_X2_worth_45, e_X2_worth_46, e_X2_worth_49, e_X2_worth_50, e_X2_worth_51, e_X2_worth_52, e_X2_worth_53, e_X2_worth_56, e_X2_worth_57, e_X2_worth_58, e_X2_worth_59, e_X2_worth_60, e_X2_worth_61, e_X2_worth_62, e_X2_worth_63, e_X2_worth_64, e_X2_worth_67, e_X2_worth_68, e_X2_worth_69, e_X2_worth_72, e_X2_worth_74, e_X2_worth_77, e_X2_worth_78, e_X2_worth_81, e_X2_worth_82, e_X2_worth_83, e_X2_worth_84, e_X2_worth_85, e_X2_worth_86, e_X2_worth_89, e_X2_worth_90, e_X2_worth_91, e_X2_worth_94, e_X2_worth_97, e_X2_worth_98, e_X2_worth_101, e_X2_worth_102, e_X2_worth_103, e_X2_worth_104, e_X2_worth_105, h1, h2, toL1, toL0, ite_self, if_true, if_false, ite_true, ite_false, nI_add, pk_mul, z_eq, z_lt, z_le, z_ge, z_gt, nI_eq, nI_leI, nI_ltI, bI_0, bI_1, not_true_eq_false, not_false_eq_true]; rfl
  · simp (disch := first | assumption | omega | exact isB_0 | exact isB_1 | exact isB_bI _ | decide) only [e_X2_worth_0, e_X2_worth_1, e_X2_worth_2, e_X2_worth_4, e_X2_worth_5, e_X2_worth_6, e_X2_worth_7, e_X2_worth_8_c0, e_X2_worth_8_c1, e_X2_worth_8_c2, e_X2_worth_8_c3, e_X2_worth_8_c4, e_X2_worth_8_c5, e_X2_worth_8_n, e_X2_worth_8_g, e_X2_worth_44, e_X2_worth_45, e_X2_worth_46, e_X2_worth_49, e_X2_worth_50, e_X2_worth_51, e_X2_worth_52, e_X2_worth_53, e_X2_worth_56, e_X2_worth_57, e_X2_worth_58, e_X2_worth_59, e_X2_worth_60, e_X2_worth_61, e_X2_worth_62, e_X2_worth_63, e_X2_worth_64, e_X2_worth_67, e_X2_worth_68, e_X2_worth_69, e_X2_worth_72, e_X2_worth_74, e_X2_worth_77, e_X2_worth_78, e_X2_worth_81, e_X2_worth_82, e_X2_worth_83, e_X2_worth_84, e_X2_worth_85, e_X2_worth_86, e_X2_worth_89, e_X2_worth_90, e_X2_worth_91, e_X2_worth_94, e_X2_worth_97, e_X2_worth_98, e_X2_worth_101, e_X2_worth_102, e_X2_worth_103, e_X2_worth_104, e_X2_worth_105, h1, h2, s_seaLight ha, toL1, toL0, ite_self, if_true, if_false, ite_true, ite_false, nI_add, pk_mul, z_eq, z_lt, z_le, z_ge, z_gt, nI_eq, nI_leI, nI_ltI, bI_0, bI_1, not_true_eq_false, not_false_eq_true]; rfl
  · simp (disch := first | assumption | omega | exact isB_0 | exact isB_1 | exact isB_bI _ | decide) only [e_X2_worth_0, e_X2_worth_1, e_X2_worth_2, e_X2_worth_4, e_X2_worth_5, e_X2_worth_6, e_X2_worth_7, e_X2_worth_8_c0, e_X2_worth_8_c1, e_X2_worth_8_c2, e_X2_worth_8_c3, e_X2_worth_8_c4, e_X2_worth_8_c5, e_X2_worth_8_n, e_X2_worth_8_g, e_X2_worth_44, e_X2_worth_45, e_X2_worth_46, e_X2_worth_49, e_X2_worth_50, e_X2_worth_51, e_X2_worth_52, e_X2_worth_53, e_X2_worth_56, e_X2_worth_57, e_X2_worth_58, e_X2_worth_59, e_X2_worth_60, e_X2_worth_61, e_X2_worth_62, e_X2_worth_63, e_X2_worth_64, e_X2_worth_67, e_X2_worth_68, e_X2_worth_69, e_X2_worth_72, e_X2_worth_74, e_X2_worth_77, e_X2_worth_78, e_X2_worth_81, e_X2_worth_82, e_X2_worth_83, e_X2_worth_84, e_X2_worth_85, e_X2_worth_86, e_X2_worth_89, e_X2_worth_90, e_X2_worth_91, e_X2_worth_94, e_X2_worth_97, e_X2_worth_98, e_X2_worth_101, e_X2_worth_102, e_X2_worth_103, e_X2_worth_104, e_X2_worth_105, h1, h2, s_streetLife ha, toL1, toL0, ite_self, if_true, if_false, ite_true, ite_false, nI_add, pk_mul, z_eq, z_lt, z_le, z_ge, z_gt, nI_eq, nI_leI, nI_ltI, bI_0, bI_1, not_true_eq_false, not_false_eq_true]; rfl
  · simp (disch := first | assumption | omega | exact isB_0 | exact isB_1 | exact isB_bI _ | decide) only [e_X2_worth_0, e_X2_worth_1, e_X2_worth_2, e_X2_worth_4, e_X2_worth_5, e_X2_worth_6, e_X2_worth_7, e_X2_worth_8_c0, e_X2_worth_8_c1, e_X2_worth_8_c2, e_X2_worth_8_c3, e_X2_worth_8_c4, e_X2_worth_8_c5, e_X2_worth_8_n, e_X2_worth_8_g, e_X2_worth_44, e_X2_worth_45, e_X2_worth_46, e_X2_worth_49, e_X2_worth_50, e_X2_worth_51, e_X2_worth_52, e_X2_worth_53, e_X2_worth_56, e_X2_worth_57, e_X2_worth_58, e_X2_worth_59, e_X2_worth_60, e_X2_worth_61, e_X2_worth_62, e_X2_worth_63, e_X2_worth_64, e_X2_worth_67, e_X2_worth_68, e_X2_worth_69, e_X2_worth_72, e_X2_worth_74, e_X2_worth_77, e_X2_worth_78, e_X2_worth_81, e_X2_worth_82, e_X2_worth_83, e_X2_worth_84, e_X2_worth_85, e_X2_worth_86, e_X2_worth_89, e_X2_worth_90, e_X2_worth_91, e_X2_worth_94, e_X2_worth_97, e_X2_worth_98, e_X2_worth_101, e_X2_worth_102, e_X2_worth_103, e_X2_worth_104, e_X2_worth_105, h1, h2, toL1, toL0, ite_self, if_true, if_false, ite_true, ite_false, nI_add, pk_mul, z_eq, z_lt, z_le, z_ge, z_gt, nI_eq, nI_leI, nI_ltI, bI_0, bI_1, not_true_eq_false, not_false_eq_true]; rfl
  · simp (disch := first | assumption | omega | exact isB_0 | exact isB_1 | exact isB_bI _ | decide) only [e_X2_worth_0, e_X2_worth_1, e_X2_worth_2, e_X2_worth_4, e_X2_worth_5, e_X2_worth_6, e_X2_worth_7, e_X2_worth_8_c0, e_X2_worth_8_c1, e_X2_worth_8_c2, e_X2_worth_8_c3, e_X2_worth_8_c4, e_X2_worth_8_c5, e_X2_worth_8_n, e_X2_worth_8_g, e_X2_worth_44, e_X2_worth_45, e_X2_worth_46, e_X2_worth_49, e_X2_worth_50, e_X2_worth_51, e_X2_worth_52, e_X2_worth_53, e_X2_worth_56, e_X2_worth_57, e_X2_worth_58, e_X2_worth_59, e_X2_worth_60, e_X2_worth_61, e_X2_worth_62, e_X2_worth_63, e_X2_worth_64, e_X2_worth_67, e_X2_worth_68, e_X2_worth_69, e_X2_worth_72, e_X2_worth_74, e_X2_worth_77, e_X2_worth_78, e_X2_worth_81, e_X2_worth_82, e_X2_worth_83, e_X2_worth_84, e_X2_worth_85, e_X2_worth_86, e_X2_worth_89, e_X2_worth_90, e_X2_worth_91, e_X2_worth_94, e_X2_worth_97, e_X2_worth_98, e_X2_worth_101, e_X2_worth_102, e_X2_worth_103, e_X2_worth_104, e_X2_worth_105, h1, h2, s_seaLight ha, s_hod ha, toL1, toL0, ite_self, if_true, if_false, ite_true, ite_false, nI_add, pk_mul, z_eq, z_lt, z_le, z_ge, z_gt, nI_eq, nI_leI, nI_ltI, bI_0, bI_1, not_true_eq_false, not_false_eq_true]
    unfold wor
    by_cases h3 : a % 24 = 12
    · rw [if_pos h3]; simp only [h3, if_true]
    · rw [if_neg h3]; simp only [h3, if_false]
  · simp (disch := first | assumption | omega | exact isB_0 | exact isB_1 | exact isB_bI _ | decide) only [e_X2_worth_0, e_X2_worth_1, e_X2_worth_2, e_X2_worth_4, e_X2_worth_5, e_X2_worth_6, e_X2_worth_7, e_X2_worth_8_c0, e_X2_worth_8_c1, e_X2_worth_8_c2, e_X2_worth_8_c3, e_X2_worth_8_c4, e_X2_worth_8_c5, e_X2_worth_8_n, e_X2_worth_8_g, e_X2_worth_44, e_X2_worth_45, e_X2_worth_46, e_X2_worth_49, e_X2_worth_50, e_X2_worth_51, e_X2_worth_52, e_X2_worth_53, e_X2_worth_56, e_X2_worth_57, e_X2_worth_58, e_X2_worth_59, e_X2_worth_60, e_X2_worth_61, e_X2_worth_62, e_X2_worth_63, e_X2_worth_64, e_X2_worth_67, e_X2_worth_68, e_X2_worth_69, e_X2_worth_72, e_X2_worth_74, e_X2_worth_77, e_X2_worth_78, e_X2_worth_81, e_X2_worth_82, e_X2_worth_83, e_X2_worth_84, e_X2_worth_85, e_X2_worth_86, e_X2_worth_89, e_X2_worth_90, e_X2_worth_91, e_X2_worth_94, e_X2_worth_97, e_X2_worth_98, e_X2_worth_101, e_X2_worth_102, e_X2_worth_103, e_X2_worth_104, e_X2_worth_105, h1, h2, s_streetLife ha, s_isSpring ha, toL1, toL0, ite_self, if_true, if_false, ite_true, ite_false, nI_add, pk_mul, z_eq, z_lt, z_le, z_ge, z_gt, nI_eq, nI_leI, nI_ltI, bI_0, bI_1, not_true_eq_false, not_false_eq_true]
    unfold wor
    by_cases h3 : a / 24 % 28 < 7
    · rw [if_neg (by simp [h3])]; simp only [h3, if_true]
    · rw [if_pos h3]; simp only [h3, if_false]
theorem s_wears {k a : Nat} (hk : k < 6) (ha : a < 1000000) : Ev E mX2_wears 0 [.int (nI k), .int (nI a)] [] h Q = Q (some (.int (nI (wea k a)))) h := by
  rcases k6 hk with rfl | rfl | rfl | rfl | rfl | rfl <;> simp (disch := first | assumption | omega | exact isB_0 | exact isB_1 | exact isB_bI _ | decide) only [e_X2_wears_0, e_X2_wears_1_c0, e_X2_wears_1_c1, e_X2_wears_1_c2, e_X2_wears_1_c3, e_X2_wears_1_c4, e_X2_wears_1_c5, e_X2_wears_28, e_X2_wears_29, e_X2_wears_30, e_X2_wears_31, e_X2_wears_34, e_X2_wears_37, e_X2_wears_38, e_X2_wears_41, e_X2_wears_42, e_X2_wears_43, e_X2_wears_44, s_isSpring ha, toL1, toL0, ite_self, if_true, if_false, ite_true, ite_false, nI_add, pk_mul, z_eq, z_lt, z_le, z_ge, z_gt, nI_eq, nI_leI, nI_ltI, bI_0, bI_1, not_true_eq_false, not_false_eq_true]
  all_goals first | rfl | skip
  unfold wea
  by_cases h3 : a / 24 % 28 < 7
  · rw [if_neg (by simp [h3])]; simp only [h3, if_true]
  · rw [if_pos h3]; simp only [h3, if_false]
theorem s_sold {k f a : Nat} (hk : k < 6) (hf : f ≤ 99) (ha : a < 1000000) : Ev E mX2_soldFor 0 [.int (nI k), .int (nI f), .int (nI a), .null] [] h Q = Q (some (.int (nI (sol k f a)))) h := by
  rcases k6 hk with rfl | rfl | rfl | rfl | rfl | rfl <;> simp (disch := first | assumption | omega | exact isB_0 | exact isB_1 | exact isB_bI _ | decide) only [e_X2_soldFor_0, e_X2_soldFor_1, e_X2_soldFor_2, e_X2_soldFor_3, e_X2_soldFor_4, e_X2_soldFor_5_c0, e_X2_soldFor_5_c1, e_X2_soldFor_5_c2, e_X2_soldFor_5_c3, e_X2_soldFor_5_c4, e_X2_soldFor_5_c5, e_X2_soldFor_5_n, e_X2_soldFor_5_g, e_X2_soldFor_40, e_X2_soldFor_41, e_X2_soldFor_43, e_X2_soldFor_44, e_X2_soldFor_45, e_X2_soldFor_46, e_X2_soldFor_47, e_X2_soldFor_48, e_X2_soldFor_49, e_X2_soldFor_50, e_X2_soldFor_53, e_X2_soldFor_56, e_X2_soldFor_57, e_X2_soldFor_59, e_X2_soldFor_60, e_X2_soldFor_63, e_X2_soldFor_64, e_X2_soldFor_65, e_X2_soldFor_66, s_isSpring ha, toL1, toL0, ite_self, if_true, if_false, ite_true, ite_false, nI_add, pk_mul, z_eq, z_lt, z_le, z_ge, z_gt, nI_eq, nI_leI, nI_ltI, bI_0, bI_1, not_true_eq_false, not_false_eq_true]
  all_goals first | rfl | skip
  unfold sol
  by_cases h3 : a / 24 % 28 < 7
  · rw [if_neg (by simp [h3])]; simp only [h3, if_true]
  · rw [if_pos h3]; simp only [h3, if_false]
theorem wea_le (k a : Nat) : wea k a ≤ 1 := by
  unfold wea
  split
  · omega
  · split <;> omega
  · omega
theorem s_fbe {k f a : Nat} (hk : k < 6) (hf : f ≤ 99) (ha : a < 1000000) : Ev E mX2_fineBehind 0 [.int (nI k), .int (nI f), .int (nI a)] [] h Q = Q (some (.int (nI (fbe k f a)))) h := by
  simp (disch := first | assumption | omega | exact isB_0 | exact isB_1 | exact isB_bI _ | decide) only [e_X2_fineBehind_0, e_X2_fineBehind_1, e_X2_fineBehind_4, e_X2_fineBehind_7, e_X2_fineBehind_8, e_X2_fineBehind_9, e_X2_fineBehind_10, e_X2_fineBehind_11, e_X2_fineBehind_12, e_X2_fineBehind_13, e_X2_fineBehind_16, e_X2_fineBehind_17, e_X2_fineBehind_20, s_hod ha, s_wears hk ha, toL1, toL0, ite_self, if_true, if_false, ite_true, ite_false, nI_add, pk_mul, z_eq, z_lt, z_le, z_ge, z_gt, nI_eq, nI_leI, nI_ltI, bI_0, bI_1, not_true_eq_false, not_false_eq_true]
  unfold fbe
  have hw := wea_le k a
  by_cases h1 : a % 24 = 0
  · rw [if_pos h1, if_pos h1]
    by_cases h2 : wea k a ≤ f
    · rw [pk_sub h2]
      by_cases h3 : 0 < f - wea k a
      · rw [if_pos (nI_lt h3 (by omega))]
      · rw [if_neg (by rw [show nI 0 = nI 0 from rfl]; exact nI_nlt (by omega) (by omega)), show f - wea k a = 0 by omega]
    · have e1 : f = 0 := by omega
      have e2 : wea k a = 1 := by omega
      rw [e1, e2]
      rfl
  · rw [if_neg h1, if_neg h1]
theorem s_isWithin {v lo hi : Int32} : Ev E mX5_isWithin 0 [.int v, .int lo, .int hi] [] h Q = Q (some (.int (bI (lo ≤ v ∧ v ≤ hi)))) h := by
  simp (disch := first | assumption | omega | exact isB_0 | exact isB_1 | exact isB_bI _ | decide) only [e_X5_isWithin_0, e_X5_isWithin_1, e_X5_isWithin_2, e_X5_isWithin_5, e_X5_isWithin_6, e_X5_isWithin_7, e_X5_isWithin_10, e_X5_isWithin_11, e_X5_isWithin_14, e_X5_isWithin_15, toL1, toL0, ite_self, if_true, if_false, ite_true, ite_false, nI_add, pk_mul, z_eq, z_lt, z_le, z_ge, z_gt, nI_eq, nI_leI, nI_ltI, bI_0, bI_1, not_true_eq_false, not_false_eq_true]
  by_cases h1 : v < lo
  · rw [if_pos h1, bI_f (fun z => Int32.not_le.mpr h1 z.1)]
  · rw [if_neg h1]
    by_cases h2 : hi < v
    · rw [if_pos h2, bI_f (fun z => Int32.not_le.mpr h2 z.2)]
    · rw [if_neg h2, bI_t ⟨Int32.not_lt.mp h1, Int32.not_lt.mp h2⟩]
theorem s_isOwner {v : Int32} : Ev E mX5_isOwner 0 [.int v] [] h Q = Q (some (.int (bI (nI 0 ≤ v ∧ v ≤ nI 3)))) h := by
  simp (disch := first | assumption | omega | exact isB_0 | exact isB_1 | exact isB_bI _ | decide) only [e_X5_isOwner_0, e_X5_isOwner_1, e_X5_isOwner_2, e_X5_isOwner_3, e_X5_isOwner_6, s_isWithin, toL1, toL0, ite_self, if_true, if_false, ite_true, ite_false, nI_add, pk_mul, z_eq, z_lt, z_le, z_ge, z_gt, nI_eq, nI_leI, nI_ltI, bI_0, bI_1, not_true_eq_false, not_false_eq_true]
theorem s_isSheet {v : Int32} : Ev E mX5_isSheet 0 [.int v] [] h Q = Q (some (.int (bI (nI 0 ≤ v ∧ v ≤ nI 3)))) h := by
  simp (disch := first | assumption | omega | exact isB_0 | exact isB_1 | exact isB_bI _ | decide) only [e_X5_isSheet_0, e_X5_isSheet_1, e_X5_isSheet_2, e_X5_isSheet_3, e_X5_isSheet_6, s_isWithin, toL1, toL0, ite_self, if_true, if_false, ite_true, ite_false, nI_add, pk_mul, z_eq, z_lt, z_le, z_ge, z_gt, nI_eq, nI_leI, nI_ltI, bI_0, bI_1, not_true_eq_false, not_false_eq_true]
theorem s_isKind {v : Int32} : Ev E mX2_isKind 0 [.int v] [] h Q = Q (some (.int (bI (nI 0 ≤ v ∧ v ≤ nI 5)))) h := by
  simp (disch := first | assumption | omega | exact isB_0 | exact isB_1 | exact isB_bI _ | decide) only [e_X2_isKind_0, e_X2_isKind_1, e_X2_isKind_4, e_X2_isKind_5, e_X2_isKind_7, e_X2_isKind_10, e_X2_isKind_11, e_X2_isKind_14, e_X2_isKind_15, toL1, toL0, ite_self, if_true, if_false, ite_true, ite_false, nI_add, pk_mul, z_eq, z_lt, z_le, z_ge, z_gt, nI_eq, nI_leI, nI_ltI, bI_0, bI_1, not_true_eq_false, not_false_eq_true]
  have e6 : ∀ v : Int32, nI 6 ≤ v ↔ ¬ v ≤ nI 5 := by
    intro v
    rw [Int32.not_le, Int32.le_iff_toInt_le, Int32.lt_iff_toInt_lt]
    have h5 : (nI 5).toInt = 5 := by decide
    have h6 : (nI 6).toInt = 6 := by decide
    omega
  by_cases h1 : v < 0
  · rw [if_pos h1, bI_f (fun z => Int32.not_le.mpr h1 z.1)]
  · rw [if_neg h1]
    by_cases h2 : nI 6 ≤ v
    · rw [if_pos h2, bI_f (fun z => (e6 v).mp h2 z.2)]
    · rw [if_neg h2, bI_t ⟨Int32.not_lt.mp h1, Classical.byContradiction (fun z => h2 ((e6 v).mpr z))⟩]
/-- a number that is let in -/
theorem vI_of {v : Int32} {lo hi : Nat} (hh : hi < 2 ^ 31) (hv : nI lo ≤ v ∧ v ≤ nI hi) (hl : lo ≤ hi) : ∃ j, lo ≤ j ∧ j ≤ hi ∧ v = nI j := by
  have h1 := Int32.le_iff_toInt_le.mp hv.1
  have h2 := Int32.le_iff_toInt_le.mp hv.2
  rw [nI_toInt (by omega)] at h1
  rw [nI_toInt hh] at h2
  refine ⟨v.toInt.toNat, by omega, by omega, ?_⟩
  apply Int32.toInt_inj.mp
  rw [nI_toInt (by omega)]
  omega
theorem vI_to {j lo hi : Nat} (hh : hi < 2 ^ 31) (h1 : lo ≤ j) (h2 : j ≤ hi) : nI lo ≤ nI j ∧ nI j ≤ nI hi := ⟨nI_le h1 (by omega), nI_le h2 hh⟩
end LEAF
section LEAFM
variable {E : En} {h : Hp} {Q : Option Value → Hp → Prop}
theorem cmp_lt {x y : Int64} : lg_cmp x y < 0 ↔ x < y := by
  unfold lg_cmp
  by_cases h1 : y < x
  · rw [if_pos h1]
    exact ⟨fun z => absurd z (by decide), fun z => absurd z (Int64.not_lt.mpr (Int64.le_of_lt h1))⟩
  · rw [if_neg h1]
    by_cases h2 : x = y
    · rw [if_pos h2]
      exact ⟨fun z => absurd z (by decide), fun z => absurd z (by rw [h2]; exact Int64.lt_irrefl)⟩
    · rw [if_neg h2]
      refine ⟨fun _ => ?_, fun _ => by decide⟩
      have e1 := Int64.not_lt.mp h1
      have e2 := Int64.le_iff_toInt_le.mp e1
      have e3 : ¬ x.toInt = y.toInt := fun z => h2 (Int64.toInt_inj.mp z)
      exact Int64.lt_iff_toInt_lt.mpr (by omega)
theorem cmp_gt {x y : Int64} : 0 < lg_cmp x y ↔ y < x := by
  unfold lg_cmp
  by_cases h1 : y < x
  · rw [if_pos h1]; exact ⟨fun _ => h1, fun _ => by decide⟩
  · rw [if_neg h1]
    by_cases h2 : x = y
    · rw [if_pos h2]; exact ⟨fun z => absurd z (by decide), fun z => absurd z h1⟩
    · rw [if_neg h2]; exact ⟨fun z => absurd z (by decide), fun z => absurd z h1⟩
theorem cmp_eq {x y : Int64} : lg_cmp x y = 0 ↔ x = y := by
  unfold lg_cmp
  by_cases h1 : y < x
  · rw [if_pos h1]; exact ⟨fun z => absurd z (by decide), fun z => absurd h1 (by rw [z]; exact Int64.lt_irrefl)⟩
  · rw [if_neg h1]
    by_cases h2 : x = y
    · rw [if_pos h2]; exact ⟨fun _ => h2, fun _ => rfl⟩
    · rw [if_neg h2]; exact ⟨fun z => absurd z (by decide), fun z => absurd z h2⟩
theorem wide_le (a b : Int32) : a.toInt64 ≤ b.toInt64 ↔ a ≤ b := by
  rw [Int64.le_iff_toInt_le, Int32.le_iff_toInt_le, Int32.toInt_toInt64, Int32.toInt_toInt64]
theorem m_inL {v : Int64} {lo hi : Int32} : Ev E mX6_in 0 [.long v, .null, .int lo, .int hi] [] h Q = Q (some (.int (bI (lo.toInt64 ≤ v ∧ v ≤ hi.toInt64)))) h := by
  simp (disch := first | assumption | omega | exact isB_0 | exact isB_1 | exact isB_bI _ | decide) only [e_X6_in_0, e_X6_in_1, e_X6_in_2, e_X6_in_3, e_X6_in_4, e_X6_in_7, e_X6_in_8, e_X6_in_9, e_X6_in_10, e_X6_in_11, e_X6_in_14, e_X6_in_15, e_X6_in_18, e_X6_in_19, cmp_lt, cmp_gt, toL1, toL0, ite_self, if_true, if_false, ite_true, ite_false, nI_add, pk_mul, z_eq, z_lt, z_le, z_ge, z_gt, nI_eq, nI_leI, nI_ltI, bI_0, bI_1, not_true_eq_false, not_false_eq_true]
  by_cases h1 : v < lo.toInt64
  · rw [if_pos h1, bI_f (fun z => Int64.not_le.mpr h1 z.1)]
  · rw [if_neg h1]
    by_cases h2 : hi.toInt64 < v
    · rw [if_pos h2, bI_f (fun z => Int64.not_le.mpr h2 z.2)]
    · rw [if_neg h2, bI_t ⟨Int64.not_lt.mp h1, Int64.not_lt.mp h2⟩]
theorem bI_iff {p q : Prop} [Decidable p] [Decidable q] (e : p ↔ q) : bI p = bI q := by
  by_cases hp : p
  · rw [bI_t hp, bI_t (e.mp hp)]
  · rw [bI_f hp, bI_f (fun z => hp (e.mpr z))]
theorem m_in {v lo hi : Int32} : Ev E mX6_in 0 [.long v.toInt64, .null, .int lo, .int hi] [] h Q = Q (some (.int (bI (lo ≤ v ∧ v ≤ hi)))) h := by
  rw [m_inL, bI_iff (and_congr (wide_le _ _) (wide_le _ _))]
theorem m_held {v lo hi : Nat} (hl : lo ≤ hi) (hv : v < 2 ^ 31) (hh : hi < 2 ^ 31) : Ev E mX6_held 0 [.int (nI v), .int (nI lo), .int (nI hi)] [] h Q = Q (some (.int (nI (if v < lo then lo else if hi < v then hi else v)))) h := by
  simp (disch := first | assumption | omega | exact isB_0 | exact isB_1 | exact isB_bI _ | decide) only [e_X6_held_0, e_X6_held_1, e_X6_held_2, e_X6_held_5, e_X6_held_6, e_X6_held_9, e_X6_held_10, e_X6_held_11, e_X6_held_14, e_X6_held_15, e_X6_held_18, e_X6_held_19, toL1, toL0, ite_self, if_true, if_false, ite_true, ite_false, nI_add, pk_mul, z_eq, z_lt, z_le, z_ge, z_gt, nI_eq, nI_leI, nI_ltI, bI_0, bI_1, not_true_eq_false, not_false_eq_true]
  by_cases h1 : v < lo
  · rw [if_neg (by omega), if_pos h1]
  · rw [if_pos (by omega), if_neg h1]
    by_cases h2 : hi < v
    · rw [if_neg (by omega), if_pos h2]
    · rw [if_pos (by omega), if_neg h2]
theorem m_isOwner {v : Int32} : Ev E mX6_isOwner 0 [.int v] [] h Q = Q (some (.int (bI (nI 0 ≤ v ∧ v ≤ nI 3)))) h := by
  simp (disch := first | assumption | omega | exact isB_0 | exact isB_1 | exact isB_bI _ | decide) only [e_X6_isOwner_0, e_X6_isOwner_1, e_X6_isOwner_2, e_X6_isOwner_3, e_X6_isOwner_4, e_X6_isOwner_7, m_in, toL1, toL0, ite_self, if_true, if_false, ite_true, ite_false, nI_add, pk_mul, z_eq, z_lt, z_le, z_ge, z_gt, nI_eq, nI_leI, nI_ltI, bI_0, bI_1, not_true_eq_false, not_false_eq_true]
theorem m_isSheet {v : Int32} : Ev E mX6_isSheet 0 [.int v] [] h Q = Q (some (.int (bI (nI 0 ≤ v ∧ v ≤ nI 3)))) h := by
  simp (disch := first | assumption | omega | exact isB_0 | exact isB_1 | exact isB_bI _ | decide) only [e_X6_isSheet_0, e_X6_isSheet_1, e_X6_isSheet_2, e_X6_isSheet_3, e_X6_isSheet_4, e_X6_isSheet_7, m_in, toL1, toL0, ite_self, if_true, if_false, ite_true, ite_false, nI_add, pk_mul, z_eq, z_lt, z_le, z_ge, z_gt, nI_eq, nI_leI, nI_ltI, bI_0, bI_1, not_true_eq_false, not_false_eq_true]
end LEAFM
