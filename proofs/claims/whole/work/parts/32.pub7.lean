/-! public methods, both sides: told, then, rich, back -/
theorem i0_add (x : Int32) : nI 0 + x = x := Int32.zero_add x
theorem i_add0 (x : Int32) : x + nI 0 = x := Int32.add_zero x
def oneT (t : Nat → Int32) (w : Nat) : Nat → Int32
  | 0 => nI 0
  | n + 1 => oneT t w n + (if w = n then t n else nI 0)
theorem oneT_lo {t : Nat → Int32} {w : Nat} : ∀ n, n ≤ w → oneT t w n = nI 0
  | 0, _ => rfl
  | n + 1, hn => by
    rw [oneT, if_neg (by omega), oneT_lo n (by omega), i0_add]
theorem oneT_hi {t : Nat → Int32} {w : Nat} : ∀ n, w < n → oneT t w n = t w
  | 0, hn => by omega
  | n + 1, hn => by
    rw [oneT]
    by_cases hw : w = n
    · rw [if_pos hw, oneT_lo n (by omega), i0_add, hw]
    · rw [if_neg hw, oneT_hi n (by omega), i_add0]
section PUB7
variable {E : En} {h : Hp} {Q : Option Value → Hp → Prop} {S : Sy} {C : Cty}
theorem v_suL {t : Nat → Int32} (r : ∀ j, j < 7 → gA h 33 j = t j) (w : Int32) : ∀ (d k : Nat), k + d = 7 → Ev E mX5_status 32 [.ref 0, .int w, .int (sumT t k), .int (nI k)] [] h Q = Q (some (.int (sumT t 7))) h := by
  intro d
  induction d with
  | zero =>
    intro k e
    rw [e_X5_status_32]
    simp (disch := first | assumption | omega | exact isB_0 | exact isB_1 | exact isB_bI _ | decide) only [e_X5_status_0, e_X5_status_1, e_X5_status_4, e_X5_status_5, e_X5_status_7, e_X5_status_10, e_X5_status_11, e_X5_status_14, e_X5_status_15, e_X5_status_16, e_X5_status_17, e_X5_status_18, e_X5_status_19, e_X5_status_22, e_X5_status_23, e_X5_status_24, e_X5_status_27, e_X5_status_28, e_X5_status_29, e_X5_status_30, e_X5_status_31, e_X5_status_33, e_X5_status_35, e_X5_status_38, e_X5_status_39, e_X5_status_40, e_X5_status_43, e_X5_status_44, e_X5_status_45, e_X5_status_46, e_X5_status_47, e_X5_status_50, e_X5_status_53, e_X5_status_54, toL1, toL0, ite_self, if_true, if_false, ite_true, ite_false, nI_add, pk_mul, z_eq, z_lt, z_le, z_ge, z_gt, nI_eq, nI_leI, nI_ltI, bI_0, bI_1, not_true_eq_false, not_false_eq_true]
    rw [if_pos (by omega), show k = 7 by omega]
  | succ d ih =>
    intro k e
    have ih2 := ih (k + 1) (by omega)
    rw [sumT] at ih2
    rw [e_X5_status_32]
    simp (disch := first | assumption | omega | exact isB_0 | exact isB_1 | exact isB_bI _ | decide) only [e_X5_status_0, e_X5_status_1, e_X5_status_4, e_X5_status_5, e_X5_status_7, e_X5_status_10, e_X5_status_11, e_X5_status_14, e_X5_status_15, e_X5_status_16, e_X5_status_17, e_X5_status_18, e_X5_status_19, e_X5_status_22, e_X5_status_23, e_X5_status_24, e_X5_status_27, e_X5_status_28, e_X5_status_29, e_X5_status_30, e_X5_status_31, e_X5_status_33, e_X5_status_35, e_X5_status_38, e_X5_status_39, e_X5_status_40, e_X5_status_43, e_X5_status_44, e_X5_status_45, e_X5_status_46, e_X5_status_47, e_X5_status_50, e_X5_status_53, e_X5_status_54, r k (by omega), toL1, toL0, ite_self, if_true, if_false, ite_true, ite_false, nI_add, pk_mul, z_eq, z_lt, z_le, z_ge, z_gt, nI_eq, nI_leI, nI_ltI, bI_0, bI_1, not_true_eq_false, not_false_eq_true]
    rw [if_neg (by omega)]
    exact ih2
theorem v_status (R : RV h S) {w : Int32} (K : Vo h Q (f_status w S)) : Ev E mX5_status 0 [.ref 0, .int w, .null, .null] [] h Q := by
  have hC := isC_1
  have r := R.2.2.2.1
  unfold f_status at K
  by_cases h1 : w = -1
  · rw [if_pos h1] at K
    subst h1
    have z1 : ((-1 : Int32) < 0) = True := eq_true (by decide)
    simp (disch := first | assumption | omega | exact isB_0 | exact isB_1 | exact isB_bI _ | decide) only [e_X5_status_0, e_X5_status_1, e_X5_status_4, e_X5_status_5, e_X5_status_7, e_X5_status_10, e_X5_status_11, e_X5_status_14, e_X5_status_15, e_X5_status_16, e_X5_status_17, e_X5_status_18, e_X5_status_19, e_X5_status_22, e_X5_status_23, e_X5_status_24, e_X5_status_27, e_X5_status_28, e_X5_status_29, e_X5_status_30, e_X5_status_31, e_X5_status_33, e_X5_status_35, e_X5_status_38, e_X5_status_39, e_X5_status_40, e_X5_status_43, e_X5_status_44, e_X5_status_45, e_X5_status_46, e_X5_status_47, e_X5_status_50, e_X5_status_53, e_X5_status_54, z1, toL1, toL0, ite_self, if_true, if_false, ite_true, ite_false, nI_add, pk_mul, z_eq, z_lt, z_le, z_ge, z_gt, nI_eq, nI_leI, nI_ltI, bI_0, bI_1, not_true_eq_false, not_false_eq_true]
    have z2 := v_suL (E := E) (Q := Q) r (-1) 7 0 (by omega)
    rw [show sumT (yT S) 0 = nI 0 from rfl] at z2
    rw [z2]
    exact K _ R Fr.rf
  · rw [if_neg h1] at K
    by_cases h2 : nI 0 ≤ w ∧ w ≤ nI 6
    · rw [if_pos h2] at K
      obtain ⟨k, _, hk, rfl⟩ := vI_of (by decide) h2 (by decide)
      rw [nv_nI (by omega)] at K
      simp (disch := first | assumption | omega | exact isB_0 | exact isB_1 | exact isB_bI _ | decide) only [e_X5_status_0, e_X5_status_1, e_X5_status_4, e_X5_status_5, e_X5_status_7, e_X5_status_10, e_X5_status_11, e_X5_status_14, e_X5_status_15, e_X5_status_16, e_X5_status_17, e_X5_status_18, e_X5_status_19, e_X5_status_22, e_X5_status_23, e_X5_status_24, e_X5_status_27, e_X5_status_28, e_X5_status_29, e_X5_status_30, e_X5_status_31, e_X5_status_33, e_X5_status_35, e_X5_status_38, e_X5_status_39, e_X5_status_40, e_X5_status_43, e_X5_status_44, e_X5_status_45, e_X5_status_46, e_X5_status_47, e_X5_status_50, e_X5_status_53, e_X5_status_54, r k (by omega), show ¬ 7 ≤ k by omega, toL1, toL0, ite_self, if_true, if_false, ite_true, ite_false, nI_add, pk_mul, z_eq, z_lt, z_le, z_ge, z_gt, nI_eq, nI_leI, nI_ltI, bI_0, bI_1, not_true_eq_false, not_false_eq_true]
      exact K _ R Fr.rf
    · rw [if_neg h2] at K
      rcases i32_c w with hw | ⟨k, hk, rfl⟩
      · have z1 : (w < 0) = True := eq_true hw
        simp (disch := first | assumption | omega | exact isB_0 | exact isB_1 | exact isB_bI _ | decide) only [e_X5_status_0, e_X5_status_1, e_X5_status_4, e_X5_status_5, e_X5_status_7, e_X5_status_10, e_X5_status_11, e_X5_status_14, e_X5_status_15, e_X5_status_16, e_X5_status_17, e_X5_status_18, e_X5_status_19, e_X5_status_22, e_X5_status_23, e_X5_status_24, e_X5_status_27, e_X5_status_28, e_X5_status_29, e_X5_status_30, e_X5_status_31, e_X5_status_33, e_X5_status_35, e_X5_status_38, e_X5_status_39, e_X5_status_40, e_X5_status_43, e_X5_status_44, e_X5_status_45, e_X5_status_46, e_X5_status_47, e_X5_status_50, e_X5_status_53, e_X5_status_54, z1, h1, v_tell R, toL1, toL0, ite_self, if_true, if_false, ite_true, ite_false, nI_add, pk_mul, z_eq, z_lt, z_le, z_ge, z_gt, nI_eq, nI_leI, nI_ltI, bI_0, bI_1, not_true_eq_false, not_false_eq_true]
        exact v_bad R K
      · have hk3 := out_g hk (by decide) h2
        simp (disch := first | assumption | omega | exact isB_0 | exact isB_1 | exact isB_bI _ | decide) only [e_X5_status_0, e_X5_status_1, e_X5_status_4, e_X5_status_5, e_X5_status_7, e_X5_status_10, e_X5_status_11, e_X5_status_14, e_X5_status_15, e_X5_status_16, e_X5_status_17, e_X5_status_18, e_X5_status_19, e_X5_status_22, e_X5_status_23, e_X5_status_24, e_X5_status_27, e_X5_status_28, e_X5_status_29, e_X5_status_30, e_X5_status_31, e_X5_status_33, e_X5_status_35, e_X5_status_38, e_X5_status_39, e_X5_status_40, e_X5_status_43, e_X5_status_44, e_X5_status_45, e_X5_status_46, e_X5_status_47, e_X5_status_50, e_X5_status_53, e_X5_status_54, show 7 ≤ k by omega, h1, v_tell R, toL1, toL0, ite_self, if_true, if_false, ite_true, ite_false, nI_add, pk_mul, z_eq, z_lt, z_le, z_ge, z_gt, nI_eq, nI_leI, nI_ltI, bI_0, bI_1, not_true_eq_false, not_false_eq_true]
        exact v_bad R K
theorem m_su1 {t : Nat → Int32} (r : ∀ j, j < 7 → gA h 40 j = t j) : ∀ (d k : Nat), k + d = 7 → Ev E mX6_status 22 [.ref 36, .int (-1), .int (sumT t k), .int (nI k)] [] h Q = Q (some (.int (sumT t 7))) h := by
  have z1 : ((-1 : Int32) < 0) = True := eq_true (by decide)
  intro d
  induction d with
  | zero =>
    intro k e
    rw [e_X6_status_22]
    simp (disch := first | assumption | omega | exact isB_0 | exact isB_1 | exact isB_bI _ | decide) only [e_X6_status_0, e_X6_status_1, e_X6_status_2, e_X6_status_3, e_X6_status_5, e_X6_status_8, e_X6_status_11, e_X6_status_12, e_X6_status_14, e_X6_status_17, e_X6_status_18, e_X6_status_19, e_X6_status_20, e_X6_status_21, e_X6_status_23, e_X6_status_25, e_X6_status_28, e_X6_status_29, e_X6_status_30, e_X6_status_33, e_X6_status_34, e_X6_status_35, e_X6_status_38, e_X6_status_39, e_X6_status_42, e_X6_status_43, e_X6_status_44, e_X6_status_47, e_X6_status_48, e_X6_status_49, e_X6_status_50, e_X6_status_53, e_X6_status_56, e_X6_status_57, toL1, toL0, ite_self, if_true, if_false, ite_true, ite_false, nI_add, pk_mul, z_eq, z_lt, z_le, z_ge, z_gt, nI_eq, nI_leI, nI_ltI, bI_0, bI_1, not_true_eq_false, not_false_eq_true]
    rw [if_pos (by omega), show k = 7 by omega]
  | succ d ih =>
    intro k e
    have ih2 := ih (k + 1) (by omega)
    rw [sumT] at ih2
    rw [e_X6_status_22]
    simp (disch := first | assumption | omega | exact isB_0 | exact isB_1 | exact isB_bI _ | decide) only [e_X6_status_0, e_X6_status_1, e_X6_status_2, e_X6_status_3, e_X6_status_5, e_X6_status_8, e_X6_status_11, e_X6_status_12, e_X6_status_14, e_X6_status_17, e_X6_status_18, e_X6_status_19, e_X6_status_20, e_X6_status_21, e_X6_status_23, e_X6_status_25, e_X6_status_28, e_X6_status_29, e_X6_status_30, e_X6_status_33, e_X6_status_34, e_X6_status_35, e_X6_status_38, e_X6_status_39, e_X6_status_42, e_X6_status_43, e_X6_status_44, e_X6_status_47, e_X6_status_48, e_X6_status_49, e_X6_status_50, e_X6_status_53, e_X6_status_56, e_X6_status_57, z1, r k (by omega), toL1, toL0, ite_self, if_true, if_false, ite_true, ite_false, nI_add, pk_mul, z_eq, z_lt, z_le, z_ge, z_gt, nI_eq, nI_leI, nI_ltI, bI_0, bI_1, not_true_eq_false, not_false_eq_true]
    rw [if_neg (by omega)]
    exact ih2
theorem m_su2 {t : Nat → Int32} (r : ∀ j, j < 7 → gA h 40 j = t j) {w : Nat} (hw : w < 7) : ∀ (d k : Nat), k + d = 7 → Ev E mX6_status 22 [.ref 36, .int (nI w), .int (oneT t w k), .int (nI k)] [] h Q = Q (some (.int (oneT t w 7))) h := by
  intro d
  induction d with
  | zero =>
    intro k e
    rw [e_X6_status_22]
    simp (disch := first | assumption | omega | exact isB_0 | exact isB_1 | exact isB_bI _ | decide) only [e_X6_status_0, e_X6_status_1, e_X6_status_2, e_X6_status_3, e_X6_status_5, e_X6_status_8, e_X6_status_11, e_X6_status_12, e_X6_status_14, e_X6_status_17, e_X6_status_18, e_X6_status_19, e_X6_status_20, e_X6_status_21, e_X6_status_23, e_X6_status_25, e_X6_status_28, e_X6_status_29, e_X6_status_30, e_X6_status_33, e_X6_status_34, e_X6_status_35, e_X6_status_38, e_X6_status_39, e_X6_status_42, e_X6_status_43, e_X6_status_44, e_X6_status_47, e_X6_status_48, e_X6_status_49, e_X6_status_50, e_X6_status_53, e_X6_status_56, e_X6_status_57, toL1, toL0, ite_self, if_true, if_false, ite_true, ite_false, nI_add, pk_mul, z_eq, z_lt, z_le, z_ge, z_gt, nI_eq, nI_leI, nI_ltI, bI_0, bI_1, not_true_eq_false, not_false_eq_true]
    rw [if_pos (by omega), show k = 7 by omega]
  | succ d ih =>
    intro k e
    have ih2 := ih (k + 1) (by omega)
    rw [oneT] at ih2
    rw [e_X6_status_22]
    by_cases hk : w = k
    · rw [if_pos hk] at ih2
      simp (disch := first | assumption | omega | exact isB_0 | exact isB_1 | exact isB_bI _ | decide) only [e_X6_status_0, e_X6_status_1, e_X6_status_2, e_X6_status_3, e_X6_status_5, e_X6_status_8, e_X6_status_11, e_X6_status_12, e_X6_status_14, e_X6_status_17, e_X6_status_18, e_X6_status_19, e_X6_status_20, e_X6_status_21, e_X6_status_23, e_X6_status_25, e_X6_status_28, e_X6_status_29, e_X6_status_30, e_X6_status_33, e_X6_status_34, e_X6_status_35, e_X6_status_38, e_X6_status_39, e_X6_status_42, e_X6_status_43, e_X6_status_44, e_X6_status_47, e_X6_status_48, e_X6_status_49, e_X6_status_50, e_X6_status_53, e_X6_status_56, e_X6_status_57, r k (by omega), hk, toL1, toL0, ite_self, if_true, if_false, ite_true, ite_false, nI_add, pk_mul, z_eq, z_lt, z_le, z_ge, z_gt, nI_eq, nI_leI, nI_ltI, bI_0, bI_1, not_true_eq_false, not_false_eq_true]
      rw [if_neg (by omega)]
      rw [hk] at ih2
      exact ih2
    · rw [if_neg hk] at ih2
      simp (disch := first | assumption | omega | exact isB_0 | exact isB_1 | exact isB_bI _ | decide) only [e_X6_status_0, e_X6_status_1, e_X6_status_2, e_X6_status_3, e_X6_status_5, e_X6_status_8, e_X6_status_11, e_X6_status_12, e_X6_status_14, e_X6_status_17, e_X6_status_18, e_X6_status_19, e_X6_status_20, e_X6_status_21, e_X6_status_23, e_X6_status_25, e_X6_status_28, e_X6_status_29, e_X6_status_30, e_X6_status_33, e_X6_status_34, e_X6_status_35, e_X6_status_38, e_X6_status_39, e_X6_status_42, e_X6_status_43, e_X6_status_44, e_X6_status_47, e_X6_status_48, e_X6_status_49, e_X6_status_50, e_X6_status_53, e_X6_status_56, e_X6_status_57, r k (by omega), hk, toL1, toL0, ite_self, if_true, if_false, ite_true, ite_false, nI_add, pk_mul, z_eq, z_lt, z_le, z_ge, z_gt, nI_eq, nI_leI, nI_ltI, bI_0, bI_1, not_true_eq_false, not_false_eq_true]
      rw [if_neg (by omega)]
      exact ih2
theorem m_status (R : RM h S) {w : Int32} (K : Mo h Q (f_status w S)) : Ev E mX6_status 0 [.ref 36, .int w, .null, .null] [] h Q := by
  have r := R.2.2.2.1
  unfold f_status at K
  by_cases h1 : w = -1
  · rw [if_pos h1] at K
    subst h1
    have z1 : bI ((-1 : Int32) ≤ -1 ∧ (-1 : Int32) ≤ nI 6) = nI 1 := by decide
    simp (disch := first | assumption | omega | exact isB_0 | exact isB_1 | exact isB_bI _ | decide) only [e_X6_status_0, e_X6_status_1, e_X6_status_2, e_X6_status_3, e_X6_status_5, e_X6_status_8, e_X6_status_11, e_X6_status_12, e_X6_status_14, e_X6_status_17, e_X6_status_18, e_X6_status_19, e_X6_status_20, e_X6_status_21, e_X6_status_23, e_X6_status_25, e_X6_status_28, e_X6_status_29, e_X6_status_30, e_X6_status_33, e_X6_status_34, e_X6_status_35, e_X6_status_38, e_X6_status_39, e_X6_status_42, e_X6_status_43, e_X6_status_44, e_X6_status_47, e_X6_status_48, e_X6_status_49, e_X6_status_50, e_X6_status_53, e_X6_status_56, e_X6_status_57, m_in, z1, Nat.one_ne_zero, toL1, toL0, ite_self, if_true, if_false, ite_true, ite_false, nI_add, pk_mul, z_eq, z_lt, z_le, z_ge, z_gt, nI_eq, nI_leI, nI_ltI, bI_0, bI_1, not_true_eq_false, not_false_eq_true]
    have z2 := m_su1 (E := E) (Q := Q) r 7 0 (by omega)
    rw [show sumT (yT S) 0 = nI 0 from rfl] at z2
    rw [z2]
    exact K _ R Fr.rf
  · rw [if_neg h1] at K
    by_cases h2 : nI 0 ≤ w ∧ w ≤ nI 6
    · rw [if_pos h2] at K
      obtain ⟨k, _, hk, rfl⟩ := vI_of (by decide) h2 (by decide)
      rw [nv_nI (by omega)] at K
      have z1 : (-1 : Int32) ≤ nI k := Int32.le_trans (show (-1 : Int32) ≤ nI 0 by decide) (nI_le (Nat.zero_le _) (by omega))
      simp (disch := first | assumption | omega | exact isB_0 | exact isB_1 | exact isB_bI _ | decide) only [e_X6_status_0, e_X6_status_1, e_X6_status_2, e_X6_status_3, e_X6_status_5, e_X6_status_8, e_X6_status_11, e_X6_status_12, e_X6_status_14, e_X6_status_17, e_X6_status_18, e_X6_status_19, e_X6_status_20, e_X6_status_21, e_X6_status_23, e_X6_status_25, e_X6_status_28, e_X6_status_29, e_X6_status_30, e_X6_status_33, e_X6_status_34, e_X6_status_35, e_X6_status_38, e_X6_status_39, e_X6_status_42, e_X6_status_43, e_X6_status_44, e_X6_status_47, e_X6_status_48, e_X6_status_49, e_X6_status_50, e_X6_status_53, e_X6_status_56, e_X6_status_57, m_in, z1, hk, Nat.one_ne_zero, and_self, and_true, true_and, Nat.zero_le, nI_ltI, toL1, toL0, ite_self, if_true, if_false, ite_true, ite_false, nI_add, pk_mul, z_eq, z_lt, z_le, z_ge, z_gt, nI_eq, nI_leI, nI_ltI, bI_0, bI_1, not_true_eq_false, not_false_eq_true]
      have z2 := m_su2 (E := E) (Q := Q) r (show k < 7 by omega) 7 0 (by omega)
      rw [show oneT (yT S) k 0 = nI 0 from rfl] at z2
      rw [z2, oneT_hi 7 (by omega)]
      exact K _ R Fr.rf
    · rw [if_neg h2] at K
      have h3 : ¬ ((-1 : Int32) ≤ w ∧ w ≤ nI 6) := fun z => by
        refine h2 ⟨?_, z.2⟩
        have a1 := Int32.le_iff_toInt_le.mp z.1
        have a2 : ¬ w.toInt = (-1 : Int32).toInt := fun q => h1 (Int32.toInt_inj.mp q)
        have a3 : (-1 : Int32).toInt = -1 := by decide
        refine Int32.le_iff_toInt_le.mpr ?_
        rw [nI_toInt (by decide)]
        omega
      simp (disch := first | assumption | omega | exact isB_0 | exact isB_1 | exact isB_bI _ | decide) only [e_X6_status_0, e_X6_status_1, e_X6_status_2, e_X6_status_3, e_X6_status_5, e_X6_status_8, e_X6_status_11, e_X6_status_12, e_X6_status_14, e_X6_status_17, e_X6_status_18, e_X6_status_19, e_X6_status_20, e_X6_status_21, e_X6_status_23, e_X6_status_25, e_X6_status_28, e_X6_status_29, e_X6_status_30, e_X6_status_33, e_X6_status_34, e_X6_status_35, e_X6_status_38, e_X6_status_39, e_X6_status_42, e_X6_status_43, e_X6_status_44, e_X6_status_47, e_X6_status_48, e_X6_status_49, e_X6_status_50, e_X6_status_53, e_X6_status_56, e_X6_status_57, m_in, bI_f h3, m_f0 R, toL1, toL0, ite_self, if_true, if_false, ite_true, ite_false, nI_add, pk_mul, z_eq, z_lt, z_le, z_ge, z_gt, nI_eq, nI_leI, nI_ltI, bI_0, bI_1, not_true_eq_false, not_false_eq_true]
      exact m_bad R K
theorem v_thL (W : WC C) {n : Nat} (hn : zH C + n ≤ 200000) (hn2 : n ≤ 1000) (x y : Int32) (K : ∀ h', RC h' 8 (goN n C) → Fr (Xc 8) h h' → Ev E mX5_then 70 [.ref 0, .int x, .int (nI n), .int y, .int (nI n)] [] h' Q) : ∀ (d k : Nat) (h' : Hp), k + d = n → RC h' 8 (goN k C) → Fr (Xc 8) h h' → Ev E mX5_then 51 [.ref 0, .int x, .int (nI n), .int y, .int (nI k)] [] h' Q := by
  have hC := isC_8
  intro d
  induction d with
  | zero =>
    intro k h' e R F
    rw [e_X5_then_51]
    simp (disch := first | assumption | omega | exact isB_0 | exact isB_1 | exact isB_bI _ | decide) only [e_X5_then_0, e_X5_then_1, e_X5_then_4, e_X5_then_5, e_X5_then_8, e_X5_then_11, e_X5_then_12, e_X5_then_13, e_X5_then_16, e_X5_then_19, e_X5_then_22, e_X5_then_23, e_X5_then_24, e_X5_then_25, e_X5_then_28, e_X5_then_31, e_X5_then_32, e_X5_then_33, e_X5_then_36, e_X5_then_37, e_X5_then_38, e_X5_then_41, e_X5_then_42, e_X5_then_45, e_X5_then_48, e_X5_then_49, e_X5_then_53, e_X5_then_54, e_X5_then_57, e_X5_then_58, e_X5_then_61, e_X5_then_64, e_X5_then_67, e_X5_then_71, e_X5_then_74, e_X5_then_75, e_X5_then_78, e_X5_then_79, e_X5_then_82, e_X5_then_85, e_X5_then_86, e_X5_then_89, e_X5_then_92, e_X5_then_93, e_X5_then_96, e_X5_then_99, e_X5_then_100, e_X5_then_101, e_X5_then_102, toL1, toL0, ite_self, if_true, if_false, ite_true, ite_false, nI_add, pk_mul, z_eq, z_lt, z_le, z_ge, z_gt, nI_eq, nI_leI, nI_ltI, bI_0, bI_1, not_true_eq_false, not_false_eq_true]
    rw [if_pos (by omega)]
    rw [show k = n by omega] at R ⊢
    exact K h' R F
  | succ d ih =>
    intro k h' e R F
    rw [e_X5_then_51]
    simp (disch := first | assumption | omega | exact isB_0 | exact isB_1 | exact isB_bI _ | decide) only [e_X5_then_0, e_X5_then_1, e_X5_then_4, e_X5_then_5, e_X5_then_8, e_X5_then_11, e_X5_then_12, e_X5_then_13, e_X5_then_16, e_X5_then_19, e_X5_then_22, e_X5_then_23, e_X5_then_24, e_X5_then_25, e_X5_then_28, e_X5_then_31, e_X5_then_32, e_X5_then_33, e_X5_then_36, e_X5_then_37, e_X5_then_38, e_X5_then_41, e_X5_then_42, e_X5_then_45, e_X5_then_48, e_X5_then_49, e_X5_then_53, e_X5_then_54, e_X5_then_57, e_X5_then_58, e_X5_then_61, e_X5_then_64, e_X5_then_67, e_X5_then_71, e_X5_then_74, e_X5_then_75, e_X5_then_78, e_X5_then_79, e_X5_then_82, e_X5_then_85, e_X5_then_86, e_X5_then_89, e_X5_then_92, e_X5_then_93, e_X5_then_96, e_X5_then_99, e_X5_then_100, e_X5_then_101, e_X5_then_102, toL1, toL0, ite_self, if_true, if_false, ite_true, ite_false, nI_add, pk_mul, z_eq, z_lt, z_le, z_ge, z_gt, nI_eq, nI_leI, nI_ltI, bI_0, bI_1, not_true_eq_false, not_false_eq_true]
    rw [if_neg (by omega)]
    refine c_passHour isC_8 R (W_goN W k (by omega)) (fun h2 R2 F2 => ?_)
    simp (disch := first | assumption | omega | exact isB_0 | exact isB_1 | exact isB_bI _ | decide) only [e_X5_then_0, e_X5_then_1, e_X5_then_4, e_X5_then_5, e_X5_then_8, e_X5_then_11, e_X5_then_12, e_X5_then_13, e_X5_then_16, e_X5_then_19, e_X5_then_22, e_X5_then_23, e_X5_then_24, e_X5_then_25, e_X5_then_28, e_X5_then_31, e_X5_then_32, e_X5_then_33, e_X5_then_36, e_X5_then_37, e_X5_then_38, e_X5_then_41, e_X5_then_42, e_X5_then_45, e_X5_then_48, e_X5_then_49, e_X5_then_53, e_X5_then_54, e_X5_then_57, e_X5_then_58, e_X5_then_61, e_X5_then_64, e_X5_then_67, e_X5_then_71, e_X5_then_74, e_X5_then_75, e_X5_then_78, e_X5_then_79, e_X5_then_82, e_X5_then_85, e_X5_then_86, e_X5_then_89, e_X5_then_92, e_X5_then_93, e_X5_then_96, e_X5_then_99, e_X5_then_100, e_X5_then_101, e_X5_then_102, toL1, toL0, ite_self, if_true, if_false, ite_true, ite_false, nI_add, pk_mul, z_eq, z_lt, z_le, z_ge, z_gt, nI_eq, nI_leI, nI_ltI, bI_0, bI_1, not_true_eq_false, not_false_eq_true]
    exact ih (k + 1) h2 (by omega) R2 (F.tr F2)
theorem v_then (R : RV h S) {a n w : Int32} (K : Vo h Q (f_then a n w S)) (W : WS S) : Ev E mX5_then 0 [.ref 0, .int a, .int n, .int w, .null] [] h Q := by
  have hC := isC_1
  have hC8 := isC_8
  have h8 := W.1.f
  have hh := W.2.1
  unfold f_then at K
  by_cases h1 : hF a (zF (yC S))
  · rw [if_pos h1] at K
    by_cases h2 : nI 0 ≤ n ∧ n ≤ nI 400
    · rw [if_pos h2] at K
      by_cases h3 : nI 0 ≤ w ∧ w ≤ nI 1
      · rw [if_pos h3] at K
        obtain ⟨j, hj, rfl⟩ := hF_of (by omega) h1
        obtain ⟨m, _, hm, rfl⟩ := vI_of (by decide) h2 (by decide)
        obtain ⟨k, _, hk, rfl⟩ := vI_of (by decide) h3 (by decide)
        rw [nv_nI (by omega), nv_nI (by omega), nv_nI (by omega)] at K
        simp (disch := first | assumption | omega | exact isB_0 | exact isB_1 | exact isB_bI _ | decide) only [e_X5_then_0, e_X5_then_1, e_X5_then_4, e_X5_then_5, e_X5_then_8, e_X5_then_11, e_X5_then_12, e_X5_then_13, e_X5_then_16, e_X5_then_19, e_X5_then_22, e_X5_then_23, e_X5_then_24, e_X5_then_25, e_X5_then_28, e_X5_then_31, e_X5_then_32, e_X5_then_33, e_X5_then_36, e_X5_then_37, e_X5_then_38, e_X5_then_41, e_X5_then_42, e_X5_then_45, e_X5_then_48, e_X5_then_49, e_X5_then_53, e_X5_then_54, e_X5_then_57, e_X5_then_58, e_X5_then_61, e_X5_then_64, e_X5_then_67, e_X5_then_70, e_X5_then_71, e_X5_then_74, e_X5_then_75, e_X5_then_78, e_X5_then_79, e_X5_then_82, e_X5_then_85, e_X5_then_86, e_X5_then_89, e_X5_then_92, e_X5_then_93, e_X5_then_96, e_X5_then_99, e_X5_then_100, e_X5_then_101, e_X5_then_102, c_hasFrame isC_1 R.ci W.1, bI_t h1, s_isWithin, hm, hk, and_self, and_true, true_and, Nat.zero_le, nI_ltI, toL1, toL0, ite_self, if_true, if_false, ite_true, ite_false, nI_add, pk_mul, z_eq, z_lt, z_le, z_ge, z_gt, nI_eq, nI_leI, nI_ltI, bI_0, bI_1, not_true_eq_false, not_false_eq_true]
        refine c_become isC_8 isC_1 (by decide) R.ci (fun h1 R1 F1 => ?_)
        simp (disch := first | assumption | omega | exact isB_0 | exact isB_1 | exact isB_bI _ | decide) only [e_X5_then_0, e_X5_then_1, e_X5_then_4, e_X5_then_5, e_X5_then_8, e_X5_then_11, e_X5_then_12, e_X5_then_13, e_X5_then_16, e_X5_then_19, e_X5_then_22, e_X5_then_23, e_X5_then_24, e_X5_then_25, e_X5_then_28, e_X5_then_31, e_X5_then_32, e_X5_then_33, e_X5_then_36, e_X5_then_37, e_X5_then_38, e_X5_then_41, e_X5_then_42, e_X5_then_45, e_X5_then_48, e_X5_then_49, e_X5_then_53, e_X5_then_54, e_X5_then_57, e_X5_then_58, e_X5_then_61, e_X5_then_64, e_X5_then_67, e_X5_then_70, e_X5_then_71, e_X5_then_74, e_X5_then_75, e_X5_then_78, e_X5_then_79, e_X5_then_82, e_X5_then_85, e_X5_then_86, e_X5_then_89, e_X5_then_92, e_X5_then_93, e_X5_then_96, e_X5_then_99, e_X5_then_100, e_X5_then_101, e_X5_then_102, toL1, toL0, ite_self, if_true, if_false, ite_true, ite_false, nI_add, pk_mul, z_eq, z_lt, z_le, z_ge, z_gt, nI_eq, nI_leI, nI_ltI, bI_0, bI_1, not_true_eq_false, not_false_eq_true]
        refine v_thL W.1 (by omega) (by omega) _ _ (fun h2 R2 F2 => ?_) m 0 h1 (by omega) R1 Fr.rf
        have W2 : WC (goN m (yC S)) := W_goN W.1 m (by omega)
        have F3 : Fr Xv h h2 := (F1.tr F2).c8
        have RS : RV h2 S := R.self F3 (R.ci.fr (F1.tr F2) (fun o q1 q2 => by unfold Xc; omega))
        have hj2 : j < zF (goN m (yC S)) := by rw [goN_F]; exact hj
        have hv := W2.v8 hj2
        rw [e_X5_then_70]
        simp (disch := first | assumption | omega | exact isB_0 | exact isB_1 | exact isB_bI _ | decide) only [e_X5_then_0, e_X5_then_1, e_X5_then_4, e_X5_then_5, e_X5_then_8, e_X5_then_11, e_X5_then_12, e_X5_then_13, e_X5_then_16, e_X5_then_19, e_X5_then_22, e_X5_then_23, e_X5_then_24, e_X5_then_25, e_X5_then_28, e_X5_then_31, e_X5_then_32, e_X5_then_33, e_X5_then_36, e_X5_then_37, e_X5_then_38, e_X5_then_41, e_X5_then_42, e_X5_then_45, e_X5_then_48, e_X5_then_49, e_X5_then_53, e_X5_then_54, e_X5_then_57, e_X5_then_58, e_X5_then_61, e_X5_then_64, e_X5_then_67, e_X5_then_71, e_X5_then_74, e_X5_then_75, e_X5_then_78, e_X5_then_79, e_X5_then_82, e_X5_then_85, e_X5_then_86, e_X5_then_89, e_X5_then_92, e_X5_then_93, e_X5_then_96, e_X5_then_99, e_X5_then_100, e_X5_then_101, e_X5_then_102, c_worthOutOf isC_8 R2 W2 hj2, R2.V (show j < 8 by omega), R2.E hv, toL1, toL0, ite_self, if_true, if_false, ite_true, ite_false, nI_add, pk_mul, z_eq, z_lt, z_le, z_ge, z_gt, nI_eq, nI_leI, nI_ltI, bI_0, bI_1, not_true_eq_false, not_false_eq_true]
        have K' := K h2 RS F3.lo
        by_cases hk0 : k = 0
        · rw [if_pos hk0]
          rw [if_pos hk0] at K'
          exact K'
        · rw [if_neg hk0]
          rw [if_neg hk0] at K'
          exact K'
      · rw [if_neg h3] at K
        obtain ⟨m, _, hm, rfl⟩ := vI_of (by decide) h2 (by decide)
        simp (disch := first | assumption | omega | exact isB_0 | exact isB_1 | exact isB_bI _ | decide) only [e_X5_then_0, e_X5_then_1, e_X5_then_4, e_X5_then_5, e_X5_then_8, e_X5_then_11, e_X5_then_12, e_X5_then_13, e_X5_then_16, e_X5_then_19, e_X5_then_22, e_X5_then_23, e_X5_then_24, e_X5_then_25, e_X5_then_28, e_X5_then_31, e_X5_then_32, e_X5_then_33, e_X5_then_36, e_X5_then_37, e_X5_then_38, e_X5_then_41, e_X5_then_42, e_X5_then_45, e_X5_then_48, e_X5_then_49, e_X5_then_53, e_X5_then_54, e_X5_then_57, e_X5_then_58, e_X5_then_61, e_X5_then_64, e_X5_then_67, e_X5_then_70, e_X5_then_71, e_X5_then_74, e_X5_then_75, e_X5_then_78, e_X5_then_79, e_X5_then_82, e_X5_then_85, e_X5_then_86, e_X5_then_89, e_X5_then_92, e_X5_then_93, e_X5_then_96, e_X5_then_99, e_X5_then_100, e_X5_then_101, e_X5_then_102, c_hasFrame isC_1 R.ci W.1, bI_t h1, s_isWithin, hm, bI_f h3, v_tell R, and_self, and_true, true_and, Nat.zero_le, nI_ltI, toL1, toL0, ite_self, if_true, if_false, ite_true, ite_false, nI_add, pk_mul, z_eq, z_lt, z_le, z_ge, z_gt, nI_eq, nI_leI, nI_ltI, bI_0, bI_1, not_true_eq_false, not_false_eq_true]
        exact v_bad R K
    · rw [if_neg h2] at K
      simp (disch := first | assumption | omega | exact isB_0 | exact isB_1 | exact isB_bI _ | decide) only [e_X5_then_0, e_X5_then_1, e_X5_then_4, e_X5_then_5, e_X5_then_8, e_X5_then_11, e_X5_then_12, e_X5_then_13, e_X5_then_16, e_X5_then_19, e_X5_then_22, e_X5_then_23, e_X5_then_24, e_X5_then_25, e_X5_then_28, e_X5_then_31, e_X5_then_32, e_X5_then_33, e_X5_then_36, e_X5_then_37, e_X5_then_38, e_X5_then_41, e_X5_then_42, e_X5_then_45, e_X5_then_48, e_X5_then_49, e_X5_then_53, e_X5_then_54, e_X5_then_57, e_X5_then_58, e_X5_then_61, e_X5_then_64, e_X5_then_67, e_X5_then_70, e_X5_then_71, e_X5_then_74, e_X5_then_75, e_X5_then_78, e_X5_then_79, e_X5_then_82, e_X5_then_85, e_X5_then_86, e_X5_then_89, e_X5_then_92, e_X5_then_93, e_X5_then_96, e_X5_then_99, e_X5_then_100, e_X5_then_101, e_X5_then_102, c_hasFrame isC_1 R.ci W.1, bI_t h1, s_isWithin, bI_f h2, v_tell R, and_self, and_true, true_and, Nat.zero_le, nI_ltI, toL1, toL0, ite_self, if_true, if_false, ite_true, ite_false, nI_add, pk_mul, z_eq, z_lt, z_le, z_ge, z_gt, nI_eq, nI_leI, nI_ltI, bI_0, bI_1, not_true_eq_false, not_false_eq_true]
      exact v_bad R K
  · rw [if_neg h1] at K
    simp (disch := first | assumption | omega | exact isB_0 | exact isB_1 | exact isB_bI _ | decide) only [e_X5_then_0, e_X5_then_1, e_X5_then_4, e_X5_then_5, e_X5_then_8, e_X5_then_11, e_X5_then_12, e_X5_then_13, e_X5_then_16, e_X5_then_19, e_X5_then_22, e_X5_then_23, e_X5_then_24, e_X5_then_25, e_X5_then_28, e_X5_then_31, e_X5_then_32, e_X5_then_33, e_X5_then_36, e_X5_then_37, e_X5_then_38, e_X5_then_41, e_X5_then_42, e_X5_then_45, e_X5_then_48, e_X5_then_49, e_X5_then_53, e_X5_then_54, e_X5_then_57, e_X5_then_58, e_X5_then_61, e_X5_then_64, e_X5_then_67, e_X5_then_70, e_X5_then_71, e_X5_then_74, e_X5_then_75, e_X5_then_78, e_X5_then_79, e_X5_then_82, e_X5_then_85, e_X5_then_86, e_X5_then_89, e_X5_then_92, e_X5_then_93, e_X5_then_96, e_X5_then_99, e_X5_then_100, e_X5_then_101, e_X5_then_102, c_hasFrame isC_1 R.ci W.1, bI_f h1, v_tell R, and_self, and_true, true_and, Nat.zero_le, nI_ltI, toL1, toL0, ite_self, if_true, if_false, ite_true, ite_false, nI_add, pk_mul, z_eq, z_lt, z_le, z_ge, z_gt, nI_eq, nI_leI, nI_ltI, bI_0, bI_1, not_true_eq_false, not_false_eq_true]
    exact v_bad R K
theorem m_then (R : RM h S) {a n w : Int32} (K : Mo h Q (f_then a n w S)) (W : WS S) : Ev E mX6_then 0 [.ref 36, .int a, .int n, .int w, .null] [] h Q := by
  have h8 := W.1.f
  have hh := W.2.1
  unfold f_then at K
  by_cases h1 : hF a (zF (yC S))
  · rw [if_pos h1] at K
    by_cases h2 : nI 0 ≤ n ∧ n ≤ nI 400
    · rw [if_pos h2] at K
      by_cases h3 : nI 0 ≤ w ∧ w ≤ nI 1
      · rw [if_pos h3] at K
        obtain ⟨j, hj, rfl⟩ := hF_of (by omega) h1
        obtain ⟨m, _, hm, rfl⟩ := vI_of (by decide) h2 (by decide)
        obtain ⟨k, _, hk, rfl⟩ := vI_of (by decide) h3 (by decide)
        rw [nv_nI (by omega), nv_nI (by omega), nv_nI (by omega)] at K
        simp (disch := first | assumption | omega | exact isB_0 | exact isB_1 | exact isB_bI _ | decide) only [e_X6_then_0, e_X6_then_1, e_X6_then_2, e_X6_then_5, e_X6_then_8, e_X6_then_9, e_X6_then_10, e_X6_then_11, e_X6_then_14, e_X6_then_17, e_X6_then_20, e_X6_then_21, e_X6_then_22, e_X6_then_23, e_X6_then_24, e_X6_then_27, e_X6_then_30, e_X6_then_31, e_X6_then_33, e_X6_then_36, e_X6_then_37, e_X6_then_38, e_X6_then_41, e_X6_then_42, e_X6_then_43, e_X6_then_46, e_X6_then_47, e_X6_then_50, e_X6_then_51, e_X6_then_52, e_X6_then_55, e_X6_then_58, e_X6_then_59, e_X6_then_60, e_X6_then_61, e_X6_then_62, e_X6_then_65, e_X6_then_66, e_X6_then_69, e_X6_then_71, e_X6_then_72, e_X6_then_75, e_X6_then_77, m_isFrame R.ci W.1, bI_t h1, m_in, hm, hk, and_self, and_true, true_and, Nat.zero_le, nI_ltI, toL1, toL0, ite_self, if_true, if_false, ite_true, ite_false, nI_add, pk_mul, z_eq, z_lt, z_le, z_ge, z_gt, nI_eq, nI_leI, nI_ltI, bI_0, bI_1, not_true_eq_false, not_false_eq_true]
        refine m_thinks R.ci (fun h1 R1 F1 => ?_)
        simp (disch := first | assumption | omega | exact isB_0 | exact isB_1 | exact isB_bI _ | decide) only [e_X6_then_0, e_X6_then_1, e_X6_then_2, e_X6_then_5, e_X6_then_8, e_X6_then_9, e_X6_then_10, e_X6_then_11, e_X6_then_14, e_X6_then_17, e_X6_then_20, e_X6_then_21, e_X6_then_22, e_X6_then_23, e_X6_then_24, e_X6_then_27, e_X6_then_30, e_X6_then_31, e_X6_then_33, e_X6_then_36, e_X6_then_37, e_X6_then_38, e_X6_then_41, e_X6_then_42, e_X6_then_43, e_X6_then_46, e_X6_then_47, e_X6_then_50, e_X6_then_51, e_X6_then_52, e_X6_then_55, e_X6_then_58, e_X6_then_59, e_X6_then_60, e_X6_then_61, e_X6_then_62, e_X6_then_65, e_X6_then_66, e_X6_then_69, e_X6_then_71, e_X6_then_72, e_X6_then_75, e_X6_then_77, toL1, toL0, ite_self, if_true, if_false, ite_true, ite_false, nI_add, pk_mul, z_eq, z_lt, z_le, z_ge, z_gt, nI_eq, nI_leI, nI_ltI, bI_0, bI_1, not_true_eq_false, not_false_eq_true]
        refine m_goesFor (R.ci.fr F1 (by decide)) W.1 (n := m) (by omega) (by omega) (fun h2 R2 F2 => ?_)
        have W2 : WC (goN m (yC S)) := W_goN W.1 m (by omega)
        have hj2 : j < zF (goN m (yC S)) := by rw [goN_F]; exact hj
        have hv := W2.v8 hj2
        have R3 : RR h2 39 (yC S) := R1.fr F2 (by decide)
        have fin : ∀ h3, RR h3 37 (yC S) → Fr Xm h2 h3 → Q (some (.int (nI (if k = 0 then outW (goN m (yC S)) j else zE (goN m (yC S)) (zV (goN m (yC S)) j))))) h3 := fun h3 R4 F4 => K h3 (R.self ((F1.m9.tr F2.m7).tr F4.m7) R4) ((F1.m9.tr F2.m7).tr F4.m7).hi
        by_cases hk0 : k = 0
        · rw [if_pos hk0] at fin
          simp (disch := first | assumption | omega | exact isB_0 | exact isB_1 | exact isB_bI _ | decide) only [e_X6_then_0, e_X6_then_1, e_X6_then_2, e_X6_then_5, e_X6_then_8, e_X6_then_9, e_X6_then_10, e_X6_then_11, e_X6_then_14, e_X6_then_17, e_X6_then_20, e_X6_then_21, e_X6_then_22, e_X6_then_23, e_X6_then_24, e_X6_then_27, e_X6_then_30, e_X6_then_31, e_X6_then_33, e_X6_then_36, e_X6_then_37, e_X6_then_38, e_X6_then_41, e_X6_then_42, e_X6_then_43, e_X6_then_46, e_X6_then_47, e_X6_then_50, e_X6_then_51, e_X6_then_52, e_X6_then_55, e_X6_then_58, e_X6_then_59, e_X6_then_60, e_X6_then_61, e_X6_then_62, e_X6_then_65, e_X6_then_66, e_X6_then_69, e_X6_then_71, e_X6_then_72, e_X6_then_75, e_X6_then_77, m_worthOut R2 W2 hj2, hk0, toL1, toL0, ite_self, if_true, if_false, ite_true, ite_false, nI_add, pk_mul, z_eq, z_lt, z_le, z_ge, z_gt, nI_eq, nI_leI, nI_ltI, bI_0, bI_1, not_true_eq_false, not_false_eq_true]
          refine m_putsBack R3 (fun h3 R4 F4 => ?_)
          simp (disch := first | assumption | omega | exact isB_0 | exact isB_1 | exact isB_bI _ | decide) only [e_X6_then_0, e_X6_then_1, e_X6_then_2, e_X6_then_5, e_X6_then_8, e_X6_then_9, e_X6_then_10, e_X6_then_11, e_X6_then_14, e_X6_then_17, e_X6_then_20, e_X6_then_21, e_X6_then_22, e_X6_then_23, e_X6_then_24, e_X6_then_27, e_X6_then_30, e_X6_then_31, e_X6_then_33, e_X6_then_36, e_X6_then_37, e_X6_then_38, e_X6_then_41, e_X6_then_42, e_X6_then_43, e_X6_then_46, e_X6_then_47, e_X6_then_50, e_X6_then_51, e_X6_then_52, e_X6_then_55, e_X6_then_58, e_X6_then_59, e_X6_then_60, e_X6_then_61, e_X6_then_62, e_X6_then_65, e_X6_then_66, e_X6_then_69, e_X6_then_71, e_X6_then_72, e_X6_then_75, e_X6_then_77, toL1, toL0, ite_self, if_true, if_false, ite_true, ite_false, nI_add, pk_mul, z_eq, z_lt, z_le, z_ge, z_gt, nI_eq, nI_leI, nI_ltI, bI_0, bI_1, not_true_eq_false, not_false_eq_true]
          exact fin h3 R4 F4
        · rw [if_neg hk0] at fin
          simp (disch := first | assumption | omega | exact isB_0 | exact isB_1 | exact isB_bI _ | decide) only [e_X6_then_0, e_X6_then_1, e_X6_then_2, e_X6_then_5, e_X6_then_8, e_X6_then_9, e_X6_then_10, e_X6_then_11, e_X6_then_14, e_X6_then_17, e_X6_then_20, e_X6_then_21, e_X6_then_22, e_X6_then_23, e_X6_then_24, e_X6_then_27, e_X6_then_30, e_X6_then_31, e_X6_then_33, e_X6_then_36, e_X6_then_37, e_X6_then_38, e_X6_then_41, e_X6_then_42, e_X6_then_43, e_X6_then_46, e_X6_then_47, e_X6_then_50, e_X6_then_51, e_X6_then_52, e_X6_then_55, e_X6_then_58, e_X6_then_59, e_X6_then_60, e_X6_then_61, e_X6_then_62, e_X6_then_65, e_X6_then_66, e_X6_then_69, e_X6_then_71, e_X6_then_72, e_X6_then_75, e_X6_then_77, m_aV R2 (show j < 8 by omega), m_iE R2 hv, hk0, toL1, toL0, ite_self, if_true, if_false, ite_true, ite_false, nI_add, pk_mul, z_eq, z_lt, z_le, z_ge, z_gt, nI_eq, nI_leI, nI_ltI, bI_0, bI_1, not_true_eq_false, not_false_eq_true]
          refine m_putsBack R3 (fun h3 R4 F4 => ?_)
          simp (disch := first | assumption | omega | exact isB_0 | exact isB_1 | exact isB_bI _ | decide) only [e_X6_then_0, e_X6_then_1, e_X6_then_2, e_X6_then_5, e_X6_then_8, e_X6_then_9, e_X6_then_10, e_X6_then_11, e_X6_then_14, e_X6_then_17, e_X6_then_20, e_X6_then_21, e_X6_then_22, e_X6_then_23, e_X6_then_24, e_X6_then_27, e_X6_then_30, e_X6_then_31, e_X6_then_33, e_X6_then_36, e_X6_then_37, e_X6_then_38, e_X6_then_41, e_X6_then_42, e_X6_then_43, e_X6_then_46, e_X6_then_47, e_X6_then_50, e_X6_then_51, e_X6_then_52, e_X6_then_55, e_X6_then_58, e_X6_then_59, e_X6_then_60, e_X6_then_61, e_X6_then_62, e_X6_then_65, e_X6_then_66, e_X6_then_69, e_X6_then_71, e_X6_then_72, e_X6_then_75, e_X6_then_77, toL1, toL0, ite_self, if_true, if_false, ite_true, ite_false, nI_add, pk_mul, z_eq, z_lt, z_le, z_ge, z_gt, nI_eq, nI_leI, nI_ltI, bI_0, bI_1, not_true_eq_false, not_false_eq_true]
          exact fin h3 R4 F4
      · rw [if_neg h3] at K
        obtain ⟨m, _, hm, rfl⟩ := vI_of (by decide) h2 (by decide)
        simp (disch := first | assumption | omega | exact isB_0 | exact isB_1 | exact isB_bI _ | decide) only [e_X6_then_0, e_X6_then_1, e_X6_then_2, e_X6_then_5, e_X6_then_8, e_X6_then_9, e_X6_then_10, e_X6_then_11, e_X6_then_14, e_X6_then_17, e_X6_then_20, e_X6_then_21, e_X6_then_22, e_X6_then_23, e_X6_then_24, e_X6_then_27, e_X6_then_30, e_X6_then_31, e_X6_then_33, e_X6_then_36, e_X6_then_37, e_X6_then_38, e_X6_then_41, e_X6_then_42, e_X6_then_43, e_X6_then_46, e_X6_then_47, e_X6_then_50, e_X6_then_51, e_X6_then_52, e_X6_then_55, e_X6_then_58, e_X6_then_59, e_X6_then_60, e_X6_then_61, e_X6_then_62, e_X6_then_65, e_X6_then_66, e_X6_then_69, e_X6_then_71, e_X6_then_72, e_X6_then_75, e_X6_then_77, m_isFrame R.ci W.1, bI_t h1, m_in, hm, bI_f h3, m_f0 R, and_self, and_true, true_and, Nat.zero_le, nI_ltI, toL1, toL0, ite_self, if_true, if_false, ite_true, ite_false, nI_add, pk_mul, z_eq, z_lt, z_le, z_ge, z_gt, nI_eq, nI_leI, nI_ltI, bI_0, bI_1, not_true_eq_false, not_false_eq_true]
        exact m_bad R K
    · rw [if_neg h2] at K
      simp (disch := first | assumption | omega | exact isB_0 | exact isB_1 | exact isB_bI _ | decide) only [e_X6_then_0, e_X6_then_1, e_X6_then_2, e_X6_then_5, e_X6_then_8, e_X6_then_9, e_X6_then_10, e_X6_then_11, e_X6_then_14, e_X6_then_17, e_X6_then_20, e_X6_then_21, e_X6_then_22, e_X6_then_23, e_X6_then_24, e_X6_then_27, e_X6_then_30, e_X6_then_31, e_X6_then_33, e_X6_then_36, e_X6_then_37, e_X6_then_38, e_X6_then_41, e_X6_then_42, e_X6_then_43, e_X6_then_46, e_X6_then_47, e_X6_then_50, e_X6_then_51, e_X6_then_52, e_X6_then_55, e_X6_then_58, e_X6_then_59, e_X6_then_60, e_X6_then_61, e_X6_then_62, e_X6_then_65, e_X6_then_66, e_X6_then_69, e_X6_then_71, e_X6_then_72, e_X6_then_75, e_X6_then_77, m_isFrame R.ci W.1, bI_t h1, m_in, bI_f h2, m_f0 R, and_self, and_true, true_and, Nat.zero_le, nI_ltI, toL1, toL0, ite_self, if_true, if_false, ite_true, ite_false, nI_add, pk_mul, z_eq, z_lt, z_le, z_ge, z_gt, nI_eq, nI_leI, nI_ltI, bI_0, bI_1, not_true_eq_false, not_false_eq_true]
      exact m_bad R K
  · rw [if_neg h1] at K
    simp (disch := first | assumption | omega | exact isB_0 | exact isB_1 | exact isB_bI _ | decide) only [e_X6_then_0, e_X6_then_1, e_X6_then_2, e_X6_then_5, e_X6_then_8, e_X6_then_9, e_X6_then_10, e_X6_then_11, e_X6_then_14, e_X6_then_17, e_X6_then_20, e_X6_then_21, e_X6_then_22, e_X6_then_23, e_X6_then_24, e_X6_then_27, e_X6_then_30, e_X6_then_31, e_X6_then_33, e_X6_then_36, e_X6_then_37, e_X6_then_38, e_X6_then_41, e_X6_then_42, e_X6_then_43, e_X6_then_46, e_X6_then_47, e_X6_then_50, e_X6_then_51, e_X6_then_52, e_X6_then_55, e_X6_then_58, e_X6_then_59, e_X6_then_60, e_X6_then_61, e_X6_then_62, e_X6_then_65, e_X6_then_66, e_X6_then_69, e_X6_then_71, e_X6_then_72, e_X6_then_75, e_X6_then_77, m_isFrame R.ci W.1, bI_f h1, m_f0 R, and_self, and_true, true_and, Nat.zero_le, nI_ltI, toL1, toL0, ite_self, if_true, if_false, ite_true, ite_false, nI_add, pk_mul, z_eq, z_lt, z_le, z_ge, z_gt, nI_eq, nI_leI, nI_ltI, bI_0, bI_1, not_true_eq_false, not_false_eq_true]
    exact m_bad R K
end PUB7
