/-! public methods, both sides: kinds, setting, hours, stones, owners -/
def undB (k q : Nat) : Bool := decide (q = 0) || decide (q = k) || (decide (k = 4) && decide (q = 1)) || (decide (k = 5) && decide (q = 2))
def f_as (a b : Int32) (S : Sy) : Int32 × Sy :=
  if hF a (zF (yC S)) then if nI 0 ≤ b ∧ b ≤ nI 5 then if undB (zK (yC S) (nv a)) (nv b) = true then ok (zE (yC S) (nv a)) S else bad 2 S else bad 0 S else bad 0 S
def onN (C : Cty) : Nat → Nat → Nat
  | 0, f => f
  | n + 1, f => onN C n (zV C f)
def f_stone (a n : Int32) (S : Sy) : Int32 × Sy :=
  if hF a (zF (yC S)) then if nI 0 ≤ n ∧ n ≤ nI 20 then ok (onN (yC S) (nv n) (nv a)) S else bad 0 S else bad 0 S
def f_ownerOf (a w : Int32) (S : Sy) : Int32 × Sy :=
  if nI 0 ≤ a ∧ a ≤ nI 3 then if nI 0 ≤ w ∧ w ≤ nI 3 then (sel6I (nv w) (nI (zM (yC S) (nv a))) (setI (fun i => i) (fun i => decide (zO (yC S) i = nv a)) (zF (yC S))) (setI (zV (yC S)) (fun i => decide (zO (yC S) i = nv a)) (zF (yC S))) (nI (sumN (fun i => if zO (yC S) i = nv a then outW (yC S) i else 0) (zF (yC S)))) 0 0, S) else bad 0 S else bad 0 S
theorem ab_0 : abT.getD 0 0 = -1 := rfl
theorem ab_1 : abT.getD 1 0 = nI 0 := rfl
theorem ab_2 : abT.getD 2 0 = nI 0 := rfl
theorem ab_3 : abT.getD 3 0 = nI 0 := rfl
theorem ab_4 : abT.getD 4 0 = nI 1 := rfl
theorem ab_5 : abT.getD 5 0 = nI 2 := rfl
theorem ab_n : bI (nI 0 ≤ -1 ∧ -1 ≤ nI 5) = nI 0 := by decide
section PUB4
variable {E : En} {h : Hp} {Q : Option Value → Hp → Prop} {S : Sy} {C : Cty}
theorem s_under {k q : Nat} (hk : k < 6) (hq : q < 6) : Ev E mX2_isOrIsUnder 0 [.int (nI k), .int (nI q), .null, .null] [] h Q = Q (some (.int (bI (undB k q = true)))) h := by
  rcases k6 hk with rfl | rfl | rfl | rfl | rfl | rfl <;> rcases k6 hq with rfl | rfl | rfl | rfl | rfl | rfl <;> simp (disch := first | assumption | omega | exact isB_0 | exact isB_1 | exact isB_bI _ | decide) only [e_X2_isOrIsUnder_0, e_X2_isOrIsUnder_1, e_X2_isOrIsUnder_2, e_X2_isOrIsUnder_3, e_X2_isOrIsUnder_4, e_X2_isOrIsUnder_5, e_X2_isOrIsUnder_7, e_X2_isOrIsUnder_10, e_X2_isOrIsUnder_11, e_X2_isOrIsUnder_14, e_X2_isOrIsUnder_17, e_X2_isOrIsUnder_18, e_X2_isOrIsUnder_19, e_X2_isOrIsUnder_22, e_X2_isOrIsUnder_23, e_X2_isOrIsUnder_24, e_X2_isOrIsUnder_27, e_X2_isOrIsUnder_28, e_X2_isOrIsUnder_29, e_X2_isOrIsUnder_30, e_X2_isOrIsUnder_33, e_X2_isOrIsUnder_36, e_X2_isOrIsUnder_37, s_isKind, ab_0, ab_1, ab_2, ab_3, ab_4, ab_5, ab_n, Nat.reduceLeDiff, Nat.reduceEqDiff, Nat.reduceAdd, Nat.one_ne_zero, Nat.zero_ne_one, Nat.le_refl, and_self, and_true, true_and, Nat.zero_le, nI_ltI, toL1, toL0, ite_self, if_true, if_false, ite_true, ite_false, nI_add, pk_mul, z_eq, z_lt, z_le, z_ge, z_gt, nI_eq, nI_leI, nI_ltI, bI_0, bI_1, not_true_eq_false, not_false_eq_true] <;> rfl
theorem v_as (R : RV h S) {a b : Int32} (K : Vo h Q (f_as a b S)) (W : WS S) : Ev E mX5_as 0 [.ref 0, .int a, .int b] [] h Q := by
  have hC := isC_1
  have h8 := W.1.f
  unfold f_as at K
  by_cases h1 : hF a (zF (yC S))
  · rw [if_pos h1] at K
    by_cases h2 : nI 0 ≤ b ∧ b ≤ nI 5
    · rw [if_pos h2] at K
      obtain ⟨j, hj, rfl⟩ := hF_of (by omega) h1
      obtain ⟨k, _, hk, rfl⟩ := vI_of (by decide) h2 (by decide)
      have hj8 : j < 8 := by omega
      have hk6 := W.1.k hj8
      rw [nv_nI (by omega), nv_nI (by omega)] at K
      by_cases h3 : undB (zK (yC S) j) k = true
      · rw [if_pos h3] at K
        simp (disch := first | assumption | omega | exact isB_0 | exact isB_1 | exact isB_bI _ | decide) only [e_X5_as_0, e_X5_as_1, e_X5_as_4, e_X5_as_5, e_X5_as_8, e_X5_as_11, e_X5_as_12, e_X5_as_15, e_X5_as_18, e_X5_as_19, e_X5_as_20, e_X5_as_23, e_X5_as_24, e_X5_as_25, e_X5_as_28, e_X5_as_31, e_X5_as_32, e_X5_as_33, e_X5_as_34, e_X5_as_37, e_X5_as_40, e_X5_as_41, e_X5_as_42, e_X5_as_45, e_X5_as_46, e_X5_as_47, e_X5_as_50, e_X5_as_53, e_X5_as_54, e_X5_as_55, c_hasView isC_1 R.ci W.1, bI_t h1, s_isKind, hk, R.ci.K hj8, R.ci.E hj8, s_under hk6 (show k < 6 by omega), bI_t h3, and_self, and_true, true_and, Nat.zero_le, nI_ltI, toL1, toL0, ite_self, if_true, if_false, ite_true, ite_false, nI_add, pk_mul, z_eq, z_lt, z_le, z_ge, z_gt, nI_eq, nI_leI, nI_ltI, bI_0, bI_1, not_true_eq_false, not_false_eq_true]
        exact K _ R Fr.rf
      · rw [if_neg h3] at K
        simp (disch := first | assumption | omega | exact isB_0 | exact isB_1 | exact isB_bI _ | decide) only [e_X5_as_0, e_X5_as_1, e_X5_as_4, e_X5_as_5, e_X5_as_8, e_X5_as_11, e_X5_as_12, e_X5_as_15, e_X5_as_18, e_X5_as_19, e_X5_as_20, e_X5_as_23, e_X5_as_24, e_X5_as_25, e_X5_as_28, e_X5_as_31, e_X5_as_32, e_X5_as_33, e_X5_as_34, e_X5_as_37, e_X5_as_40, e_X5_as_41, e_X5_as_42, e_X5_as_45, e_X5_as_46, e_X5_as_47, e_X5_as_50, e_X5_as_53, e_X5_as_54, e_X5_as_55, c_hasView isC_1 R.ci W.1, bI_t h1, s_isKind, hk, R.ci.K hj8, R.ci.E hj8, s_under hk6 (show k < 6 by omega), bI_f h3, v_tell R, and_self, and_true, true_and, Nat.zero_le, nI_ltI, toL1, toL0, ite_self, if_true, if_false, ite_true, ite_false, nI_add, pk_mul, z_eq, z_lt, z_le, z_ge, z_gt, nI_eq, nI_leI, nI_ltI, bI_0, bI_1, not_true_eq_false, not_false_eq_true]
        exact v_bad R K
    · rw [if_neg h2] at K
      simp (disch := first | assumption | omega | exact isB_0 | exact isB_1 | exact isB_bI _ | decide) only [e_X5_as_0, e_X5_as_1, e_X5_as_4, e_X5_as_5, e_X5_as_8, e_X5_as_11, e_X5_as_12, e_X5_as_15, e_X5_as_18, e_X5_as_19, e_X5_as_20, e_X5_as_23, e_X5_as_24, e_X5_as_25, e_X5_as_28, e_X5_as_31, e_X5_as_32, e_X5_as_33, e_X5_as_34, e_X5_as_37, e_X5_as_40, e_X5_as_41, e_X5_as_42, e_X5_as_45, e_X5_as_46, e_X5_as_47, e_X5_as_50, e_X5_as_53, e_X5_as_54, e_X5_as_55, c_hasView isC_1 R.ci W.1, bI_t h1, s_isKind, bI_f h2, v_tell R, and_self, and_true, true_and, Nat.zero_le, nI_ltI, toL1, toL0, ite_self, if_true, if_false, ite_true, ite_false, nI_add, pk_mul, z_eq, z_lt, z_le, z_ge, z_gt, nI_eq, nI_leI, nI_ltI, bI_0, bI_1, not_true_eq_false, not_false_eq_true]
      exact v_bad R K
  · rw [if_neg h1] at K
    simp (disch := first | assumption | omega | exact isB_0 | exact isB_1 | exact isB_bI _ | decide) only [e_X5_as_0, e_X5_as_1, e_X5_as_4, e_X5_as_5, e_X5_as_8, e_X5_as_11, e_X5_as_12, e_X5_as_15, e_X5_as_18, e_X5_as_19, e_X5_as_20, e_X5_as_23, e_X5_as_24, e_X5_as_25, e_X5_as_28, e_X5_as_31, e_X5_as_32, e_X5_as_33, e_X5_as_34, e_X5_as_37, e_X5_as_40, e_X5_as_41, e_X5_as_42, e_X5_as_45, e_X5_as_46, e_X5_as_47, e_X5_as_50, e_X5_as_53, e_X5_as_54, e_X5_as_55, c_hasView isC_1 R.ci W.1, bI_f h1, v_tell R, and_self, and_true, true_and, Nat.zero_le, nI_ltI, toL1, toL0, ite_self, if_true, if_false, ite_true, ite_false, nI_add, pk_mul, z_eq, z_lt, z_le, z_ge, z_gt, nI_eq, nI_leI, nI_ltI, bI_0, bI_1, not_true_eq_false, not_false_eq_true]
    exact v_bad R K
theorem v_set (R : RV h S) {a w b : Int32} (K : Vo h Q (f_set a w b S)) (W : WS S) : Ev E mX5_set 0 [.ref 0, .int a, .int w, .int b, .null] [] h Q := by
  have hC := isC_1
  have h8 := W.1.f
  unfold f_set at K
  by_cases h1 : hF a (zF (yC S))
  · rw [if_pos h1] at K
    obtain ⟨j, hj, rfl⟩ := hF_of (by omega) h1
    rw [nv_nI (by omega)] at K
    by_cases h2 : w = nI 0
    · subst h2
      by_cases h3 : nI 0 ≤ b ∧ b ≤ nI 3
      · rw [if_pos ⟨rfl, h3⟩] at K
        obtain ⟨k, _, hk, rfl⟩ := vI_of (by decide) h3 (by decide)
        rw [nv_nI (by omega)] at K
        simp (disch := first | assumption | omega | exact isB_0 | exact isB_1 | exact isB_bI _ | decide) only [e_X5_set_0, e_X5_set_1, e_X5_set_4, e_X5_set_5, e_X5_set_8, e_X5_set_11, e_X5_set_12, e_X5_set_13, e_X5_set_16, e_X5_set_17, e_X5_set_18, e_X5_set_21, e_X5_set_22, e_X5_set_25, e_X5_set_28, e_X5_set_29, e_X5_set_32, e_X5_set_35, e_X5_set_36, e_X5_set_37, e_X5_set_39, e_X5_set_40, e_X5_set_43, e_X5_set_46, e_X5_set_47, e_X5_set_48, e_X5_set_49, e_X5_set_51, e_X5_set_52, e_X5_set_53, e_X5_set_54, e_X5_set_57, e_X5_set_58, e_X5_set_59, e_X5_set_60, e_X5_set_63, e_X5_set_66, e_X5_set_67, e_X5_set_70, e_X5_set_73, e_X5_set_74, e_X5_set_75, e_X5_set_77, e_X5_set_78, e_X5_set_81, e_X5_set_84, e_X5_set_85, e_X5_set_86, e_X5_set_87, e_X5_set_89, e_X5_set_90, e_X5_set_91, e_X5_set_92, e_X5_set_95, c_hasFrame isC_1 R.ci W.1, bI_t h1, s_isOwner, hk, R.ci.O (show j < 8 by omega), and_self, and_true, true_and, Nat.zero_le, nI_ltI, toL1, toL0, ite_self, if_true, if_false, ite_true, ite_false, nI_add, pk_mul, z_eq, z_lt, z_le, z_ge, z_gt, nI_eq, nI_leI, nI_ltI, bI_0, bI_1, not_true_eq_false, not_false_eq_true]
        exact K _ (R.city (R.ci.setO j k) (xvA (by decide) (by decide))) (lowA (by decide))
      · rw [if_neg (fun z => h3 z.2), if_neg (fun z => absurd z.1 (by decide))] at K
        simp (disch := first | assumption | omega | exact isB_0 | exact isB_1 | exact isB_bI _ | decide) only [e_X5_set_0, e_X5_set_1, e_X5_set_4, e_X5_set_5, e_X5_set_8, e_X5_set_11, e_X5_set_12, e_X5_set_13, e_X5_set_16, e_X5_set_17, e_X5_set_18, e_X5_set_21, e_X5_set_22, e_X5_set_25, e_X5_set_28, e_X5_set_29, e_X5_set_32, e_X5_set_35, e_X5_set_36, e_X5_set_37, e_X5_set_39, e_X5_set_40, e_X5_set_43, e_X5_set_46, e_X5_set_47, e_X5_set_48, e_X5_set_49, e_X5_set_51, e_X5_set_52, e_X5_set_53, e_X5_set_54, e_X5_set_57, e_X5_set_58, e_X5_set_59, e_X5_set_60, e_X5_set_63, e_X5_set_66, e_X5_set_67, e_X5_set_70, e_X5_set_73, e_X5_set_74, e_X5_set_75, e_X5_set_77, e_X5_set_78, e_X5_set_81, e_X5_set_84, e_X5_set_85, e_X5_set_86, e_X5_set_87, e_X5_set_89, e_X5_set_90, e_X5_set_91, e_X5_set_92, e_X5_set_95, c_hasFrame isC_1 R.ci W.1, bI_t h1, s_isOwner, bI_f h3, v_tell R, Nat.zero_ne_one, and_self, and_true, true_and, Nat.zero_le, nI_ltI, toL1, toL0, ite_self, if_true, if_false, ite_true, ite_false, nI_add, pk_mul, z_eq, z_lt, z_le, z_ge, z_gt, nI_eq, nI_leI, nI_ltI, bI_0, bI_1, not_true_eq_false, not_false_eq_true]
        exact v_bad R K
    · rw [if_neg (fun z => h2 z.1)] at K
      have h2z : ¬ w = 0 := h2
      by_cases h4 : w = nI 1
      · subst h4
        by_cases h3 : nI 0 ≤ b ∧ b ≤ nI 1
        · rw [if_pos ⟨rfl, h3⟩] at K
          obtain ⟨k, _, hk, rfl⟩ := vI_of (by decide) h3 (by decide)
          rw [nv_nI (by omega)] at K
          simp (disch := first | assumption | omega | exact isB_0 | exact isB_1 | exact isB_bI _ | decide) only [e_X5_set_0, e_X5_set_1, e_X5_set_4, e_X5_set_5, e_X5_set_8, e_X5_set_11, e_X5_set_12, e_X5_set_13, e_X5_set_16, e_X5_set_17, e_X5_set_18, e_X5_set_21, e_X5_set_22, e_X5_set_25, e_X5_set_28, e_X5_set_29, e_X5_set_32, e_X5_set_35, e_X5_set_36, e_X5_set_37, e_X5_set_39, e_X5_set_40, e_X5_set_43, e_X5_set_46, e_X5_set_47, e_X5_set_48, e_X5_set_49, e_X5_set_51, e_X5_set_52, e_X5_set_53, e_X5_set_54, e_X5_set_57, e_X5_set_58, e_X5_set_59, e_X5_set_60, e_X5_set_63, e_X5_set_66, e_X5_set_67, e_X5_set_70, e_X5_set_73, e_X5_set_74, e_X5_set_75, e_X5_set_77, e_X5_set_78, e_X5_set_81, e_X5_set_84, e_X5_set_85, e_X5_set_86, e_X5_set_87, e_X5_set_89, e_X5_set_90, e_X5_set_91, e_X5_set_92, e_X5_set_95, c_hasFrame isC_1 R.ci W.1, bI_t h1, s_isWithin, hk, R.ci.U (show j < 8 by omega), Nat.one_ne_zero, and_self, and_true, true_and, Nat.zero_le, nI_ltI, toL1, toL0, ite_self, if_true, if_false, ite_true, ite_false, nI_add, pk_mul, z_eq, z_lt, z_le, z_ge, z_gt, nI_eq, nI_leI, nI_ltI, bI_0, bI_1, not_true_eq_false, not_false_eq_true]
          exact K _ (R.city (R.ci.setU j k) (xvA (by decide) (by decide))) (lowA (by decide))
        · rw [if_neg (fun z => h3 z.2)] at K
          simp (disch := first | assumption | omega | exact isB_0 | exact isB_1 | exact isB_bI _ | decide) only [e_X5_set_0, e_X5_set_1, e_X5_set_4, e_X5_set_5, e_X5_set_8, e_X5_set_11, e_X5_set_12, e_X5_set_13, e_X5_set_16, e_X5_set_17, e_X5_set_18, e_X5_set_21, e_X5_set_22, e_X5_set_25, e_X5_set_28, e_X5_set_29, e_X5_set_32, e_X5_set_35, e_X5_set_36, e_X5_set_37, e_X5_set_39, e_X5_set_40, e_X5_set_43, e_X5_set_46, e_X5_set_47, e_X5_set_48, e_X5_set_49, e_X5_set_51, e_X5_set_52, e_X5_set_53, e_X5_set_54, e_X5_set_57, e_X5_set_58, e_X5_set_59, e_X5_set_60, e_X5_set_63, e_X5_set_66, e_X5_set_67, e_X5_set_70, e_X5_set_73, e_X5_set_74, e_X5_set_75, e_X5_set_77, e_X5_set_78, e_X5_set_81, e_X5_set_84, e_X5_set_85, e_X5_set_86, e_X5_set_87, e_X5_set_89, e_X5_set_90, e_X5_set_91, e_X5_set_92, e_X5_set_95, c_hasFrame isC_1 R.ci W.1, bI_t h1, s_isWithin, bI_f h3, v_tell R, Nat.one_ne_zero, and_self, and_true, true_and, Nat.zero_le, nI_ltI, toL1, toL0, ite_self, if_true, if_false, ite_true, ite_false, nI_add, pk_mul, z_eq, z_lt, z_le, z_ge, z_gt, nI_eq, nI_leI, nI_ltI, bI_0, bI_1, not_true_eq_false, not_false_eq_true]
          exact v_bad R K
      · rw [if_neg (fun z => h4 z.1)] at K
        simp (disch := first | assumption | omega | exact isB_0 | exact isB_1 | exact isB_bI _ | decide) only [e_X5_set_0, e_X5_set_1, e_X5_set_4, e_X5_set_5, e_X5_set_8, e_X5_set_11, e_X5_set_12, e_X5_set_13, e_X5_set_16, e_X5_set_17, e_X5_set_18, e_X5_set_21, e_X5_set_22, e_X5_set_25, e_X5_set_28, e_X5_set_29, e_X5_set_32, e_X5_set_35, e_X5_set_36, e_X5_set_37, e_X5_set_39, e_X5_set_40, e_X5_set_43, e_X5_set_46, e_X5_set_47, e_X5_set_48, e_X5_set_49, e_X5_set_51, e_X5_set_52, e_X5_set_53, e_X5_set_54, e_X5_set_57, e_X5_set_58, e_X5_set_59, e_X5_set_60, e_X5_set_63, e_X5_set_66, e_X5_set_67, e_X5_set_70, e_X5_set_73, e_X5_set_74, e_X5_set_75, e_X5_set_77, e_X5_set_78, e_X5_set_81, e_X5_set_84, e_X5_set_85, e_X5_set_86, e_X5_set_87, e_X5_set_89, e_X5_set_90, e_X5_set_91, e_X5_set_92, e_X5_set_95, c_hasFrame isC_1 R.ci W.1, bI_t h1, h2z, h4, v_tell R, and_self, and_true, true_and, Nat.zero_le, nI_ltI, toL1, toL0, ite_self, if_true, if_false, ite_true, ite_false, nI_add, pk_mul, z_eq, z_lt, z_le, z_ge, z_gt, nI_eq, nI_leI, nI_ltI, bI_0, bI_1, not_true_eq_false, not_false_eq_true]
        exact v_bad R K
  · rw [if_neg h1] at K
    simp (disch := first | assumption | omega | exact isB_0 | exact isB_1 | exact isB_bI _ | decide) only [e_X5_set_0, e_X5_set_1, e_X5_set_4, e_X5_set_5, e_X5_set_8, e_X5_set_11, e_X5_set_12, e_X5_set_13, e_X5_set_16, e_X5_set_17, e_X5_set_18, e_X5_set_21, e_X5_set_22, e_X5_set_25, e_X5_set_28, e_X5_set_29, e_X5_set_32, e_X5_set_35, e_X5_set_36, e_X5_set_37, e_X5_set_39, e_X5_set_40, e_X5_set_43, e_X5_set_46, e_X5_set_47, e_X5_set_48, e_X5_set_49, e_X5_set_51, e_X5_set_52, e_X5_set_53, e_X5_set_54, e_X5_set_57, e_X5_set_58, e_X5_set_59, e_X5_set_60, e_X5_set_63, e_X5_set_66, e_X5_set_67, e_X5_set_70, e_X5_set_73, e_X5_set_74, e_X5_set_75, e_X5_set_77, e_X5_set_78, e_X5_set_81, e_X5_set_84, e_X5_set_85, e_X5_set_86, e_X5_set_87, e_X5_set_89, e_X5_set_90, e_X5_set_91, e_X5_set_92, e_X5_set_95, c_hasFrame isC_1 R.ci W.1, bI_f h1, v_tell R, and_self, and_true, true_and, Nat.zero_le, nI_ltI, toL1, toL0, ite_self, if_true, if_false, ite_true, ite_false, nI_add, pk_mul, z_eq, z_lt, z_le, z_ge, z_gt, nI_eq, nI_leI, nI_ltI, bI_0, bI_1, not_true_eq_false, not_false_eq_true]
    exact v_bad R K
theorem v_hL (n : Nat) (W : WS S) (hn : zH (yC S) + n ≤ 200000) (hn2 : n ≤ 1000) (K : ∀ h', RC h' 1 (goN n (yC S)) → Fr Xv h h' → Ev E mX5_hours 57 [.ref 0, .int (nI n), .int (nI n)] [] h' Q) : ∀ (d k : Nat) (h' : Hp), k + d = n → RC h' 1 (goN k (yC S)) → Fr Xv h h' → Ev E mX5_hours 39 [.ref 0, .int (nI n), .int (nI k)] [] h' Q := by
  have hC := isC_1
  intro d
  induction d with
  | zero =>
    intro k h' e R F
    rw [e_X5_hours_39]
    simp (disch := first | assumption | omega | exact isB_0 | exact isB_1 | exact isB_bI _ | decide) only [e_X5_hours_0, e_X5_hours_1, e_X5_hours_2, e_X5_hours_5, e_X5_hours_8, e_X5_hours_11, e_X5_hours_12, e_X5_hours_13, e_X5_hours_16, e_X5_hours_17, e_X5_hours_18, e_X5_hours_21, e_X5_hours_24, e_X5_hours_25, e_X5_hours_26, e_X5_hours_28, e_X5_hours_31, e_X5_hours_32, e_X5_hours_33, e_X5_hours_36, e_X5_hours_37, e_X5_hours_38, e_X5_hours_40, e_X5_hours_41, e_X5_hours_44, e_X5_hours_45, e_X5_hours_48, e_X5_hours_51, e_X5_hours_54, e_X5_hours_58, e_X5_hours_61, e_X5_hours_64, toL1, toL0, ite_self, if_true, if_false, ite_true, ite_false, nI_add, pk_mul, z_eq, z_lt, z_le, z_ge, z_gt, nI_eq, nI_leI, nI_ltI, bI_0, bI_1, not_true_eq_false, not_false_eq_true]
    rw [if_pos (by omega)]
    rw [show k = n by omega] at R ⊢
    exact K h' R F
  | succ d ih =>
    intro k h' e R F
    rw [e_X5_hours_39]
    simp (disch := first | assumption | omega | exact isB_0 | exact isB_1 | exact isB_bI _ | decide) only [e_X5_hours_0, e_X5_hours_1, e_X5_hours_2, e_X5_hours_5, e_X5_hours_8, e_X5_hours_11, e_X5_hours_12, e_X5_hours_13, e_X5_hours_16, e_X5_hours_17, e_X5_hours_18, e_X5_hours_21, e_X5_hours_24, e_X5_hours_25, e_X5_hours_26, e_X5_hours_28, e_X5_hours_31, e_X5_hours_32, e_X5_hours_33, e_X5_hours_36, e_X5_hours_37, e_X5_hours_38, e_X5_hours_40, e_X5_hours_41, e_X5_hours_44, e_X5_hours_45, e_X5_hours_48, e_X5_hours_51, e_X5_hours_54, e_X5_hours_58, e_X5_hours_61, e_X5_hours_64, toL1, toL0, ite_self, if_true, if_false, ite_true, ite_false, nI_add, pk_mul, z_eq, z_lt, z_le, z_ge, z_gt, nI_eq, nI_leI, nI_ltI, bI_0, bI_1, not_true_eq_false, not_false_eq_true]
    rw [if_neg (by omega)]
    refine c_passHour isC_1 R (W_goN W.1 k (by omega)) (fun h2 R2 F2 => ?_)
    simp (disch := first | assumption | omega | exact isB_0 | exact isB_1 | exact isB_bI _ | decide) only [e_X5_hours_0, e_X5_hours_1, e_X5_hours_2, e_X5_hours_5, e_X5_hours_8, e_X5_hours_11, e_X5_hours_12, e_X5_hours_13, e_X5_hours_16, e_X5_hours_17, e_X5_hours_18, e_X5_hours_21, e_X5_hours_24, e_X5_hours_25, e_X5_hours_26, e_X5_hours_28, e_X5_hours_31, e_X5_hours_32, e_X5_hours_33, e_X5_hours_36, e_X5_hours_37, e_X5_hours_38, e_X5_hours_40, e_X5_hours_41, e_X5_hours_44, e_X5_hours_45, e_X5_hours_48, e_X5_hours_51, e_X5_hours_54, e_X5_hours_58, e_X5_hours_61, e_X5_hours_64, toL1, toL0, ite_self, if_true, if_false, ite_true, ite_false, nI_add, pk_mul, z_eq, z_lt, z_le, z_ge, z_gt, nI_eq, nI_leI, nI_ltI, bI_0, bI_1, not_true_eq_false, not_false_eq_true]
    exact ih (k + 1) h2 (by omega) R2 (F.tr F2.c1)
theorem v_hours (R : RV h S) {n : Int32} (K : Vo h Q (f_hours n S)) (W : WS S) : Ev E mX5_hours 0 [.ref 0, .int n, .null] [] h Q := by
  have hC := isC_1
  have hh := W.2.1
  unfold f_hours at K
  by_cases h1 : nI 1 ≤ n ∧ n ≤ nI 200
  · rw [if_pos h1] at K
    obtain ⟨j, hj1, hj, rfl⟩ := vI_of (by decide) h1 (by decide)
    rw [nv_nI (by omega)] at K
    by_cases h2 : zH (yC S) + j ≤ 99999
    · rw [if_pos h2] at K
      simp (disch := first | assumption | omega | exact isB_0 | exact isB_1 | exact isB_bI _ | decide) only [e_X5_hours_0, e_X5_hours_1, e_X5_hours_2, e_X5_hours_5, e_X5_hours_8, e_X5_hours_11, e_X5_hours_12, e_X5_hours_13, e_X5_hours_16, e_X5_hours_17, e_X5_hours_18, e_X5_hours_21, e_X5_hours_24, e_X5_hours_25, e_X5_hours_26, e_X5_hours_28, e_X5_hours_31, e_X5_hours_32, e_X5_hours_33, e_X5_hours_36, e_X5_hours_37, e_X5_hours_38, e_X5_hours_40, e_X5_hours_41, e_X5_hours_44, e_X5_hours_45, e_X5_hours_48, e_X5_hours_51, e_X5_hours_54, e_X5_hours_57, e_X5_hours_58, e_X5_hours_61, e_X5_hours_64, s_isWithin, hj, hj1, R.ci.H, h2, and_self, and_true, true_and, Nat.zero_le, nI_ltI, toL1, toL0, ite_self, if_true, if_false, ite_true, ite_false, nI_add, pk_mul, z_eq, z_lt, z_le, z_ge, z_gt, nI_eq, nI_leI, nI_ltI, bI_0, bI_1, not_true_eq_false, not_false_eq_true]
      refine v_hL j W (by omega) (by omega) (fun h' R' F' => ?_) j 0 h (by omega) R.ci Fr.rf
      rw [e_X5_hours_57]
      simp (disch := first | assumption | omega | exact isB_0 | exact isB_1 | exact isB_bI _ | decide) only [e_X5_hours_0, e_X5_hours_1, e_X5_hours_2, e_X5_hours_5, e_X5_hours_8, e_X5_hours_11, e_X5_hours_12, e_X5_hours_13, e_X5_hours_16, e_X5_hours_17, e_X5_hours_18, e_X5_hours_21, e_X5_hours_24, e_X5_hours_25, e_X5_hours_26, e_X5_hours_28, e_X5_hours_31, e_X5_hours_32, e_X5_hours_33, e_X5_hours_36, e_X5_hours_37, e_X5_hours_38, e_X5_hours_40, e_X5_hours_41, e_X5_hours_44, e_X5_hours_45, e_X5_hours_48, e_X5_hours_51, e_X5_hours_54, e_X5_hours_58, e_X5_hours_61, e_X5_hours_64, c_moneyInAll isC_1 R', toL1, toL0, ite_self, if_true, if_false, ite_true, ite_false, nI_add, pk_mul, z_eq, z_lt, z_le, z_ge, z_gt, nI_eq, nI_leI, nI_ltI, bI_0, bI_1, not_true_eq_false, not_false_eq_true]
      exact K _ (R.city R' F') F'.lo
    · rw [if_neg h2] at K
      simp (disch := first | assumption | omega | exact isB_0 | exact isB_1 | exact isB_bI _ | decide) only [e_X5_hours_0, e_X5_hours_1, e_X5_hours_2, e_X5_hours_5, e_X5_hours_8, e_X5_hours_11, e_X5_hours_12, e_X5_hours_13, e_X5_hours_16, e_X5_hours_17, e_X5_hours_18, e_X5_hours_21, e_X5_hours_24, e_X5_hours_25, e_X5_hours_26, e_X5_hours_28, e_X5_hours_31, e_X5_hours_32, e_X5_hours_33, e_X5_hours_36, e_X5_hours_37, e_X5_hours_38, e_X5_hours_40, e_X5_hours_41, e_X5_hours_44, e_X5_hours_45, e_X5_hours_48, e_X5_hours_51, e_X5_hours_54, e_X5_hours_57, e_X5_hours_58, e_X5_hours_61, e_X5_hours_64, s_isWithin, hj, hj1, R.ci.H, h2, v_tell R, and_self, and_true, true_and, Nat.zero_le, nI_ltI, toL1, toL0, ite_self, if_true, if_false, ite_true, ite_false, nI_add, pk_mul, z_eq, z_lt, z_le, z_ge, z_gt, nI_eq, nI_leI, nI_ltI, bI_0, bI_1, not_true_eq_false, not_false_eq_true]
      exact v_bad R K
  · rw [if_neg h1] at K
    simp (disch := first | assumption | omega | exact isB_0 | exact isB_1 | exact isB_bI _ | decide) only [e_X5_hours_0, e_X5_hours_1, e_X5_hours_2, e_X5_hours_5, e_X5_hours_8, e_X5_hours_11, e_X5_hours_12, e_X5_hours_13, e_X5_hours_16, e_X5_hours_17, e_X5_hours_18, e_X5_hours_21, e_X5_hours_24, e_X5_hours_25, e_X5_hours_26, e_X5_hours_28, e_X5_hours_31, e_X5_hours_32, e_X5_hours_33, e_X5_hours_36, e_X5_hours_37, e_X5_hours_38, e_X5_hours_40, e_X5_hours_41, e_X5_hours_44, e_X5_hours_45, e_X5_hours_48, e_X5_hours_51, e_X5_hours_54, e_X5_hours_57, e_X5_hours_58, e_X5_hours_61, e_X5_hours_64, s_isWithin, bI_f h1, v_tell R, and_self, and_true, true_and, Nat.zero_le, nI_ltI, toL1, toL0, ite_self, if_true, if_false, ite_true, ite_false, nI_add, pk_mul, z_eq, z_lt, z_le, z_ge, z_gt, nI_eq, nI_leI, nI_ltI, bI_0, bI_1, not_true_eq_false, not_false_eq_true]
    exact v_bad R K
theorem onN_lt {C : Cty} (W : WC C) : ∀ n f, f < zF C → onN C n f < zF C
  | 0, _, hf => hf
  | n + 1, _, hf => onN_lt W n _ (W.v hf)
theorem v_stL (R : RC h 1 C) (W : WC C) {n a : Nat} (hn : n ≤ 20) (x : Int32) : ∀ (d k f : Nat), k + d = n → f < zF C → Ev E mX5_stone 32 [.ref 0, .int x, .int (nI n), .int (nI f), .int (nI k)] [] h Q = Q (some (.int (nI (onN C d f)))) h := by
  have hC := isC_1
  have h8 := W.f
  intro d
  induction d with
  | zero =>
    intro k f e hf
    rw [e_X5_stone_32]
    simp (disch := first | assumption | omega | exact isB_0 | exact isB_1 | exact isB_bI _ | decide) only [e_X5_stone_0, e_X5_stone_1, e_X5_stone_4, e_X5_stone_5, e_X5_stone_8, e_X5_stone_11, e_X5_stone_12, e_X5_stone_13, e_X5_stone_15, e_X5_stone_18, e_X5_stone_21, e_X5_stone_22, e_X5_stone_23, e_X5_stone_26, e_X5_stone_27, e_X5_stone_28, e_X5_stone_29, e_X5_stone_30, e_X5_stone_34, e_X5_stone_35, e_X5_stone_38, e_X5_stone_39, e_X5_stone_42, e_X5_stone_45, e_X5_stone_46, e_X5_stone_47, e_X5_stone_48, e_X5_stone_51, e_X5_stone_54, e_X5_stone_55, toL1, toL0, ite_self, if_true, if_false, ite_true, ite_false, nI_add, pk_mul, z_eq, z_lt, z_le, z_ge, z_gt, nI_eq, nI_leI, nI_ltI, bI_0, bI_1, not_true_eq_false, not_false_eq_true]
    rw [if_pos (by omega)]
    rfl
  | succ d ih =>
    intro k f e hf
    rw [e_X5_stone_32]
    simp (disch := first | assumption | omega | exact isB_0 | exact isB_1 | exact isB_bI _ | decide) only [e_X5_stone_0, e_X5_stone_1, e_X5_stone_4, e_X5_stone_5, e_X5_stone_8, e_X5_stone_11, e_X5_stone_12, e_X5_stone_13, e_X5_stone_15, e_X5_stone_18, e_X5_stone_21, e_X5_stone_22, e_X5_stone_23, e_X5_stone_26, e_X5_stone_27, e_X5_stone_28, e_X5_stone_29, e_X5_stone_30, e_X5_stone_34, e_X5_stone_35, e_X5_stone_38, e_X5_stone_39, e_X5_stone_42, e_X5_stone_45, e_X5_stone_46, e_X5_stone_47, e_X5_stone_48, e_X5_stone_51, e_X5_stone_54, e_X5_stone_55, R.V (show f < 8 by omega), toL1, toL0, ite_self, if_true, if_false, ite_true, ite_false, nI_add, pk_mul, z_eq, z_lt, z_le, z_ge, z_gt, nI_eq, nI_leI, nI_ltI, bI_0, bI_1, not_true_eq_false, not_false_eq_true]
    rw [if_neg (by omega)]
    exact ih (k + 1) (zV C f) (by omega) (W.v hf)
theorem v_stone (R : RV h S) {a n : Int32} (K : Vo h Q (f_stone a n S)) (W : WS S) : Ev E mX5_stone 0 [.ref 0, .int a, .int n, .null, .null] [] h Q := by
  have hC := isC_1
  have h8 := W.1.f
  unfold f_stone at K
  by_cases h1 : hF a (zF (yC S))
  · rw [if_pos h1] at K
    by_cases h2 : nI 0 ≤ n ∧ n ≤ nI 20
    · rw [if_pos h2] at K
      obtain ⟨j, hj, rfl⟩ := hF_of (by omega) h1
      obtain ⟨k, _, hk, rfl⟩ := vI_of (by decide) h2 (by decide)
      rw [nv_nI (by omega), nv_nI (by omega)] at K
      simp (disch := first | assumption | omega | exact isB_0 | exact isB_1 | exact isB_bI _ | decide) only [e_X5_stone_0, e_X5_stone_1, e_X5_stone_4, e_X5_stone_5, e_X5_stone_8, e_X5_stone_11, e_X5_stone_12, e_X5_stone_13, e_X5_stone_15, e_X5_stone_18, e_X5_stone_21, e_X5_stone_22, e_X5_stone_23, e_X5_stone_26, e_X5_stone_27, e_X5_stone_28, e_X5_stone_29, e_X5_stone_30, e_X5_stone_34, e_X5_stone_35, e_X5_stone_38, e_X5_stone_39, e_X5_stone_42, e_X5_stone_45, e_X5_stone_46, e_X5_stone_47, e_X5_stone_48, e_X5_stone_51, e_X5_stone_54, e_X5_stone_55, c_hasFrame isC_1 R.ci W.1, bI_t h1, s_isWithin, hk, and_self, and_true, true_and, Nat.zero_le, nI_ltI, toL1, toL0, ite_self, if_true, if_false, ite_true, ite_false, nI_add, pk_mul, z_eq, z_lt, z_le, z_ge, z_gt, nI_eq, nI_leI, nI_ltI, bI_0, bI_1, not_true_eq_false, not_false_eq_true]
      rw [v_stL (a := 0) R.ci W.1 hk _ k 0 j (by omega) hj]
      exact K _ R Fr.rf
    · rw [if_neg h2] at K
      simp (disch := first | assumption | omega | exact isB_0 | exact isB_1 | exact isB_bI _ | decide) only [e_X5_stone_0, e_X5_stone_1, e_X5_stone_4, e_X5_stone_5, e_X5_stone_8, e_X5_stone_11, e_X5_stone_12, e_X5_stone_13, e_X5_stone_15, e_X5_stone_18, e_X5_stone_21, e_X5_stone_22, e_X5_stone_23, e_X5_stone_26, e_X5_stone_27, e_X5_stone_28, e_X5_stone_29, e_X5_stone_30, e_X5_stone_34, e_X5_stone_35, e_X5_stone_38, e_X5_stone_39, e_X5_stone_42, e_X5_stone_45, e_X5_stone_46, e_X5_stone_47, e_X5_stone_48, e_X5_stone_51, e_X5_stone_54, e_X5_stone_55, c_hasFrame isC_1 R.ci W.1, bI_t h1, s_isWithin, bI_f h2, v_tell R, and_self, and_true, true_and, Nat.zero_le, nI_ltI, toL1, toL0, ite_self, if_true, if_false, ite_true, ite_false, nI_add, pk_mul, z_eq, z_lt, z_le, z_ge, z_gt, nI_eq, nI_leI, nI_ltI, bI_0, bI_1, not_true_eq_false, not_false_eq_true]
      exact v_bad R K
  · rw [if_neg h1] at K
    simp (disch := first | assumption | omega | exact isB_0 | exact isB_1 | exact isB_bI _ | decide) only [e_X5_stone_0, e_X5_stone_1, e_X5_stone_4, e_X5_stone_5, e_X5_stone_8, e_X5_stone_11, e_X5_stone_12, e_X5_stone_13, e_X5_stone_15, e_X5_stone_18, e_X5_stone_21, e_X5_stone_22, e_X5_stone_23, e_X5_stone_26, e_X5_stone_27, e_X5_stone_28, e_X5_stone_29, e_X5_stone_30, e_X5_stone_34, e_X5_stone_35, e_X5_stone_38, e_X5_stone_39, e_X5_stone_42, e_X5_stone_45, e_X5_stone_46, e_X5_stone_47, e_X5_stone_48, e_X5_stone_51, e_X5_stone_54, e_X5_stone_55, c_hasFrame isC_1 R.ci W.1, bI_f h1, v_tell R, and_self, and_true, true_and, Nat.zero_le, nI_ltI, toL1, toL0, ite_self, if_true, if_false, ite_true, ite_false, nI_add, pk_mul, z_eq, z_lt, z_le, z_ge, z_gt, nI_eq, nI_leI, nI_ltI, bI_0, bI_1, not_true_eq_false, not_false_eq_true]
    exact v_bad R K
theorem v_ownerOf (R : RV h S) {a w : Int32} (K : Vo h Q (f_ownerOf a w S)) (W : WS S) : Ev E mX5_ownerOf 0 [.ref 0, .int a, .int w] [] h Q := by
  have hC := isC_1
  unfold f_ownerOf at K
  by_cases h1 : nI 0 ≤ a ∧ a ≤ nI 3
  · rw [if_pos h1] at K
    obtain ⟨j, _, hj, rfl⟩ := vI_of (by decide) h1 (by decide)
    rw [nv_nI (by omega)] at K
    have hj4 : j < 4 := by omega
    by_cases h2 : nI 0 ≤ w ∧ w ≤ nI 3
    · rw [if_pos h2] at K
      have K' := K h R Fr.rf
      rcases in3 h2 with rfl | rfl | rfl | rfl
      · simp (disch := first | assumption | omega | exact isB_0 | exact isB_1 | exact isB_bI _ | decide) only [e_X5_ownerOf_0, e_X5_ownerOf_1, e_X5_ownerOf_4, e_X5_ownerOf_7, e_X5_ownerOf_8, e_X5_ownerOf_9, e_X5_ownerOf_12, e_X5_ownerOf_13, e_X5_ownerOf_14_c0, e_X5_ownerOf_14_c1, e_X5_ownerOf_14_c2, e_X5_ownerOf_14_c3, e_X5_ownerOf_14_c4, e_X5_ownerOf_14_c5, e_X5_ownerOf_14_n, e_X5_ownerOf_14_g, e_X5_ownerOf_44, e_X5_ownerOf_45, e_X5_ownerOf_48, e_X5_ownerOf_51, e_X5_ownerOf_52, e_X5_ownerOf_53, e_X5_ownerOf_54, e_X5_ownerOf_55, e_X5_ownerOf_58, e_X5_ownerOf_59, e_X5_ownerOf_62, e_X5_ownerOf_63, e_X5_ownerOf_64, e_X5_ownerOf_67, e_X5_ownerOf_68, e_X5_ownerOf_71, e_X5_ownerOf_72, e_X5_ownerOf_73, e_X5_ownerOf_76, e_X5_ownerOf_77, e_X5_ownerOf_80, e_X5_ownerOf_81, e_X5_ownerOf_82, e_X5_ownerOf_83, e_X5_ownerOf_86, s_isOwner, hj, R.ci.M hj4, c_framesOwnedBy isC_1 R.ci W.1 hj4, c_viewsOwnedBy isC_1 R.ci W.1 hj4, c_incomeOf isC_1 R.ci W.1 hj4, and_self, and_true, true_and, Nat.zero_le, nI_ltI, toL1, toL0, ite_self, if_true, if_false, ite_true, ite_false, nI_add, pk_mul, z_eq, z_lt, z_le, z_ge, z_gt, nI_eq, nI_leI, nI_ltI, bI_0, bI_1, not_true_eq_false, not_false_eq_true]
        exact K'
      · simp (disch := first | assumption | omega | exact isB_0 | exact isB_1 | exact isB_bI _ | decide) only [e_X5_ownerOf_0, e_X5_ownerOf_1, e_X5_ownerOf_4, e_X5_ownerOf_7, e_X5_ownerOf_8, e_X5_ownerOf_9, e_X5_ownerOf_12, e_X5_ownerOf_13, e_X5_ownerOf_14_c0, e_X5_ownerOf_14_c1, e_X5_ownerOf_14_c2, e_X5_ownerOf_14_c3, e_X5_ownerOf_14_c4, e_X5_ownerOf_14_c5, e_X5_ownerOf_14_n, e_X5_ownerOf_14_g, e_X5_ownerOf_44, e_X5_ownerOf_45, e_X5_ownerOf_48, e_X5_ownerOf_51, e_X5_ownerOf_52, e_X5_ownerOf_53, e_X5_ownerOf_54, e_X5_ownerOf_55, e_X5_ownerOf_58, e_X5_ownerOf_59, e_X5_ownerOf_62, e_X5_ownerOf_63, e_X5_ownerOf_64, e_X5_ownerOf_67, e_X5_ownerOf_68, e_X5_ownerOf_71, e_X5_ownerOf_72, e_X5_ownerOf_73, e_X5_ownerOf_76, e_X5_ownerOf_77, e_X5_ownerOf_80, e_X5_ownerOf_81, e_X5_ownerOf_82, e_X5_ownerOf_83, e_X5_ownerOf_86, s_isOwner, hj, R.ci.M hj4, c_framesOwnedBy isC_1 R.ci W.1 hj4, c_viewsOwnedBy isC_1 R.ci W.1 hj4, c_incomeOf isC_1 R.ci W.1 hj4, and_self, and_true, true_and, Nat.zero_le, nI_ltI, toL1, toL0, ite_self, if_true, if_false, ite_true, ite_false, nI_add, pk_mul, z_eq, z_lt, z_le, z_ge, z_gt, nI_eq, nI_leI, nI_ltI, bI_0, bI_1, not_true_eq_false, not_false_eq_true]
        exact K'
      · simp (disch := first | assumption | omega | exact isB_0 | exact isB_1 | exact isB_bI _ | decide) only [e_X5_ownerOf_0, e_X5_ownerOf_1, e_X5_ownerOf_4, e_X5_ownerOf_7, e_X5_ownerOf_8, e_X5_ownerOf_9, e_X5_ownerOf_12, e_X5_ownerOf_13, e_X5_ownerOf_14_c0, e_X5_ownerOf_14_c1, e_X5_ownerOf_14_c2, e_X5_ownerOf_14_c3, e_X5_ownerOf_14_c4, e_X5_ownerOf_14_c5, e_X5_ownerOf_14_n, e_X5_ownerOf_14_g, e_X5_ownerOf_44, e_X5_ownerOf_45, e_X5_ownerOf_48, e_X5_ownerOf_51, e_X5_ownerOf_52, e_X5_ownerOf_53, e_X5_ownerOf_54, e_X5_ownerOf_55, e_X5_ownerOf_58, e_X5_ownerOf_59, e_X5_ownerOf_62, e_X5_ownerOf_63, e_X5_ownerOf_64, e_X5_ownerOf_67, e_X5_ownerOf_68, e_X5_ownerOf_71, e_X5_ownerOf_72, e_X5_ownerOf_73, e_X5_ownerOf_76, e_X5_ownerOf_77, e_X5_ownerOf_80, e_X5_ownerOf_81, e_X5_ownerOf_82, e_X5_ownerOf_83, e_X5_ownerOf_86, s_isOwner, hj, R.ci.M hj4, c_framesOwnedBy isC_1 R.ci W.1 hj4, c_viewsOwnedBy isC_1 R.ci W.1 hj4, c_incomeOf isC_1 R.ci W.1 hj4, and_self, and_true, true_and, Nat.zero_le, nI_ltI, toL1, toL0, ite_self, if_true, if_false, ite_true, ite_false, nI_add, pk_mul, z_eq, z_lt, z_le, z_ge, z_gt, nI_eq, nI_leI, nI_ltI, bI_0, bI_1, not_true_eq_false, not_false_eq_true]
        exact K'
      · simp (disch := first | assumption | omega | exact isB_0 | exact isB_1 | exact isB_bI _ | decide) only [e_X5_ownerOf_0, e_X5_ownerOf_1, e_X5_ownerOf_4, e_X5_ownerOf_7, e_X5_ownerOf_8, e_X5_ownerOf_9, e_X5_ownerOf_12, e_X5_ownerOf_13, e_X5_ownerOf_14_c0, e_X5_ownerOf_14_c1, e_X5_ownerOf_14_c2, e_X5_ownerOf_14_c3, e_X5_ownerOf_14_c4, e_X5_ownerOf_14_c5, e_X5_ownerOf_14_n, e_X5_ownerOf_14_g, e_X5_ownerOf_44, e_X5_ownerOf_45, e_X5_ownerOf_48, e_X5_ownerOf_51, e_X5_ownerOf_52, e_X5_ownerOf_53, e_X5_ownerOf_54, e_X5_ownerOf_55, e_X5_ownerOf_58, e_X5_ownerOf_59, e_X5_ownerOf_62, e_X5_ownerOf_63, e_X5_ownerOf_64, e_X5_ownerOf_67, e_X5_ownerOf_68, e_X5_ownerOf_71, e_X5_ownerOf_72, e_X5_ownerOf_73, e_X5_ownerOf_76, e_X5_ownerOf_77, e_X5_ownerOf_80, e_X5_ownerOf_81, e_X5_ownerOf_82, e_X5_ownerOf_83, e_X5_ownerOf_86, s_isOwner, hj, R.ci.M hj4, c_framesOwnedBy isC_1 R.ci W.1 hj4, c_viewsOwnedBy isC_1 R.ci W.1 hj4, c_incomeOf isC_1 R.ci W.1 hj4, and_self, and_true, true_and, Nat.zero_le, nI_ltI, toL1, toL0, ite_self, if_true, if_false, ite_true, ite_false, nI_add, pk_mul, z_eq, z_lt, z_le, z_ge, z_gt, nI_eq, nI_leI, nI_ltI, bI_0, bI_1, not_true_eq_false, not_false_eq_true]
        exact K'
    · rw [if_neg h2] at K
      rcases i32_c w with hw | ⟨k, hk, rfl⟩
      · simp (disch := first | assumption | omega | exact isB_0 | exact isB_1 | exact isB_bI _ | decide) only [e_X5_ownerOf_0, e_X5_ownerOf_1, e_X5_ownerOf_4, e_X5_ownerOf_7, e_X5_ownerOf_8, e_X5_ownerOf_9, e_X5_ownerOf_12, e_X5_ownerOf_13, e_X5_ownerOf_14_c0, e_X5_ownerOf_14_c1, e_X5_ownerOf_14_c2, e_X5_ownerOf_14_c3, e_X5_ownerOf_14_c4, e_X5_ownerOf_14_c5, e_X5_ownerOf_14_n, e_X5_ownerOf_14_g, e_X5_ownerOf_44, e_X5_ownerOf_45, e_X5_ownerOf_48, e_X5_ownerOf_51, e_X5_ownerOf_52, e_X5_ownerOf_53, e_X5_ownerOf_54, e_X5_ownerOf_55, e_X5_ownerOf_58, e_X5_ownerOf_59, e_X5_ownerOf_62, e_X5_ownerOf_63, e_X5_ownerOf_64, e_X5_ownerOf_67, e_X5_ownerOf_68, e_X5_ownerOf_71, e_X5_ownerOf_72, e_X5_ownerOf_73, e_X5_ownerOf_76, e_X5_ownerOf_77, e_X5_ownerOf_80, e_X5_ownerOf_81, e_X5_ownerOf_82, e_X5_ownerOf_83, e_X5_ownerOf_86, s_isOwner, hj, v_tell R, and_self, and_true, true_and, Nat.zero_le, nI_ltI, toL1, toL0, ite_self, if_true, if_false, ite_true, ite_false, nI_add, pk_mul, z_eq, z_lt, z_le, z_ge, z_gt, nI_eq, nI_leI, nI_ltI, bI_0, bI_1, not_true_eq_false, not_false_eq_true]
        exact v_bad R K
      · have hk3 := out_g hk (by decide) h2
        simp (disch := first | assumption | omega | exact isB_0 | exact isB_1 | exact isB_bI _ | decide) only [e_X5_ownerOf_0, e_X5_ownerOf_1, e_X5_ownerOf_4, e_X5_ownerOf_7, e_X5_ownerOf_8, e_X5_ownerOf_9, e_X5_ownerOf_12, e_X5_ownerOf_13, e_X5_ownerOf_14_c0, e_X5_ownerOf_14_c1, e_X5_ownerOf_14_c2, e_X5_ownerOf_14_c3, e_X5_ownerOf_14_c4, e_X5_ownerOf_14_c5, e_X5_ownerOf_14_n, e_X5_ownerOf_14_g, e_X5_ownerOf_44, e_X5_ownerOf_45, e_X5_ownerOf_48, e_X5_ownerOf_51, e_X5_ownerOf_52, e_X5_ownerOf_53, e_X5_ownerOf_54, e_X5_ownerOf_55, e_X5_ownerOf_58, e_X5_ownerOf_59, e_X5_ownerOf_62, e_X5_ownerOf_63, e_X5_ownerOf_64, e_X5_ownerOf_67, e_X5_ownerOf_68, e_X5_ownerOf_71, e_X5_ownerOf_72, e_X5_ownerOf_73, e_X5_ownerOf_76, e_X5_ownerOf_77, e_X5_ownerOf_80, e_X5_ownerOf_81, e_X5_ownerOf_82, e_X5_ownerOf_83, e_X5_ownerOf_86, s_isOwner, hj, v_tell R, and_self, and_true, true_and, Nat.zero_le, nI_ltI, toL1, toL0, ite_self, if_true, if_false, ite_true, ite_false, nI_add, pk_mul, z_eq, z_lt, z_le, z_ge, z_gt, nI_eq, nI_leI, nI_ltI, bI_0, bI_1, not_true_eq_false, not_false_eq_true]
        exact v_bad R K
  · rw [if_neg h1] at K
    simp (disch := first | assumption | omega | exact isB_0 | exact isB_1 | exact isB_bI _ | decide) only [e_X5_ownerOf_0, e_X5_ownerOf_1, e_X5_ownerOf_4, e_X5_ownerOf_7, e_X5_ownerOf_8, e_X5_ownerOf_9, e_X5_ownerOf_12, e_X5_ownerOf_13, e_X5_ownerOf_14_c0, e_X5_ownerOf_14_c1, e_X5_ownerOf_14_c2, e_X5_ownerOf_14_c3, e_X5_ownerOf_14_c4, e_X5_ownerOf_14_c5, e_X5_ownerOf_14_n, e_X5_ownerOf_14_g, e_X5_ownerOf_44, e_X5_ownerOf_45, e_X5_ownerOf_48, e_X5_ownerOf_51, e_X5_ownerOf_52, e_X5_ownerOf_53, e_X5_ownerOf_54, e_X5_ownerOf_55, e_X5_ownerOf_58, e_X5_ownerOf_59, e_X5_ownerOf_62, e_X5_ownerOf_63, e_X5_ownerOf_64, e_X5_ownerOf_67, e_X5_ownerOf_68, e_X5_ownerOf_71, e_X5_ownerOf_72, e_X5_ownerOf_73, e_X5_ownerOf_76, e_X5_ownerOf_77, e_X5_ownerOf_80, e_X5_ownerOf_81, e_X5_ownerOf_82, e_X5_ownerOf_83, e_X5_ownerOf_86, s_isOwner, bI_f h1, v_tell R, and_self, and_true, true_and, Nat.zero_le, nI_ltI, toL1, toL0, ite_self, if_true, if_false, ite_true, ite_false, nI_add, pk_mul, z_eq, z_lt, z_le, z_ge, z_gt, nI_eq, nI_leI, nI_ltI, bI_0, bI_1, not_true_eq_false, not_false_eq_true]
    exact v_bad R K
end PUB4
