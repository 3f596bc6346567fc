/-! the first of the best: richest, shifts -/
theorem fore_le {C : Cty} {n o : Nat} : foreM C n o ≤ 1000000 := Nat.le_trans (Nat.min_le_left _ _) (by decide)
theorem rotN_K {C : Cty} : ∀ n, zK (rotN n C) = zK C
  | 0 => rfl
  | n + 1 => rotN_K n
theorem rotN_E {C : Cty} : ∀ n, zE (rotN n C) = zE C
  | 0 => rfl
  | n + 1 => rotN_E n
theorem rotN_H {C : Cty} : ∀ n, zH (rotN n C) = zH C
  | 0 => rfl
  | n + 1 => rotN_H n
/-- foreseen with a city's own worths -/
theorem fore_rot {C : Cty} {k n o : Nat} : min 99999 (zM (rotN k C) o + sumN (ernG (rotN k C) (fun v => worS (zK C v) (zE C v) (zH C) n) o) (zF (rotN k C))) = foreM (rotN k C) n o := by
  unfold foreM
  have : ernG (rotN k C) (fun v => worS (zK C v) (zE C v) (zH C) n) o = earnF (rotN k C) n o := by
    funext f
    unfold ernG earnF
    rw [rotN_K, rotN_E, rotN_H]
  rw [this]
def f_richest (n : Int32) (S : Sy) : Int32 × Sy :=
  if nI 0 ≤ n ∧ n ≤ nI 400 then ok (amG (fun o => foreM (yC S) (nv n) o) 4) S else bad 0 S
def f_shifts (a n : Int32) (S : Sy) : Int32 × Sy :=
  if nI 0 ≤ a ∧ a ≤ nI 3 then if nI 1 ≤ n ∧ n ≤ nI 200 then ok (amG (fun k => foreM (rotN k (yC S)) (nv n) (nv a)) 8) S else bad 0 S else bad 0 S
section BEST2
variable {E : En} {h : Hp} {Q : Option Value → Hp → Prop} {S : Sy} {C D : Cty}
def worC (C : Cty) (n : Nat) : Nat → Nat := fun v => worS (zK C v) (zE C v) (zH C) n
theorem worC_ok (W : WC C) {n : Nat} (hn : n ≤ 400) {h : Hp} (J : ∀ v, v < zF C → gA h 34 v = nI (worS (zK C v) (zE C v) (zH C) n)) : ∀ v, v < zF C → gA h 34 v = nI (worC C n v) ∧ worC C n v ≤ 100000 := fun v hv => ⟨J v hv, by
  have h8 := W.f
  have : worS (zK C v) (zE C v) (zH C) n ≤ 120 * n := worS_le (W.e (show v < 8 by omega)) n
  show worS (zK C v) (zE C v) (zH C) n ≤ 100000
  omega⟩
theorem v_rsL (R : RC h 1 C) (W : WC C) {n : Nat} (hn : n ≤ 400) (J : ∀ v, v < zF C → gA h 34 v = nI (worS (zK C v) (zE C v) (zH C) n)) : ∀ (d k : Nat) (x : Value), k + d = 4 → Ev E mX5_richest 29 [.ref 0, .int (nI n), .int (nI (amG (fun o => foreM C n o) k)), .int (mxI (fun o => foreM C n o) k), .int (nI k), x] [] h Q = Q (some (.int (nI (amG (fun o => foreM C n o) 4)))) h := by
  have hC := isC_1
  have hg : ∀ i, (fun o => foreM C n o) i ≤ 1000000 := fun i => fore_le
  have hw := worC_ok W hn J
  intro d
  induction d with
  | zero =>
    intro k x e
    rw [e_X5_richest_29]
    simp (disch := first | assumption | omega | exact isB_0 | exact isB_1 | exact isB_bI _ | decide) only [e_X5_richest_0, e_X5_richest_1, e_X5_richest_2, e_X5_richest_5, e_X5_richest_8, e_X5_richest_11, e_X5_richest_12, e_X5_richest_13, e_X5_richest_16, e_X5_richest_17, e_X5_richest_18, e_X5_richest_19, e_X5_richest_22, e_X5_richest_23, e_X5_richest_24, e_X5_richest_25, e_X5_richest_26, e_X5_richest_27, e_X5_richest_31, e_X5_richest_32, e_X5_richest_35, e_X5_richest_36, e_X5_richest_37, e_X5_richest_40, e_X5_richest_42, e_X5_richest_45, e_X5_richest_47, e_X5_richest_49, e_X5_richest_50, e_X5_richest_53, e_X5_richest_55, e_X5_richest_56, e_X5_richest_58, e_X5_richest_59, e_X5_richest_62, e_X5_richest_65, e_X5_richest_66, toL1, toL0, ite_self, if_true, if_false, ite_true, ite_false, nI_add, pk_mul, z_eq, z_lt, z_le, z_ge, z_gt, nI_eq, nI_leI, nI_ltI, bI_0, bI_1, not_true_eq_false, not_false_eq_true]
    rw [if_pos (by omega), show k = 4 by omega]
  | succ d ih =>
    intro k x e
    have hk4 : k < 4 := by omega
    have hc := mx_cmp hg k
    have hm : min 99999 (zM C k + sumN (ernG C (worC C n) k) (zF C)) = foreM C n k := rfl
    rw [e_X5_richest_29]
    simp (disch := first | assumption | omega | exact isB_0 | exact isB_1 | exact isB_bI _ | decide) only [e_X5_richest_0, e_X5_richest_1, e_X5_richest_2, e_X5_richest_5, e_X5_richest_8, e_X5_richest_11, e_X5_richest_12, e_X5_richest_13, e_X5_richest_16, e_X5_richest_17, e_X5_richest_18, e_X5_richest_19, e_X5_richest_22, e_X5_richest_23, e_X5_richest_24, e_X5_richest_25, e_X5_richest_26, e_X5_richest_27, e_X5_richest_31, e_X5_richest_32, e_X5_richest_35, e_X5_richest_36, e_X5_richest_37, e_X5_richest_40, e_X5_richest_42, e_X5_richest_45, e_X5_richest_47, e_X5_richest_49, e_X5_richest_50, e_X5_richest_53, e_X5_richest_55, e_X5_richest_56, e_X5_richest_58, e_X5_richest_59, e_X5_richest_62, e_X5_richest_65, e_X5_richest_66, v_moneyForeseen isC_1 R W hw hk4, hm, toL1, toL0, ite_self, if_true, if_false, ite_true, ite_false, nI_add, pk_mul, z_eq, z_lt, z_le, z_ge, z_gt, nI_eq, nI_leI, nI_ltI, bI_0, bI_1, not_true_eq_false, not_false_eq_true]
    rw [if_neg (by omega)]
    have ih2 := ih (k + 1) (.int (nI (foreM C n k))) (by omega)
    by_cases c : k = 0 ∨ (fun o => foreM C n o) (amG (fun o => foreM C n o) k) < (fun o => foreM C n o) k
    · rw [(mx_up c).1, (mx_up c).2] at ih2
      rw [if_neg (fun z => hc.mp z c)]
      exact ih2
    · rw [(mx_no c).1, (mx_no c).2] at ih2
      rw [if_pos (hc.mpr c)]
      exact ih2
theorem v_richest (R : RV h S) {n : Int32} (K : Vo h Q (f_richest n S)) (W : WS S) : Ev E mX5_richest 0 [.ref 0, .int n, .null, .null, .null, .null] [] h Q := by
  have hC := isC_1
  unfold f_richest at K
  by_cases h2 : nI 0 ≤ n ∧ n ≤ nI 400
  · rw [if_pos h2] at K
    obtain ⟨m, _, hm, rfl⟩ := vI_of (by decide) h2 (by decide)
    rw [nv_nI (by omega)] at K
    simp (disch := first | assumption | omega | exact isB_0 | exact isB_1 | exact isB_bI _ | decide) only [e_X5_richest_0, e_X5_richest_1, e_X5_richest_2, e_X5_richest_5, e_X5_richest_8, e_X5_richest_11, e_X5_richest_12, e_X5_richest_13, e_X5_richest_16, e_X5_richest_17, e_X5_richest_18, e_X5_richest_19, e_X5_richest_22, e_X5_richest_23, e_X5_richest_24, e_X5_richest_25, e_X5_richest_26, e_X5_richest_27, e_X5_richest_31, e_X5_richest_32, e_X5_richest_35, e_X5_richest_36, e_X5_richest_37, e_X5_richest_40, e_X5_richest_42, e_X5_richest_45, e_X5_richest_47, e_X5_richest_49, e_X5_richest_50, e_X5_richest_53, e_X5_richest_55, e_X5_richest_56, e_X5_richest_58, e_X5_richest_59, e_X5_richest_62, e_X5_richest_65, e_X5_richest_66, s_isWithin, hm, and_self, and_true, true_and, Nat.zero_le, nI_ltI, toL1, toL0, ite_self, if_true, if_false, ite_true, ite_false, nI_add, pk_mul, z_eq, z_lt, z_le, z_ge, z_gt, nI_eq, nI_leI, nI_ltI, bI_0, bI_1, not_true_eq_false, not_false_eq_true]
    refine v_foresee R.ci W.1 hm (fun h2 J F => ?_)
    have R2 : RC h2 1 (yC S) := R.ci.fr F (fun o h1 h2 => by omega)
    simp (disch := first | assumption | omega | exact isB_0 | exact isB_1 | exact isB_bI _ | decide) only [e_X5_richest_0, e_X5_richest_1, e_X5_richest_2, e_X5_richest_5, e_X5_richest_8, e_X5_richest_11, e_X5_richest_12, e_X5_richest_13, e_X5_richest_16, e_X5_richest_17, e_X5_richest_18, e_X5_richest_19, e_X5_richest_22, e_X5_richest_23, e_X5_richest_24, e_X5_richest_25, e_X5_richest_26, e_X5_richest_27, e_X5_richest_31, e_X5_richest_32, e_X5_richest_35, e_X5_richest_36, e_X5_richest_37, e_X5_richest_40, e_X5_richest_42, e_X5_richest_45, e_X5_richest_47, e_X5_richest_49, e_X5_richest_50, e_X5_richest_53, e_X5_richest_55, e_X5_richest_56, e_X5_richest_58, e_X5_richest_59, e_X5_richest_62, e_X5_richest_65, e_X5_richest_66, toL1, toL0, ite_self, if_true, if_false, ite_true, ite_false, nI_add, pk_mul, z_eq, z_lt, z_le, z_ge, z_gt, nI_eq, nI_leI, nI_ltI, bI_0, bI_1, not_true_eq_false, not_false_eq_true]
    refine Eq.mpr (v_rsL R2 W.1 hm J 4 0 .null (by omega)) ?_
    have FX : Fr Xv h h2 := F.mono (fun o w => Or.inr (Or.inl w))
    exact K h2 (R.self FX R2) FX.lo
  · rw [if_neg h2] at K
    simp (disch := first | assumption | omega | exact isB_0 | exact isB_1 | exact isB_bI _ | decide) only [e_X5_richest_0, e_X5_richest_1, e_X5_richest_2, e_X5_richest_5, e_X5_richest_8, e_X5_richest_11, e_X5_richest_12, e_X5_richest_13, e_X5_richest_16, e_X5_richest_17, e_X5_richest_18, e_X5_richest_19, e_X5_richest_22, e_X5_richest_23, e_X5_richest_24, e_X5_richest_25, e_X5_richest_26, e_X5_richest_27, e_X5_richest_31, e_X5_richest_32, e_X5_richest_35, e_X5_richest_36, e_X5_richest_37, e_X5_richest_40, e_X5_richest_42, e_X5_richest_45, e_X5_richest_47, e_X5_richest_49, e_X5_richest_50, e_X5_richest_53, e_X5_richest_55, e_X5_richest_56, e_X5_richest_58, e_X5_richest_59, e_X5_richest_62, e_X5_richest_65, e_X5_richest_66, s_isWithin, bI_f h2, v_tell R, and_self, and_true, true_and, Nat.zero_le, nI_ltI, toL1, toL0, ite_self, if_true, if_false, ite_true, ite_false, nI_add, pk_mul, z_eq, z_lt, z_le, z_ge, z_gt, nI_eq, nI_leI, nI_ltI, bI_0, bI_1, not_true_eq_false, not_false_eq_true]
    exact v_bad R K
theorem m_rsL {n : Nat} (R : RR h 37 (goN n C)) (W : WC C) (K : Ev E mX6_richest 68 [.ref 36, .int (nI n), .int (nI (amG (fun o => foreM C n o) 4)), .int (nI 4)] [] h Q) : ∀ (d k : Nat), k + d = 4 → 1 ≤ k → amG (fun o => foreM C n o) k < 4 → Ev E mX6_richest 32 [.ref 36, .int (nI n), .int (nI (amG (fun o => foreM C n o) k)), .int (nI k)] [] h Q := by
  intro d
  induction d with
  | zero =>
    intro k e h1 h4
    rw [e_X6_richest_32]
    simp (disch := first | assumption | omega | exact isB_0 | exact isB_1 | exact isB_bI _ | decide) only [e_X6_richest_0, e_X6_richest_1, e_X6_richest_2, e_X6_richest_3, e_X6_richest_6, e_X6_richest_9, e_X6_richest_12, e_X6_richest_13, e_X6_richest_15, e_X6_richest_18, e_X6_richest_19, e_X6_richest_20, e_X6_richest_23, e_X6_richest_24, e_X6_richest_25, e_X6_richest_28, e_X6_richest_29, e_X6_richest_30, e_X6_richest_31, e_X6_richest_33, e_X6_richest_34, e_X6_richest_37, e_X6_richest_38, e_X6_richest_41, e_X6_richest_42, e_X6_richest_43, e_X6_richest_44, e_X6_richest_45, e_X6_richest_46, e_X6_richest_49, e_X6_richest_50, e_X6_richest_51, e_X6_richest_52, e_X6_richest_53, e_X6_richest_56, e_X6_richest_57, e_X6_richest_60, e_X6_richest_61, e_X6_richest_62, e_X6_richest_65, e_X6_richest_69, e_X6_richest_72, e_X6_richest_73, toL1, toL0, ite_self, if_true, if_false, ite_true, ite_false, nI_add, pk_mul, z_eq, z_lt, z_le, z_ge, z_gt, nI_eq, nI_leI, nI_ltI, bI_0, bI_1, not_true_eq_false, not_false_eq_true]
    rw [if_pos (by omega), show k = 4 by omega]
    exact K
  | succ d ih =>
    intro k e h1 h4
    have hk4 : k < 4 := by omega
    have a1 : zM (goN n C) k = foreM C n k := goN_M W hk4 n
    have a2 : zM (goN n C) (amG (fun o => foreM C n o) k) = foreM C n (amG (fun o => foreM C n o) k) := goN_M W h4 n
    have b1 : foreM C n k ≤ 99999 := Nat.min_le_left _ _
    have b2 : foreM C n (amG (fun o => foreM C n o) k) ≤ 99999 := Nat.min_le_left _ _
    have ih2 := ih (k + 1) (by omega) (by omega)
    rw [e_X6_richest_32]
    simp (disch := first | assumption | omega | exact isB_0 | exact isB_1 | exact isB_bI _ | decide) only [e_X6_richest_0, e_X6_richest_1, e_X6_richest_2, e_X6_richest_3, e_X6_richest_6, e_X6_richest_9, e_X6_richest_12, e_X6_richest_13, e_X6_richest_15, e_X6_richest_18, e_X6_richest_19, e_X6_richest_20, e_X6_richest_23, e_X6_richest_24, e_X6_richest_25, e_X6_richest_28, e_X6_richest_29, e_X6_richest_30, e_X6_richest_31, e_X6_richest_33, e_X6_richest_34, e_X6_richest_37, e_X6_richest_38, e_X6_richest_41, e_X6_richest_42, e_X6_richest_43, e_X6_richest_44, e_X6_richest_45, e_X6_richest_46, e_X6_richest_49, e_X6_richest_50, e_X6_richest_51, e_X6_richest_52, e_X6_richest_53, e_X6_richest_56, e_X6_richest_57, e_X6_richest_60, e_X6_richest_61, e_X6_richest_62, e_X6_richest_65, e_X6_richest_69, e_X6_richest_72, e_X6_richest_73, R.M hk4, R.M h4, a1, a2, toL1, toL0, ite_self, if_true, if_false, ite_true, ite_false, nI_add, pk_mul, z_eq, z_lt, z_le, z_ge, z_gt, nI_eq, nI_leI, nI_ltI, bI_0, bI_1, not_true_eq_false, not_false_eq_true]
    rw [if_neg (by omega)]
    by_cases c : k = 0 ∨ (fun o => foreM C n o) (amG (fun o => foreM C n o) k) < (fun o => foreM C n o) k
    · rw [(mx_up c).1] at ih2
      have z : foreM C n (amG (fun o => foreM C n o) k) < foreM C n k := by
        rcases c with c | c
        · omega
        · exact c
      rw [if_neg (by omega)]
      exact ih2 (by omega)
    · rw [(mx_no c).1] at ih2
      have z : ¬ foreM C n (amG (fun o => foreM C n o) k) < foreM C n k := fun z => c (Or.inr z)
      rw [if_pos (by omega)]
      exact ih2 h4
theorem m_richest (R : RM h S) {n : Int32} (K : Mo h Q (f_richest n S)) (W : WS S) : Ev E mX6_richest 0 [.ref 36, .int n, .null, .null] [] h Q := by
  have hh := W.2.1
  unfold f_richest at K
  by_cases h2 : nI 0 ≤ n ∧ n ≤ nI 400
  · rw [if_pos h2] at K
    obtain ⟨m, _, hm, rfl⟩ := vI_of (by decide) h2 (by decide)
    rw [nv_nI (by omega)] at K
    simp (disch := first | assumption | omega | exact isB_0 | exact isB_1 | exact isB_bI _ | decide) only [e_X6_richest_0, e_X6_richest_1, e_X6_richest_2, e_X6_richest_3, e_X6_richest_6, e_X6_richest_9, e_X6_richest_12, e_X6_richest_13, e_X6_richest_15, e_X6_richest_18, e_X6_richest_19, e_X6_richest_20, e_X6_richest_23, e_X6_richest_24, e_X6_richest_25, e_X6_richest_28, e_X6_richest_29, e_X6_richest_30, e_X6_richest_31, e_X6_richest_33, e_X6_richest_34, e_X6_richest_37, e_X6_richest_38, e_X6_richest_41, e_X6_richest_42, e_X6_richest_43, e_X6_richest_44, e_X6_richest_45, e_X6_richest_46, e_X6_richest_49, e_X6_richest_50, e_X6_richest_51, e_X6_richest_52, e_X6_richest_53, e_X6_richest_56, e_X6_richest_57, e_X6_richest_60, e_X6_richest_61, e_X6_richest_62, e_X6_richest_65, e_X6_richest_68, e_X6_richest_69, e_X6_richest_72, e_X6_richest_73, m_in, hm, and_self, and_true, true_and, Nat.zero_le, nI_ltI, toL1, toL0, ite_self, if_true, if_false, ite_true, ite_false, nI_add, pk_mul, z_eq, z_lt, z_le, z_ge, z_gt, nI_eq, nI_leI, nI_ltI, bI_0, bI_1, not_true_eq_false, not_false_eq_true]
    refine m_thinks R.ci (fun h2 R2 F2 => ?_)
    simp (disch := first | assumption | omega | exact isB_0 | exact isB_1 | exact isB_bI _ | decide) only [e_X6_richest_0, e_X6_richest_1, e_X6_richest_2, e_X6_richest_3, e_X6_richest_6, e_X6_richest_9, e_X6_richest_12, e_X6_richest_13, e_X6_richest_15, e_X6_richest_18, e_X6_richest_19, e_X6_richest_20, e_X6_richest_23, e_X6_richest_24, e_X6_richest_25, e_X6_richest_28, e_X6_richest_29, e_X6_richest_30, e_X6_richest_31, e_X6_richest_33, e_X6_richest_34, e_X6_richest_37, e_X6_richest_38, e_X6_richest_41, e_X6_richest_42, e_X6_richest_43, e_X6_richest_44, e_X6_richest_45, e_X6_richest_46, e_X6_richest_49, e_X6_richest_50, e_X6_richest_51, e_X6_richest_52, e_X6_richest_53, e_X6_richest_56, e_X6_richest_57, e_X6_richest_60, e_X6_richest_61, e_X6_richest_62, e_X6_richest_65, e_X6_richest_68, e_X6_richest_69, e_X6_richest_72, e_X6_richest_73, toL1, toL0, ite_self, if_true, if_false, ite_true, ite_false, nI_add, pk_mul, z_eq, z_lt, z_le, z_ge, z_gt, nI_eq, nI_leI, nI_ltI, bI_0, bI_1, not_true_eq_false, not_false_eq_true]
    refine m_goesFor (R.ci.fr F2 (by decide)) W.1 (n := m) (by omega) (by omega) (fun h3 R3 F3 => ?_)
    simp (disch := first | assumption | omega | exact isB_0 | exact isB_1 | exact isB_bI _ | decide) only [e_X6_richest_0, e_X6_richest_1, e_X6_richest_2, e_X6_richest_3, e_X6_richest_6, e_X6_richest_9, e_X6_richest_12, e_X6_richest_13, e_X6_richest_15, e_X6_richest_18, e_X6_richest_19, e_X6_richest_20, e_X6_richest_23, e_X6_richest_24, e_X6_richest_25, e_X6_richest_28, e_X6_richest_29, e_X6_richest_30, e_X6_richest_31, e_X6_richest_33, e_X6_richest_34, e_X6_richest_37, e_X6_richest_38, e_X6_richest_41, e_X6_richest_42, e_X6_richest_43, e_X6_richest_44, e_X6_richest_45, e_X6_richest_46, e_X6_richest_49, e_X6_richest_50, e_X6_richest_51, e_X6_richest_52, e_X6_richest_53, e_X6_richest_56, e_X6_richest_57, e_X6_richest_60, e_X6_richest_61, e_X6_richest_62, e_X6_richest_65, e_X6_richest_68, e_X6_richest_69, e_X6_richest_72, e_X6_richest_73, toL1, toL0, ite_self, if_true, if_false, ite_true, ite_false, nI_add, pk_mul, z_eq, z_lt, z_le, z_ge, z_gt, nI_eq, nI_leI, nI_ltI, bI_0, bI_1, not_true_eq_false, not_false_eq_true]
    have z : amG (fun o => foreM (yC S) m o) 1 = 0 := rfl
    refine m_rsL (n := m) R3 W.1 ?_ 3 1 (by omega) (by omega) (by rw [z]; decide)
    rw [e_X6_richest_68]
    simp (disch := first | assumption | omega | exact isB_0 | exact isB_1 | exact isB_bI _ | decide) only [e_X6_richest_0, e_X6_richest_1, e_X6_richest_2, e_X6_richest_3, e_X6_richest_6, e_X6_richest_9, e_X6_richest_12, e_X6_richest_13, e_X6_richest_15, e_X6_richest_18, e_X6_richest_19, e_X6_richest_20, e_X6_richest_23, e_X6_richest_24, e_X6_richest_25, e_X6_richest_28, e_X6_richest_29, e_X6_richest_30, e_X6_richest_31, e_X6_richest_33, e_X6_richest_34, e_X6_richest_37, e_X6_richest_38, e_X6_richest_41, e_X6_richest_42, e_X6_richest_43, e_X6_richest_44, e_X6_richest_45, e_X6_richest_46, e_X6_richest_49, e_X6_richest_50, e_X6_richest_51, e_X6_richest_52, e_X6_richest_53, e_X6_richest_56, e_X6_richest_57, e_X6_richest_60, e_X6_richest_61, e_X6_richest_62, e_X6_richest_65, e_X6_richest_69, e_X6_richest_72, e_X6_richest_73, toL1, toL0, ite_self, if_true, if_false, ite_true, ite_false, nI_add, pk_mul, z_eq, z_lt, z_le, z_ge, z_gt, nI_eq, nI_leI, nI_ltI, bI_0, bI_1, not_true_eq_false, not_false_eq_true]
    refine m_putsBack (R2.fr F3 (by decide)) (fun h4 R4 F4 => ?_)
    simp (disch := first | assumption | omega | exact isB_0 | exact isB_1 | exact isB_bI _ | decide) only [e_X6_richest_0, e_X6_richest_1, e_X6_richest_2, e_X6_richest_3, e_X6_richest_6, e_X6_richest_9, e_X6_richest_12, e_X6_richest_13, e_X6_richest_15, e_X6_richest_18, e_X6_richest_19, e_X6_richest_20, e_X6_richest_23, e_X6_richest_24, e_X6_richest_25, e_X6_richest_28, e_X6_richest_29, e_X6_richest_30, e_X6_richest_31, e_X6_richest_33, e_X6_richest_34, e_X6_richest_37, e_X6_richest_38, e_X6_richest_41, e_X6_richest_42, e_X6_richest_43, e_X6_richest_44, e_X6_richest_45, e_X6_richest_46, e_X6_richest_49, e_X6_richest_50, e_X6_richest_51, e_X6_richest_52, e_X6_richest_53, e_X6_richest_56, e_X6_richest_57, e_X6_richest_60, e_X6_richest_61, e_X6_richest_62, e_X6_richest_65, e_X6_richest_69, e_X6_richest_72, e_X6_richest_73, toL1, toL0, ite_self, if_true, if_false, ite_true, ite_false, nI_add, pk_mul, z_eq, z_lt, z_le, z_ge, z_gt, nI_eq, nI_leI, nI_ltI, bI_0, bI_1, not_true_eq_false, not_false_eq_true]
    have FF := (F2.m9.tr F3.m7).tr F4.m7
    exact K h4 (R.self FF R4) FF.hi
  · rw [if_neg h2] at K
    simp (disch := first | assumption | omega | exact isB_0 | exact isB_1 | exact isB_bI _ | decide) only [e_X6_richest_0, e_X6_richest_1, e_X6_richest_2, e_X6_richest_3, e_X6_richest_6, e_X6_richest_9, e_X6_richest_12, e_X6_richest_13, e_X6_richest_15, e_X6_richest_18, e_X6_richest_19, e_X6_richest_20, e_X6_richest_23, e_X6_richest_24, e_X6_richest_25, e_X6_richest_28, e_X6_richest_29, e_X6_richest_30, e_X6_richest_31, e_X6_richest_33, e_X6_richest_34, e_X6_richest_37, e_X6_richest_38, e_X6_richest_41, e_X6_richest_42, e_X6_richest_43, e_X6_richest_44, e_X6_richest_45, e_X6_richest_46, e_X6_richest_49, e_X6_richest_50, e_X6_richest_51, e_X6_richest_52, e_X6_richest_53, e_X6_richest_56, e_X6_richest_57, e_X6_richest_60, e_X6_richest_61, e_X6_richest_62, e_X6_richest_65, e_X6_richest_68, e_X6_richest_69, e_X6_richest_72, e_X6_richest_73, m_in, bI_f h2, m_f0 R, and_self, and_true, true_and, Nat.zero_le, nI_ltI, toL1, toL0, ite_self, if_true, if_false, ite_true, ite_false, nI_add, pk_mul, z_eq, z_lt, z_le, z_ge, z_gt, nI_eq, nI_leI, nI_ltI, bI_0, bI_1, not_true_eq_false, not_false_eq_true]
    exact m_bad R K
end BEST2
