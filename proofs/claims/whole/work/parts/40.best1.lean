/-! the first of the best: kind, richest -/
def amG (g : Nat → Nat) : Nat → Nat
  | 0 => 0
  | k + 1 => if k = 0 ∨ g (amG g k) < g k then k else amG g k
def mxI (g : Nat → Nat) : Nat → Int32
  | 0 => -1
  | k + 1 => nI (g (amG g (k + 1)))
theorem mx_cmp {g : Nat → Nat} (hg : ∀ i, g i ≤ 1000000) : ∀ k, (nI (g k) ≤ mxI g k ↔ ¬ (k = 0 ∨ g (amG g k) < g k))
  | 0 => ⟨fun z => by
      have h1 := Int32.le_iff_toInt_le.mp z
      have := hg 0
      rw [nI_toInt (by omega)] at h1
      have h2 : (mxI g 0).toInt = -1 := show (-1 : Int32).toInt = -1 by decide
      omega, fun z => absurd (Or.inl rfl) z⟩
  | k + 1 => by
    have h1 := hg (k + 1)
    have h2 := hg (amG g (k + 1))
    show nI (g (k + 1)) ≤ nI (g (amG g (k + 1))) ↔ _
    rw [nI_leI (by omega) (by omega)]
    omega
theorem mx_up {g : Nat → Nat} {k : Nat} (c : k = 0 ∨ g (amG g k) < g k) : amG g (k + 1) = k ∧ mxI g (k + 1) = nI (g k) := by
  have h1 : amG g (k + 1) = k := if_pos c
  refine ⟨h1, ?_⟩
  show nI (g (amG g (k + 1))) = _
  rw [h1]
theorem mx_no {g : Nat → Nat} {k : Nat} (c : ¬ (k = 0 ∨ g (amG g k) < g k)) : amG g (k + 1) = amG g k ∧ mxI g (k + 1) = mxI g k := by
  have h1 : amG g (k + 1) = amG g k := if_neg c
  refine ⟨h1, ?_⟩
  show nI (g (amG g (k + 1))) = _
  rw [h1]
  rcases k with _ | k
  · exact absurd (Or.inl rfl) c
  · rfl
theorem W_setK {C : Cty} (W : WC C) {v k : Nat} (hk : k < 6) : WC (zsK C (updN (zK C) v k)) := by
  refine ⟨W.1, W.2.1, W.2.2.1, W.2.2.2.1, W.2.2.2.2.1, W.2.2.2.2.2.1, W.2.2.2.2.2.2.1, fun i hi => ?_, W.2.2.2.2.2.2.2.2⟩
  show updN (zK C) v k i < 6
  unfold updN
  split
  · exact hk
  · exact W.k hi
theorem W_setE {C : Cty} (W : WC C) {v x : Nat} (hx : x ≤ 99) : WC (zsE C (updN (zE C) v x)) := by
  refine ⟨W.1, W.2.1, W.2.2.1, W.2.2.2.1, W.2.2.2.2.1, W.2.2.2.2.2.1, W.2.2.2.2.2.2.1, W.2.2.2.2.2.2.2.1, fun i hi => ?_⟩
  show updN (zE C) v x i ≤ 99
  unfold updN
  split
  · exact hx
  · exact W.e hi
def f_kind (a n : Int32) (S : Sy) : Int32 × Sy :=
  if hF a (zF (yC S)) then if nI 1 ≤ n ∧ n ≤ nI 200 then ok (amG (fun k => worS k (zE (yC S) (nv a)) (zH (yC S)) (nv n)) 6) S else bad 0 S else bad 0 S
section BEST1
variable {E : En} {h : Hp} {Q : Option Value → Hp → Prop} {S : Sy} {C D : Cty}
theorem v_kiL (R : RC h 1 C) (W : WC C) {v n : Nat} (hv : v < 8) (hn : n ≤ 400) : ∀ (d k : Nat) (x : Value), k + d = 6 → Ev E mX5_kind 36 [.ref 0, .int (nI v), .int (nI n), .int (nI (amG (fun k => worS k (zE C v) (zH C) n) k)), .int (mxI (fun k => worS k (zE C v) (zH C) n) k), .int (nI k), x] [] h Q = Q (some (.int (nI (amG (fun k => worS k (zE C v) (zH C) n) 6)))) h := by
  have hC := isC_1
  have hh := W.h
  have hg : ∀ i, (fun k => worS k (zE C v) (zH C) n) i ≤ 1000000 := fun i => by
    have : worS i (zE C v) (zH C) n ≤ 120 * n := worS_le (W.e hv) n
    show worS i (zE C v) (zH C) n ≤ 1000000
    omega
  intro d
  induction d with
  | zero =>
    intro k x e
    rw [e_X5_kind_36]
    simp (disch := first | assumption | omega | exact isB_0 | exact isB_1 | exact isB_bI _ | decide) only [e_X5_kind_0, e_X5_kind_1, e_X5_kind_4, e_X5_kind_5, e_X5_kind_8, e_X5_kind_11, e_X5_kind_12, e_X5_kind_13, e_X5_kind_16, e_X5_kind_19, e_X5_kind_22, e_X5_kind_23, e_X5_kind_24, e_X5_kind_27, e_X5_kind_28, e_X5_kind_29, e_X5_kind_30, e_X5_kind_31, e_X5_kind_33, e_X5_kind_34, e_X5_kind_38, e_X5_kind_40, e_X5_kind_43, e_X5_kind_45, e_X5_kind_46, e_X5_kind_49, e_X5_kind_52, e_X5_kind_53, e_X5_kind_54, e_X5_kind_55, e_X5_kind_58, e_X5_kind_61, e_X5_kind_62, e_X5_kind_65, e_X5_kind_67, e_X5_kind_69, e_X5_kind_71, e_X5_kind_74, e_X5_kind_76, e_X5_kind_78, e_X5_kind_80, e_X5_kind_81, e_X5_kind_84, e_X5_kind_87, e_X5_kind_88, toL1, toL0, ite_self, if_true, if_false, ite_true, ite_false, nI_add, pk_mul, z_eq, z_lt, z_le, z_ge, z_gt, nI_eq, nI_leI, nI_ltI, bI_0, bI_1, not_true_eq_false, not_false_eq_true]
    rw [if_pos (by omega), show k = 6 by omega]
  | succ d ih =>
    intro k x e
    have hk6 : k < 6 := by omega
    have hc := mx_cmp hg k
    rw [e_X5_kind_36]
    simp (disch := first | assumption | omega | exact isB_0 | exact isB_1 | exact isB_bI _ | decide) only [e_X5_kind_0, e_X5_kind_1, e_X5_kind_4, e_X5_kind_5, e_X5_kind_8, e_X5_kind_11, e_X5_kind_12, e_X5_kind_13, e_X5_kind_16, e_X5_kind_19, e_X5_kind_22, e_X5_kind_23, e_X5_kind_24, e_X5_kind_27, e_X5_kind_28, e_X5_kind_29, e_X5_kind_30, e_X5_kind_31, e_X5_kind_33, e_X5_kind_34, e_X5_kind_38, e_X5_kind_40, e_X5_kind_43, e_X5_kind_45, e_X5_kind_46, e_X5_kind_49, e_X5_kind_52, e_X5_kind_53, e_X5_kind_54, e_X5_kind_55, e_X5_kind_58, e_X5_kind_61, e_X5_kind_62, e_X5_kind_65, e_X5_kind_67, e_X5_kind_69, e_X5_kind_71, e_X5_kind_74, e_X5_kind_76, e_X5_kind_78, e_X5_kind_80, e_X5_kind_81, e_X5_kind_84, e_X5_kind_87, e_X5_kind_88, R.E hv, R.H, s_worthInAll hk6 (W.e hv) hh hn, toL1, toL0, ite_self, if_true, if_false, ite_true, ite_false, nI_add, pk_mul, z_eq, z_lt, z_le, z_ge, z_gt, nI_eq, nI_leI, nI_ltI, bI_0, bI_1, not_true_eq_false, not_false_eq_true]
    rw [if_neg (by omega)]
    have ih2 := ih (k + 1) (.int (nI (worS k (zE C v) (zH C) n))) (by omega)
    by_cases c : k = 0 ∨ (fun k => worS k (zE C v) (zH C) n) (amG (fun k => worS k (zE C v) (zH C) n) k) < (fun k => worS k (zE C v) (zH C) n) k
    · rw [(mx_up c).1, (mx_up c).2] at ih2
      rw [if_neg (fun z => hc.mp z c)]
      exact ih2
    · rw [(mx_no c).1, (mx_no c).2] at ih2
      rw [if_pos (hc.mpr c)]
      exact ih2
theorem v_kind (R : RV h S) {a n : Int32} (K : Vo h Q (f_kind a n S)) (W : WS S) : Ev E mX5_kind 0 [.ref 0, .int a, .int n, .null, .null, .null, .null] [] h Q := by
  have hC := isC_1
  have h8 := W.1.f
  unfold f_kind at K
  by_cases h1 : hF a (zF (yC S))
  · rw [if_pos h1] at K
    by_cases h2 : nI 1 ≤ n ∧ n ≤ nI 200
    · rw [if_pos h2] at K
      obtain ⟨j, hj, rfl⟩ := hF_of (by omega) h1
      obtain ⟨m, hm1, hm, rfl⟩ := vI_of (by decide) h2 (by decide)
      rw [nv_nI (by omega), nv_nI (by omega)] at K
      simp (disch := first | assumption | omega | exact isB_0 | exact isB_1 | exact isB_bI _ | decide) only [e_X5_kind_0, e_X5_kind_1, e_X5_kind_4, e_X5_kind_5, e_X5_kind_8, e_X5_kind_11, e_X5_kind_12, e_X5_kind_13, e_X5_kind_16, e_X5_kind_19, e_X5_kind_22, e_X5_kind_23, e_X5_kind_24, e_X5_kind_27, e_X5_kind_28, e_X5_kind_29, e_X5_kind_30, e_X5_kind_31, e_X5_kind_33, e_X5_kind_34, e_X5_kind_38, e_X5_kind_40, e_X5_kind_43, e_X5_kind_45, e_X5_kind_46, e_X5_kind_49, e_X5_kind_52, e_X5_kind_53, e_X5_kind_54, e_X5_kind_55, e_X5_kind_58, e_X5_kind_61, e_X5_kind_62, e_X5_kind_65, e_X5_kind_67, e_X5_kind_69, e_X5_kind_71, e_X5_kind_74, e_X5_kind_76, e_X5_kind_78, e_X5_kind_80, e_X5_kind_81, e_X5_kind_84, e_X5_kind_87, e_X5_kind_88, c_hasView isC_1 R.ci W.1, bI_t h1, s_isWithin, hm1, hm, and_self, and_true, true_and, Nat.zero_le, nI_ltI, toL1, toL0, ite_self, if_true, if_false, ite_true, ite_false, nI_add, pk_mul, z_eq, z_lt, z_le, z_ge, z_gt, nI_eq, nI_leI, nI_ltI, bI_0, bI_1, not_true_eq_false, not_false_eq_true]
      refine Eq.mpr (v_kiL R.ci W.1 (show j < 8 by omega) (show m ≤ 400 by omega) 6 0 .null (by omega)) ?_
      exact K h R Fr.rf
    · rw [if_neg h2] at K
      simp (disch := first | assumption | omega | exact isB_0 | exact isB_1 | exact isB_bI _ | decide) only [e_X5_kind_0, e_X5_kind_1, e_X5_kind_4, e_X5_kind_5, e_X5_kind_8, e_X5_kind_11, e_X5_kind_12, e_X5_kind_13, e_X5_kind_16, e_X5_kind_19, e_X5_kind_22, e_X5_kind_23, e_X5_kind_24, e_X5_kind_27, e_X5_kind_28, e_X5_kind_29, e_X5_kind_30, e_X5_kind_31, e_X5_kind_33, e_X5_kind_34, e_X5_kind_38, e_X5_kind_40, e_X5_kind_43, e_X5_kind_45, e_X5_kind_46, e_X5_kind_49, e_X5_kind_52, e_X5_kind_53, e_X5_kind_54, e_X5_kind_55, e_X5_kind_58, e_X5_kind_61, e_X5_kind_62, e_X5_kind_65, e_X5_kind_67, e_X5_kind_69, e_X5_kind_71, e_X5_kind_74, e_X5_kind_76, e_X5_kind_78, e_X5_kind_80, e_X5_kind_81, e_X5_kind_84, e_X5_kind_87, e_X5_kind_88, c_hasView isC_1 R.ci W.1, bI_t h1, s_isWithin, bI_f h2, v_tell R, and_self, and_true, true_and, Nat.zero_le, nI_ltI, toL1, toL0, ite_self, if_true, if_false, ite_true, ite_false, nI_add, pk_mul, z_eq, z_lt, z_le, z_ge, z_gt, nI_eq, nI_leI, nI_ltI, bI_0, bI_1, not_true_eq_false, not_false_eq_true]
      exact v_bad R K
  · rw [if_neg h1] at K
    simp (disch := first | assumption | omega | exact isB_0 | exact isB_1 | exact isB_bI _ | decide) only [e_X5_kind_0, e_X5_kind_1, e_X5_kind_4, e_X5_kind_5, e_X5_kind_8, e_X5_kind_11, e_X5_kind_12, e_X5_kind_13, e_X5_kind_16, e_X5_kind_19, e_X5_kind_22, e_X5_kind_23, e_X5_kind_24, e_X5_kind_27, e_X5_kind_28, e_X5_kind_29, e_X5_kind_30, e_X5_kind_31, e_X5_kind_33, e_X5_kind_34, e_X5_kind_38, e_X5_kind_40, e_X5_kind_43, e_X5_kind_45, e_X5_kind_46, e_X5_kind_49, e_X5_kind_52, e_X5_kind_53, e_X5_kind_54, e_X5_kind_55, e_X5_kind_58, e_X5_kind_61, e_X5_kind_62, e_X5_kind_65, e_X5_kind_67, e_X5_kind_69, e_X5_kind_71, e_X5_kind_74, e_X5_kind_76, e_X5_kind_78, e_X5_kind_80, e_X5_kind_81, e_X5_kind_84, e_X5_kind_87, e_X5_kind_88, c_hasView isC_1 R.ci W.1, bI_f h1, v_tell R, and_self, and_true, true_and, Nat.zero_le, nI_ltI, toL1, toL0, ite_self, if_true, if_false, ite_true, ite_false, nI_add, pk_mul, z_eq, z_lt, z_le, z_ge, z_gt, nI_eq, nI_leI, nI_ltI, bI_0, bI_1, not_true_eq_false, not_false_eq_true]
    exact v_bad R K
theorem m_wiL (R9 : RR h 39 D) (W : WC C) {v n : Nat} (hv : v < zF C) (hh : zH C + n ≤ 200000) (hn : n ≤ 1000) (K : ∀ h', RR h' 37 D → Fr Xm h h' → Q (some (.int (nI (worS (zK C v) (zE C v) (zH C) n)))) h') : ∀ (d k : Nat) (h' : Hp), k + d = n → RR h' 37 (goN k C) → Fr Xm h h' → Ev E mX6_worthIn 5 [.ref 36, .int (nI v), .int (nI n), .int (nI (worS (zK C v) (zE C v) (zH C) k)), .int (nI k)] [] h' Q := by
  have h8 := W.f
  intro d
  induction d with
  | zero =>
    intro k h' e R F
    rw [e_X6_worthIn_5]
    simp (disch := first | assumption | omega | exact isB_0 | exact isB_1 | exact isB_bI _ | decide) only [e_X6_worthIn_0, e_X6_worthIn_1, e_X6_worthIn_2, e_X6_worthIn_3, e_X6_worthIn_7, e_X6_worthIn_8, e_X6_worthIn_11, e_X6_worthIn_12, e_X6_worthIn_13, e_X6_worthIn_14, e_X6_worthIn_17, e_X6_worthIn_18, e_X6_worthIn_19, e_X6_worthIn_20, e_X6_worthIn_23, e_X6_worthIn_26, e_X6_worthIn_29, e_X6_worthIn_30, e_X6_worthIn_33, e_X6_worthIn_34, toL1, toL0, ite_self, if_true, if_false, ite_true, ite_false, nI_add, pk_mul, z_eq, z_lt, z_le, z_ge, z_gt, nI_eq, nI_leI, nI_ltI, bI_0, bI_1, not_true_eq_false, not_false_eq_true]
    rw [if_pos (by omega)]
    refine m_putsBack (R9.fr F (by decide)) (fun h3 R3 F3 => ?_)
    simp (disch := first | assumption | omega | exact isB_0 | exact isB_1 | exact isB_bI _ | decide) only [e_X6_worthIn_0, e_X6_worthIn_1, e_X6_worthIn_2, e_X6_worthIn_3, e_X6_worthIn_7, e_X6_worthIn_8, e_X6_worthIn_11, e_X6_worthIn_12, e_X6_worthIn_13, e_X6_worthIn_14, e_X6_worthIn_17, e_X6_worthIn_18, e_X6_worthIn_19, e_X6_worthIn_20, e_X6_worthIn_23, e_X6_worthIn_26, e_X6_worthIn_29, e_X6_worthIn_30, e_X6_worthIn_33, e_X6_worthIn_34, toL1, toL0, ite_self, if_true, if_false, ite_true, ite_false, nI_add, pk_mul, z_eq, z_lt, z_le, z_ge, z_gt, nI_eq, nI_leI, nI_ltI, bI_0, bI_1, not_true_eq_false, not_false_eq_true]
    rw [show k = n by omega]
    exact K h3 R3 (F.tr F3)
  | succ d ih =>
    intro k h' e R F
    have WK := W_goN W k (by omega)
    have hw : wor (zK (goN k C) v) (zE (goN k C) v) (zH (goN k C)) = wor (zK C v) (fineN (zK C v) (zE C v) (zH C) k) (zH C + k) := by
      rw [goN_K, goN_H, goN_E C hv]
    rw [e_X6_worthIn_5]
    simp (disch := first | assumption | omega | exact isB_0 | exact isB_1 | exact isB_bI _ | decide) only [e_X6_worthIn_0, e_X6_worthIn_1, e_X6_worthIn_2, e_X6_worthIn_3, e_X6_worthIn_7, e_X6_worthIn_8, e_X6_worthIn_11, e_X6_worthIn_12, e_X6_worthIn_13, e_X6_worthIn_14, e_X6_worthIn_17, e_X6_worthIn_18, e_X6_worthIn_19, e_X6_worthIn_20, e_X6_worthIn_23, e_X6_worthIn_26, e_X6_worthIn_29, e_X6_worthIn_30, e_X6_worthIn_33, e_X6_worthIn_34, m_worth R WK (show v < 8 by omega), hw, toL1, toL0, ite_self, if_true, if_false, ite_true, ite_false, nI_add, pk_mul, z_eq, z_lt, z_le, z_ge, z_gt, nI_eq, nI_leI, nI_ltI, bI_0, bI_1, not_true_eq_false, not_false_eq_true]
    rw [if_neg (by omega)]
    refine m_goes R WK (fun h2 R2 F2 => ?_)
    simp (disch := first | assumption | omega | exact isB_0 | exact isB_1 | exact isB_bI _ | decide) only [e_X6_worthIn_0, e_X6_worthIn_1, e_X6_worthIn_2, e_X6_worthIn_3, e_X6_worthIn_7, e_X6_worthIn_8, e_X6_worthIn_11, e_X6_worthIn_12, e_X6_worthIn_13, e_X6_worthIn_14, e_X6_worthIn_17, e_X6_worthIn_18, e_X6_worthIn_19, e_X6_worthIn_20, e_X6_worthIn_23, e_X6_worthIn_26, e_X6_worthIn_29, e_X6_worthIn_30, e_X6_worthIn_33, e_X6_worthIn_34, toL1, toL0, ite_self, if_true, if_false, ite_true, ite_false, nI_add, pk_mul, z_eq, z_lt, z_le, z_ge, z_gt, nI_eq, nI_leI, nI_ltI, bI_0, bI_1, not_true_eq_false, not_false_eq_true]
    exact ih (k + 1) h2 (by omega) R2 (F.tr F2)
theorem m_worthIn (R : RR h 37 C) (R9 : RR h 39 D) (W : WC C) {v n : Nat} (hv : v < zF C) (hh : zH C + n ≤ 200000) (hn : n ≤ 1000) (K : ∀ h', RR h' 37 D → Fr Xm h h' → Q (some (.int (nI (worS (zK C v) (zE C v) (zH C) n)))) h') : Ev E mX6_worthIn 0 [.ref 36, .int (nI v), .int (nI n), .null, .null] [] h Q := by
  simp (disch := first | assumption | omega | exact isB_0 | exact isB_1 | exact isB_bI _ | decide) only [e_X6_worthIn_0, e_X6_worthIn_1, e_X6_worthIn_2, e_X6_worthIn_3, e_X6_worthIn_7, e_X6_worthIn_8, e_X6_worthIn_11, e_X6_worthIn_12, e_X6_worthIn_13, e_X6_worthIn_14, e_X6_worthIn_17, e_X6_worthIn_18, e_X6_worthIn_19, e_X6_worthIn_20, e_X6_worthIn_23, e_X6_worthIn_26, e_X6_worthIn_29, e_X6_worthIn_30, e_X6_worthIn_33, e_X6_worthIn_34, toL1, toL0, ite_self, if_true, if_false, ite_true, ite_false, nI_add, pk_mul, z_eq, z_lt, z_le, z_ge, z_gt, nI_eq, nI_leI, nI_ltI, bI_0, bI_1, not_true_eq_false, not_false_eq_true]
  exact m_wiL R9 W hv hh hn K n 0 h (by omega) R Fr.rf
theorem m_kiL (W : WC C) (hh : zH C ≤ 99999) {v n : Nat} (hv : v < zF C) (hn : n ≤ 400) (K : ∀ h', RR h' 37 C → Fr Xw h h' → Q (some (.int (nI (amG (fun k => worS k (zE C v) (zH C) n) 6)))) h') : ∀ (d k : Nat) (x : Value) (h' : Hp), k + d = 6 → RR h' 37 C → RR h' 39 C → Fr Xw h h' → Ev E mX6_kind 39 [.ref 36, .int (nI v), .int (nI n), .int (nI (amG (fun k => worS k (zE C v) (zH C) n) k)), .int (mxI (fun k => worS k (zE C v) (zH C) n) k), .int (nI k), x] [] h' Q := by
  have h8 := W.f
  have hg : ∀ i, (fun k => worS k (zE C v) (zH C) n) i ≤ 1000000 := fun i => by
    have : worS i (zE C v) (zH C) n ≤ 120 * n := worS_le (W.e (show v < 8 by omega)) n
    show worS i (zE C v) (zH C) n ≤ 1000000
    omega
  intro d
  induction d with
  | zero =>
    intro k x h' e R R9 F
    rw [e_X6_kind_39]
    simp (disch := first | assumption | omega | exact isB_0 | exact isB_1 | exact isB_bI _ | decide) only [e_X6_kind_0, e_X6_kind_1, e_X6_kind_2, e_X6_kind_5, e_X6_kind_8, e_X6_kind_9, e_X6_kind_10, e_X6_kind_11, e_X6_kind_14, e_X6_kind_17, e_X6_kind_20, e_X6_kind_21, e_X6_kind_23, e_X6_kind_26, e_X6_kind_27, e_X6_kind_28, e_X6_kind_31, e_X6_kind_32, e_X6_kind_33, e_X6_kind_34, e_X6_kind_36, e_X6_kind_37, e_X6_kind_41, e_X6_kind_42, e_X6_kind_45, e_X6_kind_46, e_X6_kind_49, e_X6_kind_51, e_X6_kind_52, e_X6_kind_53, e_X6_kind_54, e_X6_kind_55, e_X6_kind_57, e_X6_kind_58, e_X6_kind_59, e_X6_kind_60, e_X6_kind_61, e_X6_kind_64, e_X6_kind_66, e_X6_kind_68, e_X6_kind_70, e_X6_kind_73, e_X6_kind_75, e_X6_kind_78, e_X6_kind_79, e_X6_kind_80, e_X6_kind_82, e_X6_kind_84, e_X6_kind_87, e_X6_kind_89, e_X6_kind_92, e_X6_kind_94, e_X6_kind_96, e_X6_kind_99, e_X6_kind_102, e_X6_kind_103, toL1, toL0, ite_self, if_true, if_false, ite_true, ite_false, nI_add, pk_mul, z_eq, z_lt, z_le, z_ge, z_gt, nI_eq, nI_leI, nI_ltI, bI_0, bI_1, not_true_eq_false, not_false_eq_true]
    rw [if_pos (by omega), show k = 6 by omega]
    exact K h' R F
  | succ d ih =>
    intro k x h' e R R9 F
    have hk6 : k < 6 := by omega
    have hc := mx_cmp hg k
    have W2 : WC (zsK C (updN (zK C) v k)) := W_setK W hk6
    have R2 : RR (sA h' 37 (upd (gA h' 37) (30 + 2 * v) (nI k))) 37 (zsK C (updN (zK C) v k)) := R.setK (show v < 8 by omega) k
    have hw : worS (zK (zsK C (updN (zK C) v k)) v) (zE (zsK C (updN (zK C) v k)) v) (zH (zsK C (updN (zK C) v k))) n = worS k (zE C v) (zH C) n := by
      rw [zK_zsK, zE_zsK, zH_zsK, updN_s]
    rw [e_X6_kind_39]
    simp (disch := first | assumption | omega | exact isB_0 | exact isB_1 | exact isB_bI _ | decide) only [e_X6_kind_0, e_X6_kind_1, e_X6_kind_2, e_X6_kind_5, e_X6_kind_8, e_X6_kind_9, e_X6_kind_10, e_X6_kind_11, e_X6_kind_14, e_X6_kind_17, e_X6_kind_20, e_X6_kind_21, e_X6_kind_23, e_X6_kind_26, e_X6_kind_27, e_X6_kind_28, e_X6_kind_31, e_X6_kind_32, e_X6_kind_33, e_X6_kind_34, e_X6_kind_36, e_X6_kind_37, e_X6_kind_41, e_X6_kind_42, e_X6_kind_45, e_X6_kind_46, e_X6_kind_49, e_X6_kind_51, e_X6_kind_52, e_X6_kind_53, e_X6_kind_54, e_X6_kind_55, e_X6_kind_57, e_X6_kind_58, e_X6_kind_59, e_X6_kind_60, e_X6_kind_61, e_X6_kind_64, e_X6_kind_66, e_X6_kind_68, e_X6_kind_70, e_X6_kind_73, e_X6_kind_75, e_X6_kind_78, e_X6_kind_79, e_X6_kind_80, e_X6_kind_82, e_X6_kind_84, e_X6_kind_87, e_X6_kind_89, e_X6_kind_92, e_X6_kind_94, e_X6_kind_96, e_X6_kind_99, e_X6_kind_102, e_X6_kind_103, toL1, toL0, ite_self, if_true, if_false, ite_true, ite_false, nI_add, pk_mul, z_eq, z_lt, z_le, z_ge, z_gt, nI_eq, nI_leI, nI_ltI, bI_0, bI_1, not_true_eq_false, not_false_eq_true]
    rw [if_neg (by omega)]
    refine m_worthIn (D := C) (n := n) R2 (R9.fr (Fr.sA (X := fun o => o = 37) rfl) (by decide)) W2 hv (show zH C + n ≤ 200000 by omega) (by omega) (fun h3 R3 F3 => ?_)
    rw [hw]
    have FF : Fr Xw h h3 := (F.tr (xwA (Or.inl rfl))).tr F3.m7
    have R93 : RR h3 39 C := (R9.fr (Fr.sA (X := fun o => o = 37) rfl) (by decide)).fr F3 (by decide)
    have ih2 := ih (k + 1) (.int (nI (worS k (zE C v) (zH C) n))) h3 (by omega) R3 R93 FF
    by_cases c : k = 0 ∨ (fun k => worS k (zE C v) (zH C) n) (amG (fun k => worS k (zE C v) (zH C) n) k) < (fun k => worS k (zE C v) (zH C) n) k
    · rw [(mx_up c).1, (mx_up c).2] at ih2
      have z : ¬ nI (worS k (zE C v) (zH C) n) ≤ mxI (fun k => worS k (zE C v) (zH C) n) k := fun z => hc.mp z c
      simp (disch := first | assumption | omega | exact isB_0 | exact isB_1 | exact isB_bI _ | decide) only [e_X6_kind_0, e_X6_kind_1, e_X6_kind_2, e_X6_kind_5, e_X6_kind_8, e_X6_kind_9, e_X6_kind_10, e_X6_kind_11, e_X6_kind_14, e_X6_kind_17, e_X6_kind_20, e_X6_kind_21, e_X6_kind_23, e_X6_kind_26, e_X6_kind_27, e_X6_kind_28, e_X6_kind_31, e_X6_kind_32, e_X6_kind_33, e_X6_kind_34, e_X6_kind_36, e_X6_kind_37, e_X6_kind_41, e_X6_kind_42, e_X6_kind_45, e_X6_kind_46, e_X6_kind_49, e_X6_kind_51, e_X6_kind_52, e_X6_kind_53, e_X6_kind_54, e_X6_kind_55, e_X6_kind_57, e_X6_kind_58, e_X6_kind_59, e_X6_kind_60, e_X6_kind_61, e_X6_kind_64, e_X6_kind_66, e_X6_kind_68, e_X6_kind_70, e_X6_kind_73, e_X6_kind_75, e_X6_kind_78, e_X6_kind_79, e_X6_kind_80, e_X6_kind_82, e_X6_kind_84, e_X6_kind_87, e_X6_kind_89, e_X6_kind_92, e_X6_kind_94, e_X6_kind_96, e_X6_kind_99, e_X6_kind_102, e_X6_kind_103, z, toL1, toL0, ite_self, if_true, if_false, ite_true, ite_false, nI_add, pk_mul, z_eq, z_lt, z_le, z_ge, z_gt, nI_eq, nI_leI, nI_ltI, bI_0, bI_1, not_true_eq_false, not_false_eq_true]
      exact ih2
    · rw [(mx_no c).1, (mx_no c).2] at ih2
      have z : nI (worS k (zE C v) (zH C) n) ≤ mxI (fun k => worS k (zE C v) (zH C) n) k := hc.mpr c
      simp (disch := first | assumption | omega | exact isB_0 | exact isB_1 | exact isB_bI _ | decide) only [e_X6_kind_0, e_X6_kind_1, e_X6_kind_2, e_X6_kind_5, e_X6_kind_8, e_X6_kind_9, e_X6_kind_10, e_X6_kind_11, e_X6_kind_14, e_X6_kind_17, e_X6_kind_20, e_X6_kind_21, e_X6_kind_23, e_X6_kind_26, e_X6_kind_27, e_X6_kind_28, e_X6_kind_31, e_X6_kind_32, e_X6_kind_33, e_X6_kind_34, e_X6_kind_36, e_X6_kind_37, e_X6_kind_41, e_X6_kind_42, e_X6_kind_45, e_X6_kind_46, e_X6_kind_49, e_X6_kind_51, e_X6_kind_52, e_X6_kind_53, e_X6_kind_54, e_X6_kind_55, e_X6_kind_57, e_X6_kind_58, e_X6_kind_59, e_X6_kind_60, e_X6_kind_61, e_X6_kind_64, e_X6_kind_66, e_X6_kind_68, e_X6_kind_70, e_X6_kind_73, e_X6_kind_75, e_X6_kind_78, e_X6_kind_79, e_X6_kind_80, e_X6_kind_82, e_X6_kind_84, e_X6_kind_87, e_X6_kind_89, e_X6_kind_92, e_X6_kind_94, e_X6_kind_96, e_X6_kind_99, e_X6_kind_102, e_X6_kind_103, z, toL1, toL0, ite_self, if_true, if_false, ite_true, ite_false, nI_add, pk_mul, z_eq, z_lt, z_le, z_ge, z_gt, nI_eq, nI_leI, nI_ltI, bI_0, bI_1, not_true_eq_false, not_false_eq_true]
      exact ih2
theorem m_kind (R : RM h S) {a n : Int32} (K : Mo h Q (f_kind a n S)) (W : WS S) : Ev E mX6_kind 0 [.ref 36, .int a, .int n, .null, .null, .null, .null] [] h Q := by
  have h8 := W.1.f
  have hh := W.2.1
  unfold f_kind at K
  by_cases h1 : hF a (zF (yC S))
  · rw [if_pos h1] at K
    by_cases h2 : nI 1 ≤ n ∧ n ≤ nI 200
    · rw [if_pos h2] at K
      obtain ⟨j, hj, rfl⟩ := hF_of (by omega) h1
      obtain ⟨m, hm1, hm, rfl⟩ := vI_of (by decide) h2 (by decide)
      rw [nv_nI (by omega), nv_nI (by omega)] at K
      simp (disch := first | assumption | omega | exact isB_0 | exact isB_1 | exact isB_bI _ | decide) only [e_X6_kind_0, e_X6_kind_1, e_X6_kind_2, e_X6_kind_5, e_X6_kind_8, e_X6_kind_9, e_X6_kind_10, e_X6_kind_11, e_X6_kind_14, e_X6_kind_17, e_X6_kind_20, e_X6_kind_21, e_X6_kind_23, e_X6_kind_26, e_X6_kind_27, e_X6_kind_28, e_X6_kind_31, e_X6_kind_32, e_X6_kind_33, e_X6_kind_34, e_X6_kind_36, e_X6_kind_37, e_X6_kind_41, e_X6_kind_42, e_X6_kind_45, e_X6_kind_46, e_X6_kind_49, e_X6_kind_51, e_X6_kind_52, e_X6_kind_53, e_X6_kind_54, e_X6_kind_55, e_X6_kind_57, e_X6_kind_58, e_X6_kind_59, e_X6_kind_60, e_X6_kind_61, e_X6_kind_64, e_X6_kind_66, e_X6_kind_68, e_X6_kind_70, e_X6_kind_73, e_X6_kind_75, e_X6_kind_78, e_X6_kind_79, e_X6_kind_80, e_X6_kind_82, e_X6_kind_84, e_X6_kind_87, e_X6_kind_89, e_X6_kind_92, e_X6_kind_94, e_X6_kind_96, e_X6_kind_99, e_X6_kind_102, e_X6_kind_103, m_isFrame R.ci W.1, bI_t h1, m_in, hm1, hm, and_self, and_true, true_and, Nat.zero_le, nI_ltI, toL1, toL0, ite_self, if_true, if_false, ite_true, ite_false, nI_add, pk_mul, z_eq, z_lt, z_le, z_ge, z_gt, nI_eq, nI_leI, nI_ltI, bI_0, bI_1, not_true_eq_false, not_false_eq_true]
      refine m_thinks R.ci (fun h2 R2 F2 => ?_)
      simp (disch := first | assumption | omega | exact isB_0 | exact isB_1 | exact isB_bI _ | decide) only [e_X6_kind_0, e_X6_kind_1, e_X6_kind_2, e_X6_kind_5, e_X6_kind_8, e_X6_kind_9, e_X6_kind_10, e_X6_kind_11, e_X6_kind_14, e_X6_kind_17, e_X6_kind_20, e_X6_kind_21, e_X6_kind_23, e_X6_kind_26, e_X6_kind_27, e_X6_kind_28, e_X6_kind_31, e_X6_kind_32, e_X6_kind_33, e_X6_kind_34, e_X6_kind_36, e_X6_kind_37, e_X6_kind_41, e_X6_kind_42, e_X6_kind_45, e_X6_kind_46, e_X6_kind_49, e_X6_kind_51, e_X6_kind_52, e_X6_kind_53, e_X6_kind_54, e_X6_kind_55, e_X6_kind_57, e_X6_kind_58, e_X6_kind_59, e_X6_kind_60, e_X6_kind_61, e_X6_kind_64, e_X6_kind_66, e_X6_kind_68, e_X6_kind_70, e_X6_kind_73, e_X6_kind_75, e_X6_kind_78, e_X6_kind_79, e_X6_kind_80, e_X6_kind_82, e_X6_kind_84, e_X6_kind_87, e_X6_kind_89, e_X6_kind_92, e_X6_kind_94, e_X6_kind_96, e_X6_kind_99, e_X6_kind_102, e_X6_kind_103, toL1, toL0, ite_self, if_true, if_false, ite_true, ite_false, nI_add, pk_mul, z_eq, z_lt, z_le, z_ge, z_gt, nI_eq, nI_leI, nI_ltI, bI_0, bI_1, not_true_eq_false, not_false_eq_true]
      refine m_kiL (h := h2) W.1 hh hj (show m ≤ 400 by omega) (fun h3 R3 F3 => ?_) 6 0 .null h2 (by omega) (R.ci.fr F2 (by decide)) R2 Fr.rf
      exact K h3 (R.self (F2.m9.tr F3) R3) (F2.m9.tr F3).hi
    · rw [if_neg h2] at K
      simp (disch := first | assumption | omega | exact isB_0 | exact isB_1 | exact isB_bI _ | decide) only [e_X6_kind_0, e_X6_kind_1, e_X6_kind_2, e_X6_kind_5, e_X6_kind_8, e_X6_kind_9, e_X6_kind_10, e_X6_kind_11, e_X6_kind_14, e_X6_kind_17, e_X6_kind_20, e_X6_kind_21, e_X6_kind_23, e_X6_kind_26, e_X6_kind_27, e_X6_kind_28, e_X6_kind_31, e_X6_kind_32, e_X6_kind_33, e_X6_kind_34, e_X6_kind_36, e_X6_kind_37, e_X6_kind_41, e_X6_kind_42, e_X6_kind_45, e_X6_kind_46, e_X6_kind_49, e_X6_kind_51, e_X6_kind_52, e_X6_kind_53, e_X6_kind_54, e_X6_kind_55, e_X6_kind_57, e_X6_kind_58, e_X6_kind_59, e_X6_kind_60, e_X6_kind_61, e_X6_kind_64, e_X6_kind_66, e_X6_kind_68, e_X6_kind_70, e_X6_kind_73, e_X6_kind_75, e_X6_kind_78, e_X6_kind_79, e_X6_kind_80, e_X6_kind_82, e_X6_kind_84, e_X6_kind_87, e_X6_kind_89, e_X6_kind_92, e_X6_kind_94, e_X6_kind_96, e_X6_kind_99, e_X6_kind_102, e_X6_kind_103, m_isFrame R.ci W.1, bI_t h1, m_in, bI_f h2, m_f0 R, and_self, and_true, true_and, Nat.zero_le, nI_ltI, toL1, toL0, ite_self, if_true, if_false, ite_true, ite_false, nI_add, pk_mul, z_eq, z_lt, z_le, z_ge, z_gt, nI_eq, nI_leI, nI_ltI, bI_0, bI_1, not_true_eq_false, not_false_eq_true]
      exact m_bad R K
  · rw [if_neg h1] at K
    simp (disch := first | assumption | omega | exact isB_0 | exact isB_1 | exact isB_bI _ | decide) only [e_X6_kind_0, e_X6_kind_1, e_X6_kind_2, e_X6_kind_5, e_X6_kind_8, e_X6_kind_9, e_X6_kind_10, e_X6_kind_11, e_X6_kind_14, e_X6_kind_17, e_X6_kind_20, e_X6_kind_21, e_X6_kind_23, e_X6_kind_26, e_X6_kind_27, e_X6_kind_28, e_X6_kind_31, e_X6_kind_32, e_X6_kind_33, e_X6_kind_34, e_X6_kind_36, e_X6_kind_37, e_X6_kind_41, e_X6_kind_42, e_X6_kind_45, e_X6_kind_46, e_X6_kind_49, e_X6_kind_51, e_X6_kind_52, e_X6_kind_53, e_X6_kind_54, e_X6_kind_55, e_X6_kind_57, e_X6_kind_58, e_X6_kind_59, e_X6_kind_60, e_X6_kind_61, e_X6_kind_64, e_X6_kind_66, e_X6_kind_68, e_X6_kind_70, e_X6_kind_73, e_X6_kind_75, e_X6_kind_78, e_X6_kind_79, e_X6_kind_80, e_X6_kind_82, e_X6_kind_84, e_X6_kind_87, e_X6_kind_89, e_X6_kind_92, e_X6_kind_94, e_X6_kind_96, e_X6_kind_99, e_X6_kind_102, e_X6_kind_103, m_isFrame R.ci W.1, bI_f h1, m_f0 R, and_self, and_true, true_and, Nat.zero_le, nI_ltI, toL1, toL0, ite_self, if_true, if_false, ite_true, ite_false, nI_add, pk_mul, z_eq, z_lt, z_le, z_ge, z_gt, nI_eq, nI_leI, nI_ltI, bI_0, bI_1, not_true_eq_false, not_false_eq_true]
    exact m_bad R K
end BEST1
