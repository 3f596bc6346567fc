/-! public methods, both sides: frames and views -/
theorem out_g {k hi : Nat} (hk : k < 2147483648) (hh : hi < 2 ^ 31) (hn : ¬ (nI 0 ≤ nI k ∧ nI k ≤ nI hi)) : hi < k := by
  refine Classical.byContradiction fun z => hn (vI_to hh (Nat.zero_le _) (by omega))
theorem in3 {w : Int32} (hw : nI 0 ≤ w ∧ w ≤ nI 3) : w = nI 0 ∨ w = nI 1 ∨ w = nI 2 ∨ w = nI 3 := by
  obtain ⟨k, _, hk, rfl⟩ := vI_of (by decide) hw (by decide)
  have : k = 0 ∨ k = 1 ∨ k = 2 ∨ k = 3 := by omega
  rcases this with rfl | rfl | rfl | rfl
  · exact Or.inl rfl
  · exact Or.inr (Or.inl rfl)
  · exact Or.inr (Or.inr (Or.inl rfl))
  · exact Or.inr (Or.inr (Or.inr rfl))
theorem in5 {w : Int32} (hw : nI 0 ≤ w ∧ w ≤ nI 5) : w = nI 0 ∨ w = nI 1 ∨ w = nI 2 ∨ w = nI 3 ∨ w = nI 4 ∨ w = nI 5 := by
  obtain ⟨k, _, hk, rfl⟩ := vI_of (by decide) hw (by decide)
  have : k = 0 ∨ k = 1 ∨ k = 2 ∨ k = 3 ∨ k = 4 ∨ k = 5 := by omega
  rcases this with rfl | rfl | rfl | rfl | rfl | rfl
  · exact Or.inl rfl
  · exact Or.inr (Or.inl rfl)
  · exact Or.inr (Or.inr (Or.inl rfl))
  · exact Or.inr (Or.inr (Or.inr (Or.inl rfl)))
  · exact Or.inr (Or.inr (Or.inr (Or.inr (Or.inl rfl))))
  · exact Or.inr (Or.inr (Or.inr (Or.inr (Or.inr rfl))))
def sel6 (k a b c d p q : Nat) : Nat := match k with
  | 0 => a
  | 1 => b
  | 2 => c
  | 3 => d
  | 4 => p
  | _ => q
def f_frameOf (a w : Int32) (S : Sy) : Int32 × Sy :=
  if hF a (zF (yC S)) then if nI 0 ≤ w ∧ w ≤ nI 3 then ok (sel6 (nv w) (zO (yC S) (nv a)) (zU (yC S) (nv a)) (zV (yC S) (nv a)) (outW (yC S) (nv a)) 0 0) S else bad 0 S else bad 0 S
def f_of (a w : Int32) (S : Sy) : Int32 × Sy :=
  if hF a (zF (yC S)) then if nI 0 ≤ w ∧ w ≤ nI 5 then ok (sel6 (nv w) (zK (yC S) (nv a)) (zE (yC S) (nv a)) (showN (yC S) (nv a) (zF (yC S))) (wor (zK (yC S) (nv a)) (zE (yC S) (nv a)) (zH (yC S))) (wea (zK (yC S) (nv a)) (zH (yC S))) (solW (yC S) (nv a))) S else bad 0 S else bad 0 S
def f_set (a w b : Int32) (S : Sy) : Int32 × Sy :=
  if hF a (zF (yC S)) then
    if w = nI 0 ∧ (nI 0 ≤ b ∧ b ≤ nI 3) then ok (zO (yC S) (nv a)) (ysC S (zsO (yC S) (updN (zO (yC S)) (nv a) (nv b))))
    else if w = nI 1 ∧ (nI 0 ≤ b ∧ b ≤ nI 1) then ok (zU (yC S) (nv a)) (ysC S (zsU (yC S) (updN (zU (yC S)) (nv a) (nv b)))) else bad 0 S
  else bad 0 S
section PUB2
variable {E : En} {h : Hp} {Q : Option Value → Hp → Prop} {S : Sy}
theorem v_frame (R : RV h S) {a b : Int32} (K : Vo h Q (f_frame a b S)) (W : WS S) : Ev E mX5_frame 0 [.ref 0, .int a, .int b] [] h Q := by
  have hC := isC_1
  have h8 := W.1.f
  unfold f_frame at K
  by_cases h1 : nI 0 ≤ a ∧ a ≤ nI 5
  · rw [if_pos h1] at K
    by_cases h2 : nI 0 ≤ b ∧ b ≤ nI 3
    · rw [if_pos h2] at K
      obtain ⟨j, _, hj, rfl⟩ := vI_of (by decide) h1 (by decide)
      obtain ⟨k, _, hk, rfl⟩ := vI_of (by decide) h2 (by decide)
      rw [nv_nI (by omega), nv_nI (by omega)] at K
      by_cases h3 : zF (yC S) < 8
      · rw [if_pos h3] at K
        simp (disch := first | assumption | omega | exact isB_0 | exact isB_1 | exact isB_bI _ | decide) only [e_X5_frame_0, e_X5_frame_1, e_X5_frame_4, e_X5_frame_7, e_X5_frame_8, e_X5_frame_11, e_X5_frame_14, e_X5_frame_15, e_X5_frame_16, e_X5_frame_19, e_X5_frame_20, e_X5_frame_21, e_X5_frame_24, e_X5_frame_27, e_X5_frame_29, e_X5_frame_32, e_X5_frame_33, e_X5_frame_34, e_X5_frame_37, e_X5_frame_38, e_X5_frame_39, e_X5_frame_42, e_X5_frame_43, e_X5_frame_44, e_X5_frame_47, s_isOwner, s_isKind, hj, hk, R.ci.F, h3, and_self, and_true, true_and, Nat.zero_le, nI_ltI, toL1, toL0, ite_self, if_true, if_false, ite_true, ite_false, nI_add, pk_mul, z_eq, z_lt, z_le, z_ge, z_gt, nI_eq, nI_leI, nI_ltI, bI_0, bI_1, not_true_eq_false, not_false_eq_true]
        refine c_addFrame isC_1 R.ci h3 (fun h' R' F' => ?_)
        simp (disch := first | assumption | omega | exact isB_0 | exact isB_1 | exact isB_bI _ | decide) only [e_X5_frame_0, e_X5_frame_1, e_X5_frame_4, e_X5_frame_7, e_X5_frame_8, e_X5_frame_11, e_X5_frame_14, e_X5_frame_15, e_X5_frame_16, e_X5_frame_19, e_X5_frame_20, e_X5_frame_21, e_X5_frame_24, e_X5_frame_27, e_X5_frame_29, e_X5_frame_32, e_X5_frame_33, e_X5_frame_34, e_X5_frame_37, e_X5_frame_38, e_X5_frame_39, e_X5_frame_42, e_X5_frame_43, e_X5_frame_44, e_X5_frame_47, toL1, toL0, ite_self, if_true, if_false, ite_true, ite_false, nI_add, pk_mul, z_eq, z_lt, z_le, z_ge, z_gt, nI_eq, nI_leI, nI_ltI, bI_0, bI_1, not_true_eq_false, not_false_eq_true]
        exact K _ (R.city R' F'.c1) F'.c1.lo
      · rw [if_neg h3] at K
        simp (disch := first | assumption | omega | exact isB_0 | exact isB_1 | exact isB_bI _ | decide) only [e_X5_frame_0, e_X5_frame_1, e_X5_frame_4, e_X5_frame_7, e_X5_frame_8, e_X5_frame_11, e_X5_frame_14, e_X5_frame_15, e_X5_frame_16, e_X5_frame_19, e_X5_frame_20, e_X5_frame_21, e_X5_frame_24, e_X5_frame_27, e_X5_frame_29, e_X5_frame_32, e_X5_frame_33, e_X5_frame_34, e_X5_frame_37, e_X5_frame_38, e_X5_frame_39, e_X5_frame_42, e_X5_frame_43, e_X5_frame_44, e_X5_frame_47, s_isOwner, s_isKind, hj, hk, R.ci.F, h3, v_tell R, and_self, and_true, true_and, Nat.zero_le, nI_ltI, toL1, toL0, ite_self, if_true, if_false, ite_true, ite_false, nI_add, pk_mul, z_eq, z_lt, z_le, z_ge, z_gt, nI_eq, nI_leI, nI_ltI, bI_0, bI_1, not_true_eq_false, not_false_eq_true]
        exact v_bad R K
    · rw [if_neg h2] at K
      obtain ⟨j, _, hj, rfl⟩ := vI_of (by decide) h1 (by decide)
      simp (disch := first | assumption | omega | exact isB_0 | exact isB_1 | exact isB_bI _ | decide) only [e_X5_frame_0, e_X5_frame_1, e_X5_frame_4, e_X5_frame_7, e_X5_frame_8, e_X5_frame_11, e_X5_frame_14, e_X5_frame_15, e_X5_frame_16, e_X5_frame_19, e_X5_frame_20, e_X5_frame_21, e_X5_frame_24, e_X5_frame_27, e_X5_frame_29, e_X5_frame_32, e_X5_frame_33, e_X5_frame_34, e_X5_frame_37, e_X5_frame_38, e_X5_frame_39, e_X5_frame_42, e_X5_frame_43, e_X5_frame_44, e_X5_frame_47, s_isOwner, s_isKind, hj, bI_f h2, v_tell R, and_self, and_true, true_and, Nat.zero_le, nI_ltI, toL1, toL0, ite_self, if_true, if_false, ite_true, ite_false, nI_add, pk_mul, z_eq, z_lt, z_le, z_ge, z_gt, nI_eq, nI_leI, nI_ltI, bI_0, bI_1, not_true_eq_false, not_false_eq_true]
      exact v_bad R K
  · rw [if_neg h1] at K
    simp (disch := first | assumption | omega | exact isB_0 | exact isB_1 | exact isB_bI _ | decide) only [e_X5_frame_0, e_X5_frame_1, e_X5_frame_4, e_X5_frame_7, e_X5_frame_8, e_X5_frame_11, e_X5_frame_14, e_X5_frame_15, e_X5_frame_16, e_X5_frame_19, e_X5_frame_20, e_X5_frame_21, e_X5_frame_24, e_X5_frame_27, e_X5_frame_29, e_X5_frame_32, e_X5_frame_33, e_X5_frame_34, e_X5_frame_37, e_X5_frame_38, e_X5_frame_39, e_X5_frame_42, e_X5_frame_43, e_X5_frame_44, e_X5_frame_47, s_isOwner, s_isKind, bI_f h1, v_tell R, and_self, and_true, true_and, Nat.zero_le, nI_ltI, toL1, toL0, ite_self, if_true, if_false, ite_true, ite_false, nI_add, pk_mul, z_eq, z_lt, z_le, z_ge, z_gt, nI_eq, nI_leI, nI_ltI, bI_0, bI_1, not_true_eq_false, not_false_eq_true]
    exact v_bad R K
theorem m_frame (R : RM h S) {a b : Int32} (K : Mo h Q (f_frame a b S)) (W : WS S) : Ev E mX6_frame 0 [.ref 36, .int a, .int b] [] h Q := by
  have h8 := W.1.f
  unfold f_frame at K
  by_cases h1 : nI 0 ≤ a ∧ a ≤ nI 5
  · rw [if_pos h1] at K
    by_cases h2 : nI 0 ≤ b ∧ b ≤ nI 3
    · rw [if_pos h2] at K
      obtain ⟨j, _, hj, rfl⟩ := vI_of (by decide) h1 (by decide)
      obtain ⟨k, _, hk, rfl⟩ := vI_of (by decide) h2 (by decide)
      rw [nv_nI (by omega), nv_nI (by omega)] at K
      by_cases h3 : zF (yC S) < 8
      · rw [if_pos h3] at K
        simp (disch := first | assumption | omega | exact isB_0 | exact isB_1 | exact isB_bI _ | decide) only [e_X6_frame_0, e_X6_frame_1, e_X6_frame_2, e_X6_frame_3, e_X6_frame_4, e_X6_frame_7, e_X6_frame_10, e_X6_frame_11, e_X6_frame_14, e_X6_frame_17, e_X6_frame_18, e_X6_frame_20, e_X6_frame_23, e_X6_frame_24, e_X6_frame_25, e_X6_frame_28, e_X6_frame_29, e_X6_frame_30, e_X6_frame_32, e_X6_frame_35, e_X6_frame_36, e_X6_frame_38, e_X6_frame_41, e_X6_frame_44, e_X6_frame_45, e_X6_frame_46, e_X6_frame_47, e_X6_frame_49, e_X6_frame_50, e_X6_frame_53, m_isOwner, m_in, hj, hk, R.ci.F, show ¬ zF (yC S) = 8 by omega, and_self, and_true, true_and, Nat.zero_le, nI_ltI, toL1, toL0, ite_self, if_true, if_false, ite_true, ite_false, nI_add, pk_mul, z_eq, z_lt, z_le, z_ge, z_gt, nI_eq, nI_leI, nI_ltI, bI_0, bI_1, not_true_eq_false, not_false_eq_true]
        refine m_comesAs R.ci h3 (fun h' R' F' => ?_)
        simp (disch := first | assumption | omega | exact isB_0 | exact isB_1 | exact isB_bI _ | decide) only [e_X6_frame_0, e_X6_frame_1, e_X6_frame_2, e_X6_frame_3, e_X6_frame_4, e_X6_frame_7, e_X6_frame_10, e_X6_frame_11, e_X6_frame_14, e_X6_frame_17, e_X6_frame_18, e_X6_frame_20, e_X6_frame_23, e_X6_frame_24, e_X6_frame_25, e_X6_frame_28, e_X6_frame_29, e_X6_frame_30, e_X6_frame_32, e_X6_frame_35, e_X6_frame_36, e_X6_frame_38, e_X6_frame_41, e_X6_frame_44, e_X6_frame_45, e_X6_frame_46, e_X6_frame_47, e_X6_frame_49, e_X6_frame_50, e_X6_frame_53, toL1, toL0, ite_self, if_true, if_false, ite_true, ite_false, nI_add, pk_mul, z_eq, z_lt, z_le, z_ge, z_gt, nI_eq, nI_leI, nI_ltI, bI_0, bI_1, not_true_eq_false, not_false_eq_true]
        exact K _ (R.city R' F'.m7) F'.m7.hi
      · rw [if_neg h3] at K
        have h4 : zF (yC S) = 8 := by omega
        simp (disch := first | assumption | omega | exact isB_0 | exact isB_1 | exact isB_bI _ | decide) only [e_X6_frame_0, e_X6_frame_1, e_X6_frame_2, e_X6_frame_3, e_X6_frame_4, e_X6_frame_7, e_X6_frame_10, e_X6_frame_11, e_X6_frame_14, e_X6_frame_17, e_X6_frame_18, e_X6_frame_20, e_X6_frame_23, e_X6_frame_24, e_X6_frame_25, e_X6_frame_28, e_X6_frame_29, e_X6_frame_30, e_X6_frame_32, e_X6_frame_35, e_X6_frame_36, e_X6_frame_38, e_X6_frame_41, e_X6_frame_44, e_X6_frame_45, e_X6_frame_46, e_X6_frame_47, e_X6_frame_49, e_X6_frame_50, e_X6_frame_53, m_isOwner, m_in, hj, hk, R.ci.F, h4, m_f1 R, and_self, and_true, true_and, Nat.zero_le, nI_ltI, toL1, toL0, ite_self, if_true, if_false, ite_true, ite_false, nI_add, pk_mul, z_eq, z_lt, z_le, z_ge, z_gt, nI_eq, nI_leI, nI_ltI, bI_0, bI_1, not_true_eq_false, not_false_eq_true]
        exact m_bad R K
    · rw [if_neg h2] at K
      obtain ⟨j, _, hj, rfl⟩ := vI_of (by decide) h1 (by decide)
      simp (disch := first | assumption | omega | exact isB_0 | exact isB_1 | exact isB_bI _ | decide) only [e_X6_frame_0, e_X6_frame_1, e_X6_frame_2, e_X6_frame_3, e_X6_frame_4, e_X6_frame_7, e_X6_frame_10, e_X6_frame_11, e_X6_frame_14, e_X6_frame_17, e_X6_frame_18, e_X6_frame_20, e_X6_frame_23, e_X6_frame_24, e_X6_frame_25, e_X6_frame_28, e_X6_frame_29, e_X6_frame_30, e_X6_frame_32, e_X6_frame_35, e_X6_frame_36, e_X6_frame_38, e_X6_frame_41, e_X6_frame_44, e_X6_frame_45, e_X6_frame_46, e_X6_frame_47, e_X6_frame_49, e_X6_frame_50, e_X6_frame_53, m_isOwner, m_in, hj, bI_f h2, m_f0 R, and_self, and_true, true_and, Nat.zero_le, nI_ltI, toL1, toL0, ite_self, if_true, if_false, ite_true, ite_false, nI_add, pk_mul, z_eq, z_lt, z_le, z_ge, z_gt, nI_eq, nI_leI, nI_ltI, bI_0, bI_1, not_true_eq_false, not_false_eq_true]
      exact m_bad R K
  · rw [if_neg h1] at K
    simp (disch := first | assumption | omega | exact isB_0 | exact isB_1 | exact isB_bI _ | decide) only [e_X6_frame_0, e_X6_frame_1, e_X6_frame_2, e_X6_frame_3, e_X6_frame_4, e_X6_frame_7, e_X6_frame_10, e_X6_frame_11, e_X6_frame_14, e_X6_frame_17, e_X6_frame_18, e_X6_frame_20, e_X6_frame_23, e_X6_frame_24, e_X6_frame_25, e_X6_frame_28, e_X6_frame_29, e_X6_frame_30, e_X6_frame_32, e_X6_frame_35, e_X6_frame_36, e_X6_frame_38, e_X6_frame_41, e_X6_frame_44, e_X6_frame_45, e_X6_frame_46, e_X6_frame_47, e_X6_frame_49, e_X6_frame_50, e_X6_frame_53, m_isOwner, m_in, bI_f h1, m_f0 R, and_self, and_true, true_and, Nat.zero_le, nI_ltI, toL1, toL0, ite_self, if_true, if_false, ite_true, ite_false, nI_add, pk_mul, z_eq, z_lt, z_le, z_ge, z_gt, nI_eq, nI_leI, nI_ltI, bI_0, bI_1, not_true_eq_false, not_false_eq_true]
    exact m_bad R K
theorem v_fine (R : RV h S) {a b : Int32} (K : Vo h Q (f_fine a b S)) (W : WS S) : Ev E mX5_fine 0 [.ref 0, .int a, .int b, .null] [] h Q := by
  have hC := isC_1
  have h8 := W.1.f
  unfold f_fine at K
  by_cases h1 : hF a (zF (yC S))
  · rw [if_pos h1] at K
    by_cases h2 : nI 0 ≤ b ∧ b ≤ nI 99
    · rw [if_pos h2] at K
      obtain ⟨j, hj, rfl⟩ := hF_of (by omega) h1
      obtain ⟨k, _, hk, rfl⟩ := vI_of (by decide) h2 (by decide)
      rw [nv_nI (by omega), nv_nI (by omega)] at K
      simp (disch := first | assumption | omega | exact isB_0 | exact isB_1 | exact isB_bI _ | decide) only [e_X5_fine_0, e_X5_fine_1, e_X5_fine_4, e_X5_fine_5, e_X5_fine_8, e_X5_fine_11, e_X5_fine_12, e_X5_fine_13, e_X5_fine_15, e_X5_fine_18, e_X5_fine_21, e_X5_fine_22, e_X5_fine_23, e_X5_fine_26, e_X5_fine_27, e_X5_fine_28, e_X5_fine_31, e_X5_fine_34, e_X5_fine_35, e_X5_fine_36, e_X5_fine_37, e_X5_fine_38, e_X5_fine_41, e_X5_fine_44, e_X5_fine_45, e_X5_fine_46, e_X5_fine_47, e_X5_fine_48, c_hasView isC_1 R.ci W.1, bI_t h1, s_isWithin, hk, R.ci.E (show j < 8 by omega), and_self, and_true, true_and, Nat.zero_le, nI_ltI, toL1, toL0, ite_self, if_true, if_false, ite_true, ite_false, nI_add, pk_mul, z_eq, z_lt, z_le, z_ge, z_gt, nI_eq, nI_leI, nI_ltI, bI_0, bI_1, not_true_eq_false, not_false_eq_true]
      exact K _ (R.city (R.ci.setE j k) (xvA (by decide) (by decide))) (lowA (by decide))
    · rw [if_neg h2] at K
      simp (disch := first | assumption | omega | exact isB_0 | exact isB_1 | exact isB_bI _ | decide) only [e_X5_fine_0, e_X5_fine_1, e_X5_fine_4, e_X5_fine_5, e_X5_fine_8, e_X5_fine_11, e_X5_fine_12, e_X5_fine_13, e_X5_fine_15, e_X5_fine_18, e_X5_fine_21, e_X5_fine_22, e_X5_fine_23, e_X5_fine_26, e_X5_fine_27, e_X5_fine_28, e_X5_fine_31, e_X5_fine_34, e_X5_fine_35, e_X5_fine_36, e_X5_fine_37, e_X5_fine_38, e_X5_fine_41, e_X5_fine_44, e_X5_fine_45, e_X5_fine_46, e_X5_fine_47, e_X5_fine_48, c_hasView isC_1 R.ci W.1, bI_t h1, s_isWithin, bI_f h2, v_tell R, and_self, and_true, true_and, Nat.zero_le, nI_ltI, toL1, toL0, ite_self, if_true, if_false, ite_true, ite_false, nI_add, pk_mul, z_eq, z_lt, z_le, z_ge, z_gt, nI_eq, nI_leI, nI_ltI, bI_0, bI_1, not_true_eq_false, not_false_eq_true]
      exact v_bad R K
  · rw [if_neg h1] at K
    simp (disch := first | assumption | omega | exact isB_0 | exact isB_1 | exact isB_bI _ | decide) only [e_X5_fine_0, e_X5_fine_1, e_X5_fine_4, e_X5_fine_5, e_X5_fine_8, e_X5_fine_11, e_X5_fine_12, e_X5_fine_13, e_X5_fine_15, e_X5_fine_18, e_X5_fine_21, e_X5_fine_22, e_X5_fine_23, e_X5_fine_26, e_X5_fine_27, e_X5_fine_28, e_X5_fine_31, e_X5_fine_34, e_X5_fine_35, e_X5_fine_36, e_X5_fine_37, e_X5_fine_38, e_X5_fine_41, e_X5_fine_44, e_X5_fine_45, e_X5_fine_46, e_X5_fine_47, e_X5_fine_48, c_hasView isC_1 R.ci W.1, bI_f h1, v_tell R, and_self, and_true, true_and, Nat.zero_le, nI_ltI, toL1, toL0, ite_self, if_true, if_false, ite_true, ite_false, nI_add, pk_mul, z_eq, z_lt, z_le, z_ge, z_gt, nI_eq, nI_leI, nI_ltI, bI_0, bI_1, not_true_eq_false, not_false_eq_true]
    exact v_bad R K
theorem m_fine (R : RM h S) {a b : Int32} (K : Mo h Q (f_fine a b S)) (W : WS S) : Ev E mX6_fine 0 [.ref 36, .int a, .int b] [] h Q := by
  have h8 := W.1.f
  unfold f_fine at K
  by_cases h1 : hF a (zF (yC S))
  · rw [if_pos h1] at K
    by_cases h2 : nI 0 ≤ b ∧ b ≤ nI 99
    · rw [if_pos h2] at K
      obtain ⟨j, hj, rfl⟩ := hF_of (by omega) h1
      obtain ⟨k, _, hk, rfl⟩ := vI_of (by decide) h2 (by decide)
      rw [nv_nI (by omega), nv_nI (by omega)] at K
      simp (disch := first | assumption | omega | exact isB_0 | exact isB_1 | exact isB_bI _ | decide) only [e_X6_fine_0, e_X6_fine_1, e_X6_fine_2, e_X6_fine_5, e_X6_fine_8, e_X6_fine_9, e_X6_fine_10, e_X6_fine_11, e_X6_fine_13, e_X6_fine_16, e_X6_fine_19, e_X6_fine_20, e_X6_fine_22, e_X6_fine_23, e_X6_fine_24, e_X6_fine_25, e_X6_fine_26, e_X6_fine_27, e_X6_fine_28, e_X6_fine_29, e_X6_fine_32, e_X6_fine_35, e_X6_fine_36, e_X6_fine_38, e_X6_fine_41, m_isFrame R.ci W.1, bI_t h1, m_in, hk, m_becomes, R.ci.E (show j < 8 by omega), and_self, and_true, true_and, Nat.zero_le, nI_ltI, toL1, toL0, ite_self, if_true, if_false, ite_true, ite_false, nI_add, pk_mul, z_eq, z_lt, z_le, z_ge, z_gt, nI_eq, nI_leI, nI_ltI, bI_0, bI_1, not_true_eq_false, not_false_eq_true]
      exact K _ (R.city (R.ci.setE (by omega) k) (xwA (by decide))) (Fr.hi (xwA (by decide)))
    · rw [if_neg h2] at K
      simp (disch := first | assumption | omega | exact isB_0 | exact isB_1 | exact isB_bI _ | decide) only [e_X6_fine_0, e_X6_fine_1, e_X6_fine_2, e_X6_fine_5, e_X6_fine_8, e_X6_fine_9, e_X6_fine_10, e_X6_fine_11, e_X6_fine_13, e_X6_fine_16, e_X6_fine_19, e_X6_fine_20, e_X6_fine_22, e_X6_fine_23, e_X6_fine_24, e_X6_fine_25, e_X6_fine_26, e_X6_fine_27, e_X6_fine_28, e_X6_fine_29, e_X6_fine_32, e_X6_fine_35, e_X6_fine_36, e_X6_fine_38, e_X6_fine_41, m_isFrame R.ci W.1, bI_t h1, m_in, bI_f h2, m_f0 R, and_self, and_true, true_and, Nat.zero_le, nI_ltI, toL1, toL0, ite_self, if_true, if_false, ite_true, ite_false, nI_add, pk_mul, z_eq, z_lt, z_le, z_ge, z_gt, nI_eq, nI_leI, nI_ltI, bI_0, bI_1, not_true_eq_false, not_false_eq_true]
      exact m_bad R K
  · rw [if_neg h1] at K
    simp (disch := first | assumption | omega | exact isB_0 | exact isB_1 | exact isB_bI _ | decide) only [e_X6_fine_0, e_X6_fine_1, e_X6_fine_2, e_X6_fine_5, e_X6_fine_8, e_X6_fine_9, e_X6_fine_10, e_X6_fine_11, e_X6_fine_13, e_X6_fine_16, e_X6_fine_19, e_X6_fine_20, e_X6_fine_22, e_X6_fine_23, e_X6_fine_24, e_X6_fine_25, e_X6_fine_26, e_X6_fine_27, e_X6_fine_28, e_X6_fine_29, e_X6_fine_32, e_X6_fine_35, e_X6_fine_36, e_X6_fine_38, e_X6_fine_41, m_isFrame R.ci W.1, bI_f h1, m_f0 R, and_self, and_true, true_and, Nat.zero_le, nI_ltI, toL1, toL0, ite_self, if_true, if_false, ite_true, ite_false, nI_add, pk_mul, z_eq, z_lt, z_le, z_ge, z_gt, nI_eq, nI_leI, nI_ltI, bI_0, bI_1, not_true_eq_false, not_false_eq_true]
    exact m_bad R K
theorem v_turn (R : RV h S) {a b : Int32} (K : Vo h Q (f_turn a b S)) (W : WS S) : Ev E mX5_turn 0 [.ref 0, .int a, .int b, .null] [] h Q := by
  have hC := isC_1
  have h8 := W.1.f
  unfold f_turn at K
  by_cases h1 : hF a (zF (yC S))
  · rw [if_pos h1] at K
    by_cases h2 : nI 0 ≤ b ∧ b ≤ nI 5
    · rw [if_pos h2] at K
      obtain ⟨j, hj, rfl⟩ := hF_of (by omega) h1
      obtain ⟨k, _, hk, rfl⟩ := vI_of (by decide) h2 (by decide)
      rw [nv_nI (by omega), nv_nI (by omega)] at K
      simp (disch := first | assumption | omega | exact isB_0 | exact isB_1 | exact isB_bI _ | decide) only [e_X5_turn_0, e_X5_turn_1, e_X5_turn_4, e_X5_turn_5, e_X5_turn_8, e_X5_turn_11, e_X5_turn_12, e_X5_turn_15, e_X5_turn_18, e_X5_turn_19, e_X5_turn_20, e_X5_turn_23, e_X5_turn_24, e_X5_turn_25, e_X5_turn_28, e_X5_turn_31, e_X5_turn_32, e_X5_turn_33, e_X5_turn_34, e_X5_turn_35, e_X5_turn_38, e_X5_turn_41, e_X5_turn_42, e_X5_turn_43, e_X5_turn_44, e_X5_turn_45, c_hasView isC_1 R.ci W.1, bI_t h1, s_isKind, hk, R.ci.K (show j < 8 by omega), and_self, and_true, true_and, Nat.zero_le, nI_ltI, toL1, toL0, ite_self, if_true, if_false, ite_true, ite_false, nI_add, pk_mul, z_eq, z_lt, z_le, z_ge, z_gt, nI_eq, nI_leI, nI_ltI, bI_0, bI_1, not_true_eq_false, not_false_eq_true]
      exact K _ (R.city (R.ci.setK j k) (xvA (by decide) (by decide))) (lowA (by decide))
    · rw [if_neg h2] at K
      simp (disch := first | assumption | omega | exact isB_0 | exact isB_1 | exact isB_bI _ | decide) only [e_X5_turn_0, e_X5_turn_1, e_X5_turn_4, e_X5_turn_5, e_X5_turn_8, e_X5_turn_11, e_X5_turn_12, e_X5_turn_15, e_X5_turn_18, e_X5_turn_19, e_X5_turn_20, e_X5_turn_23, e_X5_turn_24, e_X5_turn_25, e_X5_turn_28, e_X5_turn_31, e_X5_turn_32, e_X5_turn_33, e_X5_turn_34, e_X5_turn_35, e_X5_turn_38, e_X5_turn_41, e_X5_turn_42, e_X5_turn_43, e_X5_turn_44, e_X5_turn_45, c_hasView isC_1 R.ci W.1, bI_t h1, s_isKind, bI_f h2, v_tell R, and_self, and_true, true_and, Nat.zero_le, nI_ltI, toL1, toL0, ite_self, if_true, if_false, ite_true, ite_false, nI_add, pk_mul, z_eq, z_lt, z_le, z_ge, z_gt, nI_eq, nI_leI, nI_ltI, bI_0, bI_1, not_true_eq_false, not_false_eq_true]
      exact v_bad R K
  · rw [if_neg h1] at K
    simp (disch := first | assumption | omega | exact isB_0 | exact isB_1 | exact isB_bI _ | decide) only [e_X5_turn_0, e_X5_turn_1, e_X5_turn_4, e_X5_turn_5, e_X5_turn_8, e_X5_turn_11, e_X5_turn_12, e_X5_turn_15, e_X5_turn_18, e_X5_turn_19, e_X5_turn_20, e_X5_turn_23, e_X5_turn_24, e_X5_turn_25, e_X5_turn_28, e_X5_turn_31, e_X5_turn_32, e_X5_turn_33, e_X5_turn_34, e_X5_turn_35, e_X5_turn_38, e_X5_turn_41, e_X5_turn_42, e_X5_turn_43, e_X5_turn_44, e_X5_turn_45, c_hasView isC_1 R.ci W.1, bI_f h1, v_tell R, and_self, and_true, true_and, Nat.zero_le, nI_ltI, toL1, toL0, ite_self, if_true, if_false, ite_true, ite_false, nI_add, pk_mul, z_eq, z_lt, z_le, z_ge, z_gt, nI_eq, nI_leI, nI_ltI, bI_0, bI_1, not_true_eq_false, not_false_eq_true]
    exact v_bad R K
theorem m_turn (R : RM h S) {a b : Int32} (K : Mo h Q (f_turn a b S)) (W : WS S) : Ev E mX6_turn 0 [.ref 36, .int a, .int b] [] h Q := by
  have h8 := W.1.f
  unfold f_turn at K
  by_cases h1 : hF a (zF (yC S))
  · rw [if_pos h1] at K
    by_cases h2 : nI 0 ≤ b ∧ b ≤ nI 5
    · rw [if_pos h2] at K
      obtain ⟨j, hj, rfl⟩ := hF_of (by omega) h1
      obtain ⟨k, _, hk, rfl⟩ := vI_of (by decide) h2 (by decide)
      rw [nv_nI (by omega), nv_nI (by omega)] at K
      simp (disch := first | assumption | omega | exact isB_0 | exact isB_1 | exact isB_bI _ | decide) only [e_X6_turn_0, e_X6_turn_1, e_X6_turn_2, e_X6_turn_5, e_X6_turn_8, e_X6_turn_9, e_X6_turn_10, e_X6_turn_11, e_X6_turn_12, e_X6_turn_15, e_X6_turn_18, e_X6_turn_19, e_X6_turn_21, e_X6_turn_22, e_X6_turn_23, e_X6_turn_24, e_X6_turn_25, e_X6_turn_26, e_X6_turn_29, e_X6_turn_32, e_X6_turn_33, e_X6_turn_35, e_X6_turn_38, m_isFrame R.ci W.1, bI_t h1, m_in, hk, m_becomes, R.ci.K (show j < 8 by omega), and_self, and_true, true_and, Nat.zero_le, nI_ltI, toL1, toL0, ite_self, if_true, if_false, ite_true, ite_false, nI_add, pk_mul, z_eq, z_lt, z_le, z_ge, z_gt, nI_eq, nI_leI, nI_ltI, bI_0, bI_1, not_true_eq_false, not_false_eq_true]
      exact K _ (R.city (R.ci.setK (by omega) k) (xwA (by decide))) (Fr.hi (xwA (by decide)))
    · rw [if_neg h2] at K
      simp (disch := first | assumption | omega | exact isB_0 | exact isB_1 | exact isB_bI _ | decide) only [e_X6_turn_0, e_X6_turn_1, e_X6_turn_2, e_X6_turn_5, e_X6_turn_8, e_X6_turn_9, e_X6_turn_10, e_X6_turn_11, e_X6_turn_12, e_X6_turn_15, e_X6_turn_18, e_X6_turn_19, e_X6_turn_21, e_X6_turn_22, e_X6_turn_23, e_X6_turn_24, e_X6_turn_25, e_X6_turn_26, e_X6_turn_29, e_X6_turn_32, e_X6_turn_33, e_X6_turn_35, e_X6_turn_38, m_isFrame R.ci W.1, bI_t h1, m_in, bI_f h2, m_f0 R, and_self, and_true, true_and, Nat.zero_le, nI_ltI, toL1, toL0, ite_self, if_true, if_false, ite_true, ite_false, nI_add, pk_mul, z_eq, z_lt, z_le, z_ge, z_gt, nI_eq, nI_leI, nI_ltI, bI_0, bI_1, not_true_eq_false, not_false_eq_true]
      exact m_bad R K
  · rw [if_neg h1] at K
    simp (disch := first | assumption | omega | exact isB_0 | exact isB_1 | exact isB_bI _ | decide) only [e_X6_turn_0, e_X6_turn_1, e_X6_turn_2, e_X6_turn_5, e_X6_turn_8, e_X6_turn_9, e_X6_turn_10, e_X6_turn_11, e_X6_turn_12, e_X6_turn_15, e_X6_turn_18, e_X6_turn_19, e_X6_turn_21, e_X6_turn_22, e_X6_turn_23, e_X6_turn_24, e_X6_turn_25, e_X6_turn_26, e_X6_turn_29, e_X6_turn_32, e_X6_turn_33, e_X6_turn_35, e_X6_turn_38, m_isFrame R.ci W.1, bI_f h1, m_f0 R, and_self, and_true, true_and, Nat.zero_le, nI_ltI, toL1, toL0, ite_self, if_true, if_false, ite_true, ite_false, nI_add, pk_mul, z_eq, z_lt, z_le, z_ge, z_gt, nI_eq, nI_leI, nI_ltI, bI_0, bI_1, not_true_eq_false, not_false_eq_true]
    exact m_bad R K
end PUB2
