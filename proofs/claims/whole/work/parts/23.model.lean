/-! the other side: a row of numbers, frame by frame -/
abbrev Xm : Nat → Prop := fun o => o = 37
theorem xm : Xm 37 := rfl
theorem RR.congM {h : Hp} {a : Nat} {C : Cty} {m1 m2 : Nat → Nat} (R : RR h a (zsM C m1)) (e : ∀ i, i < 4 → m1 i = m2 i) : RR h a (zsM C m2) := by
  obtain ⟨r1, r2, r3, r4, r5, r6, r7, r8⟩ := R
  exact ⟨r1, r2, fun i hi => (r3 i hi).trans (congrArg nI (e i hi)), r4, r5, r6, r7, r8⟩
theorem RR.congV {h : Hp} {a : Nat} {C : Cty} {m1 m2 : Nat → Nat} (R : RR h a (zsV C m1)) (e : ∀ i, i < 8 → m1 i = m2 i) : RR h a (zsV C m2) := by
  obtain ⟨r1, r2, r3, r4, r5, r6, r7, r8⟩ := R
  exact ⟨r1, r2, r3, r4, r5, fun i hi => (r6 i hi).trans (congrArg nI (e i hi)), r7, r8⟩
theorem RR.congE {h : Hp} {a : Nat} {C : Cty} {m1 m2 : Nat → Nat} (R : RR h a (zsE C m1)) (e : ∀ i, i < 8 → m1 i = m2 i) : RR h a (zsE C m2) := by
  obtain ⟨r1, r2, r3, r4, r5, r6, r7, r8⟩ := R
  exact ⟨r1, r2, r3, r4, r5, r6, r7, fun i hi => (r8 i hi).trans (congrArg nI (e i hi))⟩
theorem hF_sub {x : Int32} {n : Nat} (hn : n ≤ 200) : (nI 0 ≤ x ∧ x ≤ nI n - nI 1) ↔ hF x n := by
  refine and_congr Iff.rfl ?_
  rw [Int32.le_iff_toInt_le, Int32.lt_iff_toInt_lt, pk_sub_toInt (by omega) (by omega), nI_toInt (by omega)]
  omega
section MODEL
variable {E : En} {h : Hp} {Q : Option Value → Hp → Prop} {C : Cty}
theorem m_about {f w : Nat} (hf : f < 8) (hw : w ≤ 2) : Ev E mX6_about 0 [.ref 36, .int (nI f), .int (nI w)] [] h Q = Q (some (.int (gA h 37 (6 + 3 * f + w)))) h := by
  simp (disch := first | assumption | omega | exact isB_0 | exact isB_1 | exact isB_bI _ | decide) only [e_X6_about_0, e_X6_about_1, e_X6_about_4, e_X6_about_6, e_X6_about_7, e_X6_about_8, e_X6_about_9, e_X6_about_10, e_X6_about_11, e_X6_about_12, e_X6_about_13, toL1, toL0, ite_self, if_true, if_false, ite_true, ite_false, nI_add, pk_mul, z_eq, z_lt, z_le, z_ge, z_gt, nI_eq, nI_leI, nI_ltI, bI_0, bI_1, not_true_eq_false, not_false_eq_true]
theorem m_it {v w : Nat} (hv : v < 8) (hw : w ≤ 1) : Ev E mX6_it 0 [.ref 36, .int (nI v), .int (nI w)] [] h Q = Q (some (.int (gA h 37 (30 + 2 * v + w)))) h := by
  simp (disch := first | assumption | omega | exact isB_0 | exact isB_1 | exact isB_bI _ | decide) only [e_X6_it_0, e_X6_it_1, e_X6_it_4, e_X6_it_6, e_X6_it_7, e_X6_it_8, e_X6_it_9, e_X6_it_10, e_X6_it_11, e_X6_it_12, e_X6_it_13, toL1, toL0, ite_self, if_true, if_false, ite_true, ite_false, nI_add, pk_mul, z_eq, z_lt, z_le, z_ge, z_gt, nI_eq, nI_leI, nI_ltI, bI_0, bI_1, not_true_eq_false, not_false_eq_true]
theorem m_aO (R : RR h 37 C) {f : Nat} (hf : f < 8) : Ev E mX6_about 0 [.ref 36, .int (nI f), .int (nI 0)] [] h Q = Q (some (.int (nI (zO C f)))) h := by
  rw [m_about hf (by decide), Nat.add_zero, R.O hf]
theorem m_aU (R : RR h 37 C) {f : Nat} (hf : f < 8) : Ev E mX6_about 0 [.ref 36, .int (nI f), .int (nI 1)] [] h Q = Q (some (.int (nI (zU C f)))) h := by
  rw [m_about hf (by decide), R.U hf]
theorem m_aV (R : RR h 37 C) {f : Nat} (hf : f < 8) : Ev E mX6_about 0 [.ref 36, .int (nI f), .int (nI 2)] [] h Q = Q (some (.int (nI (zV C f)))) h := by
  rw [m_about hf (by decide), R.V hf]
theorem m_iK (R : RR h 37 C) {v : Nat} (hv : v < 8) : Ev E mX6_it 0 [.ref 36, .int (nI v), .int (nI 0)] [] h Q = Q (some (.int (nI (zK C v)))) h := by
  rw [m_it hv (by decide), Nat.add_zero, R.K hv]
theorem m_iE (R : RR h 37 C) {v : Nat} (hv : v < 8) : Ev E mX6_it 0 [.ref 36, .int (nI v), .int (nI 1)] [] h Q = Q (some (.int (nI (zE C v)))) h := by
  rw [m_it hv (by decide), R.E hv]
theorem m_clock (R : RR h 37 C) (W : WC C) : Ev E mX6_clock 0 [.ref 36] [] h Q = Q (some (.int (nI (zH C % 24)))) h := by
  have hh := W.h
  have h1 := pk_rem (a := zH C) (d := 24) (by omega) (by omega) (by omega)
  simp (disch := first | assumption | omega | exact isB_0 | exact isB_1 | exact isB_bI _ | decide) only [e_X6_clock_0, e_X6_clock_1, e_X6_clock_4, e_X6_clock_5, e_X6_clock_6, e_X6_clock_8, e_X6_clock_9, R.H, h1]
theorem m_isSpring (R : RR h 37 C) (W : WC C) : Ev E mX6_isSpring 0 [.ref 36] [] h Q = Q (some (.int (bI (zH C / 24 % 28 < 7)))) h := by
  have hh := W.h
  have h1 := pk_div (a := zH C) (d := 24) (by omega) (by omega) (by omega)
  have h2 := pk_rem (a := zH C / 24) (d := 28) (by omega) (by omega) (by omega)
  simp (disch := first | assumption | omega | exact isB_0 | exact isB_1 | exact isB_bI _ | decide) only [e_X6_isSpring_0, e_X6_isSpring_1, e_X6_isSpring_4, e_X6_isSpring_5, e_X6_isSpring_6, e_X6_isSpring_8, e_X6_isSpring_9, e_X6_isSpring_11, e_X6_isSpring_12, e_X6_isSpring_14, e_X6_isSpring_17, e_X6_isSpring_18, e_X6_isSpring_21, e_X6_isSpring_22, R.H, h1, h2, toL1, toL0, ite_self, if_true, if_false, ite_true, ite_false, nI_add, pk_mul, z_eq, z_lt, z_le, z_ge, z_gt, nI_eq, nI_leI, nI_ltI, bI_0, bI_1, not_true_eq_false, not_false_eq_true]
  by_cases hs : zH C / 24 % 28 < 7
  · rw [if_neg (by omega), bI_t hs]
  · rw [if_pos (by omega), bI_f hs]
theorem m_isFrame (R : RR h 37 C) (W : WC C) {x : Int32} : Ev E mX6_isFrame 0 [.ref 36, .int x] [] h Q = Q (some (.int (bI (hF x (zF C))))) h := by
  have h8 := W.f
  simp (disch := first | assumption | omega | exact isB_0 | exact isB_1 | exact isB_bI _ | decide) only [e_X6_isFrame_0, e_X6_isFrame_1, e_X6_isFrame_2, e_X6_isFrame_3, e_X6_isFrame_4, e_X6_isFrame_7, e_X6_isFrame_8, e_X6_isFrame_9, e_X6_isFrame_10, e_X6_isFrame_11, e_X6_isFrame_14, R.F, m_in, toL1, toL0, ite_self, if_true, if_false, ite_true, ite_false, nI_add, pk_mul, z_eq, z_lt, z_le, z_ge, z_gt, nI_eq, nI_leI, nI_ltI, bI_0, bI_1, not_true_eq_false, not_false_eq_true]
  rw [bI_iff (hF_sub (by omega))]
theorem m_worth (R : RR h 37 C) (W : WC C) {v : Nat} (hv : v < 8) : Ev E mX6_worth 0 [.ref 36, .int (nI v), .null, .null, .null, .null, .null] [] h Q = Q (some (.int (nI (wor (zK C v) (zE C v) (zH C))))) h := by
  have hh := W.h
  have hf := W.e hv
  have hk := W.k hv
  have h1 := pk_div (a := zE C v) (d := 10) (by omega) (by omega) (by omega)
  have h2 := pk_div (a := zE C v) (d := 4) (by omega) (by omega) (by omega)
  have h3 := pk_rem (a := zH C % 24) (d := 2) (by omega) (by omega) (by omega)
  have h4 : (nI 6 ≤ nI (zH C % 24) ∧ nI (zH C % 24) ≤ nI 17) ↔ (6 ≤ zH C % 24 ∧ zH C % 24 ≤ 17) := by rw [nI_leI (by omega) (by omega), nI_leI (by omega) (by omega)]
  simp (disch := first | assumption | omega | exact isB_0 | exact isB_1 | exact isB_bI _ | decide) only [e_X6_worth_0, e_X6_worth_1, e_X6_worth_4, e_X6_worth_5, e_X6_worth_6, e_X6_worth_7, e_X6_worth_8, e_X6_worth_11, e_X6_worth_12, e_X6_worth_13, e_X6_worth_14, e_X6_worth_16, e_X6_worth_17, e_X6_worth_18, e_X6_worth_20, e_X6_worth_21, e_X6_worth_22, e_X6_worth_24, e_X6_worth_26, e_X6_worth_29, e_X6_worth_32, e_X6_worth_34, e_X6_worth_35, e_X6_worth_36, e_X6_worth_39, e_X6_worth_41, e_X6_worth_43, e_X6_worth_44, e_X6_worth_45, e_X6_worth_46, e_X6_worth_49, e_X6_worth_51, e_X6_worth_52, e_X6_worth_53, e_X6_worth_56, e_X6_worth_58, e_X6_worth_60, e_X6_worth_61, e_X6_worth_62, e_X6_worth_63, e_X6_worth_100, e_X6_worth_102, e_X6_worth_103, e_X6_worth_105, e_X6_worth_106, e_X6_worth_107, e_X6_worth_108, e_X6_worth_109, e_X6_worth_110, e_X6_worth_111, e_X6_worth_113, e_X6_worth_116, e_X6_worth_117, e_X6_worth_119, e_X6_worth_120, e_X6_worth_123, e_X6_worth_125, e_X6_worth_126, e_X6_worth_127, e_X6_worth_130, e_X6_worth_133, e_X6_worth_135, e_X6_worth_136, e_X6_worth_137, e_X6_worth_140, e_X6_worth_142, e_X6_worth_143, e_X6_worth_145, m_clock R W, m_iK R hv, m_iE R hv, m_in, bI_iff h4, h1, h2, h3, toL1, toL0, ite_self, if_true, if_false, ite_true, ite_false, nI_add, pk_mul, z_eq, z_lt, z_le, z_ge, z_gt, nI_eq, nI_leI, nI_ltI, bI_0, bI_1, not_true_eq_false, not_false_eq_true]
  generalize hke : zK C v = k at hk ⊢
  by_cases c1 : 6 ≤ zH C % 24 ∧ zH C % 24 ≤ 17 <;> by_cases c2 : zH C % 24 % 2 = 0 <;> simp only [c1, c2, not_true_eq_false, not_false_eq_true, if_true, if_false]
  all_goals rcases k6 hk with rfl | rfl | rfl | rfl | rfl | rfl
  all_goals simp (disch := first | assumption | omega | exact isB_0 | exact isB_1 | exact isB_bI _ | decide) only [e_X6_worth_0, e_X6_worth_1, e_X6_worth_4, e_X6_worth_5, e_X6_worth_6, e_X6_worth_7, e_X6_worth_8, e_X6_worth_11, e_X6_worth_12, e_X6_worth_13, e_X6_worth_14, e_X6_worth_16, e_X6_worth_17, e_X6_worth_18, e_X6_worth_20, e_X6_worth_21, e_X6_worth_22, e_X6_worth_24, e_X6_worth_26, e_X6_worth_29, e_X6_worth_32, e_X6_worth_34, e_X6_worth_35, e_X6_worth_36, e_X6_worth_39, e_X6_worth_41, e_X6_worth_43, e_X6_worth_44, e_X6_worth_45, e_X6_worth_46, e_X6_worth_49, e_X6_worth_51, e_X6_worth_52, e_X6_worth_53, e_X6_worth_56, e_X6_worth_58, e_X6_worth_60, e_X6_worth_61, e_X6_worth_62, e_X6_worth_63, e_X6_worth_66_c0, e_X6_worth_66_c1, e_X6_worth_66_c2, e_X6_worth_66_c3, e_X6_worth_66_c4, e_X6_worth_66_c5, e_X6_worth_66_n, e_X6_worth_66_g, e_X6_worth_100, e_X6_worth_102, e_X6_worth_103, e_X6_worth_105, e_X6_worth_106, e_X6_worth_107, e_X6_worth_108, e_X6_worth_109, e_X6_worth_110, e_X6_worth_111, e_X6_worth_113, e_X6_worth_116, e_X6_worth_117, e_X6_worth_119, e_X6_worth_120, e_X6_worth_123, e_X6_worth_125, e_X6_worth_126, e_X6_worth_127, e_X6_worth_130, e_X6_worth_133, e_X6_worth_135, e_X6_worth_136, e_X6_worth_137, e_X6_worth_140, e_X6_worth_142, e_X6_worth_143, e_X6_worth_145, m_isSpring R W, h2, toL1, toL0, ite_self, if_true, if_false, ite_true, ite_false, nI_add, pk_mul, z_eq, z_lt, z_le, z_ge, z_gt, nI_eq, nI_leI, nI_ltI, bI_0, bI_1, not_true_eq_false, not_false_eq_true]
  all_goals unfold wor seaL strL
  all_goals simp only [c1, c2, not_true_eq_false, not_false_eq_true, if_true, if_false, Nat.add_zero, and_self]
  all_goals first | rfl | skip
  all_goals first | (by_cases c3 : zH C / 24 % 28 < 7 <;> simp only [c3, not_true_eq_false, not_false_eq_true, if_true, if_false, Nat.add_zero]; done) | skip
  all_goals by_cases c4 : zH C % 24 = 12
  all_goals simp only [c4, if_true, if_false, Nat.mul_one]
  all_goals first | rfl | (rw [Nat.mul_comm]; done) | skip
theorem m_wears (R : RR h 37 C) (W : WC C) {v : Nat} (hv : v < 8) : Ev E mX6_wears 0 [.ref 36, .int (nI v)] [] h Q = Q (some (.int (nI (wea (zK C v) (zH C))))) h := by
  have hk := W.k hv
  simp (disch := first | assumption | omega | exact isB_0 | exact isB_1 | exact isB_bI _ | decide) only [e_X6_wears_0, e_X6_wears_1, e_X6_wears_2, e_X6_wears_3, e_X6_wears_32, e_X6_wears_33, e_X6_wears_34, e_X6_wears_35, e_X6_wears_38, e_X6_wears_41, e_X6_wears_42, e_X6_wears_45, e_X6_wears_46, e_X6_wears_47, e_X6_wears_48, m_iK R hv, toL1, toL0, ite_self, if_true, if_false, ite_true, ite_false, nI_add, pk_mul, z_eq, z_lt, z_le, z_ge, z_gt, nI_eq, nI_leI, nI_ltI, bI_0, bI_1, not_true_eq_false, not_false_eq_true]
  generalize zK C v = k at hk ⊢
  rcases k6 hk with rfl | rfl | rfl | rfl | rfl | rfl <;> simp (disch := first | assumption | omega | exact isB_0 | exact isB_1 | exact isB_bI _ | decide) only [e_X6_wears_0, e_X6_wears_1, e_X6_wears_2, e_X6_wears_3, e_X6_wears_6_c0, e_X6_wears_6_c1, e_X6_wears_6_c2, e_X6_wears_6_c3, e_X6_wears_6_c4, e_X6_wears_6_c5, e_X6_wears_32, e_X6_wears_33, e_X6_wears_34, e_X6_wears_35, e_X6_wears_38, e_X6_wears_41, e_X6_wears_42, e_X6_wears_45, e_X6_wears_46, e_X6_wears_47, e_X6_wears_48, m_isSpring R W, toL1, toL0, ite_self, if_true, if_false, ite_true, ite_false, nI_add, pk_mul, z_eq, z_lt, z_le, z_ge, z_gt, nI_eq, nI_leI, nI_ltI, bI_0, bI_1, not_true_eq_false, not_false_eq_true]
  all_goals first | rfl | skip
  unfold wea
  by_cases h3 : zH C / 24 % 28 < 7
  · rw [if_neg (by simp [h3])]; simp only [h3, if_true]
  · rw [if_pos h3]; simp only [h3, if_false]
theorem m_dear (R : RR h 37 C) (W : WC C) {v : Nat} (hv : v < 8) : Ev E mX6_dear 0 [.ref 36, .int (nI v), .null] [] h Q = Q (some (.int (nI (solW C v)))) h := by
  have hk := W.k hv
  simp (disch := first | assumption | omega | exact isB_0 | exact isB_1 | exact isB_bI _ | decide) only [e_X6_dear_0, e_X6_dear_1, e_X6_dear_2, e_X6_dear_3, e_X6_dear_4, e_X6_dear_7, e_X6_dear_8, e_X6_dear_9, e_X6_dear_10, e_X6_dear_11, e_X6_dear_12, e_X6_dear_48, e_X6_dear_49, e_X6_dear_51, e_X6_dear_52, e_X6_dear_53, e_X6_dear_54, e_X6_dear_55, e_X6_dear_56, e_X6_dear_57, e_X6_dear_58, e_X6_dear_61, e_X6_dear_64, e_X6_dear_65, e_X6_dear_67, e_X6_dear_68, e_X6_dear_71, e_X6_dear_72, e_X6_dear_73, e_X6_dear_74, m_iK R hv, m_iE R hv, toL1, toL0, ite_self, if_true, if_false, ite_true, ite_false, nI_add, pk_mul, z_eq, z_lt, z_le, z_ge, z_gt, nI_eq, nI_leI, nI_ltI, bI_0, bI_1, not_true_eq_false, not_false_eq_true]
  unfold solW
  generalize zK C v = k at hk ⊢
  rcases k6 hk with rfl | rfl | rfl | rfl | rfl | rfl <;> simp (disch := first | assumption | omega | exact isB_0 | exact isB_1 | exact isB_bI _ | decide) only [e_X6_dear_0, e_X6_dear_1, e_X6_dear_2, e_X6_dear_3, e_X6_dear_4, e_X6_dear_7, e_X6_dear_8, e_X6_dear_9, e_X6_dear_10, e_X6_dear_11, e_X6_dear_12, e_X6_dear_15_c0, e_X6_dear_15_c1, e_X6_dear_15_c2, e_X6_dear_15_c3, e_X6_dear_15_c4, e_X6_dear_15_c5, e_X6_dear_15_n, e_X6_dear_15_g, e_X6_dear_48, e_X6_dear_49, e_X6_dear_51, e_X6_dear_52, e_X6_dear_53, e_X6_dear_54, e_X6_dear_55, e_X6_dear_56, e_X6_dear_57, e_X6_dear_58, e_X6_dear_61, e_X6_dear_64, e_X6_dear_65, e_X6_dear_67, e_X6_dear_68, e_X6_dear_71, e_X6_dear_72, e_X6_dear_73, e_X6_dear_74, m_isSpring R W, toL1, toL0, ite_self, if_true, if_false, ite_true, ite_false, nI_add, pk_mul, z_eq, z_lt, z_le, z_ge, z_gt, nI_eq, nI_leI, nI_ltI, bI_0, bI_1, not_true_eq_false, not_false_eq_true]
  all_goals first | rfl | skip
  unfold sol
  by_cases h3 : zH C / 24 % 28 < 7
  · rw [if_neg (by simp [h3])]; simp only [h3, if_true]
  · rw [if_pos h3]; simp only [h3, if_false]
theorem m_worthOut (R : RR h 37 C) (W : WC C) {f : Nat} (hf : f < zF C) : Ev E mX6_worthOut 0 [.ref 36, .int (nI f)] [] h Q = Q (some (.int (nI (outW C f)))) h := by
  have h8 := W.f
  have hf8 : f < 8 := by omega
  have hu := W.u hf8
  simp (disch := first | assumption | omega | exact isB_0 | exact isB_1 | exact isB_bI _ | decide) only [e_X6_worthOut_0, e_X6_worthOut_1, e_X6_worthOut_2, e_X6_worthOut_3, e_X6_worthOut_6, e_X6_worthOut_7, e_X6_worthOut_10, e_X6_worthOut_11, e_X6_worthOut_14, e_X6_worthOut_15, e_X6_worthOut_16, e_X6_worthOut_17, e_X6_worthOut_18, e_X6_worthOut_21, e_X6_worthOut_24, m_aU R hf8, m_aV R hf8, m_worth R W (W.v8 hf), toL1, toL0, ite_self, if_true, if_false, ite_true, ite_false, nI_add, pk_mul, z_eq, z_lt, z_le, z_ge, z_gt, nI_eq, nI_leI, nI_ltI, bI_0, bI_1, not_true_eq_false, not_false_eq_true]
  unfold outW
  by_cases h1 : zU C f = 1
  · rw [if_pos h1, if_pos h1]
  · rw [if_neg h1, if_neg h1]
theorem m_changes (R : RR h 37 C) {a b : Nat} (ha : a < 8) (hb : b < 8) (K : ∀ h', RR h' 37 (swpC C a b) → Fr Xm h h' → Q none h') : Ev E mX6_changes 0 [.ref 36, .int (nI a), .int (nI b), .null] [] h Q := by
  simp (disch := first | assumption | omega | exact isB_0 | exact isB_1 | exact isB_bI _ | decide) only [e_X6_changes_0, e_X6_changes_1, e_X6_changes_2, e_X6_changes_3, e_X6_changes_6, e_X6_changes_7, e_X6_changes_8, e_X6_changes_11, e_X6_changes_13, e_X6_changes_14, e_X6_changes_15, e_X6_changes_16, e_X6_changes_17, e_X6_changes_18, e_X6_changes_19, e_X6_changes_20, e_X6_changes_21, e_X6_changes_22, e_X6_changes_25, e_X6_changes_26, e_X6_changes_27, e_X6_changes_30, e_X6_changes_32, e_X6_changes_33, e_X6_changes_34, e_X6_changes_35, e_X6_changes_36, e_X6_changes_37, e_X6_changes_38, e_X6_changes_39, e_X6_changes_40, m_aV R ha, m_aV R hb, toL1, toL0, ite_self, if_true, if_false, ite_true, ite_false, nI_add, pk_mul, z_eq, z_lt, z_le, z_ge, z_gt, nI_eq, nI_leI, nI_ltI, bI_0, bI_1, not_true_eq_false, not_false_eq_true]
  exact K _ ((R.setV ha (zV C b)).setV hb (zV C a)) ((Fr.sA xm).tr (Fr.sA xm))
theorem m_earns (R : RR h 37 C) {o x : Nat} (ho : o < 4) (hm : zM C o ≤ 99999) (hx : x ≤ 1000000) (K : ∀ h', RR h' 37 (zsM C (updN (zM C) o (min 99999 (zM C o + x)))) → Fr Xm h h' → Q none h') : Ev E mX6_earns 0 [.ref 36, .int (nI o), .int (nI x)] [] h Q := by
  have hd : (if zM C o + x < 0 then 0 else if 99999 < zM C o + x then 99999 else zM C o + x) = min 99999 (zM C o + x) := by
    rw [if_neg (by omega)]
    split <;> omega
  simp (disch := first | assumption | omega | exact isB_0 | exact isB_1 | exact isB_bI _ | decide) only [e_X6_earns_0, e_X6_earns_1, e_X6_earns_4, e_X6_earns_5, e_X6_earns_6, e_X6_earns_7, e_X6_earns_8, e_X6_earns_11, e_X6_earns_12, e_X6_earns_13, e_X6_earns_14, e_X6_earns_15, e_X6_earns_16, e_X6_earns_17, e_X6_earns_18, e_X6_earns_20, e_X6_earns_23, e_X6_earns_24, R.M ho, m_held (lo := 0) (hi := 99999) (v := zM C o + x) (by omega) (by omega) (by omega), hd, toL1, toL0, ite_self, if_true, if_false, ite_true, ite_false, nI_add, pk_mul, z_eq, z_lt, z_le, z_ge, z_gt, nI_eq, nI_leI, nI_ltI, bI_0, bI_1, not_true_eq_false, not_false_eq_true]
  exact K _ (R.setM ho _) (Fr.sA xm)
theorem m_price (R : RR h 37 C) (W : WC C) {a b : Nat} (ha : a < zF C) (hb : b < zF C) : Ev E mX6_price 0 [.ref 36, .int (nI a), .int (nI b), .null] [] h Q = Q (some (.int (nI (priceN C a b)))) h := by
  have h8 := W.f
  have ha8 : a < 8 := by omega
  have hb8 : b < 8 := by omega
  have o1 := W.o ha8
  have o2 := W.o hb8
  have s1 := solW_le W (W.v8 ha)
  have s2 := solW_le W (W.v8 hb)
  simp (disch := first | assumption | omega | exact isB_0 | exact isB_1 | exact isB_bI _ | decide) only [e_X6_price_0, e_X6_price_1, e_X6_price_2, e_X6_price_3, e_X6_price_4, e_X6_price_7, e_X6_price_10, e_X6_price_11, e_X6_price_12, e_X6_price_13, e_X6_price_14, e_X6_price_17, e_X6_price_20, e_X6_price_21, e_X6_price_22, e_X6_price_23, e_X6_price_24, e_X6_price_25, e_X6_price_28, e_X6_price_29, e_X6_price_30, e_X6_price_31, e_X6_price_34, e_X6_price_37, e_X6_price_38, e_X6_price_41, e_X6_price_42, e_X6_price_45, e_X6_price_46, e_X6_price_47, e_X6_price_50, e_X6_price_51, m_aO R ha8, m_aO R hb8, m_aV R ha8, m_aV R hb8, m_dear R W (W.v8 ha), m_dear R W (W.v8 hb), toL1, toL0, ite_self, if_true, if_false, ite_true, ite_false, nI_add, pk_mul, z_eq, z_lt, z_le, z_ge, z_gt, nI_eq, nI_leI, nI_ltI, bI_0, bI_1, not_true_eq_false, not_false_eq_true]
  unfold priceN
  by_cases e : zO C a = zO C b
  · rw [if_pos e, if_pos e]
  · rw [if_neg e, if_neg e]
    by_cases hs : solW C (zV C a) < solW C (zV C b)
    · rw [if_neg (Int32.not_le.mpr (pk_sneg (by omega) hs)), if_pos hs, neg_sub7, pk_sub (by omega)]
    · rw [pk_sub (by omega), if_pos (nI_pos' (by omega)), if_neg hs]
theorem m_payer (R : RR h 37 C) (W : WC C) {a b : Nat} (ha : a < zF C) (hb : b < zF C) : Ev E mX6_payer 0 [.ref 36, .int (nI a), .int (nI b)] [] h Q = Q (some (.int (nI (payN C a b)))) h := by
  have h8 := W.f
  have ha8 : a < 8 := by omega
  have hb8 : b < 8 := by omega
  have s1 := solW_le W (W.v8 ha)
  have s2 := solW_le W (W.v8 hb)
  simp (disch := first | assumption | omega | exact isB_0 | exact isB_1 | exact isB_bI _ | decide) only [e_X6_payer_0, e_X6_payer_1, e_X6_payer_2, e_X6_payer_3, e_X6_payer_4, e_X6_payer_7, e_X6_payer_10, e_X6_payer_11, e_X6_payer_12, e_X6_payer_13, e_X6_payer_14, e_X6_payer_17, e_X6_payer_20, e_X6_payer_23, e_X6_payer_24, e_X6_payer_27, e_X6_payer_28, m_aV R ha8, m_aV R hb8, m_dear R W (W.v8 ha), m_dear R W (W.v8 hb), toL1, toL0, ite_self, if_true, if_false, ite_true, ite_false, nI_add, pk_mul, z_eq, z_lt, z_le, z_ge, z_gt, nI_eq, nI_leI, nI_ltI, bI_0, bI_1, not_true_eq_false, not_false_eq_true]
  unfold payN
  by_cases hs : solW C (zV C b) < solW C (zV C a)
  · rw [if_neg (by omega), if_pos hs]
  · rw [if_pos (by omega), if_neg hs]
theorem pay_lt {a b : Nat} (ha : a < zF C) (hb : b < zF C) : payN C a b < zF C ∧ getN C a b < zF C := by
  unfold payN getN
  by_cases hs : solW C (zV C b) < solW C (zV C a)
  · rw [if_pos hs, if_pos hs]; exact ⟨hb, ha⟩
  · rw [if_neg hs, if_neg hs]; exact ⟨ha, hb⟩
theorem price_le (W : WC C) {a b : Nat} (ha : a < zF C) (hb : b < zF C) : priceN C a b ≤ 1000 := by
  have s1 := solW_le W (W.v8 ha)
  have s2 := solW_le W (W.v8 hb)
  unfold priceN
  split
  · omega
  · split <;> omega
theorem m_can (R : RR h 37 C) (W : WC C) {a b : Nat} (ha : a < zF C) (hb : b < zF C) : Ev E mX6_canTrade 0 [.ref 36, .int (nI a), .int (nI b)] [] h Q = Q (some (.int (bI (priceN C a b ≤ zM C (zO C (payN C a b)))))) h := by
  have h8 := W.f
  have hp := pay_lt (C := C) ha hb
  have hp8 : payN C a b < 8 := by omega
  have ho := W.o hp8
  have hm := W.m ho
  have hpr := price_le W ha hb
  simp (disch := first | assumption | omega | exact isB_0 | exact isB_1 | exact isB_bI _ | decide) only [e_X6_canTrade_0, e_X6_canTrade_1, e_X6_canTrade_4, e_X6_canTrade_5, e_X6_canTrade_6, e_X6_canTrade_7, e_X6_canTrade_8, e_X6_canTrade_9, e_X6_canTrade_12, e_X6_canTrade_13, e_X6_canTrade_16, e_X6_canTrade_17, e_X6_canTrade_18, e_X6_canTrade_19, e_X6_canTrade_20, e_X6_canTrade_21, e_X6_canTrade_24, e_X6_canTrade_27, e_X6_canTrade_28, e_X6_canTrade_31, e_X6_canTrade_32, m_payer R W ha hb, m_aO R hp8, m_price R W ha hb, R.M ho, toL1, toL0, ite_self, if_true, if_false, ite_true, ite_false, nI_add, pk_mul, z_eq, z_lt, z_le, z_ge, z_gt, nI_eq, nI_leI, nI_ltI, bI_0, bI_1, not_true_eq_false, not_false_eq_true]
  by_cases hs : zM C (zO C (payN C a b)) < priceN C a b
  · rw [if_pos hs, bI_f (by omega)]
  · rw [if_neg hs, bI_t (by omega)]
theorem m_trades (R : RR h 37 C) (W : WC C) {a b : Nat} (ha : a < zF C) (hb : b < zF C) (hab : a ≠ b) (hx : canX C a b) (K : ∀ h', RR h' 37 (exC C a b) → Fr Xm h h' → Q (some (.int (nI (priceN C a b)))) h') : Ev E mX6_trades 0 [.ref 36, .int (nI a), .int (nI b), .null, .null, .null] [] h Q := by
  have h8 := W.f
  have hp := pay_lt (C := C) ha hb
  have hp8 : payN C a b < 8 := by omega
  have hg8 : getN C a b < 8 := by omega
  have ho := W.o hp8
  have hog := W.o hg8
  have hm := W.m ho
  have hpr := price_le W ha hb
  have hgt : (if payN C a b = a then b else a) = getN C a b := by
    unfold payN getN
    by_cases hs : solW C (zV C b) < solW C (zV C a)
    · rw [if_pos hs, if_pos hs, if_neg (fun z => hab z.symm)]
    · rw [if_neg hs, if_neg hs, if_pos rfl]
  have key : ∀ g : Nat, g = getN C a b → Ev E mX6_trades 28 [.ref 36, .int (nI a), .int (nI b), .int (nI (priceN C a b)), .int (nI (payN C a b)), .int (nI g)] [] h Q := by
    intro g hge
    subst hge
    simp (disch := first | assumption | omega | exact isB_0 | exact isB_1 | exact isB_bI _ | decide) only [e_X6_trades_0, e_X6_trades_1, e_X6_trades_2, e_X6_trades_3, e_X6_trades_6, e_X6_trades_7, e_X6_trades_8, e_X6_trades_9, e_X6_trades_10, e_X6_trades_13, e_X6_trades_15, e_X6_trades_17, e_X6_trades_18, e_X6_trades_21, e_X6_trades_22, e_X6_trades_25, e_X6_trades_26, e_X6_trades_28, e_X6_trades_29, e_X6_trades_32, e_X6_trades_33, e_X6_trades_34, e_X6_trades_36, e_X6_trades_37, e_X6_trades_40, e_X6_trades_41, e_X6_trades_42, e_X6_trades_43, e_X6_trades_44, e_X6_trades_45, e_X6_trades_47, e_X6_trades_48, e_X6_trades_50, e_X6_trades_51, e_X6_trades_54, e_X6_trades_55, e_X6_trades_58, e_X6_trades_59, e_X6_trades_60, e_X6_trades_61, e_X6_trades_64, e_X6_trades_65, m_aO R hp8, R.M ho, pk_sub hx, toL1, toL0, ite_self, if_true, if_false, ite_true, ite_false, nI_add, pk_mul, z_eq, z_lt, z_le, z_ge, z_gt, nI_eq, nI_leI, nI_ltI, bI_0, bI_1, not_true_eq_false, not_false_eq_true]
    have R1 := R.setM ho (zM C (zO C (payN C a b)) - priceN C a b)
    have F1 : Fr Xm h (sA h 37 (upd (gA h 37) (2 + zO C (payN C a b)) (nI (zM C (zO C (payN C a b)) - priceN C a b)))) := Fr.sA xm
    generalize sA h 37 (upd (gA h 37) (2 + zO C (payN C a b)) (nI (zM C (zO C (payN C a b)) - priceN C a b))) = h1 at R1 F1 ⊢
    rw [e_X6_trades_46]
    simp (disch := first | assumption | omega | exact isB_0 | exact isB_1 | exact isB_bI _ | decide) only [e_X6_trades_0, e_X6_trades_1, e_X6_trades_2, e_X6_trades_3, e_X6_trades_6, e_X6_trades_7, e_X6_trades_8, e_X6_trades_9, e_X6_trades_10, e_X6_trades_13, e_X6_trades_15, e_X6_trades_17, e_X6_trades_18, e_X6_trades_21, e_X6_trades_22, e_X6_trades_25, e_X6_trades_26, e_X6_trades_28, e_X6_trades_29, e_X6_trades_32, e_X6_trades_33, e_X6_trades_34, e_X6_trades_36, e_X6_trades_37, e_X6_trades_40, e_X6_trades_41, e_X6_trades_42, e_X6_trades_43, e_X6_trades_44, e_X6_trades_45, e_X6_trades_47, e_X6_trades_48, e_X6_trades_50, e_X6_trades_51, e_X6_trades_54, e_X6_trades_55, e_X6_trades_58, e_X6_trades_59, e_X6_trades_60, e_X6_trades_61, e_X6_trades_64, e_X6_trades_65, m_aO R1 hg8, toL1, toL0, ite_self, if_true, if_false, ite_true, ite_false, nI_add, pk_mul, z_eq, z_lt, z_le, z_ge, z_gt, nI_eq, nI_leI, nI_ltI, bI_0, bI_1, not_true_eq_false, not_false_eq_true]
    have hb1 : updN (zM C) (zO C (payN C a b)) (zM C (zO C (payN C a b)) - priceN C a b) (zO C (getN C a b)) ≤ 99999 := by
      unfold updN
      split
      · omega
      · exact W.m hog
    refine m_earns R1 hog hb1 (by omega) (fun h2 R2 F2 => ?_)
    have R2x : RR h2 37 (zsM C (exM C a b)) := RR.congM (C := C) (m1 := payM (zM C) (zO C (payN C a b)) (zO C (getN C a b)) (priceN C a b)) R2 (fun i hi => by
      unfold exM
      by_cases hz : priceN C a b = 0
      · rw [if_pos hz, hz]; exact pay0 (fun i hi => W.m hi) hog i
      · rw [if_neg hz])
    simp (disch := first | assumption | omega | exact isB_0 | exact isB_1 | exact isB_bI _ | decide) only [e_X6_trades_0, e_X6_trades_1, e_X6_trades_2, e_X6_trades_3, e_X6_trades_6, e_X6_trades_7, e_X6_trades_8, e_X6_trades_9, e_X6_trades_10, e_X6_trades_13, e_X6_trades_15, e_X6_trades_17, e_X6_trades_18, e_X6_trades_21, e_X6_trades_22, e_X6_trades_25, e_X6_trades_26, e_X6_trades_28, e_X6_trades_29, e_X6_trades_32, e_X6_trades_33, e_X6_trades_34, e_X6_trades_36, e_X6_trades_37, e_X6_trades_40, e_X6_trades_41, e_X6_trades_42, e_X6_trades_43, e_X6_trades_44, e_X6_trades_45, e_X6_trades_46, e_X6_trades_47, e_X6_trades_48, e_X6_trades_50, e_X6_trades_51, e_X6_trades_54, e_X6_trades_55, e_X6_trades_58, e_X6_trades_59, e_X6_trades_60, e_X6_trades_61, e_X6_trades_64, e_X6_trades_65, toL1, toL0, ite_self, if_true, if_false, ite_true, ite_false, nI_add, pk_mul, z_eq, z_lt, z_le, z_ge, z_gt, nI_eq, nI_leI, nI_ltI, bI_0, bI_1, not_true_eq_false, not_false_eq_true]
    refine m_changes R2x (by omega) (by omega) (fun h3 R3 F3 => ?_)
    simp (disch := first | assumption | omega | exact isB_0 | exact isB_1 | exact isB_bI _ | decide) only [e_X6_trades_0, e_X6_trades_1, e_X6_trades_2, e_X6_trades_3, e_X6_trades_6, e_X6_trades_7, e_X6_trades_8, e_X6_trades_9, e_X6_trades_10, e_X6_trades_13, e_X6_trades_15, e_X6_trades_17, e_X6_trades_18, e_X6_trades_21, e_X6_trades_22, e_X6_trades_25, e_X6_trades_26, e_X6_trades_28, e_X6_trades_29, e_X6_trades_32, e_X6_trades_33, e_X6_trades_34, e_X6_trades_36, e_X6_trades_37, e_X6_trades_40, e_X6_trades_41, e_X6_trades_42, e_X6_trades_43, e_X6_trades_44, e_X6_trades_45, e_X6_trades_46, e_X6_trades_47, e_X6_trades_48, e_X6_trades_50, e_X6_trades_51, e_X6_trades_54, e_X6_trades_55, e_X6_trades_58, e_X6_trades_59, e_X6_trades_60, e_X6_trades_61, e_X6_trades_64, e_X6_trades_65, toL1, toL0, ite_self, if_true, if_false, ite_true, ite_false, nI_add, pk_mul, z_eq, z_lt, z_le, z_ge, z_gt, nI_eq, nI_leI, nI_ltI, bI_0, bI_1, not_true_eq_false, not_false_eq_true]
    exact K _ R3 ((F1.tr F2).tr F3)
  simp (disch := first | assumption | omega | exact isB_0 | exact isB_1 | exact isB_bI _ | decide) only [e_X6_trades_0, e_X6_trades_1, e_X6_trades_2, e_X6_trades_3, e_X6_trades_6, e_X6_trades_7, e_X6_trades_8, e_X6_trades_9, e_X6_trades_10, e_X6_trades_13, e_X6_trades_15, e_X6_trades_17, e_X6_trades_18, e_X6_trades_21, e_X6_trades_22, e_X6_trades_25, e_X6_trades_26, e_X6_trades_29, e_X6_trades_32, e_X6_trades_33, e_X6_trades_34, e_X6_trades_36, e_X6_trades_37, e_X6_trades_40, e_X6_trades_41, e_X6_trades_42, e_X6_trades_43, e_X6_trades_44, e_X6_trades_45, e_X6_trades_46, e_X6_trades_47, e_X6_trades_48, e_X6_trades_50, e_X6_trades_51, e_X6_trades_54, e_X6_trades_55, e_X6_trades_58, e_X6_trades_59, e_X6_trades_60, e_X6_trades_61, e_X6_trades_64, e_X6_trades_65, m_price R W ha hb, m_payer R W ha hb, toL1, toL0, ite_self, if_true, if_false, ite_true, ite_false, nI_add, pk_mul, z_eq, z_lt, z_le, z_ge, z_gt, nI_eq, nI_leI, nI_ltI, bI_0, bI_1, not_true_eq_false, not_false_eq_true]
  by_cases hs : payN C a b = a
  · rw [if_pos hs]
    rw [if_pos hs] at hgt
    exact key b hgt
  · rw [if_neg hs]
    rw [if_neg hs] at hgt
    exact key a hgt
end MODEL
