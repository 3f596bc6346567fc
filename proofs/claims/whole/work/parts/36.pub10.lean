/-! public methods, both sides: write, book -/
theorem updN_self (f : Nat → Nat) (s : Nat) : updN f s (f s) = f := by
  funext j
  unfold updN
  by_cases q : j = s
  · rw [if_pos q, q]
  · rw [if_neg q]
theorem RV.row {h h' : Hp} {S : Sy} (R : RV h S) {s : Nat} {g : Nat → Int64} (hs : s < 4) (c2 : ∀ i, i < 40 → gL h' (29 + s) i = g i) (F : Fr (fun o => o = 29 + s) h h') : RV h' (ysN S (updF (yN S) s g)) := by
  have r7 := R.2.2.2.2.2.2.1 s hs
  have r8 := R.2.2.2.2.2.2.2.1 s hs
  have f := (F (25 + s) (by omega)).1
  have q := R.sheet (h' := h') hs ((f 0).trans r7) ((f 1).trans r8) c2 (F.mono (fun o w => Or.inr w))
  rw [updN_self, updN_self] at q
  exact q
theorem RM.row {h h' : Hp} {S : Sy} (R : RM h S) {s : Nat} {g : Nat → Int64} (c2 : ∀ t i, t < 4 → i < 40 → gL h' 44 (40 * t + i) = updF (yN S) s g t i) (F : Fr (fun o => o = 44) h h') : RM h' (ysN S (updF (yN S) s g)) := by
  have r7 := R.2.2.2.2.2.2.1
  have r8 := R.2.2.2.2.2.2.2.1
  have q := R.sheet (h' := h') (s := s) (b := yW S s) (z := yZ S s) (g := g) (fun t ht => by rw [updN_self, (F 42 (by decide)).2.1]; exact r7 t ht) (fun t ht => by rw [updN_self, (F 43 (by decide)).2.1]; exact r8 t ht) c2 (F.mono (fun o w => Or.inr (Or.inr w)))
  rw [updN_self, updN_self] at q
  exact q
def badL (j : Nat) (S : Sy) : Int64 × Sy := ((-1000000001 - nI j).toInt64, (bad j S).2)
def VoL (h : Hp) (Q : Option Value → Hp → Prop) (p : Int64 × Sy) : Prop := ∀ h', RV h' p.2 → Fr lowC h h' → Q (some (.long p.1)) h'
def MoL (h : Hp) (Q : Option Value → Hp → Prop) (p : Int64 × Sy) : Prop := ∀ h', RM h' p.2 → Fr hiC h h' → Q (some (.long p.1)) h'
def f_write (a i : Int32) (v : Int64) (S : Sy) : Int64 × Sy :=
  if nI 0 ≤ a ∧ a ≤ nI 3 then if yW S (nv a) = 0 then badL 5 S else if hF i (yZ S (nv a)) then (yN S (nv a) (nv i), ysN S (updF (yN S) (nv a) (updL (yN S (nv a)) (nv i) (cut (yW S (nv a)) v)))) else badL 0 S else badL 0 S
theorem kz_1 : ((-1000000001 : Int32) = 0) = False := by decide
theorem kz_6 : ((-1000000006 : Int32) = 0) = False := by decide
section PUB10
variable {E : En} {h : Hp} {Q : Option Value → Hp → Prop} {S : Sy}
theorem WS.b {s : Nat} (W : WS S) (hs : s < 4) : yW S s ≤ 64 := by
  have := W.2.2.2.2.2.1 s hs
  omega
theorem WS.z {s : Nat} (W : WS S) (hs : s < 4) : yZ S s ≤ 40 := W.2.2.2.2.2.2 s hs
theorem WS.b3 {s : Nat} (W : WS S) (hs : s < 4) (h0 : ¬ yW S s = 0) : yW S s = 8 ∨ yW S s = 16 ∨ yW S s = 64 := by
  rcases W.2.2.2.2.2.1 s hs with z | z
  · exact absurd z h0
  · exact z
theorem v_badL (R : RV h S) {j : Nat} (K : VoL h Q (badL j S)) : Q (some (.long (-1000000001 - nI j).toInt64)) (sA h 33 (upd (gA h 33) j (yT S j + nI 1))) := K _ R.told (Fr.sA (by unfold lowC; decide))
theorem m_badL (R : RM h S) {j : Nat} (K : MoL h Q (badL j S)) : Q (some (.long (-1000000001 - nI j).toInt64)) (sA h 40 (upd (gA h 40) j (yT S j + nI 1))) := K _ R.told (Fr.sA (by unfold hiC; decide))
theorem s_win {i : Int32} {z : Nat} (hz : z ≤ 200) : Ev E mX5_isWithin 0 [.int i, .int (nI 0), .int (nI z - nI 1)] [] h Q = Q (some (.int (bI (hF i z)))) h := by
  rw [s_isWithin, bI_iff (hF_sub hz)]
theorem m_win {i : Int32} {z : Nat} (hz : z ≤ 200) : Ev E mX6_in 0 [.long i.toInt64, .null, .int (nI 0), .int (nI z - nI 1)] [] h Q = Q (some (.int (bI (hF i z)))) h := by
  rw [m_in, bI_iff (hF_sub hz)]
theorem m_nt0 {s : Int32} (hs : ¬ (nI 0 ≤ s ∧ s ≤ nI 3)) : Ev E mX6_notThere 0 [.ref 36, .int s] [] h Q = Q (some (.int (-1000000001))) h := by
  simp (disch := first | assumption | omega | exact isB_0 | exact isB_1 | exact isB_bI _ | decide) only [e_X6_notThere_0, e_X6_notThere_1, e_X6_notThere_4, e_X6_notThere_7, e_X6_notThere_9, e_X6_notThere_12, e_X6_notThere_13, e_X6_notThere_16, e_X6_notThere_17, e_X6_notThere_18, e_X6_notThere_21, e_X6_notThere_23, e_X6_notThere_26, e_X6_notThere_27, m_isSheet, bI_f hs, toL1, toL0, ite_self, if_true, if_false, ite_true, ite_false, nI_add, pk_mul, z_eq, z_lt, z_le, z_ge, z_gt, nI_eq, nI_leI, nI_ltI, bI_0, bI_1, not_true_eq_false, not_false_eq_true]
theorem m_nt1 (R : RM h S) {s : Nat} (hs : s < 4) (h0 : yW S s = 0) : Ev E mX6_notThere 0 [.ref 36, .int (nI s)] [] h Q = Q (some (.int (-1000000006))) h := by
  have hs3 : s ≤ 3 := by omega
  simp (disch := first | assumption | omega | exact isB_0 | exact isB_1 | exact isB_bI _ | decide) only [e_X6_notThere_0, e_X6_notThere_1, e_X6_notThere_4, e_X6_notThere_7, e_X6_notThere_9, e_X6_notThere_12, e_X6_notThere_13, e_X6_notThere_16, e_X6_notThere_17, e_X6_notThere_18, e_X6_notThere_21, e_X6_notThere_23, e_X6_notThere_26, e_X6_notThere_27, m_isSheet, hs3, R.2.2.2.2.2.2.1 s hs, h0, and_self, and_true, true_and, Nat.zero_le, nI_ltI, toL1, toL0, ite_self, if_true, if_false, ite_true, ite_false, nI_add, pk_mul, z_eq, z_lt, z_le, z_ge, z_gt, nI_eq, nI_leI, nI_ltI, bI_0, bI_1, not_true_eq_false, not_false_eq_true]
theorem m_nt2 (R : RM h S) (W : WS S) {s : Nat} (hs : s < 4) (h0 : ¬ yW S s = 0) : Ev E mX6_notThere 0 [.ref 36, .int (nI s)] [] h Q = Q (some (.int (nI 0))) h := by
  have hs3 : s ≤ 3 := by omega
  have hb := W.b hs
  simp (disch := first | assumption | omega | exact isB_0 | exact isB_1 | exact isB_bI _ | decide) only [e_X6_notThere_0, e_X6_notThere_1, e_X6_notThere_4, e_X6_notThere_7, e_X6_notThere_9, e_X6_notThere_12, e_X6_notThere_13, e_X6_notThere_16, e_X6_notThere_17, e_X6_notThere_18, e_X6_notThere_21, e_X6_notThere_23, e_X6_notThere_26, e_X6_notThere_27, m_isSheet, hs3, R.2.2.2.2.2.2.1 s hs, h0, and_self, and_true, true_and, Nat.zero_le, nI_ltI, toL1, toL0, ite_self, if_true, if_false, ite_true, ite_false, nI_add, pk_mul, z_eq, z_lt, z_le, z_ge, z_gt, nI_eq, nI_leI, nI_ltI, bI_0, bI_1, not_true_eq_false, not_false_eq_true]
theorem v_write (R : RV h S) (W : WS S) {a i : Int32} {v : Int64} (K : VoL h Q (f_write a i v S)) : Ev E mX5_write 0 [.ref 0, .int a, .int i, .long v, .null, .null, .null, .null] [] h Q := by
  unfold f_write at K
  by_cases h1 : nI 0 ≤ a ∧ a ≤ nI 3
  · rw [if_pos h1] at K
    obtain ⟨s, _, hs3, rfl⟩ := vI_of (by decide) h1 (by decide)
    have hs : s < 4 := by omega
    have hS := isS_of hs
    have r7 := R.2.2.2.2.2.2.1 s hs
    have r8 := R.2.2.2.2.2.2.2.1 s hs
    have hz := W.z hs
    have hb := W.b hs
    have eN : 25 + s + 4 = 29 + s := by omega
    rw [nv_nI (by omega)] at K
    by_cases h2 : yW S s = 0
    · rw [if_pos h2] at K
      simp (disch := first | assumption | omega | exact isB_0 | exact isB_1 | exact isB_bI _ | decide) only [e_X5_write_0, e_X5_write_1, e_X5_write_4, e_X5_write_7, e_X5_write_8, e_X5_write_9, e_X5_write_12, e_X5_write_13, e_X5_write_14, e_X5_write_15, e_X5_write_18, e_X5_write_19, e_X5_write_20, e_X5_write_22, e_X5_write_24, e_X5_write_27, e_X5_write_30, e_X5_write_31, e_X5_write_32, e_X5_write_35, e_X5_write_36, e_X5_write_37, e_X5_write_38, e_X5_write_39, e_X5_write_41, e_X5_write_44, e_X5_write_45, e_X5_write_46, e_X5_write_49, e_X5_write_52, e_X5_write_53, e_X5_write_54, e_X5_write_57, e_X5_write_58, e_X5_write_59, e_X5_write_61, e_X5_write_64, e_X5_write_65, e_X5_write_66, e_X5_write_68, e_X5_write_70, e_X5_write_71, e_X5_write_72, e_X5_write_75, e_X5_write_77, s_isSheet, hs3, s_isMissing hS hb r7, bI_t h2, v_tell R, Nat.one_ne_zero, and_self, and_true, true_and, Nat.zero_le, nI_ltI, toL1, toL0, ite_self, if_true, if_false, ite_true, ite_false, nI_add, pk_mul, z_eq, z_lt, z_le, z_ge, z_gt, nI_eq, nI_leI, nI_ltI, bI_0, bI_1, not_true_eq_false, not_false_eq_true]
      exact v_badL R K
    · rw [if_neg h2] at K
      by_cases h3 : hF i (yZ S s)
      · rw [if_pos h3] at K
        obtain ⟨k, hk, rfl⟩ := hF_of (by omega) h3
        rw [nv_nI (by omega)] at K
        have r9 : gL h (25 + s + 4) k = yN S s k := by rw [eN]; exact R.2.2.2.2.2.2.2.2 s k hs (by omega)
        simp (disch := first | assumption | omega | exact isB_0 | exact isB_1 | exact isB_bI _ | decide) only [e_X5_write_0, e_X5_write_1, e_X5_write_4, e_X5_write_7, e_X5_write_8, e_X5_write_9, e_X5_write_12, e_X5_write_13, e_X5_write_14, e_X5_write_15, e_X5_write_18, e_X5_write_19, e_X5_write_20, e_X5_write_22, e_X5_write_24, e_X5_write_27, e_X5_write_30, e_X5_write_31, e_X5_write_32, e_X5_write_35, e_X5_write_36, e_X5_write_37, e_X5_write_38, e_X5_write_39, e_X5_write_41, e_X5_write_44, e_X5_write_45, e_X5_write_46, e_X5_write_49, e_X5_write_52, e_X5_write_53, e_X5_write_54, e_X5_write_57, e_X5_write_58, e_X5_write_59, e_X5_write_61, e_X5_write_64, e_X5_write_65, e_X5_write_66, e_X5_write_68, e_X5_write_70, e_X5_write_71, e_X5_write_72, e_X5_write_75, e_X5_write_77, s_isSheet, hs3, s_isMissing hS hb r7, bI_f h2, r8, s_win (show yZ S s ≤ 200 by omega), bI_t h3, Nat.one_ne_zero, s_put hS (W.b3 hs h2) r7 (show k < 40 by omega), r9, and_self, and_true, true_and, Nat.zero_le, nI_ltI, toL1, toL0, ite_self, if_true, if_false, ite_true, ite_false, nI_add, pk_mul, z_eq, z_lt, z_le, z_ge, z_gt, nI_eq, nI_leI, nI_ltI, bI_0, bI_1, not_true_eq_false, not_false_eq_true]
        rw [eN]
        refine K _ (R.row hs (fun q hq => ?_) (Fr.sL rfl)) (Fr.sL (by unfold lowC; omega))
        rw [gL_sL, if_pos rfl]
        unfold updL
        by_cases w : q = k
        · rw [if_pos w, if_pos w]
        · rw [if_neg w, if_neg w]; exact R.2.2.2.2.2.2.2.2 s q hs hq
      · rw [if_neg h3] at K
        simp (disch := first | assumption | omega | exact isB_0 | exact isB_1 | exact isB_bI _ | decide) only [e_X5_write_0, e_X5_write_1, e_X5_write_4, e_X5_write_7, e_X5_write_8, e_X5_write_9, e_X5_write_12, e_X5_write_13, e_X5_write_14, e_X5_write_15, e_X5_write_18, e_X5_write_19, e_X5_write_20, e_X5_write_22, e_X5_write_24, e_X5_write_27, e_X5_write_30, e_X5_write_31, e_X5_write_32, e_X5_write_35, e_X5_write_36, e_X5_write_37, e_X5_write_38, e_X5_write_39, e_X5_write_41, e_X5_write_44, e_X5_write_45, e_X5_write_46, e_X5_write_49, e_X5_write_52, e_X5_write_53, e_X5_write_54, e_X5_write_57, e_X5_write_58, e_X5_write_59, e_X5_write_61, e_X5_write_64, e_X5_write_65, e_X5_write_66, e_X5_write_68, e_X5_write_70, e_X5_write_71, e_X5_write_72, e_X5_write_75, e_X5_write_77, s_isSheet, hs3, s_isMissing hS hb r7, bI_f h2, r8, s_win (show yZ S s ≤ 200 by omega), bI_f h3, v_tell R, and_self, and_true, true_and, Nat.zero_le, nI_ltI, toL1, toL0, ite_self, if_true, if_false, ite_true, ite_false, nI_add, pk_mul, z_eq, z_lt, z_le, z_ge, z_gt, nI_eq, nI_leI, nI_ltI, bI_0, bI_1, not_true_eq_false, not_false_eq_true]
        exact v_badL R K
  · rw [if_neg h1] at K
    simp (disch := first | assumption | omega | exact isB_0 | exact isB_1 | exact isB_bI _ | decide) only [e_X5_write_0, e_X5_write_1, e_X5_write_4, e_X5_write_7, e_X5_write_8, e_X5_write_9, e_X5_write_12, e_X5_write_13, e_X5_write_14, e_X5_write_15, e_X5_write_18, e_X5_write_19, e_X5_write_20, e_X5_write_22, e_X5_write_24, e_X5_write_27, e_X5_write_30, e_X5_write_31, e_X5_write_32, e_X5_write_35, e_X5_write_36, e_X5_write_37, e_X5_write_38, e_X5_write_39, e_X5_write_41, e_X5_write_44, e_X5_write_45, e_X5_write_46, e_X5_write_49, e_X5_write_52, e_X5_write_53, e_X5_write_54, e_X5_write_57, e_X5_write_58, e_X5_write_59, e_X5_write_61, e_X5_write_64, e_X5_write_65, e_X5_write_66, e_X5_write_68, e_X5_write_70, e_X5_write_71, e_X5_write_72, e_X5_write_75, e_X5_write_77, s_isSheet, bI_f h1, v_tell R, and_self, and_true, true_and, Nat.zero_le, nI_ltI, toL1, toL0, ite_self, if_true, if_false, ite_true, ite_false, nI_add, pk_mul, z_eq, z_lt, z_le, z_ge, z_gt, nI_eq, nI_leI, nI_ltI, bI_0, bI_1, not_true_eq_false, not_false_eq_true]
    exact v_badL R K
theorem m_write (R : RM h S) (W : WS S) {a i : Int32} {v : Int64} (K : MoL h Q (f_write a i v S)) : Ev E mX6_write 0 [.ref 36, .int a, .int i, .long v, .null, .null, .null, .null] [] h Q := by
  unfold f_write at K
  by_cases h1 : nI 0 ≤ a ∧ a ≤ nI 3
  · rw [if_pos h1] at K
    obtain ⟨s, _, hs3, rfl⟩ := vI_of (by decide) h1 (by decide)
    have hs : s < 4 := by omega
    have r7 := R.2.2.2.2.2.2.1 s hs
    have r8 := R.2.2.2.2.2.2.2.1 s hs
    have hz := W.z hs
    have hb := W.b hs
    rw [nv_nI (by omega)] at K
    by_cases h2 : yW S s = 0
    · rw [if_pos h2] at K
      simp (disch := first | assumption | omega | exact isB_0 | exact isB_1 | exact isB_bI _ | decide) only [e_X6_write_0, e_X6_write_1, e_X6_write_2, e_X6_write_5, e_X6_write_7, e_X6_write_9, e_X6_write_12, e_X6_write_13, e_X6_write_14, e_X6_write_15, e_X6_write_16, e_X6_write_19, e_X6_write_20, e_X6_write_21, e_X6_write_22, e_X6_write_23, e_X6_write_26, e_X6_write_29, e_X6_write_31, e_X6_write_33, e_X6_write_35, e_X6_write_38, e_X6_write_39, e_X6_write_41, e_X6_write_44, e_X6_write_45, e_X6_write_46, e_X6_write_47, e_X6_write_50, e_X6_write_52, e_X6_write_53, e_X6_write_54, e_X6_write_55, e_X6_write_56, e_X6_write_57, e_X6_write_59, e_X6_write_60, e_X6_write_63, e_X6_write_65, e_X6_write_66, e_X6_write_67, e_X6_write_68, e_X6_write_69, e_X6_write_70, e_X6_write_73, e_X6_write_74, e_X6_write_75, e_X6_write_76, e_X6_write_79, e_X6_write_80, e_X6_write_82, m_nt1 R hs h2, kz_6, m_f5 R, and_self, and_true, true_and, Nat.zero_le, nI_ltI, toL1, toL0, ite_self, if_true, if_false, ite_true, ite_false, nI_add, pk_mul, z_eq, z_lt, z_le, z_ge, z_gt, nI_eq, nI_leI, nI_ltI, bI_0, bI_1, not_true_eq_false, not_false_eq_true]
      exact m_badL R K
    · rw [if_neg h2] at K
      by_cases h3 : hF i (yZ S s)
      · rw [if_pos h3] at K
        obtain ⟨k, hk, rfl⟩ := hF_of (by omega) h3
        rw [nv_nI (by omega)] at K
        have r9 := R.2.2.2.2.2.2.2.2 s k hs (by omega)
        simp (disch := first | assumption | omega | exact isB_0 | exact isB_1 | exact isB_bI _ | decide) only [e_X6_write_0, e_X6_write_1, e_X6_write_2, e_X6_write_5, e_X6_write_7, e_X6_write_9, e_X6_write_12, e_X6_write_13, e_X6_write_14, e_X6_write_15, e_X6_write_16, e_X6_write_19, e_X6_write_20, e_X6_write_21, e_X6_write_22, e_X6_write_23, e_X6_write_26, e_X6_write_29, e_X6_write_31, e_X6_write_33, e_X6_write_35, e_X6_write_38, e_X6_write_39, e_X6_write_41, e_X6_write_44, e_X6_write_45, e_X6_write_46, e_X6_write_47, e_X6_write_50, e_X6_write_52, e_X6_write_53, e_X6_write_54, e_X6_write_55, e_X6_write_56, e_X6_write_57, e_X6_write_59, e_X6_write_60, e_X6_write_63, e_X6_write_65, e_X6_write_66, e_X6_write_67, e_X6_write_68, e_X6_write_69, e_X6_write_70, e_X6_write_73, e_X6_write_74, e_X6_write_75, e_X6_write_76, e_X6_write_79, e_X6_write_80, e_X6_write_82, m_nt2 R W hs h2, r8, m_win (show yZ S s ≤ 200 by omega), bI_t h3, Nat.one_ne_zero, r7, r9, m_cutTo hb, vupd, and_self, and_true, true_and, Nat.zero_le, nI_ltI, toL1, toL0, ite_self, if_true, if_false, ite_true, ite_false, nI_add, pk_mul, z_eq, z_lt, z_le, z_ge, z_gt, nI_eq, nI_leI, nI_ltI, bI_0, bI_1, not_true_eq_false, not_false_eq_true]
        refine K _ (R.row (fun t q ht hq => ?_) (Fr.sL rfl)) (Fr.sL (by unfold hiC; decide))
        rw [gL_sL, if_pos rfl]
        unfold updL updF
        by_cases w : t = s
        · rw [if_pos w]
          by_cases x : q = k
          · rw [if_pos (by omega), if_pos x]
          · rw [if_neg (by omega), if_neg x, w]; exact R.2.2.2.2.2.2.2.2 s q hs hq
        · rw [if_neg w, if_neg (by omega)]; exact R.2.2.2.2.2.2.2.2 t q ht hq
      · rw [if_neg h3] at K
        simp (disch := first | assumption | omega | exact isB_0 | exact isB_1 | exact isB_bI _ | decide) only [e_X6_write_0, e_X6_write_1, e_X6_write_2, e_X6_write_5, e_X6_write_7, e_X6_write_9, e_X6_write_12, e_X6_write_13, e_X6_write_14, e_X6_write_15, e_X6_write_16, e_X6_write_19, e_X6_write_20, e_X6_write_21, e_X6_write_22, e_X6_write_23, e_X6_write_26, e_X6_write_29, e_X6_write_31, e_X6_write_33, e_X6_write_35, e_X6_write_38, e_X6_write_39, e_X6_write_41, e_X6_write_44, e_X6_write_45, e_X6_write_46, e_X6_write_47, e_X6_write_50, e_X6_write_52, e_X6_write_53, e_X6_write_54, e_X6_write_55, e_X6_write_56, e_X6_write_57, e_X6_write_59, e_X6_write_60, e_X6_write_63, e_X6_write_65, e_X6_write_66, e_X6_write_67, e_X6_write_68, e_X6_write_69, e_X6_write_70, e_X6_write_73, e_X6_write_74, e_X6_write_75, e_X6_write_76, e_X6_write_79, e_X6_write_80, e_X6_write_82, m_nt2 R W hs h2, r8, m_win (show yZ S s ≤ 200 by omega), bI_f h3, kz_1, m_f0 R, and_self, and_true, true_and, Nat.zero_le, nI_ltI, toL1, toL0, ite_self, if_true, if_false, ite_true, ite_false, nI_add, pk_mul, z_eq, z_lt, z_le, z_ge, z_gt, nI_eq, nI_leI, nI_ltI, bI_0, bI_1, not_true_eq_false, not_false_eq_true]
        exact m_badL R K
  · rw [if_neg h1] at K
    simp (disch := first | assumption | omega | exact isB_0 | exact isB_1 | exact isB_bI _ | decide) only [e_X6_write_0, e_X6_write_1, e_X6_write_2, e_X6_write_5, e_X6_write_7, e_X6_write_9, e_X6_write_12, e_X6_write_13, e_X6_write_14, e_X6_write_15, e_X6_write_16, e_X6_write_19, e_X6_write_20, e_X6_write_21, e_X6_write_22, e_X6_write_23, e_X6_write_26, e_X6_write_29, e_X6_write_31, e_X6_write_33, e_X6_write_35, e_X6_write_38, e_X6_write_39, e_X6_write_41, e_X6_write_44, e_X6_write_45, e_X6_write_46, e_X6_write_47, e_X6_write_50, e_X6_write_52, e_X6_write_53, e_X6_write_54, e_X6_write_55, e_X6_write_56, e_X6_write_57, e_X6_write_59, e_X6_write_60, e_X6_write_63, e_X6_write_65, e_X6_write_66, e_X6_write_67, e_X6_write_68, e_X6_write_69, e_X6_write_70, e_X6_write_73, e_X6_write_74, e_X6_write_75, e_X6_write_76, e_X6_write_79, e_X6_write_80, e_X6_write_82, m_nt0 h1, kz_1, m_f0 R, and_self, and_true, true_and, Nat.zero_le, nI_ltI, toL1, toL0, ite_self, if_true, if_false, ite_true, ite_false, nI_add, pk_mul, z_eq, z_lt, z_le, z_ge, z_gt, nI_eq, nI_leI, nI_ltI, bI_0, bI_1, not_true_eq_false, not_false_eq_true]
    exact m_badL R K
end PUB10
