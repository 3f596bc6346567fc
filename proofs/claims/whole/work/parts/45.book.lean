/-! book -/
def bkG (C : Cty) (b o : Nat) : Nat → Int64 := fun i => cut b (nI (zM (goN i C) o)).toInt64
def bkR (S : Sy) (s o k : Nat) : Nat → Int64 := fun i => if i < k then bkG (yC S) (yW S s) o i else yN S s i
def f_book (a o : Int32) (S : Sy) : Int32 × Sy :=
  if nI 0 ≤ a ∧ a ≤ nI 3 then if yW S (nv a) = 0 then bad 5 S else if nI 0 ≤ o ∧ o ≤ nI 3 then ok (yZ S (nv a)) (ysN S (updF (yN S) (nv a) (bkR S (nv a) (nv o) (yZ S (nv a))))) else bad 0 S else bad 0 S
section BOOK
variable {E : En} {h : Hp} {Q : Option Value → Hp → Prop} {S : Sy}
theorem v_bkL (W : WS S) {s o : Nat} (hs : s < 4) (ho : o < 4) (h0 : ¬ yW S s = 0) (K : ∀ h', gI h' (25 + s) 1 = nI (yZ S s) → (∀ i, i < 40 → gL h' (29 + s) i = bkR S s o (yZ S s) i) → Fr (fun q => Xc 8 q ∨ q = 29 + s) h h' → Q (some (.int (nI (yZ S s)))) h') : ∀ (d k : Nat) (h' : Hp), k + d = yZ S s → RC h' 8 (goN k (yC S)) → gI h' (25 + s) 0 = nI (yW S s) → gI h' (25 + s) 1 = nI (yZ S s) → (∀ i, i < 40 → gL h' (29 + s) i = bkR S s o k i) → Fr (fun q => Xc 8 q ∨ q = 29 + s) h h' → Ev E mX5_book 60 [.ref 0, .int (nI s), .int (nI o), .ref (25 + s), .int (nI k)] [] h' Q := by
  have hC := isC_8
  have hS := isS_of hs
  have hz := W.z hs
  have hb := W.b3 hs h0
  have hh := W.2.1
  have eN : 25 + s + 4 = 29 + s := by omega
  intro d
  induction d with
  | zero =>
    intro k h' e R c0 c1 c2 F
    rw [e_X5_book_60]
    simp (disch := first | assumption | omega | exact isB_0 | exact isB_1 | exact isB_bI _ | decide) only [e_X5_book_0, e_X5_book_1, e_X5_book_4, e_X5_book_7, e_X5_book_8, e_X5_book_9, e_X5_book_12, e_X5_book_13, e_X5_book_14, e_X5_book_17, e_X5_book_18, e_X5_book_19, e_X5_book_20, e_X5_book_21, e_X5_book_24, e_X5_book_27, e_X5_book_28, e_X5_book_29, e_X5_book_32, e_X5_book_33, e_X5_book_34, e_X5_book_37, e_X5_book_40, e_X5_book_41, e_X5_book_42, e_X5_book_45, e_X5_book_46, e_X5_book_47, e_X5_book_50, e_X5_book_51, e_X5_book_54, e_X5_book_57, e_X5_book_58, e_X5_book_62, e_X5_book_63, e_X5_book_66, e_X5_book_69, e_X5_book_70, e_X5_book_72, e_X5_book_73, e_X5_book_76, e_X5_book_79, e_X5_book_80, e_X5_book_81, e_X5_book_82, e_X5_book_85, e_X5_book_86, e_X5_book_89, e_X5_book_92, e_X5_book_95, e_X5_book_98, e_X5_book_99, e_X5_book_102, c1, toL1, toL0, ite_self, if_true, if_false, ite_true, ite_false, nI_add, pk_mul, z_eq, z_lt, z_le, z_ge, z_gt, nI_eq, nI_leI, nI_ltI, bI_0, bI_1, not_true_eq_false, not_false_eq_true]
    rw [if_pos (by omega)]
    exact K h' c1 (by rw [← show k = yZ S s by omega]; exact c2) F
  | succ d ih =>
    intro k h' e R c0 c1 c2 F
    have WK := W_goN W.1 k (by omega)
    rw [e_X5_book_60]
    simp (disch := first | assumption | omega | exact isB_0 | exact isB_1 | exact isB_bI _ | decide) only [e_X5_book_0, e_X5_book_1, e_X5_book_4, e_X5_book_7, e_X5_book_8, e_X5_book_9, e_X5_book_12, e_X5_book_13, e_X5_book_14, e_X5_book_17, e_X5_book_18, e_X5_book_19, e_X5_book_20, e_X5_book_21, e_X5_book_24, e_X5_book_27, e_X5_book_28, e_X5_book_29, e_X5_book_32, e_X5_book_33, e_X5_book_34, e_X5_book_37, e_X5_book_40, e_X5_book_41, e_X5_book_42, e_X5_book_45, e_X5_book_46, e_X5_book_47, e_X5_book_50, e_X5_book_51, e_X5_book_54, e_X5_book_57, e_X5_book_58, e_X5_book_62, e_X5_book_63, e_X5_book_66, e_X5_book_69, e_X5_book_70, e_X5_book_72, e_X5_book_73, e_X5_book_76, e_X5_book_79, e_X5_book_80, e_X5_book_81, e_X5_book_82, e_X5_book_86, e_X5_book_89, e_X5_book_92, e_X5_book_95, e_X5_book_98, e_X5_book_99, e_X5_book_102, c1, R.M ho, s_put hS hb c0 (show k < 40 by omega), toL1, toL0, ite_self, if_true, if_false, ite_true, ite_false, nI_add, pk_mul, z_eq, z_lt, z_le, z_ge, z_gt, nI_eq, nI_leI, nI_ltI, bI_0, bI_1, not_true_eq_false, not_false_eq_true]
    rw [if_neg (by omega), eN]
    have F1 : Fr (fun q => q = 29 + s) h' (sL h' (29 + s) (updL (gL h' (29 + s)) k (cut (yW S s) (nI (zM (goN k (yC S)) o)).toInt64))) := Fr.sL rfl
    have R1 := R.fr F1 (fun q h1 h2 => by omega)
    rw [e_X5_book_85]
    simp (disch := first | assumption | omega | exact isB_0 | exact isB_1 | exact isB_bI _ | decide) only [e_X5_book_0, e_X5_book_1, e_X5_book_4, e_X5_book_7, e_X5_book_8, e_X5_book_9, e_X5_book_12, e_X5_book_13, e_X5_book_14, e_X5_book_17, e_X5_book_18, e_X5_book_19, e_X5_book_20, e_X5_book_21, e_X5_book_24, e_X5_book_27, e_X5_book_28, e_X5_book_29, e_X5_book_32, e_X5_book_33, e_X5_book_34, e_X5_book_37, e_X5_book_40, e_X5_book_41, e_X5_book_42, e_X5_book_45, e_X5_book_46, e_X5_book_47, e_X5_book_50, e_X5_book_51, e_X5_book_54, e_X5_book_57, e_X5_book_58, e_X5_book_62, e_X5_book_63, e_X5_book_66, e_X5_book_69, e_X5_book_70, e_X5_book_72, e_X5_book_73, e_X5_book_76, e_X5_book_79, e_X5_book_80, e_X5_book_81, e_X5_book_82, e_X5_book_86, e_X5_book_89, e_X5_book_92, e_X5_book_95, e_X5_book_98, e_X5_book_99, e_X5_book_102, toL1, toL0, ite_self, if_true, if_false, ite_true, ite_false, nI_add, pk_mul, z_eq, z_lt, z_le, z_ge, z_gt, nI_eq, nI_leI, nI_ltI, bI_0, bI_1, not_true_eq_false, not_false_eq_true]
    refine c_passHour isC_8 R1 WK (fun h2 R2 F2 => ?_)
    simp (disch := first | assumption | omega | exact isB_0 | exact isB_1 | exact isB_bI _ | decide) only [e_X5_book_0, e_X5_book_1, e_X5_book_4, e_X5_book_7, e_X5_book_8, e_X5_book_9, e_X5_book_12, e_X5_book_13, e_X5_book_14, e_X5_book_17, e_X5_book_18, e_X5_book_19, e_X5_book_20, e_X5_book_21, e_X5_book_24, e_X5_book_27, e_X5_book_28, e_X5_book_29, e_X5_book_32, e_X5_book_33, e_X5_book_34, e_X5_book_37, e_X5_book_40, e_X5_book_41, e_X5_book_42, e_X5_book_45, e_X5_book_46, e_X5_book_47, e_X5_book_50, e_X5_book_51, e_X5_book_54, e_X5_book_57, e_X5_book_58, e_X5_book_62, e_X5_book_63, e_X5_book_66, e_X5_book_69, e_X5_book_70, e_X5_book_72, e_X5_book_73, e_X5_book_76, e_X5_book_79, e_X5_book_80, e_X5_book_81, e_X5_book_82, e_X5_book_86, e_X5_book_89, e_X5_book_92, e_X5_book_95, e_X5_book_98, e_X5_book_99, e_X5_book_102, toL1, toL0, ite_self, if_true, if_false, ite_true, ite_false, nI_add, pk_mul, z_eq, z_lt, z_le, z_ge, z_gt, nI_eq, nI_leI, nI_ltI, bI_0, bI_1, not_true_eq_false, not_false_eq_true]
    have f25 := (F2 (25 + s) (by unfold Xc; omega)).1
    have f29 := (F2 (29 + s) (by unfold Xc; omega)).2.2
    refine ih (k + 1) h2 (by omega) R2 ((f25 0).trans c0) ((f25 1).trans c1) (fun i hi => ?_) ((F.tr (F1.mono (fun q w => Or.inr w))).tr (F2.mono (fun q w => Or.inl w)))
    rw [f29, gL_sL, if_pos rfl]
    unfold updL bkR
    by_cases q : i = k
    · rw [if_pos q, if_pos (by omega), q]
      rfl
    · rw [if_neg q, c2 i hi]
      unfold bkR
      by_cases w : i < k
      · rw [if_pos w, if_pos (by omega)]
      · rw [if_neg w, if_neg (by omega)]
theorem v_book (R : RV h S) (W : WS S) {a o : Int32} (K : Vo h Q (f_book a o S)) : Ev E mX5_book 0 [.ref 0, .int a, .int o, .null, .null] [] h Q := by
  have hC := isC_1
  have hC8 := isC_8
  unfold f_book at K
  by_cases h1 : nI 0 ≤ a ∧ a ≤ nI 3
  · rw [if_pos h1] at K
    obtain ⟨s, _, hs3, rfl⟩ := vI_of (by decide) h1 (by decide)
    have hs : s < 4 := by omega
    have hS := isS_of hs
    have r7 := R.2.2.2.2.2.2.1 s hs
    have r8 := R.2.2.2.2.2.2.2.1 s hs
    have r9 := R.2.2.2.2.2.2.2.2 s
    have hb := W.b hs
    rw [nv_nI (by omega)] at K
    by_cases h2 : yW S s = 0
    · rw [if_pos h2] at K
      simp (disch := first | assumption | omega | exact isB_0 | exact isB_1 | exact isB_bI _ | decide) only [e_X5_book_0, e_X5_book_1, e_X5_book_4, e_X5_book_7, e_X5_book_8, e_X5_book_9, e_X5_book_12, e_X5_book_13, e_X5_book_14, e_X5_book_17, e_X5_book_18, e_X5_book_19, e_X5_book_20, e_X5_book_21, e_X5_book_24, e_X5_book_27, e_X5_book_28, e_X5_book_29, e_X5_book_32, e_X5_book_33, e_X5_book_34, e_X5_book_37, e_X5_book_40, e_X5_book_41, e_X5_book_42, e_X5_book_45, e_X5_book_46, e_X5_book_47, e_X5_book_50, e_X5_book_51, e_X5_book_54, e_X5_book_57, e_X5_book_58, e_X5_book_62, e_X5_book_63, e_X5_book_66, e_X5_book_69, e_X5_book_70, e_X5_book_72, e_X5_book_73, e_X5_book_76, e_X5_book_79, e_X5_book_80, e_X5_book_81, e_X5_book_82, e_X5_book_85, e_X5_book_86, e_X5_book_89, e_X5_book_92, e_X5_book_95, e_X5_book_98, e_X5_book_99, e_X5_book_102, s_isSheet, hs3, s_isMissing hS hb r7, bI_t h2, v_tell R, Nat.one_ne_zero, and_self, and_true, true_and, Nat.zero_le, nI_ltI, toL1, toL0, ite_self, if_true, if_false, ite_true, ite_false, nI_add, pk_mul, z_eq, z_lt, z_le, z_ge, z_gt, nI_eq, nI_leI, nI_ltI, bI_0, bI_1, not_true_eq_false, not_false_eq_true]
      exact v_bad R K
    · rw [if_neg h2] at K
      by_cases h3 : nI 0 ≤ o ∧ o ≤ nI 3
      · rw [if_pos h3] at K
        obtain ⟨j, _, hj, rfl⟩ := vI_of (by decide) h3 (by decide)
        rw [nv_nI (by omega)] at K
        simp (disch := first | assumption | omega | exact isB_0 | exact isB_1 | exact isB_bI _ | decide) only [e_X5_book_0, e_X5_book_1, e_X5_book_4, e_X5_book_7, e_X5_book_8, e_X5_book_9, e_X5_book_12, e_X5_book_13, e_X5_book_14, e_X5_book_17, e_X5_book_18, e_X5_book_19, e_X5_book_20, e_X5_book_21, e_X5_book_24, e_X5_book_27, e_X5_book_28, e_X5_book_29, e_X5_book_32, e_X5_book_33, e_X5_book_34, e_X5_book_37, e_X5_book_40, e_X5_book_41, e_X5_book_42, e_X5_book_45, e_X5_book_46, e_X5_book_47, e_X5_book_50, e_X5_book_51, e_X5_book_54, e_X5_book_57, e_X5_book_58, e_X5_book_62, e_X5_book_63, e_X5_book_66, e_X5_book_69, e_X5_book_70, e_X5_book_72, e_X5_book_73, e_X5_book_76, e_X5_book_79, e_X5_book_80, e_X5_book_81, e_X5_book_82, e_X5_book_85, e_X5_book_86, e_X5_book_89, e_X5_book_92, e_X5_book_95, e_X5_book_98, e_X5_book_99, e_X5_book_102, s_isSheet, hs3, s_isMissing hS hb r7, bI_f h2, s_isOwner, hj, Nat.one_ne_zero, and_self, and_true, true_and, Nat.zero_le, nI_ltI, toL1, toL0, ite_self, if_true, if_false, ite_true, ite_false, nI_add, pk_mul, z_eq, z_lt, z_le, z_ge, z_gt, nI_eq, nI_leI, nI_ltI, bI_0, bI_1, not_true_eq_false, not_false_eq_true]
        refine c_become isC_8 isC_1 (by decide) R.ci (fun h4 R4 F4 => ?_)
        simp (disch := first | assumption | omega | exact isB_0 | exact isB_1 | exact isB_bI _ | decide) only [e_X5_book_0, e_X5_book_1, e_X5_book_4, e_X5_book_7, e_X5_book_8, e_X5_book_9, e_X5_book_12, e_X5_book_13, e_X5_book_14, e_X5_book_17, e_X5_book_18, e_X5_book_19, e_X5_book_20, e_X5_book_21, e_X5_book_24, e_X5_book_27, e_X5_book_28, e_X5_book_29, e_X5_book_32, e_X5_book_33, e_X5_book_34, e_X5_book_37, e_X5_book_40, e_X5_book_41, e_X5_book_42, e_X5_book_45, e_X5_book_46, e_X5_book_47, e_X5_book_50, e_X5_book_51, e_X5_book_54, e_X5_book_57, e_X5_book_58, e_X5_book_62, e_X5_book_63, e_X5_book_66, e_X5_book_69, e_X5_book_70, e_X5_book_72, e_X5_book_73, e_X5_book_76, e_X5_book_79, e_X5_book_80, e_X5_book_81, e_X5_book_82, e_X5_book_85, e_X5_book_86, e_X5_book_89, e_X5_book_92, e_X5_book_95, e_X5_book_98, e_X5_book_99, e_X5_book_102, toL1, toL0, ite_self, if_true, if_false, ite_true, ite_false, nI_add, pk_mul, z_eq, z_lt, z_le, z_ge, z_gt, nI_eq, nI_leI, nI_ltI, bI_0, bI_1, not_true_eq_false, not_false_eq_true]
        have f25 := (F4 (25 + s) (by unfold Xc; omega)).1
        have f29 := (F4 (29 + s) (by unfold Xc; omega)).2.2
        refine v_bkL (h := h4) W hs (show j < 4 by omega) h2 (fun h5 c1 c2 F5 => ?_) (yZ S s) 0 h4 (by omega) R4 ((f25 0).trans r7) ((f25 1).trans r8) (fun i hi => ?_) Fr.rf
        · have RT : RV h4 S := R.trial F4
          have FA : Fr (fun q => Xc 8 q ∨ q = 29 + s) h4 h5 := F5
          refine K h5 ?_ (F4.c8.lo.tr (FA.mono (fun q w => by unfold Xc at w; unfold lowC; omega)))
          obtain ⟨q1, q2, q3, q4, q5, q6, q7, q8, q9⟩ := RT
          have nX : ∀ q, ¬ (8 ≤ q ∧ q ≤ 14) → ¬ q = 29 + s → ¬ (Xc 8 q ∨ q = 29 + s) := fun q a b => by unfold Xc; omega
          refine ⟨q1.fr FA (fun q a b => nX q (by omega) (by omega)), ?_, fun D hD => (q3 D hD).fr FA (fun q a b => nX q (by omega) (by omega)), fun i hi => ?_, ?_, fun i hi => ?_, fun t ht => ?_, fun t ht => ?_, fun t i ht hi => ?_⟩
          · exact ((FA 0 (nX _ (by omega) (by omega))).1 3).trans q2
          · rw [(FA 33 (nX _ (by omega) (by omega))).2.1]; exact q4 i hi
          · exact ((FA 22 (nX _ (by omega) (by omega))).1 1).trans q5
          · rw [(FA 23 (nX _ (by omega) (by omega))).2.1]; exact q6 i hi
          · exact ((FA (25 + t) (nX _ (by omega) (by omega))).1 0).trans (q7 t ht)
          · exact ((FA (25 + t) (nX _ (by omega) (by omega))).1 1).trans (q8 t ht)
          · show gL h5 (29 + t) i = updF (yN S) s (bkR S s j (yZ S s)) t i
            unfold updF
            by_cases q : t = s
            · rw [if_pos q, q]; exact c2 i hi
            · rw [if_neg q, (FA (29 + t) (nX _ (by omega) (by omega))).2.2]; exact q9 t i ht hi
        · rw [f29]
          unfold bkR
          rw [if_neg (Nat.not_lt_zero i)]
          exact r9 i hs hi
      · rw [if_neg h3] at K
        simp (disch := first | assumption | omega | exact isB_0 | exact isB_1 | exact isB_bI _ | decide) only [e_X5_book_0, e_X5_book_1, e_X5_book_4, e_X5_book_7, e_X5_book_8, e_X5_book_9, e_X5_book_12, e_X5_book_13, e_X5_book_14, e_X5_book_17, e_X5_book_18, e_X5_book_19, e_X5_book_20, e_X5_book_21, e_X5_book_24, e_X5_book_27, e_X5_book_28, e_X5_book_29, e_X5_book_32, e_X5_book_33, e_X5_book_34, e_X5_book_37, e_X5_book_40, e_X5_book_41, e_X5_book_42, e_X5_book_45, e_X5_book_46, e_X5_book_47, e_X5_book_50, e_X5_book_51, e_X5_book_54, e_X5_book_57, e_X5_book_58, e_X5_book_62, e_X5_book_63, e_X5_book_66, e_X5_book_69, e_X5_book_70, e_X5_book_72, e_X5_book_73, e_X5_book_76, e_X5_book_79, e_X5_book_80, e_X5_book_81, e_X5_book_82, e_X5_book_85, e_X5_book_86, e_X5_book_89, e_X5_book_92, e_X5_book_95, e_X5_book_98, e_X5_book_99, e_X5_book_102, s_isSheet, hs3, s_isMissing hS hb r7, bI_f h2, s_isOwner, bI_f h3, v_tell R, and_self, and_true, true_and, Nat.zero_le, nI_ltI, toL1, toL0, ite_self, if_true, if_false, ite_true, ite_false, nI_add, pk_mul, z_eq, z_lt, z_le, z_ge, z_gt, nI_eq, nI_leI, nI_ltI, bI_0, bI_1, not_true_eq_false, not_false_eq_true]
        exact v_bad R K
  · rw [if_neg h1] at K
    simp (disch := first | assumption | omega | exact isB_0 | exact isB_1 | exact isB_bI _ | decide) only [e_X5_book_0, e_X5_book_1, e_X5_book_4, e_X5_book_7, e_X5_book_8, e_X5_book_9, e_X5_book_12, e_X5_book_13, e_X5_book_14, e_X5_book_17, e_X5_book_18, e_X5_book_19, e_X5_book_20, e_X5_book_21, e_X5_book_24, e_X5_book_27, e_X5_book_28, e_X5_book_29, e_X5_book_32, e_X5_book_33, e_X5_book_34, e_X5_book_37, e_X5_book_40, e_X5_book_41, e_X5_book_42, e_X5_book_45, e_X5_book_46, e_X5_book_47, e_X5_book_50, e_X5_book_51, e_X5_book_54, e_X5_book_57, e_X5_book_58, e_X5_book_62, e_X5_book_63, e_X5_book_66, e_X5_book_69, e_X5_book_70, e_X5_book_72, e_X5_book_73, e_X5_book_76, e_X5_book_79, e_X5_book_80, e_X5_book_81, e_X5_book_82, e_X5_book_85, e_X5_book_86, e_X5_book_89, e_X5_book_92, e_X5_book_95, e_X5_book_98, e_X5_book_99, e_X5_book_102, s_isSheet, bI_f h1, v_tell R, and_self, and_true, true_and, Nat.zero_le, nI_ltI, toL1, toL0, ite_self, if_true, if_false, ite_true, ite_false, nI_add, pk_mul, z_eq, z_lt, z_le, z_ge, z_gt, nI_eq, nI_leI, nI_ltI, bI_0, bI_1, not_true_eq_false, not_false_eq_true]
    exact v_bad R K
theorem m_bkL (R0 : RM h S) (R9 : RR h 39 (yC S)) (W : WS S) {s o : Nat} (hs : s < 4) (ho : o < 4) (K : ∀ h', RR h' 37 (yC S) → (∀ t i, t < 4 → i < 40 → gL h' 44 (40 * t + i) = updF (yN S) s (bkR S s o (yZ S s)) t i) → Fr (fun q => q = 37 ∨ q = 44) h h' → Q (some (.int (nI (yZ S s)))) h') : ∀ (d k : Nat) (h' : Hp), k + d = yZ S s → RR h' 37 (goN k (yC S)) → (∀ t i, t < 4 → i < 40 → gL h' 44 (40 * t + i) = updF (yN S) s (bkR S s o k) t i) → Fr (fun q => q = 37 ∨ q = 44) h h' → Ev E mX6_book 41 [.ref 36, .int (nI s), .int (nI o), .int (nI 0), .int (nI k)] [] h' Q := by
  have hz := W.z hs
  have hb := W.b hs
  have hh := W.2.1
  have r7 := R0.2.2.2.2.2.2.1 s hs
  have r8 := R0.2.2.2.2.2.2.2.1 s hs
  intro d
  induction d with
  | zero =>
    intro k h' e R c2 F
    have f43 : gA h' 43 s = nI (yZ S s) := by rw [(F 43 (by decide)).2.1]; exact r8
    rw [e_X6_book_41]
    simp (disch := first | assumption | omega | exact isB_0 | exact isB_1 | exact isB_bI _ | decide) only [e_X6_book_0, e_X6_book_1, e_X6_book_2, e_X6_book_5, e_X6_book_6, e_X6_book_7, e_X6_book_10, e_X6_book_11, e_X6_book_14, e_X6_book_17, e_X6_book_19, e_X6_book_22, e_X6_book_23, e_X6_book_24, e_X6_book_25, e_X6_book_28, e_X6_book_29, e_X6_book_30, e_X6_book_33, e_X6_book_34, e_X6_book_35, e_X6_book_38, e_X6_book_39, e_X6_book_43, e_X6_book_44, e_X6_book_47, e_X6_book_48, e_X6_book_49, e_X6_book_52, e_X6_book_53, e_X6_book_56, e_X6_book_58, e_X6_book_59, e_X6_book_60, e_X6_book_62, e_X6_book_63, e_X6_book_64, e_X6_book_67, e_X6_book_68, e_X6_book_69, e_X6_book_70, e_X6_book_73, e_X6_book_74, e_X6_book_75, e_X6_book_76, e_X6_book_77, e_X6_book_78, e_X6_book_81, e_X6_book_82, e_X6_book_83, e_X6_book_86, e_X6_book_89, e_X6_book_92, e_X6_book_93, e_X6_book_96, e_X6_book_97, e_X6_book_100, e_X6_book_101, e_X6_book_102, f43, toL1, toL0, ite_self, if_true, if_false, ite_true, ite_false, nI_add, pk_mul, z_eq, z_lt, z_le, z_ge, z_gt, nI_eq, nI_leI, nI_ltI, bI_0, bI_1, not_true_eq_false, not_false_eq_true]
    rw [if_pos (by omega)]
    refine m_putsBack (R9.fr F (by decide)) (fun h3 R3 F3 => ?_)
    have g43 : gA h3 43 s = nI (yZ S s) := by rw [(F3 43 (by decide)).2.1]; exact f43
    simp (disch := first | assumption | omega | exact isB_0 | exact isB_1 | exact isB_bI _ | decide) only [e_X6_book_0, e_X6_book_1, e_X6_book_2, e_X6_book_5, e_X6_book_6, e_X6_book_7, e_X6_book_10, e_X6_book_11, e_X6_book_14, e_X6_book_17, e_X6_book_19, e_X6_book_22, e_X6_book_23, e_X6_book_24, e_X6_book_25, e_X6_book_28, e_X6_book_29, e_X6_book_30, e_X6_book_33, e_X6_book_34, e_X6_book_35, e_X6_book_38, e_X6_book_39, e_X6_book_43, e_X6_book_44, e_X6_book_47, e_X6_book_48, e_X6_book_49, e_X6_book_52, e_X6_book_53, e_X6_book_56, e_X6_book_58, e_X6_book_59, e_X6_book_60, e_X6_book_62, e_X6_book_63, e_X6_book_64, e_X6_book_67, e_X6_book_68, e_X6_book_69, e_X6_book_70, e_X6_book_73, e_X6_book_74, e_X6_book_75, e_X6_book_76, e_X6_book_77, e_X6_book_78, e_X6_book_81, e_X6_book_82, e_X6_book_83, e_X6_book_86, e_X6_book_89, e_X6_book_92, e_X6_book_93, e_X6_book_96, e_X6_book_97, e_X6_book_100, e_X6_book_101, e_X6_book_102, g43, toL1, toL0, ite_self, if_true, if_false, ite_true, ite_false, nI_add, pk_mul, z_eq, z_lt, z_le, z_ge, z_gt, nI_eq, nI_leI, nI_ltI, bI_0, bI_1, not_true_eq_false, not_false_eq_true]
    refine K h3 R3 (fun t i ht hi => ?_) (F.tr (F3.mono (fun q w => Or.inl w)))
    rw [(F3 44 (by decide)).2.2, c2 t i ht hi, show k = yZ S s by omega]
  | succ d ih =>
    intro k h' e R c2 F
    have WK := W_goN W.1 k (by omega)
    have f43 : gA h' 43 s = nI (yZ S s) := by rw [(F 43 (by decide)).2.1]; exact r8
    have f42 : gA h' 42 s = nI (yW S s) := by rw [(F 42 (by decide)).2.1]; exact r7
    rw [e_X6_book_41]
    simp (disch := first | assumption | omega | exact isB_0 | exact isB_1 | exact isB_bI _ | decide) only [e_X6_book_0, e_X6_book_1, e_X6_book_2, e_X6_book_5, e_X6_book_6, e_X6_book_7, e_X6_book_10, e_X6_book_11, e_X6_book_14, e_X6_book_17, e_X6_book_19, e_X6_book_22, e_X6_book_23, e_X6_book_24, e_X6_book_25, e_X6_book_28, e_X6_book_29, e_X6_book_30, e_X6_book_33, e_X6_book_34, e_X6_book_35, e_X6_book_38, e_X6_book_39, e_X6_book_43, e_X6_book_44, e_X6_book_47, e_X6_book_48, e_X6_book_49, e_X6_book_52, e_X6_book_53, e_X6_book_56, e_X6_book_58, e_X6_book_59, e_X6_book_60, e_X6_book_62, e_X6_book_63, e_X6_book_64, e_X6_book_67, e_X6_book_68, e_X6_book_69, e_X6_book_70, e_X6_book_73, e_X6_book_74, e_X6_book_75, e_X6_book_76, e_X6_book_77, e_X6_book_78, e_X6_book_81, e_X6_book_83, e_X6_book_86, e_X6_book_89, e_X6_book_92, e_X6_book_93, e_X6_book_96, e_X6_book_97, e_X6_book_100, e_X6_book_101, e_X6_book_102, f43, f42, R.M ho, m_cutTo hb, vupd, toL1, toL0, ite_self, if_true, if_false, ite_true, ite_false, nI_add, pk_mul, z_eq, z_lt, z_le, z_ge, z_gt, nI_eq, nI_leI, nI_ltI, bI_0, bI_1, not_true_eq_false, not_false_eq_true]
    rw [if_neg (by omega)]
    have F1 : Fr (fun q => q = 44) h' (sL h' 44 (updL (gL h' 44) (40 * s + k) (cut (yW S s) (nI (zM (goN k (yC S)) o)).toInt64))) := Fr.sL rfl
    have R1 := R.fr F1 (by decide)
    rw [e_X6_book_82]
    simp (disch := first | assumption | omega | exact isB_0 | exact isB_1 | exact isB_bI _ | decide) only [e_X6_book_0, e_X6_book_1, e_X6_book_2, e_X6_book_5, e_X6_book_6, e_X6_book_7, e_X6_book_10, e_X6_book_11, e_X6_book_14, e_X6_book_17, e_X6_book_19, e_X6_book_22, e_X6_book_23, e_X6_book_24, e_X6_book_25, e_X6_book_28, e_X6_book_29, e_X6_book_30, e_X6_book_33, e_X6_book_34, e_X6_book_35, e_X6_book_38, e_X6_book_39, e_X6_book_43, e_X6_book_44, e_X6_book_47, e_X6_book_48, e_X6_book_49, e_X6_book_52, e_X6_book_53, e_X6_book_56, e_X6_book_58, e_X6_book_59, e_X6_book_60, e_X6_book_62, e_X6_book_63, e_X6_book_64, e_X6_book_67, e_X6_book_68, e_X6_book_69, e_X6_book_70, e_X6_book_73, e_X6_book_74, e_X6_book_75, e_X6_book_76, e_X6_book_77, e_X6_book_78, e_X6_book_81, e_X6_book_83, e_X6_book_86, e_X6_book_89, e_X6_book_92, e_X6_book_93, e_X6_book_96, e_X6_book_97, e_X6_book_100, e_X6_book_101, e_X6_book_102, toL1, toL0, ite_self, if_true, if_false, ite_true, ite_false, nI_add, pk_mul, z_eq, z_lt, z_le, z_ge, z_gt, nI_eq, nI_leI, nI_ltI, bI_0, bI_1, not_true_eq_false, not_false_eq_true]
    refine m_goes R1 WK (fun h2 R2 F2 => ?_)
    simp (disch := first | assumption | omega | exact isB_0 | exact isB_1 | exact isB_bI _ | decide) only [e_X6_book_0, e_X6_book_1, e_X6_book_2, e_X6_book_5, e_X6_book_6, e_X6_book_7, e_X6_book_10, e_X6_book_11, e_X6_book_14, e_X6_book_17, e_X6_book_19, e_X6_book_22, e_X6_book_23, e_X6_book_24, e_X6_book_25, e_X6_book_28, e_X6_book_29, e_X6_book_30, e_X6_book_33, e_X6_book_34, e_X6_book_35, e_X6_book_38, e_X6_book_39, e_X6_book_43, e_X6_book_44, e_X6_book_47, e_X6_book_48, e_X6_book_49, e_X6_book_52, e_X6_book_53, e_X6_book_56, e_X6_book_58, e_X6_book_59, e_X6_book_60, e_X6_book_62, e_X6_book_63, e_X6_book_64, e_X6_book_67, e_X6_book_68, e_X6_book_69, e_X6_book_70, e_X6_book_73, e_X6_book_74, e_X6_book_75, e_X6_book_76, e_X6_book_77, e_X6_book_78, e_X6_book_81, e_X6_book_83, e_X6_book_86, e_X6_book_89, e_X6_book_92, e_X6_book_93, e_X6_book_96, e_X6_book_97, e_X6_book_100, e_X6_book_101, e_X6_book_102, toL1, toL0, ite_self, if_true, if_false, ite_true, ite_false, nI_add, pk_mul, z_eq, z_lt, z_le, z_ge, z_gt, nI_eq, nI_leI, nI_ltI, bI_0, bI_1, not_true_eq_false, not_false_eq_true]
    refine ih (k + 1) h2 (by omega) R2 (fun t i ht hi => ?_) ((F.tr (F1.mono (fun q w => Or.inr w))).tr (F2.mono (fun q w => Or.inl w)))
    rw [(F2 44 (by decide)).2.2, gL_sL, if_pos rfl]
    have c := c2 t i ht hi
    unfold updL updF bkR
    unfold updF bkR at c
    by_cases q : t = s
    · rw [if_pos q]
      rw [if_pos q] at c
      by_cases w : i = k
      · rw [if_pos (by omega), if_pos (by omega), w]
        rfl
      · rw [if_neg (by omega), c]
        by_cases x : i < k
        · rw [if_pos x, if_pos (by omega)]
        · rw [if_neg x, if_neg (by omega)]
    · rw [if_neg q]
      rw [if_neg q] at c
      rw [if_neg (by omega), c]
theorem m_book (R : RM h S) (W : WS S) {a o : Int32} (K : Mo h Q (f_book a o S)) : Ev E mX6_book 0 [.ref 36, .int a, .int o, .null, .null] [] h Q := by
  unfold f_book at K
  by_cases h1 : nI 0 ≤ a ∧ a ≤ nI 3
  · rw [if_pos h1] at K
    obtain ⟨s, _, hs3, rfl⟩ := vI_of (by decide) h1 (by decide)
    have hs : s < 4 := by omega
    rw [nv_nI (by omega)] at K
    by_cases h2 : yW S s = 0
    · rw [if_pos h2] at K
      simp (disch := first | assumption | omega | exact isB_0 | exact isB_1 | exact isB_bI _ | decide) only [e_X6_book_0, e_X6_book_1, e_X6_book_2, e_X6_book_5, e_X6_book_6, e_X6_book_7, e_X6_book_10, e_X6_book_11, e_X6_book_14, e_X6_book_17, e_X6_book_19, e_X6_book_22, e_X6_book_23, e_X6_book_24, e_X6_book_25, e_X6_book_28, e_X6_book_29, e_X6_book_30, e_X6_book_33, e_X6_book_34, e_X6_book_35, e_X6_book_38, e_X6_book_39, e_X6_book_43, e_X6_book_44, e_X6_book_47, e_X6_book_48, e_X6_book_49, e_X6_book_52, e_X6_book_53, e_X6_book_56, e_X6_book_58, e_X6_book_59, e_X6_book_60, e_X6_book_62, e_X6_book_63, e_X6_book_64, e_X6_book_67, e_X6_book_68, e_X6_book_69, e_X6_book_70, e_X6_book_73, e_X6_book_74, e_X6_book_75, e_X6_book_76, e_X6_book_77, e_X6_book_78, e_X6_book_81, e_X6_book_82, e_X6_book_83, e_X6_book_86, e_X6_book_89, e_X6_book_92, e_X6_book_93, e_X6_book_96, e_X6_book_97, e_X6_book_100, e_X6_book_101, e_X6_book_102, m_nt1 R hs h2, kz_6, m_f5 R, and_self, and_true, true_and, Nat.zero_le, nI_ltI, toL1, toL0, ite_self, if_true, if_false, ite_true, ite_false, nI_add, pk_mul, z_eq, z_lt, z_le, z_ge, z_gt, nI_eq, nI_leI, nI_ltI, bI_0, bI_1, not_true_eq_false, not_false_eq_true]
      exact m_bad R K
    · rw [if_neg h2] at K
      by_cases h3 : nI 0 ≤ o ∧ o ≤ nI 3
      · rw [if_pos h3] at K
        obtain ⟨j, _, hj, rfl⟩ := vI_of (by decide) h3 (by decide)
        rw [nv_nI (by omega)] at K
        simp (disch := first | assumption | omega | exact isB_0 | exact isB_1 | exact isB_bI _ | decide) only [e_X6_book_0, e_X6_book_1, e_X6_book_2, e_X6_book_5, e_X6_book_6, e_X6_book_7, e_X6_book_10, e_X6_book_11, e_X6_book_14, e_X6_book_17, e_X6_book_19, e_X6_book_22, e_X6_book_23, e_X6_book_24, e_X6_book_25, e_X6_book_28, e_X6_book_29, e_X6_book_30, e_X6_book_33, e_X6_book_34, e_X6_book_35, e_X6_book_38, e_X6_book_39, e_X6_book_43, e_X6_book_44, e_X6_book_47, e_X6_book_48, e_X6_book_49, e_X6_book_52, e_X6_book_53, e_X6_book_56, e_X6_book_58, e_X6_book_59, e_X6_book_60, e_X6_book_62, e_X6_book_63, e_X6_book_64, e_X6_book_67, e_X6_book_68, e_X6_book_69, e_X6_book_70, e_X6_book_73, e_X6_book_74, e_X6_book_75, e_X6_book_76, e_X6_book_77, e_X6_book_78, e_X6_book_81, e_X6_book_82, e_X6_book_83, e_X6_book_86, e_X6_book_89, e_X6_book_92, e_X6_book_93, e_X6_book_96, e_X6_book_97, e_X6_book_100, e_X6_book_101, e_X6_book_102, m_nt2 R W hs h2, m_isOwner, hj, Nat.one_ne_zero, and_self, and_true, true_and, Nat.zero_le, nI_ltI, toL1, toL0, ite_self, if_true, if_false, ite_true, ite_false, nI_add, pk_mul, z_eq, z_lt, z_le, z_ge, z_gt, nI_eq, nI_leI, nI_ltI, bI_0, bI_1, not_true_eq_false, not_false_eq_true]
        refine m_thinks R.ci (fun h4 R4 F4 => ?_)
        simp (disch := first | assumption | omega | exact isB_0 | exact isB_1 | exact isB_bI _ | decide) only [e_X6_book_0, e_X6_book_1, e_X6_book_2, e_X6_book_5, e_X6_book_6, e_X6_book_7, e_X6_book_10, e_X6_book_11, e_X6_book_14, e_X6_book_17, e_X6_book_19, e_X6_book_22, e_X6_book_23, e_X6_book_24, e_X6_book_25, e_X6_book_28, e_X6_book_29, e_X6_book_30, e_X6_book_33, e_X6_book_34, e_X6_book_35, e_X6_book_38, e_X6_book_39, e_X6_book_43, e_X6_book_44, e_X6_book_47, e_X6_book_48, e_X6_book_49, e_X6_book_52, e_X6_book_53, e_X6_book_56, e_X6_book_58, e_X6_book_59, e_X6_book_60, e_X6_book_62, e_X6_book_63, e_X6_book_64, e_X6_book_67, e_X6_book_68, e_X6_book_69, e_X6_book_70, e_X6_book_73, e_X6_book_74, e_X6_book_75, e_X6_book_76, e_X6_book_77, e_X6_book_78, e_X6_book_81, e_X6_book_82, e_X6_book_83, e_X6_book_86, e_X6_book_89, e_X6_book_92, e_X6_book_93, e_X6_book_96, e_X6_book_97, e_X6_book_100, e_X6_book_101, e_X6_book_102, toL1, toL0, ite_self, if_true, if_false, ite_true, ite_false, nI_add, pk_mul, z_eq, z_lt, z_le, z_ge, z_gt, nI_eq, nI_leI, nI_ltI, bI_0, bI_1, not_true_eq_false, not_false_eq_true]
        have RS : RM h4 S := R.self F4.m9 (R.ci.fr F4 (by decide))
        refine m_bkL RS R4 W hs (show j < 4 by omega) (fun h5 R5 c2 F5 => ?_) (yZ S s) 0 h4 (by omega) RS.ci (fun t i ht hi => ?_) Fr.rf
        · refine K h5 ?_ (F4.m9.hi.tr (F5.mono (fun q w => by unfold hiC; omega)))
          obtain ⟨q1, q2, q3, q4, q5, q6, q7, q8, q9⟩ := RS
          refine ⟨R5, ?_, fun D hD => (q3 D hD).fr F5 (by decide), fun i hi => ?_, ?_, fun i hi => ?_, fun t ht => ?_, fun t ht => ?_, c2⟩
          · exact ((F5 36 (by decide)).1 3).trans q2
          · rw [(F5 40 (by decide)).2.1]; exact q4 i hi
          · exact ((F5 36 (by decide)).1 6).trans q5
          · rw [(F5 41 (by decide)).2.1]; exact q6 i hi
          · rw [(F5 42 (by decide)).2.1]; exact q7 t ht
          · rw [(F5 43 (by decide)).2.1]; exact q8 t ht
        · have z := RS.2.2.2.2.2.2.2.2 t i ht hi
          rw [z]
          unfold updF bkR
          by_cases q : t = s
          · rw [if_pos q, if_neg (Nat.not_lt_zero i), q]
          · rw [if_neg q]
      · rw [if_neg h3] at K
        simp (disch := first | assumption | omega | exact isB_0 | exact isB_1 | exact isB_bI _ | decide) only [e_X6_book_0, e_X6_book_1, e_X6_book_2, e_X6_book_5, e_X6_book_6, e_X6_book_7, e_X6_book_10, e_X6_book_11, e_X6_book_14, e_X6_book_17, e_X6_book_19, e_X6_book_22, e_X6_book_23, e_X6_book_24, e_X6_book_25, e_X6_book_28, e_X6_book_29, e_X6_book_30, e_X6_book_33, e_X6_book_34, e_X6_book_35, e_X6_book_38, e_X6_book_39, e_X6_book_43, e_X6_book_44, e_X6_book_47, e_X6_book_48, e_X6_book_49, e_X6_book_52, e_X6_book_53, e_X6_book_56, e_X6_book_58, e_X6_book_59, e_X6_book_60, e_X6_book_62, e_X6_book_63, e_X6_book_64, e_X6_book_67, e_X6_book_68, e_X6_book_69, e_X6_book_70, e_X6_book_73, e_X6_book_74, e_X6_book_75, e_X6_book_76, e_X6_book_77, e_X6_book_78, e_X6_book_81, e_X6_book_82, e_X6_book_83, e_X6_book_86, e_X6_book_89, e_X6_book_92, e_X6_book_93, e_X6_book_96, e_X6_book_97, e_X6_book_100, e_X6_book_101, e_X6_book_102, m_nt2 R W hs h2, m_isOwner, bI_f h3, kz_1, m_f0 R, and_self, and_true, true_and, Nat.zero_le, nI_ltI, toL1, toL0, ite_self, if_true, if_false, ite_true, ite_false, nI_add, pk_mul, z_eq, z_lt, z_le, z_ge, z_gt, nI_eq, nI_leI, nI_ltI, bI_0, bI_1, not_true_eq_false, not_false_eq_true]
        exact m_bad R K
  · rw [if_neg h1] at K
    simp (disch := first | assumption | omega | exact isB_0 | exact isB_1 | exact isB_bI _ | decide) only [e_X6_book_0, e_X6_book_1, e_X6_book_2, e_X6_book_5, e_X6_book_6, e_X6_book_7, e_X6_book_10, e_X6_book_11, e_X6_book_14, e_X6_book_17, e_X6_book_19, e_X6_book_22, e_X6_book_23, e_X6_book_24, e_X6_book_25, e_X6_book_28, e_X6_book_29, e_X6_book_30, e_X6_book_33, e_X6_book_34, e_X6_book_35, e_X6_book_38, e_X6_book_39, e_X6_book_43, e_X6_book_44, e_X6_book_47, e_X6_book_48, e_X6_book_49, e_X6_book_52, e_X6_book_53, e_X6_book_56, e_X6_book_58, e_X6_book_59, e_X6_book_60, e_X6_book_62, e_X6_book_63, e_X6_book_64, e_X6_book_67, e_X6_book_68, e_X6_book_69, e_X6_book_70, e_X6_book_73, e_X6_book_74, e_X6_book_75, e_X6_book_76, e_X6_book_77, e_X6_book_78, e_X6_book_81, e_X6_book_82, e_X6_book_83, e_X6_book_86, e_X6_book_89, e_X6_book_92, e_X6_book_93, e_X6_book_96, e_X6_book_97, e_X6_book_100, e_X6_book_101, e_X6_book_102, m_nt0 h1, kz_1, m_f0 R, and_self, and_true, true_and, Nat.zero_le, nI_ltI, toL1, toL0, ite_self, if_true, if_false, ite_true, ite_false, nI_add, pk_mul, z_eq, z_lt, z_le, z_ge, z_gt, nI_eq, nI_leI, nI_ltI, bI_0, bI_1, not_true_eq_false, not_false_eq_true]
    exact m_bad R K
end BOOK
