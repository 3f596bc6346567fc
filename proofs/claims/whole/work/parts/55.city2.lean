/-! this side's city -/
def ldC (S : Sy) : Bool × Nat × Cty := pLoop (yB S) (yL S) 120 1 0 (yC S)
def f_city (S : Sy) : Int32 × Sy := if (ldC S).1 = true then (nI (ldC S).2.1, ysB (ysL (ysC S (ldC S).2.2) 0) (yB S)) else (-1 - nI (ldC S).2.1, ysB (ysL S 0) (yB S))
theorem neg_p {n : Nat} (hn : n ≤ 1000) : (-1 - nI n : Int32) < 0 := by
  rw [Int32.lt_iff_toInt_lt, Int32.toInt_sub, nI_toInt (by omega)]
  have e1 : (-1 : Int32).toInt = -1 := by decide
  have e2 : (0 : Int32).toInt = 0 := by decide
  rw [e1, e2, Int.bmod_eq_of_le (by omega) (by omega)]
  omega
theorem pLoop_b {T : Nat → Nat} {L : Nat} : ∀ d it p C, p ≤ L → WC C → ((pLoop T L d it p C).1 = true → (pLoop T L d it p C).2.1 < it + d) ∧ (¬ (pLoop T L d it p C).1 = true → (pLoop T L d it p C).2.1 ≤ L)
  | 0, _, _, _, _, _ => ⟨fun z => absurd z (show ¬ false = true by decide), fun _ => Nat.zero_le _⟩
  | d + 1, it, p, C, hp, W => by
    have g := gd_item (T := T) W hp
    have b := tB_le (T := T) g.1
    rw [pLoop]
    by_cases c : (pItem T L p C).1 = true
    · rw [if_pos c]
      by_cases c1 : tK T L (pItem T L p C).2.1 = 22
      · rw [if_pos c1]; exact ⟨fun _ => by show it < it + (d + 1); omega, fun z => absurd rfl z⟩
      · rw [if_neg c1]
        by_cases c2 : tK T L (pItem T L p C).2.1 = 21
        · rw [if_pos c2]
          have ih := pLoop_b (T := T) d (it + 1) (tE T L (pItem T L p C).2.1) (pItem T L p C).2.2 (tE_le g.1) (g.2.2 c).2.1
          exact ⟨fun z => by have := ih.1 z; omega, ih.2⟩
        · rw [if_neg c2]; exact ⟨fun z => absurd z (show ¬ false = true by decide), fun _ => b⟩
    · rw [if_neg c]; exact ⟨fun z => absurd z (show ¬ false = true by decide), fun _ => b⟩
section CITY2
variable {E : En} {h : Hp} {Q : Option Value → Hp → Prop} {S : Sy} {T : Nat → Nat} {L : Nat}
theorem RV.tk {h' : Hp} (R : RV h S) (F : Fr Xt h h') (t : TP h' (yB S) (yL S)) : RV h' S := by
  obtain ⟨r1, r2, r3, r4, r5, r6, r7, r8, r9⟩ := R
  have no : ∀ q, ¬ q = 22 → ¬ (8 ≤ q ∧ q ≤ 14) → ¬ Xt q := fun q a b => by unfold Xt Xc; omega
  refine ⟨r1.fr F (fun o h1 h2 => no o (by omega) (by omega)), ?_, fun D hD => (r3 D hD).fr F (fun o h1 h2 => no o (by omega) (by omega)), fun j hj => ?_, t.1, t.2, fun u hu => ?_, fun u hu => ?_, fun u i hu hi => ?_⟩
  · exact ((F 0 (no _ (by omega) (by omega))).1 3).trans r2
  · rw [(F 33 (no _ (by omega) (by omega))).2.1]; exact r4 j hj
  · exact ((F (25 + u) (no _ (by omega) (by omega))).1 0).trans (r7 u hu)
  · exact ((F (25 + u) (no _ (by omega) (by omega))).1 1).trans (r8 u hu)
  · rw [(F (29 + u) (no _ (by omega) (by omega))).2.2]; exact r9 u i hu hi
theorem v_roL (hL : L ≤ 120) (hT : ∀ i, i < L → T i ≤ 255) : ∀ (d it p : Nat) (C : Cty) (h : Hp), it + d = 121 → 2 * it ≤ p + 2 → p ≤ L → CT h T L p → RC h 8 C → WC C → (∀ h2, TP h2 T L → ((pLoop T L d it p C).1 = true → RC h2 8 (pLoop T L d it p C).2.2) → Fr Xt h h2 → Q (some (.int (if (pLoop T L d it p C).1 = true then nI (pLoop T L d it p C).2.1 else -1 - nI (pLoop T L d it p C).2.1))) h2) → Ev E mX4_readOnto 11 [.ref 22, .ref 8, .int (nI it)] [] h Q := by
  have hC := isC_8
  intro d
  induction d with
  | zero => intro it p C h e e2 hp a R W K; omega
  | succ d ih =>
    intro it p C h e e2 hp a R W K
    have g := gd_item (T := T) W hp
    rw [e_X4_readOnto_11]
    simp (disch := first | assumption | omega | exact isB_0 | exact isB_1 | exact isB_bI _ | decide) only [e_X4_readOnto_0, e_X4_readOnto_1, e_X4_readOnto_2, e_X4_readOnto_5, e_X4_readOnto_6, e_X4_readOnto_9, e_X4_readOnto_10, e_X4_readOnto_12, e_X4_readOnto_14, e_X4_readOnto_17, e_X4_readOnto_18, e_X4_readOnto_19, e_X4_readOnto_22, e_X4_readOnto_25, e_X4_readOnto_26, e_X4_readOnto_27, e_X4_readOnto_30, e_X4_readOnto_31, e_X4_readOnto_32, e_X4_readOnto_33, e_X4_readOnto_36, e_X4_readOnto_39, e_X4_readOnto_40, e_X4_readOnto_41, e_X4_readOnto_42, e_X4_readOnto_45, e_X4_readOnto_46, e_X4_readOnto_49, e_X4_readOnto_50, e_X4_readOnto_51, e_X4_readOnto_54, e_X4_readOnto_55, e_X4_readOnto_56, e_X4_readOnto_57, e_X4_readOnto_60, e_X4_readOnto_63, e_X4_readOnto_66, e_X4_readOnto_67, e_X4_readOnto_68, e_X4_readOnto_71, e_X4_readOnto_72, toL1, toL0, ite_self, if_true, if_false, ite_true, ite_false, nI_add, pk_mul, z_eq, z_lt, z_le, z_ge, z_gt, nI_eq, nI_leI, nI_ltI, bI_0, bI_1, not_true_eq_false, not_false_eq_true]
    rw [if_neg (by omega)]
    refine v_ri hL hT hp a R W (fun h2 a2 R2 F2 => ?_)
    have c4 := tC_le (T := T) (L := L) (p := (pItem T L p C).2.1)
    have q1 := a2.2.1
    have q3 := a2.2.2.1
    by_cases c : (pItem T L p C).1 = true
    · by_cases c1 : tC T L (pItem T L p C).2.1 = 0
      · have e3 : pLoop T L (d + 1) it p C = (true, it, (pItem T L p C).2.2) := by rw [pLoop, if_pos c, if_pos (tK_22.mpr c1)]
        rw [e3] at K
        simp (disch := first | assumption | omega | exact isB_0 | exact isB_1 | exact isB_bI _ | decide) only [e_X4_readOnto_0, e_X4_readOnto_1, e_X4_readOnto_2, e_X4_readOnto_5, e_X4_readOnto_6, e_X4_readOnto_9, e_X4_readOnto_10, e_X4_readOnto_12, e_X4_readOnto_14, e_X4_readOnto_17, e_X4_readOnto_18, e_X4_readOnto_19, e_X4_readOnto_22, e_X4_readOnto_25, e_X4_readOnto_26, e_X4_readOnto_27, e_X4_readOnto_30, e_X4_readOnto_31, e_X4_readOnto_32, e_X4_readOnto_33, e_X4_readOnto_36, e_X4_readOnto_39, e_X4_readOnto_40, e_X4_readOnto_41, e_X4_readOnto_42, e_X4_readOnto_45, e_X4_readOnto_46, e_X4_readOnto_49, e_X4_readOnto_50, e_X4_readOnto_51, e_X4_readOnto_54, e_X4_readOnto_55, e_X4_readOnto_56, e_X4_readOnto_57, e_X4_readOnto_60, e_X4_readOnto_63, e_X4_readOnto_66, e_X4_readOnto_67, e_X4_readOnto_68, e_X4_readOnto_71, e_X4_readOnto_72, bI_t c, q1, c1, Nat.one_ne_zero, toL1, toL0, ite_self, if_true, if_false, ite_true, ite_false, nI_add, pk_mul, z_eq, z_lt, z_le, z_ge, z_gt, nI_eq, nI_leI, nI_ltI, bI_0, bI_1, not_true_eq_false, not_false_eq_true]
        have k := K h2 a2.1 (fun _ => R2 c) F2
        rw [if_pos rfl] at k
        exact k
      · have n1 : ¬ tK T L (pItem T L p C).2.1 = 22 := fun z => c1 (tK_22.mp z)
        by_cases c2 : tC T L (pItem T L p C).2.1 = 3
        · have e3 : pLoop T L (d + 1) it p C = pLoop T L d (it + 1) (tE T L (pItem T L p C).2.1) (pItem T L p C).2.2 := by rw [pLoop, if_pos c, if_neg n1, if_pos (tK_21.mpr c2)]
          rw [e3] at K
          have lt := tK_lt (T := T) g.1 n1
          have gt := (g.2.2 c).1
          simp (disch := first | assumption | omega | exact isB_0 | exact isB_1 | exact isB_bI _ | decide) only [e_X4_readOnto_0, e_X4_readOnto_1, e_X4_readOnto_2, e_X4_readOnto_5, e_X4_readOnto_6, e_X4_readOnto_9, e_X4_readOnto_10, e_X4_readOnto_12, e_X4_readOnto_14, e_X4_readOnto_17, e_X4_readOnto_18, e_X4_readOnto_19, e_X4_readOnto_22, e_X4_readOnto_25, e_X4_readOnto_26, e_X4_readOnto_27, e_X4_readOnto_30, e_X4_readOnto_31, e_X4_readOnto_32, e_X4_readOnto_33, e_X4_readOnto_36, e_X4_readOnto_39, e_X4_readOnto_40, e_X4_readOnto_41, e_X4_readOnto_42, e_X4_readOnto_45, e_X4_readOnto_46, e_X4_readOnto_49, e_X4_readOnto_50, e_X4_readOnto_51, e_X4_readOnto_54, e_X4_readOnto_55, e_X4_readOnto_56, e_X4_readOnto_57, e_X4_readOnto_60, e_X4_readOnto_63, e_X4_readOnto_66, e_X4_readOnto_67, e_X4_readOnto_68, e_X4_readOnto_71, e_X4_readOnto_72, bI_t c, q1, c2, Nat.one_ne_zero, Nat.reduceEqDiff, toL1, toL0, ite_self, if_true, if_false, ite_true, ite_false, nI_add, pk_mul, z_eq, z_lt, z_le, z_ge, z_gt, nI_eq, nI_leI, nI_ltI, bI_0, bI_1, not_true_eq_false, not_false_eq_true]
          refine v_adv hL hT g.1 a2 (fun h3 a3 F3 => ?_)
          simp (disch := first | assumption | omega | exact isB_0 | exact isB_1 | exact isB_bI _ | decide) only [e_X4_readOnto_0, e_X4_readOnto_1, e_X4_readOnto_2, e_X4_readOnto_5, e_X4_readOnto_6, e_X4_readOnto_9, e_X4_readOnto_10, e_X4_readOnto_12, e_X4_readOnto_14, e_X4_readOnto_17, e_X4_readOnto_18, e_X4_readOnto_19, e_X4_readOnto_22, e_X4_readOnto_25, e_X4_readOnto_26, e_X4_readOnto_27, e_X4_readOnto_30, e_X4_readOnto_31, e_X4_readOnto_32, e_X4_readOnto_33, e_X4_readOnto_36, e_X4_readOnto_39, e_X4_readOnto_40, e_X4_readOnto_41, e_X4_readOnto_42, e_X4_readOnto_45, e_X4_readOnto_46, e_X4_readOnto_49, e_X4_readOnto_50, e_X4_readOnto_51, e_X4_readOnto_54, e_X4_readOnto_55, e_X4_readOnto_56, e_X4_readOnto_57, e_X4_readOnto_60, e_X4_readOnto_63, e_X4_readOnto_66, e_X4_readOnto_67, e_X4_readOnto_68, e_X4_readOnto_71, e_X4_readOnto_72, toL1, toL0, ite_self, if_true, if_false, ite_true, ite_false, nI_add, pk_mul, z_eq, z_lt, z_le, z_ge, z_gt, nI_eq, nI_leI, nI_ltI, bI_0, bI_1, not_true_eq_false, not_false_eq_true]
          exact ih (it + 1) _ _ h3 (by omega) (by omega) (tE_le g.1) a3 (n8_22 (R2 c) F3) (g.2.2 c).2.1 (fun h4 t4 R4 F4 => K h4 t4 R4 ((F2.tr F3.t2).tr F4))
        · have e3 : pLoop T L (d + 1) it p C = (false, tB T L (pItem T L p C).2.1, C) := by rw [pLoop, if_pos c, if_neg n1, if_neg (fun z => c2 (tK_21.mp z))]
          rw [e3] at K
          simp (disch := first | assumption | omega | exact isB_0 | exact isB_1 | exact isB_bI _ | decide) only [e_X4_readOnto_0, e_X4_readOnto_1, e_X4_readOnto_2, e_X4_readOnto_5, e_X4_readOnto_6, e_X4_readOnto_9, e_X4_readOnto_10, e_X4_readOnto_12, e_X4_readOnto_14, e_X4_readOnto_17, e_X4_readOnto_18, e_X4_readOnto_19, e_X4_readOnto_22, e_X4_readOnto_25, e_X4_readOnto_26, e_X4_readOnto_27, e_X4_readOnto_30, e_X4_readOnto_31, e_X4_readOnto_32, e_X4_readOnto_33, e_X4_readOnto_36, e_X4_readOnto_39, e_X4_readOnto_40, e_X4_readOnto_41, e_X4_readOnto_42, e_X4_readOnto_45, e_X4_readOnto_46, e_X4_readOnto_49, e_X4_readOnto_50, e_X4_readOnto_51, e_X4_readOnto_54, e_X4_readOnto_55, e_X4_readOnto_56, e_X4_readOnto_57, e_X4_readOnto_60, e_X4_readOnto_63, e_X4_readOnto_66, e_X4_readOnto_67, e_X4_readOnto_68, e_X4_readOnto_71, e_X4_readOnto_72, bI_t c, q1, q3, c1, c2, Nat.one_ne_zero, toL1, toL0, ite_self, if_true, if_false, ite_true, ite_false, nI_add, pk_mul, z_eq, z_lt, z_le, z_ge, z_gt, nI_eq, nI_leI, nI_ltI, bI_0, bI_1, not_true_eq_false, not_false_eq_true]
          have k := K h2 a2.1 (fun z => absurd z (show ¬ false = true by decide)) F2
          rw [if_neg (show ¬ false = true by decide)] at k
          exact k
    · have e3 : pLoop T L (d + 1) it p C = (false, tB T L (pItem T L p C).2.1, C) := by rw [pLoop, if_neg c]
      rw [e3] at K
      simp (disch := first | assumption | omega | exact isB_0 | exact isB_1 | exact isB_bI _ | decide) only [e_X4_readOnto_0, e_X4_readOnto_1, e_X4_readOnto_2, e_X4_readOnto_5, e_X4_readOnto_6, e_X4_readOnto_9, e_X4_readOnto_10, e_X4_readOnto_12, e_X4_readOnto_14, e_X4_readOnto_17, e_X4_readOnto_18, e_X4_readOnto_19, e_X4_readOnto_22, e_X4_readOnto_25, e_X4_readOnto_26, e_X4_readOnto_27, e_X4_readOnto_30, e_X4_readOnto_31, e_X4_readOnto_32, e_X4_readOnto_33, e_X4_readOnto_36, e_X4_readOnto_39, e_X4_readOnto_40, e_X4_readOnto_41, e_X4_readOnto_42, e_X4_readOnto_45, e_X4_readOnto_46, e_X4_readOnto_49, e_X4_readOnto_50, e_X4_readOnto_51, e_X4_readOnto_54, e_X4_readOnto_55, e_X4_readOnto_56, e_X4_readOnto_57, e_X4_readOnto_60, e_X4_readOnto_63, e_X4_readOnto_66, e_X4_readOnto_67, e_X4_readOnto_68, e_X4_readOnto_71, e_X4_readOnto_72, bI_f c, q3, toL1, toL0, ite_self, if_true, if_false, ite_true, ite_false, nI_add, pk_mul, z_eq, z_lt, z_le, z_ge, z_gt, nI_eq, nI_leI, nI_ltI, bI_0, bI_1, not_true_eq_false, not_false_eq_true]
      have k := K h2 a2.1 (fun z => absurd z (show ¬ false = true by decide)) F2
      rw [if_neg (show ¬ false = true by decide)] at k
      exact k
theorem v_city (R : RV h S) (W : WS S) (K : Vo h Q (f_city S)) : Ev E mX5_city 0 [.ref 0, .null] [] h Q := by
  have hC := isC_1
  have hC8 := isC_8
  have hL : yL S ≤ 120 := W.2.2.2.1
  have hT : ∀ i, i < yL S → yB S i ≤ 255 := W.2.2.2.2.1
  have t0 : TP h (yB S) (yL S) := ⟨R.2.2.2.2.1, R.2.2.2.2.2.1⟩
  have pb := pLoop_b (T := yB S) (L := yL S) 120 1 0 (yC S) (Nat.zero_le _) W.1
  simp (disch := first | assumption | omega | exact isB_0 | exact isB_1 | exact isB_bI _ | decide) only [e_X5_city_0, e_X5_city_1, e_X5_city_4, e_X5_city_5, e_X5_city_8, e_X5_city_11, e_X5_city_12, e_X5_city_15, e_X5_city_16, e_X5_city_19, e_X5_city_22, e_X5_city_23, e_X5_city_24, e_X5_city_27, e_X5_city_28, e_X5_city_31, e_X5_city_32, e_X5_city_35, e_X5_city_38, e_X5_city_39, e_X5_city_42, e_X5_city_45, e_X5_city_46, e_X5_city_47, toL1, toL0, ite_self, if_true, if_false, ite_true, ite_false, nI_add, pk_mul, z_eq, z_lt, z_le, z_ge, z_gt, nI_eq, nI_leI, nI_ltI, bI_0, bI_1, not_true_eq_false, not_false_eq_true]
  refine c_become isC_8 isC_1 (by decide) R.ci (fun h2 R2 F2 => ?_)
  have F3 : Fr (fun o => o = 22) h2 (sI h2 22 4 (nI 0)) := Fr.sI rfl
  have t3 : TP (sI h2 22 4 (nI 0)) (yB S) (yL S) := ⟨by rw [gI_sI, if_neg (by decide)]; exact (t0.fr F2 no22 no23).1, (t0.fr F2 no22 no23).2⟩
  simp (disch := first | assumption | omega | exact isB_0 | exact isB_1 | exact isB_bI _ | decide) only [e_X5_city_0, e_X5_city_1, e_X5_city_4, e_X5_city_5, e_X5_city_8, e_X5_city_11, e_X5_city_12, e_X5_city_15, e_X5_city_16, e_X5_city_19, e_X5_city_22, e_X5_city_23, e_X5_city_24, e_X5_city_27, e_X5_city_28, e_X5_city_31, e_X5_city_32, e_X5_city_35, e_X5_city_38, e_X5_city_39, e_X5_city_42, e_X5_city_45, e_X5_city_46, e_X5_city_47, e_X4_readOnto_0, e_X4_readOnto_1, e_X4_readOnto_2, e_X4_readOnto_5, e_X4_readOnto_6, e_X4_readOnto_9, e_X4_readOnto_10, e_X4_readOnto_12, e_X4_readOnto_14, e_X4_readOnto_17, e_X4_readOnto_18, e_X4_readOnto_19, e_X4_readOnto_22, e_X4_readOnto_25, e_X4_readOnto_26, e_X4_readOnto_27, e_X4_readOnto_30, e_X4_readOnto_31, e_X4_readOnto_32, e_X4_readOnto_33, e_X4_readOnto_36, e_X4_readOnto_39, e_X4_readOnto_40, e_X4_readOnto_41, e_X4_readOnto_42, e_X4_readOnto_45, e_X4_readOnto_46, e_X4_readOnto_49, e_X4_readOnto_50, e_X4_readOnto_51, e_X4_readOnto_54, e_X4_readOnto_55, e_X4_readOnto_56, e_X4_readOnto_57, e_X4_readOnto_60, e_X4_readOnto_63, e_X4_readOnto_66, e_X4_readOnto_67, e_X4_readOnto_68, e_X4_readOnto_71, e_X4_readOnto_72, toL1, toL0, ite_self, if_true, if_false, ite_true, ite_false, nI_add, pk_mul, z_eq, z_lt, z_le, z_ge, z_gt, nI_eq, nI_leI, nI_ltI, bI_0, bI_1, not_true_eq_false, not_false_eq_true]
  refine v_advance hL hT (Nat.zero_le _) t3 (by rw [gI_sI]; exact if_pos ⟨rfl, rfl⟩) (fun h4 a4 F4 => ?_)
  simp (disch := first | assumption | omega | exact isB_0 | exact isB_1 | exact isB_bI _ | decide) only [e_X5_city_0, e_X5_city_1, e_X5_city_4, e_X5_city_5, e_X5_city_8, e_X5_city_11, e_X5_city_12, e_X5_city_15, e_X5_city_16, e_X5_city_19, e_X5_city_22, e_X5_city_23, e_X5_city_24, e_X5_city_27, e_X5_city_28, e_X5_city_31, e_X5_city_32, e_X5_city_35, e_X5_city_38, e_X5_city_39, e_X5_city_42, e_X5_city_45, e_X5_city_46, e_X5_city_47, e_X4_readOnto_0, e_X4_readOnto_1, e_X4_readOnto_2, e_X4_readOnto_5, e_X4_readOnto_6, e_X4_readOnto_9, e_X4_readOnto_10, e_X4_readOnto_12, e_X4_readOnto_14, e_X4_readOnto_17, e_X4_readOnto_18, e_X4_readOnto_19, e_X4_readOnto_22, e_X4_readOnto_25, e_X4_readOnto_26, e_X4_readOnto_27, e_X4_readOnto_30, e_X4_readOnto_31, e_X4_readOnto_32, e_X4_readOnto_33, e_X4_readOnto_36, e_X4_readOnto_39, e_X4_readOnto_40, e_X4_readOnto_41, e_X4_readOnto_42, e_X4_readOnto_45, e_X4_readOnto_46, e_X4_readOnto_49, e_X4_readOnto_50, e_X4_readOnto_51, e_X4_readOnto_54, e_X4_readOnto_55, e_X4_readOnto_56, e_X4_readOnto_57, e_X4_readOnto_60, e_X4_readOnto_63, e_X4_readOnto_66, e_X4_readOnto_67, e_X4_readOnto_68, e_X4_readOnto_71, e_X4_readOnto_72, toL1, toL0, ite_self, if_true, if_false, ite_true, ite_false, nI_add, pk_mul, z_eq, z_lt, z_le, z_ge, z_gt, nI_eq, nI_leI, nI_ltI, bI_0, bI_1, not_true_eq_false, not_false_eq_true]
  refine v_roL hL hT 120 1 0 (yC S) h4 (by omega) (by omega) (Nat.zero_le _) a4 ((n8_22 R2 F3).fr F4 (fun o h1 h2 => by omega)) W.1 (fun h5 t5 R5 F5 => ?_)
  have FF : Fr Xt h h5 := ((F2.t8.tr F3.t2).tr F4.t2).tr F5
  have RV5 : RV h5 S := R.tk FF t5
  have FL : Fr lowC h h5 := FF.mono (fun q w => by unfold Xt Xc at w; unfold lowC; omega)
  unfold f_city ldC at K
  by_cases c : (pLoop (yB S) (yL S) 120 1 0 (yC S)).1 = true
  · rw [if_pos c] at K ⊢
    have b := pb.1 c
    simp (disch := first | assumption | omega | exact isB_0 | exact isB_1 | exact isB_bI _ | decide) only [e_X5_city_0, e_X5_city_1, e_X5_city_4, e_X5_city_5, e_X5_city_8, e_X5_city_11, e_X5_city_12, e_X5_city_15, e_X5_city_16, e_X5_city_19, e_X5_city_22, e_X5_city_23, e_X5_city_24, e_X5_city_27, e_X5_city_28, e_X5_city_31, e_X5_city_32, e_X5_city_35, e_X5_city_38, e_X5_city_39, e_X5_city_42, e_X5_city_45, e_X5_city_46, e_X5_city_47, toL1, toL0, ite_self, if_true, if_false, ite_true, ite_false, nI_add, pk_mul, z_eq, z_lt, z_le, z_ge, z_gt, nI_eq, nI_leI, nI_ltI, bI_0, bI_1, not_true_eq_false, not_false_eq_true]
    refine c_become isC_1 isC_8 (by decide) (R5 c) (fun h6 R6 F6 => ?_)
    have RV6 : RV h6 (ysC S (pLoop (yB S) (yL S) 120 1 0 (yC S)).2.2) := RV5.city R6 F6.c1
    simp (disch := first | assumption | omega | exact isB_0 | exact isB_1 | exact isB_bI _ | decide) only [e_X5_city_0, e_X5_city_1, e_X5_city_4, e_X5_city_5, e_X5_city_8, e_X5_city_11, e_X5_city_12, e_X5_city_15, e_X5_city_16, e_X5_city_19, e_X5_city_22, e_X5_city_23, e_X5_city_24, e_X5_city_27, e_X5_city_28, e_X5_city_31, e_X5_city_32, e_X5_city_35, e_X5_city_38, e_X5_city_39, e_X5_city_42, e_X5_city_45, e_X5_city_46, e_X5_city_47, v_clear RV6, toL1, toL0, ite_self, if_true, if_false, ite_true, ite_false, nI_add, pk_mul, z_eq, z_lt, z_le, z_ge, z_gt, nI_eq, nI_leI, nI_ltI, bI_0, bI_1, not_true_eq_false, not_false_eq_true]
    exact K _ RV6.wiped ((FL.tr F6.c1.lo).tr (Fr.sI (by unfold lowC; decide)))
  · rw [if_neg c] at K ⊢
    have b := pb.2 c
    have ng : (-1 - nI (pLoop (yB S) (yL S) 120 1 0 (yC S)).2.1 : Int32) < 0 := neg_p (by omega)
    simp (disch := first | assumption | omega | exact isB_0 | exact isB_1 | exact isB_bI _ | decide) only [e_X5_city_0, e_X5_city_1, e_X5_city_4, e_X5_city_5, e_X5_city_8, e_X5_city_11, e_X5_city_12, e_X5_city_15, e_X5_city_16, e_X5_city_19, e_X5_city_22, e_X5_city_23, e_X5_city_24, e_X5_city_27, e_X5_city_28, e_X5_city_31, e_X5_city_32, e_X5_city_35, e_X5_city_38, e_X5_city_39, e_X5_city_42, e_X5_city_45, e_X5_city_46, e_X5_city_47, ng, v_clear RV5, toL1, toL0, ite_self, if_true, if_false, ite_true, ite_false, nI_add, pk_mul, z_eq, z_lt, z_le, z_ge, z_gt, nI_eq, nI_leI, nI_ltI, bI_0, bI_1, not_true_eq_false, not_false_eq_true]
    exact K _ RV5.wiped (FL.tr (Fr.sI (by unfold lowC; decide)))
end CITY2
