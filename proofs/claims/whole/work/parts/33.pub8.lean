/-! public methods, both sides: rich, back -/
section PUB8
variable {E : En} {h : Hp} {Q : Option Value → Hp → Prop} {S : Sy} {C : Cty}
theorem RV.trial {h' : Hp} (R : RV h S) (F : Fr (Xc 8) h h') : RV h' S := R.self F.c8 (R.ci.fr F (fun o q1 q2 => by unfold Xc; omega))
theorem v_riL (W : WC C) (hh : zH C ≤ 99999) {o v r : Nat} (ho : o < 4) (hv : v ≤ 99999) (K1 : r ≤ 400 → ∀ h', Fr (Xc 8) h h' → Q (some (.int (nI r))) h') (K2 : 400 < r → ∀ h', Fr (Xc 8) h h' → Ev E mX5_rich 71 [.ref 0, .int (nI o), .int (nI v), .int (nI 401)] [] h' Q) : ∀ (d k : Nat) (h' : Hp), k + d = 401 → richN C o v d k = r → RC h' 8 (goN k C) → Fr (Xc 8) h h' → Ev E mX5_rich 36 [.ref 0, .int (nI o), .int (nI v), .int (nI k)] [] h' Q := by
  have hC := isC_8
  intro d
  induction d with
  | zero =>
    intro k h' e er R F
    have er : k = r := er
    rw [e_X5_rich_36]
    simp (disch := first | assumption | omega | exact isB_0 | exact isB_1 | exact isB_bI _ | decide) only [e_X5_rich_0, e_X5_rich_1, e_X5_rich_4, e_X5_rich_7, e_X5_rich_8, e_X5_rich_9, e_X5_rich_11, e_X5_rich_14, e_X5_rich_17, e_X5_rich_18, e_X5_rich_19, e_X5_rich_22, e_X5_rich_23, e_X5_rich_24, e_X5_rich_27, e_X5_rich_28, e_X5_rich_31, e_X5_rich_34, e_X5_rich_35, e_X5_rich_37, e_X5_rich_40, e_X5_rich_43, e_X5_rich_44, e_X5_rich_47, e_X5_rich_50, e_X5_rich_51, e_X5_rich_52, e_X5_rich_53, e_X5_rich_56, e_X5_rich_57, e_X5_rich_58, e_X5_rich_59, e_X5_rich_62, e_X5_rich_65, e_X5_rich_68, e_X5_rich_72, e_X5_rich_73, e_X5_rich_76, toL1, toL0, ite_self, if_true, if_false, ite_true, ite_false, nI_add, pk_mul, z_eq, z_lt, z_le, z_ge, z_gt, nI_eq, nI_leI, nI_ltI, bI_0, bI_1, not_true_eq_false, not_false_eq_true]
    rw [if_pos (by omega)]
    rw [show k = 401 by omega]
    exact K2 (by omega) h' F
  | succ d ih =>
    intro k h' e er R F
    have WK : WC (goN k C) := W_goN W k (by omega)
    have hm := WK.m ho
    rw [richN] at er
    rw [e_X5_rich_36]
    simp (disch := first | assumption | omega | exact isB_0 | exact isB_1 | exact isB_bI _ | decide) only [e_X5_rich_0, e_X5_rich_1, e_X5_rich_4, e_X5_rich_7, e_X5_rich_8, e_X5_rich_9, e_X5_rich_11, e_X5_rich_14, e_X5_rich_17, e_X5_rich_18, e_X5_rich_19, e_X5_rich_22, e_X5_rich_23, e_X5_rich_24, e_X5_rich_27, e_X5_rich_28, e_X5_rich_31, e_X5_rich_34, e_X5_rich_35, e_X5_rich_37, e_X5_rich_40, e_X5_rich_43, e_X5_rich_44, e_X5_rich_47, e_X5_rich_50, e_X5_rich_51, e_X5_rich_52, e_X5_rich_53, e_X5_rich_56, e_X5_rich_57, e_X5_rich_58, e_X5_rich_59, e_X5_rich_62, e_X5_rich_65, e_X5_rich_68, e_X5_rich_72, e_X5_rich_73, e_X5_rich_76, R.M ho, toL1, toL0, ite_self, if_true, if_false, ite_true, ite_false, nI_add, pk_mul, z_eq, z_lt, z_le, z_ge, z_gt, nI_eq, nI_leI, nI_ltI, bI_0, bI_1, not_true_eq_false, not_false_eq_true]
    rw [if_neg (by omega)]
    by_cases hq : v ≤ zM (goN k C) o
    · rw [if_pos hq] at er
      rw [if_neg (by omega), er]
      exact K1 (by omega) h' F
    · rw [if_neg hq] at er
      rw [if_pos (by omega)]
      refine c_passHour isC_8 R WK (fun h2 R2 F2 => ?_)
      simp (disch := first | assumption | omega | exact isB_0 | exact isB_1 | exact isB_bI _ | decide) only [e_X5_rich_0, e_X5_rich_1, e_X5_rich_4, e_X5_rich_7, e_X5_rich_8, e_X5_rich_9, e_X5_rich_11, e_X5_rich_14, e_X5_rich_17, e_X5_rich_18, e_X5_rich_19, e_X5_rich_22, e_X5_rich_23, e_X5_rich_24, e_X5_rich_27, e_X5_rich_28, e_X5_rich_31, e_X5_rich_34, e_X5_rich_35, e_X5_rich_37, e_X5_rich_40, e_X5_rich_43, e_X5_rich_44, e_X5_rich_47, e_X5_rich_50, e_X5_rich_51, e_X5_rich_52, e_X5_rich_53, e_X5_rich_56, e_X5_rich_57, e_X5_rich_58, e_X5_rich_59, e_X5_rich_62, e_X5_rich_65, e_X5_rich_68, e_X5_rich_72, e_X5_rich_73, e_X5_rich_76, toL1, toL0, ite_self, if_true, if_false, ite_true, ite_false, nI_add, pk_mul, z_eq, z_lt, z_le, z_ge, z_gt, nI_eq, nI_leI, nI_ltI, bI_0, bI_1, not_true_eq_false, not_false_eq_true]
      exact ih (k + 1) h2 (by omega) er R2 (F.tr F2)
theorem v_rich (R : RV h S) {a v : Int32} (K : Vo h Q (f_rich a v S)) (W : WS S) : Ev E mX5_rich 0 [.ref 0, .int a, .int v, .null] [] h Q := by
  have hC := isC_1
  have hC8 := isC_8
  have hh := W.2.1
  unfold f_rich at K
  by_cases h1 : nI 0 ≤ a ∧ a ≤ nI 3
  · rw [if_pos h1] at K
    by_cases h2 : nI 0 ≤ v ∧ v ≤ nI 99999
    · rw [if_pos h2] at K
      obtain ⟨j, _, hj, rfl⟩ := vI_of (by decide) h1 (by decide)
      obtain ⟨m, _, hm, rfl⟩ := vI_of (by decide) h2 (by decide)
      rw [nv_nI (by omega), nv_nI (by omega)] at K
      simp (disch := first | assumption | omega | exact isB_0 | exact isB_1 | exact isB_bI _ | decide) only [e_X5_rich_0, e_X5_rich_1, e_X5_rich_4, e_X5_rich_7, e_X5_rich_8, e_X5_rich_9, e_X5_rich_11, e_X5_rich_14, e_X5_rich_17, e_X5_rich_18, e_X5_rich_19, e_X5_rich_22, e_X5_rich_23, e_X5_rich_24, e_X5_rich_27, e_X5_rich_28, e_X5_rich_31, e_X5_rich_34, e_X5_rich_35, e_X5_rich_37, e_X5_rich_40, e_X5_rich_43, e_X5_rich_44, e_X5_rich_47, e_X5_rich_50, e_X5_rich_51, e_X5_rich_52, e_X5_rich_53, e_X5_rich_56, e_X5_rich_57, e_X5_rich_58, e_X5_rich_59, e_X5_rich_62, e_X5_rich_65, e_X5_rich_68, e_X5_rich_71, e_X5_rich_72, e_X5_rich_73, e_X5_rich_76, s_isOwner, s_isWithin, hj, hm, and_self, and_true, true_and, Nat.zero_le, nI_ltI, toL1, toL0, ite_self, if_true, if_false, ite_true, ite_false, nI_add, pk_mul, z_eq, z_lt, z_le, z_ge, z_gt, nI_eq, nI_leI, nI_ltI, bI_0, bI_1, not_true_eq_false, not_false_eq_true]
      refine c_become isC_8 isC_1 (by decide) R.ci (fun h1 R1 F1 => ?_)
      simp (disch := first | assumption | omega | exact isB_0 | exact isB_1 | exact isB_bI _ | decide) only [e_X5_rich_0, e_X5_rich_1, e_X5_rich_4, e_X5_rich_7, e_X5_rich_8, e_X5_rich_9, e_X5_rich_11, e_X5_rich_14, e_X5_rich_17, e_X5_rich_18, e_X5_rich_19, e_X5_rich_22, e_X5_rich_23, e_X5_rich_24, e_X5_rich_27, e_X5_rich_28, e_X5_rich_31, e_X5_rich_34, e_X5_rich_35, e_X5_rich_37, e_X5_rich_40, e_X5_rich_43, e_X5_rich_44, e_X5_rich_47, e_X5_rich_50, e_X5_rich_51, e_X5_rich_52, e_X5_rich_53, e_X5_rich_56, e_X5_rich_57, e_X5_rich_58, e_X5_rich_59, e_X5_rich_62, e_X5_rich_65, e_X5_rich_68, e_X5_rich_71, e_X5_rich_72, e_X5_rich_73, e_X5_rich_76, toL1, toL0, ite_self, if_true, if_false, ite_true, ite_false, nI_add, pk_mul, z_eq, z_lt, z_le, z_ge, z_gt, nI_eq, nI_leI, nI_ltI, bI_0, bI_1, not_true_eq_false, not_false_eq_true]
      refine v_riL W.1 hh (show j < 4 by omega) hm (fun hr h' F => ?_) (fun hr h' F => ?_) 401 0 h1 (by omega) rfl R1 Fr.rf
      · rw [if_pos hr] at K
        exact K h' (R.trial (F1.tr F)) ((F1.tr F).c8).lo
      · rw [if_neg (by omega)] at K
        have R2 := R.trial (F1.tr F)
        rw [e_X5_rich_71]
        simp (disch := first | assumption | omega | exact isB_0 | exact isB_1 | exact isB_bI _ | decide) only [e_X5_rich_0, e_X5_rich_1, e_X5_rich_4, e_X5_rich_7, e_X5_rich_8, e_X5_rich_9, e_X5_rich_11, e_X5_rich_14, e_X5_rich_17, e_X5_rich_18, e_X5_rich_19, e_X5_rich_22, e_X5_rich_23, e_X5_rich_24, e_X5_rich_27, e_X5_rich_28, e_X5_rich_31, e_X5_rich_34, e_X5_rich_35, e_X5_rich_37, e_X5_rich_40, e_X5_rich_43, e_X5_rich_44, e_X5_rich_47, e_X5_rich_50, e_X5_rich_51, e_X5_rich_52, e_X5_rich_53, e_X5_rich_56, e_X5_rich_57, e_X5_rich_58, e_X5_rich_59, e_X5_rich_62, e_X5_rich_65, e_X5_rich_68, e_X5_rich_72, e_X5_rich_73, e_X5_rich_76, v_tell R2, toL1, toL0, ite_self, if_true, if_false, ite_true, ite_false, nI_add, pk_mul, z_eq, z_lt, z_le, z_ge, z_gt, nI_eq, nI_leI, nI_ltI, bI_0, bI_1, not_true_eq_false, not_false_eq_true]
        exact K _ R2.told ((F1.tr F).c8.lo.tr (Fr.sA (by unfold lowC; decide)))
    · rw [if_neg h2] at K
      obtain ⟨j, _, hj, rfl⟩ := vI_of (by decide) h1 (by decide)
      simp (disch := first | assumption | omega | exact isB_0 | exact isB_1 | exact isB_bI _ | decide) only [e_X5_rich_0, e_X5_rich_1, e_X5_rich_4, e_X5_rich_7, e_X5_rich_8, e_X5_rich_9, e_X5_rich_11, e_X5_rich_14, e_X5_rich_17, e_X5_rich_18, e_X5_rich_19, e_X5_rich_22, e_X5_rich_23, e_X5_rich_24, e_X5_rich_27, e_X5_rich_28, e_X5_rich_31, e_X5_rich_34, e_X5_rich_35, e_X5_rich_37, e_X5_rich_40, e_X5_rich_43, e_X5_rich_44, e_X5_rich_47, e_X5_rich_50, e_X5_rich_51, e_X5_rich_52, e_X5_rich_53, e_X5_rich_56, e_X5_rich_57, e_X5_rich_58, e_X5_rich_59, e_X5_rich_62, e_X5_rich_65, e_X5_rich_68, e_X5_rich_71, e_X5_rich_72, e_X5_rich_73, e_X5_rich_76, s_isOwner, s_isWithin, hj, bI_f h2, v_tell R, and_self, and_true, true_and, Nat.zero_le, nI_ltI, toL1, toL0, ite_self, if_true, if_false, ite_true, ite_false, nI_add, pk_mul, z_eq, z_lt, z_le, z_ge, z_gt, nI_eq, nI_leI, nI_ltI, bI_0, bI_1, not_true_eq_false, not_false_eq_true]
      exact v_bad R K
  · rw [if_neg h1] at K
    simp (disch := first | assumption | omega | exact isB_0 | exact isB_1 | exact isB_bI _ | decide) only [e_X5_rich_0, e_X5_rich_1, e_X5_rich_4, e_X5_rich_7, e_X5_rich_8, e_X5_rich_9, e_X5_rich_11, e_X5_rich_14, e_X5_rich_17, e_X5_rich_18, e_X5_rich_19, e_X5_rich_22, e_X5_rich_23, e_X5_rich_24, e_X5_rich_27, e_X5_rich_28, e_X5_rich_31, e_X5_rich_34, e_X5_rich_35, e_X5_rich_37, e_X5_rich_40, e_X5_rich_43, e_X5_rich_44, e_X5_rich_47, e_X5_rich_50, e_X5_rich_51, e_X5_rich_52, e_X5_rich_53, e_X5_rich_56, e_X5_rich_57, e_X5_rich_58, e_X5_rich_59, e_X5_rich_62, e_X5_rich_65, e_X5_rich_68, e_X5_rich_71, e_X5_rich_72, e_X5_rich_73, e_X5_rich_76, s_isOwner, s_isWithin, bI_f h1, v_tell R, and_self, and_true, true_and, Nat.zero_le, nI_ltI, toL1, toL0, ite_self, if_true, if_false, ite_true, ite_false, nI_add, pk_mul, z_eq, z_lt, z_le, z_ge, z_gt, nI_eq, nI_leI, nI_ltI, bI_0, bI_1, not_true_eq_false, not_false_eq_true]
    exact v_bad R K
theorem m_riL (W : WC C) (hh : zH C ≤ 99999) {o v r : Nat} (ho : o < 4) (hv : v ≤ 99999) (K : r ≤ 401 → ∀ h', RR h' 37 (goN r C) → Fr Xm h h' → Ev E mX6_rich 60 [.ref 36, .int (nI o), .int (nI v), .int (nI r)] [] h' Q) : ∀ (d k : Nat) (h' : Hp), k + d = 401 → richN C o v d k = r → RR h' 37 (goN k C) → Fr Xm h h' → Ev E mX6_rich 31 [.ref 36, .int (nI o), .int (nI v), .int (nI k)] [] h' Q := by
  intro d
  induction d with
  | zero =>
    intro k h' e er R F
    have er : k = r := er
    rw [e_X6_rich_31]
    simp (disch := first | assumption | omega | exact isB_0 | exact isB_1 | exact isB_bI _ | decide) only [e_X6_rich_0, e_X6_rich_1, e_X6_rich_4, e_X6_rich_7, e_X6_rich_8, e_X6_rich_9, e_X6_rich_10, e_X6_rich_12, e_X6_rich_15, e_X6_rich_18, e_X6_rich_19, e_X6_rich_21, e_X6_rich_24, e_X6_rich_25, e_X6_rich_26, e_X6_rich_29, e_X6_rich_30, e_X6_rich_32, e_X6_rich_35, e_X6_rich_38, e_X6_rich_39, e_X6_rich_42, e_X6_rich_43, e_X6_rich_44, e_X6_rich_45, e_X6_rich_46, e_X6_rich_47, e_X6_rich_50, e_X6_rich_51, e_X6_rich_54, e_X6_rich_57, e_X6_rich_61, e_X6_rich_64, e_X6_rich_65, e_X6_rich_68, e_X6_rich_71, e_X6_rich_72, e_X6_rich_74, e_X6_rich_77, e_X6_rich_80, e_X6_rich_81, toL1, toL0, ite_self, if_true, if_false, ite_true, ite_false, nI_add, pk_mul, z_eq, z_lt, z_le, z_ge, z_gt, nI_eq, nI_leI, nI_ltI, bI_0, bI_1, not_true_eq_false, not_false_eq_true]
    rw [if_pos (by omega)]
    rw [er] at R ⊢
    exact K (by omega) h' R F
  | succ d ih =>
    intro k h' e er R F
    have WK : WC (goN k C) := W_goN W k (by omega)
    have hm := WK.m ho
    rw [richN] at er
    rw [e_X6_rich_31]
    simp (disch := first | assumption | omega | exact isB_0 | exact isB_1 | exact isB_bI _ | decide) only [e_X6_rich_0, e_X6_rich_1, e_X6_rich_4, e_X6_rich_7, e_X6_rich_8, e_X6_rich_9, e_X6_rich_10, e_X6_rich_12, e_X6_rich_15, e_X6_rich_18, e_X6_rich_19, e_X6_rich_21, e_X6_rich_24, e_X6_rich_25, e_X6_rich_26, e_X6_rich_29, e_X6_rich_30, e_X6_rich_32, e_X6_rich_35, e_X6_rich_38, e_X6_rich_39, e_X6_rich_42, e_X6_rich_43, e_X6_rich_44, e_X6_rich_45, e_X6_rich_46, e_X6_rich_47, e_X6_rich_50, e_X6_rich_51, e_X6_rich_54, e_X6_rich_57, e_X6_rich_61, e_X6_rich_64, e_X6_rich_65, e_X6_rich_68, e_X6_rich_71, e_X6_rich_72, e_X6_rich_74, e_X6_rich_77, e_X6_rich_80, e_X6_rich_81, R.M ho, toL1, toL0, ite_self, if_true, if_false, ite_true, ite_false, nI_add, pk_mul, z_eq, z_lt, z_le, z_ge, z_gt, nI_eq, nI_leI, nI_ltI, bI_0, bI_1, not_true_eq_false, not_false_eq_true]
    rw [if_neg (by omega)]
    by_cases hq : v ≤ zM (goN k C) o
    · rw [if_pos hq] at er
      rw [if_pos hq]
      rw [er] at R ⊢
      exact K (by omega) h' R F
    · rw [if_neg hq] at er
      rw [if_neg hq]
      refine m_goes R WK (fun h2 R2 F2 => ?_)
      simp (disch := first | assumption | omega | exact isB_0 | exact isB_1 | exact isB_bI _ | decide) only [e_X6_rich_0, e_X6_rich_1, e_X6_rich_4, e_X6_rich_7, e_X6_rich_8, e_X6_rich_9, e_X6_rich_10, e_X6_rich_12, e_X6_rich_15, e_X6_rich_18, e_X6_rich_19, e_X6_rich_21, e_X6_rich_24, e_X6_rich_25, e_X6_rich_26, e_X6_rich_29, e_X6_rich_30, e_X6_rich_32, e_X6_rich_35, e_X6_rich_38, e_X6_rich_39, e_X6_rich_42, e_X6_rich_43, e_X6_rich_44, e_X6_rich_45, e_X6_rich_46, e_X6_rich_47, e_X6_rich_50, e_X6_rich_51, e_X6_rich_54, e_X6_rich_57, e_X6_rich_61, e_X6_rich_64, e_X6_rich_65, e_X6_rich_68, e_X6_rich_71, e_X6_rich_72, e_X6_rich_74, e_X6_rich_77, e_X6_rich_80, e_X6_rich_81, toL1, toL0, ite_self, if_true, if_false, ite_true, ite_false, nI_add, pk_mul, z_eq, z_lt, z_le, z_ge, z_gt, nI_eq, nI_leI, nI_ltI, bI_0, bI_1, not_true_eq_false, not_false_eq_true]
      exact ih (k + 1) h2 (by omega) er R2 (F.tr F2)
theorem m_rich (R : RM h S) {a v : Int32} (K : Mo h Q (f_rich a v S)) (W : WS S) : Ev E mX6_rich 0 [.ref 36, .int a, .int v, .null] [] h Q := by
  have hh := W.2.1
  unfold f_rich at K
  by_cases h1 : nI 0 ≤ a ∧ a ≤ nI 3
  · rw [if_pos h1] at K
    by_cases h2 : nI 0 ≤ v ∧ v ≤ nI 99999
    · rw [if_pos h2] at K
      obtain ⟨j, _, hj, rfl⟩ := vI_of (by decide) h1 (by decide)
      obtain ⟨m, _, hm, rfl⟩ := vI_of (by decide) h2 (by decide)
      rw [nv_nI (by omega), nv_nI (by omega)] at K
      simp (disch := first | assumption | omega | exact isB_0 | exact isB_1 | exact isB_bI _ | decide) only [e_X6_rich_0, e_X6_rich_1, e_X6_rich_4, e_X6_rich_7, e_X6_rich_8, e_X6_rich_9, e_X6_rich_10, e_X6_rich_12, e_X6_rich_15, e_X6_rich_18, e_X6_rich_19, e_X6_rich_21, e_X6_rich_24, e_X6_rich_25, e_X6_rich_26, e_X6_rich_29, e_X6_rich_30, e_X6_rich_32, e_X6_rich_35, e_X6_rich_38, e_X6_rich_39, e_X6_rich_42, e_X6_rich_43, e_X6_rich_44, e_X6_rich_45, e_X6_rich_46, e_X6_rich_47, e_X6_rich_50, e_X6_rich_51, e_X6_rich_54, e_X6_rich_57, e_X6_rich_60, e_X6_rich_61, e_X6_rich_64, e_X6_rich_65, e_X6_rich_68, e_X6_rich_71, e_X6_rich_72, e_X6_rich_74, e_X6_rich_77, e_X6_rich_80, e_X6_rich_81, m_isOwner, m_in, hj, hm, and_self, and_true, true_and, Nat.zero_le, nI_ltI, toL1, toL0, ite_self, if_true, if_false, ite_true, ite_false, nI_add, pk_mul, z_eq, z_lt, z_le, z_ge, z_gt, nI_eq, nI_leI, nI_ltI, bI_0, bI_1, not_true_eq_false, not_false_eq_true]
      refine m_thinks R.ci (fun h1 R1 F1 => ?_)
      simp (disch := first | assumption | omega | exact isB_0 | exact isB_1 | exact isB_bI _ | decide) only [e_X6_rich_0, e_X6_rich_1, e_X6_rich_4, e_X6_rich_7, e_X6_rich_8, e_X6_rich_9, e_X6_rich_10, e_X6_rich_12, e_X6_rich_15, e_X6_rich_18, e_X6_rich_19, e_X6_rich_21, e_X6_rich_24, e_X6_rich_25, e_X6_rich_26, e_X6_rich_29, e_X6_rich_30, e_X6_rich_32, e_X6_rich_35, e_X6_rich_38, e_X6_rich_39, e_X6_rich_42, e_X6_rich_43, e_X6_rich_44, e_X6_rich_45, e_X6_rich_46, e_X6_rich_47, e_X6_rich_50, e_X6_rich_51, e_X6_rich_54, e_X6_rich_57, e_X6_rich_60, e_X6_rich_61, e_X6_rich_64, e_X6_rich_65, e_X6_rich_68, e_X6_rich_71, e_X6_rich_72, e_X6_rich_74, e_X6_rich_77, e_X6_rich_80, e_X6_rich_81, toL1, toL0, ite_self, if_true, if_false, ite_true, ite_false, nI_add, pk_mul, z_eq, z_lt, z_le, z_ge, z_gt, nI_eq, nI_leI, nI_ltI, bI_0, bI_1, not_true_eq_false, not_false_eq_true]
      refine m_riL W.1 hh (show j < 4 by omega) hm (fun hr h2 R2 F2 => ?_) 401 0 h1 (by omega) rfl (R.ci.fr F1 (by decide)) Fr.rf
      rw [e_X6_rich_60]
      simp (disch := first | assumption | omega | exact isB_0 | exact isB_1 | exact isB_bI _ | decide) only [e_X6_rich_0, e_X6_rich_1, e_X6_rich_4, e_X6_rich_7, e_X6_rich_8, e_X6_rich_9, e_X6_rich_10, e_X6_rich_12, e_X6_rich_15, e_X6_rich_18, e_X6_rich_19, e_X6_rich_21, e_X6_rich_24, e_X6_rich_25, e_X6_rich_26, e_X6_rich_29, e_X6_rich_30, e_X6_rich_32, e_X6_rich_35, e_X6_rich_38, e_X6_rich_39, e_X6_rich_42, e_X6_rich_43, e_X6_rich_44, e_X6_rich_45, e_X6_rich_46, e_X6_rich_47, e_X6_rich_50, e_X6_rich_51, e_X6_rich_54, e_X6_rich_57, e_X6_rich_61, e_X6_rich_64, e_X6_rich_65, e_X6_rich_68, e_X6_rich_71, e_X6_rich_72, e_X6_rich_74, e_X6_rich_77, e_X6_rich_80, e_X6_rich_81, toL1, toL0, ite_self, if_true, if_false, ite_true, ite_false, nI_add, pk_mul, z_eq, z_lt, z_le, z_ge, z_gt, nI_eq, nI_leI, nI_ltI, bI_0, bI_1, not_true_eq_false, not_false_eq_true]
      refine m_putsBack (R1.fr F2 (by decide)) (fun h3 R3 F3 => ?_)
      have FF := (F1.m9.tr F2.m7).tr F3.m7
      have R4 := R.self FF R3
      by_cases hq : richN (yC S) j m 401 0 ≤ 400
      · rw [if_pos hq] at K
        simp (disch := first | assumption | omega | exact isB_0 | exact isB_1 | exact isB_bI _ | decide) only [e_X6_rich_0, e_X6_rich_1, e_X6_rich_4, e_X6_rich_7, e_X6_rich_8, e_X6_rich_9, e_X6_rich_10, e_X6_rich_12, e_X6_rich_15, e_X6_rich_18, e_X6_rich_19, e_X6_rich_21, e_X6_rich_24, e_X6_rich_25, e_X6_rich_26, e_X6_rich_29, e_X6_rich_30, e_X6_rich_32, e_X6_rich_35, e_X6_rich_38, e_X6_rich_39, e_X6_rich_42, e_X6_rich_43, e_X6_rich_44, e_X6_rich_45, e_X6_rich_46, e_X6_rich_47, e_X6_rich_50, e_X6_rich_51, e_X6_rich_54, e_X6_rich_57, e_X6_rich_61, e_X6_rich_64, e_X6_rich_65, e_X6_rich_68, e_X6_rich_71, e_X6_rich_72, e_X6_rich_74, e_X6_rich_77, e_X6_rich_80, e_X6_rich_81, hq, m_f3 R4, toL1, toL0, ite_self, if_true, if_false, ite_true, ite_false, nI_add, pk_mul, z_eq, z_lt, z_le, z_ge, z_gt, nI_eq, nI_leI, nI_ltI, bI_0, bI_1, not_true_eq_false, not_false_eq_true]
        exact K h3 R4 FF.hi
      · rw [if_neg hq] at K
        simp (disch := first | assumption | omega | exact isB_0 | exact isB_1 | exact isB_bI _ | decide) only [e_X6_rich_0, e_X6_rich_1, e_X6_rich_4, e_X6_rich_7, e_X6_rich_8, e_X6_rich_9, e_X6_rich_10, e_X6_rich_12, e_X6_rich_15, e_X6_rich_18, e_X6_rich_19, e_X6_rich_21, e_X6_rich_24, e_X6_rich_25, e_X6_rich_26, e_X6_rich_29, e_X6_rich_30, e_X6_rich_32, e_X6_rich_35, e_X6_rich_38, e_X6_rich_39, e_X6_rich_42, e_X6_rich_43, e_X6_rich_44, e_X6_rich_45, e_X6_rich_46, e_X6_rich_47, e_X6_rich_50, e_X6_rich_51, e_X6_rich_54, e_X6_rich_57, e_X6_rich_61, e_X6_rich_64, e_X6_rich_65, e_X6_rich_68, e_X6_rich_71, e_X6_rich_72, e_X6_rich_74, e_X6_rich_77, e_X6_rich_80, e_X6_rich_81, hq, m_f3 R4, toL1, toL0, ite_self, if_true, if_false, ite_true, ite_false, nI_add, pk_mul, z_eq, z_lt, z_le, z_ge, z_gt, nI_eq, nI_leI, nI_ltI, bI_0, bI_1, not_true_eq_false, not_false_eq_true]
        exact K _ R4.told (FF.hi.tr (Fr.sA (by unfold hiC; decide)))
    · rw [if_neg h2] at K
      obtain ⟨j, _, hj, rfl⟩ := vI_of (by decide) h1 (by decide)
      simp (disch := first | assumption | omega | exact isB_0 | exact isB_1 | exact isB_bI _ | decide) only [e_X6_rich_0, e_X6_rich_1, e_X6_rich_4, e_X6_rich_7, e_X6_rich_8, e_X6_rich_9, e_X6_rich_10, e_X6_rich_12, e_X6_rich_15, e_X6_rich_18, e_X6_rich_19, e_X6_rich_21, e_X6_rich_24, e_X6_rich_25, e_X6_rich_26, e_X6_rich_29, e_X6_rich_30, e_X6_rich_32, e_X6_rich_35, e_X6_rich_38, e_X6_rich_39, e_X6_rich_42, e_X6_rich_43, e_X6_rich_44, e_X6_rich_45, e_X6_rich_46, e_X6_rich_47, e_X6_rich_50, e_X6_rich_51, e_X6_rich_54, e_X6_rich_57, e_X6_rich_60, e_X6_rich_61, e_X6_rich_64, e_X6_rich_65, e_X6_rich_68, e_X6_rich_71, e_X6_rich_72, e_X6_rich_74, e_X6_rich_77, e_X6_rich_80, e_X6_rich_81, m_isOwner, m_in, hj, bI_f h2, m_f0 R, and_self, and_true, true_and, Nat.zero_le, nI_ltI, toL1, toL0, ite_self, if_true, if_false, ite_true, ite_false, nI_add, pk_mul, z_eq, z_lt, z_le, z_ge, z_gt, nI_eq, nI_leI, nI_ltI, bI_0, bI_1, not_true_eq_false, not_false_eq_true]
      exact m_bad R K
  · rw [if_neg h1] at K
    simp (disch := first | assumption | omega | exact isB_0 | exact isB_1 | exact isB_bI _ | decide) only [e_X6_rich_0, e_X6_rich_1, e_X6_rich_4, e_X6_rich_7, e_X6_rich_8, e_X6_rich_9, e_X6_rich_10, e_X6_rich_12, e_X6_rich_15, e_X6_rich_18, e_X6_rich_19, e_X6_rich_21, e_X6_rich_24, e_X6_rich_25, e_X6_rich_26, e_X6_rich_29, e_X6_rich_30, e_X6_rich_32, e_X6_rich_35, e_X6_rich_38, e_X6_rich_39, e_X6_rich_42, e_X6_rich_43, e_X6_rich_44, e_X6_rich_45, e_X6_rich_46, e_X6_rich_47, e_X6_rich_50, e_X6_rich_51, e_X6_rich_54, e_X6_rich_57, e_X6_rich_60, e_X6_rich_61, e_X6_rich_64, e_X6_rich_65, e_X6_rich_68, e_X6_rich_71, e_X6_rich_72, e_X6_rich_74, e_X6_rich_77, e_X6_rich_80, e_X6_rich_81, m_isOwner, m_in, bI_f h1, m_f0 R, and_self, and_true, true_and, Nat.zero_le, nI_ltI, toL1, toL0, ite_self, if_true, if_false, ite_true, ite_false, nI_add, pk_mul, z_eq, z_lt, z_le, z_ge, z_gt, nI_eq, nI_leI, nI_ltI, bI_0, bI_1, not_true_eq_false, not_false_eq_true]
    exact m_bad R K
theorem v_baL (W : WC C) {r : Nat} (K1 : r ≤ 8 → ∀ h', Fr (Xc 8) h h' → Q (some (.int (nI r))) h') (K2 : 8 < r → ∀ h', Fr (Xc 8) h h' → Ev E mX5_back 44 [.ref 0, .int (nI 9)] [] h' Q) : ∀ (d k : Nat) (h' : Hp), k + d = 9 → backN C d k = r → RC h' 8 (rotN k C) → Fr (Xc 8) h h' → Ev E mX5_back 13 [.ref 0, .int (nI k)] [] h' Q := by
  have hC := isC_8
  intro d
  induction d with
  | zero =>
    intro k h' e er R F
    have er : k = r := er
    rw [e_X5_back_13]
    simp (disch := first | assumption | omega | exact isB_0 | exact isB_1 | exact isB_bI _ | decide) only [e_X5_back_0, e_X5_back_1, e_X5_back_4, e_X5_back_5, e_X5_back_8, e_X5_back_11, e_X5_back_12, e_X5_back_14, e_X5_back_16, e_X5_back_19, e_X5_back_20, e_X5_back_23, e_X5_back_26, e_X5_back_29, e_X5_back_30, e_X5_back_31, e_X5_back_32, e_X5_back_35, e_X5_back_38, e_X5_back_41, e_X5_back_45, e_X5_back_46, e_X5_back_49, toL1, toL0, ite_self, if_true, if_false, ite_true, ite_false, nI_add, pk_mul, z_eq, z_lt, z_le, z_ge, z_gt, nI_eq, nI_leI, nI_ltI, bI_0, bI_1, not_true_eq_false, not_false_eq_true]
    rw [if_pos (by omega)]
    rw [show k = 9 by omega]
    exact K2 (by omega) h' F
  | succ d ih =>
    intro k h' e er R F
    have WK : WC (rotN k C) := W_rotN W k
    rw [backN] at er
    rw [e_X5_back_13]
    simp (disch := first | assumption | omega | exact isB_0 | exact isB_1 | exact isB_bI _ | decide) only [e_X5_back_0, e_X5_back_1, e_X5_back_4, e_X5_back_5, e_X5_back_8, e_X5_back_11, e_X5_back_12, e_X5_back_14, e_X5_back_16, e_X5_back_19, e_X5_back_20, e_X5_back_23, e_X5_back_26, e_X5_back_29, e_X5_back_30, e_X5_back_31, e_X5_back_32, e_X5_back_35, e_X5_back_38, e_X5_back_41, e_X5_back_45, e_X5_back_46, e_X5_back_49, c_viewsAreHome isC_8 R WK, toL1, toL0, ite_self, if_true, if_false, ite_true, ite_false, nI_add, pk_mul, z_eq, z_lt, z_le, z_ge, z_gt, nI_eq, nI_leI, nI_ltI, bI_0, bI_1, not_true_eq_false, not_false_eq_true]
    rw [if_neg (by omega)]
    by_cases hq : atHB (rotN k C) = true
    · rw [if_pos hq] at er
      rw [if_neg (fun z => z hq), er]
      exact K1 (by omega) h' F
    · rw [if_neg hq] at er
      rw [if_pos hq]
      refine c_shiftViews isC_8 R WK (fun h2 R2 F2 => ?_)
      simp (disch := first | assumption | omega | exact isB_0 | exact isB_1 | exact isB_bI _ | decide) only [e_X5_back_0, e_X5_back_1, e_X5_back_4, e_X5_back_5, e_X5_back_8, e_X5_back_11, e_X5_back_12, e_X5_back_14, e_X5_back_16, e_X5_back_19, e_X5_back_20, e_X5_back_23, e_X5_back_26, e_X5_back_29, e_X5_back_30, e_X5_back_31, e_X5_back_32, e_X5_back_35, e_X5_back_38, e_X5_back_41, e_X5_back_45, e_X5_back_46, e_X5_back_49, toL1, toL0, ite_self, if_true, if_false, ite_true, ite_false, nI_add, pk_mul, z_eq, z_lt, z_le, z_ge, z_gt, nI_eq, nI_leI, nI_ltI, bI_0, bI_1, not_true_eq_false, not_false_eq_true]
      exact ih (k + 1) h2 (by omega) er R2 (F.tr F2)
theorem v_back (R : RV h S) (K : Vo h Q (f_back S)) (W : WS S) : Ev E mX5_back 0 [.ref 0, .null] [] h Q := by
  have hC := isC_1
  have hC8 := isC_8
  unfold f_back at K
  simp (disch := first | assumption | omega | exact isB_0 | exact isB_1 | exact isB_bI _ | decide) only [e_X5_back_0, e_X5_back_1, e_X5_back_4, e_X5_back_5, e_X5_back_8, e_X5_back_11, e_X5_back_12, e_X5_back_14, e_X5_back_16, e_X5_back_19, e_X5_back_20, e_X5_back_23, e_X5_back_26, e_X5_back_29, e_X5_back_30, e_X5_back_31, e_X5_back_32, e_X5_back_35, e_X5_back_38, e_X5_back_41, e_X5_back_44, e_X5_back_45, e_X5_back_46, e_X5_back_49, toL1, toL0, ite_self, if_true, if_false, ite_true, ite_false, nI_add, pk_mul, z_eq, z_lt, z_le, z_ge, z_gt, nI_eq, nI_leI, nI_ltI, bI_0, bI_1, not_true_eq_false, not_false_eq_true]
  refine c_become isC_8 isC_1 (by decide) R.ci (fun h1 R1 F1 => ?_)
  simp (disch := first | assumption | omega | exact isB_0 | exact isB_1 | exact isB_bI _ | decide) only [e_X5_back_0, e_X5_back_1, e_X5_back_4, e_X5_back_5, e_X5_back_8, e_X5_back_11, e_X5_back_12, e_X5_back_14, e_X5_back_16, e_X5_back_19, e_X5_back_20, e_X5_back_23, e_X5_back_26, e_X5_back_29, e_X5_back_30, e_X5_back_31, e_X5_back_32, e_X5_back_35, e_X5_back_38, e_X5_back_41, e_X5_back_44, e_X5_back_45, e_X5_back_46, e_X5_back_49, toL1, toL0, ite_self, if_true, if_false, ite_true, ite_false, nI_add, pk_mul, z_eq, z_lt, z_le, z_ge, z_gt, nI_eq, nI_leI, nI_ltI, bI_0, bI_1, not_true_eq_false, not_false_eq_true]
  refine v_baL W.1 (fun hr h' F => ?_) (fun hr h' F => ?_) 9 0 h1 (by omega) rfl R1 Fr.rf
  · rw [if_pos hr] at K
    exact K h' (R.trial (F1.tr F)) ((F1.tr F).c8).lo
  · rw [if_neg (by omega)] at K
    have R2 := R.trial (F1.tr F)
    rw [e_X5_back_44]
    simp (disch := first | assumption | omega | exact isB_0 | exact isB_1 | exact isB_bI _ | decide) only [e_X5_back_0, e_X5_back_1, e_X5_back_4, e_X5_back_5, e_X5_back_8, e_X5_back_11, e_X5_back_12, e_X5_back_14, e_X5_back_16, e_X5_back_19, e_X5_back_20, e_X5_back_23, e_X5_back_26, e_X5_back_29, e_X5_back_30, e_X5_back_31, e_X5_back_32, e_X5_back_35, e_X5_back_38, e_X5_back_41, e_X5_back_45, e_X5_back_46, e_X5_back_49, v_tell R2, toL1, toL0, ite_self, if_true, if_false, ite_true, ite_false, nI_add, pk_mul, z_eq, z_lt, z_le, z_ge, z_gt, nI_eq, nI_leI, nI_ltI, bI_0, bI_1, not_true_eq_false, not_false_eq_true]
    exact K _ R2.told ((F1.tr F).c8.lo.tr (Fr.sA (by unfold lowC; decide)))
theorem m_baL (W : WC C) {r : Nat} (K : r ≤ 9 → ∀ h', RR h' 37 (rotN r C) → Fr Xm h h' → Ev E mX6_back 39 [.ref 36, .int (nI r)] [] h' Q) : ∀ (d k : Nat) (h' : Hp), k + d = 9 → backN C d k = r → RR h' 37 (rotN k C) → Fr Xm h h' → Ev E mX6_back 6 [.ref 36, .int (nI k)] [] h' Q := by
  intro d
  induction d with
  | zero =>
    intro k h' e er R F
    have er : k = r := er
    rw [e_X6_back_6]
    simp (disch := first | assumption | omega | exact isB_0 | exact isB_1 | exact isB_bI _ | decide) only [e_X6_back_0, e_X6_back_1, e_X6_back_4, e_X6_back_5, e_X6_back_7, e_X6_back_9, e_X6_back_12, e_X6_back_13, e_X6_back_16, e_X6_back_17, e_X6_back_18, e_X6_back_21, e_X6_back_22, e_X6_back_23, e_X6_back_24, e_X6_back_25, e_X6_back_26, e_X6_back_29, e_X6_back_30, e_X6_back_33, e_X6_back_36, e_X6_back_40, e_X6_back_43, e_X6_back_44, e_X6_back_46, e_X6_back_49, e_X6_back_50, e_X6_back_52, e_X6_back_55, e_X6_back_58, e_X6_back_59, toL1, toL0, ite_self, if_true, if_false, ite_true, ite_false, nI_add, pk_mul, z_eq, z_lt, z_le, z_ge, z_gt, nI_eq, nI_leI, nI_ltI, bI_0, bI_1, not_true_eq_false, not_false_eq_true]
    rw [if_pos (by omega)]
    rw [er] at R ⊢
    exact K (by omega) h' R F
  | succ d ih =>
    intro k h' e er R F
    have WK : WC (rotN k C) := W_rotN W k
    have h8 := WK.f
    have hl := setN_lt (fun i => decide (zV (rotN k C) i = i)) (zF (rotN k C))
    have h256 : 2 ^ zF (rotN k C) ≤ 256 := Nat.le_trans (Nat.pow_le_pow_right (by decide) h8) (by decide)
    rw [backN] at er
    rw [e_X6_back_6]
    simp (disch := first | assumption | omega | exact isB_0 | exact isB_1 | exact isB_bI _ | decide) only [e_X6_back_0, e_X6_back_1, e_X6_back_4, e_X6_back_5, e_X6_back_7, e_X6_back_9, e_X6_back_12, e_X6_back_13, e_X6_back_16, e_X6_back_17, e_X6_back_18, e_X6_back_21, e_X6_back_22, e_X6_back_23, e_X6_back_24, e_X6_back_25, e_X6_back_26, e_X6_back_29, e_X6_back_30, e_X6_back_33, e_X6_back_36, e_X6_back_40, e_X6_back_43, e_X6_back_44, e_X6_back_46, e_X6_back_49, e_X6_back_50, e_X6_back_52, e_X6_back_55, e_X6_back_58, e_X6_back_59, m_atHome R WK, R.F, shl_all h8, setI_N h8, toL1, toL0, ite_self, if_true, if_false, ite_true, ite_false, nI_add, pk_mul, z_eq, z_lt, z_le, z_ge, z_gt, nI_eq, nI_leI, nI_ltI, bI_0, bI_1, not_true_eq_false, not_false_eq_true]
    rw [if_neg (by omega)]
    by_cases hq : atHB (rotN k C) = true
    · rw [if_pos hq] at er
      unfold atHB at hq
      rw [if_pos (of_decide_eq_true hq)]
      rw [er] at R ⊢
      exact K (by omega) h' R F
    · rw [if_neg hq] at er
      unfold atHB at hq
      rw [if_neg (fun z => hq (decide_eq_true z))]
      refine m_shiftsOnce R WK (fun h2 R2 F2 => ?_)
      simp (disch := first | assumption | omega | exact isB_0 | exact isB_1 | exact isB_bI _ | decide) only [e_X6_back_0, e_X6_back_1, e_X6_back_4, e_X6_back_5, e_X6_back_7, e_X6_back_9, e_X6_back_12, e_X6_back_13, e_X6_back_16, e_X6_back_17, e_X6_back_18, e_X6_back_21, e_X6_back_22, e_X6_back_23, e_X6_back_24, e_X6_back_25, e_X6_back_26, e_X6_back_29, e_X6_back_30, e_X6_back_33, e_X6_back_36, e_X6_back_40, e_X6_back_43, e_X6_back_44, e_X6_back_46, e_X6_back_49, e_X6_back_50, e_X6_back_52, e_X6_back_55, e_X6_back_58, e_X6_back_59, toL1, toL0, ite_self, if_true, if_false, ite_true, ite_false, nI_add, pk_mul, z_eq, z_lt, z_le, z_ge, z_gt, nI_eq, nI_leI, nI_ltI, bI_0, bI_1, not_true_eq_false, not_false_eq_true]
      exact ih (k + 1) h2 (by omega) er R2 (F.tr F2)
theorem m_back (R : RM h S) (K : Mo h Q (f_back S)) (W : WS S) : Ev E mX6_back 0 [.ref 36, .null] [] h Q := by
  unfold f_back at K
  simp (disch := first | assumption | omega | exact isB_0 | exact isB_1 | exact isB_bI _ | decide) only [e_X6_back_0, e_X6_back_1, e_X6_back_4, e_X6_back_5, e_X6_back_7, e_X6_back_9, e_X6_back_12, e_X6_back_13, e_X6_back_16, e_X6_back_17, e_X6_back_18, e_X6_back_21, e_X6_back_22, e_X6_back_23, e_X6_back_24, e_X6_back_25, e_X6_back_26, e_X6_back_29, e_X6_back_30, e_X6_back_33, e_X6_back_36, e_X6_back_39, e_X6_back_40, e_X6_back_43, e_X6_back_44, e_X6_back_46, e_X6_back_49, e_X6_back_50, e_X6_back_52, e_X6_back_55, e_X6_back_58, e_X6_back_59, toL1, toL0, ite_self, if_true, if_false, ite_true, ite_false, nI_add, pk_mul, z_eq, z_lt, z_le, z_ge, z_gt, nI_eq, nI_leI, nI_ltI, bI_0, bI_1, not_true_eq_false, not_false_eq_true]
  refine m_thinks R.ci (fun h1 R1 F1 => ?_)
  simp (disch := first | assumption | omega | exact isB_0 | exact isB_1 | exact isB_bI _ | decide) only [e_X6_back_0, e_X6_back_1, e_X6_back_4, e_X6_back_5, e_X6_back_7, e_X6_back_9, e_X6_back_12, e_X6_back_13, e_X6_back_16, e_X6_back_17, e_X6_back_18, e_X6_back_21, e_X6_back_22, e_X6_back_23, e_X6_back_24, e_X6_back_25, e_X6_back_26, e_X6_back_29, e_X6_back_30, e_X6_back_33, e_X6_back_36, e_X6_back_39, e_X6_back_40, e_X6_back_43, e_X6_back_44, e_X6_back_46, e_X6_back_49, e_X6_back_50, e_X6_back_52, e_X6_back_55, e_X6_back_58, e_X6_back_59, toL1, toL0, ite_self, if_true, if_false, ite_true, ite_false, nI_add, pk_mul, z_eq, z_lt, z_le, z_ge, z_gt, nI_eq, nI_leI, nI_ltI, bI_0, bI_1, not_true_eq_false, not_false_eq_true]
  refine m_baL W.1 (fun hr h2 R2 F2 => ?_) 9 0 h1 (by omega) rfl (R.ci.fr F1 (by decide)) Fr.rf
  rw [e_X6_back_39]
  simp (disch := first | assumption | omega | exact isB_0 | exact isB_1 | exact isB_bI _ | decide) only [e_X6_back_0, e_X6_back_1, e_X6_back_4, e_X6_back_5, e_X6_back_7, e_X6_back_9, e_X6_back_12, e_X6_back_13, e_X6_back_16, e_X6_back_17, e_X6_back_18, e_X6_back_21, e_X6_back_22, e_X6_back_23, e_X6_back_24, e_X6_back_25, e_X6_back_26, e_X6_back_29, e_X6_back_30, e_X6_back_33, e_X6_back_36, e_X6_back_40, e_X6_back_43, e_X6_back_44, e_X6_back_46, e_X6_back_49, e_X6_back_50, e_X6_back_52, e_X6_back_55, e_X6_back_58, e_X6_back_59, toL1, toL0, ite_self, if_true, if_false, ite_true, ite_false, nI_add, pk_mul, z_eq, z_lt, z_le, z_ge, z_gt, nI_eq, nI_leI, nI_ltI, bI_0, bI_1, not_true_eq_false, not_false_eq_true]
  refine m_putsBack (R1.fr F2 (by decide)) (fun h3 R3 F3 => ?_)
  have FF := (F1.m9.tr F2.m7).tr F3.m7
  have R4 := R.self FF R3
  by_cases hq : backN (yC S) 9 0 ≤ 8
  · rw [if_pos hq] at K
    simp (disch := first | assumption | omega | exact isB_0 | exact isB_1 | exact isB_bI _ | decide) only [e_X6_back_0, e_X6_back_1, e_X6_back_4, e_X6_back_5, e_X6_back_7, e_X6_back_9, e_X6_back_12, e_X6_back_13, e_X6_back_16, e_X6_back_17, e_X6_back_18, e_X6_back_21, e_X6_back_22, e_X6_back_23, e_X6_back_24, e_X6_back_25, e_X6_back_26, e_X6_back_29, e_X6_back_30, e_X6_back_33, e_X6_back_36, e_X6_back_40, e_X6_back_43, e_X6_back_44, e_X6_back_46, e_X6_back_49, e_X6_back_50, e_X6_back_52, e_X6_back_55, e_X6_back_58, e_X6_back_59, hq, m_f3 R4, toL1, toL0, ite_self, if_true, if_false, ite_true, ite_false, nI_add, pk_mul, z_eq, z_lt, z_le, z_ge, z_gt, nI_eq, nI_leI, nI_ltI, bI_0, bI_1, not_true_eq_false, not_false_eq_true]
    exact K h3 R4 FF.hi
  · rw [if_neg hq] at K
    simp (disch := first | assumption | omega | exact isB_0 | exact isB_1 | exact isB_bI _ | decide) only [e_X6_back_0, e_X6_back_1, e_X6_back_4, e_X6_back_5, e_X6_back_7, e_X6_back_9, e_X6_back_12, e_X6_back_13, e_X6_back_16, e_X6_back_17, e_X6_back_18, e_X6_back_21, e_X6_back_22, e_X6_back_23, e_X6_back_24, e_X6_back_25, e_X6_back_26, e_X6_back_29, e_X6_back_30, e_X6_back_33, e_X6_back_36, e_X6_back_40, e_X6_back_43, e_X6_back_44, e_X6_back_46, e_X6_back_49, e_X6_back_50, e_X6_back_52, e_X6_back_55, e_X6_back_58, e_X6_back_59, hq, m_f3 R4, toL1, toL0, ite_self, if_true, if_false, ite_true, ite_false, nI_add, pk_mul, z_eq, z_lt, z_le, z_ge, z_gt, nI_eq, nI_leI, nI_ltI, bI_0, bI_1, not_true_eq_false, not_false_eq_true]
    exact K _ R4.told (FF.hi.tr (Fr.sA (by unfold hiC; decide)))
end PUB8
