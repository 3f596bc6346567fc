/-! public methods, both sides: sheets -/
abbrev isBits (b : Int32) : Prop := b = nI 0 ∨ b = nI 8 ∨ b = nI 16 ∨ b = nI 64

def newS (s b n : Nat) (S : Sy) : Sy := ysN (ysZ (ysW S (updN (yW S) s b)) (updN (yZ S) s (if b = 0 then 0 else n))) (updF (yN S) s (fun _ => 0))
def f_sheet (s b n : Int32) (S : Sy) : Int32 × Sy :=
  if nI 0 ≤ s ∧ s ≤ nI 3 then if isBits b then if n < 0 then bad 6 S else if n ≤ nI 40 then ok (if nv b = 0 then 0 else nv n) (newS (nv s) (nv b) (nv n) S) else bad 0 S else bad 0 S else bad 0 S
section PUB9
variable {E : En} {h : Hp} {Q : Option Value → Hp → Prop} {S : Sy}
theorem v_shE (R : RV h S) {s b m : Nat} (hs : s < 4) (hb : b ≤ 64) (hm : m ≤ 40) (K : Vo h Q (ok (if b = 0 then 0 else m) (newS s b m S))) : Ev E mX5_sheet 58 [.ref 0, .int (nI s), .int (nI b), .int (nI m)] [] h Q := by
  have hS := isS_of hs
  rw [e_X5_sheet_58]
  simp (disch := first | assumption | omega | exact isB_0 | exact isB_1 | exact isB_bI _ | decide) only [e_X5_sheet_0, e_X5_sheet_1, e_X5_sheet_4, e_X5_sheet_7, e_X5_sheet_8, e_X5_sheet_11, e_X5_sheet_12, e_X5_sheet_14, e_X5_sheet_17, e_X5_sheet_18, e_X5_sheet_20, e_X5_sheet_23, e_X5_sheet_24, e_X5_sheet_26, e_X5_sheet_29, e_X5_sheet_30, e_X5_sheet_31, e_X5_sheet_34, e_X5_sheet_35, e_X5_sheet_36, e_X5_sheet_39, e_X5_sheet_40, e_X5_sheet_42, e_X5_sheet_45, e_X5_sheet_46, e_X5_sheet_47, e_X5_sheet_49, e_X5_sheet_52, e_X5_sheet_53, e_X5_sheet_54, e_X5_sheet_57, e_X5_sheet_59, e_X5_sheet_62, e_X5_sheet_63, e_X5_sheet_64, e_X5_sheet_65, e_X5_sheet_66, e_X5_sheet_69, e_X5_sheet_70, e_X5_sheet_73, e_X5_sheet_74, e_X5_sheet_75, e_X5_sheet_78, toL1, toL0, ite_self, if_true, if_false, ite_true, ite_false, nI_add, pk_mul, z_eq, z_lt, z_le, z_ge, z_gt, nI_eq, nI_leI, nI_ltI, bI_0, bI_1, not_true_eq_false, not_false_eq_true]
  refine s_begin hS hb (fun h' c0 c1 c2 F => ?_)
  simp (disch := first | assumption | omega | exact isB_0 | exact isB_1 | exact isB_bI _ | decide) only [e_X5_sheet_0, e_X5_sheet_1, e_X5_sheet_4, e_X5_sheet_7, e_X5_sheet_8, e_X5_sheet_11, e_X5_sheet_12, e_X5_sheet_14, e_X5_sheet_17, e_X5_sheet_18, e_X5_sheet_20, e_X5_sheet_23, e_X5_sheet_24, e_X5_sheet_26, e_X5_sheet_29, e_X5_sheet_30, e_X5_sheet_31, e_X5_sheet_34, e_X5_sheet_35, e_X5_sheet_36, e_X5_sheet_39, e_X5_sheet_40, e_X5_sheet_42, e_X5_sheet_45, e_X5_sheet_46, e_X5_sheet_47, e_X5_sheet_49, e_X5_sheet_52, e_X5_sheet_53, e_X5_sheet_54, e_X5_sheet_57, e_X5_sheet_59, e_X5_sheet_62, e_X5_sheet_63, e_X5_sheet_64, e_X5_sheet_65, e_X5_sheet_66, e_X5_sheet_69, e_X5_sheet_70, e_X5_sheet_73, e_X5_sheet_74, e_X5_sheet_75, e_X5_sheet_78, c1, toL1, toL0, ite_self, if_true, if_false, ite_true, ite_false, nI_add, pk_mul, z_eq, z_lt, z_le, z_ge, z_gt, nI_eq, nI_leI, nI_ltI, bI_0, bI_1, not_true_eq_false, not_false_eq_true]
  rw [show 25 + s + 4 = 29 + s by omega] at c2 F
  exact K h' (R.sheet hs c0 c1 c2 F) (F.mono (fun q w => by unfold lowC; omega))
theorem v_sheet (R : RV h S) {s b n : Int32} (K : Vo h Q (f_sheet s b n S)) : Ev E mX5_sheet 0 [.ref 0, .int s, .int b, .int n] [] h Q := by
  unfold f_sheet at K
  by_cases h1 : nI 0 ≤ s ∧ s ≤ nI 3
  · rw [if_pos h1] at K
    obtain ⟨j, _, hj, rfl⟩ := vI_of (by decide) h1 (by decide)
    by_cases h2 : isBits b
    · rw [if_pos h2] at K
      by_cases h3 : n < 0
      · rw [if_pos h3] at K
        have h4 : ¬ 0 ≤ n := Int32.not_le.mpr h3
        rcases h2 with rfl | rfl | rfl | rfl <;> (simp (disch := first | assumption | omega | exact isB_0 | exact isB_1 | exact isB_bI _ | decide) only [e_X5_sheet_0, e_X5_sheet_1, e_X5_sheet_4, e_X5_sheet_7, e_X5_sheet_8, e_X5_sheet_11, e_X5_sheet_12, e_X5_sheet_14, e_X5_sheet_17, e_X5_sheet_18, e_X5_sheet_20, e_X5_sheet_23, e_X5_sheet_24, e_X5_sheet_26, e_X5_sheet_29, e_X5_sheet_30, e_X5_sheet_31, e_X5_sheet_34, e_X5_sheet_35, e_X5_sheet_36, e_X5_sheet_39, e_X5_sheet_40, e_X5_sheet_42, e_X5_sheet_45, e_X5_sheet_46, e_X5_sheet_47, e_X5_sheet_49, e_X5_sheet_52, e_X5_sheet_53, e_X5_sheet_54, e_X5_sheet_57, e_X5_sheet_59, e_X5_sheet_62, e_X5_sheet_63, e_X5_sheet_64, e_X5_sheet_65, e_X5_sheet_66, e_X5_sheet_69, e_X5_sheet_70, e_X5_sheet_73, e_X5_sheet_74, e_X5_sheet_75, e_X5_sheet_78, s_isSheet, hj, h4, v_tell R, Nat.reduceEqDiff, and_self, and_true, true_and, Nat.zero_le, nI_ltI, toL1, toL0, ite_self, if_true, if_false, ite_true, ite_false, nI_add, pk_mul, z_eq, z_lt, z_le, z_ge, z_gt, nI_eq, nI_leI, nI_ltI, bI_0, bI_1, not_true_eq_false, not_false_eq_true]; exact v_bad R K)
      · rw [if_neg h3] at K
        obtain ⟨m, hm, rfl⟩ : ∃ k, k < 2147483648 ∧ n = nI k := by
          rcases i32_c n with z | z
          · exact absurd z h3
          · exact z
        by_cases h4 : m ≤ 40
        · rw [if_pos (nI_le h4 (by decide))] at K
          rw [nv_nI (by omega), nv_nI (by omega)] at K
          rcases h2 with rfl | rfl | rfl | rfl <;> (simp (disch := first | assumption | omega | exact isB_0 | exact isB_1 | exact isB_bI _ | decide) only [e_X5_sheet_0, e_X5_sheet_1, e_X5_sheet_4, e_X5_sheet_7, e_X5_sheet_8, e_X5_sheet_11, e_X5_sheet_12, e_X5_sheet_14, e_X5_sheet_17, e_X5_sheet_18, e_X5_sheet_20, e_X5_sheet_23, e_X5_sheet_24, e_X5_sheet_26, e_X5_sheet_29, e_X5_sheet_30, e_X5_sheet_31, e_X5_sheet_34, e_X5_sheet_35, e_X5_sheet_36, e_X5_sheet_39, e_X5_sheet_40, e_X5_sheet_42, e_X5_sheet_45, e_X5_sheet_46, e_X5_sheet_47, e_X5_sheet_49, e_X5_sheet_52, e_X5_sheet_53, e_X5_sheet_54, e_X5_sheet_57, e_X5_sheet_59, e_X5_sheet_62, e_X5_sheet_63, e_X5_sheet_64, e_X5_sheet_65, e_X5_sheet_66, e_X5_sheet_69, e_X5_sheet_70, e_X5_sheet_73, e_X5_sheet_74, e_X5_sheet_75, e_X5_sheet_78, s_isSheet, hj, h4, Nat.reduceEqDiff, and_self, and_true, true_and, Nat.zero_le, nI_ltI, toL1, toL0, ite_self, if_true, if_false, ite_true, ite_false, nI_add, pk_mul, z_eq, z_lt, z_le, z_ge, z_gt, nI_eq, nI_leI, nI_ltI, bI_0, bI_1, not_true_eq_false, not_false_eq_true]; exact v_shE R (by omega) (by decide) h4 K)
        · rw [if_neg (fun z => h4 ((nI_leI (by omega) (by decide)).mp z))] at K
          rcases h2 with rfl | rfl | rfl | rfl <;> (simp (disch := first | assumption | omega | exact isB_0 | exact isB_1 | exact isB_bI _ | decide) only [e_X5_sheet_0, e_X5_sheet_1, e_X5_sheet_4, e_X5_sheet_7, e_X5_sheet_8, e_X5_sheet_11, e_X5_sheet_12, e_X5_sheet_14, e_X5_sheet_17, e_X5_sheet_18, e_X5_sheet_20, e_X5_sheet_23, e_X5_sheet_24, e_X5_sheet_26, e_X5_sheet_29, e_X5_sheet_30, e_X5_sheet_31, e_X5_sheet_34, e_X5_sheet_35, e_X5_sheet_36, e_X5_sheet_39, e_X5_sheet_40, e_X5_sheet_42, e_X5_sheet_45, e_X5_sheet_46, e_X5_sheet_47, e_X5_sheet_49, e_X5_sheet_52, e_X5_sheet_53, e_X5_sheet_54, e_X5_sheet_57, e_X5_sheet_59, e_X5_sheet_62, e_X5_sheet_63, e_X5_sheet_64, e_X5_sheet_65, e_X5_sheet_66, e_X5_sheet_69, e_X5_sheet_70, e_X5_sheet_73, e_X5_sheet_74, e_X5_sheet_75, e_X5_sheet_78, s_isSheet, hj, h4, v_tell R, Nat.reduceEqDiff, and_self, and_true, true_and, Nat.zero_le, nI_ltI, toL1, toL0, ite_self, if_true, if_false, ite_true, ite_false, nI_add, pk_mul, z_eq, z_lt, z_le, z_ge, z_gt, nI_eq, nI_leI, nI_ltI, bI_0, bI_1, not_true_eq_false, not_false_eq_true]; exact v_bad R K)
    · rw [if_neg h2] at K
      have a0 : ¬ b = 0 := fun z => h2 (Or.inl z)
      have a1 : ¬ b = nI 8 := fun z => h2 (Or.inr (Or.inl z))
      have a2 : ¬ b = nI 16 := fun z => h2 (Or.inr (Or.inr (Or.inl z)))
      have a3 : ¬ b = nI 64 := fun z => h2 (Or.inr (Or.inr (Or.inr z)))
      simp (disch := first | assumption | omega | exact isB_0 | exact isB_1 | exact isB_bI _ | decide) only [e_X5_sheet_0, e_X5_sheet_1, e_X5_sheet_4, e_X5_sheet_7, e_X5_sheet_8, e_X5_sheet_11, e_X5_sheet_12, e_X5_sheet_14, e_X5_sheet_17, e_X5_sheet_18, e_X5_sheet_20, e_X5_sheet_23, e_X5_sheet_24, e_X5_sheet_26, e_X5_sheet_29, e_X5_sheet_30, e_X5_sheet_31, e_X5_sheet_34, e_X5_sheet_35, e_X5_sheet_36, e_X5_sheet_39, e_X5_sheet_40, e_X5_sheet_42, e_X5_sheet_45, e_X5_sheet_46, e_X5_sheet_47, e_X5_sheet_49, e_X5_sheet_52, e_X5_sheet_53, e_X5_sheet_54, e_X5_sheet_57, e_X5_sheet_59, e_X5_sheet_62, e_X5_sheet_63, e_X5_sheet_64, e_X5_sheet_65, e_X5_sheet_66, e_X5_sheet_69, e_X5_sheet_70, e_X5_sheet_73, e_X5_sheet_74, e_X5_sheet_75, e_X5_sheet_78, s_isSheet, hj, a0, a1, a2, a3, v_tell R, and_self, and_true, true_and, Nat.zero_le, nI_ltI, toL1, toL0, ite_self, if_true, if_false, ite_true, ite_false, nI_add, pk_mul, z_eq, z_lt, z_le, z_ge, z_gt, nI_eq, nI_leI, nI_ltI, bI_0, bI_1, not_true_eq_false, not_false_eq_true]
      exact v_bad R K
  · rw [if_neg h1] at K
    simp (disch := first | assumption | omega | exact isB_0 | exact isB_1 | exact isB_bI _ | decide) only [e_X5_sheet_0, e_X5_sheet_1, e_X5_sheet_4, e_X5_sheet_7, e_X5_sheet_8, e_X5_sheet_11, e_X5_sheet_12, e_X5_sheet_14, e_X5_sheet_17, e_X5_sheet_18, e_X5_sheet_20, e_X5_sheet_23, e_X5_sheet_24, e_X5_sheet_26, e_X5_sheet_29, e_X5_sheet_30, e_X5_sheet_31, e_X5_sheet_34, e_X5_sheet_35, e_X5_sheet_36, e_X5_sheet_39, e_X5_sheet_40, e_X5_sheet_42, e_X5_sheet_45, e_X5_sheet_46, e_X5_sheet_47, e_X5_sheet_49, e_X5_sheet_52, e_X5_sheet_53, e_X5_sheet_54, e_X5_sheet_57, e_X5_sheet_59, e_X5_sheet_62, e_X5_sheet_63, e_X5_sheet_64, e_X5_sheet_65, e_X5_sheet_66, e_X5_sheet_69, e_X5_sheet_70, e_X5_sheet_73, e_X5_sheet_74, e_X5_sheet_75, e_X5_sheet_78, s_isSheet, bI_f h1, v_tell R, and_self, and_true, true_and, Nat.zero_le, nI_ltI, toL1, toL0, ite_self, if_true, if_false, ite_true, ite_false, nI_add, pk_mul, z_eq, z_lt, z_le, z_ge, z_gt, nI_eq, nI_leI, nI_ltI, bI_0, bI_1, not_true_eq_false, not_false_eq_true]
    exact v_bad R K
theorem m_shC {s b m z : Nat} (hs : s < 4) (f42 f43 : Nat → Int32) (h0 : Hp) (K : ∀ h', gA h' 42 = gA h0 42 → gA h' 43 = gA h0 43 → (∀ t i, t < 4 → i < 40 → gL h' 44 (40 * t + i) = if t = s then 0 else gL h0 44 (40 * t + i)) → Fr (fun o => o = 44) h0 h' → Ev E mX6_sheet 111 [.ref 36, .int (nI s), .int (nI b), .int (nI m), .int (nI 40)] [] h' Q) : ∀ (d k : Nat) (h' : Hp), k + d = 40 → gA h' 42 = gA h0 42 → gA h' 43 = gA h0 43 → (∀ t i, t < 4 → i < 40 → gL h' 44 (40 * t + i) = if t = s ∧ i < k then 0 else gL h0 44 (40 * t + i)) → Fr (fun o => o = 44) h0 h' → Ev E mX6_sheet 85 [.ref 36, .int (nI s), .int (nI b), .int (nI m), .int (nI k)] [] h' Q := by
  intro d
  induction d with
  | zero =>
    intro k h' e j1 j2 J F
    rw [e_X6_sheet_85]
    simp (disch := first | assumption | omega | exact isB_0 | exact isB_1 | exact isB_bI _ | decide) only [e_X6_sheet_0, e_X6_sheet_1, e_X6_sheet_4, e_X6_sheet_7, e_X6_sheet_8, e_X6_sheet_11, e_X6_sheet_12, e_X6_sheet_14, e_X6_sheet_17, e_X6_sheet_18, e_X6_sheet_20, e_X6_sheet_23, e_X6_sheet_24, e_X6_sheet_26, e_X6_sheet_29, e_X6_sheet_30, e_X6_sheet_32, e_X6_sheet_35, e_X6_sheet_36, e_X6_sheet_37, e_X6_sheet_40, e_X6_sheet_41, e_X6_sheet_43, e_X6_sheet_46, e_X6_sheet_47, e_X6_sheet_48, e_X6_sheet_50, e_X6_sheet_53, e_X6_sheet_54, e_X6_sheet_56, e_X6_sheet_59, e_X6_sheet_60, e_X6_sheet_61, e_X6_sheet_64, e_X6_sheet_65, e_X6_sheet_66, e_X6_sheet_67, e_X6_sheet_68, e_X6_sheet_71, e_X6_sheet_72, e_X6_sheet_73, e_X6_sheet_76, e_X6_sheet_77, e_X6_sheet_80, e_X6_sheet_81, e_X6_sheet_82, e_X6_sheet_83, e_X6_sheet_87, e_X6_sheet_89, e_X6_sheet_92, e_X6_sheet_93, e_X6_sheet_96, e_X6_sheet_98, e_X6_sheet_99, e_X6_sheet_100, e_X6_sheet_102, e_X6_sheet_103, e_X6_sheet_104, e_X6_sheet_105, e_X6_sheet_108, e_X6_sheet_112, e_X6_sheet_115, e_X6_sheet_116, e_X6_sheet_117, toL1, toL0, ite_self, if_true, if_false, ite_true, ite_false, nI_add, pk_mul, z_eq, z_lt, z_le, z_ge, z_gt, nI_eq, nI_leI, nI_ltI, bI_0, bI_1, not_true_eq_false, not_false_eq_true]
    rw [if_pos (by omega), show k = 40 by omega]
    refine K h' j1 j2 (fun t i ht hi => ?_) F
    rw [J t i ht hi]
    by_cases q : t = s
    · rw [if_pos q, if_pos ⟨q, by omega⟩]
    · rw [if_neg q, if_neg (fun z => q z.1)]
  | succ d ih =>
    intro k h' e j1 j2 J F
    rw [e_X6_sheet_85]
    simp (disch := first | assumption | omega | exact isB_0 | exact isB_1 | exact isB_bI _ | decide) only [e_X6_sheet_0, e_X6_sheet_1, e_X6_sheet_4, e_X6_sheet_7, e_X6_sheet_8, e_X6_sheet_11, e_X6_sheet_12, e_X6_sheet_14, e_X6_sheet_17, e_X6_sheet_18, e_X6_sheet_20, e_X6_sheet_23, e_X6_sheet_24, e_X6_sheet_26, e_X6_sheet_29, e_X6_sheet_30, e_X6_sheet_32, e_X6_sheet_35, e_X6_sheet_36, e_X6_sheet_37, e_X6_sheet_40, e_X6_sheet_41, e_X6_sheet_43, e_X6_sheet_46, e_X6_sheet_47, e_X6_sheet_48, e_X6_sheet_50, e_X6_sheet_53, e_X6_sheet_54, e_X6_sheet_56, e_X6_sheet_59, e_X6_sheet_60, e_X6_sheet_61, e_X6_sheet_64, e_X6_sheet_65, e_X6_sheet_66, e_X6_sheet_67, e_X6_sheet_68, e_X6_sheet_71, e_X6_sheet_72, e_X6_sheet_73, e_X6_sheet_76, e_X6_sheet_77, e_X6_sheet_80, e_X6_sheet_81, e_X6_sheet_82, e_X6_sheet_83, e_X6_sheet_87, e_X6_sheet_89, e_X6_sheet_92, e_X6_sheet_93, e_X6_sheet_96, e_X6_sheet_98, e_X6_sheet_99, e_X6_sheet_100, e_X6_sheet_102, e_X6_sheet_103, e_X6_sheet_104, e_X6_sheet_105, e_X6_sheet_108, e_X6_sheet_112, e_X6_sheet_115, e_X6_sheet_116, e_X6_sheet_117, vupd, toL1, toL0, ite_self, if_true, if_false, ite_true, ite_false, nI_add, pk_mul, z_eq, z_lt, z_le, z_ge, z_gt, nI_eq, nI_leI, nI_ltI, bI_0, bI_1, not_true_eq_false, not_false_eq_true]
    rw [if_neg (by omega)]
    refine ih (k + 1) _ (by omega) j1 j2 (fun t i ht hi => ?_) (F.tr (Fr.sL rfl))
    rw [gL_sL, if_pos rfl]
    unfold updL
    by_cases q : 40 * t + i = 40 * s + k
    · rw [if_pos q, if_pos (by omega)]
    · rw [if_neg q, J t i ht hi]
      by_cases w : t = s ∧ i < k
      · rw [if_pos w, if_pos (by omega)]
      · rw [if_neg w, if_neg (by omega)]
theorem m_shE (R : RM h S) {s b m : Nat} (hs : s < 4) (hb : b ≤ 64) (hm : m ≤ 40) (x : Value) (K : Mo h Q (ok (if b = 0 then 0 else m) (newS s b m S))) : Ev E mX6_sheet 60 [.ref 36, .int (nI s), .int (nI b), .int (nI m), x] [] h Q := by
  have r7 := R.2.2.2.2.2.2.1
  have r8 := R.2.2.2.2.2.2.2.1
  have r9 := R.2.2.2.2.2.2.2.2
  have main : ∀ z, z = (if b = 0 then 0 else m) → Ev E mX6_sheet 85 [.ref 36, .int (nI s), .int (nI b), .int (nI m), .int (nI 0)] [] (sA (sA h 42 (upd (gA h 42) s (nI b))) 43 (upd (gA h 43) s (nI z))) Q := by
    intro z hz
    refine m_shC (z := z) hs (fun _ => 0) (fun _ => 0) (sA (sA h 42 (upd (gA h 42) s (nI b))) 43 (upd (gA h 43) s (nI z))) (fun h' j1 j2 J F => ?_) 40 0 _ (by omega) rfl rfl (fun t i ht hi => by rw [if_neg (fun w => absurd w.2 (Nat.not_lt_zero _))]) Fr.rf
    have q42 : ∀ t, t < 4 → gA h' 42 t = nI (updN (yW S) s b t) := fun t ht => by
      rw [j1, gA_sA, if_neg (by decide), gA_sA, if_pos rfl]
      show (if t = s then _ else _) = _
      unfold updN
      by_cases q : t = s
      · rw [if_pos q, if_pos q]
      · rw [if_neg q, if_neg q]; exact r7 t ht
    have q43 : ∀ t, t < 4 → gA h' 43 t = nI (updN (yZ S) s (if b = 0 then 0 else m) t) := fun t ht => by
      rw [j2, gA_sA, if_pos rfl]
      show (if t = s then _ else _) = _
      unfold updN
      by_cases q : t = s
      · rw [if_pos q, if_pos q, hz]
      · rw [if_neg q, if_neg q]; exact r8 t ht
    have FF : Fr (fun o => o = 42 ∨ o = 43 ∨ o = 44) h h' := ((Fr.sA (Or.inl rfl)).tr (Fr.sA (Or.inr (Or.inl rfl)))).tr (F.mono (fun o w => Or.inr (Or.inr w)))
    have q := q43 s hs
    rw [updN_s] at q
    rw [e_X6_sheet_111]
    simp (disch := first | assumption | omega | exact isB_0 | exact isB_1 | exact isB_bI _ | decide) only [e_X6_sheet_0, e_X6_sheet_1, e_X6_sheet_4, e_X6_sheet_7, e_X6_sheet_8, e_X6_sheet_11, e_X6_sheet_12, e_X6_sheet_14, e_X6_sheet_17, e_X6_sheet_18, e_X6_sheet_20, e_X6_sheet_23, e_X6_sheet_24, e_X6_sheet_26, e_X6_sheet_29, e_X6_sheet_30, e_X6_sheet_32, e_X6_sheet_35, e_X6_sheet_36, e_X6_sheet_37, e_X6_sheet_40, e_X6_sheet_41, e_X6_sheet_43, e_X6_sheet_46, e_X6_sheet_47, e_X6_sheet_48, e_X6_sheet_50, e_X6_sheet_53, e_X6_sheet_54, e_X6_sheet_56, e_X6_sheet_59, e_X6_sheet_60, e_X6_sheet_61, e_X6_sheet_64, e_X6_sheet_65, e_X6_sheet_66, e_X6_sheet_67, e_X6_sheet_68, e_X6_sheet_71, e_X6_sheet_72, e_X6_sheet_73, e_X6_sheet_76, e_X6_sheet_77, e_X6_sheet_80, e_X6_sheet_81, e_X6_sheet_82, e_X6_sheet_83, e_X6_sheet_87, e_X6_sheet_89, e_X6_sheet_92, e_X6_sheet_93, e_X6_sheet_96, e_X6_sheet_98, e_X6_sheet_99, e_X6_sheet_100, e_X6_sheet_102, e_X6_sheet_103, e_X6_sheet_104, e_X6_sheet_105, e_X6_sheet_108, e_X6_sheet_112, e_X6_sheet_115, e_X6_sheet_116, e_X6_sheet_117, q, toL1, toL0, ite_self, if_true, if_false, ite_true, ite_false, nI_add, pk_mul, z_eq, z_lt, z_le, z_ge, z_gt, nI_eq, nI_leI, nI_ltI, bI_0, bI_1, not_true_eq_false, not_false_eq_true]
    refine K h' (R.sheet q42 q43 (fun t i ht hi => ?_) FF) (FF.mono (fun o w => by unfold hiC; omega))
    rw [J t i ht hi]
    unfold updF
    by_cases q : t = s
    · rw [if_pos q, if_pos q]
    · rw [if_neg q, if_neg q]; exact r9 t i ht hi
  rw [e_X6_sheet_60]
  by_cases h0 : b = 0
  · simp (disch := first | assumption | omega | exact isB_0 | exact isB_1 | exact isB_bI _ | decide) only [e_X6_sheet_0, e_X6_sheet_1, e_X6_sheet_4, e_X6_sheet_7, e_X6_sheet_8, e_X6_sheet_11, e_X6_sheet_12, e_X6_sheet_14, e_X6_sheet_17, e_X6_sheet_18, e_X6_sheet_20, e_X6_sheet_23, e_X6_sheet_24, e_X6_sheet_26, e_X6_sheet_29, e_X6_sheet_30, e_X6_sheet_32, e_X6_sheet_35, e_X6_sheet_36, e_X6_sheet_37, e_X6_sheet_40, e_X6_sheet_41, e_X6_sheet_43, e_X6_sheet_46, e_X6_sheet_47, e_X6_sheet_48, e_X6_sheet_50, e_X6_sheet_53, e_X6_sheet_54, e_X6_sheet_56, e_X6_sheet_59, e_X6_sheet_61, e_X6_sheet_64, e_X6_sheet_65, e_X6_sheet_66, e_X6_sheet_67, e_X6_sheet_68, e_X6_sheet_71, e_X6_sheet_72, e_X6_sheet_73, e_X6_sheet_76, e_X6_sheet_77, e_X6_sheet_80, e_X6_sheet_81, e_X6_sheet_82, e_X6_sheet_83, e_X6_sheet_87, e_X6_sheet_89, e_X6_sheet_92, e_X6_sheet_93, e_X6_sheet_96, e_X6_sheet_98, e_X6_sheet_99, e_X6_sheet_100, e_X6_sheet_102, e_X6_sheet_103, e_X6_sheet_104, e_X6_sheet_105, e_X6_sheet_108, e_X6_sheet_111, e_X6_sheet_112, e_X6_sheet_115, e_X6_sheet_116, e_X6_sheet_117, h0, toL1, toL0, ite_self, if_true, if_false, ite_true, ite_false, nI_add, pk_mul, z_eq, z_lt, z_le, z_ge, z_gt, nI_eq, nI_leI, nI_ltI, bI_0, bI_1, not_true_eq_false, not_false_eq_true]
    rw [if_pos h0] at main
    have := main 0 rfl
    rw [h0] at this
    exact this
  · simp (disch := first | assumption | omega | exact isB_0 | exact isB_1 | exact isB_bI _ | decide) only [e_X6_sheet_0, e_X6_sheet_1, e_X6_sheet_4, e_X6_sheet_7, e_X6_sheet_8, e_X6_sheet_11, e_X6_sheet_12, e_X6_sheet_14, e_X6_sheet_17, e_X6_sheet_18, e_X6_sheet_20, e_X6_sheet_23, e_X6_sheet_24, e_X6_sheet_26, e_X6_sheet_29, e_X6_sheet_30, e_X6_sheet_32, e_X6_sheet_35, e_X6_sheet_36, e_X6_sheet_37, e_X6_sheet_40, e_X6_sheet_41, e_X6_sheet_43, e_X6_sheet_46, e_X6_sheet_47, e_X6_sheet_48, e_X6_sheet_50, e_X6_sheet_53, e_X6_sheet_54, e_X6_sheet_56, e_X6_sheet_59, e_X6_sheet_61, e_X6_sheet_64, e_X6_sheet_65, e_X6_sheet_66, e_X6_sheet_67, e_X6_sheet_68, e_X6_sheet_71, e_X6_sheet_72, e_X6_sheet_73, e_X6_sheet_76, e_X6_sheet_77, e_X6_sheet_80, e_X6_sheet_81, e_X6_sheet_82, e_X6_sheet_83, e_X6_sheet_87, e_X6_sheet_89, e_X6_sheet_92, e_X6_sheet_93, e_X6_sheet_96, e_X6_sheet_98, e_X6_sheet_99, e_X6_sheet_100, e_X6_sheet_102, e_X6_sheet_103, e_X6_sheet_104, e_X6_sheet_105, e_X6_sheet_108, e_X6_sheet_111, e_X6_sheet_112, e_X6_sheet_115, e_X6_sheet_116, e_X6_sheet_117, h0, toL1, toL0, ite_self, if_true, if_false, ite_true, ite_false, nI_add, pk_mul, z_eq, z_lt, z_le, z_ge, z_gt, nI_eq, nI_leI, nI_ltI, bI_0, bI_1, not_true_eq_false, not_false_eq_true]
    rw [if_neg h0] at main
    exact main m rfl
theorem m_sheet (R : RM h S) {s b n : Int32} (K : Mo h Q (f_sheet s b n S)) : Ev E mX6_sheet 0 [.ref 36, .int s, .int b, .int n, .null] [] h Q := by
  unfold f_sheet at K
  by_cases h1 : nI 0 ≤ s ∧ s ≤ nI 3
  · rw [if_pos h1] at K
    obtain ⟨j, _, hj, rfl⟩ := vI_of (by decide) h1 (by decide)
    by_cases h2 : isBits b
    · rw [if_pos h2] at K
      by_cases h3 : n < 0
      · rw [if_pos h3] at K
        have h4 : ¬ 0 ≤ n := Int32.not_le.mpr h3
        rcases h2 with rfl | rfl | rfl | rfl <;> (simp (disch := first | assumption | omega | exact isB_0 | exact isB_1 | exact isB_bI _ | decide) only [e_X6_sheet_0, e_X6_sheet_1, e_X6_sheet_4, e_X6_sheet_7, e_X6_sheet_8, e_X6_sheet_11, e_X6_sheet_12, e_X6_sheet_14, e_X6_sheet_17, e_X6_sheet_18, e_X6_sheet_20, e_X6_sheet_23, e_X6_sheet_24, e_X6_sheet_26, e_X6_sheet_29, e_X6_sheet_30, e_X6_sheet_32, e_X6_sheet_35, e_X6_sheet_36, e_X6_sheet_37, e_X6_sheet_40, e_X6_sheet_41, e_X6_sheet_43, e_X6_sheet_46, e_X6_sheet_47, e_X6_sheet_48, e_X6_sheet_50, e_X6_sheet_53, e_X6_sheet_54, e_X6_sheet_56, e_X6_sheet_59, e_X6_sheet_61, e_X6_sheet_64, e_X6_sheet_65, e_X6_sheet_66, e_X6_sheet_67, e_X6_sheet_68, e_X6_sheet_71, e_X6_sheet_72, e_X6_sheet_73, e_X6_sheet_76, e_X6_sheet_77, e_X6_sheet_80, e_X6_sheet_81, e_X6_sheet_82, e_X6_sheet_83, e_X6_sheet_85, e_X6_sheet_87, e_X6_sheet_89, e_X6_sheet_92, e_X6_sheet_93, e_X6_sheet_96, e_X6_sheet_98, e_X6_sheet_99, e_X6_sheet_100, e_X6_sheet_102, e_X6_sheet_103, e_X6_sheet_104, e_X6_sheet_105, e_X6_sheet_108, e_X6_sheet_111, e_X6_sheet_112, e_X6_sheet_115, e_X6_sheet_116, e_X6_sheet_117, m_isSheet, hj, h4, m_f6 R, Nat.reduceEqDiff, and_self, and_true, true_and, Nat.zero_le, nI_ltI, toL1, toL0, ite_self, if_true, if_false, ite_true, ite_false, nI_add, pk_mul, z_eq, z_lt, z_le, z_ge, z_gt, nI_eq, nI_leI, nI_ltI, bI_0, bI_1, not_true_eq_false, not_false_eq_true]; exact m_bad R K)
      · rw [if_neg h3] at K
        obtain ⟨m, hm, rfl⟩ : ∃ k, k < 2147483648 ∧ n = nI k := by
          rcases i32_c n with z | z
          · exact absurd z h3
          · exact z
        by_cases h4 : m ≤ 40
        · rw [if_pos (nI_le h4 (by decide))] at K
          rw [nv_nI (by omega), nv_nI (by omega)] at K
          rcases h2 with rfl | rfl | rfl | rfl <;> (simp (disch := first | assumption | omega | exact isB_0 | exact isB_1 | exact isB_bI _ | decide) only [e_X6_sheet_0, e_X6_sheet_1, e_X6_sheet_4, e_X6_sheet_7, e_X6_sheet_8, e_X6_sheet_11, e_X6_sheet_12, e_X6_sheet_14, e_X6_sheet_17, e_X6_sheet_18, e_X6_sheet_20, e_X6_sheet_23, e_X6_sheet_24, e_X6_sheet_26, e_X6_sheet_29, e_X6_sheet_30, e_X6_sheet_32, e_X6_sheet_35, e_X6_sheet_36, e_X6_sheet_37, e_X6_sheet_40, e_X6_sheet_41, e_X6_sheet_43, e_X6_sheet_46, e_X6_sheet_47, e_X6_sheet_48, e_X6_sheet_50, e_X6_sheet_53, e_X6_sheet_54, e_X6_sheet_56, e_X6_sheet_59, e_X6_sheet_61, e_X6_sheet_64, e_X6_sheet_65, e_X6_sheet_66, e_X6_sheet_67, e_X6_sheet_68, e_X6_sheet_71, e_X6_sheet_72, e_X6_sheet_73, e_X6_sheet_76, e_X6_sheet_77, e_X6_sheet_80, e_X6_sheet_81, e_X6_sheet_82, e_X6_sheet_83, e_X6_sheet_85, e_X6_sheet_87, e_X6_sheet_89, e_X6_sheet_92, e_X6_sheet_93, e_X6_sheet_96, e_X6_sheet_98, e_X6_sheet_99, e_X6_sheet_100, e_X6_sheet_102, e_X6_sheet_103, e_X6_sheet_104, e_X6_sheet_105, e_X6_sheet_108, e_X6_sheet_111, e_X6_sheet_112, e_X6_sheet_115, e_X6_sheet_116, e_X6_sheet_117, m_isSheet, hj, h4, Nat.reduceEqDiff, and_self, and_true, true_and, Nat.zero_le, nI_ltI, toL1, toL0, ite_self, if_true, if_false, ite_true, ite_false, nI_add, pk_mul, z_eq, z_lt, z_le, z_ge, z_gt, nI_eq, nI_leI, nI_ltI, bI_0, bI_1, not_true_eq_false, not_false_eq_true]; exact m_shE R (by omega) (by decide) h4 _ K)
        · rw [if_neg (fun z => h4 ((nI_leI (by omega) (by decide)).mp z))] at K
          rcases h2 with rfl | rfl | rfl | rfl <;> (simp (disch := first | assumption | omega | exact isB_0 | exact isB_1 | exact isB_bI _ | decide) only [e_X6_sheet_0, e_X6_sheet_1, e_X6_sheet_4, e_X6_sheet_7, e_X6_sheet_8, e_X6_sheet_11, e_X6_sheet_12, e_X6_sheet_14, e_X6_sheet_17, e_X6_sheet_18, e_X6_sheet_20, e_X6_sheet_23, e_X6_sheet_24, e_X6_sheet_26, e_X6_sheet_29, e_X6_sheet_30, e_X6_sheet_32, e_X6_sheet_35, e_X6_sheet_36, e_X6_sheet_37, e_X6_sheet_40, e_X6_sheet_41, e_X6_sheet_43, e_X6_sheet_46, e_X6_sheet_47, e_X6_sheet_48, e_X6_sheet_50, e_X6_sheet_53, e_X6_sheet_54, e_X6_sheet_56, e_X6_sheet_59, e_X6_sheet_61, e_X6_sheet_64, e_X6_sheet_65, e_X6_sheet_66, e_X6_sheet_67, e_X6_sheet_68, e_X6_sheet_71, e_X6_sheet_72, e_X6_sheet_73, e_X6_sheet_76, e_X6_sheet_77, e_X6_sheet_80, e_X6_sheet_81, e_X6_sheet_82, e_X6_sheet_83, e_X6_sheet_85, e_X6_sheet_87, e_X6_sheet_89, e_X6_sheet_92, e_X6_sheet_93, e_X6_sheet_96, e_X6_sheet_98, e_X6_sheet_99, e_X6_sheet_100, e_X6_sheet_102, e_X6_sheet_103, e_X6_sheet_104, e_X6_sheet_105, e_X6_sheet_108, e_X6_sheet_111, e_X6_sheet_112, e_X6_sheet_115, e_X6_sheet_116, e_X6_sheet_117, m_isSheet, hj, h4, m_f0 R, Nat.reduceEqDiff, and_self, and_true, true_and, Nat.zero_le, nI_ltI, toL1, toL0, ite_self, if_true, if_false, ite_true, ite_false, nI_add, pk_mul, z_eq, z_lt, z_le, z_ge, z_gt, nI_eq, nI_leI, nI_ltI, bI_0, bI_1, not_true_eq_false, not_false_eq_true]; exact m_bad R K)
    · rw [if_neg h2] at K
      have a0 : ¬ b = 0 := fun z => h2 (Or.inl z)
      have a1 : ¬ b = nI 8 := fun z => h2 (Or.inr (Or.inl z))
      have a2 : ¬ b = nI 16 := fun z => h2 (Or.inr (Or.inr (Or.inl z)))
      have a3 : ¬ b = nI 64 := fun z => h2 (Or.inr (Or.inr (Or.inr z)))
      simp (disch := first | assumption | omega | exact isB_0 | exact isB_1 | exact isB_bI _ | decide) only [e_X6_sheet_0, e_X6_sheet_1, e_X6_sheet_4, e_X6_sheet_7, e_X6_sheet_8, e_X6_sheet_11, e_X6_sheet_12, e_X6_sheet_14, e_X6_sheet_17, e_X6_sheet_18, e_X6_sheet_20, e_X6_sheet_23, e_X6_sheet_24, e_X6_sheet_26, e_X6_sheet_29, e_X6_sheet_30, e_X6_sheet_32, e_X6_sheet_35, e_X6_sheet_36, e_X6_sheet_37, e_X6_sheet_40, e_X6_sheet_41, e_X6_sheet_43, e_X6_sheet_46, e_X6_sheet_47, e_X6_sheet_48, e_X6_sheet_50, e_X6_sheet_53, e_X6_sheet_54, e_X6_sheet_56, e_X6_sheet_59, e_X6_sheet_61, e_X6_sheet_64, e_X6_sheet_65, e_X6_sheet_66, e_X6_sheet_67, e_X6_sheet_68, e_X6_sheet_71, e_X6_sheet_72, e_X6_sheet_73, e_X6_sheet_76, e_X6_sheet_77, e_X6_sheet_80, e_X6_sheet_81, e_X6_sheet_82, e_X6_sheet_83, e_X6_sheet_85, e_X6_sheet_87, e_X6_sheet_89, e_X6_sheet_92, e_X6_sheet_93, e_X6_sheet_96, e_X6_sheet_98, e_X6_sheet_99, e_X6_sheet_100, e_X6_sheet_102, e_X6_sheet_103, e_X6_sheet_104, e_X6_sheet_105, e_X6_sheet_108, e_X6_sheet_111, e_X6_sheet_112, e_X6_sheet_115, e_X6_sheet_116, e_X6_sheet_117, m_isSheet, hj, a0, a1, a2, a3, m_f0 R, and_self, and_true, true_and, Nat.zero_le, nI_ltI, toL1, toL0, ite_self, if_true, if_false, ite_true, ite_false, nI_add, pk_mul, z_eq, z_lt, z_le, z_ge, z_gt, nI_eq, nI_leI, nI_ltI, bI_0, bI_1, not_true_eq_false, not_false_eq_true]
      exact m_bad R K
  · rw [if_neg h1] at K
    simp (disch := first | assumption | omega | exact isB_0 | exact isB_1 | exact isB_bI _ | decide) only [e_X6_sheet_0, e_X6_sheet_1, e_X6_sheet_4, e_X6_sheet_7, e_X6_sheet_8, e_X6_sheet_11, e_X6_sheet_12, e_X6_sheet_14, e_X6_sheet_17, e_X6_sheet_18, e_X6_sheet_20, e_X6_sheet_23, e_X6_sheet_24, e_X6_sheet_26, e_X6_sheet_29, e_X6_sheet_30, e_X6_sheet_32, e_X6_sheet_35, e_X6_sheet_36, e_X6_sheet_37, e_X6_sheet_40, e_X6_sheet_41, e_X6_sheet_43, e_X6_sheet_46, e_X6_sheet_47, e_X6_sheet_48, e_X6_sheet_50, e_X6_sheet_53, e_X6_sheet_54, e_X6_sheet_56, e_X6_sheet_59, e_X6_sheet_61, e_X6_sheet_64, e_X6_sheet_65, e_X6_sheet_66, e_X6_sheet_67, e_X6_sheet_68, e_X6_sheet_71, e_X6_sheet_72, e_X6_sheet_73, e_X6_sheet_76, e_X6_sheet_77, e_X6_sheet_80, e_X6_sheet_81, e_X6_sheet_82, e_X6_sheet_83, e_X6_sheet_85, e_X6_sheet_87, e_X6_sheet_89, e_X6_sheet_92, e_X6_sheet_93, e_X6_sheet_96, e_X6_sheet_98, e_X6_sheet_99, e_X6_sheet_100, e_X6_sheet_102, e_X6_sheet_103, e_X6_sheet_104, e_X6_sheet_105, e_X6_sheet_108, e_X6_sheet_111, e_X6_sheet_112, e_X6_sheet_115, e_X6_sheet_116, e_X6_sheet_117, m_isSheet, bI_f h1, m_f0 R, and_self, and_true, true_and, Nat.zero_le, nI_ltI, toL1, toL0, ite_self, if_true, if_false, ite_true, ite_false, nI_add, pk_mul, z_eq, z_lt, z_le, z_ge, z_gt, nI_eq, nI_leI, nI_ltI, bI_0, bI_1, not_true_eq_false, not_false_eq_true]
    exact m_bad R K
end PUB9
