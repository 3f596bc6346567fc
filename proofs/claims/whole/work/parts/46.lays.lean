/-! lays, copy -/
theorem l2_i {x : Int64} (h : 0 ≤ x ∧ x ≤ 99) : x.toInt32 = nI x.toInt.toNat ∧ x.toInt.toNat ≤ 99 := by
  have h1 := Int64.le_iff_toInt_le.mp h.1
  have h2 := Int64.le_iff_toInt_le.mp h.2
  have e0 : (0 : Int64).toInt = 0 := by decide
  have e9 : (99 : Int64).toInt = 99 := by decide
  rw [e0] at h1
  rw [e9] at h2
  refine ⟨Int32.toInt_inj.mp ?_, by omega⟩
  rw [Int64.toInt_toInt32, nI_toInt (by omega), Int.bmod_eq_of_le (by omega) (by omega)]
  omega
def layE (e : Nat → Nat) (g : Nat → Int64) : Nat → Nat → Nat
  | 0 => e
  | k + 1 => if 0 ≤ g k ∧ g k ≤ 99 then updN (layE e g k) k (g k).toInt.toNat else layE e g k
def layN (g : Nat → Int64) : Nat → Nat
  | 0 => 0
  | k + 1 => if 0 ≤ g k ∧ g k ≤ 99 then layN g k + 1 else layN g k
theorem layE_t {e : Nat → Nat} {g : Nat → Int64} {k : Nat} (a : 0 ≤ g k ∧ g k ≤ 99) : layE e g (k + 1) = updN (layE e g k) k (g k).toInt.toNat := if_pos a
theorem layE_f {e : Nat → Nat} {g : Nat → Int64} {k : Nat} (a : ¬ (0 ≤ g k ∧ g k ≤ 99)) : layE e g (k + 1) = layE e g k := if_neg a
theorem layN_t {g : Nat → Int64} {k : Nat} (a : 0 ≤ g k ∧ g k ≤ 99) : layN g (k + 1) = layN g k + 1 := if_pos a
theorem layN_f {g : Nat → Int64} {k : Nat} (a : ¬ (0 ≤ g k ∧ g k ≤ 99)) : layN g (k + 1) = layN g k := if_neg a
theorem layE_le {e : Nat → Nat} {g : Nat → Int64} : ∀ k, (∀ i, i < 8 → e i ≤ 99) → ∀ i, i < 8 → layE e g k i ≤ 99
  | 0, h => h
  | k + 1, h => by
    intro i hi
    have ih := layE_le (g := g) k h i hi
    by_cases a : 0 ≤ g k ∧ g k ≤ 99
    · rw [layE_t a]
      unfold updN
      split
      · exact (l2_i a).2
      · exact ih
    · rw [layE_f a]; exact ih
def layM (S : Sy) (s : Nat) : Nat := min (yZ S s) (zF (yC S))
def f_lays (a : Int32) (S : Sy) : Int32 × Sy :=
  if nI 0 ≤ a ∧ a ≤ nI 3 then if yW S (nv a) = 0 then bad 5 S else ok (layN (yN S (nv a)) (layM S (nv a))) (ysC S (zsE (yC S) (layE (zE (yC S)) (yN S (nv a)) (layM S (nv a))))) else bad 0 S
theorem iL_0 : (nI 0).toInt64 = 0 := by decide
theorem iL_99 : (nI 99).toInt64 = 99 := by decide
section LAYS
variable {E : En} {h : Hp} {Q : Option Value → Hp → Prop} {S : Sy}
theorem v_laL (R0 : RV h S) (W : WS S) {s : Nat} (hs : s < 4) (K : ∀ h', RC h' 1 (zsE (yC S) (layE (zE (yC S)) (yN S s) (layM S s))) → Fr (fun q => q = 7) h h' → Q (some (.int (nI (layN (yN S s) (layM S s))))) h') : ∀ (d k : Nat) (x y : Value) (h' : Hp), k + d = layM S s → RC h' 1 (zsE (yC S) (layE (zE (yC S)) (yN S s) k)) → Fr (fun q => q = 7) h h' → Ev E mX5_lays 38 [.ref 0, .int (nI s), .ref (25 + s), .int (nI (layN (yN S s) k)), .int (nI k), x, y] [] h' Q := by
  have hC := isC_1
  have hS := isS_of hs
  have hz := W.z hs
  have h8 := W.1.f
  have eN : 25 + s + 4 = 29 + s := by omega
  have hm : layM S s = min (yZ S s) (zF (yC S)) := rfl
  intro d
  induction d with
  | zero =>
    intro k x y h' e R F
    have c1 : gI h' (25 + s) 1 = nI (yZ S s) := ((F (25 + s) (by omega)).1 1).trans (R0.2.2.2.2.2.2.2.1 s hs)
    have rF : gI h' 1 1 = nI (zF (yC S)) := R.F
    have hk : k = layM S s := by omega
    have q := K h' (by rw [← hk]; exact R) F
    rw [← hk] at q
    rw [e_X5_lays_38]
    simp (disch := first | assumption | omega | exact isB_0 | exact isB_1 | exact isB_bI _ | decide) only [e_X5_lays_0, e_X5_lays_1, e_X5_lays_4, e_X5_lays_7, e_X5_lays_8, e_X5_lays_9, e_X5_lays_12, e_X5_lays_13, e_X5_lays_14, e_X5_lays_17, e_X5_lays_18, e_X5_lays_19, e_X5_lays_20, e_X5_lays_21, e_X5_lays_24, e_X5_lays_27, e_X5_lays_28, e_X5_lays_29, e_X5_lays_32, e_X5_lays_33, e_X5_lays_34, e_X5_lays_35, e_X5_lays_36, e_X5_lays_40, e_X5_lays_41, e_X5_lays_44, e_X5_lays_47, e_X5_lays_49, e_X5_lays_50, e_X5_lays_53, e_X5_lays_56, e_X5_lays_59, e_X5_lays_60, e_X5_lays_63, e_X5_lays_65, e_X5_lays_66, e_X5_lays_68, e_X5_lays_70, e_X5_lays_71, e_X5_lays_72, e_X5_lays_75, e_X5_lays_77, e_X5_lays_80, e_X5_lays_81, e_X5_lays_84, e_X5_lays_85, e_X5_lays_88, e_X5_lays_91, e_X5_lays_93, e_X5_lays_95, e_X5_lays_96, e_X5_lays_97, e_X5_lays_100, e_X5_lays_103, e_X5_lays_106, e_X5_lays_107, c1, rF, toL1, toL0, ite_self, if_true, if_false, ite_true, ite_false, nI_add, pk_mul, z_eq, z_lt, z_le, z_ge, z_gt, nI_eq, nI_leI, nI_ltI, bI_0, bI_1, not_true_eq_false, not_false_eq_true]
    by_cases a : yZ S s ≤ k
    · rw [if_pos a]; exact q
    · rw [if_neg a, if_pos (by omega)]; exact q
  | succ d ih =>
    intro k x y h' e R F
    have c1 : gI h' (25 + s) 1 = nI (yZ S s) := ((F (25 + s) (by omega)).1 1).trans (R0.2.2.2.2.2.2.2.1 s hs)
    have rF : gI h' 1 1 = nI (zF (yC S)) := R.F
    have c2 : gL h' (25 + s + 4) k = yN S s k := by rw [eN, (F (29 + s) (by omega)).2.2]; exact R0.2.2.2.2.2.2.2.2 s k hs (by omega)
    have ih2 := fun (h2 : Hp) => ih (k + 1) (.long (yN S s k)) .null h2 (by omega)
    rw [e_X5_lays_38]
    simp (disch := first | assumption | omega | exact isB_0 | exact isB_1 | exact isB_bI _ | decide) only [e_X5_lays_0, e_X5_lays_1, e_X5_lays_4, e_X5_lays_7, e_X5_lays_8, e_X5_lays_9, e_X5_lays_12, e_X5_lays_13, e_X5_lays_14, e_X5_lays_17, e_X5_lays_18, e_X5_lays_19, e_X5_lays_20, e_X5_lays_21, e_X5_lays_24, e_X5_lays_27, e_X5_lays_28, e_X5_lays_29, e_X5_lays_32, e_X5_lays_33, e_X5_lays_34, e_X5_lays_35, e_X5_lays_36, e_X5_lays_40, e_X5_lays_41, e_X5_lays_44, e_X5_lays_47, e_X5_lays_49, e_X5_lays_50, e_X5_lays_53, e_X5_lays_56, e_X5_lays_59, e_X5_lays_60, e_X5_lays_63, e_X5_lays_65, e_X5_lays_66, e_X5_lays_68, e_X5_lays_70, e_X5_lays_71, e_X5_lays_72, e_X5_lays_75, e_X5_lays_77, e_X5_lays_80, e_X5_lays_81, e_X5_lays_84, e_X5_lays_85, e_X5_lays_88, e_X5_lays_91, e_X5_lays_93, e_X5_lays_95, e_X5_lays_96, e_X5_lays_97, e_X5_lays_100, e_X5_lays_103, e_X5_lays_106, e_X5_lays_107, c1, rF, c2, cmp_lt, cmp_gt, toL1, toL0, ite_self, if_true, if_false, ite_true, ite_false, nI_add, pk_mul, z_eq, z_lt, z_le, z_ge, z_gt, nI_eq, nI_leI, nI_ltI, bI_0, bI_1, not_true_eq_false, not_false_eq_true]
    rw [if_neg (by omega), if_neg (by omega)]
    by_cases a : 0 ≤ yN S s k ∧ yN S s k ≤ 99
    · rw [layE_t a, layN_t a] at ih2
      rw [if_neg (Int64.not_lt.mpr a.1), if_neg (Int64.not_lt.mpr a.2), (l2_i a).1]
      exact ih2 _ (R.setE k _) (F.tr (Fr.sA rfl))
    · rw [layE_f a, layN_f a] at ih2
      by_cases b : yN S s k < 0
      · rw [if_pos b]; exact ih2 h' R F
      · rw [if_neg b, if_pos (Classical.byContradiction (fun z => a ⟨Int64.not_lt.mp b, Int64.not_lt.mp z⟩))]; exact ih2 h' R F
theorem v_lays (R : RV h S) (W : WS S) {a : Int32} (K : Vo h Q (f_lays a S)) : Ev E mX5_lays 0 [.ref 0, .int a, .null, .null, .null, .null, .null] [] h Q := by
  unfold f_lays at K
  by_cases h1 : nI 0 ≤ a ∧ a ≤ nI 3
  · rw [if_pos h1] at K
    obtain ⟨s, _, hs3, rfl⟩ := vI_of (by decide) h1 (by decide)
    have hs : s < 4 := by omega
    have hS := isS_of hs
    have r7 := R.2.2.2.2.2.2.1 s hs
    have hb := W.b hs
    rw [nv_nI (by omega)] at K
    by_cases h2 : yW S s = 0
    · rw [if_pos h2] at K
      simp (disch := first | assumption | omega | exact isB_0 | exact isB_1 | exact isB_bI _ | decide) only [e_X5_lays_0, e_X5_lays_1, e_X5_lays_4, e_X5_lays_7, e_X5_lays_8, e_X5_lays_9, e_X5_lays_12, e_X5_lays_13, e_X5_lays_14, e_X5_lays_17, e_X5_lays_18, e_X5_lays_19, e_X5_lays_20, e_X5_lays_21, e_X5_lays_24, e_X5_lays_27, e_X5_lays_28, e_X5_lays_29, e_X5_lays_32, e_X5_lays_33, e_X5_lays_34, e_X5_lays_35, e_X5_lays_36, e_X5_lays_40, e_X5_lays_41, e_X5_lays_44, e_X5_lays_47, e_X5_lays_49, e_X5_lays_50, e_X5_lays_53, e_X5_lays_56, e_X5_lays_59, e_X5_lays_60, e_X5_lays_63, e_X5_lays_65, e_X5_lays_66, e_X5_lays_68, e_X5_lays_70, e_X5_lays_71, e_X5_lays_72, e_X5_lays_75, e_X5_lays_77, e_X5_lays_80, e_X5_lays_81, e_X5_lays_84, e_X5_lays_85, e_X5_lays_88, e_X5_lays_91, e_X5_lays_93, e_X5_lays_95, e_X5_lays_96, e_X5_lays_97, e_X5_lays_100, e_X5_lays_103, e_X5_lays_106, e_X5_lays_107, s_isSheet, hs3, s_isMissing hS hb r7, bI_t h2, v_tell R, Nat.one_ne_zero, and_self, and_true, true_and, Nat.zero_le, nI_ltI, toL1, toL0, ite_self, if_true, if_false, ite_true, ite_false, nI_add, pk_mul, z_eq, z_lt, z_le, z_ge, z_gt, nI_eq, nI_leI, nI_ltI, bI_0, bI_1, not_true_eq_false, not_false_eq_true]
      exact v_bad R K
    · rw [if_neg h2] at K
      simp (disch := first | assumption | omega | exact isB_0 | exact isB_1 | exact isB_bI _ | decide) only [e_X5_lays_0, e_X5_lays_1, e_X5_lays_4, e_X5_lays_7, e_X5_lays_8, e_X5_lays_9, e_X5_lays_12, e_X5_lays_13, e_X5_lays_14, e_X5_lays_17, e_X5_lays_18, e_X5_lays_19, e_X5_lays_20, e_X5_lays_21, e_X5_lays_24, e_X5_lays_27, e_X5_lays_28, e_X5_lays_29, e_X5_lays_32, e_X5_lays_33, e_X5_lays_34, e_X5_lays_35, e_X5_lays_36, e_X5_lays_40, e_X5_lays_41, e_X5_lays_44, e_X5_lays_47, e_X5_lays_49, e_X5_lays_50, e_X5_lays_53, e_X5_lays_56, e_X5_lays_59, e_X5_lays_60, e_X5_lays_63, e_X5_lays_65, e_X5_lays_66, e_X5_lays_68, e_X5_lays_70, e_X5_lays_71, e_X5_lays_72, e_X5_lays_75, e_X5_lays_77, e_X5_lays_80, e_X5_lays_81, e_X5_lays_84, e_X5_lays_85, e_X5_lays_88, e_X5_lays_91, e_X5_lays_93, e_X5_lays_95, e_X5_lays_96, e_X5_lays_97, e_X5_lays_100, e_X5_lays_103, e_X5_lays_106, e_X5_lays_107, s_isSheet, hs3, s_isMissing hS hb r7, bI_f h2, Nat.one_ne_zero, and_self, and_true, true_and, Nat.zero_le, nI_ltI, toL1, toL0, ite_self, if_true, if_false, ite_true, ite_false, nI_add, pk_mul, z_eq, z_lt, z_le, z_ge, z_gt, nI_eq, nI_leI, nI_ltI, bI_0, bI_1, not_true_eq_false, not_false_eq_true]
      refine v_laL R W hs (fun h' R2 F => ?_) (layM S s) 0 .null .null h (by omega) R.ci Fr.rf
      have FX : Fr Xv h h' := F.mono (fun o w => Or.inl (by omega))
      exact K h' (R.city R2 FX) FX.lo
  · rw [if_neg h1] at K
    simp (disch := first | assumption | omega | exact isB_0 | exact isB_1 | exact isB_bI _ | decide) only [e_X5_lays_0, e_X5_lays_1, e_X5_lays_4, e_X5_lays_7, e_X5_lays_8, e_X5_lays_9, e_X5_lays_12, e_X5_lays_13, e_X5_lays_14, e_X5_lays_17, e_X5_lays_18, e_X5_lays_19, e_X5_lays_20, e_X5_lays_21, e_X5_lays_24, e_X5_lays_27, e_X5_lays_28, e_X5_lays_29, e_X5_lays_32, e_X5_lays_33, e_X5_lays_34, e_X5_lays_35, e_X5_lays_36, e_X5_lays_40, e_X5_lays_41, e_X5_lays_44, e_X5_lays_47, e_X5_lays_49, e_X5_lays_50, e_X5_lays_53, e_X5_lays_56, e_X5_lays_59, e_X5_lays_60, e_X5_lays_63, e_X5_lays_65, e_X5_lays_66, e_X5_lays_68, e_X5_lays_70, e_X5_lays_71, e_X5_lays_72, e_X5_lays_75, e_X5_lays_77, e_X5_lays_80, e_X5_lays_81, e_X5_lays_84, e_X5_lays_85, e_X5_lays_88, e_X5_lays_91, e_X5_lays_93, e_X5_lays_95, e_X5_lays_96, e_X5_lays_97, e_X5_lays_100, e_X5_lays_103, e_X5_lays_106, e_X5_lays_107, s_isSheet, bI_f h1, v_tell R, and_self, and_true, true_and, Nat.zero_le, nI_ltI, toL1, toL0, ite_self, if_true, if_false, ite_true, ite_false, nI_add, pk_mul, z_eq, z_lt, z_le, z_ge, z_gt, nI_eq, nI_leI, nI_ltI, bI_0, bI_1, not_true_eq_false, not_false_eq_true]
    exact v_bad R K
theorem m_laL (R0 : RM h S) (W : WS S) {s : Nat} (hs : s < 4) (K : ∀ h', RR h' 37 (zsE (yC S) (layE (zE (yC S)) (yN S s) (layM S s))) → Fr Xm h h' → Q (some (.int (nI (layN (yN S s) (layM S s))))) h') : ∀ (d k : Nat) (h' : Hp), k + d = layM S s → RR h' 37 (zsE (yC S) (layE (zE (yC S)) (yN S s) k)) → Fr Xm h h' → Ev E mX6_lays 21 [.ref 36, .int (nI s), .int (nI 0), .int (nI (layN (yN S s) k)), .int (nI k)] [] h' Q := by
  have hz := W.z hs
  have h8 := W.1.f
  have hm : layM S s = min (yZ S s) (zF (yC S)) := rfl
  have r8 := R0.2.2.2.2.2.2.2.1 s hs
  intro d
  induction d with
  | zero =>
    intro k h' e R F
    have c1 : gA h' 43 s = nI (yZ S s) := by rw [(F 43 (by decide)).2.1]; exact r8
    have rF : gA h' 37 1 = nI (zF (yC S)) := R.F
    have hk : k = layM S s := by omega
    have q := K h' (by rw [← hk]; exact R) F
    rw [← hk] at q
    rw [e_X6_lays_21]
    simp (disch := first | assumption | omega | exact isB_0 | exact isB_1 | exact isB_bI _ | decide) only [e_X6_lays_0, e_X6_lays_1, e_X6_lays_2, e_X6_lays_5, e_X6_lays_6, e_X6_lays_7, e_X6_lays_10, e_X6_lays_11, e_X6_lays_12, e_X6_lays_15, e_X6_lays_16, e_X6_lays_17, e_X6_lays_18, e_X6_lays_19, e_X6_lays_23, e_X6_lays_24, e_X6_lays_27, e_X6_lays_28, e_X6_lays_29, e_X6_lays_32, e_X6_lays_34, e_X6_lays_35, e_X6_lays_38, e_X6_lays_39, e_X6_lays_40, e_X6_lays_43, e_X6_lays_44, e_X6_lays_47, e_X6_lays_49, e_X6_lays_50, e_X6_lays_51, e_X6_lays_53, e_X6_lays_54, e_X6_lays_55, e_X6_lays_56, e_X6_lays_58, e_X6_lays_61, e_X6_lays_64, e_X6_lays_65, e_X6_lays_68, e_X6_lays_70, e_X6_lays_71, e_X6_lays_73, e_X6_lays_74, e_X6_lays_75, e_X6_lays_76, e_X6_lays_77, e_X6_lays_78, e_X6_lays_81, e_X6_lays_83, e_X6_lays_84, e_X6_lays_85, e_X6_lays_87, e_X6_lays_88, e_X6_lays_89, e_X6_lays_90, e_X6_lays_91, e_X6_lays_94, e_X6_lays_97, e_X6_lays_100, e_X6_lays_101, c1, rF, toL1, toL0, ite_self, if_true, if_false, ite_true, ite_false, nI_add, pk_mul, z_eq, z_lt, z_le, z_ge, z_gt, nI_eq, nI_leI, nI_ltI, bI_0, bI_1, not_true_eq_false, not_false_eq_true]
    by_cases a : yZ S s ≤ k
    · rw [if_pos a]; exact q
    · rw [if_neg a, if_pos (by omega)]; exact q
  | succ d ih =>
    intro k h' e R F
    have c1 : gA h' 43 s = nI (yZ S s) := by rw [(F 43 (by decide)).2.1]; exact r8
    have rF : gA h' 37 1 = nI (zF (yC S)) := R.F
    have c2 : gL h' 44 (40 * s + k) = yN S s k := by rw [(F 44 (by decide)).2.2]; exact R0.2.2.2.2.2.2.2.2 s k hs (by omega)
    have ih2 := fun (h2 : Hp) => ih (k + 1) h2 (by omega)
    rw [e_X6_lays_21]
    simp (disch := first | assumption | omega | exact isB_0 | exact isB_1 | exact isB_bI _ | decide) only [e_X6_lays_0, e_X6_lays_1, e_X6_lays_2, e_X6_lays_5, e_X6_lays_6, e_X6_lays_7, e_X6_lays_10, e_X6_lays_11, e_X6_lays_12, e_X6_lays_15, e_X6_lays_16, e_X6_lays_17, e_X6_lays_18, e_X6_lays_19, e_X6_lays_23, e_X6_lays_24, e_X6_lays_27, e_X6_lays_28, e_X6_lays_29, e_X6_lays_32, e_X6_lays_34, e_X6_lays_35, e_X6_lays_38, e_X6_lays_39, e_X6_lays_40, e_X6_lays_43, e_X6_lays_44, e_X6_lays_47, e_X6_lays_49, e_X6_lays_50, e_X6_lays_51, e_X6_lays_53, e_X6_lays_54, e_X6_lays_55, e_X6_lays_56, e_X6_lays_58, e_X6_lays_61, e_X6_lays_64, e_X6_lays_65, e_X6_lays_68, e_X6_lays_70, e_X6_lays_71, e_X6_lays_73, e_X6_lays_74, e_X6_lays_75, e_X6_lays_76, e_X6_lays_77, e_X6_lays_78, e_X6_lays_81, e_X6_lays_83, e_X6_lays_84, e_X6_lays_85, e_X6_lays_87, e_X6_lays_88, e_X6_lays_89, e_X6_lays_90, e_X6_lays_91, e_X6_lays_94, e_X6_lays_97, e_X6_lays_100, e_X6_lays_101, c1, rF, c2, m_inL, iL_0, iL_99, toL1, toL0, ite_self, if_true, if_false, ite_true, ite_false, nI_add, pk_mul, z_eq, z_lt, z_le, z_ge, z_gt, nI_eq, nI_leI, nI_ltI, bI_0, bI_1, not_true_eq_false, not_false_eq_true]
    rw [if_neg (by omega), if_neg (by omega)]
    by_cases a : 0 ≤ yN S s k ∧ yN S s k ≤ 99
    · rw [layE_t a, layN_t a] at ih2
      rw [if_neg (fun z => z a), (l2_i a).1]
      exact ih2 _ (R.setE (show k < 8 by omega) _) (F.tr (Fr.sA rfl))
    · rw [layE_f a, layN_f a] at ih2
      rw [if_pos a]
      exact ih2 h' R F
theorem m_lays (R : RM h S) (W : WS S) {a : Int32} (K : Mo h Q (f_lays a S)) : Ev E mX6_lays 0 [.ref 36, .int a, .null, .null, .null] [] h Q := by
  unfold f_lays at K
  by_cases h1 : nI 0 ≤ a ∧ a ≤ nI 3
  · rw [if_pos h1] at K
    obtain ⟨s, _, hs3, rfl⟩ := vI_of (by decide) h1 (by decide)
    have hs : s < 4 := by omega
    rw [nv_nI (by omega)] at K
    by_cases h2 : yW S s = 0
    · rw [if_pos h2] at K
      simp (disch := first | assumption | omega | exact isB_0 | exact isB_1 | exact isB_bI _ | decide) only [e_X6_lays_0, e_X6_lays_1, e_X6_lays_2, e_X6_lays_5, e_X6_lays_6, e_X6_lays_7, e_X6_lays_10, e_X6_lays_11, e_X6_lays_12, e_X6_lays_15, e_X6_lays_16, e_X6_lays_17, e_X6_lays_18, e_X6_lays_19, e_X6_lays_23, e_X6_lays_24, e_X6_lays_27, e_X6_lays_28, e_X6_lays_29, e_X6_lays_32, e_X6_lays_34, e_X6_lays_35, e_X6_lays_38, e_X6_lays_39, e_X6_lays_40, e_X6_lays_43, e_X6_lays_44, e_X6_lays_47, e_X6_lays_49, e_X6_lays_50, e_X6_lays_51, e_X6_lays_53, e_X6_lays_54, e_X6_lays_55, e_X6_lays_56, e_X6_lays_58, e_X6_lays_61, e_X6_lays_64, e_X6_lays_65, e_X6_lays_68, e_X6_lays_70, e_X6_lays_71, e_X6_lays_73, e_X6_lays_74, e_X6_lays_75, e_X6_lays_76, e_X6_lays_77, e_X6_lays_78, e_X6_lays_81, e_X6_lays_83, e_X6_lays_84, e_X6_lays_85, e_X6_lays_87, e_X6_lays_88, e_X6_lays_89, e_X6_lays_90, e_X6_lays_91, e_X6_lays_94, e_X6_lays_97, e_X6_lays_100, e_X6_lays_101, m_nt1 R hs h2, kz_6, m_f5 R, and_self, and_true, true_and, Nat.zero_le, nI_ltI, toL1, toL0, ite_self, if_true, if_false, ite_true, ite_false, nI_add, pk_mul, z_eq, z_lt, z_le, z_ge, z_gt, nI_eq, nI_leI, nI_ltI, bI_0, bI_1, not_true_eq_false, not_false_eq_true]
      exact m_bad R K
    · rw [if_neg h2] at K
      simp (disch := first | assumption | omega | exact isB_0 | exact isB_1 | exact isB_bI _ | decide) only [e_X6_lays_0, e_X6_lays_1, e_X6_lays_2, e_X6_lays_5, e_X6_lays_6, e_X6_lays_7, e_X6_lays_10, e_X6_lays_11, e_X6_lays_12, e_X6_lays_15, e_X6_lays_16, e_X6_lays_17, e_X6_lays_18, e_X6_lays_19, e_X6_lays_23, e_X6_lays_24, e_X6_lays_27, e_X6_lays_28, e_X6_lays_29, e_X6_lays_32, e_X6_lays_34, e_X6_lays_35, e_X6_lays_38, e_X6_lays_39, e_X6_lays_40, e_X6_lays_43, e_X6_lays_44, e_X6_lays_47, e_X6_lays_49, e_X6_lays_50, e_X6_lays_51, e_X6_lays_53, e_X6_lays_54, e_X6_lays_55, e_X6_lays_56, e_X6_lays_58, e_X6_lays_61, e_X6_lays_64, e_X6_lays_65, e_X6_lays_68, e_X6_lays_70, e_X6_lays_71, e_X6_lays_73, e_X6_lays_74, e_X6_lays_75, e_X6_lays_76, e_X6_lays_77, e_X6_lays_78, e_X6_lays_81, e_X6_lays_83, e_X6_lays_84, e_X6_lays_85, e_X6_lays_87, e_X6_lays_88, e_X6_lays_89, e_X6_lays_90, e_X6_lays_91, e_X6_lays_94, e_X6_lays_97, e_X6_lays_100, e_X6_lays_101, m_nt2 R W hs h2, Nat.one_ne_zero, and_self, and_true, true_and, Nat.zero_le, nI_ltI, toL1, toL0, ite_self, if_true, if_false, ite_true, ite_false, nI_add, pk_mul, z_eq, z_lt, z_le, z_ge, z_gt, nI_eq, nI_leI, nI_ltI, bI_0, bI_1, not_true_eq_false, not_false_eq_true]
      refine m_laL R W hs (fun h' R2 F => ?_) (layM S s) 0 h (by omega) R.ci Fr.rf
      exact K h' (R.city R2 F.m7) F.m7.hi
  · rw [if_neg h1] at K
    simp (disch := first | assumption | omega | exact isB_0 | exact isB_1 | exact isB_bI _ | decide) only [e_X6_lays_0, e_X6_lays_1, e_X6_lays_2, e_X6_lays_5, e_X6_lays_6, e_X6_lays_7, e_X6_lays_10, e_X6_lays_11, e_X6_lays_12, e_X6_lays_15, e_X6_lays_16, e_X6_lays_17, e_X6_lays_18, e_X6_lays_19, e_X6_lays_23, e_X6_lays_24, e_X6_lays_27, e_X6_lays_28, e_X6_lays_29, e_X6_lays_32, e_X6_lays_34, e_X6_lays_35, e_X6_lays_38, e_X6_lays_39, e_X6_lays_40, e_X6_lays_43, e_X6_lays_44, e_X6_lays_47, e_X6_lays_49, e_X6_lays_50, e_X6_lays_51, e_X6_lays_53, e_X6_lays_54, e_X6_lays_55, e_X6_lays_56, e_X6_lays_58, e_X6_lays_61, e_X6_lays_64, e_X6_lays_65, e_X6_lays_68, e_X6_lays_70, e_X6_lays_71, e_X6_lays_73, e_X6_lays_74, e_X6_lays_75, e_X6_lays_76, e_X6_lays_77, e_X6_lays_78, e_X6_lays_81, e_X6_lays_83, e_X6_lays_84, e_X6_lays_85, e_X6_lays_87, e_X6_lays_88, e_X6_lays_89, e_X6_lays_90, e_X6_lays_91, e_X6_lays_94, e_X6_lays_97, e_X6_lays_100, e_X6_lays_101, m_nt0 h1, kz_1, m_f0 R, and_self, and_true, true_and, Nat.zero_le, nI_ltI, toL1, toL0, ite_self, if_true, if_false, ite_true, ite_false, nI_add, pk_mul, z_eq, z_lt, z_le, z_ge, z_gt, nI_eq, nI_leI, nI_ltI, bI_0, bI_1, not_true_eq_false, not_false_eq_true]
    exact m_bad R K
end LAYS
/-- a range of a sheet -/
abbrev hasR (p n : Int32) (z : Nat) : Prop := nI 0 ≤ p ∧ nI 0 ≤ n ∧ nv p + nv n ≤ z
theorem sub_cmp {z i n : Nat} (hz : z ≤ 40) (hi : i < 2147483648) (hn : n < 2147483648) : (nI z - nI i < nI n) ↔ z < i + n := by
  rw [Int32.lt_iff_toInt_lt, Int32.toInt_sub, nI_toInt (by omega), nI_toInt (by omega), nI_toInt (by omega), Int.bmod_eq_of_le (by omega) (by omega)]
  omega
theorem hasR_n {i n z : Nat} (hi : i < 2147483648) (hn : n < 2147483648) : hasR (nI i) (nI n) z ↔ i + n ≤ z := by
  unfold hasR
  rw [nv_nI (by omega), nv_nI (by omega)]
  exact ⟨fun q => q.2.2, fun q => ⟨nI_le (Nat.zero_le _) (by omega), nI_le (Nat.zero_le _) (by omega), q⟩⟩
theorem hasR_p {p n : Int32} {z : Nat} (h : p < 0) : ¬ hasR p n z := fun q => Int32.not_le.mpr h q.1
theorem hasR_q {p n : Int32} {z : Nat} (h : n < 0) : ¬ hasR p n z := fun q => Int32.not_le.mpr h q.2.1
def cpG (f g : Nat → Int64) (p q n : Nat) : Nat → Int64 := fun i => if q ≤ i ∧ i < q + n then f (p + (i - q)) else g i
def f_copy (a p b q n : Int32) (S : Sy) : Int32 × Sy :=
  if (nI 0 ≤ a ∧ a ≤ nI 3) ∧ (nI 0 ≤ b ∧ b ≤ nI 3) then if yW S (nv a) = 0 ∨ yW S (nv b) = 0 then bad 5 S else if yW S (nv a) = yW S (nv b) then if hasR p n (yZ S (nv a)) ∧ hasR q n (yZ S (nv b)) then ok (nv n) (ysN S (updF (yN S) (nv b) (cpG (yN S (nv a)) (yN S (nv b)) (nv p) (nv q) (nv n)))) else bad 0 S else bad 2 S else bad 0 S
section COPY
variable {E : En} {h : Hp} {Q : Option Value → Hp → Prop} {S : Sy}
theorem s_hasRange {o : Nat} (hS : isS o) {z : Nat} (hz : z ≤ 40) (r : gI h o 1 = nI z) {p n : Int32} : Ev E mX3_hasRange 0 [.ref o, .int p, .int n] [] h Q = Q (some (.int (bI (hasR p n z)))) h := by
  rcases i32_c p with hp | ⟨i, hi, rfl⟩
  · rw [bI_f (hasR_p hp)]
    simp (disch := first | assumption | omega | exact isB_0 | exact isB_1 | exact isB_bI _ | decide) only [e_X3_hasRange_0, e_X3_hasRange_1, e_X3_hasRange_4, e_X3_hasRange_5, e_X3_hasRange_8, e_X3_hasRange_9, e_X3_hasRange_10, e_X3_hasRange_13, e_X3_hasRange_16, e_X3_hasRange_17, e_X3_hasRange_18, e_X3_hasRange_21, e_X3_hasRange_22, e_X3_hasRange_23, e_X3_hasRange_26, e_X3_hasRange_27, e_X3_hasRange_30, e_X3_hasRange_31, hp, toL1, toL0, ite_self, if_true, if_false, ite_true, ite_false, nI_add, pk_mul, z_eq, z_lt, z_le, z_ge, z_gt, nI_eq, nI_leI, nI_ltI, bI_0, bI_1, not_true_eq_false, not_false_eq_true]
  · rcases i32_c n with hn | ⟨j, hj, rfl⟩
    · rw [bI_f (hasR_q hn)]
      simp (disch := first | assumption | omega | exact isB_0 | exact isB_1 | exact isB_bI _ | decide) only [e_X3_hasRange_0, e_X3_hasRange_1, e_X3_hasRange_4, e_X3_hasRange_5, e_X3_hasRange_8, e_X3_hasRange_9, e_X3_hasRange_10, e_X3_hasRange_13, e_X3_hasRange_16, e_X3_hasRange_17, e_X3_hasRange_18, e_X3_hasRange_21, e_X3_hasRange_22, e_X3_hasRange_23, e_X3_hasRange_26, e_X3_hasRange_27, e_X3_hasRange_30, e_X3_hasRange_31, hn, toL1, toL0, ite_self, if_true, if_false, ite_true, ite_false, nI_add, pk_mul, z_eq, z_lt, z_le, z_ge, z_gt, nI_eq, nI_leI, nI_ltI, bI_0, bI_1, not_true_eq_false, not_false_eq_true]
    · simp (disch := first | assumption | omega | exact isB_0 | exact isB_1 | exact isB_bI _ | decide) only [e_X3_hasRange_0, e_X3_hasRange_1, e_X3_hasRange_4, e_X3_hasRange_5, e_X3_hasRange_8, e_X3_hasRange_9, e_X3_hasRange_10, e_X3_hasRange_13, e_X3_hasRange_16, e_X3_hasRange_17, e_X3_hasRange_18, e_X3_hasRange_21, e_X3_hasRange_22, e_X3_hasRange_23, e_X3_hasRange_26, e_X3_hasRange_27, e_X3_hasRange_30, e_X3_hasRange_31, r, sub_cmp hz hj hi, bI_iff (hasR_n (z := z) hi hj), toL1, toL0, ite_self, if_true, if_false, ite_true, ite_false, nI_add, pk_mul, z_eq, z_lt, z_le, z_ge, z_gt, nI_eq, nI_leI, nI_ltI, bI_0, bI_1, not_true_eq_false, not_false_eq_true]
      by_cases a : z < j
      · rw [if_pos a, bI_f (show ¬ (i + j ≤ z) by omega)]
      · rw [if_neg a]
        by_cases b : z < j + i
        · rw [if_pos b, bI_f (show ¬ (i + j ≤ z) by omega)]
        · rw [if_neg b, bI_t (show i + j ≤ z by omega)]
theorem v_copy (R : RV h S) (W : WS S) {a p b q n : Int32} (K : Vo h Q (f_copy a p b q n S)) : Ev E mX5_copy 0 [.ref 0, .int a, .int p, .int b, .int q, .int n, .null, .null] [] h Q := by
  unfold f_copy at K
  by_cases h1 : nI 0 ≤ a ∧ a ≤ nI 3
  · by_cases h2 : nI 0 ≤ b ∧ b ≤ nI 3
    · rw [if_pos ⟨h1, h2⟩] at K
      obtain ⟨s, _, hs3, rfl⟩ := vI_of (by decide) h1 (by decide)
      obtain ⟨t, _, ht3, rfl⟩ := vI_of (by decide) h2 (by decide)
      have hs : s < 4 := by omega
      have ht : t < 4 := by omega
      have hS := isS_of hs
      have hT := isS_of ht
      have r7 := R.2.2.2.2.2.2.1 s hs
      have t7 := R.2.2.2.2.2.2.1 t ht
      have r8 := R.2.2.2.2.2.2.2.1 s hs
      have t8 := R.2.2.2.2.2.2.2.1 t ht
      have hb := W.b hs
      have tb := W.b ht
      have hz := W.z hs
      have tz := W.z ht
      rw [nv_nI (by omega), nv_nI (by omega)] at K
      by_cases h3 : yW S s = 0
      · rw [if_pos (Or.inl h3)] at K
        simp (disch := first | assumption | omega | exact isB_0 | exact isB_1 | exact isB_bI _ | decide) only [e_X5_copy_0, e_X5_copy_1, e_X5_copy_4, e_X5_copy_7, e_X5_copy_8, e_X5_copy_11, e_X5_copy_14, e_X5_copy_15, e_X5_copy_16, e_X5_copy_19, e_X5_copy_20, e_X5_copy_21, e_X5_copy_24, e_X5_copy_25, e_X5_copy_26, e_X5_copy_28, e_X5_copy_29, e_X5_copy_32, e_X5_copy_33, e_X5_copy_34, e_X5_copy_36, e_X5_copy_38, e_X5_copy_41, e_X5_copy_44, e_X5_copy_46, e_X5_copy_49, e_X5_copy_52, e_X5_copy_53, e_X5_copy_54, e_X5_copy_57, e_X5_copy_58, e_X5_copy_60, e_X5_copy_63, e_X5_copy_65, e_X5_copy_68, e_X5_copy_71, e_X5_copy_72, e_X5_copy_73, e_X5_copy_76, e_X5_copy_77, e_X5_copy_79, e_X5_copy_80, e_X5_copy_82, e_X5_copy_85, e_X5_copy_88, e_X5_copy_90, e_X5_copy_92, e_X5_copy_94, e_X5_copy_97, e_X5_copy_100, e_X5_copy_101, e_X5_copy_102, e_X5_copy_105, e_X5_copy_106, e_X5_copy_108, e_X5_copy_111, e_X5_copy_112, e_X5_copy_114, e_X5_copy_117, e_X5_copy_119, e_X5_copy_121, e_X5_copy_124, e_X5_copy_126, s_isSheet, hs3, ht3, s_isMissing hS hb r7, bI_t h3, v_tell R, Nat.one_ne_zero, and_self, and_true, true_and, Nat.zero_le, nI_ltI, toL1, toL0, ite_self, if_true, if_false, ite_true, ite_false, nI_add, pk_mul, z_eq, z_lt, z_le, z_ge, z_gt, nI_eq, nI_leI, nI_ltI, bI_0, bI_1, not_true_eq_false, not_false_eq_true]
        exact v_bad R K
      · by_cases h4 : yW S t = 0
        · rw [if_pos (Or.inr h4)] at K
          simp (disch := first | assumption | omega | exact isB_0 | exact isB_1 | exact isB_bI _ | decide) only [e_X5_copy_0, e_X5_copy_1, e_X5_copy_4, e_X5_copy_7, e_X5_copy_8, e_X5_copy_11, e_X5_copy_14, e_X5_copy_15, e_X5_copy_16, e_X5_copy_19, e_X5_copy_20, e_X5_copy_21, e_X5_copy_24, e_X5_copy_25, e_X5_copy_26, e_X5_copy_28, e_X5_copy_29, e_X5_copy_32, e_X5_copy_33, e_X5_copy_34, e_X5_copy_36, e_X5_copy_38, e_X5_copy_41, e_X5_copy_44, e_X5_copy_46, e_X5_copy_49, e_X5_copy_52, e_X5_copy_53, e_X5_copy_54, e_X5_copy_57, e_X5_copy_58, e_X5_copy_60, e_X5_copy_63, e_X5_copy_65, e_X5_copy_68, e_X5_copy_71, e_X5_copy_72, e_X5_copy_73, e_X5_copy_76, e_X5_copy_77, e_X5_copy_79, e_X5_copy_80, e_X5_copy_82, e_X5_copy_85, e_X5_copy_88, e_X5_copy_90, e_X5_copy_92, e_X5_copy_94, e_X5_copy_97, e_X5_copy_100, e_X5_copy_101, e_X5_copy_102, e_X5_copy_105, e_X5_copy_106, e_X5_copy_108, e_X5_copy_111, e_X5_copy_112, e_X5_copy_114, e_X5_copy_117, e_X5_copy_119, e_X5_copy_121, e_X5_copy_124, e_X5_copy_126, s_isSheet, hs3, ht3, s_isMissing hS hb r7, bI_f h3, s_isMissing hT tb t7, bI_t h4, v_tell R, Nat.one_ne_zero, and_self, and_true, true_and, Nat.zero_le, nI_ltI, toL1, toL0, ite_self, if_true, if_false, ite_true, ite_false, nI_add, pk_mul, z_eq, z_lt, z_le, z_ge, z_gt, nI_eq, nI_leI, nI_ltI, bI_0, bI_1, not_true_eq_false, not_false_eq_true]
          exact v_bad R K
        · rw [if_neg (fun z => z.elim h3 h4)] at K
          by_cases h5 : yW S s = yW S t
          · rw [if_pos h5] at K
            by_cases h6 : hasR p n (yZ S s)
            · by_cases h7 : hasR q n (yZ S t)
              · rw [if_pos ⟨h6, h7⟩] at K
                obtain ⟨i, hi, rfl⟩ : ∃ k, k < 2147483648 ∧ p = nI k := (i32_c p).resolve_left (Int32.not_lt.mpr h6.1)
                obtain ⟨j, hj, rfl⟩ : ∃ k, k < 2147483648 ∧ q = nI k := (i32_c q).resolve_left (Int32.not_lt.mpr h7.1)
                obtain ⟨m, hm, rfl⟩ : ∃ k, k < 2147483648 ∧ n = nI k := (i32_c n).resolve_left (Int32.not_lt.mpr h6.2.1)
                have g6 := (hasR_n hi hm).mp h6
                have g7 := (hasR_n hj hm).mp h7
                rw [nv_nI (by omega), nv_nI (by omega), nv_nI (by omega)] at K
                have z0 : ¬ (nI i < 0) ∧ ¬ (nI j < 0) ∧ ¬ (nI m < 0) := ⟨nI_pos (by omega), nI_pos (by omega), nI_pos (by omega)⟩
                have z1 : (nI i).toNatClampNeg + (nI m).toNatClampNeg ≤ aN (25 + s + 4) := by
                  rw [nI_clamp (show i < 2 ^ 31 by omega), nI_clamp (show m < 2 ^ 31 by omega), show aN (25 + s + 4) = 40 from aN_ofJ (kS4 hS)]
                  omega
                have z2 : (nI j).toNatClampNeg + (nI m).toNatClampNeg ≤ aN (25 + t + 4) := by
                  rw [nI_clamp (show j < 2 ^ 31 by omega), nI_clamp (show m < 2 ^ 31 by omega), show aN (25 + t + 4) = 40 from aN_ofJ (kS4 hT)]
                  omega
                simp (disch := first | assumption | omega | exact isB_0 | exact isB_1 | exact isB_bI _ | decide) only [e_X5_copy_0, e_X5_copy_1, e_X5_copy_4, e_X5_copy_7, e_X5_copy_8, e_X5_copy_11, e_X5_copy_14, e_X5_copy_15, e_X5_copy_16, e_X5_copy_19, e_X5_copy_20, e_X5_copy_21, e_X5_copy_24, e_X5_copy_25, e_X5_copy_26, e_X5_copy_28, e_X5_copy_29, e_X5_copy_32, e_X5_copy_33, e_X5_copy_34, e_X5_copy_36, e_X5_copy_38, e_X5_copy_41, e_X5_copy_44, e_X5_copy_46, e_X5_copy_49, e_X5_copy_52, e_X5_copy_53, e_X5_copy_54, e_X5_copy_57, e_X5_copy_58, e_X5_copy_60, e_X5_copy_63, e_X5_copy_65, e_X5_copy_68, e_X5_copy_71, e_X5_copy_72, e_X5_copy_73, e_X5_copy_76, e_X5_copy_77, e_X5_copy_79, e_X5_copy_80, e_X5_copy_82, e_X5_copy_85, e_X5_copy_88, e_X5_copy_90, e_X5_copy_92, e_X5_copy_94, e_X5_copy_97, e_X5_copy_100, e_X5_copy_101, e_X5_copy_102, e_X5_copy_105, e_X5_copy_106, e_X5_copy_108, e_X5_copy_111, e_X5_copy_112, e_X5_copy_114, e_X5_copy_117, e_X5_copy_119, e_X5_copy_124, e_X5_copy_126, s_isSheet, hs3, ht3, s_isMissing hS hb r7, bI_f h3, s_isMissing hT tb t7, bI_f h4, r7, t7, h5, s_hasRange hS hz r8, bI_t h6, s_hasRange hT tz t8, bI_t h7, e_X5_copy_121 hS hT z0 z1 z2, Nat.one_ne_zero, and_self, and_true, true_and, Nat.zero_le, nI_ltI, toL1, toL0, ite_self, if_true, if_false, ite_true, ite_false, nI_add, pk_mul, z_eq, z_lt, z_le, z_ge, z_gt, nI_eq, nI_leI, nI_ltI, bI_0, bI_1, not_true_eq_false, not_false_eq_true]
                rw [show 25 + s + 4 = 29 + s by omega, show 25 + t + 4 = 29 + t by omega, nI_clamp (show i < 2 ^ 31 by omega), nI_clamp (show j < 2 ^ 31 by omega), nI_clamp (show m < 2 ^ 31 by omega)]
                refine K _ (R.row ht (fun x hx => ?_) (Fr.sL rfl)) (Fr.sL (by unfold lowC; omega))
                rw [gL_sL, if_pos rfl]
                unfold va_cpy cpG
                by_cases w : j ≤ x ∧ x < j + m
                · rw [if_pos w, if_pos w]; exact R.2.2.2.2.2.2.2.2 s _ hs (by omega)
                · rw [if_neg w, if_neg w]; exact R.2.2.2.2.2.2.2.2 t x ht hx
              · rw [if_neg (fun z => h7 z.2)] at K
                simp (disch := first | assumption | omega | exact isB_0 | exact isB_1 | exact isB_bI _ | decide) only [e_X5_copy_0, e_X5_copy_1, e_X5_copy_4, e_X5_copy_7, e_X5_copy_8, e_X5_copy_11, e_X5_copy_14, e_X5_copy_15, e_X5_copy_16, e_X5_copy_19, e_X5_copy_20, e_X5_copy_21, e_X5_copy_24, e_X5_copy_25, e_X5_copy_26, e_X5_copy_28, e_X5_copy_29, e_X5_copy_32, e_X5_copy_33, e_X5_copy_34, e_X5_copy_36, e_X5_copy_38, e_X5_copy_41, e_X5_copy_44, e_X5_copy_46, e_X5_copy_49, e_X5_copy_52, e_X5_copy_53, e_X5_copy_54, e_X5_copy_57, e_X5_copy_58, e_X5_copy_60, e_X5_copy_63, e_X5_copy_65, e_X5_copy_68, e_X5_copy_71, e_X5_copy_72, e_X5_copy_73, e_X5_copy_76, e_X5_copy_77, e_X5_copy_79, e_X5_copy_80, e_X5_copy_82, e_X5_copy_85, e_X5_copy_88, e_X5_copy_90, e_X5_copy_92, e_X5_copy_94, e_X5_copy_97, e_X5_copy_100, e_X5_copy_101, e_X5_copy_102, e_X5_copy_105, e_X5_copy_106, e_X5_copy_108, e_X5_copy_111, e_X5_copy_112, e_X5_copy_114, e_X5_copy_117, e_X5_copy_119, e_X5_copy_121, e_X5_copy_124, e_X5_copy_126, s_isSheet, hs3, ht3, s_isMissing hS hb r7, bI_f h3, s_isMissing hT tb t7, bI_f h4, r7, t7, h5, s_hasRange hS hz r8, bI_t h6, s_hasRange hT tz t8, bI_f h7, v_tell R, Nat.one_ne_zero, and_self, and_true, true_and, Nat.zero_le, nI_ltI, toL1, toL0, ite_self, if_true, if_false, ite_true, ite_false, nI_add, pk_mul, z_eq, z_lt, z_le, z_ge, z_gt, nI_eq, nI_leI, nI_ltI, bI_0, bI_1, not_true_eq_false, not_false_eq_true]
                exact v_bad R K
            · rw [if_neg (fun z => h6 z.1)] at K
              simp (disch := first | assumption | omega | exact isB_0 | exact isB_1 | exact isB_bI _ | decide) only [e_X5_copy_0, e_X5_copy_1, e_X5_copy_4, e_X5_copy_7, e_X5_copy_8, e_X5_copy_11, e_X5_copy_14, e_X5_copy_15, e_X5_copy_16, e_X5_copy_19, e_X5_copy_20, e_X5_copy_21, e_X5_copy_24, e_X5_copy_25, e_X5_copy_26, e_X5_copy_28, e_X5_copy_29, e_X5_copy_32, e_X5_copy_33, e_X5_copy_34, e_X5_copy_36, e_X5_copy_38, e_X5_copy_41, e_X5_copy_44, e_X5_copy_46, e_X5_copy_49, e_X5_copy_52, e_X5_copy_53, e_X5_copy_54, e_X5_copy_57, e_X5_copy_58, e_X5_copy_60, e_X5_copy_63, e_X5_copy_65, e_X5_copy_68, e_X5_copy_71, e_X5_copy_72, e_X5_copy_73, e_X5_copy_76, e_X5_copy_77, e_X5_copy_79, e_X5_copy_80, e_X5_copy_82, e_X5_copy_85, e_X5_copy_88, e_X5_copy_90, e_X5_copy_92, e_X5_copy_94, e_X5_copy_97, e_X5_copy_100, e_X5_copy_101, e_X5_copy_102, e_X5_copy_105, e_X5_copy_106, e_X5_copy_108, e_X5_copy_111, e_X5_copy_112, e_X5_copy_114, e_X5_copy_117, e_X5_copy_119, e_X5_copy_121, e_X5_copy_124, e_X5_copy_126, s_isSheet, hs3, ht3, s_isMissing hS hb r7, bI_f h3, s_isMissing hT tb t7, bI_f h4, r7, t7, h5, s_hasRange hS hz r8, bI_f h6, v_tell R, Nat.one_ne_zero, and_self, and_true, true_and, Nat.zero_le, nI_ltI, toL1, toL0, ite_self, if_true, if_false, ite_true, ite_false, nI_add, pk_mul, z_eq, z_lt, z_le, z_ge, z_gt, nI_eq, nI_leI, nI_ltI, bI_0, bI_1, not_true_eq_false, not_false_eq_true]
              exact v_bad R K
          · rw [if_neg h5] at K
            simp (disch := first | assumption | omega | exact isB_0 | exact isB_1 | exact isB_bI _ | decide) only [e_X5_copy_0, e_X5_copy_1, e_X5_copy_4, e_X5_copy_7, e_X5_copy_8, e_X5_copy_11, e_X5_copy_14, e_X5_copy_15, e_X5_copy_16, e_X5_copy_19, e_X5_copy_20, e_X5_copy_21, e_X5_copy_24, e_X5_copy_25, e_X5_copy_26, e_X5_copy_28, e_X5_copy_29, e_X5_copy_32, e_X5_copy_33, e_X5_copy_34, e_X5_copy_36, e_X5_copy_38, e_X5_copy_41, e_X5_copy_44, e_X5_copy_46, e_X5_copy_49, e_X5_copy_52, e_X5_copy_53, e_X5_copy_54, e_X5_copy_57, e_X5_copy_58, e_X5_copy_60, e_X5_copy_63, e_X5_copy_65, e_X5_copy_68, e_X5_copy_71, e_X5_copy_72, e_X5_copy_73, e_X5_copy_76, e_X5_copy_77, e_X5_copy_79, e_X5_copy_80, e_X5_copy_82, e_X5_copy_85, e_X5_copy_88, e_X5_copy_90, e_X5_copy_92, e_X5_copy_94, e_X5_copy_97, e_X5_copy_100, e_X5_copy_101, e_X5_copy_102, e_X5_copy_105, e_X5_copy_106, e_X5_copy_108, e_X5_copy_111, e_X5_copy_112, e_X5_copy_114, e_X5_copy_117, e_X5_copy_119, e_X5_copy_121, e_X5_copy_124, e_X5_copy_126, s_isSheet, hs3, ht3, s_isMissing hS hb r7, bI_f h3, s_isMissing hT tb t7, bI_f h4, r7, t7, h5, v_tell R, Nat.one_ne_zero, and_self, and_true, true_and, Nat.zero_le, nI_ltI, toL1, toL0, ite_self, if_true, if_false, ite_true, ite_false, nI_add, pk_mul, z_eq, z_lt, z_le, z_ge, z_gt, nI_eq, nI_leI, nI_ltI, bI_0, bI_1, not_true_eq_false, not_false_eq_true]
            exact v_bad R K
    · rw [if_neg (fun z => h2 z.2)] at K
      simp (disch := first | assumption | omega | exact isB_0 | exact isB_1 | exact isB_bI _ | decide) only [e_X5_copy_0, e_X5_copy_1, e_X5_copy_4, e_X5_copy_7, e_X5_copy_8, e_X5_copy_11, e_X5_copy_14, e_X5_copy_15, e_X5_copy_16, e_X5_copy_19, e_X5_copy_20, e_X5_copy_21, e_X5_copy_24, e_X5_copy_25, e_X5_copy_26, e_X5_copy_28, e_X5_copy_29, e_X5_copy_32, e_X5_copy_33, e_X5_copy_34, e_X5_copy_36, e_X5_copy_38, e_X5_copy_41, e_X5_copy_44, e_X5_copy_46, e_X5_copy_49, e_X5_copy_52, e_X5_copy_53, e_X5_copy_54, e_X5_copy_57, e_X5_copy_58, e_X5_copy_60, e_X5_copy_63, e_X5_copy_65, e_X5_copy_68, e_X5_copy_71, e_X5_copy_72, e_X5_copy_73, e_X5_copy_76, e_X5_copy_77, e_X5_copy_79, e_X5_copy_80, e_X5_copy_82, e_X5_copy_85, e_X5_copy_88, e_X5_copy_90, e_X5_copy_92, e_X5_copy_94, e_X5_copy_97, e_X5_copy_100, e_X5_copy_101, e_X5_copy_102, e_X5_copy_105, e_X5_copy_106, e_X5_copy_108, e_X5_copy_111, e_X5_copy_112, e_X5_copy_114, e_X5_copy_117, e_X5_copy_119, e_X5_copy_121, e_X5_copy_124, e_X5_copy_126, s_isSheet, bI_t h1, bI_f h2, v_tell R, Nat.one_ne_zero, and_self, and_true, true_and, Nat.zero_le, nI_ltI, toL1, toL0, ite_self, if_true, if_false, ite_true, ite_false, nI_add, pk_mul, z_eq, z_lt, z_le, z_ge, z_gt, nI_eq, nI_leI, nI_ltI, bI_0, bI_1, not_true_eq_false, not_false_eq_true]
      exact v_bad R K
  · rw [if_neg (fun z => h1 z.1)] at K
    simp (disch := first | assumption | omega | exact isB_0 | exact isB_1 | exact isB_bI _ | decide) only [e_X5_copy_0, e_X5_copy_1, e_X5_copy_4, e_X5_copy_7, e_X5_copy_8, e_X5_copy_11, e_X5_copy_14, e_X5_copy_15, e_X5_copy_16, e_X5_copy_19, e_X5_copy_20, e_X5_copy_21, e_X5_copy_24, e_X5_copy_25, e_X5_copy_26, e_X5_copy_28, e_X5_copy_29, e_X5_copy_32, e_X5_copy_33, e_X5_copy_34, e_X5_copy_36, e_X5_copy_38, e_X5_copy_41, e_X5_copy_44, e_X5_copy_46, e_X5_copy_49, e_X5_copy_52, e_X5_copy_53, e_X5_copy_54, e_X5_copy_57, e_X5_copy_58, e_X5_copy_60, e_X5_copy_63, e_X5_copy_65, e_X5_copy_68, e_X5_copy_71, e_X5_copy_72, e_X5_copy_73, e_X5_copy_76, e_X5_copy_77, e_X5_copy_79, e_X5_copy_80, e_X5_copy_82, e_X5_copy_85, e_X5_copy_88, e_X5_copy_90, e_X5_copy_92, e_X5_copy_94, e_X5_copy_97, e_X5_copy_100, e_X5_copy_101, e_X5_copy_102, e_X5_copy_105, e_X5_copy_106, e_X5_copy_108, e_X5_copy_111, e_X5_copy_112, e_X5_copy_114, e_X5_copy_117, e_X5_copy_119, e_X5_copy_121, e_X5_copy_124, e_X5_copy_126, s_isSheet, bI_f h1, v_tell R, and_self, and_true, true_and, Nat.zero_le, nI_ltI, toL1, toL0, ite_self, if_true, if_false, ite_true, ite_false, nI_add, pk_mul, z_eq, z_lt, z_le, z_ge, z_gt, nI_eq, nI_leI, nI_ltI, bI_0, bI_1, not_true_eq_false, not_false_eq_true]
    exact v_bad R K
theorem kz_3 : ((-1000000003 : Int32) = 0) = False := by decide
theorem m_ncE (R : RM h S) (W : WS S) {s t : Nat} (hs : s < 4) (ht : t < 4) {p q n : Int32} (x : Value) : Ev E mX6_notCopied 56 [.ref 36, .int (nI s), .int p, .int (nI t), .int q, .int n, x] [] h Q = Q (some (.int (if hasR p n (yZ S s) ∧ hasR q n (yZ S t) then nI 0 else -1000000001))) h := by
  have r8 := R.2.2.2.2.2.2.2.1 s hs
  have t8 := R.2.2.2.2.2.2.2.1 t ht
  have hz := W.z hs
  have tz := W.z ht
  rcases i32_c n with hn | ⟨m, hm, rfl⟩
  · rw [if_neg (fun z => hasR_q hn z.1)]
    simp (disch := first | assumption | omega | exact isB_0 | exact isB_1 | exact isB_bI _ | decide) only [e_X6_notCopied_0, e_X6_notCopied_1, e_X6_notCopied_4, e_X6_notCopied_7, e_X6_notCopied_8, e_X6_notCopied_11, e_X6_notCopied_14, e_X6_notCopied_16, e_X6_notCopied_17, e_X6_notCopied_18, e_X6_notCopied_21, e_X6_notCopied_22, e_X6_notCopied_23, e_X6_notCopied_26, e_X6_notCopied_27, e_X6_notCopied_30, e_X6_notCopied_31, e_X6_notCopied_32, e_X6_notCopied_35, e_X6_notCopied_37, e_X6_notCopied_38, e_X6_notCopied_39, e_X6_notCopied_42, e_X6_notCopied_43, e_X6_notCopied_44, e_X6_notCopied_45, e_X6_notCopied_48, e_X6_notCopied_49, e_X6_notCopied_50, e_X6_notCopied_53, e_X6_notCopied_55, e_X6_notCopied_56, e_X6_notCopied_58, e_X6_notCopied_61, e_X6_notCopied_62, e_X6_notCopied_65, e_X6_notCopied_67, e_X6_notCopied_70, e_X6_notCopied_72, e_X6_notCopied_73, e_X6_notCopied_76, e_X6_notCopied_77, e_X6_notCopied_78, e_X6_notCopied_79, e_X6_notCopied_80, e_X6_notCopied_83, e_X6_notCopied_85, e_X6_notCopied_86, e_X6_notCopied_89, e_X6_notCopied_90, e_X6_notCopied_91, e_X6_notCopied_93, e_X6_notCopied_94, e_X6_notCopied_97, e_X6_notCopied_98, e_X6_notCopied_101, e_X6_notCopied_102, e_X6_notCopied_104, e_X6_notCopied_106, e_X6_notCopied_109, e_X6_notCopied_110, e_X6_notCopied_113, e_X6_notCopied_115, hn, toL1, toL0, ite_self, if_true, if_false, ite_true, ite_false, nI_add, pk_mul, z_eq, z_lt, z_le, z_ge, z_gt, nI_eq, nI_leI, nI_ltI, bI_0, bI_1, not_true_eq_false, not_false_eq_true]
  · rcases i32_c p with hp | ⟨i, hi, rfl⟩
    · rw [if_neg (fun z => hasR_p hp z.1)]
      simp (disch := first | assumption | omega | exact isB_0 | exact isB_1 | exact isB_bI _ | decide) only [e_X6_notCopied_0, e_X6_notCopied_1, e_X6_notCopied_4, e_X6_notCopied_7, e_X6_notCopied_8, e_X6_notCopied_11, e_X6_notCopied_14, e_X6_notCopied_16, e_X6_notCopied_17, e_X6_notCopied_18, e_X6_notCopied_21, e_X6_notCopied_22, e_X6_notCopied_23, e_X6_notCopied_26, e_X6_notCopied_27, e_X6_notCopied_30, e_X6_notCopied_31, e_X6_notCopied_32, e_X6_notCopied_35, e_X6_notCopied_37, e_X6_notCopied_38, e_X6_notCopied_39, e_X6_notCopied_42, e_X6_notCopied_43, e_X6_notCopied_44, e_X6_notCopied_45, e_X6_notCopied_48, e_X6_notCopied_49, e_X6_notCopied_50, e_X6_notCopied_53, e_X6_notCopied_55, e_X6_notCopied_56, e_X6_notCopied_58, e_X6_notCopied_61, e_X6_notCopied_62, e_X6_notCopied_65, e_X6_notCopied_67, e_X6_notCopied_70, e_X6_notCopied_72, e_X6_notCopied_73, e_X6_notCopied_76, e_X6_notCopied_77, e_X6_notCopied_78, e_X6_notCopied_79, e_X6_notCopied_80, e_X6_notCopied_83, e_X6_notCopied_85, e_X6_notCopied_86, e_X6_notCopied_89, e_X6_notCopied_90, e_X6_notCopied_91, e_X6_notCopied_93, e_X6_notCopied_94, e_X6_notCopied_97, e_X6_notCopied_98, e_X6_notCopied_101, e_X6_notCopied_102, e_X6_notCopied_104, e_X6_notCopied_106, e_X6_notCopied_109, e_X6_notCopied_110, e_X6_notCopied_113, e_X6_notCopied_115, hp, toL1, toL0, ite_self, if_true, if_false, ite_true, ite_false, nI_add, pk_mul, z_eq, z_lt, z_le, z_ge, z_gt, nI_eq, nI_leI, nI_ltI, bI_0, bI_1, not_true_eq_false, not_false_eq_true]
    · rcases i32_c q with hq | ⟨j, hj, rfl⟩
      · rw [if_neg (fun z => hasR_p hq z.2)]
        simp (disch := first | assumption | omega | exact isB_0 | exact isB_1 | exact isB_bI _ | decide) only [e_X6_notCopied_0, e_X6_notCopied_1, e_X6_notCopied_4, e_X6_notCopied_7, e_X6_notCopied_8, e_X6_notCopied_11, e_X6_notCopied_14, e_X6_notCopied_16, e_X6_notCopied_17, e_X6_notCopied_18, e_X6_notCopied_21, e_X6_notCopied_22, e_X6_notCopied_23, e_X6_notCopied_26, e_X6_notCopied_27, e_X6_notCopied_30, e_X6_notCopied_31, e_X6_notCopied_32, e_X6_notCopied_35, e_X6_notCopied_37, e_X6_notCopied_38, e_X6_notCopied_39, e_X6_notCopied_42, e_X6_notCopied_43, e_X6_notCopied_44, e_X6_notCopied_45, e_X6_notCopied_48, e_X6_notCopied_49, e_X6_notCopied_50, e_X6_notCopied_53, e_X6_notCopied_55, e_X6_notCopied_56, e_X6_notCopied_58, e_X6_notCopied_61, e_X6_notCopied_62, e_X6_notCopied_65, e_X6_notCopied_67, e_X6_notCopied_70, e_X6_notCopied_72, e_X6_notCopied_73, e_X6_notCopied_76, e_X6_notCopied_77, e_X6_notCopied_78, e_X6_notCopied_79, e_X6_notCopied_80, e_X6_notCopied_83, e_X6_notCopied_85, e_X6_notCopied_86, e_X6_notCopied_89, e_X6_notCopied_90, e_X6_notCopied_91, e_X6_notCopied_93, e_X6_notCopied_94, e_X6_notCopied_97, e_X6_notCopied_98, e_X6_notCopied_101, e_X6_notCopied_102, e_X6_notCopied_104, e_X6_notCopied_106, e_X6_notCopied_109, e_X6_notCopied_110, e_X6_notCopied_113, e_X6_notCopied_115, hq, toL1, toL0, ite_self, if_true, if_false, ite_true, ite_false, nI_add, pk_mul, z_eq, z_lt, z_le, z_ge, z_gt, nI_eq, nI_leI, nI_ltI, bI_0, bI_1, not_true_eq_false, not_false_eq_true]
      · have e1 := hasR_n (z := yZ S s) hi hm
        have e2 := hasR_n (z := yZ S t) hj hm
        simp (disch := first | assumption | omega | exact isB_0 | exact isB_1 | exact isB_bI _ | decide) only [e_X6_notCopied_0, e_X6_notCopied_1, e_X6_notCopied_4, e_X6_notCopied_7, e_X6_notCopied_8, e_X6_notCopied_11, e_X6_notCopied_14, e_X6_notCopied_16, e_X6_notCopied_17, e_X6_notCopied_18, e_X6_notCopied_21, e_X6_notCopied_22, e_X6_notCopied_23, e_X6_notCopied_26, e_X6_notCopied_27, e_X6_notCopied_30, e_X6_notCopied_31, e_X6_notCopied_32, e_X6_notCopied_35, e_X6_notCopied_37, e_X6_notCopied_38, e_X6_notCopied_39, e_X6_notCopied_42, e_X6_notCopied_43, e_X6_notCopied_44, e_X6_notCopied_45, e_X6_notCopied_48, e_X6_notCopied_49, e_X6_notCopied_50, e_X6_notCopied_53, e_X6_notCopied_55, e_X6_notCopied_56, e_X6_notCopied_58, e_X6_notCopied_61, e_X6_notCopied_62, e_X6_notCopied_65, e_X6_notCopied_67, e_X6_notCopied_70, e_X6_notCopied_72, e_X6_notCopied_73, e_X6_notCopied_76, e_X6_notCopied_77, e_X6_notCopied_78, e_X6_notCopied_79, e_X6_notCopied_80, e_X6_notCopied_83, e_X6_notCopied_85, e_X6_notCopied_86, e_X6_notCopied_89, e_X6_notCopied_90, e_X6_notCopied_91, e_X6_notCopied_93, e_X6_notCopied_94, e_X6_notCopied_97, e_X6_notCopied_98, e_X6_notCopied_101, e_X6_notCopied_102, e_X6_notCopied_104, e_X6_notCopied_106, e_X6_notCopied_109, e_X6_notCopied_110, e_X6_notCopied_113, e_X6_notCopied_115, r8, t8, sub_cmp hz hi hm, sub_cmp tz hj hm, Nat.one_ne_zero, toL1, toL0, ite_self, if_true, if_false, ite_true, ite_false, nI_add, pk_mul, z_eq, z_lt, z_le, z_ge, z_gt, nI_eq, nI_leI, nI_ltI, bI_0, bI_1, not_true_eq_false, not_false_eq_true]
        by_cases a : yZ S s < i + m
        · rw [if_pos a, if_neg (fun z => by have := e1.mp z.1; omega)]
        · rw [if_neg a]
          by_cases b : yZ S t < j + m
          · rw [if_pos b, if_neg (fun z => by have := e2.mp z.2; omega)]
          · rw [if_neg b, if_pos ⟨e1.mpr (by omega), e2.mpr (by omega)⟩]
def cpF (g : Nat → Int64) (A B lo hi : Nat) : Nat → Int64 := fun x => if B + lo ≤ x ∧ x < B + hi then g (A + (x - B)) else g x
theorem cpF_0 {g : Nat → Int64} {A B lo : Nat} : cpF g A B lo lo = g := by
  funext x
  unfold cpF
  rw [if_neg (by omega)]
theorem cpF_up {g : Nat → Int64} {A B k : Nat} (hc : A + k < B ∨ B + k ≤ A + k) : updL (cpF g A B 0 k) (B + k) (cpF g A B 0 k (A + k)) = cpF g A B 0 (k + 1) := by
  funext x
  unfold updL cpF
  by_cases q : x = B + k
  · rw [if_pos q, if_pos (show B + 0 ≤ x ∧ x < B + (k + 1) by omega), if_neg (by omega), show A + (x - B) = A + k by omega]
  · rw [if_neg q]
    by_cases w : B + 0 ≤ x ∧ x < B + k
    · rw [if_pos w, if_pos (show B + 0 ≤ x ∧ x < B + (k + 1) by omega)]
    · rw [if_neg w, if_neg (show ¬ (B + 0 ≤ x ∧ x < B + (k + 1)) by omega)]
theorem cpF_dn {g : Nat → Int64} {A B lo n : Nat} (hl : lo < n) (hc : A + lo ≤ B + lo ∨ B + n ≤ A + lo) : updL (cpF g A B (lo + 1) n) (B + lo) (cpF g A B (lo + 1) n (A + lo)) = cpF g A B lo n := by
  funext x
  unfold updL cpF
  by_cases q : x = B + lo
  · rw [if_pos q, if_pos (show B + lo ≤ x ∧ x < B + n by omega), if_neg (by omega), show A + (x - B) = A + lo by omega]
  · rw [if_neg q]
    by_cases w : B + (lo + 1) ≤ x ∧ x < B + n
    · rw [if_pos w, if_pos (show B + lo ≤ x ∧ x < B + n by omega)]
    · rw [if_neg w, if_neg (show ¬ (B + lo ≤ x ∧ x < B + n) by omega)]
theorem m_coU (h0 : Hp) {s t i j m : Nat} (hs : s < 4) (ht : t < 4) (hi : i + m ≤ 40) (hj : j + m ≤ 40) (hij : j ≤ i) (y : Int32) (K : ∀ h', gL h' 44 = cpF (gL h0 44) (40 * s + i) (40 * t + j) 0 m → Fr (fun o => o = 44) h0 h' → Q (some (.int (nI m))) h') : ∀ (d k : Nat) (x : Value) (h' : Hp), k + d = m → gL h' 44 = cpF (gL h0 44) (40 * s + i) (40 * t + j) 0 k → Fr (fun o => o = 44) h0 h' → Ev E mX6_copy 28 [.ref 36, .int (nI s), .int (nI i), .int (nI t), .int (nI j), .int (nI m), .int y, .int (nI k), x] [] h' Q := by
  intro d
  induction d with
  | zero =>
    intro k x h' e J F
    rw [e_X6_copy_28]
    simp (disch := first | assumption | omega | exact isB_0 | exact isB_1 | exact isB_bI _ | decide) only [e_X6_copy_0, e_X6_copy_1, e_X6_copy_2, e_X6_copy_3, e_X6_copy_4, e_X6_copy_6, e_X6_copy_8, e_X6_copy_11, e_X6_copy_13, e_X6_copy_15, e_X6_copy_18, e_X6_copy_19, e_X6_copy_21, e_X6_copy_24, e_X6_copy_25, e_X6_copy_26, e_X6_copy_30, e_X6_copy_32, e_X6_copy_35, e_X6_copy_36, e_X6_copy_38, e_X6_copy_41, e_X6_copy_43, e_X6_copy_44, e_X6_copy_45, e_X6_copy_47, e_X6_copy_48, e_X6_copy_51, e_X6_copy_53, e_X6_copy_55, e_X6_copy_56, e_X6_copy_59, e_X6_copy_61, e_X6_copy_62, e_X6_copy_63, e_X6_copy_65, e_X6_copy_66, e_X6_copy_68, e_X6_copy_69, e_X6_copy_70, e_X6_copy_73, e_X6_copy_75, e_X6_copy_76, e_X6_copy_77, e_X6_copy_78, e_X6_copy_79, e_X6_copy_81, e_X6_copy_82, e_X6_copy_83, e_X6_copy_84, e_X6_copy_87, e_X6_copy_90, e_X6_copy_92, toL1, toL0, ite_self, if_true, if_false, ite_true, ite_false, nI_add, pk_mul, z_eq, z_lt, z_le, z_ge, z_gt, nI_eq, nI_leI, nI_ltI, bI_0, bI_1, not_true_eq_false, not_false_eq_true]
    rw [if_pos (by omega)]
    exact K h' (by rw [J, show k = m by omega]) F
  | succ d ih =>
    intro k x h' e J F
    rw [e_X6_copy_28]
    simp (disch := first | assumption | omega | exact isB_0 | exact isB_1 | exact isB_bI _ | decide) only [e_X6_copy_0, e_X6_copy_1, e_X6_copy_2, e_X6_copy_3, e_X6_copy_4, e_X6_copy_6, e_X6_copy_8, e_X6_copy_11, e_X6_copy_13, e_X6_copy_15, e_X6_copy_18, e_X6_copy_19, e_X6_copy_21, e_X6_copy_24, e_X6_copy_25, e_X6_copy_26, e_X6_copy_30, e_X6_copy_32, e_X6_copy_35, e_X6_copy_36, e_X6_copy_38, e_X6_copy_41, e_X6_copy_43, e_X6_copy_44, e_X6_copy_45, e_X6_copy_47, e_X6_copy_48, e_X6_copy_51, e_X6_copy_53, e_X6_copy_55, e_X6_copy_56, e_X6_copy_59, e_X6_copy_61, e_X6_copy_62, e_X6_copy_63, e_X6_copy_65, e_X6_copy_66, e_X6_copy_68, e_X6_copy_69, e_X6_copy_70, e_X6_copy_73, e_X6_copy_75, e_X6_copy_76, e_X6_copy_77, e_X6_copy_78, e_X6_copy_79, e_X6_copy_81, e_X6_copy_82, e_X6_copy_83, e_X6_copy_84, e_X6_copy_87, e_X6_copy_90, e_X6_copy_92, vupd, J, toL1, toL0, ite_self, if_true, if_false, ite_true, ite_false, nI_add, pk_mul, z_eq, z_lt, z_le, z_ge, z_gt, nI_eq, nI_leI, nI_ltI, bI_0, bI_1, not_true_eq_false, not_false_eq_true]
    rw [if_neg (by omega), if_pos hij, cpF_up (by omega)]
    exact ih (k + 1) _ _ (by omega) (by rw [gL_sL, if_pos rfl]) (F.tr (Fr.sL rfl))
theorem m_coD (h0 : Hp) {s t i j m : Nat} (hs : s < 4) (ht : t < 4) (hi : i + m ≤ 40) (hj : j + m ≤ 40) (hij : i < j) (y : Int32) (K : ∀ h', gL h' 44 = cpF (gL h0 44) (40 * s + i) (40 * t + j) 0 m → Fr (fun o => o = 44) h0 h' → Q (some (.int (nI m))) h') : ∀ (d k : Nat) (x : Value) (h' : Hp), k + d = m → gL h' 44 = cpF (gL h0 44) (40 * s + i) (40 * t + j) d m → Fr (fun o => o = 44) h0 h' → Ev E mX6_copy 28 [.ref 36, .int (nI s), .int (nI i), .int (nI t), .int (nI j), .int (nI m), .int y, .int (nI k), x] [] h' Q := by
  intro d
  induction d with
  | zero =>
    intro k x h' e J F
    rw [e_X6_copy_28]
    simp (disch := first | assumption | omega | exact isB_0 | exact isB_1 | exact isB_bI _ | decide) only [e_X6_copy_0, e_X6_copy_1, e_X6_copy_2, e_X6_copy_3, e_X6_copy_4, e_X6_copy_6, e_X6_copy_8, e_X6_copy_11, e_X6_copy_13, e_X6_copy_15, e_X6_copy_18, e_X6_copy_19, e_X6_copy_21, e_X6_copy_24, e_X6_copy_25, e_X6_copy_26, e_X6_copy_30, e_X6_copy_32, e_X6_copy_35, e_X6_copy_36, e_X6_copy_38, e_X6_copy_41, e_X6_copy_43, e_X6_copy_44, e_X6_copy_45, e_X6_copy_47, e_X6_copy_48, e_X6_copy_51, e_X6_copy_53, e_X6_copy_55, e_X6_copy_56, e_X6_copy_59, e_X6_copy_61, e_X6_copy_62, e_X6_copy_63, e_X6_copy_65, e_X6_copy_66, e_X6_copy_68, e_X6_copy_69, e_X6_copy_70, e_X6_copy_73, e_X6_copy_75, e_X6_copy_76, e_X6_copy_77, e_X6_copy_78, e_X6_copy_79, e_X6_copy_81, e_X6_copy_82, e_X6_copy_83, e_X6_copy_84, e_X6_copy_87, e_X6_copy_90, e_X6_copy_92, toL1, toL0, ite_self, if_true, if_false, ite_true, ite_false, nI_add, pk_mul, z_eq, z_lt, z_le, z_ge, z_gt, nI_eq, nI_leI, nI_ltI, bI_0, bI_1, not_true_eq_false, not_false_eq_true]
    rw [if_pos (by omega)]
    exact K h' J F
  | succ d ih =>
    intro k x h' e J F
    have p1 : nI m - nI 1 = nI (m - 1) := pk_sub (by omega)
    have p2 : nI (m - 1) - nI k = nI d := by rw [pk_sub (by omega), show m - 1 - k = d by omega]
    rw [e_X6_copy_28]
    simp (disch := first | assumption | omega | exact isB_0 | exact isB_1 | exact isB_bI _ | decide) only [e_X6_copy_0, e_X6_copy_1, e_X6_copy_2, e_X6_copy_3, e_X6_copy_4, e_X6_copy_6, e_X6_copy_8, e_X6_copy_11, e_X6_copy_13, e_X6_copy_15, e_X6_copy_18, e_X6_copy_19, e_X6_copy_21, e_X6_copy_24, e_X6_copy_25, e_X6_copy_26, e_X6_copy_30, e_X6_copy_32, e_X6_copy_35, e_X6_copy_36, e_X6_copy_38, e_X6_copy_41, e_X6_copy_43, e_X6_copy_44, e_X6_copy_45, e_X6_copy_47, e_X6_copy_48, e_X6_copy_51, e_X6_copy_53, e_X6_copy_55, e_X6_copy_56, e_X6_copy_59, e_X6_copy_61, e_X6_copy_62, e_X6_copy_63, e_X6_copy_65, e_X6_copy_66, e_X6_copy_68, e_X6_copy_69, e_X6_copy_70, e_X6_copy_73, e_X6_copy_75, e_X6_copy_76, e_X6_copy_77, e_X6_copy_78, e_X6_copy_79, e_X6_copy_81, e_X6_copy_82, e_X6_copy_83, e_X6_copy_84, e_X6_copy_87, e_X6_copy_90, e_X6_copy_92, vupd, J, p1, p2, toL1, toL0, ite_self, if_true, if_false, ite_true, ite_false, nI_add, pk_mul, z_eq, z_lt, z_le, z_ge, z_gt, nI_eq, nI_leI, nI_ltI, bI_0, bI_1, not_true_eq_false, not_false_eq_true]
    rw [if_neg (by omega), if_neg (by omega), cpF_dn (by omega) (by omega)]
    exact ih (k + 1) _ _ (by omega) (by rw [gL_sL, if_pos rfl]) (F.tr (Fr.sL rfl))
theorem cp_fin {S : Sy} (r9 : ∀ s i, s < 4 → i < 40 → gL h 44 (40 * s + i) = yN S s i) {s t i j m : Nat} (hs : s < 4) (ht : t < 4) (hi : i + m ≤ 40) (hj : j + m ≤ 40) : ∀ u x, u < 4 → x < 40 → cpF (gL h 44) (40 * s + i) (40 * t + j) 0 m (40 * u + x) = updF (yN S) t (cpG (yN S s) (yN S t) i j m) u x := by
  intro u x hu hx
  unfold cpF updF cpG
  by_cases q : u = t
  · rw [if_pos q]
    by_cases w : j ≤ x ∧ x < j + m
    · rw [if_pos w, if_pos (by omega), show 40 * s + i + (40 * u + x - (40 * t + j)) = 40 * s + (i + (x - j)) by omega]
      exact r9 s _ hs (by omega)
    · rw [if_neg w, if_neg (by omega), q]
      exact r9 t x ht hx
  · rw [if_neg q, if_neg (by omega)]
    exact r9 u x hu hx
theorem m_nc0 {a p b q n : Int32} (h1 : ¬ ((nI 0 ≤ a ∧ a ≤ nI 3) ∧ (nI 0 ≤ b ∧ b ≤ nI 3))) : Ev E mX6_notCopied 0 [.ref 36, .int a, .int p, .int b, .int q, .int n, .null] [] h Q = Q (some (.int (-1000000001))) h := by
  by_cases h2 : nI 0 ≤ a ∧ a ≤ nI 3
  · have h3 : ¬ (nI 0 ≤ b ∧ b ≤ nI 3) := fun z => h1 ⟨h2, z⟩
    simp (disch := first | assumption | omega | exact isB_0 | exact isB_1 | exact isB_bI _ | decide) only [e_X6_notCopied_0, e_X6_notCopied_1, e_X6_notCopied_4, e_X6_notCopied_7, e_X6_notCopied_8, e_X6_notCopied_11, e_X6_notCopied_14, e_X6_notCopied_16, e_X6_notCopied_17, e_X6_notCopied_18, e_X6_notCopied_21, e_X6_notCopied_22, e_X6_notCopied_23, e_X6_notCopied_26, e_X6_notCopied_27, e_X6_notCopied_30, e_X6_notCopied_31, e_X6_notCopied_32, e_X6_notCopied_35, e_X6_notCopied_37, e_X6_notCopied_38, e_X6_notCopied_39, e_X6_notCopied_42, e_X6_notCopied_43, e_X6_notCopied_44, e_X6_notCopied_45, e_X6_notCopied_48, e_X6_notCopied_49, e_X6_notCopied_50, e_X6_notCopied_53, e_X6_notCopied_55, e_X6_notCopied_58, e_X6_notCopied_61, e_X6_notCopied_62, e_X6_notCopied_65, e_X6_notCopied_67, e_X6_notCopied_70, e_X6_notCopied_72, e_X6_notCopied_73, e_X6_notCopied_76, e_X6_notCopied_77, e_X6_notCopied_78, e_X6_notCopied_79, e_X6_notCopied_80, e_X6_notCopied_83, e_X6_notCopied_85, e_X6_notCopied_86, e_X6_notCopied_89, e_X6_notCopied_90, e_X6_notCopied_91, e_X6_notCopied_93, e_X6_notCopied_94, e_X6_notCopied_97, e_X6_notCopied_98, e_X6_notCopied_101, e_X6_notCopied_102, e_X6_notCopied_104, e_X6_notCopied_106, e_X6_notCopied_109, e_X6_notCopied_110, e_X6_notCopied_113, e_X6_notCopied_115, m_isSheet, bI_t h2, bI_f h3, Nat.one_ne_zero, and_self, and_true, true_and, Nat.zero_le, nI_ltI, toL1, toL0, ite_self, if_true, if_false, ite_true, ite_false, nI_add, pk_mul, z_eq, z_lt, z_le, z_ge, z_gt, nI_eq, nI_leI, nI_ltI, bI_0, bI_1, not_true_eq_false, not_false_eq_true]
  · simp (disch := first | assumption | omega | exact isB_0 | exact isB_1 | exact isB_bI _ | decide) only [e_X6_notCopied_0, e_X6_notCopied_1, e_X6_notCopied_4, e_X6_notCopied_7, e_X6_notCopied_8, e_X6_notCopied_11, e_X6_notCopied_14, e_X6_notCopied_16, e_X6_notCopied_17, e_X6_notCopied_18, e_X6_notCopied_21, e_X6_notCopied_22, e_X6_notCopied_23, e_X6_notCopied_26, e_X6_notCopied_27, e_X6_notCopied_30, e_X6_notCopied_31, e_X6_notCopied_32, e_X6_notCopied_35, e_X6_notCopied_37, e_X6_notCopied_38, e_X6_notCopied_39, e_X6_notCopied_42, e_X6_notCopied_43, e_X6_notCopied_44, e_X6_notCopied_45, e_X6_notCopied_48, e_X6_notCopied_49, e_X6_notCopied_50, e_X6_notCopied_53, e_X6_notCopied_55, e_X6_notCopied_58, e_X6_notCopied_61, e_X6_notCopied_62, e_X6_notCopied_65, e_X6_notCopied_67, e_X6_notCopied_70, e_X6_notCopied_72, e_X6_notCopied_73, e_X6_notCopied_76, e_X6_notCopied_77, e_X6_notCopied_78, e_X6_notCopied_79, e_X6_notCopied_80, e_X6_notCopied_83, e_X6_notCopied_85, e_X6_notCopied_86, e_X6_notCopied_89, e_X6_notCopied_90, e_X6_notCopied_91, e_X6_notCopied_93, e_X6_notCopied_94, e_X6_notCopied_97, e_X6_notCopied_98, e_X6_notCopied_101, e_X6_notCopied_102, e_X6_notCopied_104, e_X6_notCopied_106, e_X6_notCopied_109, e_X6_notCopied_110, e_X6_notCopied_113, e_X6_notCopied_115, m_isSheet, bI_f h2, and_self, and_true, true_and, Nat.zero_le, nI_ltI, toL1, toL0, ite_self, if_true, if_false, ite_true, ite_false, nI_add, pk_mul, z_eq, z_lt, z_le, z_ge, z_gt, nI_eq, nI_leI, nI_ltI, bI_0, bI_1, not_true_eq_false, not_false_eq_true]
theorem m_copy (R : RM h S) (W : WS S) {a p b q n : Int32} (K : Mo h Q (f_copy a p b q n S)) : Ev E mX6_copy 0 [.ref 36, .int a, .int p, .int b, .int q, .int n, .null, .null, .null] [] h Q := by
  unfold f_copy at K
  by_cases h1 : (nI 0 ≤ a ∧ a ≤ nI 3) ∧ (nI 0 ≤ b ∧ b ≤ nI 3)
  · rw [if_pos h1] at K
    obtain ⟨s, _, hs3, rfl⟩ := vI_of (by decide) h1.1 (by decide)
    obtain ⟨t, _, ht3, rfl⟩ := vI_of (by decide) h1.2 (by decide)
    have hs : s < 4 := by omega
    have ht : t < 4 := by omega
    have r7 := R.2.2.2.2.2.2.1 s hs
    have t7 := R.2.2.2.2.2.2.1 t ht
    have hb := W.b hs
    have tb := W.b ht
    have hz := W.z hs
    have tz := W.z ht
    rw [nv_nI (by omega), nv_nI (by omega)] at K
    by_cases h3 : yW S s = 0
    · rw [if_pos (Or.inl h3)] at K
      simp (disch := first | assumption | omega | exact isB_0 | exact isB_1 | exact isB_bI _ | decide) only [e_X6_copy_0, e_X6_copy_1, e_X6_copy_2, e_X6_copy_3, e_X6_copy_4, e_X6_copy_6, e_X6_copy_8, e_X6_copy_11, e_X6_copy_13, e_X6_copy_15, e_X6_copy_18, e_X6_copy_19, e_X6_copy_21, e_X6_copy_24, e_X6_copy_25, e_X6_copy_26, e_X6_copy_30, e_X6_copy_32, e_X6_copy_35, e_X6_copy_36, e_X6_copy_38, e_X6_copy_41, e_X6_copy_43, e_X6_copy_44, e_X6_copy_45, e_X6_copy_47, e_X6_copy_48, e_X6_copy_51, e_X6_copy_53, e_X6_copy_55, e_X6_copy_56, e_X6_copy_59, e_X6_copy_61, e_X6_copy_62, e_X6_copy_63, e_X6_copy_65, e_X6_copy_66, e_X6_copy_68, e_X6_copy_69, e_X6_copy_70, e_X6_copy_73, e_X6_copy_75, e_X6_copy_76, e_X6_copy_77, e_X6_copy_78, e_X6_copy_79, e_X6_copy_81, e_X6_copy_82, e_X6_copy_83, e_X6_copy_84, e_X6_copy_87, e_X6_copy_90, e_X6_copy_92, e_X6_notCopied_0, e_X6_notCopied_1, e_X6_notCopied_4, e_X6_notCopied_7, e_X6_notCopied_8, e_X6_notCopied_11, e_X6_notCopied_14, e_X6_notCopied_16, e_X6_notCopied_17, e_X6_notCopied_18, e_X6_notCopied_21, e_X6_notCopied_22, e_X6_notCopied_23, e_X6_notCopied_26, e_X6_notCopied_27, e_X6_notCopied_30, e_X6_notCopied_31, e_X6_notCopied_32, e_X6_notCopied_35, e_X6_notCopied_37, e_X6_notCopied_38, e_X6_notCopied_39, e_X6_notCopied_42, e_X6_notCopied_43, e_X6_notCopied_44, e_X6_notCopied_45, e_X6_notCopied_48, e_X6_notCopied_49, e_X6_notCopied_50, e_X6_notCopied_53, e_X6_notCopied_55, e_X6_notCopied_58, e_X6_notCopied_61, e_X6_notCopied_62, e_X6_notCopied_65, e_X6_notCopied_67, e_X6_notCopied_70, e_X6_notCopied_72, e_X6_notCopied_73, e_X6_notCopied_76, e_X6_notCopied_77, e_X6_notCopied_78, e_X6_notCopied_79, e_X6_notCopied_80, e_X6_notCopied_83, e_X6_notCopied_85, e_X6_notCopied_86, e_X6_notCopied_89, e_X6_notCopied_90, e_X6_notCopied_91, e_X6_notCopied_93, e_X6_notCopied_94, e_X6_notCopied_97, e_X6_notCopied_98, e_X6_notCopied_101, e_X6_notCopied_102, e_X6_notCopied_104, e_X6_notCopied_106, e_X6_notCopied_109, e_X6_notCopied_110, e_X6_notCopied_113, e_X6_notCopied_115, m_isSheet, hs3, ht3, r7, h3, kz_6, m_f5 R, Nat.one_ne_zero, and_self, and_true, true_and, Nat.zero_le, nI_ltI, toL1, toL0, ite_self, if_true, if_false, ite_true, ite_false, nI_add, pk_mul, z_eq, z_lt, z_le, z_ge, z_gt, nI_eq, nI_leI, nI_ltI, bI_0, bI_1, not_true_eq_false, not_false_eq_true]
      exact m_bad R K
    · by_cases h4 : yW S t = 0
      · rw [if_pos (Or.inr h4)] at K
        simp (disch := first | assumption | omega | exact isB_0 | exact isB_1 | exact isB_bI _ | decide) only [e_X6_copy_0, e_X6_copy_1, e_X6_copy_2, e_X6_copy_3, e_X6_copy_4, e_X6_copy_6, e_X6_copy_8, e_X6_copy_11, e_X6_copy_13, e_X6_copy_15, e_X6_copy_18, e_X6_copy_19, e_X6_copy_21, e_X6_copy_24, e_X6_copy_25, e_X6_copy_26, e_X6_copy_30, e_X6_copy_32, e_X6_copy_35, e_X6_copy_36, e_X6_copy_38, e_X6_copy_41, e_X6_copy_43, e_X6_copy_44, e_X6_copy_45, e_X6_copy_47, e_X6_copy_48, e_X6_copy_51, e_X6_copy_53, e_X6_copy_55, e_X6_copy_56, e_X6_copy_59, e_X6_copy_61, e_X6_copy_62, e_X6_copy_63, e_X6_copy_65, e_X6_copy_66, e_X6_copy_68, e_X6_copy_69, e_X6_copy_70, e_X6_copy_73, e_X6_copy_75, e_X6_copy_76, e_X6_copy_77, e_X6_copy_78, e_X6_copy_79, e_X6_copy_81, e_X6_copy_82, e_X6_copy_83, e_X6_copy_84, e_X6_copy_87, e_X6_copy_90, e_X6_copy_92, e_X6_notCopied_0, e_X6_notCopied_1, e_X6_notCopied_4, e_X6_notCopied_7, e_X6_notCopied_8, e_X6_notCopied_11, e_X6_notCopied_14, e_X6_notCopied_16, e_X6_notCopied_17, e_X6_notCopied_18, e_X6_notCopied_21, e_X6_notCopied_22, e_X6_notCopied_23, e_X6_notCopied_26, e_X6_notCopied_27, e_X6_notCopied_30, e_X6_notCopied_31, e_X6_notCopied_32, e_X6_notCopied_35, e_X6_notCopied_37, e_X6_notCopied_38, e_X6_notCopied_39, e_X6_notCopied_42, e_X6_notCopied_43, e_X6_notCopied_44, e_X6_notCopied_45, e_X6_notCopied_48, e_X6_notCopied_49, e_X6_notCopied_50, e_X6_notCopied_53, e_X6_notCopied_55, e_X6_notCopied_58, e_X6_notCopied_61, e_X6_notCopied_62, e_X6_notCopied_65, e_X6_notCopied_67, e_X6_notCopied_70, e_X6_notCopied_72, e_X6_notCopied_73, e_X6_notCopied_76, e_X6_notCopied_77, e_X6_notCopied_78, e_X6_notCopied_79, e_X6_notCopied_80, e_X6_notCopied_83, e_X6_notCopied_85, e_X6_notCopied_86, e_X6_notCopied_89, e_X6_notCopied_90, e_X6_notCopied_91, e_X6_notCopied_93, e_X6_notCopied_94, e_X6_notCopied_97, e_X6_notCopied_98, e_X6_notCopied_101, e_X6_notCopied_102, e_X6_notCopied_104, e_X6_notCopied_106, e_X6_notCopied_109, e_X6_notCopied_110, e_X6_notCopied_113, e_X6_notCopied_115, m_isSheet, hs3, ht3, r7, h3, t7, h4, kz_6, m_f5 R, Nat.one_ne_zero, and_self, and_true, true_and, Nat.zero_le, nI_ltI, toL1, toL0, ite_self, if_true, if_false, ite_true, ite_false, nI_add, pk_mul, z_eq, z_lt, z_le, z_ge, z_gt, nI_eq, nI_leI, nI_ltI, bI_0, bI_1, not_true_eq_false, not_false_eq_true]
        exact m_bad R K
      · rw [if_neg (fun z => z.elim h3 h4)] at K
        by_cases h5 : yW S s = yW S t
        · rw [if_pos h5] at K
          by_cases h6 : hasR p n (yZ S s) ∧ hasR q n (yZ S t)
          · rw [if_pos h6] at K
            have e6 : (if hasR p n (yZ S s) ∧ hasR q n (yZ S t) then nI 0 else -1000000001) = nI 0 := if_pos h6
            obtain ⟨i, hi, rfl⟩ : ∃ k, k < 2147483648 ∧ p = nI k := (i32_c p).resolve_left (Int32.not_lt.mpr h6.1.1)
            obtain ⟨j, hj, rfl⟩ : ∃ k, k < 2147483648 ∧ q = nI k := (i32_c q).resolve_left (Int32.not_lt.mpr h6.2.1)
            obtain ⟨m, hm, rfl⟩ : ∃ k, k < 2147483648 ∧ n = nI k := (i32_c n).resolve_left (Int32.not_lt.mpr h6.1.2.1)
            have g6 := (hasR_n hi hm).mp h6.1
            have g7 := (hasR_n hj hm).mp h6.2
            have h4' : ¬ yW S t = 0 := h4
            rw [nv_nI (by omega), nv_nI (by omega), nv_nI (by omega)] at K
            simp (disch := first | assumption | omega | exact isB_0 | exact isB_1 | exact isB_bI _ | decide) only [e_X6_copy_0, e_X6_copy_1, e_X6_copy_2, e_X6_copy_3, e_X6_copy_4, e_X6_copy_6, e_X6_copy_8, e_X6_copy_11, e_X6_copy_13, e_X6_copy_15, e_X6_copy_18, e_X6_copy_19, e_X6_copy_21, e_X6_copy_24, e_X6_copy_25, e_X6_copy_26, e_X6_copy_30, e_X6_copy_32, e_X6_copy_35, e_X6_copy_36, e_X6_copy_38, e_X6_copy_41, e_X6_copy_43, e_X6_copy_44, e_X6_copy_45, e_X6_copy_47, e_X6_copy_48, e_X6_copy_51, e_X6_copy_53, e_X6_copy_55, e_X6_copy_56, e_X6_copy_59, e_X6_copy_61, e_X6_copy_62, e_X6_copy_63, e_X6_copy_65, e_X6_copy_66, e_X6_copy_68, e_X6_copy_69, e_X6_copy_70, e_X6_copy_73, e_X6_copy_75, e_X6_copy_76, e_X6_copy_77, e_X6_copy_78, e_X6_copy_79, e_X6_copy_81, e_X6_copy_82, e_X6_copy_83, e_X6_copy_84, e_X6_copy_87, e_X6_copy_90, e_X6_copy_92, e_X6_notCopied_0, e_X6_notCopied_1, e_X6_notCopied_4, e_X6_notCopied_7, e_X6_notCopied_8, e_X6_notCopied_11, e_X6_notCopied_14, e_X6_notCopied_16, e_X6_notCopied_17, e_X6_notCopied_18, e_X6_notCopied_21, e_X6_notCopied_22, e_X6_notCopied_23, e_X6_notCopied_26, e_X6_notCopied_27, e_X6_notCopied_30, e_X6_notCopied_31, e_X6_notCopied_32, e_X6_notCopied_35, e_X6_notCopied_37, e_X6_notCopied_38, e_X6_notCopied_39, e_X6_notCopied_42, e_X6_notCopied_43, e_X6_notCopied_44, e_X6_notCopied_45, e_X6_notCopied_48, e_X6_notCopied_49, e_X6_notCopied_50, e_X6_notCopied_53, e_X6_notCopied_55, e_X6_notCopied_58, e_X6_notCopied_61, e_X6_notCopied_62, e_X6_notCopied_65, e_X6_notCopied_67, e_X6_notCopied_70, e_X6_notCopied_72, e_X6_notCopied_73, e_X6_notCopied_76, e_X6_notCopied_77, e_X6_notCopied_78, e_X6_notCopied_79, e_X6_notCopied_80, e_X6_notCopied_83, e_X6_notCopied_85, e_X6_notCopied_86, e_X6_notCopied_89, e_X6_notCopied_90, e_X6_notCopied_91, e_X6_notCopied_93, e_X6_notCopied_94, e_X6_notCopied_97, e_X6_notCopied_98, e_X6_notCopied_101, e_X6_notCopied_102, e_X6_notCopied_104, e_X6_notCopied_106, e_X6_notCopied_109, e_X6_notCopied_110, e_X6_notCopied_113, e_X6_notCopied_115, m_isSheet, hs3, ht3, r7, h5, t7, h4, m_ncE R W hs ht, e6, Nat.one_ne_zero, and_self, and_true, true_and, Nat.zero_le, nI_ltI, toL1, toL0, ite_self, if_true, if_false, ite_true, ite_false, nI_add, pk_mul, z_eq, z_lt, z_le, z_ge, z_gt, nI_eq, nI_leI, nI_ltI, bI_0, bI_1, not_true_eq_false, not_false_eq_true]
            have fin : ∀ h', gL h' 44 = cpF (gL h 44) (40 * s + i) (40 * t + j) 0 m → Fr (fun o => o = 44) h h' → Q (some (.int (nI m))) h' := fun h' J F => K h' (R.row (fun u x hu hx => by rw [J]; exact cp_fin R.2.2.2.2.2.2.2.2 hs ht (by omega) (by omega) u x hu hx) F) (F.mono (fun o w => by unfold hiC; omega))
            by_cases w : j ≤ i
            · exact m_coU h hs ht (by omega) (by omega) w _ fin m 0 .null h (by omega) cpF_0.symm Fr.rf
            · exact m_coD h hs ht (by omega) (by omega) (by omega) _ fin m 0 .null h (by omega) cpF_0.symm Fr.rf
          · rw [if_neg h6] at K
            have e6 : (if hasR p n (yZ S s) ∧ hasR q n (yZ S t) then nI 0 else -1000000001) = -1000000001 := if_neg h6
            simp (disch := first | assumption | omega | exact isB_0 | exact isB_1 | exact isB_bI _ | decide) only [e_X6_copy_0, e_X6_copy_1, e_X6_copy_2, e_X6_copy_3, e_X6_copy_4, e_X6_copy_6, e_X6_copy_8, e_X6_copy_11, e_X6_copy_13, e_X6_copy_15, e_X6_copy_18, e_X6_copy_19, e_X6_copy_21, e_X6_copy_24, e_X6_copy_25, e_X6_copy_26, e_X6_copy_30, e_X6_copy_32, e_X6_copy_35, e_X6_copy_36, e_X6_copy_38, e_X6_copy_41, e_X6_copy_43, e_X6_copy_44, e_X6_copy_45, e_X6_copy_47, e_X6_copy_48, e_X6_copy_51, e_X6_copy_53, e_X6_copy_55, e_X6_copy_56, e_X6_copy_59, e_X6_copy_61, e_X6_copy_62, e_X6_copy_63, e_X6_copy_65, e_X6_copy_66, e_X6_copy_68, e_X6_copy_69, e_X6_copy_70, e_X6_copy_73, e_X6_copy_75, e_X6_copy_76, e_X6_copy_77, e_X6_copy_78, e_X6_copy_79, e_X6_copy_81, e_X6_copy_82, e_X6_copy_83, e_X6_copy_84, e_X6_copy_87, e_X6_copy_90, e_X6_copy_92, e_X6_notCopied_0, e_X6_notCopied_1, e_X6_notCopied_4, e_X6_notCopied_7, e_X6_notCopied_8, e_X6_notCopied_11, e_X6_notCopied_14, e_X6_notCopied_16, e_X6_notCopied_17, e_X6_notCopied_18, e_X6_notCopied_21, e_X6_notCopied_22, e_X6_notCopied_23, e_X6_notCopied_26, e_X6_notCopied_27, e_X6_notCopied_30, e_X6_notCopied_31, e_X6_notCopied_32, e_X6_notCopied_35, e_X6_notCopied_37, e_X6_notCopied_38, e_X6_notCopied_39, e_X6_notCopied_42, e_X6_notCopied_43, e_X6_notCopied_44, e_X6_notCopied_45, e_X6_notCopied_48, e_X6_notCopied_49, e_X6_notCopied_50, e_X6_notCopied_53, e_X6_notCopied_55, e_X6_notCopied_58, e_X6_notCopied_61, e_X6_notCopied_62, e_X6_notCopied_65, e_X6_notCopied_67, e_X6_notCopied_70, e_X6_notCopied_72, e_X6_notCopied_73, e_X6_notCopied_76, e_X6_notCopied_77, e_X6_notCopied_78, e_X6_notCopied_79, e_X6_notCopied_80, e_X6_notCopied_83, e_X6_notCopied_85, e_X6_notCopied_86, e_X6_notCopied_89, e_X6_notCopied_90, e_X6_notCopied_91, e_X6_notCopied_93, e_X6_notCopied_94, e_X6_notCopied_97, e_X6_notCopied_98, e_X6_notCopied_101, e_X6_notCopied_102, e_X6_notCopied_104, e_X6_notCopied_106, e_X6_notCopied_109, e_X6_notCopied_110, e_X6_notCopied_113, e_X6_notCopied_115, m_isSheet, hs3, ht3, r7, h5, t7, h4, m_ncE R W hs ht, e6, kz_1, m_f0 R, Nat.one_ne_zero, and_self, and_true, true_and, Nat.zero_le, nI_ltI, toL1, toL0, ite_self, if_true, if_false, ite_true, ite_false, nI_add, pk_mul, z_eq, z_lt, z_le, z_ge, z_gt, nI_eq, nI_leI, nI_ltI, bI_0, bI_1, not_true_eq_false, not_false_eq_true]
            exact m_bad R K
        · rw [if_neg h5] at K
          simp (disch := first | assumption | omega | exact isB_0 | exact isB_1 | exact isB_bI _ | decide) only [e_X6_copy_0, e_X6_copy_1, e_X6_copy_2, e_X6_copy_3, e_X6_copy_4, e_X6_copy_6, e_X6_copy_8, e_X6_copy_11, e_X6_copy_13, e_X6_copy_15, e_X6_copy_18, e_X6_copy_19, e_X6_copy_21, e_X6_copy_24, e_X6_copy_25, e_X6_copy_26, e_X6_copy_30, e_X6_copy_32, e_X6_copy_35, e_X6_copy_36, e_X6_copy_38, e_X6_copy_41, e_X6_copy_43, e_X6_copy_44, e_X6_copy_45, e_X6_copy_47, e_X6_copy_48, e_X6_copy_51, e_X6_copy_53, e_X6_copy_55, e_X6_copy_56, e_X6_copy_59, e_X6_copy_61, e_X6_copy_62, e_X6_copy_63, e_X6_copy_65, e_X6_copy_66, e_X6_copy_68, e_X6_copy_69, e_X6_copy_70, e_X6_copy_73, e_X6_copy_75, e_X6_copy_76, e_X6_copy_77, e_X6_copy_78, e_X6_copy_79, e_X6_copy_81, e_X6_copy_82, e_X6_copy_83, e_X6_copy_84, e_X6_copy_87, e_X6_copy_90, e_X6_copy_92, e_X6_notCopied_0, e_X6_notCopied_1, e_X6_notCopied_4, e_X6_notCopied_7, e_X6_notCopied_8, e_X6_notCopied_11, e_X6_notCopied_14, e_X6_notCopied_16, e_X6_notCopied_17, e_X6_notCopied_18, e_X6_notCopied_21, e_X6_notCopied_22, e_X6_notCopied_23, e_X6_notCopied_26, e_X6_notCopied_27, e_X6_notCopied_30, e_X6_notCopied_31, e_X6_notCopied_32, e_X6_notCopied_35, e_X6_notCopied_37, e_X6_notCopied_38, e_X6_notCopied_39, e_X6_notCopied_42, e_X6_notCopied_43, e_X6_notCopied_44, e_X6_notCopied_45, e_X6_notCopied_48, e_X6_notCopied_49, e_X6_notCopied_50, e_X6_notCopied_53, e_X6_notCopied_55, e_X6_notCopied_58, e_X6_notCopied_61, e_X6_notCopied_62, e_X6_notCopied_65, e_X6_notCopied_67, e_X6_notCopied_70, e_X6_notCopied_72, e_X6_notCopied_73, e_X6_notCopied_76, e_X6_notCopied_77, e_X6_notCopied_78, e_X6_notCopied_79, e_X6_notCopied_80, e_X6_notCopied_83, e_X6_notCopied_85, e_X6_notCopied_86, e_X6_notCopied_89, e_X6_notCopied_90, e_X6_notCopied_91, e_X6_notCopied_93, e_X6_notCopied_94, e_X6_notCopied_97, e_X6_notCopied_98, e_X6_notCopied_101, e_X6_notCopied_102, e_X6_notCopied_104, e_X6_notCopied_106, e_X6_notCopied_109, e_X6_notCopied_110, e_X6_notCopied_113, e_X6_notCopied_115, m_isSheet, hs3, ht3, r7, h3, t7, h4, h5, kz_3, m_f2 R, Nat.one_ne_zero, and_self, and_true, true_and, Nat.zero_le, nI_ltI, toL1, toL0, ite_self, if_true, if_false, ite_true, ite_false, nI_add, pk_mul, z_eq, z_lt, z_le, z_ge, z_gt, nI_eq, nI_leI, nI_ltI, bI_0, bI_1, not_true_eq_false, not_false_eq_true]
          exact m_bad R K
  · rw [if_neg h1] at K
    simp (disch := first | assumption | omega | exact isB_0 | exact isB_1 | exact isB_bI _ | decide) only [e_X6_copy_0, e_X6_copy_1, e_X6_copy_2, e_X6_copy_3, e_X6_copy_4, e_X6_copy_6, e_X6_copy_8, e_X6_copy_11, e_X6_copy_13, e_X6_copy_15, e_X6_copy_18, e_X6_copy_19, e_X6_copy_21, e_X6_copy_24, e_X6_copy_25, e_X6_copy_26, e_X6_copy_30, e_X6_copy_32, e_X6_copy_35, e_X6_copy_36, e_X6_copy_38, e_X6_copy_41, e_X6_copy_43, e_X6_copy_44, e_X6_copy_45, e_X6_copy_47, e_X6_copy_48, e_X6_copy_51, e_X6_copy_53, e_X6_copy_55, e_X6_copy_56, e_X6_copy_59, e_X6_copy_61, e_X6_copy_62, e_X6_copy_63, e_X6_copy_65, e_X6_copy_66, e_X6_copy_68, e_X6_copy_69, e_X6_copy_70, e_X6_copy_73, e_X6_copy_75, e_X6_copy_76, e_X6_copy_77, e_X6_copy_78, e_X6_copy_79, e_X6_copy_81, e_X6_copy_82, e_X6_copy_83, e_X6_copy_84, e_X6_copy_87, e_X6_copy_90, e_X6_copy_92, m_nc0 h1, kz_1, m_f0 R, and_self, and_true, true_and, Nat.zero_le, nI_ltI, toL1, toL0, ite_self, if_true, if_false, ite_true, ite_false, nI_add, pk_mul, z_eq, z_lt, z_le, z_ge, z_gt, nI_eq, nI_leI, nI_ltI, bI_0, bI_1, not_true_eq_false, not_false_eq_true]
    exact m_bad R K
end COPY
