/-! foreseeing in both programs; on -/
theorem min_I {s : Nat} : (if s < 99999 then nI s else nI 99999) = nI (min 99999 s) := by
  by_cases q : s < 99999
  · rw [if_pos q, Nat.min_eq_right (by omega)]
  · rw [if_neg q, Nat.min_eq_left (by omega)]
theorem sumN_le {p : Nat → Nat} {b : Nat} : ∀ n, (∀ i, i < n → p i ≤ b) → sumN p n ≤ n * b
  | 0, _ => Nat.zero_le _
  | n + 1, hx => by
    have h1 := sumN_le n (fun i hi => hx i (by omega))
    have h2 := hx n (by omega)
    rw [sumN, Nat.succ_mul]
    omega
/-- what the views in o's undrawn frames are worth, by a row g of worths -/
def ernG (C : Cty) (g : Nat → Nat) (o : Nat) : Nat → Nat := fun f => if zO C f = o ∧ zU C f = 0 then g (zV C f) else 0
def f_on (a n : Int32) (S : Sy) : Int32 × Sy :=
  if nI 0 ≤ a ∧ a ≤ nI 3 then if nI 0 ≤ n ∧ n ≤ nI 400 then ok (foreM (yC S) (nv n) (nv a)) S else bad 0 S else bad 0 S
section FORE2
variable {E : En} {h : Hp} {Q : Option Value → Hp → Prop} {S : Sy} {C D : Cty}
theorem v_foL (R : RC h 1 C) (W : WC C) {n : Nat} (hn : n ≤ 400) (K : ∀ h', (∀ v, v < zF C → gA h' 34 v = nI (worS (zK C v) (zE C v) (zH C) n)) → Fr (fun o => o = 34) h h' → Q none h') : ∀ (d v : Nat) (h' : Hp), v + d = zF C → (∀ j, j < v → gA h' 34 j = nI (worS (zK C j) (zE C j) (zH C) n)) → Fr (fun o => o = 34) h h' → Ev E mX5_foresee 2 [.ref 0, .int (nI n), .int (nI v)] [] h' Q := by
  have hC := isC_1
  have h8 := W.f
  have hh := W.h
  intro d
  induction d with
  | zero =>
    intro v h' e J F
    have R' := R.fr F (fun o h1 h2 => by omega)
    have r := R'.F
    rw [e_X5_foresee_2]
    simp (disch := first | assumption | omega | exact isB_0 | exact isB_1 | exact isB_bI _ | decide) only [e_X5_foresee_0, e_X5_foresee_1, e_X5_foresee_3, e_X5_foresee_4, e_X5_foresee_7, e_X5_foresee_10, e_X5_foresee_13, e_X5_foresee_14, e_X5_foresee_17, e_X5_foresee_18, e_X5_foresee_19, e_X5_foresee_22, e_X5_foresee_25, e_X5_foresee_26, e_X5_foresee_27, e_X5_foresee_28, e_X5_foresee_31, e_X5_foresee_34, e_X5_foresee_35, e_X5_foresee_36, e_X5_foresee_37, e_X5_foresee_40, e_X5_foresee_43, e_X5_foresee_44, e_X5_foresee_47, e_X5_foresee_48, e_X5_foresee_51, e_X5_foresee_54, r, toL1, toL0, ite_self, if_true, if_false, ite_true, ite_false, nI_add, pk_mul, z_eq, z_lt, z_le, z_ge, z_gt, nI_eq, nI_leI, nI_ltI, bI_0, bI_1, not_true_eq_false, not_false_eq_true]
    rw [if_pos (by omega)]
    exact K h' (fun j hj => J j (by omega)) F
  | succ d ih =>
    intro v h' e J F
    have R' := R.fr F (fun o h1 h2 => by omega)
    have r := R'.F
    have hv8 : v < 8 := by omega
    rw [e_X5_foresee_2]
    simp (disch := first | assumption | omega | exact isB_0 | exact isB_1 | exact isB_bI _ | decide) only [e_X5_foresee_0, e_X5_foresee_1, e_X5_foresee_3, e_X5_foresee_4, e_X5_foresee_7, e_X5_foresee_10, e_X5_foresee_13, e_X5_foresee_14, e_X5_foresee_17, e_X5_foresee_18, e_X5_foresee_19, e_X5_foresee_22, e_X5_foresee_25, e_X5_foresee_26, e_X5_foresee_27, e_X5_foresee_28, e_X5_foresee_31, e_X5_foresee_34, e_X5_foresee_35, e_X5_foresee_36, e_X5_foresee_37, e_X5_foresee_40, e_X5_foresee_43, e_X5_foresee_44, e_X5_foresee_47, e_X5_foresee_48, e_X5_foresee_51, e_X5_foresee_54, r, R'.K hv8, R'.E hv8, R'.H, s_worthInAll (W.k hv8) (W.e hv8) hh hn, toL1, toL0, ite_self, if_true, if_false, ite_true, ite_false, nI_add, pk_mul, z_eq, z_lt, z_le, z_ge, z_gt, nI_eq, nI_leI, nI_ltI, bI_0, bI_1, not_true_eq_false, not_false_eq_true]
    rw [if_neg (by omega)]
    refine ih (v + 1) _ (by omega) (fun j hj => ?_) (F.tr (Fr.sA rfl))
    rw [gA_sA, if_pos rfl]
    show (if j = v then _ else _) = _
    by_cases q : j = v
    · rw [if_pos q, q]
    · rw [if_neg q]; exact J j (by omega)
theorem v_foresee (R : RC h 1 C) (W : WC C) {n : Nat} (hn : n ≤ 400) (K : ∀ h', (∀ v, v < zF C → gA h' 34 v = nI (worS (zK C v) (zE C v) (zH C) n)) → Fr (fun o => o = 34) h h' → Q none h') : Ev E mX5_foresee 0 [.ref 0, .int (nI n), .null] [] h Q := by
  simp (disch := first | assumption | omega | exact isB_0 | exact isB_1 | exact isB_bI _ | decide) only [e_X5_foresee_0, e_X5_foresee_1, e_X5_foresee_3, e_X5_foresee_4, e_X5_foresee_7, e_X5_foresee_10, e_X5_foresee_13, e_X5_foresee_14, e_X5_foresee_17, e_X5_foresee_18, e_X5_foresee_19, e_X5_foresee_22, e_X5_foresee_25, e_X5_foresee_26, e_X5_foresee_27, e_X5_foresee_28, e_X5_foresee_31, e_X5_foresee_34, e_X5_foresee_35, e_X5_foresee_36, e_X5_foresee_37, e_X5_foresee_40, e_X5_foresee_43, e_X5_foresee_44, e_X5_foresee_47, e_X5_foresee_48, e_X5_foresee_51, e_X5_foresee_54, toL1, toL0, ite_self, if_true, if_false, ite_true, ite_false, nI_add, pk_mul, z_eq, z_lt, z_le, z_ge, z_gt, nI_eq, nI_leI, nI_ltI, bI_0, bI_1, not_true_eq_false, not_false_eq_true]
  exact v_foL R W hn K (zF C) 0 h (by omega) (fun j hj => absurd hj (Nat.not_lt_zero j)) Fr.rf
theorem v_mfL {c : Nat} (hC : isC c) (R : RC h c C) (W : WC C) {g : Nat → Nat} (hg : ∀ v, v < zF C → gA h 34 v = nI (g v) ∧ g v ≤ 100000) {o : Nat} (ho : o < 4) : ∀ d f, f + d = zF C → Ev E mX5_moneyForeseen 10 [.ref 0, .ref c, .int (nI o), .int (nI (zM C o + sumN (ernG C g o) f)), .int (nI f)] [] h Q = Q (some (.int (nI (min 99999 (zM C o + sumN (ernG C g o) (zF C)))))) h := by
  have h8 := W.f
  have hm := W.m ho
  have hgl : ∀ f, f ≤ zF C → sumN (ernG C g o) f ≤ 800000 := fun f hf => by
    have : sumN (ernG C g o) f ≤ f * 100000 := sumN_le f (fun i hi => by
      unfold ernG
      split
      · exact (hg _ (W.v (by omega))).2
      · omega)
    have : f * 100000 ≤ 8 * 100000 := Nat.mul_le_mul_right _ (by omega)
    omega
  intro d
  induction d with
  | zero =>
    intro f e
    have hs := hgl (zF C) (Nat.le_refl _)
    rw [show f = zF C by omega]
    rw [e_X5_moneyForeseen_10]
    simp (disch := first | assumption | omega | exact isB_0 | exact isB_1 | exact isB_bI _ | decide) only [e_X5_moneyForeseen_0, e_X5_moneyForeseen_1, e_X5_moneyForeseen_4, e_X5_moneyForeseen_5, e_X5_moneyForeseen_6, e_X5_moneyForeseen_7, e_X5_moneyForeseen_8, e_X5_moneyForeseen_12, e_X5_moneyForeseen_13, e_X5_moneyForeseen_16, e_X5_moneyForeseen_19, e_X5_moneyForeseen_20, e_X5_moneyForeseen_23, e_X5_moneyForeseen_25, e_X5_moneyForeseen_26, e_X5_moneyForeseen_27, e_X5_moneyForeseen_30, e_X5_moneyForeseen_31, e_X5_moneyForeseen_34, e_X5_moneyForeseen_36, e_X5_moneyForeseen_37, e_X5_moneyForeseen_40, e_X5_moneyForeseen_41, e_X5_moneyForeseen_42, e_X5_moneyForeseen_45, e_X5_moneyForeseen_46, e_X5_moneyForeseen_49, e_X5_moneyForeseen_51, e_X5_moneyForeseen_52, e_X5_moneyForeseen_53, e_X5_moneyForeseen_54, e_X5_moneyForeseen_55, e_X5_moneyForeseen_58, e_X5_moneyForeseen_61, e_X5_moneyForeseen_63, e_X5_moneyForeseen_64, e_X5_moneyForeseen_67, R.F, toL1, toL0, ite_self, if_true, if_false, ite_true, ite_false, nI_add, pk_mul, z_eq, z_lt, z_le, z_ge, z_gt, nI_eq, nI_leI, nI_ltI, bI_0, bI_1, not_true_eq_false, not_false_eq_true]
    first | rw [if_pos (Nat.le_refl _)] | skip
    rw [min_I]
  | succ d ih =>
    intro f e
    have hf8 : f < 8 := by omega
    have hf : f < zF C := by omega
    have ho8 := W.o hf8
    have hu := W.u hf8
    have hv := W.v hf
    have hv8 := W.v8 hf
    have hs := hgl f (by omega)
    have ih2 := ih (f + 1) (by omega)
    rw [sumN] at ih2
    rw [e_X5_moneyForeseen_10]
    by_cases a : zO C f = o
    · by_cases b : zU C f = 0
      · have z : ernG C g o f = g (zV C f) := if_pos ⟨a, b⟩
        rw [z, ← Nat.add_assoc] at ih2
        simp (disch := first | assumption | omega | exact isB_0 | exact isB_1 | exact isB_bI _ | decide) only [e_X5_moneyForeseen_0, e_X5_moneyForeseen_1, e_X5_moneyForeseen_4, e_X5_moneyForeseen_5, e_X5_moneyForeseen_6, e_X5_moneyForeseen_7, e_X5_moneyForeseen_8, e_X5_moneyForeseen_12, e_X5_moneyForeseen_13, e_X5_moneyForeseen_16, e_X5_moneyForeseen_19, e_X5_moneyForeseen_20, e_X5_moneyForeseen_23, e_X5_moneyForeseen_25, e_X5_moneyForeseen_26, e_X5_moneyForeseen_27, e_X5_moneyForeseen_30, e_X5_moneyForeseen_31, e_X5_moneyForeseen_34, e_X5_moneyForeseen_36, e_X5_moneyForeseen_37, e_X5_moneyForeseen_40, e_X5_moneyForeseen_41, e_X5_moneyForeseen_42, e_X5_moneyForeseen_45, e_X5_moneyForeseen_46, e_X5_moneyForeseen_49, e_X5_moneyForeseen_51, e_X5_moneyForeseen_52, e_X5_moneyForeseen_53, e_X5_moneyForeseen_54, e_X5_moneyForeseen_55, e_X5_moneyForeseen_58, e_X5_moneyForeseen_61, e_X5_moneyForeseen_63, e_X5_moneyForeseen_64, e_X5_moneyForeseen_67, R.F, R.O hf8, R.U hf8, R.V hf8, (hg _ hv).1, a, b, toL1, toL0, ite_self, if_true, if_false, ite_true, ite_false, nI_add, pk_mul, z_eq, z_lt, z_le, z_ge, z_gt, nI_eq, nI_leI, nI_ltI, bI_0, bI_1, not_true_eq_false, not_false_eq_true]
        rw [if_neg (by omega)]
        exact ih2
      · have z : ernG C g o f = 0 := if_neg (fun z => b z.2)
        rw [z, Nat.add_zero] at ih2
        simp (disch := first | assumption | omega | exact isB_0 | exact isB_1 | exact isB_bI _ | decide) only [e_X5_moneyForeseen_0, e_X5_moneyForeseen_1, e_X5_moneyForeseen_4, e_X5_moneyForeseen_5, e_X5_moneyForeseen_6, e_X5_moneyForeseen_7, e_X5_moneyForeseen_8, e_X5_moneyForeseen_12, e_X5_moneyForeseen_13, e_X5_moneyForeseen_16, e_X5_moneyForeseen_19, e_X5_moneyForeseen_20, e_X5_moneyForeseen_23, e_X5_moneyForeseen_25, e_X5_moneyForeseen_26, e_X5_moneyForeseen_27, e_X5_moneyForeseen_30, e_X5_moneyForeseen_31, e_X5_moneyForeseen_34, e_X5_moneyForeseen_36, e_X5_moneyForeseen_37, e_X5_moneyForeseen_40, e_X5_moneyForeseen_41, e_X5_moneyForeseen_42, e_X5_moneyForeseen_45, e_X5_moneyForeseen_46, e_X5_moneyForeseen_49, e_X5_moneyForeseen_51, e_X5_moneyForeseen_52, e_X5_moneyForeseen_53, e_X5_moneyForeseen_54, e_X5_moneyForeseen_55, e_X5_moneyForeseen_58, e_X5_moneyForeseen_61, e_X5_moneyForeseen_63, e_X5_moneyForeseen_64, e_X5_moneyForeseen_67, R.F, R.O hf8, R.U hf8, R.V hf8, a, b, toL1, toL0, ite_self, if_true, if_false, ite_true, ite_false, nI_add, pk_mul, z_eq, z_lt, z_le, z_ge, z_gt, nI_eq, nI_leI, nI_ltI, bI_0, bI_1, not_true_eq_false, not_false_eq_true]
        rw [if_neg (by omega)]
        exact ih2
    · have z : ernG C g o f = 0 := if_neg (fun z => a z.1)
      rw [z, Nat.add_zero] at ih2
      simp (disch := first | assumption | omega | exact isB_0 | exact isB_1 | exact isB_bI _ | decide) only [e_X5_moneyForeseen_0, e_X5_moneyForeseen_1, e_X5_moneyForeseen_4, e_X5_moneyForeseen_5, e_X5_moneyForeseen_6, e_X5_moneyForeseen_7, e_X5_moneyForeseen_8, e_X5_moneyForeseen_12, e_X5_moneyForeseen_13, e_X5_moneyForeseen_16, e_X5_moneyForeseen_19, e_X5_moneyForeseen_20, e_X5_moneyForeseen_23, e_X5_moneyForeseen_25, e_X5_moneyForeseen_26, e_X5_moneyForeseen_27, e_X5_moneyForeseen_30, e_X5_moneyForeseen_31, e_X5_moneyForeseen_34, e_X5_moneyForeseen_36, e_X5_moneyForeseen_37, e_X5_moneyForeseen_40, e_X5_moneyForeseen_41, e_X5_moneyForeseen_42, e_X5_moneyForeseen_45, e_X5_moneyForeseen_46, e_X5_moneyForeseen_49, e_X5_moneyForeseen_51, e_X5_moneyForeseen_52, e_X5_moneyForeseen_53, e_X5_moneyForeseen_54, e_X5_moneyForeseen_55, e_X5_moneyForeseen_58, e_X5_moneyForeseen_61, e_X5_moneyForeseen_63, e_X5_moneyForeseen_64, e_X5_moneyForeseen_67, R.F, R.O hf8, a, toL1, toL0, ite_self, if_true, if_false, ite_true, ite_false, nI_add, pk_mul, z_eq, z_lt, z_le, z_ge, z_gt, nI_eq, nI_leI, nI_ltI, bI_0, bI_1, not_true_eq_false, not_false_eq_true]
      rw [if_neg (by omega)]
      exact ih2
theorem v_moneyForeseen {c : Nat} (hC : isC c) (R : RC h c C) (W : WC C) {g : Nat → Nat} (hg : ∀ v, v < zF C → gA h 34 v = nI (g v) ∧ g v ≤ 100000) {o : Nat} (ho : o < 4) : Ev E mX5_moneyForeseen 0 [.ref 0, .ref c, .int (nI o), .null, .null] [] h Q = Q (some (.int (nI (min 99999 (zM C o + sumN (ernG C g o) (zF C)))))) h := by
  simp (disch := first | assumption | omega | exact isB_0 | exact isB_1 | exact isB_bI _ | decide) only [e_X5_moneyForeseen_0, e_X5_moneyForeseen_1, e_X5_moneyForeseen_4, e_X5_moneyForeseen_5, e_X5_moneyForeseen_6, e_X5_moneyForeseen_7, e_X5_moneyForeseen_8, e_X5_moneyForeseen_12, e_X5_moneyForeseen_13, e_X5_moneyForeseen_16, e_X5_moneyForeseen_19, e_X5_moneyForeseen_20, e_X5_moneyForeseen_23, e_X5_moneyForeseen_25, e_X5_moneyForeseen_26, e_X5_moneyForeseen_27, e_X5_moneyForeseen_30, e_X5_moneyForeseen_31, e_X5_moneyForeseen_34, e_X5_moneyForeseen_36, e_X5_moneyForeseen_37, e_X5_moneyForeseen_40, e_X5_moneyForeseen_41, e_X5_moneyForeseen_42, e_X5_moneyForeseen_45, e_X5_moneyForeseen_46, e_X5_moneyForeseen_49, e_X5_moneyForeseen_51, e_X5_moneyForeseen_52, e_X5_moneyForeseen_53, e_X5_moneyForeseen_54, e_X5_moneyForeseen_55, e_X5_moneyForeseen_58, e_X5_moneyForeseen_61, e_X5_moneyForeseen_63, e_X5_moneyForeseen_64, e_X5_moneyForeseen_67, R.M ho, toL1, toL0, ite_self, if_true, if_false, ite_true, ite_false, nI_add, pk_mul, z_eq, z_lt, z_le, z_ge, z_gt, nI_eq, nI_leI, nI_ltI, bI_0, bI_1, not_true_eq_false, not_false_eq_true]
  exact v_mfL hC R W hg ho (zF C) 0 (by omega)
theorem m_hasOn (R : RR h 37 C) (R9 : RR h 39 D) (W : WC C) {n o : Nat} (ho : o < 4) (hh : zH C + n ≤ 200000) (hn : n ≤ 1000) (K : ∀ h', RR h' 37 D → Fr Xm h h' → Q (some (.int (nI (zM (goN n C) o)))) h') : Ev E mX6_hasOn 0 [.ref 36, .int (nI o), .int (nI n), .null] [] h Q := by
  simp (disch := first | assumption | omega | exact isB_0 | exact isB_1 | exact isB_bI _ | decide) only [e_X6_hasOn_0, e_X6_hasOn_1, e_X6_hasOn_2, e_X6_hasOn_5, e_X6_hasOn_6, e_X6_hasOn_9, e_X6_hasOn_10, e_X6_hasOn_11, e_X6_hasOn_12, e_X6_hasOn_13, e_X6_hasOn_14, e_X6_hasOn_15, e_X6_hasOn_18, e_X6_hasOn_19, toL1, toL0, ite_self, if_true, if_false, ite_true, ite_false, nI_add, pk_mul, z_eq, z_lt, z_le, z_ge, z_gt, nI_eq, nI_leI, nI_ltI, bI_0, bI_1, not_true_eq_false, not_false_eq_true]
  refine m_goesFor R W hh (by omega) (fun h2 R2 F2 => ?_)
  simp (disch := first | assumption | omega | exact isB_0 | exact isB_1 | exact isB_bI _ | decide) only [e_X6_hasOn_0, e_X6_hasOn_1, e_X6_hasOn_2, e_X6_hasOn_5, e_X6_hasOn_6, e_X6_hasOn_9, e_X6_hasOn_10, e_X6_hasOn_11, e_X6_hasOn_12, e_X6_hasOn_13, e_X6_hasOn_14, e_X6_hasOn_15, e_X6_hasOn_18, e_X6_hasOn_19, R2.M ho, toL1, toL0, ite_self, if_true, if_false, ite_true, ite_false, nI_add, pk_mul, z_eq, z_lt, z_le, z_ge, z_gt, nI_eq, nI_leI, nI_ltI, bI_0, bI_1, not_true_eq_false, not_false_eq_true]
  refine m_putsBack (R9.fr F2 (by decide)) (fun h3 R3 F3 => ?_)
  simp (disch := first | assumption | omega | exact isB_0 | exact isB_1 | exact isB_bI _ | decide) only [e_X6_hasOn_0, e_X6_hasOn_1, e_X6_hasOn_2, e_X6_hasOn_5, e_X6_hasOn_6, e_X6_hasOn_9, e_X6_hasOn_10, e_X6_hasOn_11, e_X6_hasOn_12, e_X6_hasOn_13, e_X6_hasOn_14, e_X6_hasOn_15, e_X6_hasOn_18, e_X6_hasOn_19, toL1, toL0, ite_self, if_true, if_false, ite_true, ite_false, nI_add, pk_mul, z_eq, z_lt, z_le, z_ge, z_gt, nI_eq, nI_leI, nI_ltI, bI_0, bI_1, not_true_eq_false, not_false_eq_true]
  exact K h3 R3 (F2.tr F3)
theorem v_on (R : RV h S) {a n : Int32} (K : Vo h Q (f_on a n S)) (W : WS S) : Ev E mX5_on 0 [.ref 0, .int a, .int n] [] h Q := by
  have hC := isC_1
  unfold f_on at K
  by_cases h1 : nI 0 ≤ a ∧ a ≤ nI 3
  · rw [if_pos h1] at K
    by_cases h2 : nI 0 ≤ n ∧ n ≤ nI 400
    · rw [if_pos h2] at K
      obtain ⟨j, _, hj, rfl⟩ := vI_of (by decide) h1 (by decide)
      obtain ⟨m, _, hm, rfl⟩ := vI_of (by decide) h2 (by decide)
      rw [nv_nI (by omega), nv_nI (by omega)] at K
      have hj4 : j < 4 := by omega
      simp (disch := first | assumption | omega | exact isB_0 | exact isB_1 | exact isB_bI _ | decide) only [e_X5_on_0, e_X5_on_1, e_X5_on_4, e_X5_on_7, e_X5_on_8, e_X5_on_9, e_X5_on_12, e_X5_on_15, e_X5_on_18, e_X5_on_19, e_X5_on_20, e_X5_on_23, e_X5_on_24, e_X5_on_25, e_X5_on_26, e_X5_on_29, e_X5_on_30, e_X5_on_31, e_X5_on_34, e_X5_on_35, e_X5_on_38, s_isOwner, s_isWithin, hj, hm, and_self, and_true, true_and, Nat.zero_le, nI_ltI, toL1, toL0, ite_self, if_true, if_false, ite_true, ite_false, nI_add, pk_mul, z_eq, z_lt, z_le, z_ge, z_gt, nI_eq, nI_leI, nI_ltI, bI_0, bI_1, not_true_eq_false, not_false_eq_true]
      refine v_foresee R.ci W.1 hm (fun h2 J F => ?_)
      have R2 : RC h2 1 (yC S) := R.ci.fr F (fun o h1 h2 => by omega)
      have hg : ∀ v, v < zF (yC S) → gA h2 34 v = nI (worS (zK (yC S) v) (zE (yC S) v) (zH (yC S)) m) ∧ worS (zK (yC S) v) (zE (yC S) v) (zH (yC S)) m ≤ 100000 := fun v hv => ⟨J v hv, by
        have h8 := W.1.f
        have := worS_le (k := zK (yC S) v) (hr := zH (yC S)) (W.1.e (show v < 8 by omega)) m
        omega⟩
      simp (disch := first | assumption | omega | exact isB_0 | exact isB_1 | exact isB_bI _ | decide) only [e_X5_on_0, e_X5_on_1, e_X5_on_4, e_X5_on_7, e_X5_on_8, e_X5_on_9, e_X5_on_12, e_X5_on_15, e_X5_on_18, e_X5_on_19, e_X5_on_20, e_X5_on_23, e_X5_on_24, e_X5_on_25, e_X5_on_26, e_X5_on_29, e_X5_on_30, e_X5_on_31, e_X5_on_34, e_X5_on_35, e_X5_on_38, v_moneyForeseen isC_1 R2 W.1 hg hj4, toL1, toL0, ite_self, if_true, if_false, ite_true, ite_false, nI_add, pk_mul, z_eq, z_lt, z_le, z_ge, z_gt, nI_eq, nI_leI, nI_ltI, bI_0, bI_1, not_true_eq_false, not_false_eq_true]
      have FX : Fr Xv h h2 := F.mono (fun o w => Or.inr (Or.inl w))
      exact K h2 (R.self FX R2) FX.lo
    · rw [if_neg h2] at K
      obtain ⟨j, _, hj, rfl⟩ := vI_of (by decide) h1 (by decide)
      simp (disch := first | assumption | omega | exact isB_0 | exact isB_1 | exact isB_bI _ | decide) only [e_X5_on_0, e_X5_on_1, e_X5_on_4, e_X5_on_7, e_X5_on_8, e_X5_on_9, e_X5_on_12, e_X5_on_15, e_X5_on_18, e_X5_on_19, e_X5_on_20, e_X5_on_23, e_X5_on_24, e_X5_on_25, e_X5_on_26, e_X5_on_29, e_X5_on_30, e_X5_on_31, e_X5_on_34, e_X5_on_35, e_X5_on_38, s_isOwner, s_isWithin, hj, bI_f h2, v_tell R, and_self, and_true, true_and, Nat.zero_le, nI_ltI, toL1, toL0, ite_self, if_true, if_false, ite_true, ite_false, nI_add, pk_mul, z_eq, z_lt, z_le, z_ge, z_gt, nI_eq, nI_leI, nI_ltI, bI_0, bI_1, not_true_eq_false, not_false_eq_true]
      exact v_bad R K
  · rw [if_neg h1] at K
    simp (disch := first | assumption | omega | exact isB_0 | exact isB_1 | exact isB_bI _ | decide) only [e_X5_on_0, e_X5_on_1, e_X5_on_4, e_X5_on_7, e_X5_on_8, e_X5_on_9, e_X5_on_12, e_X5_on_15, e_X5_on_18, e_X5_on_19, e_X5_on_20, e_X5_on_23, e_X5_on_24, e_X5_on_25, e_X5_on_26, e_X5_on_29, e_X5_on_30, e_X5_on_31, e_X5_on_34, e_X5_on_35, e_X5_on_38, s_isOwner, s_isWithin, bI_f h1, v_tell R, and_self, and_true, true_and, Nat.zero_le, nI_ltI, toL1, toL0, ite_self, if_true, if_false, ite_true, ite_false, nI_add, pk_mul, z_eq, z_lt, z_le, z_ge, z_gt, nI_eq, nI_leI, nI_ltI, bI_0, bI_1, not_true_eq_false, not_false_eq_true]
    exact v_bad R K
theorem m_on (R : RM h S) {a n : Int32} (K : Mo h Q (f_on a n S)) (W : WS S) : Ev E mX6_on 0 [.ref 36, .int a, .int n] [] h Q := by
  have hh := W.2.1
  unfold f_on at K
  by_cases h1 : nI 0 ≤ a ∧ a ≤ nI 3
  · rw [if_pos h1] at K
    by_cases h2 : nI 0 ≤ n ∧ n ≤ nI 400
    · rw [if_pos h2] at K
      obtain ⟨j, _, hj, rfl⟩ := vI_of (by decide) h1 (by decide)
      obtain ⟨m, _, hm, rfl⟩ := vI_of (by decide) h2 (by decide)
      rw [nv_nI (by omega), nv_nI (by omega)] at K
      have hj4 : j < 4 := by omega
      simp (disch := first | assumption | omega | exact isB_0 | exact isB_1 | exact isB_bI _ | decide) only [e_X6_on_0, e_X6_on_1, e_X6_on_4, e_X6_on_7, e_X6_on_8, e_X6_on_9, e_X6_on_10, e_X6_on_13, e_X6_on_16, e_X6_on_19, e_X6_on_20, e_X6_on_22, e_X6_on_25, e_X6_on_26, e_X6_on_27, e_X6_on_30, e_X6_on_31, e_X6_on_32, e_X6_on_33, e_X6_on_36, m_isOwner, m_in, hj, hm, and_self, and_true, true_and, Nat.zero_le, nI_ltI, toL1, toL0, ite_self, if_true, if_false, ite_true, ite_false, nI_add, pk_mul, z_eq, z_lt, z_le, z_ge, z_gt, nI_eq, nI_leI, nI_ltI, bI_0, bI_1, not_true_eq_false, not_false_eq_true]
      refine m_thinks R.ci (fun h2 R2 F2 => ?_)
      simp (disch := first | assumption | omega | exact isB_0 | exact isB_1 | exact isB_bI _ | decide) only [e_X6_on_0, e_X6_on_1, e_X6_on_4, e_X6_on_7, e_X6_on_8, e_X6_on_9, e_X6_on_10, e_X6_on_13, e_X6_on_16, e_X6_on_19, e_X6_on_20, e_X6_on_22, e_X6_on_25, e_X6_on_26, e_X6_on_27, e_X6_on_30, e_X6_on_31, e_X6_on_32, e_X6_on_33, e_X6_on_36, toL1, toL0, ite_self, if_true, if_false, ite_true, ite_false, nI_add, pk_mul, z_eq, z_lt, z_le, z_ge, z_gt, nI_eq, nI_leI, nI_ltI, bI_0, bI_1, not_true_eq_false, not_false_eq_true]
      refine m_hasOn (R.ci.fr F2 (by decide)) R2 W.1 hj4 (n := m) (by omega) (by omega) (fun h3 R3 F3 => ?_)
      simp (disch := first | assumption | omega | exact isB_0 | exact isB_1 | exact isB_bI _ | decide) only [e_X6_on_0, e_X6_on_1, e_X6_on_4, e_X6_on_7, e_X6_on_8, e_X6_on_9, e_X6_on_10, e_X6_on_13, e_X6_on_16, e_X6_on_19, e_X6_on_20, e_X6_on_22, e_X6_on_25, e_X6_on_26, e_X6_on_27, e_X6_on_30, e_X6_on_31, e_X6_on_32, e_X6_on_33, e_X6_on_36, toL1, toL0, ite_self, if_true, if_false, ite_true, ite_false, nI_add, pk_mul, z_eq, z_lt, z_le, z_ge, z_gt, nI_eq, nI_leI, nI_ltI, bI_0, bI_1, not_true_eq_false, not_false_eq_true]
      rw [goN_M W.1 hj4]
      exact K h3 (R.self (F2.m9.tr F3.m7) R3) (F2.m9.tr F3.m7).hi
    · rw [if_neg h2] at K
      obtain ⟨j, _, hj, rfl⟩ := vI_of (by decide) h1 (by decide)
      simp (disch := first | assumption | omega | exact isB_0 | exact isB_1 | exact isB_bI _ | decide) only [e_X6_on_0, e_X6_on_1, e_X6_on_4, e_X6_on_7, e_X6_on_8, e_X6_on_9, e_X6_on_10, e_X6_on_13, e_X6_on_16, e_X6_on_19, e_X6_on_20, e_X6_on_22, e_X6_on_25, e_X6_on_26, e_X6_on_27, e_X6_on_30, e_X6_on_31, e_X6_on_32, e_X6_on_33, e_X6_on_36, m_isOwner, m_in, hj, bI_f h2, m_f0 R, and_self, and_true, true_and, Nat.zero_le, nI_ltI, toL1, toL0, ite_self, if_true, if_false, ite_true, ite_false, nI_add, pk_mul, z_eq, z_lt, z_le, z_ge, z_gt, nI_eq, nI_leI, nI_ltI, bI_0, bI_1, not_true_eq_false, not_false_eq_true]
      exact m_bad R K
  · rw [if_neg h1] at K
    simp (disch := first | assumption | omega | exact isB_0 | exact isB_1 | exact isB_bI _ | decide) only [e_X6_on_0, e_X6_on_1, e_X6_on_4, e_X6_on_7, e_X6_on_8, e_X6_on_9, e_X6_on_10, e_X6_on_13, e_X6_on_16, e_X6_on_19, e_X6_on_20, e_X6_on_22, e_X6_on_25, e_X6_on_26, e_X6_on_27, e_X6_on_30, e_X6_on_31, e_X6_on_32, e_X6_on_33, e_X6_on_36, m_isOwner, m_in, bI_f h1, m_f0 R, and_self, and_true, true_and, Nat.zero_le, nI_ltI, toL1, toL0, ite_self, if_true, if_false, ite_true, ite_false, nI_add, pk_mul, z_eq, z_lt, z_le, z_ge, z_gt, nI_eq, nI_leI, nI_ltI, bI_0, bI_1, not_true_eq_false, not_false_eq_true]
    exact m_bad R K
end FORE2
