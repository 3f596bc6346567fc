/-! the text, token by token: pure; this side's reader -/
def skW (c : Nat → Bool) : Nat → Nat → Nat
  | 0, p => p
  | d + 1, p => if c p = true then skW c d (p + 1) else p
theorem skW_t {c : Nat → Bool} {d p : Nat} (h : c p = true) : skW c (d + 1) p = skW c d (p + 1) := if_pos h
theorem skW_f {c : Nat → Bool} {d p : Nat} (h : ¬ c p = true) : skW c (d + 1) p = p := if_neg h
theorem skW_ge {c : Nat → Bool} : ∀ d p, p ≤ skW c d p
  | 0, _ => Nat.le_refl _
  | d + 1, p => by
    have ih := skW_ge (c := c) d (p + 1)
    by_cases h : c p = true
    · rw [skW_t h]; omega
    · rw [skW_f h]; omega
theorem skW_le {c : Nat → Bool} : ∀ d p, skW c d p ≤ p + d
  | 0, _ => Nat.le_refl _
  | d + 1, p => by
    have ih := skW_le (c := c) d (p + 1)
    by_cases h : c p = true
    · rw [skW_t h]; omega
    · rw [skW_f h]; omega
theorem skW_in {c : Nat → Bool} : ∀ d p i, p ≤ i → i < skW c d p → c i = true
  | 0, p, i, h1, h2 => by
    have h2 : i < p := h2
    omega
  | d + 1, p, i, h1, h2 => by
    by_cases h : c p = true
    · rw [skW_t h] at h2
      by_cases q : i = p
      · rw [q]; exact h
      · exact skW_in d (p + 1) i (by omega) h2
    · rw [skW_f h] at h2
      omega
def isSp (T : Nat → Nat) (p : Nat) : Bool := decide (T p = 32)
def isLe (T : Nat → Nat) (p : Nat) : Bool := decide (97 ≤ T p ∧ T p ≤ 122)
def isDi (T : Nat → Nat) (p : Nat) : Bool := decide (48 ≤ T p ∧ T p ≤ 57)
def vaS (v b : Nat) : Nat := if 9999 < v then v else 10 * v + (b - 48)
def vaW (T : Nat → Nat) : Nat → Nat → Nat → Nat
  | 0, _, v => v
  | d + 1, p, v => if isDi T p = true then vaW T d (p + 1) (vaS v (T p)) else v
theorem vaW_t {T : Nat → Nat} {d p v : Nat} (h : isDi T p = true) : vaW T (d + 1) p v = vaW T d (p + 1) (vaS v (T p)) := if_pos h
theorem vaW_f {T : Nat → Nat} {d p v : Nat} (h : ¬ isDi T p = true) : vaW T (d + 1) p v = v := if_neg h
theorem vaS_le {v b : Nat} (hv : v ≤ 100000) (hb : b ≤ 57) : vaS v b ≤ 100000 := by
  unfold vaS
  split <;> omega
theorem vaS_min {v b : Nat} (h1 : 48 ≤ b) (h2 : b ≤ 57) : min 10000 (10 * min 10000 v + (b - 48)) = min 10000 (vaS v b) := by
  unfold vaS
  split <;> omega
theorem vaW_le {T : Nat → Nat} : ∀ d p v, v ≤ 100000 → vaW T d p v ≤ 100000
  | 0, _, _, h => h
  | d + 1, p, v, h => by
    by_cases c : isDi T p = true
    · rw [vaW_t c]
      have c2 : 48 ≤ T p ∧ T p ≤ 57 := of_decide_eq_true c
      exact vaW_le d (p + 1) _ (vaS_le h c2.2)
    · rw [vaW_f c]; exact h
def tB (T : Nat → Nat) (L p : Nat) : Nat := skW (isSp T) (L - p) p
def tE (T : Nat → Nat) (L p : Nat) : Nat := if L ≤ tB T L p then tB T L p else if isLe T (tB T L p) = true then skW (isLe T) (L - tB T L p) (tB T L p) else if isDi T (tB T L p) = true then skW (isDi T) (L - tB T L p) (tB T L p) else tB T L p + 1
def tV (T : Nat → Nat) (L p : Nat) : Nat := if L ≤ tB T L p then 0 else if isLe T (tB T L p) = true then 0 else if isDi T (tB T L p) = true then vaW T (L - tB T L p) (tB T L p) 0 else 0
def tC (T : Nat → Nat) (L p : Nat) : Nat := if L ≤ tB T L p then 0 else if isLe T (tB T L p) = true then 1 else if isDi T (tB T L p) = true then 2 else if T (tB T L p) = 59 then 3 else 4
theorem tB_ge {T : Nat → Nat} {L p : Nat} : p ≤ tB T L p := skW_ge _ _
theorem tB_le {T : Nat → Nat} {L p : Nat} (h : p ≤ L) : tB T L p ≤ L := by
  have : tB T L p ≤ p + (L - p) := skW_le _ _
  omega
theorem tE_le {T : Nat → Nat} {L p : Nat} (h : p ≤ L) : tE T L p ≤ L := by
  have hb := tB_le (T := T) h
  have q1 : skW (isLe T) (L - tB T L p) (tB T L p) ≤ tB T L p + (L - tB T L p) := skW_le _ _
  have q2 : skW (isDi T) (L - tB T L p) (tB T L p) ≤ tB T L p + (L - tB T L p) := skW_le _ _
  unfold tE
  split
  · omega
  · split
    · omega
    · split <;> omega
theorem skW_gt {c : Nat → Bool} {d p : Nat} (h : c p = true) (hd : 0 < d) : p < skW c d p := by
  obtain ⟨e, rfl⟩ : ∃ e, d = e + 1 := ⟨d - 1, by omega⟩
  rw [skW_t h]
  have := skW_ge (c := c) e (p + 1)
  omega
theorem tE_gt {T : Nat → Nat} {L p : Nat} (h : tB T L p < L) : tB T L p < tE T L p := by
  unfold tE
  rw [if_neg (by omega)]
  split
  · next c => exact skW_gt c (by omega)
  · split
    · next c => exact skW_gt c (by omega)
    · omega
theorem tV_le {T : Nat → Nat} {L p : Nat} : tV T L p ≤ 100000 := by
  unfold tV
  split
  · omega
  · split
    · omega
    · split
      · exact vaW_le _ _ _ (by omega)
      · omega
/-- the tape as this side holds it -/
def TP (h : Hp) (T : Nat → Nat) (L : Nat) : Prop := gI h 22 1 = nI L ∧ ∀ i, i < L → gA h 23 i = nI (T i)
/-- but for some fields of the tape nothing has changed -/
def Fk (P : Nat → Prop) (h h' : Hp) : Prop := Fr (fun o => o = 22) h h' ∧ ∀ k, ¬ P k → gI h' 22 k = gI h 22 k
theorem Fk.rf {P : Nat → Prop} {h : Hp} : Fk P h h := ⟨Fr.rf, fun _ _ => rfl⟩
theorem Fk.tr {P : Nat → Prop} {h h1 h2 : Hp} (a : Fk P h h1) (b : Fk P h1 h2) : Fk P h h2 := ⟨a.1.tr b.1, fun k hk => (b.2 k hk).trans (a.2 k hk)⟩
theorem Fk.mono {P R : Nat → Prop} {h h1 : Hp} (a : Fk P h h1) (m : ∀ k, P k → R k) : Fk R h h1 := ⟨a.1, fun k hk => a.2 k (fun z => hk (m k z))⟩
theorem Fk.set {P : Nat → Prop} {h : Hp} {k : Nat} {v : Int32} (hk : P k) : Fk P h (sI h 22 k v) := ⟨Fr.sI rfl, fun j hj => by rw [gI_sI, if_neg (fun z => hj (by rw [z.2]; exact hk))]⟩
theorem TP.fk {P : Nat → Prop} {h h' : Hp} {T : Nat → Nat} {L : Nat} (a : TP h T L) (F : Fk P h h') (hP : ¬ P 1) : TP h' T L := ⟨(F.2 1 hP).trans a.1, fun i hi => by rw [(F.1 23 (by decide)).2.1]; exact a.2 i hi⟩
theorem TP.fr {X : Nat → Prop} {h h' : Hp} {T : Nat → Nat} {L : Nat} (a : TP h T L) (F : Fr X h h') (h1 : ¬ X 22) (h2 : ¬ X 23) : TP h' T L := ⟨((F 22 h1).1 1).trans a.1, fun i hi => by rw [(F 23 h2).2.1]; exact a.2 i hi⟩
/-- a token is there -/
def CT (h : Hp) (T : Nat → Nat) (L p : Nat) : Prop := TP h T L ∧ gI h 22 2 = nI (tC T L p) ∧ gI h 22 3 = nI (tB T L p) ∧ gI h 22 4 = nI (tE T L p) ∧ (tC T L p = 2 → gI h 22 5 = nI (min 10000 (tV T L p)))
theorem CT.fr {X : Nat → Prop} {h h' : Hp} {T : Nat → Nat} {L p : Nat} (a : CT h T L p) (F : Fr X h h') (h1 : ¬ X 22) (h2 : ¬ X 23) : CT h' T L p := ⟨a.1.fr F h1 h2, ((F 22 h1).1 2).trans a.2.1, ((F 22 h1).1 3).trans a.2.2.1, ((F 22 h1).1 4).trans a.2.2.2.1, fun z => ((F 22 h1).1 5).trans (a.2.2.2.2 z)⟩
theorem min_K {s : Nat} : (if s < 10000 then nI s else nI 10000) = nI (min 10000 s) := by
  by_cases q : s < 10000
  · rw [if_pos q, Nat.min_eq_right (by omega)]
  · rw [if_neg q, Nat.min_eq_left (by omega)]
section LEX
variable {E : En} {h : Hp} {Q : Option Value → Hp → Prop} {T : Nat → Nat} {L : Nat}
theorem s_isLetter {b : Nat} (hb : b ≤ 255) : Ev E mX4_isLetter 0 [.int (nI b)] [] h Q = Q (some (.int (bI (97 ≤ b ∧ b ≤ 122)))) h := by
  simp (disch := first | assumption | omega | exact isB_0 | exact isB_1 | exact isB_bI _ | decide) only [e_X4_isLetter_0, e_X4_isLetter_1, e_X4_isLetter_3, e_X4_isLetter_6, e_X4_isLetter_7, e_X4_isLetter_9, e_X4_isLetter_12, e_X4_isLetter_13, e_X4_isLetter_16, e_X4_isLetter_17, toL1, toL0, ite_self, if_true, if_false, ite_true, ite_false, nI_add, pk_mul, z_eq, z_lt, z_le, z_ge, z_gt, nI_eq, nI_leI, nI_ltI, bI_0, bI_1, not_true_eq_false, not_false_eq_true]
  by_cases h1 : b < 97
  · rw [if_pos h1, bI_f (by omega)]
  · rw [if_neg h1]
    by_cases h2 : 122 < b
    · rw [if_pos h2, bI_f (by omega)]
    · rw [if_neg h2, bI_t (by omega)]
theorem s_isDigit {b : Nat} (hb : b ≤ 255) : Ev E mX4_isDigit 0 [.int (nI b)] [] h Q = Q (some (.int (bI (48 ≤ b ∧ b ≤ 57)))) h := by
  simp (disch := first | assumption | omega | exact isB_0 | exact isB_1 | exact isB_bI _ | decide) only [e_X4_isDigit_0, e_X4_isDigit_1, e_X4_isDigit_3, e_X4_isDigit_6, e_X4_isDigit_7, e_X4_isDigit_9, e_X4_isDigit_12, e_X4_isDigit_13, e_X4_isDigit_16, e_X4_isDigit_17, toL1, toL0, ite_self, if_true, if_false, ite_true, ite_false, nI_add, pk_mul, z_eq, z_lt, z_le, z_ge, z_gt, nI_eq, nI_leI, nI_ltI, bI_0, bI_1, not_true_eq_false, not_false_eq_true]
  by_cases h1 : b < 48
  · rw [if_pos h1, bI_f (by omega)]
  · rw [if_neg h1]
    by_cases h2 : 57 < b
    · rw [if_pos h2, bI_f (by omega)]
    · rw [if_neg h2, bI_t (by omega)]
theorem v_pwL (hL : L ≤ 120) (hT : ∀ i, i < L → T i ≤ 255) : ∀ (d p : Nat) (h : Hp), p + d = L → TP h T L → gI h 22 4 = nI p → (∀ h2, gI h2 22 4 = nI (skW (isLe T) d p) → Fk (fun k => k = 4) h h2 → Q none h2) → Ev E mX4_passWord 0 [.ref 22] [] h Q := by
  intro d
  induction d with
  | zero =>
    intro p h e a r K
    rw [e_X4_passWord_0]
    simp (disch := first | assumption | omega | exact isB_0 | exact isB_1 | exact isB_bI _ | decide) only [e_X4_passWord_1, e_X4_passWord_4, e_X4_passWord_5, e_X4_passWord_8, e_X4_passWord_11, e_X4_passWord_12, e_X4_passWord_15, e_X4_passWord_16, e_X4_passWord_19, e_X4_passWord_20, e_X4_passWord_23, e_X4_passWord_26, e_X4_passWord_27, e_X4_passWord_28, e_X4_passWord_31, e_X4_passWord_32, e_X4_passWord_33, e_X4_passWord_36, e_X4_passWord_39, r, a.1, toL1, toL0, ite_self, if_true, if_false, ite_true, ite_false, nI_add, pk_mul, z_eq, z_lt, z_le, z_ge, z_gt, nI_eq, nI_leI, nI_ltI, bI_0, bI_1, not_true_eq_false, not_false_eq_true]
    rw [if_pos (by omega)]
    exact K h r Fk.rf
  | succ d ih =>
    intro p h e a r K
    have t := hT p (by omega)
    have ap := a.2 p (by omega)
    rw [e_X4_passWord_0]
    by_cases c : isLe T p = true
    · have c2 : 97 ≤ T p ∧ T p ≤ 122 := of_decide_eq_true c
      rw [skW_t c] at K
      simp (disch := first | assumption | omega | exact isB_0 | exact isB_1 | exact isB_bI _ | decide) only [e_X4_passWord_1, e_X4_passWord_4, e_X4_passWord_5, e_X4_passWord_8, e_X4_passWord_11, e_X4_passWord_12, e_X4_passWord_15, e_X4_passWord_16, e_X4_passWord_19, e_X4_passWord_20, e_X4_passWord_23, e_X4_passWord_26, e_X4_passWord_27, e_X4_passWord_28, e_X4_passWord_31, e_X4_passWord_32, e_X4_passWord_33, e_X4_passWord_36, e_X4_passWord_39, r, a.1, ap, s_isLetter t, bI_t c2, Nat.one_ne_zero, toL1, toL0, ite_self, if_true, if_false, ite_true, ite_false, nI_add, pk_mul, z_eq, z_lt, z_le, z_ge, z_gt, nI_eq, nI_leI, nI_ltI, bI_0, bI_1, not_true_eq_false, not_false_eq_true]
      rw [if_neg (by omega)]
      have F : Fk (fun k => k = 4) h (sI h 22 4 (nI (p + 1))) := Fk.set rfl
      exact ih (p + 1) _ (by omega) (a.fk F (by decide)) (by rw [gI_sI]; exact if_pos ⟨rfl, rfl⟩) (fun h2 r2 F2 => K h2 r2 (F.tr F2))
    · have c2 : ¬ (97 ≤ T p ∧ T p ≤ 122) := fun z => c (decide_eq_true z)
      rw [skW_f c] at K
      simp (disch := first | assumption | omega | exact isB_0 | exact isB_1 | exact isB_bI _ | decide) only [e_X4_passWord_1, e_X4_passWord_4, e_X4_passWord_5, e_X4_passWord_8, e_X4_passWord_11, e_X4_passWord_12, e_X4_passWord_15, e_X4_passWord_16, e_X4_passWord_19, e_X4_passWord_20, e_X4_passWord_23, e_X4_passWord_26, e_X4_passWord_27, e_X4_passWord_28, e_X4_passWord_31, e_X4_passWord_32, e_X4_passWord_33, e_X4_passWord_36, e_X4_passWord_39, r, a.1, ap, s_isLetter t, bI_f c2, toL1, toL0, ite_self, if_true, if_false, ite_true, ite_false, nI_add, pk_mul, z_eq, z_lt, z_le, z_ge, z_gt, nI_eq, nI_leI, nI_ltI, bI_0, bI_1, not_true_eq_false, not_false_eq_true]
      exact K h r Fk.rf
theorem v_pnL (hL : L ≤ 120) (hT : ∀ i, i < L → T i ≤ 255) : ∀ (d p v : Nat) (x : Value) (h : Hp), p + d = L → v ≤ 100000 → TP h T L → gI h 22 4 = nI p → gI h 22 5 = nI (min 10000 v) → (∀ h2, gI h2 22 4 = nI (skW (isDi T) d p) → gI h2 22 5 = nI (min 10000 (vaW T d p v)) → Fk (fun k => k = 4 ∨ k = 5) h h2 → Q none h2) → Ev E mX4_passNumber 5 [.ref 22, x] [] h Q := by
  intro d
  induction d with
  | zero =>
    intro p v x h e hv a r r5 K
    rw [e_X4_passNumber_5]
    simp (disch := first | assumption | omega | exact isB_0 | exact isB_1 | exact isB_bI _ | decide) only [e_X4_passNumber_0, e_X4_passNumber_1, e_X4_passNumber_2, e_X4_passNumber_6, e_X4_passNumber_9, e_X4_passNumber_10, e_X4_passNumber_13, e_X4_passNumber_16, e_X4_passNumber_17, e_X4_passNumber_20, e_X4_passNumber_21, e_X4_passNumber_24, e_X4_passNumber_25, e_X4_passNumber_28, e_X4_passNumber_31, e_X4_passNumber_32, e_X4_passNumber_35, e_X4_passNumber_36, e_X4_passNumber_39, e_X4_passNumber_40, e_X4_passNumber_42, e_X4_passNumber_43, e_X4_passNumber_44, e_X4_passNumber_45, e_X4_passNumber_48, e_X4_passNumber_50, e_X4_passNumber_51, e_X4_passNumber_54, e_X4_passNumber_55, e_X4_passNumber_56, e_X4_passNumber_57, e_X4_passNumber_60, e_X4_passNumber_63, e_X4_passNumber_64, e_X4_passNumber_65, e_X4_passNumber_68, e_X4_passNumber_69, e_X4_passNumber_70, e_X4_passNumber_73, e_X4_passNumber_76, r, a.1, toL1, toL0, ite_self, if_true, if_false, ite_true, ite_false, nI_add, pk_mul, z_eq, z_lt, z_le, z_ge, z_gt, nI_eq, nI_leI, nI_ltI, bI_0, bI_1, not_true_eq_false, not_false_eq_true]
    rw [if_pos (by omega)]
    exact K h r r5 Fk.rf
  | succ d ih =>
    intro p v x h e hv a r r5 K
    have t := hT p (by omega)
    have ap := a.2 p (by omega)
    rw [e_X4_passNumber_5]
    by_cases c : isDi T p = true
    · have c2 : 48 ≤ T p ∧ T p ≤ 57 := of_decide_eq_true c
      rw [skW_t c, vaW_t c] at K
      have s1 : nI (T p) - nI 48 = nI (T p - 48) := pk_sub c2.1
      have s2 := vaS_min (v := v) c2.1 c2.2
      simp (disch := first | assumption | omega | exact isB_0 | exact isB_1 | exact isB_bI _ | decide) only [e_X4_passNumber_0, e_X4_passNumber_1, e_X4_passNumber_2, e_X4_passNumber_6, e_X4_passNumber_9, e_X4_passNumber_10, e_X4_passNumber_13, e_X4_passNumber_16, e_X4_passNumber_17, e_X4_passNumber_20, e_X4_passNumber_21, e_X4_passNumber_24, e_X4_passNumber_25, e_X4_passNumber_28, e_X4_passNumber_31, e_X4_passNumber_32, e_X4_passNumber_35, e_X4_passNumber_36, e_X4_passNumber_39, e_X4_passNumber_40, e_X4_passNumber_42, e_X4_passNumber_43, e_X4_passNumber_44, e_X4_passNumber_45, e_X4_passNumber_48, e_X4_passNumber_50, e_X4_passNumber_51, e_X4_passNumber_54, e_X4_passNumber_55, e_X4_passNumber_56, e_X4_passNumber_57, e_X4_passNumber_60, e_X4_passNumber_63, e_X4_passNumber_64, e_X4_passNumber_65, e_X4_passNumber_68, e_X4_passNumber_69, e_X4_passNumber_70, e_X4_passNumber_73, e_X4_passNumber_76, r, r5, a.1, ap, s_isDigit t, bI_t c2, s1, min_K, s2, Nat.one_ne_zero, gI_sI, toL1, toL0, ite_self, if_true, if_false, ite_true, ite_false, nI_add, pk_mul, z_eq, z_lt, z_le, z_ge, z_gt, nI_eq, nI_leI, nI_ltI, bI_0, bI_1, not_true_eq_false, not_false_eq_true]
      rw [if_neg (by omega)]
      simp only [true_and, Nat.reduceEqDiff, if_false, r]
      have F1 : Fk (fun k => k = 4 ∨ k = 5) h (sI h 22 5 (nI (min 10000 (vaS v (T p))))) := Fk.set (Or.inr rfl)
      have F2 : Fk (fun k => k = 4 ∨ k = 5) (sI h 22 5 (nI (min 10000 (vaS v (T p))))) (sI (sI h 22 5 (nI (min 10000 (vaS v (T p))))) 22 4 (nI p + nI 1)) := Fk.set (Or.inl rfl)
      exact ih (p + 1) (vaS v (T p)) _ _ (by omega) (vaS_le hv c2.2) (a.fk (F1.tr F2) (by decide)) (by rw [gI_sI, if_pos ⟨rfl, rfl⟩, nI_add]) (by rw [gI_sI, if_neg (by decide), gI_sI, if_pos ⟨rfl, rfl⟩]) (fun h2 r2 q2 F3 => K h2 r2 q2 ((F1.tr F2).tr F3))
    · have c2 : ¬ (48 ≤ T p ∧ T p ≤ 57) := fun z => c (decide_eq_true z)
      rw [skW_f c, vaW_f c] at K
      simp (disch := first | assumption | omega | exact isB_0 | exact isB_1 | exact isB_bI _ | decide) only [e_X4_passNumber_0, e_X4_passNumber_1, e_X4_passNumber_2, e_X4_passNumber_6, e_X4_passNumber_9, e_X4_passNumber_10, e_X4_passNumber_13, e_X4_passNumber_16, e_X4_passNumber_17, e_X4_passNumber_20, e_X4_passNumber_21, e_X4_passNumber_24, e_X4_passNumber_25, e_X4_passNumber_28, e_X4_passNumber_31, e_X4_passNumber_32, e_X4_passNumber_35, e_X4_passNumber_36, e_X4_passNumber_39, e_X4_passNumber_40, e_X4_passNumber_42, e_X4_passNumber_43, e_X4_passNumber_44, e_X4_passNumber_45, e_X4_passNumber_48, e_X4_passNumber_50, e_X4_passNumber_51, e_X4_passNumber_54, e_X4_passNumber_55, e_X4_passNumber_56, e_X4_passNumber_57, e_X4_passNumber_60, e_X4_passNumber_63, e_X4_passNumber_64, e_X4_passNumber_65, e_X4_passNumber_68, e_X4_passNumber_69, e_X4_passNumber_70, e_X4_passNumber_73, e_X4_passNumber_76, r, a.1, ap, s_isDigit t, bI_f c2, toL1, toL0, ite_self, if_true, if_false, ite_true, ite_false, nI_add, pk_mul, z_eq, z_lt, z_le, z_ge, z_gt, nI_eq, nI_leI, nI_ltI, bI_0, bI_1, not_true_eq_false, not_false_eq_true]
      exact K h r r5 Fk.rf
theorem v_pn (hL : L ≤ 120) (hT : ∀ i, i < L → T i ≤ 255) {p : Nat} (hp : p ≤ L) (a : TP h T L) (r : gI h 22 4 = nI p) (K : ∀ h2, gI h2 22 4 = nI (skW (isDi T) (L - p) p) → gI h2 22 5 = nI (min 10000 (vaW T (L - p) p 0)) → Fk (fun k => k = 4 ∨ k = 5) h h2 → Q none h2) : Ev E mX4_passNumber 0 [.ref 22, .null] [] h Q := by
  have F : Fk (fun k => k = 4 ∨ k = 5) h (sI h 22 5 (nI 0)) := Fk.set (Or.inr rfl)
  simp (disch := first | assumption | omega | exact isB_0 | exact isB_1 | exact isB_bI _ | decide) only [e_X4_passNumber_0, e_X4_passNumber_1, e_X4_passNumber_2, e_X4_passNumber_6, e_X4_passNumber_9, e_X4_passNumber_10, e_X4_passNumber_13, e_X4_passNumber_16, e_X4_passNumber_17, e_X4_passNumber_20, e_X4_passNumber_21, e_X4_passNumber_24, e_X4_passNumber_25, e_X4_passNumber_28, e_X4_passNumber_31, e_X4_passNumber_32, e_X4_passNumber_35, e_X4_passNumber_36, e_X4_passNumber_39, e_X4_passNumber_40, e_X4_passNumber_42, e_X4_passNumber_43, e_X4_passNumber_44, e_X4_passNumber_45, e_X4_passNumber_48, e_X4_passNumber_50, e_X4_passNumber_51, e_X4_passNumber_54, e_X4_passNumber_55, e_X4_passNumber_56, e_X4_passNumber_57, e_X4_passNumber_60, e_X4_passNumber_63, e_X4_passNumber_64, e_X4_passNumber_65, e_X4_passNumber_68, e_X4_passNumber_69, e_X4_passNumber_70, e_X4_passNumber_73, e_X4_passNumber_76, toL1, toL0, ite_self, if_true, if_false, ite_true, ite_false, nI_add, pk_mul, z_eq, z_lt, z_le, z_ge, z_gt, nI_eq, nI_leI, nI_ltI, bI_0, bI_1, not_true_eq_false, not_false_eq_true]
  exact v_pnL hL hT (L - p) p 0 .null _ (by omega) (by omega) (a.fk F (by decide)) (by rw [gI_sI, if_neg (by decide)]; exact r) (by rw [gI_sI]; exact if_pos ⟨rfl, rfl⟩) (fun h2 r2 q2 F2 => K h2 r2 q2 (F.tr F2))
theorem v_adL (hL : L ≤ 120) (hT : ∀ i, i < L → T i ≤ 255) : ∀ (d p : Nat) (h : Hp), p + d = L → TP h T L → gI h 22 3 = nI p → (∀ h2, gI h2 22 3 = nI (skW (isSp T) d p) → Fk (fun k => k = 3) h h2 → Ev E mX4_advance 46 [.ref 22] [] h2 Q) → Ev E mX4_advance 8 [.ref 22] [] h Q := by
  intro d
  induction d with
  | zero =>
    intro p h e a r K
    rw [e_X4_advance_8]
    simp (disch := first | assumption | omega | exact isB_0 | exact isB_1 | exact isB_bI _ | decide) only [e_X4_advance_0, e_X4_advance_1, e_X4_advance_2, e_X4_advance_5, e_X4_advance_9, e_X4_advance_12, e_X4_advance_13, e_X4_advance_16, e_X4_advance_19, e_X4_advance_20, e_X4_advance_23, e_X4_advance_24, e_X4_advance_27, e_X4_advance_28, e_X4_advance_30, e_X4_advance_33, e_X4_advance_34, e_X4_advance_35, e_X4_advance_38, e_X4_advance_39, e_X4_advance_40, e_X4_advance_43, e_X4_advance_47, e_X4_advance_48, e_X4_advance_51, e_X4_advance_54, e_X4_advance_55, e_X4_advance_58, e_X4_advance_59, e_X4_advance_62, e_X4_advance_65, e_X4_advance_66, e_X4_advance_67, e_X4_advance_70, e_X4_advance_73, e_X4_advance_74, e_X4_advance_77, e_X4_advance_78, e_X4_advance_81, e_X4_advance_82, e_X4_advance_85, e_X4_advance_88, e_X4_advance_89, e_X4_advance_90, e_X4_advance_93, e_X4_advance_94, e_X4_advance_97, e_X4_advance_100, e_X4_advance_101, e_X4_advance_104, e_X4_advance_105, e_X4_advance_108, e_X4_advance_109, e_X4_advance_112, e_X4_advance_115, e_X4_advance_116, e_X4_advance_117, e_X4_advance_120, e_X4_advance_121, e_X4_advance_124, e_X4_advance_127, e_X4_advance_128, e_X4_advance_129, e_X4_advance_132, e_X4_advance_133, e_X4_advance_136, e_X4_advance_137, e_X4_advance_139, e_X4_advance_142, e_X4_advance_143, e_X4_advance_146, e_X4_advance_147, e_X4_advance_150, e_X4_advance_151, e_X4_advance_152, e_X4_advance_155, e_X4_advance_156, e_X4_advance_157, e_X4_advance_160, r, a.1, toL1, toL0, ite_self, if_true, if_false, ite_true, ite_false, nI_add, pk_mul, z_eq, z_lt, z_le, z_ge, z_gt, nI_eq, nI_leI, nI_ltI, bI_0, bI_1, not_true_eq_false, not_false_eq_true]
    rw [if_pos (by omega)]
    exact K h r Fk.rf
  | succ d ih =>
    intro p h e a r K
    have t := hT p (by omega)
    have ap := a.2 p (by omega)
    rw [e_X4_advance_8]
    by_cases c : isSp T p = true
    · have c2 : T p = 32 := of_decide_eq_true c
      rw [skW_t c] at K
      simp (disch := first | assumption | omega | exact isB_0 | exact isB_1 | exact isB_bI _ | decide) only [e_X4_advance_0, e_X4_advance_1, e_X4_advance_2, e_X4_advance_5, e_X4_advance_9, e_X4_advance_12, e_X4_advance_13, e_X4_advance_16, e_X4_advance_19, e_X4_advance_20, e_X4_advance_23, e_X4_advance_24, e_X4_advance_27, e_X4_advance_28, e_X4_advance_30, e_X4_advance_33, e_X4_advance_34, e_X4_advance_35, e_X4_advance_38, e_X4_advance_39, e_X4_advance_40, e_X4_advance_43, e_X4_advance_47, e_X4_advance_48, e_X4_advance_51, e_X4_advance_54, e_X4_advance_55, e_X4_advance_58, e_X4_advance_59, e_X4_advance_62, e_X4_advance_65, e_X4_advance_66, e_X4_advance_67, e_X4_advance_70, e_X4_advance_73, e_X4_advance_74, e_X4_advance_77, e_X4_advance_78, e_X4_advance_81, e_X4_advance_82, e_X4_advance_85, e_X4_advance_88, e_X4_advance_89, e_X4_advance_90, e_X4_advance_93, e_X4_advance_94, e_X4_advance_97, e_X4_advance_100, e_X4_advance_101, e_X4_advance_104, e_X4_advance_105, e_X4_advance_108, e_X4_advance_109, e_X4_advance_112, e_X4_advance_115, e_X4_advance_116, e_X4_advance_117, e_X4_advance_120, e_X4_advance_121, e_X4_advance_124, e_X4_advance_127, e_X4_advance_128, e_X4_advance_129, e_X4_advance_132, e_X4_advance_133, e_X4_advance_136, e_X4_advance_137, e_X4_advance_139, e_X4_advance_142, e_X4_advance_143, e_X4_advance_146, e_X4_advance_147, e_X4_advance_150, e_X4_advance_151, e_X4_advance_152, e_X4_advance_155, e_X4_advance_156, e_X4_advance_157, e_X4_advance_160, r, a.1, ap, c2, toL1, toL0, ite_self, if_true, if_false, ite_true, ite_false, nI_add, pk_mul, z_eq, z_lt, z_le, z_ge, z_gt, nI_eq, nI_leI, nI_ltI, bI_0, bI_1, not_true_eq_false, not_false_eq_true]
      rw [if_neg (by omega)]
      have F : Fk (fun k => k = 3) h (sI h 22 3 (nI (p + 1))) := Fk.set rfl
      exact ih (p + 1) _ (by omega) (a.fk F (by decide)) (by rw [gI_sI]; exact if_pos ⟨rfl, rfl⟩) (fun h2 r2 F2 => K h2 r2 (F.tr F2))
    · have c2 : ¬ T p = 32 := fun z => c (decide_eq_true z)
      rw [skW_f c] at K
      simp (disch := first | assumption | omega | exact isB_0 | exact isB_1 | exact isB_bI _ | decide) only [e_X4_advance_0, e_X4_advance_1, e_X4_advance_2, e_X4_advance_5, e_X4_advance_9, e_X4_advance_12, e_X4_advance_13, e_X4_advance_16, e_X4_advance_19, e_X4_advance_20, e_X4_advance_23, e_X4_advance_24, e_X4_advance_27, e_X4_advance_28, e_X4_advance_30, e_X4_advance_33, e_X4_advance_34, e_X4_advance_35, e_X4_advance_38, e_X4_advance_39, e_X4_advance_40, e_X4_advance_43, e_X4_advance_47, e_X4_advance_48, e_X4_advance_51, e_X4_advance_54, e_X4_advance_55, e_X4_advance_58, e_X4_advance_59, e_X4_advance_62, e_X4_advance_65, e_X4_advance_66, e_X4_advance_67, e_X4_advance_70, e_X4_advance_73, e_X4_advance_74, e_X4_advance_77, e_X4_advance_78, e_X4_advance_81, e_X4_advance_82, e_X4_advance_85, e_X4_advance_88, e_X4_advance_89, e_X4_advance_90, e_X4_advance_93, e_X4_advance_94, e_X4_advance_97, e_X4_advance_100, e_X4_advance_101, e_X4_advance_104, e_X4_advance_105, e_X4_advance_108, e_X4_advance_109, e_X4_advance_112, e_X4_advance_115, e_X4_advance_116, e_X4_advance_117, e_X4_advance_120, e_X4_advance_121, e_X4_advance_124, e_X4_advance_127, e_X4_advance_128, e_X4_advance_129, e_X4_advance_132, e_X4_advance_133, e_X4_advance_136, e_X4_advance_137, e_X4_advance_139, e_X4_advance_142, e_X4_advance_143, e_X4_advance_146, e_X4_advance_147, e_X4_advance_150, e_X4_advance_151, e_X4_advance_152, e_X4_advance_155, e_X4_advance_156, e_X4_advance_157, e_X4_advance_160, r, a.1, ap, c2, toL1, toL0, ite_self, if_true, if_false, ite_true, ite_false, nI_add, pk_mul, z_eq, z_lt, z_le, z_ge, z_gt, nI_eq, nI_leI, nI_ltI, bI_0, bI_1, not_true_eq_false, not_false_eq_true]
      exact K h r Fk.rf
theorem v_advance (hL : L ≤ 120) (hT : ∀ i, i < L → T i ≤ 255) {p : Nat} (hp : p ≤ L) (a : TP h T L) (r : gI h 22 4 = nI p) (K : ∀ h2, CT h2 T L p → Fr (fun o => o = 22) h h2 → Q none h2) : Ev E mX4_advance 0 [.ref 22] [] h Q := by
  have F0 : Fk (fun k => k = 2 ∨ k = 3 ∨ k = 4 ∨ k = 5) h (sI h 22 3 (nI p)) := Fk.set (by decide)
  simp (disch := first | assumption | omega | exact isB_0 | exact isB_1 | exact isB_bI _ | decide) only [e_X4_advance_0, e_X4_advance_1, e_X4_advance_2, e_X4_advance_5, e_X4_advance_9, e_X4_advance_12, e_X4_advance_13, e_X4_advance_16, e_X4_advance_19, e_X4_advance_20, e_X4_advance_23, e_X4_advance_24, e_X4_advance_27, e_X4_advance_28, e_X4_advance_30, e_X4_advance_33, e_X4_advance_34, e_X4_advance_35, e_X4_advance_38, e_X4_advance_39, e_X4_advance_40, e_X4_advance_43, e_X4_advance_47, e_X4_advance_48, e_X4_advance_51, e_X4_advance_54, e_X4_advance_55, e_X4_advance_58, e_X4_advance_59, e_X4_advance_62, e_X4_advance_65, e_X4_advance_66, e_X4_advance_67, e_X4_advance_70, e_X4_advance_73, e_X4_advance_74, e_X4_advance_77, e_X4_advance_78, e_X4_advance_81, e_X4_advance_82, e_X4_advance_85, e_X4_advance_88, e_X4_advance_89, e_X4_advance_90, e_X4_advance_93, e_X4_advance_94, e_X4_advance_97, e_X4_advance_100, e_X4_advance_101, e_X4_advance_104, e_X4_advance_105, e_X4_advance_108, e_X4_advance_109, e_X4_advance_112, e_X4_advance_115, e_X4_advance_116, e_X4_advance_117, e_X4_advance_120, e_X4_advance_121, e_X4_advance_124, e_X4_advance_127, e_X4_advance_128, e_X4_advance_129, e_X4_advance_132, e_X4_advance_133, e_X4_advance_136, e_X4_advance_137, e_X4_advance_139, e_X4_advance_142, e_X4_advance_143, e_X4_advance_146, e_X4_advance_147, e_X4_advance_150, e_X4_advance_151, e_X4_advance_152, e_X4_advance_155, e_X4_advance_156, e_X4_advance_157, e_X4_advance_160, r, toL1, toL0, ite_self, if_true, if_false, ite_true, ite_false, nI_add, pk_mul, z_eq, z_lt, z_le, z_ge, z_gt, nI_eq, nI_leI, nI_ltI, bI_0, bI_1, not_true_eq_false, not_false_eq_true]
  refine v_adL hL hT (L - p) p _ (by omega) (a.fk F0 (by decide)) (by rw [gI_sI]; exact if_pos ⟨rfl, rfl⟩) (fun h2 r3 F2 => ?_)
  have r3 : gI h2 22 3 = nI (tB T L p) := r3
  have FA := F0.tr (F2.mono (R := fun k => k = 2 ∨ k = 3 ∨ k = 4 ∨ k = 5) (fun k z => by omega))
  have a2 : TP h2 T L := a.fk FA (by decide)
  have hb := tB_le (T := T) hp
  rw [e_X4_advance_46]
  have G1 : Fk (fun k => k = 2 ∨ k = 3 ∨ k = 4 ∨ k = 5) h2 (sI h2 22 4 (nI (tB T L p))) := Fk.set (by decide)
  by_cases c0 : L ≤ tB T L p
  · have G2 : Fk (fun k => k = 2 ∨ k = 3 ∨ k = 4 ∨ k = 5) (sI h2 22 4 (nI (tB T L p))) (sI (sI h2 22 4 (nI (tB T L p))) 22 2 (nI 0)) := Fk.set (by decide)
    have FF := (FA.tr G1).tr G2
    have e1 : tC T L p = 0 := if_pos c0
    have e2 : tE T L p = tB T L p := if_pos c0
    have c0' : ¬ tB T L p < L := by omega
    simp (disch := first | assumption | omega | exact isB_0 | exact isB_1 | exact isB_bI _ | decide) only [e_X4_advance_0, e_X4_advance_1, e_X4_advance_2, e_X4_advance_5, e_X4_advance_9, e_X4_advance_12, e_X4_advance_13, e_X4_advance_16, e_X4_advance_19, e_X4_advance_20, e_X4_advance_23, e_X4_advance_24, e_X4_advance_27, e_X4_advance_28, e_X4_advance_30, e_X4_advance_33, e_X4_advance_34, e_X4_advance_35, e_X4_advance_38, e_X4_advance_39, e_X4_advance_40, e_X4_advance_43, e_X4_advance_47, e_X4_advance_48, e_X4_advance_51, e_X4_advance_54, e_X4_advance_55, e_X4_advance_58, e_X4_advance_59, e_X4_advance_62, e_X4_advance_65, e_X4_advance_66, e_X4_advance_67, e_X4_advance_70, e_X4_advance_73, e_X4_advance_74, e_X4_advance_77, e_X4_advance_78, e_X4_advance_81, e_X4_advance_82, e_X4_advance_85, e_X4_advance_88, e_X4_advance_89, e_X4_advance_90, e_X4_advance_93, e_X4_advance_94, e_X4_advance_97, e_X4_advance_100, e_X4_advance_101, e_X4_advance_104, e_X4_advance_105, e_X4_advance_108, e_X4_advance_109, e_X4_advance_112, e_X4_advance_115, e_X4_advance_116, e_X4_advance_117, e_X4_advance_120, e_X4_advance_121, e_X4_advance_124, e_X4_advance_127, e_X4_advance_128, e_X4_advance_129, e_X4_advance_132, e_X4_advance_133, e_X4_advance_136, e_X4_advance_137, e_X4_advance_139, e_X4_advance_142, e_X4_advance_143, e_X4_advance_146, e_X4_advance_147, e_X4_advance_150, e_X4_advance_151, e_X4_advance_152, e_X4_advance_155, e_X4_advance_156, e_X4_advance_157, e_X4_advance_160, gI_sI, r3, a2.1, c0', true_and, and_true, Nat.reduceEqDiff, toL1, toL0, ite_self, if_true, if_false, ite_true, ite_false, nI_add, pk_mul, z_eq, z_lt, z_le, z_ge, z_gt, nI_eq, nI_leI, nI_ltI, bI_0, bI_1, not_true_eq_false, not_false_eq_true]
    refine K _ ⟨a.fk FF (by decide), ?_, ?_, ?_, fun z => ?_⟩ FF.1
    · rw [gI_sI, if_pos ⟨rfl, rfl⟩, e1]
    · rw [gI_sI, if_neg (by decide), gI_sI, if_neg (by decide), r3]
    · rw [gI_sI, if_neg (by decide), gI_sI, if_pos ⟨rfl, rfl⟩, e2]
    · rw [e1] at z; omega
  · have hlt : tB T L p < L := by omega
    have t := hT (tB T L p) hlt
    have ap := a2.2 (tB T L p) hlt
    by_cases c1 : isLe T (tB T L p) = true
    · have c12 : 97 ≤ T (tB T L p) ∧ T (tB T L p) ≤ 122 := of_decide_eq_true c1
      have G2 : Fk (fun k => k = 2 ∨ k = 3 ∨ k = 4 ∨ k = 5) (sI h2 22 4 (nI (tB T L p))) (sI (sI h2 22 4 (nI (tB T L p))) 22 2 (nI 1)) := Fk.set (by decide)
      have FF := (FA.tr G1).tr G2
      have e1 : tC T L p = 1 := by unfold tC; rw [if_neg c0, if_pos c1]
      have e2 : tE T L p = skW (isLe T) (L - tB T L p) (tB T L p) := by unfold tE; rw [if_neg c0, if_pos c1]
      simp (disch := first | assumption | omega | exact isB_0 | exact isB_1 | exact isB_bI _ | decide) only [e_X4_advance_0, e_X4_advance_1, e_X4_advance_2, e_X4_advance_5, e_X4_advance_9, e_X4_advance_12, e_X4_advance_13, e_X4_advance_16, e_X4_advance_19, e_X4_advance_20, e_X4_advance_23, e_X4_advance_24, e_X4_advance_27, e_X4_advance_28, e_X4_advance_30, e_X4_advance_33, e_X4_advance_34, e_X4_advance_35, e_X4_advance_38, e_X4_advance_39, e_X4_advance_40, e_X4_advance_43, e_X4_advance_47, e_X4_advance_48, e_X4_advance_51, e_X4_advance_54, e_X4_advance_55, e_X4_advance_58, e_X4_advance_59, e_X4_advance_62, e_X4_advance_65, e_X4_advance_66, e_X4_advance_67, e_X4_advance_70, e_X4_advance_73, e_X4_advance_74, e_X4_advance_77, e_X4_advance_78, e_X4_advance_81, e_X4_advance_82, e_X4_advance_85, e_X4_advance_88, e_X4_advance_89, e_X4_advance_90, e_X4_advance_93, e_X4_advance_94, e_X4_advance_97, e_X4_advance_100, e_X4_advance_101, e_X4_advance_104, e_X4_advance_105, e_X4_advance_108, e_X4_advance_109, e_X4_advance_112, e_X4_advance_115, e_X4_advance_116, e_X4_advance_117, e_X4_advance_120, e_X4_advance_121, e_X4_advance_124, e_X4_advance_127, e_X4_advance_128, e_X4_advance_129, e_X4_advance_132, e_X4_advance_133, e_X4_advance_136, e_X4_advance_137, e_X4_advance_139, e_X4_advance_142, e_X4_advance_143, e_X4_advance_146, e_X4_advance_147, e_X4_advance_150, e_X4_advance_151, e_X4_advance_152, e_X4_advance_155, e_X4_advance_156, e_X4_advance_157, e_X4_advance_160, gI_sI, gA_sI, r3, a2.1, ap, hlt, s_isLetter t, bI_t c12, true_and, and_true, Nat.reduceEqDiff, Nat.one_ne_zero, toL1, toL0, ite_self, if_true, if_false, ite_true, ite_false, nI_add, pk_mul, z_eq, z_lt, z_le, z_ge, z_gt, nI_eq, nI_leI, nI_ltI, bI_0, bI_1, not_true_eq_false, not_false_eq_true]
      refine v_pwL hL hT (L - tB T L p) (tB T L p) _ (by omega) (a.fk FF (by decide)) (by rw [gI_sI, if_neg (by decide), gI_sI, if_pos ⟨rfl, rfl⟩]) (fun h3 r4 F3 => ?_)
      have FZ := FF.tr (F3.mono (R := fun k => k = 2 ∨ k = 3 ∨ k = 4 ∨ k = 5) (fun k z => by omega))
      simp (disch := first | assumption | omega | exact isB_0 | exact isB_1 | exact isB_bI _ | decide) only [e_X4_advance_0, e_X4_advance_1, e_X4_advance_2, e_X4_advance_5, e_X4_advance_9, e_X4_advance_12, e_X4_advance_13, e_X4_advance_16, e_X4_advance_19, e_X4_advance_20, e_X4_advance_23, e_X4_advance_24, e_X4_advance_27, e_X4_advance_28, e_X4_advance_30, e_X4_advance_33, e_X4_advance_34, e_X4_advance_35, e_X4_advance_38, e_X4_advance_39, e_X4_advance_40, e_X4_advance_43, e_X4_advance_47, e_X4_advance_48, e_X4_advance_51, e_X4_advance_54, e_X4_advance_55, e_X4_advance_58, e_X4_advance_59, e_X4_advance_62, e_X4_advance_65, e_X4_advance_66, e_X4_advance_67, e_X4_advance_70, e_X4_advance_73, e_X4_advance_74, e_X4_advance_77, e_X4_advance_78, e_X4_advance_81, e_X4_advance_82, e_X4_advance_85, e_X4_advance_88, e_X4_advance_89, e_X4_advance_90, e_X4_advance_93, e_X4_advance_94, e_X4_advance_97, e_X4_advance_100, e_X4_advance_101, e_X4_advance_104, e_X4_advance_105, e_X4_advance_108, e_X4_advance_109, e_X4_advance_112, e_X4_advance_115, e_X4_advance_116, e_X4_advance_117, e_X4_advance_120, e_X4_advance_121, e_X4_advance_124, e_X4_advance_127, e_X4_advance_128, e_X4_advance_129, e_X4_advance_132, e_X4_advance_133, e_X4_advance_136, e_X4_advance_137, e_X4_advance_139, e_X4_advance_142, e_X4_advance_143, e_X4_advance_146, e_X4_advance_147, e_X4_advance_150, e_X4_advance_151, e_X4_advance_152, e_X4_advance_155, e_X4_advance_156, e_X4_advance_157, e_X4_advance_160, toL1, toL0, ite_self, if_true, if_false, ite_true, ite_false, nI_add, pk_mul, z_eq, z_lt, z_le, z_ge, z_gt, nI_eq, nI_leI, nI_ltI, bI_0, bI_1, not_true_eq_false, not_false_eq_true]
      refine K _ ⟨a.fk FZ (by decide), ?_, ?_, ?_, fun z => ?_⟩ FZ.1
      · rw [F3.2 2 (by decide), gI_sI, if_pos ⟨rfl, rfl⟩, e1]
      · rw [F3.2 3 (by decide), gI_sI, if_neg (by decide), gI_sI, if_neg (by decide), r3]
      · rw [r4, e2]
      · rw [e1] at z; omega
    · have c12 : ¬ (97 ≤ T (tB T L p) ∧ T (tB T L p) ≤ 122) := fun z => c1 (decide_eq_true z)
      by_cases c3 : isDi T (tB T L p) = true
      · have c32 : 48 ≤ T (tB T L p) ∧ T (tB T L p) ≤ 57 := of_decide_eq_true c3
        have G2 : Fk (fun k => k = 2 ∨ k = 3 ∨ k = 4 ∨ k = 5) (sI h2 22 4 (nI (tB T L p))) (sI (sI h2 22 4 (nI (tB T L p))) 22 2 (nI 2)) := Fk.set (by decide)
        have FF := (FA.tr G1).tr G2
        have e1 : tC T L p = 2 := by unfold tC; rw [if_neg c0, if_neg c1, if_pos c3]
        have e2 : tE T L p = skW (isDi T) (L - tB T L p) (tB T L p) := by unfold tE; rw [if_neg c0, if_neg c1, if_pos c3]
        have e3 : tV T L p = vaW T (L - tB T L p) (tB T L p) 0 := by unfold tV; rw [if_neg c0, if_neg c1, if_pos c3]
        simp (disch := first | assumption | omega | exact isB_0 | exact isB_1 | exact isB_bI _ | decide) only [e_X4_advance_0, e_X4_advance_1, e_X4_advance_2, e_X4_advance_5, e_X4_advance_9, e_X4_advance_12, e_X4_advance_13, e_X4_advance_16, e_X4_advance_19, e_X4_advance_20, e_X4_advance_23, e_X4_advance_24, e_X4_advance_27, e_X4_advance_28, e_X4_advance_30, e_X4_advance_33, e_X4_advance_34, e_X4_advance_35, e_X4_advance_38, e_X4_advance_39, e_X4_advance_40, e_X4_advance_43, e_X4_advance_47, e_X4_advance_48, e_X4_advance_51, e_X4_advance_54, e_X4_advance_55, e_X4_advance_58, e_X4_advance_59, e_X4_advance_62, e_X4_advance_65, e_X4_advance_66, e_X4_advance_67, e_X4_advance_70, e_X4_advance_73, e_X4_advance_74, e_X4_advance_77, e_X4_advance_78, e_X4_advance_81, e_X4_advance_82, e_X4_advance_85, e_X4_advance_88, e_X4_advance_89, e_X4_advance_90, e_X4_advance_93, e_X4_advance_94, e_X4_advance_97, e_X4_advance_100, e_X4_advance_101, e_X4_advance_104, e_X4_advance_105, e_X4_advance_108, e_X4_advance_109, e_X4_advance_112, e_X4_advance_115, e_X4_advance_116, e_X4_advance_117, e_X4_advance_120, e_X4_advance_121, e_X4_advance_124, e_X4_advance_127, e_X4_advance_128, e_X4_advance_129, e_X4_advance_132, e_X4_advance_133, e_X4_advance_136, e_X4_advance_137, e_X4_advance_139, e_X4_advance_142, e_X4_advance_143, e_X4_advance_146, e_X4_advance_147, e_X4_advance_150, e_X4_advance_151, e_X4_advance_152, e_X4_advance_155, e_X4_advance_156, e_X4_advance_157, e_X4_advance_160, gI_sI, gA_sI, r3, a2.1, ap, hlt, s_isLetter t, bI_f c12, s_isDigit t, bI_t c32, true_and, and_true, Nat.reduceEqDiff, Nat.one_ne_zero, toL1, toL0, ite_self, if_true, if_false, ite_true, ite_false, nI_add, pk_mul, z_eq, z_lt, z_le, z_ge, z_gt, nI_eq, nI_leI, nI_ltI, bI_0, bI_1, not_true_eq_false, not_false_eq_true]
        refine v_pn hL hT hb (a.fk FF (by decide)) (by rw [gI_sI, if_neg (by decide), gI_sI, if_pos ⟨rfl, rfl⟩]) (fun h3 r4 r5 F3 => ?_)
        have FZ := FF.tr (F3.mono (R := fun k => k = 2 ∨ k = 3 ∨ k = 4 ∨ k = 5) (fun k z => by omega))
        simp (disch := first | assumption | omega | exact isB_0 | exact isB_1 | exact isB_bI _ | decide) only [e_X4_advance_0, e_X4_advance_1, e_X4_advance_2, e_X4_advance_5, e_X4_advance_9, e_X4_advance_12, e_X4_advance_13, e_X4_advance_16, e_X4_advance_19, e_X4_advance_20, e_X4_advance_23, e_X4_advance_24, e_X4_advance_27, e_X4_advance_28, e_X4_advance_30, e_X4_advance_33, e_X4_advance_34, e_X4_advance_35, e_X4_advance_38, e_X4_advance_39, e_X4_advance_40, e_X4_advance_43, e_X4_advance_47, e_X4_advance_48, e_X4_advance_51, e_X4_advance_54, e_X4_advance_55, e_X4_advance_58, e_X4_advance_59, e_X4_advance_62, e_X4_advance_65, e_X4_advance_66, e_X4_advance_67, e_X4_advance_70, e_X4_advance_73, e_X4_advance_74, e_X4_advance_77, e_X4_advance_78, e_X4_advance_81, e_X4_advance_82, e_X4_advance_85, e_X4_advance_88, e_X4_advance_89, e_X4_advance_90, e_X4_advance_93, e_X4_advance_94, e_X4_advance_97, e_X4_advance_100, e_X4_advance_101, e_X4_advance_104, e_X4_advance_105, e_X4_advance_108, e_X4_advance_109, e_X4_advance_112, e_X4_advance_115, e_X4_advance_116, e_X4_advance_117, e_X4_advance_120, e_X4_advance_121, e_X4_advance_124, e_X4_advance_127, e_X4_advance_128, e_X4_advance_129, e_X4_advance_132, e_X4_advance_133, e_X4_advance_136, e_X4_advance_137, e_X4_advance_139, e_X4_advance_142, e_X4_advance_143, e_X4_advance_146, e_X4_advance_147, e_X4_advance_150, e_X4_advance_151, e_X4_advance_152, e_X4_advance_155, e_X4_advance_156, e_X4_advance_157, e_X4_advance_160, toL1, toL0, ite_self, if_true, if_false, ite_true, ite_false, nI_add, pk_mul, z_eq, z_lt, z_le, z_ge, z_gt, nI_eq, nI_leI, nI_ltI, bI_0, bI_1, not_true_eq_false, not_false_eq_true]
        refine K _ ⟨a.fk FZ (by decide), ?_, ?_, ?_, fun z => ?_⟩ FZ.1
        · rw [F3.2 2 (by decide), gI_sI, if_pos ⟨rfl, rfl⟩, e1]
        · rw [F3.2 3 (by decide), gI_sI, if_neg (by decide), gI_sI, if_neg (by decide), r3]
        · rw [r4, e2]
        · rw [r5, e3]
      · have c32 : ¬ (48 ≤ T (tB T L p) ∧ T (tB T L p) ≤ 57) := fun z => c3 (decide_eq_true z)
        have e2 : tE T L p = tB T L p + 1 := by unfold tE; rw [if_neg c0, if_neg c1, if_neg c3]
        have main : ∀ w, tC T L p = w → 3 ≤ w → ∀ h5, h5 = sI (sI (sI h2 22 4 (nI (tB T L p))) 22 2 (nI w)) 22 4 (nI (tB T L p + 1)) → Q none h5 := by
          intro w ew h3w h5 e5
          have G2 : Fk (fun k => k = 2 ∨ k = 3 ∨ k = 4 ∨ k = 5) (sI h2 22 4 (nI (tB T L p))) (sI (sI h2 22 4 (nI (tB T L p))) 22 2 (nI w)) := Fk.set (by decide)
          have G3 : Fk (fun k => k = 2 ∨ k = 3 ∨ k = 4 ∨ k = 5) (sI (sI h2 22 4 (nI (tB T L p))) 22 2 (nI w)) h5 := by rw [e5]; exact Fk.set (by decide)
          have FF := ((FA.tr G1).tr G2).tr G3
          refine K _ ⟨a.fk FF (by decide), ?_, ?_, ?_, fun z => ?_⟩ FF.1
          · rw [e5, gI_sI, if_neg (by decide), gI_sI, if_pos ⟨rfl, rfl⟩, ew]
          · rw [e5, gI_sI, if_neg (by decide), gI_sI, if_neg (by decide), gI_sI, if_neg (by decide), r3]
          · rw [e5, gI_sI, if_pos ⟨rfl, rfl⟩, e2]
          · rw [ew] at z; omega
        by_cases c4 : T (tB T L p) = 59
        · have e1 : tC T L p = 3 := by unfold tC; rw [if_neg c0, if_neg c1, if_neg c3, if_pos c4]
          rw [c4] at ap c12 c32 t
          simp (disch := first | assumption | omega | exact isB_0 | exact isB_1 | exact isB_bI _ | decide) only [e_X4_advance_0, e_X4_advance_1, e_X4_advance_2, e_X4_advance_5, e_X4_advance_9, e_X4_advance_12, e_X4_advance_13, e_X4_advance_16, e_X4_advance_19, e_X4_advance_20, e_X4_advance_23, e_X4_advance_24, e_X4_advance_27, e_X4_advance_28, e_X4_advance_30, e_X4_advance_33, e_X4_advance_34, e_X4_advance_35, e_X4_advance_38, e_X4_advance_39, e_X4_advance_40, e_X4_advance_43, e_X4_advance_47, e_X4_advance_48, e_X4_advance_51, e_X4_advance_54, e_X4_advance_55, e_X4_advance_58, e_X4_advance_59, e_X4_advance_62, e_X4_advance_65, e_X4_advance_66, e_X4_advance_67, e_X4_advance_70, e_X4_advance_73, e_X4_advance_74, e_X4_advance_77, e_X4_advance_78, e_X4_advance_81, e_X4_advance_82, e_X4_advance_85, e_X4_advance_88, e_X4_advance_89, e_X4_advance_90, e_X4_advance_93, e_X4_advance_94, e_X4_advance_97, e_X4_advance_100, e_X4_advance_101, e_X4_advance_104, e_X4_advance_105, e_X4_advance_108, e_X4_advance_109, e_X4_advance_112, e_X4_advance_115, e_X4_advance_116, e_X4_advance_117, e_X4_advance_120, e_X4_advance_121, e_X4_advance_124, e_X4_advance_127, e_X4_advance_128, e_X4_advance_129, e_X4_advance_132, e_X4_advance_133, e_X4_advance_136, e_X4_advance_137, e_X4_advance_139, e_X4_advance_142, e_X4_advance_143, e_X4_advance_146, e_X4_advance_147, e_X4_advance_150, e_X4_advance_151, e_X4_advance_152, e_X4_advance_155, e_X4_advance_156, e_X4_advance_157, e_X4_advance_160, gI_sI, gA_sI, r3, a2.1, ap, hlt, s_isLetter t, bI_f c12, s_isDigit t, bI_f c32, true_and, and_true, Nat.reduceEqDiff, Nat.one_ne_zero, toL1, toL0, ite_self, if_true, if_false, ite_true, ite_false, nI_add, pk_mul, z_eq, z_lt, z_le, z_ge, z_gt, nI_eq, nI_leI, nI_ltI, bI_0, bI_1, not_true_eq_false, not_false_eq_true]
          exact main 3 e1 (by omega) _ rfl
        · have e1 : tC T L p = 4 := by unfold tC; rw [if_neg c0, if_neg c1, if_neg c3, if_neg c4]
          simp (disch := first | assumption | omega | exact isB_0 | exact isB_1 | exact isB_bI _ | decide) only [e_X4_advance_0, e_X4_advance_1, e_X4_advance_2, e_X4_advance_5, e_X4_advance_9, e_X4_advance_12, e_X4_advance_13, e_X4_advance_16, e_X4_advance_19, e_X4_advance_20, e_X4_advance_23, e_X4_advance_24, e_X4_advance_27, e_X4_advance_28, e_X4_advance_30, e_X4_advance_33, e_X4_advance_34, e_X4_advance_35, e_X4_advance_38, e_X4_advance_39, e_X4_advance_40, e_X4_advance_43, e_X4_advance_47, e_X4_advance_48, e_X4_advance_51, e_X4_advance_54, e_X4_advance_55, e_X4_advance_58, e_X4_advance_59, e_X4_advance_62, e_X4_advance_65, e_X4_advance_66, e_X4_advance_67, e_X4_advance_70, e_X4_advance_73, e_X4_advance_74, e_X4_advance_77, e_X4_advance_78, e_X4_advance_81, e_X4_advance_82, e_X4_advance_85, e_X4_advance_88, e_X4_advance_89, e_X4_advance_90, e_X4_advance_93, e_X4_advance_94, e_X4_advance_97, e_X4_advance_100, e_X4_advance_101, e_X4_advance_104, e_X4_advance_105, e_X4_advance_108, e_X4_advance_109, e_X4_advance_112, e_X4_advance_115, e_X4_advance_116, e_X4_advance_117, e_X4_advance_120, e_X4_advance_121, e_X4_advance_124, e_X4_advance_127, e_X4_advance_128, e_X4_advance_129, e_X4_advance_132, e_X4_advance_133, e_X4_advance_136, e_X4_advance_137, e_X4_advance_139, e_X4_advance_142, e_X4_advance_143, e_X4_advance_146, e_X4_advance_147, e_X4_advance_150, e_X4_advance_151, e_X4_advance_152, e_X4_advance_155, e_X4_advance_156, e_X4_advance_157, e_X4_advance_160, gI_sI, gA_sI, r3, a2.1, ap, hlt, c4, s_isLetter t, bI_f c12, s_isDigit t, bI_f c32, true_and, and_true, Nat.reduceEqDiff, Nat.one_ne_zero, toL1, toL0, ite_self, if_true, if_false, ite_true, ite_false, nI_add, pk_mul, z_eq, z_lt, z_le, z_ge, z_gt, nI_eq, nI_leI, nI_ltI, bI_0, bI_1, not_true_eq_false, not_false_eq_true]
          exact main 4 e1 (by omega) _ rfl
end LEX
