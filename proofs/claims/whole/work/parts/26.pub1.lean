/-! public methods, both sides: owners, frames -/
theorem i32_c (v : Int32) : v < 0 ∨ ∃ k, k < 2147483648 ∧ v = nI k := by
  by_cases hv : v < 0
  · exact Or.inl hv
  · refine Or.inr ⟨v.toInt.toNat, ?_, ?_⟩
    · have := Int32.toInt_lt v
      omega
    · have h0 := Int32.le_iff_toInt_le.mp (Int32.not_lt.mp hv)
      have h1 : (0 : Int32).toInt = 0 := rfl
      have h2 := Int32.toInt_lt v
      apply Int32.toInt_inj.mp
      rw [nI_toInt (by omega)]
      omega
theorem isC_1 : isC 1 := Or.inl rfl
theorem isC_8 : isC 8 := Or.inr (Or.inl rfl)
theorem isC_15 : isC 15 := Or.inr (Or.inr rfl)
theorem lowI {h : Hp} {o k : Nat} {v : Int32} (ho : o < 36) : Fr lowC h (sI h o k v) := Fr.sI ho
theorem lowA {h : Hp} {a : Nat} {f : Nat → Int32} (ho : a < 36) : Fr lowC h (sA h a f) := Fr.sA ho
theorem xvI {h : Hp} {o k : Nat} {v : Int32} (h1 : 1 ≤ o) (h2 : o ≤ 14) : Fr Xv h (sI h o k v) := Fr.sI (Or.inl ⟨h1, h2⟩)
theorem xvA {h : Hp} {a : Nat} {f : Nat → Int32} (h1 : 1 ≤ a) (h2 : a ≤ 14) : Fr Xv h (sA h a f) := Fr.sA (Or.inl ⟨h1, h2⟩)
theorem xwA {h : Hp} {a : Nat} {f : Nat → Int32} (h1 : a = 37 ∨ a = 39) : Fr Xw h (sA h a f) := Fr.sA h1
theorem Fr.lo {h h' : Hp} (F : Fr Xv h h') : Fr lowC h h' := F.mono (fun _ q => xvl q)
theorem Fr.hi {h h' : Hp} (F : Fr Xw h h') : Fr hiC h h' := F.mono (fun _ q => xwh q)
theorem Fr.c1 {h h' : Hp} (F : Fr (Xc 1) h h') : Fr Xv h h' := F.mono (fun q z => by unfold Xc at z; unfold Xv; omega)
theorem Fr.c8 {h h' : Hp} (F : Fr (Xc 8) h h') : Fr Xv h h' := F.mono (fun q z => by unfold Xc at z; unfold Xv; omega)
theorem Fr.m7 {h h' : Hp} (F : Fr Xm h h') : Fr Xw h h' := F.mono (fun _ z => Or.inl z)
theorem Fr.m9 {h h' : Hp} (F : Fr (fun o => o = 39) h h') : Fr Xw h h' := F.mono (fun _ z => Or.inr z)
def ok (x : Nat) (S : Sy) : Int32 × Sy := (nI x, S)
def f_money (a b : Int32) (S : Sy) : Int32 × Sy :=
  if nI 0 ≤ a ∧ a ≤ nI 3 then if nI 0 ≤ b ∧ b ≤ nI 99999 then ok (zM (yC S) (nv a)) (ysC S (zsM (yC S) (updN (zM (yC S)) (nv a) (nv b)))) else bad 0 S else bad 0 S
def f_frame (a b : Int32) (S : Sy) : Int32 × Sy :=
  if nI 0 ≤ a ∧ a ≤ nI 5 then if nI 0 ≤ b ∧ b ≤ nI 3 then if zF (yC S) < 8 then ok (zF (yC S)) (ysC S (addC (yC S) (nv a) (nv b))) else bad 1 S else bad 0 S else bad 0 S
def f_fine (a b : Int32) (S : Sy) : Int32 × Sy :=
  if hF a (zF (yC S)) then if nI 0 ≤ b ∧ b ≤ nI 99 then ok (zE (yC S) (nv a)) (ysC S (zsE (yC S) (updN (zE (yC S)) (nv a) (nv b)))) else bad 0 S else bad 0 S
def f_turn (a b : Int32) (S : Sy) : Int32 × Sy :=
  if hF a (zF (yC S)) then if nI 0 ≤ b ∧ b ≤ nI 5 then ok (zK (yC S) (nv a)) (ysC S (zsK (yC S) (updN (zK (yC S)) (nv a) (nv b)))) else bad 0 S else bad 0 S
section PUB1
variable {E : En} {h : Hp} {Q : Option Value → Hp → Prop} {S : Sy}
theorem v_money (R : RV h S) {a b : Int32} (K : Vo h Q (f_money a b S)) : Ev E mX5_money 0 [.ref 0, .int a, .int b, .null] [] h Q := by
  have hC := isC_1
  unfold f_money at K
  by_cases h1 : nI 0 ≤ a ∧ a ≤ nI 3
  · rw [if_pos h1] at K
    by_cases h2 : nI 0 ≤ b ∧ b ≤ nI 99999
    · rw [if_pos h2] at K
      obtain ⟨j, _, hj, rfl⟩ := vI_of (by decide) h1 (by decide)
      obtain ⟨k, _, hk, rfl⟩ := vI_of (by decide) h2 (by decide)
      rw [nv_nI (by omega), nv_nI (by omega)] at K
      simp (disch := first | assumption | omega | exact isB_0 | exact isB_1 | exact isB_bI _ | decide) only [e_X5_money_0, e_X5_money_1, e_X5_money_4, e_X5_money_7, e_X5_money_8, e_X5_money_9, e_X5_money_11, e_X5_money_14, e_X5_money_17, e_X5_money_18, e_X5_money_19, e_X5_money_22, e_X5_money_23, e_X5_money_24, e_X5_money_27, e_X5_money_30, e_X5_money_31, e_X5_money_32, e_X5_money_33, e_X5_money_34, e_X5_money_37, e_X5_money_40, e_X5_money_41, e_X5_money_42, e_X5_money_43, e_X5_money_44, s_isOwner, s_isWithin, hj, hk, R.ci.M (show j < 4 by omega), and_self, and_true, true_and, Nat.zero_le, nI_ltI, toL1, toL0, ite_self, if_true, if_false, ite_true, ite_false, nI_add, pk_mul, z_eq, z_lt, z_le, z_ge, z_gt, nI_eq, nI_leI, nI_ltI, bI_0, bI_1, not_true_eq_false, not_false_eq_true]
      exact K _ (R.city (R.ci.setM j k) (xvA (by decide) (by decide))) (lowA (by decide))
    · rw [if_neg h2] at K
      obtain ⟨j, _, hj, rfl⟩ := vI_of (by decide) h1 (by decide)
      simp (disch := first | assumption | omega | exact isB_0 | exact isB_1 | exact isB_bI _ | decide) only [e_X5_money_0, e_X5_money_1, e_X5_money_4, e_X5_money_7, e_X5_money_8, e_X5_money_9, e_X5_money_11, e_X5_money_14, e_X5_money_17, e_X5_money_18, e_X5_money_19, e_X5_money_22, e_X5_money_23, e_X5_money_24, e_X5_money_27, e_X5_money_30, e_X5_money_31, e_X5_money_32, e_X5_money_33, e_X5_money_34, e_X5_money_37, e_X5_money_40, e_X5_money_41, e_X5_money_42, e_X5_money_43, e_X5_money_44, s_isOwner, s_isWithin, hj, bI_f h2, v_tell R, and_self, and_true, true_and, Nat.zero_le, nI_ltI, toL1, toL0, ite_self, if_true, if_false, ite_true, ite_false, nI_add, pk_mul, z_eq, z_lt, z_le, z_ge, z_gt, nI_eq, nI_leI, nI_ltI, bI_0, bI_1, not_true_eq_false, not_false_eq_true]
      exact v_bad R K
  · rw [if_neg h1] at K
    simp (disch := first | assumption | omega | exact isB_0 | exact isB_1 | exact isB_bI _ | decide) only [e_X5_money_0, e_X5_money_1, e_X5_money_4, e_X5_money_7, e_X5_money_8, e_X5_money_9, e_X5_money_11, e_X5_money_14, e_X5_money_17, e_X5_money_18, e_X5_money_19, e_X5_money_22, e_X5_money_23, e_X5_money_24, e_X5_money_27, e_X5_money_30, e_X5_money_31, e_X5_money_32, e_X5_money_33, e_X5_money_34, e_X5_money_37, e_X5_money_40, e_X5_money_41, e_X5_money_42, e_X5_money_43, e_X5_money_44, s_isOwner, s_isWithin, bI_f h1, v_tell R, and_self, and_true, true_and, Nat.zero_le, nI_ltI, toL1, toL0, ite_self, if_true, if_false, ite_true, ite_false, nI_add, pk_mul, z_eq, z_lt, z_le, z_ge, z_gt, nI_eq, nI_leI, nI_ltI, bI_0, bI_1, not_true_eq_false, not_false_eq_true]
    exact v_bad R K
theorem m_becomes {i : Nat} (hi : i < 46) {x : Int32} : Ev E mX6_becomes 0 [.ref 36, .int (nI i), .int x, .null] [] h Q = Q (some (.int (gA h 37 i))) (sA h 37 (upd (gA h 37) i x)) := by
  simp (disch := first | assumption | omega | exact isB_0 | exact isB_1 | exact isB_bI _ | decide) only [e_X6_becomes_0, e_X6_becomes_1, e_X6_becomes_4, e_X6_becomes_5, e_X6_becomes_6, e_X6_becomes_7, e_X6_becomes_8, e_X6_becomes_11, e_X6_becomes_12, e_X6_becomes_13, e_X6_becomes_14, e_X6_becomes_15, toL1, toL0, ite_self, if_true, if_false, ite_true, ite_false, nI_add, pk_mul, z_eq, z_lt, z_le, z_ge, z_gt, nI_eq, nI_leI, nI_ltI, bI_0, bI_1, not_true_eq_false, not_false_eq_true]
theorem m_money (R : RM h S) {a b : Int32} (K : Mo h Q (f_money a b S)) : Ev E mX6_money 0 [.ref 36, .int a, .int b] [] h Q := by
  unfold f_money at K
  by_cases h1 : nI 0 ≤ a ∧ a ≤ nI 3
  · rw [if_pos h1] at K
    by_cases h2 : nI 0 ≤ b ∧ b ≤ nI 99999
    · rw [if_pos h2] at K
      obtain ⟨j, _, hj, rfl⟩ := vI_of (by decide) h1 (by decide)
      obtain ⟨k, _, hk, rfl⟩ := vI_of (by decide) h2 (by decide)
      rw [nv_nI (by omega), nv_nI (by omega)] at K
      simp (disch := first | assumption | omega | exact isB_0 | exact isB_1 | exact isB_bI _ | decide) only [e_X6_money_0, e_X6_money_1, e_X6_money_4, e_X6_money_7, e_X6_money_8, e_X6_money_9, e_X6_money_10, e_X6_money_12, e_X6_money_15, e_X6_money_18, e_X6_money_19, e_X6_money_20, e_X6_money_21, e_X6_money_22, e_X6_money_23, e_X6_money_26, e_X6_money_29, e_X6_money_30, e_X6_money_32, e_X6_money_35, m_isOwner, m_in, m_becomes, hj, hk, R.ci.M (show j < 4 by omega), and_self, and_true, true_and, Nat.zero_le, nI_ltI, toL1, toL0, ite_self, if_true, if_false, ite_true, ite_false, nI_add, pk_mul, z_eq, z_lt, z_le, z_ge, z_gt, nI_eq, nI_leI, nI_ltI, bI_0, bI_1, not_true_eq_false, not_false_eq_true]
      exact K _ (R.city (R.ci.setM (by omega) k) (xwA (by decide))) (Fr.hi (xwA (by decide)))
    · rw [if_neg h2] at K
      obtain ⟨j, _, hj, rfl⟩ := vI_of (by decide) h1 (by decide)
      simp (disch := first | assumption | omega | exact isB_0 | exact isB_1 | exact isB_bI _ | decide) only [e_X6_money_0, e_X6_money_1, e_X6_money_4, e_X6_money_7, e_X6_money_8, e_X6_money_9, e_X6_money_10, e_X6_money_12, e_X6_money_15, e_X6_money_18, e_X6_money_19, e_X6_money_20, e_X6_money_21, e_X6_money_22, e_X6_money_23, e_X6_money_26, e_X6_money_29, e_X6_money_30, e_X6_money_32, e_X6_money_35, m_isOwner, m_in, hj, bI_f h2, m_f0 R, and_self, and_true, true_and, Nat.zero_le, nI_ltI, toL1, toL0, ite_self, if_true, if_false, ite_true, ite_false, nI_add, pk_mul, z_eq, z_lt, z_le, z_ge, z_gt, nI_eq, nI_leI, nI_ltI, bI_0, bI_1, not_true_eq_false, not_false_eq_true]
      exact m_bad R K
  · rw [if_neg h1] at K
    simp (disch := first | assumption | omega | exact isB_0 | exact isB_1 | exact isB_bI _ | decide) only [e_X6_money_0, e_X6_money_1, e_X6_money_4, e_X6_money_7, e_X6_money_8, e_X6_money_9, e_X6_money_10, e_X6_money_12, e_X6_money_15, e_X6_money_18, e_X6_money_19, e_X6_money_20, e_X6_money_21, e_X6_money_22, e_X6_money_23, e_X6_money_26, e_X6_money_29, e_X6_money_30, e_X6_money_32, e_X6_money_35, m_isOwner, m_in, bI_f h1, m_f0 R, and_self, and_true, true_and, Nat.zero_le, nI_ltI, toL1, toL0, ite_self, if_true, if_false, ite_true, ite_false, nI_add, pk_mul, z_eq, z_lt, z_le, z_ge, z_gt, nI_eq, nI_leI, nI_ltI, bI_0, bI_1, not_true_eq_false, not_false_eq_true]
    exact m_bad R K
end PUB1
