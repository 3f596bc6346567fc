/-! the text: wipe -/
theorem RV.tape {h h' : Hp} {S : Sy} (R : RV h S) {n : Nat} {b : Nat → Nat} (c0 : gI h' 22 1 = nI n) (c1 : ∀ i, i < n → gA h' 23 i = nI (b i)) (F : Fr (fun o => o = 22 ∨ o = 23) h h') : RV h' (ysB (ysL S n) b) := by
  obtain ⟨r1, r2, r3, r4, r5, r6, r7, r8, r9⟩ := R
  refine ⟨r1.fr F (fun o h1 h2 => by omega), ?_, fun D hD => (r3 D hD).fr F (fun o h1 h2 => by omega), fun j hj => ?_, c0, c1, fun t ht => ?_, fun t ht => ?_, fun t i ht hi => ?_⟩
  · exact ((F 0 (by omega)).1 3).trans r2
  · rw [(F 33 (by omega)).2.1]; exact r4 j hj
  · exact ((F (25 + t) (by omega)).1 0).trans (r7 t ht)
  · exact ((F (25 + t) (by omega)).1 1).trans (r8 t ht)
  · rw [(F (29 + t) (by omega)).2.2]; exact r9 t i ht hi
theorem RM.tape {h h' : Hp} {S : Sy} (R : RM h S) {n : Nat} {b : Nat → Nat} (c0 : gI h' 36 6 = nI n) (c3 : gI h' 36 3 = gI h 36 3) (c1 : ∀ i, i < n → gA h' 41 i = nI (b i)) (F : Fr (fun o => o = 36 ∨ o = 41) h h') : RM h' (ysB (ysL S n) b) := by
  obtain ⟨r1, r2, r3, r4, r5, r6, r7, r8, r9⟩ := R
  refine ⟨r1.fr F (by omega), c3.trans r2, fun D hD => (r3 D hD).fr F (by omega), fun j hj => ?_, c0, c1, fun t ht => ?_, fun t ht => ?_, fun t i ht hi => ?_⟩
  · rw [(F 40 (by omega)).2.1]; exact r4 j hj
  · rw [(F 42 (by omega)).2.1]; exact r7 t ht
  · rw [(F 43 (by omega)).2.1]; exact r8 t ht
  · rw [(F 44 (by omega)).2.2]; exact r9 t i ht hi
theorem and_255 (y : Int32) : ∃ k, k < 256 ∧ y &&& nI 255 = nI k := by
  refine ⟨(y.toBitVec &&& 255#32).toNat, ?_, ?_⟩
  · rw [BitVec.toNat_and]
    exact Nat.lt_succ_of_le Nat.and_le_right
  · apply Int32.toBitVec_inj.mp
    show y.toBitVec &&& 255#32 = BitVec.ofNat 32 _
    rw [BitVec.ofNat_toNat, BitVec.setWidth_eq]
def f_wipe (S : Sy) : Int32 × Sy := ok (yL S) (ysB (ysL S 0) (yB S))
section TEXT0
variable {E : En} {h : Hp} {Q : Option Value → Hp → Prop} {S : Sy}
theorem v_clear (R : RV h S) : Ev E mX4_clear 0 [.ref 22, .null] [] h Q = Q (some (.int (nI (yL S)))) (sI h 22 1 (nI 0)) := by
  have r5 := R.2.2.2.2.1
  simp (disch := first | assumption | omega | exact isB_0 | exact isB_1 | exact isB_bI _ | decide) only [e_X4_clear_0, e_X4_clear_1, e_X4_clear_4, e_X4_clear_5, e_X4_clear_6, e_X4_clear_7, e_X4_clear_10, e_X4_clear_11, r5, toL1, toL0, ite_self, if_true, if_false, ite_true, ite_false, nI_add, pk_mul, z_eq, z_lt, z_le, z_ge, z_gt, nI_eq, nI_leI, nI_ltI, bI_0, bI_1, not_true_eq_false, not_false_eq_true]
theorem RV.wiped (R : RV h S) : RV (sI h 22 1 (nI 0)) (ysB (ysL S 0) (yB S)) := R.tape (by rw [gI_sI]; exact if_pos ⟨rfl, rfl⟩) (fun i hi => absurd hi (Nat.not_lt_zero i)) (Fr.sI (Or.inl rfl))
theorem v_wipe (R : RV h S) (K : Vo h Q (f_wipe S)) : Ev E mX5_wipe 0 [.ref 0] [] h Q := by
  simp (disch := first | assumption | omega | exact isB_0 | exact isB_1 | exact isB_bI _ | decide) only [e_X5_wipe_0, e_X5_wipe_1, e_X5_wipe_4, e_X5_wipe_7, v_clear R, toL1, toL0, ite_self, if_true, if_false, ite_true, ite_false, nI_add, pk_mul, z_eq, z_lt, z_le, z_ge, z_gt, nI_eq, nI_leI, nI_ltI, bI_0, bI_1, not_true_eq_false, not_false_eq_true]
  exact K _ R.wiped (lowI (by decide))
theorem m_wipe (R : RM h S) (K : Mo h Q (f_wipe S)) : Ev E mX6_wipe 0 [.ref 36, .null] [] h Q := by
  have r5 := R.2.2.2.2.1
  simp (disch := first | assumption | omega | exact isB_0 | exact isB_1 | exact isB_bI _ | decide) only [e_X6_wipe_0, e_X6_wipe_1, e_X6_wipe_4, e_X6_wipe_5, e_X6_wipe_6, e_X6_wipe_7, e_X6_wipe_10, e_X6_wipe_11, r5, toL1, toL0, ite_self, if_true, if_false, ite_true, ite_false, nI_add, pk_mul, z_eq, z_lt, z_le, z_ge, z_gt, nI_eq, nI_leI, nI_ltI, bI_0, bI_1, not_true_eq_false, not_false_eq_true]
  exact K _ (R.tape (by rw [gI_sI]; exact if_pos ⟨rfl, rfl⟩) (by rw [gI_sI, if_neg (by decide)]) (fun i hi => absurd hi (Nat.not_lt_zero i)) (Fr.sI (Or.inl rfl))) (Fr.sI (by unfold hiC; decide))
end TEXT0
