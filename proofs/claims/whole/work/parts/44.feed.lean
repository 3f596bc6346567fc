/-! the text: feed -/
theorem sub1 (x : Int32) : x - nI 1 = x + -1 := Int32.sub_eq_add_neg ..
theorem dec1 {m : Nat} (h1 : 1 ≤ m) : nI m + -1 = nI (m - 1) := by
  rw [← sub1, pk_sub h1]
theorem nv_255 (y : Int32) : nI (nv (y &&& nI 255)) = y &&& nI 255 := by
  obtain ⟨k, hk, q⟩ := and_255 y
  rw [q, nv_nI (by omega)]
def feB (b : Int32) (n p : Nat) : Nat := nv ((b >>> (nI (8 * (n - 1 - p)) &&& 31)) &&& nI 255)
def fedB (S : Sy) (b : Int32) (n : Nat) : Nat → Nat := fun i => if i < yL S then yB S i else feB b n (i - yL S)
def f_feed (b n : Int32) (S : Sy) : Int32 × Sy :=
  if nI 1 ≤ n ∧ n ≤ nI 4 then if yL S + nv n ≤ 120 then ok (yL S + nv n) (ysB (ysL S (yL S + nv n)) (fedB S b (nv n))) else bad 1 S else bad 0 S
section FEED
variable {E : En} {h : Hp} {Q : Option Value → Hp → Prop} {S : Sy}
theorem v_feL {b : Int32} {n : Nat} (hn : yL S + n ≤ 120) (hn4 : n ≤ 4) (K : ∀ h', gI h' 22 1 = nI (yL S + n) → (∀ j, j < yL S + n → gA h' 23 j = nI (fedB S b n j)) → Fr (fun o => o = 22 ∨ o = 23) h h' → Q none h') : ∀ (m i : Nat) (h' : Hp), i + m = n → gI h' 22 1 = nI (yL S + i) → (∀ j, j < yL S + i → gA h' 23 j = nI (fedB S b n j)) → Fr (fun o => o = 22 ∨ o = 23) h h' → Ev E mX4_append 4 [.ref 22, .int b, .int (nI n), .int (nI m + -1)] [] h' Q := by
  intro m
  induction m with
  | zero =>
    intro i h' e r J F
    have z : ((nI 0 + -1 : Int32) < 0) = True := eq_true (by decide)
    rw [e_X4_append_4]
    simp (disch := first | assumption | omega | exact isB_0 | exact isB_1 | exact isB_bI _ | decide) only [e_X4_append_0, e_X4_append_1, e_X4_append_2, e_X4_append_3, e_X4_append_5, e_X4_append_8, e_X4_append_9, e_X4_append_12, e_X4_append_13, e_X4_append_16, e_X4_append_17, e_X4_append_19, e_X4_append_20, e_X4_append_21, e_X4_append_22, e_X4_append_25, e_X4_append_26, e_X4_append_27, e_X4_append_28, e_X4_append_29, e_X4_append_32, e_X4_append_33, e_X4_append_34, e_X4_append_37, e_X4_append_40, e_X4_append_43, z, toL1, toL0, ite_self, if_true, if_false, ite_true, ite_false, nI_add, pk_mul, z_eq, z_lt, z_le, z_ge, z_gt, nI_eq, nI_leI, nI_ltI, bI_0, bI_1, not_true_eq_false, not_false_eq_true]
    exact K h' (by rw [show n = i by omega]; exact r) (fun j hj => J j (by omega)) F
  | succ m ih =>
    intro i h' e r J F
    rw [dec1 (by omega), Nat.add_sub_cancel]
    rw [e_X4_append_4]
    simp (disch := first | assumption | omega | exact isB_0 | exact isB_1 | exact isB_bI _ | decide) only [e_X4_append_0, e_X4_append_1, e_X4_append_2, e_X4_append_3, e_X4_append_5, e_X4_append_8, e_X4_append_9, e_X4_append_12, e_X4_append_13, e_X4_append_16, e_X4_append_17, e_X4_append_19, e_X4_append_20, e_X4_append_21, e_X4_append_22, e_X4_append_25, e_X4_append_26, e_X4_append_27, e_X4_append_28, e_X4_append_29, e_X4_append_32, e_X4_append_33, e_X4_append_34, e_X4_append_37, e_X4_append_40, e_X4_append_43, r, gI_sA, toL1, toL0, ite_self, if_true, if_false, ite_true, ite_false, nI_add, pk_mul, z_eq, z_lt, z_le, z_ge, z_gt, nI_eq, nI_leI, nI_ltI, bI_0, bI_1, not_true_eq_false, not_false_eq_true]
    refine ih (i + 1) _ (by omega) (by rw [gI_sI, if_pos ⟨rfl, rfl⟩, Nat.add_assoc]) (fun j hj => ?_) ((F.tr (Fr.sA (Or.inr rfl))).tr (Fr.sI (Or.inl rfl)))
    rw [gA_sI, gA_sA, if_pos rfl]
    show (if j = yL S + i then _ else _) = _
    by_cases q : j = yL S + i
    · rw [if_pos q]
      unfold fedB feB
      rw [if_neg (by omega), nv_255, show n - 1 - (j - yL S) = m by omega]
    · rw [if_neg q]; exact J j (by omega)
theorem v_feed (R : RV h S) (W : WS S) {b n : Int32} (K : Vo h Q (f_feed b n S)) : Ev E mX5_feed 0 [.ref 0, .int b, .int n] [] h Q := by
  have r5 := R.2.2.2.2.1
  have r6 := R.2.2.2.2.2.1
  have hL : yL S ≤ 120 := W.2.2.2.1
  unfold f_feed at K
  by_cases h1 : nI 1 ≤ n ∧ n ≤ nI 4
  · rw [if_pos h1] at K
    obtain ⟨m, hm1, hm, rfl⟩ := vI_of (by decide) h1 (by decide)
    rw [nv_nI (by omega)] at K
    by_cases h2 : yL S + m ≤ 120
    · rw [if_pos h2] at K
      have h3 : ¬ 120 < yL S + m := by omega
      simp (disch := first | assumption | omega | exact isB_0 | exact isB_1 | exact isB_bI _ | decide) only [e_X5_feed_0, e_X5_feed_1, e_X5_feed_2, e_X5_feed_3, e_X5_feed_6, e_X5_feed_9, e_X5_feed_10, e_X5_feed_11, e_X5_feed_14, e_X5_feed_15, e_X5_feed_16, e_X5_feed_19, e_X5_feed_20, e_X5_feed_23, e_X5_feed_26, e_X5_feed_27, e_X5_feed_28, e_X5_feed_31, e_X5_feed_32, e_X5_feed_33, e_X5_feed_36, e_X5_feed_37, e_X5_feed_38, e_X5_feed_41, e_X5_feed_42, e_X5_feed_45, e_X5_feed_48, e_X4_hasRoomFor_0, e_X4_hasRoomFor_1, e_X4_hasRoomFor_4, e_X4_hasRoomFor_5, e_X4_hasRoomFor_6, e_X4_hasRoomFor_8, e_X4_hasRoomFor_11, e_X4_hasRoomFor_12, e_X4_hasRoomFor_15, e_X4_hasRoomFor_16, s_isWithin, hm1, hm, r5, h3, Nat.one_ne_zero, and_self, and_true, true_and, Nat.zero_le, nI_ltI, toL1, toL0, ite_self, if_true, if_false, ite_true, ite_false, nI_add, pk_mul, z_eq, z_lt, z_le, z_ge, z_gt, nI_eq, nI_leI, nI_ltI, bI_0, bI_1, not_true_eq_false, not_false_eq_true]
      simp (disch := first | assumption | omega | exact isB_0 | exact isB_1 | exact isB_bI _ | decide) only [e_X4_append_0, e_X4_append_1, e_X4_append_2, e_X4_append_3, e_X4_append_5, e_X4_append_8, e_X4_append_9, e_X4_append_12, e_X4_append_13, e_X4_append_16, e_X4_append_17, e_X4_append_19, e_X4_append_20, e_X4_append_21, e_X4_append_22, e_X4_append_25, e_X4_append_26, e_X4_append_27, e_X4_append_28, e_X4_append_29, e_X4_append_32, e_X4_append_33, e_X4_append_34, e_X4_append_37, e_X4_append_40, e_X4_append_43, sub1, toL1, toL0, ite_self, if_true, if_false, ite_true, ite_false, nI_add, pk_mul, z_eq, z_lt, z_le, z_ge, z_gt, nI_eq, nI_leI, nI_ltI, bI_0, bI_1, not_true_eq_false, not_false_eq_true]
      refine v_feL (h := h) h2 hm (fun h' c0 c1 F => ?_) m 0 h (by omega) r5 (fun j hj => ?_) Fr.rf
      · simp (disch := first | assumption | omega | exact isB_0 | exact isB_1 | exact isB_bI _ | decide) only [e_X5_feed_0, e_X5_feed_1, e_X5_feed_2, e_X5_feed_3, e_X5_feed_6, e_X5_feed_9, e_X5_feed_10, e_X5_feed_11, e_X5_feed_14, e_X5_feed_15, e_X5_feed_16, e_X5_feed_19, e_X5_feed_20, e_X5_feed_23, e_X5_feed_26, e_X5_feed_27, e_X5_feed_28, e_X5_feed_31, e_X5_feed_32, e_X5_feed_33, e_X5_feed_36, e_X5_feed_37, e_X5_feed_38, e_X5_feed_41, e_X5_feed_42, e_X5_feed_45, e_X5_feed_48, c0, toL1, toL0, ite_self, if_true, if_false, ite_true, ite_false, nI_add, pk_mul, z_eq, z_lt, z_le, z_ge, z_gt, nI_eq, nI_leI, nI_ltI, bI_0, bI_1, not_true_eq_false, not_false_eq_true]
        exact K h' (R.tape c0 c1 F) (F.mono (fun o w => by unfold lowC; omega))
      · have hj : j < yL S := hj
        unfold fedB
        rw [if_pos hj]
        exact r6 j hj
    · rw [if_neg h2] at K
      have h3 : 120 < yL S + m := by omega
      simp (disch := first | assumption | omega | exact isB_0 | exact isB_1 | exact isB_bI _ | decide) only [e_X5_feed_0, e_X5_feed_1, e_X5_feed_2, e_X5_feed_3, e_X5_feed_6, e_X5_feed_9, e_X5_feed_10, e_X5_feed_11, e_X5_feed_14, e_X5_feed_15, e_X5_feed_16, e_X5_feed_19, e_X5_feed_20, e_X5_feed_23, e_X5_feed_26, e_X5_feed_27, e_X5_feed_28, e_X5_feed_31, e_X5_feed_32, e_X5_feed_33, e_X5_feed_36, e_X5_feed_37, e_X5_feed_38, e_X5_feed_41, e_X5_feed_42, e_X5_feed_45, e_X5_feed_48, e_X4_hasRoomFor_0, e_X4_hasRoomFor_1, e_X4_hasRoomFor_4, e_X4_hasRoomFor_5, e_X4_hasRoomFor_6, e_X4_hasRoomFor_8, e_X4_hasRoomFor_11, e_X4_hasRoomFor_12, e_X4_hasRoomFor_15, e_X4_hasRoomFor_16, s_isWithin, hm1, hm, r5, h3, v_tell R, Nat.one_ne_zero, and_self, and_true, true_and, Nat.zero_le, nI_ltI, toL1, toL0, ite_self, if_true, if_false, ite_true, ite_false, nI_add, pk_mul, z_eq, z_lt, z_le, z_ge, z_gt, nI_eq, nI_leI, nI_ltI, bI_0, bI_1, not_true_eq_false, not_false_eq_true]
      exact v_bad R K
  · rw [if_neg h1] at K
    simp (disch := first | assumption | omega | exact isB_0 | exact isB_1 | exact isB_bI _ | decide) only [e_X5_feed_0, e_X5_feed_1, e_X5_feed_2, e_X5_feed_3, e_X5_feed_6, e_X5_feed_9, e_X5_feed_10, e_X5_feed_11, e_X5_feed_14, e_X5_feed_15, e_X5_feed_16, e_X5_feed_19, e_X5_feed_20, e_X5_feed_23, e_X5_feed_26, e_X5_feed_27, e_X5_feed_28, e_X5_feed_31, e_X5_feed_32, e_X5_feed_33, e_X5_feed_36, e_X5_feed_37, e_X5_feed_38, e_X5_feed_41, e_X5_feed_42, e_X5_feed_45, e_X5_feed_48, s_isWithin, bI_f h1, v_tell R, and_self, and_true, true_and, Nat.zero_le, nI_ltI, toL1, toL0, ite_self, if_true, if_false, ite_true, ite_false, nI_add, pk_mul, z_eq, z_lt, z_le, z_ge, z_gt, nI_eq, nI_leI, nI_ltI, bI_0, bI_1, not_true_eq_false, not_false_eq_true]
    exact v_bad R K
theorem m_feL {b : Int32} {n : Nat} (hn : yL S + n ≤ 120) (hn4 : n ≤ 4) (K : ∀ h', gI h' 36 6 = nI (yL S + n) → gI h' 36 3 = gI h 36 3 → (∀ j, j < yL S + n → gA h' 41 j = nI (fedB S b n j)) → Fr (fun o => o = 36 ∨ o = 41) h h' → Q (some (.int (nI (yL S + n)))) h') : ∀ (m i : Nat) (h' : Hp), i + m = n → gI h' 36 6 = nI (yL S + i) → gI h' 36 3 = gI h 36 3 → (∀ j, j < yL S + i → gA h' 41 j = nI (fedB S b n j)) → Fr (fun o => o = 36 ∨ o = 41) h h' → Ev E mX6_feed 39 [.ref 36, .int b, .int (nI n), .int (nI m + -1)] [] h' Q := by
  intro m
  induction m with
  | zero =>
    intro i h' e r r3 J F
    have z : ((nI 0 + -1 : Int32) < 0) = True := eq_true (by decide)
    rw [e_X6_feed_39]
    simp (disch := first | assumption | omega | exact isB_0 | exact isB_1 | exact isB_bI _ | decide) only [e_X6_feed_0, e_X6_feed_1, e_X6_feed_2, e_X6_feed_3, e_X6_feed_4, e_X6_feed_7, e_X6_feed_10, e_X6_feed_11, e_X6_feed_13, e_X6_feed_16, e_X6_feed_17, e_X6_feed_18, e_X6_feed_21, e_X6_feed_22, e_X6_feed_23, e_X6_feed_25, e_X6_feed_28, e_X6_feed_29, e_X6_feed_31, e_X6_feed_34, e_X6_feed_35, e_X6_feed_36, e_X6_feed_37, e_X6_feed_38, e_X6_feed_40, e_X6_feed_43, e_X6_feed_44, e_X6_feed_47, e_X6_feed_48, e_X6_feed_51, e_X6_feed_52, e_X6_feed_54, e_X6_feed_55, e_X6_feed_56, e_X6_feed_57, e_X6_feed_60, e_X6_feed_61, e_X6_feed_62, e_X6_feed_63, e_X6_feed_64, e_X6_feed_67, e_X6_feed_68, e_X6_feed_69, e_X6_feed_72, e_X6_feed_75, e_X6_feed_78, e_X6_feed_79, e_X6_feed_82, z, r, toL1, toL0, ite_self, if_true, if_false, ite_true, ite_false, nI_add, pk_mul, z_eq, z_lt, z_le, z_ge, z_gt, nI_eq, nI_leI, nI_ltI, bI_0, bI_1, not_true_eq_false, not_false_eq_true]
    rw [show i = n by omega] at r J ⊢
    exact K h' r r3 J F
  | succ m ih =>
    intro i h' e r r3 J F
    rw [dec1 (by omega), Nat.add_sub_cancel]
    rw [e_X6_feed_39]
    simp (disch := first | assumption | omega | exact isB_0 | exact isB_1 | exact isB_bI _ | decide) only [e_X6_feed_0, e_X6_feed_1, e_X6_feed_2, e_X6_feed_3, e_X6_feed_4, e_X6_feed_7, e_X6_feed_10, e_X6_feed_11, e_X6_feed_13, e_X6_feed_16, e_X6_feed_17, e_X6_feed_18, e_X6_feed_21, e_X6_feed_22, e_X6_feed_23, e_X6_feed_25, e_X6_feed_28, e_X6_feed_29, e_X6_feed_31, e_X6_feed_34, e_X6_feed_35, e_X6_feed_36, e_X6_feed_37, e_X6_feed_38, e_X6_feed_40, e_X6_feed_43, e_X6_feed_44, e_X6_feed_47, e_X6_feed_48, e_X6_feed_51, e_X6_feed_52, e_X6_feed_54, e_X6_feed_55, e_X6_feed_56, e_X6_feed_57, e_X6_feed_60, e_X6_feed_61, e_X6_feed_62, e_X6_feed_63, e_X6_feed_64, e_X6_feed_67, e_X6_feed_68, e_X6_feed_69, e_X6_feed_72, e_X6_feed_75, e_X6_feed_78, e_X6_feed_79, e_X6_feed_82, r, gI_sA, toL1, toL0, ite_self, if_true, if_false, ite_true, ite_false, nI_add, pk_mul, z_eq, z_lt, z_le, z_ge, z_gt, nI_eq, nI_leI, nI_ltI, bI_0, bI_1, not_true_eq_false, not_false_eq_true]
    refine ih (i + 1) _ (by omega) (by rw [gI_sI, if_pos ⟨rfl, rfl⟩, Nat.add_assoc]) (by rw [gI_sI, if_neg (by decide)]; exact r3) (fun j hj => ?_) ((F.tr (Fr.sA (Or.inr rfl))).tr (Fr.sI (Or.inl rfl)))
    rw [gA_sI, gA_sA, if_pos rfl]
    show (if j = yL S + i then _ else _) = _
    by_cases q : j = yL S + i
    · rw [if_pos q]
      unfold fedB feB
      rw [if_neg (by omega), nv_255, show n - 1 - (j - yL S) = m by omega]
    · rw [if_neg q]; exact J j (by omega)
theorem m_feed (R : RM h S) (W : WS S) {b n : Int32} (K : Mo h Q (f_feed b n S)) : Ev E mX6_feed 0 [.ref 36, .int b, .int n, .null] [] h Q := by
  have r5 := R.2.2.2.2.1
  have r6 := R.2.2.2.2.2.1
  have hL : yL S ≤ 120 := W.2.2.2.1
  unfold f_feed at K
  by_cases h1 : nI 1 ≤ n ∧ n ≤ nI 4
  · rw [if_pos h1] at K
    obtain ⟨m, hm1, hm, rfl⟩ := vI_of (by decide) h1 (by decide)
    rw [nv_nI (by omega)] at K
    by_cases h2 : yL S + m ≤ 120
    · rw [if_pos h2] at K
      simp (disch := first | assumption | omega | exact isB_0 | exact isB_1 | exact isB_bI _ | decide) only [e_X6_feed_0, e_X6_feed_1, e_X6_feed_2, e_X6_feed_3, e_X6_feed_4, e_X6_feed_7, e_X6_feed_10, e_X6_feed_11, e_X6_feed_13, e_X6_feed_16, e_X6_feed_17, e_X6_feed_18, e_X6_feed_21, e_X6_feed_22, e_X6_feed_23, e_X6_feed_25, e_X6_feed_28, e_X6_feed_29, e_X6_feed_31, e_X6_feed_34, e_X6_feed_35, e_X6_feed_36, e_X6_feed_37, e_X6_feed_38, e_X6_feed_40, e_X6_feed_43, e_X6_feed_44, e_X6_feed_47, e_X6_feed_48, e_X6_feed_51, e_X6_feed_52, e_X6_feed_54, e_X6_feed_55, e_X6_feed_56, e_X6_feed_57, e_X6_feed_60, e_X6_feed_61, e_X6_feed_62, e_X6_feed_63, e_X6_feed_64, e_X6_feed_67, e_X6_feed_68, e_X6_feed_69, e_X6_feed_72, e_X6_feed_75, e_X6_feed_78, e_X6_feed_79, e_X6_feed_82, m_in, hm1, hm, r5, h2, sub1, and_self, and_true, true_and, Nat.zero_le, nI_ltI, toL1, toL0, ite_self, if_true, if_false, ite_true, ite_false, nI_add, pk_mul, z_eq, z_lt, z_le, z_ge, z_gt, nI_eq, nI_leI, nI_ltI, bI_0, bI_1, not_true_eq_false, not_false_eq_true]
      refine m_feL (h := h) h2 hm (fun h' c0 c3 c1 F => ?_) m 0 h (by omega) r5 rfl (fun j hj => ?_) Fr.rf
      · exact K h' (R.tape c0 c3 c1 F) (F.mono (fun o w => by unfold hiC; omega))
      · have hj : j < yL S := hj
        unfold fedB
        rw [if_pos hj]
        exact r6 j hj
    · rw [if_neg h2] at K
      simp (disch := first | assumption | omega | exact isB_0 | exact isB_1 | exact isB_bI _ | decide) only [e_X6_feed_0, e_X6_feed_1, e_X6_feed_2, e_X6_feed_3, e_X6_feed_4, e_X6_feed_7, e_X6_feed_10, e_X6_feed_11, e_X6_feed_13, e_X6_feed_16, e_X6_feed_17, e_X6_feed_18, e_X6_feed_21, e_X6_feed_22, e_X6_feed_23, e_X6_feed_25, e_X6_feed_28, e_X6_feed_29, e_X6_feed_31, e_X6_feed_34, e_X6_feed_35, e_X6_feed_36, e_X6_feed_37, e_X6_feed_38, e_X6_feed_40, e_X6_feed_43, e_X6_feed_44, e_X6_feed_47, e_X6_feed_48, e_X6_feed_51, e_X6_feed_52, e_X6_feed_54, e_X6_feed_55, e_X6_feed_56, e_X6_feed_57, e_X6_feed_60, e_X6_feed_61, e_X6_feed_62, e_X6_feed_63, e_X6_feed_64, e_X6_feed_67, e_X6_feed_68, e_X6_feed_69, e_X6_feed_72, e_X6_feed_75, e_X6_feed_78, e_X6_feed_79, e_X6_feed_82, m_in, hm1, hm, r5, h2, m_f1 R, and_self, and_true, true_and, Nat.zero_le, nI_ltI, toL1, toL0, ite_self, if_true, if_false, ite_true, ite_false, nI_add, pk_mul, z_eq, z_lt, z_le, z_ge, z_gt, nI_eq, nI_leI, nI_ltI, bI_0, bI_1, not_true_eq_false, not_false_eq_true]
      exact m_bad R K
  · rw [if_neg h1] at K
    simp (disch := first | assumption | omega | exact isB_0 | exact isB_1 | exact isB_bI _ | decide) only [e_X6_feed_0, e_X6_feed_1, e_X6_feed_2, e_X6_feed_3, e_X6_feed_4, e_X6_feed_7, e_X6_feed_10, e_X6_feed_11, e_X6_feed_13, e_X6_feed_16, e_X6_feed_17, e_X6_feed_18, e_X6_feed_21, e_X6_feed_22, e_X6_feed_23, e_X6_feed_25, e_X6_feed_28, e_X6_feed_29, e_X6_feed_31, e_X6_feed_34, e_X6_feed_35, e_X6_feed_36, e_X6_feed_37, e_X6_feed_38, e_X6_feed_40, e_X6_feed_43, e_X6_feed_44, e_X6_feed_47, e_X6_feed_48, e_X6_feed_51, e_X6_feed_52, e_X6_feed_54, e_X6_feed_55, e_X6_feed_56, e_X6_feed_57, e_X6_feed_60, e_X6_feed_61, e_X6_feed_62, e_X6_feed_63, e_X6_feed_64, e_X6_feed_67, e_X6_feed_68, e_X6_feed_69, e_X6_feed_72, e_X6_feed_75, e_X6_feed_78, e_X6_feed_79, e_X6_feed_82, m_in, bI_f h1, m_f0 R, and_self, and_true, true_and, Nat.zero_le, nI_ltI, toL1, toL0, ite_self, if_true, if_false, ite_true, ite_false, nI_add, pk_mul, z_eq, z_lt, z_le, z_ge, z_gt, nI_eq, nI_leI, nI_ltI, bI_0, bI_1, not_true_eq_false, not_false_eq_true]
    exact m_bad R K
end FEED
