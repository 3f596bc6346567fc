/-! the law's loop -/
theorem and_63 (y : Int32) : ∃ k, k < 64 ∧ y &&& nI 63 = nI k := by
  refine ⟨(y.toBitVec &&& 63#32).toNat, ?_, ?_⟩
  · rw [BitVec.toNat_and]
    exact Nat.lt_succ_of_le Nat.and_le_right
  · apply Int32.toBitVec_inj.mp
    show y.toBitVec &&& 63#32 = BitVec.ofNat 32 _
    rw [BitVec.ofNat_toNat, BitVec.setWidth_eq]
theorem sub_6 {n i : Nat} (hn : n < 1000000) (hi : i < 1100000) : (nI n - nI 6 < nI i) ↔ n < i + 6 := by
  rw [Int32.lt_iff_toInt_lt, pk_sub_toInt (by omega) (by omega), nI_toInt (by omega)]
  omega
theorem lawL {E : En} {Q : Option Value → Hp → Prop} (hE : E.2 < 1000000) (Q1 : ∀ h, Q (some (.int (nI 1))) h) : ∀ (d i : Nat) (h : Hp) (S : Sy), RV h S → RM h S → WS S → E.2 ≤ i + 6 * d → i < 1100000 → Ev E mL_law 18 [.ref 142, .ref 0, .ref 36, .int (nI i)] [] h Q := by
  have fin : ∀ (i : Nat) (h : Hp), E.2 < i + 6 → i < 1100000 → Ev E mL_law 18 [.ref 142, .ref 0, .ref 36, .int (nI i)] [] h Q := by
    intro i h h1 h2
    have z := (sub_6 hE h2).mpr h1
    simp (disch := first | assumption | omega | exact isB_0 | exact isB_1 | exact isB_bI _ | decide) only [e_L_law_18, e_L_law_19, e_L_law_20, e_L_law_21, e_L_law_23, e_L_law_24, e_L_law_27, e_L_law_28, e_L_law_29, e_L_law_30, e_L_law_32, e_L_law_1398, e_L_law_1399, z, toL1, toL0, ite_self, if_true, if_false, ite_true, ite_false, nI_add, pk_mul, z_eq, z_lt, z_le, z_ge, z_gt, nI_eq, nI_leI, nI_ltI, bI_0, bI_1, not_true_eq_false, not_false_eq_true]
    exact Q1 h
  intro d
  induction d with
  | zero =>
    intro i h S RV0 RM0 W e hi
    exact fin i h (by omega) hi
  | succ d ih =>
    intro i h S RV0 RM0 W e hi
    by_cases c : E.2 < i + 6
    · exact fin i h c hi
    · obtain ⟨k, hk, ek⟩ := and_63 (E.1 i)
      have z : ¬ (nI E.2 - nI 6 < nI i) := fun w => c ((sub_6 hE hi).mp w)
      have h6 : i + 6 ≤ E.2 := by omega
      have K2 : ∀ h' S', RV h' S' → RM h' S' → WS S' → Ev E mL_law 1392 [.ref 142, .ref 0, .ref 36, .int (nI i)] [] h' Q := by
        intro h' S' a b w
        simp (disch := first | assumption | omega | exact isB_0 | exact isB_1 | exact isB_bI _ | decide) only [e_L_law_1392, e_L_law_1395, toL1, toL0, ite_self, if_true, if_false, ite_true, ite_false, nI_add, pk_mul, z_eq, z_lt, z_le, z_ge, z_gt, nI_eq, nI_leI, nI_ltI, bI_0, bI_1, not_true_eq_false, not_false_eq_true]
        exact ih (i + 6) h' S' a b w (by omega) (by omega)
      have hd : Ev E mL_law 18 [.ref 142, .ref 0, .ref 36, .int (nI i)] [] h Q = Ev E mL_law 33 [.ref 142, .ref 0, .ref 36, .int (nI i)] [.int (nI k)] h Q := by
        simp (disch := first | assumption | omega | exact isB_0 | exact isB_1 | exact isB_bI _ | decide) only [e_L_law_18, e_L_law_19, e_L_law_20, e_L_law_21, e_L_law_23, e_L_law_24, e_L_law_27, e_L_law_28, e_L_law_29, e_L_law_30, e_L_law_32, z, ek, toL1, toL0, ite_self, if_true, if_false, ite_true, ite_false, nI_add, pk_mul, z_eq, z_lt, z_le, z_ge, z_gt, nI_eq, nI_leI, nI_ltI, bI_0, bI_1, not_true_eq_false, not_false_eq_true]
      rw [hd]
      rcases (show k = 0 ∨ k = 1 ∨ k = 2 ∨ k = 3 ∨ k = 4 ∨ k = 5 ∨ k = 6 ∨ k = 7 ∨ k = 8 ∨ k = 9 ∨ k = 10 ∨ k = 11 ∨ k = 12 ∨ k = 13 ∨ k = 14 ∨ k = 15 ∨ k = 16 ∨ k = 17 ∨ k = 18 ∨ k = 19 ∨ k = 20 ∨ k = 21 ∨ k = 22 ∨ k = 23 ∨ k = 24 ∨ k = 25 ∨ k = 26 ∨ k = 27 ∨ k = 28 ∨ k = 29 ∨ k = 30 ∨ k = 31 ∨ k = 32 ∨ k = 33 ∨ k = 34 ∨ k = 35 ∨ k = 36 ∨ k = 37 ∨ k = 38 ∨ 38 < k by omega) with rfl | rfl | rfl | rfl | rfl | rfl | rfl | rfl | rfl | rfl | rfl | rfl | rfl | rfl | rfl | rfl | rfl | rfl | rfl | rfl | rfl | rfl | rfl | rfl | rfl | rfl | rfl | rfl | rfl | rfl | rfl | rfl | rfl | rfl | rfl | rfl | rfl | rfl | rfl | hg
      · rw [e_L_law_33_c0]; exact w_money RV0 RM0 W h6 hE K2
      · rw [e_L_law_33_c1]; exact w_ownerOf RV0 RM0 W h6 hE K2
      · rw [e_L_law_33_c2]; exact w_frame RV0 RM0 W h6 hE K2
      · rw [e_L_law_33_c3]; exact w_frameOf RV0 RM0 W h6 hE K2
      · rw [e_L_law_33_c4]; exact w_set RV0 RM0 W h6 hE K2
      · rw [e_L_law_33_c5]; exact w_of RV0 RM0 W h6 hE K2
      · rw [e_L_law_33_c6]; exact w_fine RV0 RM0 W h6 hE K2
      · rw [e_L_law_33_c7]; exact w_turn RV0 RM0 W h6 hE K2
      · rw [e_L_law_33_c8]; exact w_as RV0 RM0 W h6 hE K2
      · rw [e_L_law_33_c9]; exact w_trade RV0 RM0 W h6 hE K2
      · rw [e_L_law_33_c10]; exact w_shift RV0 RM0 W h6 hE K2
      · rw [e_L_law_33_c11]; exact w_back RV0 RM0 W h6 hE K2
      · rw [e_L_law_33_c12]; exact w_stone RV0 RM0 W h6 hE K2
      · rw [e_L_law_33_c13]; exact w_home RV0 RM0 W h6 hE K2
      · rw [e_L_law_33_c14]; exact w_hours RV0 RM0 W h6 hE K2
      · rw [e_L_law_33_c15]; exact w_now RV0 RM0 W h6 hE K2
      · rw [e_L_law_33_c16]; exact w_on RV0 RM0 W h6 hE K2
      · rw [e_L_law_33_c17]; exact w_then RV0 RM0 W h6 hE K2
      · rw [e_L_law_33_c18]; exact w_rich RV0 RM0 W h6 hE K2
      · rw [e_L_law_33_c19]; exact w_best RV0 RM0 W h6 hE K2
      · rw [e_L_law_33_c20]; exact w_kind RV0 RM0 W h6 hE K2
      · rw [e_L_law_33_c21]; exact w_shifts RV0 RM0 W h6 hE K2
      · rw [e_L_law_33_c22]; exact w_least RV0 RM0 W h6 hE K2
      · rw [e_L_law_33_c23]; exact w_draw RV0 RM0 W h6 hE K2
      · rw [e_L_law_33_c24]; exact w_richest RV0 RM0 W h6 hE K2
      · rw [e_L_law_33_c25]; exact w_feed RV0 RM0 W h6 hE K2
      · rw [e_L_law_33_c26]; exact w_wipe RV0 RM0 W h6 hE K2
      · rw [e_L_law_33_c27]; exact w_city RV0 RM0 W h6 hE K2
      · rw [e_L_law_33_c28]; exact w_sheet RV0 RM0 W h6 hE K2
      · rw [e_L_law_33_c29]; exact w_write RV0 RM0 W h6 hE K2
      · rw [e_L_law_33_c30]; exact w_copy RV0 RM0 W h6 hE K2
      · rw [e_L_law_33_c31]; exact w_lays RV0 RM0 W h6 hE K2
      · rw [e_L_law_33_c32]; exact w_book RV0 RM0 W h6 hE K2
      · rw [e_L_law_33_c33]; exact w_read RV0 RM0 W h6 hE K2
      · rw [e_L_law_33_c34]; exact w_image RV0 RM0 W h6 hE K2
      · rw [e_L_law_33_c35]; exact w_undo RV0 RM0 W h6 hE K2
      · rw [e_L_law_33_c36]; exact w_tear RV0 RM0 W h6 hE K2
      · rw [e_L_law_33_c37]; exact w_count RV0 RM0 W h6 hE K2
      · rw [e_L_law_33_c38]; exact w_status RV0 RM0 W h6 hE K2
      · rw [e_L_law_33_g hg (by omega)]; exact K2 h S RV0 RM0 W
