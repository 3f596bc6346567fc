/-! this side's words, numbers, items, city -/
theorem ch_ok : ∀ j, j < 11 → ∀ i, i < (byT.getD j []).length → (byT.getD j []).getD i 0 = nI (nv ((byT.getD j []).getD i 0)) ∧ nv ((byT.getD j []).getD i 0) < 128 := by decide +kernel
theorem ch_len : ∀ j, j < 11 → (byT.getD j []).length < 8 := by decide +kernel
theorem ch_and : ∀ n, n < 128 → ((nI n &&& nI 255).toUInt32 % 65536).toInt32 = nI n := by decide +kernel
theorem ch_nar : ∀ n, n < 128 → (nI n).toUInt32.toUInt16.toUInt32.toInt32 = nI n := by decide +kernel
theorem sh_0 : ∀ n, n < 8 → nI n >>> (nI 0 &&& 31) = nI n := by decide +kernel
section READ3
variable {E : En} {h : Hp} {Q : Option Value → Hp → Prop} {T : Nat → Nat} {L : Nat} {C : Cty}
theorem s_len {j : Nat} (hj : j < 11) : Ev E mJ0_length_8abf5 0 [.ref (100 + j)] [] h Q = Q (some (.int (nI (byT.getD j []).length))) h := by
  have ht : isT (100 + j) := ⟨by omega, by omega⟩
  have e : 100 + j + 20 - 120 = j := by omega
  have nb : narrow .byte (.int (nI 0)) = .int (nI 0) := congrArg Value.int (by decide : (nI 0).toInt8.toInt32 = nI 0)
  have hl := sh_0 _ (ch_len j hj)
  simp (disch := first | assumption | omega | exact isB_0 | exact isB_1 | exact isB_bI _ | decide) only [e_J0_length_8abf5_0, e_J0_length_8abf5_1, e_J0_length_8abf5_4, e_J0_length_8abf5_5, e_J0_length_8abf5_6, e_J0_length_8abf5_9, e_J0_length_8abf5_10, e_J0_coder_7d493_0, e_J0_coder_7d493_3, e_J0_coder_7d493_6, e_J0_coder_7d493_7, e_J0_coder_7d493_10, e_J0_coder_7d493_13, e_J0_coder_7d493_14, e, hl, Nat.one_ne_zero, toL1, toL0, ite_self, if_true, if_false, ite_true, ite_false, nI_add, pk_mul, z_eq, z_lt, z_le, z_ge, z_gt, nI_eq, nI_leI, nI_ltI, bI_0, bI_1, not_true_eq_false, not_false_eq_true]
theorem s_ltn {t : Nat} (ht : isT t) : Ev E mJ0_isLatin1_aae02 0 [.ref t] [] h Q = Q (some (.int (nI 1))) h := by
  simp (disch := first | assumption | omega | exact isB_0 | exact isB_1 | exact isB_bI _ | decide) only [e_J0_isLatin1_aae02_0, e_J0_isLatin1_aae02_3, e_J0_isLatin1_aae02_6, e_J0_isLatin1_aae02_7, e_J0_isLatin1_aae02_10, e_J0_isLatin1_aae02_13, e_J0_isLatin1_aae02_14, e_J0_isLatin1_aae02_17, e_J0_isLatin1_aae02_18, Nat.one_ne_zero, toL1, toL0, ite_self, if_true, if_false, ite_true, ite_false, nI_add, pk_mul, z_eq, z_lt, z_le, z_ge, z_gt, nI_eq, nI_leI, nI_ltI, bI_0, bI_1, not_true_eq_false, not_false_eq_true]
theorem s_chk {i n : Nat} (hi : i < n) (hn : n < 100) : Ev E mJ0_checkIndex_df160 0 [.int (nI i), .int (nI n)] [] h Q = Q none h := by
  have z : i < 100 := by omega
  simp (disch := first | assumption | omega | exact isB_0 | exact isB_1 | exact isB_bI _ | decide) only [e_J0_checkIndex_df160_0, e_J0_checkIndex_df160_1, e_J0_checkIndex_df160_2, e_J0_checkIndex_df160_5, e_J0_checkIndex_df160_8, e_J0_checkIndex_df160_9, e_J3_checkIndex_8e157_0, e_J3_checkIndex_8e157_1, e_J3_checkIndex_8e157_4, e_J3_checkIndex_8e157_5, e_J3_checkIndex_8e157_6, e_J3_checkIndex_8e157_16, e_J3_checkIndex_8e157_17, hi, toL1, toL0, ite_self, if_true, if_false, ite_true, ite_false, nI_add, pk_mul, z_eq, z_lt, z_le, z_ge, z_gt, nI_eq, nI_leI, nI_ltI, bI_0, bI_1, not_true_eq_false, not_false_eq_true]
theorem s_chr {j i : Nat} (hj : j < 11) (hi : i < (byT.getD j []).length) : Ev E mJ0_charAt_5068e 0 [.ref (100 + j), .int (nI i)] [] h Q = Q (some (.int ((byT.getD j []).getD i 0))) h := by
  have ht : isT (100 + j) := ⟨by omega, by omega⟩
  have hy : isY (100 + j + 20) := ⟨by omega, by omega⟩
  have e : 100 + j + 20 - 120 = j := by omega
  have hl := ch_len j hj
  have hi2 : i < (byT.getD (100 + j + 20 - 120) []).length := by rw [e]; exact hi
  obtain ⟨c1, c2⟩ := ch_ok j hj i hi
  have e3 : (((byT.getD j []).getD i 0 &&& nI 255).toUInt32 % 65536).toInt32 = (byT.getD j []).getD i 0 := by
    rw [c1]
    exact ch_and _ c2
  have nc : narrow .char (.int ((byT.getD j []).getD i 0)) = .int ((byT.getD j []).getD i 0) := congrArg Value.int (by
    rw [c1]
    exact ch_nar _ c2)
  simp (disch := first | assumption | omega | exact isB_0 | exact isB_1 | exact isB_bI _ | decide) only [e_J0_charAt_5068e_0, e_J0_charAt_5068e_1, e_J0_charAt_5068e_4, e_J0_charAt_5068e_7, e_J0_charAt_5068e_8, e_J0_charAt_5068e_11, e_J0_charAt_5068e_12, e_J0_charAt_5068e_15, e_J0_charAt_5068e_16, e_J0_charAt_5068e_17, e_J0_charAt_5068e_20, e_J0_charAt_5068e_21, e_J0_charAt_5068e_24, e_J1_charAt_3b067_0, e_J1_charAt_3b067_1, e_J1_charAt_3b067_2, e_J1_charAt_3b067_3, e_J1_charAt_3b067_6, e_J1_charAt_3b067_7, e_J1_charAt_3b067_8, e_J1_charAt_3b067_9, e_J1_charAt_3b067_12, e_J1_charAt_3b067_13, e_J1_charAt_3b067_14, s_ltn ht, s_chk hi (show (byT.getD j []).length < 100 by omega), e, e3, Nat.one_ne_zero, toL1, toL0, ite_self, if_true, if_false, ite_true, ite_false, nI_add, pk_mul, z_eq, z_lt, z_le, z_ge, z_gt, nI_eq, nI_leI, nI_ltI, bI_0, bI_1, not_true_eq_false, not_false_eq_true]
theorem v_iwL (hL : L ≤ 120) (hT : ∀ i, i < L → T i ≤ 255) {w b : Nat} (hw : w < 10) (a : TP h T L) (r3 : gI h 22 3 = nI b) (hb : b + nmL w ≤ L) : ∀ d i, i + d = nmL w → (∀ j, j < i → T (b + j) = nmC w j) → Ev E mX4_isWord 28 [.ref 22, .ref (100 + jw w), .int (nI i)] [] h Q = Q (some (.int (bI (∀ j, j < nmL w → T (b + j) = nmC w j)))) h := by
  have n7 := nm_7 w hw
  have hj := n7.2.2
  have ht : isT (100 + jw w) := ⟨by omega, by omega⟩
  have el : (byT.getD (jw w) []).length = nmL w := rfl
  intro d
  induction d with
  | zero =>
    intro i e J
    rw [e_X4_isWord_28]
    simp (disch := first | assumption | omega | exact isB_0 | exact isB_1 | exact isB_bI _ | decide) only [e_X4_isWord_0, e_X4_isWord_1, e_X4_isWord_4, e_X4_isWord_5, e_X4_isWord_8, e_X4_isWord_9, e_X4_isWord_12, e_X4_isWord_13, e_X4_isWord_16, e_X4_isWord_17, e_X4_isWord_18, e_X4_isWord_21, e_X4_isWord_24, e_X4_isWord_25, e_X4_isWord_26, e_X4_isWord_27, e_X4_isWord_29, e_X4_isWord_30, e_X4_isWord_33, e_X4_isWord_36, e_X4_isWord_37, e_X4_isWord_40, e_X4_isWord_41, e_X4_isWord_44, e_X4_isWord_45, e_X4_isWord_46, e_X4_isWord_47, e_X4_isWord_48, e_X4_isWord_49, e_X4_isWord_52, e_X4_isWord_55, e_X4_isWord_56, e_X4_isWord_57, e_X4_isWord_60, e_X4_isWord_63, e_X4_isWord_64, s_len hj, el, toL1, toL0, ite_self, if_true, if_false, ite_true, ite_false, nI_add, pk_mul, z_eq, z_lt, z_le, z_ge, z_gt, nI_eq, nI_leI, nI_ltI, bI_0, bI_1, not_true_eq_false, not_false_eq_true]
    rw [if_pos (by omega), bI_t (fun j hj => J j (by omega))]
  | succ d ih =>
    intro i e J
    have t := hT (b + i) (by omega)
    have ap := a.2 (b + i) (by omega)
    obtain ⟨n1, n2, n3⟩ := nm_c w hw i (by omega)
    have hi : i < (byT.getD (jw w) []).length := by rw [el]; omega
    rw [e_X4_isWord_28]
    simp (disch := first | assumption | omega | exact isB_0 | exact isB_1 | exact isB_bI _ | decide) only [e_X4_isWord_0, e_X4_isWord_1, e_X4_isWord_4, e_X4_isWord_5, e_X4_isWord_8, e_X4_isWord_9, e_X4_isWord_12, e_X4_isWord_13, e_X4_isWord_16, e_X4_isWord_17, e_X4_isWord_18, e_X4_isWord_21, e_X4_isWord_24, e_X4_isWord_25, e_X4_isWord_26, e_X4_isWord_27, e_X4_isWord_29, e_X4_isWord_30, e_X4_isWord_33, e_X4_isWord_36, e_X4_isWord_37, e_X4_isWord_40, e_X4_isWord_41, e_X4_isWord_44, e_X4_isWord_45, e_X4_isWord_46, e_X4_isWord_47, e_X4_isWord_48, e_X4_isWord_49, e_X4_isWord_52, e_X4_isWord_55, e_X4_isWord_56, e_X4_isWord_57, e_X4_isWord_60, e_X4_isWord_63, e_X4_isWord_64, s_len hj, el, s_chr hj hi, n1, r3, ap, toL1, toL0, ite_self, if_true, if_false, ite_true, ite_false, nI_add, pk_mul, z_eq, z_lt, z_le, z_ge, z_gt, nI_eq, nI_leI, nI_ltI, bI_0, bI_1, not_true_eq_false, not_false_eq_true]
    rw [if_neg (by omega)]
    by_cases c : T (b + i) = nmC w i
    · rw [if_pos c]
      exact ih (i + 1) (by omega) (fun j hj => by
        by_cases q : j = i
        · rw [q]; exact c
        · exact J j (by omega))
    · rw [if_neg c, bI_f (fun z => c (z i (by omega)))]
theorem s_isWord (hL : L ≤ 120) (hT : ∀ i, i < L → T i ≤ 255) {p w : Nat} (hp : p ≤ L) (hw : w < 10) (a : CT h T L p) : Ev E mX4_isWord 0 [.ref 22, .ref (100 + jw w), .null] [] h Q = Q (some (.int (bI (tK T L p = w)))) h := by
  have n7 := nm_7 w hw
  have hj := n7.2.2
  have ht : isT (100 + jw w) := ⟨by omega, by omega⟩
  have el : (byT.getD (jw w) []).length = nmL w := rfl
  have c4 := tC_le (T := T) (L := L) (p := p)
  have l1 := tE_le (T := T) hp
  have hb := tB_le (T := T) hp
  have r1 := a.2.1
  have r3 := a.2.2.1
  have r4 := a.2.2.2.1
  by_cases c : tC T L p = 1
  · have hlt : tB T L p < L := Classical.byContradiction (fun z => by
      unfold tC at c
      rw [if_pos (by omega)] at c
      omega)
    have hgt := tE_gt (T := T) hlt
    have z : nI (tE T L p) - nI (tB T L p) = nI (tE T L p - tB T L p) := pk_sub (by omega)
    by_cases d : tE T L p - tB T L p = nmL w
    · simp (disch := first | assumption | omega | exact isB_0 | exact isB_1 | exact isB_bI _ | decide) only [e_X4_isWord_0, e_X4_isWord_1, e_X4_isWord_4, e_X4_isWord_5, e_X4_isWord_8, e_X4_isWord_9, e_X4_isWord_12, e_X4_isWord_13, e_X4_isWord_16, e_X4_isWord_17, e_X4_isWord_18, e_X4_isWord_21, e_X4_isWord_24, e_X4_isWord_25, e_X4_isWord_26, e_X4_isWord_27, e_X4_isWord_29, e_X4_isWord_30, e_X4_isWord_33, e_X4_isWord_36, e_X4_isWord_37, e_X4_isWord_40, e_X4_isWord_41, e_X4_isWord_44, e_X4_isWord_45, e_X4_isWord_46, e_X4_isWord_47, e_X4_isWord_48, e_X4_isWord_49, e_X4_isWord_52, e_X4_isWord_55, e_X4_isWord_56, e_X4_isWord_57, e_X4_isWord_60, e_X4_isWord_63, e_X4_isWord_64, s_len hj, el, r1, r3, r4, c, z, d, toL1, toL0, ite_self, if_true, if_false, ite_true, ite_false, nI_add, pk_mul, z_eq, z_lt, z_le, z_ge, z_gt, nI_eq, nI_leI, nI_ltI, bI_0, bI_1, not_true_eq_false, not_false_eq_true]
      have q := v_iwL (E := E) (Q := Q) hL hT hw a.1 r3 (show tB T L p + nmL w ≤ L by omega) (nmL w) 0 (by omega) (fun j hj => absurd hj (Nat.not_lt_zero j))
      refine q.trans ?_
      rw [bI_iff (show (∀ j, j < nmL w → T (tB T L p + j) = nmC w j) ↔ tK T L p = w from ⟨fun y => (tK_word hw).mpr ⟨c, d, y⟩, fun y => ((tK_word hw).mp y).2.2⟩)]
    · have f : ¬ tK T L p = w := fun y => d ((tK_word hw).mp y).2.1
      simp (disch := first | assumption | omega | exact isB_0 | exact isB_1 | exact isB_bI _ | decide) only [e_X4_isWord_0, e_X4_isWord_1, e_X4_isWord_4, e_X4_isWord_5, e_X4_isWord_8, e_X4_isWord_9, e_X4_isWord_12, e_X4_isWord_13, e_X4_isWord_16, e_X4_isWord_17, e_X4_isWord_18, e_X4_isWord_21, e_X4_isWord_24, e_X4_isWord_25, e_X4_isWord_26, e_X4_isWord_27, e_X4_isWord_29, e_X4_isWord_30, e_X4_isWord_33, e_X4_isWord_36, e_X4_isWord_37, e_X4_isWord_40, e_X4_isWord_41, e_X4_isWord_44, e_X4_isWord_45, e_X4_isWord_46, e_X4_isWord_47, e_X4_isWord_48, e_X4_isWord_49, e_X4_isWord_52, e_X4_isWord_55, e_X4_isWord_56, e_X4_isWord_57, e_X4_isWord_60, e_X4_isWord_63, e_X4_isWord_64, s_len hj, el, r1, r3, r4, c, z, d, toL1, toL0, ite_self, if_true, if_false, ite_true, ite_false, nI_add, pk_mul, z_eq, z_lt, z_le, z_ge, z_gt, nI_eq, nI_leI, nI_ltI, bI_0, bI_1, not_true_eq_false, not_false_eq_true]
      rw [bI_f f]
  · have f : ¬ tK T L p = w := fun y => c ((tK_word hw).mp y).1
    simp (disch := first | assumption | omega | exact isB_0 | exact isB_1 | exact isB_bI _ | decide) only [e_X4_isWord_0, e_X4_isWord_1, e_X4_isWord_4, e_X4_isWord_5, e_X4_isWord_8, e_X4_isWord_9, e_X4_isWord_12, e_X4_isWord_13, e_X4_isWord_16, e_X4_isWord_17, e_X4_isWord_18, e_X4_isWord_21, e_X4_isWord_24, e_X4_isWord_25, e_X4_isWord_26, e_X4_isWord_27, e_X4_isWord_29, e_X4_isWord_30, e_X4_isWord_33, e_X4_isWord_36, e_X4_isWord_37, e_X4_isWord_40, e_X4_isWord_41, e_X4_isWord_44, e_X4_isWord_45, e_X4_isWord_46, e_X4_isWord_47, e_X4_isWord_48, e_X4_isWord_49, e_X4_isWord_52, e_X4_isWord_55, e_X4_isWord_56, e_X4_isWord_57, e_X4_isWord_60, e_X4_isWord_63, e_X4_isWord_64, r1, c, toL1, toL0, ite_self, if_true, if_false, ite_true, ite_false, nI_add, pk_mul, z_eq, z_lt, z_le, z_ge, z_gt, nI_eq, nI_leI, nI_ltI, bI_0, bI_1, not_true_eq_false, not_false_eq_true]
    rw [bI_f f]
theorem s_numTo {p m : Nat} (hm : m ≤ 9999) (a : CT h T L p) : Ev E mX4_isNumberUpTo 0 [.ref 22, .int (nI m)] [] h Q = Q (some (.int (bI (pNum T L p m)))) h := by
  have c4 := tC_le (T := T) (L := L) (p := p)
  have r1 := a.2.1
  by_cases c : tC T L p = 2
  · have r5 := a.2.2.2.2 c
    have le := tV_le (T := T) (L := L) (p := p)
    simp (disch := first | assumption | omega | exact isB_0 | exact isB_1 | exact isB_bI _ | decide) only [e_X4_isNumberUpTo_0, e_X4_isNumberUpTo_1, e_X4_isNumberUpTo_4, e_X4_isNumberUpTo_5, e_X4_isNumberUpTo_8, e_X4_isNumberUpTo_9, e_X4_isNumberUpTo_12, e_X4_isNumberUpTo_13, e_X4_isNumberUpTo_16, e_X4_isNumberUpTo_17, e_X4_isNumberUpTo_20, e_X4_isNumberUpTo_21, r1, r5, c, toL1, toL0, ite_self, if_true, if_false, ite_true, ite_false, nI_add, pk_mul, z_eq, z_lt, z_le, z_ge, z_gt, nI_eq, nI_leI, nI_ltI, bI_0, bI_1, not_true_eq_false, not_false_eq_true]
    by_cases d : tV T L p ≤ m
    · rw [if_neg (by omega), bI_t ⟨c, d⟩]
    · rw [if_pos (by omega), bI_f (fun z => d z.2)]
  · simp (disch := first | assumption | omega | exact isB_0 | exact isB_1 | exact isB_bI _ | decide) only [e_X4_isNumberUpTo_0, e_X4_isNumberUpTo_1, e_X4_isNumberUpTo_4, e_X4_isNumberUpTo_5, e_X4_isNumberUpTo_8, e_X4_isNumberUpTo_9, e_X4_isNumberUpTo_12, e_X4_isNumberUpTo_13, e_X4_isNumberUpTo_16, e_X4_isNumberUpTo_17, e_X4_isNumberUpTo_20, e_X4_isNumberUpTo_21, r1, c, toL1, toL0, ite_self, if_true, if_false, ite_true, ite_false, nI_add, pk_mul, z_eq, z_lt, z_le, z_ge, z_gt, nI_eq, nI_leI, nI_ltI, bI_0, bI_1, not_true_eq_false, not_false_eq_true]
    rw [bI_f (fun z => c z.1)]
theorem s_numLt {p n : Nat} (hn : n ≤ 8) (a : CT h T L p) : Ev E mX4_isNumberUpTo 0 [.ref 22, .int (nI n - nI 1)] [] h Q = Q (some (.int (bI (pLt T L p n)))) h := by
  rcases n with _ | n
  · have c4 := tC_le (T := T) (L := L) (p := p)
    have r1 := a.2.1
    rw [bI_f (fun z => absurd z.2 (Nat.not_lt_zero _))]
    by_cases c : tC T L p = 2
    · have r5 := a.2.2.2.2 c
      have z : nI 0 - nI 1 < nI (min 10000 (tV T L p)) := by
        rw [Int32.lt_iff_toInt_lt, nI_toInt (by omega)]
        have : (nI 0 - nI 1).toInt = -1 := by decide
        omega
      simp (disch := first | assumption | omega | exact isB_0 | exact isB_1 | exact isB_bI _ | decide) only [e_X4_isNumberUpTo_0, e_X4_isNumberUpTo_1, e_X4_isNumberUpTo_4, e_X4_isNumberUpTo_5, e_X4_isNumberUpTo_8, e_X4_isNumberUpTo_9, e_X4_isNumberUpTo_12, e_X4_isNumberUpTo_13, e_X4_isNumberUpTo_16, e_X4_isNumberUpTo_17, e_X4_isNumberUpTo_20, e_X4_isNumberUpTo_21, r1, r5, c, z, toL1, toL0, ite_self, if_true, if_false, ite_true, ite_false, nI_add, pk_mul, z_eq, z_lt, z_le, z_ge, z_gt, nI_eq, nI_leI, nI_ltI, bI_0, bI_1, not_true_eq_false, not_false_eq_true]
    · simp (disch := first | assumption | omega | exact isB_0 | exact isB_1 | exact isB_bI _ | decide) only [e_X4_isNumberUpTo_0, e_X4_isNumberUpTo_1, e_X4_isNumberUpTo_4, e_X4_isNumberUpTo_5, e_X4_isNumberUpTo_8, e_X4_isNumberUpTo_9, e_X4_isNumberUpTo_12, e_X4_isNumberUpTo_13, e_X4_isNumberUpTo_16, e_X4_isNumberUpTo_17, e_X4_isNumberUpTo_20, e_X4_isNumberUpTo_21, r1, c, toL1, toL0, ite_self, if_true, if_false, ite_true, ite_false, nI_add, pk_mul, z_eq, z_lt, z_le, z_ge, z_gt, nI_eq, nI_leI, nI_ltI, bI_0, bI_1, not_true_eq_false, not_false_eq_true]
  · rw [show nI (n + 1) - nI 1 = nI n by rw [pk_sub (by omega), Nat.add_sub_cancel], s_numTo (by omega) a, bI_iff (show pNum T L p n ↔ pLt T L p (n + 1) from ⟨fun z => ⟨z.1, Nat.lt_succ_of_le z.2⟩, fun z => ⟨z.1, Nat.le_of_lt_succ z.2⟩⟩)]
theorem v_adv (hL : L ≤ 120) (hT : ∀ i, i < L → T i ≤ 255) {p : Nat} (hp : p ≤ L) (a : CT h T L p) (K : ∀ h2, CT h2 T L (tE T L p) → Fr (fun o => o = 22) h h2 → Q none h2) : Ev E mX4_advance 0 [.ref 22] [] h Q := v_advance hL hT (tE_le hp) a.1 a.2.2.2.1 K
theorem s_kind (hL : L ≤ 120) (hT : ∀ i, i < L → T i ≤ 255) {p : Nat} (hp : p ≤ L) (a : CT h T L p) : Ev E mX4_kindHere 0 [.ref 22, .null] [] h Q = Q (some (.int (if tK T L p < 6 then nI (tK T L p) else -1))) h := by
  have w0 := fun Q => s_isWord (E := E) (Q := Q) hL hT hp (show 0 < 10 by omega) a
  have w1 := fun Q => s_isWord (E := E) (Q := Q) hL hT hp (show 1 < 10 by omega) a
  have w2 := fun Q => s_isWord (E := E) (Q := Q) hL hT hp (show 2 < 10 by omega) a
  have w3 := fun Q => s_isWord (E := E) (Q := Q) hL hT hp (show 3 < 10 by omega) a
  have w4 := fun Q => s_isWord (E := E) (Q := Q) hL hT hp (show 4 < 10 by omega) a
  have w5 := fun Q => s_isWord (E := E) (Q := Q) hL hT hp (show 5 < 10 by omega) a
  rw [show 100 + jw 0 = 100 from rfl] at w0
  rw [show 100 + jw 1 = 101 from rfl] at w1
  rw [show 100 + jw 2 = 102 from rfl] at w2
  rw [show 100 + jw 3 = 103 from rfl] at w3
  rw [show 100 + jw 4 = 104 from rfl] at w4
  rw [show 100 + jw 5 = 105 from rfl] at w5
  simp (disch := first | assumption | omega | exact isB_0 | exact isB_1 | exact isB_bI _ | decide) only [e_X4_kindHere_0, e_X4_kindHere_1, e_X4_kindHere_2, e_X4_kindHere_3, e_X4_kindHere_5, e_X4_kindHere_8, e_X4_kindHere_9, e_X4_kindHere_10, e_X4_kindHere_13, e_X4_kindHere_16, e_X4_kindHere_19, e_X4_kindHere_20, e_X4_kindHere_21, e_X4_kindHere_24, e_X4_kindHere_27, e_X4_kindHere_28, e_X2_nameOf_0, e_X2_nameOf_1_c0, e_X2_nameOf_1_c1, e_X2_nameOf_1_c2, e_X2_nameOf_1_c3, e_X2_nameOf_1_c4, e_X2_nameOf_1_c5, e_X2_nameOf_1_n, e_X2_nameOf_1_g, e_X2_nameOf_40, e_X2_nameOf_42, e_X2_nameOf_43, e_X2_nameOf_45, e_X2_nameOf_46, e_X2_nameOf_48, e_X2_nameOf_49, e_X2_nameOf_51, e_X2_nameOf_52, e_X2_nameOf_54, e_X2_nameOf_55, e_X2_nameOf_57, e_X2_nameOf_58, e_X2_nameOf_60, Nat.reduceAdd, Nat.reduceLeDiff, w0, w1, w2, w3, w4, w5, toL1, toL0, ite_self, if_true, if_false, ite_true, ite_false, nI_add, pk_mul, z_eq, z_lt, z_le, z_ge, z_gt, nI_eq, nI_leI, nI_ltI, bI_0, bI_1, not_true_eq_false, not_false_eq_true]
  by_cases c0 : tK T L p = 0
  · rw [if_neg (fun z => z c0), if_pos (by omega), c0]
  · rw [if_pos c0]
    by_cases c1 : tK T L p = 1
    · rw [if_neg (fun z => z c1), if_pos (by omega), c1]
    · rw [if_pos c1]
      by_cases c2 : tK T L p = 2
      · rw [if_neg (fun z => z c2), if_pos (by omega), c2]
      · rw [if_pos c2]
        by_cases c3 : tK T L p = 3
        · rw [if_neg (fun z => z c3), if_pos (by omega), c3]
        · rw [if_pos c3]
          by_cases c4 : tK T L p = 4
          · rw [if_neg (fun z => z c4), if_pos (by omega), c4]
          · rw [if_pos c4]
            by_cases c5 : tK T L p = 5
            · rw [if_neg (fun z => z c5), if_pos (by omega), c5]
            · rw [if_pos c5, if_neg (by omega)]
end READ3
