/-! sheets: this side's own methods, that side's helpers -/
def updF (f : Nat → Nat → Int64) (s : Nat) (g : Nat → Int64) : Nat → Nat → Int64 := fun t => if t = s then g else f t
def updL (g : Nat → Int64) (k : Nat) (x : Int64) : Nat → Int64 := fun j => if j = k then x else g j
def cut (b : Nat) (v : Int64) : Int64 := if b = 8 then v.toInt32.toInt8.toInt32.toInt64 else if b = 16 then v.toInt32.toInt16.toInt32.toInt64 else v
theorem vupd (f : Nat → Int64) (k : Nat) (x : Int64) : vp_updL f k x = updL f k x := rfl
theorem isS_of {s : Nat} (hs : s < 4) : isS (25 + s) := ⟨by omega, by omega⟩
theorem RV.sheet {h h' : Hp} {S : Sy} (R : RV h S) {s b z : Nat} {g : Nat → Int64} (hs : s < 4) (c0 : gI h' (25 + s) 0 = nI b) (c1 : gI h' (25 + s) 1 = nI z) (c2 : ∀ i, i < 40 → gL h' (29 + s) i = g i) (F : Fr (fun o => o = 25 + s ∨ o = 29 + s) h h') : RV h' (ysN (ysZ (ysW S (updN (yW S) s b)) (updN (yZ S) s z)) (updF (yN S) s g)) := by
  obtain ⟨r1, r2, r3, r4, r5, r6, r7, r8, r9⟩ := R
  refine ⟨r1.fr F (fun o h1 h2 => by omega), ?_, fun D hD => (r3 D hD).fr F (fun o h1 h2 => by omega), fun j hj => ?_, ?_, fun i hi => ?_, fun t ht => ?_, fun t ht => ?_, fun t i ht hi => ?_⟩
  · exact ((F 0 (by omega)).1 3).trans r2
  · rw [(F 33 (by omega)).2.1]; exact r4 j hj
  · exact ((F 22 (by omega)).1 1).trans r5
  · rw [(F 23 (by omega)).2.1]; exact r6 i hi
  · show gI h' (25 + t) 0 = nI (updN (yW S) s b t)
    by_cases q : t = s
    · rw [q, updN_s]; exact c0
    · rw [updN_n q]; exact ((F (25 + t) (by omega)).1 0).trans (r7 t ht)
  · show gI h' (25 + t) 1 = nI (updN (yZ S) s z t)
    by_cases q : t = s
    · rw [q, updN_s]; exact c1
    · rw [updN_n q]; exact ((F (25 + t) (by omega)).1 1).trans (r8 t ht)
  · show gL h' (29 + t) i = updF (yN S) s g t i
    unfold updF
    by_cases q : t = s
    · rw [if_pos q, q]; exact c2 i hi
    · rw [if_neg q, (F (29 + t) (by omega)).2.2]; exact r9 t i ht hi
theorem RM.sheet {h h' : Hp} {S : Sy} (R : RM h S) {s b z : Nat} {g : Nat → Int64} (c0 : ∀ t, t < 4 → gA h' 42 t = nI (updN (yW S) s b t)) (c1 : ∀ t, t < 4 → gA h' 43 t = nI (updN (yZ S) s z t)) (c2 : ∀ t i, t < 4 → i < 40 → gL h' 44 (40 * t + i) = updF (yN S) s g t i) (F : Fr (fun o => o = 42 ∨ o = 43 ∨ o = 44) h h') : RM h' (ysN (ysZ (ysW S (updN (yW S) s b)) (updN (yZ S) s z)) (updF (yN S) s g)) := by
  obtain ⟨r1, r2, r3, r4, r5, r6, r7, r8, r9⟩ := R
  refine ⟨r1.fr F (by omega), ?_, fun D hD => (r3 D hD).fr F (by omega), fun j hj => ?_, ?_, fun i hi => ?_, c0, c1, c2⟩
  · exact ((F 36 (by omega)).1 3).trans r2
  · rw [(F 40 (by omega)).2.1]; exact r4 j hj
  · exact ((F 36 (by omega)).1 6).trans r5
  · rw [(F 41 (by omega)).2.1]; exact r6 i hi
section SHEET
variable {E : En} {h : Hp} {Q : Option Value → Hp → Prop} {S : Sy} {o : Nat}
theorem s_isMissing (hS : isS o) {b : Nat} (hb : b ≤ 64) (r : gI h o 0 = nI b) : Ev E mX3_isMissing 0 [.ref o] [] h Q = Q (some (.int (bI (b = 0)))) h := by
  simp (disch := first | assumption | omega | exact isB_0 | exact isB_1 | exact isB_bI _ | decide) only [e_X3_isMissing_0, e_X3_isMissing_1, e_X3_isMissing_4, e_X3_isMissing_7, e_X3_isMissing_8, e_X3_isMissing_11, e_X3_isMissing_12, r, toL1, toL0, ite_self, if_true, if_false, ite_true, ite_false, nI_add, pk_mul, z_eq, z_lt, z_le, z_ge, z_gt, nI_eq, nI_leI, nI_ltI, bI_0, bI_1, not_true_eq_false, not_false_eq_true]
  by_cases h0 : b = 0
  · rw [if_pos h0, bI_t h0]
  · rw [if_neg h0, bI_f h0]
theorem s_put (hS : isS o) {b i : Nat} (hb : b = 8 ∨ b = 16 ∨ b = 64) (r : gI h o 0 = nI b) (hi : i < 40) {v : Int64} : Ev E mX3_put 0 [.ref o, .int (nI i), .long v, .null] [] h Q = Q none (sL h (o + 4) (updL (gL h (o + 4)) i (cut b v))) := by
  rcases hb with rfl | rfl | rfl
  · simp (disch := first | assumption | omega | exact isB_0 | exact isB_1 | exact isB_bI _ | decide) only [e_X3_put_0, e_X3_put_1, e_X3_put_4_c8, e_X3_put_4_c16, e_X3_put_4_c64, e_X3_put_32, e_X3_put_33, e_X3_put_36, e_X3_put_37, e_X3_put_38, e_X3_put_39, e_X3_put_40, e_X3_put_41, e_X3_put_42, e_X3_put_45, e_X3_put_46, e_X3_put_49, e_X3_put_50, e_X3_put_51, e_X3_put_52, e_X3_put_53, e_X3_put_54, e_X3_put_55, e_X3_put_58, e_X3_put_59, e_X3_put_62, e_X3_put_63, e_X3_put_64, e_X3_put_65, r, vupd, toL1, toL0, ite_self, if_true, if_false, ite_true, ite_false, nI_add, pk_mul, z_eq, z_lt, z_le, z_ge, z_gt, nI_eq, nI_leI, nI_ltI, bI_0, bI_1, not_true_eq_false, not_false_eq_true]
    rfl
  · simp (disch := first | assumption | omega | exact isB_0 | exact isB_1 | exact isB_bI _ | decide) only [e_X3_put_0, e_X3_put_1, e_X3_put_4_c8, e_X3_put_4_c16, e_X3_put_4_c64, e_X3_put_32, e_X3_put_33, e_X3_put_36, e_X3_put_37, e_X3_put_38, e_X3_put_39, e_X3_put_40, e_X3_put_41, e_X3_put_42, e_X3_put_45, e_X3_put_46, e_X3_put_49, e_X3_put_50, e_X3_put_51, e_X3_put_52, e_X3_put_53, e_X3_put_54, e_X3_put_55, e_X3_put_58, e_X3_put_59, e_X3_put_62, e_X3_put_63, e_X3_put_64, e_X3_put_65, r, vupd, toL1, toL0, ite_self, if_true, if_false, ite_true, ite_false, nI_add, pk_mul, z_eq, z_lt, z_le, z_ge, z_gt, nI_eq, nI_leI, nI_ltI, bI_0, bI_1, not_true_eq_false, not_false_eq_true]
    rfl
  · simp (disch := first | assumption | omega | exact isB_0 | exact isB_1 | exact isB_bI _ | decide) only [e_X3_put_0, e_X3_put_1, e_X3_put_4_c8, e_X3_put_4_c16, e_X3_put_4_c64, e_X3_put_32, e_X3_put_33, e_X3_put_36, e_X3_put_37, e_X3_put_38, e_X3_put_39, e_X3_put_40, e_X3_put_41, e_X3_put_42, e_X3_put_45, e_X3_put_46, e_X3_put_49, e_X3_put_50, e_X3_put_51, e_X3_put_52, e_X3_put_53, e_X3_put_54, e_X3_put_55, e_X3_put_58, e_X3_put_59, e_X3_put_62, e_X3_put_63, e_X3_put_64, e_X3_put_65, r, vupd, toL1, toL0, ite_self, if_true, if_false, ite_true, ite_false, nI_add, pk_mul, z_eq, z_lt, z_le, z_ge, z_gt, nI_eq, nI_leI, nI_ltI, bI_0, bI_1, not_true_eq_false, not_false_eq_true]
    rfl
theorem m_cutTo {b : Nat} (hb : b ≤ 64) {v : Int64} : Ev E mX6_cutTo 0 [.int (nI b), .long v, .null] [] h Q = Q (some (.long (cut b v))) h := by
  simp (disch := first | assumption | omega | exact isB_0 | exact isB_1 | exact isB_bI _ | decide) only [e_X6_cutTo_0, e_X6_cutTo_1, e_X6_cutTo_3, e_X6_cutTo_6, e_X6_cutTo_7, e_X6_cutTo_8, e_X6_cutTo_9, e_X6_cutTo_10, e_X6_cutTo_13, e_X6_cutTo_14, e_X6_cutTo_16, e_X6_cutTo_19, e_X6_cutTo_20, e_X6_cutTo_21, e_X6_cutTo_22, e_X6_cutTo_23, e_X6_cutTo_26, e_X6_cutTo_27, toL1, toL0, ite_self, if_true, if_false, ite_true, ite_false, nI_add, pk_mul, z_eq, z_lt, z_le, z_ge, z_gt, nI_eq, nI_leI, nI_ltI, bI_0, bI_1, not_true_eq_false, not_false_eq_true]
  unfold cut
  by_cases h1 : b = 8
  · rw [if_pos h1, if_pos h1]
  · rw [if_neg h1, if_neg h1]
    by_cases h2 : b = 16
    · rw [if_pos h2, if_pos h2]
    · rw [if_neg h2, if_neg h2]
theorem s_beL (hS : isS o) (x y : Int32) (K : ∀ h', (∀ i, i < 40 → gL h' (o + 4) i = 0) → Fr (fun q => q = o + 4) h h' → Q none h') : ∀ (d k : Nat) (h' : Hp), k + d = 40 → (∀ i, i < k → gL h' (o + 4) i = 0) → Fr (fun q => q = o + 4) h h' → Ev E mX3_begin 20 [.ref o, .int x, .int y, .int (nI k)] [] h' Q := by
  intro d
  induction d with
  | zero =>
    intro k h' e J F
    rw [e_X3_begin_20]
    simp (disch := first | assumption | omega | exact isB_0 | exact isB_1 | exact isB_bI _ | decide) only [e_X3_begin_0, e_X3_begin_1, e_X3_begin_2, e_X3_begin_5, e_X3_begin_6, e_X3_begin_7, e_X3_begin_10, e_X3_begin_11, e_X3_begin_14, e_X3_begin_15, e_X3_begin_18, e_X3_begin_19, e_X3_begin_21, e_X3_begin_23, e_X3_begin_26, e_X3_begin_27, e_X3_begin_30, e_X3_begin_31, e_X3_begin_32, e_X3_begin_33, e_X3_begin_36, e_X3_begin_39, toL1, toL0, ite_self, if_true, if_false, ite_true, ite_false, nI_add, pk_mul, z_eq, z_lt, z_le, z_ge, z_gt, nI_eq, nI_leI, nI_ltI, bI_0, bI_1, not_true_eq_false, not_false_eq_true]
    rw [if_pos (by omega)]
    exact K h' (fun i hi => J i (by omega)) F
  | succ d ih =>
    intro k h' e J F
    rw [e_X3_begin_20]
    simp (disch := first | assumption | omega | exact isB_0 | exact isB_1 | exact isB_bI _ | decide) only [e_X3_begin_0, e_X3_begin_1, e_X3_begin_2, e_X3_begin_5, e_X3_begin_6, e_X3_begin_7, e_X3_begin_10, e_X3_begin_11, e_X3_begin_14, e_X3_begin_15, e_X3_begin_18, e_X3_begin_19, e_X3_begin_21, e_X3_begin_23, e_X3_begin_26, e_X3_begin_27, e_X3_begin_30, e_X3_begin_31, e_X3_begin_32, e_X3_begin_33, e_X3_begin_36, e_X3_begin_39, vupd, toL1, toL0, ite_self, if_true, if_false, ite_true, ite_false, nI_add, pk_mul, z_eq, z_lt, z_le, z_ge, z_gt, nI_eq, nI_leI, nI_ltI, bI_0, bI_1, not_true_eq_false, not_false_eq_true]
    rw [if_neg (by omega)]
    refine ih (k + 1) _ (by omega) (fun i hi => ?_) (F.tr (Fr.sL rfl))
    rw [gL_sL, if_pos rfl]
    unfold updL
    by_cases q : i = k
    · rw [if_pos q]
    · rw [if_neg q]; exact J i (by omega)
theorem s_begin (hS : isS o) {b n : Nat} (hb : b ≤ 64) (K : ∀ h', gI h' o 0 = nI b → gI h' o 1 = nI (if b = 0 then 0 else n) → (∀ i, i < 40 → gL h' (o + 4) i = 0) → Fr (fun q => q = o ∨ q = o + 4) h h' → Q none h') : Ev E mX3_begin 0 [.ref o, .int (nI b), .int (nI n), .null] [] h Q := by
  simp (disch := first | assumption | omega | exact isB_0 | exact isB_1 | exact isB_bI _ | decide) only [e_X3_begin_0, e_X3_begin_1, e_X3_begin_2, e_X3_begin_5, e_X3_begin_6, e_X3_begin_7, e_X3_begin_10, e_X3_begin_11, e_X3_begin_14, e_X3_begin_15, e_X3_begin_18, e_X3_begin_19, e_X3_begin_21, e_X3_begin_23, e_X3_begin_26, e_X3_begin_27, e_X3_begin_30, e_X3_begin_31, e_X3_begin_32, e_X3_begin_33, e_X3_begin_36, e_X3_begin_39, toL1, toL0, ite_self, if_true, if_false, ite_true, ite_false, nI_add, pk_mul, z_eq, z_lt, z_le, z_ge, z_gt, nI_eq, nI_leI, nI_ltI, bI_0, bI_1, not_true_eq_false, not_false_eq_true]
  by_cases h0 : b = 0
  · rw [if_pos h0]
    rw [if_pos h0] at K
    refine s_beL hS _ _ (fun h' J F => ?_) 40 0 _ (by omega) (fun i hi => absurd hi (Nat.not_lt_zero i)) Fr.rf
    have f := (F o (by omega)).1
    refine K h' ?_ ?_ J (((Fr.sI (Or.inl rfl)).tr (Fr.sI (Or.inl rfl))).tr (F.mono (fun q w => Or.inr w)))
    · rw [f 0, gI_sI, if_neg (fun q => absurd q.2 (by decide)), gI_sI, if_pos ⟨rfl, rfl⟩]
    · rw [f 1, gI_sI, if_pos ⟨rfl, rfl⟩]
  · rw [if_neg h0]
    rw [if_neg h0] at K
    refine s_beL hS _ _ (fun h' J F => ?_) 40 0 _ (by omega) (fun i hi => absurd hi (Nat.not_lt_zero i)) Fr.rf
    have f := (F o (by omega)).1
    refine K h' ?_ ?_ J (((Fr.sI (Or.inl rfl)).tr (Fr.sI (Or.inl rfl))).tr (F.mono (fun q w => Or.inr w)))
    · rw [f 0, gI_sI, if_neg (fun q => absurd q.2 (by decide)), gI_sI, if_pos ⟨rfl, rfl⟩]
    · rw [f 1, gI_sI, if_pos ⟨rfl, rfl⟩]
end SHEET
