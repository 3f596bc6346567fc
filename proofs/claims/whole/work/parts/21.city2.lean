/-! exchanges, shifts, hours of a city -/
def priceN (C : Cty) (a b : Nat) : Nat := if zO C a = zO C b then 0 else if solW C (zV C a) < solW C (zV C b) then solW C (zV C b) - solW C (zV C a) else solW C (zV C a) - solW C (zV C b)
def payN (C : Cty) (a b : Nat) : Nat := if solW C (zV C b) < solW C (zV C a) then b else a
def getN (C : Cty) (a b : Nat) : Nat := if solW C (zV C b) < solW C (zV C a) then a else b
def canX (C : Cty) (a b : Nat) : Prop := priceN C a b ≤ zM C (zO C (payN C a b))
def payM (m : Nat → Nat) (p g x : Nat) : Nat → Nat := updN (updN m p (m p - x)) g (min 99999 (updN m p (m p - x) g + x))
def exM (C : Cty) (a b : Nat) : Nat → Nat := if priceN C a b = 0 then zM C else payM (zM C) (zO C (payN C a b)) (zO C (getN C a b)) (priceN C a b)
def exC (C : Cty) (a b : Nat) : Cty := swpC (zsM C (exM C a b)) a b
theorem RC.congM {h : Hp} {c : Nat} {C : Cty} {m1 m2 : Nat → Nat} (R : RC h c (zsM C m1)) (e : ∀ i, i < 4 → m1 i = m2 i) : RC h c (zsM C m2) := by
  obtain ⟨r1, r2, r3, r4, r5, r6, r7, r8⟩ := R
  exact ⟨r1, r2, fun i hi => (r3 i hi).trans (congrArg nI (e i hi)), r4, r5, r6, r7, r8⟩
theorem RC.congV {h : Hp} {c : Nat} {C : Cty} {m1 m2 : Nat → Nat} (R : RC h c (zsV C m1)) (e : ∀ i, i < 8 → m1 i = m2 i) : RC h c (zsV C m2) := by
  obtain ⟨r1, r2, r3, r4, r5, r6, r7, r8⟩ := R
  exact ⟨r1, r2, r3, r4, r5, fun i hi => (r6 i hi).trans (congrArg nI (e i hi)), r7, r8⟩
theorem pay0 {m : Nat → Nat} {p g : Nat} (hm : ∀ i, i < 4 → m i ≤ 99999) (hg : g < 4) (i : Nat) : payM m p g 0 i = m i := by
  unfold payM
  have e1 : updN m p (m p - 0) = m := by
    funext j
    unfold updN
    by_cases hj : j = p
    · rw [if_pos hj, hj]; rfl
    · rw [if_neg hj]
  rw [e1]
  unfold updN
  by_cases hi : i = g
  · rw [if_pos hi, hi]
    have := hm g hg
    omega
  · rw [if_neg hi]
theorem neg_sub7 (x y : Int32) : -(x - y) = y - x := by
  apply Int32.toBitVec_inj.mp
  show -(x.toBitVec - y.toBitVec) = y.toBitVec - x.toBitVec
  rw [BitVec.neg_sub, BitVec.add_comm, ← BitVec.sub_eq_add_neg]
theorem sub_le0 {a b : Nat} (hl : a ≤ b) (hb : b < 2 ^ 30) : nI a - nI b ≤ 0 := by
  rw [Int32.le_iff_toInt_le, pk_sub_toInt (by omega) hb]
  show (a : Int) - b ≤ 0
  omega
section CITY2
variable {E : En} {h : Hp} {Q : Option Value → Hp → Prop} {c : Nat} {C : Cty}
theorem solW_le (W : WC C) {v : Nat} (hv : v < 8) : solW C v ≤ 1000 := sol_le (W.e hv)
def dueI (C : Cty) (a b : Nat) : Int32 := if zO C a = zO C b then nI 0 else nI (solW C (zV C b)) - nI (solW C (zV C a))
theorem c_due (hC : isC c) (R : RC h c C) (W : WC C) {a b : Nat} (ha : a < zF C) (hb : b < zF C) : Ev E mX1_dueFromFirst 0 [.ref c, .int (nI a), .int (nI b)] [] h Q = Q (some (.int (dueI C a b))) h := by
  have h8 := W.f
  have o1 := W.o (show a < 8 by omega)
  have o2 := W.o (show b < 8 by omega)
  simp (disch := first | assumption | omega | exact isB_0 | exact isB_1 | exact isB_bI _ | decide) only [e_X1_dueFromFirst_0, e_X1_dueFromFirst_1, e_X1_dueFromFirst_4, e_X1_dueFromFirst_5, e_X1_dueFromFirst_6, e_X1_dueFromFirst_7, e_X1_dueFromFirst_10, e_X1_dueFromFirst_11, e_X1_dueFromFirst_12, e_X1_dueFromFirst_15, e_X1_dueFromFirst_16, e_X1_dueFromFirst_19, e_X1_dueFromFirst_20, e_X1_dueFromFirst_21, e_X1_dueFromFirst_24, e_X1_dueFromFirst_25, e_X1_dueFromFirst_26, e_X1_dueFromFirst_29, e_X1_dueFromFirst_30, e_X1_dueFromFirst_31, e_X1_dueFromFirst_34, e_X1_dueFromFirst_35, e_X1_dueFromFirst_36, e_X1_dueFromFirst_39, e_X1_dueFromFirst_40, R.O (show a < 8 by omega), R.O (show b < 8 by omega), R.V (show a < 8 by omega), R.V (show b < 8 by omega), c_soldFor hC R W (W.v8 ha), c_soldFor hC R W (W.v8 hb), toL1, toL0, ite_self, if_true, if_false, ite_true, ite_false, nI_add, pk_mul, z_eq, z_lt, z_le, z_ge, z_gt, nI_eq, nI_leI, nI_ltI, bI_0, bI_1, not_true_eq_false, not_false_eq_true]
  unfold dueI
  by_cases e : zO C a = zO C b
  · rw [if_pos e, if_pos e]
  · rw [if_neg e, if_neg e]
theorem due_pos (W : WC C) {a b : Nat} (ha : a < zF C) (hb : b < zF C) (ho : ¬ zO C a = zO C b) (hs : solW C (zV C a) < solW C (zV C b)) : dueI C a b = nI (priceN C a b) ∧ payN C a b = a ∧ getN C a b = b ∧ 0 < priceN C a b ∧ priceN C a b ≤ 1000 := by
  have s1 := solW_le W (W.v8 ha)
  have s2 := solW_le W (W.v8 hb)
  unfold dueI priceN payN getN
  rw [if_neg ho, if_neg ho, if_pos hs, if_neg (by omega), if_neg (by omega), pk_sub (by omega)]
  exact ⟨rfl, rfl, rfl, by omega, by omega⟩
theorem due_neg (W : WC C) {a b : Nat} (ha : a < zF C) (hb : b < zF C) (hs : zO C a = zO C b ∨ solW C (zV C b) ≤ solW C (zV C a)) : dueI C a b ≤ 0 ∧ -dueI C a b = nI (priceN C a b) ∧ (0 < priceN C a b → payN C a b = b ∧ getN C a b = a) ∧ priceN C a b ≤ 1000 := by
  have s1 := solW_le W (W.v8 ha)
  have s2 := solW_le W (W.v8 hb)
  unfold dueI priceN payN getN
  by_cases ho : zO C a = zO C b
  · rw [if_pos ho, if_pos ho]
    exact ⟨by decide, by decide, fun z => absurd z (by decide), by omega⟩
  · have hs2 : solW C (zV C b) ≤ solW C (zV C a) := hs.resolve_left ho
    rw [if_neg ho, if_neg ho, if_neg (by omega)]
    refine ⟨sub_le0 hs2 (by omega), by rw [neg_sub7, pk_sub hs2], fun z => ?_, by omega⟩
    rw [if_pos (by omega), if_pos (by omega)]
    exact ⟨rfl, rfl⟩
theorem canX_iff (C : Cty) (a b : Nat) : canX C a b ↔ priceN C a b ≤ zM C (zO C (payN C a b)) := Iff.rfl
theorem c_can (hC : isC c) (R : RC h c C) (W : WC C) {a b : Nat} (ha : a < zF C) (hb : b < zF C) : Ev E mX1_canExchange 0 [.ref c, .int (nI a), .int (nI b), .null] [] h Q = Q (some (.int (bI (priceN C a b ≤ zM C (zO C (payN C a b)))))) h := by
  have h8 := W.f
  have ha8 : a < 8 := by omega
  have hb8 : b < 8 := by omega
  have o1 := W.o ha8
  have o2 := W.o hb8
  have m1 := W.m o1
  have m2 := W.m o2
  by_cases hs : zO C a = zO C b ∨ solW C (zV C b) ≤ solW C (zV C a)
  · obtain ⟨d1, d2, d3, d4⟩ := due_neg W ha hb hs
    simp (disch := first | assumption | omega | exact isB_0 | exact isB_1 | exact isB_bI _ | decide) only [e_X1_canExchange_0, e_X1_canExchange_1, e_X1_canExchange_2, e_X1_canExchange_3, e_X1_canExchange_6, e_X1_canExchange_7, e_X1_canExchange_8, e_X1_canExchange_11, e_X1_canExchange_12, e_X1_canExchange_15, e_X1_canExchange_16, e_X1_canExchange_19, e_X1_canExchange_20, e_X1_canExchange_21, e_X1_canExchange_22, e_X1_canExchange_23, e_X1_canExchange_26, e_X1_canExchange_27, e_X1_canExchange_30, e_X1_canExchange_31, e_X1_canExchange_34, e_X1_canExchange_35, e_X1_canExchange_38, e_X1_canExchange_39, e_X1_canExchange_42, e_X1_canExchange_43, e_X1_canExchange_44, e_X1_canExchange_45, e_X1_canExchange_46, e_X1_canExchange_47, e_X1_canExchange_50, e_X1_canExchange_51, e_X1_canExchange_54, e_X1_canExchange_55, c_due hC R W ha hb, R.O ha8, R.O hb8, R.M o1, R.M o2, d2, toL1, toL0, ite_self, if_true, if_false, ite_true, ite_false, nI_add, pk_mul, z_eq, z_lt, z_le, z_ge, z_gt, nI_eq, nI_leI, nI_ltI, bI_0, bI_1, not_true_eq_false, not_false_eq_true]
    rw [if_pos d1]
    by_cases hp : 0 < priceN C a b
    · rw [(d3 hp).1]
      by_cases hm : zM C (zO C b) < priceN C a b
      · rw [if_pos hm, bI_f (by omega)]
      · rw [if_neg hm, bI_t (by omega)]
    · rw [if_neg (by omega), bI_t (by omega)]
  · have hs2 := not_or.mp hs
    obtain ⟨d1, d2, d3, d4, d5⟩ := due_pos W ha hb hs2.1 (by omega)
    simp (disch := first | assumption | omega | exact isB_0 | exact isB_1 | exact isB_bI _ | decide) only [e_X1_canExchange_0, e_X1_canExchange_1, e_X1_canExchange_2, e_X1_canExchange_3, e_X1_canExchange_6, e_X1_canExchange_7, e_X1_canExchange_8, e_X1_canExchange_11, e_X1_canExchange_12, e_X1_canExchange_15, e_X1_canExchange_16, e_X1_canExchange_19, e_X1_canExchange_20, e_X1_canExchange_21, e_X1_canExchange_22, e_X1_canExchange_23, e_X1_canExchange_26, e_X1_canExchange_27, e_X1_canExchange_30, e_X1_canExchange_31, e_X1_canExchange_34, e_X1_canExchange_35, e_X1_canExchange_38, e_X1_canExchange_39, e_X1_canExchange_42, e_X1_canExchange_43, e_X1_canExchange_44, e_X1_canExchange_45, e_X1_canExchange_46, e_X1_canExchange_47, e_X1_canExchange_50, e_X1_canExchange_51, e_X1_canExchange_54, e_X1_canExchange_55, c_due hC R W ha hb, R.O ha8, R.O hb8, R.M o1, R.M o2, d1, toL1, toL0, ite_self, if_true, if_false, ite_true, ite_false, nI_add, pk_mul, z_eq, z_lt, z_le, z_ge, z_gt, nI_eq, nI_leI, nI_ltI, bI_0, bI_1, not_true_eq_false, not_false_eq_true]
    rw [if_neg (by omega), d2]
    by_cases hm : zM C (zO C a) < priceN C a b
    · rw [if_pos hm, bI_f (by omega)]
    · rw [if_neg hm, bI_t (by omega)]
theorem c_pay (hC : isC c) (R : RC h c C) {p g x : Nat} (hp : p < 4) (hg : g < 4) (hx : x ≤ zM C p) (hm : ∀ i, i < 4 → zM C i ≤ 99999) (K : ∀ h', RC h' c (zsM C (payM (zM C) p g x)) → Fr (Xc c) h h' → Q none h') : Ev E mX1_pay 0 [.ref c, .int (nI p), .int (nI g), .int (nI x)] [] h Q := by
  have mp := hm p hp
  simp (disch := first | assumption | omega | exact isB_0 | exact isB_1 | exact isB_bI _ | decide) only [e_X1_pay_0, e_X1_pay_1, e_X1_pay_4, e_X1_pay_5, e_X1_pay_6, e_X1_pay_7, e_X1_pay_8, e_X1_pay_9, e_X1_pay_11, e_X1_pay_14, e_X1_pay_15, e_X1_pay_17, e_X1_pay_18, e_X1_pay_21, e_X1_pay_22, e_X1_pay_23, e_X1_pay_24, e_X1_pay_25, e_X1_pay_28, e_X1_pay_29, R.M hp, pk_sub hx, toL1, toL0, ite_self, if_true, if_false, ite_true, ite_false, nI_add, pk_mul, z_eq, z_lt, z_le, z_ge, z_gt, nI_eq, nI_leI, nI_ltI, bI_0, bI_1, not_true_eq_false, not_false_eq_true]
  have R1 := R.setM p (zM C p - x)
  have F1 : Fr (Xc c) h (sA h (c + 1) (upd (gA h (c + 1)) p (nI (zM C p - x)))) := Fr.sA (xc1 (by omega))
  generalize sA h (c + 1) (upd (gA h (c + 1)) p (nI (zM C p - x))) = h1 at R1 F1 ⊢
  have r := R1.M hg
  rw [zM_zsM] at r
  have hb : updN (zM C) p (zM C p - x) g ≤ 99999 := by
    unfold updN
    split
    · omega
    · exact hm g hg
  rw [e_X1_pay_10 hC]
  simp (disch := first | assumption | omega | exact isB_0 | exact isB_1 | exact isB_bI _ | decide) only [e_X1_pay_0, e_X1_pay_1, e_X1_pay_4, e_X1_pay_5, e_X1_pay_6, e_X1_pay_7, e_X1_pay_8, e_X1_pay_9, e_X1_pay_11, e_X1_pay_14, e_X1_pay_15, e_X1_pay_17, e_X1_pay_18, e_X1_pay_21, e_X1_pay_22, e_X1_pay_23, e_X1_pay_24, e_X1_pay_25, e_X1_pay_28, e_X1_pay_29, r, toL1, toL0, ite_self, if_true, if_false, ite_true, ite_false, nI_add, pk_mul, z_eq, z_lt, z_le, z_ge, z_gt, nI_eq, nI_leI, nI_ltI, bI_0, bI_1, not_true_eq_false, not_false_eq_true]
  rw [min_if (by omega) (by omega)]
  exact K _ (R1.setM g _) (F1.tr (Fr.sA (xc1 (by omega))))
theorem c_exchange (hC : isC c) (R : RC h c C) (W : WC C) {a b : Nat} (ha : a < zF C) (hb : b < zF C) (hx : canX C a b) (K : ∀ h', RC h' c (exC C a b) → Fr (Xc c) h h' → Q (some (.int (nI (priceN C a b)))) h') : Ev E mX1_exchange 0 [.ref c, .int (nI a), .int (nI b), .null] [] h Q := by
  have h8 := W.f
  have ha8 : a < 8 := by omega
  have hb8 : b < 8 := by omega
  have o1 := W.o ha8
  have o2 := W.o hb8
  by_cases hs : zO C a = zO C b ∨ solW C (zV C b) ≤ solW C (zV C a)
  · obtain ⟨d1, d2, d3, d4⟩ := due_neg W ha hb hs
    have hle : priceN C a b ≤ zM C (zO C b) := by
      by_cases hp : 0 < priceN C a b
      · have := hx
        unfold canX at this
        rw [(d3 hp).1] at this
        exact this
      · omega
    simp (disch := first | assumption | omega | exact isB_0 | exact isB_1 | exact isB_bI _ | decide) only [e_X1_exchange_0, e_X1_exchange_1, e_X1_exchange_2, e_X1_exchange_3, e_X1_exchange_6, e_X1_exchange_7, e_X1_exchange_8, e_X1_exchange_11, e_X1_exchange_12, e_X1_exchange_13, e_X1_exchange_16, e_X1_exchange_17, e_X1_exchange_18, e_X1_exchange_19, e_X1_exchange_22, e_X1_exchange_23, e_X1_exchange_24, e_X1_exchange_25, e_X1_exchange_28, e_X1_exchange_31, e_X1_exchange_32, e_X1_exchange_33, e_X1_exchange_36, e_X1_exchange_37, e_X1_exchange_38, e_X1_exchange_39, e_X1_exchange_42, e_X1_exchange_43, e_X1_exchange_44, e_X1_exchange_45, e_X1_exchange_46, e_X1_exchange_50, e_X1_exchange_51, e_X1_exchange_52, e_X1_exchange_55, e_X1_exchange_56, e_X1_exchange_59, c_due hC R W ha hb, R.O ha8, R.O hb8, d2, toL1, toL0, ite_self, if_true, if_false, ite_true, ite_false, nI_add, pk_mul, z_eq, z_lt, z_le, z_ge, z_gt, nI_eq, nI_leI, nI_ltI, bI_0, bI_1, not_true_eq_false, not_false_eq_true]
    rw [if_pos d1]
    refine c_pay hC R o2 o1 hle (fun i hi => W.m hi) (fun h1 R1 F1 => ?_)
    have R1x : RC h1 c (zsM C (exM C a b)) := R1.congM (fun i hi => by
      unfold exM
      by_cases hp : priceN C a b = 0
      · rw [if_pos hp, hp]; exact pay0 (fun i hi => W.m hi) o1 i
      · rw [if_neg hp, (d3 (by omega)).1, (d3 (by omega)).2])
    simp (disch := first | assumption | omega | exact isB_0 | exact isB_1 | exact isB_bI _ | decide) only [e_X1_exchange_0, e_X1_exchange_1, e_X1_exchange_2, e_X1_exchange_3, e_X1_exchange_6, e_X1_exchange_7, e_X1_exchange_8, e_X1_exchange_11, e_X1_exchange_12, e_X1_exchange_13, e_X1_exchange_16, e_X1_exchange_17, e_X1_exchange_18, e_X1_exchange_19, e_X1_exchange_22, e_X1_exchange_23, e_X1_exchange_24, e_X1_exchange_25, e_X1_exchange_28, e_X1_exchange_31, e_X1_exchange_32, e_X1_exchange_33, e_X1_exchange_36, e_X1_exchange_37, e_X1_exchange_38, e_X1_exchange_39, e_X1_exchange_42, e_X1_exchange_43, e_X1_exchange_44, e_X1_exchange_45, e_X1_exchange_46, e_X1_exchange_49, e_X1_exchange_50, e_X1_exchange_51, e_X1_exchange_52, e_X1_exchange_55, e_X1_exchange_56, e_X1_exchange_59, toL1, toL0, ite_self, if_true, if_false, ite_true, ite_false, nI_add, pk_mul, z_eq, z_lt, z_le, z_ge, z_gt, nI_eq, nI_leI, nI_ltI, bI_0, bI_1, not_true_eq_false, not_false_eq_true]
    refine c_swapViews hC R1x ha8 hb8 (fun h2 R2 F2 => ?_)
    simp (disch := first | assumption | omega | exact isB_0 | exact isB_1 | exact isB_bI _ | decide) only [e_X1_exchange_0, e_X1_exchange_1, e_X1_exchange_2, e_X1_exchange_3, e_X1_exchange_6, e_X1_exchange_7, e_X1_exchange_8, e_X1_exchange_11, e_X1_exchange_12, e_X1_exchange_13, e_X1_exchange_16, e_X1_exchange_17, e_X1_exchange_18, e_X1_exchange_19, e_X1_exchange_22, e_X1_exchange_23, e_X1_exchange_24, e_X1_exchange_25, e_X1_exchange_28, e_X1_exchange_31, e_X1_exchange_32, e_X1_exchange_33, e_X1_exchange_36, e_X1_exchange_37, e_X1_exchange_38, e_X1_exchange_39, e_X1_exchange_42, e_X1_exchange_43, e_X1_exchange_44, e_X1_exchange_45, e_X1_exchange_46, e_X1_exchange_49, e_X1_exchange_50, e_X1_exchange_51, e_X1_exchange_52, e_X1_exchange_55, e_X1_exchange_56, e_X1_exchange_59, toL1, toL0, ite_self, if_true, if_false, ite_true, ite_false, nI_add, pk_mul, z_eq, z_lt, z_le, z_ge, z_gt, nI_eq, nI_leI, nI_ltI, bI_0, bI_1, not_true_eq_false, not_false_eq_true]
    have hab : (if 0 ≤ dueI C a b then dueI C a b else 0 - dueI C a b) = nI (priceN C a b) := by
      by_cases hz : 0 ≤ dueI C a b
      · rw [if_pos hz]
        have : dueI C a b = 0 := Int32.le_antisymm d1 hz
        rw [this] at d2 ⊢
        rw [← d2]; rfl
      · rw [if_neg hz, Int32.zero_sub, d2]
    rw [hab]
    exact K _ R2 (F1.tr F2)
  · have hs2 := not_or.mp hs
    obtain ⟨d1, d2, d3, d4, d5⟩ := due_pos W ha hb hs2.1 (by omega)
    have hle : priceN C a b ≤ zM C (zO C a) := by
      have := hx
      unfold canX at this
      rw [d2] at this
      exact this
    simp (disch := first | assumption | omega | exact isB_0 | exact isB_1 | exact isB_bI _ | decide) only [e_X1_exchange_0, e_X1_exchange_1, e_X1_exchange_2, e_X1_exchange_3, e_X1_exchange_6, e_X1_exchange_7, e_X1_exchange_8, e_X1_exchange_11, e_X1_exchange_12, e_X1_exchange_13, e_X1_exchange_16, e_X1_exchange_17, e_X1_exchange_18, e_X1_exchange_19, e_X1_exchange_22, e_X1_exchange_23, e_X1_exchange_24, e_X1_exchange_25, e_X1_exchange_28, e_X1_exchange_31, e_X1_exchange_32, e_X1_exchange_33, e_X1_exchange_36, e_X1_exchange_37, e_X1_exchange_38, e_X1_exchange_39, e_X1_exchange_42, e_X1_exchange_43, e_X1_exchange_44, e_X1_exchange_45, e_X1_exchange_46, e_X1_exchange_50, e_X1_exchange_51, e_X1_exchange_52, e_X1_exchange_55, e_X1_exchange_56, e_X1_exchange_59, c_due hC R W ha hb, R.O ha8, R.O hb8, d1, toL1, toL0, ite_self, if_true, if_false, ite_true, ite_false, nI_add, pk_mul, z_eq, z_lt, z_le, z_ge, z_gt, nI_eq, nI_leI, nI_ltI, bI_0, bI_1, not_true_eq_false, not_false_eq_true]
    rw [if_neg (by omega)]
    refine c_pay hC R o1 o2 hle (fun i hi => W.m hi) (fun h1 R1 F1 => ?_)
    have R1x : RC h1 c (zsM C (exM C a b)) := R1.congM (fun i hi => by
      unfold exM
      rw [if_neg (by omega), d2, d3])
    simp (disch := first | assumption | omega | exact isB_0 | exact isB_1 | exact isB_bI _ | decide) only [e_X1_exchange_0, e_X1_exchange_1, e_X1_exchange_2, e_X1_exchange_3, e_X1_exchange_6, e_X1_exchange_7, e_X1_exchange_8, e_X1_exchange_11, e_X1_exchange_12, e_X1_exchange_13, e_X1_exchange_16, e_X1_exchange_17, e_X1_exchange_18, e_X1_exchange_19, e_X1_exchange_22, e_X1_exchange_23, e_X1_exchange_24, e_X1_exchange_25, e_X1_exchange_28, e_X1_exchange_31, e_X1_exchange_32, e_X1_exchange_33, e_X1_exchange_36, e_X1_exchange_37, e_X1_exchange_38, e_X1_exchange_39, e_X1_exchange_42, e_X1_exchange_43, e_X1_exchange_44, e_X1_exchange_45, e_X1_exchange_46, e_X1_exchange_49, e_X1_exchange_50, e_X1_exchange_51, e_X1_exchange_52, e_X1_exchange_55, e_X1_exchange_56, e_X1_exchange_59, toL1, toL0, ite_self, if_true, if_false, ite_true, ite_false, nI_add, pk_mul, z_eq, z_lt, z_le, z_ge, z_gt, nI_eq, nI_leI, nI_ltI, bI_0, bI_1, not_true_eq_false, not_false_eq_true]
    refine c_swapViews hC R1x ha8 hb8 (fun h2 R2 F2 => ?_)
    simp (disch := first | assumption | omega | exact isB_0 | exact isB_1 | exact isB_bI _ | decide) only [e_X1_exchange_0, e_X1_exchange_1, e_X1_exchange_2, e_X1_exchange_3, e_X1_exchange_6, e_X1_exchange_7, e_X1_exchange_8, e_X1_exchange_11, e_X1_exchange_12, e_X1_exchange_13, e_X1_exchange_16, e_X1_exchange_17, e_X1_exchange_18, e_X1_exchange_19, e_X1_exchange_22, e_X1_exchange_23, e_X1_exchange_24, e_X1_exchange_25, e_X1_exchange_28, e_X1_exchange_31, e_X1_exchange_32, e_X1_exchange_33, e_X1_exchange_36, e_X1_exchange_37, e_X1_exchange_38, e_X1_exchange_39, e_X1_exchange_42, e_X1_exchange_43, e_X1_exchange_44, e_X1_exchange_45, e_X1_exchange_46, e_X1_exchange_49, e_X1_exchange_50, e_X1_exchange_51, e_X1_exchange_52, e_X1_exchange_55, e_X1_exchange_56, e_X1_exchange_59, toL1, toL0, ite_self, if_true, if_false, ite_true, ite_false, nI_add, pk_mul, z_eq, z_lt, z_le, z_ge, z_gt, nI_eq, nI_leI, nI_ltI, bI_0, bI_1, not_true_eq_false, not_false_eq_true]
    exact K _ R2 (F1.tr F2)
/-- views move on: f of them have -/
def rotP (C : Cty) (f : Nat) : Nat → Nat := fun i => if i < f then zV C (i + 1) else zV C i
theorem c_shL (hC : isC c) (W : WC C) (K : ∀ h', RC h' c (zsV C (rotP C (zF C - 1))) → Fr (Xc c) h h' → ∀ z : Int32, Ev E mX1_shiftViews 39 [.ref c, .int (nI (zV C 0)), .int z] [] h' Q) : ∀ (d f : Nat) (h' : Hp), f + d = zF C - 1 → RC h' c (zsV C (rotP C f)) → Fr (Xc c) h h' → Ev E mX1_shiftViews 9 [.ref c, .int (nI (zV C 0)), .int (nI f)] [] h' Q := by
  have h8 := W.f
  intro d
  induction d with
  | zero =>
    intro f h' e R F
    have r := R.F
    rw [zF_zsV] at r
    rw [e_X1_shiftViews_9]
    simp (disch := first | assumption | omega | exact isB_0 | exact isB_1 | exact isB_bI _ | decide) only [e_X1_shiftViews_0, e_X1_shiftViews_1, e_X1_shiftViews_4, e_X1_shiftViews_5, e_X1_shiftViews_6, e_X1_shiftViews_7, e_X1_shiftViews_8, e_X1_shiftViews_10, e_X1_shiftViews_11, e_X1_shiftViews_12, e_X1_shiftViews_13, e_X1_shiftViews_16, e_X1_shiftViews_19, e_X1_shiftViews_20, e_X1_shiftViews_23, e_X1_shiftViews_24, e_X1_shiftViews_25, e_X1_shiftViews_28, e_X1_shiftViews_29, e_X1_shiftViews_30, e_X1_shiftViews_31, e_X1_shiftViews_32, e_X1_shiftViews_33, e_X1_shiftViews_36, e_X1_shiftViews_40, e_X1_shiftViews_43, e_X1_shiftViews_46, e_X1_shiftViews_47, e_X1_shiftViews_50, e_X1_shiftViews_51, e_X1_shiftViews_54, e_X1_shiftViews_55, e_X1_shiftViews_56, e_X1_shiftViews_57, e_X1_shiftViews_58, r, toL1, toL0, ite_self, if_true, if_false, ite_true, ite_false, nI_add, pk_mul, z_eq, z_lt, z_le, z_ge, z_gt, nI_eq, nI_leI, nI_ltI, bI_0, bI_1, not_true_eq_false, not_false_eq_true]
    rw [if_pos (by omega)]
    exact K h' (by rw [show zF C - 1 = f by omega]; exact R) F _
  | succ d ih =>
    intro f h' e R F
    have r := R.F
    rw [zF_zsV] at r
    have r2 := R.V (show f + 1 < 8 by omega)
    rw [zV_zsV] at r2
    rw [show rotP C f (f + 1) = zV C (f + 1) by unfold rotP; rw [if_neg (by omega)]] at r2
    rw [e_X1_shiftViews_9]
    simp (disch := first | assumption | omega | exact isB_0 | exact isB_1 | exact isB_bI _ | decide) only [e_X1_shiftViews_0, e_X1_shiftViews_1, e_X1_shiftViews_4, e_X1_shiftViews_5, e_X1_shiftViews_6, e_X1_shiftViews_7, e_X1_shiftViews_8, e_X1_shiftViews_10, e_X1_shiftViews_11, e_X1_shiftViews_12, e_X1_shiftViews_13, e_X1_shiftViews_16, e_X1_shiftViews_19, e_X1_shiftViews_20, e_X1_shiftViews_23, e_X1_shiftViews_24, e_X1_shiftViews_25, e_X1_shiftViews_28, e_X1_shiftViews_29, e_X1_shiftViews_30, e_X1_shiftViews_31, e_X1_shiftViews_32, e_X1_shiftViews_33, e_X1_shiftViews_36, e_X1_shiftViews_40, e_X1_shiftViews_43, e_X1_shiftViews_46, e_X1_shiftViews_47, e_X1_shiftViews_50, e_X1_shiftViews_51, e_X1_shiftViews_54, e_X1_shiftViews_55, e_X1_shiftViews_56, e_X1_shiftViews_57, e_X1_shiftViews_58, r, r2, toL1, toL0, ite_self, if_true, if_false, ite_true, ite_false, nI_add, pk_mul, z_eq, z_lt, z_le, z_ge, z_gt, nI_eq, nI_leI, nI_ltI, bI_0, bI_1, not_true_eq_false, not_false_eq_true]
    rw [if_neg (by omega)]
    refine ih (f + 1) _ (by omega) ?_ (F.tr (Fr.sA (xc1 (by omega))))
    refine (R.setV f (zV C (f + 1))).congV (C := C) (fun i hi => ?_)
    show updN (rotP C f) f (zV C (f + 1)) i = rotP C (f + 1) i
    unfold updN rotP
    by_cases h1 : i = f
    · rw [if_pos h1, if_pos (by omega), h1]
    · rw [if_neg h1]
      by_cases h2 : i < f
      · rw [if_pos h2, if_pos (by omega)]
      · rw [if_neg h2, if_neg (by omega)]
theorem c_shiftViews (hC : isC c) (R : RC h c C) (W : WC C) (K : ∀ h', RC h' c (rotC C) → Fr (Xc c) h h' → Q none h') : Ev E mX1_shiftViews 0 [.ref c, .null, .null] [] h Q := by
  have h8 := W.f
  simp (disch := first | assumption | omega | exact isB_0 | exact isB_1 | exact isB_bI _ | decide) only [e_X1_shiftViews_0, e_X1_shiftViews_1, e_X1_shiftViews_4, e_X1_shiftViews_5, e_X1_shiftViews_6, e_X1_shiftViews_7, e_X1_shiftViews_8, e_X1_shiftViews_10, e_X1_shiftViews_11, e_X1_shiftViews_12, e_X1_shiftViews_13, e_X1_shiftViews_16, e_X1_shiftViews_19, e_X1_shiftViews_20, e_X1_shiftViews_23, e_X1_shiftViews_24, e_X1_shiftViews_25, e_X1_shiftViews_28, e_X1_shiftViews_29, e_X1_shiftViews_30, e_X1_shiftViews_31, e_X1_shiftViews_32, e_X1_shiftViews_33, e_X1_shiftViews_36, e_X1_shiftViews_40, e_X1_shiftViews_43, e_X1_shiftViews_46, e_X1_shiftViews_47, e_X1_shiftViews_50, e_X1_shiftViews_51, e_X1_shiftViews_54, e_X1_shiftViews_55, e_X1_shiftViews_56, e_X1_shiftViews_57, e_X1_shiftViews_58, R.V (show 0 < 8 by omega), toL1, toL0, ite_self, if_true, if_false, ite_true, ite_false, nI_add, pk_mul, z_eq, z_lt, z_le, z_ge, z_gt, nI_eq, nI_leI, nI_ltI, bI_0, bI_1, not_true_eq_false, not_false_eq_true]
  refine c_shL hC W (fun h1 R1 F1 z => ?_) (zF C - 1) 0 h (by omega) (R.eqC ?_) Fr.rf
  · have r := R1.F
    rw [zF_zsV] at r
    rw [e_X1_shiftViews_39 hC]
    simp (disch := first | assumption | omega | exact isB_0 | exact isB_1 | exact isB_bI _ | decide) only [e_X1_shiftViews_0, e_X1_shiftViews_1, e_X1_shiftViews_4, e_X1_shiftViews_5, e_X1_shiftViews_6, e_X1_shiftViews_7, e_X1_shiftViews_8, e_X1_shiftViews_10, e_X1_shiftViews_11, e_X1_shiftViews_12, e_X1_shiftViews_13, e_X1_shiftViews_16, e_X1_shiftViews_19, e_X1_shiftViews_20, e_X1_shiftViews_23, e_X1_shiftViews_24, e_X1_shiftViews_25, e_X1_shiftViews_28, e_X1_shiftViews_29, e_X1_shiftViews_30, e_X1_shiftViews_31, e_X1_shiftViews_32, e_X1_shiftViews_33, e_X1_shiftViews_36, e_X1_shiftViews_40, e_X1_shiftViews_43, e_X1_shiftViews_46, e_X1_shiftViews_47, e_X1_shiftViews_50, e_X1_shiftViews_51, e_X1_shiftViews_54, e_X1_shiftViews_55, e_X1_shiftViews_56, e_X1_shiftViews_57, e_X1_shiftViews_58, r, toL1, toL0, ite_self, if_true, if_false, ite_true, ite_false, nI_add, pk_mul, z_eq, z_lt, z_le, z_ge, z_gt, nI_eq, nI_leI, nI_ltI, bI_0, bI_1, not_true_eq_false, not_false_eq_true]
    by_cases hz : zF C = 0
    · rw [if_pos hz]
      refine K _ (R1.congV (fun i hi => ?_)) F1
      unfold rotP rotV
      rw [if_neg (by omega), if_neg (by omega), if_neg (by omega)]
    · rw [if_neg hz, pk_sub (by omega)]
      simp (disch := first | assumption | omega | exact isB_0 | exact isB_1 | exact isB_bI _ | decide) only [e_X1_shiftViews_0, e_X1_shiftViews_1, e_X1_shiftViews_4, e_X1_shiftViews_5, e_X1_shiftViews_6, e_X1_shiftViews_7, e_X1_shiftViews_8, e_X1_shiftViews_10, e_X1_shiftViews_11, e_X1_shiftViews_12, e_X1_shiftViews_13, e_X1_shiftViews_16, e_X1_shiftViews_19, e_X1_shiftViews_20, e_X1_shiftViews_23, e_X1_shiftViews_24, e_X1_shiftViews_25, e_X1_shiftViews_28, e_X1_shiftViews_29, e_X1_shiftViews_30, e_X1_shiftViews_31, e_X1_shiftViews_32, e_X1_shiftViews_33, e_X1_shiftViews_36, e_X1_shiftViews_40, e_X1_shiftViews_43, e_X1_shiftViews_46, e_X1_shiftViews_47, e_X1_shiftViews_50, e_X1_shiftViews_51, e_X1_shiftViews_54, e_X1_shiftViews_55, e_X1_shiftViews_56, e_X1_shiftViews_57, e_X1_shiftViews_58, toL1, toL0, ite_self, if_true, if_false, ite_true, ite_false, nI_add, pk_mul, z_eq, z_lt, z_le, z_ge, z_gt, nI_eq, nI_leI, nI_ltI, bI_0, bI_1, not_true_eq_false, not_false_eq_true]
      refine K _ ((R1.setV (zF C - 1) (zV C 0)).congV (C := C) (fun i hi => ?_)) (F1.tr (Fr.sA (xc1 (by omega))))
      show updN (rotP C (zF C - 1)) (zF C - 1) (zV C 0) i = rotV C i
      unfold updN rotP rotV
      by_cases h1 : i = zF C - 1
      · rw [if_pos h1, if_neg (by omega), if_pos (by omega)]
      · rw [if_neg h1]
        by_cases h2 : i < zF C - 1
        · rw [if_pos h2, if_pos (by omega)]
        · rw [if_neg h2, if_neg (by omega), if_neg (by omega)]
  · show C = zsV C (rotP C 0)
    have : rotP C 0 = zV C := by
      funext i
      unfold rotP
      rw [if_neg (by omega)]
    rw [this]
    rfl
theorem c_goL1 (hC : isC c) (W : WC C) (K : ∀ h', RC h' c (zsM C (mAf C (zF C))) → Fr (Xc c) h h' → ∀ z : Value, Ev E mX1_passHour 46 [.ref c, .int (nI (zF C)), z] [] h' Q) (hm : ∀ f, f ≤ zF C → ∀ i, i < 4 → mAf C f i ≤ 99999) : ∀ (d f : Nat) (h' : Hp) (z : Value), f + d = zF C → RC h' c (zsM C (mAf C f)) → Fr (Xc c) h h' → Ev E mX1_passHour 2 [.ref c, .int (nI f), z] [] h' Q := by
  have h8 := W.f
  intro d
  induction d with
  | zero =>
    intro f h' z e R F
    have r := R.F
    rw [zF_zsM] at r
    rw [e_X1_passHour_2]
    simp (disch := first | assumption | omega | exact isB_0 | exact isB_1 | exact isB_bI _ | decide) only [e_X1_passHour_0, e_X1_passHour_1, e_X1_passHour_3, e_X1_passHour_4, e_X1_passHour_7, e_X1_passHour_10, e_X1_passHour_11, e_X1_passHour_14, e_X1_passHour_15, e_X1_passHour_16, e_X1_passHour_17, e_X1_passHour_18, e_X1_passHour_21, e_X1_passHour_22, e_X1_passHour_24, e_X1_passHour_25, e_X1_passHour_28, e_X1_passHour_29, e_X1_passHour_30, e_X1_passHour_31, e_X1_passHour_32, e_X1_passHour_35, e_X1_passHour_36, e_X1_passHour_39, e_X1_passHour_40, e_X1_passHour_43, e_X1_passHour_47, e_X1_passHour_48, e_X1_passHour_49, e_X1_passHour_50, e_X1_passHour_53, e_X1_passHour_56, e_X1_passHour_57, e_X1_passHour_60, e_X1_passHour_61, e_X1_passHour_62, e_X1_passHour_65, e_X1_passHour_66, e_X1_passHour_67, e_X1_passHour_68, e_X1_passHour_71, e_X1_passHour_72, e_X1_passHour_73, e_X1_passHour_74, e_X1_passHour_77, e_X1_passHour_80, e_X1_passHour_81, e_X1_passHour_84, e_X1_passHour_87, e_X1_passHour_88, e_X1_passHour_89, e_X1_passHour_92, e_X1_passHour_93, e_X1_passHour_94, e_X1_passHour_97, r, toL1, toL0, ite_self, if_true, if_false, ite_true, ite_false, nI_add, pk_mul, z_eq, z_lt, z_le, z_ge, z_gt, nI_eq, nI_leI, nI_ltI, bI_0, bI_1, not_true_eq_false, not_false_eq_true]
    rw [if_pos (by omega)]
    rw [show f = zF C by omega] at R ⊢
    exact K h' R F z
  | succ d ih =>
    intro f h' z e R F
    have hf8 : f < 8 := by omega
    have r := R.F
    rw [zF_zsM] at r
    have r2 := R.O hf8
    rw [zO_zsM] at r2
    have ho := W.o hf8
    have r3 := R.M ho
    rw [zM_zsM] at r3
    have hW : WC (zsM C (mAf C f)) := ⟨W.1, W.2.1, hm f (by omega), W.2.2.2⟩
    have hw : ∀ Q', Ev E mX1_worthOutOf 0 [.ref c, .int (nI f)] [] h' Q' = Q' (some (.int (nI (outW C f)))) h' := fun Q' => c_worthOutOf hC R hW (show f < zF C by omega)
    have hm1 := hm f (by omega) _ ho
    have hol := out_le W (show f < zF C by omega)
    rw [e_X1_passHour_2]
    simp (disch := first | assumption | omega | exact isB_0 | exact isB_1 | exact isB_bI _ | decide) only [e_X1_passHour_0, e_X1_passHour_1, e_X1_passHour_3, e_X1_passHour_4, e_X1_passHour_7, e_X1_passHour_10, e_X1_passHour_11, e_X1_passHour_14, e_X1_passHour_15, e_X1_passHour_16, e_X1_passHour_17, e_X1_passHour_18, e_X1_passHour_21, e_X1_passHour_22, e_X1_passHour_24, e_X1_passHour_25, e_X1_passHour_28, e_X1_passHour_29, e_X1_passHour_30, e_X1_passHour_31, e_X1_passHour_32, e_X1_passHour_35, e_X1_passHour_36, e_X1_passHour_39, e_X1_passHour_40, e_X1_passHour_43, e_X1_passHour_47, e_X1_passHour_48, e_X1_passHour_49, e_X1_passHour_50, e_X1_passHour_53, e_X1_passHour_56, e_X1_passHour_57, e_X1_passHour_60, e_X1_passHour_61, e_X1_passHour_62, e_X1_passHour_65, e_X1_passHour_66, e_X1_passHour_67, e_X1_passHour_68, e_X1_passHour_71, e_X1_passHour_72, e_X1_passHour_73, e_X1_passHour_74, e_X1_passHour_77, e_X1_passHour_80, e_X1_passHour_81, e_X1_passHour_84, e_X1_passHour_87, e_X1_passHour_88, e_X1_passHour_89, e_X1_passHour_92, e_X1_passHour_93, e_X1_passHour_94, e_X1_passHour_97, r, r2, r3, hw, toL1, toL0, ite_self, if_true, if_false, ite_true, ite_false, nI_add, pk_mul, z_eq, z_lt, z_le, z_ge, z_gt, nI_eq, nI_leI, nI_ltI, bI_0, bI_1, not_true_eq_false, not_false_eq_true]
    rw [if_neg (by omega), min_if (by omega) (by omega)]
    exact ih (f + 1) _ _ (by omega) (R.setM (zO C f) _) (F.tr (Fr.sA (xc1 (by omega))))
theorem c_goL2 (hC : isC c) (C0 : Cty) (W : WC C) (h0 : zF C0 = zF C ∧ zH C0 = zH C ∧ zK C0 = zK C ∧ zE C0 = zE C) (K : ∀ h', RC h' c (zsE C0 (fAf C (zF C))) → Fr (Xc c) h h' → ∀ z y : Value, Ev E mX1_passHour 87 [.ref c, y, z] [] h' Q) : ∀ (d v : Nat) (h' : Hp) (z : Value), v + d = zF C → RC h' c (zsE C0 (fAf C v)) → Fr (Xc c) h h' → Ev E mX1_passHour 48 [.ref c, .int (nI v), z] [] h' Q := by
  have h8 := W.f
  have hh := W.h
  intro d
  induction d with
  | zero =>
    intro v h' z e R F
    have r := R.F
    rw [zF_zsE, h0.1] at r
    rw [e_X1_passHour_48]
    simp (disch := first | assumption | omega | exact isB_0 | exact isB_1 | exact isB_bI _ | decide) only [e_X1_passHour_0, e_X1_passHour_1, e_X1_passHour_2, e_X1_passHour_3, e_X1_passHour_4, e_X1_passHour_7, e_X1_passHour_10, e_X1_passHour_11, e_X1_passHour_14, e_X1_passHour_15, e_X1_passHour_16, e_X1_passHour_17, e_X1_passHour_18, e_X1_passHour_21, e_X1_passHour_22, e_X1_passHour_24, e_X1_passHour_25, e_X1_passHour_28, e_X1_passHour_29, e_X1_passHour_30, e_X1_passHour_31, e_X1_passHour_32, e_X1_passHour_35, e_X1_passHour_36, e_X1_passHour_39, e_X1_passHour_40, e_X1_passHour_43, e_X1_passHour_46, e_X1_passHour_47, e_X1_passHour_49, e_X1_passHour_50, e_X1_passHour_53, e_X1_passHour_56, e_X1_passHour_57, e_X1_passHour_60, e_X1_passHour_61, e_X1_passHour_62, e_X1_passHour_65, e_X1_passHour_66, e_X1_passHour_67, e_X1_passHour_68, e_X1_passHour_71, e_X1_passHour_72, e_X1_passHour_73, e_X1_passHour_74, e_X1_passHour_77, e_X1_passHour_80, e_X1_passHour_81, e_X1_passHour_84, e_X1_passHour_88, e_X1_passHour_89, e_X1_passHour_92, e_X1_passHour_93, e_X1_passHour_94, e_X1_passHour_97, r, toL1, toL0, ite_self, if_true, if_false, ite_true, ite_false, nI_add, pk_mul, z_eq, z_lt, z_le, z_ge, z_gt, nI_eq, nI_leI, nI_ltI, bI_0, bI_1, not_true_eq_false, not_false_eq_true]
    rw [if_pos (by omega)]
    exact K h' (by rw [show zF C = v by omega]; exact R) F z _
  | succ d ih =>
    intro v h' z e R F
    have hv8 : v < 8 := by omega
    have r := R.F
    rw [zF_zsE, h0.1] at r
    have r1 := R.H
    rw [zH_zsE, h0.2.1] at r1
    have r2 := R.K hv8
    rw [zK_zsE, h0.2.2.1] at r2
    have r3 := R.E hv8
    rw [zE_zsE] at r3
    have e3 : fAf C v v = zE C v := by
      have key : ∀ n i, n ≤ i → fAf C n i = zE C i := by
        intro n
        induction n with
        | zero => intro i _; rfl
        | succ n ihn =>
          intro i hi
          rw [fAf, updN_n (by omega)]
          exact ihn i (by omega)
      exact key v v (Nat.le_refl _)
    rw [e3] at r3
    rw [e_X1_passHour_48]
    simp (disch := first | assumption | omega | exact isB_0 | exact isB_1 | exact isB_bI _ | decide) only [e_X1_passHour_0, e_X1_passHour_1, e_X1_passHour_2, e_X1_passHour_3, e_X1_passHour_4, e_X1_passHour_7, e_X1_passHour_10, e_X1_passHour_11, e_X1_passHour_14, e_X1_passHour_15, e_X1_passHour_16, e_X1_passHour_17, e_X1_passHour_18, e_X1_passHour_21, e_X1_passHour_22, e_X1_passHour_24, e_X1_passHour_25, e_X1_passHour_28, e_X1_passHour_29, e_X1_passHour_30, e_X1_passHour_31, e_X1_passHour_32, e_X1_passHour_35, e_X1_passHour_36, e_X1_passHour_39, e_X1_passHour_40, e_X1_passHour_43, e_X1_passHour_46, e_X1_passHour_47, e_X1_passHour_49, e_X1_passHour_50, e_X1_passHour_53, e_X1_passHour_56, e_X1_passHour_57, e_X1_passHour_60, e_X1_passHour_61, e_X1_passHour_62, e_X1_passHour_65, e_X1_passHour_66, e_X1_passHour_67, e_X1_passHour_68, e_X1_passHour_71, e_X1_passHour_72, e_X1_passHour_73, e_X1_passHour_74, e_X1_passHour_77, e_X1_passHour_80, e_X1_passHour_81, e_X1_passHour_84, e_X1_passHour_88, e_X1_passHour_89, e_X1_passHour_92, e_X1_passHour_93, e_X1_passHour_94, e_X1_passHour_97, r, r1, r2, r3, s_fbe (W.k hv8) (W.e hv8) (show zH C < 1000000 by omega), toL1, toL0, ite_self, if_true, if_false, ite_true, ite_false, nI_add, pk_mul, z_eq, z_lt, z_le, z_ge, z_gt, nI_eq, nI_leI, nI_ltI, bI_0, bI_1, not_true_eq_false, not_false_eq_true]
    rw [if_neg (by omega)]
    exact ih (v + 1) _ _ (by omega) (R.setE v _) (F.tr (Fr.sA (xc1 (by omega))))
theorem mAf_le (W : WC C) : ∀ f, f ≤ zF C → ∀ i, i < 4 → mAf C f i ≤ 99999 := by
  intro f
  induction f with
  | zero => intro _ i hi; exact W.m hi
  | succ f ih =>
    intro hf i hi
    rw [mAf]
    unfold updN
    split
    · omega
    · exact ih (by omega) i hi
theorem c_passHour (hC : isC c) (R : RC h c C) (W : WC C) (K : ∀ h', RC h' c (goC C) → Fr (Xc c) h h' → Q none h') : Ev E mX1_passHour 0 [.ref c, .null, .null] [] h Q := by
  simp (disch := first | assumption | omega | exact isB_0 | exact isB_1 | exact isB_bI _ | decide) only [e_X1_passHour_0, e_X1_passHour_1, e_X1_passHour_3, e_X1_passHour_4, e_X1_passHour_7, e_X1_passHour_10, e_X1_passHour_11, e_X1_passHour_14, e_X1_passHour_15, e_X1_passHour_16, e_X1_passHour_17, e_X1_passHour_18, e_X1_passHour_21, e_X1_passHour_22, e_X1_passHour_24, e_X1_passHour_25, e_X1_passHour_28, e_X1_passHour_29, e_X1_passHour_30, e_X1_passHour_31, e_X1_passHour_32, e_X1_passHour_35, e_X1_passHour_36, e_X1_passHour_39, e_X1_passHour_40, e_X1_passHour_43, e_X1_passHour_47, e_X1_passHour_48, e_X1_passHour_49, e_X1_passHour_50, e_X1_passHour_53, e_X1_passHour_56, e_X1_passHour_57, e_X1_passHour_60, e_X1_passHour_61, e_X1_passHour_62, e_X1_passHour_65, e_X1_passHour_66, e_X1_passHour_67, e_X1_passHour_68, e_X1_passHour_71, e_X1_passHour_72, e_X1_passHour_73, e_X1_passHour_74, e_X1_passHour_77, e_X1_passHour_80, e_X1_passHour_81, e_X1_passHour_84, e_X1_passHour_87, e_X1_passHour_88, e_X1_passHour_89, e_X1_passHour_92, e_X1_passHour_93, e_X1_passHour_94, e_X1_passHour_97, toL1, toL0, ite_self, if_true, if_false, ite_true, ite_false, nI_add, pk_mul, z_eq, z_lt, z_le, z_ge, z_gt, nI_eq, nI_leI, nI_ltI, bI_0, bI_1, not_true_eq_false, not_false_eq_true]
  refine c_goL1 hC W (fun h1 R1 F1 z => ?_) (mAf_le W) (zF C) 0 h .null (by omega) R Fr.rf
  rw [e_X1_passHour_46]
  simp (disch := first | assumption | omega | exact isB_0 | exact isB_1 | exact isB_bI _ | decide) only [e_X1_passHour_0, e_X1_passHour_1, e_X1_passHour_2, e_X1_passHour_3, e_X1_passHour_4, e_X1_passHour_7, e_X1_passHour_10, e_X1_passHour_11, e_X1_passHour_14, e_X1_passHour_15, e_X1_passHour_16, e_X1_passHour_17, e_X1_passHour_18, e_X1_passHour_21, e_X1_passHour_22, e_X1_passHour_24, e_X1_passHour_25, e_X1_passHour_28, e_X1_passHour_29, e_X1_passHour_30, e_X1_passHour_31, e_X1_passHour_32, e_X1_passHour_35, e_X1_passHour_36, e_X1_passHour_39, e_X1_passHour_40, e_X1_passHour_43, e_X1_passHour_47, e_X1_passHour_49, e_X1_passHour_50, e_X1_passHour_53, e_X1_passHour_56, e_X1_passHour_57, e_X1_passHour_60, e_X1_passHour_61, e_X1_passHour_62, e_X1_passHour_65, e_X1_passHour_66, e_X1_passHour_67, e_X1_passHour_68, e_X1_passHour_71, e_X1_passHour_72, e_X1_passHour_73, e_X1_passHour_74, e_X1_passHour_77, e_X1_passHour_80, e_X1_passHour_81, e_X1_passHour_84, e_X1_passHour_87, e_X1_passHour_88, e_X1_passHour_89, e_X1_passHour_92, e_X1_passHour_93, e_X1_passHour_94, e_X1_passHour_97, toL1, toL0, ite_self, if_true, if_false, ite_true, ite_false, nI_add, pk_mul, z_eq, z_lt, z_le, z_ge, z_gt, nI_eq, nI_leI, nI_ltI, bI_0, bI_1, not_true_eq_false, not_false_eq_true]
  refine c_goL2 (h := h1) hC (zsM C (mAf C (zF C))) W ⟨rfl, rfl, rfl, rfl⟩ (fun h2 R2 F2 z2 y2 => ?_) (zF C) 0 h1 z (by omega) R1 Fr.rf
  have r1 := R2.H
  rw [zH_zsE, zH_zsM] at r1
  rw [e_X1_passHour_87 hC]
  simp (disch := first | assumption | omega | exact isB_0 | exact isB_1 | exact isB_bI _ | decide) only [e_X1_passHour_0, e_X1_passHour_1, e_X1_passHour_2, e_X1_passHour_3, e_X1_passHour_4, e_X1_passHour_7, e_X1_passHour_10, e_X1_passHour_11, e_X1_passHour_14, e_X1_passHour_15, e_X1_passHour_16, e_X1_passHour_17, e_X1_passHour_18, e_X1_passHour_21, e_X1_passHour_22, e_X1_passHour_24, e_X1_passHour_25, e_X1_passHour_28, e_X1_passHour_29, e_X1_passHour_30, e_X1_passHour_31, e_X1_passHour_32, e_X1_passHour_35, e_X1_passHour_36, e_X1_passHour_39, e_X1_passHour_40, e_X1_passHour_43, e_X1_passHour_46, e_X1_passHour_47, e_X1_passHour_48, e_X1_passHour_49, e_X1_passHour_50, e_X1_passHour_53, e_X1_passHour_56, e_X1_passHour_57, e_X1_passHour_60, e_X1_passHour_61, e_X1_passHour_62, e_X1_passHour_65, e_X1_passHour_66, e_X1_passHour_67, e_X1_passHour_68, e_X1_passHour_71, e_X1_passHour_72, e_X1_passHour_73, e_X1_passHour_74, e_X1_passHour_77, e_X1_passHour_80, e_X1_passHour_81, e_X1_passHour_84, e_X1_passHour_88, e_X1_passHour_89, e_X1_passHour_92, e_X1_passHour_93, e_X1_passHour_94, e_X1_passHour_97, r1, toL1, toL0, ite_self, if_true, if_false, ite_true, ite_false, nI_add, pk_mul, z_eq, z_lt, z_le, z_ge, z_gt, nI_eq, nI_leI, nI_ltI, bI_0, bI_1, not_true_eq_false, not_false_eq_true]
  exact K _ (R2.setH (zH C + 1)) ((F1.tr F2).tr (Fr.sI xc0))
end CITY2
