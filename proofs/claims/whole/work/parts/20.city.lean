/-! the methods of a city, on its numbers -/
abbrev hF (x : Int32) (n : Nat) : Prop := nI 0 ≤ x ∧ x < nI n
theorem hF_of {x : Int32} {n : Nat} (hn : n < 2 ^ 31) (hx : hF x n) : ∃ j, j < n ∧ x = nI j := by
  have h1 := Int32.le_iff_toInt_le.mp hx.1
  have h2 := Int32.lt_iff_toInt_lt.mp hx.2
  rw [nI_toInt (by omega)] at h1
  rw [nI_toInt hn] at h2
  refine ⟨x.toInt.toNat, by omega, ?_⟩
  apply Int32.toInt_inj.mp
  rw [nI_toInt (by omega)]
  omega
theorem hF_to {j n : Nat} (hn : n < 2 ^ 31) (h : j < n) : hF (nI j) n := ⟨nI_le (Nat.zero_le _) (by omega), nI_lt h hn⟩
def outW (C : Cty) (f : Nat) : Nat := if zU C f = 1 then 0 else wor (zK C (zV C f)) (zE C (zV C f)) (zH C)
def solW (C : Cty) (v : Nat) : Nat := sol (zK C v) (zE C v) (zH C)
def sumN (p : Nat → Nat) : Nat → Nat
  | 0 => 0
  | n + 1 => sumN p n + p n
def setI (sh : Nat → Nat) (p : Nat → Bool) : Nat → Int32
  | 0 => nI 0
  | n + 1 => if p n = true then setI sh p n ||| (nI 1 <<< (nI (sh n) &&& 31)) else setI sh p n
def showN (C : Cty) (v : Nat) : Nat → Nat
  | 0 => 0
  | n + 1 => if zV C n = v then n else showN C v n
def addC (C : Cty) (k o : Nat) : Cty := zsF (zsE (zsK (zsV (zsU (zsO C (updN (zO C) (zF C) o)) (updN (zU C) (zF C) 0)) (updN (zV C) (zF C) (zF C))) (updN (zK C) (zF C) k)) (updN (zE C) (zF C) 10)) (zF C + 1)
def swpC (C : Cty) (a b : Nat) : Cty := zsV C (updN (updN (zV C) a (zV C b)) b (zV C a))
def rotV (C : Cty) : Nat → Nat := fun i => if i + 1 < zF C then zV C (i + 1) else if i + 1 = zF C then zV C 0 else zV C i
def rotC (C : Cty) : Cty := zsV C (rotV C)
/-- money behind the hour, as far as the first f frames go -/
def mAf (C : Cty) : Nat → Nat → Nat
  | 0 => zM C
  | f + 1 => updN (mAf C f) (zO C f) (min 99999 (mAf C f (zO C f) + outW C f))
def fAf (C : Cty) : Nat → Nat → Nat
  | 0 => zE C
  | v + 1 => updN (fAf C v) v (fbe (zK C v) (zE C v) (zH C))
def goC (C : Cty) : Cty := zsH (zsE (zsM C (mAf C (zF C))) (fAf C (zF C))) (zH C + 1)
theorem or0 (x : Int32) : x ||| nI 0 = x := by
  apply Int32.toBitVec_inj.mp
  show x.toBitVec ||| (0 : BitVec 32) = x.toBitVec
  exact BitVec.or_zero
theorem min_if {a b : Nat} (ha : a < 2 ^ 31) (hb : b < 2 ^ 31) : (if a < b then nI a else nI b) = nI (min b a) := by
  by_cases hl : a < b
  · rw [if_pos hl, Nat.min_eq_right (by omega)]
  · rw [if_neg hl, Nat.min_eq_left (by omega)]
theorem WC.f {C : Cty} (W : WC C) : zF C ≤ 8 := W.1
theorem WC.h {C : Cty} (W : WC C) : zH C ≤ 200000 := W.2.1
theorem WC.m {C : Cty} (W : WC C) {i : Nat} (hi : i < 4) : zM C i ≤ 99999 := W.2.2.1 i hi
theorem WC.o {C : Cty} (W : WC C) {i : Nat} (hi : i < 8) : zO C i < 4 := W.2.2.2.1 i hi
theorem WC.u {C : Cty} (W : WC C) {i : Nat} (hi : i < 8) : zU C i ≤ 1 := W.2.2.2.2.1 i hi
theorem WC.v {C : Cty} (W : WC C) {i : Nat} (hi : i < zF C) : zV C i < zF C := W.2.2.2.2.2.1 i hi
theorem WC.vi {C : Cty} (W : WC C) {i j : Nat} (hi : i < zF C) (hj : j < zF C) (e : zV C i = zV C j) : i = j := W.2.2.2.2.2.2.1 i j hi hj e
theorem WC.k {C : Cty} (W : WC C) {i : Nat} (hi : i < 8) : zK C i < 6 := W.2.2.2.2.2.2.2.1 i hi
theorem WC.e {C : Cty} (W : WC C) {i : Nat} (hi : i < 8) : zE C i ≤ 99 := W.2.2.2.2.2.2.2.2 i hi
theorem WC.v8 {C : Cty} (W : WC C) {i : Nat} (hi : i < zF C) : zV C i < 8 := Nat.lt_of_lt_of_le (W.v hi) W.f
theorem out_le {C : Cty} (W : WC C) {f : Nat} (hf : f < zF C) : outW C f ≤ 120 := by
  unfold outW
  split
  · omega
  · exact wor_le (W.e (W.v8 hf))
theorem sol_le {k f hr : Nat} (hf : f ≤ 99) : sol k f hr ≤ 1000 := by
  unfold sol
  split <;> first | omega | (split <;> omega)
section CITY
variable {E : En} {h : Hp} {Q : Option Value → Hp → Prop} {c : Nat} {C : Cty}
theorem c_hasFrame (hC : isC c) (R : RC h c C) (W : WC C) {x : Int32} : Ev E mX1_hasFrame 0 [.ref c, .int x] [] h Q = Q (some (.int (bI (hF x (zF C))))) h := by
  simp (disch := first | assumption | omega | exact isB_0 | exact isB_1 | exact isB_bI _ | decide) only [e_X1_hasFrame_0, e_X1_hasFrame_1, e_X1_hasFrame_4, e_X1_hasFrame_5, e_X1_hasFrame_6, e_X1_hasFrame_9, e_X1_hasFrame_12, e_X1_hasFrame_13, e_X1_hasFrame_16, e_X1_hasFrame_17, R.F, toL1, toL0, ite_self, if_true, if_false, ite_true, ite_false, nI_add, pk_mul, z_eq, z_lt, z_le, z_ge, z_gt, nI_eq, nI_leI, nI_ltI, bI_0, bI_1, not_true_eq_false, not_false_eq_true]
  by_cases h1 : x < 0
  · rw [if_pos h1, bI_f (fun z => Int32.not_le.mpr h1 z.1)]
  · rw [if_neg h1]
    by_cases h2 : nI (zF C) ≤ x
    · rw [if_pos h2, bI_f (fun z => Int32.not_le.mpr z.2 h2)]
    · rw [if_neg h2, bI_t ⟨Int32.not_lt.mp h1, Int32.not_le.mp h2⟩]
theorem c_hasView (hC : isC c) (R : RC h c C) (W : WC C) {x : Int32} : Ev E mX1_hasView 0 [.ref c, .int x] [] h Q = Q (some (.int (bI (hF x (zF C))))) h := by
  simp (disch := first | assumption | omega | exact isB_0 | exact isB_1 | exact isB_bI _ | decide) only [e_X1_hasView_0, e_X1_hasView_1, e_X1_hasView_2, e_X1_hasView_5, c_hasFrame hC R W, toL1, toL0, ite_self, if_true, if_false, ite_true, ite_false, nI_add, pk_mul, z_eq, z_lt, z_le, z_ge, z_gt, nI_eq, nI_leI, nI_ltI, bI_0, bI_1, not_true_eq_false, not_false_eq_true]
theorem c_worthOf (hC : isC c) (R : RC h c C) (W : WC C) {v : Nat} (hv : v < 8) : Ev E mX1_worthOf 0 [.ref c, .int (nI v)] [] h Q = Q (some (.int (nI (wor (zK C v) (zE C v) (zH C))))) h := by
  have hh := W.h
  simp (disch := first | assumption | omega | exact isB_0 | exact isB_1 | exact isB_bI _ | decide) only [e_X1_worthOf_0, e_X1_worthOf_1, e_X1_worthOf_4, e_X1_worthOf_5, e_X1_worthOf_6, e_X1_worthOf_7, e_X1_worthOf_10, e_X1_worthOf_11, e_X1_worthOf_12, e_X1_worthOf_13, e_X1_worthOf_16, e_X1_worthOf_19, R.K hv, R.E hv, R.H, s_worth (W.k hv) (W.e hv) (show zH C < 1000000 by omega), toL1, toL0, ite_self, if_true, if_false, ite_true, ite_false, nI_add, pk_mul, z_eq, z_lt, z_le, z_ge, z_gt, nI_eq, nI_leI, nI_ltI, bI_0, bI_1, not_true_eq_false, not_false_eq_true]
theorem c_soldFor (hC : isC c) (R : RC h c C) (W : WC C) {v : Nat} (hv : v < 8) : Ev E mX1_soldFor 0 [.ref c, .int (nI v)] [] h Q = Q (some (.int (nI (solW C v)))) h := by
  have hh := W.h
  simp (disch := first | assumption | omega | exact isB_0 | exact isB_1 | exact isB_bI _ | decide) only [e_X1_soldFor_0, e_X1_soldFor_1, e_X1_soldFor_4, e_X1_soldFor_5, e_X1_soldFor_6, e_X1_soldFor_7, e_X1_soldFor_10, e_X1_soldFor_11, e_X1_soldFor_12, e_X1_soldFor_13, e_X1_soldFor_16, e_X1_soldFor_19, R.K hv, R.E hv, R.H, s_sold (W.k hv) (W.e hv) (show zH C < 1000000 by omega), toL1, toL0, ite_self, if_true, if_false, ite_true, ite_false, nI_add, pk_mul, z_eq, z_lt, z_le, z_ge, z_gt, nI_eq, nI_leI, nI_ltI, bI_0, bI_1, not_true_eq_false, not_false_eq_true]
  rfl
theorem c_worthOutOf (hC : isC c) (R : RC h c C) (W : WC C) {f : Nat} (hf : f < zF C) : Ev E mX1_worthOutOf 0 [.ref c, .int (nI f)] [] h Q = Q (some (.int (nI (outW C f)))) h := by
  have h8 := W.f
  have hf8 : f < 8 := by omega
  have hu := W.u hf8
  have hv := W.v8 hf
  simp (disch := first | assumption | omega | exact isB_0 | exact isB_1 | exact isB_bI _ | decide) only [e_X1_worthOutOf_0, e_X1_worthOutOf_1, e_X1_worthOutOf_4, e_X1_worthOutOf_5, e_X1_worthOutOf_6, e_X1_worthOutOf_7, e_X1_worthOutOf_10, e_X1_worthOutOf_11, e_X1_worthOutOf_14, e_X1_worthOutOf_15, e_X1_worthOutOf_16, e_X1_worthOutOf_19, e_X1_worthOutOf_20, e_X1_worthOutOf_21, e_X1_worthOutOf_24, R.U hf8, R.V hf8, c_worthOf hC R W hv, toL1, toL0, ite_self, if_true, if_false, ite_true, ite_false, nI_add, pk_mul, z_eq, z_lt, z_le, z_ge, z_gt, nI_eq, nI_leI, nI_ltI, bI_0, bI_1, not_true_eq_false, not_false_eq_true]
  unfold outW
  by_cases h1 : zU C f = 1
  · rw [if_pos h1, if_pos h1]
  · rw [if_neg h1, if_neg h1]
theorem c_fsL (hC : isC c) (R : RC h c C) (W : WC C) {v : Nat} (hv : v < 8) : ∀ d f : Nat, f + d = zF C → Ev E mX1_frameShowing 4 [.ref c, .int (nI v), .int (nI (showN C v f)), .int (nI f)] [] h Q = Q (some (.int (nI (showN C v (zF C))))) h := by
  have h8 := W.f
  intro d
  induction d with
  | zero =>
    intro f e
    rw [e_X1_frameShowing_4]
    simp (disch := first | assumption | omega | exact isB_0 | exact isB_1 | exact isB_bI _ | decide) only [e_X1_frameShowing_0, e_X1_frameShowing_1, e_X1_frameShowing_2, e_X1_frameShowing_3, e_X1_frameShowing_5, e_X1_frameShowing_6, e_X1_frameShowing_9, e_X1_frameShowing_12, e_X1_frameShowing_13, e_X1_frameShowing_16, e_X1_frameShowing_17, e_X1_frameShowing_18, e_X1_frameShowing_19, e_X1_frameShowing_22, e_X1_frameShowing_23, e_X1_frameShowing_24, e_X1_frameShowing_27, e_X1_frameShowing_30, e_X1_frameShowing_31, R.F, toL1, toL0, ite_self, if_true, if_false, ite_true, ite_false, nI_add, pk_mul, z_eq, z_lt, z_le, z_ge, z_gt, nI_eq, nI_leI, nI_ltI, bI_0, bI_1, not_true_eq_false, not_false_eq_true]
    rw [if_pos (by omega), show f = zF C by omega]
  | succ d ih =>
    intro f e
    have hf8 : f < 8 := by omega
    have hv8 := W.v8 (show f < zF C by omega)
    have ih2 := ih (f + 1) (by omega)
    rw [e_X1_frameShowing_4]
    simp (disch := first | assumption | omega | exact isB_0 | exact isB_1 | exact isB_bI _ | decide) only [e_X1_frameShowing_0, e_X1_frameShowing_1, e_X1_frameShowing_2, e_X1_frameShowing_3, e_X1_frameShowing_5, e_X1_frameShowing_6, e_X1_frameShowing_9, e_X1_frameShowing_12, e_X1_frameShowing_13, e_X1_frameShowing_16, e_X1_frameShowing_17, e_X1_frameShowing_18, e_X1_frameShowing_19, e_X1_frameShowing_22, e_X1_frameShowing_23, e_X1_frameShowing_24, e_X1_frameShowing_27, e_X1_frameShowing_30, e_X1_frameShowing_31, R.F, R.V hf8, toL1, toL0, ite_self, if_true, if_false, ite_true, ite_false, nI_add, pk_mul, z_eq, z_lt, z_le, z_ge, z_gt, nI_eq, nI_leI, nI_ltI, bI_0, bI_1, not_true_eq_false, not_false_eq_true]
    rw [if_neg (by omega)]
    rw [showN] at ih2
    by_cases h1 : zV C f = v
    · rw [if_pos h1] at ih2 ⊢
      exact ih2
    · rw [if_neg h1] at ih2 ⊢
      exact ih2
theorem c_frameShowing (hC : isC c) (R : RC h c C) (W : WC C) {v : Nat} (hv : v < 8) : Ev E mX1_frameShowing 0 [.ref c, .int (nI v), .null, .null] [] h Q = Q (some (.int (nI (showN C v (zF C))))) h := by
  simp (disch := first | assumption | omega | exact isB_0 | exact isB_1 | exact isB_bI _ | decide) only [e_X1_frameShowing_0, e_X1_frameShowing_1, e_X1_frameShowing_2, e_X1_frameShowing_3, e_X1_frameShowing_5, e_X1_frameShowing_6, e_X1_frameShowing_9, e_X1_frameShowing_12, e_X1_frameShowing_13, e_X1_frameShowing_16, e_X1_frameShowing_17, e_X1_frameShowing_18, e_X1_frameShowing_19, e_X1_frameShowing_22, e_X1_frameShowing_23, e_X1_frameShowing_24, e_X1_frameShowing_27, e_X1_frameShowing_30, e_X1_frameShowing_31, toL1, toL0, ite_self, if_true, if_false, ite_true, ite_false, nI_add, pk_mul, z_eq, z_lt, z_le, z_ge, z_gt, nI_eq, nI_leI, nI_ltI, bI_0, bI_1, not_true_eq_false, not_false_eq_true]
  exact c_fsL hC R W hv (zF C) 0 (by omega)
theorem c_foL (hC : isC c) (R : RC h c C) (W : WC C) {o : Nat} (ho : o < 4) : ∀ d f : Nat, f + d = zF C → Ev E mX1_framesOwnedBy 4 [.ref c, .int (nI o), .int (setI (fun i => i) (fun i => decide (zO C i = o)) f), .int (nI f)] [] h Q = Q (some (.int (setI (fun i => i) (fun i => decide (zO C i = o)) (zF C)))) h := by
  have h8 := W.f
  intro d
  induction d with
  | zero =>
    intro f e
    rw [e_X1_framesOwnedBy_4]
    simp (disch := first | assumption | omega | exact isB_0 | exact isB_1 | exact isB_bI _ | decide) only [e_X1_framesOwnedBy_0, e_X1_framesOwnedBy_1, e_X1_framesOwnedBy_2, e_X1_framesOwnedBy_3, e_X1_framesOwnedBy_5, e_X1_framesOwnedBy_6, e_X1_framesOwnedBy_9, e_X1_framesOwnedBy_12, e_X1_framesOwnedBy_13, e_X1_framesOwnedBy_16, e_X1_framesOwnedBy_17, e_X1_framesOwnedBy_18, e_X1_framesOwnedBy_19, e_X1_framesOwnedBy_22, e_X1_framesOwnedBy_23, e_X1_framesOwnedBy_24, e_X1_framesOwnedBy_25, e_X1_framesOwnedBy_26, e_X1_framesOwnedBy_27, e_X1_framesOwnedBy_28, e_X1_framesOwnedBy_31, e_X1_framesOwnedBy_34, e_X1_framesOwnedBy_35, R.F, toL1, toL0, ite_self, if_true, if_false, ite_true, ite_false, nI_add, pk_mul, z_eq, z_lt, z_le, z_ge, z_gt, nI_eq, nI_leI, nI_ltI, bI_0, bI_1, not_true_eq_false, not_false_eq_true]
    rw [if_pos (by omega), show f = zF C by omega]
  | succ d ih =>
    intro f e
    have hf8 : f < 8 := by omega
    have ho8 := W.o hf8
    have ih2 := ih (f + 1) (by omega)
    rw [e_X1_framesOwnedBy_4]
    simp (disch := first | assumption | omega | exact isB_0 | exact isB_1 | exact isB_bI _ | decide) only [e_X1_framesOwnedBy_0, e_X1_framesOwnedBy_1, e_X1_framesOwnedBy_2, e_X1_framesOwnedBy_3, e_X1_framesOwnedBy_5, e_X1_framesOwnedBy_6, e_X1_framesOwnedBy_9, e_X1_framesOwnedBy_12, e_X1_framesOwnedBy_13, e_X1_framesOwnedBy_16, e_X1_framesOwnedBy_17, e_X1_framesOwnedBy_18, e_X1_framesOwnedBy_19, e_X1_framesOwnedBy_22, e_X1_framesOwnedBy_23, e_X1_framesOwnedBy_24, e_X1_framesOwnedBy_25, e_X1_framesOwnedBy_26, e_X1_framesOwnedBy_27, e_X1_framesOwnedBy_28, e_X1_framesOwnedBy_31, e_X1_framesOwnedBy_34, e_X1_framesOwnedBy_35, R.F, R.O hf8, toL1, toL0, ite_self, if_true, if_false, ite_true, ite_false, nI_add, pk_mul, z_eq, z_lt, z_le, z_ge, z_gt, nI_eq, nI_leI, nI_ltI, bI_0, bI_1, not_true_eq_false, not_false_eq_true]
    rw [if_neg (by omega)]
    rw [setI] at ih2
    by_cases h1 : zO C f = o
    · rw [if_pos (by simp [h1])] at ih2
      rw [if_pos h1]
      exact ih2
    · rw [if_neg (by simp [h1])] at ih2
      rw [if_neg h1]
      exact ih2
theorem c_framesOwnedBy (hC : isC c) (R : RC h c C) (W : WC C) {o : Nat} (ho : o < 4) : Ev E mX1_framesOwnedBy 0 [.ref c, .int (nI o), .null, .null] [] h Q = Q (some (.int (setI (fun i => i) (fun i => decide (zO C i = o)) (zF C)))) h := by
  simp (disch := first | assumption | omega | exact isB_0 | exact isB_1 | exact isB_bI _ | decide) only [e_X1_framesOwnedBy_0, e_X1_framesOwnedBy_1, e_X1_framesOwnedBy_2, e_X1_framesOwnedBy_3, e_X1_framesOwnedBy_5, e_X1_framesOwnedBy_6, e_X1_framesOwnedBy_9, e_X1_framesOwnedBy_12, e_X1_framesOwnedBy_13, e_X1_framesOwnedBy_16, e_X1_framesOwnedBy_17, e_X1_framesOwnedBy_18, e_X1_framesOwnedBy_19, e_X1_framesOwnedBy_22, e_X1_framesOwnedBy_23, e_X1_framesOwnedBy_24, e_X1_framesOwnedBy_25, e_X1_framesOwnedBy_26, e_X1_framesOwnedBy_27, e_X1_framesOwnedBy_28, e_X1_framesOwnedBy_31, e_X1_framesOwnedBy_34, e_X1_framesOwnedBy_35, toL1, toL0, ite_self, if_true, if_false, ite_true, ite_false, nI_add, pk_mul, z_eq, z_lt, z_le, z_ge, z_gt, nI_eq, nI_leI, nI_ltI, bI_0, bI_1, not_true_eq_false, not_false_eq_true]
  exact c_foL hC R W ho (zF C) 0 (by omega)
theorem c_voL (hC : isC c) (R : RC h c C) (W : WC C) {o : Nat} (ho : o < 4) : ∀ d f : Nat, f + d = zF C → Ev E mX1_viewsOwnedBy 4 [.ref c, .int (nI o), .int (setI (zV C) (fun i => decide (zO C i = o)) f), .int (nI f)] [] h Q = Q (some (.int (setI (zV C) (fun i => decide (zO C i = o)) (zF C)))) h := by
  have h8 := W.f
  intro d
  induction d with
  | zero =>
    intro f e
    rw [e_X1_viewsOwnedBy_4]
    simp (disch := first | assumption | omega | exact isB_0 | exact isB_1 | exact isB_bI _ | decide) only [e_X1_viewsOwnedBy_0, e_X1_viewsOwnedBy_1, e_X1_viewsOwnedBy_2, e_X1_viewsOwnedBy_3, e_X1_viewsOwnedBy_5, e_X1_viewsOwnedBy_6, e_X1_viewsOwnedBy_9, e_X1_viewsOwnedBy_12, e_X1_viewsOwnedBy_13, e_X1_viewsOwnedBy_16, e_X1_viewsOwnedBy_17, e_X1_viewsOwnedBy_18, e_X1_viewsOwnedBy_19, e_X1_viewsOwnedBy_22, e_X1_viewsOwnedBy_23, e_X1_viewsOwnedBy_24, e_X1_viewsOwnedBy_25, e_X1_viewsOwnedBy_28, e_X1_viewsOwnedBy_29, e_X1_viewsOwnedBy_30, e_X1_viewsOwnedBy_31, e_X1_viewsOwnedBy_32, e_X1_viewsOwnedBy_33, e_X1_viewsOwnedBy_36, e_X1_viewsOwnedBy_39, e_X1_viewsOwnedBy_40, R.F, toL1, toL0, ite_self, if_true, if_false, ite_true, ite_false, nI_add, pk_mul, z_eq, z_lt, z_le, z_ge, z_gt, nI_eq, nI_leI, nI_ltI, bI_0, bI_1, not_true_eq_false, not_false_eq_true]
    rw [if_pos (by omega), show f = zF C by omega]
  | succ d ih =>
    intro f e
    have hf8 : f < 8 := by omega
    have ho8 := W.o hf8
    have ih2 := ih (f + 1) (by omega)
    rw [e_X1_viewsOwnedBy_4]
    simp (disch := first | assumption | omega | exact isB_0 | exact isB_1 | exact isB_bI _ | decide) only [e_X1_viewsOwnedBy_0, e_X1_viewsOwnedBy_1, e_X1_viewsOwnedBy_2, e_X1_viewsOwnedBy_3, e_X1_viewsOwnedBy_5, e_X1_viewsOwnedBy_6, e_X1_viewsOwnedBy_9, e_X1_viewsOwnedBy_12, e_X1_viewsOwnedBy_13, e_X1_viewsOwnedBy_16, e_X1_viewsOwnedBy_17, e_X1_viewsOwnedBy_18, e_X1_viewsOwnedBy_19, e_X1_viewsOwnedBy_22, e_X1_viewsOwnedBy_23, e_X1_viewsOwnedBy_24, e_X1_viewsOwnedBy_25, e_X1_viewsOwnedBy_28, e_X1_viewsOwnedBy_29, e_X1_viewsOwnedBy_30, e_X1_viewsOwnedBy_31, e_X1_viewsOwnedBy_32, e_X1_viewsOwnedBy_33, e_X1_viewsOwnedBy_36, e_X1_viewsOwnedBy_39, e_X1_viewsOwnedBy_40, R.F, R.O hf8, R.V hf8, toL1, toL0, ite_self, if_true, if_false, ite_true, ite_false, nI_add, pk_mul, z_eq, z_lt, z_le, z_ge, z_gt, nI_eq, nI_leI, nI_ltI, bI_0, bI_1, not_true_eq_false, not_false_eq_true]
    rw [if_neg (by omega)]
    rw [setI] at ih2
    by_cases h1 : zO C f = o
    · rw [if_pos (by simp [h1])] at ih2
      rw [if_pos h1]
      exact ih2
    · rw [if_neg (by simp [h1])] at ih2
      rw [if_neg h1]
      exact ih2
theorem c_viewsOwnedBy (hC : isC c) (R : RC h c C) (W : WC C) {o : Nat} (ho : o < 4) : Ev E mX1_viewsOwnedBy 0 [.ref c, .int (nI o), .null, .null] [] h Q = Q (some (.int (setI (zV C) (fun i => decide (zO C i = o)) (zF C)))) h := by
  simp (disch := first | assumption | omega | exact isB_0 | exact isB_1 | exact isB_bI _ | decide) only [e_X1_viewsOwnedBy_0, e_X1_viewsOwnedBy_1, e_X1_viewsOwnedBy_2, e_X1_viewsOwnedBy_3, e_X1_viewsOwnedBy_5, e_X1_viewsOwnedBy_6, e_X1_viewsOwnedBy_9, e_X1_viewsOwnedBy_12, e_X1_viewsOwnedBy_13, e_X1_viewsOwnedBy_16, e_X1_viewsOwnedBy_17, e_X1_viewsOwnedBy_18, e_X1_viewsOwnedBy_19, e_X1_viewsOwnedBy_22, e_X1_viewsOwnedBy_23, e_X1_viewsOwnedBy_24, e_X1_viewsOwnedBy_25, e_X1_viewsOwnedBy_28, e_X1_viewsOwnedBy_29, e_X1_viewsOwnedBy_30, e_X1_viewsOwnedBy_31, e_X1_viewsOwnedBy_32, e_X1_viewsOwnedBy_33, e_X1_viewsOwnedBy_36, e_X1_viewsOwnedBy_39, e_X1_viewsOwnedBy_40, toL1, toL0, ite_self, if_true, if_false, ite_true, ite_false, nI_add, pk_mul, z_eq, z_lt, z_le, z_ge, z_gt, nI_eq, nI_leI, nI_ltI, bI_0, bI_1, not_true_eq_false, not_false_eq_true]
  exact c_voL hC R W ho (zF C) 0 (by omega)
theorem c_inL (hC : isC c) (R : RC h c C) (W : WC C) {o : Nat} (ho : o < 4) : ∀ d f : Nat, f + d = zF C → Ev E mX1_incomeOf 4 [.ref c, .int (nI o), .int (nI (sumN (fun i => if zO C i = o then outW C i else 0) f)), .int (nI f)] [] h Q = Q (some (.int (nI (sumN (fun i => if zO C i = o then outW C i else 0) (zF C))))) h := by
  have h8 := W.f
  intro d
  induction d with
  | zero =>
    intro f e
    rw [e_X1_incomeOf_4]
    simp (disch := first | assumption | omega | exact isB_0 | exact isB_1 | exact isB_bI _ | decide) only [e_X1_incomeOf_0, e_X1_incomeOf_1, e_X1_incomeOf_2, e_X1_incomeOf_3, e_X1_incomeOf_5, e_X1_incomeOf_6, e_X1_incomeOf_9, e_X1_incomeOf_12, e_X1_incomeOf_13, e_X1_incomeOf_16, e_X1_incomeOf_17, e_X1_incomeOf_18, e_X1_incomeOf_19, e_X1_incomeOf_22, e_X1_incomeOf_23, e_X1_incomeOf_24, e_X1_incomeOf_25, e_X1_incomeOf_28, e_X1_incomeOf_29, e_X1_incomeOf_30, e_X1_incomeOf_33, e_X1_incomeOf_36, e_X1_incomeOf_37, R.F, toL1, toL0, ite_self, if_true, if_false, ite_true, ite_false, nI_add, pk_mul, z_eq, z_lt, z_le, z_ge, z_gt, nI_eq, nI_leI, nI_ltI, bI_0, bI_1, not_true_eq_false, not_false_eq_true]
    rw [if_pos (by omega), show f = zF C by omega]
  | succ d ih =>
    intro f e
    have hf8 : f < 8 := by omega
    have ho8 := W.o hf8
    have ih2 := ih (f + 1) (by omega)
    rw [e_X1_incomeOf_4]
    simp (disch := first | assumption | omega | exact isB_0 | exact isB_1 | exact isB_bI _ | decide) only [e_X1_incomeOf_0, e_X1_incomeOf_1, e_X1_incomeOf_2, e_X1_incomeOf_3, e_X1_incomeOf_5, e_X1_incomeOf_6, e_X1_incomeOf_9, e_X1_incomeOf_12, e_X1_incomeOf_13, e_X1_incomeOf_16, e_X1_incomeOf_17, e_X1_incomeOf_18, e_X1_incomeOf_19, e_X1_incomeOf_22, e_X1_incomeOf_23, e_X1_incomeOf_24, e_X1_incomeOf_25, e_X1_incomeOf_28, e_X1_incomeOf_29, e_X1_incomeOf_30, e_X1_incomeOf_33, e_X1_incomeOf_36, e_X1_incomeOf_37, R.F, R.O hf8, c_worthOutOf hC R W (show f < zF C by omega), toL1, toL0, ite_self, if_true, if_false, ite_true, ite_false, nI_add, pk_mul, z_eq, z_lt, z_le, z_ge, z_gt, nI_eq, nI_leI, nI_ltI, bI_0, bI_1, not_true_eq_false, not_false_eq_true]
    rw [if_neg (by omega)]
    rw [sumN] at ih2
    by_cases h1 : zO C f = o
    · rw [if_pos h1] at ih2 ⊢
      exact ih2
    · rw [if_neg h1] at ih2 ⊢
      exact ih2
theorem c_incomeOf (hC : isC c) (R : RC h c C) (W : WC C) {o : Nat} (ho : o < 4) : Ev E mX1_incomeOf 0 [.ref c, .int (nI o), .null, .null] [] h Q = Q (some (.int (nI (sumN (fun i => if zO C i = o then outW C i else 0) (zF C))))) h := by
  simp (disch := first | assumption | omega | exact isB_0 | exact isB_1 | exact isB_bI _ | decide) only [e_X1_incomeOf_0, e_X1_incomeOf_1, e_X1_incomeOf_2, e_X1_incomeOf_3, e_X1_incomeOf_5, e_X1_incomeOf_6, e_X1_incomeOf_9, e_X1_incomeOf_12, e_X1_incomeOf_13, e_X1_incomeOf_16, e_X1_incomeOf_17, e_X1_incomeOf_18, e_X1_incomeOf_19, e_X1_incomeOf_22, e_X1_incomeOf_23, e_X1_incomeOf_24, e_X1_incomeOf_25, e_X1_incomeOf_28, e_X1_incomeOf_29, e_X1_incomeOf_30, e_X1_incomeOf_33, e_X1_incomeOf_36, e_X1_incomeOf_37, toL1, toL0, ite_self, if_true, if_false, ite_true, ite_false, nI_add, pk_mul, z_eq, z_lt, z_le, z_ge, z_gt, nI_eq, nI_leI, nI_ltI, bI_0, bI_1, not_true_eq_false, not_false_eq_true]
  exact c_inL hC R W ho (zF C) 0 (by omega)
theorem c_ahL (hC : isC c) (R : RC h c C) (W : WC C) : ∀ d f : Nat, f + d = zF C → Ev E mX1_framesAtHome 4 [.ref c, .int (setI (fun i => i) (fun i => decide (zV C i = i)) f), .int (nI f)] [] h Q = Q (some (.int (setI (fun i => i) (fun i => decide (zV C i = i)) (zF C)))) h := by
  have h8 := W.f
  intro d
  induction d with
  | zero =>
    intro f e
    rw [e_X1_framesAtHome_4]
    simp (disch := first | assumption | omega | exact isB_0 | exact isB_1 | exact isB_bI _ | decide) only [e_X1_framesAtHome_0, e_X1_framesAtHome_1, e_X1_framesAtHome_2, e_X1_framesAtHome_3, e_X1_framesAtHome_5, e_X1_framesAtHome_6, e_X1_framesAtHome_9, e_X1_framesAtHome_12, e_X1_framesAtHome_13, e_X1_framesAtHome_16, e_X1_framesAtHome_17, e_X1_framesAtHome_18, e_X1_framesAtHome_19, e_X1_framesAtHome_22, e_X1_framesAtHome_23, e_X1_framesAtHome_24, e_X1_framesAtHome_25, e_X1_framesAtHome_26, e_X1_framesAtHome_27, e_X1_framesAtHome_28, e_X1_framesAtHome_31, e_X1_framesAtHome_34, e_X1_framesAtHome_35, R.F, toL1, toL0, ite_self, if_true, if_false, ite_true, ite_false, nI_add, pk_mul, z_eq, z_lt, z_le, z_ge, z_gt, nI_eq, nI_leI, nI_ltI, bI_0, bI_1, not_true_eq_false, not_false_eq_true]
    rw [if_pos (by omega), show f = zF C by omega]
  | succ d ih =>
    intro f e
    have hf8 : f < 8 := by omega
    have hv8 := W.v8 (show f < zF C by omega)
    have ih2 := ih (f + 1) (by omega)
    rw [e_X1_framesAtHome_4]
    simp (disch := first | assumption | omega | exact isB_0 | exact isB_1 | exact isB_bI _ | decide) only [e_X1_framesAtHome_0, e_X1_framesAtHome_1, e_X1_framesAtHome_2, e_X1_framesAtHome_3, e_X1_framesAtHome_5, e_X1_framesAtHome_6, e_X1_framesAtHome_9, e_X1_framesAtHome_12, e_X1_framesAtHome_13, e_X1_framesAtHome_16, e_X1_framesAtHome_17, e_X1_framesAtHome_18, e_X1_framesAtHome_19, e_X1_framesAtHome_22, e_X1_framesAtHome_23, e_X1_framesAtHome_24, e_X1_framesAtHome_25, e_X1_framesAtHome_26, e_X1_framesAtHome_27, e_X1_framesAtHome_28, e_X1_framesAtHome_31, e_X1_framesAtHome_34, e_X1_framesAtHome_35, R.F, R.V hf8, toL1, toL0, ite_self, if_true, if_false, ite_true, ite_false, nI_add, pk_mul, z_eq, z_lt, z_le, z_ge, z_gt, nI_eq, nI_leI, nI_ltI, bI_0, bI_1, not_true_eq_false, not_false_eq_true]
    rw [if_neg (by omega)]
    rw [setI] at ih2
    by_cases h1 : zV C f = f
    · rw [if_pos (by simp [h1])] at ih2
      rw [if_pos h1]
      exact ih2
    · rw [if_neg (by simp [h1])] at ih2
      rw [if_neg h1]
      exact ih2
theorem c_framesAtHome (hC : isC c) (R : RC h c C) (W : WC C) : Ev E mX1_framesAtHome 0 [.ref c, .null, .null] [] h Q = Q (some (.int (setI (fun i => i) (fun i => decide (zV C i = i)) (zF C)))) h := by
  simp (disch := first | assumption | omega | exact isB_0 | exact isB_1 | exact isB_bI _ | decide) only [e_X1_framesAtHome_0, e_X1_framesAtHome_1, e_X1_framesAtHome_2, e_X1_framesAtHome_3, e_X1_framesAtHome_5, e_X1_framesAtHome_6, e_X1_framesAtHome_9, e_X1_framesAtHome_12, e_X1_framesAtHome_13, e_X1_framesAtHome_16, e_X1_framesAtHome_17, e_X1_framesAtHome_18, e_X1_framesAtHome_19, e_X1_framesAtHome_22, e_X1_framesAtHome_23, e_X1_framesAtHome_24, e_X1_framesAtHome_25, e_X1_framesAtHome_26, e_X1_framesAtHome_27, e_X1_framesAtHome_28, e_X1_framesAtHome_31, e_X1_framesAtHome_34, e_X1_framesAtHome_35, toL1, toL0, ite_self, if_true, if_false, ite_true, ite_false, nI_add, pk_mul, z_eq, z_lt, z_le, z_ge, z_gt, nI_eq, nI_leI, nI_ltI, bI_0, bI_1, not_true_eq_false, not_false_eq_true]
  exact c_ahL hC R W (zF C) 0 (by omega)
theorem c_maL (hC : isC c) (R : RC h c C) : ∀ d o : Nat, o + d = 4 → Ev E mX1_moneyInAll 4 [.ref c, .int (nI (sumN (zM C) o)), .int (nI o)] [] h Q = Q (some (.int (nI (sumN (zM C) 4)))) h := by
  intro d
  induction d with
  | zero =>
    intro o e
    rw [e_X1_moneyInAll_4]
    simp (disch := first | assumption | omega | exact isB_0 | exact isB_1 | exact isB_bI _ | decide) only [e_X1_moneyInAll_0, e_X1_moneyInAll_1, e_X1_moneyInAll_2, e_X1_moneyInAll_3, e_X1_moneyInAll_5, e_X1_moneyInAll_6, e_X1_moneyInAll_9, e_X1_moneyInAll_10, e_X1_moneyInAll_11, e_X1_moneyInAll_14, e_X1_moneyInAll_15, e_X1_moneyInAll_16, e_X1_moneyInAll_17, e_X1_moneyInAll_18, e_X1_moneyInAll_21, e_X1_moneyInAll_24, e_X1_moneyInAll_25, toL1, toL0, ite_self, if_true, if_false, ite_true, ite_false, nI_add, pk_mul, z_eq, z_lt, z_le, z_ge, z_gt, nI_eq, nI_leI, nI_ltI, bI_0, bI_1, not_true_eq_false, not_false_eq_true]
    rw [if_pos (by omega), show o = 4 by omega]
  | succ d ih =>
    intro o e
    have ih2 := ih (o + 1) (by omega)
    rw [e_X1_moneyInAll_4]
    simp (disch := first | assumption | omega | exact isB_0 | exact isB_1 | exact isB_bI _ | decide) only [e_X1_moneyInAll_0, e_X1_moneyInAll_1, e_X1_moneyInAll_2, e_X1_moneyInAll_3, e_X1_moneyInAll_5, e_X1_moneyInAll_6, e_X1_moneyInAll_9, e_X1_moneyInAll_10, e_X1_moneyInAll_11, e_X1_moneyInAll_14, e_X1_moneyInAll_15, e_X1_moneyInAll_16, e_X1_moneyInAll_17, e_X1_moneyInAll_18, e_X1_moneyInAll_21, e_X1_moneyInAll_24, e_X1_moneyInAll_25, R.M (show o < 4 by omega), toL1, toL0, ite_self, if_true, if_false, ite_true, ite_false, nI_add, pk_mul, z_eq, z_lt, z_le, z_ge, z_gt, nI_eq, nI_leI, nI_ltI, bI_0, bI_1, not_true_eq_false, not_false_eq_true]
    rw [if_neg (by omega)]
    exact ih2
theorem c_moneyInAll (hC : isC c) (R : RC h c C) : Ev E mX1_moneyInAll 0 [.ref c, .null, .null] [] h Q = Q (some (.int (nI (sumN (zM C) 4)))) h := by
  simp (disch := first | assumption | omega | exact isB_0 | exact isB_1 | exact isB_bI _ | decide) only [e_X1_moneyInAll_0, e_X1_moneyInAll_1, e_X1_moneyInAll_2, e_X1_moneyInAll_3, e_X1_moneyInAll_5, e_X1_moneyInAll_6, e_X1_moneyInAll_9, e_X1_moneyInAll_10, e_X1_moneyInAll_11, e_X1_moneyInAll_14, e_X1_moneyInAll_15, e_X1_moneyInAll_16, e_X1_moneyInAll_17, e_X1_moneyInAll_18, e_X1_moneyInAll_21, e_X1_moneyInAll_24, e_X1_moneyInAll_25, toL1, toL0, ite_self, if_true, if_false, ite_true, ite_false, nI_add, pk_mul, z_eq, z_lt, z_le, z_ge, z_gt, nI_eq, nI_leI, nI_ltI, bI_0, bI_1, not_true_eq_false, not_false_eq_true]
  exact c_maL hC R 4 0 (by omega)
theorem c_faL (hC : isC c) (R : RC h c C) (W : WC C) : ∀ d f : Nat, f + d = zF C → Ev E mX1_fineInAll 4 [.ref c, .int (nI (sumN (zE C) f)), .int (nI f)] [] h Q = Q (some (.int (nI (sumN (zE C) (zF C))))) h := by
  have h8 := W.f
  intro d
  induction d with
  | zero =>
    intro f e
    rw [e_X1_fineInAll_4]
    simp (disch := first | assumption | omega | exact isB_0 | exact isB_1 | exact isB_bI _ | decide) only [e_X1_fineInAll_0, e_X1_fineInAll_1, e_X1_fineInAll_2, e_X1_fineInAll_3, e_X1_fineInAll_5, e_X1_fineInAll_6, e_X1_fineInAll_9, e_X1_fineInAll_12, e_X1_fineInAll_13, e_X1_fineInAll_14, e_X1_fineInAll_17, e_X1_fineInAll_18, e_X1_fineInAll_19, e_X1_fineInAll_20, e_X1_fineInAll_21, e_X1_fineInAll_24, e_X1_fineInAll_27, e_X1_fineInAll_28, R.F, toL1, toL0, ite_self, if_true, if_false, ite_true, ite_false, nI_add, pk_mul, z_eq, z_lt, z_le, z_ge, z_gt, nI_eq, nI_leI, nI_ltI, bI_0, bI_1, not_true_eq_false, not_false_eq_true]
    rw [if_pos (by omega), show f = zF C by omega]
  | succ d ih =>
    intro f e
    have ih2 := ih (f + 1) (by omega)
    rw [e_X1_fineInAll_4]
    simp (disch := first | assumption | omega | exact isB_0 | exact isB_1 | exact isB_bI _ | decide) only [e_X1_fineInAll_0, e_X1_fineInAll_1, e_X1_fineInAll_2, e_X1_fineInAll_3, e_X1_fineInAll_5, e_X1_fineInAll_6, e_X1_fineInAll_9, e_X1_fineInAll_12, e_X1_fineInAll_13, e_X1_fineInAll_14, e_X1_fineInAll_17, e_X1_fineInAll_18, e_X1_fineInAll_19, e_X1_fineInAll_20, e_X1_fineInAll_21, e_X1_fineInAll_24, e_X1_fineInAll_27, e_X1_fineInAll_28, R.F, R.E (show f < 8 by omega), toL1, toL0, ite_self, if_true, if_false, ite_true, ite_false, nI_add, pk_mul, z_eq, z_lt, z_le, z_ge, z_gt, nI_eq, nI_leI, nI_ltI, bI_0, bI_1, not_true_eq_false, not_false_eq_true]
    rw [if_neg (by omega)]
    exact ih2
theorem c_fineInAll (hC : isC c) (R : RC h c C) (W : WC C) : Ev E mX1_fineInAll 0 [.ref c, .null, .null] [] h Q = Q (some (.int (nI (sumN (zE C) (zF C))))) h := by
  simp (disch := first | assumption | omega | exact isB_0 | exact isB_1 | exact isB_bI _ | decide) only [e_X1_fineInAll_0, e_X1_fineInAll_1, e_X1_fineInAll_2, e_X1_fineInAll_3, e_X1_fineInAll_5, e_X1_fineInAll_6, e_X1_fineInAll_9, e_X1_fineInAll_12, e_X1_fineInAll_13, e_X1_fineInAll_14, e_X1_fineInAll_17, e_X1_fineInAll_18, e_X1_fineInAll_19, e_X1_fineInAll_20, e_X1_fineInAll_21, e_X1_fineInAll_24, e_X1_fineInAll_27, e_X1_fineInAll_28, toL1, toL0, ite_self, if_true, if_false, ite_true, ite_false, nI_add, pk_mul, z_eq, z_lt, z_le, z_ge, z_gt, nI_eq, nI_leI, nI_ltI, bI_0, bI_1, not_true_eq_false, not_false_eq_true]
  exact c_faL hC R W (zF C) 0 (by omega)
theorem c_cdL (hC : isC c) (R : RC h c C) (W : WC C) : ∀ d f : Nat, f + d = zF C → Ev E mX1_curtainsDrawn 4 [.ref c, .int (nI (sumN (zU C) f)), .int (nI f)] [] h Q = Q (some (.int (nI (sumN (zU C) (zF C))))) h := by
  have h8 := W.f
  intro d
  induction d with
  | zero =>
    intro f e
    rw [e_X1_curtainsDrawn_4]
    simp (disch := first | assumption | omega | exact isB_0 | exact isB_1 | exact isB_bI _ | decide) only [e_X1_curtainsDrawn_0, e_X1_curtainsDrawn_1, e_X1_curtainsDrawn_2, e_X1_curtainsDrawn_3, e_X1_curtainsDrawn_5, e_X1_curtainsDrawn_6, e_X1_curtainsDrawn_9, e_X1_curtainsDrawn_12, e_X1_curtainsDrawn_13, e_X1_curtainsDrawn_14, e_X1_curtainsDrawn_17, e_X1_curtainsDrawn_18, e_X1_curtainsDrawn_19, e_X1_curtainsDrawn_20, e_X1_curtainsDrawn_21, e_X1_curtainsDrawn_24, e_X1_curtainsDrawn_27, e_X1_curtainsDrawn_28, R.F, toL1, toL0, ite_self, if_true, if_false, ite_true, ite_false, nI_add, pk_mul, z_eq, z_lt, z_le, z_ge, z_gt, nI_eq, nI_leI, nI_ltI, bI_0, bI_1, not_true_eq_false, not_false_eq_true]
    rw [if_pos (by omega), show f = zF C by omega]
  | succ d ih =>
    intro f e
    have ih2 := ih (f + 1) (by omega)
    rw [e_X1_curtainsDrawn_4]
    simp (disch := first | assumption | omega | exact isB_0 | exact isB_1 | exact isB_bI _ | decide) only [e_X1_curtainsDrawn_0, e_X1_curtainsDrawn_1, e_X1_curtainsDrawn_2, e_X1_curtainsDrawn_3, e_X1_curtainsDrawn_5, e_X1_curtainsDrawn_6, e_X1_curtainsDrawn_9, e_X1_curtainsDrawn_12, e_X1_curtainsDrawn_13, e_X1_curtainsDrawn_14, e_X1_curtainsDrawn_17, e_X1_curtainsDrawn_18, e_X1_curtainsDrawn_19, e_X1_curtainsDrawn_20, e_X1_curtainsDrawn_21, e_X1_curtainsDrawn_24, e_X1_curtainsDrawn_27, e_X1_curtainsDrawn_28, R.F, R.U (show f < 8 by omega), toL1, toL0, ite_self, if_true, if_false, ite_true, ite_false, nI_add, pk_mul, z_eq, z_lt, z_le, z_ge, z_gt, nI_eq, nI_leI, nI_ltI, bI_0, bI_1, not_true_eq_false, not_false_eq_true]
    rw [if_neg (by omega)]
    exact ih2
theorem c_curtainsDrawn (hC : isC c) (R : RC h c C) (W : WC C) : Ev E mX1_curtainsDrawn 0 [.ref c, .null, .null] [] h Q = Q (some (.int (nI (sumN (zU C) (zF C))))) h := by
  simp (disch := first | assumption | omega | exact isB_0 | exact isB_1 | exact isB_bI _ | decide) only [e_X1_curtainsDrawn_0, e_X1_curtainsDrawn_1, e_X1_curtainsDrawn_2, e_X1_curtainsDrawn_3, e_X1_curtainsDrawn_5, e_X1_curtainsDrawn_6, e_X1_curtainsDrawn_9, e_X1_curtainsDrawn_12, e_X1_curtainsDrawn_13, e_X1_curtainsDrawn_14, e_X1_curtainsDrawn_17, e_X1_curtainsDrawn_18, e_X1_curtainsDrawn_19, e_X1_curtainsDrawn_20, e_X1_curtainsDrawn_21, e_X1_curtainsDrawn_24, e_X1_curtainsDrawn_27, e_X1_curtainsDrawn_28, toL1, toL0, ite_self, if_true, if_false, ite_true, ite_false, nI_add, pk_mul, z_eq, z_lt, z_le, z_ge, z_gt, nI_eq, nI_leI, nI_ltI, bI_0, bI_1, not_true_eq_false, not_false_eq_true]
  exact c_cdL hC R W (zF C) 0 (by omega)
theorem xc1 {c i : Nat} (hi : i ≤ 6) : Xc c (c + i) := ⟨by omega, by omega⟩
theorem xc0 {c : Nat} : Xc c c := ⟨by omega, by omega⟩
theorem c_swapViews (hC : isC c) (R : RC h c C) {a b : Nat} (ha : a < 8) (hb : b < 8) (K : ∀ h', RC h' c (swpC C a b) → Fr (Xc c) h h' → Q none h') : Ev E mX1_swapViews 0 [.ref c, .int (nI a), .int (nI b), .null] [] h Q := by
  simp (disch := first | assumption | omega | exact isB_0 | exact isB_1 | exact isB_bI _ | decide) only [e_X1_swapViews_0, e_X1_swapViews_1, e_X1_swapViews_4, e_X1_swapViews_5, e_X1_swapViews_6, e_X1_swapViews_7, e_X1_swapViews_8, e_X1_swapViews_11, e_X1_swapViews_12, e_X1_swapViews_13, e_X1_swapViews_16, e_X1_swapViews_17, e_X1_swapViews_18, e_X1_swapViews_19, e_X1_swapViews_20, e_X1_swapViews_23, e_X1_swapViews_24, e_X1_swapViews_25, e_X1_swapViews_26, R.V ha, R.V hb, toL1, toL0, ite_self, if_true, if_false, ite_true, ite_false, nI_add, pk_mul, z_eq, z_lt, z_le, z_ge, z_gt, nI_eq, nI_leI, nI_ltI, bI_0, bI_1, not_true_eq_false, not_false_eq_true]
  exact K _ ((R.setV a (zV C b)).setV b (zV C a)) ((Fr.sA (xc1 (by omega))).tr (Fr.sA (xc1 (by omega))))
theorem c_addFrame (hC : isC c) (R : RC h c C) {k o : Nat} (hf : zF C < 8) (K : ∀ h', RC h' c (addC C k o) → Fr (Xc c) h h' → Q (some (.int (nI (zF C)))) h') : Ev E mX1_addFrame 0 [.ref c, .int (nI k), .int (nI o), .null] [] h Q := by
  simp (disch := first | assumption | omega | exact isB_0 | exact isB_1 | exact isB_bI _ | decide) only [e_X1_addFrame_0, e_X1_addFrame_1, e_X1_addFrame_4, e_X1_addFrame_5, e_X1_addFrame_6, e_X1_addFrame_9, e_X1_addFrame_10, e_X1_addFrame_11, e_X1_addFrame_12, e_X1_addFrame_13, e_X1_addFrame_16, e_X1_addFrame_17, e_X1_addFrame_18, e_X1_addFrame_19, e_X1_addFrame_20, e_X1_addFrame_23, e_X1_addFrame_24, e_X1_addFrame_25, e_X1_addFrame_26, e_X1_addFrame_27, e_X1_addFrame_30, e_X1_addFrame_31, e_X1_addFrame_32, e_X1_addFrame_33, e_X1_addFrame_34, e_X1_addFrame_37, e_X1_addFrame_38, e_X1_addFrame_40, e_X1_addFrame_41, e_X1_addFrame_42, e_X1_addFrame_43, e_X1_addFrame_44, e_X1_addFrame_45, e_X1_addFrame_48, e_X1_addFrame_49, R.F, toL1, toL0, ite_self, if_true, if_false, ite_true, ite_false, nI_add, pk_mul, z_eq, z_lt, z_le, z_ge, z_gt, nI_eq, nI_leI, nI_ltI, bI_0, bI_1, not_true_eq_false, not_false_eq_true]
  exact K _ ((((((R.setO _ o).setU _ 0).setV _ (zF C)).setK _ k).setE _ 10).setF (zF C + 1)) ((((((Fr.sA (xc1 (by omega))).tr (Fr.sA (xc1 (by omega)))).tr (Fr.sA (xc1 (by omega)))).tr (Fr.sA (xc1 (by omega)))).tr (Fr.sA (xc1 (by omega)))).tr (Fr.sI xc0))
end CITY
