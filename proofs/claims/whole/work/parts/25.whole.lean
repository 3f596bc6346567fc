/-! everything there is, as numbers; what both sides hold of it -/
abbrev Sy : Type := Cty × Option Cty × (Nat → Int32) × Nat × (Nat → Nat) × (Nat → Nat) × (Nat → Nat) × (Nat → Nat → Int64)
def yC (S : Sy) : Cty := S.1
def yK (S : Sy) : Option Cty := S.2.1
def yT (S : Sy) : Nat → Int32 := S.2.2.1
def yL (S : Sy) : Nat := S.2.2.2.1
def yB (S : Sy) : Nat → Nat := S.2.2.2.2.1
def yW (S : Sy) : Nat → Nat := S.2.2.2.2.2.1
def yZ (S : Sy) : Nat → Nat := S.2.2.2.2.2.2.1
def yN (S : Sy) : Nat → Nat → Int64 := S.2.2.2.2.2.2.2
def ysC (S : Sy) (x : Cty) : Sy := (x, yK S, yT S, yL S, yB S, yW S, yZ S, yN S)
def ysK (S : Sy) (x : Option Cty) : Sy := (yC S, x, yT S, yL S, yB S, yW S, yZ S, yN S)
def ysT (S : Sy) (x : Nat → Int32) : Sy := (yC S, yK S, x, yL S, yB S, yW S, yZ S, yN S)
def ysL (S : Sy) (x : Nat) : Sy := (yC S, yK S, yT S, x, yB S, yW S, yZ S, yN S)
def ysB (S : Sy) (x : Nat → Nat) : Sy := (yC S, yK S, yT S, yL S, x, yW S, yZ S, yN S)
def ysW (S : Sy) (x : Nat → Nat) : Sy := (yC S, yK S, yT S, yL S, yB S, x, yZ S, yN S)
def ysZ (S : Sy) (x : Nat → Nat) : Sy := (yC S, yK S, yT S, yL S, yB S, yW S, x, yN S)
def ysN (S : Sy) (x : Nat → Nat → Int64) : Sy := (yC S, yK S, yT S, yL S, yB S, yW S, yZ S, x)
theorem yC_ysC {S : Sy} {x : Cty} : yC (ysC S x) = x := rfl
theorem yK_ysC {S : Sy} {x : Cty} : yK (ysC S x) = yK S := rfl
theorem yT_ysC {S : Sy} {x : Cty} : yT (ysC S x) = yT S := rfl
theorem yL_ysC {S : Sy} {x : Cty} : yL (ysC S x) = yL S := rfl
theorem yB_ysC {S : Sy} {x : Cty} : yB (ysC S x) = yB S := rfl
theorem yW_ysC {S : Sy} {x : Cty} : yW (ysC S x) = yW S := rfl
theorem yZ_ysC {S : Sy} {x : Cty} : yZ (ysC S x) = yZ S := rfl
theorem yN_ysC {S : Sy} {x : Cty} : yN (ysC S x) = yN S := rfl
theorem yC_ysK {S : Sy} {x : Option Cty} : yC (ysK S x) = yC S := rfl
theorem yK_ysK {S : Sy} {x : Option Cty} : yK (ysK S x) = x := rfl
theorem yT_ysK {S : Sy} {x : Option Cty} : yT (ysK S x) = yT S := rfl
theorem yL_ysK {S : Sy} {x : Option Cty} : yL (ysK S x) = yL S := rfl
theorem yB_ysK {S : Sy} {x : Option Cty} : yB (ysK S x) = yB S := rfl
theorem yW_ysK {S : Sy} {x : Option Cty} : yW (ysK S x) = yW S := rfl
theorem yZ_ysK {S : Sy} {x : Option Cty} : yZ (ysK S x) = yZ S := rfl
theorem yN_ysK {S : Sy} {x : Option Cty} : yN (ysK S x) = yN S := rfl
theorem yC_ysT {S : Sy} {x : Nat → Int32} : yC (ysT S x) = yC S := rfl
theorem yK_ysT {S : Sy} {x : Nat → Int32} : yK (ysT S x) = yK S := rfl
theorem yT_ysT {S : Sy} {x : Nat → Int32} : yT (ysT S x) = x := rfl
theorem yL_ysT {S : Sy} {x : Nat → Int32} : yL (ysT S x) = yL S := rfl
theorem yB_ysT {S : Sy} {x : Nat → Int32} : yB (ysT S x) = yB S := rfl
theorem yW_ysT {S : Sy} {x : Nat → Int32} : yW (ysT S x) = yW S := rfl
theorem yZ_ysT {S : Sy} {x : Nat → Int32} : yZ (ysT S x) = yZ S := rfl
theorem yN_ysT {S : Sy} {x : Nat → Int32} : yN (ysT S x) = yN S := rfl
theorem yC_ysL {S : Sy} {x : Nat} : yC (ysL S x) = yC S := rfl
theorem yK_ysL {S : Sy} {x : Nat} : yK (ysL S x) = yK S := rfl
theorem yT_ysL {S : Sy} {x : Nat} : yT (ysL S x) = yT S := rfl
theorem yL_ysL {S : Sy} {x : Nat} : yL (ysL S x) = x := rfl
theorem yB_ysL {S : Sy} {x : Nat} : yB (ysL S x) = yB S := rfl
theorem yW_ysL {S : Sy} {x : Nat} : yW (ysL S x) = yW S := rfl
theorem yZ_ysL {S : Sy} {x : Nat} : yZ (ysL S x) = yZ S := rfl
theorem yN_ysL {S : Sy} {x : Nat} : yN (ysL S x) = yN S := rfl
theorem yC_ysB {S : Sy} {x : Nat → Nat} : yC (ysB S x) = yC S := rfl
theorem yK_ysB {S : Sy} {x : Nat → Nat} : yK (ysB S x) = yK S := rfl
theorem yT_ysB {S : Sy} {x : Nat → Nat} : yT (ysB S x) = yT S := rfl
theorem yL_ysB {S : Sy} {x : Nat → Nat} : yL (ysB S x) = yL S := rfl
theorem yB_ysB {S : Sy} {x : Nat → Nat} : yB (ysB S x) = x := rfl
theorem yW_ysB {S : Sy} {x : Nat → Nat} : yW (ysB S x) = yW S := rfl
theorem yZ_ysB {S : Sy} {x : Nat → Nat} : yZ (ysB S x) = yZ S := rfl
theorem yN_ysB {S : Sy} {x : Nat → Nat} : yN (ysB S x) = yN S := rfl
theorem yC_ysW {S : Sy} {x : Nat → Nat} : yC (ysW S x) = yC S := rfl
theorem yK_ysW {S : Sy} {x : Nat → Nat} : yK (ysW S x) = yK S := rfl
theorem yT_ysW {S : Sy} {x : Nat → Nat} : yT (ysW S x) = yT S := rfl
theorem yL_ysW {S : Sy} {x : Nat → Nat} : yL (ysW S x) = yL S := rfl
theorem yB_ysW {S : Sy} {x : Nat → Nat} : yB (ysW S x) = yB S := rfl
theorem yW_ysW {S : Sy} {x : Nat → Nat} : yW (ysW S x) = x := rfl
theorem yZ_ysW {S : Sy} {x : Nat → Nat} : yZ (ysW S x) = yZ S := rfl
theorem yN_ysW {S : Sy} {x : Nat → Nat} : yN (ysW S x) = yN S := rfl
theorem yC_ysZ {S : Sy} {x : Nat → Nat} : yC (ysZ S x) = yC S := rfl
theorem yK_ysZ {S : Sy} {x : Nat → Nat} : yK (ysZ S x) = yK S := rfl
theorem yT_ysZ {S : Sy} {x : Nat → Nat} : yT (ysZ S x) = yT S := rfl
theorem yL_ysZ {S : Sy} {x : Nat → Nat} : yL (ysZ S x) = yL S := rfl
theorem yB_ysZ {S : Sy} {x : Nat → Nat} : yB (ysZ S x) = yB S := rfl
theorem yW_ysZ {S : Sy} {x : Nat → Nat} : yW (ysZ S x) = yW S := rfl
theorem yZ_ysZ {S : Sy} {x : Nat → Nat} : yZ (ysZ S x) = x := rfl
theorem yN_ysZ {S : Sy} {x : Nat → Nat} : yN (ysZ S x) = yN S := rfl
theorem yC_ysN {S : Sy} {x : Nat → Nat → Int64} : yC (ysN S x) = yC S := rfl
theorem yK_ysN {S : Sy} {x : Nat → Nat → Int64} : yK (ysN S x) = yK S := rfl
theorem yT_ysN {S : Sy} {x : Nat → Nat → Int64} : yT (ysN S x) = yT S := rfl
theorem yL_ysN {S : Sy} {x : Nat → Nat → Int64} : yL (ysN S x) = yL S := rfl
theorem yB_ysN {S : Sy} {x : Nat → Nat → Int64} : yB (ysN S x) = yB S := rfl
theorem yW_ysN {S : Sy} {x : Nat → Nat → Int64} : yW (ysN S x) = yW S := rfl
theorem yZ_ysN {S : Sy} {x : Nat → Nat → Int64} : yZ (ysN S x) = yZ S := rfl
theorem yN_ysN {S : Sy} {x : Nat → Nat → Int64} : yN (ysN S x) = x := rfl
def oB (k : Option Cty) : Nat := match k with
  | none => 0
  | some _ => 1
theorem oB_n : oB none = 0 := rfl
theorem oB_s {D : Cty} : oB (some D) = 1 := rfl
def updT (f : Nat → Int32) (k : Nat) (x : Int32) : Nat → Int32 := fun j => if j = k then x else f j
/-- this side -/
def RV (h : Hp) (S : Sy) : Prop := RC h 1 (yC S) ∧ gI h 0 3 = nI (oB (yK S)) ∧ (∀ D, yK S = some D → RC h 15 D) ∧ (∀ j, j < 7 → gA h 33 j = yT S j) ∧ gI h 22 1 = nI (yL S) ∧ (∀ i, i < yL S → gA h 23 i = nI (yB S i)) ∧ (∀ s, s < 4 → gI h (25 + s) 0 = nI (yW S s)) ∧ (∀ s, s < 4 → gI h (25 + s) 1 = nI (yZ S s)) ∧ (∀ s i, s < 4 → i < 40 → gL h (29 + s) i = yN S s i)
/-- that side -/
def RM (h : Hp) (S : Sy) : Prop := RR h 37 (yC S) ∧ gI h 36 3 = nI (oB (yK S)) ∧ (∀ D, yK S = some D → RR h 38 D) ∧ (∀ j, j < 7 → gA h 40 j = yT S j) ∧ gI h 36 6 = nI (yL S) ∧ (∀ i, i < yL S → gA h 41 i = nI (yB S i)) ∧ (∀ s, s < 4 → gA h 42 s = nI (yW S s)) ∧ (∀ s, s < 4 → gA h 43 s = nI (yZ S s)) ∧ (∀ s i, s < 4 → i < 40 → gL h 44 (40 * s + i) = yN S s i)
theorem RV.ci {h : Hp} {S : Sy} (R : RV h S) : RC h 1 (yC S) := R.1
theorem RM.ci {h : Hp} {S : Sy} (R : RM h S) : RR h 37 (yC S) := R.1
def Xv : Nat → Prop := fun o => (1 ≤ o ∧ o ≤ 14) ∨ o = 34 ∨ o = 35
def Xw : Nat → Prop := fun o => o = 37 ∨ o = 39
def lowC : Nat → Prop := fun o => o < 36
def hiC : Nat → Prop := fun o => 36 ≤ o
theorem RV.city {h h' : Hp} {S : Sy} {C : Cty} (R : RV h S) (c : RC h' 1 C) (F : Fr Xv h h') : RV h' (ysC S C) := by
  obtain ⟨r1, r2, r3, r4, r5, r6, r7, r8, r9⟩ := R
  refine ⟨c, ?_, fun D hD => (r3 D hD).fr F (fun q h1 h2 => by unfold Xv; omega), fun j hj => ?_, ?_, fun i hi => ?_, fun s hs => ?_, fun s hs => ?_, fun s i hs hi => ?_⟩
  · exact ((F 0 (by unfold Xv; omega)).1 3).trans r2
  · rw [(F 33 (by unfold Xv; omega)).2.1]; exact r4 j hj
  · exact ((F 22 (by unfold Xv; omega)).1 1).trans r5
  · rw [(F 23 (by unfold Xv; omega)).2.1]; exact r6 i hi
  · exact ((F (25 + s) (by unfold Xv; omega)).1 0).trans (r7 s hs)
  · exact ((F (25 + s) (by unfold Xv; omega)).1 1).trans (r8 s hs)
  · rw [(F (29 + s) (by unfold Xv; omega)).2.2]; exact r9 s i hs hi
theorem RM.city {h h' : Hp} {S : Sy} {C : Cty} (R : RM h S) (c : RR h' 37 C) (F : Fr Xw h h') : RM h' (ysC S C) := by
  obtain ⟨r1, r2, r3, r4, r5, r6, r7, r8, r9⟩ := R
  refine ⟨c, ?_, fun D hD => (r3 D hD).fr F (by unfold Xw; omega), fun j hj => ?_, ?_, fun i hi => ?_, fun s hs => ?_, fun s hs => ?_, fun s i hs hi => ?_⟩
  · exact ((F 36 (by unfold Xw; omega)).1 3).trans r2
  · rw [(F 40 (by unfold Xw; omega)).2.1]; exact r4 j hj
  · exact ((F 36 (by unfold Xw; omega)).1 6).trans r5
  · rw [(F 41 (by unfold Xw; omega)).2.1]; exact r6 i hi
  · rw [(F 42 (by unfold Xw; omega)).2.1]; exact r7 s hs
  · rw [(F 43 (by unfold Xw; omega)).2.1]; exact r8 s hs
  · rw [(F 44 (by unfold Xw; omega)).2.2]; exact r9 s i hs hi
theorem RV.keep {h h' : Hp} {S : Sy} (R : RV h S) (F : Fr hiC h h') : RV h' S := by
  obtain ⟨r1, r2, r3, r4, r5, r6, r7, r8, r9⟩ := R
  refine ⟨r1.fr F (fun q h1 h2 => by unfold hiC; omega), ?_, fun D hD => (r3 D hD).fr F (fun q h1 h2 => by unfold hiC; omega), fun j hj => ?_, ?_, fun i hi => ?_, fun s hs => ?_, fun s hs => ?_, fun s i hs hi => ?_⟩
  · exact ((F 0 (by unfold hiC; omega)).1 3).trans r2
  · rw [(F 33 (by unfold hiC; omega)).2.1]; exact r4 j hj
  · exact ((F 22 (by unfold hiC; omega)).1 1).trans r5
  · rw [(F 23 (by unfold hiC; omega)).2.1]; exact r6 i hi
  · exact ((F (25 + s) (by unfold hiC; omega)).1 0).trans (r7 s hs)
  · exact ((F (25 + s) (by unfold hiC; omega)).1 1).trans (r8 s hs)
  · rw [(F (29 + s) (by unfold hiC; omega)).2.2]; exact r9 s i hs hi
theorem RM.keep {h h' : Hp} {S : Sy} (R : RM h S) (F : Fr lowC h h') : RM h' S := by
  obtain ⟨r1, r2, r3, r4, r5, r6, r7, r8, r9⟩ := R
  refine ⟨r1.fr F (by unfold lowC; omega), ?_, fun D hD => (r3 D hD).fr F (by unfold lowC; omega), fun j hj => ?_, ?_, fun i hi => ?_, fun s hs => ?_, fun s hs => ?_, fun s i hs hi => ?_⟩
  · exact ((F 36 (by unfold lowC; omega)).1 3).trans r2
  · rw [(F 40 (by unfold lowC; omega)).2.1]; exact r4 j hj
  · exact ((F 36 (by unfold lowC; omega)).1 6).trans r5
  · rw [(F 41 (by unfold lowC; omega)).2.1]; exact r6 i hi
  · rw [(F 42 (by unfold lowC; omega)).2.1]; exact r7 s hs
  · rw [(F 43 (by unfold lowC; omega)).2.1]; exact r8 s hs
  · rw [(F 44 (by unfold lowC; omega)).2.2]; exact r9 s i hs hi
theorem RV.self {h h' : Hp} {S : Sy} (R : RV h S) (F : Fr Xv h h') (c : RC h' 1 (yC S)) : RV h' S := R.city c F
theorem RM.self {h h' : Hp} {S : Sy} (R : RM h S) (F : Fr Xw h h') (c : RR h' 37 (yC S)) : RM h' S := R.city c F
/-- an answer that is a finding -/
def bad (j : Nat) (S : Sy) : Int32 × Sy := (-1000000001 - nI j, ysT S (updT (yT S) j (yT S j + nI 1)))
theorem updT_upd {f : Nat → Int32} {k : Nat} {x : Int32} : upd f k x = updT f k x := rfl
theorem RV.told {h : Hp} {S : Sy} (R : RV h S) {j : Nat} : RV (sA h 33 (upd (gA h 33) j (yT S j + nI 1))) (bad j S).2 := by
  obtain ⟨r1, r2, r3, r4, r5, r6, r7, r8, r9⟩ := R
  have F : Fr (fun o => o = 33) h (sA h 33 (upd (gA h 33) j (yT S j + nI 1))) := Fr.sA rfl
  refine ⟨r1.fr F (fun q h1 h2 => by omega), r2, fun D hD => (r3 D hD).fr F (fun q h1 h2 => by omega), fun i hi => ?_, r5, fun i hi => ?_, r7, r8, r9⟩
  · rw [gA_sA, if_pos rfl]
    show (if i = j then _ else _) = (if i = j then _ else _)
    split
    · rfl
    · exact r4 i hi
  · rw [gA_sA, if_neg (by decide)]; exact r6 i hi
theorem RM.told {h : Hp} {S : Sy} (R : RM h S) {j : Nat} : RM (sA h 40 (upd (gA h 40) j (yT S j + nI 1))) (bad j S).2 := by
  obtain ⟨r1, r2, r3, r4, r5, r6, r7, r8, r9⟩ := R
  have F : Fr (fun o => o = 40) h (sA h 40 (upd (gA h 40) j (yT S j + nI 1))) := Fr.sA rfl
  refine ⟨r1.fr F (by decide), r2, fun D hD => (r3 D hD).fr F (by decide), fun i hi => ?_, r5, fun i hi => ?_, fun s hs => ?_, fun s hs => ?_, r9⟩
  · rw [gA_sA, if_pos rfl]
    show (if i = j then _ else _) = (if i = j then _ else _)
    split
    · rfl
    · exact r4 i hi
  · rw [gA_sA, if_neg (by decide)]; exact r6 i hi
  · rw [gA_sA, if_neg (by decide)]; exact r7 s hs
  · rw [gA_sA, if_neg (by decide)]; exact r8 s hs
/-- all as it may be -/
def WS (S : Sy) : Prop := WC (yC S) ∧ zH (yC S) ≤ 99999 ∧ (∀ D, yK S = some D → WC D ∧ zH D ≤ 99999) ∧ yL S ≤ 120 ∧ (∀ i, i < yL S → yB S i ≤ 255) ∧ (∀ s, s < 4 → yW S s = 0 ∨ yW S s = 8 ∨ yW S s = 16 ∨ yW S s = 64) ∧ (∀ s, s < 4 → yZ S s ≤ 40)
def nv (v : Int32) : Nat := v.toInt.toNat
theorem nv_nI {j : Nat} (hj : j < 2 ^ 31) : nv (nI j) = j := by
  unfold nv
  rw [nI_toInt hj]
  rfl
def Vo (h : Hp) (Q : Option Value → Hp → Prop) (p : Int32 × Sy) : Prop := ∀ h', RV h' p.2 → Fr lowC h h' → Q (some (.int p.1)) h'
def Mo (h : Hp) (Q : Option Value → Hp → Prop) (p : Int32 × Sy) : Prop := ∀ h', RM h' p.2 → Fr hiC h h' → Q (some (.int p.1)) h'
theorem W_bad {S : Sy} (W : WS S) (j : Nat) : WS (bad j S).2 := W
theorem xvl {o : Nat} (hx : Xv o) : lowC o := by
  unfold Xv at hx
  unfold lowC
  omega
theorem xwh {o : Nat} (hx : Xw o) : hiC o := by
  unfold Xw at hx
  unfold hiC
  omega
section WHOLE
variable {E : En} {h : Hp} {Q : Option Value → Hp → Prop} {S : Sy}
theorem v_tell (R : RV h S) {j : Nat} (hj : j < 7) : Ev E mX5_tell 0 [.ref 0, .int (nI j)] [] h Q = Q (some (.int (-1000000001 - nI j))) (sA h 33 (upd (gA h 33) j (yT S j + nI 1))) := by
  have r := R.2.2.2.1 j hj
  simp (disch := first | assumption | omega | exact isB_0 | exact isB_1 | exact isB_bI _ | decide) only [e_X5_tell_0, e_X5_tell_1, e_X5_tell_4, e_X5_tell_5, e_X5_tell_6, e_X5_tell_7, e_X5_tell_8, e_X5_tell_9, e_X5_tell_10, e_X5_tell_12, e_X5_tell_13, e_X5_tell_14, r, toL1, toL0, ite_self, if_true, if_false, ite_true, ite_false, nI_add, pk_mul, z_eq, z_lt, z_le, z_ge, z_gt, nI_eq, nI_leI, nI_ltI, bI_0, bI_1, not_true_eq_false, not_false_eq_true]

theorem m_f0 (R : RM h S) : Ev E mX6_finds 0 [.ref 36, .int (-1000000001)] [] h Q = Q (some (.int (-1000000001 - nI 0))) (sA h 40 (upd (gA h 40) 0 (yT S 0 + nI 1))) := by
  have r := R.2.2.2.1 0 (by decide)
  have k : (-1000000001 : Int32) - (-1000000001) = nI 0 := by decide
  have k2 : (-1000000001 : Int32) = -1000000001 - nI 0 := by decide
  simp (disch := first | assumption | omega | exact isB_0 | exact isB_1 | exact isB_bI _ | decide) only [e_X6_finds_0, e_X6_finds_1, e_X6_finds_4, e_X6_finds_6, e_X6_finds_7, e_X6_finds_8, e_X6_finds_9, e_X6_finds_10, e_X6_finds_11, e_X6_finds_12, e_X6_finds_13, e_X6_finds_14, r, k, toL1, toL0, ite_self, if_true, if_false, ite_true, ite_false, nI_add, pk_mul, z_eq, z_lt, z_le, z_ge, z_gt, nI_eq, nI_leI, nI_ltI, bI_0, bI_1, not_true_eq_false, not_false_eq_true]
  exact congrArg (fun z => Q (some (Value.int z)) (sA h 40 (upd (gA h 40) 0 (yT S 0 + nI 1)))) k2
theorem m_f1 (R : RM h S) : Ev E mX6_finds 0 [.ref 36, .int (-1000000002)] [] h Q = Q (some (.int (-1000000001 - nI 1))) (sA h 40 (upd (gA h 40) 1 (yT S 1 + nI 1))) := by
  have r := R.2.2.2.1 1 (by decide)
  have k : (-1000000001 : Int32) - (-1000000002) = nI 1 := by decide
  have k2 : (-1000000002 : Int32) = -1000000001 - nI 1 := by decide
  simp (disch := first | assumption | omega | exact isB_0 | exact isB_1 | exact isB_bI _ | decide) only [e_X6_finds_0, e_X6_finds_1, e_X6_finds_4, e_X6_finds_6, e_X6_finds_7, e_X6_finds_8, e_X6_finds_9, e_X6_finds_10, e_X6_finds_11, e_X6_finds_12, e_X6_finds_13, e_X6_finds_14, r, k, toL1, toL0, ite_self, if_true, if_false, ite_true, ite_false, nI_add, pk_mul, z_eq, z_lt, z_le, z_ge, z_gt, nI_eq, nI_leI, nI_ltI, bI_0, bI_1, not_true_eq_false, not_false_eq_true]
  exact congrArg (fun z => Q (some (Value.int z)) (sA h 40 (upd (gA h 40) 1 (yT S 1 + nI 1)))) k2
theorem m_f2 (R : RM h S) : Ev E mX6_finds 0 [.ref 36, .int (-1000000003)] [] h Q = Q (some (.int (-1000000001 - nI 2))) (sA h 40 (upd (gA h 40) 2 (yT S 2 + nI 1))) := by
  have r := R.2.2.2.1 2 (by decide)
  have k : (-1000000001 : Int32) - (-1000000003) = nI 2 := by decide
  have k2 : (-1000000003 : Int32) = -1000000001 - nI 2 := by decide
  simp (disch := first | assumption | omega | exact isB_0 | exact isB_1 | exact isB_bI _ | decide) only [e_X6_finds_0, e_X6_finds_1, e_X6_finds_4, e_X6_finds_6, e_X6_finds_7, e_X6_finds_8, e_X6_finds_9, e_X6_finds_10, e_X6_finds_11, e_X6_finds_12, e_X6_finds_13, e_X6_finds_14, r, k, toL1, toL0, ite_self, if_true, if_false, ite_true, ite_false, nI_add, pk_mul, z_eq, z_lt, z_le, z_ge, z_gt, nI_eq, nI_leI, nI_ltI, bI_0, bI_1, not_true_eq_false, not_false_eq_true]
  exact congrArg (fun z => Q (some (Value.int z)) (sA h 40 (upd (gA h 40) 2 (yT S 2 + nI 1)))) k2
theorem m_f3 (R : RM h S) : Ev E mX6_finds 0 [.ref 36, .int (-1000000004)] [] h Q = Q (some (.int (-1000000001 - nI 3))) (sA h 40 (upd (gA h 40) 3 (yT S 3 + nI 1))) := by
  have r := R.2.2.2.1 3 (by decide)
  have k : (-1000000001 : Int32) - (-1000000004) = nI 3 := by decide
  have k2 : (-1000000004 : Int32) = -1000000001 - nI 3 := by decide
  simp (disch := first | assumption | omega | exact isB_0 | exact isB_1 | exact isB_bI _ | decide) only [e_X6_finds_0, e_X6_finds_1, e_X6_finds_4, e_X6_finds_6, e_X6_finds_7, e_X6_finds_8, e_X6_finds_9, e_X6_finds_10, e_X6_finds_11, e_X6_finds_12, e_X6_finds_13, e_X6_finds_14, r, k, toL1, toL0, ite_self, if_true, if_false, ite_true, ite_false, nI_add, pk_mul, z_eq, z_lt, z_le, z_ge, z_gt, nI_eq, nI_leI, nI_ltI, bI_0, bI_1, not_true_eq_false, not_false_eq_true]
  exact congrArg (fun z => Q (some (Value.int z)) (sA h 40 (upd (gA h 40) 3 (yT S 3 + nI 1)))) k2
theorem m_f4 (R : RM h S) : Ev E mX6_finds 0 [.ref 36, .int (-1000000005)] [] h Q = Q (some (.int (-1000000001 - nI 4))) (sA h 40 (upd (gA h 40) 4 (yT S 4 + nI 1))) := by
  have r := R.2.2.2.1 4 (by decide)
  have k : (-1000000001 : Int32) - (-1000000005) = nI 4 := by decide
  have k2 : (-1000000005 : Int32) = -1000000001 - nI 4 := by decide
  simp (disch := first | assumption | omega | exact isB_0 | exact isB_1 | exact isB_bI _ | decide) only [e_X6_finds_0, e_X6_finds_1, e_X6_finds_4, e_X6_finds_6, e_X6_finds_7, e_X6_finds_8, e_X6_finds_9, e_X6_finds_10, e_X6_finds_11, e_X6_finds_12, e_X6_finds_13, e_X6_finds_14, r, k, toL1, toL0, ite_self, if_true, if_false, ite_true, ite_false, nI_add, pk_mul, z_eq, z_lt, z_le, z_ge, z_gt, nI_eq, nI_leI, nI_ltI, bI_0, bI_1, not_true_eq_false, not_false_eq_true]
  exact congrArg (fun z => Q (some (Value.int z)) (sA h 40 (upd (gA h 40) 4 (yT S 4 + nI 1)))) k2
theorem m_f5 (R : RM h S) : Ev E mX6_finds 0 [.ref 36, .int (-1000000006)] [] h Q = Q (some (.int (-1000000001 - nI 5))) (sA h 40 (upd (gA h 40) 5 (yT S 5 + nI 1))) := by
  have r := R.2.2.2.1 5 (by decide)
  have k : (-1000000001 : Int32) - (-1000000006) = nI 5 := by decide
  have k2 : (-1000000006 : Int32) = -1000000001 - nI 5 := by decide
  simp (disch := first | assumption | omega | exact isB_0 | exact isB_1 | exact isB_bI _ | decide) only [e_X6_finds_0, e_X6_finds_1, e_X6_finds_4, e_X6_finds_6, e_X6_finds_7, e_X6_finds_8, e_X6_finds_9, e_X6_finds_10, e_X6_finds_11, e_X6_finds_12, e_X6_finds_13, e_X6_finds_14, r, k, toL1, toL0, ite_self, if_true, if_false, ite_true, ite_false, nI_add, pk_mul, z_eq, z_lt, z_le, z_ge, z_gt, nI_eq, nI_leI, nI_ltI, bI_0, bI_1, not_true_eq_false, not_false_eq_true]
  exact congrArg (fun z => Q (some (Value.int z)) (sA h 40 (upd (gA h 40) 5 (yT S 5 + nI 1)))) k2
theorem m_f6 (R : RM h S) : Ev E mX6_finds 0 [.ref 36, .int (-1000000007)] [] h Q = Q (some (.int (-1000000001 - nI 6))) (sA h 40 (upd (gA h 40) 6 (yT S 6 + nI 1))) := by
  have r := R.2.2.2.1 6 (by decide)
  have k : (-1000000001 : Int32) - (-1000000007) = nI 6 := by decide
  have k2 : (-1000000007 : Int32) = -1000000001 - nI 6 := by decide
  simp (disch := first | assumption | omega | exact isB_0 | exact isB_1 | exact isB_bI _ | decide) only [e_X6_finds_0, e_X6_finds_1, e_X6_finds_4, e_X6_finds_6, e_X6_finds_7, e_X6_finds_8, e_X6_finds_9, e_X6_finds_10, e_X6_finds_11, e_X6_finds_12, e_X6_finds_13, e_X6_finds_14, r, k, toL1, toL0, ite_self, if_true, if_false, ite_true, ite_false, nI_add, pk_mul, z_eq, z_lt, z_le, z_ge, z_gt, nI_eq, nI_leI, nI_ltI, bI_0, bI_1, not_true_eq_false, not_false_eq_true]
  exact congrArg (fun z => Q (some (Value.int z)) (sA h 40 (upd (gA h 40) 6 (yT S 6 + nI 1)))) k2
theorem v_bad (R : RV h S) {j : Nat} (K : Vo h Q (bad j S)) : Q (some (.int (-1000000001 - nI j))) (sA h 33 (upd (gA h 33) j (yT S j + nI 1))) := K _ R.told (Fr.sA (by unfold lowC; decide))
theorem m_bad (R : RM h S) {j : Nat} (K : Mo h Q (bad j S)) : Q (some (.int (-1000000001 - nI j))) (sA h 40 (upd (gA h 40) j (yT S j + nI 1))) := K _ R.told (Fr.sA (by unfold hiC; decide))
end WHOLE
