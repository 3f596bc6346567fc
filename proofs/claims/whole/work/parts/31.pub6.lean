/-! public methods, both sides: what is foreseen of one, what is kept, what was told -/
def f_then (a n w : Int32) (S : Sy) : Int32 × Sy :=
  if hF a (zF (yC S)) then if nI 0 ≤ n ∧ n ≤ nI 400 then if nI 0 ≤ w ∧ w ≤ nI 1 then ok (if nv w = 0 then outW (goN (nv n) (yC S)) (nv a) else zE (goN (nv n) (yC S)) (zV (goN (nv n) (yC S)) (nv a))) S else bad 0 S else bad 0 S else bad 0 S
def richN (C : Cty) (o v : Nat) : Nat → Nat → Nat
  | 0, k => k
  | d + 1, k => if v ≤ zM (goN k C) o then k else richN C o v d (k + 1)
def f_rich (a v : Int32) (S : Sy) : Int32 × Sy :=
  if nI 0 ≤ a ∧ a ≤ nI 3 then if nI 0 ≤ v ∧ v ≤ nI 99999 then if richN (yC S) (nv a) (nv v) 401 0 ≤ 400 then ok (richN (yC S) (nv a) (nv v) 401 0) S else bad 3 S else bad 0 S else bad 0 S
def rotN : Nat → Cty → Cty
  | 0, C => C
  | n + 1, C => rotC (rotN n C)
def backN (C : Cty) : Nat → Nat → Nat
  | 0, k => k
  | d + 1, k => if atHB (rotN k C) = true then k else backN C d (k + 1)
def f_back (S : Sy) : Int32 × Sy := if backN (yC S) 9 0 ≤ 8 then ok (backN (yC S) 9 0) S else bad 3 S
def f_image (S : Sy) : Int32 × Sy := ok 1 (ysK S (some (yC S)))
def f_undo (S : Sy) : Int32 × Sy := match yK S with
  | none => bad 3 S
  | some D => ok (zF D) (ysC S D)
def f_tear (S : Sy) : Int32 × Sy := ok (oB (yK S)) (ysK S none)
def sumT (t : Nat → Int32) : Nat → Int32
  | 0 => nI 0
  | n + 1 => sumT t n + t n
def f_status (w : Int32) (S : Sy) : Int32 × Sy :=
  if w = -1 then (sumT (yT S) 7, S) else if nI 0 ≤ w ∧ w ≤ nI 6 then (yT S (nv w), S) else bad 0 S
theorem W_rotN {C : Cty} (W : WC C) : ∀ n, WC (rotN n C)
  | 0 => W
  | n + 1 => W_rot (W_rotN W n)
theorem rotN_F {C : Cty} : ∀ n, zF (rotN n C) = zF C
  | 0 => rfl
  | n + 1 => rotN_F n
theorem richN_ge {C : Cty} {o v : Nat} : ∀ d k, k ≤ richN C o v d k
  | 0, _ => Nat.le_refl _
  | d + 1, k => by
    rw [richN]
    split
    · exact Nat.le_refl _
    · exact Nat.le_trans (Nat.le_succ _) (richN_ge d (k + 1))
theorem richN_le {C : Cty} {o v : Nat} : ∀ d k, richN C o v d k ≤ k + d
  | 0, _ => Nat.le_refl _
  | d + 1, k => by
    rw [richN]
    split
    · omega
    · have := richN_le (C := C) (o := o) (v := v) d (k + 1)
      omega
theorem backN_le {C : Cty} : ∀ d k, backN C d k ≤ k + d
  | 0, _ => Nat.le_refl _
  | d + 1, k => by
    rw [backN]
    split
    · omega
    · have := backN_le (C := C) d (k + 1)
      omega
theorem shl_all {n : Nat} (hn : n ≤ 8) : nI 1 <<< (nI n &&& 31) - nI 1 = nI (2 ^ n - 1) := by
  have : n = 0 ∨ n = 1 ∨ n = 2 ∨ n = 3 ∨ n = 4 ∨ n = 5 ∨ n = 6 ∨ n = 7 ∨ n = 8 := by omega
  rcases this with rfl | rfl | rfl | rfl | rfl | rfl | rfl | rfl | rfl <;> decide
section PUB6
variable {E : En} {h : Hp} {Q : Option Value → Hp → Prop} {S : Sy} {C : Cty}
theorem RV.kept {h h' : Hp} {S : Sy} (R : RV h S) (k : Option Cty) (c : ∀ D, k = some D → RC h' 15 D) (b : gI h' 0 3 = nI (oB k)) (F : Fr (fun o => o = 0 ∨ Xc 15 o) h h') : RV h' (ysK S k) := by
  obtain ⟨r1, r2, r3, r4, r5, r6, r7, r8, r9⟩ := R
  have q : ∀ o, ¬ (o = 0) → (o < 15 ∨ 21 < o) → ¬ (o = 0 ∨ Xc 15 o) := fun o h1 h2 => by unfold Xc; omega
  refine ⟨r1.fr F (fun o h1 h2 => q o (by omega) (by omega)), b, c, fun j hj => ?_, ?_, fun i hi => ?_, fun s hs => ?_, fun s hs => ?_, fun s i hs hi => ?_⟩
  · rw [(F 33 (q _ (by omega) (by omega))).2.1]; exact r4 j hj
  · exact ((F 22 (q _ (by omega) (by omega))).1 1).trans r5
  · rw [(F 23 (q _ (by omega) (by omega))).2.1]; exact r6 i hi
  · exact ((F (25 + s) (q _ (by omega) (by omega))).1 0).trans (r7 s hs)
  · exact ((F (25 + s) (q _ (by omega) (by omega))).1 1).trans (r8 s hs)
  · rw [(F (29 + s) (q _ (by omega) (by omega))).2.2]; exact r9 s i hs hi
theorem RM.kept {h h' : Hp} {S : Sy} (R : RM h S) (k : Option Cty) (c : ∀ D, k = some D → RR h' 38 D) (b : gI h' 36 3 = nI (oB k)) (t : gI h' 36 6 = gI h 36 6) (F : Fr (fun o => o = 36 ∨ o = 38) h h') : RM h' (ysK S k) := by
  obtain ⟨r1, r2, r3, r4, r5, r6, r7, r8, r9⟩ := R
  refine ⟨r1.fr F (by omega), b, c, fun j hj => ?_, t.trans r5, fun i hi => ?_, fun s hs => ?_, fun s hs => ?_, fun s i hs hi => ?_⟩
  · rw [(F 40 (by omega)).2.1]; exact r4 j hj
  · rw [(F 41 (by omega)).2.1]; exact r6 i hi
  · rw [(F 42 (by omega)).2.1]; exact r7 s hs
  · rw [(F 43 (by omega)).2.1]; exact r8 s hs
  · rw [(F 44 (by omega)).2.2]; exact r9 s i hs hi
theorem v_image (R : RV h S) (K : Vo h Q (f_image S)) : Ev E mX5_image 0 [.ref 0] [] h Q := by
  have hC := isC_1
  simp (disch := first | assumption | omega | exact isB_0 | exact isB_1 | exact isB_bI _ | decide) only [e_X5_image_0, e_X5_image_1, e_X5_image_4, e_X5_image_5, e_X5_image_8, e_X5_image_11, e_X5_image_12, e_X5_image_13, e_X5_image_16, e_X5_image_17, toL1, toL0, ite_self, if_true, if_false, ite_true, ite_false, nI_add, pk_mul, z_eq, z_lt, z_le, z_ge, z_gt, nI_eq, nI_leI, nI_ltI, bI_0, bI_1, not_true_eq_false, not_false_eq_true]
  refine c_become isC_15 isC_1 (by decide) R.ci (fun h' R' F' => ?_)
  simp (disch := first | assumption | omega | exact isB_0 | exact isB_1 | exact isB_bI _ | decide) only [e_X5_image_0, e_X5_image_1, e_X5_image_4, e_X5_image_5, e_X5_image_8, e_X5_image_11, e_X5_image_12, e_X5_image_13, e_X5_image_16, e_X5_image_17, toL1, toL0, ite_self, if_true, if_false, ite_true, ite_false, nI_add, pk_mul, z_eq, z_lt, z_le, z_ge, z_gt, nI_eq, nI_leI, nI_ltI, bI_0, bI_1, not_true_eq_false, not_false_eq_true]
  refine K _ (R.kept (some (yC S)) (fun D hD => ?_) (by rw [gI_sI]; exact if_pos ⟨rfl, rfl⟩) ((F'.mono (fun o z => Or.inr z)).tr (Fr.sI (Or.inl rfl)))) ((F'.mono (fun o z => by unfold Xc at z; unfold lowC; omega)).tr (lowI (by decide)))
  cases hD
  exact R'.fr (Fr.sI (X := fun o => o = 0) rfl) (fun o h1 h2 => by omega)
theorem m_image (R : RM h S) (K : Mo h Q (f_image S)) : Ev E mX6_image 0 [.ref 36] [] h Q := by
  simp (disch := first | assumption | omega | exact isB_0 | exact isB_1 | exact isB_bI _ | decide) only [e_X6_image_0, e_X6_image_1, e_X6_image_4, e_X6_image_5, e_X6_image_8, e_X6_image_11, e_X6_image_12, e_X6_image_13, e_X6_image_16, e_X6_image_17, toL1, toL0, ite_self, if_true, if_false, ite_true, ite_false, nI_add, pk_mul, z_eq, z_lt, z_le, z_ge, z_gt, nI_eq, nI_leI, nI_ltI, bI_0, bI_1, not_true_eq_false, not_false_eq_true]
  refine m_copyAll (Or.inl rfl) (Or.inr (Or.inl rfl)) (by decide) (fun h' J F' => ?_)
  simp (disch := first | assumption | omega | exact isB_0 | exact isB_1 | exact isB_bI _ | decide) only [e_X6_image_0, e_X6_image_1, e_X6_image_4, e_X6_image_5, e_X6_image_8, e_X6_image_11, e_X6_image_12, e_X6_image_13, e_X6_image_16, e_X6_image_17, toL1, toL0, ite_self, if_true, if_false, ite_true, ite_false, nI_add, pk_mul, z_eq, z_lt, z_le, z_ge, z_gt, nI_eq, nI_leI, nI_ltI, bI_0, bI_1, not_true_eq_false, not_false_eq_true]
  have R' : RR h' 38 (yC S) := RR.to R.ci J
  refine K _ (R.kept (some (yC S)) (fun D hD => ?_) (by rw [gI_sI]; exact if_pos ⟨rfl, rfl⟩) (by rw [gI_sI, if_neg (by decide)]; exact (F' 36 (by decide)).1 6) ((F'.mono (fun o z => Or.inr z)).tr (Fr.sI (Or.inl rfl)))) ((F'.mono (fun o z => by unfold hiC; omega)).tr (Fr.sI (by unfold hiC; decide)))
  cases hD
  exact R'.fr (Fr.sI (X := fun o => o = 36) rfl) (by decide)
theorem v_undo (R : RV h S) (K : Vo h Q (f_undo S)) : Ev E mX5_undo 0 [.ref 0] [] h Q := by
  have hC := isC_1
  have r2 := R.2.1
  have r3 := R.2.2.1
  unfold f_undo at K
  cases hk : yK S with
  | none =>
    rw [hk] at K r2
    simp (disch := first | assumption | omega | exact isB_0 | exact isB_1 | exact isB_bI _ | decide) only [e_X5_undo_0, e_X5_undo_1, e_X5_undo_4, e_X5_undo_7, e_X5_undo_8, e_X5_undo_9, e_X5_undo_12, e_X5_undo_13, e_X5_undo_14, e_X5_undo_17, e_X5_undo_18, e_X5_undo_21, e_X5_undo_24, e_X5_undo_25, e_X5_undo_28, e_X5_undo_31, r2, oB_n, v_tell R, toL1, toL0, ite_self, if_true, if_false, ite_true, ite_false, nI_add, pk_mul, z_eq, z_lt, z_le, z_ge, z_gt, nI_eq, nI_leI, nI_ltI, bI_0, bI_1, not_true_eq_false, not_false_eq_true]
    exact v_bad R K
  | some D =>
    rw [hk] at K r2
    simp (disch := first | assumption | omega | exact isB_0 | exact isB_1 | exact isB_bI _ | decide) only [e_X5_undo_0, e_X5_undo_1, e_X5_undo_4, e_X5_undo_7, e_X5_undo_8, e_X5_undo_9, e_X5_undo_12, e_X5_undo_13, e_X5_undo_14, e_X5_undo_17, e_X5_undo_18, e_X5_undo_21, e_X5_undo_24, e_X5_undo_25, e_X5_undo_28, e_X5_undo_31, r2, oB_s, Nat.one_ne_zero, toL1, toL0, ite_self, if_true, if_false, ite_true, ite_false, nI_add, pk_mul, z_eq, z_lt, z_le, z_ge, z_gt, nI_eq, nI_leI, nI_ltI, bI_0, bI_1, not_true_eq_false, not_false_eq_true]
    refine c_become isC_1 isC_15 (by decide) (r3 D hk) (fun h' R' F' => ?_)
    have r := R'.F
    simp (disch := first | assumption | omega | exact isB_0 | exact isB_1 | exact isB_bI _ | decide) only [e_X5_undo_0, e_X5_undo_1, e_X5_undo_4, e_X5_undo_7, e_X5_undo_8, e_X5_undo_9, e_X5_undo_12, e_X5_undo_13, e_X5_undo_14, e_X5_undo_17, e_X5_undo_18, e_X5_undo_21, e_X5_undo_24, e_X5_undo_25, e_X5_undo_28, e_X5_undo_31, r, toL1, toL0, ite_self, if_true, if_false, ite_true, ite_false, nI_add, pk_mul, z_eq, z_lt, z_le, z_ge, z_gt, nI_eq, nI_leI, nI_ltI, bI_0, bI_1, not_true_eq_false, not_false_eq_true]
    exact K _ (R.city R' F'.c1) F'.c1.lo
theorem m_undo (R : RM h S) (K : Mo h Q (f_undo S)) : Ev E mX6_undo 0 [.ref 36] [] h Q := by
  have r2 := R.2.1
  have r3 := R.2.2.1
  unfold f_undo at K
  cases hk : yK S with
  | none =>
    rw [hk] at K r2
    simp (disch := first | assumption | omega | exact isB_0 | exact isB_1 | exact isB_bI _ | decide) only [e_X6_undo_0, e_X6_undo_1, e_X6_undo_4, e_X6_undo_7, e_X6_undo_8, e_X6_undo_10, e_X6_undo_13, e_X6_undo_14, e_X6_undo_15, e_X6_undo_18, e_X6_undo_19, e_X6_undo_22, e_X6_undo_25, e_X6_undo_26, e_X6_undo_29, e_X6_undo_30, e_X6_undo_31, r2, oB_n, m_f3 R, toL1, toL0, ite_self, if_true, if_false, ite_true, ite_false, nI_add, pk_mul, z_eq, z_lt, z_le, z_ge, z_gt, nI_eq, nI_leI, nI_ltI, bI_0, bI_1, not_true_eq_false, not_false_eq_true]
    exact m_bad R K
  | some D =>
    rw [hk] at K r2
    simp (disch := first | assumption | omega | exact isB_0 | exact isB_1 | exact isB_bI _ | decide) only [e_X6_undo_0, e_X6_undo_1, e_X6_undo_4, e_X6_undo_7, e_X6_undo_8, e_X6_undo_10, e_X6_undo_13, e_X6_undo_14, e_X6_undo_15, e_X6_undo_18, e_X6_undo_19, e_X6_undo_22, e_X6_undo_25, e_X6_undo_26, e_X6_undo_29, e_X6_undo_30, e_X6_undo_31, r2, oB_s, Nat.one_ne_zero, toL1, toL0, ite_self, if_true, if_false, ite_true, ite_false, nI_add, pk_mul, z_eq, z_lt, z_le, z_ge, z_gt, nI_eq, nI_leI, nI_ltI, bI_0, bI_1, not_true_eq_false, not_false_eq_true]
    refine m_copyAll (Or.inr (Or.inl rfl)) (Or.inl rfl) (by decide) (fun h' J F' => ?_)
    have R' : RR h' 37 D := RR.to (r3 D hk) J
    have r := R'.F
    have F2 : Fr Xm h h' := F'
    simp (disch := first | assumption | omega | exact isB_0 | exact isB_1 | exact isB_bI _ | decide) only [e_X6_undo_0, e_X6_undo_1, e_X6_undo_4, e_X6_undo_7, e_X6_undo_8, e_X6_undo_10, e_X6_undo_13, e_X6_undo_14, e_X6_undo_15, e_X6_undo_18, e_X6_undo_19, e_X6_undo_22, e_X6_undo_25, e_X6_undo_26, e_X6_undo_29, e_X6_undo_30, e_X6_undo_31, r, toL1, toL0, ite_self, if_true, if_false, ite_true, ite_false, nI_add, pk_mul, z_eq, z_lt, z_le, z_ge, z_gt, nI_eq, nI_leI, nI_ltI, bI_0, bI_1, not_true_eq_false, not_false_eq_true]
    exact K _ (R.city R' F2.m7) F2.m7.hi
theorem v_tear (R : RV h S) (K : Vo h Q (f_tear S)) : Ev E mX5_tear 0 [.ref 0, .null] [] h Q := by
  have hC := isC_1
  have r2 := R.2.1
  unfold f_tear at K
  have fin : RV (sI h 0 3 (nI 0)) (ysK S none) := R.kept none (fun D hD => by cases hD) (by rw [gI_sI]; exact if_pos ⟨rfl, rfl⟩) (Fr.sI (Or.inl rfl))
  cases hk : yK S with
  | none =>
    rw [hk] at K r2
    simp (disch := first | assumption | omega | exact isB_0 | exact isB_1 | exact isB_bI _ | decide) only [e_X5_tear_0, e_X5_tear_1, e_X5_tear_4, e_X5_tear_7, e_X5_tear_8, e_X5_tear_11, e_X5_tear_12, e_X5_tear_13, e_X5_tear_14, e_X5_tear_15, e_X5_tear_18, e_X5_tear_19, r2, oB_n, toL1, toL0, ite_self, if_true, if_false, ite_true, ite_false, nI_add, pk_mul, z_eq, z_lt, z_le, z_ge, z_gt, nI_eq, nI_leI, nI_ltI, bI_0, bI_1, not_true_eq_false, not_false_eq_true]
    exact K _ fin (lowI (by decide))
  | some D =>
    rw [hk] at K r2
    simp (disch := first | assumption | omega | exact isB_0 | exact isB_1 | exact isB_bI _ | decide) only [e_X5_tear_0, e_X5_tear_1, e_X5_tear_4, e_X5_tear_7, e_X5_tear_8, e_X5_tear_11, e_X5_tear_12, e_X5_tear_13, e_X5_tear_14, e_X5_tear_15, e_X5_tear_18, e_X5_tear_19, r2, oB_s, Nat.one_ne_zero, toL1, toL0, ite_self, if_true, if_false, ite_true, ite_false, nI_add, pk_mul, z_eq, z_lt, z_le, z_ge, z_gt, nI_eq, nI_leI, nI_ltI, bI_0, bI_1, not_true_eq_false, not_false_eq_true]
    exact K _ fin (lowI (by decide))
theorem m_tear (R : RM h S) (K : Mo h Q (f_tear S)) : Ev E mX6_tear 0 [.ref 36, .null] [] h Q := by
  have r2 := R.2.1
  unfold f_tear at K
  have fin : RM (sI h 36 3 (nI 0)) (ysK S none) := R.kept none (fun D hD => by cases hD) (by rw [gI_sI]; exact if_pos ⟨rfl, rfl⟩) (by rw [gI_sI, if_neg (by decide)]) (Fr.sI (Or.inl rfl))
  cases hk : yK S with
  | none =>
    rw [hk] at K r2
    simp (disch := first | assumption | omega | exact isB_0 | exact isB_1 | exact isB_bI _ | decide) only [e_X6_tear_0, e_X6_tear_1, e_X6_tear_4, e_X6_tear_7, e_X6_tear_8, e_X6_tear_11, e_X6_tear_12, e_X6_tear_13, e_X6_tear_14, e_X6_tear_15, e_X6_tear_18, e_X6_tear_19, r2, oB_n, toL1, toL0, ite_self, if_true, if_false, ite_true, ite_false, nI_add, pk_mul, z_eq, z_lt, z_le, z_ge, z_gt, nI_eq, nI_leI, nI_ltI, bI_0, bI_1, not_true_eq_false, not_false_eq_true]
    exact K _ fin (Fr.sI (by unfold hiC; decide))
  | some D =>
    rw [hk] at K r2
    simp (disch := first | assumption | omega | exact isB_0 | exact isB_1 | exact isB_bI _ | decide) only [e_X6_tear_0, e_X6_tear_1, e_X6_tear_4, e_X6_tear_7, e_X6_tear_8, e_X6_tear_11, e_X6_tear_12, e_X6_tear_13, e_X6_tear_14, e_X6_tear_15, e_X6_tear_18, e_X6_tear_19, r2, oB_s, Nat.one_ne_zero, toL1, toL0, ite_self, if_true, if_false, ite_true, ite_false, nI_add, pk_mul, z_eq, z_lt, z_le, z_ge, z_gt, nI_eq, nI_leI, nI_ltI, bI_0, bI_1, not_true_eq_false, not_false_eq_true]
    exact K _ fin (Fr.sI (by unfold hiC; decide))
end PUB6
