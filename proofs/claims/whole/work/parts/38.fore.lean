/-! what is foreseen: the sum at once against hour by hour -/
def fineN (k e hr : Nat) : Nat → Nat
  | 0 => e
  | n + 1 => fbe k (fineN k e hr n) (hr + n)
def worS (k e hr n : Nat) : Nat := sumN (fun i => wor k (fineN k e hr i) (hr + i)) n
def earnF (C : Cty) (n : Nat) (o : Nat) : Nat → Nat := fun f => if zO C f = o ∧ zU C f = 0 then worS (zK C (zV C f)) (zE C (zV C f)) (zH C) n else 0
def foreM (C : Cty) (n o : Nat) : Nat := min 99999 (zM C o + sumN (earnF C n o) (zF C))
theorem fineN_le {k e hr : Nat} (he : e ≤ 99) : ∀ n, fineN k e hr n ≤ 99
  | 0 => he
  | n + 1 => Nat.le_trans fbe_le (fineN_le he n)
theorem worS_le {k e hr : Nat} (he : e ≤ 99) : ∀ n, worS k e hr n ≤ 120 * n
  | 0 => Nat.le_refl _
  | n + 1 => by
    have h1 := worS_le (k := k) (hr := hr) he n
    have h2 := wor_le (k := k) (hr := hr + n) (fineN_le (k := k) (hr := hr) he n)
    show worS k e hr n + wor k (fineN k e hr n) (hr + n) ≤ _
    omega
theorem goN_O (C : Cty) : ∀ n, zO (goN n C) = zO C
  | 0 => rfl
  | n + 1 => goN_O C n
theorem goN_U (C : Cty) : ∀ n, zU (goN n C) = zU C
  | 0 => rfl
  | n + 1 => goN_U C n
theorem goN_V (C : Cty) : ∀ n, zV (goN n C) = zV C
  | 0 => rfl
  | n + 1 => goN_V C n
theorem goN_K (C : Cty) : ∀ n, zK (goN n C) = zK C
  | 0 => rfl
  | n + 1 => goN_K C n
theorem fAf_in (C : Cty) : ∀ n i, i < n → fAf C n i = fbe (zK C i) (zE C i) (zH C) := by
  intro n
  induction n with
  | zero => intro i hi; omega
  | succ n ih =>
    intro i hi
    rw [fAf]
    unfold updN
    by_cases q : i = n
    · rw [if_pos q, q]
    · rw [if_neg q]; exact ih i (by omega)
theorem goN_E (C : Cty) {v : Nat} (hv : v < zF C) : ∀ n, zE (goN n C) v = fineN (zK C v) (zE C v) (zH C) n
  | 0 => rfl
  | n + 1 => by
    have ih := goN_E C hv n
    show fAf (goN n C) (zF (goN n C)) v = _
    rw [fAf_in _ _ _ (by rw [goN_F]; exact hv), goN_K, goN_H, ih]
    rfl
theorem sumN_cong {p q : Nat → Nat} : ∀ n, (∀ i, i < n → p i = q i) → sumN p n = sumN q n
  | 0, _ => rfl
  | n + 1, hx => by rw [sumN, sumN, sumN_cong n (fun i hi => hx i (by omega)), hx n (by omega)]
theorem sumN_add {p q : Nat → Nat} : ∀ n, sumN (fun i => p i + q i) n = sumN p n + sumN q n
  | 0 => rfl
  | n + 1 => by
    rw [sumN, sumN, sumN, sumN_add n]
    omega
theorem mAf_eq {C : Cty} {o : Nat} (hm : zM C o ≤ 99999) : ∀ f, mAf C f o = min 99999 (zM C o + sumN (fun g => if zO C g = o then outW C g else 0) f)
  | 0 => by
    show zM C o = min 99999 (zM C o + 0)
    omega
  | f + 1 => by
    have ih := mAf_eq hm f
    rw [mAf, sumN]
    unfold updN
    by_cases q : o = zO C f
    · rw [if_pos q, if_pos q.symm, ← q, ih]
      omega
    · rw [if_neg q, if_neg (fun z => q z.symm), ih]
      omega
theorem goN_out (C : Cty) (W : WC C) (n : Nat) {f : Nat} (hf : f < zF C) : outW (goN n C) f = if zU C f = 1 then 0 else wor (zK C (zV C f)) (fineN (zK C (zV C f)) (zE C (zV C f)) (zH C) n) (zH C + n) := by
  unfold outW
  rw [goN_U, goN_V, goN_K, goN_H, goN_E C (W.v hf)]
theorem goN_M {C : Cty} (W : WC C) {o : Nat} (ho : o < 4) : ∀ n, zM (goN n C) o = foreM C n o
  | 0 => by
    have hm := W.m ho
    show zM C o = min 99999 (zM C o + sumN (earnF C 0 o) (zF C))
    have : sumN (earnF C 0 o) (zF C) = 0 := by
      have z : ∀ m, sumN (earnF C 0 o) m = 0 := by
        intro m
        induction m with
        | zero => rfl
        | succ m ih =>
          rw [sumN, ih]
          unfold earnF
          split
          · rfl
          · rfl
      exact z _
    omega
  | n + 1 => by
    have ih := goN_M W ho n
    have hm2 : zM (goN n C) o ≤ 99999 := by
      rw [ih]
      exact Nat.min_le_left _ _
    show mAf (goN n C) (zF (goN n C)) o = _
    rw [mAf_eq hm2, ih, goN_F]
    unfold foreM
    have hs : sumN (earnF C (n + 1) o) (zF C) = sumN (earnF C n o) (zF C) + sumN (fun g => if zO (goN n C) g = o then outW (goN n C) g else 0) (zF C) := by
      rw [← sumN_add]
      refine sumN_cong _ (fun g hg => ?_)
      have hg8 : g < 8 := by have := W.f; omega
      have hu := W.u hg8
      rw [goN_O, goN_out C W n hg]
      unfold earnF
      by_cases a : zO C g = o
      · by_cases b : zU C g = 0
        · rw [if_pos ⟨a, b⟩, if_pos ⟨a, b⟩, if_pos a, if_neg (by omega)]
          rfl
        · rw [if_neg (fun z => b z.2), if_neg (fun z => b z.2), if_pos a, if_pos (by omega)]
      · rw [if_neg (fun z => a z.1), if_neg (fun z => a z.1), if_neg a]
    rw [hs]
    omega
section FORE
variable {E : En} {h : Hp} {Q : Option Value → Hp → Prop} {S : Sy} {C : Cty}
theorem s_wiL {k e hr n : Nat} (hk : k < 6) (he : e ≤ 99) (hh : hr ≤ 200000) (hn : n ≤ 400) : ∀ d i, i + d = n → Ev E mX2_worthInAll 9 [.int (nI k), .int (nI e), .int (nI hr), .int (nI n), .int (nI (worS k e hr i)), .int (nI (fineN k e hr i)), .int (nI i)] [] h Q = Q (some (.int (nI (worS k e hr n)))) h := by
  intro d
  induction d with
  | zero =>
    intro i q
    rw [e_X2_worthInAll_9]
    simp (disch := first | assumption | omega | exact isB_0 | exact isB_1 | exact isB_bI _ | decide) only [e_X2_worthInAll_0, e_X2_worthInAll_1, e_X2_worthInAll_3, e_X2_worthInAll_4, e_X2_worthInAll_6, e_X2_worthInAll_7, e_X2_worthInAll_11, e_X2_worthInAll_12, e_X2_worthInAll_15, e_X2_worthInAll_17, e_X2_worthInAll_18, e_X2_worthInAll_20, e_X2_worthInAll_21, e_X2_worthInAll_23, e_X2_worthInAll_24, e_X2_worthInAll_27, e_X2_worthInAll_28, e_X2_worthInAll_30, e_X2_worthInAll_31, e_X2_worthInAll_33, e_X2_worthInAll_34, e_X2_worthInAll_36, e_X2_worthInAll_37, e_X2_worthInAll_40, e_X2_worthInAll_42, e_X2_worthInAll_45, e_X2_worthInAll_48, e_X2_worthInAll_50, toL1, toL0, ite_self, if_true, if_false, ite_true, ite_false, nI_add, pk_mul, z_eq, z_lt, z_le, z_ge, z_gt, nI_eq, nI_leI, nI_ltI, bI_0, bI_1, not_true_eq_false, not_false_eq_true]
    rw [if_pos (by omega), show i = n by omega]
  | succ d ih =>
    intro i q
    have hf := fineN_le (k := k) (hr := hr) he i
    have ih2 := ih (i + 1) (by omega)
    have z1 : worS k e hr (i + 1) = worS k e hr i + wor k (fineN k e hr i) (hr + i) := rfl
    have z2 : fineN k e hr (i + 1) = fbe k (fineN k e hr i) (hr + i) := rfl
    rw [z1, z2] at ih2
    rw [e_X2_worthInAll_9]
    simp (disch := first | assumption | omega | exact isB_0 | exact isB_1 | exact isB_bI _ | decide) only [e_X2_worthInAll_0, e_X2_worthInAll_1, e_X2_worthInAll_3, e_X2_worthInAll_4, e_X2_worthInAll_6, e_X2_worthInAll_7, e_X2_worthInAll_11, e_X2_worthInAll_12, e_X2_worthInAll_15, e_X2_worthInAll_17, e_X2_worthInAll_18, e_X2_worthInAll_20, e_X2_worthInAll_21, e_X2_worthInAll_23, e_X2_worthInAll_24, e_X2_worthInAll_27, e_X2_worthInAll_28, e_X2_worthInAll_30, e_X2_worthInAll_31, e_X2_worthInAll_33, e_X2_worthInAll_34, e_X2_worthInAll_36, e_X2_worthInAll_37, e_X2_worthInAll_40, e_X2_worthInAll_42, e_X2_worthInAll_45, e_X2_worthInAll_48, e_X2_worthInAll_50, s_worth hk hf (show hr + i < 1000000 by omega), s_fbe hk hf (show hr + i < 1000000 by omega), toL1, toL0, ite_self, if_true, if_false, ite_true, ite_false, nI_add, pk_mul, z_eq, z_lt, z_le, z_ge, z_gt, nI_eq, nI_leI, nI_ltI, bI_0, bI_1, not_true_eq_false, not_false_eq_true]
    rw [if_neg (by omega)]
    exact ih2
theorem s_worthInAll {k e hr n : Nat} (hk : k < 6) (he : e ≤ 99) (hh : hr ≤ 200000) (hn : n ≤ 400) : Ev E mX2_worthInAll 0 [.int (nI k), .int (nI e), .int (nI hr), .int (nI n), .null, .null, .null] [] h Q = Q (some (.int (nI (worS k e hr n)))) h := by
  have z := s_wiL (E := E) (h := h) (Q := Q) hk he hh hn n 0 (by omega)
  have z1 : worS k e hr 0 = 0 := rfl
  have z2 : fineN k e hr 0 = e := rfl
  rw [z1, z2] at z
  simp (disch := first | assumption | omega | exact isB_0 | exact isB_1 | exact isB_bI _ | decide) only [e_X2_worthInAll_0, e_X2_worthInAll_1, e_X2_worthInAll_3, e_X2_worthInAll_4, e_X2_worthInAll_6, e_X2_worthInAll_7, e_X2_worthInAll_11, e_X2_worthInAll_12, e_X2_worthInAll_15, e_X2_worthInAll_17, e_X2_worthInAll_18, e_X2_worthInAll_20, e_X2_worthInAll_21, e_X2_worthInAll_23, e_X2_worthInAll_24, e_X2_worthInAll_27, e_X2_worthInAll_28, e_X2_worthInAll_30, e_X2_worthInAll_31, e_X2_worthInAll_33, e_X2_worthInAll_34, e_X2_worthInAll_36, e_X2_worthInAll_37, e_X2_worthInAll_40, e_X2_worthInAll_42, e_X2_worthInAll_45, e_X2_worthInAll_48, e_X2_worthInAll_50, toL1, toL0, ite_self, if_true, if_false, ite_true, ite_false, nI_add, pk_mul, z_eq, z_lt, z_le, z_ge, z_gt, nI_eq, nI_leI, nI_ltI, bI_0, bI_1, not_true_eq_false, not_false_eq_true]
  exact z
end FORE
