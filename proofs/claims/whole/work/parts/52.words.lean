/-! words; the parser, pure; this side's words and numbers -/
def jwL : List Nat := [0, 1, 2, 3, 4, 5, 9, 10, 7, 8]
def jw (w : Nat) : Nat := jwL.getD w 0
def nmL (w : Nat) : Nat := (byT.getD (jw w) []).length
def nmC (w i : Nat) : Nat := nv ((byT.getD (jw w) []).getD i 0)
theorem nm_c : ∀ w, w < 10 → ∀ i, i < nmL w → (byT.getD (jw w) []).getD i 0 = nI (nmC w i) ∧ 97 ≤ nmC w i ∧ nmC w i ≤ 122 := by decide +kernel
theorem na_c : ∀ w, w < 10 → ∀ i, i < 7 → naT.getD (7 * w + i) 0 = nI (if i < nmL w then nmC w i else 0) := by decide +kernel
theorem nm_7 : ∀ w, w < 10 → nmL w ≤ 7 ∧ 1 ≤ nmL w ∧ jw w < 11 := by decide +kernel
theorem nm_in : ∀ w, w < 10 → ∀ u, u < 10 → nmL w = nmL u → (∀ i, i < nmL w → nmC w i = nmC u i) → w = u := by decide +kernel
abbrev nmP (T : Nat → Nat) (b z w : Nat) : Prop := z = nmL w ∧ ∀ i, i < nmL w → T (b + i) = nmC w i
def wxW (T : Nat → Nat) (b z : Nat) : Nat → Nat → Nat
  | 0, _ => 23
  | d + 1, w => if nmP T b z w then w else wxW T b z d (w + 1)
theorem wxW_t {T : Nat → Nat} {b z d w : Nat} (h : nmP T b z w) : wxW T b z (d + 1) w = w := if_pos h
theorem wxW_f {T : Nat → Nat} {b z d w : Nat} (h : ¬ nmP T b z w) : wxW T b z (d + 1) w = wxW T b z d (w + 1) := if_neg h
theorem nmP_un {T : Nat → Nat} {b z w u : Nat} (hw : w < 10) (hu : u < 10) (a : nmP T b z w) (c : nmP T b z u) : w = u := nm_in w hw u hu (a.1.symm.trans c.1) (fun i hi => (a.2 i hi).symm.trans (c.2 i (by rw [← c.1, a.1]; exact hi)))
theorem wx_at {T : Nat → Nat} {b z w : Nat} (hw : w < 10) (a : nmP T b z w) : ∀ d v, v ≤ w → w < v + d → v + d ≤ 10 → wxW T b z d v = w
  | 0, v, h1, h2, _ => by omega
  | d + 1, v, h1, h2, h3 => by
    by_cases c : nmP T b z v
    · rw [wxW_t c]; exact nmP_un (by omega) hw c a
    · rw [wxW_f c]
      by_cases q : v = w
      · rw [q] at c; exact absurd a c
      · exact wx_at hw a d (v + 1) (by omega) (by omega) (by omega)
theorem wx_is {T : Nat → Nat} {b z : Nat} : ∀ d v, v + d ≤ 10 → wxW T b z d v = 23 ∨ (wxW T b z d v < 10 ∧ nmP T b z (wxW T b z d v))
  | 0, _, _ => Or.inl rfl
  | d + 1, v, h => by
    by_cases c : nmP T b z v
    · rw [wxW_t c]; exact Or.inr ⟨by omega, c⟩
    · rw [wxW_f c]; exact wx_is d (v + 1) (by omega)
def tK (T : Nat → Nat) (L p : Nat) : Nat := if L ≤ tB T L p then 22 else if isLe T (tB T L p) = true then wxW T (tB T L p) (tE T L p - tB T L p) 10 0 else if isDi T (tB T L p) = true then 20 else if T (tB T L p) = 59 then 21 else 23
theorem tKC (T : Nat → Nat) (L p : Nat) : (tC T L p = 0 ∧ tK T L p = 22) ∨ (tC T L p = 1 ∧ tK T L p = wxW T (tB T L p) (tE T L p - tB T L p) 10 0) ∨ (tC T L p = 2 ∧ tK T L p = 20) ∨ (tC T L p = 3 ∧ tK T L p = 21) ∨ (tC T L p = 4 ∧ tK T L p = 23) := by
  unfold tC tK
  by_cases c0 : L ≤ tB T L p
  · rw [if_pos c0, if_pos c0]; exact Or.inl ⟨rfl, rfl⟩
  · rw [if_neg c0, if_neg c0]
    by_cases c1 : isLe T (tB T L p) = true
    · rw [if_pos c1, if_pos c1]; exact Or.inr (Or.inl ⟨rfl, rfl⟩)
    · rw [if_neg c1, if_neg c1]
      by_cases c2 : isDi T (tB T L p) = true
      · rw [if_pos c2, if_pos c2]; exact Or.inr (Or.inr (Or.inl ⟨rfl, rfl⟩))
      · rw [if_neg c2, if_neg c2]
        by_cases c3 : T (tB T L p) = 59
        · rw [if_pos c3, if_pos c3]; exact Or.inr (Or.inr (Or.inr (Or.inl ⟨rfl, rfl⟩)))
        · rw [if_neg c3, if_neg c3]; exact Or.inr (Or.inr (Or.inr (Or.inr ⟨rfl, rfl⟩)))
theorem tK_word {T : Nat → Nat} {L p w : Nat} (hw : w < 10) : tK T L p = w ↔ (tC T L p = 1 ∧ nmP T (tB T L p) (tE T L p - tB T L p) w) := by
  have is := wx_is (T := T) (b := tB T L p) (z := tE T L p - tB T L p) 10 0 (by omega)
  constructor
  · intro e
    rcases tKC T L p with ⟨a, b⟩ | ⟨a, b⟩ | ⟨a, b⟩ | ⟨a, b⟩ | ⟨a, b⟩
    · omega
    · refine ⟨a, ?_⟩
      rcases is with q | q
      · omega
      · rw [← b, e] at q; exact q.2
    · omega
    · omega
    · omega
  · rintro ⟨e, a⟩
    have := wx_at hw a 10 0 (by omega) (by omega) (by omega)
    rcases tKC T L p with ⟨a, b⟩ | ⟨a, b⟩ | ⟨a, b⟩ | ⟨a, b⟩ | ⟨a, b⟩ <;> omega
theorem tK_20 {T : Nat → Nat} {L p : Nat} : tK T L p = 20 ↔ tC T L p = 2 := by
  have is := wx_is (T := T) (b := tB T L p) (z := tE T L p - tB T L p) 10 0 (by omega)
  rcases tKC T L p with ⟨a, b⟩ | ⟨a, b⟩ | ⟨a, b⟩ | ⟨a, b⟩ | ⟨a, b⟩ <;> omega
theorem tK_21 {T : Nat → Nat} {L p : Nat} : tK T L p = 21 ↔ tC T L p = 3 := by
  have is := wx_is (T := T) (b := tB T L p) (z := tE T L p - tB T L p) 10 0 (by omega)
  rcases tKC T L p with ⟨a, b⟩ | ⟨a, b⟩ | ⟨a, b⟩ | ⟨a, b⟩ | ⟨a, b⟩ <;> omega
theorem tK_22 {T : Nat → Nat} {L p : Nat} : tK T L p = 22 ↔ tC T L p = 0 := by
  have is := wx_is (T := T) (b := tB T L p) (z := tE T L p - tB T L p) 10 0 (by omega)
  rcases tKC T L p with ⟨a, b⟩ | ⟨a, b⟩ | ⟨a, b⟩ | ⟨a, b⟩ | ⟨a, b⟩ <;> omega
theorem tK_le {T : Nat → Nat} {L p : Nat} : tK T L p ≤ 23 := by
  have is := wx_is (T := T) (b := tB T L p) (z := tE T L p - tB T L p) 10 0 (by omega)
  rcases tKC T L p with ⟨a, b⟩ | ⟨a, b⟩ | ⟨a, b⟩ | ⟨a, b⟩ | ⟨a, b⟩ <;> omega
theorem tC_le {T : Nat → Nat} {L p : Nat} : tC T L p ≤ 4 := by
  rcases tKC T L p with ⟨a, b⟩ | ⟨a, b⟩ | ⟨a, b⟩ | ⟨a, b⟩ | ⟨a, b⟩ <;> omega
theorem tK_lt {T : Nat → Nat} {L p : Nat} (hp : p ≤ L) (h : tK T L p ≠ 22) : p < tE T L p := by
  have hb := tB_le (T := T) hp
  have hg := tB_ge (T := T) (L := L) (p := p)
  have : ¬ L ≤ tB T L p := fun c => h (if_pos c)
  have := tE_gt (T := T) (L := L) (p := p) (by omega)
  omega
abbrev pNum (T : Nat → Nat) (L p m : Nat) : Prop := tC T L p = 2 ∧ tV T L p ≤ m
abbrev pLt (T : Nat → Nat) (L p n : Nat) : Prop := tC T L p = 2 ∧ tV T L p < n
def cmC (C : Cty) (k o fi cu : Nat) : Cty := zsE (zsK (zsV (zsU (zsO (zsF C (zF C + 1)) (updN (zO C) (zF C) o)) (updN (zU C) (zF C) cu)) (updN (zV C) (zF C) (zF C))) (updN (zK C) (zF C) k)) (updN (zE C) (zF C) fi)
def pF3 (T : Nat → Nat) (L p : Nat) (C : Cty) (k o fi : Nat) : Bool × Nat × Cty := if tK T L p = 7 then (true, tE T L p, cmC C k o fi 1) else (true, p, cmC C k o fi 0)
def pF2 (T : Nat → Nat) (L p : Nat) (C : Cty) (k o : Nat) : Bool × Nat × Cty := if tK T L p = 6 then if pNum T L (tE T L p) 99 then pF3 T L (tE T L (tE T L p)) C k o (tV T L (tE T L p)) else (false, tE T L p, C) else pF3 T L p C k o 10
def pFrame (T : Nat → Nat) (L p : Nat) (C : Cty) : Bool × Nat × Cty := if zF C < 8 then if pNum T L (tE T L p) 3 then pF2 T L (tE T L (tE T L p)) C (tK T L p) (tV T L (tE T L p)) else (false, tE T L p, C) else (false, p, C)
def pTrade (T : Nat → Nat) (L p : Nat) (C : Cty) : Bool × Nat × Cty := if pLt T L (tE T L p) (zF C) then if pLt T L (tE T L (tE T L p)) (zF C) ∧ ¬ tV T L (tE T L (tE T L p)) = tV T L (tE T L p) then (true, tE T L (tE T L (tE T L p)), swpC C (tV T L (tE T L p)) (tV T L (tE T L (tE T L p)))) else (false, tE T L (tE T L p), C) else (false, tE T L p, C)
def pMoney (T : Nat → Nat) (L p : Nat) (C : Cty) : Bool × Nat × Cty := if pNum T L (tE T L p) 3 then if pNum T L (tE T L (tE T L p)) 9999 then (true, tE T L (tE T L (tE T L p)), zsM C (updN (zM C) (tV T L (tE T L p)) (tV T L (tE T L (tE T L p))))) else (false, tE T L (tE T L p), C) else (false, tE T L p, C)
def pItem (T : Nat → Nat) (L p : Nat) (C : Cty) : Bool × Nat × Cty := if tK T L p < 6 then pFrame T L p C else if tK T L p = 8 then pTrade T L p C else if tK T L p = 9 then pMoney T L p C else (false, p, C)
def pLoop (T : Nat → Nat) (L : Nat) : Nat → Nat → Nat → Cty → Bool × Nat × Cty
  | 0, _, _, C => (false, 0, C)
  | d + 1, it, p, C => if (pItem T L p C).1 = true then if tK T L (pItem T L p C).2.1 = 22 then (true, it, (pItem T L p C).2.2) else if tK T L (pItem T L p C).2.1 = 21 then pLoop T L d (it + 1) (tE T L (pItem T L p C).2.1) (pItem T L p C).2.2 else (false, tB T L (pItem T L p C).2.1, C) else (false, tB T L (pItem T L p C).2.1, C)
theorem W_cm {C : Cty} (W : WC C) {k o fi cu : Nat} (h8 : zF C < 8) (hk : k < 6) (ho : o < 4) (hf : fi ≤ 99) (hc : cu ≤ 1) : WC (cmC C k o fi cu) := by
  have zf : zF (cmC C k o fi cu) = zF C + 1 := rfl
  have zv : ∀ i, zV (cmC C k o fi cu) i = updN (zV C) (zF C) (zF C) i := fun _ => rfl
  refine ⟨by omega, W.2.1, W.2.2.1, fun i hi => ?_, fun i hi => ?_, fun i hi => ?_, fun i j hi hj e => ?_, fun i hi => ?_, fun i hi => ?_⟩
  · show updN (zO C) (zF C) o i < 4
    unfold updN
    split
    · exact ho
    · exact W.o hi
  · show updN (zU C) (zF C) cu i ≤ 1
    unfold updN
    split
    · exact hc
    · exact W.u hi
  · rw [zv, zf]
    unfold updN
    split
    · omega
    · have := W.v (show i < zF C by omega)
      omega
  · rw [zv, zv] at e
    unfold updN at e
    by_cases q1 : i = zF C
    · by_cases q2 : j = zF C
      · omega
      · rw [if_pos q1, if_neg q2] at e
        have := W.v (show j < zF C by omega)
        omega
    · by_cases q2 : j = zF C
      · rw [if_neg q1, if_pos q2] at e
        have := W.v (show i < zF C by omega)
        omega
      · rw [if_neg q1, if_neg q2] at e
        exact W.vi (by omega) (by omega) e
  · show updN (zK C) (zF C) k i < 6
    unfold updN
    split
    · exact hk
    · exact W.k hi
  · show updN (zE C) (zF C) fi i ≤ 99
    unfold updN
    split
    · exact hf
    · exact W.e hi
/-- an item that is right: further on, a city as it may be, no hour gone -/
def gdI (L p : Nat) (C : Cty) (r : Bool × Nat × Cty) : Prop := r.2.1 ≤ L ∧ p ≤ r.2.1 ∧ (r.1 = true → p < r.2.1 ∧ WC r.2.2 ∧ zH r.2.2 = zH C)
theorem gd_F3 {T : Nat → Nat} {L p q : Nat} {C : Cty} {k o fi : Nat} (W : WC C) (hp : p ≤ L) (hq : q < p) (h8 : zF C < 8) (hk : k < 6) (ho : o < 4) (hf : fi ≤ 99) : gdI L q C (pF3 T L p C k o fi) := by
  unfold pF3
  by_cases c : tK T L p = 7
  · rw [if_pos c]
    have a := tK_lt (T := T) hp (by omega)
    exact ⟨tE_le hp, by show q ≤ tE T L p; omega, fun _ => ⟨by show q < tE T L p; omega, W_cm W h8 hk ho hf (by omega), rfl⟩⟩
  · rw [if_neg c]
    exact ⟨hp, by show q ≤ p; omega, fun _ => ⟨hq, W_cm W h8 hk ho hf (by omega), rfl⟩⟩
theorem tE_ge {T : Nat → Nat} {L p : Nat} (hp : p ≤ L) : p ≤ tE T L p := by
  by_cases c : tK T L p = 22
  · have g := tB_ge (T := T) (L := L) (p := p)
    have z : L ≤ tB T L p := Classical.byContradiction (fun z => by
      have is := wx_is (T := T) (b := tB T L p) (z := tE T L p - tB T L p) 10 0 (by omega)
      have c0 : tC T L p = 0 := tK_22.mp c
      unfold tC at c0
      rw [if_neg z] at c0
      split at c0
      · omega
      · split at c0
        · omega
        · split at c0 <;> omega)
    unfold tE
    rw [if_pos z]
    exact g
  · exact Nat.le_of_lt (tK_lt hp c)
theorem gd_F2 {T : Nat → Nat} {L p q : Nat} {C : Cty} {k o : Nat} (W : WC C) (hp : p ≤ L) (hq : q < p) (h8 : zF C < 8) (hk : k < 6) (ho : o < 4) : gdI L q C (pF2 T L p C k o) := by
  have e1 := tE_ge (T := T) hp
  have l1 := tE_le (T := T) hp
  have e2 := tE_ge (T := T) l1
  have l2 := tE_le (T := T) l1
  unfold pF2
  by_cases c : tK T L p = 6
  · rw [if_pos c]
    by_cases c2 : pNum T L (tE T L p) 99
    · rw [if_pos c2]; exact gd_F3 W l2 (by omega) h8 hk ho c2.2
    · rw [if_neg c2]; exact ⟨l1, by show q ≤ tE T L p; omega, fun z => absurd z (show ¬ false = true by decide)⟩
  · rw [if_neg c]; exact gd_F3 W hp hq h8 hk ho (by omega)
theorem gd_item {T : Nat → Nat} {L p : Nat} {C : Cty} (W : WC C) (hp : p ≤ L) : gdI L p C (pItem T L p C) := by
  have e1 := tE_ge (T := T) hp
  have l1 := tE_le (T := T) hp
  have e2 := tE_ge (T := T) l1
  have l2 := tE_le (T := T) l1
  have e3 := tE_ge (T := T) l2
  have l3 := tE_le (T := T) l2
  have no : ∀ q, q ≤ L → p ≤ q → gdI L p C (false, q, C) := fun q a b => ⟨a, b, fun z => absurd z (show ¬ false = true by decide)⟩
  unfold pItem
  by_cases c : tK T L p < 6
  · rw [if_pos c]
    unfold pFrame
    have lt := tK_lt (T := T) hp (by omega)
    by_cases c1 : zF C < 8
    · rw [if_pos c1]
      by_cases c2 : pNum T L (tE T L p) 3
      · rw [if_pos c2]
        have := c2.2
        exact gd_F2 W l2 (by omega) c1 c (by omega)
      · rw [if_neg c2]; exact no _ l1 e1
    · rw [if_neg c1]; exact no _ hp (Nat.le_refl _)
  · rw [if_neg c]
    by_cases d : tK T L p = 8
    · rw [if_pos d]
      have lt := tK_lt (T := T) hp (by omega)
      unfold pTrade
      by_cases c1 : pLt T L (tE T L p) (zF C)
      · rw [if_pos c1]
        by_cases c2 : pLt T L (tE T L (tE T L p)) (zF C) ∧ ¬ tV T L (tE T L (tE T L p)) = tV T L (tE T L p)
        · rw [if_pos c2]
          exact ⟨l3, by show p ≤ tE T L (tE T L (tE T L p)); omega, fun _ => ⟨by show p < tE T L (tE T L (tE T L p)); omega, W_swp W c1.2 c2.1.2, rfl⟩⟩
        · rw [if_neg c2]; exact no _ l2 (by omega)
      · rw [if_neg c1]; exact no _ l1 e1
    · rw [if_neg d]
      by_cases f : tK T L p = 9
      · rw [if_pos f]
        have lt := tK_lt (T := T) hp (by omega)
        unfold pMoney
        by_cases c1 : pNum T L (tE T L p) 3
        · rw [if_pos c1]
          by_cases c2 : pNum T L (tE T L (tE T L p)) 9999
          · rw [if_pos c2]
            refine ⟨l3, by show p ≤ tE T L (tE T L (tE T L p)); omega, fun _ => ⟨by show p < tE T L (tE T L (tE T L p)); omega, W_M W (fun i hi => ?_), rfl⟩⟩
            have := c2.2
            unfold updN
            split
            · omega
            · exact W.m hi
          · rw [if_neg c2]; exact no _ l2 (by omega)
        · rw [if_neg c1]; exact no _ l1 e1
      · rw [if_neg f]; exact no _ hp (Nat.le_refl _)
theorem gd_loop {T : Nat → Nat} {L : Nat} : ∀ d it p C, p ≤ L → WC C → (pLoop T L d it p C).1 = true → WC (pLoop T L d it p C).2.2 ∧ zH (pLoop T L d it p C).2.2 = zH C
  | 0, _, _, _, _, _, h => absurd h (show ¬ false = true by decide)
  | d + 1, it, p, C, hp, W, h => by
    have g := gd_item (T := T) W hp
    rw [pLoop] at h ⊢
    by_cases c : (pItem T L p C).1 = true
    · rw [if_pos c] at h ⊢
      by_cases c1 : tK T L (pItem T L p C).2.1 = 22
      · rw [if_pos c1]; exact (g.2.2 c).2
      · rw [if_neg c1] at h ⊢
        by_cases c2 : tK T L (pItem T L p C).2.1 = 21
        · rw [if_pos c2] at h ⊢
          have ih := gd_loop d (it + 1) (tE T L (pItem T L p C).2.1) (pItem T L p C).2.2 (tE_le g.1) (g.2.2 c).2.1 h
          exact ⟨ih.1, ih.2.trans (g.2.2 c).2.2⟩
        · rw [if_neg c2] at h
          exact absurd h (show ¬ false = true by decide)
    · rw [if_neg c] at h
      exact absurd h (show ¬ false = true by decide)
