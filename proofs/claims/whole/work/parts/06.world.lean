/-! the machine's world for the pure machine's cells -/
def cls7 : List vw_C := [(RX1, TX1, 8), (RX1, TX1, 8), (RX1, TX1, 8), (RX3, TX3, 3), (RX4, TX4, 6), (RX5, TX5, 9), (RX6, TX6, 15)]
def nF (c : Nat) : Nat := [8, 8, 8, 3, 6, 9, 15].getD c 0
def rl (ad : Nat → Nat) (vS : Value) : Value → Value
  | .ref i => if i = 150 then vS else .ref (ad i)
  | v => v
def fV (ad : Nat → Nat) (h : Hp) (i ci k : Nat) : Value := if fO ci k < 2 then .int (h.1 i k) else .ref (ad (i + (fO ci k - 2)))
abbrev Cy : Type := ClassId × ClassId × ClassId
def wE (ad : Nat → Nat) (cy : Cy) (h : Hp) (i : Nat) : va_E := match cK i with
  | (1, ci, _) => .inr (ci, (List.range (nF ci)).map (fV ad h i ci))
  | (2, n, _) => .inl (cy.1, n, .inl (h.2.1 i))
  | (3, n, _) => .inl (cy.2.1, n, .inr (.inl (h.2.2 i)))
  | (4, n, b) => .inl (cy.2.2, n, .inr (.inr (.inr (.inr (fun j => some (ad (b + j)))))))
  | _ => .inl (cy.1, 0, .inl (fun _ => 0))
def wW (ad : Nat → Nat) (cy : Cy) (h : Hp) : va_W := (List.range 45).map (fun i => (ad i, wE ad cy h i))
abbrev tyW (cy : Cy) : List (ClassId × FieldType) := [(cy.1, .int), (cy.2.1, .long), (cy.2.2, .object RX3)]
def oA (ad : Nat → Nat) : Nat → Prop := fun q => ∃ i, i < 45 ∧ q = ad i
theorem wW_at (ad : Nat → Nat) (cy : Cy) (h : Hp) {i : Nat} (hi : i < 45) : (wW ad cy h)[i]? = some (ad i, wE ad cy h i) := by
  unfold wW
  rw [List.getElem?_map, List.getElem?_range hi]
  rfl
theorem wW_len (ad : Nat → Nat) (cy : Cy) (h : Hp) : (wW ad cy h).length = 45 := by unfold wW; simp
theorem wW_out (ad : Nat → Nat) (cy : Cy) (h : Hp) {i : Nat} (hi : ¬ i < 45) : (wW ad cy h)[i]? = none := List.getElem?_eq_none (by rw [wW_len]; omega)
theorem cK_lt {a : Nat} (h : (cK a).1 ≠ 0) : a < 45 := by
  rcases Nat.lt_or_ge a 45 with q | q
  · exact q
  · exfalso
    apply h
    unfold cK
    rw [List.getD_eq_getElem?_getD, List.getElem?_eq_none (show cKT.length ≤ a from q)]
    rfl
theorem wW_D {ad : Nat → Nat} (hi : ∀ i j : Nat, i < 45 → j < 45 → ad i = ad j → i = j) (cy : Cy) (h : Hp) : va_D (oA ad) (wW ad cy h) := by
  have key : ∀ (k : Nat) (q : Nat × va_E), (wW ad cy h)[k]? = some q → k < 45 ∧ q.1 = ad k := by
    intro k q hk
    by_cases hl : k < 45
    · rw [wW_at ad cy h hl] at hk
      cases hk
      exact ⟨hl, rfl⟩
    · rw [wW_out ad cy h hl] at hk
      cases hk
  refine ⟨fun i j p q h1 h2 e => ?_, fun k q hk => ?_⟩
  · obtain ⟨a1, b1⟩ := key i p h1
    obtain ⟨a2, b2⟩ := key j q h2
    exact hi i j a1 a2 (by rw [← b1, ← b2, e])
  · obtain ⟨a1, b1⟩ := key k q hk
    exact ⟨k, a1, b1⟩
/-- one cell changes, the others don't -/
theorem wW_set {ad : Nat → Nat} {cy : Cy} {h h' : Hp} {a : Nat} (ha : a < 45) {x : va_E} (hx : wE ad cy h' a = x) (ho : ∀ i, i < 45 → i ≠ a → wE ad cy h' i = wE ad cy h i) : (wW ad cy h).set a (ad a, x) = wW ad cy h' := by
  apply List.ext_getElem?
  intro j
  by_cases hj : j < 45
  · rw [wW_at ad cy h' hj]
    by_cases hja : j = a
    · subst hja
      rw [List.getElem?_set_self (by rw [wW_len]; exact hj), hx]
    · rw [List.getElem?_set_ne (Ne.symm hja), wW_at ad cy h hj, ho j hj hja]
  · rw [wW_out ad cy h' hj]
    exact List.getElem?_eq_none (by rw [List.length_set, wW_len]; omega)
theorem wE_o {ad : Nat → Nat} {cy : Cy} {h : Hp} {a ci : Nat} (hc : cK a = (1, ci, 0)) : wE ad cy h a = .inr (ci, (List.range (nF ci)).map (fV ad h a ci)) := by
  unfold wE; rw [hc]; rfl
theorem wE_i {ad : Nat → Nat} {cy : Cy} {h : Hp} {a n : Nat} (hc : cK a = (2, n, 0)) : wE ad cy h a = .inl (cy.1, n, .inl (h.2.1 a)) := by
  unfold wE; rw [hc]; rfl
theorem wE_j {ad : Nat → Nat} {cy : Cy} {h : Hp} {a n : Nat} (hc : cK a = (3, n, 0)) : wE ad cy h a = .inl (cy.2.1, n, .inr (.inl (h.2.2 a))) := by
  unfold wE; rw [hc]; rfl
theorem wE_r {ad : Nat → Nat} {cy : Cy} {h : Hp} {a n b : Nat} (hc : cK a = (4, n, b)) : wE ad cy h a = .inl (cy.2.2, n, .inr (.inr (.inr (.inr (fun j => some (ad (b + j))))))) := by
  unfold wE; rw [hc]; rfl
theorem sI_ne {h : Hp} {a k i : Nat} {v : Int32} (hi : i ≠ a) (j : Nat) : (sI h a k v).1 i j = h.1 i j := by simp [sI, hi]
theorem sI_2 {h : Hp} {a k : Nat} {v : Int32} : (sI h a k v).2 = h.2 := rfl
theorem sA_1 {h : Hp} {a : Nat} {f : Nat → Int32} : (sA h a f).1 = h.1 := rfl
theorem sA_3 {h : Hp} {a : Nat} {f : Nat → Int32} : (sA h a f).2.2 = h.2.2 := rfl
theorem sL_1 {h : Hp} {a : Nat} {f : Nat → Int64} : (sL h a f).1 = h.1 := rfl
theorem sL_2 {h : Hp} {a : Nat} {f : Nat → Int64} : (sL h a f).2.1 = h.2.1 := rfl
theorem wE_sI {ad : Nat → Nat} {cy : Cy} {h : Hp} {a k i : Nat} {v : Int32} (hi : i ≠ a) : wE ad cy (sI h a k v) i = wE ad cy h i := by
  unfold wE
  have : ∀ ci, fV ad (sI h a k v) i ci = fV ad h i ci := by
    intro ci
    funext j
    unfold fV
    rw [sI_ne hi]
  simp only [this, sI_2]
theorem wE_sA {ad : Nat → Nat} {cy : Cy} {h : Hp} {a i : Nat} {f : Nat → Int32} (hi : i ≠ a) : wE ad cy (sA h a f) i = wE ad cy h i := by
  unfold wE
  have h1 : (sA h a f).2.1 i = h.2.1 i := by simp [sA, hi]
  have : ∀ ci, fV ad (sA h a f) i ci = fV ad h i ci := fun ci => rfl
  simp only [this, h1, sA_3]
theorem wE_sL {ad : Nat → Nat} {cy : Cy} {h : Hp} {a i : Nat} {f : Nat → Int64} (hi : i ≠ a) : wE ad cy (sL h a f) i = wE ad cy h i := by
  unfold wE
  have h1 : (sL h a f).2.2 i = h.2.2 i := by simp [sL, hi]
  have : ∀ ci, fV ad (sL h a f) i ci = fV ad h i ci := fun ci => rfl
  simp only [this, h1, sL_2]
theorem set_map_range {α : Type} (f g : Nat → α) (n k : Nat) (x : α) (hk : g k = x) (ho : ∀ j, j ≠ k → g j = f j) : ((List.range n).map f).set k x = (List.range n).map g := by
  apply List.ext_getElem?
  intro j
  by_cases hj : j < n
  · by_cases hjk : j = k
    · subst hjk
      rw [List.getElem?_set_self (by simp; exact hj), List.getElem?_map, List.getElem?_range hj]
      simp [hk]
    · rw [List.getElem?_set_ne (Ne.symm hjk), List.getElem?_map, List.getElem?_map, List.getElem?_range hj]
      simp [ho j hjk]
  · rw [List.getElem?_eq_none (by simp; omega), List.getElem?_eq_none (by simp; omega)]
theorem wW_sI {ad : Nat → Nat} {cy : Cy} {h : Hp} {a ci k : Nat} {v : Int32} (hc : cK a = (1, ci, 0)) (hf : fO ci k < 2) : (wW ad cy h).set a (ad a, .inr (ci, ((List.range (nF ci)).map (fV ad h a ci)).set k (.int v))) = wW ad cy (sI h a k v) := by
  refine wW_set (cK_lt (by rw [hc]; simp)) ?_ (fun i _ hi => wE_sI hi)
  rw [wE_o hc]
  congr 2
  symm
  apply set_map_range
  · unfold fV
    rw [if_pos hf]
    simp [sI]
  · intro j hj
    unfold fV
    have : (sI h a k v).1 a j = h.1 a j := by simp [sI, hj]
    rw [this]
theorem wW_sA {ad : Nat → Nat} {cy : Cy} {h : Hp} {a n : Nat} {f : Nat → Int32} (hc : cK a = (2, n, 0)) : (wW ad cy h).set a (ad a, .inl (cy.1, n, .inl f)) = wW ad cy (sA h a f) := by
  refine wW_set (cK_lt (by rw [hc]; simp)) ?_ (fun i _ hi => wE_sA hi)
  rw [wE_i hc]
  simp [sA]
theorem wW_sL {ad : Nat → Nat} {cy : Cy} {h : Hp} {a n : Nat} {f : Nat → Int64} (hc : cK a = (3, n, 0)) : (wW ad cy h).set a (ad a, .inl (cy.2.1, n, .inr (.inl f))) = wW ad cy (sL h a f) := by
  refine wW_set (cK_lt (by rw [hc]; simp)) ?_ (fun i _ hi => wE_sL hi)
  rw [wE_j hc]
  simp [sL]
/-! the slots -/
def lr (ad : Nat → Nat) (vS : Value) (ls : Array Slot) (n : Nat) (L : List Value) : Prop := ls.size = n ∧ lv_wf ls ∧ ∀ (i : Nat) (v : Value), L[i]? = some v → v ≠ .null → ls[i]? = some (.val (rl ad vS v))
def tL (ad : Nat → Nat) (vS : Value) (L : List Value) : List (Nat × Value) := (List.range L.length).filterMap (fun i => match (L[i]? : Option Value) with
  | some .null => none
  | some v => some (i, rl ad vS v)
  | none => none)
theorem tL_mem {ad : Nat → Nat} {vS : Value} {L : List Value} {q : Nat × Value} : q ∈ tL ad vS L ↔ ∃ v, L[q.1]? = some v ∧ v ≠ .null ∧ q.2 = rl ad vS v := by
  unfold tL
  rw [List.mem_filterMap]
  constructor
  · rintro ⟨i, hi, e⟩
    cases hv : (L[i]? : Option Value) with
    | none => rw [hv] at e; cases e
    | some v =>
      rw [hv] at e
      by_cases hn : v = .null
      · subst hn
        cases e
      · have e7 : q = (i, rl ad vS v) := by
          cases v <;> first | exact absurd rfl hn | exact (Option.some.inj e).symm
        subst e7
        exact ⟨v, hv, hn, rfl⟩
  · rintro ⟨v, hv, hn, e⟩
    refine ⟨q.1, List.mem_range.mpr (List.getElem?_eq_some_iff.mp hv).1, ?_⟩
    rw [hv]
    obtain ⟨a, b⟩ := q
    simp only at e
    subst e
    cases v <;> first | rfl | exact absurd rfl hn
theorem lr_has {ad : Nat → Nat} {vS : Value} {ls : Array Slot} {n : Nat} {L : List Value} (h : lr ad vS ls n L) : lv_has ls n (tL ad vS L) := by
  refine ⟨h.1, h.2.1, fun q hq => ?_⟩
  obtain ⟨v, h1, h2, h3⟩ := tL_mem.mp hq
  rw [h.2.2 _ _ h1 h2, h3]
theorem rl_cat {ad : Nat → Nat} {vS : Value} (hv : vS.category = 1) {v : Value} (h : cat1 v = true) : (rl ad vS v).category = 1 := by
  cases v with
  | ref i =>
    unfold rl
    by_cases hi : i = 150
    · simp only [hi, if_true]; exact hv
    · simp only [hi, if_false]; rfl
  | _ => exact cat1_cat h
theorem rl_catE {ad : Nat → Nat} {vS : Value} (hv : vS.category = 1) (v : Value) : (rl ad vS v).category = v.category := by
  cases v with
  | ref i =>
    unfold rl
    by_cases hi : i = 150
    · simp only [hi, if_true]; exact hv
    · simp only [hi, if_false]; rfl
  | _ => rfl
theorem lr_st {ad : Nat → Nat} {vS : Value} (hv : vS.category = 1) {ls ls' : Array Slot} {n : Nat} {L : List Value} (h : lr ad vS ls n L) {i : Nat} {x : Value} (hx : cat1 x = true) (hb : bef L i = true)
    (h' : lv_has ls' n ((i, rl ad vS x) :: (tL ad vS L).filter (fun q => !(q.1 == i) && !(q.1 + 1 == i && q.2.category == 2)))) : lr ad vS ls' n (L.set i x) := by
  refine ⟨h'.1, h'.2.1, fun j v hj hn => ?_⟩
  by_cases hji : j = i
  · subst hji
    have hl : j < L.length := by
      have := (List.getElem?_eq_some_iff.mp hj).1
      rw [List.length_set] at this
      exact this
    rw [List.getElem?_set_self hl] at hj
    cases hj
    exact h'.2.2 (j, rl ad vS x) List.mem_cons_self
  · rw [List.getElem?_set_ne (Ne.symm hji)] at hj
    refine h'.2.2 (j, rl ad vS v) (List.mem_cons_of_mem _ (List.mem_filter.mpr ⟨tL_mem.mpr ⟨v, hj, hn, rfl⟩, ?_⟩))
    have h1 : (j == i) = false := by simpa using hji
    have h2 : (j + 1 == i && (rl ad vS v).category == 2) = false := by
      by_cases hq : j + 1 = i
      · subst hq
        have hb2 : cat1 v = true := by
          unfold bef at hb
          simp only at hb
          rw [List.getD_eq_getElem?_getD, hj] at hb
          exact hb
        rw [rl_cat hv hb2]
        simp
      · have : (j + 1 == i) = false := by simpa using hq
        rw [this]; rfl
    simp only [h1, h2]
    rfl
theorem lr_stJ {ad : Nat → Nat} {vS : Value} (hv : vS.category = 1) {ls ls' : Array Slot} {n : Nat} {L : List Value} (h : lr ad vS ls n L) {i : Nat} {x : Int64} (hb : bef L i = true)
    (h' : lv_has ls' n ((i, Value.long x) :: (tL ad vS L).filter (fun q => !(q.1 == i) && (!(q.1 == i + 1) && !(q.1 + 1 == i && q.2.category == 2))))) : lr ad vS ls' n ((L.set i (.long x)).set (i + 1) .null) := by
  refine ⟨h'.1, h'.2.1, fun j v hj hn => ?_⟩
  by_cases hj1 : j = i + 1
  · subst hj1
    have hl := (List.getElem?_eq_some_iff.mp hj).1
    rw [List.length_set] at hl
    rw [List.getElem?_set_self hl] at hj
    cases hj
    exact absurd rfl hn
  · rw [List.getElem?_set_ne (Ne.symm hj1)] at hj
    by_cases hji : j = i
    · subst hji
      have hl := (List.getElem?_eq_some_iff.mp hj).1
      rw [List.length_set] at hl
      rw [List.getElem?_set_self hl] at hj
      cases hj
      exact h'.2.2 (j, .long x) List.mem_cons_self
    · rw [List.getElem?_set_ne (Ne.symm hji)] at hj
      refine h'.2.2 (j, rl ad vS v) (List.mem_cons_of_mem _ (List.mem_filter.mpr ⟨tL_mem.mpr ⟨v, hj, hn, rfl⟩, ?_⟩))
      have h1 : (j == i) = false := by simpa using hji
      have h3 : (j == i + 1) = false := by simpa using hj1
      have h2 : (j + 1 == i && (rl ad vS v).category == 2) = false := by
        by_cases hq : j + 1 = i
        · subst hq
          have hb2 : cat1 v = true := by
            unfold bef at hb
            simp only at hb
            rw [List.getD_eq_getElem?_getD, hj] at hb
            exact hb
          rw [rl_cat hv hb2]
          simp
        · have : (j + 1 == i) = false := by simpa using hq
          rw [this]; rfl
      simp only [h1, h2, h3]
      rfl
theorem argL_mem {ad : Nat → Nat} {vS : Value} (hv : vS.category = 1) : ∀ (as : List Value) (k j : Nat) (v : Value), (argL as)[j]? = some v → v ≠ .null → (k + j, rl ad vS v) ∈ lv_args k (as.map (rl ad vS))
  | [], k, j, v, h, _ => by simp [argL] at h
  | a :: as, k, j, v, h, hn => by
    rw [argL] at h
    show (k + j, rl ad vS v) ∈ (k, rl ad vS a) :: lv_args (if (rl ad vS a).category = 2 then k + 2 else k + 1) (as.map (rl ad vS))
    rw [rl_catE hv]
    by_cases hc : a.category = 2
    · rw [if_pos hc] at h ⊢
      match j, h with
      | 0, h => simp only [List.getElem?_cons_zero, Option.some.injEq] at h; subst h; exact List.mem_cons_self
      | 1, h => simp only [List.getElem?_cons_succ, List.getElem?_cons_zero, Option.some.injEq] at h; exact absurd h.symm hn
      | j + 2, h =>
        simp only [List.getElem?_cons_succ] at h
        have := argL_mem (ad := ad) hv as (k + 2) j v h hn
        rw [show k + (j + 2) = k + 2 + j by omega]
        exact List.mem_cons_of_mem _ this
    · rw [if_neg hc] at h ⊢
      match j, h with
      | 0, h => simp only [List.getElem?_cons_zero, Option.some.injEq] at h; subst h; exact List.mem_cons_self
      | j + 1, h =>
        simp only [List.getElem?_cons_succ] at h
        have := argL_mem (ad := ad) hv as (k + 1) j v h hn
        rw [show k + (j + 1) = k + 1 + j by omega]
        exact List.mem_cons_of_mem _ this
theorem argL_len {ad : Nat → Nat} {vS : Value} (hv : vS.category = 1) : ∀ (as : List Value), (lg_sl (as.map (rl ad vS))).length = (argL as).length
  | [] => rfl
  | a :: as => by
    have ih := argL_len (ad := ad) hv as
    unfold lg_sl at ih ⊢
    rw [List.map_cons, List.flatMap_cons, List.length_append, ih, argL, rl_catE hv]
    by_cases hc : a.category = 2
    · rw [if_pos hc, if_pos hc]; simp; omega
    · rw [if_neg hc, if_neg hc]; simp; omega
theorem enL_lr {ad : Nat → Nat} {vS : Value} (hv : vS.category = 1) {M : mI} {as : List Value} (hl : (argL as).length ≤ M.n) : lr ad vS ((lg_sl (as.map (rl ad vS)) ++ List.replicate (M.n - (lg_sl (as.map (rl ad vS))).length) Slot.unset).toArray) M.n (enL M as) := by
  have hh := lv_entry (as.map (rl ad vS)) (n := M.n) (by rw [argL_len hv]; exact hl)
  refine ⟨hh.1, hh.2.1, fun j v hj hn => ?_⟩
  unfold enL at hj
  have hj2 : (argL as)[j]? = some v := by
    by_cases hq : j < (argL as).length
    · rwa [List.getElem?_append_left hq] at hj
    · rw [List.getElem?_append_right (by omega)] at hj
      have hj7 := List.mem_of_getElem? hj
      exact absurd (List.eq_of_mem_replicate hj7) hn
  have := argL_mem (ad := ad) hv as 0 j v hj2 hn
  rw [Nat.zero_add] at this
  exact hh.2.2 _ this
theorem enL_len {M : mI} {as : List Value} (hl : (argL as).length ≤ M.n) : (enL M as).length = M.n := by unfold enL; simp; omega
