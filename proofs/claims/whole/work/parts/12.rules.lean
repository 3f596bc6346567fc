/-! rules: an instruction, an equation of what comes behind -/
def gI (h : Hp) (o k : Nat) : Int32 := h.1 o k
def gA (h : Hp) (a : Nat) : Nat → Int32 := h.2.1 a
def gL (h : Hp) (a : Nat) : Nat → Int64 := h.2.2 a
def aN (a : Nat) : Nat := (cK a).2.1
theorem gI_sI (h : Hp) (o k : Nat) (v : Int32) (o' k' : Nat) : gI (sI h o k v) o' k' = if o' = o ∧ k' = k then v else gI h o' k' := by
  unfold gI sI
  by_cases h1 : o' = o <;> by_cases h2 : k' = k <;> simp [h1, h2]
theorem gI_sA (h : Hp) (a : Nat) (f : Nat → Int32) (o k : Nat) : gI (sA h a f) o k = gI h o k := rfl
theorem gI_sL (h : Hp) (a : Nat) (f : Nat → Int64) (o k : Nat) : gI (sL h a f) o k = gI h o k := rfl
theorem gA_sI (h : Hp) (o k : Nat) (v : Int32) (a : Nat) : gA (sI h o k v) a = gA h a := rfl
theorem gA_sA (h : Hp) (a : Nat) (f : Nat → Int32) (b : Nat) : gA (sA h a f) b = if b = a then f else gA h b := rfl
theorem gA_sL (h : Hp) (a : Nat) (f : Nat → Int64) (b : Nat) : gA (sL h a f) b = gA h b := rfl
theorem gL_sI (h : Hp) (o k : Nat) (v : Int32) (a : Nat) : gL (sI h o k v) a = gL h a := rfl
theorem gL_sA (h : Hp) (a : Nat) (f : Nat → Int32) (b : Nat) : gL (sA h a f) b = gL h b := rfl
theorem gL_sL (h : Hp) (a : Nat) (f : Nat → Int64) (b : Nat) : gL (sL h a f) b = if b = a then f else gL h b := rfl
section RULES
variable {E : En} {M : mI} {pc : Nat} {L st : List Value} {h : Hp} {Q : Option Value → Hp → Prop}
theorem r_ref {i z k w : Nat} {x : Nat} {j : Instr} (hx : x < 150) (hl : L[i]? = some (.ref x)) (e : stp E M pc L st h = ldR L i w st h) : Ev E M pc L st h Q = Ev E M w L (.ref x :: st) h Q := ev_nx (by rw [e]; unfold ldR; rw [hl]; exact if_pos hx)
theorem r_int {i w : Nat} {x : Int32} (hl : L[i]? = some (.int x)) (e : stp E M pc L st h = ldI L i w st h) : Ev E M pc L st h Q = Ev E M w L (.int x :: st) h Q := ev_nx (by rw [e]; unfold ldI; rw [hl])
theorem r_long {i w : Nat} {x : Int64} (hl : L[i]? = some (.long x)) (e : stp E M pc L st h = ldJ L i w st h) : Ev E M pc L st h Q = Ev E M w L (.long x :: st) h Q := ev_nx (by rw [e]; unfold ldJ; rw [hl])
theorem r_toI {i w : Nat} {x : Int32} (hl : i < L.length) (hb : bef L i = true) (e : stp E M pc L (.int x :: st) h = toI L i w (.int x :: st) h) : Ev E M pc L (.int x :: st) h Q = Ev E M w (L.set i (.int x)) st h Q := ev_nx (by rw [e]; exact if_pos ⟨hl, hb⟩)
theorem r_toR {i w : Nat} {x : Nat} (hx : x < 150) (hl : i < L.length) (hb : bef L i = true) (e : stp E M pc L (.ref x :: st) h = toR L i w (.ref x :: st) h) : Ev E M pc L (.ref x :: st) h Q = Ev E M w (L.set i (.ref x)) st h Q := ev_nx (by rw [e]; exact if_pos ⟨hl, hb, hx⟩)
theorem r_toJ {i w : Nat} {x : Int64} (hl : i + 1 < L.length) (hb : bef L i = true) (e : stp E M pc L (.long x :: st) h = toJ L i w (.long x :: st) h) : Ev E M pc L (.long x :: st) h Q = Ev E M w ((L.set i (.long x)).set (i + 1) .null) st h Q := ev_nx (by rw [e]; exact if_pos ⟨hl, hb⟩)
theorem r_inc {i w : Nat} {z : Int} {x : Int32} (hl : L[i]? = some (.int x)) (hn : i < L.length) (hb : bef L i = true) (e : stp E M pc L st h = incI L i z w st h) : Ev E M pc L st h Q = Ev E M w (L.set i (.int (x + Int32.ofInt z))) st h Q := ev_nx (by rw [e]; unfold incI; rw [hl]; exact if_pos ⟨hn, hb⟩)
theorem r_div {w : Nat} {x y : Int32} {f : Int32 → Int32 → Int32} (hy : ¬ y = 0) (e : stp E M pc L (.int y :: .int x :: st) h = op2d f w L (.int y :: .int x :: st) h) : Ev E M pc L (.int y :: .int x :: st) h Q = Ev E M w L (.int (f x y) :: st) h Q := ev_nx (by rw [e]; exact if_neg hy)
theorem r_br1 {k : Jvm.ClassFile.Cond} {z : Int} {t : Nat} {x : Int32} (ht : pT pc z = some t) (e : stp E M pc L (.int x :: st) h = br1 k z pc L (.int x :: st) h) : Ev E M pc L (.int x :: st) h Q = if pC k x 0 = true then Ev E M t L st h Q else Ev E M (pc + 3) L st h Q := by
  by_cases hc : pC k x 0 = true
  · rw [if_pos hc]; exact ev_nx (by rw [e]; unfold br1; simp only [ht]; exact if_pos hc)
  · rw [if_neg hc]; exact ev_nx (by rw [e]; unfold br1; simp only [ht]; exact if_neg hc)
theorem r_br2 {k : Jvm.ClassFile.Cond} {z : Int} {t : Nat} {x y : Int32} (ht : pT pc z = some t) (e : stp E M pc L (.int y :: .int x :: st) h = br2 k z pc L (.int y :: .int x :: st) h) : Ev E M pc L (.int y :: .int x :: st) h Q = if pC k x y = true then Ev E M t L st h Q else Ev E M (pc + 3) L st h Q := by
  by_cases hc : pC k x y = true
  · rw [if_pos hc]; exact ev_nx (by rw [e]; unfold br2; simp only [ht]; exact if_pos hc)
  · rw [if_neg hc]; exact ev_nx (by rw [e]; unfold br2; simp only [ht]; exact if_neg hc)
theorem r_jmp {z : Int} {t : Nat} (ht : pT pc z = some t) (e : stp E M pc L st h = jmp (pT pc z) L st h) : Ev E M pc L st h Q = Ev E M t L st h Q := ev_nx (by rw [e, ht]; rfl)
theorem r_getI {a w ci f k : Nat} (hf : lk fTab M.c k = some (ci, f)) (ho : fO ci f < 2) (ha : cK a = (1, ci, 0)) (e : stp E M pc L (.ref a :: st) h = getf M.c k pc L (.ref a :: st) h) : Ev E M pc L (.ref a :: st) h Q = Ev E M (pc + 3) L (.int (gI h a f) :: st) h Q := ev_nx (by
  rw [e]
  unfold getf pGet
  simp only [hf, ha, if_true, ho]
  rfl)
theorem r_getR {a b ci f k : Nat} (hf : lk fTab M.c k = some (ci, f)) (ho : ¬ fO ci f < 2) (ha : cK a = (1, ci, 0)) (hb : a + (fO ci f - 2) = b) (e : stp E M pc L (.ref a :: st) h = getf M.c k pc L (.ref a :: st) h) : Ev E M pc L (.ref a :: st) h Q = Ev E M (pc + 3) L (.ref b :: st) h Q := ev_nx (by
  rw [e]
  unfold getf pGet
  simp only [hf, ha, if_true, ho, if_false, hb])
theorem r_putI {a ci f k : Nat} {v : Int32} (hf : lk fTab M.c k = some (ci, f)) (ho : fO ci f = 0) (ha : cK a = (1, ci, 0)) (e : stp E M pc L (.int v :: .ref a :: st) h = putf M.c k pc L (.int v :: .ref a :: st) h) : Ev E M pc L (.int v :: .ref a :: st) h Q = Ev E M (pc + 3) L st (sI h a f v) Q := ev_nx (by
  rw [e]
  unfold putf
  simp only [hf]
  exact if_pos ⟨ha, Or.inl ho⟩)
theorem r_putZ {a ci f k : Nat} {v : Int32} (hf : lk fTab M.c k = some (ci, f)) (ho : fO ci f = 1) (hv : v = 0 ∨ v = 1) (ha : cK a = (1, ci, 0)) (e : stp E M pc L (.int v :: .ref a :: st) h = putf M.c k pc L (.int v :: .ref a :: st) h) : Ev E M pc L (.int v :: .ref a :: st) h Q = Ev E M (pc + 3) L st (sI h a f v) Q := ev_nx (by
  rw [e]
  unfold putf
  simp only [hf]
  exact if_pos ⟨ha, Or.inr ⟨ho, hv⟩⟩)
theorem r_iald {a w : Nat} {i : Int32} (h0 : a < 45) (ha : cK a = (2, aN a, 0)) (hi : pIn i (aN a) = true) (e : stp E M pc L (.int i :: .ref a :: st) h = iald E M.c w L (.int i :: .ref a :: st) h) : Ev E M pc L (.int i :: .ref a :: st) h Q = Ev E M w L (.int (gA h a i.toNatClampNeg) :: st) h Q := ev_nx (by
  rw [e]
  show (if a = 140 then _ else if a = 141 then _ else if a = 142 then _ else _) = _
  rw [if_neg (by omega), if_neg (by omega), if_neg (by omega)]
  exact if_pos ⟨ha, hi⟩)
theorem r_iast {a w : Nat} {i x : Int32} (ha : cK a = (2, aN a, 0)) (hi : pIn i (aN a) = true) (e : stp E M pc L (.int x :: .int i :: .ref a :: st) h = iast w L (.int x :: .int i :: .ref a :: st) h) : Ev E M pc L (.int x :: .int i :: .ref a :: st) h Q = Ev E M w L st (sA h a (upd (gA h a) i.toNatClampNeg x)) Q := ev_nx (by rw [e]; exact if_pos ⟨ha, hi⟩)
theorem r_lald {a w : Nat} {i : Int32} (ha : cK a = (3, aN a, 0)) (hi : pIn i (aN a) = true) (e : stp E M pc L (.int i :: .ref a :: st) h = lald w L (.int i :: .ref a :: st) h) : Ev E M pc L (.int i :: .ref a :: st) h Q = Ev E M w L (.long (gL h a i.toNatClampNeg) :: st) h Q := ev_nx (by rw [e]; exact if_pos ⟨ha, hi⟩)
theorem r_last {a w : Nat} {i : Int32} {x : Int64} (ha : cK a = (3, aN a, 0)) (hi : pIn i (aN a) = true) (e : stp E M pc L (.long x :: .int i :: .ref a :: st) h = last w L (.long x :: .int i :: .ref a :: st) h) : Ev E M pc L (.long x :: .int i :: .ref a :: st) h Q = Ev E M w L st (sL h a (vp_updL (gL h a) i.toNatClampNeg x)) Q := ev_nx (by rw [e]; exact if_pos ⟨ha, hi⟩)
theorem r_rald {w : Nat} {i : Int32} (hi : pIn i 4 = true) (e : stp E M pc L (.int i :: .ref 24 :: st) h = rald w L (.int i :: .ref 24 :: st) h) : Ev E M pc L (.int i :: .ref 24 :: st) h Q = Ev E M w L (.ref (25 + i.toNatClampNeg) :: st) h Q := ev_nx (by rw [e]; exact if_pos ⟨rfl, hi⟩)
theorem r_ab {w : Nat} {i : Int32} (hi : pIn i 6 = true) (e : stp E M pc L (.int i :: .ref 140 :: st) h = iald E M.c w L (.int i :: .ref 140 :: st) h) : Ev E M pc L (.int i :: .ref 140 :: st) h Q = Ev E M w L (.int (abT.getD i.toNatClampNeg 0) :: st) h Q := ev_nx (by rw [e]; exact if_pos hi)
theorem r_na {w : Nat} {i : Int32} (hi : pIn i 70 = true) (e : stp E M pc L (.int i :: .ref 141 :: st) h = iald E M.c w L (.int i :: .ref 141 :: st) h) : Ev E M pc L (.int i :: .ref 141 :: st) h Q = Ev E M w L (.int (naT.getD i.toNatClampNeg 0) :: st) h Q := ev_nx (by rw [e]; exact if_pos hi)
theorem r_sc {w : Nat} {i : Int32} (hc : M.c = 13) (hi : pIn i E.2 = true) (e : stp E M pc L (.int i :: .ref 142 :: st) h = iald E M.c w L (.int i :: .ref 142 :: st) h) : Ev E M pc L (.int i :: .ref 142 :: st) h Q = Ev E M w L (.int (E.1 i.toNatClampNeg) :: st) h Q := ev_nx (by rw [e]; exact if_pos ⟨hc, hi⟩)
theorem r_slen {w : Nat} (hc : M.c = 13) (e : stp E M pc L (.ref 142 :: st) h = alen E M.c w L (.ref 142 :: st) h) : Ev E M pc L (.ref 142 :: st) h Q = Ev E M w L (.int (nI E.2) :: st) h Q := ev_nx (by rw [e]; exact if_pos hc)
theorem r_bald {a w : Nat} {i : Int32} (ha : 120 ≤ a ∧ a < 131) (hi : pIn i (byT.getD (a - 120) []).length = true) (e : stp E M pc L (.int i :: .ref a :: st) h = bald w L (.int i :: .ref a :: st) h) : Ev E M pc L (.int i :: .ref a :: st) h Q = Ev E M w L (.int ((byT.getD (a - 120) []).getD i.toNatClampNeg 0) :: st) h Q := ev_nx (by rw [e]; exact if_pos ⟨ha, hi⟩)
theorem r_blen {a w : Nat} (ha : 120 ≤ a ∧ a < 131) (e : stp E M pc L (.ref a :: st) h = alen E M.c w L (.ref a :: st) h) : Ev E M pc L (.ref a :: st) h Q = Ev E M w L (.int (nI (byT.getD (a - 120) []).length) :: st) h Q := ev_nx (by
  rw [e]
  show (if a = 142 then _ else _) = _
  rw [if_neg (by omega)]
  exact if_pos ha)
theorem r_getS {a k : Nat} (hf : lk fTab M.c k = none) (hs : lk sfTab M.c k = some 0) (ha : 100 ≤ a ∧ a < 111) (e : stp E M pc L (.ref a :: st) h = getf M.c k pc L (.ref a :: st) h) : Ev E M pc L (.ref a :: st) h Q = Ev E M (pc + 3) L (.ref (a + 20) :: st) h Q := ev_nx (by
  rw [e]
  unfold getf pGet
  simp only [hf, hs, if_pos ha])
theorem r_getT {a k : Nat} (hf : lk fTab M.c k = none) (hs : lk sfTab M.c k = some 1) (ha : 100 ≤ a ∧ a < 111) (e : stp E M pc L (.ref a :: st) h = getf M.c k pc L (.ref a :: st) h) : Ev E M pc L (.ref a :: st) h Q = Ev E M (pc + 3) L (.int 0 :: st) h Q := ev_nx (by
  rw [e]
  unfold getf pGet
  simp only [hf, hs, if_pos ha])
theorem r_gets {k : Nat} {v : Value} (hv : lk gTab M.c k = some v) (d : decode M.b pc = .ok (.getstatic k, 3)) : Ev E M pc L st h Q = Ev E M (pc + 3) L (v :: st) h Q := ev_nx (by
  rw [stp_of d]
  show (if 3 = 3 then _ else none) = _
  rw [if_pos rfl, hv]
  rfl)
theorem r_ldc {k : Nat} {v : Int32} (hv : lk cTab M.c k = some v) (d : decode M.b pc = .ok (.ldc k, 2)) : Ev E M pc L st h Q = Ev E M (pc + 2) L (.int v :: st) h Q := ev_nx (by
  rw [stp_of d]
  show (if 2 = 2 then ldkS M k (pc + 2) L st h else none) = _
  rw [if_pos rfl]
  unfold ldkS
  rw [hv])
theorem r_ldcw {k : Nat} {v : Int32} (hv : lk cTab M.c k = some v) (d : decode M.b pc = .ok (.ldc_w k, 3)) : Ev E M pc L st h Q = Ev E M (pc + 3) L (.int v :: st) h Q := ev_nx (by
  rw [stp_of d]
  show (if 3 = 3 then ldk M k (pc + 3) L st h else none) = _
  rw [if_pos rfl]
  unfold ldk
  rw [hv])
theorem r_ldcS {k j b : Nat} (hv : lk cTab M.c k = none) (hj : lk stTab M.c k = some j) (hb : 100 + j = b) (d : decode M.b pc = .ok (.ldc k, 2)) : Ev E M pc L st h Q = Ev E M (pc + 2) L (.ref b :: st) h Q := ev_nx (by
  rw [stp_of d]
  show (if 2 = 2 then ldkS M k (pc + 2) L st h else none) = _
  rw [if_pos rfl]
  unfold ldkS
  simp only [hv, hj, hb])
theorem r_ldcJ {k : Nat} {v : Int64} (hv : lk clTab M.c k = some v) (d : decode M.b pc = .ok (.ldc2_w k, 3)) : Ev E M pc L st h Q = Ev E M (pc + 3) L (.long v :: st) h Q := ev_nx (by
  rw [stp_of d]
  show (if 3 = 3 then _ else none) = _
  rw [if_pos rfl, hv]
  rfl)
theorem r_cV {k na b : Nat} {M' : mI} {r as : List Value} (hk : lk mTab M.c k = some (1, na, M')) (hs : st.drop na = .ref b :: r) (ha : (st.take na).reverse = as) (h1 : na ≤ st.length) (h3 : fitsR M M' (.ref b :: as) r = true) (h2 : rcv b M' = true) (d : decode M.b pc = .ok (.invokevirtual k, 3)) : Ev E M pc L st h Q = Ev E M' 0 (enL M' (.ref b :: as)) [] h (fun v h' => Ev E M (pc + 3) L (v.toList ++ r) h' Q) := ev_ca (by
  rw [stp_of d]
  show (if 3 = 3 then cV M k st else none) = _
  rw [if_pos rfl]
  unfold cV
  subst ha
  simp only [hk, hs]
  exact if_pos ⟨h1, h2, h3⟩)
theorem r_cS {k na : Nat} {M' : mI} {r as : List Value} (hA : lk aTab M.c k = none) (hX : lk xTab M.c k = none) (hk : lk mTab M.c k = some (0, na, M')) (hs : st.drop na = r) (ha : (st.take na).reverse = as) (h1 : na ≤ st.length) (h3 : fitsR M M' as r = true) (d : decode M.b pc = .ok (.invokestatic k, 3)) : Ev E M pc L st h Q = Ev E M' 0 (enL M' as) [] h (fun v h' => Ev E M (pc + 3) L (v.toList ++ r) h' Q) := ev_ca (by
  rw [stp_of d]
  show (if 3 = 3 then cS M k pc L st h else none) = _
  rw [if_pos rfl]
  unfold cS
  subst ha
  subst hs
  simp only [hA, hX, hk]
  exact if_pos ⟨h1, h3⟩)
theorem r_min {k : Nat} {x y : Int32} (hA : lk aTab M.c k = none) (hX : lk xTab M.c k = some 0) (h1 : 1 ≤ M.f ∧ (st.map fun v => v.category).sum + 13 ≤ M.w) (d : decode M.b pc = .ok (.invokestatic k, 3)) : Ev E M pc L (.int y :: .int x :: st) h Q = Ev E M (pc + 3) L (.int (if y < x then y else x) :: st) h Q := ev_nx (by
  rw [stp_of d]
  show (if 3 = 3 then cS M k pc L _ h else none) = _
  rw [if_pos rfl]
  unfold cS
  simp only [hA, hX]
  exact if_pos h1)
theorem r_max {k : Nat} {x y : Int32} (hA : lk aTab M.c k = none) (hX : lk xTab M.c k = some 1) (h1 : 1 ≤ M.f ∧ (st.map fun v => v.category).sum + 13 ≤ M.w) (d : decode M.b pc = .ok (.invokestatic k, 3)) : Ev E M pc L (.int y :: .int x :: st) h Q = Ev E M (pc + 3) L (.int (if x < y then y else x) :: st) h Q := ev_nx (by
  rw [stp_of d]
  show (if 3 = 3 then cS M k pc L _ h else none) = _
  rw [if_pos rfl]
  unfold cS
  simp only [hA, hX]
  exact if_pos h1)
theorem r_abs {k : Nat} {x : Int32} (hA : lk aTab M.c k = none) (hX : lk xTab M.c k = some 2) (h1 : 1 ≤ M.f ∧ (st.map fun v => v.category).sum + 13 ≤ M.w) (d : decode M.b pc = .ok (.invokestatic k, 3)) : Ev E M pc L (.int x :: st) h Q = Ev E M (pc + 3) L (.int (if 0 ≤ x then x else 0 - x) :: st) h Q := ev_nx (by
  rw [stp_of d]
  show (if 3 = 3 then cS M k pc L _ h else none) = _
  rw [if_pos rfl]
  unfold cS
  simp only [hA, hX]
  exact if_pos h1)
theorem r_cpI {k a b : Nat} {n dp sp : Int32} {u : Unit} (hA : lk aTab M.c k = some u) (hb : cK b = (2, aN b, 0)) (ha : cK a = (2, aN a, 0)) (h0 : ¬ sp < 0 ∧ ¬ dp < 0 ∧ ¬ n < 0) (h1 : sp.toNatClampNeg + n.toNatClampNeg ≤ aN b) (h2 : dp.toNatClampNeg + n.toNatClampNeg ≤ aN a) (h3 : 1 ≤ M.f ∧ (st.map fun v => v.category).sum + 20 ≤ M.w) (d : decode M.b pc = .ok (.invokestatic k, 3)) : Ev E M pc L (.int n :: .int dp :: .ref a :: .int sp :: .ref b :: st) h Q = Ev E M (pc + 3) L st (sA h a (va_cpy (gA h b) (gA h a) sp.toNatClampNeg dp.toNatClampNeg n.toNatClampNeg)) Q := ev_nx (by
  rw [stp_of d]
  show (if 3 = 3 then cS M k pc L _ h else none) = _
  rw [if_pos rfl]
  unfold cS
  simp only [hA]
  unfold cpy
  simp only
  rw [if_pos ⟨h0, h1, h2, h3⟩]
  exact if_pos ⟨hb, ha⟩)
theorem r_cpL {k a b : Nat} {n dp sp : Int32} {u : Unit} (hA : lk aTab M.c k = some u) (hb : cK b = (3, aN b, 0)) (ha : cK a = (3, aN a, 0)) (h0 : ¬ sp < 0 ∧ ¬ dp < 0 ∧ ¬ n < 0) (h1 : sp.toNatClampNeg + n.toNatClampNeg ≤ aN b) (h2 : dp.toNatClampNeg + n.toNatClampNeg ≤ aN a) (h3 : 1 ≤ M.f ∧ (st.map fun v => v.category).sum + 20 ≤ M.w) (d : decode M.b pc = .ok (.invokestatic k, 3)) : Ev E M pc L (.int n :: .int dp :: .ref a :: .int sp :: .ref b :: st) h Q = Ev E M (pc + 3) L st (sL h a (va_cpy (gL h b) (gL h a) sp.toNatClampNeg dp.toNatClampNeg n.toNatClampNeg)) Q := ev_nx (by
  rw [stp_of d]
  show (if 3 = 3 then cS M k pc L _ h else none) = _
  rw [if_pos rfl]
  unfold cS
  simp only [hA]
  unfold cpy
  simp only
  rw [if_pos ⟨h0, h1, h2, h3⟩]
  rw [if_neg (fun z7 => by rw [z7.1] at hb; simp at hb)]
  exact if_pos ⟨hb, ha⟩)
theorem r_rtI {v : Int32} {ty : FieldType} (hr : M.r = some ty) (ht : ty = .int ∨ (ty = .boolean ∧ (v = 0 ∨ v = 1)) ∨ ((ty = .char ∨ ty = .byte) ∧ narrow ty (.int v) = .int v)) (d : decode M.b pc = .ok (.ireturn, 1)) : Ev E M pc L [.int v] h Q = Q (some (.int v)) h := ev_rt (by
  rw [stp_of d]
  show (if 1 = 1 then rtI M [.int v] h else none) = _
  rw [if_pos rfl]
  unfold rtI
  rcases ht with rfl | ⟨rfl, hv⟩ | ⟨rfl | rfl, hv⟩
  · simp only [hr]
  · simp only [hr]; exact if_pos hv
  · simp only [hr]; exact if_pos hv
  · simp only [hr]; exact if_pos hv)
theorem r_rtJ {v : Int64} (hr : M.r = some .long) (d : decode M.b pc = .ok (.lreturn, 1)) : Ev E M pc L [.long v] h Q = Q (some (.long v)) h := ev_rt (by
  rw [stp_of d]
  show (if 1 = 1 then rtJ M [.long v] h else none) = _
  rw [if_pos rfl]
  exact if_pos hr)
theorem r_rtR {a : Nat} (hr : M.r = some (.object "java/lang/String")) (ha : a < 150) (d : decode M.b pc = .ok (.areturn, 1)) : Ev E M pc L [.ref a] h Q = Q (some (.ref a)) h := ev_rt (by
  rw [stp_of d]
  show (if 1 = 1 then rtR M [.ref a] h else none) = _
  rw [if_pos rfl]
  exact if_pos ⟨ha, hr⟩)
theorem r_rtV (hr : M.r = none) (d : decode M.b pc = .ok (.return_, 1)) : Ev E M pc L [] h Q = Q none h := ev_rt (by
  rw [stp_of d]
  show (if 1 = 1 then rtV M [] h else none) = _
  rw [if_pos rfl]
  exact if_pos hr)
theorem r_tsO {dd lo hi : Int} {offs : Array Int} {ln t : Nat} {x : Int32} (hx : x.toInt < lo ∨ hi < x.toInt) (ht : pT pc dd = some t) (d : decode M.b pc = .ok (.tableswitch dd lo hi offs, ln)) : Ev E M pc L (.int x :: st) h Q = Ev E M t L st h Q := ev_nx (by
  rw [stp_of d]
  show tsw pc dd lo hi offs L (.int x :: st) h = _
  unfold tsw
  simp only
  rw [if_pos hx, ht]
  rfl)
theorem r_tsI {dd lo hi o : Int} {offs : Array Int} {ln t : Nat} {x : Int32} (hx : ¬ (x.toInt < lo ∨ hi < x.toInt)) (ho : offs[(x.toInt - lo).toNat]? = some o) (ht : pT pc o = some t) (d : decode M.b pc = .ok (.tableswitch dd lo hi offs, ln)) : Ev E M pc L (.int x :: st) h Q = Ev E M t L st h Q := ev_nx (by
  rw [stp_of d]
  show tsw pc dd lo hi offs L (.int x :: st) h = _
  unfold tsw
  simp only
  rw [if_neg hx, ho]
  simp only [ht]
  rfl)
theorem r_ls {dd o : Int} {ps : Array (Int × Int)} {ln t : Nat} {x : Int32} (hs : (ps.toList.zip (ps.toList.drop 1)).all (fun (a, next) => a.1 < next.1) = true) (ho : Op.lookupswitch.offset ps.toList dd x.toInt = o) (ht : pT pc o = some t) (d : decode M.b pc = .ok (.lookupswitch dd ps, ln)) : Ev E M pc L (.int x :: st) h Q = Ev E M t L st h Q := ev_nx (by
  rw [stp_of d]
  show lsw pc dd ps L (.int x :: st) h = _
  unfold lsw
  simp only
  rw [if_pos hs, ho, ht]
  rfl)
end RULES
