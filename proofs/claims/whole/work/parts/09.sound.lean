/-! what the pure machine does, the machine does -/
def CKf (ad : Nat → Nat) (vS : Value) (A : Nat → Prop) (U : State) (H : Heap) : Prop :=
  (va_Z "ViewTrades$Kinds" "ABOVE" "[I" (.ref (ad 140)) A U H ∧ va_T .int (ad 140) 6 (fun j => .int (abT.getD j 0)) A U H) ∧
  (va_Z "ViewTradesModel" "NAMES" "[I" (.ref (ad 141)) A U H ∧ va_T .int (ad 141) 70 (fun j => .int (naT.getD j 0)) A U H) ∧
  va_Z "java/lang/String" "COMPACT_STRINGS" "Z" (.int 1) A U H ∧
  va_Z "jdk/internal/util/Preconditions" "SIOOBE_FORMATTER" "Ljava/util/function/BiFunction;" vS A U H ∧
  vk_S 11 (byT.map List.length) byT (fun i => ad (100 + i)) (fun i => ad (120 + i)) A U H ∧
  (∀ q ∈ stTab, vk_R (ownN q.1) q.2.1 (txT.getD q.2.2 "") (ad (100 + q.2.2)) U)
theorem CKf.go {ad : Nat → Nat} {vS : Value} {A : Nat → Prop} {s U : State} {H : Heap} {locs : List Loc} (h : CKf ad vS A s s.heap) (hS : va_S A s.heap H locs) (hW : s.WarmedH U.vm) (hU : U.heap = H) : CKf ad vS A U U.heap := by
  obtain ⟨⟨a1, a2⟩, ⟨b1, b2⟩, c1, d1, e1, f1⟩ := h
  have hq : ∀ a : Nat, a < s.heap.size → ¬ A a → U.heap[a]? = s.heap[a]? := fun a h1 h2 => by rw [hU]; exact hS.2.1 a h1 h2
  exact ⟨⟨(a1.moved hW.alike).kept hq, (a2.moved hW.alike).kept hq⟩, ⟨(b1.moved hW.alike).kept hq, (b2.moved hW.alike).kept hq⟩, (c1.moved hW.alike).kept hq, (d1.moved hW.alike).kept hq, (e1.moved hW.alike).kept hq, fun q hq7 => (f1 q hq7).warm hW⟩
theorem CKf.call {ad : Nat → Nat} {vS : Value} {A : Nat → Prop} {U : State} {g : JFrame} {mk : MethodId} {a : Array Value} (h : CKf ad vS A U U.heap) : CKf ad vS A (U.calling g mk a) (U.calling g mk a).heap := by
  obtain ⟨⟨a1, a2⟩, ⟨b1, b2⟩, c1, d1, e1, f1⟩ := h
  have hv : U.vm.Alike (U.calling g mk a).vm := Vm.Alike.refl U.vm
  exact ⟨⟨a1.moved hv, a2.moved hv⟩, ⟨b1.moved hv, b2.moved hv⟩, c1.moved hv, d1.moved hv, e1.moved hv, fun q hq7 => vk_R.same (u := U) rfl (f1 q hq7)⟩
def Cx (E : En) (ad : Nat → Nat) (vS : Value) (cy : Cy) (D : va_G) (M : mI) (p : Program) (R : Room) (s : State) (m : MethodId) (args : Array Value) (c : Code) : Prop :=
  p.tables.exec = Jvm.exec ∧ c.code = M.b ∧ c.maxLocals = M.n ∧ s.vm.findClass (ownN M.c) = some m.cls ∧ (∀ w ∈ WT, w.before args s = true) ∧ va_K D cls7 (tyW cy) s ∧ CKf ad vS (oA ad) s s.heap ∧ vS.category = 1 ∧ (∀ i j : Nat, i < 45 → j < 45 → ad i = ad j → i = j) ∧ (M.c = 13 → va_X (ad 142) E.2 E.1 s s.heap ∧ ad 142 < s.heap.size ∧ ¬ oA ad (ad 142) ∧ E.2 < 2 ^ 31) ∧ R.frames = M.f ∧ R.locals = M.w
theorem pN_q {pc : Nat} {L st : List Value} {h : Hp} {q : Cf} (e : pN pc L st h = some (.inl q)) : q = (pc, L, st, h) := (Sum.inl.inj (Option.some.inj e)).symm
theorem ifq {α : Type} {c : Prop} [Decidable c] {a : Option α} {q : α} (e : (if c then a else none) = some q) : c ∧ a = some q := by
  by_cases hc : c
  · rw [if_pos hc] at e; exact ⟨hc, e⟩
  · rw [if_neg hc] at e; cases e
theorem ifn {α : Type} {c : Prop} [Decidable c] {a : Option α} {q : α} (e : (if c then none else a) = some q) : ¬ c ∧ a = some q := by
  by_cases hc : c
  · rw [if_pos hc] at e; cases e
  · rw [if_neg hc] at e; exact ⟨hc, e⟩
theorem ldI_q {L st : List Value} {i pc : Nat} {h : Hp} {q : Cf} (e : ldI L i pc st h = some (.inl q)) : ∃ x, L[i]? = some (.int x) ∧ q = (pc, L, .int x :: st, h) := by
  unfold ldI at e
  split at e
  · exact ⟨_, by assumption, pN_q e⟩
  · cases e
theorem ldJ_q {L st : List Value} {i pc : Nat} {h : Hp} {q : Cf} (e : ldJ L i pc st h = some (.inl q)) : ∃ x, L[i]? = some (.long x) ∧ q = (pc, L, .long x :: st, h) := by
  unfold ldJ at e
  split at e
  · exact ⟨_, by assumption, pN_q e⟩
  · cases e
theorem ldR_q {L st : List Value} {i pc : Nat} {h : Hp} {q : Cf} (e : ldR L i pc st h = some (.inl q)) : ∃ x, x < 150 ∧ L[i]? = some (.ref x) ∧ q = (pc, L, .ref x :: st, h) := by
  unfold ldR at e
  split at e
  · obtain ⟨h1, h2⟩ := ifq e
    exact ⟨_, h1, by assumption, pN_q h2⟩
  · cases e
theorem toI_q {L st : List Value} {i pc : Nat} {h : Hp} {q : Cf} (e : toI L i pc st h = some (.inl q)) : ∃ x r, st = .int x :: r ∧ i < L.length ∧ bef L i = true ∧ q = (pc, L.set i (.int x), r, h) := by
  unfold toI at e
  split at e
  · obtain ⟨h1, h2⟩ := ifq e
    exact ⟨_, _, rfl, h1.1, h1.2, pN_q h2⟩
  · cases e
theorem toR_q {L st : List Value} {i pc : Nat} {h : Hp} {q : Cf} (e : toR L i pc st h = some (.inl q)) : ∃ x r, st = .ref x :: r ∧ x < 150 ∧ i < L.length ∧ bef L i = true ∧ q = (pc, L.set i (.ref x), r, h) := by
  unfold toR at e
  split at e
  · obtain ⟨h1, h2⟩ := ifq e
    exact ⟨_, _, rfl, h1.2.2, h1.1, h1.2.1, pN_q h2⟩
  · cases e
theorem toJ_q {L st : List Value} {i pc : Nat} {h : Hp} {q : Cf} (e : toJ L i pc st h = some (.inl q)) : ∃ x r, st = .long x :: r ∧ i + 1 < L.length ∧ bef L i = true ∧ q = (pc, (L.set i (.long x)).set (i + 1) .null, r, h) := by
  unfold toJ at e
  split at e
  · obtain ⟨h1, h2⟩ := ifq e
    exact ⟨_, _, rfl, h1.1, h1.2, pN_q h2⟩
  · cases e
theorem incI_q {L st : List Value} {i pc : Nat} {k : Int} {h : Hp} {q : Cf} (e : incI L i k pc st h = some (.inl q)) : ∃ x, L[i]? = some (.int x) ∧ i < L.length ∧ bef L i = true ∧ q = (pc, L.set i (.int (x + Int32.ofInt k)), st, h) := by
  unfold incI at e
  split at e
  · obtain ⟨h1, h2⟩ := ifq e
    exact ⟨_, by assumption, h1.1, h1.2, pN_q h2⟩
  · cases e
theorem op2_q {f : Int32 → Int32 → Int32} {pc : Nat} {L st : List Value} {h : Hp} {q : Cf} (e : op2 f pc L st h = some (.inl q)) : ∃ x y r, st = .int y :: .int x :: r ∧ q = (pc, L, .int (f x y) :: r, h) := by
  unfold op2 at e
  split at e
  · exact ⟨_, _, _, rfl, pN_q e⟩
  · cases e
theorem op2d_q {f : Int32 → Int32 → Int32} {pc : Nat} {L st : List Value} {h : Hp} {q : Cf} (e : op2d f pc L st h = some (.inl q)) : ∃ x y r, st = .int y :: .int x :: r ∧ ¬ y = 0 ∧ q = (pc, L, .int (f x y) :: r, h) := by
  unfold op2d at e
  split at e
  · obtain ⟨h1, h2⟩ := ifn e
    exact ⟨_, _, _, rfl, h1, pN_q h2⟩
  · cases e
theorem op1_q {f : Int32 → Int32} {pc : Nat} {L st : List Value} {h : Hp} {q : Cf} (e : op1 f pc L st h = some (.inl q)) : ∃ x r, st = .int x :: r ∧ q = (pc, L, .int (f x) :: r, h) := by
  unfold op1 at e
  split at e
  · exact ⟨_, _, rfl, pN_q e⟩
  · cases e
theorem jmp_q {o : Option Nat} {L st : List Value} {h : Hp} {q : Cf} (e : jmp o L st h = some (.inl q)) : ∃ t, o = some t ∧ q = (t, L, st, h) := by
  unfold jmp at e
  split at e
  · exact ⟨_, rfl, pN_q e⟩
  · cases e
theorem stk_q {f : List Value → Option (List Value)} {pc : Nat} {L st : List Value} {h : Hp} {q : Cf} (e : stk f pc L st h = some (.inl q)) : ∃ st', f st = some st' ∧ q = (pc, L, st', h) := by
  unfold stk at e
  split at e
  · exact ⟨_, by assumption, pN_q e⟩
  · cases e
section SND
variable {E : En} {ad : Nat → Nat} {vS : Value} {cy : Cy} {D : va_G} {M : mI}
variable {p : Program} {l : Launch} {e : Env} {R : Room} {s : State} {m : MethodId} {args : Array Value} {below : List Frame} {meth : Method} {c : Code} {H : Heap} {locs : List Loc} {cells slots : Nat} {Q : State → Prop}
variable {pc : Nat} {L st : List Value} {h : Hp} {ls : Array Slot} {q : Cf}
/-- the world at a place, and what is behind it -/
def Go (ad : Nat → Nat) (vS : Value) (cy : Cy) (D : va_G) (M : mI) (p : Program) (l : Launch) (e : Env) (R : Room) (s : State) (m : MethodId) (args : Array Value) (below : List Frame) (meth : Method) (c : Code) (cells slots : Nat) (Q : State → Prop) (q : Cf) : Prop :=
  ∀ (H1 : Heap) (locs1 : List Loc) (ls1 : Array Slot), va_P D cls7 (wW ad cy q.2.2.2) H1 → va_S (oA ad) s.heap H1 locs1 → lr ad vS ls1 M.n q.2.1 → q.2.1.length = M.n → W p l e R s m args below meth c H1 locs1 cells slots Q (F0 m q.1 ls1 (q.2.2.1.map (rl ad vS)))
/-- an instruction that leaves the slots and the cells -/
theorem g_st (C : Cx E ad vS cy D M p R s m args c) (hP : va_P D cls7 (wW ad cy h) H) (hS : va_S (oA ad) s.heap H locs) (hl : lr ad vS ls M.n L) (hn : L.length = M.n) {pc' : Nat} {st' : List Value} (K : Go ad vS cy D M p l e R s m args below meth c cells slots Q (pc', L, st', h)) : W p l e R s m args below meth c H locs cells slots Q (F0 m pc' ls (st'.map (rl ad vS))) := K H locs ls hP hS hl hn
theorem rl_ref {ad : Nat → Nat} {vS : Value} {x : Nat} (hx : x < 150) : rl ad vS (.ref x) = .ref (ad x) := by
  show (if x = 150 then vS else Value.ref (ad x)) = _
  rw [if_neg (by omega)]
theorem s_ldI (C : Cx E ad vS cy D M p R s m args c) {k z : Nat} (d : ∀ x, ls[k]? = some (.val (.int x)) → W p l e R s m args below meth c H locs cells slots Q (F0 m z ls (.int x :: st.map (rl ad vS))) → W p l e R s m args below meth c H locs cells slots Q (F0 m pc ls (st.map (rl ad vS)))) (e7 : ldI L k z st h = some (.inl q)) (hP : va_P D cls7 (wW ad cy h) H) (hS : va_S (oA ad) s.heap H locs) (hl : lr ad vS ls M.n L) (hn : L.length = M.n) (K : Go ad vS cy D M p l e R s m args below meth c cells slots Q q) : W p l e R s m args below meth c H locs cells slots Q (F0 m pc ls (st.map (rl ad vS))) := by
  obtain ⟨x, hx, rfl⟩ := ldI_q e7
  exact d x (hl.2.2 k _ hx (by simp)) (K H locs ls hP hS hl hn)
theorem s_ldJ (C : Cx E ad vS cy D M p R s m args c) {k z : Nat} (d : ∀ x, ls[k]? = some (.val (.long x)) → W p l e R s m args below meth c H locs cells slots Q (F0 m z ls (.long x :: st.map (rl ad vS))) → W p l e R s m args below meth c H locs cells slots Q (F0 m pc ls (st.map (rl ad vS)))) (e7 : ldJ L k z st h = some (.inl q)) (hP : va_P D cls7 (wW ad cy h) H) (hS : va_S (oA ad) s.heap H locs) (hl : lr ad vS ls M.n L) (hn : L.length = M.n) (K : Go ad vS cy D M p l e R s m args below meth c cells slots Q q) : W p l e R s m args below meth c H locs cells slots Q (F0 m pc ls (st.map (rl ad vS))) := by
  obtain ⟨x, hx, rfl⟩ := ldJ_q e7
  exact d x (hl.2.2 k _ hx (by simp)) (K H locs ls hP hS hl hn)
theorem s_ldR (C : Cx E ad vS cy D M p R s m args c) {k z : Nat} (d : ∀ x, ls[k]? = some (.val (.ref x)) → W p l e R s m args below meth c H locs cells slots Q (F0 m z ls (.ref x :: st.map (rl ad vS))) → W p l e R s m args below meth c H locs cells slots Q (F0 m pc ls (st.map (rl ad vS)))) (e7 : ldR L k z st h = some (.inl q)) (hP : va_P D cls7 (wW ad cy h) H) (hS : va_S (oA ad) s.heap H locs) (hl : lr ad vS ls M.n L) (hn : L.length = M.n) (K : Go ad vS cy D M p l e R s m args below meth c cells slots Q q) : W p l e R s m args below meth c H locs cells slots Q (F0 m pc ls (st.map (rl ad vS))) := by
  obtain ⟨x, hx5, hx, rfl⟩ := ldR_q e7
  have h1 := hl.2.2 k _ hx (by simp)
  rw [rl_ref hx5] at h1
  have h2 := K H locs ls hP hS hl hn
  simp only [List.map_cons, rl_ref hx5] at h2
  exact d (ad x) h1 h2
theorem s_toI (C : Cx E ad vS cy D M p R s m args c) {k z : Nat} (d : ∀ x rest lv', lv_has ls M.n (tL ad vS L) → k < M.n → (k, Value.int x) :: (tL ad vS L).filter (fun q => !(q.1 == k) && !(q.1 + 1 == k && q.2.category == 2)) = lv' → (∀ ls' : Array Slot, lv_has ls' M.n lv' → W p l e R s m args below meth c H locs cells slots Q (F0 m z ls' rest)) → W p l e R s m args below meth c H locs cells slots Q (F0 m pc ls (.int x :: rest))) (e7 : toI L k z st h = some (.inl q)) (hP : va_P D cls7 (wW ad cy h) H) (hS : va_S (oA ad) s.heap H locs) (hl : lr ad vS ls M.n L) (hn : L.length = M.n) (K : Go ad vS cy D M p l e R s m args below meth c cells slots Q q) : W p l e R s m args below meth c H locs cells slots Q (F0 m pc ls (st.map (rl ad vS))) := by
  obtain ⟨x, r, rfl, hk, hb, rfl⟩ := toI_q e7
  have hv : vS.category = 1 := C.2.2.2.2.2.2.2.1
  exact d x _ _ (lr_has hl) (by omega) rfl (fun ls' h' => K H locs ls' hP hS (lr_st (x := .int x) hv hl rfl hb h') (by rw [List.length_set]; exact hn))
theorem s_toR (C : Cx E ad vS cy D M p R s m args c) {k z : Nat} (d : ∀ x rest lv', lv_has ls M.n (tL ad vS L) → k < M.n → (k, Value.ref x) :: (tL ad vS L).filter (fun q => !(q.1 == k) && !(q.1 + 1 == k && q.2.category == 2)) = lv' → (∀ ls' : Array Slot, lv_has ls' M.n lv' → W p l e R s m args below meth c H locs cells slots Q (F0 m z ls' rest)) → W p l e R s m args below meth c H locs cells slots Q (F0 m pc ls (.ref x :: rest))) (e7 : toR L k z st h = some (.inl q)) (hP : va_P D cls7 (wW ad cy h) H) (hS : va_S (oA ad) s.heap H locs) (hl : lr ad vS ls M.n L) (hn : L.length = M.n) (K : Go ad vS cy D M p l e R s m args below meth c cells slots Q q) : W p l e R s m args below meth c H locs cells slots Q (F0 m pc ls (st.map (rl ad vS))) := by
  obtain ⟨x, r, rfl, hx5, hk, hb, rfl⟩ := toR_q e7
  have hv : vS.category = 1 := C.2.2.2.2.2.2.2.1
  simp only [List.map_cons, rl_ref hx5]
  exact d (ad x) _ _ (lr_has hl) (by omega) rfl (fun ls' h' => K H locs ls' hP hS (lr_st (x := .ref x) hv hl rfl hb (by rw [rl_ref hx5]; exact h')) (by rw [List.length_set]; exact hn))
theorem s_toJ (C : Cx E ad vS cy D M p R s m args c) {k z : Nat} (d : ∀ x rest lv', lv_has ls M.n (tL ad vS L) → k + 1 < M.n → (k, Value.long x) :: (tL ad vS L).filter (fun q => !(q.1 == k) && (!(q.1 == k + 1) && !(q.1 + 1 == k && q.2.category == 2))) = lv' → (∀ ls' : Array Slot, lv_has ls' M.n lv' → W p l e R s m args below meth c H locs cells slots Q (F0 m z ls' rest)) → W p l e R s m args below meth c H locs cells slots Q (F0 m pc ls (.long x :: rest))) (e7 : toJ L k z st h = some (.inl q)) (hP : va_P D cls7 (wW ad cy h) H) (hS : va_S (oA ad) s.heap H locs) (hl : lr ad vS ls M.n L) (hn : L.length = M.n) (K : Go ad vS cy D M p l e R s m args below meth c cells slots Q q) : W p l e R s m args below meth c H locs cells slots Q (F0 m pc ls (st.map (rl ad vS))) := by
  obtain ⟨x, r, rfl, hk, hb, rfl⟩ := toJ_q e7
  have hv : vS.category = 1 := C.2.2.2.2.2.2.2.1
  exact d x _ _ (lr_has hl) (by omega) rfl (fun ls' h' => K H locs ls' hP hS (lr_stJ hv hl hb h') (by rw [List.length_set, List.length_set]; exact hn))
theorem s_inc (C : Cx E ad vS cy D M p R s m args c) {k : Nat} {z : Int} (hdg : decode M.b pc = .ok (.iinc k z, 3)) (e7 : incI L k z (pc + 3) st h = some (.inl q)) (hP : va_P D cls7 (wW ad cy h) H) (hS : va_S (oA ad) s.heap H locs) (hl : lr ad vS ls M.n L) (hn : L.length = M.n) (K : Go ad vS cy D M p l e R s m args below meth c cells slots Q q) : W p l e R s m args below meth c H locs cells slots Q (F0 m pc ls (st.map (rl ad vS))) := by
  obtain ⟨x, hx, hk, hb, rfl⟩ := incI_q e7
  have hv : vS.category = 1 := C.2.2.2.2.2.2.2.1
  have hm : (k, Value.int x) ∈ tL ad vS L := tL_mem.mpr ⟨.int x, hx, by simp, rfl⟩
  obtain ⟨j, hj⟩ := List.getElem?_of_mem hm
  exact lv_iinc C.1 C.2.1 hdg (lr_has hl) hj rfl (by omega) rfl (fun ls' h' => K H locs ls' hP hS (lr_st (x := .int (x + Int32.ofInt z)) hv hl rfl hb h') (by rw [List.length_set]; exact hn))
theorem s_br1 (C : Cx E ad vS cy D M p R s m args c) {k : Jvm.ClassFile.Cond} {z : Int} (hdg : decode M.b pc = .ok (.ifCond k z, 3)) (e7 : br1 k z pc L st h = some (.inl q)) (hP : va_P D cls7 (wW ad cy h) H) (hS : va_S (oA ad) s.heap H locs) (hl : lr ad vS ls M.n L) (hn : L.length = M.n) (K : Go ad vS cy D M p l e R s m args below meth c cells slots Q q) : W p l e R s m args below meth c H locs cells slots Q (F0 m pc ls (st.map (rl ad vS))) := by
  unfold br1 at e7
  split at e7
  case h_2 => cases e7
  case h_1 x r =>
    have hx := C.1
    have hb := C.2.1
    split at e7
    case h_2 => cases e7
    case h_1 t ht =>
      have ht2 := pT_eq ht
      by_cases hc : pC k x 0 = true
      · rw [if_pos hc] at e7
        have q7 := pN_q e7
        subst q7
        have KK := K H locs ls hP hS hl hn
        cases k <;> simp only [pC, decide_eq_true_eq, Bool.not_eq_true', decide_eq_false_iff_not] at hc
        · exact lv_if_eq hx hb hdg ht2 (fun _ => KK) (fun z7 => absurd hc z7)
        · exact lv_if_ne hx hb hdg ht2 (fun _ => KK) (fun z7 => absurd z7 hc)
        · exact lv_if_lt hx hb hdg ht2 (fun _ => KK) (fun z7 => absurd hc z7)
        · exact lv_if_ge hx hb hdg ht2 (fun _ => KK) (fun z7 => absurd hc z7)
        · exact lv_if_gt hx hb hdg ht2 (fun _ => KK) (fun z7 => absurd hc z7)
        · exact lv_if_le hx hb hdg ht2 (fun _ => KK) (fun z7 => absurd hc z7)
      · rw [if_neg hc] at e7
        have q7 := pN_q e7
        subst q7
        have KK := K H locs ls hP hS hl hn
        cases k <;> simp only [pC, decide_eq_true_eq, Bool.not_eq_true', decide_eq_false_iff_not, Bool.not_eq_true, Bool.not_eq_false, Classical.not_not] at hc
        · exact lv_if_eq hx hb hdg ht2 (fun z7 => absurd z7 hc) (fun _ => KK)
        · exact lv_if_ne hx hb hdg ht2 (fun z7 => absurd hc z7) (fun _ => KK)
        · exact lv_if_lt hx hb hdg ht2 (fun z7 => absurd z7 hc) (fun _ => KK)
        · exact lv_if_ge hx hb hdg ht2 (fun z7 => absurd z7 hc) (fun _ => KK)
        · exact lv_if_gt hx hb hdg ht2 (fun z7 => absurd z7 hc) (fun _ => KK)
        · exact lv_if_le hx hb hdg ht2 (fun z7 => absurd z7 hc) (fun _ => KK)
theorem s_br2 (C : Cx E ad vS cy D M p R s m args c) {k : Jvm.ClassFile.Cond} {z : Int} (hdg : decode M.b pc = .ok (.if_icmp k z, 3)) (e7 : br2 k z pc L st h = some (.inl q)) (hP : va_P D cls7 (wW ad cy h) H) (hS : va_S (oA ad) s.heap H locs) (hl : lr ad vS ls M.n L) (hn : L.length = M.n) (K : Go ad vS cy D M p l e R s m args below meth c cells slots Q q) : W p l e R s m args below meth c H locs cells slots Q (F0 m pc ls (st.map (rl ad vS))) := by
  unfold br2 at e7
  split at e7
  case h_2 => cases e7
  case h_1 y x r =>
    have hx := C.1
    have hb := C.2.1
    split at e7
    case h_2 => cases e7
    case h_1 t ht =>
      have ht2 := pT_eq ht
      by_cases hc : pC k x y = true
      · rw [if_pos hc] at e7
        have q7 := pN_q e7
        subst q7
        have KK := K H locs ls hP hS hl hn
        cases k <;> simp only [pC, decide_eq_true_eq, Bool.not_eq_true', decide_eq_false_iff_not] at hc
        · exact lv_icmp_eq hx hb hdg ht2 (fun _ => KK) (fun z7 => absurd hc z7)
        · exact lv_icmp_ne hx hb hdg ht2 (fun _ => KK) (fun z7 => absurd z7 hc)
        · exact lv_icmp_lt hx hb hdg ht2 (fun _ => KK) (fun z7 => absurd hc z7)
        · exact lv_icmp_ge hx hb hdg ht2 (fun _ => KK) (fun z7 => absurd hc z7)
        · exact lv_icmp_gt hx hb hdg ht2 (fun _ => KK) (fun z7 => absurd hc z7)
        · exact lv_icmp_le hx hb hdg ht2 (fun _ => KK) (fun z7 => absurd hc z7)
      · rw [if_neg hc] at e7
        have q7 := pN_q e7
        subst q7
        have KK := K H locs ls hP hS hl hn
        cases k <;> simp only [pC, decide_eq_true_eq, Bool.not_eq_true', decide_eq_false_iff_not, Bool.not_eq_true, Bool.not_eq_false, Classical.not_not] at hc
        · exact lv_icmp_eq hx hb hdg ht2 (fun z7 => absurd z7 hc) (fun _ => KK)
        · exact lv_icmp_ne hx hb hdg ht2 (fun z7 => absurd hc z7) (fun _ => KK)
        · exact lv_icmp_lt hx hb hdg ht2 (fun z7 => absurd z7 hc) (fun _ => KK)
        · exact lv_icmp_ge hx hb hdg ht2 (fun z7 => absurd z7 hc) (fun _ => KK)
        · exact lv_icmp_gt hx hb hdg ht2 (fun z7 => absurd z7 hc) (fun _ => KK)
        · exact lv_icmp_le hx hb hdg ht2 (fun z7 => absurd z7 hc) (fun _ => KK)
theorem s_tsw (C : Cx E ad vS cy D M p R s m args c) {dd lo hi : Int} {offs : Array Int} {ln : Nat} (hdg : decode M.b pc = .ok (.tableswitch dd lo hi offs, ln)) (e7 : tsw pc dd lo hi offs L st h = some (.inl q)) (hP : va_P D cls7 (wW ad cy h) H) (hS : va_S (oA ad) s.heap H locs) (hl : lr ad vS ls M.n L) (hn : L.length = M.n) (K : Go ad vS cy D M p l e R s m args below meth c cells slots Q q) : W p l e R s m args below meth c H locs cells slots Q (F0 m pc ls (st.map (rl ad vS))) := by
  unfold tsw at e7
  split at e7
  case h_2 => cases e7
  case h_1 x r =>
    by_cases hc : x.toInt < lo ∨ hi < x.toInt
    · rw [if_pos hc] at e7
      obtain ⟨t, ht, rfl⟩ := jmp_q e7
      exact lv_tableOut C.1 C.2.1 hdg hc (pT_eq ht) (K H locs ls hP hS hl hn)
    · rw [if_neg hc] at e7
      split at e7
      case h_2 => cases e7
      case h_1 o ho =>
        obtain ⟨t, ht, rfl⟩ := jmp_q e7
        exact lv_tableIn C.1 C.2.1 hdg (fun z7 => hc (Or.inl z7)) (fun z7 => hc (Or.inr z7)) ho (pT_eq ht) (K H locs ls hP hS hl hn)
theorem s_lsw (C : Cx E ad vS cy D M p R s m args c) {dd : Int} {ps : Array (Int × Int)} {ln : Nat} (hdg : decode M.b pc = .ok (.lookupswitch dd ps, ln)) (e7 : lsw pc dd ps L st h = some (.inl q)) (hP : va_P D cls7 (wW ad cy h) H) (hS : va_S (oA ad) s.heap H locs) (hl : lr ad vS ls M.n L) (hn : L.length = M.n) (K : Go ad vS cy D M p l e R s m args below meth c cells slots Q q) : W p l e R s m args below meth c H locs cells slots Q (F0 m pc ls (st.map (rl ad vS))) := by
  unfold lsw at e7
  split at e7
  case h_2 => cases e7
  case h_1 x r =>
    obtain ⟨h1, h2⟩ := ifq e7
    obtain ⟨t, ht, rfl⟩ := jmp_q h2
    exact lv_lookup C.1 C.2.1 hdg h1 rfl (pT_eq ht) (K H locs ls hP hS hl hn)
theorem s_getf (C : Cx E ad vS cy D M p R s m args c) {k : Nat} (hdg : decode M.b pc = .ok (.getfield k, 3)) (e7 : getf M.c k pc L st h = some (.inl q)) (hP : va_P D cls7 (wW ad cy h) H) (hS : va_S (oA ad) s.heap H locs) (hl : lr ad vS ls M.n L) (hn : L.length = M.n) (K : Go ad vS cy D M p l e R s m args below meth c cells slots Q q) : W p l e R s m args below meth c H locs cells slots Q (F0 m pc ls (st.map (rl ad vS))) := by
  unfold getf at e7
  split at e7
  case h_2 => cases e7
  case h_1 a r =>
    split at e7
    case h_2 => cases e7
    case h_1 v hv =>
      have q7 := pN_q e7
      subst q7
      obtain ⟨a9, rfl⟩ : ∃ z9 : Nat, z9 = a := ⟨a, rfl⟩
      obtain ⟨hx, hb, hml, hown, hts, hK, hC, hvS, -⟩ := C
      unfold pGet at hv
      split at hv
      case h_1 ci f hf =>
        obtain ⟨ha, hv2⟩ := ifq hv
        obtain ⟨w1, w2, w3, -⟩ := fTab_ok (lk_mem _ hf)
        have ha45 : a9 < 45 := cK_lt (by rw [ha]; simp)
        have he := wW_at ad cy h ha45
        rw [wE_o ha] at he
        have hv3 : ((List.range (nF ci)).map (fV ad h a9 ci))[f]? = some (fV ad h a9 ci f) := by
          rw [List.getElem?_map, List.getElem?_range (by rw [nF_ok ci w2]; exact w3)]
          rfl
        have hr : rl ad vS v = fV ad h a9 ci f := by
          rw [← Option.some.inj hv2]
          unfold fV
          by_cases hz : fO ci f < 2
          · rw [if_pos hz, if_pos hz]; rfl
          · rw [if_neg hz, if_neg hz]
            refine rl_ref ?_
            have h8 : fO ci f < 40 := by
              have : ∀ c, c < 7 → ∀ k, k < 15 → fO c k < 40 := by decide
              refine this ci w2 f ?_
              have : ∀ c, c < 7 → (cls7.getD c dC7).2.2 ≤ 15 := by decide
              have := this ci w2
              omega
            omega
        simp only [List.map_cons]
        rw [rl_ref (by omega)]
        refine va_get (D := D) (cl := cls7) (ci := ci) hx hb hts (lay_ok w2) hown hK hP a9 he (cls7_at w2) f w3 (hts _ w1) (fun _ h9 => h9) hv3 hdg ?_
        have KK := K H locs ls hP hS hl hn
        simp only [List.map_cons, hr] at KK
        exact KK
      case h_2 hf =>
        obtain ⟨-, -, -, -, hE, -⟩ := hC
        split at hv
        case h_1 hs =>
          obtain ⟨ha, hv2⟩ := ifq hv
          have hm := lk_mem _ hs
          simp only [sfTab, List.mem_cons, Prod.mk.injEq, List.not_mem_nil, or_false] at hm
          have hc9 : M.c = 9 ∧ k = 9 := by omega
          rw [hc9.1] at hown
          rw [hc9.2] at hdg
          have hF := (hE.1 (a9 - 100) (by omega)).2.2.1
          simp only [show 100 + (a9 - 100) = a9 by omega, show 120 + (a9 - 100) = a9 + 20 by omega] at hF
          simp only [List.map_cons]
          rw [rl_ref (by omega)]
          refine vk_getf hx hb hF hS hown (hts _ sV_ok) (fun _ h9 => h9) hdg ?_
          have KK := K H locs ls hP hS hl hn
          simp only [List.map_cons, ← Option.some.inj hv2] at KK
          rw [rl_ref (by omega)] at KK
          exact KK
        case h_2 hs =>
          obtain ⟨ha, hv2⟩ := ifq hv
          have hm := lk_mem _ hs
          simp only [sfTab, List.mem_cons, Prod.mk.injEq, List.not_mem_nil, or_false] at hm
          have hc9 : M.c = 9 ∧ k = 15 := by omega
          rw [hc9.1] at hown
          rw [hc9.2] at hdg
          have hF := (hE.1 (a9 - 100) (by omega)).2.1
          simp only [show 100 + (a9 - 100) = a9 by omega] at hF
          simp only [List.map_cons]
          rw [rl_ref (by omega)]
          refine vk_getf hx hb hF hS hown (hts _ sC_ok) (fun _ h9 => h9) hdg ?_
          have KK := K H locs ls hP hS hl hn
          simp only [List.map_cons, ← Option.some.inj hv2] at KK
          exact KK
        case h_3 => cases hv
theorem s_putf (C : Cx E ad vS cy D M p R s m args c) {k : Nat} (hdg : decode M.b pc = .ok (.putfield k, 3)) (e7 : putf M.c k pc L st h = some (.inl q)) (hP : va_P D cls7 (wW ad cy h) H) (hS : va_S (oA ad) s.heap H locs) (hl : lr ad vS ls M.n L) (hn : L.length = M.n) (K : Go ad vS cy D M p l e R s m args below meth c cells slots Q q) : W p l e R s m args below meth c H locs cells slots Q (F0 m pc ls (st.map (rl ad vS))) := by
  unfold putf at e7
  split at e7
  case h_2 => cases e7
  case h_1 v a r =>
    split at e7
    case h_2 => cases e7
    case h_1 ci f hf =>
      obtain ⟨⟨ha, hk⟩, e8⟩ := ifq e7
      have q7 := pN_q e8
      subst q7
      obtain ⟨hx, hb, hml, hown, hts, hK, hC, hvS, hinj, -⟩ := C
      obtain ⟨w1, w2, w3, w4, w5⟩ := fTab_ok (lk_mem _ hf)
      obtain ⟨a9, rfl⟩ : ∃ z9 : Nat, z9 = a := ⟨a, rfl⟩
      have ha45 : a9 < 45 := cK_lt (by rw [ha]; simp)
      have he := wW_at ad cy h ha45
      rw [wE_o ha] at he
      have hf2 : fO ci f < 2 := by rcases hk with hk | hk <;> omega
      simp only [List.map_cons]
      rw [rl_ref (show a9 < 150 by omega)]
      have KK : ∀ (H1 : Heap) (locs1 : List Loc), va_P D cls7 ((wW ad cy h).set a9 (ad a9, .inr (ci, ((List.range (nF ci)).map (fV ad h a9 ci)).set f (.int v)))) H1 → va_D (oA ad) ((wW ad cy h).set a9 (ad a9, .inr (ci, ((List.range (nF ci)).map (fV ad h a9 ci)).set f (.int v)))) → va_S (oA ad) s.heap H1 locs1 → W p l e R s m args below meth c H1 locs1 cells slots Q (F0 m (pc + 3) ls (r.map (rl ad vS))) := by
        intro H1 locs1 h1 _ h3
        rw [wW_sI ha hf2] at h1
        exact K H1 locs1 ls h1 h3 hl hn
      have hlen : f < ((List.range (nF ci)).map (fV ad h a9 ci)).length := by simp; rw [nF_ok ci w2]; exact w3
      rcases hk with hk | ⟨hk, hv⟩
      · exact va_put (D := D) (cl := cls7) (ci := ci) (v := .int v) (ty := .int) hx hb hts (lay_ok w2) _ (ty_ok w2) (nm_ok ci w2) hown hK hP (wW_D hinj cy h) hS a9 he (cls7_at w2) f w3 (hts _ w1) (fun _ h9 => h9) (w4 hk).1 (w4 hk).2 rfl rfl hlen hdg KK
      · have hb1 : narrow .boolean (.int v) = .int v := by rcases hv with rfl | rfl <;> rfl
        have hb2 : fits .boolean (.int v) = true := by rcases hv with rfl | rfl <;> rfl
        exact va_put (D := D) (cl := cls7) (ci := ci) (v := .int v) (ty := .boolean) hx hb hts (lay_ok w2) _ (ty_ok w2) (nm_ok ci w2) hown hK hP (wW_D hinj cy h) hS a9 he (cls7_at w2) f w3 (hts _ w1) (fun _ h9 => h9) (w5 hk).1 (w5 hk).2 hb1 hb2 hlen hdg KK
theorem s_gets (C : Cx E ad vS cy D M p R s m args c) {k : Nat} {v : Value} (hdg : decode M.b pc = .ok (.getstatic k, 3)) (hv : lk gTab M.c k = some v) (hP : va_P D cls7 (wW ad cy h) H) (hS : va_S (oA ad) s.heap H locs) (hl : lr ad vS ls M.n L) (hn : L.length = M.n) (K : Go ad vS cy D M p l e R s m args below meth c cells slots Q (pc + 3, L, v :: st, h)) : W p l e R s m args below meth c H locs cells slots Q (F0 m pc ls (st.map (rl ad vS))) := by
  obtain ⟨hx, hb, hml, hown, hts, hK, hC, hvS, -⟩ := C
  obtain ⟨⟨a1, a2⟩, ⟨b1, b2⟩, c1, d1, -⟩ := hC
  have hm := lk_mem _ hv
  have KK := K H locs ls hP hS hl hn
  simp only [List.map_cons] at KK
  simp only [gTab, List.mem_cons, Prod.mk.injEq, List.not_mem_nil, or_false] at hm
  rcases hm with ⟨h1, h2, h3⟩ | ⟨h1, h2, h3⟩ | ⟨h1, h2, h3⟩ | ⟨h1, h2, h3⟩
  · rw [h1] at hown; rw [h2] at hdg; rw [h3, rl_ref (by omega)] at KK
    exact va_gets hx hb a1 hS hown (hts _ gA_ok) (fun _ h9 => h9) hdg KK
  · rw [h1] at hown; rw [h2] at hdg; rw [h3, rl_ref (by omega)] at KK
    exact va_gets hx hb b1 hS hown (hts _ gN_ok) (fun _ h9 => h9) hdg KK
  · rw [h1] at hown; rw [h2] at hdg; rw [h3] at KK
    exact va_gets hx hb c1 hS hown (hts _ gC_ok) (fun _ h9 => h9) hdg KK
  · rw [h1] at hown; rw [h2] at hdg; rw [h3] at KK
    have h5 : rl ad vS (.ref 150) = vS := by unfold rl; simp
    rw [h5] at KK
    exact va_gets hx hb d1 hS hown (hts _ gS_ok) (fun _ h9 => h9) hdg KK
theorem s_iald (C : Cx E ad vS cy D M p R s m args c) (hdg : decode M.b pc = .ok (.iaload, 1)) (e7 : iald E M.c (pc + 1) L st h = some (.inl q)) (hP : va_P D cls7 (wW ad cy h) H) (hS : va_S (oA ad) s.heap H locs) (hl : lr ad vS ls M.n L) (hn : L.length = M.n) (K : Go ad vS cy D M p l e R s m args below meth c cells slots Q q) : W p l e R s m args below meth c H locs cells slots Q (F0 m pc ls (st.map (rl ad vS))) := by
  unfold iald at e7
  split at e7
  case h_2 => cases e7
  case h_1 i a r =>
    obtain ⟨hx, hb, hml, hown, hts, hK, hC, hvS, hinj, hlaw, -⟩ := C
    by_cases h1 : a = 140
    · rw [if_pos h1] at e7
      obtain ⟨h2, h3⟩ := ifq e7
      have q7 := pN_q h3
      subst q7
      subst h1
      simp only [List.map_cons]
      rw [rl_ref (by omega)]
      exact va_ti hx hb hC.1.2 hS (pIn_vp h2) rfl hdg (K H locs ls hP hS hl hn)
    · rw [if_neg h1] at e7
      by_cases h4 : a = 141
      · rw [if_pos h4] at e7
        obtain ⟨h2, h3⟩ := ifq e7
        have q7 := pN_q h3
        subst q7
        subst h4
        simp only [List.map_cons]
        rw [rl_ref (by omega)]
        exact va_ti hx hb hC.2.1.2 hS (pIn_vp h2) rfl hdg (K H locs ls hP hS hl hn)
      · rw [if_neg h4] at e7
        by_cases h5 : a = 142
        · rw [if_pos h5] at e7
          obtain ⟨⟨h2, h6⟩, h3⟩ := ifq e7
          have q7 := pN_q h3
          subst q7
          subst h5
          obtain ⟨g1, g2, g3, -⟩ := hlaw h2
          simp only [List.map_cons]
          rw [rl_ref (by omega)]
          exact va_sld hx hb g1 g2 g3 hS (pIn_vp h6) hdg (K H locs ls hP hS hl hn)
        · rw [if_neg h5] at e7
          obtain ⟨⟨h2, h6⟩, h3⟩ := ifq e7
          have q7 := pN_q h3
          subst q7
          obtain ⟨a9, rfl⟩ : ∃ z9 : Nat, z9 = a := ⟨a, rfl⟩
          have ha45 : a9 < 45 := cK_lt (by rw [h2]; simp)
          have he := wW_at ad cy h ha45
          rw [wE_i h2] at he
          simp only [List.map_cons]
          rw [rl_ref (by omega)]
          exact va_iald hx hb hK hP a9 0 he rfl (pIn_vp h6) hdg (K H locs ls hP hS hl hn)
theorem s_iast (C : Cx E ad vS cy D M p R s m args c) (hdg : decode M.b pc = .ok (.iastore, 1)) (e7 : iast (pc + 1) L st h = some (.inl q)) (hP : va_P D cls7 (wW ad cy h) H) (hS : va_S (oA ad) s.heap H locs) (hl : lr ad vS ls M.n L) (hn : L.length = M.n) (K : Go ad vS cy D M p l e R s m args below meth c cells slots Q q) : W p l e R s m args below meth c H locs cells slots Q (F0 m pc ls (st.map (rl ad vS))) := by
  unfold iast at e7
  split at e7
  case h_2 => cases e7
  case h_1 x i a r =>
    obtain ⟨hx, hb, hml, hown, hts, hK, hC, hvS, hinj, -⟩ := C
    obtain ⟨⟨h2, h6⟩, h3⟩ := ifq e7
    have q7 := pN_q h3
    subst q7
    obtain ⟨a9, rfl⟩ : ∃ z9 : Nat, z9 = a := ⟨a, rfl⟩
    have ha45 : a9 < 45 := cK_lt (by rw [h2]; simp)
    have he := wW_at ad cy h ha45
    rw [wE_i h2] at he
    simp only [List.map_cons]
    rw [rl_ref (by omega)]
    refine va_iast hx hb hK hP (wW_D hinj cy h) hS a9 0 he rfl (pIn_vp h6) hdg (fun H1 locs1 g1 _ g3 => ?_)
    rw [wW_sA h2] at g1
    exact K H1 locs1 ls g1 g3 hl hn
theorem s_lald (C : Cx E ad vS cy D M p R s m args c) (hdg : decode M.b pc = .ok (.laload, 1)) (e7 : lald (pc + 1) L st h = some (.inl q)) (hP : va_P D cls7 (wW ad cy h) H) (hS : va_S (oA ad) s.heap H locs) (hl : lr ad vS ls M.n L) (hn : L.length = M.n) (K : Go ad vS cy D M p l e R s m args below meth c cells slots Q q) : W p l e R s m args below meth c H locs cells slots Q (F0 m pc ls (st.map (rl ad vS))) := by
  unfold lald at e7
  split at e7
  case h_2 => cases e7
  case h_1 i a r =>
    obtain ⟨hx, hb, hml, hown, hts, hK, hC, hvS, hinj, -⟩ := C
    obtain ⟨⟨h2, h6⟩, h3⟩ := ifq e7
    have q7 := pN_q h3
    subst q7
    obtain ⟨a9, rfl⟩ : ∃ z9 : Nat, z9 = a := ⟨a, rfl⟩
    have ha45 : a9 < 45 := cK_lt (by rw [h2]; simp)
    have he := wW_at ad cy h ha45
    rw [wE_j h2] at he
    simp only [List.map_cons]
    rw [rl_ref (by omega)]
    exact va_lald hx hb hK hP a9 1 he rfl (pIn_vp h6) hdg (K H locs ls hP hS hl hn)
theorem s_last (C : Cx E ad vS cy D M p R s m args c) (hdg : decode M.b pc = .ok (.lastore, 1)) (e7 : last (pc + 1) L st h = some (.inl q)) (hP : va_P D cls7 (wW ad cy h) H) (hS : va_S (oA ad) s.heap H locs) (hl : lr ad vS ls M.n L) (hn : L.length = M.n) (K : Go ad vS cy D M p l e R s m args below meth c cells slots Q q) : W p l e R s m args below meth c H locs cells slots Q (F0 m pc ls (st.map (rl ad vS))) := by
  unfold last at e7
  split at e7
  case h_2 => cases e7
  case h_1 x i a r =>
    obtain ⟨hx, hb, hml, hown, hts, hK, hC, hvS, hinj, -⟩ := C
    obtain ⟨⟨h2, h6⟩, h3⟩ := ifq e7
    have q7 := pN_q h3
    subst q7
    obtain ⟨a9, rfl⟩ : ∃ z9 : Nat, z9 = a := ⟨a, rfl⟩
    have ha45 : a9 < 45 := cK_lt (by rw [h2]; simp)
    have he := wW_at ad cy h ha45
    rw [wE_j h2] at he
    simp only [List.map_cons]
    rw [rl_ref (by omega)]
    refine va_last hx hb hK hP (wW_D hinj cy h) hS a9 1 he rfl (pIn_vp h6) hdg (fun H1 locs1 g1 _ g3 => ?_)
    rw [wW_sL h2] at g1
    exact K H1 locs1 ls g1 g3 hl hn
theorem s_rald (C : Cx E ad vS cy D M p R s m args c) (hdg : decode M.b pc = .ok (.aaload, 1)) (e7 : rald (pc + 1) L st h = some (.inl q)) (hP : va_P D cls7 (wW ad cy h) H) (hS : va_S (oA ad) s.heap H locs) (hl : lr ad vS ls M.n L) (hn : L.length = M.n) (K : Go ad vS cy D M p l e R s m args below meth c cells slots Q q) : W p l e R s m args below meth c H locs cells slots Q (F0 m pc ls (st.map (rl ad vS))) := by
  unfold rald at e7
  split at e7
  case h_2 => cases e7
  case h_1 i a r =>
    obtain ⟨hx, hb, hml, hown, hts, hK, hC, hvS, hinj, -⟩ := C
    obtain ⟨⟨h2, h6⟩, h3⟩ := ifq e7
    have q7 := pN_q h3
    subst q7
    obtain ⟨a9, rfl⟩ : ∃ z9 : Nat, z9 = a := ⟨a, rfl⟩
    have ha45 : a9 < 45 := cK_lt (by rw [h2]; simp)
    have he := wW_at ad cy h ha45
    rw [wE_r h2] at he
    have hi4 : i.toNatClampNeg < 4 := Nat.not_le.mp fun z7 => pIn_vp h6 (Or.inr z7)
    simp only [List.map_cons]
    rw [rl_ref (by omega)]
    refine va_aldq hx hb hK hP a9 2 he rfl (pIn_vp h6) hdg ?_
    have KK := K H locs ls hP hS hl hn
    simp only [List.map_cons] at KK
    rw [rl_ref (by omega)] at KK
    exact KK
theorem byT_len : ∀ i, i < 11 → (byT.map List.length).getD i 0 = (byT.getD i []).length := by decide
theorem s_bald (C : Cx E ad vS cy D M p R s m args c) (hdg : decode M.b pc = .ok (.baload, 1)) (e7 : bald (pc + 1) L st h = some (.inl q)) (hP : va_P D cls7 (wW ad cy h) H) (hS : va_S (oA ad) s.heap H locs) (hl : lr ad vS ls M.n L) (hn : L.length = M.n) (K : Go ad vS cy D M p l e R s m args below meth c cells slots Q q) : W p l e R s m args below meth c H locs cells slots Q (F0 m pc ls (st.map (rl ad vS))) := by
  unfold bald at e7
  split at e7
  case h_2 => cases e7
  case h_1 i a r =>
    obtain ⟨hx, hb, hml, hown, hts, hK, hC, hvS, hinj, -⟩ := C
    obtain ⟨⟨h2, h6⟩, h3⟩ := ifq e7
    have q7 := pN_q h3
    subst q7
    obtain ⟨a9, rfl⟩ : ∃ z9 : Nat, z9 = a := ⟨a, rfl⟩
    have h2n : 120 ≤ a9 ∧ a9 < 131 := h2
    have hE := (hC.2.2.2.2.1.1 (a9 - 120) (by omega)).2.2.2
    rw [byT_len _ (by omega)] at hE
    simp only [show 120 + (a9 - 120) = a9 by omega] at hE
    simp only [List.map_cons]
    rw [rl_ref (by omega)]
    exact va_tb hx hb hE hS (pIn_vp h6) rfl hdg (K H locs ls hP hS hl hn)
theorem s_alen (C : Cx E ad vS cy D M p R s m args c) (hdg : decode M.b pc = .ok (.arraylength, 1)) (e7 : alen E M.c (pc + 1) L st h = some (.inl q)) (hP : va_P D cls7 (wW ad cy h) H) (hS : va_S (oA ad) s.heap H locs) (hl : lr ad vS ls M.n L) (hn : L.length = M.n) (K : Go ad vS cy D M p l e R s m args below meth c cells slots Q q) : W p l e R s m args below meth c H locs cells slots Q (F0 m pc ls (st.map (rl ad vS))) := by
  unfold alen at e7
  split at e7
  case h_2 => cases e7
  case h_1 a r =>
    obtain ⟨hx, hb, hml, hown, hts, hK, hC, hvS, hinj, hlaw, -⟩ := C
    by_cases h1 : a = 142
    · rw [if_pos h1] at e7
      obtain ⟨h2, h3⟩ := ifq e7
      have q7 := pN_q h3
      subst q7
      subst h1
      obtain ⟨g1, g2, g3, -⟩ := hlaw h2
      simp only [List.map_cons]
      rw [rl_ref (by omega)]
      exact va_slen hx hb g1 g2 g3 hS hdg (K H locs ls hP hS hl hn)
    · rw [if_neg h1] at e7
      obtain ⟨h2, h3⟩ := ifq e7
      have q7 := pN_q h3
      subst q7
      obtain ⟨a9, rfl⟩ : ∃ z9 : Nat, z9 = a := ⟨a, rfl⟩
      have h2n : 120 ≤ a9 ∧ a9 < 131 := h2
      have hE := (hC.2.2.2.2.1.1 (a9 - 120) (by omega)).2.2.2
      rw [byT_len _ (by omega)] at hE
      simp only [show 120 + (a9 - 120) = a9 by omega] at hE
      simp only [List.map_cons]
      rw [rl_ref (by omega)]
      exact va_tlen hx hb hE hS rfl hdg (K H locs ls hP hS hl hn)
theorem cat_map {ad : Nat → Nat} {vS : Value} (hv : vS.category = 1) : ∀ r : List Value, ((r.map (rl ad vS)).map fun v => v.category).sum = (r.map fun v => v.category).sum
  | [] => rfl
  | v :: r => by
    simp only [List.map_cons, List.sum_cons]
    rw [rl_catE hv, cat_map hv r]
theorem s_cpy (C : Cx E ad vS cy D M p R s m args c) {k : Nat} (hdg : decode M.b pc = .ok (.invokestatic k, 3)) {u : Unit} (hk : lk aTab M.c k = some u) (e7 : cpy M pc L st h = some (.inl q)) (hP : va_P D cls7 (wW ad cy h) H) (hS : va_S (oA ad) s.heap H locs) (hl : lr ad vS ls M.n L) (hn : L.length = M.n) (K : Go ad vS cy D M p l e R s m args below meth c cells slots Q q) : W p l e R s m args below meth c H locs cells slots Q (F0 m pc ls (st.map (rl ad vS))) := by
  unfold cpy at e7
  split at e7
  case h_2 => cases e7
  case h_1 n dp a sp b r =>
    obtain ⟨hx, hb, hml, hown, hts, hK, hC, hvS, hinj, hlaw, hfr, hlo⟩ := C
    obtain ⟨⟨⟨h1, h2, h3⟩, h4, h5, h6, h7⟩, e8⟩ := ifq e7
    have hw := aTab_ok (lk_mem _ hk)
    have hlo2 : ((r.map (rl ad vS)).map fun v => v.category).sum + (nativeFrameWords "java/lang/System" "arraycopy" 5 + 11) ≤ R.locals := by
      rw [cat_map hvS, hlo]
      have : nativeFrameWords "java/lang/System" "arraycopy" 5 ≤ 9 := by decide
      omega
    by_cases g : cK b = (2, (cK b).2.1, 0) ∧ cK a = (2, (cK a).2.1, 0)
    · rw [if_pos g] at e8
      have q7 := pN_q e8
      subst q7
      obtain ⟨b9, rfl⟩ : ∃ z9 : Nat, z9 = b := ⟨b, rfl⟩
      obtain ⟨a9, rfl⟩ : ∃ z9 : Nat, z9 = a := ⟨a, rfl⟩
      have hb45 : b9 < 45 := cK_lt (by rw [g.1]; simp)
      have ha45 : a9 < 45 := cK_lt (by rw [g.2]; simp)
      have he0 := wW_at ad cy h hb45
      have he1 := wW_at ad cy h ha45
      rw [wE_i g.1] at he0
      rw [wE_i g.2] at he1
      simp only [List.map_cons]
      rw [rl_ref (by omega), rl_ref (by omega)]
      refine va_copyi hx hb (by rw [hml]; exact hl.1.symm) hown (hts _ hw) (hts _ aNat) (hts _ aSta) (hts _ aIni) hK hP (wW_D hinj cy h) hS b9 a9 0 0 he0 he1 rfl rfl rfl h1 h2 h3 h4 h5 (fun _ _ => rfl) (by rw [hfr]; exact h6) hlo2 hdg (fun H1 locs1 g1 _ g3 => ?_)
      rw [wW_sA g.2] at g1
      exact K H1 locs1 ls g1 g3 hl hn
    · rw [if_neg g] at e8
      obtain ⟨g, e9⟩ := ifq e8
      have q7 := pN_q e9
      subst q7
      obtain ⟨b9, rfl⟩ : ∃ z9 : Nat, z9 = b := ⟨b, rfl⟩
      obtain ⟨a9, rfl⟩ : ∃ z9 : Nat, z9 = a := ⟨a, rfl⟩
      have hb45 : b9 < 45 := cK_lt (by rw [g.1]; simp)
      have ha45 : a9 < 45 := cK_lt (by rw [g.2]; simp)
      have he0 := wW_at ad cy h hb45
      have he1 := wW_at ad cy h ha45
      rw [wE_j g.1] at he0
      rw [wE_j g.2] at he1
      simp only [List.map_cons]
      rw [rl_ref (by omega), rl_ref (by omega)]
      refine va_copyl hx hb (by rw [hml]; exact hl.1.symm) hown (hts _ hw) (hts _ aNat) (hts _ aSta) (hts _ aIni) hK hP (wW_D hinj cy h) hS b9 a9 1 1 he0 he1 rfl rfl rfl h1 h2 h3 h4 h5 (fun _ _ => rfl) (by rw [hfr]; exact h6) hlo2 hdg (fun H1 locs1 g1 _ g3 => ?_)
      rw [wW_sL g.2] at g1
      exact K H1 locs1 ls g1 g3 hl hn
theorem s_mth (C : Cx E ad vS cy D M p R s m args c) (hcs : cells ≤ R.cells ∧ slots ≤ R.slots) {k o : Nat} (hdg : decode M.b pc = .ok (.invokestatic k, 3)) (hk : lk xTab M.c k = some o) (e7 : mth M o pc L st h = some (.inl q)) (hP : va_P D cls7 (wW ad cy h) H) (hS : va_S (oA ad) s.heap H locs) (hl : lr ad vS ls M.n L) (hn : L.length = M.n) (K : Go ad vS cy D M p l e R s m args below meth c cells slots Q q) : W p l e R s m args below meth c H locs cells slots Q (F0 m pc ls (st.map (rl ad vS))) := by
  obtain ⟨hx, hb, hml, hown, hts, hK, hC, hvS, hinj, hlaw, hfr, hlo⟩ := C
  obtain ⟨hw, ho⟩ := xTab_ok (lk_mem _ hk)
  match o, ho with
  | 0, _ =>
    simp only [mth] at e7
    split at e7
    case h_2 => cases e7
    case h_1 y x r =>
      obtain ⟨⟨h1, h2⟩, e8⟩ := ifq e7
      have q7 := pN_q e8
      subst q7
      simp only [List.map_cons]
      exact va_mmin hx hb (by rw [hml]; exact hl.1.symm) hown (hts _ hw) (hts _ xStn) (hts _ xIni) (hts _ xCdn) (by rw [hfr]; exact h1) (by rw [cat_map hvS, hlo]; exact h2) hcs.1 hcs.2 hdg (K H locs ls hP hS hl hn)
  | 1, _ =>
    simp only [mth] at e7
    split at e7
    case h_2 => cases e7
    case h_1 y x r =>
      obtain ⟨⟨h1, h2⟩, e8⟩ := ifq e7
      have q7 := pN_q e8
      subst q7
      simp only [List.map_cons]
      exact va_mmax hx hb (by rw [hml]; exact hl.1.symm) hown (hts _ hw) (hts _ xStx) (hts _ xIni) (hts _ xCdx) (by rw [hfr]; exact h1) (by rw [cat_map hvS, hlo]; exact h2) hcs.1 hcs.2 hdg (K H locs ls hP hS hl hn)
  | 2, _ =>
    simp only [mth] at e7
    split at e7
    case h_2 => cases e7
    case h_1 x r =>
      obtain ⟨⟨h1, h2⟩, e8⟩ := ifq e7
      have q7 := pN_q e8
      subst q7
      simp only [List.map_cons]
      exact va_mabs hx hb (by rw [hml]; exact hl.1.symm) hown (hts _ hw) (hts _ xStb) (hts _ xIni) (hts _ xCdb) (by rw [hfr]; exact h1) (by rw [cat_map hvS, hlo]; exact h2) hcs.1 hcs.2 hdg (K H locs ls hP hS hl hn)
theorem s_ldk (C : Cx E ad vS cy D M p R s m args c) {k : Nat} (hdg : decode M.b pc = .ok (.ldc_w k, 3)) (e7 : ldk M k (pc + 3) L st h = some (.inl q)) (hP : va_P D cls7 (wW ad cy h) H) (hS : va_S (oA ad) s.heap H locs) (hl : lr ad vS ls M.n L) (hn : L.length = M.n) (K : Go ad vS cy D M p l e R s m args below meth c cells slots Q q) : W p l e R s m args below meth c H locs cells slots Q (F0 m pc ls (st.map (rl ad vS))) := by
  unfold ldk at e7
  split at e7
  case h_2 => cases e7
  case h_1 v hv =>
    have q7 := pN_q e7
    subst q7
    exact lv_ldcw C.1 C.2.1 C.2.2.2.1 (C.2.2.2.2.1 _ (cTab_ok (lk_mem _ hv))) hdg (K H locs ls hP hS hl hn)
theorem s_ldkS (C : Cx E ad vS cy D M p R s m args c) {k : Nat} (hdg : decode M.b pc = .ok (.ldc k, 2)) (e7 : ldkS M k (pc + 2) L st h = some (.inl q)) (hP : va_P D cls7 (wW ad cy h) H) (hS : va_S (oA ad) s.heap H locs) (hl : lr ad vS ls M.n L) (hn : L.length = M.n) (K : Go ad vS cy D M p l e R s m args below meth c cells slots Q q) : W p l e R s m args below meth c H locs cells slots Q (F0 m pc ls (st.map (rl ad vS))) := by
  unfold ldkS at e7
  split at e7
  case h_1 v hv =>
    have q7 := pN_q e7
    subst q7
    exact lv_ldc C.1 C.2.1 C.2.2.2.1 (C.2.2.2.2.1 _ (cTab_ok (lk_mem _ hv))) hdg (K H locs ls hP hS hl hn)
  case h_2 =>
    split at e7
    case h_2 => cases e7
    case h_1 j hj =>
      have q7 := pN_q e7
      subst q7
      have hm := lk_mem _ hj
      have hR := C.2.2.2.2.2.2.1.2.2.2.2.2 _ hm
      have hj11 : j < 11 := by
        have : ∀ q7 ∈ stTab, q7.2.2 < 11 := by decide
        exact this _ hm
      have KK := K H locs ls hP hS hl hn
      simp only [List.map_cons] at KK
      rw [rl_ref (by omega)] at KK
      exact va_ldcS C.1 C.2.1 C.2.2.2.1 hR hdg KK
end SND
