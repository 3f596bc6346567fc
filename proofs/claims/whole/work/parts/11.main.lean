/-! every run of the pure machine is the machine's -/
section MAIN
variable {E : En} {ad : Nat → Nat} {vS : Value} {cy : Cy} {D : va_G} {l : Launch}
def rmM (M : mI) : Room := { frames := M.f, cells := 0, slots := 0, locals := M.w }
def wsM (M : mI) : List Cond := Cond.code M.y M.b M.n M.r :: WT
def pP (ad : Nat → Nat) (vS : Value) (cy : Cy) (D : va_G) (h : Hp) (as : List Value) : Array Value → State → Prop := va_Pc (as.map (rl ad vS)) (fun U => va_P D cls7 (wW ad cy h) U.heap ∧ va_K D cls7 (tyW cy) U ∧ CKf ad vS (oA ad) U U.heap)
def qQ (ad : Nat → Nat) (vS : Value) (cy : Cy) (D : va_G) (v : Option Value) (h : Hp) : Array Value → State → Outcome → State → Prop := fun _ st o t => o = .returned (v.map (rl ad vS)) ∧ va_P D cls7 (wW ad cy h) t.heap ∧ va_F (oA ad) st t
theorem pP_blind (h : Hp) (as : List Value) : FrameBlind (pP ad vS cy D h as) := by
  intro a U g mk hq
  obtain ⟨h1, h2, h3, h4⟩ := hq
  exact ⟨h1, h2, va_K.moved (u := U) (U := U.calling g mk a) (Vm.Alike.refl U.vm) h3, h4.call⟩
/-- what a run says -/
def Snd (E : En) (ad : Nat → Nat) (vS : Value) (cy : Cy) (D : va_G) (l : Launch) (n : Nat) : Prop :=
  ∀ (M : mI) (pc : Nat) (L st : List Value) (h : Hp) (v : Option Value) (h' : Hp), run E n M pc L st h = some (v, h') →
  ∀ (p : Program) (e : Env) (R : Room) (s : State) (m : MethodId) (args : Array Value) (below : List Frame) (meth : Method) (c : Code) (H : Heap) (locs : List Loc) (cells slots : Nat) (Q : State → Prop) (ls : Array Slot),
  Cx E ad vS cy D M p R s m args c → cells ≤ R.cells ∧ slots ≤ R.slots → va_P D cls7 (wW ad cy h) H → va_S (oA ad) s.heap H locs → lr ad vS ls M.n L → L.length = M.n →
  (∀ (pc' : Nat) (L' st' : List Value) (H1 : Heap) (locs1 : List Loc) (ls1 : Array Slot), stp E M pc' L' st' h' = pR v h' → va_P D cls7 (wW ad cy h') H1 → va_S (oA ad) s.heap H1 locs1 → W p l e R s m args below meth c H1 locs1 cells slots Q (F0 m pc' ls1 (st'.map (rl ad vS)))) →
  W p l e R s m args below meth c H locs cells slots Q (F0 m pc ls (st.map (rl ad vS)))
theorem pR_q {v v' : Option Value} {h h' : Hp} (e : pR v h = some (.inr (.inl (v', h')))) : v' = v ∧ h' = h := by
  have e1 := Sum.inl.inj (Sum.inr.inj (Option.some.inj e))
  exact ⟨(Prod.mk.inj e1).1.symm, (Prod.mk.inj e1).2.symm⟩
theorem pN_nr {pc : Nat} {L st : List Value} {h : Hp} {x : Rt ⊕ Ca} (e : pN pc L st h = some (.inr x)) : False := by cases e
/-- a return, by its kind -/
def RtK (M : mI) (pc : Nat) (st : List Value) (v : Option Value) : Prop :=
  (∃ x ty, st = [.int x] ∧ v = some (.int x) ∧ decode M.b pc = .ok (.ireturn, 1) ∧ M.r = some ty ∧ narrow ty (.int x) = .int x) ∨
  (∃ x, st = [.long x] ∧ v = some (.long x) ∧ decode M.b pc = .ok (.lreturn, 1) ∧ M.r = some .long) ∨
  (∃ a, a < 150 ∧ st = [.ref a] ∧ v = some (.ref a) ∧ decode M.b pc = .ok (.areturn, 1) ∧ M.r = some (.object "java/lang/String")) ∨
  (st = [] ∧ v = none ∧ decode M.b pc = .ok (.return_, 1) ∧ M.r = none)
theorem rtI_q {M : mI} {pc : Nat} {st : List Value} {h h' : Hp} {v : Option Value} (d : decode M.b pc = .ok (.ireturn, 1)) (e : rtI M st h = some (.inr (.inl (v, h')))) : h' = h ∧ RtK M pc st v := by
  unfold rtI at e
  split at e
  · rename_i x
    split at e
    · rename_i hr
      obtain ⟨rfl, rfl⟩ := pR_q e
      exact ⟨rfl, Or.inl ⟨x, _, rfl, rfl, d, hr, rfl⟩⟩
    · rename_i hr
      obtain ⟨h1, h2⟩ := ifq e
      obtain ⟨rfl, rfl⟩ := pR_q h2
      exact ⟨rfl, Or.inl ⟨x, _, rfl, rfl, d, hr, by rcases h1 with rfl | rfl <;> rfl⟩⟩
    · rename_i hr
      obtain ⟨h1, h2⟩ := ifq e
      obtain ⟨rfl, rfl⟩ := pR_q h2
      exact ⟨rfl, Or.inl ⟨x, _, rfl, rfl, d, hr, h1⟩⟩
    · rename_i hr
      obtain ⟨h1, h2⟩ := ifq e
      obtain ⟨rfl, rfl⟩ := pR_q h2
      exact ⟨rfl, Or.inl ⟨x, _, rfl, rfl, d, hr, h1⟩⟩
    · cases e
  · cases e
theorem rtJ_q {M : mI} {pc : Nat} {st : List Value} {h h' : Hp} {v : Option Value} (d : decode M.b pc = .ok (.lreturn, 1)) (e : rtJ M st h = some (.inr (.inl (v, h')))) : h' = h ∧ RtK M pc st v := by
  unfold rtJ at e
  split at e
  · rename_i x
    obtain ⟨h1, h2⟩ := ifq e
    obtain ⟨rfl, rfl⟩ := pR_q h2
    exact ⟨rfl, Or.inr (Or.inl ⟨x, rfl, rfl, d, h1⟩)⟩
  · cases e
theorem rtR_q {M : mI} {pc : Nat} {st : List Value} {h h' : Hp} {v : Option Value} (d : decode M.b pc = .ok (.areturn, 1)) (e : rtR M st h = some (.inr (.inl (v, h')))) : h' = h ∧ RtK M pc st v := by
  unfold rtR at e
  split at e
  · rename_i x
    obtain ⟨h1, h2⟩ := ifq e
    obtain ⟨rfl, rfl⟩ := pR_q h2
    exact ⟨rfl, Or.inr (Or.inr (Or.inl ⟨x, h1.1, rfl, rfl, d, h1.2⟩))⟩
  · cases e
theorem rtV_q {M : mI} {pc : Nat} {st : List Value} {h h' : Hp} {v : Option Value} (d : decode M.b pc = .ok (.return_, 1)) (e : rtV M st h = some (.inr (.inl (v, h')))) : h' = h ∧ RtK M pc st v := by
  unfold rtV at e
  split at e
  · obtain ⟨h1, h2⟩ := ifq e
    obtain ⟨rfl, rfl⟩ := pR_q h2
    exact ⟨rfl, Or.inr (Or.inr (Or.inr ⟨rfl, rfl, d, h1⟩))⟩
  · cases e
/-- a step that isn't to a next place: which -/
theorem nx_no {α : Type} {f : α → Option Cf} {x : α} {y : Rt ⊕ Ca} (e : ((f x).map Sum.inl : St) = some (.inr y)) : False := by
  cases hq : f x with
  | none => rw [hq] at e; cases e
  | some z => rw [hq] at e; cases e
def isIn (s : St) : Prop := ∀ y : Rt ⊕ Ca, s ≠ some (.inr y)
theorem in_N {pc : Nat} {L st : List Value} {h : Hp} : isIn (pN pc L st h) := fun y e => by cases e
theorem in_0 : isIn none := fun y e => by cases e
theorem in_if {c : Prop} [Decidable c] {a b : St} (h1 : isIn a) (h2 : isIn b) : isIn (if c then a else b) := by
  by_cases hc : c
  · rw [if_pos hc]; exact h1
  · rw [if_neg hc]; exact h2
theorem in_jmp {o : Option Nat} {L st : List Value} {h : Hp} : isIn (jmp o L st h) := by
  unfold jmp; split <;> first | exact in_N | exact in_0
theorem in_stk {f : List Value → Option (List Value)} {pc : Nat} {L st : List Value} {h : Hp} : isIn (stk f pc L st h) := by
  unfold stk; split <;> first | exact in_N | exact in_0
theorem in_cpy {M : mI} {pc : Nat} {L st : List Value} {h : Hp} : isIn (cpy M pc L st h) := by
  unfold cpy
  split
  · exact in_if (in_if in_N (in_if in_N in_0)) in_0
  · exact in_0
theorem in_mth {M : mI} {o pc : Nat} {L st : List Value} {h : Hp} : isIn (mth M o pc L st h) := by
  unfold mth
  split
  · split <;> first | exact in_if in_N in_0 | exact in_0
  · split <;> first | exact in_if in_N in_0 | exact in_0
  · split <;> first | exact in_if in_N in_0 | exact in_0
theorem in_op2 {f : Int32 → Int32 → Int32} {pc : Nat} {L st : List Value} {h : Hp} : isIn (op2 f pc L st h) := by
  unfold op2; split <;> first | exact in_N | exact in_0
theorem in_op2d {f : Int32 → Int32 → Int32} {pc : Nat} {L st : List Value} {h : Hp} : isIn (op2d f pc L st h) := by
  unfold op2d; split <;> first | exact in_if in_0 in_N | exact in_0
theorem in_op1 {f : Int32 → Int32} {pc : Nat} {L st : List Value} {h : Hp} : isIn (op1 f pc L st h) := by
  unfold op1; split <;> first | exact in_N | exact in_0
/-- what a step to a return or a call is -/
theorem out_q {M : mI} {pc : Nat} {L st : List Value} {h : Hp} {i : Instr} {ln : Nat} {y : Rt ⊕ Ca} (e : stI E M pc L st h i ln = some (.inr y)) : (i = .ireturn ∧ ln = 1 ∧ rtI M st h = some (.inr y)) ∨ (i = .lreturn ∧ ln = 1 ∧ rtJ M st h = some (.inr y)) ∨ (i = .areturn ∧ ln = 1 ∧ rtR M st h = some (.inr y)) ∨ (i = .return_ ∧ ln = 1 ∧ rtV M st h = some (.inr y)) ∨ (∃ k, i = .invokestatic k ∧ ln = 3 ∧ cS M k pc L st h = some (.inr y)) ∨ (∃ k, i = .invokevirtual k ∧ ln = 3 ∧ cV M k st = some (.inr y)) := by
  have no : isIn (stI E M pc L st h i ln) → False := fun z7 => z7 y e
  cases i with
  | ireturn => obtain ⟨h0, e8⟩ := ifq (show (if ln = 1 then rtI M st h else none) = _ from e); exact Or.inl ⟨rfl, h0, e8⟩
  | lreturn => obtain ⟨h0, e8⟩ := ifq (show (if ln = 1 then rtJ M st h else none) = _ from e); exact Or.inr (Or.inl ⟨rfl, h0, e8⟩)
  | areturn => obtain ⟨h0, e8⟩ := ifq (show (if ln = 1 then rtR M st h else none) = _ from e); exact Or.inr (Or.inr (Or.inl ⟨rfl, h0, e8⟩))
  | return_ => obtain ⟨h0, e8⟩ := ifq (show (if ln = 1 then rtV M st h else none) = _ from e); exact Or.inr (Or.inr (Or.inr (Or.inl ⟨rfl, h0, e8⟩)))
  | invokestatic k => obtain ⟨h0, e8⟩ := ifq (show (if ln = 3 then cS M k pc L st h else none) = _ from e); exact Or.inr (Or.inr (Or.inr (Or.inr (Or.inl ⟨k, rfl, h0, e8⟩))))
  | invokevirtual k => obtain ⟨h0, e8⟩ := ifq (show (if ln = 3 then cV M k st else none) = _ from e); exact Or.inr (Or.inr (Or.inr (Or.inr (Or.inr ⟨k, rfl, h0, e8⟩))))
  | aload_n k => exact (no (in_if (by unfold ldR; split <;> first | exact in_if in_N in_0 | exact in_0) in_0)).elim
  | aload k => exact (no (in_if (by unfold ldR; split <;> first | exact in_if in_N in_0 | exact in_0) in_0)).elim
  | iload_n k => exact (no (in_if (by unfold ldI; split <;> first | exact in_N | exact in_0) in_0)).elim
  | iload k => exact (no (in_if (by unfold ldI; split <;> first | exact in_N | exact in_0) in_0)).elim
  | lload_n k => exact (no (in_if (by unfold ldJ; split <;> first | exact in_N | exact in_0) in_0)).elim
  | lload k => exact (no (in_if (by unfold ldJ; split <;> first | exact in_N | exact in_0) in_0)).elim
  | istore_n k => exact (no (in_if (by unfold toI; split <;> first | exact in_if in_N in_0 | exact in_0) in_0)).elim
  | istore k => exact (no (in_if (by unfold toI; split <;> first | exact in_if in_N in_0 | exact in_0) in_0)).elim
  | astore_n k => exact (no (in_if (by unfold toR; split <;> first | exact in_if in_N in_0 | exact in_0) in_0)).elim
  | astore k => exact (no (in_if (by unfold toR; split <;> first | exact in_if in_N in_0 | exact in_0) in_0)).elim
  | lstore_n k => exact (no (in_if (by unfold toJ; split <;> first | exact in_if in_N in_0 | exact in_0) in_0)).elim
  | lstore k => exact (no (in_if (by unfold toJ; split <;> first | exact in_if in_N in_0 | exact in_0) in_0)).elim
  | iinc k z => exact (no (in_if (by unfold incI; split <;> first | exact in_if in_N in_0 | exact in_0) in_0)).elim
  | iconst z => exact (no (in_if in_N in_0)).elim
  | bipush z => exact (no (in_if in_N in_0)).elim
  | sipush z => exact (no (in_if in_N in_0)).elim
  | lconst k => exact (no (in_if in_N in_0)).elim
  | ldc k => exact (no (in_if (by unfold ldkS; split <;> first | exact in_N | (split <;> first | exact in_N | exact in_0)) in_0)).elim
  | ldc_w k => exact (no (in_if (by unfold ldk; split <;> first | exact in_N | exact in_0) in_0)).elim
  | ldc2_w k => exact (no (in_if (by split <;> first | exact in_N | exact in_0) in_0)).elim
  | iadd => exact (no (in_if in_op2 in_0)).elim
  | isub => exact (no (in_if in_op2 in_0)).elim
  | imul => exact (no (in_if in_op2 in_0)).elim
  | iand => exact (no (in_if in_op2 in_0)).elim
  | ior => exact (no (in_if in_op2 in_0)).elim
  | ishl => exact (no (in_if in_op2 in_0)).elim
  | ishr => exact (no (in_if in_op2 in_0)).elim
  | iushr => exact (no (in_if in_op2 in_0)).elim
  | idiv => exact (no (in_if in_op2d in_0)).elim
  | irem => exact (no (in_if in_op2d in_0)).elim
  | ineg => exact (no (in_if in_op1 in_0)).elim
  | i2b => exact (no (in_if in_op1 in_0)).elim
  | i2s => exact (no (in_if in_op1 in_0)).elim
  | i2c => exact (no (in_if in_op1 in_0)).elim
  | dup => exact (no (in_if in_stk in_0)).elim
  | dup2 => exact (no (in_if in_stk in_0)).elim
  | pop => exact (no (in_if in_stk in_0)).elim
  | i2l => exact (no (in_if in_stk in_0)).elim
  | l2i => exact (no (in_if in_stk in_0)).elim
  | lcmp => exact (no (in_if in_stk in_0)).elim
  | land => exact (no (in_if in_stk in_0)).elim
  | lor => exact (no (in_if in_stk in_0)).elim
  | lshl => exact (no (in_if in_stk in_0)).elim
  | ifCond k z => exact (no (in_if (by unfold br1; split <;> first | exact in_0 | (split <;> first | exact in_if in_N in_N | exact in_0)) in_0)).elim
  | if_icmp k z => exact (no (in_if (by unfold br2; split <;> first | exact in_0 | (split <;> first | exact in_if in_N in_N | exact in_0)) in_0)).elim
  | goto z => exact (no (in_if in_jmp in_0)).elim
  | tableswitch z lo hi offs => exact (no (show isIn (tsw pc z lo hi offs L st h) from by unfold tsw; split <;> first | exact in_0 | exact in_if in_jmp (by split <;> first | exact in_jmp | exact in_0))).elim
  | lookupswitch z ps => exact (no (show isIn (lsw pc z ps L st h) from by unfold lsw; split <;> first | exact in_0 | exact in_if in_jmp in_0)).elim
  | getfield k => exact (no (in_if (by unfold getf; split <;> first | exact in_0 | (split <;> first | exact in_N | exact in_0)) in_0)).elim
  | putfield k => exact (no (in_if (by unfold putf; split <;> first | exact in_0 | (split <;> first | exact in_if in_N in_0 | exact in_0)) in_0)).elim
  | getstatic k => exact (no (in_if (by split <;> first | exact in_N | exact in_0) in_0)).elim
  | iaload => exact (no (in_if (by unfold iald; split <;> first | exact in_0 | exact in_if (in_if in_N in_0) (in_if (in_if in_N in_0) (in_if (in_if in_N in_0) (in_if in_N in_0)))) in_0)).elim
  | iastore => exact (no (in_if (by unfold iast; split <;> first | exact in_if in_N in_0 | exact in_0) in_0)).elim
  | laload => exact (no (in_if (by unfold lald; split <;> first | exact in_if in_N in_0 | exact in_0) in_0)).elim
  | lastore => exact (no (in_if (by unfold last; split <;> first | exact in_if in_N in_0 | exact in_0) in_0)).elim
  | aaload => exact (no (in_if (by unfold rald; split <;> first | exact in_if in_N in_0 | exact in_0) in_0)).elim
  | baload => exact (no (in_if (by unfold bald; split <;> first | exact in_if in_N in_0 | exact in_0) in_0)).elim
  | arraylength => exact (no (in_if (by unfold alen; split <;> first | exact in_if (in_if in_N in_0) (in_if in_N in_0) | exact in_0) in_0)).elim
  | _ =>
    have e8 : (none : St) = some (.inr y) := e
    cases e8
theorem met_of {n : Nat} (ih : Snd E ad vS cy D l n) {M : mI} (ok : okM M) (hvS : vS.category = 1) (hinj : ∀ i j : Nat, i < 45 → j < 45 → ad i = ad j → i = j) {as : List Value} (hlen : (argL as).length ≤ M.n) {h h' : Hp} {v : Option Value} (hr : run E n M 0 (enL M as) [] h = some (v, h')) :
    Met l M.y (wsM M) (rmM M) (pP ad vS cy D h as) (qQ ad vS cy D v h') 0 0 (oA ad) := by
  refine Met.ofW (cc := M.b) (maxL := M.n) (ret := M.r) ok.2.2.2.2.2.1 rfl ?_
  intro p e s m args below meth c s₁ B hml hv
  obtain ⟨rfl, hP, hK, hC⟩ := hv
  have hts0 := atoms_spec (ws := wsM M) B.pre
  have hts : ∀ w ∈ WT, w.before (as.map (rl ad vS)).toArray s = true := fun w hw => hts0 w (List.mem_cons_of_mem _ hw)
  have hown : s.vm.findClass (ownN M.c) = some m.cls := by rw [← ok.2.2.2.2.1]; exact findClass_of_methodNamed B.named
  have hlocks := B.notSynchronized
  have hrt := B.returns
  rw [lg_entry_eq]
  refine ih M 0 (enL M as) [] h v h' hr p e _ s m _ below meth c s.heap [] 0 0 _ _ ⟨B.exec, B.bytes, hml, hown, hts, hK, hC, hvS, hinj, fun z7 => absurd z7 ok.2.2.2.2.2.2, rfl, rfl⟩ ⟨Nat.zero_le _, Nat.zero_le _⟩ hP va_S.rf (enL_lr hvS hlen) (enL_len hlen) ?_
  intro pc' L' st' H1 locs1 ls1 hst hP1 hS1
  unfold stp at hst
  split at hst
  case h_2 => cases hst
  case h_1 i ln d =>
    have hx := B.exec
    have hb := B.bytes
    have hk : RtK M pc' st' v := by
      rcases out_q hst with ⟨rfl, rfl, e8⟩ | ⟨rfl, rfl, e8⟩ | ⟨rfl, rfl, e8⟩ | ⟨rfl, rfl, e8⟩ | ⟨k, rfl, rfl, e8⟩ | ⟨k, rfl, rfl, e8⟩
      · exact (rtI_q d e8).2
      · exact (rtJ_q d e8).2
      · exact (rtR_q d e8).2
      · exact (rtV_q d e8).2
      · exfalso
        unfold cS at e8
        split at e8
        · exact in_cpy _ e8
        · split at e8
          · exact in_mth _ e8
          · split at e8
            · obtain ⟨-, h2⟩ := ifq e8
              cases h2
            · cases e8
      · exfalso
        unfold cV at e8
        split at e8
        · split at e8
          · obtain ⟨-, h2⟩ := ifq e8
            cases h2
          · cases e8
        · cases e8
    rcases hk with ⟨x, ty, rfl, rfl, d7, hr7, hn7⟩ | ⟨x, rfl, rfl, d7, hr7⟩ | ⟨a, ha, rfl, rfl, d7, hr7⟩ | ⟨rfl, rfl, d7, hr7⟩
    · exact W.zret hx hb (hrt.trans hr7) hn7 (fun t ht hW => ⟨rfl, by rw [ht]; exact hP1, hS1.F ht⟩) hS1.2.2 d7 hlocks
    · exact W.lret hx hb (hrt.trans hr7) (fun t ht hW => ⟨rfl, by rw [ht]; exact hP1, hS1.F ht⟩) hS1.2.2 d7 hlocks
    · simp only [List.map_cons, List.map_nil]
      rw [rl_ref ha]
      exact W.aret hx hb (hrt.trans hr7) (Or.inl ⟨_, rfl⟩) (Or.inr ⟨_, rfl⟩) (fun t ht hW => ⟨by show _ = Outcome.returned (some (rl ad vS (.ref a))); rw [rl_ref ha], by rw [ht]; exact hP1, hS1.F ht⟩) hS1.2.2 d7 hlocks
    · exact W.vret hx hb (hrt.trans hr7) (fun t ht hW => ⟨rfl, by rw [ht]; exact hP1, hS1.F ht⟩) hS1.2.2 d7 hlocks
theorem W_run {p : Program} {e : Env} {R : Room} {s : State} {m : MethodId} {args : Array Value} {below : List Frame} {meth : Method} {c : Code} {H : Heap} {locs : List Loc} {cells slots : Nat} {Q : State → Prop} {pc : Nat} {ls : Array Slot} {st0 rest : List Value} {a : Array Value} {v : Option Value} {h' : Hp}
    (hr : va_Run p l e R s m args below meth c H locs cells slots 0 0 (F0 m pc ls st0) rest (qQ ad vS cy D v h' a) (oA ad)) (hS : va_S (oA ad) s.heap H locs)
    (kk : ∀ (H1 : Heap) (locs1 : List Loc), va_P D cls7 (wW ad cy h') H1 → va_S (oA ad) s.heap H1 locs1 → W p l e R s m args below meth c H1 locs1 cells slots Q (F0 m (pc + 3) ls ((v.map (rl ad vS)).toList ++ rest))) : W p l e R s m args below meth c H locs cells slots Q (F0 m pc ls st0) := by
  intro T hT X
  obtain ⟨v1, st₀, t, T', L1, h0, X', hL, e1, e2, ⟨hv, hP1, hz, hk⟩, hst⟩ := hr T hT X
  cases hv
  rw [h0] at hz hk
  obtain ⟨t2, a1, b1⟩ := kk T'.heap (locs ++ L1) (by rw [e1]; exact hP1)
    ⟨Nat.le_trans hS.1 (by rw [e1]; exact hz), fun q h1 h2 => by rw [e1, hk q (Nat.lt_of_lt_of_le h1 hS.1) h2]; exact hS.2.1 q h1 h2, fun q hq => by
      rcases List.mem_append.mp hq with h | h
      · exact hS.2.2 q h
      · exact hL q h⟩ T' rfl X'
  exact ⟨t2, hst t2 a1, b1⟩
theorem toL_map (u : Option Value) (r : List Value) : (u.toList ++ r).map (rl ad vS) = (u.map (rl ad vS)).toList ++ r.map (rl ad vS) := by cases u <;> simp
theorem run_sound : ∀ n : Nat, Snd E ad vS cy D l n
  | 0 => fun M pc L st h v h' hr => by cases hr
  | n + 1 => by
    have ih := run_sound n
    intro M pc L st h v h' hr p e R s m args below meth c H locs cells slots Q ls C hcs hP hS hl hn hret
    rw [run] at hr
    cases hs : stp E M pc L st h with
    | none => rw [hs] at hr; cases hr
    | some q =>
      rw [hs] at hr
      have hs0 := hs
      unfold stp at hs
      split at hs
      case h_2 => cases hs
      case h_1 i ln d =>
        rcases q with q | q | q
        · exact sim C hcs d hs hP hS hl hn (fun H1 locs1 ls1 a7 b7 c7 d7 => ih _ _ _ _ _ _ _ hr p e R s m args below meth c H1 locs1 cells slots Q ls1 C hcs a7 b7 c7 d7 hret)
        · have hq : q = (v, h') := Option.some.inj hr
          subst hq
          have hh : h' = h := by
            rcases out_q hs with ⟨rfl, rfl, e8⟩ | ⟨rfl, rfl, e8⟩ | ⟨rfl, rfl, e8⟩ | ⟨rfl, rfl, e8⟩ | ⟨k, rfl, rfl, e8⟩ | ⟨k, rfl, rfl, e8⟩
            · exact (rtI_q d e8).1
            · exact (rtJ_q d e8).1
            · exact (rtR_q d e8).1
            · exact (rtV_q d e8).1
            · exfalso
              unfold cS at e8
              split at e8
              · exact in_cpy _ e8
              · split at e8
                · exact in_mth _ e8
                · split at e8
                  · obtain ⟨-, h2⟩ := ifq e8
                    cases h2
                  · cases e8
            · exfalso
              unfold cV at e8
              split at e8
              · split at e8
                · obtain ⟨-, h2⟩ := ifq e8
                  cases h2
                · cases e8
              · cases e8
          subst hh
          exact hret pc L st H locs ls hs0 hP hS
        · obtain ⟨M', as, r⟩ := q
          simp only at hr
          cases hc : run E n M' 0 (enL M' as) [] h with
          | none => rw [hc] at hr; cases hr
          | some u =>
            rw [hc] at hr
            obtain ⟨hx, hb, hml, hown, hts, hK, hC, hvS, hinj, hlaw, hfr, hlo⟩ := id C
            have KK : ∀ (H1 : Heap) (locs1 : List Loc), va_P D cls7 (wW ad cy u.2) H1 → va_S (oA ad) s.heap H1 locs1 → W p l e R s m args below meth c H1 locs1 cells slots Q (F0 m (pc + 3) ls ((u.1.map (rl ad vS)).toList ++ r.map (rl ad vS))) := by
              intro H1 locs1 g1 g2
              rw [← toL_map]
              exact ih _ _ _ _ _ _ _ hr p e R s m args below meth c H1 locs1 cells slots Q ls C hcs g1 g2 hl hn hret
            rcases out_q hs with ⟨rfl, rfl, e8⟩ | ⟨rfl, rfl, e8⟩ | ⟨rfl, rfl, e8⟩ | ⟨rfl, rfl, e8⟩ | ⟨k, rfl, rfl, e8⟩ | ⟨k, rfl, rfl, e8⟩
            · exfalso
              unfold rtI at e8
              split at e8
              · split at e8
                · cases e8
                · obtain ⟨-, h2⟩ := ifq e8; cases h2
                · obtain ⟨-, h2⟩ := ifq e8; cases h2
                · obtain ⟨-, h2⟩ := ifq e8; cases h2
                · cases e8
              · cases e8
            · exfalso
              unfold rtJ at e8
              split at e8
              · obtain ⟨-, h2⟩ := ifq e8; cases h2
              · cases e8
            · exfalso
              unfold rtR at e8
              split at e8
              · obtain ⟨-, h2⟩ := ifq e8; cases h2
              · cases e8
            · exfalso
              unfold rtV at e8
              split at e8
              · obtain ⟨-, h2⟩ := ifq e8; cases h2
              · cases e8
            · unfold cS at e8
              split at e8
              · exact (in_cpy _ e8).elim
              · split at e8
                · exact (in_mth _ e8).elim
                · split at e8
                  case h_2 => cases e8
                  case h_1 na M2 hk =>
                    obtain ⟨⟨hna, hfit⟩, e9⟩ := ifq e8
                    have e10 := Prod.mk.inj (Sum.inr.inj (Sum.inr.inj (Option.some.inj e9)))
                    obtain ⟨h1, h2⟩ := e10
                    obtain ⟨h2, h3⟩ := Prod.mk.inj h2
                    subst h1
                    subst h2
                    subst h3
                    obtain ⟨ok, w1, w2, w3, -⟩ := mTab_ok (lk_mem _ hk)
                    simp only [fitsR, Bool.and_eq_true, decide_eq_true_eq] at hfit
                    obtain ⟨f1, f2, f3, f4⟩ := hfit
                    have hM := met_of ih ok hvS hinj f4 hc
                    have cw := va_cwS (s := s) (args := args) (R := R) (own := ownN M.c) (index := k) (y := M2.y) (bytes := M2.b) (maxL := M2.n) (ret := M2.r) (rm := rmM M2) (mc := 0) (ms := 0) (Ts := WT) (ws := wsM M2) na hts
                      (WT_good (fun w hw => by
                        rcases List.mem_append.mp hw with hw | hw
                        · simp only [List.mem_cons, List.not_mem_nil, or_false] at hw
                          rcases hw with rfl | rfl | rfl
                          · exact w1
                          · exact w3 rfl
                          · exact ok.2.1
                        · rcases List.mem_cons.mp hw with rfl | hw
                          · exact ok.1
                          · exact hw)) rfl rfl rfl ⟨ok.2.2.1, ok.2.2.2.1, w2⟩ ⟨by rw [hfr]; exact f1, by rw [hlo]; exact f2⟩
                    refine W_run (va_runS (As := (st.take na).reverse.map (rl ad vS)) (rest := (st.drop na).map (rl ad vS)) ⟨hx, hb, hml, hown, hts⟩ hM cw ⟨pP_blind _ _, fun U hU hW => ⟨rfl, by rw [hU]; exact hP, va_K.moved hW.alike hK, hC.go hS hW hU⟩⟩ rfl (by simp; omega) hl.1 ?_ (lv_room (by rw [cat_map hvS]; exact f3)) d ⟨hcs.1, hcs.2⟩) hS KK
                    show st.map (rl ad vS) = _
                    rw [← List.map_reverse, List.reverse_reverse, ← List.map_append, List.take_append_drop]
            · unfold cV at e8
              split at e8
              case h_2 => cases e8
              case h_1 na M2 hk =>
                split at e8
                case h_2 => cases e8
                case h_1 b0 r0 hdrop =>
                  obtain ⟨b9, rfl⟩ : ∃ z9 : Nat, z9 = b0 := ⟨b0, rfl⟩
                  obtain ⟨⟨hna, hrc, hfit⟩, e9⟩ := ifq e8
                  have e10 := Prod.mk.inj (Sum.inr.inj (Sum.inr.inj (Option.some.inj e9)))
                  obtain ⟨h1, h2⟩ := e10
                  obtain ⟨h2, h3⟩ := Prod.mk.inj h2
                  subst h1
                  subst h2
                  subst h3
                  obtain ⟨ok, w1, w2, -, w4⟩ := mTab_ok (lk_mem _ hk)
                  obtain ⟨v1, v2, v3⟩ := w4 rfl
                  simp only [fitsR, Bool.and_eq_true, decide_eq_true_eq] at hfit
                  obtain ⟨f1, f2, f3, f4⟩ := hfit
                  have hM := met_of ih ok hvS hinj f4 hc
                  have cw := cwV (s := s) (args := args) (R := R) (own := ownN M.c) (C := M2.y.cls) (index := k) (y := M2.y) (bytes := M2.b) (maxL := M2.n) (ret := M2.r) (rm := rmM M2) (mc := 0) (ms := 0) (Ts := WT) (ws := wsM M2) na hts
                    (WT_good (fun w hw => by
                      rcases List.mem_append.mp hw with hw | hw
                      · simp only [List.mem_cons, List.not_mem_nil, or_false] at hw
                        rcases hw with rfl | rfl | rfl | rfl
                        · exact w1
                        · exact v1
                        · exact v2
                        · exact ok.2.1
                      · rcases List.mem_cons.mp hw with rfl | hw
                        · exact ok.1
                        · exact hw)) rfl rfl rfl ⟨rfl, ok.2.2.1, ok.2.2.2.1, w2⟩ ⟨by rw [hfr]; exact f1, by rw [hlo]; exact f2⟩
                  have hb150 : b9 < 150 := by
                    simp only [rcv, Bool.or_eq_true, Bool.and_eq_true, decide_eq_true_eq] at hrc
                    rcases hrc with hrc | hrc
                    · have := cK_lt (a := b9) (by rw [hrc]; simp)
                      omega
                    · omega
                  have hcell : ∃ cellB : Cell, H[ad b9]? = some cellB ∧ cellB.vm.isStatics = false ∧ s.vm.findClass M2.y.cls = some cellB.cls := by
                    simp only [rcv, Bool.or_eq_true, Bool.and_eq_true, decide_eq_true_eq] at hrc
                    rcases hrc with hrc | ⟨hrc, g1, g2⟩
                    · have hb45 : b9 < 45 := cK_lt (by rw [hrc]; simp)
                      have he := wW_at ad cy h hb45
                      rw [wE_o hrc] at he
                      have hc7 : M2.c < 7 ∧ (cls7.getD M2.c dC7).1 = M2.y.cls := by
                        rcases v3 with v3 | v3
                        · exfalso
                          rw [v3] at hrc
                          have : ∀ i, i < 45 → cK i ≠ (1, 9, 0) := by decide
                          exact this b9 hb45 hrc
                        · exact v3
                      have := va_recv hK hP (cls7_at hc7.1) he
                      rw [hc7.2] at this
                      exact this
                    · have hE := vk_recv (i := b9 - 100) hC.2.2.2.2.1 (by omega) hS
                      simp only [show 100 + (b9 - 100) = b9 by omega] at hE
                      have hcs9 : M2.y.cls = "java/lang/String" := by rw [ok.2.2.2.2.1, hrc]; rfl
                      rw [hcs9]
                      exact hE
                  have hPV : PreV s H M2.y.cls (ad b9) (pP ad vS cy D h (.ref b9 :: (st.take na).reverse)) ((st.take na).reverse.map (rl ad vS)) := by
                    refine ⟨pP_blind _ _, hcell, fun U hU hW => ⟨?_, by rw [hU]; exact hP, va_K.moved hW.alike hK, hC.go hS hW hU⟩⟩
                    simp only [List.map_cons]
                    rw [rl_ref hb150]
                  refine W_run (va_runV (As := (st.take na).reverse.map (rl ad vS)) (rest := r0.map (rl ad vS)) ⟨hx, hb, hml, hown, hts⟩ hM cw hPV rfl (by simp; omega) hl.1 ?_ (lv_room (by rw [cat_map hvS]; exact f3)) d ⟨hcs.1, hcs.2⟩) hS KK
                  show st.map (rl ad vS) = _
                  rw [← List.map_reverse, List.reverse_reverse, ← rl_ref (ad := ad) (vS := vS) hb150, ← List.map_cons, ← hdrop, ← List.map_append, List.take_append_drop]
end MAIN
