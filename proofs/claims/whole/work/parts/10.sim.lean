/-! every instruction; then every run -/
section SIM
variable {E : En} {ad : Nat → Nat} {vS : Value} {cy : Cy} {D : va_G} {M : mI}
variable {p : Program} {l : Launch} {e : Env} {R : Room} {s : State} {m : MethodId} {args : Array Value} {below : List Frame} {meth : Method} {c : Code} {H : Heap} {locs : List Loc} {cells slots : Nat} {Q : State → Prop}
variable {pc : Nat} {L st : List Value} {h : Hp} {ls : Array Slot} {q : Cf}
theorem fdup_q {st st' : List Value} (e : fdup st = some st') : ∃ v r, st = v :: r ∧ cat1 v = true ∧ st' = v :: v :: r := by
  unfold fdup at e
  split at e
  · obtain ⟨h1, h2⟩ := ifq e
    exact ⟨_, _, rfl, h1, (Option.some.inj h2).symm⟩
  · cases e
theorem fdup2_q {st st' : List Value} (e : fdup2 st = some st') : ∃ v w r, st = v :: w :: r ∧ cat1 v = true ∧ cat1 w = true ∧ st' = v :: w :: v :: w :: r := by
  unfold fdup2 at e
  split at e
  · obtain ⟨h1, h2⟩ := ifq e
    exact ⟨_, _, _, rfl, h1.1, h1.2, (Option.some.inj h2).symm⟩
  · cases e
theorem fpop_q {st st' : List Value} (e : fpop st = some st') : ∃ v, st = v :: st' ∧ cat1 v = true := by
  unfold fpop at e
  split at e
  · obtain ⟨h1, h2⟩ := ifq e
    exact ⟨_, by rw [Option.some.inj h2], h1⟩
  · cases e
theorem fi2l_q {st st' : List Value} (e : fi2l st = some st') : ∃ x r, st = .int x :: r ∧ st' = .long x.toInt64 :: r := by
  unfold fi2l at e
  split at e
  · exact ⟨_, _, rfl, (Option.some.inj e).symm⟩
  · cases e
theorem fl2i_q {st st' : List Value} (e : fl2i st = some st') : ∃ x r, st = .long x :: r ∧ st' = .int x.toInt32 :: r := by
  unfold fl2i at e
  split at e
  · exact ⟨_, _, rfl, (Option.some.inj e).symm⟩
  · cases e
theorem flcmp_q {st st' : List Value} (e : flcmp st = some st') : ∃ x y r, st = .long y :: .long x :: r ∧ st' = .int (lg_cmp x y) :: r := by
  unfold flcmp at e
  split at e
  · exact ⟨_, _, _, rfl, (Option.some.inj e).symm⟩
  · cases e
theorem fland_q {st st' : List Value} (e : fland st = some st') : ∃ x y r, st = .long y :: .long x :: r ∧ st' = .long (x &&& y) :: r := by
  unfold fland at e
  split at e
  · exact ⟨_, _, _, rfl, (Option.some.inj e).symm⟩
  · cases e
theorem flor_q {st st' : List Value} (e : flor st = some st') : ∃ x y r, st = .long y :: .long x :: r ∧ st' = .long (x ||| y) :: r := by
  unfold flor at e
  split at e
  · exact ⟨_, _, _, rfl, (Option.some.inj e).symm⟩
  · cases e
theorem flshl_q {st st' : List Value} (e : flshl st = some st') : ∃ x y r, st = .int y :: .long x :: r ∧ st' = .long (x <<< (y.toInt64 &&& 63)) :: r := by
  unfold flshl at e
  split at e
  · exact ⟨_, _, _, rfl, (Option.some.inj e).symm⟩
  · cases e
theorem rtI_n {q : Cf} (e : rtI M st h = some (.inl q)) : False := by
  unfold rtI at e
  split at e
  · split at e
    · cases e
    · obtain ⟨-, h2⟩ := ifq e; cases h2
    · obtain ⟨-, h2⟩ := ifq e; cases h2
    · obtain ⟨-, h2⟩ := ifq e; cases h2
    · cases e
  · cases e
theorem rtJ_n {q : Cf} (e : rtJ M st h = some (.inl q)) : False := by
  unfold rtJ at e
  split at e
  · obtain ⟨-, h2⟩ := ifq e; cases h2
  · cases e
theorem rtR_n {q : Cf} (e : rtR M st h = some (.inl q)) : False := by
  unfold rtR at e
  split at e
  · obtain ⟨-, h2⟩ := ifq e; cases h2
  · cases e
theorem rtV_n {q : Cf} (e : rtV M st h = some (.inl q)) : False := by
  unfold rtV at e
  split at e
  · obtain ⟨-, h2⟩ := ifq e; cases h2
  · cases e
theorem cV_n {k : Nat} {q : Cf} (e : cV M k st = some (.inl q)) : False := by
  unfold cV at e
  split at e
  · split at e
    · obtain ⟨-, h2⟩ := ifq e; cases h2
    · cases e
  · cases e
set_option maxHeartbeats 4000000 in
theorem sim (C : Cx E ad vS cy D M p R s m args c) (hcs : cells ≤ R.cells ∧ slots ≤ R.slots) {i : Instr} {ln : Nat} (d : decode M.b pc = .ok (i, ln)) (e7 : stI E M pc L st h i ln = some (.inl q)) (hP : va_P D cls7 (wW ad cy h) H) (hS : va_S (oA ad) s.heap H locs) (hl : lr ad vS ls M.n L) (hn : L.length = M.n) (K : Go ad vS cy D M p l e R s m args below meth c cells slots Q q) : W p l e R s m args below meth c H locs cells slots Q (F0 m pc ls (st.map (rl ad vS))) := by
  have hx := C.1
  have hb := C.2.1
  have hvS : vS.category = 1 := C.2.2.2.2.2.2.2.1
  cases i with
  | aload_n k =>
    obtain ⟨h0, e8⟩ := ifq (show (if ln = 1 then ldR L k (pc + 1) st h else none) = some (.inl q) from e7)
    subst h0
    exact s_ldR C (fun x a7 b7 => lv_aload_n hx hb d rfl a7 b7) e8 hP hS hl hn K
  | aload k =>
    obtain ⟨h0, e8⟩ := ifq (show (if ln = 2 then ldR L k (pc + 2) st h else none) = some (.inl q) from e7)
    subst h0
    exact s_ldR C (fun x a7 b7 => lv_aload hx hb d a7 b7) e8 hP hS hl hn K
  | iload_n k =>
    obtain ⟨h0, e8⟩ := ifq (show (if ln = 1 then ldI L k (pc + 1) st h else none) = some (.inl q) from e7)
    subst h0
    exact s_ldI C (fun x a7 b7 => lv_iload_n hx hb d rfl a7 b7) e8 hP hS hl hn K
  | iload k =>
    obtain ⟨h0, e8⟩ := ifq (show (if ln = 2 then ldI L k (pc + 2) st h else none) = some (.inl q) from e7)
    subst h0
    exact s_ldI C (fun x a7 b7 => lv_iload hx hb d a7 b7) e8 hP hS hl hn K
  | lload_n k =>
    obtain ⟨h0, e8⟩ := ifq (show (if ln = 1 then ldJ L k (pc + 1) st h else none) = some (.inl q) from e7)
    subst h0
    exact s_ldJ C (fun x a7 b7 => lv_lload_n hx hb d rfl a7 b7) e8 hP hS hl hn K
  | lload k =>
    obtain ⟨h0, e8⟩ := ifq (show (if ln = 2 then ldJ L k (pc + 2) st h else none) = some (.inl q) from e7)
    subst h0
    exact s_ldJ C (fun x a7 b7 => lv_lload hx hb d a7 b7) e8 hP hS hl hn K
  | istore_n k =>
    obtain ⟨h0, e8⟩ := ifq (show (if ln = 1 then toI L k (pc + 1) st h else none) = some (.inl q) from e7)
    subst h0
    exact s_toI C (fun x rest lv7 a7 b7 c7 d7 => lv_istore_n hx hb d rfl a7 b7 c7 d7) e8 hP hS hl hn K
  | istore k =>
    obtain ⟨h0, e8⟩ := ifq (show (if ln = 2 then toI L k (pc + 2) st h else none) = some (.inl q) from e7)
    subst h0
    exact s_toI C (fun x rest lv7 a7 b7 c7 d7 => lv_istore hx hb d a7 b7 c7 d7) e8 hP hS hl hn K
  | astore_n k =>
    obtain ⟨h0, e8⟩ := ifq (show (if ln = 1 then toR L k (pc + 1) st h else none) = some (.inl q) from e7)
    subst h0
    exact s_toR C (fun x rest lv7 a7 b7 c7 d7 => lv_astore_n hx hb d rfl a7 b7 c7 d7) e8 hP hS hl hn K
  | astore k =>
    obtain ⟨h0, e8⟩ := ifq (show (if ln = 2 then toR L k (pc + 2) st h else none) = some (.inl q) from e7)
    subst h0
    exact s_toR C (fun x rest lv7 a7 b7 c7 d7 => lv_astore hx hb d a7 b7 c7 d7) e8 hP hS hl hn K
  | lstore_n k =>
    obtain ⟨h0, e8⟩ := ifq (show (if ln = 1 then toJ L k (pc + 1) st h else none) = some (.inl q) from e7)
    subst h0
    exact s_toJ C (fun x rest lv7 a7 b7 c7 d7 => lv_lstore_n hx hb d rfl a7 b7 c7 d7) e8 hP hS hl hn K
  | lstore k =>
    obtain ⟨h0, e8⟩ := ifq (show (if ln = 2 then toJ L k (pc + 2) st h else none) = some (.inl q) from e7)
    subst h0
    exact s_toJ C (fun x rest lv7 a7 b7 c7 d7 => lv_lstore hx hb d a7 b7 c7 d7) e8 hP hS hl hn K
  | iinc k z =>
    obtain ⟨h0, e8⟩ := ifq (show (if ln = 3 then incI L k z (pc + 3) st h else none) = some (.inl q) from e7)
    subst h0
    exact s_inc C d e8 hP hS hl hn K
  | iconst z =>
    obtain ⟨h0, e8⟩ := ifq (show (if ln = 1 then pN (pc + 1) L (.int (Int32.ofInt z) :: st) h else none) = some (.inl q) from e7)
    subst h0
    have q7 := pN_q e8
    subst q7
    exact lv_iconst hx hb d rfl (K H locs ls hP hS hl hn)
  | bipush z =>
    obtain ⟨h0, e8⟩ := ifq (show (if ln = 2 then pN (pc + 2) L (.int (Int8.ofInt z).toInt32 :: st) h else none) = some (.inl q) from e7)
    subst h0
    have q7 := pN_q e8
    subst q7
    exact lv_bipush hx hb d rfl (K H locs ls hP hS hl hn)
  | sipush z =>
    obtain ⟨h0, e8⟩ := ifq (show (if ln = 3 then pN (pc + 3) L (.int (Int16.ofInt z).toInt32 :: st) h else none) = some (.inl q) from e7)
    subst h0
    have q7 := pN_q e8
    subst q7
    exact lv_sipush hx hb d rfl (K H locs ls hP hS hl hn)
  | lconst k =>
    obtain ⟨h0, e8⟩ := ifq (show (if ln = 1 then pN (pc + 1) L (.long (Int64.ofNat k) :: st) h else none) = some (.inl q) from e7)
    subst h0
    have q7 := pN_q e8
    subst q7
    exact lv_lconst hx hb d rfl (K H locs ls hP hS hl hn)
  | ldc k =>
    obtain ⟨h0, e8⟩ := ifq (show (if ln = 2 then ldkS M k (pc + 2) L st h else none) = some (.inl q) from e7)
    subst h0
    exact s_ldkS C d e8 hP hS hl hn K
  | ldc_w k =>
    obtain ⟨h0, e8⟩ := ifq (show (if ln = 3 then ldk M k (pc + 3) L st h else none) = some (.inl q) from e7)
    subst h0
    exact s_ldk C d e8 hP hS hl hn K
  | ldc2_w k =>
    obtain ⟨h0, e8⟩ := ifq e7
    subst h0
    split at e8
    · rename_i v hv
      have q7 := pN_q e8
      subst q7
      exact lv_ldc2 hx hb C.2.2.2.1 (C.2.2.2.2.1 _ (clTab_ok (lk_mem _ hv))) d (K H locs ls hP hS hl hn)
    · cases e8
  | iadd =>
    obtain ⟨h0, e8⟩ := ifq (show (if ln = 1 then op2 (fun x y => x + y) (pc + 1) L st h else none) = some (.inl q) from e7)
    subst h0
    obtain ⟨x, y, r, rfl, rfl⟩ := op2_q e8
    exact lv_iadd hx hb d (K H locs ls hP hS hl hn)
  | isub =>
    obtain ⟨h0, e8⟩ := ifq (show (if ln = 1 then op2 (fun x y => x - y) (pc + 1) L st h else none) = some (.inl q) from e7)
    subst h0
    obtain ⟨x, y, r, rfl, rfl⟩ := op2_q e8
    exact lv_isub hx hb d (K H locs ls hP hS hl hn)
  | imul =>
    obtain ⟨h0, e8⟩ := ifq (show (if ln = 1 then op2 (fun x y => x * y) (pc + 1) L st h else none) = some (.inl q) from e7)
    subst h0
    obtain ⟨x, y, r, rfl, rfl⟩ := op2_q e8
    exact lv_imul hx hb d (K H locs ls hP hS hl hn)
  | iand =>
    obtain ⟨h0, e8⟩ := ifq (show (if ln = 1 then op2 (fun x y => x &&& y) (pc + 1) L st h else none) = some (.inl q) from e7)
    subst h0
    obtain ⟨x, y, r, rfl, rfl⟩ := op2_q e8
    exact lv_iand hx hb d (K H locs ls hP hS hl hn)
  | ior =>
    obtain ⟨h0, e8⟩ := ifq (show (if ln = 1 then op2 (fun x y => x ||| y) (pc + 1) L st h else none) = some (.inl q) from e7)
    subst h0
    obtain ⟨x, y, r, rfl, rfl⟩ := op2_q e8
    exact lv_ior hx hb d (K H locs ls hP hS hl hn)
  | ishl =>
    obtain ⟨h0, e8⟩ := ifq (show (if ln = 1 then op2 (fun x y => x <<< (y &&& 31)) (pc + 1) L st h else none) = some (.inl q) from e7)
    subst h0
    obtain ⟨x, y, r, rfl, rfl⟩ := op2_q e8
    exact lv_ishl hx hb d (K H locs ls hP hS hl hn)
  | ishr =>
    obtain ⟨h0, e8⟩ := ifq (show (if ln = 1 then op2 (fun x y => x >>> (y &&& 31)) (pc + 1) L st h else none) = some (.inl q) from e7)
    subst h0
    obtain ⟨x, y, r, rfl, rfl⟩ := op2_q e8
    exact lv_ishr hx hb d (K H locs ls hP hS hl hn)
  | iushr =>
    obtain ⟨h0, e8⟩ := ifq (show (if ln = 1 then op2 (fun x y => (x.toUInt32 >>> (y.toUInt32 &&& Int32.toUInt32 31)).toInt32) (pc + 1) L st h else none) = some (.inl q) from e7)
    subst h0
    obtain ⟨x, y, r, rfl, rfl⟩ := op2_q e8
    exact lv_iushr hx hb d rfl (K H locs ls hP hS hl hn)
  | idiv =>
    obtain ⟨h0, e8⟩ := ifq (show (if ln = 1 then op2d (fun x y => x / y) (pc + 1) L st h else none) = some (.inl q) from e7)
    subst h0
    obtain ⟨x, y, r, rfl, h1, rfl⟩ := op2d_q e8
    exact lv_idiv hx hb d h1 (K H locs ls hP hS hl hn)
  | irem =>
    obtain ⟨h0, e8⟩ := ifq (show (if ln = 1 then op2d (fun x y => x - x / y * y) (pc + 1) L st h else none) = some (.inl q) from e7)
    subst h0
    obtain ⟨x, y, r, rfl, h1, rfl⟩ := op2d_q e8
    exact lv_irem hx hb d h1 (K H locs ls hP hS hl hn)
  | ineg =>
    obtain ⟨h0, e8⟩ := ifq (show (if ln = 1 then op1 (fun x => -x) (pc + 1) L st h else none) = some (.inl q) from e7)
    subst h0
    obtain ⟨x, r, rfl, rfl⟩ := op1_q e8
    exact lv_ineg hx hb d (K H locs ls hP hS hl hn)
  | i2b =>
    obtain ⟨h0, e8⟩ := ifq (show (if ln = 1 then op1 (fun x => x.toInt8.toInt32) (pc + 1) L st h else none) = some (.inl q) from e7)
    subst h0
    obtain ⟨x, r, rfl, rfl⟩ := op1_q e8
    exact lv_i2b hx hb d rfl (K H locs ls hP hS hl hn)
  | i2s =>
    obtain ⟨h0, e8⟩ := ifq (show (if ln = 1 then op1 (fun x => x.toInt16.toInt32) (pc + 1) L st h else none) = some (.inl q) from e7)
    subst h0
    obtain ⟨x, r, rfl, rfl⟩ := op1_q e8
    exact lv_i2s hx hb d rfl (K H locs ls hP hS hl hn)
  | i2c =>
    obtain ⟨h0, e8⟩ := ifq (show (if ln = 1 then op1 (fun x => (x.toUInt32 % 65536).toInt32) (pc + 1) L st h else none) = some (.inl q) from e7)
    subst h0
    obtain ⟨x, r, rfl, rfl⟩ := op1_q e8
    exact lv_i2c hx hb d rfl (K H locs ls hP hS hl hn)
  | dup =>
    obtain ⟨h0, e8⟩ := ifq (show (if ln = 1 then stk fdup (pc + 1) L st h else none) = some (.inl q) from e7)
    subst h0
    obtain ⟨s7, h1, rfl⟩ := stk_q e8
    obtain ⟨v, r, rfl, h2, rfl⟩ := fdup_q h1
    exact lv_dup hx hb d (rl_cat hvS h2) (K H locs ls hP hS hl hn)
  | dup2 =>
    obtain ⟨h0, e8⟩ := ifq (show (if ln = 1 then stk fdup2 (pc + 1) L st h else none) = some (.inl q) from e7)
    subst h0
    obtain ⟨s7, h1, rfl⟩ := stk_q e8
    obtain ⟨v, w, r, rfl, h2, h3, rfl⟩ := fdup2_q h1
    exact lv_dup2_11 hx hb d (rl_cat hvS h2) (rl_cat hvS h3) (K H locs ls hP hS hl hn)
  | pop =>
    obtain ⟨h0, e8⟩ := ifq (show (if ln = 1 then stk fpop (pc + 1) L st h else none) = some (.inl q) from e7)
    subst h0
    obtain ⟨s7, h1, rfl⟩ := stk_q e8
    obtain ⟨v, rfl, h2⟩ := fpop_q h1
    exact lv_pop hx hb d (rl_cat hvS h2) (K H locs ls hP hS hl hn)
  | i2l =>
    obtain ⟨h0, e8⟩ := ifq (show (if ln = 1 then stk fi2l (pc + 1) L st h else none) = some (.inl q) from e7)
    subst h0
    obtain ⟨s7, h1, rfl⟩ := stk_q e8
    obtain ⟨x, r, rfl, rfl⟩ := fi2l_q h1
    exact lv_i2l hx hb d rfl (K H locs ls hP hS hl hn)
  | l2i =>
    obtain ⟨h0, e8⟩ := ifq (show (if ln = 1 then stk fl2i (pc + 1) L st h else none) = some (.inl q) from e7)
    subst h0
    obtain ⟨s7, h1, rfl⟩ := stk_q e8
    obtain ⟨x, r, rfl, rfl⟩ := fl2i_q h1
    exact lv_l2i hx hb d rfl (K H locs ls hP hS hl hn)
  | lcmp =>
    obtain ⟨h0, e8⟩ := ifq (show (if ln = 1 then stk flcmp (pc + 1) L st h else none) = some (.inl q) from e7)
    subst h0
    obtain ⟨s7, h1, rfl⟩ := stk_q e8
    obtain ⟨x, y, r, rfl, rfl⟩ := flcmp_q h1
    exact W.lcmp hx hb d (K H locs ls hP hS hl hn)
  | land =>
    obtain ⟨h0, e8⟩ := ifq (show (if ln = 1 then stk fland (pc + 1) L st h else none) = some (.inl q) from e7)
    subst h0
    obtain ⟨s7, h1, rfl⟩ := stk_q e8
    obtain ⟨x, y, r, rfl, rfl⟩ := fland_q h1
    exact lv_land hx hb d (K H locs ls hP hS hl hn)
  | lor =>
    obtain ⟨h0, e8⟩ := ifq (show (if ln = 1 then stk flor (pc + 1) L st h else none) = some (.inl q) from e7)
    subst h0
    obtain ⟨s7, h1, rfl⟩ := stk_q e8
    obtain ⟨x, y, r, rfl, rfl⟩ := flor_q h1
    exact lv_lor hx hb d (K H locs ls hP hS hl hn)
  | lshl =>
    obtain ⟨h0, e8⟩ := ifq (show (if ln = 1 then stk flshl (pc + 1) L st h else none) = some (.inl q) from e7)
    subst h0
    obtain ⟨s7, h1, rfl⟩ := stk_q e8
    obtain ⟨x, y, r, rfl, rfl⟩ := flshl_q h1
    exact lv_lshl hx hb d rfl (K H locs ls hP hS hl hn)
  | ifCond k z =>
    obtain ⟨h0, e8⟩ := ifq (show (if ln = 3 then br1 k z pc L st h else none) = some (.inl q) from e7)
    subst h0
    exact s_br1 C d e8 hP hS hl hn K
  | if_icmp k z =>
    obtain ⟨h0, e8⟩ := ifq (show (if ln = 3 then br2 k z pc L st h else none) = some (.inl q) from e7)
    subst h0
    exact s_br2 C d e8 hP hS hl hn K
  | goto z =>
    obtain ⟨h0, e8⟩ := ifq (show (if ln = 3 then jmp (pT pc z) L st h else none) = some (.inl q) from e7)
    subst h0
    obtain ⟨t, h1, rfl⟩ := jmp_q e8
    exact lv_goto hx hb d (pT_eq h1) (K H locs ls hP hS hl hn)
  | tableswitch z lo hi offs =>
    have e8 : tsw pc z lo hi offs L st h = some (.inl q) := e7
    exact s_tsw C d e8 hP hS hl hn K
  | lookupswitch z ps =>
    have e8 : lsw pc z ps L st h = some (.inl q) := e7
    exact s_lsw C d e8 hP hS hl hn K
  | getfield k =>
    obtain ⟨h0, e8⟩ := ifq (show (if ln = 3 then getf M.c k pc L st h else none) = some (.inl q) from e7)
    subst h0
    exact s_getf C d e8 hP hS hl hn K
  | putfield k =>
    obtain ⟨h0, e8⟩ := ifq (show (if ln = 3 then putf M.c k pc L st h else none) = some (.inl q) from e7)
    subst h0
    exact s_putf C d e8 hP hS hl hn K
  | getstatic k =>
    obtain ⟨h0, e8⟩ := ifq e7
    subst h0
    split at e8
    · rename_i v hv
      have q7 := pN_q e8
      subst q7
      exact s_gets C d hv hP hS hl hn K
    · cases e8
  | iaload =>
    obtain ⟨h0, e8⟩ := ifq (show (if ln = 1 then iald E M.c (pc + 1) L st h else none) = some (.inl q) from e7)
    subst h0
    exact s_iald C d e8 hP hS hl hn K
  | iastore =>
    obtain ⟨h0, e8⟩ := ifq (show (if ln = 1 then iast (pc + 1) L st h else none) = some (.inl q) from e7)
    subst h0
    exact s_iast C d e8 hP hS hl hn K
  | laload =>
    obtain ⟨h0, e8⟩ := ifq (show (if ln = 1 then lald (pc + 1) L st h else none) = some (.inl q) from e7)
    subst h0
    exact s_lald C d e8 hP hS hl hn K
  | lastore =>
    obtain ⟨h0, e8⟩ := ifq (show (if ln = 1 then last (pc + 1) L st h else none) = some (.inl q) from e7)
    subst h0
    exact s_last C d e8 hP hS hl hn K
  | aaload =>
    obtain ⟨h0, e8⟩ := ifq (show (if ln = 1 then rald (pc + 1) L st h else none) = some (.inl q) from e7)
    subst h0
    exact s_rald C d e8 hP hS hl hn K
  | baload =>
    obtain ⟨h0, e8⟩ := ifq (show (if ln = 1 then bald (pc + 1) L st h else none) = some (.inl q) from e7)
    subst h0
    exact s_bald C d e8 hP hS hl hn K
  | arraylength =>
    obtain ⟨h0, e8⟩ := ifq (show (if ln = 1 then alen E M.c (pc + 1) L st h else none) = some (.inl q) from e7)
    subst h0
    exact s_alen C d e8 hP hS hl hn K
  | invokestatic k =>
    obtain ⟨h0, e8⟩ := ifq (show (if ln = 3 then cS M k pc L st h else none) = some (.inl q) from e7)
    subst h0
    unfold cS at e8
    split at e8
    · rename_i u hu
      exact s_cpy C d hu e8 hP hS hl hn K
    · split at e8
      · rename_i o ho
        exact s_mth C hcs d ho e8 hP hS hl hn K
      · split at e8
        · obtain ⟨-, h2⟩ := ifq e8
          cases h2
        · cases e8
  | invokevirtual k =>
    obtain ⟨h0, e8⟩ := ifq (show (if ln = 3 then cV M k st else none) = some (.inl q) from e7)
    subst h0
    exact (cV_n e8).elim
  | ireturn =>
    obtain ⟨h0, e8⟩ := ifq (show (if ln = 1 then rtI M st h else none) = some (.inl q) from e7)
    subst h0
    exact (rtI_n e8).elim
  | lreturn =>
    obtain ⟨h0, e8⟩ := ifq (show (if ln = 1 then rtJ M st h else none) = some (.inl q) from e7)
    subst h0
    exact (rtJ_n e8).elim
  | areturn =>
    obtain ⟨h0, e8⟩ := ifq (show (if ln = 1 then rtR M st h else none) = some (.inl q) from e7)
    subst h0
    exact (rtR_n e8).elim
  | return_ =>
    obtain ⟨h0, e8⟩ := ifq (show (if ln = 1 then rtV M st h else none) = some (.inl q) from e7)
    subst h0
    exact (rtV_n e8).elim
  | _ =>
    have e8 : (none : St) = some (.inl q) := e7
    cases e8
end SIM
