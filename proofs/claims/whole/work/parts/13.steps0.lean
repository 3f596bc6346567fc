/-! what each instruction of each method comes to: laid by program -/
def isC (c : Nat) : Prop := c = 1 ∨ c = 8 ∨ c = 15
def isS (o : Nat) : Prop := 25 ≤ o ∧ o < 29
def isT (t : Nat) : Prop := 100 ≤ t ∧ t < 111
def isM (q : Nat) : Prop := q = 37 ∨ q = 38 ∨ q = 39
def isX (x : Nat) : Prop := x < 150
def isY (b : Nat) : Prop := 120 ≤ b ∧ b < 131
def isB (v : Int32) : Prop := v = 0 ∨ v = 1
theorem kC {c : Nat} (h : isC c) : cK c = (1, 1, 0) := by rcases h with rfl | rfl | rfl <;> rfl
theorem kC1 {c : Nat} (h : isC c) : cK (c + 1) = (2, 4, 0) := by rcases h with rfl | rfl | rfl <;> rfl
theorem kC2 {c : Nat} (h : isC c) : cK (c + 2) = (2, 8, 0) := by rcases h with rfl | rfl | rfl <;> rfl
theorem kC3 {c : Nat} (h : isC c) : cK (c + 3) = (2, 8, 0) := by rcases h with rfl | rfl | rfl <;> rfl
theorem kC4 {c : Nat} (h : isC c) : cK (c + 4) = (2, 8, 0) := by rcases h with rfl | rfl | rfl <;> rfl
theorem kC5 {c : Nat} (h : isC c) : cK (c + 5) = (2, 8, 0) := by rcases h with rfl | rfl | rfl <;> rfl
theorem kC6 {c : Nat} (h : isC c) : cK (c + 6) = (2, 8, 0) := by rcases h with rfl | rfl | rfl <;> rfl
theorem ltC {c : Nat} (h : isC c) : c < 38 := by rcases h with rfl | rfl | rfl <;> decide
theorem kS {o : Nat} (h : isS o) : cK o = (1, 3, 0) := by
  have : ∀ o, o < 29 → 25 ≤ o → cK o = (1, 3, 0) := by decide
  exact this o h.2 h.1
theorem kS4 {o : Nat} (h : isS o) : cK (o + 4) = (3, 40, 0) := by
  have : ∀ o, o < 29 → 25 ≤ o → cK (o + 4) = (3, 40, 0) := by decide
  exact this o h.2 h.1
theorem ltS {o : Nat} (h : isS o) : o < 38 := by have := h.2; omega
theorem kM {q : Nat} (h : isM q) : cK q = (2, 46, 0) := by rcases h with rfl | rfl | rfl <;> rfl
theorem ltM {q : Nat} (h : isM q) : q < 45 := by rcases h with rfl | rfl | rfl <;> decide
theorem rcC {c : Nat} (h : isC c) {M : mI} (hM : M.c = 1) : rcv c M = true := by
  unfold rcv; rw [hM, kC h]; rfl
theorem rcS {o : Nat} (h : isS o) {M : mI} (hM : M.c = 3) : rcv o M = true := by
  unfold rcv; rw [hM, kS h]; rfl
theorem rcT {t : Nat} (h : isT t) {M : mI} (hM : M.c = 9) : rcv t M = true := by
  unfold rcv; rw [hM]
  have h1 := h.1
  have h2 := h.2
  simp [h1, h2]
theorem aN_of {a n : Nat} (h : cK a = (2, n, 0)) : aN a = n := by unfold aN; rw [h]
theorem aN_ofJ {a n : Nat} (h : cK a = (3, n, 0)) : aN a = n := by unfold aN; rw [h]
theorem cK_aN {a n : Nat} (h : cK a = (2, n, 0)) : cK a = (2, aN a, 0) := by rw [aN_of h]; exact h
theorem cK_aNJ {a n : Nat} (h : cK a = (3, n, 0)) : cK a = (3, aN a, 0) := by rw [aN_ofJ h]; exact h
theorem pIn_nI {i n : Nat} (hi : i < n) (hn : n < 1000000) : pIn (nI i) n = true := pIn_of (vp_in_nI hi (by omega))
theorem cl_nI {i n : Nat} (hi : i < n) (hn : n < 1000000) : (nI i).toNatClampNeg = i := nI_clamp (by omega)
section STEPS0
variable {E : En} {M : mI} {pc : Nat} {L st : List Value} {h : Hp} {Q : Option Value → Hp → Prop}
theorem q_iald {a n i : Nat} (hi : i < n) (hn : n < 1000000) (ha : cK a = (2, n, 0)) (h45 : a < 45) (d : decode M.b pc = .ok (.iaload, 1)) : Ev E M pc L (.int (nI i) :: .ref a :: st) h Q = Ev E M (pc + 1) L (.int (gA h a i) :: st) h Q := by
  have := r_iald (E := E) (M := M) (pc := pc) (L := L) (st := st) (h := h) (Q := Q) (a := a) (w := pc + 1) (i := nI i) h45 (cK_aN ha) (by rw [aN_of ha]; exact pIn_nI hi hn) (stp_of d _ _ _)
  rw [cl_nI hi hn] at this
  exact this
theorem q_iast {a n i : Nat} {x : Int32} (hi : i < n) (hn : n < 1000000) (ha : cK a = (2, n, 0)) (d : decode M.b pc = .ok (.iastore, 1)) : Ev E M pc L (.int x :: .int (nI i) :: .ref a :: st) h Q = Ev E M (pc + 1) L st (sA h a (upd (gA h a) i x)) Q := by
  have := r_iast (E := E) (M := M) (pc := pc) (L := L) (st := st) (h := h) (Q := Q) (a := a) (w := pc + 1) (i := nI i) (x := x) (cK_aN ha) (by rw [aN_of ha]; exact pIn_nI hi hn) (stp_of d _ _ _)
  rw [cl_nI hi hn] at this
  exact this
theorem q_lald {a n i : Nat} (hi : i < n) (hn : n < 1000000) (ha : cK a = (3, n, 0)) (d : decode M.b pc = .ok (.laload, 1)) : Ev E M pc L (.int (nI i) :: .ref a :: st) h Q = Ev E M (pc + 1) L (.long (gL h a i) :: st) h Q := by
  have := r_lald (E := E) (M := M) (pc := pc) (L := L) (st := st) (h := h) (Q := Q) (a := a) (w := pc + 1) (i := nI i) (cK_aNJ ha) (by rw [aN_ofJ ha]; exact pIn_nI hi hn) (stp_of d _ _ _)
  rw [cl_nI hi hn] at this
  exact this
theorem q_last {a n i : Nat} {x : Int64} (hi : i < n) (hn : n < 1000000) (ha : cK a = (3, n, 0)) (d : decode M.b pc = .ok (.lastore, 1)) : Ev E M pc L (.long x :: .int (nI i) :: .ref a :: st) h Q = Ev E M (pc + 1) L st (sL h a (vp_updL (gL h a) i x)) Q := by
  have := r_last (E := E) (M := M) (pc := pc) (L := L) (st := st) (h := h) (Q := Q) (a := a) (w := pc + 1) (i := nI i) (x := x) (cK_aNJ ha) (by rw [aN_ofJ ha]; exact pIn_nI hi hn) (stp_of d _ _ _)
  rw [cl_nI hi hn] at this
  exact this
theorem q_rald {i : Nat} (hi : i < 4) (d : decode M.b pc = .ok (.aaload, 1)) : Ev E M pc L (.int (nI i) :: .ref 24 :: st) h Q = Ev E M (pc + 1) L (.ref (25 + i) :: st) h Q := by
  have := r_rald (E := E) (M := M) (pc := pc) (L := L) (st := st) (h := h) (Q := Q) (w := pc + 1) (i := nI i) (pIn_nI hi (by omega)) (stp_of d _ _ _)
  rw [cl_nI hi (by omega)] at this
  exact this
theorem q_ab {i : Nat} (hi : i < 6) (d : decode M.b pc = .ok (.iaload, 1)) : Ev E M pc L (.int (nI i) :: .ref 140 :: st) h Q = Ev E M (pc + 1) L (.int (abT.getD i 0) :: st) h Q := by
  have := r_ab (E := E) (M := M) (pc := pc) (L := L) (st := st) (h := h) (Q := Q) (w := pc + 1) (i := nI i) (pIn_nI hi (by omega)) (stp_of d _ _ _)
  rw [cl_nI hi (by omega)] at this
  exact this
theorem q_na {i : Nat} (hi : i < 70) (d : decode M.b pc = .ok (.iaload, 1)) : Ev E M pc L (.int (nI i) :: .ref 141 :: st) h Q = Ev E M (pc + 1) L (.int (naT.getD i 0) :: st) h Q := by
  have := r_na (E := E) (M := M) (pc := pc) (L := L) (st := st) (h := h) (Q := Q) (w := pc + 1) (i := nI i) (pIn_nI hi (by omega)) (stp_of d _ _ _)
  rw [cl_nI hi (by omega)] at this
  exact this
theorem q_sc {i : Nat} (hi : i < E.2) (hE : E.2 < 1000000) (hc : M.c = 13) (d : decode M.b pc = .ok (.iaload, 1)) : Ev E M pc L (.int (nI i) :: .ref 142 :: st) h Q = Ev E M (pc + 1) L (.int (E.1 i) :: st) h Q := by
  have := r_sc (E := E) (M := M) (pc := pc) (L := L) (st := st) (h := h) (Q := Q) (w := pc + 1) (i := nI i) hc (pIn_nI hi hE) (stp_of d _ _ _)
  rw [cl_nI hi hE] at this
  exact this
theorem q_bald {a i : Nat} (ha : 120 ≤ a ∧ a < 131) (hi : i < (byT.getD (a - 120) []).length) (d : decode M.b pc = .ok (.baload, 1)) : Ev E M pc L (.int (nI i) :: .ref a :: st) h Q = Ev E M (pc + 1) L (.int ((byT.getD (a - 120) []).getD i 0) :: st) h Q := by
  have hl : (byT.getD (a - 120) []).length < 1000000 := by
    have : ∀ k, k < 11 → (byT.getD k []).length < 1000000 := by decide
    exact this _ (by omega)
  have := r_bald (E := E) (M := M) (pc := pc) (L := L) (st := st) (h := h) (Q := Q) (w := pc + 1) (i := nI i) ha (pIn_nI hi hl) (stp_of d _ _ _)
  rw [cl_nI hi hl] at this
  exact this
theorem q_ald_n {k : Fin 4} {x : Nat} (d : decode M.b pc = .ok (.aload_n k, 1)) (hx : x < 150) (hl : L[(k : Nat)]? = some (.ref x)) : Ev E M pc L st h Q = Ev E M (pc + 1) L (.ref x :: st) h Q := r_ref (i := k) (z := 0) (k := 0) (j := .nop) hx hl (stp_of d _ _ _)
theorem q_ald {k x : Nat} (d : decode M.b pc = .ok (.aload k, 2)) (hx : x < 150) (hl : L[k]? = some (.ref x)) : Ev E M pc L st h Q = Ev E M (pc + 2) L (.ref x :: st) h Q := r_ref (i := k) (z := 0) (k := 0) (j := .nop) hx hl (stp_of d _ _ _)
theorem q_ild_n {k : Fin 4} {x : Int32} (d : decode M.b pc = .ok (.iload_n k, 1)) (hl : L[(k : Nat)]? = some (.int x)) : Ev E M pc L st h Q = Ev E M (pc + 1) L (.int x :: st) h Q := r_int (i := k) hl (stp_of d _ _ _)
theorem q_ild {k : Nat} {x : Int32} (d : decode M.b pc = .ok (.iload k, 2)) (hl : L[k]? = some (.int x)) : Ev E M pc L st h Q = Ev E M (pc + 2) L (.int x :: st) h Q := r_int (i := k) hl (stp_of d _ _ _)
theorem q_lld_n {k : Fin 4} {x : Int64} (d : decode M.b pc = .ok (.lload_n k, 1)) (hl : L[(k : Nat)]? = some (.long x)) : Ev E M pc L st h Q = Ev E M (pc + 1) L (.long x :: st) h Q := r_long (i := k) hl (stp_of d _ _ _)
theorem q_lld {k : Nat} {x : Int64} (d : decode M.b pc = .ok (.lload k, 2)) (hl : L[k]? = some (.long x)) : Ev E M pc L st h Q = Ev E M (pc + 2) L (.long x :: st) h Q := r_long (i := k) hl (stp_of d _ _ _)
theorem q_ist_n {k : Fin 4} {x : Int32} {L' : List Value} (d : decode M.b pc = .ok (.istore_n k, 1)) (hl : (k : Nat) < L.length) (hb : bef L k = true) (e : L.set k (.int x) = L') : Ev E M pc L (.int x :: st) h Q = Ev E M (pc + 1) L' st h Q := e ▸ r_toI (i := k) hl hb (stp_of d _ _ _)
theorem q_ist {k : Nat} {x : Int32} {L' : List Value} (d : decode M.b pc = .ok (.istore k, 2)) (hl : k < L.length) (hb : bef L k = true) (e : L.set k (.int x) = L') : Ev E M pc L (.int x :: st) h Q = Ev E M (pc + 2) L' st h Q := e ▸ r_toI (i := k) hl hb (stp_of d _ _ _)
theorem q_ast_n {k : Fin 4} {x : Nat} {L' : List Value} (d : decode M.b pc = .ok (.astore_n k, 1)) (hx : x < 150) (hl : (k : Nat) < L.length) (hb : bef L k = true) (e : L.set k (.ref x) = L') : Ev E M pc L (.ref x :: st) h Q = Ev E M (pc + 1) L' st h Q := e ▸ r_toR (i := k) hx hl hb (stp_of d _ _ _)
theorem q_ast {k x : Nat} {L' : List Value} (d : decode M.b pc = .ok (.astore k, 2)) (hx : x < 150) (hl : k < L.length) (hb : bef L k = true) (e : L.set k (.ref x) = L') : Ev E M pc L (.ref x :: st) h Q = Ev E M (pc + 2) L' st h Q := e ▸ r_toR (i := k) hx hl hb (stp_of d _ _ _)
theorem q_lst_n {k : Fin 4} {x : Int64} {L' : List Value} (d : decode M.b pc = .ok (.lstore_n k, 1)) (hl : (k : Nat) + 1 < L.length) (hb : bef L k = true) (e : (L.set k (.long x)).set (k + 1) .null = L') : Ev E M pc L (.long x :: st) h Q = Ev E M (pc + 1) L' st h Q := e ▸ r_toJ (i := k) hl hb (stp_of d _ _ _)
theorem q_lst {k : Nat} {x : Int64} {L' : List Value} (d : decode M.b pc = .ok (.lstore k, 2)) (hl : k + 1 < L.length) (hb : bef L k = true) (e : (L.set k (.long x)).set (k + 1) .null = L') : Ev E M pc L (.long x :: st) h Q = Ev E M (pc + 2) L' st h Q := e ▸ r_toJ (i := k) hl hb (stp_of d _ _ _)
theorem q_inc {k : Nat} {z : Int} {x v : Int32} {L' : List Value} (d : decode M.b pc = .ok (.iinc k z, 3)) (hv : Int32.ofInt z = v) (hl : L[k]? = some (.int x)) (hn : k < L.length) (hb : bef L k = true) (e : L.set k (.int (x + v)) = L') : Ev E M pc L st h Q = Ev E M (pc + 3) L' st h Q := by
  subst hv
  exact e ▸ r_inc (i := k) (z := z) hl hn hb (stp_of d _ _ _)
theorem q_icst {z : Int} {v : Int32} (d : decode M.b pc = .ok (.iconst z, 1)) (hv : Int32.ofInt z = v) : Ev E M pc L st h Q = Ev E M (pc + 1) L (.int v :: st) h Q := hv ▸ ev_nx (stp_of d _ _ _)
theorem q_bi {z : Int} {v : Int32} (d : decode M.b pc = .ok (.bipush z, 2)) (hv : (Int8.ofInt z).toInt32 = v) : Ev E M pc L st h Q = Ev E M (pc + 2) L (.int v :: st) h Q := hv ▸ ev_nx (stp_of d _ _ _)
theorem q_si {z : Int} {v : Int32} (d : decode M.b pc = .ok (.sipush z, 3)) (hv : (Int16.ofInt z).toInt32 = v) : Ev E M pc L st h Q = Ev E M (pc + 3) L (.int v :: st) h Q := hv ▸ ev_nx (stp_of d _ _ _)
theorem q_lcst {k : Fin 2} {v : Int64} (d : decode M.b pc = .ok (.lconst k, 1)) (hv : Int64.ofNat k = v) : Ev E M pc L st h Q = Ev E M (pc + 1) L (.long v :: st) h Q := hv ▸ ev_nx (stp_of d _ _ _)
theorem q_iadd {x y : Int32} (d : decode M.b pc = .ok (.iadd, 1)) : Ev E M pc L (.int y :: .int x :: st) h Q = Ev E M (pc + 1) L (.int (x + y) :: st) h Q := ev_nx (stp_of d _ _ _)
theorem q_isub {x y : Int32} (d : decode M.b pc = .ok (.isub, 1)) : Ev E M pc L (.int y :: .int x :: st) h Q = Ev E M (pc + 1) L (.int (x - y) :: st) h Q := ev_nx (stp_of d _ _ _)
theorem q_imul {x y : Int32} (d : decode M.b pc = .ok (.imul, 1)) : Ev E M pc L (.int y :: .int x :: st) h Q = Ev E M (pc + 1) L (.int (x * y) :: st) h Q := ev_nx (stp_of d _ _ _)
theorem q_iand {x y : Int32} (d : decode M.b pc = .ok (.iand, 1)) : Ev E M pc L (.int y :: .int x :: st) h Q = Ev E M (pc + 1) L (.int (x &&& y) :: st) h Q := ev_nx (stp_of d _ _ _)
theorem q_ior {x y : Int32} (d : decode M.b pc = .ok (.ior, 1)) : Ev E M pc L (.int y :: .int x :: st) h Q = Ev E M (pc + 1) L (.int (x ||| y) :: st) h Q := ev_nx (stp_of d _ _ _)
theorem q_ishl {x y : Int32} (d : decode M.b pc = .ok (.ishl, 1)) : Ev E M pc L (.int y :: .int x :: st) h Q = Ev E M (pc + 1) L (.int (x <<< (y &&& 31)) :: st) h Q := ev_nx (stp_of d _ _ _)
theorem q_ishr {x y : Int32} (d : decode M.b pc = .ok (.ishr, 1)) : Ev E M pc L (.int y :: .int x :: st) h Q = Ev E M (pc + 1) L (.int (x >>> (y &&& 31)) :: st) h Q := ev_nx (stp_of d _ _ _)
theorem q_iushr {x y : Int32} (d : decode M.b pc = .ok (.iushr, 1)) : Ev E M pc L (.int y :: .int x :: st) h Q = Ev E M (pc + 1) L (.int (x.toUInt32 >>> (y.toUInt32 &&& Int32.toUInt32 31)).toInt32 :: st) h Q := ev_nx (stp_of d _ _ _)
theorem q_idiv {x y : Int32} (d : decode M.b pc = .ok (.idiv, 1)) (hy : ¬ y = 0) : Ev E M pc L (.int y :: .int x :: st) h Q = Ev E M (pc + 1) L (.int (x / y) :: st) h Q := r_div (f := fun x y => x / y) hy (stp_of d _ _ _)
theorem q_irem {x y : Int32} (d : decode M.b pc = .ok (.irem, 1)) (hy : ¬ y = 0) : Ev E M pc L (.int y :: .int x :: st) h Q = Ev E M (pc + 1) L (.int (x - x / y * y) :: st) h Q := r_div (f := fun x y => x - x / y * y) hy (stp_of d _ _ _)
theorem q_ineg {x : Int32} (d : decode M.b pc = .ok (.ineg, 1)) : Ev E M pc L (.int x :: st) h Q = Ev E M (pc + 1) L (.int (-x) :: st) h Q := ev_nx (stp_of d _ _ _)
theorem q_i2b {x : Int32} (d : decode M.b pc = .ok (.i2b, 1)) : Ev E M pc L (.int x :: st) h Q = Ev E M (pc + 1) L (.int x.toInt8.toInt32 :: st) h Q := ev_nx (stp_of d _ _ _)
theorem q_i2s {x : Int32} (d : decode M.b pc = .ok (.i2s, 1)) : Ev E M pc L (.int x :: st) h Q = Ev E M (pc + 1) L (.int x.toInt16.toInt32 :: st) h Q := ev_nx (stp_of d _ _ _)
theorem q_i2c {x : Int32} (d : decode M.b pc = .ok (.i2c, 1)) : Ev E M pc L (.int x :: st) h Q = Ev E M (pc + 1) L (.int (x.toUInt32 % 65536).toInt32 :: st) h Q := ev_nx (stp_of d _ _ _)
theorem q_i2l {x : Int32} (d : decode M.b pc = .ok (.i2l, 1)) : Ev E M pc L (.int x :: st) h Q = Ev E M (pc + 1) L (.long x.toInt64 :: st) h Q := ev_nx (stp_of d _ _ _)
theorem q_l2i {x : Int64} (d : decode M.b pc = .ok (.l2i, 1)) : Ev E M pc L (.long x :: st) h Q = Ev E M (pc + 1) L (.int x.toInt32 :: st) h Q := ev_nx (stp_of d _ _ _)
theorem q_lcmp {x y : Int64} (d : decode M.b pc = .ok (.lcmp, 1)) : Ev E M pc L (.long y :: .long x :: st) h Q = Ev E M (pc + 1) L (.int (lg_cmp x y) :: st) h Q := ev_nx (stp_of d _ _ _)
theorem q_land {x y : Int64} (d : decode M.b pc = .ok (.land, 1)) : Ev E M pc L (.long y :: .long x :: st) h Q = Ev E M (pc + 1) L (.long (x &&& y) :: st) h Q := ev_nx (stp_of d _ _ _)
theorem q_lor {x y : Int64} (d : decode M.b pc = .ok (.lor, 1)) : Ev E M pc L (.long y :: .long x :: st) h Q = Ev E M (pc + 1) L (.long (x ||| y) :: st) h Q := ev_nx (stp_of d _ _ _)
theorem q_lshl {x : Int64} {y : Int32} (d : decode M.b pc = .ok (.lshl, 1)) : Ev E M pc L (.int y :: .long x :: st) h Q = Ev E M (pc + 1) L (.long (x <<< (y.toInt64 &&& 63)) :: st) h Q := ev_nx (stp_of d _ _ _)
theorem q_dupR {x : Nat} (d : decode M.b pc = .ok (.dup, 1)) : Ev E M pc L (.ref x :: st) h Q = Ev E M (pc + 1) L (.ref x :: .ref x :: st) h Q := ev_nx (stp_of d _ _ _)
theorem q_dupI {x : Int32} (d : decode M.b pc = .ok (.dup, 1)) : Ev E M pc L (.int x :: st) h Q = Ev E M (pc + 1) L (.int x :: .int x :: st) h Q := ev_nx (stp_of d _ _ _)
theorem q_dup2 {x : Int32} {r : Nat} (d : decode M.b pc = .ok (.dup2, 1)) : Ev E M pc L (.int x :: .ref r :: st) h Q = Ev E M (pc + 1) L (.int x :: .ref r :: .int x :: .ref r :: st) h Q := ev_nx (stp_of d _ _ _)
theorem q_pop {x : Int32} (d : decode M.b pc = .ok (.pop, 1)) : Ev E M pc L (.int x :: st) h Q = Ev E M (pc + 1) L st h Q := ev_nx (stp_of d _ _ _)
theorem q_goto {z : Int} {t : Nat} (d : decode M.b pc = .ok (.goto z, 3)) (ht : pT pc z = some t) : Ev E M pc L st h Q = Ev E M t L st h Q := r_jmp ht (stp_of d _ _ _)
theorem q_gfI {a ci f k : Nat} (d : decode M.b pc = .ok (.getfield k, 3)) (hf : lk fTab M.c k = some (ci, f)) (ho : fO ci f < 2) (ha : cK a = (1, ci, 0)) : Ev E M pc L (.ref a :: st) h Q = Ev E M (pc + 3) L (.int (gI h a f) :: st) h Q := r_getI (w := 0) hf ho ha (stp_of d _ _ _)
theorem q_gfR {a b ci f k : Nat} (d : decode M.b pc = .ok (.getfield k, 3)) (hf : lk fTab M.c k = some (ci, f)) (ho : ¬ fO ci f < 2) (ha : cK a = (1, ci, 0)) (hb : a + (fO ci f - 2) = b) : Ev E M pc L (.ref a :: st) h Q = Ev E M (pc + 3) L (.ref b :: st) h Q := r_getR hf ho ha hb (stp_of d _ _ _)
theorem q_pfI {a ci f k : Nat} {v : Int32} (d : decode M.b pc = .ok (.putfield k, 3)) (hf : lk fTab M.c k = some (ci, f)) (ho : fO ci f = 0) (ha : cK a = (1, ci, 0)) : Ev E M pc L (.int v :: .ref a :: st) h Q = Ev E M (pc + 3) L st (sI h a f v) Q := r_putI hf ho ha (stp_of d _ _ _)
theorem q_pfZ {a ci f k : Nat} {v : Int32} (d : decode M.b pc = .ok (.putfield k, 3)) (hf : lk fTab M.c k = some (ci, f)) (ho : fO ci f = 1) (hv : v = 0 ∨ v = 1) (ha : cK a = (1, ci, 0)) : Ev E M pc L (.int v :: .ref a :: st) h Q = Ev E M (pc + 3) L st (sI h a f v) Q := r_putZ hf ho hv ha (stp_of d _ _ _)
theorem q_gfS {a k : Nat} (d : decode M.b pc = .ok (.getfield k, 3)) (hf : lk fTab M.c k = none) (hs : lk sfTab M.c k = some 0) (ha : 100 ≤ a ∧ a < 111) : Ev E M pc L (.ref a :: st) h Q = Ev E M (pc + 3) L (.ref (a + 20) :: st) h Q := r_getS hf hs ha (stp_of d _ _ _)
theorem q_gfT {a k : Nat} (d : decode M.b pc = .ok (.getfield k, 3)) (hf : lk fTab M.c k = none) (hs : lk sfTab M.c k = some 1) (ha : 100 ≤ a ∧ a < 111) : Ev E M pc L (.ref a :: st) h Q = Ev E M (pc + 3) L (.int (nI 0) :: st) h Q := r_getT hf hs ha (stp_of d _ _ _)
theorem q_slen (hc : M.c = 13) (d : decode M.b pc = .ok (.arraylength, 1)) : Ev E M pc L (.ref 142 :: st) h Q = Ev E M (pc + 1) L (.int (nI E.2) :: st) h Q := r_slen hc (stp_of d _ _ _)
theorem q_blen {a : Nat} (ha : 120 ≤ a ∧ a < 131) (d : decode M.b pc = .ok (.arraylength, 1)) : Ev E M pc L (.ref a :: st) h Q = Ev E M (pc + 1) L (.int (nI (byT.getD (a - 120) []).length) :: st) h Q := r_blen ha (stp_of d _ _ _)
theorem q_ife {k : Jvm.ClassFile.Cond} {z : Int} {t : Nat} {x : Int32} (ht : pT pc z = some t) (d : decode M.b pc = .ok (.ifCond k z, 3)) : Ev E M pc L (.int x :: st) h Q = if pC k x 0 = true then Ev E M t L st h Q else Ev E M (pc + 3) L st h Q := r_br1 ht (stp_of d _ _ _)
theorem q_ic {k : Jvm.ClassFile.Cond} {z : Int} {t : Nat} {x y : Int32} (ht : pT pc z = some t) (d : decode M.b pc = .ok (.if_icmp k z, 3)) : Ev E M pc L (.int y :: .int x :: st) h Q = if pC k x y = true then Ev E M t L st h Q else Ev E M (pc + 3) L st h Q := r_br2 ht (stp_of d _ _ _)
theorem ifP {c d : Prop} [Decidable c] [Decidable d] {A B : Prop} (e : c ↔ d) : (if c then A else B) = if d then A else B := by
  by_cases hc : c
  · rw [if_pos hc, if_pos (e.mp hc)]
  · rw [if_neg hc, if_neg (fun z => hc (e.mpr z))]
theorem ifN {c d : Prop} [Decidable c] [Decidable d] {A B : Prop} (e : c ↔ ¬ d) : (if c then A else B) = if d then B else A := by
  by_cases hd : d
  · rw [if_pos hd, if_neg (fun z => e.mp z hd)]
  · rw [if_neg hd, if_pos (e.mpr hd)]
theorem pC_eq {x y : Int32} : pC .eq x y = true ↔ x = y := by simp [pC]
theorem pC_ne {x y : Int32} : pC .ne x y = true ↔ ¬ x = y := by simp [pC]
theorem pC_lt {x y : Int32} : pC .lt x y = true ↔ x < y := by simp [pC]
theorem pC_ge {x y : Int32} : pC .ge x y = true ↔ y ≤ x := by simp [pC]
theorem pC_gt {x y : Int32} : pC .gt x y = true ↔ y < x := by simp [pC]
theorem pC_le {x y : Int32} : pC .le x y = true ↔ x ≤ y := by simp [pC]
theorem q_if_eq {z : Int} {t : Nat} {x : Int32} (d : decode M.b pc = .ok (.ifCond .eq z, 3)) (ht : pT pc z = some t) : Ev E M pc L (.int x :: st) h Q = if x = 0 then Ev E M t L st h Q else Ev E M (pc + 3) L st h Q := (q_ife ht d).trans (ifP pC_eq)
theorem q_ic_eq {z : Int} {t : Nat} {x y : Int32} (d : decode M.b pc = .ok (.if_icmp .eq z, 3)) (ht : pT pc z = some t) : Ev E M pc L (.int y :: .int x :: st) h Q = if x = y then Ev E M t L st h Q else Ev E M (pc + 3) L st h Q := (q_ic ht d).trans (ifP pC_eq)
theorem q_if_ne {z : Int} {t : Nat} {x : Int32} (d : decode M.b pc = .ok (.ifCond .ne z, 3)) (ht : pT pc z = some t) : Ev E M pc L (.int x :: st) h Q = if x = 0 then Ev E M (pc + 3) L st h Q else Ev E M t L st h Q := (q_ife ht d).trans (ifN pC_ne)
theorem q_ic_ne {z : Int} {t : Nat} {x y : Int32} (d : decode M.b pc = .ok (.if_icmp .ne z, 3)) (ht : pT pc z = some t) : Ev E M pc L (.int y :: .int x :: st) h Q = if x = y then Ev E M (pc + 3) L st h Q else Ev E M t L st h Q := (q_ic ht d).trans (ifN pC_ne)
theorem q_if_lt {z : Int} {t : Nat} {x : Int32} (d : decode M.b pc = .ok (.ifCond .lt z, 3)) (ht : pT pc z = some t) : Ev E M pc L (.int x :: st) h Q = if x < 0 then Ev E M t L st h Q else Ev E M (pc + 3) L st h Q := (q_ife ht d).trans (ifP pC_lt)
theorem q_ic_lt {z : Int} {t : Nat} {x y : Int32} (d : decode M.b pc = .ok (.if_icmp .lt z, 3)) (ht : pT pc z = some t) : Ev E M pc L (.int y :: .int x :: st) h Q = if x < y then Ev E M t L st h Q else Ev E M (pc + 3) L st h Q := (q_ic ht d).trans (ifP pC_lt)
theorem q_if_ge {z : Int} {t : Nat} {x : Int32} (d : decode M.b pc = .ok (.ifCond .ge z, 3)) (ht : pT pc z = some t) : Ev E M pc L (.int x :: st) h Q = if 0 ≤ x then Ev E M t L st h Q else Ev E M (pc + 3) L st h Q := (q_ife ht d).trans (ifP pC_ge)
theorem q_ic_ge {z : Int} {t : Nat} {x y : Int32} (d : decode M.b pc = .ok (.if_icmp .ge z, 3)) (ht : pT pc z = some t) : Ev E M pc L (.int y :: .int x :: st) h Q = if y ≤ x then Ev E M t L st h Q else Ev E M (pc + 3) L st h Q := (q_ic ht d).trans (ifP pC_ge)
theorem q_if_gt {z : Int} {t : Nat} {x : Int32} (d : decode M.b pc = .ok (.ifCond .gt z, 3)) (ht : pT pc z = some t) : Ev E M pc L (.int x :: st) h Q = if 0 < x then Ev E M t L st h Q else Ev E M (pc + 3) L st h Q := (q_ife ht d).trans (ifP pC_gt)
theorem q_ic_gt {z : Int} {t : Nat} {x y : Int32} (d : decode M.b pc = .ok (.if_icmp .gt z, 3)) (ht : pT pc z = some t) : Ev E M pc L (.int y :: .int x :: st) h Q = if y < x then Ev E M t L st h Q else Ev E M (pc + 3) L st h Q := (q_ic ht d).trans (ifP pC_gt)
theorem q_if_le {z : Int} {t : Nat} {x : Int32} (d : decode M.b pc = .ok (.ifCond .le z, 3)) (ht : pT pc z = some t) : Ev E M pc L (.int x :: st) h Q = if x ≤ 0 then Ev E M t L st h Q else Ev E M (pc + 3) L st h Q := (q_ife ht d).trans (ifP pC_le)
theorem q_ic_le {z : Int} {t : Nat} {x y : Int32} (d : decode M.b pc = .ok (.if_icmp .le z, 3)) (ht : pT pc z = some t) : Ev E M pc L (.int y :: .int x :: st) h Q = if x ≤ y then Ev E M t L st h Q else Ev E M (pc + 3) L st h Q := (q_ic ht d).trans (ifP pC_le)
theorem q_cV {k na b : Nat} {M' : mI} {r as L0 : List Value} (hk : lk mTab M.c k = some (1, na, M')) (d : decode M.b pc = .ok (.invokevirtual k, 3)) (h2 : rcv b M' = true) (hs : st.drop na = .ref b :: r) (ha : (st.take na).reverse = as) (h1 : na ≤ st.length) (h3 : fitsR M M' (.ref b :: as) r = true) (he : enL M' (.ref b :: as) = L0) : Ev E M pc L st h Q = Ev E M' 0 L0 [] h (fun v h' => Ev E M (pc + 3) L (v.toList ++ r) h' Q) := he ▸ r_cV hk hs ha h1 h3 h2 d
theorem q_cS {k na : Nat} {M' : mI} {r as L0 : List Value} (hk : lk mTab M.c k = some (0, na, M')) (d : decode M.b pc = .ok (.invokestatic k, 3)) (hA : lk aTab M.c k = none) (hX : lk xTab M.c k = none) (hs : st.drop na = r) (ha : (st.take na).reverse = as) (h1 : na ≤ st.length) (h3 : fitsR M M' as r = true) (he : enL M' as = L0) : Ev E M pc L st h Q = Ev E M' 0 L0 [] h (fun v h' => Ev E M (pc + 3) L (v.toList ++ r) h' Q) := he ▸ r_cS hA hX hk hs ha h1 h3 d
theorem ts_n {x : Int32} {lo hi : Int} (hx : x < 0) (hl : 0 ≤ lo) : x.toInt < lo ∨ hi < x.toInt := by
  have := Int32.lt_iff_toInt_lt.mp hx
  have h0 : (0 : Int32).toInt = 0 := rfl
  omega
theorem ts_g {k : Nat} {lo hi : Int} (hk : hi < (k : Int)) (hb : k < 2147483648) : (nI k).toInt < lo ∨ hi < (nI k).toInt := by
  rw [nI_toInt hb]
  omega
end STEPS0
set_option maxRecDepth 20000 in
theorem lkm_1_43 : lk mTab 1 43 = some (1, 1, mX1_hasFrame) := rfl
set_option maxRecDepth 20000 in
theorem lkm_1_47 : lk mTab 1 47 = some (0, 3, mX2_worth) := rfl
set_option maxRecDepth 20000 in
theorem lkm_1_53 : lk mTab 1 53 = some (1, 1, mX1_worthOf) := rfl
set_option maxRecDepth 20000 in
theorem lkm_1_57 : lk mTab 1 57 = some (0, 3, mX2_soldFor) := rfl
set_option maxRecDepth 20000 in
theorem lkm_1_60 : lk mTab 1 60 = some (1, 1, mX1_worthOutOf) := rfl
set_option maxRecDepth 20000 in
theorem lkm_1_63 : lk mTab 1 63 = some (1, 0, mX1_framesAtHome) := rfl
set_option maxRecDepth 20000 in
theorem lkm_1_67 : lk mTab 1 67 = some (0, 1, mJ6_bitCount_0f7a4) := rfl
set_option maxRecDepth 20000 in
theorem lkm_1_72 : lk mTab 1 72 = some (1, 1, mX1_soldFor) := rfl
set_option maxRecDepth 20000 in
theorem lkm_1_74 : lk mTab 1 74 = some (1, 2, mX1_dueFromFirst) := rfl
set_option maxRecDepth 20000 in
theorem lkm_1_78 : lk mTab 1 78 = some (1, 3, mX1_pay) := rfl
set_option maxRecDepth 20000 in
theorem lkm_1_82 : lk mTab 1 82 = some (1, 2, mX1_swapViews) := rfl
set_option maxRecDepth 20000 in
theorem lkm_1_95 : lk mTab 1 95 = some (0, 3, mX2_fineBehind) := rfl
set_option maxRecDepth 20000 in
theorem lkm_2_9 : lk mTab 2 9 = some (0, 1, mX2_isKind) := rfl
set_option maxRecDepth 20000 in
theorem lkm_2_31 : lk mTab 2 31 = some (0, 1, mX2_seaLight) := rfl
set_option maxRecDepth 20000 in
theorem lkm_2_35 : lk mTab 2 35 = some (0, 1, mX2_streetLife) := rfl
set_option maxRecDepth 20000 in
theorem lkm_2_38 : lk mTab 2 38 = some (0, 1, mX0_hourOfDay) := rfl
set_option maxRecDepth 20000 in
theorem lkm_2_43 : lk mTab 2 43 = some (0, 1, mX0_isSpring) := rfl
set_option maxRecDepth 20000 in
theorem lkm_2_46 : lk mTab 2 46 = some (0, 2, mX2_wears) := rfl
set_option maxRecDepth 20000 in
theorem lkm_2_55 : lk mTab 2 55 = some (0, 3, mX2_worth) := rfl
set_option maxRecDepth 20000 in
theorem lkm_2_59 : lk mTab 2 59 = some (0, 3, mX2_fineBehind) := rfl
set_option maxRecDepth 20000 in
theorem lkm_4_31 : lk mTab 4 31 = some (1, 0, mX4_advance) := rfl
set_option maxRecDepth 20000 in
theorem lkm_4_34 : lk mTab 4 34 = some (1, 1, mX4_readItem) := rfl
set_option maxRecDepth 20000 in
theorem lkm_4_38 : lk mTab 4 38 = some (1, 0, mX4_kindHere) := rfl
set_option maxRecDepth 20000 in
theorem lkm_4_42 : lk mTab 4 42 = some (0, 1, mX2_isKind) := rfl
set_option maxRecDepth 20000 in
theorem lkm_4_48 : lk mTab 4 48 = some (1, 2, mX4_readFrame) := rfl
set_option maxRecDepth 20000 in
theorem lkm_4_54 : lk mTab 4 54 = some (1, 1, mX4_isWord) := rfl
set_option maxRecDepth 20000 in
theorem lkm_4_58 : lk mTab 4 58 = some (1, 1, mX4_readTrade) := rfl
set_option maxRecDepth 20000 in
theorem lkm_4_63 : lk mTab 4 63 = some (1, 1, mX4_readMoney) := rfl
set_option maxRecDepth 20000 in
theorem lkm_4_71 : lk mTab 4 71 = some (1, 1, mX4_isNumberUpTo) := rfl
set_option maxRecDepth 20000 in
theorem lkm_4_74 : lk mTab 4 74 = some (1, 2, mX1_addFrame) := rfl
set_option maxRecDepth 20000 in
theorem lkm_4_86 : lk mTab 4 86 = some (1, 2, mX1_swapViews) := rfl
set_option maxRecDepth 20000 in
theorem lkm_4_92 : lk mTab 4 92 = some (0, 1, mX2_nameOf) := rfl
set_option maxRecDepth 20000 in
theorem lkm_4_96 : lk mTab 4 96 = some (1, 0, mJ0_length_8abf5) := rfl
set_option maxRecDepth 20000 in
theorem lkm_4_100 : lk mTab 4 100 = some (1, 1, mJ0_charAt_5068e) := rfl
set_option maxRecDepth 20000 in
theorem lkm_4_104 : lk mTab 4 104 = some (0, 1, mX4_isLetter) := rfl
set_option maxRecDepth 20000 in
theorem lkm_4_107 : lk mTab 4 107 = some (1, 0, mX4_passWord) := rfl
set_option maxRecDepth 20000 in
theorem lkm_4_110 : lk mTab 4 110 = some (0, 1, mX4_isDigit) := rfl
set_option maxRecDepth 20000 in
theorem lkm_4_113 : lk mTab 4 113 = some (1, 0, mX4_passNumber) := rfl
set_option maxRecDepth 20000 in
theorem lkm_5_50 : lk mTab 5 50 = some (0, 1, mX5_isOwner) := rfl
set_option maxRecDepth 20000 in
theorem lkm_5_55 : lk mTab 5 55 = some (0, 3, mX5_isWithin) := rfl
set_option maxRecDepth 20000 in
theorem lkm_5_59 : lk mTab 5 59 = some (1, 1, mX5_tell) := rfl
set_option maxRecDepth 20000 in
theorem lkm_5_66 : lk mTab 5 66 = some (1, 1, mX1_framesOwnedBy) := rfl
set_option maxRecDepth 20000 in
theorem lkm_5_69 : lk mTab 5 69 = some (1, 1, mX1_viewsOwnedBy) := rfl
set_option maxRecDepth 20000 in
theorem lkm_5_72 : lk mTab 5 72 = some (1, 1, mX1_incomeOf) := rfl
set_option maxRecDepth 20000 in
theorem lkm_5_75 : lk mTab 5 75 = some (0, 1, mX2_isKind) := rfl
set_option maxRecDepth 20000 in
theorem lkm_5_84 : lk mTab 5 84 = some (1, 2, mX1_addFrame) := rfl
set_option maxRecDepth 20000 in
theorem lkm_5_88 : lk mTab 5 88 = some (1, 1, mX1_hasFrame) := rfl
set_option maxRecDepth 20000 in
theorem lkm_5_100 : lk mTab 5 100 = some (1, 1, mX1_worthOutOf) := rfl
set_option maxRecDepth 20000 in
theorem lkm_5_103 : lk mTab 5 103 = some (1, 1, mX1_hasView) := rfl
set_option maxRecDepth 20000 in
theorem lkm_5_112 : lk mTab 5 112 = some (1, 1, mX1_frameShowing) := rfl
set_option maxRecDepth 20000 in
theorem lkm_5_115 : lk mTab 5 115 = some (1, 1, mX1_worthOf) := rfl
set_option maxRecDepth 20000 in
theorem lkm_5_121 : lk mTab 5 121 = some (0, 2, mX2_wears) := rfl
set_option maxRecDepth 20000 in
theorem lkm_5_124 : lk mTab 5 124 = some (1, 1, mX1_soldFor) := rfl
set_option maxRecDepth 20000 in
theorem lkm_5_127 : lk mTab 5 127 = some (0, 2, mX2_isOrIsUnder) := rfl
set_option maxRecDepth 20000 in
theorem lkm_5_131 : lk mTab 5 131 = some (1, 2, mX1_canExchange) := rfl
set_option maxRecDepth 20000 in
theorem lkm_5_134 : lk mTab 5 134 = some (1, 2, mX1_exchange) := rfl
set_option maxRecDepth 20000 in
theorem lkm_5_137 : lk mTab 5 137 = some (1, 0, mX1_shiftViews) := rfl
set_option maxRecDepth 20000 in
theorem lkm_5_140 : lk mTab 5 140 = some (1, 1, mX1_become) := rfl
set_option maxRecDepth 20000 in
theorem lkm_5_144 : lk mTab 5 144 = some (1, 0, mX1_viewsAreHome) := rfl
set_option maxRecDepth 20000 in
theorem lkm_5_148 : lk mTab 5 148 = some (1, 0, mX1_exchangesTillHome) := rfl
set_option maxRecDepth 20000 in
theorem lkm_5_152 : lk mTab 5 152 = some (1, 0, mX1_passHour) := rfl
set_option maxRecDepth 20000 in
theorem lkm_5_155 : lk mTab 5 155 = some (1, 0, mX1_moneyInAll) := rfl
set_option maxRecDepth 20000 in
theorem lkm_5_158 : lk mTab 5 158 = some (0, 1, mX0_hourOfDay) := rfl
set_option maxRecDepth 20000 in
theorem lkm_5_163 : lk mTab 5 163 = some (0, 1, mX0_isSpring) := rfl
set_option maxRecDepth 20000 in
theorem lkm_5_166 : lk mTab 5 166 = some (1, 0, mX1_framesAtHome) := rfl
set_option maxRecDepth 20000 in
theorem lkm_5_169 : lk mTab 5 169 = some (1, 0, mX1_fineInAll) := rfl
set_option maxRecDepth 20000 in
theorem lkm_5_172 : lk mTab 5 172 = some (1, 1, mX5_foresee) := rfl
set_option maxRecDepth 20000 in
theorem lkm_5_176 : lk mTab 5 176 = some (1, 2, mX5_moneyForeseen) := rfl
set_option maxRecDepth 20000 in
theorem lkm_5_180 : lk mTab 5 180 = some (0, 4, mX2_worthInAll) := rfl
set_option maxRecDepth 20000 in
theorem lkm_5_184 : lk mTab 5 184 = some (1, 1, mX5_costOfDrawing) := rfl
set_option maxRecDepth 20000 in
theorem lkm_5_187 : lk mTab 5 187 = some (1, 1, mX4_hasRoomFor) := rfl
set_option maxRecDepth 20000 in
theorem lkm_5_190 : lk mTab 5 190 = some (1, 2, mX4_append) := rfl
set_option maxRecDepth 20000 in
theorem lkm_5_197 : lk mTab 5 197 = some (1, 0, mX4_clear) := rfl
set_option maxRecDepth 20000 in
theorem lkm_5_200 : lk mTab 5 200 = some (1, 1, mX4_readOnto) := rfl
set_option maxRecDepth 20000 in
theorem lkm_5_204 : lk mTab 5 204 = some (0, 1, mX5_isSheet) := rfl
set_option maxRecDepth 20000 in
theorem lkm_5_207 : lk mTab 5 207 = some (1, 2, mX3_begin) := rfl
set_option maxRecDepth 20000 in
theorem lkm_5_213 : lk mTab 5 213 = some (1, 0, mX3_isMissing) := rfl
set_option maxRecDepth 20000 in
theorem lkm_5_220 : lk mTab 5 220 = some (1, 2, mX3_put) := rfl
set_option maxRecDepth 20000 in
theorem lkm_5_227 : lk mTab 5 227 = some (1, 2, mX3_hasRange) := rfl
set_option maxRecDepth 20000 in
theorem lkm_5_238 : lk mTab 5 238 = some (1, 3, mX5_foreseeWithout) := rfl
set_option maxRecDepth 20000 in
theorem lkm_5_241 : lk mTab 5 241 = some (1, 4, mX5_fits) := rfl
set_option maxRecDepth 20000 in
theorem lkm_5_245 : lk mTab 5 245 = some (1, 0, mX1_curtainsDrawn) := rfl
set_option maxRecDepth 20000 in
theorem lkm_5_254 : lk mTab 5 254 = some (0, 3, mX2_worth) := rfl
set_option maxRecDepth 20000 in
theorem lkm_5_258 : lk mTab 5 258 = some (0, 3, mX2_fineBehind) := rfl
set_option maxRecDepth 20000 in
theorem lkm_6_37 : lk mTab 6 37 = some (1, 1, mX6_finds) := rfl
set_option maxRecDepth 20000 in
theorem lkm_6_41 : lk mTab 6 41 = some (0, 3, mX6_in) := rfl
set_option maxRecDepth 20000 in
theorem lkm_6_45 : lk mTab 6 45 = some (1, 0, mX6_clock) := rfl
set_option maxRecDepth 20000 in
theorem lkm_6_49 : lk mTab 6 49 = some (1, 2, mX6_it) := rfl
set_option maxRecDepth 20000 in
theorem lkm_6_53 : lk mTab 6 53 = some (1, 0, mX6_isSpring) := rfl
set_option maxRecDepth 20000 in
theorem lkm_6_57 : lk mTab 6 57 = some (1, 2, mX6_about) := rfl
set_option maxRecDepth 20000 in
theorem lkm_6_60 : lk mTab 6 60 = some (1, 1, mX6_worth) := rfl
set_option maxRecDepth 20000 in
theorem lkm_6_63 : lk mTab 6 63 = some (0, 1, mX6_isOwner) := rfl
set_option maxRecDepth 20000 in
theorem lkm_6_68 : lk mTab 6 68 = some (1, 2, mX6_becomes) := rfl
set_option maxRecDepth 20000 in
theorem lkm_6_71 : lk mTab 6 71 = some (1, 1, mX6_worthOut) := rfl
set_option maxRecDepth 20000 in
theorem lkm_6_75 : lk mTab 6 75 = some (1, 4, mX6_comesAs) := rfl
set_option maxRecDepth 20000 in
theorem lkm_6_79 : lk mTab 6 79 = some (1, 1, mX6_isFrame) := rfl
set_option maxRecDepth 20000 in
theorem lkm_6_82 : lk mTab 6 82 = some (1, 1, mX6_frameWith) := rfl
set_option maxRecDepth 20000 in
theorem lkm_6_85 : lk mTab 6 85 = some (1, 1, mX6_wears) := rfl
set_option maxRecDepth 20000 in
theorem lkm_6_88 : lk mTab 6 88 = some (1, 1, mX6_dear) := rfl
set_option maxRecDepth 20000 in
theorem lkm_6_92 : lk mTab 6 92 = some (0, 3, mX6_held) := rfl
set_option maxRecDepth 20000 in
theorem lkm_6_96 : lk mTab 6 96 = some (1, 2, mX6_payer) := rfl
set_option maxRecDepth 20000 in
theorem lkm_6_99 : lk mTab 6 99 = some (1, 2, mX6_price) := rfl
set_option maxRecDepth 20000 in
theorem lkm_6_102 : lk mTab 6 102 = some (1, 2, mX6_earns) := rfl
set_option maxRecDepth 20000 in
theorem lkm_6_106 : lk mTab 6 106 = some (1, 2, mX6_changes) := rfl
set_option maxRecDepth 20000 in
theorem lkm_6_109 : lk mTab 6 109 = some (1, 2, mX6_canTrade) := rfl
set_option maxRecDepth 20000 in
theorem lkm_6_113 : lk mTab 6 113 = some (1, 2, mX6_trades) := rfl
set_option maxRecDepth 20000 in
theorem lkm_6_117 : lk mTab 6 117 = some (1, 0, mX6_shiftsOnce) := rfl
set_option maxRecDepth 20000 in
theorem lkm_6_120 : lk mTab 6 120 = some (1, 0, mX6_thinks) := rfl
set_option maxRecDepth 20000 in
theorem lkm_6_123 : lk mTab 6 123 = some (1, 0, mX6_atHome) := rfl
set_option maxRecDepth 20000 in
theorem lkm_6_126 : lk mTab 6 126 = some (1, 0, mX6_putsBack) := rfl
set_option maxRecDepth 20000 in
theorem lkm_6_129 : lk mTab 6 129 = some (1, 0, mX6_goes) := rfl
set_option maxRecDepth 20000 in
theorem lkm_6_132 : lk mTab 6 132 = some (1, 1, mX6_goesFor) := rfl
set_option maxRecDepth 20000 in
theorem lkm_6_136 : lk mTab 6 136 = some (1, 0, mX6_allMoney) := rfl
set_option maxRecDepth 20000 in
theorem lkm_6_139 : lk mTab 6 139 = some (1, 0, mX6_allFine) := rfl
set_option maxRecDepth 20000 in
theorem lkm_6_142 : lk mTab 6 142 = some (0, 2, mX6_copyAll) := rfl
set_option maxRecDepth 20000 in
theorem lkm_6_146 : lk mTab 6 146 = some (1, 2, mX6_hasOn) := rfl
set_option maxRecDepth 20000 in
theorem lkm_6_149 : lk mTab 6 149 = some (1, 1, mX6_orNone) := rfl
set_option maxRecDepth 20000 in
theorem lkm_6_152 : lk mTab 6 152 = some (1, 2, mX6_worthIn) := rfl
set_option maxRecDepth 20000 in
theorem lkm_6_168 : lk mTab 6 168 = some (1, 2, mX6_isName) := rfl
set_option maxRecDepth 20000 in
theorem lkm_6_171 : lk mTab 6 171 = some (1, 3, mX6_isByte) := rfl
set_option maxRecDepth 20000 in
theorem lkm_6_181 : lk mTab 6 181 = some (1, 0, mX6_wordHere) := rfl
set_option maxRecDepth 20000 in
theorem lkm_6_188 : lk mTab 6 188 = some (1, 0, mX6_reads) := rfl
set_option maxRecDepth 20000 in
theorem lkm_6_191 : lk mTab 6 191 = some (1, 1, mX6_passes) := rfl
set_option maxRecDepth 20000 in
theorem lkm_6_194 : lk mTab 6 194 = some (1, 2, mX6_number) := rfl
set_option maxRecDepth 20000 in
theorem lkm_6_197 : lk mTab 6 197 = some (1, 4, mX6_perhaps) := rfl
set_option maxRecDepth 20000 in
theorem lkm_6_200 : lk mTab 6 200 = some (1, 0, mX6_frameItem) := rfl
set_option maxRecDepth 20000 in
theorem lkm_6_203 : lk mTab 6 203 = some (1, 0, mX6_tradeItem) := rfl
set_option maxRecDepth 20000 in
theorem lkm_6_206 : lk mTab 6 206 = some (1, 0, mX6_item) := rfl
set_option maxRecDepth 20000 in
theorem lkm_6_209 : lk mTab 6 209 = some (0, 1, mX6_isSheet) := rfl
set_option maxRecDepth 20000 in
theorem lkm_6_214 : lk mTab 6 214 = some (1, 1, mX6_notThere) := rfl
set_option maxRecDepth 20000 in
theorem lkm_6_217 : lk mTab 6 217 = some (0, 2, mX6_cutTo) := rfl
set_option maxRecDepth 20000 in
theorem lkm_6_221 : lk mTab 6 221 = some (1, 5, mX6_notCopied) := rfl
set_option maxRecDepth 20000 in
theorem lkm_6_225 : lk mTab 6 225 = some (1, 2, mX6_isBook) := rfl
set_option maxRecDepth 20000 in
theorem lkm_6_231 : lk mTab 6 231 = some (1, 0, mX6_drawnOnes) := rfl
set_option maxRecDepth 20000 in
theorem lkm_9_335 : lk mTab 9 335 = some (1, 0, mJ0_coder_7d493) := rfl
set_option maxRecDepth 20000 in
theorem lkm_9_492 : lk mTab 9 492 = some (1, 0, mJ0_isLatin1_aae02) := rfl
set_option maxRecDepth 20000 in
theorem lkm_9_495 : lk mTab 9 495 = some (0, 2, mJ1_charAt_3b067) := rfl
set_option maxRecDepth 20000 in
theorem lkm_9_498 : lk mTab 9 498 = some (0, 2, mJ2_charAt_3b067) := rfl
set_option maxRecDepth 20000 in
theorem lkm_9_1059 : lk mTab 9 1059 = some (0, 3, mJ3_checkIndex_8e157) := rfl
set_option maxRecDepth 20000 in
theorem lkm_10_9 : lk mTab 10 9 = some (0, 2, mJ0_checkIndex_df160) := rfl
set_option maxRecDepth 20000 in
theorem lkm_13_13 : lk mTab 13 13 = some (1, 2, mX5_money) := rfl
set_option maxRecDepth 20000 in
theorem lkm_13_17 : lk mTab 13 17 = some (1, 2, mX6_money) := rfl
set_option maxRecDepth 20000 in
theorem lkm_13_18 : lk mTab 13 18 = some (1, 2, mX5_ownerOf) := rfl
set_option maxRecDepth 20000 in
theorem lkm_13_21 : lk mTab 13 21 = some (1, 2, mX6_ownerOf) := rfl
set_option maxRecDepth 20000 in
theorem lkm_13_22 : lk mTab 13 22 = some (1, 2, mX5_frame) := rfl
set_option maxRecDepth 20000 in
theorem lkm_13_25 : lk mTab 13 25 = some (1, 2, mX6_frame) := rfl
set_option maxRecDepth 20000 in
theorem lkm_13_26 : lk mTab 13 26 = some (1, 2, mX5_frameOf) := rfl
set_option maxRecDepth 20000 in
theorem lkm_13_29 : lk mTab 13 29 = some (1, 2, mX6_frameOf) := rfl
set_option maxRecDepth 20000 in
theorem lkm_13_30 : lk mTab 13 30 = some (1, 3, mX5_set) := rfl
set_option maxRecDepth 20000 in
theorem lkm_13_34 : lk mTab 13 34 = some (1, 3, mX6_set) := rfl
set_option maxRecDepth 20000 in
theorem lkm_13_35 : lk mTab 13 35 = some (1, 2, mX5_of) := rfl
set_option maxRecDepth 20000 in
theorem lkm_13_38 : lk mTab 13 38 = some (1, 2, mX6_of) := rfl
set_option maxRecDepth 20000 in
theorem lkm_13_39 : lk mTab 13 39 = some (1, 2, mX5_fine) := rfl
set_option maxRecDepth 20000 in
theorem lkm_13_42 : lk mTab 13 42 = some (1, 2, mX6_fine) := rfl
set_option maxRecDepth 20000 in
theorem lkm_13_43 : lk mTab 13 43 = some (1, 2, mX5_turn) := rfl
set_option maxRecDepth 20000 in
theorem lkm_13_46 : lk mTab 13 46 = some (1, 2, mX6_turn) := rfl
set_option maxRecDepth 20000 in
theorem lkm_13_47 : lk mTab 13 47 = some (1, 2, mX5_as) := rfl
set_option maxRecDepth 20000 in
theorem lkm_13_50 : lk mTab 13 50 = some (1, 2, mX6_as) := rfl
set_option maxRecDepth 20000 in
theorem lkm_13_51 : lk mTab 13 51 = some (1, 2, mX5_trade) := rfl
set_option maxRecDepth 20000 in
theorem lkm_13_54 : lk mTab 13 54 = some (1, 2, mX6_trade) := rfl
set_option maxRecDepth 20000 in
theorem lkm_13_55 : lk mTab 13 55 = some (1, 0, mX5_shift) := rfl
set_option maxRecDepth 20000 in
theorem lkm_13_59 : lk mTab 13 59 = some (1, 0, mX6_shift) := rfl
set_option maxRecDepth 20000 in
theorem lkm_13_60 : lk mTab 13 60 = some (1, 0, mX5_back) := rfl
set_option maxRecDepth 20000 in
theorem lkm_13_63 : lk mTab 13 63 = some (1, 0, mX6_back) := rfl
set_option maxRecDepth 20000 in
theorem lkm_13_64 : lk mTab 13 64 = some (1, 2, mX5_stone) := rfl
set_option maxRecDepth 20000 in
theorem lkm_13_67 : lk mTab 13 67 = some (1, 2, mX6_stone) := rfl
set_option maxRecDepth 20000 in
theorem lkm_13_68 : lk mTab 13 68 = some (1, 0, mX5_home) := rfl
set_option maxRecDepth 20000 in
theorem lkm_13_71 : lk mTab 13 71 = some (1, 0, mX6_home) := rfl
set_option maxRecDepth 20000 in
theorem lkm_13_72 : lk mTab 13 72 = some (1, 1, mX5_hours) := rfl
set_option maxRecDepth 20000 in
theorem lkm_13_76 : lk mTab 13 76 = some (1, 1, mX6_hours) := rfl
set_option maxRecDepth 20000 in
theorem lkm_13_77 : lk mTab 13 77 = some (1, 1, mX5_now) := rfl
set_option maxRecDepth 20000 in
theorem lkm_13_80 : lk mTab 13 80 = some (1, 1, mX6_now) := rfl
set_option maxRecDepth 20000 in
theorem lkm_13_81 : lk mTab 13 81 = some (1, 2, mX5_on) := rfl
set_option maxRecDepth 20000 in
theorem lkm_13_84 : lk mTab 13 84 = some (1, 2, mX6_on) := rfl
set_option maxRecDepth 20000 in
theorem lkm_13_85 : lk mTab 13 85 = some (1, 3, mX5_then) := rfl
set_option maxRecDepth 20000 in
theorem lkm_13_88 : lk mTab 13 88 = some (1, 3, mX6_then) := rfl
set_option maxRecDepth 20000 in
theorem lkm_13_89 : lk mTab 13 89 = some (1, 2, mX5_rich) := rfl
set_option maxRecDepth 20000 in
theorem lkm_13_92 : lk mTab 13 92 = some (1, 2, mX6_rich) := rfl
set_option maxRecDepth 20000 in
theorem lkm_13_93 : lk mTab 13 93 = some (1, 2, mX5_best) := rfl
set_option maxRecDepth 20000 in
theorem lkm_13_96 : lk mTab 13 96 = some (1, 2, mX6_best) := rfl
set_option maxRecDepth 20000 in
theorem lkm_13_97 : lk mTab 13 97 = some (1, 2, mX5_kind) := rfl
set_option maxRecDepth 20000 in
theorem lkm_13_100 : lk mTab 13 100 = some (1, 2, mX6_kind) := rfl
set_option maxRecDepth 20000 in
theorem lkm_13_101 : lk mTab 13 101 = some (1, 2, mX5_shifts) := rfl
set_option maxRecDepth 20000 in
theorem lkm_13_104 : lk mTab 13 104 = some (1, 2, mX6_shifts) := rfl
set_option maxRecDepth 20000 in
theorem lkm_13_105 : lk mTab 13 105 = some (1, 4, mX5_least) := rfl
set_option maxRecDepth 20000 in
theorem lkm_13_109 : lk mTab 13 109 = some (1, 4, mX6_least) := rfl
set_option maxRecDepth 20000 in
theorem lkm_13_110 : lk mTab 13 110 = some (1, 1, mX5_draw) := rfl
set_option maxRecDepth 20000 in
theorem lkm_13_113 : lk mTab 13 113 = some (1, 1, mX6_draw) := rfl
set_option maxRecDepth 20000 in
theorem lkm_13_114 : lk mTab 13 114 = some (1, 1, mX5_richest) := rfl
set_option maxRecDepth 20000 in
theorem lkm_13_117 : lk mTab 13 117 = some (1, 1, mX6_richest) := rfl
set_option maxRecDepth 20000 in
theorem lkm_13_118 : lk mTab 13 118 = some (1, 2, mX5_feed) := rfl
set_option maxRecDepth 20000 in
theorem lkm_13_121 : lk mTab 13 121 = some (1, 2, mX6_feed) := rfl
set_option maxRecDepth 20000 in
theorem lkm_13_122 : lk mTab 13 122 = some (1, 0, mX5_wipe) := rfl
set_option maxRecDepth 20000 in
theorem lkm_13_125 : lk mTab 13 125 = some (1, 0, mX6_wipe) := rfl
set_option maxRecDepth 20000 in
theorem lkm_13_126 : lk mTab 13 126 = some (1, 0, mX5_city) := rfl
set_option maxRecDepth 20000 in
theorem lkm_13_129 : lk mTab 13 129 = some (1, 0, mX6_city) := rfl
set_option maxRecDepth 20000 in
theorem lkm_13_130 : lk mTab 13 130 = some (1, 3, mX5_sheet) := rfl
set_option maxRecDepth 20000 in
theorem lkm_13_133 : lk mTab 13 133 = some (1, 3, mX6_sheet) := rfl
set_option maxRecDepth 20000 in
theorem lkm_13_136 : lk mTab 13 136 = some (1, 3, mX5_write) := rfl
set_option maxRecDepth 20000 in
theorem lkm_13_140 : lk mTab 13 140 = some (1, 3, mX6_write) := rfl
set_option maxRecDepth 20000 in
theorem lkm_13_141 : lk mTab 13 141 = some (1, 5, mX5_copy) := rfl
set_option maxRecDepth 20000 in
theorem lkm_13_145 : lk mTab 13 145 = some (1, 5, mX6_copy) := rfl
set_option maxRecDepth 20000 in
theorem lkm_13_146 : lk mTab 13 146 = some (1, 1, mX5_lays) := rfl
set_option maxRecDepth 20000 in
theorem lkm_13_149 : lk mTab 13 149 = some (1, 1, mX6_lays) := rfl
set_option maxRecDepth 20000 in
theorem lkm_13_150 : lk mTab 13 150 = some (1, 2, mX5_book) := rfl
set_option maxRecDepth 20000 in
theorem lkm_13_153 : lk mTab 13 153 = some (1, 2, mX6_book) := rfl
set_option maxRecDepth 20000 in
theorem lkm_13_154 : lk mTab 13 154 = some (1, 3, mX5_read) := rfl
set_option maxRecDepth 20000 in
theorem lkm_13_157 : lk mTab 13 157 = some (1, 3, mX6_read) := rfl
set_option maxRecDepth 20000 in
theorem lkm_13_158 : lk mTab 13 158 = some (1, 0, mX5_image) := rfl
set_option maxRecDepth 20000 in
theorem lkm_13_161 : lk mTab 13 161 = some (1, 0, mX6_image) := rfl
set_option maxRecDepth 20000 in
theorem lkm_13_162 : lk mTab 13 162 = some (1, 0, mX5_undo) := rfl
set_option maxRecDepth 20000 in
theorem lkm_13_165 : lk mTab 13 165 = some (1, 0, mX6_undo) := rfl
set_option maxRecDepth 20000 in
theorem lkm_13_166 : lk mTab 13 166 = some (1, 0, mX5_tear) := rfl
set_option maxRecDepth 20000 in
theorem lkm_13_169 : lk mTab 13 169 = some (1, 0, mX6_tear) := rfl
set_option maxRecDepth 20000 in
theorem lkm_13_170 : lk mTab 13 170 = some (1, 1, mX5_count) := rfl
set_option maxRecDepth 20000 in
theorem lkm_13_173 : lk mTab 13 173 = some (1, 1, mX6_count) := rfl
set_option maxRecDepth 20000 in
theorem lkm_13_174 : lk mTab 13 174 = some (1, 1, mX5_status) := rfl
set_option maxRecDepth 20000 in
theorem lkm_13_177 : lk mTab 13 177 = some (1, 1, mX6_status) := rfl
theorem kb_6 : (Int8.ofInt (6)).toInt32 = (nI 6) := by decide
theorem kb_7 : (Int8.ofInt (7)).toInt32 = (nI 7) := by decide
theorem kb_8 : (Int8.ofInt (8)).toInt32 = (nI 8) := by decide
theorem kb_9 : (Int8.ofInt (9)).toInt32 = (nI 9) := by decide
theorem kb_10 : (Int8.ofInt (10)).toInt32 = (nI 10) := by decide
theorem kb_12 : (Int8.ofInt (12)).toInt32 = (nI 12) := by decide
theorem kb_16 : (Int8.ofInt (16)).toInt32 = (nI 16) := by decide
theorem kb_17 : (Int8.ofInt (17)).toInt32 = (nI 17) := by decide
theorem kb_20 : (Int8.ofInt (20)).toInt32 = (nI 20) := by decide
theorem kb_21 : (Int8.ofInt (21)).toInt32 = (nI 21) := by decide
theorem kb_22 : (Int8.ofInt (22)).toInt32 = (nI 22) := by decide
theorem kb_23 : (Int8.ofInt (23)).toInt32 = (nI 23) := by decide
theorem kb_24 : (Int8.ofInt (24)).toInt32 = (nI 24) := by decide
theorem kb_28 : (Int8.ofInt (28)).toInt32 = (nI 28) := by decide
theorem kb_30 : (Int8.ofInt (30)).toInt32 = (nI 30) := by decide
theorem kb_32 : (Int8.ofInt (32)).toInt32 = (nI 32) := by decide
theorem kb_40 : (Int8.ofInt (40)).toInt32 = (nI 40) := by decide
theorem kb_46 : (Int8.ofInt (46)).toInt32 = (nI 46) := by decide
theorem kb_48 : (Int8.ofInt (48)).toInt32 = (nI 48) := by decide
theorem kb_50 : (Int8.ofInt (50)).toInt32 = (nI 50) := by decide
theorem kb_57 : (Int8.ofInt (57)).toInt32 = (nI 57) := by decide
theorem kb_59 : (Int8.ofInt (59)).toInt32 = (nI 59) := by decide
theorem kb_63 : (Int8.ofInt (63)).toInt32 = (nI 63) := by decide
theorem kb_64 : (Int8.ofInt (64)).toInt32 = (nI 64) := by decide
theorem kb_97 : (Int8.ofInt (97)).toInt32 = (nI 97) := by decide
theorem kb_99 : (Int8.ofInt (99)).toInt32 = (nI 99) := by decide
theorem kb_100 : (Int8.ofInt (100)).toInt32 = (nI 100) := by decide
theorem kb_120 : (Int8.ofInt (120)).toInt32 = (nI 120) := by decide
theorem kb_122 : (Int8.ofInt (122)).toInt32 = (nI 122) := by decide
theorem ki_m1 : Int32.ofInt (-1) = (-1) := by decide
theorem ki_0 : Int32.ofInt (0) = (nI 0) := by decide
theorem ki_1 : Int32.ofInt (1) = (nI 1) := by decide
theorem ki_2 : Int32.ofInt (2) = (nI 2) := by decide
theorem ki_3 : Int32.ofInt (3) = (nI 3) := by decide
theorem ki_4 : Int32.ofInt (4) = (nI 4) := by decide
theorem ki_5 : Int32.ofInt (5) = (nI 5) := by decide
theorem ki_6 : Int32.ofInt (6) = (nI 6) := by decide
theorem ks_200 : (Int16.ofInt (200)).toInt32 = (nI 200) := by decide
theorem ks_255 : (Int16.ofInt (255)).toInt32 = (nI 255) := by decide
theorem ks_400 : (Int16.ofInt (400)).toInt32 = (nI 400) := by decide
theorem ks_600 : (Int16.ofInt (600)).toInt32 = (nI 600) := by decide
theorem ks_9999 : (Int16.ofInt (9999)).toInt32 = (nI 9999) := by decide
theorem ks_10000 : (Int16.ofInt (10000)).toInt32 = (nI 10000) := by decide
theorem lkf_1_9 : lk fTab 1 9 = some (1, 0) := by decide +kernel
theorem lkf_1_15 : lk fTab 1 15 = some (1, 1) := by decide +kernel
theorem lkf_1_18 : lk fTab 1 18 = some (1, 2) := by decide +kernel
theorem lkf_1_22 : lk fTab 1 22 = some (1, 3) := by decide +kernel
theorem lkf_1_25 : lk fTab 1 25 = some (1, 4) := by decide +kernel
theorem lkf_1_28 : lk fTab 1 28 = some (1, 5) := by decide +kernel
theorem lkf_1_31 : lk fTab 1 31 = some (1, 6) := by decide +kernel
theorem lkf_1_34 : lk fTab 1 34 = some (1, 7) := by decide +kernel
theorem lkf_3_9 : lk fTab 3 9 = some (3, 0) := by decide +kernel
theorem lkf_3_15 : lk fTab 3 15 = some (3, 1) := by decide +kernel
theorem lkf_3_18 : lk fTab 3 18 = some (3, 2) := by decide +kernel
theorem lkf_4_9 : lk fTab 4 9 = some (4, 0) := by decide +kernel
theorem lkf_4_15 : lk fTab 4 15 = some (4, 1) := by decide +kernel
theorem lkf_4_19 : lk fTab 4 19 = some (4, 2) := by decide +kernel
theorem lkf_4_22 : lk fTab 4 22 = some (4, 3) := by decide +kernel
theorem lkf_4_25 : lk fTab 4 25 = some (4, 4) := by decide +kernel
theorem lkf_4_28 : lk fTab 4 28 = some (4, 5) := by decide +kernel
theorem lkf_4_66 : lk fTab 4 66 = some (1, 1) := by decide +kernel
theorem lkf_4_80 : lk fTab 4 80 = some (1, 7) := by decide +kernel
theorem lkf_4_84 : lk fTab 4 84 = some (1, 4) := by decide +kernel
theorem lkf_4_90 : lk fTab 4 90 = some (1, 2) := by decide +kernel
theorem lkf_5_10 : lk fTab 5 10 = some (5, 0) := by decide +kernel
theorem lkf_5_16 : lk fTab 5 16 = some (5, 1) := by decide +kernel
theorem lkf_5_19 : lk fTab 5 19 = some (5, 2) := by decide +kernel
theorem lkf_5_22 : lk fTab 5 22 = some (5, 3) := by decide +kernel
theorem lkf_5_29 : lk fTab 5 29 = some (5, 4) := by decide +kernel
theorem lkf_5_35 : lk fTab 5 35 = some (5, 5) := by decide +kernel
theorem lkf_5_39 : lk fTab 5 39 = some (5, 6) := by decide +kernel
theorem lkf_5_43 : lk fTab 5 43 = some (5, 7) := by decide +kernel
theorem lkf_5_46 : lk fTab 5 46 = some (5, 8) := by decide +kernel
theorem lkf_5_63 : lk fTab 5 63 = some (1, 2) := by decide +kernel
theorem lkf_5_80 : lk fTab 5 80 = some (1, 1) := by decide +kernel
theorem lkf_5_91 : lk fTab 5 91 = some (1, 3) := by decide +kernel
theorem lkf_5_94 : lk fTab 5 94 = some (1, 4) := by decide +kernel
theorem lkf_5_97 : lk fTab 5 97 = some (1, 5) := by decide +kernel
theorem lkf_5_106 : lk fTab 5 106 = some (1, 6) := by decide +kernel
theorem lkf_5_109 : lk fTab 5 109 = some (1, 7) := by decide +kernel
theorem lkf_5_118 : lk fTab 5 118 = some (1, 0) := by decide +kernel
theorem lkf_5_194 : lk fTab 5 194 = some (4, 1) := by decide +kernel
theorem lkf_5_210 : lk fTab 5 210 = some (3, 1) := by decide +kernel
theorem lkf_5_216 : lk fTab 5 216 = some (3, 2) := by decide +kernel
theorem lkf_5_224 : lk fTab 5 224 = some (3, 0) := by decide +kernel
theorem lkf_6_9 : lk fTab 6 9 = some (6, 0) := by decide +kernel
theorem lkf_6_13 : lk fTab 6 13 = some (6, 1) := by decide +kernel
theorem lkf_6_16 : lk fTab 6 16 = some (6, 2) := by decide +kernel
theorem lkf_6_19 : lk fTab 6 19 = some (6, 4) := by decide +kernel
theorem lkf_6_22 : lk fTab 6 22 = some (6, 5) := by decide +kernel
theorem lkf_6_25 : lk fTab 6 25 = some (6, 12) := by decide +kernel
theorem lkf_6_28 : lk fTab 6 28 = some (6, 13) := by decide +kernel
theorem lkf_6_31 : lk fTab 6 31 = some (6, 14) := by decide +kernel
theorem lkf_6_155 : lk fTab 6 155 = some (6, 6) := by decide +kernel
theorem lkf_6_162 : lk fTab 6 162 = some (6, 8) := by decide +kernel
theorem lkf_6_165 : lk fTab 6 165 = some (6, 9) := by decide +kernel
theorem lkf_6_175 : lk fTab 6 175 = some (6, 10) := by decide +kernel
theorem lkf_6_178 : lk fTab 6 178 = some (6, 7) := by decide +kernel
theorem lkf_6_184 : lk fTab 6 184 = some (6, 11) := by decide +kernel
theorem lkf_6_228 : lk fTab 6 228 = some (6, 3) := by decide +kernel
