/-! THE PURE MACHINE: cells by numbers, no heap, no frames. Its runs are tied to the machine's in the next part. -/
abbrev mI : Type := MethodName × ByteArray × Nat × Option FieldType × Nat × Nat × Nat
abbrev mI.y (M : mI) : MethodName := M.1
abbrev mI.b (M : mI) : ByteArray := M.2.1
abbrev mI.n (M : mI) : Nat := M.2.2.1
abbrev mI.r (M : mI) : Option FieldType := M.2.2.2.1
abbrev mI.c (M : mI) : Nat := M.2.2.2.2.1
abbrev mI.f (M : mI) : Nat := M.2.2.2.2.2.1
abbrev mI.w (M : mI) : Nat := M.2.2.2.2.2.2
abbrev Hp : Type := (Nat → Nat → Int32) × (Nat → Nat → Int32) × (Nat → Nat → Int64)
abbrev En : Type := (Nat → Int32) × Nat
def sI (h : Hp) (o k : Nat) (v : Int32) : Hp := (fun o' k' => if o' = o then (if k' = k then v else h.1 o' k') else h.1 o' k', h.2)
def sA (h : Hp) (a : Nat) (f : Nat → Int32) : Hp := (h.1, fun a' => if a' = a then f else h.2.1 a', h.2.2)
def sL (h : Hp) (a : Nat) (f : Nat → Int64) : Hp := (h.1, h.2.1, fun a' => if a' = a then f else h.2.2 a')
/-- what a cell is: (1, its class, 0), (2, length, 0) ints, (3, length, 0) longs, (4, length, first) cells from one on -/
def cKT : List (Nat × Nat × Nat) := [(1, 5, 0), (1, 1, 0), (2, 4, 0), (2, 8, 0), (2, 8, 0), (2, 8, 0), (2, 8, 0), (2, 8, 0), (1, 1, 0), (2, 4, 0), (2, 8, 0), (2, 8, 0), (2, 8, 0), (2, 8, 0), (2, 8, 0), (1, 1, 0), (2, 4, 0), (2, 8, 0), (2, 8, 0), (2, 8, 0), (2, 8, 0), (2, 8, 0), (1, 4, 0), (2, 120, 0), (4, 4, 25), (1, 3, 0), (1, 3, 0), (1, 3, 0), (1, 3, 0), (3, 40, 0), (3, 40, 0), (3, 40, 0), (3, 40, 0), (2, 7, 0), (2, 8, 0), (2, 40, 0), (1, 6, 0), (2, 46, 0), (2, 46, 0), (2, 46, 0), (2, 7, 0), (2, 120, 0), (2, 4, 0), (2, 4, 0), (3, 160, 0)]
def cK (i : Nat) : Nat × Nat × Nat := cKT.getD i (0, 0, 0)
/-- a field of a class: 0 a number, 1 a truth, 2 and more: the cell so far behind -/
def fOT : List (List Nat) := [[], [0, 0, 3, 4, 5, 6, 7, 8], [], [0, 0, 6], [3, 0, 0, 0, 0, 0], [3, 10, 17, 1, 24, 26, 35, 36, 37], [3, 4, 5, 1, 6, 7, 0, 0, 0, 0, 0, 1, 8, 9, 10]]
def fO (c k : Nat) : Nat := (fOT.getD c []).getD k 0
def lk {β : Type} : List (Nat × Nat × β) → Nat → Nat → Option β
  | [], _, _ => none
  | q :: r, a, b => bif Nat.beq q.1 a && Nat.beq q.2.1 b then some q.2.2 else lk r a b
theorem lk_mem {β : Type} : ∀ (l : List (Nat × Nat × β)) {a b : Nat} {v : β}, lk l a b = some v → (a, b, v) ∈ l
  | [], _, _, _, h => by cases h
  | q :: r, a, b, v, h => by
    simp only [lk] at h
    by_cases hc : (Nat.beq q.1 a && Nat.beq q.2.1 b) = true
    · rw [hc] at h
      simp only [cond_true, Option.some.injEq] at h
      simp only [Bool.and_eq_true] at hc
      have h1 := Nat.eq_of_beq_eq_true hc.1
      have h2 := Nat.eq_of_beq_eq_true hc.2
      rw [← h1, ← h2, ← h]
      exact List.mem_cons_self
    · simp only [Bool.not_eq_true] at hc
      rw [hc] at h
      exact List.mem_cons_of_mem _ (lk_mem r h)
def pIn (i : Int32) (n : Nat) : Bool := !(decide (i < 0) || decide (n ≤ i.toNatClampNeg))
theorem pIn_vp {i : Int32} {n : Nat} (h : pIn i n = true) : vp_in i n := by
  intro hc
  simp only [pIn, Bool.not_eq_true', Bool.or_eq_false_iff, decide_eq_false_iff_not] at h
  rcases hc with hc | hc
  · exact h.1 hc
  · exact h.2 hc
theorem pIn_of {i : Int32} {n : Nat} (h : vp_in i n) : pIn i n = true := by
  simp only [pIn, Bool.not_eq_true', Bool.or_eq_false_iff, decide_eq_false_iff_not]
  exact ⟨fun z => h (Or.inl z), fun z => h (Or.inr z)⟩
def cat1 : Value → Bool
  | .long _ => false
  | .double _ => false
  | _ => true
theorem cat1_cat {v : Value} (h : cat1 v = true) : v.category = 1 := by cases v <;> first | rfl | cases h
/-- the slot ahead of a place is no long -/
def bef (L : List Value) (i : Nat) : Bool := match i with
  | 0 => true
  | j + 1 => cat1 (L.getD j .null)
def pT (pc : Nat) (off : Int) : Option Nat := match (pc : Int) + off with
  | .ofNat t => some t
  | .negSucc _ => none
theorem pT_eq {pc : Nat} {off : Int} {t : Nat} (h : pT pc off = some t) : (pc : Int) + off = (t : Int) := by
  unfold pT at h
  cases hq : (pc : Int) + off with
  | ofNat q => rw [hq] at h; simp only [Option.some.injEq] at h; rw [h]; rfl
  | negSucc q => rw [hq] at h; cases h
def pC (c : Jvm.ClassFile.Cond) (x y : Int32) : Bool := match c with
  | .eq => decide (x = y)
  | .ne => !decide (x = y)
  | .lt => decide (x < y)
  | .ge => decide (y ≤ x)
  | .gt => decide (y < x)
  | .le => decide (x ≤ y)
def mX0_hourOfDay : mI := (yX0_hourOfDay, cX0_hourOfDay, 1, (some FieldType.int), 0, 0, 0)
def mX0_isSpring : mI := (yX0_isSpring, cX0_isSpring, 1, (some FieldType.boolean), 0, 0, 0)
def mX1_init : mI := (yX1_init, cX1_init, 2, (none : Option FieldType), 1, 1, 20)
def mX1_become : mI := (yX1_become, cX1_become, 2, (none : Option FieldType), 1, 1, 40)
def mX1_hasFrame : mI := (yX1_hasFrame, cX1_hasFrame, 2, (some FieldType.boolean), 1, 0, 0)
def mX1_hasView : mI := (yX1_hasView, cX1_hasView, 2, (some FieldType.boolean), 1, 1, 21)
def mX1_addFrame : mI := (yX1_addFrame, cX1_addFrame, 4, (some FieldType.int), 1, 0, 0)
def mX1_worthOf : mI := (yX1_worthOf, cX1_worthOf, 2, (some FieldType.int), 1, 3, 64)
def mX1_worthOutOf : mI := (yX1_worthOutOf, cX1_worthOutOf, 2, (some FieldType.int), 1, 4, 85)
def mX1_soldFor : mI := (yX1_soldFor, cX1_soldFor, 2, (some FieldType.int), 1, 2, 43)
def mX1_frameShowing : mI := (yX1_frameShowing, cX1_frameShowing, 4, (some FieldType.int), 1, 0, 0)
def mX1_framesOwnedBy : mI := (yX1_framesOwnedBy, cX1_framesOwnedBy, 4, (some FieldType.int), 1, 0, 0)
def mX1_viewsOwnedBy : mI := (yX1_viewsOwnedBy, cX1_viewsOwnedBy, 4, (some FieldType.int), 1, 0, 0)
def mX1_incomeOf : mI := (yX1_incomeOf, cX1_incomeOf, 4, (some FieldType.int), 1, 5, 106)
def mX1_framesAtHome : mI := (yX1_framesAtHome, cX1_framesAtHome, 3, (some FieldType.int), 1, 0, 0)
def mX1_viewsAreHome : mI := (yX1_viewsAreHome, cX1_viewsAreHome, 1, (some FieldType.boolean), 1, 1, 22)
def mX1_moneyInAll : mI := (yX1_moneyInAll, cX1_moneyInAll, 3, (some FieldType.int), 1, 0, 0)
def mX1_fineInAll : mI := (yX1_fineInAll, cX1_fineInAll, 3, (some FieldType.int), 1, 0, 0)
def mX1_curtainsDrawn : mI := (yX1_curtainsDrawn, cX1_curtainsDrawn, 3, (some FieldType.int), 1, 0, 0)
def mX1_dueFromFirst : mI := (yX1_dueFromFirst, cX1_dueFromFirst, 3, (some FieldType.int), 1, 3, 64)
def mX1_canExchange : mI := (yX1_canExchange, cX1_canExchange, 4, (some FieldType.boolean), 1, 4, 86)
def mX1_exchange : mI := (yX1_exchange, cX1_exchange, 4, (some FieldType.int), 1, 4, 86)
def mX1_pay : mI := (yX1_pay, cX1_pay, 4, (none : Option FieldType), 1, 1, 30)
def mX1_swapViews : mI := (yX1_swapViews, cX1_swapViews, 4, (none : Option FieldType), 1, 0, 0)
def mX1_shiftViews : mI := (yX1_shiftViews, cX1_shiftViews, 3, (none : Option FieldType), 1, 0, 0)
def mX1_exchangesTillHome : mI := (yX1_exchangesTillHome, cX1_exchangesTillHome, 6, (some FieldType.int), 1, 0, 0)
def mX1_passHour : mI := (yX1_passHour, cX1_passHour, 3, (none : Option FieldType), 1, 5, 106)
def mX2_isKind : mI := (yX2_isKind, cX2_isKind, 1, (some FieldType.boolean), 2, 0, 0)
def mX2_isOrIsUnder : mI := (yX2_isOrIsUnder, cX2_isOrIsUnder, 4, (some FieldType.boolean), 2, 1, 20)
def mX2_nameOf : mI := (yX2_nameOf, cX2_nameOf, 1, (some (FieldType.object "java/lang/String")), 2, 0, 0)
def mX2_worth : mI := (yX2_worth, cX2_worth, 4, (some FieldType.int), 2, 2, 41)
def mX2_seaLight : mI := (yX2_seaLight, cX2_seaLight, 2, (some FieldType.int), 2, 1, 20)
def mX2_streetLife : mI := (yX2_streetLife, cX2_streetLife, 1, (some FieldType.int), 2, 1, 20)
def mX2_wears : mI := (yX2_wears, cX2_wears, 2, (some FieldType.int), 2, 1, 20)
def mX2_soldFor : mI := (yX2_soldFor, cX2_soldFor, 4, (some FieldType.int), 2, 1, 20)
def mX2_fineBehind : mI := (yX2_fineBehind, cX2_fineBehind, 3, (some FieldType.int), 2, 2, 41)
def mX2_worthInAll : mI := (yX2_worthInAll, cX2_worthInAll, 7, (some FieldType.int), 2, 3, 64)
def mX3_init : mI := (yX3_init, cX3_init, 1, (none : Option FieldType), 3, 1, 20)
def mX3_isMissing : mI := (yX3_isMissing, cX3_isMissing, 1, (some FieldType.boolean), 3, 0, 0)
def mX3_begin : mI := (yX3_begin, cX3_begin, 4, (none : Option FieldType), 3, 0, 0)
def mX3_put : mI := (yX3_put, cX3_put, 4, (none : Option FieldType), 3, 0, 0)
def mX3_hasRange : mI := (yX3_hasRange, cX3_hasRange, 3, (some FieldType.boolean), 3, 0, 0)
def mX4_init : mI := (yX4_init, cX4_init, 1, (none : Option FieldType), 4, 1, 20)
def mX4_hasRoomFor : mI := (yX4_hasRoomFor, cX4_hasRoomFor, 2, (some FieldType.boolean), 4, 0, 0)
def mX4_append : mI := (yX4_append, cX4_append, 4, (none : Option FieldType), 4, 0, 0)
def mX4_clear : mI := (yX4_clear, cX4_clear, 2, (some FieldType.int), 4, 0, 0)
def mX4_readOnto : mI := (yX4_readOnto, cX4_readOnto, 3, (some FieldType.int), 4, 8, 173)
def mX4_readItem : mI := (yX4_readItem, cX4_readItem, 3, (some FieldType.boolean), 4, 7, 151)
def mX4_readFrame : mI := (yX4_readFrame, cX4_readFrame, 4, (some FieldType.boolean), 4, 6, 128)
def mX4_readTrade : mI := (yX4_readTrade, cX4_readTrade, 3, (some FieldType.boolean), 4, 3, 71)
def mX4_readMoney : mI := (yX4_readMoney, cX4_readMoney, 3, (some FieldType.boolean), 4, 3, 71)
def mX4_kindHere : mI := (yX4_kindHere, cX4_kindHere, 2, (some FieldType.int), 4, 6, 128)
def mX4_isWord : mI := (yX4_isWord, cX4_isWord, 3, (some FieldType.boolean), 4, 5, 106)
def mX4_isNumberUpTo : mI := (yX4_isNumberUpTo, cX4_isNumberUpTo, 2, (some FieldType.boolean), 4, 0, 0)
def mX4_advance : mI := (yX4_advance, cX4_advance, 1, (none : Option FieldType), 4, 2, 51)
def mX4_passWord : mI := (yX4_passWord, cX4_passWord, 1, (none : Option FieldType), 4, 1, 20)
def mX4_passNumber : mI := (yX4_passNumber, cX4_passNumber, 2, (none : Option FieldType), 4, 1, 30)
def mX4_isLetter : mI := (yX4_isLetter, cX4_isLetter, 1, (some FieldType.boolean), 4, 0, 0)
def mX4_isDigit : mI := (yX4_isDigit, cX4_isDigit, 1, (some FieldType.boolean), 4, 0, 0)
def mX5_init : mI := (yX5_init, cX5_init, 2, (none : Option FieldType), 5, 2, 41)
def mX5_money : mI := (yX5_money, cX5_money, 4, (some FieldType.int), 5, 2, 42)
def mX5_ownerOf : mI := (yX5_ownerOf, cX5_ownerOf, 3, (some FieldType.int), 5, 6, 129)
def mX5_frame : mI := (yX5_frame, cX5_frame, 3, (some FieldType.int), 5, 2, 42)
def mX5_frameOf : mI := (yX5_frameOf, cX5_frameOf, 3, (some FieldType.int), 5, 5, 106)
def mX5_set : mI := (yX5_set, cX5_set, 5, (some FieldType.int), 5, 2, 42)
def mX5_of : mI := (yX5_of, cX5_of, 3, (some FieldType.int), 5, 4, 85)
def mX5_fine : mI := (yX5_fine, cX5_fine, 4, (some FieldType.int), 5, 2, 42)
def mX5_turn : mI := (yX5_turn, cX5_turn, 4, (some FieldType.int), 5, 2, 42)
def mX5_as : mI := (yX5_as, cX5_as, 3, (some FieldType.int), 5, 2, 43)
def mX5_trade : mI := (yX5_trade, cX5_trade, 3, (some FieldType.int), 5, 5, 109)
def mX5_shift : mI := (yX5_shift, cX5_shift, 1, (some FieldType.int), 5, 1, 22)
def mX5_back : mI := (yX5_back, cX5_back, 2, (some FieldType.int), 5, 2, 61)
def mX5_stone : mI := (yX5_stone, cX5_stone, 5, (some FieldType.int), 5, 1, 22)
def mX5_home : mI := (yX5_home, cX5_home, 1, (some FieldType.int), 5, 1, 25)
def mX5_hours : mI := (yX5_hours, cX5_hours, 3, (some FieldType.int), 5, 6, 128)
def mX5_now : mI := (yX5_now, cX5_now, 2, (some FieldType.int), 5, 1, 22)
def mX5_on : mI := (yX5_on, cX5_on, 3, (some FieldType.int), 5, 5, 112)
def mX5_then : mI := (yX5_then, cX5_then, 5, (some FieldType.int), 5, 6, 128)
def mX5_rich : mI := (yX5_rich, cX5_rich, 4, (some FieldType.int), 5, 6, 128)
def mX5_best : mI := (yX5_best, cX5_best, 8, (some FieldType.int), 5, 5, 112)
def mX5_kind : mI := (yX5_kind, cX5_kind, 7, (some FieldType.int), 5, 4, 90)
def mX5_shifts : mI := (yX5_shifts, cX5_shifts, 7, (some FieldType.int), 5, 5, 112)
def mX5_least : mI := (yX5_least, cX5_least, 6, (some FieldType.int), 5, 5, 112)
def mX5_draw : mI := (yX5_draw, cX5_draw, 6, (some FieldType.int), 5, 5, 112)
def mX5_richest : mI := (yX5_richest, cX5_richest, 6, (some FieldType.int), 5, 5, 112)
def mX5_feed : mI := (yX5_feed, cX5_feed, 3, (some FieldType.int), 5, 1, 23)
def mX5_wipe : mI := (yX5_wipe, cX5_wipe, 1, (some FieldType.int), 5, 1, 21)
def mX5_city : mI := (yX5_city, cX5_city, 2, (some FieldType.int), 5, 9, 195)
def mX5_sheet : mI := (yX5_sheet, cX5_sheet, 4, (some FieldType.int), 5, 2, 42)
def mX5_write : mI := (yX5_write, cX5_write, 8, (some FieldType.long), 5, 2, 42)
def mX5_copy : mI := (yX5_copy, cX5_copy, 8, (some FieldType.int), 5, 2, 42)
def mX5_lays : mI := (yX5_lays, cX5_lays, 7, (some FieldType.int), 5, 2, 42)
def mX5_book : mI := (yX5_book, cX5_book, 5, (some FieldType.int), 5, 6, 128)
def mX5_read : mI := (yX5_read, cX5_read, 9, (some FieldType.int), 5, 7, 153)
def mX5_image : mI := (yX5_image, cX5_image, 1, (some FieldType.int), 5, 2, 61)
def mX5_undo : mI := (yX5_undo, cX5_undo, 1, (some FieldType.int), 5, 2, 61)
def mX5_tear : mI := (yX5_tear, cX5_tear, 2, (some FieldType.int), 5, 0, 0)
def mX5_count : mI := (yX5_count, cX5_count, 2, (some FieldType.int), 5, 1, 22)
def mX5_status : mI := (yX5_status, cX5_status, 4, (some FieldType.int), 5, 1, 21)
def mX5_tell : mI := (yX5_tell, cX5_tell, 2, (some FieldType.int), 5, 0, 0)
def mX5_isWithin : mI := (yX5_isWithin, cX5_isWithin, 3, (some FieldType.boolean), 5, 0, 0)
def mX5_isOwner : mI := (yX5_isOwner, cX5_isOwner, 1, (some FieldType.boolean), 5, 1, 22)
def mX5_isSheet : mI := (yX5_isSheet, cX5_isSheet, 1, (some FieldType.boolean), 5, 1, 22)
def mX5_foresee : mI := (yX5_foresee, cX5_foresee, 3, (none : Option FieldType), 5, 4, 90)
def mX5_moneyForeseen : mI := (yX5_moneyForeseen, cX5_moneyForeseen, 5, (some FieldType.int), 5, 1, 30)
def mX5_costOfDrawing : mI := (yX5_costOfDrawing, cX5_costOfDrawing, 3, (some FieldType.int), 5, 2, 61)
def mX5_foreseeWithout : mI := (yX5_foreseeWithout, cX5_foreseeWithout, 6, (some FieldType.boolean), 5, 6, 128)
def mX5_fits : mI := (yX5_fits, cX5_fits, 8, (some FieldType.boolean), 5, 3, 64)
def mX6_init : mI := (yX6_init, cX6_init, 2, (none : Option FieldType), 6, 1, 20)
def mX6_finds : mI := (yX6_finds, cX6_finds, 2, (some FieldType.int), 6, 0, 0)
def mX6_orNone : mI := (yX6_orNone, cX6_orNone, 2, (some FieldType.int), 6, 1, 21)
def mX6_in : mI := (yX6_in, cX6_in, 4, (some FieldType.boolean), 6, 0, 0)
def mX6_held : mI := (yX6_held, cX6_held, 3, (some FieldType.int), 6, 0, 0)
def mX6_copyAll : mI := (yX6_copyAll, cX6_copyAll, 3, (none : Option FieldType), 6, 0, 0)
def mX6_becomes : mI := (yX6_becomes, cX6_becomes, 4, (some FieldType.int), 6, 0, 0)
def mX6_isFrame : mI := (yX6_isFrame, cX6_isFrame, 2, (some FieldType.boolean), 6, 1, 23)
def mX6_isOwner : mI := (yX6_isOwner, cX6_isOwner, 1, (some FieldType.boolean), 6, 1, 23)
def mX6_about : mI := (yX6_about, cX6_about, 3, (some FieldType.int), 6, 0, 0)
def mX6_it : mI := (yX6_it, cX6_it, 3, (some FieldType.int), 6, 0, 0)
def mX6_clock : mI := (yX6_clock, cX6_clock, 1, (some FieldType.int), 6, 0, 0)
def mX6_isSpring : mI := (yX6_isSpring, cX6_isSpring, 1, (some FieldType.boolean), 6, 0, 0)
def mX6_worth : mI := (yX6_worth, cX6_worth, 7, (some FieldType.int), 6, 1, 23)
def mX6_wears : mI := (yX6_wears, cX6_wears, 2, (some FieldType.int), 6, 1, 22)
def mX6_dear : mI := (yX6_dear, cX6_dear, 3, (some FieldType.int), 6, 1, 22)
def mX6_worthOut : mI := (yX6_worthOut, cX6_worthOut, 2, (some FieldType.int), 6, 2, 49)
def mX6_money : mI := (yX6_money, cX6_money, 3, (some FieldType.int), 6, 2, 43)
def mX6_ownerOf : mI := (yX6_ownerOf, cX6_ownerOf, 8, (some FieldType.int), 6, 3, 70)
def mX6_comesAs : mI := (yX6_comesAs, cX6_comesAs, 6, (some FieldType.int), 6, 0, 0)
def mX6_frame : mI := (yX6_frame, cX6_frame, 3, (some FieldType.int), 6, 2, 43)
def mX6_frameOf : mI := (yX6_frameOf, cX6_frameOf, 3, (some FieldType.int), 6, 3, 70)
def mX6_set : mI := (yX6_set, cX6_set, 5, (some FieldType.int), 6, 2, 44)
def mX6_frameWith : mI := (yX6_frameWith, cX6_frameWith, 3, (some FieldType.int), 6, 1, 22)
def mX6_of : mI := (yX6_of, cX6_of, 3, (some FieldType.int), 6, 2, 49)
def mX6_fine : mI := (yX6_fine, cX6_fine, 3, (some FieldType.int), 6, 2, 44)
def mX6_turn : mI := (yX6_turn, cX6_turn, 3, (some FieldType.int), 6, 2, 44)
def mX6_as : mI := (yX6_as, cX6_as, 5, (some FieldType.int), 6, 2, 44)
def mX6_changes : mI := (yX6_changes, cX6_changes, 4, (none : Option FieldType), 6, 1, 22)
def mX6_earns : mI := (yX6_earns, cX6_earns, 3, (none : Option FieldType), 6, 1, 22)
def mX6_price : mI := (yX6_price, cX6_price, 4, (some FieldType.int), 6, 2, 44)
def mX6_payer : mI := (yX6_payer, cX6_payer, 3, (some FieldType.int), 6, 2, 44)
def mX6_canTrade : mI := (yX6_canTrade, cX6_canTrade, 3, (some FieldType.boolean), 6, 3, 67)
def mX6_trades : mI := (yX6_trades, cX6_trades, 6, (some FieldType.int), 6, 3, 67)
def mX6_trade : mI := (yX6_trade, cX6_trade, 3, (some FieldType.int), 6, 4, 92)
def mX6_shiftsOnce : mI := (yX6_shiftsOnce, cX6_shiftsOnce, 2, (none : Option FieldType), 6, 2, 45)
def mX6_shift : mI := (yX6_shift, cX6_shift, 1, (some FieldType.int), 6, 3, 66)
def mX6_atHome : mI := (yX6_atHome, cX6_atHome, 3, (some FieldType.int), 6, 1, 22)
def mX6_back : mI := (yX6_back, cX6_back, 2, (some FieldType.int), 6, 3, 66)
def mX6_stone : mI := (yX6_stone, cX6_stone, 5, (some FieldType.int), 6, 2, 44)
def mX6_home : mI := (yX6_home, cX6_home, 5, (some FieldType.int), 6, 1, 22)
def mX6_goes : mI := (yX6_goes, cX6_goes, 2, (none : Option FieldType), 6, 3, 70)
def mX6_goesFor : mI := (yX6_goesFor, cX6_goesFor, 3, (none : Option FieldType), 6, 4, 91)
def mX6_allMoney : mI := (yX6_allMoney, cX6_allMoney, 3, (some FieldType.int), 6, 0, 0)
def mX6_hours : mI := (yX6_hours, cX6_hours, 2, (some FieldType.int), 6, 5, 113)
def mX6_allFine : mI := (yX6_allFine, cX6_allFine, 3, (some FieldType.int), 6, 1, 22)
def mX6_now : mI := (yX6_now, cX6_now, 2, (some FieldType.int), 6, 2, 44)
def mX6_thinks : mI := (yX6_thinks, cX6_thinks, 1, (none : Option FieldType), 6, 1, 22)
def mX6_putsBack : mI := (yX6_putsBack, cX6_putsBack, 1, (none : Option FieldType), 6, 1, 22)
def mX6_on : mI := (yX6_on, cX6_on, 3, (some FieldType.int), 6, 6, 136)
def mX6_then : mI := (yX6_then, cX6_then, 5, (some FieldType.int), 6, 5, 113)
def mX6_rich : mI := (yX6_rich, cX6_rich, 4, (some FieldType.int), 6, 4, 91)
def mX6_hasOn : mI := (yX6_hasOn, cX6_hasOn, 4, (some FieldType.int), 6, 5, 113)
def mX6_best : mI := (yX6_best, cX6_best, 9, (some FieldType.int), 6, 6, 136)
def mX6_worthIn : mI := (yX6_worthIn, cX6_worthIn, 5, (some FieldType.int), 6, 4, 91)
def mX6_kind : mI := (yX6_kind, cX6_kind, 7, (some FieldType.int), 6, 5, 115)
def mX6_shifts : mI := (yX6_shifts, cX6_shifts, 7, (some FieldType.int), 6, 6, 136)
def mX6_least : mI := (yX6_least, cX6_least, 7, (some FieldType.int), 6, 6, 136)
def mX6_draw : mI := (yX6_draw, cX6_draw, 8, (some FieldType.int), 6, 6, 136)
def mX6_richest : mI := (yX6_richest, cX6_richest, 4, (some FieldType.int), 6, 5, 113)
def mX6_feed : mI := (yX6_feed, cX6_feed, 4, (some FieldType.int), 6, 1, 23)
def mX6_wipe : mI := (yX6_wipe, cX6_wipe, 2, (some FieldType.int), 6, 0, 0)
def mX6_isByte : mI := (yX6_isByte, cX6_isByte, 4, (some FieldType.boolean), 6, 1, 23)
def mX6_isName : mI := (yX6_isName, cX6_isName, 5, (some FieldType.boolean), 6, 0, 0)
def mX6_wordHere : mI := (yX6_wordHere, cX6_wordHere, 2, (some FieldType.int), 6, 1, 24)
def mX6_reads : mI := (yX6_reads, cX6_reads, 1, (none : Option FieldType), 6, 2, 46)
def mX6_passes : mI := (yX6_passes, cX6_passes, 2, (some FieldType.boolean), 6, 3, 66)
def mX6_number : mI := (yX6_number, cX6_number, 4, (some FieldType.int), 6, 3, 66)
def mX6_perhaps : mI := (yX6_perhaps, cX6_perhaps, 5, (some FieldType.int), 6, 4, 89)
def mX6_frameItem : mI := (yX6_frameItem, cX6_frameItem, 6, (none : Option FieldType), 6, 5, 113)
def mX6_tradeItem : mI := (yX6_tradeItem, cX6_tradeItem, 3, (none : Option FieldType), 6, 4, 89)
def mX6_item : mI := (yX6_item, cX6_item, 3, (none : Option FieldType), 6, 6, 138)
def mX6_city : mI := (yX6_city, cX6_city, 2, (some FieldType.int), 6, 7, 160)
def mX6_isSheet : mI := (yX6_isSheet, cX6_isSheet, 1, (some FieldType.boolean), 6, 1, 23)
def mX6_sheet : mI := (yX6_sheet, cX6_sheet, 5, (some FieldType.int), 6, 2, 43)
def mX6_notThere : mI := (yX6_notThere, cX6_notThere, 2, (some FieldType.int), 6, 2, 43)
def mX6_cutTo : mI := (yX6_cutTo, cX6_cutTo, 3, (some FieldType.long), 6, 0, 0)
def mX6_write : mI := (yX6_write, cX6_write, 8, (some FieldType.long), 6, 3, 64)
def mX6_notCopied : mI := (yX6_notCopied, cX6_notCopied, 7, (some FieldType.int), 6, 2, 43)
def mX6_copy : mI := (yX6_copy, cX6_copy, 9, (some FieldType.int), 6, 3, 69)
def mX6_lays : mI := (yX6_lays, cX6_lays, 5, (some FieldType.int), 6, 3, 64)
def mX6_book : mI := (yX6_book, cX6_book, 5, (some FieldType.int), 6, 4, 91)
def mX6_isBook : mI := (yX6_isBook, cX6_isBook, 5, (some FieldType.boolean), 6, 4, 91)
def mX6_read : mI := (yX6_read, cX6_read, 7, (some FieldType.int), 6, 5, 115)
def mX6_image : mI := (yX6_image, cX6_image, 1, (some FieldType.int), 6, 1, 22)
def mX6_undo : mI := (yX6_undo, cX6_undo, 1, (some FieldType.int), 6, 1, 22)
def mX6_tear : mI := (yX6_tear, cX6_tear, 2, (some FieldType.int), 6, 0, 0)
def mX6_drawnOnes : mI := (yX6_drawnOnes, cX6_drawnOnes, 3, (some FieldType.int), 6, 1, 22)
def mX6_count : mI := (yX6_count, cX6_count, 2, (some FieldType.int), 6, 2, 44)
def mX6_status : mI := (yX6_status, cX6_status, 4, (some FieldType.int), 6, 1, 23)
def mJ6_bitCount_0f7a4 : mI := (yJ6_bitCount_0f7a4, cJ6_bitCount_0f7a4, 1, (some FieldType.int), 7, 0, 0)
def mJ9_abs_0f7a4 : mI := (yJ9_abs_0f7a4, cJ9_abs_0f7a4, 1, (some FieldType.int), 8, 0, 0)
def mJ9_max_7cf53 : mI := (yJ9_max_7cf53, cJ9_max_7cf53, 2, (some FieldType.int), 8, 0, 0)
def mJ9_min_7cf53 : mI := (yJ9_min_7cf53, cJ9_min_7cf53, 2, (some FieldType.int), 8, 0, 0)
def mJ0_length_8abf5 : mI := (yJ0_length_8abf5, cJ0_length_8abf5, 1, (some FieldType.int), 9, 1, 20)
def mJ0_charAt_5068e : mI := (yJ0_charAt_5068e, cJ0_charAt_5068e, 2, (some FieldType.char), 9, 4, 85)
def mJ0_coder_7d493 : mI := (yJ0_coder_7d493, cJ0_coder_7d493, 1, (some FieldType.byte), 9, 0, 0)
def mJ0_isLatin1_aae02 : mI := (yJ0_isLatin1_aae02, cJ0_isLatin1_aae02, 1, (some FieldType.boolean), 9, 0, 0)
def mJ0_checkIndex_df160 : mI := (yJ0_checkIndex_df160, cJ0_checkIndex_df160, 2, (none : Option FieldType), 9, 1, 22)
def mJ1_charAt_3b067 : mI := (yJ1_charAt_3b067, cJ1_charAt_3b067, 2, (some FieldType.char), 10, 2, 43)
def mJ2_getChar_3b067 : mI := (yJ2_getChar_3b067, cJ2_getChar_3b067, 2, (some FieldType.char), 12, 1, 20)
def mJ2_length_9d52b : mI := (yJ2_length_9d52b, cJ2_length_9d52b, 1, (some FieldType.int), 12, 0, 0)
def mJ2_charAt_3b067 : mI := (yJ2_charAt_3b067, cJ2_charAt_3b067, 2, (some FieldType.char), 12, 3, 64)
def mJ2_checkIndex_2214a : mI := (yJ2_checkIndex_2214a, cJ2_checkIndex_2214a, 2, (none : Option FieldType), 12, 2, 43)
def mJ3_checkIndex_8e157 : mI := (yJ3_checkIndex_8e157, cJ3_checkIndex_8e157, 3, (some FieldType.int), 11, 0, 0)
def mL_law : mI := (yL_law, cL_law, 4, (some .boolean), 13, 12, 438)
def mTab : List (Nat × Nat × (Nat × Nat × mI)) := [(1, 43, (1, 1, mX1_hasFrame)), (1, 47, (0, 3, mX2_worth)), (1, 53, (1, 1, mX1_worthOf)), (1, 57, (0, 3, mX2_soldFor)), (1, 60, (1, 1, mX1_worthOutOf)), (1, 63, (1, 0, mX1_framesAtHome)), (1, 67, (0, 1, mJ6_bitCount_0f7a4)), (1, 72, (1, 1, mX1_soldFor)), (1, 74, (1, 2, mX1_dueFromFirst)), (1, 78, (1, 3, mX1_pay)), (1, 82, (1, 2, mX1_swapViews)), (1, 95, (0, 3, mX2_fineBehind)), (2, 9, (0, 1, mX2_isKind)), (2, 31, (0, 1, mX2_seaLight)), (2, 35, (0, 1, mX2_streetLife)), (2, 38, (0, 1, mX0_hourOfDay)), (2, 43, (0, 1, mX0_isSpring)), (2, 46, (0, 2, mX2_wears)), (2, 55, (0, 3, mX2_worth)), (2, 59, (0, 3, mX2_fineBehind)), (4, 31, (1, 0, mX4_advance)), (4, 34, (1, 1, mX4_readItem)), (4, 38, (1, 0, mX4_kindHere)), (4, 42, (0, 1, mX2_isKind)), (4, 48, (1, 2, mX4_readFrame)), (4, 54, (1, 1, mX4_isWord)), (4, 58, (1, 1, mX4_readTrade)), (4, 63, (1, 1, mX4_readMoney)), (4, 71, (1, 1, mX4_isNumberUpTo)), (4, 74, (1, 2, mX1_addFrame)), (4, 86, (1, 2, mX1_swapViews)), (4, 92, (0, 1, mX2_nameOf)), (4, 96, (1, 0, mJ0_length_8abf5)), (4, 100, (1, 1, mJ0_charAt_5068e)), (4, 104, (0, 1, mX4_isLetter)), (4, 107, (1, 0, mX4_passWord)), (4, 110, (0, 1, mX4_isDigit)), (4, 113, (1, 0, mX4_passNumber)), (5, 50, (0, 1, mX5_isOwner)), (5, 55, (0, 3, mX5_isWithin)), (5, 59, (1, 1, mX5_tell)), (5, 66, (1, 1, mX1_framesOwnedBy)), (5, 69, (1, 1, mX1_viewsOwnedBy)), (5, 72, (1, 1, mX1_incomeOf)), (5, 75, (0, 1, mX2_isKind)), (5, 84, (1, 2, mX1_addFrame)), (5, 88, (1, 1, mX1_hasFrame)), (5, 100, (1, 1, mX1_worthOutOf)), (5, 103, (1, 1, mX1_hasView)), (5, 112, (1, 1, mX1_frameShowing)), (5, 115, (1, 1, mX1_worthOf)), (5, 121, (0, 2, mX2_wears)), (5, 124, (1, 1, mX1_soldFor)), (5, 127, (0, 2, mX2_isOrIsUnder)), (5, 131, (1, 2, mX1_canExchange)), (5, 134, (1, 2, mX1_exchange)), (5, 137, (1, 0, mX1_shiftViews)), (5, 140, (1, 1, mX1_become)), (5, 144, (1, 0, mX1_viewsAreHome)), (5, 148, (1, 0, mX1_exchangesTillHome)), (5, 152, (1, 0, mX1_passHour)), (5, 155, (1, 0, mX1_moneyInAll)), (5, 158, (0, 1, mX0_hourOfDay)), (5, 163, (0, 1, mX0_isSpring)), (5, 166, (1, 0, mX1_framesAtHome)), (5, 169, (1, 0, mX1_fineInAll)), (5, 172, (1, 1, mX5_foresee)), (5, 176, (1, 2, mX5_moneyForeseen)), (5, 180, (0, 4, mX2_worthInAll)), (5, 184, (1, 1, mX5_costOfDrawing)), (5, 187, (1, 1, mX4_hasRoomFor)), (5, 190, (1, 2, mX4_append)), (5, 197, (1, 0, mX4_clear)), (5, 200, (1, 1, mX4_readOnto)), (5, 204, (0, 1, mX5_isSheet)), (5, 207, (1, 2, mX3_begin)), (5, 213, (1, 0, mX3_isMissing)), (5, 220, (1, 2, mX3_put)), (5, 227, (1, 2, mX3_hasRange)), (5, 238, (1, 3, mX5_foreseeWithout)), (5, 241, (1, 4, mX5_fits)), (5, 245, (1, 0, mX1_curtainsDrawn)), (5, 254, (0, 3, mX2_worth)), (5, 258, (0, 3, mX2_fineBehind)), (6, 37, (1, 1, mX6_finds)), (6, 41, (0, 3, mX6_in)), (6, 45, (1, 0, mX6_clock)), (6, 49, (1, 2, mX6_it)), (6, 53, (1, 0, mX6_isSpring)), (6, 57, (1, 2, mX6_about)), (6, 60, (1, 1, mX6_worth)), (6, 63, (0, 1, mX6_isOwner)), (6, 68, (1, 2, mX6_becomes)), (6, 71, (1, 1, mX6_worthOut)), (6, 75, (1, 4, mX6_comesAs)), (6, 79, (1, 1, mX6_isFrame)), (6, 82, (1, 1, mX6_frameWith)), (6, 85, (1, 1, mX6_wears)), (6, 88, (1, 1, mX6_dear)), (6, 92, (0, 3, mX6_held)), (6, 96, (1, 2, mX6_payer)), (6, 99, (1, 2, mX6_price)), (6, 102, (1, 2, mX6_earns)), (6, 106, (1, 2, mX6_changes)), (6, 109, (1, 2, mX6_canTrade)), (6, 113, (1, 2, mX6_trades)), (6, 117, (1, 0, mX6_shiftsOnce)), (6, 120, (1, 0, mX6_thinks)), (6, 123, (1, 0, mX6_atHome)), (6, 126, (1, 0, mX6_putsBack)), (6, 129, (1, 0, mX6_goes)), (6, 132, (1, 1, mX6_goesFor)), (6, 136, (1, 0, mX6_allMoney)), (6, 139, (1, 0, mX6_allFine)), (6, 142, (0, 2, mX6_copyAll)), (6, 146, (1, 2, mX6_hasOn)), (6, 149, (1, 1, mX6_orNone)), (6, 152, (1, 2, mX6_worthIn)), (6, 168, (1, 2, mX6_isName)), (6, 171, (1, 3, mX6_isByte)), (6, 181, (1, 0, mX6_wordHere)), (6, 188, (1, 0, mX6_reads)), (6, 191, (1, 1, mX6_passes)), (6, 194, (1, 2, mX6_number)), (6, 197, (1, 4, mX6_perhaps)), (6, 200, (1, 0, mX6_frameItem)), (6, 203, (1, 0, mX6_tradeItem)), (6, 206, (1, 0, mX6_item)), (6, 209, (0, 1, mX6_isSheet)), (6, 214, (1, 1, mX6_notThere)), (6, 217, (0, 2, mX6_cutTo)), (6, 221, (1, 5, mX6_notCopied)), (6, 225, (1, 2, mX6_isBook)), (6, 231, (1, 0, mX6_drawnOnes)), (9, 335, (1, 0, mJ0_coder_7d493)), (9, 492, (1, 0, mJ0_isLatin1_aae02)), (9, 495, (0, 2, mJ1_charAt_3b067)), (9, 498, (0, 2, mJ2_charAt_3b067)), (9, 1059, (0, 3, mJ3_checkIndex_8e157)), (10, 9, (0, 2, mJ0_checkIndex_df160)), (12, 48, (0, 1, mJ2_length_9d52b)), (12, 67, (0, 2, mJ2_checkIndex_2214a)), (12, 71, (0, 2, mJ2_getChar_3b067)), (12, 414, (0, 2, mJ0_checkIndex_df160)), (13, 13, (1, 2, mX5_money)), (13, 17, (1, 2, mX6_money)), (13, 18, (1, 2, mX5_ownerOf)), (13, 21, (1, 2, mX6_ownerOf)), (13, 22, (1, 2, mX5_frame)), (13, 25, (1, 2, mX6_frame)), (13, 26, (1, 2, mX5_frameOf)), (13, 29, (1, 2, mX6_frameOf)), (13, 30, (1, 3, mX5_set)), (13, 34, (1, 3, mX6_set)), (13, 35, (1, 2, mX5_of)), (13, 38, (1, 2, mX6_of)), (13, 39, (1, 2, mX5_fine)), (13, 42, (1, 2, mX6_fine)), (13, 43, (1, 2, mX5_turn)), (13, 46, (1, 2, mX6_turn)), (13, 47, (1, 2, mX5_as)), (13, 50, (1, 2, mX6_as)), (13, 51, (1, 2, mX5_trade)), (13, 54, (1, 2, mX6_trade)), (13, 55, (1, 0, mX5_shift)), (13, 59, (1, 0, mX6_shift)), (13, 60, (1, 0, mX5_back)), (13, 63, (1, 0, mX6_back)), (13, 64, (1, 2, mX5_stone)), (13, 67, (1, 2, mX6_stone)), (13, 68, (1, 0, mX5_home)), (13, 71, (1, 0, mX6_home)), (13, 72, (1, 1, mX5_hours)), (13, 76, (1, 1, mX6_hours)), (13, 77, (1, 1, mX5_now)), (13, 80, (1, 1, mX6_now)), (13, 81, (1, 2, mX5_on)), (13, 84, (1, 2, mX6_on)), (13, 85, (1, 3, mX5_then)), (13, 88, (1, 3, mX6_then)), (13, 89, (1, 2, mX5_rich)), (13, 92, (1, 2, mX6_rich)), (13, 93, (1, 2, mX5_best)), (13, 96, (1, 2, mX6_best)), (13, 97, (1, 2, mX5_kind)), (13, 100, (1, 2, mX6_kind)), (13, 101, (1, 2, mX5_shifts)), (13, 104, (1, 2, mX6_shifts)), (13, 105, (1, 4, mX5_least)), (13, 109, (1, 4, mX6_least)), (13, 110, (1, 1, mX5_draw)), (13, 113, (1, 1, mX6_draw)), (13, 114, (1, 1, mX5_richest)), (13, 117, (1, 1, mX6_richest)), (13, 118, (1, 2, mX5_feed)), (13, 121, (1, 2, mX6_feed)), (13, 122, (1, 0, mX5_wipe)), (13, 125, (1, 0, mX6_wipe)), (13, 126, (1, 0, mX5_city)), (13, 129, (1, 0, mX6_city)), (13, 130, (1, 3, mX5_sheet)), (13, 133, (1, 3, mX6_sheet)), (13, 136, (1, 3, mX5_write)), (13, 140, (1, 3, mX6_write)), (13, 141, (1, 5, mX5_copy)), (13, 145, (1, 5, mX6_copy)), (13, 146, (1, 1, mX5_lays)), (13, 149, (1, 1, mX6_lays)), (13, 150, (1, 2, mX5_book)), (13, 153, (1, 2, mX6_book)), (13, 154, (1, 3, mX5_read)), (13, 157, (1, 3, mX6_read)), (13, 158, (1, 0, mX5_image)), (13, 161, (1, 0, mX6_image)), (13, 162, (1, 0, mX5_undo)), (13, 165, (1, 0, mX6_undo)), (13, 166, (1, 0, mX5_tear)), (13, 169, (1, 0, mX6_tear)), (13, 170, (1, 1, mX5_count)), (13, 173, (1, 1, mX6_count)), (13, 174, (1, 1, mX5_status)), (13, 177, (1, 1, mX6_status))]
def xTab : List (Nat × Nat × Nat) := [(1, 86, 2), (1, 92, 0), (2, 50, 1), (4, 116, 0), (5, 249, 0)]
def aTab : List (Nat × Nat × Unit) := [(1, 37, ()), (5, 230, ())]
def fTab : List (Nat × Nat × (Nat × Nat)) := [(1, 9, (1, 0)), (1, 15, (1, 1)), (1, 18, (1, 2)), (1, 22, (1, 3)), (1, 25, (1, 4)), (1, 28, (1, 5)), (1, 31, (1, 6)), (1, 34, (1, 7)), (3, 9, (3, 0)), (3, 15, (3, 1)), (3, 18, (3, 2)), (4, 9, (4, 0)), (4, 15, (4, 1)), (4, 19, (4, 2)), (4, 22, (4, 3)), (4, 25, (4, 4)), (4, 28, (4, 5)), (4, 66, (1, 1)), (4, 80, (1, 7)), (4, 84, (1, 4)), (4, 90, (1, 2)), (5, 10, (5, 0)), (5, 16, (5, 1)), (5, 19, (5, 2)), (5, 22, (5, 3)), (5, 29, (5, 4)), (5, 35, (5, 5)), (5, 39, (5, 6)), (5, 43, (5, 7)), (5, 46, (5, 8)), (5, 63, (1, 2)), (5, 80, (1, 1)), (5, 91, (1, 3)), (5, 94, (1, 4)), (5, 97, (1, 5)), (5, 106, (1, 6)), (5, 109, (1, 7)), (5, 118, (1, 0)), (5, 194, (4, 1)), (5, 210, (3, 1)), (5, 216, (3, 2)), (5, 224, (3, 0)), (6, 9, (6, 0)), (6, 13, (6, 1)), (6, 16, (6, 2)), (6, 19, (6, 4)), (6, 22, (6, 5)), (6, 25, (6, 12)), (6, 28, (6, 13)), (6, 31, (6, 14)), (6, 155, (6, 6)), (6, 162, (6, 8)), (6, 165, (6, 9)), (6, 175, (6, 10)), (6, 178, (6, 7)), (6, 184, (6, 11)), (6, 228, (6, 3))]
def gTab : List (Nat × Nat × Value) := [(2, 13, .ref 140), (6, 159, .ref 141), (9, 38, .int 1), (9, 1053, .ref 150)]
def sfTab : List (Nat × Nat × Nat) := [(9, 9, 0), (9, 15, 1)]
def cTab : List (Nat × Nat × Int32) := [(1, 91, (99999)), (5, 54, (99999)), (5, 248, (-1000000001)), (6, 35, (-1000000001)), (6, 36, (-1000000004)), (6, 67, (99999)), (6, 74, (-1000000002)), (6, 91, (-1000000003)), (6, 116, (-1000000005)), (6, 212, (-1000000007)), (6, 213, (-1000000006)), (7, 265, (1431655765)), (7, 266, (858993459)), (7, 267, (252645135))]
def clTab : List (Nat × Nat × Int64) := [(5, 236, (99)), (13, 134, (4294967295))]
def stTab : List (Nat × Nat × Nat) := [(2, 17, 0), (2, 19, 1), (2, 21, 2), (2, 23, 3), (2, 25, 4), (2, 27, 5), (2, 29, 6), (4, 52, 7), (4, 61, 8), (4, 78, 9), (4, 82, 10)]
def byT : List (List Int32) := [[121, 97, 114, 100], [115, 101, 97], [115, 116, 114, 101, 101, 116], [115, 107, 121], [115, 116, 101, 101, 112, 108, 101], [103, 97, 114, 100, 101, 110], [], [116, 114, 97, 100, 101], [109, 111, 110, 101, 121], [102, 105, 110, 101], [99, 117, 114, 116, 97, 105, 110]]
def abT : List Int32 := [-1, 0, 0, 0, 1, 2]
def naT : List Int32 := [121, 97, 114, 100, 0, 0, 0, 115, 101, 97, 0, 0, 0, 0, 115, 116, 114, 101, 101, 116, 0, 115, 107, 121, 0, 0, 0, 0, 115, 116, 101, 101, 112, 108, 101, 103, 97, 114, 100, 101, 110, 0, 102, 105, 110, 101, 0, 0, 0, 99, 117, 114, 116, 97, 105, 110, 116, 114, 97, 100, 101, 0, 0, 109, 111, 110, 101, 121, 0, 0]
abbrev Cf : Type := Nat × List Value × List Value × Hp
abbrev Rt : Type := Option Value × Hp
abbrev Ca : Type := mI × List Value × List Value
abbrev St : Type := Option (Cf ⊕ (Rt ⊕ Ca))
def pN (pc : Nat) (L st : List Value) (h : Hp) : St := some (.inl (pc, L, st, h))
def pR (v : Option Value) (h : Hp) : St := some (.inr (.inl (v, h)))
def ldI (L : List Value) (i pc : Nat) (st : List Value) (h : Hp) : St := match L[i]? with
  | some (.int x) => pN pc L (.int x :: st) h
  | _ => none
def ldJ (L : List Value) (i pc : Nat) (st : List Value) (h : Hp) : St := match L[i]? with
  | some (.long x) => pN pc L (.long x :: st) h
  | _ => none
def ldR (L : List Value) (i pc : Nat) (st : List Value) (h : Hp) : St := match L[i]? with
  | some (.ref x) => if x < 150 then pN pc L (.ref x :: st) h else none
  | _ => none
def toI (L : List Value) (i pc : Nat) (st : List Value) (h : Hp) : St := match st with
  | .int x :: r => if i < L.length ∧ bef L i = true then pN pc (L.set i (.int x)) r h else none
  | _ => none
def toR (L : List Value) (i pc : Nat) (st : List Value) (h : Hp) : St := match st with
  | .ref x :: r => if i < L.length ∧ bef L i = true ∧ x < 150 then pN pc (L.set i (.ref x)) r h else none
  | _ => none
def toJ (L : List Value) (i pc : Nat) (st : List Value) (h : Hp) : St := match st with
  | .long x :: r => if i + 1 < L.length ∧ bef L i = true then pN pc ((L.set i (.long x)).set (i + 1) .null) r h else none
  | _ => none
def incI (L : List Value) (i : Nat) (k : Int) (pc : Nat) (st : List Value) (h : Hp) : St := match L[i]? with
  | some (.int x) => if i < L.length ∧ bef L i = true then pN pc (L.set i (.int (x + Int32.ofInt k))) st h else none
  | _ => none
def op2 (f : Int32 → Int32 → Int32) (pc : Nat) (L st : List Value) (h : Hp) : St := match st with
  | .int y :: .int x :: r => pN pc L (.int (f x y) :: r) h
  | _ => none
def op2d (f : Int32 → Int32 → Int32) (pc : Nat) (L st : List Value) (h : Hp) : St := match st with
  | .int y :: .int x :: r => if y = 0 then none else pN pc L (.int (f x y) :: r) h
  | _ => none
def op1 (f : Int32 → Int32) (pc : Nat) (L st : List Value) (h : Hp) : St := match st with
  | .int x :: r => pN pc L (.int (f x) :: r) h
  | _ => none
def jmp (o : Option Nat) (L st : List Value) (h : Hp) : St := match o with
  | some t => pN t L st h
  | none => none
def br1 (c : Jvm.ClassFile.Cond) (off : Int) (pc : Nat) (L st : List Value) (h : Hp) : St := match st with
  | .int x :: r => match pT pc off with
    | some t => if pC c x 0 = true then pN t L r h else pN (pc + 3) L r h
    | none => none
  | _ => none
def br2 (c : Jvm.ClassFile.Cond) (off : Int) (pc : Nat) (L st : List Value) (h : Hp) : St := match st with
  | .int y :: .int x :: r => match pT pc off with
    | some t => if pC c x y = true then pN t L r h else pN (pc + 3) L r h
    | none => none
  | _ => none
def pGet (c k a : Nat) (h : Hp) : Option Value := match lk fTab c k with
  | some (ci, f) => if cK a = (1, ci, 0) then some (if fO ci f < 2 then .int (h.1 a f) else .ref (a + (fO ci f - 2))) else none
  | none => match lk sfTab c k with
    | some 0 => if 100 ≤ a ∧ a < 111 then some (.ref (a + 20)) else none
    | some 1 => if 100 ≤ a ∧ a < 111 then some (.int 0) else none
    | _ => none
def getf (c k pc : Nat) (L st : List Value) (h : Hp) : St := match st with
  | .ref a :: r => match pGet c k a h with
    | some v => pN (pc + 3) L (v :: r) h
    | none => none
  | _ => none
def putf (c k pc : Nat) (L st : List Value) (h : Hp) : St := match st with
  | .int v :: .ref a :: r => match lk fTab c k with
    | some (ci, f) => if cK a = (1, ci, 0) ∧ (fO ci f = 0 ∨ (fO ci f = 1 ∧ (v = 0 ∨ v = 1))) then pN (pc + 3) L r (sI h a f v) else none
    | none => none
  | _ => none
def iald (E : En) (c pc : Nat) (L st : List Value) (h : Hp) : St := match st with
  | .int i :: .ref a :: r => if a = 140 then (if pIn i 6 = true then pN pc L (.int (abT.getD i.toNatClampNeg 0) :: r) h else none)
    else if a = 141 then (if pIn i 70 = true then pN pc L (.int (naT.getD i.toNatClampNeg 0) :: r) h else none)
    else if a = 142 then (if c = 13 ∧ pIn i E.2 = true then pN pc L (.int (E.1 i.toNatClampNeg) :: r) h else none)
    else if cK a = (2, (cK a).2.1, 0) ∧ pIn i (cK a).2.1 = true then pN pc L (.int (h.2.1 a i.toNatClampNeg) :: r) h else none
  | _ => none
def iast (pc : Nat) (L st : List Value) (h : Hp) : St := match st with
  | .int x :: .int i :: .ref a :: r => if cK a = (2, (cK a).2.1, 0) ∧ pIn i (cK a).2.1 = true then pN pc L r (sA h a (upd (h.2.1 a) i.toNatClampNeg x)) else none
  | _ => none
def lald (pc : Nat) (L st : List Value) (h : Hp) : St := match st with
  | .int i :: .ref a :: r => if cK a = (3, (cK a).2.1, 0) ∧ pIn i (cK a).2.1 = true then pN pc L (.long (h.2.2 a i.toNatClampNeg) :: r) h else none
  | _ => none
def last (pc : Nat) (L st : List Value) (h : Hp) : St := match st with
  | .long x :: .int i :: .ref a :: r => if cK a = (3, (cK a).2.1, 0) ∧ pIn i (cK a).2.1 = true then pN pc L r (sL h a (vp_updL (h.2.2 a) i.toNatClampNeg x)) else none
  | _ => none
def rald (pc : Nat) (L st : List Value) (h : Hp) : St := match st with
  | .int i :: .ref a :: r => if cK a = (4, 4, 25) ∧ pIn i 4 = true then pN pc L (.ref (25 + i.toNatClampNeg) :: r) h else none
  | _ => none
def bald (pc : Nat) (L st : List Value) (h : Hp) : St := match st with
  | .int i :: .ref a :: r => if (120 ≤ a ∧ a < 131) ∧ pIn i (byT.getD (a - 120) []).length = true then pN pc L (.int ((byT.getD (a - 120) []).getD i.toNatClampNeg 0) :: r) h else none
  | _ => none
def alen (E : En) (c pc : Nat) (L st : List Value) (h : Hp) : St := match st with
  | .ref a :: r => if a = 142 then (if c = 13 then pN pc L (.int (nI E.2) :: r) h else none)
    else if 120 ≤ a ∧ a < 131 then pN pc L (.int (nI (byT.getD (a - 120) []).length) :: r) h else none
  | _ => none
def cpy (M : mI) (pc : Nat) (L st : List Value) (h : Hp) : St := match st with
  | .int n :: .int dp :: .ref a :: .int sp :: .ref q :: r =>
    if (¬ sp < 0 ∧ ¬ dp < 0 ∧ ¬ n < 0) ∧ sp.toNatClampNeg + n.toNatClampNeg ≤ (cK q).2.1 ∧ dp.toNatClampNeg + n.toNatClampNeg ≤ (cK a).2.1 ∧ 1 ≤ M.f ∧ (r.map fun v => v.category).sum + 20 ≤ M.w then
      (if cK q = (2, (cK q).2.1, 0) ∧ cK a = (2, (cK a).2.1, 0) then pN (pc + 3) L r (sA h a (va_cpy (h.2.1 q) (h.2.1 a) sp.toNatClampNeg dp.toNatClampNeg n.toNatClampNeg))
      else if cK q = (3, (cK q).2.1, 0) ∧ cK a = (3, (cK a).2.1, 0) then pN (pc + 3) L r (sL h a (va_cpy (h.2.2 q) (h.2.2 a) sp.toNatClampNeg dp.toNatClampNeg n.toNatClampNeg)) else none)
    else none
  | _ => none
/-- the room that a call wants -/
def argL : List Value → List Value
  | [] => []
  | v :: r => if v.category = 2 then v :: .null :: argL r else v :: argL r
def fitsR (M M' : mI) (as r : List Value) : Bool := decide (M'.f + 1 ≤ M.f) && (decide (8 + (M'.n + 11) + M'.w ≤ M.w) && (decide ((r.map fun v => v.category).sum ≤ 8) && decide ((argL as).length ≤ M'.n)))
def mth (M : mI) (o pc : Nat) (L st : List Value) (h : Hp) : St := match o with
  | 0 => (match st with
    | .int y :: .int x :: r => if 1 ≤ M.f ∧ (r.map fun v => v.category).sum + 13 ≤ M.w then pN (pc + 3) L (.int (if y < x then y else x) :: r) h else none
    | _ => none)
  | 1 => (match st with
    | .int y :: .int x :: r => if 1 ≤ M.f ∧ (r.map fun v => v.category).sum + 13 ≤ M.w then pN (pc + 3) L (.int (if x < y then y else x) :: r) h else none
    | _ => none)
  | _ => (match st with
    | .int x :: r => if 1 ≤ M.f ∧ (r.map fun v => v.category).sum + 13 ≤ M.w then pN (pc + 3) L (.int (if 0 ≤ x then x else 0 - x) :: r) h else none
    | _ => none)
def cS (M : mI) (k pc : Nat) (L st : List Value) (h : Hp) : St := match lk aTab M.c k with
  | some _ => cpy M pc L st h
  | none => match lk xTab M.c k with
  | some o => mth M o pc L st h
  | none => match lk mTab M.c k with
    | some (0, na, M') => if na ≤ st.length ∧ fitsR M M' (st.take na).reverse (st.drop na) = true then some (.inr (.inr (M', (st.take na).reverse, st.drop na))) else none
    | _ => none
def rcv (b : Nat) (M' : mI) : Bool := decide (cK b = (1, M'.c, 0)) || (decide (M'.c = 9) && (decide (100 ≤ b) && decide (b < 111)))
def cV (M : mI) (k : Nat) (st : List Value) : St := match lk mTab M.c k with
  | some (1, na, M') => match st.drop na with
    | .ref b :: r => if na ≤ st.length ∧ rcv b M' = true ∧ fitsR M M' (.ref b :: (st.take na).reverse) r = true then some (.inr (.inr (M', .ref b :: (st.take na).reverse, r))) else none
    | _ => none
  | _ => none
def rtI (M : mI) (st : List Value) (h : Hp) : St := match st with
  | [.int v] => match M.r with
    | some .int => pR (some (.int v)) h
    | some .boolean => if v = 0 ∨ v = 1 then pR (some (.int v)) h else none
    | some .char => if narrow .char (.int v) = .int v then pR (some (.int v)) h else none
    | some .byte => if narrow .byte (.int v) = .int v then pR (some (.int v)) h else none
    | _ => none
  | _ => none
def rtJ (M : mI) (st : List Value) (h : Hp) : St := match st with
  | [.long v] => if M.r = some .long then pR (some (.long v)) h else none
  | _ => none
def rtR (M : mI) (st : List Value) (h : Hp) : St := match st with
  | [.ref a] => if a < 150 ∧ M.r = some (.object "java/lang/String") then pR (some (.ref a)) h else none
  | _ => none
def rtV (M : mI) (st : List Value) (h : Hp) : St := match st with
  | [] => if M.r = none then pR none h else none
  | _ => none
def ldk (M : mI) (k pc : Nat) (L st : List Value) (h : Hp) : St := match lk cTab M.c k with
  | some v => pN pc L (.int v :: st) h
  | none => none
def ldkS (M : mI) (k pc : Nat) (L st : List Value) (h : Hp) : St := match lk cTab M.c k with
  | some v => pN pc L (.int v :: st) h
  | none => match lk stTab M.c k with
    | some j => pN pc L (.ref (100 + j) :: st) h
    | none => none
def tsw (pc : Nat) (d lo hi : Int) (offs : Array Int) (L st : List Value) (h : Hp) : St := match st with
  | .int x :: r => if x.toInt < lo ∨ hi < x.toInt then jmp (pT pc d) L r h else match offs[(x.toInt - lo).toNat]? with
    | some o => jmp (pT pc o) L r h
    | none => none
  | _ => none
def lsw (pc : Nat) (d : Int) (ps : Array (Int × Int)) (L st : List Value) (h : Hp) : St := match st with
  | .int x :: r => if (ps.toList.zip (ps.toList.drop 1)).all (fun (a, next) => a.1 < next.1) = true then jmp (pT pc (Op.lookupswitch.offset ps.toList d x.toInt)) L r h else none
  | _ => none
def stk (f : List Value → Option (List Value)) (pc : Nat) (L st : List Value) (h : Hp) : St := match f st with
  | some st' => pN pc L st' h
  | none => none
def fdup : List Value → Option (List Value)
  | v :: r => if cat1 v = true then some (v :: v :: r) else none
  | _ => none
def fdup2 : List Value → Option (List Value)
  | v :: w :: r => if cat1 v = true ∧ cat1 w = true then some (v :: w :: v :: w :: r) else none
  | _ => none
def fpop : List Value → Option (List Value)
  | v :: r => if cat1 v = true then some r else none
  | _ => none
def fi2l : List Value → Option (List Value)
  | .int x :: r => some (.long x.toInt64 :: r)
  | _ => none
def fl2i : List Value → Option (List Value)
  | .long x :: r => some (.int x.toInt32 :: r)
  | _ => none
def flcmp : List Value → Option (List Value)
  | .long y :: .long x :: r => some (.int (lg_cmp x y) :: r)
  | _ => none
def fland : List Value → Option (List Value)
  | .long y :: .long x :: r => some (.long (x &&& y) :: r)
  | _ => none
def flor : List Value → Option (List Value)
  | .long y :: .long x :: r => some (.long (x ||| y) :: r)
  | _ => none
def flshl : List Value → Option (List Value)
  | .int y :: .long x :: r => some (.long (x <<< (y.toInt64 &&& 63)) :: r)
  | _ => none
def stI (E : En) (M : mI) (pc : Nat) (L st : List Value) (h : Hp) (i : Instr) (ln : Nat) : St := match i with
  | .aload_n k => if ln = 1 then ldR L k (pc + 1) st h else none
  | .aload k => if ln = 2 then ldR L k (pc + 2) st h else none
  | .iload_n k => if ln = 1 then ldI L k (pc + 1) st h else none
  | .iload k => if ln = 2 then ldI L k (pc + 2) st h else none
  | .lload_n k => if ln = 1 then ldJ L k (pc + 1) st h else none
  | .lload k => if ln = 2 then ldJ L k (pc + 2) st h else none
  | .istore_n k => if ln = 1 then toI L k (pc + 1) st h else none
  | .istore k => if ln = 2 then toI L k (pc + 2) st h else none
  | .astore_n k => if ln = 1 then toR L k (pc + 1) st h else none
  | .astore k => if ln = 2 then toR L k (pc + 2) st h else none
  | .lstore_n k => if ln = 1 then toJ L k (pc + 1) st h else none
  | .lstore k => if ln = 2 then toJ L k (pc + 2) st h else none
  | .iinc k z => if ln = 3 then incI L k z (pc + 3) st h else none
  | .iconst z => if ln = 1 then pN (pc + 1) L (.int (Int32.ofInt z) :: st) h else none
  | .bipush z => if ln = 2 then pN (pc + 2) L (.int (Int8.ofInt z).toInt32 :: st) h else none
  | .sipush z => if ln = 3 then pN (pc + 3) L (.int (Int16.ofInt z).toInt32 :: st) h else none
  | .lconst k => if ln = 1 then pN (pc + 1) L (.long (Int64.ofNat k) :: st) h else none
  | .ldc k => if ln = 2 then ldkS M k (pc + 2) L st h else none
  | .ldc_w k => if ln = 3 then ldk M k (pc + 3) L st h else none
  | .ldc2_w k => if ln = 3 then (match lk clTab M.c k with
    | some v => pN (pc + 3) L (.long v :: st) h
    | none => none) else none
  | .iadd => if ln = 1 then op2 (fun x y => x + y) (pc + 1) L st h else none
  | .isub => if ln = 1 then op2 (fun x y => x - y) (pc + 1) L st h else none
  | .imul => if ln = 1 then op2 (fun x y => x * y) (pc + 1) L st h else none
  | .iand => if ln = 1 then op2 (fun x y => x &&& y) (pc + 1) L st h else none
  | .ior => if ln = 1 then op2 (fun x y => x ||| y) (pc + 1) L st h else none
  | .ishl => if ln = 1 then op2 (fun x y => x <<< (y &&& 31)) (pc + 1) L st h else none
  | .ishr => if ln = 1 then op2 (fun x y => x >>> (y &&& 31)) (pc + 1) L st h else none
  | .iushr => if ln = 1 then op2 (fun x y => (x.toUInt32 >>> (y.toUInt32 &&& Int32.toUInt32 31)).toInt32) (pc + 1) L st h else none
  | .idiv => if ln = 1 then op2d (fun x y => x / y) (pc + 1) L st h else none
  | .irem => if ln = 1 then op2d (fun x y => x - x / y * y) (pc + 1) L st h else none
  | .ineg => if ln = 1 then op1 (fun x => -x) (pc + 1) L st h else none
  | .i2b => if ln = 1 then op1 (fun x => x.toInt8.toInt32) (pc + 1) L st h else none
  | .i2s => if ln = 1 then op1 (fun x => x.toInt16.toInt32) (pc + 1) L st h else none
  | .i2c => if ln = 1 then op1 (fun x => (x.toUInt32 % 65536).toInt32) (pc + 1) L st h else none
  | .dup => if ln = 1 then stk fdup (pc + 1) L st h else none
  | .dup2 => if ln = 1 then stk fdup2 (pc + 1) L st h else none
  | .pop => if ln = 1 then stk fpop (pc + 1) L st h else none
  | .i2l => if ln = 1 then stk fi2l (pc + 1) L st h else none
  | .l2i => if ln = 1 then stk fl2i (pc + 1) L st h else none
  | .lcmp => if ln = 1 then stk flcmp (pc + 1) L st h else none
  | .land => if ln = 1 then stk fland (pc + 1) L st h else none
  | .lor => if ln = 1 then stk flor (pc + 1) L st h else none
  | .lshl => if ln = 1 then stk flshl (pc + 1) L st h else none
  | .ifCond c off => if ln = 3 then br1 c off pc L st h else none
  | .if_icmp c off => if ln = 3 then br2 c off pc L st h else none
  | .goto off => if ln = 3 then jmp (pT pc off) L st h else none
  | .tableswitch d lo hi offs => tsw pc d lo hi offs L st h
  | .lookupswitch d ps => lsw pc d ps L st h
  | .getfield k => if ln = 3 then getf M.c k pc L st h else none
  | .putfield k => if ln = 3 then putf M.c k pc L st h else none
  | .getstatic k => if ln = 3 then (match lk gTab M.c k with
    | some v => pN (pc + 3) L (v :: st) h
    | none => none) else none
  | .iaload => if ln = 1 then iald E M.c (pc + 1) L st h else none
  | .iastore => if ln = 1 then iast (pc + 1) L st h else none
  | .laload => if ln = 1 then lald (pc + 1) L st h else none
  | .lastore => if ln = 1 then last (pc + 1) L st h else none
  | .aaload => if ln = 1 then rald (pc + 1) L st h else none
  | .baload => if ln = 1 then bald (pc + 1) L st h else none
  | .arraylength => if ln = 1 then alen E M.c (pc + 1) L st h else none
  | .invokestatic k => if ln = 3 then cS M k pc L st h else none
  | .invokevirtual k => if ln = 3 then cV M k st else none
  | .ireturn => if ln = 1 then rtI M st h else none
  | .lreturn => if ln = 1 then rtJ M st h else none
  | .areturn => if ln = 1 then rtR M st h else none
  | .return_ => if ln = 1 then rtV M st h else none
  | _ => none
def stp (E : En) (M : mI) (pc : Nat) (L st : List Value) (h : Hp) : St := match decode M.b pc with
  | .ok (i, ln) => stI E M pc L st h i ln
  | .error _ => none
/-- the slots with which a method begins -/
def enL (M : mI) (as : List Value) : List Value := argL as ++ List.replicate (M.n - (argL as).length) .null
def run (E : En) : Nat → mI → Nat → List Value → List Value → Hp → Option Rt
  | 0, _, _, _, _, _ => none
  | n + 1, M, pc, L, st, h => match stp E M pc L st h with
    | none => none
    | some (.inl q) => run E n M q.1 q.2.1 q.2.2.1 q.2.2.2
    | some (.inr (.inl r)) => some r
    | some (.inr (.inr q)) => match run E n q.1 0 (enL q.1 q.2.1) [] h with
      | none => none
      | some r => run E n M (pc + 3) L (r.1.toList ++ q.2.2) r.2
theorem run_mono (E : En) : ∀ (n : Nat) (M : mI) (pc : Nat) (L st : List Value) (h : Hp) (r : Rt), run E n M pc L st h = some r → run E (n + 1) M pc L st h = some r
  | 0, M, pc, L, st, h, r, e => by cases e
  | n + 1, M, pc, L, st, h, r, e => by
    rw [run] at e ⊢
    cases hs : stp E M pc L st h with
    | none => rw [hs] at e; cases e
    | some q =>
      rw [hs] at e
      rcases q with q | q | q
      · exact run_mono E n _ _ _ _ _ _ e
      · exact e
      · simp only at e ⊢
        cases hc : run E n q.1 0 (enL q.1 q.2.1) [] h with
        | none => rw [hc] at e; cases e
        | some u =>
          rw [hc] at e
          rw [run_mono E n _ _ _ _ _ _ hc]
          exact run_mono E n _ _ _ _ _ _ e
theorem run_le (E : En) {n k : Nat} {M : mI} {pc : Nat} {L st : List Value} {h : Hp} {r : Rt} (hk : n ≤ k) (e : run E n M pc L st h = some r) : run E k M pc L st h = some r := by
  induction k with
  | zero => rw [Nat.le_zero.mp hk] at e; exact e
  | succ k ih =>
    rcases Nat.lt_or_ge n (k + 1) with q | q
    · exact run_mono E k _ _ _ _ _ _ (ih (Nat.le_of_lt_succ q))
    · rw [Nat.le_antisymm hk q] at e; exact e
/-- from here the method ends, and so -/
def Ev (E : En) (M : mI) (pc : Nat) (L st : List Value) (h : Hp) (Q : Option Value → Hp → Prop) : Prop := ∃ (n : Nat) (v : Option Value) (h' : Hp), run E n M pc L st h = some (v, h') ∧ Q v h'
theorem ev_nx {E : En} {M : mI} {pc : Nat} {L st : List Value} {h : Hp} {Q : Option Value → Hp → Prop} {pc' : Nat} {L' st' : List Value} {h' : Hp} (e : stp E M pc L st h = pN pc' L' st' h') : Ev E M pc L st h Q = Ev E M pc' L' st' h' Q := by
  apply propext
  constructor
  · rintro ⟨n, v, h2, hr, hq⟩
    cases n with
    | zero => cases hr
    | succ n =>
      rw [run, e] at hr
      exact ⟨n, v, h2, hr, hq⟩
  · rintro ⟨n, v, h2, hr, hq⟩
    refine ⟨n + 1, v, h2, ?_, hq⟩
    rw [run, e]
    exact hr
theorem ev_rt {E : En} {M : mI} {pc : Nat} {L st : List Value} {h : Hp} {Q : Option Value → Hp → Prop} {v : Option Value} {h' : Hp} (e : stp E M pc L st h = pR v h') : Ev E M pc L st h Q = Q v h' := by
  apply propext
  constructor
  · rintro ⟨n, v2, h2, hr, hq⟩
    cases n with
    | zero => cases hr
    | succ n =>
      rw [run, e] at hr
      simp only [pR, Option.some.injEq, Prod.mk.injEq] at hr
      rw [hr.1, hr.2]
      exact hq
  · intro hq
    refine ⟨1, v, h', ?_, hq⟩
    rw [run, e]
    rfl
theorem ev_ca {E : En} {M : mI} {pc : Nat} {L st : List Value} {h : Hp} {Q : Option Value → Hp → Prop} {M' : mI} {as r : List Value} (e : stp E M pc L st h = some (.inr (.inr (M', as, r)))) : Ev E M pc L st h Q = Ev E M' 0 (enL M' as) [] h (fun v h' => Ev E M (pc + 3) L (v.toList ++ r) h' Q) := by
  apply propext
  constructor
  · rintro ⟨n, v, h2, hr, hq⟩
    cases n with
    | zero => cases hr
    | succ n =>
      rw [run, e] at hr
      simp only at hr
      cases hc : run E n M' 0 (enL M' as) [] h with
      | none => rw [hc] at hr; cases hr
      | some u =>
        rw [hc] at hr
        exact ⟨n, u.1, u.2, hc, n, v, h2, hr, hq⟩
  · rintro ⟨n, v, h2, hr, k, v3, h3, hr3, hq⟩
    refine ⟨max n k + 1, v3, h3, ?_, hq⟩
    rw [run, e]
    simp only
    rw [run_le E (Nat.le_max_left n k) hr]
    exact run_le E (Nat.le_max_right n k) hr3
theorem ev_im {E : En} {M : mI} {pc : Nat} {L st : List Value} {h : Hp} {Q Q' : Option Value → Hp → Prop} (e : Ev E M pc L st h Q) (k : ∀ v h', Q v h' → Q' v h') : Ev E M pc L st h Q' := by
  obtain ⟨n, v, h2, hr, hq⟩ := e
  exact ⟨n, v, h2, hr, k _ _ hq⟩
theorem stp_of {E : En} {M : mI} {pc : Nat} {i : Instr} {ln : Nat} (d : decode M.b pc = .ok (i, ln)) (L st : List Value) (h : Hp) : stp E M pc L st h = stI E M pc L st h i ln := by
  unfold stp
  rw [d]
