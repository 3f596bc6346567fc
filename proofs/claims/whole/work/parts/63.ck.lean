/-! what lies in the world before the law's first call: the tables, the strings -/
theorem oR_Z {s : State} {args : Array Value} {C n d : String} {v : Value} {A : Nat → Prop} (hts : ∀ w ∈ lw_tbl, w.before args s = true) (h1 : Cond.laysStatic C n d ∈ lw_tbl) (h2 : Cond.initialized C ∈ lw_tbl) (hv : (Term.static C n d).eval args s none [] s = some v) (hA : ∀ a : Nat, a < s.heap.size → ¬ A a) : va_Z C n d v A s s.heap := va_Zof (hts _ h1) (hts _ h2) hv hA
def tmS (i : Nat) : Term := Term.string (ownN (stTab.getD i (0, 0, 0)).1) (stTab.getD i (0, 0, 0)).2.1
set_option maxRecDepth 100000 in
theorem fm_el : ∀ i : Nat, i < 11 → ∀ j : Nat, j < (List.map List.length byT).getD i 0 → Cond.eq (((tmS i).field "java/lang/String" "value" "[B").elem (Term.int (Int32.ofNat j))) (Term.int ((byT.getD i []).getD j 0)) ∈ flatC (given_1.and narrow_1) := by decide +kernel
set_option maxRecDepth 100000 in
theorem fm_ne : ∀ i : Nat, i < 11 → ∀ j : Nat, j < 11 → i ≠ j → (Cond.not (Cond.eq (tmS i) (tmS j)) ∈ flatC (given_1.and narrow_1)) ∨ (Cond.not (Cond.eq (tmS j) (tmS i)) ∈ flatC (given_1.and narrow_1)) := by decide +kernel
set_option maxRecDepth 100000 in
theorem fm_ab : ∀ j : Nat, j < 6 → Cond.eq ((Term.static "ViewTrades$Kinds" "ABOVE" "[I").elem (Term.int (Int32.ofNat j))) (Term.int (abT.getD j 0)) ∈ flatC (given_1.and narrow_1) := by decide +kernel
set_option maxRecDepth 100000 in
theorem fm_na : ∀ j : Nat, j < 70 → Cond.eq ((Term.static "ViewTradesModel" "NAMES" "[I").elem (Term.int (Int32.ofNat j))) (Term.int (naT.getD j 0)) ∈ flatC (given_1.and narrow_1) := by decide +kernel
theorem st_self : ∀ q ∈ stTab, q.2.2 < 11 ∧ stTab.getD q.2.2 (0, 0, 0) = q := by decide
set_option maxRecDepth 100000 in
theorem st_ref : ∀ q ∈ stTab, Cond.stringRef (ownN q.1) q.2.1 (txT.getD q.2.2 "") ∈ lw_tbl := by decide +kernel
set_option maxRecDepth 100000 in
theorem vk_of {s : State} {args : Array Value} (hgv : (Jvm.Cond.and given_1 narrow_1).before args s = true) {A : Nat → Prop} (hA : ∀ a : Nat, a < s.heap.size → ¬ A a) : ∃ adK adV : Nat → Nat, vk_S 11 (byT.map List.length) byT adK adV A s s.heap ∧ ∀ i : Nat, i < 11 → (tmS i).eval args s none [] s = some (.ref (adK i)) := by
  have hs := flat_of_before _ hgv
  refine vk_Sof (tm := tmS) (args := args) (by decide +kernel) (fun i hi => hs _ ?_) (fun i hi => hs _ ?_) (fun i hi => hs _ ?_) (fun i hi => hs _ ?_) (fun i hi j hj => hs _ (fm_el i hi j hj)) (fun i j hi hj hn => (fm_ne i hi j hj hn).imp (fun q => hs _ q) (fun q => hs _ q)) hA
  · revert i; decide +kernel
  · revert i; decide +kernel
  · revert i; decide +kernel
  · revert i; decide +kernel
set_option maxRecDepth 100000 in
theorem ck_of {s : State} {args : Array Value} (hts : ∀ w ∈ lw_tbl, w.before args s = true) (hgv : (Jvm.Cond.and given_1 narrow_1).before args s = true) : ∃ (adK adV : Nat → Nat) (tA tN : Nat) (vS : Value), vS.category = 1 ∧ ∀ ad : Nat → Nat, (∀ i, i < 11 → ad (100 + i) = adK i) → (∀ i, i < 11 → ad (120 + i) = adV i) → ad 140 = tA → ad 141 = tN → (∀ q, oA ad q → s.heap.size ≤ q) → CKf ad vS (oA ad) s s.heap := by
  have hs := flat_of_before _ hgv
  have hA : ∀ a : Nat, a < s.heap.size → ¬ (fun q : Nat => s.heap.size ≤ q) a := fun a h => Nat.not_le.mpr h
  obtain ⟨adK, adV, hS, hT⟩ := vk_of hgv hA
  obtain ⟨tA, ea, ha⟩ := va_Tof (tm := Term.static "ViewTrades$Kinds" "ABOVE" "[I") (ty := .int) (N := 6) (f := fun j => .int (abT.getD j 0)) (A := fun q : Nat => s.heap.size ≤ q) (by decide) (hs _ (by decide +kernel)) (va_eqt (hs _ (by decide +kernel))) (fun j hj => va_eqt (hs _ (fm_ab j hj))) hA
  obtain ⟨tN, en, hn⟩ := va_Tof (tm := Term.static "ViewTradesModel" "NAMES" "[I") (ty := .int) (N := 70) (f := fun j => .int (naT.getD j 0)) (A := fun q : Nat => s.heap.size ≤ q) (by decide) (hs _ (by decide +kernel)) (va_eqt (hs _ (by decide +kernel))) (fun j hj => va_eqt (hs _ (fm_na j hj))) hA
  have hq : ∃ vS : Value, vS.category = 1 ∧ va_Z "jdk/internal/util/Preconditions" "SIOOBE_FORMATTER" "Ljava/util/function/BiFunction;" vS (fun q : Nat => s.heap.size ≤ q) s s.heap := by
    rcases va_Zqof (C := "jdk/internal/util/Preconditions") (n := "SIOOBE_FORMATTER") (d := "Ljava/util/function/BiFunction;") (args := args) (hts _ (by decide +kernel)) (hts _ (by decide +kernel)) (hs _ (by decide +kernel)) hA with h | ⟨t, h⟩
    · exact ⟨_, rfl, h⟩
    · exact ⟨_, rfl, h⟩
  obtain ⟨vS, hv, hZ⟩ := hq
  refine ⟨adK, adV, tA, tN, vS, hv, fun ad h1 h2 h3 h4 hAB => ⟨⟨?_, ?_⟩, ⟨?_, ?_⟩, ?_, hZ.narrow hAB, ?_, ?_⟩⟩
  · rw [h3]; exact oR_Z hts (by decide +kernel) (by decide +kernel) ea (fun a h z => hA a h (hAB a z))
  · rw [h3]; exact ha.narrow hAB
  · rw [h4]; exact oR_Z hts (by decide +kernel) (by decide +kernel) en (fun a h z => hA a h (hAB a z))
  · rw [h4]; exact hn.narrow hAB
  · exact oR_Z hts (by decide +kernel) (by decide +kernel) (va_eqi (hs _ (by decide +kernel))) (fun a h z => hA a h (hAB a z))
  · have hB := hS.narrow hAB
    refine ⟨fun i hi => ?_, fun i j hi hj e => ?_⟩
    · have := hB.1 i hi
      rw [← h1 i hi, ← h2 i hi] at this
      exact this
    · simp only [h1 i hi, h1 j hj] at e
      exact hB.2 i j hi hj e
  · intro q hq
    obtain ⟨g1, g2⟩ := st_self q hq
    rw [h1 _ g1]
    have e := hT _ g1
    unfold tmS at e
    rw [g2] at e
    exact vk_R.of (hts _ (st_ref q hq)) e
