def fChk (q : (Nat × Nat × (Nat × Nat)) × Nat) : Bool :=
  let z := cls7.getD q.1.2.2.1 dC7
  let t := z.2.1 q.1.2.2.2
  inT (.fieldLink (ownN q.1.1) q.1.2.1 t.1 t.2.1 t.2.2.1) q.2 && (decide (q.1.2.2.1 < 7) && (decide (q.1.2.2.2 < z.2.2) && (decide (fO q.1.2.2.1 q.1.2.2.2 = 0 → t.2.2.2 = false ∧ parseFieldDescriptor t.2.2.1 = some .int) && decide (fO q.1.2.2.1 q.1.2.2.2 = 1 → t.2.2.2 = false ∧ parseFieldDescriptor t.2.2.1 = some .boolean))))
set_option maxRecDepth 100000 in
theorem fTab_chk : (fTab.zip fPl).all fChk = true := by decide +kernel
theorem cls7_at {c : Nat} (h : c < 7) : cls7[c]? = some (cls7.getD c dC7) := by
  have : c < cls7.length := h
  rw [List.getD_eq_getElem?_getD, List.getElem?_eq_getElem this]
  rfl
theorem fTab_ok {a b ci k : Nat} (h : (a, b, (ci, k)) ∈ fTab) : Cond.fieldLink (ownN a) b ((cls7.getD ci dC7).2.1 k).1 ((cls7.getD ci dC7).2.1 k).2.1 ((cls7.getD ci dC7).2.1 k).2.2.1 ∈ WT ∧ ci < 7 ∧ k < (cls7.getD ci dC7).2.2 ∧ (fO ci k = 0 → ((cls7.getD ci dC7).2.1 k).2.2.2 = false ∧ parseFieldDescriptor ((cls7.getD ci dC7).2.1 k).2.2.1 = some .int) ∧ (fO ci k = 1 → ((cls7.getD ci dC7).2.1 k).2.2.2 = false ∧ parseFieldDescriptor ((cls7.getD ci dC7).2.1 k).2.2.1 = some .boolean) := by
  obtain ⟨i, hi⟩ := zip_all (m := fPl) (by decide +kernel) fTab_chk h
  simp only [fChk, Bool.and_eq_true, decide_eq_true_eq] at hi
  exact ⟨inT_mem hi.1, hi.2⟩
/-- a method that is there -/
def okM (M : mI) : Prop := Cond.code M.y M.b M.n M.r ∈ WT ∧ Cond.initialized M.y.cls ∈ WT ∧ M.y.cls ≠ "java/lang/invoke/MethodHandle" ∧ M.y.cls ≠ "java/lang/invoke/VarHandle" ∧ M.y.cls = ownN M.c ∧ plainName M.y.cls = true ∧ M.c ≠ 13
theorem mTab_ok {a b kd na : Nat} {M : mI} (h : (a, b, (kd, na, M)) ∈ mTab) : okM M ∧ Cond.methodLink (ownN a) b M.y ∈ WT ∧ (parseMethodDescriptor M.y.desc).map (fun d => d.parameters.length) = some na ∧ (kd = 0 → Cond.static M.y ∈ WT) ∧ (kd = 1 → Cond.instanceMethod M.y ∈ WT ∧ Cond.selects M.y.cls M.y M.y ∈ WT ∧ (M.c = 9 ∨ (M.c < 7 ∧ (cls7.getD M.c dC7).1 = M.y.cls))) := by
  obtain ⟨i, hi⟩ := mTab_one h
  simp only [mChk, Bool.and_eq_true, decide_eq_true_eq] at hi
  obtain ⟨h1, h2, h3, h4, h5, h6, h7, ⟨h8, h10⟩, h9⟩ := hi
  refine ⟨⟨inT_mem h2, inT_mem h3, h4, h5, h7, h8, h10⟩, inT_mem h1, h6, fun z => ?_, fun z => ?_⟩
  · subst z
    exact inT_mem h9
  · subst z
    simp only [Bool.and_eq_true, Bool.or_eq_true, decide_eq_true_eq] at h9
    exact ⟨inT_mem h9.1, inT_mem h9.2.1, h9.2.2⟩
def aChk (q : (Nat × Nat × Unit) × Nat) : Bool := inT (.methodLink (ownN q.1.1) q.1.2.1 arraycopyName) q.2
set_option maxRecDepth 100000 in
theorem aTab_chk : (aTab.zip aPl).all aChk = true := by decide +kernel
theorem aTab_ok {a b : Nat} {u : Unit} (h : (a, b, u) ∈ aTab) : Cond.methodLink (ownN a) b arraycopyName ∈ WT := by
  obtain ⟨i, hi⟩ := zip_all (m := aPl) (by decide) aTab_chk h
  exact inT_mem hi
set_option maxRecDepth 100000 in
theorem aNat : Cond.native arraycopyName ∈ WT := inT_mem (i := aPn) (by decide +kernel)
set_option maxRecDepth 100000 in
theorem aSta : Cond.static arraycopyName ∈ WT := inT_mem (i := aPs) (by decide +kernel)
set_option maxRecDepth 100000 in
theorem aIni : Cond.initialized "java/lang/System" ∈ WT := inT_mem (i := aPi) (by decide +kernel)
set_option maxRecDepth 100000 in
theorem cTab_chk : (cTab.zip cPl).all (fun q => inT (.constant (ownN q.1.1) q.1.2.1 q.1.2.2) q.2) = true := by decide +kernel
theorem cTab_ok {a b : Nat} {v : Int32} (h : (a, b, v) ∈ cTab) : Cond.constant (ownN a) b v ∈ WT := by
  obtain ⟨i, hi⟩ := zip_all (m := cPl) (by decide) cTab_chk h
  exact inT_mem hi
set_option maxRecDepth 100000 in
theorem clTab_chk : (clTab.zip clPl).all (fun q => inT (.constantLong (ownN q.1.1) q.1.2.1 q.1.2.2) q.2) = true := by decide +kernel
theorem clTab_ok {a b : Nat} {v : Int64} (h : (a, b, v) ∈ clTab) : Cond.constantLong (ownN a) b v ∈ WT := by
  obtain ⟨i, hi⟩ := zip_all (m := clPl) (by decide) clTab_chk h
  exact inT_mem hi
set_option maxRecDepth 100000 in
theorem lay_chk : ∀ c, c < 7 → ((List.range (cls7.getD c dC7).2.2).map (u_lay (cls7.getD c dC7).1 (cls7.getD c dC7).2.1)).length ≤ (lPl.getD c []).length ∧ (((List.range (cls7.getD c dC7).2.2).map (u_lay (cls7.getD c dC7).1 (cls7.getD c dC7).2.1)).zip (lPl.getD c [])).all (fun q => inT q.1 q.2) = true := by decide +kernel
theorem lay_ok {c : Nat} (h : c < 7) : ∀ w ∈ u_ws (cls7.getD c dC7).1 (cls7.getD c dC7).2.1 (cls7.getD c dC7).2.2, w ∈ WT := by
  intro w hw
  obtain ⟨i, hi⟩ := zip_all (m := lPl.getD c []) (lay_chk c h).1 (lay_chk c h).2 (a := w) hw
  exact inT_mem hi
set_option maxRecDepth 100000 in
theorem ty_chk : ∀ c, c < 7 → ∀ k, k < (cls7.getD c dC7).2.2 → (parseFieldDescriptor ((cls7.getD c dC7).2.1 k).2.2.1).isSome = true := by decide +kernel
theorem ty_ok {c : Nat} (h : c < 7) : ∀ k, k < (cls7.getD c dC7).2.2 → parseFieldDescriptor ((cls7.getD c dC7).2.1 k).2.2.1 = some ((parseFieldDescriptor ((cls7.getD c dC7).2.1 k).2.2.1).getD .int) := by
  intro k hk
  have h7 := ty_chk c h k hk
  cases hq : parseFieldDescriptor ((cls7.getD c dC7).2.1 k).2.2.1 with
  | none => rw [hq] at h7; cases h7
  | some t => rfl
set_option maxRecDepth 100000 in
theorem nm_ok : ∀ c, c < 7 → ∀ a, a < (cls7.getD c dC7).2.2 → ∀ b, b < (cls7.getD c dC7).2.2 → a ≠ b → ((cls7.getD c dC7).2.1 a).2.1 ≠ ((cls7.getD c dC7).2.1 b).2.1 := by decide +kernel
theorem nF_ok : ∀ c, c < 7 → nF c = (cls7.getD c dC7).2.2 := by decide
set_option maxRecDepth 100000 in
theorem gA_ok : Cond.fieldLink (ownN 2) 13 "ViewTrades$Kinds" "ABOVE" "[I" ∈ WT := inT_mem (i := gPa) (by decide +kernel)
set_option maxRecDepth 100000 in
theorem gN_ok : Cond.fieldLink (ownN 6) 159 "ViewTradesModel" "NAMES" "[I" ∈ WT := inT_mem (i := gPn) (by decide +kernel)
set_option maxRecDepth 100000 in
theorem gC_ok : Cond.fieldLink (ownN 9) 38 "java/lang/String" "COMPACT_STRINGS" "Z" ∈ WT := inT_mem (i := gPc) (by decide +kernel)
set_option maxRecDepth 100000 in
theorem gS_ok : Cond.fieldLink (ownN 9) 1053 "jdk/internal/util/Preconditions" "SIOOBE_FORMATTER" "Ljava/util/function/BiFunction;" ∈ WT := inT_mem (i := gPs) (by decide +kernel)
set_option maxRecDepth 100000 in
theorem sV_ok : Cond.fieldLink (ownN 9) 9 "java/lang/String" "value" "[B" ∈ WT := inT_mem (i := sPv) (by decide +kernel)
set_option maxRecDepth 100000 in
theorem sC_ok : Cond.fieldLink (ownN 9) 15 "java/lang/String" "coder" "B" ∈ WT := inT_mem (i := sPc) (by decide +kernel)
def xName : Nat → MethodName
  | 0 => Lib.Math.min.name
  | 1 => Lib.Math.max.name
  | _ => Lib.Math.abs.name
set_option maxRecDepth 100000 in
theorem xTab_chk : (xTab.zip xPl).all (fun q => inT (.methodLink (ownN q.1.1) q.1.2.1 (xName q.1.2.2)) q.2 && decide (q.1.2.2 < 3)) = true := by decide +kernel
theorem xTab_ok {a b o : Nat} (h : (a, b, o) ∈ xTab) : Cond.methodLink (ownN a) b (xName o) ∈ WT ∧ o < 3 := by
  obtain ⟨i, hi⟩ := zip_all (m := xPl) (by decide) xTab_chk h
  simp only [Bool.and_eq_true, decide_eq_true_eq] at hi
  exact ⟨inT_mem hi.1, hi.2⟩
set_option maxRecDepth 100000 in
theorem xStn : Cond.static Lib.Math.min.name ∈ WT := inT_mem (i := xSn) (by decide +kernel)
set_option maxRecDepth 100000 in
theorem xStx : Cond.static Lib.Math.max.name ∈ WT := inT_mem (i := xSx) (by decide +kernel)
set_option maxRecDepth 100000 in
theorem xStb : Cond.static Lib.Math.abs.name ∈ WT := inT_mem (i := xSb) (by decide +kernel)
set_option maxRecDepth 100000 in
theorem xCdn : Cond.code Lib.Math.min.name Lib.Math.min.code 2 (some .int) ∈ WT := inT_mem (i := xCn) (by decide +kernel)
set_option maxRecDepth 100000 in
theorem xCdx : Cond.code Lib.Math.max.name Lib.Math.max.code 2 (some .int) ∈ WT := inT_mem (i := xCx) (by decide +kernel)
set_option maxRecDepth 100000 in
theorem xCdb : Cond.code Lib.Math.abs.name Lib.Math.abs.code 1 (some .int) ∈ WT := inT_mem (i := xCb) (by decide +kernel)
set_option maxRecDepth 100000 in
theorem xIni : Cond.initialized "java/lang/Math" ∈ WT := inT_mem (i := xI) (by decide +kernel)
