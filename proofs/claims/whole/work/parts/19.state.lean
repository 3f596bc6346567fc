/-! a city as numbers; what a class cell, what a row of the other side holds of it -/
abbrev Cty : Type := Nat × Nat × (Nat → Nat) × (Nat → Nat) × (Nat → Nat) × (Nat → Nat) × (Nat → Nat) × (Nat → Nat)
def zH (C : Cty) : Nat := C.1
def zF (C : Cty) : Nat := C.2.1
def zM (C : Cty) : Nat → Nat := C.2.2.1
def zO (C : Cty) : Nat → Nat := C.2.2.2.1
def zU (C : Cty) : Nat → Nat := C.2.2.2.2.1
def zV (C : Cty) : Nat → Nat := C.2.2.2.2.2.1
def zK (C : Cty) : Nat → Nat := C.2.2.2.2.2.2.1
def zE (C : Cty) : Nat → Nat := C.2.2.2.2.2.2.2
def zsH (C : Cty) (x : Nat) : Cty := (x, zF C, zM C, zO C, zU C, zV C, zK C, zE C)
def zsF (C : Cty) (x : Nat) : Cty := (zH C, x, zM C, zO C, zU C, zV C, zK C, zE C)
def zsM (C : Cty) (x : Nat → Nat) : Cty := (zH C, zF C, x, zO C, zU C, zV C, zK C, zE C)
def zsO (C : Cty) (x : Nat → Nat) : Cty := (zH C, zF C, zM C, x, zU C, zV C, zK C, zE C)
def zsU (C : Cty) (x : Nat → Nat) : Cty := (zH C, zF C, zM C, zO C, x, zV C, zK C, zE C)
def zsV (C : Cty) (x : Nat → Nat) : Cty := (zH C, zF C, zM C, zO C, zU C, x, zK C, zE C)
def zsK (C : Cty) (x : Nat → Nat) : Cty := (zH C, zF C, zM C, zO C, zU C, zV C, x, zE C)
def zsE (C : Cty) (x : Nat → Nat) : Cty := (zH C, zF C, zM C, zO C, zU C, zV C, zK C, x)
theorem zH_zsH {C : Cty} {x : Nat} : zH (zsH C x) = x := rfl
theorem zF_zsH {C : Cty} {x : Nat} : zF (zsH C x) = zF C := rfl
theorem zM_zsH {C : Cty} {x : Nat} : zM (zsH C x) = zM C := rfl
theorem zO_zsH {C : Cty} {x : Nat} : zO (zsH C x) = zO C := rfl
theorem zU_zsH {C : Cty} {x : Nat} : zU (zsH C x) = zU C := rfl
theorem zV_zsH {C : Cty} {x : Nat} : zV (zsH C x) = zV C := rfl
theorem zK_zsH {C : Cty} {x : Nat} : zK (zsH C x) = zK C := rfl
theorem zE_zsH {C : Cty} {x : Nat} : zE (zsH C x) = zE C := rfl
theorem zH_zsF {C : Cty} {x : Nat} : zH (zsF C x) = zH C := rfl
theorem zF_zsF {C : Cty} {x : Nat} : zF (zsF C x) = x := rfl
theorem zM_zsF {C : Cty} {x : Nat} : zM (zsF C x) = zM C := rfl
theorem zO_zsF {C : Cty} {x : Nat} : zO (zsF C x) = zO C := rfl
theorem zU_zsF {C : Cty} {x : Nat} : zU (zsF C x) = zU C := rfl
theorem zV_zsF {C : Cty} {x : Nat} : zV (zsF C x) = zV C := rfl
theorem zK_zsF {C : Cty} {x : Nat} : zK (zsF C x) = zK C := rfl
theorem zE_zsF {C : Cty} {x : Nat} : zE (zsF C x) = zE C := rfl
theorem zH_zsM {C : Cty} {x : Nat → Nat} : zH (zsM C x) = zH C := rfl
theorem zF_zsM {C : Cty} {x : Nat → Nat} : zF (zsM C x) = zF C := rfl
theorem zM_zsM {C : Cty} {x : Nat → Nat} : zM (zsM C x) = x := rfl
theorem zO_zsM {C : Cty} {x : Nat → Nat} : zO (zsM C x) = zO C := rfl
theorem zU_zsM {C : Cty} {x : Nat → Nat} : zU (zsM C x) = zU C := rfl
theorem zV_zsM {C : Cty} {x : Nat → Nat} : zV (zsM C x) = zV C := rfl
theorem zK_zsM {C : Cty} {x : Nat → Nat} : zK (zsM C x) = zK C := rfl
theorem zE_zsM {C : Cty} {x : Nat → Nat} : zE (zsM C x) = zE C := rfl
theorem zH_zsO {C : Cty} {x : Nat → Nat} : zH (zsO C x) = zH C := rfl
theorem zF_zsO {C : Cty} {x : Nat → Nat} : zF (zsO C x) = zF C := rfl
theorem zM_zsO {C : Cty} {x : Nat → Nat} : zM (zsO C x) = zM C := rfl
theorem zO_zsO {C : Cty} {x : Nat → Nat} : zO (zsO C x) = x := rfl
theorem zU_zsO {C : Cty} {x : Nat → Nat} : zU (zsO C x) = zU C := rfl
theorem zV_zsO {C : Cty} {x : Nat → Nat} : zV (zsO C x) = zV C := rfl
theorem zK_zsO {C : Cty} {x : Nat → Nat} : zK (zsO C x) = zK C := rfl
theorem zE_zsO {C : Cty} {x : Nat → Nat} : zE (zsO C x) = zE C := rfl
theorem zH_zsU {C : Cty} {x : Nat → Nat} : zH (zsU C x) = zH C := rfl
theorem zF_zsU {C : Cty} {x : Nat → Nat} : zF (zsU C x) = zF C := rfl
theorem zM_zsU {C : Cty} {x : Nat → Nat} : zM (zsU C x) = zM C := rfl
theorem zO_zsU {C : Cty} {x : Nat → Nat} : zO (zsU C x) = zO C := rfl
theorem zU_zsU {C : Cty} {x : Nat → Nat} : zU (zsU C x) = x := rfl
theorem zV_zsU {C : Cty} {x : Nat → Nat} : zV (zsU C x) = zV C := rfl
theorem zK_zsU {C : Cty} {x : Nat → Nat} : zK (zsU C x) = zK C := rfl
theorem zE_zsU {C : Cty} {x : Nat → Nat} : zE (zsU C x) = zE C := rfl
theorem zH_zsV {C : Cty} {x : Nat → Nat} : zH (zsV C x) = zH C := rfl
theorem zF_zsV {C : Cty} {x : Nat → Nat} : zF (zsV C x) = zF C := rfl
theorem zM_zsV {C : Cty} {x : Nat → Nat} : zM (zsV C x) = zM C := rfl
theorem zO_zsV {C : Cty} {x : Nat → Nat} : zO (zsV C x) = zO C := rfl
theorem zU_zsV {C : Cty} {x : Nat → Nat} : zU (zsV C x) = zU C := rfl
theorem zV_zsV {C : Cty} {x : Nat → Nat} : zV (zsV C x) = x := rfl
theorem zK_zsV {C : Cty} {x : Nat → Nat} : zK (zsV C x) = zK C := rfl
theorem zE_zsV {C : Cty} {x : Nat → Nat} : zE (zsV C x) = zE C := rfl
theorem zH_zsK {C : Cty} {x : Nat → Nat} : zH (zsK C x) = zH C := rfl
theorem zF_zsK {C : Cty} {x : Nat → Nat} : zF (zsK C x) = zF C := rfl
theorem zM_zsK {C : Cty} {x : Nat → Nat} : zM (zsK C x) = zM C := rfl
theorem zO_zsK {C : Cty} {x : Nat → Nat} : zO (zsK C x) = zO C := rfl
theorem zU_zsK {C : Cty} {x : Nat → Nat} : zU (zsK C x) = zU C := rfl
theorem zV_zsK {C : Cty} {x : Nat → Nat} : zV (zsK C x) = zV C := rfl
theorem zK_zsK {C : Cty} {x : Nat → Nat} : zK (zsK C x) = x := rfl
theorem zE_zsK {C : Cty} {x : Nat → Nat} : zE (zsK C x) = zE C := rfl
theorem zH_zsE {C : Cty} {x : Nat → Nat} : zH (zsE C x) = zH C := rfl
theorem zF_zsE {C : Cty} {x : Nat → Nat} : zF (zsE C x) = zF C := rfl
theorem zM_zsE {C : Cty} {x : Nat → Nat} : zM (zsE C x) = zM C := rfl
theorem zO_zsE {C : Cty} {x : Nat → Nat} : zO (zsE C x) = zO C := rfl
theorem zU_zsE {C : Cty} {x : Nat → Nat} : zU (zsE C x) = zU C := rfl
theorem zV_zsE {C : Cty} {x : Nat → Nat} : zV (zsE C x) = zV C := rfl
theorem zK_zsE {C : Cty} {x : Nat → Nat} : zK (zsE C x) = zK C := rfl
theorem zE_zsE {C : Cty} {x : Nat → Nat} : zE (zsE C x) = x := rfl
def updN (f : Nat → Nat) (k x : Nat) : Nat → Nat := fun j => if j = k then x else f j
theorem updN_s {f : Nat → Nat} {k x : Nat} : updN f k x k = x := if_pos rfl
theorem updN_n {f : Nat → Nat} {k j x : Nat} (h : j ≠ k) : updN f k x j = f j := if_neg h
/-- what a city's cells hold -/
def RC (h : Hp) (c : Nat) (C : Cty) : Prop := gI h c 0 = nI (zH C) ∧ gI h c 1 = nI (zF C) ∧ (∀ i, i < 4 → gA h (c + 1) i = nI (zM C i)) ∧ (∀ i, i < 8 → gA h (c + 2) i = nI (zO C i)) ∧ (∀ i, i < 8 → gA h (c + 3) i = nI (zU C i)) ∧ (∀ i, i < 8 → gA h (c + 4) i = nI (zV C i)) ∧ (∀ i, i < 8 → gA h (c + 5) i = nI (zK C i)) ∧ (∀ i, i < 8 → gA h (c + 6) i = nI (zE C i))
theorem RC.H {h : Hp} {c : Nat} {C : Cty} (R : RC h c C) : gI h c 0 = nI (zH C) := R.1
theorem RC.F {h : Hp} {c : Nat} {C : Cty} (R : RC h c C) : gI h c 1 = nI (zF C) := R.2.1
theorem RC.M {h : Hp} {c : Nat} {C : Cty} (R : RC h c C) {i : Nat} (hi : i < 4) : gA h (c + 1) i = nI (zM C i) := R.2.2.1 i hi
theorem RC.O {h : Hp} {c : Nat} {C : Cty} (R : RC h c C) {i : Nat} (hi : i < 8) : gA h (c + 2) i = nI (zO C i) := R.2.2.2.1 i hi
theorem RC.U {h : Hp} {c : Nat} {C : Cty} (R : RC h c C) {i : Nat} (hi : i < 8) : gA h (c + 3) i = nI (zU C i) := R.2.2.2.2.1 i hi
theorem RC.V {h : Hp} {c : Nat} {C : Cty} (R : RC h c C) {i : Nat} (hi : i < 8) : gA h (c + 4) i = nI (zV C i) := R.2.2.2.2.2.1 i hi
theorem RC.K {h : Hp} {c : Nat} {C : Cty} (R : RC h c C) {i : Nat} (hi : i < 8) : gA h (c + 5) i = nI (zK C i) := R.2.2.2.2.2.2.1 i hi
theorem RC.E {h : Hp} {c : Nat} {C : Cty} (R : RC h c C) {i : Nat} (hi : i < 8) : gA h (c + 6) i = nI (zE C i) := R.2.2.2.2.2.2.2 i hi
/-- other cells stay -/
def Fr (X : Nat → Prop) (h h' : Hp) : Prop := ∀ o, ¬ X o → (∀ k, gI h' o k = gI h o k) ∧ gA h' o = gA h o ∧ gL h' o = gL h o
theorem Fr.rf {X : Nat → Prop} {h : Hp} : Fr X h h := fun _ _ => ⟨fun _ => rfl, rfl, rfl⟩
theorem Fr.tr {X : Nat → Prop} {h h1 h2 : Hp} (a : Fr X h h1) (b : Fr X h1 h2) : Fr X h h2 := fun o ho => ⟨fun k => ((b o ho).1 k).trans ((a o ho).1 k), (b o ho).2.1.trans (a o ho).2.1, (b o ho).2.2.trans (a o ho).2.2⟩
theorem Fr.mono {X Y : Nat → Prop} {h h1 : Hp} (a : Fr X h h1) (hXY : ∀ o, X o → Y o) : Fr Y h h1 := fun o ho => a o (fun z => ho (hXY o z))
theorem Fr.sI {X : Nat → Prop} {h : Hp} {o k : Nat} {v : Int32} (ho : X o) : Fr X h (sI h o k v) := fun q hq => ⟨fun j => by rw [gI_sI, if_neg (fun z => hq (by rw [z.1]; exact ho))], rfl, rfl⟩
theorem Fr.sA {X : Nat → Prop} {h : Hp} {a : Nat} {f : Nat → Int32} (ho : X a) : Fr X h (sA h a f) := fun q hq => ⟨fun j => rfl, by rw [gA_sA, if_neg (fun z => hq (by rw [z]; exact ho))], rfl⟩
theorem Fr.sL {X : Nat → Prop} {h : Hp} {a : Nat} {f : Nat → Int64} (ho : X a) : Fr X h (sL h a f) := fun q hq => ⟨fun j => rfl, rfl, by rw [gL_sL, if_neg (fun z => hq (by rw [z]; exact ho))]⟩
/-- a city's own cells -/
def Xc (c : Nat) : Nat → Prop := fun o => c ≤ o ∧ o ≤ c + 6
theorem RC.fr {h h' : Hp} {c : Nat} {C : Cty} {X : Nat → Prop} (R : RC h c C) (F : Fr X h h') (hX : ∀ o, c ≤ o → o ≤ c + 6 → ¬ X o) : RC h' c C := by
  obtain ⟨r1, r2, r3, r4, r5, r6, r7, r8⟩ := R
  have f0 := F c (hX c (by omega) (by omega))
  refine ⟨by rw [f0.1]; exact r1, by rw [f0.1]; exact r2, ?_, ?_, ?_, ?_, ?_, ?_⟩
  · rw [(F (c + 1) (hX _ (by omega) (by omega))).2.1]; exact r3
  · rw [(F (c + 2) (hX _ (by omega) (by omega))).2.1]; exact r4
  · rw [(F (c + 3) (hX _ (by omega) (by omega))).2.1]; exact r5
  · rw [(F (c + 4) (hX _ (by omega) (by omega))).2.1]; exact r6
  · rw [(F (c + 5) (hX _ (by omega) (by omega))).2.1]; exact r7
  · rw [(F (c + 6) (hX _ (by omega) (by omega))).2.1]; exact r8
theorem RC.eqC {h : Hp} {c : Nat} {C C' : Cty} (R : RC h c C) (e : C = C') : RC h c C' := e ▸ R
theorem RC.setH {h : Hp} {c : Nat} {C : Cty} (R : RC h c C) (x : Nat) : RC (sI h c 0 (nI x)) c (zsH C x) := by
  obtain ⟨r1, r2, r3, r4, r5, r6, r7, r8⟩ := R
  exact ⟨by rw [gI_sI]; exact if_pos ⟨rfl, rfl⟩, by rw [gI_sI, if_neg (fun z => absurd z.2 (by decide))]; exact r2, r3, r4, r5, r6, r7, r8⟩
theorem RC.setF {h : Hp} {c : Nat} {C : Cty} (R : RC h c C) (x : Nat) : RC (sI h c 1 (nI x)) c (zsF C x) := by
  obtain ⟨r1, r2, r3, r4, r5, r6, r7, r8⟩ := R
  exact ⟨by rw [gI_sI, if_neg (fun z => absurd z.2 (by decide))]; exact r1, by rw [gI_sI]; exact if_pos ⟨rfl, rfl⟩, r3, r4, r5, r6, r7, r8⟩
theorem RC.setM {h : Hp} {c : Nat} {C : Cty} (R : RC h c C) (k x : Nat) : RC (sA h (c + 1) (upd (gA h (c + 1)) k (nI x))) c (zsM C (updN (zM C) k x)) := by
  obtain ⟨r1, r2, r3, r4, r5, r6, r7, r8⟩ := R
  refine ⟨r1, r2, ?_, ?_, ?_, ?_, ?_, ?_⟩
  · intro i hi
    rw [gA_sA, if_pos rfl]
    show upd _ k (nI x) i = nI (updN _ k x i)
    unfold upd updN
    by_cases hk : i = k
    · rw [if_pos hk, if_pos hk]
    · rw [if_neg hk, if_neg hk]; exact r3 i hi
  · intro i hi; rw [gA_sA, if_neg (by omega)]; exact r4 i hi
  · intro i hi; rw [gA_sA, if_neg (by omega)]; exact r5 i hi
  · intro i hi; rw [gA_sA, if_neg (by omega)]; exact r6 i hi
  · intro i hi; rw [gA_sA, if_neg (by omega)]; exact r7 i hi
  · intro i hi; rw [gA_sA, if_neg (by omega)]; exact r8 i hi
theorem RC.setO {h : Hp} {c : Nat} {C : Cty} (R : RC h c C) (k x : Nat) : RC (sA h (c + 2) (upd (gA h (c + 2)) k (nI x))) c (zsO C (updN (zO C) k x)) := by
  obtain ⟨r1, r2, r3, r4, r5, r6, r7, r8⟩ := R
  refine ⟨r1, r2, ?_, ?_, ?_, ?_, ?_, ?_⟩
  · intro i hi; rw [gA_sA, if_neg (by omega)]; exact r3 i hi
  · intro i hi
    rw [gA_sA, if_pos rfl]
    show upd _ k (nI x) i = nI (updN _ k x i)
    unfold upd updN
    by_cases hk : i = k
    · rw [if_pos hk, if_pos hk]
    · rw [if_neg hk, if_neg hk]; exact r4 i hi
  · intro i hi; rw [gA_sA, if_neg (by omega)]; exact r5 i hi
  · intro i hi; rw [gA_sA, if_neg (by omega)]; exact r6 i hi
  · intro i hi; rw [gA_sA, if_neg (by omega)]; exact r7 i hi
  · intro i hi; rw [gA_sA, if_neg (by omega)]; exact r8 i hi
theorem RC.setU {h : Hp} {c : Nat} {C : Cty} (R : RC h c C) (k x : Nat) : RC (sA h (c + 3) (upd (gA h (c + 3)) k (nI x))) c (zsU C (updN (zU C) k x)) := by
  obtain ⟨r1, r2, r3, r4, r5, r6, r7, r8⟩ := R
  refine ⟨r1, r2, ?_, ?_, ?_, ?_, ?_, ?_⟩
  · intro i hi; rw [gA_sA, if_neg (by omega)]; exact r3 i hi
  · intro i hi; rw [gA_sA, if_neg (by omega)]; exact r4 i hi
  · intro i hi
    rw [gA_sA, if_pos rfl]
    show upd _ k (nI x) i = nI (updN _ k x i)
    unfold upd updN
    by_cases hk : i = k
    · rw [if_pos hk, if_pos hk]
    · rw [if_neg hk, if_neg hk]; exact r5 i hi
  · intro i hi; rw [gA_sA, if_neg (by omega)]; exact r6 i hi
  · intro i hi; rw [gA_sA, if_neg (by omega)]; exact r7 i hi
  · intro i hi; rw [gA_sA, if_neg (by omega)]; exact r8 i hi
theorem RC.setV {h : Hp} {c : Nat} {C : Cty} (R : RC h c C) (k x : Nat) : RC (sA h (c + 4) (upd (gA h (c + 4)) k (nI x))) c (zsV C (updN (zV C) k x)) := by
  obtain ⟨r1, r2, r3, r4, r5, r6, r7, r8⟩ := R
  refine ⟨r1, r2, ?_, ?_, ?_, ?_, ?_, ?_⟩
  · intro i hi; rw [gA_sA, if_neg (by omega)]; exact r3 i hi
  · intro i hi; rw [gA_sA, if_neg (by omega)]; exact r4 i hi
  · intro i hi; rw [gA_sA, if_neg (by omega)]; exact r5 i hi
  · intro i hi
    rw [gA_sA, if_pos rfl]
    show upd _ k (nI x) i = nI (updN _ k x i)
    unfold upd updN
    by_cases hk : i = k
    · rw [if_pos hk, if_pos hk]
    · rw [if_neg hk, if_neg hk]; exact r6 i hi
  · intro i hi; rw [gA_sA, if_neg (by omega)]; exact r7 i hi
  · intro i hi; rw [gA_sA, if_neg (by omega)]; exact r8 i hi
theorem RC.setK {h : Hp} {c : Nat} {C : Cty} (R : RC h c C) (k x : Nat) : RC (sA h (c + 5) (upd (gA h (c + 5)) k (nI x))) c (zsK C (updN (zK C) k x)) := by
  obtain ⟨r1, r2, r3, r4, r5, r6, r7, r8⟩ := R
  refine ⟨r1, r2, ?_, ?_, ?_, ?_, ?_, ?_⟩
  · intro i hi; rw [gA_sA, if_neg (by omega)]; exact r3 i hi
  · intro i hi; rw [gA_sA, if_neg (by omega)]; exact r4 i hi
  · intro i hi; rw [gA_sA, if_neg (by omega)]; exact r5 i hi
  · intro i hi; rw [gA_sA, if_neg (by omega)]; exact r6 i hi
  · intro i hi
    rw [gA_sA, if_pos rfl]
    show upd _ k (nI x) i = nI (updN _ k x i)
    unfold upd updN
    by_cases hk : i = k
    · rw [if_pos hk, if_pos hk]
    · rw [if_neg hk, if_neg hk]; exact r7 i hi
  · intro i hi; rw [gA_sA, if_neg (by omega)]; exact r8 i hi
theorem RC.setE {h : Hp} {c : Nat} {C : Cty} (R : RC h c C) (k x : Nat) : RC (sA h (c + 6) (upd (gA h (c + 6)) k (nI x))) c (zsE C (updN (zE C) k x)) := by
  obtain ⟨r1, r2, r3, r4, r5, r6, r7, r8⟩ := R
  refine ⟨r1, r2, ?_, ?_, ?_, ?_, ?_, ?_⟩
  · intro i hi; rw [gA_sA, if_neg (by omega)]; exact r3 i hi
  · intro i hi; rw [gA_sA, if_neg (by omega)]; exact r4 i hi
  · intro i hi; rw [gA_sA, if_neg (by omega)]; exact r5 i hi
  · intro i hi; rw [gA_sA, if_neg (by omega)]; exact r6 i hi
  · intro i hi; rw [gA_sA, if_neg (by omega)]; exact r7 i hi
  · intro i hi
    rw [gA_sA, if_pos rfl]
    show upd _ k (nI x) i = nI (updN _ k x i)
    unfold upd updN
    by_cases hk : i = k
    · rw [if_pos hk, if_pos hk]
    · rw [if_neg hk, if_neg hk]; exact r8 i hi
/-- what a row of 46 holds of a city -/
def RR (h : Hp) (a : Nat) (C : Cty) : Prop := gA h a 0 = nI (zH C) ∧ gA h a 1 = nI (zF C) ∧ (∀ i, i < 4 → gA h a (2 + i) = nI (zM C i)) ∧ (∀ i, i < 8 → gA h a (6 + 3 * i) = nI (zO C i)) ∧ (∀ i, i < 8 → gA h a (6 + 3 * i + 1) = nI (zU C i)) ∧ (∀ i, i < 8 → gA h a (6 + 3 * i + 2) = nI (zV C i)) ∧ (∀ i, i < 8 → gA h a (30 + 2 * i) = nI (zK C i)) ∧ (∀ i, i < 8 → gA h a (30 + 2 * i + 1) = nI (zE C i))
theorem RR.H {h : Hp} {a : Nat} {C : Cty} (R : RR h a C) : gA h a 0 = nI (zH C) := R.1
theorem RR.F {h : Hp} {a : Nat} {C : Cty} (R : RR h a C) : gA h a 1 = nI (zF C) := R.2.1
theorem RR.M {h : Hp} {a : Nat} {C : Cty} (R : RR h a C) {i : Nat} (hi : i < 4) : gA h a (2 + i) = nI (zM C i) := R.2.2.1 i hi
theorem RR.O {h : Hp} {a : Nat} {C : Cty} (R : RR h a C) {i : Nat} (hi : i < 8) : gA h a (6 + 3 * i) = nI (zO C i) := R.2.2.2.1 i hi
theorem RR.U {h : Hp} {a : Nat} {C : Cty} (R : RR h a C) {i : Nat} (hi : i < 8) : gA h a (6 + 3 * i + 1) = nI (zU C i) := R.2.2.2.2.1 i hi
theorem RR.V {h : Hp} {a : Nat} {C : Cty} (R : RR h a C) {i : Nat} (hi : i < 8) : gA h a (6 + 3 * i + 2) = nI (zV C i) := R.2.2.2.2.2.1 i hi
theorem RR.K {h : Hp} {a : Nat} {C : Cty} (R : RR h a C) {i : Nat} (hi : i < 8) : gA h a (30 + 2 * i) = nI (zK C i) := R.2.2.2.2.2.2.1 i hi
theorem RR.E {h : Hp} {a : Nat} {C : Cty} (R : RR h a C) {i : Nat} (hi : i < 8) : gA h a (30 + 2 * i + 1) = nI (zE C i) := R.2.2.2.2.2.2.2 i hi
theorem RR.setH {h : Hp} {a : Nat} {C : Cty} (R : RR h a C) (x : Nat) : RR (sA h a (upd (gA h a) 0 (nI x))) a (zsH C x) := by
  obtain ⟨r1, r2, r3, r4, r5, r6, r7, r8⟩ := R
  have e0 : gA (sA h a (upd (gA h a) 0 (nI x))) a = upd (gA h a) 0 (nI x) := by rw [gA_sA, if_pos rfl]
  unfold RR
  rw [e0]
  refine ⟨?_, ?_, ?_, ?_, ?_, ?_, ?_, ?_⟩
  · exact pk_us
  · rw [pk_un (by omega)]; exact r2
  · intro i hi; rw [pk_un (by omega)]; exact r3 i hi
  · intro i hi; rw [pk_un (by omega)]; exact r4 i hi
  · intro i hi; rw [pk_un (by omega)]; exact r5 i hi
  · intro i hi; rw [pk_un (by omega)]; exact r6 i hi
  · intro i hi; rw [pk_un (by omega)]; exact r7 i hi
  · intro i hi; rw [pk_un (by omega)]; exact r8 i hi
theorem RR.setF {h : Hp} {a : Nat} {C : Cty} (R : RR h a C) (x : Nat) : RR (sA h a (upd (gA h a) 1 (nI x))) a (zsF C x) := by
  obtain ⟨r1, r2, r3, r4, r5, r6, r7, r8⟩ := R
  have e0 : gA (sA h a (upd (gA h a) 1 (nI x))) a = upd (gA h a) 1 (nI x) := by rw [gA_sA, if_pos rfl]
  unfold RR
  rw [e0]
  refine ⟨?_, ?_, ?_, ?_, ?_, ?_, ?_, ?_⟩
  · rw [pk_un (by omega)]; exact r1
  · exact pk_us
  · intro i hi; rw [pk_un (by omega)]; exact r3 i hi
  · intro i hi; rw [pk_un (by omega)]; exact r4 i hi
  · intro i hi; rw [pk_un (by omega)]; exact r5 i hi
  · intro i hi; rw [pk_un (by omega)]; exact r6 i hi
  · intro i hi; rw [pk_un (by omega)]; exact r7 i hi
  · intro i hi; rw [pk_un (by omega)]; exact r8 i hi
theorem RR.setM {h : Hp} {a : Nat} {C : Cty} (R : RR h a C) {k : Nat} (hk : k < 4) (x : Nat) : RR (sA h a (upd (gA h a) (2 + k) (nI x))) a (zsM C (updN (zM C) k x)) := by
  obtain ⟨r1, r2, r3, r4, r5, r6, r7, r8⟩ := R
  have e0 : gA (sA h a (upd (gA h a) (2 + k) (nI x))) a = upd (gA h a) (2 + k) (nI x) := by rw [gA_sA, if_pos rfl]
  unfold RR
  rw [e0]
  refine ⟨?_, ?_, ?_, ?_, ?_, ?_, ?_, ?_⟩
  · rw [pk_un (by omega)]; exact r1
  · rw [pk_un (by omega)]; exact r2
  · intro i hi
    show _ = nI (updN _ k x i)
    by_cases e : i = k
    · subst e; rw [updN_s]; exact pk_us
    · rw [updN_n e, pk_un (by omega)]; exact r3 i hi
  · intro i hi; rw [pk_un (by omega)]; exact r4 i hi
  · intro i hi; rw [pk_un (by omega)]; exact r5 i hi
  · intro i hi; rw [pk_un (by omega)]; exact r6 i hi
  · intro i hi; rw [pk_un (by omega)]; exact r7 i hi
  · intro i hi; rw [pk_un (by omega)]; exact r8 i hi
theorem RR.setO {h : Hp} {a : Nat} {C : Cty} (R : RR h a C) {k : Nat} (hk : k < 8) (x : Nat) : RR (sA h a (upd (gA h a) (6 + 3 * k) (nI x))) a (zsO C (updN (zO C) k x)) := by
  obtain ⟨r1, r2, r3, r4, r5, r6, r7, r8⟩ := R
  have e0 : gA (sA h a (upd (gA h a) (6 + 3 * k) (nI x))) a = upd (gA h a) (6 + 3 * k) (nI x) := by rw [gA_sA, if_pos rfl]
  unfold RR
  rw [e0]
  refine ⟨?_, ?_, ?_, ?_, ?_, ?_, ?_, ?_⟩
  · rw [pk_un (by omega)]; exact r1
  · rw [pk_un (by omega)]; exact r2
  · intro i hi; rw [pk_un (by omega)]; exact r3 i hi
  · intro i hi
    show _ = nI (updN _ k x i)
    by_cases e : i = k
    · subst e; rw [updN_s]; exact pk_us
    · rw [updN_n e, pk_un (by omega)]; exact r4 i hi
  · intro i hi; rw [pk_un (by omega)]; exact r5 i hi
  · intro i hi; rw [pk_un (by omega)]; exact r6 i hi
  · intro i hi; rw [pk_un (by omega)]; exact r7 i hi
  · intro i hi; rw [pk_un (by omega)]; exact r8 i hi
theorem RR.setU {h : Hp} {a : Nat} {C : Cty} (R : RR h a C) {k : Nat} (hk : k < 8) (x : Nat) : RR (sA h a (upd (gA h a) (6 + 3 * k + 1) (nI x))) a (zsU C (updN (zU C) k x)) := by
  obtain ⟨r1, r2, r3, r4, r5, r6, r7, r8⟩ := R
  have e0 : gA (sA h a (upd (gA h a) (6 + 3 * k + 1) (nI x))) a = upd (gA h a) (6 + 3 * k + 1) (nI x) := by rw [gA_sA, if_pos rfl]
  unfold RR
  rw [e0]
  refine ⟨?_, ?_, ?_, ?_, ?_, ?_, ?_, ?_⟩
  · rw [pk_un (by omega)]; exact r1
  · rw [pk_un (by omega)]; exact r2
  · intro i hi; rw [pk_un (by omega)]; exact r3 i hi
  · intro i hi; rw [pk_un (by omega)]; exact r4 i hi
  · intro i hi
    show _ = nI (updN _ k x i)
    by_cases e : i = k
    · subst e; rw [updN_s]; exact pk_us
    · rw [updN_n e, pk_un (by omega)]; exact r5 i hi
  · intro i hi; rw [pk_un (by omega)]; exact r6 i hi
  · intro i hi; rw [pk_un (by omega)]; exact r7 i hi
  · intro i hi; rw [pk_un (by omega)]; exact r8 i hi
theorem RR.setV {h : Hp} {a : Nat} {C : Cty} (R : RR h a C) {k : Nat} (hk : k < 8) (x : Nat) : RR (sA h a (upd (gA h a) (6 + 3 * k + 2) (nI x))) a (zsV C (updN (zV C) k x)) := by
  obtain ⟨r1, r2, r3, r4, r5, r6, r7, r8⟩ := R
  have e0 : gA (sA h a (upd (gA h a) (6 + 3 * k + 2) (nI x))) a = upd (gA h a) (6 + 3 * k + 2) (nI x) := by rw [gA_sA, if_pos rfl]
  unfold RR
  rw [e0]
  refine ⟨?_, ?_, ?_, ?_, ?_, ?_, ?_, ?_⟩
  · rw [pk_un (by omega)]; exact r1
  · rw [pk_un (by omega)]; exact r2
  · intro i hi; rw [pk_un (by omega)]; exact r3 i hi
  · intro i hi; rw [pk_un (by omega)]; exact r4 i hi
  · intro i hi; rw [pk_un (by omega)]; exact r5 i hi
  · intro i hi
    show _ = nI (updN _ k x i)
    by_cases e : i = k
    · subst e; rw [updN_s]; exact pk_us
    · rw [updN_n e, pk_un (by omega)]; exact r6 i hi
  · intro i hi; rw [pk_un (by omega)]; exact r7 i hi
  · intro i hi; rw [pk_un (by omega)]; exact r8 i hi
theorem RR.setK {h : Hp} {a : Nat} {C : Cty} (R : RR h a C) {k : Nat} (hk : k < 8) (x : Nat) : RR (sA h a (upd (gA h a) (30 + 2 * k) (nI x))) a (zsK C (updN (zK C) k x)) := by
  obtain ⟨r1, r2, r3, r4, r5, r6, r7, r8⟩ := R
  have e0 : gA (sA h a (upd (gA h a) (30 + 2 * k) (nI x))) a = upd (gA h a) (30 + 2 * k) (nI x) := by rw [gA_sA, if_pos rfl]
  unfold RR
  rw [e0]
  refine ⟨?_, ?_, ?_, ?_, ?_, ?_, ?_, ?_⟩
  · rw [pk_un (by omega)]; exact r1
  · rw [pk_un (by omega)]; exact r2
  · intro i hi; rw [pk_un (by omega)]; exact r3 i hi
  · intro i hi; rw [pk_un (by omega)]; exact r4 i hi
  · intro i hi; rw [pk_un (by omega)]; exact r5 i hi
  · intro i hi; rw [pk_un (by omega)]; exact r6 i hi
  · intro i hi
    show _ = nI (updN _ k x i)
    by_cases e : i = k
    · subst e; rw [updN_s]; exact pk_us
    · rw [updN_n e, pk_un (by omega)]; exact r7 i hi
  · intro i hi; rw [pk_un (by omega)]; exact r8 i hi
theorem RR.setE {h : Hp} {a : Nat} {C : Cty} (R : RR h a C) {k : Nat} (hk : k < 8) (x : Nat) : RR (sA h a (upd (gA h a) (30 + 2 * k + 1) (nI x))) a (zsE C (updN (zE C) k x)) := by
  obtain ⟨r1, r2, r3, r4, r5, r6, r7, r8⟩ := R
  have e0 : gA (sA h a (upd (gA h a) (30 + 2 * k + 1) (nI x))) a = upd (gA h a) (30 + 2 * k + 1) (nI x) := by rw [gA_sA, if_pos rfl]
  unfold RR
  rw [e0]
  refine ⟨?_, ?_, ?_, ?_, ?_, ?_, ?_, ?_⟩
  · rw [pk_un (by omega)]; exact r1
  · rw [pk_un (by omega)]; exact r2
  · intro i hi; rw [pk_un (by omega)]; exact r3 i hi
  · intro i hi; rw [pk_un (by omega)]; exact r4 i hi
  · intro i hi; rw [pk_un (by omega)]; exact r5 i hi
  · intro i hi; rw [pk_un (by omega)]; exact r6 i hi
  · intro i hi; rw [pk_un (by omega)]; exact r7 i hi
  · intro i hi
    show _ = nI (updN _ k x i)
    by_cases e : i = k
    · subst e; rw [updN_s]; exact pk_us
    · rw [updN_n e, pk_un (by omega)]; exact r8 i hi
theorem RR.fr {h h' : Hp} {a : Nat} {C : Cty} {X : Nat → Prop} (R : RR h a C) (F : Fr X h h') (hX : ¬ X a) : RR h' a C := by unfold RR; rw [(F a hX).2.1]; exact R
theorem RR.to {h h' : Hp} {a b : Nat} {C : Cty} (R : RR h a C) (e : ∀ k, k < 46 → gA h' b k = gA h a k) : RR h' b C := by
  obtain ⟨r1, r2, r3, r4, r5, r6, r7, r8⟩ := R
  exact ⟨(e _ (by omega)).trans r1, (e _ (by omega)).trans r2, fun i hi => (e _ (by omega)).trans (r3 i hi), fun i hi => (e _ (by omega)).trans (r4 i hi), fun i hi => (e _ (by omega)).trans (r5 i hi), fun i hi => (e _ (by omega)).trans (r6 i hi), fun i hi => (e _ (by omega)).trans (r7 i hi), fun i hi => (e _ (by omega)).trans (r8 i hi)⟩
/-- a city as it may be -/
def WC (C : Cty) : Prop := zF C ≤ 8 ∧ zH C ≤ 200000 ∧ (∀ i, i < 4 → zM C i ≤ 99999) ∧ (∀ i, i < 8 → zO C i < 4) ∧ (∀ i, i < 8 → zU C i ≤ 1) ∧ (∀ i, i < zF C → zV C i < zF C) ∧ (∀ i j, i < zF C → j < zF C → zV C i = zV C j → i = j) ∧ (∀ i, i < 8 → zK C i < 6) ∧ (∀ i, i < 8 → zE C i ≤ 99)
