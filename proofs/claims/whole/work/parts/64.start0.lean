/-! the start's world: the cells of both sides by their numbers; what they hold is the empty state -/
def adW (q0 : Nat) (u : Nat → Nat) (q1 : Nat) (w adK adV : Nat → Nat) (tA tN b : Nat) : Nat → Nat := fun i => if i = 0 then q0 else if i < 36 then u i else if i = 36 then q1 else if i < 45 then w (i - 36) else if i < 120 then adK (i - 100) else if i < 140 then adV (i - 120) else if i = 140 then tA else if i = 141 then tN else b
def m100 : Nat → Int32 := upd (upd (upd (upd (fun _ => 0) (0 : Int32).toNatClampNeg 100) (1 : Int32).toNatClampNeg 100) (2 : Int32).toNatClampNeg 100) (3 : Int32).toNatClampNeg 100
def r100 : Nat → Int32 := upd (upd (upd (upd (fun _ => 0) (2 : Int32).toNatClampNeg 100) (3 : Int32).toNatClampNeg 100) (4 : Int32).toNatClampNeg 100) (5 : Int32).toNatClampNeg 100
def h00 : Hp := (fun _ _ => 0, fun i => match i with
  | 2 => m100
  | 9 => m100
  | 16 => m100
  | 37 => r100
  | _ => fun _ => 0, fun _ _ => 0)
theorem arrV_cg {c : ClassId} {N : Nat} {f g : Nat → Value} (h : ∀ j, j < N → f j = g j) : arrV c N f = arrV c N g := by
  unfold arrV
  have e : (fun j : Fin N => f j.val) = fun j => g j.val := funext fun j => h j.val j.isLt
  rw [e]
theorem arr_cg4 {c : ClassId} {f g : Nat → Option Nat} (h0 : f 0 = g 0) (h1 : f 1 = g 1) (h2 : f 2 = g 2) (h3 : f 3 = g 3) : vp_cell c (4, .inr (.inr (.inr (.inr f)))) = vp_cell c (4, .inr (.inr (.inr (.inr g)))) := by
  show arrV c 4 (fun j => va_rf (f j)) = arrV c 4 (fun j => va_rf (g j))
  refine arrV_cg fun j hj => ?_
  match j, hj with
  | 0, _ => exact congrArg va_rf h0
  | 1, _ => exact congrArg va_rf h1
  | 2, _ => exact congrArg va_rf h2
  | 3, _ => exact congrArg va_rf h3
  | k + 4, h => exact absurd h (by omega)
set_option maxRecDepth 100000 in
theorem wP_of {D : va_G} {H : Heap} {cI cJ cS : ClassId} {q0 : Nat} {u : Nat → Nat} {q1 : Nat} {w adK adV : Nat → Nat} {tA tN b : Nat} (hP : va_P D cls7 (wo_X5_init cI cJ cS q0 u ++ wo_X6_init cI cJ q1 w) H) : va_P D cls7 (wW (adW q0 u q1 w adK adV tA tN b) (cI, cJ, cS) h00) H := by
  intro k q hk
  have h45 : k < 45 := by
    rcases Nat.lt_or_ge k 45 with z | z
    · exact z
    · rw [wW_out _ _ _ (Nat.not_lt.mpr z)] at hk
      cases hk
  rw [wW_at _ _ _ h45] at hk
  cases hk
  match k, h45 with
  | 0, _ => exact hP 0 _ rfl
  | 1, _ => exact hP 1 _ rfl
  | 2, _ => exact hP 2 _ rfl
  | 3, _ => exact hP 3 _ rfl
  | 4, _ => exact hP 4 _ rfl
  | 5, _ => exact hP 5 _ rfl
  | 6, _ => exact hP 6 _ rfl
  | 7, _ => exact hP 7 _ rfl
  | 8, _ => exact hP 8 _ rfl
  | 9, _ => exact hP 9 _ rfl
  | 10, _ => exact hP 10 _ rfl
  | 11, _ => exact hP 11 _ rfl
  | 12, _ => exact hP 12 _ rfl
  | 13, _ => exact hP 13 _ rfl
  | 14, _ => exact hP 14 _ rfl
  | 15, _ => exact hP 15 _ rfl
  | 16, _ => exact hP 16 _ rfl
  | 17, _ => exact hP 17 _ rfl
  | 18, _ => exact hP 18 _ rfl
  | 19, _ => exact hP 19 _ rfl
  | 20, _ => exact hP 20 _ rfl
  | 21, _ => exact hP 21 _ rfl
  | 22, _ => exact hP 22 _ rfl
  | 23, _ => exact hP 23 _ rfl
  | 24, _ =>
    have h24 : H[u 24]? = some (vp_cell cS (4, .inr (.inr (.inr (.inr (va_up (va_up (va_up (va_up (fun _ => none) (0 : Int32).toNatClampNeg (some (u 25))) (1 : Int32).toNatClampNeg (some (u 26))) (2 : Int32).toNatClampNeg (some (u 27))) (3 : Int32).toNatClampNeg (some (u 28)))))))) := hP 24 _ rfl
    show H[u 24]? = some (vp_cell cS (4, .inr (.inr (.inr (.inr (fun j => some (adW q0 u q1 w adK adV tA tN b (25 + j))))))))
    rw [h24]
    exact congrArg some (arr_cg4 rfl rfl rfl rfl)
  | 25, _ => exact hP 25 _ rfl
  | 26, _ => exact hP 26 _ rfl
  | 27, _ => exact hP 27 _ rfl
  | 28, _ => exact hP 28 _ rfl
  | 29, _ => exact hP 29 _ rfl
  | 30, _ => exact hP 30 _ rfl
  | 31, _ => exact hP 31 _ rfl
  | 32, _ => exact hP 32 _ rfl
  | 33, _ => exact hP 33 _ rfl
  | 34, _ => exact hP 34 _ rfl
  | 35, _ => exact hP 35 _ rfl
  | 36, _ => exact hP 36 _ rfl
  | 37, _ => exact hP 37 _ rfl
  | 38, _ => exact hP 38 _ rfl
  | 39, _ => exact hP 39 _ rfl
  | 40, _ => exact hP 40 _ rfl
  | 41, _ => exact hP 41 _ rfl
  | 42, _ => exact hP 42 _ rfl
  | 43, _ => exact hP 43 _ rfl
  | 44, _ => exact hP 44 _ rfl
  | k + 45, h => exact absurd h (by omega)
def ct0 : Cty := (0, 0, fun _ => 100, fun _ => 0, fun _ => 0, fun _ => 0, fun _ => 0, fun _ => 0)
def sy0 : Sy := (ct0, none, fun _ => 0, 0, fun _ => 0, fun _ => 0, fun _ => 0, fun _ _ => 0)
theorem rc0Z : RC h00 1 ct0 := ⟨rfl, rfl, by decide +kernel, fun _ _ => rfl, fun _ _ => rfl, fun _ _ => rfl, fun _ _ => rfl, fun _ _ => rfl⟩
theorem rr0Z : RR h00 37 ct0 := ⟨by decide +kernel, by decide +kernel, by decide +kernel, by decide +kernel, by decide +kernel, by decide +kernel, by decide +kernel, by decide +kernel⟩
theorem four {P : Nat → Prop} (h0 : P 0) (h1 : P 1) (h2 : P 2) (h3 : P 3) : ∀ s, s < 4 → P s
  | 0, _ => h0
  | 1, _ => h1
  | 2, _ => h2
  | 3, _ => h3
theorem rv0Z : RV h00 sy0 := ⟨rc0Z, rfl, (fun _ e => by cases e), fun _ _ => rfl, rfl, fun _ h => absurd h (Nat.not_lt_zero _), fun _ _ => rfl, fun _ _ => rfl, fun _ _ _ _ => rfl⟩
theorem rm0Z : RM h00 sy0 := ⟨rr0Z, rfl, (fun _ e => by cases e), fun _ _ => rfl, rfl, fun _ h => absurd h (Nat.not_lt_zero _), fun _ _ => rfl, fun _ _ => rfl, fun _ _ _ _ => rfl⟩
theorem ws0Z : WS sy0 := ⟨⟨Nat.zero_le _, Nat.zero_le _, fun _ _ => (by decide : 100 ≤ 99999), fun _ _ => (by decide : 0 < 4), fun _ _ => Nat.zero_le _, fun _ h => absurd h (Nat.not_lt_zero _), fun _ _ h => absurd h (Nat.not_lt_zero _), fun _ _ => (by decide : 0 < 6), fun _ _ => Nat.zero_le _⟩, Nat.zero_le _, (fun _ e => by cases e), Nat.zero_le _, fun _ h => absurd h (Nat.not_lt_zero _), fun _ _ => Or.inl rfl, fun _ _ => Nat.zero_le _⟩
