/-! all stays as it may be -/
section KEEP
variable {S : Sy}
theorem W_c (W : WS S) {C : Cty} (c : WC C) (hh : zH C ≤ 99999) : WS (ysC S C) := ⟨c, hh, W.2.2.1, W.2.2.2.1, W.2.2.2.2.1, W.2.2.2.2.2.1, W.2.2.2.2.2.2⟩
theorem W_E {C : Cty} (W : WC C) {e : Nat → Nat} (h : ∀ i, i < 8 → e i ≤ 99) : WC (zsE C e) := ⟨W.1, W.2.1, W.2.2.1, W.2.2.2.1, W.2.2.2.2.1, W.2.2.2.2.2.1, W.2.2.2.2.2.2.1, W.2.2.2.2.2.2.2.1, h⟩
theorem W_setO {C : Cty} (W : WC C) {f x : Nat} (hx : x < 4) : WC (zsO C (updN (zO C) f x)) := by
  refine ⟨W.1, W.2.1, W.2.2.1, fun i hi => ?_, W.2.2.2.2.1, W.2.2.2.2.2.1, W.2.2.2.2.2.2.1, W.2.2.2.2.2.2.2.1, W.2.2.2.2.2.2.2.2⟩
  show updN (zO C) f x i < 4
  unfold updN
  split
  · exact hx
  · exact W.o hi
theorem nv_le {v : Int32} {hi : Nat} (hh : hi < 2 ^ 31) (h : nI 0 ≤ v ∧ v ≤ nI hi) : nv v ≤ hi := by
  obtain ⟨j, _, hj, rfl⟩ := vI_of hh h (Nat.zero_le _)
  rw [nv_nI (by omega)]
  exact hj
theorem nv_lt {v : Int32} {n : Nat} (hn : n < 2 ^ 31) (h : hF v n) : nv v < n := by
  obtain ⟨j, hj, rfl⟩ := hF_of hn h
  rw [nv_nI (by omega)]
  exact hj
theorem k_money (W : WS S) {a b : Int32} : WS (f_money a b S).2 := by
  unfold f_money
  split
  · split
    · next h1 h2 =>
      have q := nv_le (by decide) h2
      refine W_c W (W_M W.1 (fun i hi => ?_)) W.2.1
      unfold updN
      split
      · exact q
      · exact W.1.m hi
    · exact W
  · exact W
theorem k_ownerOf (W : WS S) {a b : Int32} : WS (f_ownerOf a b S).2 := by
  unfold f_ownerOf
  repeat' split
  all_goals exact W
theorem k_frame (W : WS S) {a b : Int32} : WS (f_frame a b S).2 := by
  unfold f_frame
  split
  · split
    · split
      · next h1 h2 h3 =>
        have q1 := nv_le (by decide) h1
        have q2 := nv_le (by decide) h2
        exact W_c W (W_cm (k := nv a) (o := nv b) (fi := 10) (cu := 0) W.1 h3 (by omega) (by omega) (by omega) (by omega)) W.2.1
      · exact W
    · exact W
  · exact W
theorem k_frameOf (W : WS S) {a b : Int32} : WS (f_frameOf a b S).2 := by
  unfold f_frameOf
  repeat' split
  all_goals exact W
theorem k_set (W : WS S) {a w b : Int32} : WS (f_set a w b S).2 := by
  unfold f_set
  split
  · split
    · next h1 h2 =>
      have q := nv_le (by decide) h2.2
      exact W_c W (W_setO W.1 (by omega)) W.2.1
    · split
      · next h1 h2 h3 =>
        have q := nv_le (by decide) h3.2
        exact W_c W (W_setU W.1 q) W.2.1
      · exact W
  · exact W
theorem k_of (W : WS S) {a b : Int32} : WS (f_of a b S).2 := by
  unfold f_of
  repeat' split
  all_goals exact W
theorem k_fine (W : WS S) {a b : Int32} : WS (f_fine a b S).2 := by
  unfold f_fine
  split
  · split
    · next h1 h2 => exact W_c W (W_setE W.1 (nv_le (by decide) h2)) W.2.1
    · exact W
  · exact W
theorem k_turn (W : WS S) {a b : Int32} : WS (f_turn a b S).2 := by
  unfold f_turn
  split
  · split
    · next h1 h2 =>
      have q := nv_le (by decide) h2
      exact W_c W (W_setK W.1 (by omega)) W.2.1
    · exact W
  · exact W
theorem k_as (W : WS S) {a b : Int32} : WS (f_as a b S).2 := by
  unfold f_as
  repeat' split
  all_goals exact W
theorem k_trade (W : WS S) {a b : Int32} : WS (f_trade a b S).2 := by
  have h8 := W.1.f
  unfold f_trade
  split
  · split
    · split
      · exact W
      · split
        · next h1 h2 h3 h4 => exact W_c W (W_exC W.1 (nv_lt (by omega) h1) (nv_lt (by omega) h2)) W.2.1
        · exact W
    · exact W
  · exact W
theorem k_shift (W : WS S) : WS (f_shift S).2 := W_c W (W_rot W.1) W.2.1
theorem k_back (W : WS S) : WS (f_back S).2 := by
  unfold f_back
  split
  · exact W
  · exact W
theorem k_stone (W : WS S) {a b : Int32} : WS (f_stone a b S).2 := by
  unfold f_stone
  repeat' split
  all_goals exact W
theorem k_hours (W : WS S) {n : Int32} : WS (f_hours n S).2 := by
  unfold f_hours
  split
  · split
    · next h1 h2 => exact W_c W (W_goN W.1 _ (by omega)) (by rw [goN_H]; exact h2)
    · exact W
  · exact W
theorem k_now (W : WS S) {a : Int32} : WS (f_now a S).2 := by
  unfold f_now
  repeat' split
  all_goals exact W
theorem k_on (W : WS S) {a b : Int32} : WS (f_on a b S).2 := by
  unfold f_on
  repeat' split
  all_goals exact W
theorem k_then (W : WS S) {a b c : Int32} : WS (f_then a b c S).2 := by
  unfold f_then
  split
  · split
    · split
      · exact W
      · exact W
    · exact W
  · exact W
theorem k_rich (W : WS S) {a b : Int32} : WS (f_rich a b S).2 := by
  unfold f_rich
  repeat' split
  all_goals exact W
theorem k_best (W : WS S) {a b : Int32} : WS (f_best a b S).2 := by
  unfold f_best
  repeat' split
  all_goals exact W
theorem k_kind (W : WS S) {a b : Int32} : WS (f_kind a b S).2 := by
  unfold f_kind
  repeat' split
  all_goals exact W
theorem k_shifts (W : WS S) {a b : Int32} : WS (f_shifts a b S).2 := by
  unfold f_shifts
  repeat' split
  all_goals exact W
theorem k_least (W : WS S) {a b c d : Int32} : WS (f_least a b c d S).2 := by
  unfold f_least
  repeat' split
  all_goals exact W
theorem k_draw (W : WS S) {a : Int32} : WS (f_draw a S).2 := by
  unfold f_draw
  repeat' split
  all_goals exact W
theorem k_richest (W : WS S) {a : Int32} : WS (f_richest a S).2 := by
  unfold f_richest
  repeat' split
  all_goals exact W
theorem fe_le (b : Int32) (n p : Nat) : feB b n p ≤ 255 := by
  unfold feB
  obtain ⟨k, hk, q⟩ := and_255 (b >>> (nI (8 * (n - 1 - p)) &&& 31))
  rw [q, nv_nI (by omega)]
  omega
theorem k_feed (W : WS S) {a b : Int32} : WS (f_feed a b S).2 := by
  unfold f_feed
  split
  · split
    · next h1 h2 =>
      refine ⟨W.1, W.2.1, W.2.2.1, h2, fun i hi => ?_, W.2.2.2.2.2.1, W.2.2.2.2.2.2⟩
      show fedB S a (nv b) i ≤ 255
      unfold fedB
      split
      · next q => exact W.2.2.2.2.1 i q
      · exact fe_le _ _ _
    · exact W
  · exact W
theorem k_wiped (W : WS S) {b : Nat → Nat} : WS (ysB (ysL S 0) b) := ⟨W.1, W.2.1, W.2.2.1, Nat.zero_le _, fun i hi => absurd hi (Nat.not_lt_zero i), W.2.2.2.2.2.1, W.2.2.2.2.2.2⟩
theorem k_city (W : WS S) : WS (f_city S).2 := by
  unfold f_city
  split
  · next c =>
    have g := gd_loop (T := yB S) (L := yL S) 120 1 0 (yC S) (Nat.zero_le _) W.1 c
    have g2 : zH (ldC S).2.2 ≤ 99999 := by
      have := g.2
      have h := W.2.1
      show zH (pLoop (yB S) (yL S) 120 1 0 (yC S)).2.2 ≤ 99999
      omega
    exact k_wiped (S := ysC S (ldC S).2.2) (W_c W g.1 g2)
  · exact k_wiped W
theorem k_sheet (W : WS S) {a b n : Int32} : WS (f_sheet a b n S).2 := by
  unfold f_sheet
  split
  · split
    · split
      · exact W
      · split
        · next h1 h2 h3 h4 =>
          have q : nv n ≤ 40 := nv_le (by decide) ⟨Int32.not_lt.mp h3, h4⟩
          have qb : nv b = 0 ∨ nv b = 8 ∨ nv b = 16 ∨ nv b = 64 := by
            rcases h2 with z | z | z | z
            · exact Or.inl (by rw [z]; rfl)
            · exact Or.inr (Or.inl (by rw [z]; rfl))
            · exact Or.inr (Or.inr (Or.inl (by rw [z]; rfl)))
            · exact Or.inr (Or.inr (Or.inr (by rw [z]; rfl)))
          refine ⟨W.1, W.2.1, W.2.2.1, W.2.2.2.1, W.2.2.2.2.1, fun s hs => ?_, fun s hs => ?_⟩
          · show updN (yW S) (nv a) (nv b) s = 0 ∨ updN (yW S) (nv a) (nv b) s = 8 ∨ updN (yW S) (nv a) (nv b) s = 16 ∨ updN (yW S) (nv a) (nv b) s = 64
            by_cases e : s = nv a
            · rw [e, updN_s]; exact qb
            · rw [updN_n e]; exact W.2.2.2.2.2.1 s hs
          · show updN (yZ S) (nv a) (if nv b = 0 then 0 else nv n) s ≤ 40
            by_cases e : s = nv a
            · rw [e, updN_s]
              split
              · omega
              · exact q
            · rw [updN_n e]; exact W.2.2.2.2.2.2 s hs
        · exact W
    · exact W
  · exact W
theorem k_write (W : WS S) {a b : Int32} {v : Int64} : WS (f_write a b v S).2 := by
  unfold f_write
  repeat' split
  all_goals exact W
theorem k_copy (W : WS S) {a p b q n : Int32} : WS (f_copy a p b q n S).2 := by
  unfold f_copy
  repeat' split
  all_goals exact W
theorem k_lays (W : WS S) {a : Int32} : WS (f_lays a S).2 := by
  unfold f_lays
  split
  · split
    · exact W
    · exact W_c W (W_E W.1 (layE_le _ (fun i hi => W.1.e hi))) W.2.1
  · exact W
theorem k_book (W : WS S) {a b : Int32} : WS (f_book a b S).2 := by
  unfold f_book
  repeat' split
  all_goals exact W
theorem k_read (W : WS S) {a b c : Int32} : WS (f_read a b c S).2 := by
  unfold f_read
  repeat' split
  all_goals exact W
theorem k_image (W : WS S) : WS (f_image S).2 := ⟨W.1, W.2.1, fun D hD => by
  have e : some (yC S) = some D := hD
  injection e with e
  rw [← e]
  exact ⟨W.1, W.2.1⟩, W.2.2.2.1, W.2.2.2.2.1, W.2.2.2.2.2.1, W.2.2.2.2.2.2⟩
theorem k_undo (W : WS S) : WS (f_undo S).2 := by
  unfold f_undo
  split
  · exact W
  · next D hD => exact W_c W (W.2.2.1 D hD).1 (W.2.2.1 D hD).2
theorem k_tear (W : WS S) : WS (f_tear S).2 := ⟨W.1, W.2.1, fun D hD => by
  have e : (none : Option Cty) = some D := hD
  exact absurd e (by simp), W.2.2.2.1, W.2.2.2.2.1, W.2.2.2.2.2.1, W.2.2.2.2.2.2⟩
theorem k_count (W : WS S) {a : Int32} : WS (f_count a S).2 := by
  unfold f_count
  repeat' split
  all_goals exact W
theorem k_status (W : WS S) {a : Int32} : WS (f_status a S).2 := by
  unfold f_status
  split
  · exact W
  · split
    · exact W
    · exact W
theorem k_home (W : WS S) : WS (f_home S).2 := W
theorem k_wipe (W : WS S) : WS (f_wipe S).2 := k_wiped W
end KEEP
