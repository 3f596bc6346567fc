/-! the law's loop on the machine, from behind its first calls -/
set_option maxRecDepth 100000 in
theorem wo_atW {cI cJ cS : ClassId} {q0 : Nat} {u : Nat → Nat} {q1 : Nat} {w adK adV : Nat → Nat} {tA tN b : Nat} : ∀ i, i < 45 → ∃ e : va_E, (wo_X5_init cI cJ cS q0 u ++ wo_X6_init cI cJ q1 w)[i]? = some (adW q0 u q1 w adK adV tA tN b i, e)
  | 0, _ => ⟨_, rfl⟩
  | 1, _ => ⟨_, rfl⟩
  | 2, _ => ⟨_, rfl⟩
  | 3, _ => ⟨_, rfl⟩
  | 4, _ => ⟨_, rfl⟩
  | 5, _ => ⟨_, rfl⟩
  | 6, _ => ⟨_, rfl⟩
  | 7, _ => ⟨_, rfl⟩
  | 8, _ => ⟨_, rfl⟩
  | 9, _ => ⟨_, rfl⟩
  | 10, _ => ⟨_, rfl⟩
  | 11, _ => ⟨_, rfl⟩
  | 12, _ => ⟨_, rfl⟩
  | 13, _ => ⟨_, rfl⟩
  | 14, _ => ⟨_, rfl⟩
  | 15, _ => ⟨_, rfl⟩
  | 16, _ => ⟨_, rfl⟩
  | 17, _ => ⟨_, rfl⟩
  | 18, _ => ⟨_, rfl⟩
  | 19, _ => ⟨_, rfl⟩
  | 20, _ => ⟨_, rfl⟩
  | 21, _ => ⟨_, rfl⟩
  | 22, _ => ⟨_, rfl⟩
  | 23, _ => ⟨_, rfl⟩
  | 24, _ => ⟨_, rfl⟩
  | 25, _ => ⟨_, rfl⟩
  | 26, _ => ⟨_, rfl⟩
  | 27, _ => ⟨_, rfl⟩
  | 28, _ => ⟨_, rfl⟩
  | 29, _ => ⟨_, rfl⟩
  | 30, _ => ⟨_, rfl⟩
  | 31, _ => ⟨_, rfl⟩
  | 32, _ => ⟨_, rfl⟩
  | 33, _ => ⟨_, rfl⟩
  | 34, _ => ⟨_, rfl⟩
  | 35, _ => ⟨_, rfl⟩
  | 36, _ => ⟨_, rfl⟩
  | 37, _ => ⟨_, rfl⟩
  | 38, _ => ⟨_, rfl⟩
  | 39, _ => ⟨_, rfl⟩
  | 40, _ => ⟨_, rfl⟩
  | 41, _ => ⟨_, rfl⟩
  | 42, _ => ⟨_, rfl⟩
  | 43, _ => ⟨_, rfl⟩
  | 44, _ => ⟨_, rfl⟩
  | k + 45, h => absurd h (by omega)
theorem adW_K {q0 : Nat} {u : Nat → Nat} {q1 : Nat} {w adK adV : Nat → Nat} {tA tN b : Nat} : ∀ i, i < 11 → adW q0 u q1 w adK adV tA tN b (100 + i) = adK i := by
  intro i hi
  unfold adW
  rw [if_neg (by omega), if_neg (by omega), if_neg (by omega), if_neg (by omega), if_pos (by omega), Nat.add_sub_cancel_left]
theorem adW_V {q0 : Nat} {u : Nat → Nat} {q1 : Nat} {w adK adV : Nat → Nat} {tA tN b : Nat} : ∀ i, i < 11 → adW q0 u q1 w adK adV tA tN b (120 + i) = adV i := by
  intro i hi
  unfold adW
  rw [if_neg (by omega), if_neg (by omega), if_neg (by omega), if_neg (by omega), if_neg (by omega), if_pos (by omega), Nat.add_sub_cancel_left]
set_option maxHeartbeats 4000000 in
set_option maxRecDepth 100000 in
theorem law_mid {p : Program} {e : Env} {s : State} {m : MethodId} {below : List Frame} {meth : Method} {c : Code} {l : Launch} {b L : Nat} {xs : Nat → Int32} (hL : L ≤ 3072) (C0 : lw_At p s m meth c b L xs) {D : va_G} {cI cJ cA : ClassId} {q0 : Nat} {u : Nat → Nat} {q1 : Nat} {w : Nat → Nat} {H : Heap} {ls : Array Slot}
    (hK : va_K D cls7 [(cI, .int), (cJ, .long), (cA, .object RX3)] s) (hP : va_P D cls7 (wo_X5_init cI cJ cA q0 u ++ wo_X6_init cI cJ q1 w) H) (hD : va_D (fun q : Nat => s.heap.size ≤ q) (wo_X5_init cI cJ cA q0 u ++ wo_X6_init cI cJ q1 w)) (hS : va_S (fun q : Nat => s.heap.size ≤ q) s.heap H []) (hl : lv_has ls 4 [(3, .int 0), (2, .ref q1), (1, .ref q0), (0, .ref b)]) :
    W p l e room_1 s m #[Value.ref b] below meth c H [] 45 970 (lw_Z below #[Value.ref b] s) (F0 m 18 ls []) := by
  obtain ⟨hx, hb, hr, hml, hown, hts, hX, hbl, hlocks, hgv⟩ := id C0
  have htW : ∀ w ∈ WT, w.before #[Value.ref b] s = true := fun w hw => hts w (List.mem_filter.mp hw).1
  obtain ⟨adK, adV, tA, tN, vS, hvS, hCK⟩ := ck_of hts hgv
  have hP := wP_of (adK := adK) (adV := adV) (tA := tA) (tN := tN) (b := b) hP
  have hat := fun i (hi : i < 45) => wo_atW (cI := cI) (cJ := cJ) (cS := cA) (q0 := q0) (u := u) (q1 := q1) (w := w) (adK := adK) (adV := adV) (tA := tA) (tN := tN) (b := b) i hi
  obtain ⟨ad, had⟩ : ∃ ad : Nat → Nat, ad = adW q0 u q1 w adK adV tA tN b := ⟨_, rfl⟩
  have hb142 : ad 142 = b := by rw [had]; rfl
  have h036 : ad 0 = q0 ∧ ad 36 = q1 := by rw [had]; exact ⟨rfl, rfl⟩
  have hCK := hCK ad (by rw [had]; exact adW_K) (by rw [had]; exact adW_V) (by rw [had]; rfl) (by rw [had]; rfl)
  rw [← had] at hP hat
  have hAB : ∀ q, oA ad q → s.heap.size ≤ q := by
    rintro q ⟨i, hi, rfl⟩
    obtain ⟨e1, h1⟩ := hat i hi
    exact hD.2 i _ h1
  have hinj : ∀ i j : Nat, i < 45 → j < 45 → ad i = ad j → i = j := by
    intro i j hi hj e1
    obtain ⟨e2, h2⟩ := hat i hi
    obtain ⟨e3, h3⟩ := hat j hj
    exact hD.1 i j _ _ h2 h3 e1
  have hCK := hCK hAB
  have hS1 : va_S (oA ad) s.heap H [] := ⟨hS.1, fun q h1 _ => hS.2.1 q h1 (Nat.not_le.mpr h1), fun q h => by cases h⟩
  obtain ⟨n, v, h', hrun, rfl⟩ := lawL (E := (xs, L)) (Q := fun v _ => v = some (.int (nI 1))) (show L < 1000000 by omega) (fun _ => rfl) 512 0 h00 sy0 rv0Z rm0Z ws0Z (show L ≤ 0 + 6 * 512 by omega) (by omega)
  have hC : Cx (xs, L) ad vS (cI, cJ, cA) D mL_law p room_1 s m #[Value.ref b] c := ⟨hx, hb, hml, hown, htW, hK, hCK, hvS, hinj, fun _ => ⟨by rw [hb142]; exact hX, by rw [hb142]; exact hbl, fun z => absurd (hAB _ z) (by rw [hb142]; exact Nat.not_le.mpr hbl), show L < 2 ^ 31 by omega⟩, rfl, rfl⟩
  have hlr : lr ad vS ls 4 [.ref 142, .ref 0, .ref 36, .int 0] := by
    refine ⟨hl.1, hl.2.1, fun i v h hn => ?_⟩
    match i, h with
    | 0, h =>
      cases h
      rw [rl_ref (by omega), hb142]
      exact lv_at hl 3 rfl
    | 1, h =>
      cases h
      rw [rl_ref (by omega), h036.1]
      exact lv_at hl 2 rfl
    | 2, h =>
      cases h
      rw [rl_ref (by omega), h036.2]
      exact lv_at hl 1 rfl
    | 3, h =>
      cases h
      exact lv_at hl 0 rfl
    | i + 4, h => simp at h
  refine run_sound (cy := (cI, cJ, cA)) (D := D) (l := l) n mL_law 18 [.ref 142, .ref 0, .ref 36, .int 0] [] h00 _ h' hrun p e room_1 s m #[Value.ref b] below meth c H [] 45 970 _ ls hC ⟨Nat.le_of_ble_eq_true rfl, Nat.le_of_ble_eq_true rfl⟩ hP hS1 hlr rfl ?_
  intro pc' L' st' H1 locs1 ls1 hst hP1 hS1
  have hret : ∃ pc2, pc' = pc2 ∧ decode mL_law.b pc2 = .ok (.ireturn, 1) ∧ st' = [.int 1] := by
    unfold stp at hst
    split at hst
    case h_2 => cases hst
    case h_1 i ln d =>
      have hk : RtK mL_law pc' st' (some (.int (nI 1))) := by
        rcases out_q hst with ⟨rfl, rfl, e8⟩ | ⟨rfl, rfl, e8⟩ | ⟨rfl, rfl, e8⟩ | ⟨rfl, rfl, e8⟩ | ⟨k, rfl, rfl, e8⟩ | ⟨k, rfl, rfl, e8⟩
        · exact (rtI_q d e8).2
        · exact (rtJ_q d e8).2
        · exact (rtR_q d e8).2
        · exact (rtV_q d e8).2
        · exfalso
          unfold cS at e8
          split at e8
          · exact in_cpy _ e8
          · split at e8
            · exact in_mth _ e8
            · split at e8
              · obtain ⟨-, h2⟩ := ifq e8
                cases h2
              · cases e8
        · exfalso
          unfold cV at e8
          split at e8
          · split at e8
            · obtain ⟨-, h2⟩ := ifq e8
              cases h2
            · cases e8
          · cases e8
      rcases hk with ⟨x, ty, e1, e2, d7, -, -⟩ | ⟨x, -, e2, -⟩ | ⟨a, -, -, e2, -⟩ | ⟨-, e2, -⟩
      · refine ⟨_, rfl, d7, ?_⟩
        cases e2
        exact e1
      · cases e2
      · cases e2
      · cases e2
  obtain ⟨pc2, rfl, hd, rfl⟩ := hret
  refine va_forget (fun q hq => hAB _ (hS1.2.2 q hq)) ?_
  refine W.widen (k := 600000) (n := 7302249) (Nat.le_of_ble_eq_true rfl) (Nat.le_of_ble_eq_true rfl) ?_
  exact lw_ret hx hb hr hlocks hd
