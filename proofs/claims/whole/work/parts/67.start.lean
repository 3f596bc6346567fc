/-! the law from its entry -/
set_option maxRecDepth 100000 in
theorem mw_61 : Cond.classLink RL 7 RX5 ∈ WT := inT_mem (i := 77) (by decide +kernel)
set_option maxRecDepth 100000 in
theorem mw_62 : Cond.classLink RL 10 RX6 ∈ WT := inT_mem (i := 706) (by decide +kernel)
set_option maxRecDepth 100000 in
theorem mw_63 : Cond.instantiable RX5 9 ∈ WT := inT_mem (i := 78) (by decide +kernel)
set_option maxRecDepth 100000 in
theorem mw_64 : Cond.instantiable RX6 15 ∈ WT := inT_mem (i := 707) (by decide +kernel)
set_option maxRecDepth 100000 in
theorem mw_65 : Cond.initialized RX5 ∈ WT := inT_mem (i := 63) (by decide +kernel)
set_option maxRecDepth 100000 in
theorem mw_66 : Cond.initialized RX6 ∈ WT := inT_mem (i := 67) (by decide +kernel)
set_option maxRecDepth 100000 in
theorem mw_67 : Cond.methodLink RL 9 yX5_init ∈ WT := inT_mem (i := 79) (by decide +kernel)
set_option maxRecDepth 100000 in
theorem mw_68 : Cond.methodLink RL 12 yX6_init ∈ WT := inT_mem (i := 708) (by decide +kernel)
set_option maxRecDepth 100000 in
theorem mw_69 : Cond.instanceMethod yX5_init ∈ WT := inT_mem (i := 80) (by decide +kernel)
set_option maxRecDepth 100000 in
theorem mw_70 : Cond.instanceMethod yX6_init ∈ WT := inT_mem (i := 709) (by decide +kernel)
theorem kn_all {s : State} {args : Array Value} (htW : ∀ w ∈ WT, w.before args s = true) : ∃ (D : va_G) (cI cJ : ClassId), va_K D cls7 (ty2 cI cJ) s := by
  obtain ⟨c1, i1, h1⟩ := u_known (C := RX1) (T := TX1) (N := 8) (n := 8) htW (lay_ok (c := 1) (by decide)) (htW _ mw_29)
  obtain ⟨c3, i3, h3⟩ := u_known (C := RX3) (T := TX3) (N := 3) (n := 3) htW (lay_ok (c := 3) (by decide)) (htW _ mw_47)
  obtain ⟨c4, i4, h4⟩ := u_known (C := RX4) (T := TX4) (N := 6) (n := 6) htW (lay_ok (c := 4) (by decide)) (htW _ mw_38)
  obtain ⟨c5, i5, h5⟩ := u_known (C := RX5) (T := TX5) (N := 9) (n := 9) htW (lay_ok (c := 5) (by decide)) (htW _ mw_63)
  obtain ⟨c6, i6, h6⟩ := u_known (C := RX6) (T := TX6) (N := 15) (n := 15) htW (lay_ok (c := 6) (by decide)) (htW _ mw_64)
  obtain ⟨cI, kI, pI, g1, g2, g3⟩ := Cond.arrayClass_spec (htW _ mw_5)
  obtain ⟨cJ, kJ, pJ, g4, g5, g6⟩ := Cond.arrayClass_spec (htW _ mw_16)
  refine ⟨(fun k => [c1, c1, c1, c3, c4, c5, c6].getD k 0, fun k => [i1, i1, i1, i3, i4, i5, i6].getD k (fun _ => 0)), cI, cJ, fun k q h => ?_, fun k q h => ?_⟩
  · match k, h with
    | 0, h => cases h; exact h1
    | 1, h => cases h; exact h1
    | 2, h => cases h; exact h1
    | 3, h => cases h; exact h3
    | 4, h => cases h; exact h4
    | 5, h => cases h; exact h5
    | 6, h => cases h; exact h6
    | k + 7, h => simp [cls7] at h
  · match k, h with
    | 0, h => cases h; exact ⟨fun n z => ⟨fun k h => (by cases h), kI, g2, pI, g3⟩, g1⟩
    | 1, h => cases h; exact ⟨fun n z => ⟨fun k h => (by cases h), kJ, g5, pJ, g6⟩, g4⟩
    | k + 2, h => simp at h
set_option maxRecDepth 100000 in
theorem lm_28 : Cond.methodLinkNest RX5 28 yX4_init RX5 ∈ lw_tbl := by decide +kernel
set_option maxRecDepth 100000 in
theorem lm_49 : Cond.methodLinkNest RX5 49 yX3_init RX5 ∈ lw_tbl := by decide +kernel
set_option maxRecDepth 100000 in
theorem lm_ao : Cond.arrayOver (.object RX3) ∈ lw_tbl := by decide +kernel
set_option maxHeartbeats 8000000 in
set_option maxRecDepth 100000 in
theorem whole_start {p : Program} {e : Env} {s : State} {m : MethodId} {below : List Frame} {meth : Method} {c : Code} (l : Launch) (hflags : l.flags = flags0) {b L : Nat} {xs : Nat → Int32} (hL : L ≤ 3072) (C0 : lw_At p s m meth c b L xs) : W p l e room_1 s m #[Value.ref b] below meth c s.heap [] 0 0 (lw_Z below #[Value.ref b] s) (entryFrame m ([Value.ref b] : List Value).toArray 4) := by
  obtain ⟨hx, hb, hr, hml, hown, hts, hX, hbl, hlocks, hgv⟩ := id C0
  have htW : ∀ w ∈ WT, w.before #[Value.ref b] s = true := fun w hw => hts w (List.mem_filter.mp hw).1
  have hN28 : va_Nw (.methodLinkNest RX5 28 yX4_init RX5) s := va_Nw.of rfl (hts _ lm_28)
  have hN49 : va_Nw (.methodLinkNest RX5 49 yX3_init RX5) s := va_Nw.of rfl (hts _ lm_49)
  have hAO : va_AO RX3 s := va_AO.of (hts _ lm_ao)
  have hA : ∀ q : Nat, s.heap.size ≤ q → (fun q : Nat => s.heap.size ≤ q) q := fun _ h => h
  obtain ⟨D, cI, cJ, hK⟩ := kn_all htW
  have hS : va_S (fun q : Nat => s.heap.size ≤ q) s.heap s.heap [] := va_S.rf
  have hP : va_P D cls7 [] s.heap := fun k q h => by simp at h
  have hD : va_D (fun q : Nat => s.heap.size ≤ q) [] := ⟨fun i j p q h => by simp at h, fun k q h => by simp at h⟩
  have hl := lv_entry ([.ref b]) (n := 4) (Nat.le_of_ble_eq_true rfl)
  rw [lg_entry_eq]
  generalize (lg_sl ([.ref b]) ++ List.replicate (4 - (lg_sl ([.ref b])).length) Slot.unset).toArray = ls at hl ⊢
  have hl : lv_has ls 4 [(0, .ref b)] := hl
  refine va_new (ci := 5) (fs := [.null, .null, .null, .int 0, .null, .null, .null, .null, .null]) (C := RX5) (T := TX5) (N := 9) hx hb htW (lay_ok (c := 5) (by decide)) tyX5 tyX5_ok hown (htW _ mw_61) (htW _ mw_63) (htW _ mw_65) hK hP hD hS hA rfl (fun j hj => by rcases (show j = 0 ∨ j = 1 ∨ j = 2 ∨ j = 3 ∨ j = 4 ∨ j = 5 ∨ j = 6 ∨ j = 7 ∨ j = 8 by omega) with rfl | rfl | rfl | rfl | rfl | rfl | rfl | rfl | rfl <;> rfl) (Nat.le_of_ble_eq_true rfl) (Nat.le_of_ble_eq_true rfl) dL_law_0 (fun h5 H hP hD hS => ?_)
  have hP : va_P D cls7 [(h5, .inr (5, [.null, .null, .null, .int 0, .null, .null, .null, .null, .null]))] H := hP
  have hD : va_D (fun q : Nat => s.heap.size ≤ q) [(h5, .inr (5, [.null, .null, .null, .int 0, .null, .null, .null, .null, .null]))] := hD
  refine W.widen (k := 1) (n := 9) (Nat.le_of_ble_eq_true rfl) (Nat.le_of_ble_eq_true rfl) ?_
  refine lv_dup hx hb dL_law_3 rfl ?_
  have hPc := hP.sub (ws' := [(h5, .inr (5, [.null, .null, .null, .int 0, .null, .null, .null, .null, .null]))]) [0] rfl
  have hDc := hD.sub (ws' := [(h5, .inr (5, [.null, .null, .null, .int 0, .null, .null, .null, .null, .null]))]) [0] (by decide) rfl
  have hKc := hK.sub (tys' := ty2 cI cJ) [0, 1] rfl
  have hFc := va_free (wc := [(h5, .inr (5, [.null, .null, .null, .int 0, .null, .null, .null, .null, .null]))]) hD hS hA [0] rfl
  refine va_callv (va_runI (As := []) (rest := [.ref h5]) ⟨hx, hb, hml, hown, htW⟩ (cc_X5_init l D cI cJ h5 H.size) (cwI 0 htW gi_X5_init rfl rfl rfl (htW _ mw_65) (htW _ mw_67) (htW _ mw_69) rfl (by decide +kernel) ⟨(Nat.le_of_ble_eq_true rfl), (Nat.le_of_ble_eq_true rfl)⟩) ⟨fun a U g mk q => by obtain ⟨q0, q1, qP, qK, qD, n1, n2, n3⟩ := q; exact ⟨q0, q1, qP, va_K.moved (u := U) (U := U.calling g mk a) (Vm.Alike.refl U.vm) qK, qD, va_Nw.same rfl rfl n1, va_Nw.same rfl rfl n2, va_AO.moved (Vm.Alike.refl U.vm) n3⟩, fun U hU hW => ⟨rfl, by rw [hU], by rw [hU]; exact hPc, va_K.moved hW.alike hKc, hDc.weaken (fun _ _ _ _ => trivial), va_Nw.warmM hW hN28, va_Nw.warmM hW hN49, va_AO.moved hW.alike hAO⟩⟩ rfl rfl hl.1 rfl (lv_room (Nat.le_of_ble_eq_true rfl)) dL_law_4 ⟨(Nat.le_of_ble_eq_true rfl), (Nat.le_of_ble_eq_true rfl)⟩) hS (fun q _ h => hFc q h) hFc (fun u5 t H1 locs ht hvm hw hB hz1 hk1 hS => ?_)
  obtain ⟨hP1, hK1, hD1⟩ := hB
  rw [ht] at hP1
  have hK := va_K.moved hvm.symm hK1
  obtain ⟨hP, hD⟩ := va_join (wr := []) (w1 := wo_X5_init cI cJ u5.2 h5 u5.1) hP hD [0] [] rfl rfl (by decide) (by decide) hk1 hFc hP1 hD1
  generalize H1 = H at hP hS ⊢
  have hP : va_P D cls7 (wo_X5_init cI cJ u5.2 h5 u5.1) H := hP
  have hD : va_D (fun q : Nat => s.heap.size ≤ q) (wo_X5_init cI cJ u5.2 h5 u5.1) := hD
  refine va_forget (fun q hq => hS.2.2 q hq) ?_
  have hS : va_S (fun q : Nat => s.heap.size ≤ q) s.heap H [] := ⟨hS.1, hS.2.1, fun q h => by cases h⟩
  refine W.widen (k := 36) (n := 522) (Nat.le_of_ble_eq_true rfl) (Nat.le_of_ble_eq_true rfl) ?_
  refine lv_astore_n (lv' := [(1, .ref h5), (0, .ref b)]) hx hb dL_law_7 rfl hl (by decide) rfl (fun ls hl => ?_)
  refine va_new (ci := 6) (fs := [.null, .null, .null, .int 0, .null, .null, .int 0, .int 0, .int 0, .int 0, .int 0, .int 0, .null, .null, .null]) (C := RX6) (T := TX6) (N := 15) hx hb htW (lay_ok (c := 6) (by decide)) tyX6 tyX6_ok hown (htW _ mw_62) (htW _ mw_64) (htW _ mw_66) hK hP hD hS hA rfl (fun j hj => by rcases (show j = 0 ∨ j = 1 ∨ j = 2 ∨ j = 3 ∨ j = 4 ∨ j = 5 ∨ j = 6 ∨ j = 7 ∨ j = 8 ∨ j = 9 ∨ j = 10 ∨ j = 11 ∨ j = 12 ∨ j = 13 ∨ j = 14 by omega) with rfl | rfl | rfl | rfl | rfl | rfl | rfl | rfl | rfl | rfl | rfl | rfl | rfl | rfl | rfl <;> rfl) (Nat.le_of_ble_eq_true rfl) (Nat.le_of_ble_eq_true rfl) dL_law_8 (fun h6 H hP hD hS => ?_)
  refine W.widen (k := 37) (n := 537) (Nat.le_of_ble_eq_true rfl) (Nat.le_of_ble_eq_true rfl) ?_
  refine lv_dup hx hb dL_law_11 rfl ?_
  have hPc := hP.sub (ws' := [(h6, .inr (6, [.null, .null, .null, .int 0, .null, .null, .int 0, .int 0, .int 0, .int 0, .int 0, .int 0, .null, .null, .null]))]) [36] rfl
  have hDc := hD.sub (ws' := [(h6, .inr (6, [.null, .null, .null, .int 0, .null, .null, .int 0, .int 0, .int 0, .int 0, .int 0, .int 0, .null, .null, .null]))]) [36] (by decide) rfl
  have hKc := hK.sub (tys' := ty2 cI cJ) [0, 1] rfl
  have hFc := va_free (wc := [(h6, .inr (6, [.null, .null, .null, .int 0, .null, .null, .int 0, .int 0, .int 0, .int 0, .int 0, .int 0, .null, .null, .null]))]) hD hS hA [36] rfl
  refine va_callv (va_runI (As := []) (rest := [.ref h6]) ⟨hx, hb, hml, hown, htW⟩ (cc_X6_init l D cI cJ h6 H.size) (cwI 0 htW gi_X6_init rfl rfl rfl (htW _ mw_66) (htW _ mw_68) (htW _ mw_70) rfl (by decide +kernel) ⟨(Nat.le_of_ble_eq_true rfl), (Nat.le_of_ble_eq_true rfl)⟩) ⟨fun a U g mk q => by obtain ⟨q0, q1, qP, qK, qD⟩ := q; exact ⟨q0, q1, qP, va_K.moved (u := U) (U := U.calling g mk a) (Vm.Alike.refl U.vm) qK, qD⟩, fun U hU hW => ⟨rfl, by rw [hU], by rw [hU]; exact hPc, va_K.moved hW.alike hKc, hDc.weaken (fun _ _ _ _ => trivial)⟩⟩ rfl rfl hl.1 rfl (lv_room (Nat.le_of_ble_eq_true rfl)) dL_law_12 ⟨(Nat.le_of_ble_eq_true rfl), (Nat.le_of_ble_eq_true rfl)⟩) hS (fun q _ h => hFc q h) hFc (fun u6 t H1 locs ht hvm hw hB hz1 hk1 hS => ?_)
  obtain ⟨hP1, -, hD1⟩ := hB
  rw [ht] at hP1
  obtain ⟨hP, hD⟩ := va_join (wr := wo_X5_init cI cJ u5.2 h5 u5.1) (w1 := wo_X6_init cI cJ h6 u6) hP hD [36] (List.range 36) rfl rfl (by decide) (by decide) hk1 hFc hP1 hD1
  generalize H1 = H at hP hS ⊢
  refine va_forget (fun q hq => hS.2.2 q hq) ?_
  have hS : va_S (fun q : Nat => s.heap.size ≤ q) s.heap H [] := ⟨hS.1, hS.2.1, fun q h => by cases h⟩
  refine W.widen (k := 45) (n := 970) (Nat.le_of_ble_eq_true rfl) (Nat.le_of_ble_eq_true rfl) ?_
  refine lv_astore_n (lv' := [(2, .ref h6), (1, .ref h5), (0, .ref b)]) hx hb dL_law_15 rfl hl (by decide) rfl (fun ls hl => ?_)
  refine lv_iconst (v := 0) hx hb dL_law_16 (by decide) ?_
  refine lv_istore_n (lv' := [(3, .int 0), (2, .ref h6), (1, .ref h5), (0, .ref b)]) hx hb dL_law_17 rfl hl (by decide) rfl (fun ls hl => ?_)
  exact law_mid hL C0 hK hP hD hS hl
