def lwC (p : Program) (l : Launch) (s : State) (m : MethodId) (meth : Method) (c : Code) (b L : Nat) (xs : Nat → Int32) (D : va_G) (y : Nat → ClassId) (ad : Nat → Nat) : Prop :=
  (p.tables.exec = Jvm.exec ∧ c.code = cL_law ∧ c.maxLocals = 15 ∧ s.vm.findClass RL = some m.cls ∧ (∀ w ∈ wsL_law, w.before #[Value.ref b] s = true)) ∧ (va_X b L xs s s.heap ∧ b < s.heap.size ∧ L ≤ 260) ∧ gK D y s ∧ gE ad (lA s) s s.heap ∧ gNc s ∧ l.stackTraces = false
theorem gPc_SA {s : State} {H : Heap} {locs : List Loc} {A : Nat → Prop} {b L : Nat} {xs : Nat → Int32} {As : List Value} (hX : va_X b L xs s s.heap) (hbl : b < s.heap.size) (hbA : ¬ A b) (hS : va_S A s.heap H locs) : PreS s H (gPc b L xs As) As :=
  ⟨gPc_blind, fun U hU hW => ⟨rfl, by rw [hU]; exact (hX.moved hW.alike).kept (hS.2.1 b hbl hbA), by rw [hU]; exact Nat.lt_of_lt_of_le hbl hS.1⟩⟩
/-- from this place on, with k rounds done, both objects in one state, all that was asked as it should be: the rest of the law holds -/
def lwK (p : Program) (l : Launch) (e : Env) (s : State) (m : MethodId) (below : List Frame) (meth : Method) (c : Code) (Q : State → Prop) (b : Nat) (D : va_G) (y : Nat → ClassId) (ad : Nat → Nat) (h1 h2 pc k cells slots : Nat) : Prop :=
  ∀ (S : St) (wa wb : va_W) (H : Heap) (locs : List Loc) (ls : Array Slot) (E As : Int32), SI S → OW y ad h1 S wa → OW y ad h2 S wb → va_P D vwCl (wa ++ wb) H → va_D (lA s) (wa ++ wb) → va_S (lA s) s.heap H locs → lv_has ls 15 [(0, .ref b), (1, .ref h1), (2, .ref h2), (3, .int 1), (4, .int E), (5, .int As), (6, .int (nI k))] → W p l e room_1 s m #[Value.ref b] below meth c H locs cells slots Q (F0 m pc ls [])
theorem one_le {n : Nat} (h : 0 < n) (hn : n ≤ 40) : (1 : Int32) ≤ nI n := by
  have e : (1 : Int32) = nI 1 := by decide
  rw [e]
  exact (nI_leI (by omega) (by omega)).mpr h
theorem g_rem61 {k : Nat} (h : k < 130) : nI k - nI k / 61 * 61 = nI (k % 61) := by
  have e : ∀ k : Fin 130, nI k.val - nI k.val / 61 * 61 = nI (k.val % 61) := by decide
  exact e ⟨k, h⟩
theorem q_130 {k : Nat} (h : k < 130) : ¬ (130 : Int32) ≤ nI k := by
  have e : ∀ k : Fin 130, ¬ (130 : Int32) ≤ nI k.val := by decide
  exact e ⟨k, h⟩
set_option maxHeartbeats 4000000 in
set_option maxRecDepth 100000 in
theorem law_c {p : Program} {l : Launch} {e : Env} {s : State} {m : MethodId} {below : List Frame} {meth : Method} {c : Code} {H : Heap} {locs : List Loc} {cells slots : Nat} {Q : State → Prop} {ls : Array Slot} {D : va_G} {y : Nat → ClassId} {ad : Nat → Nat} {b L : Nat} {xs : Nat → Int32} (C : lwC p l s m meth c b L xs D y ad) {h1 h2 : Nat} {S : St} (hS9 : SI S) {wa wb : va_W} (hwa : OW y ad h1 S wa) (hwb : OW y ad h2 S wb) (hP : va_P D vwCl (wa ++ wb) H) (hD : va_D (lA s) (wa ++ wb)) (hS : va_S (lA s) s.heap H locs) {k cK zK : Nat} {E As X : Int32} (hl : lv_has ls 15 [(0, .ref b), (1, .ref h1), (2, .ref h2), (3, .int 1), (4, .int E), (5, .int As), (6, .int (nI k)), (11, .int (nI (sN S))), (12, .int X)]) (hc : cells + 322 ≤ cK) (hz : slots + 1932 ≤ zK) (hcK : cK ≤ 600074) (hzK : zK ≤ 7301550) (KK : lwK p l e s m below meth c Q b D y ad h1 h2 27 (k + 1) cK zK) : W p l e room_1 s m #[Value.ref b] below meth c H locs cells slots Q (F0 m 339 ls []) := by
  obtain ⟨⟨hx, hb, hml, hown, hts⟩, ⟨hX, hbl, hL⟩, hK, hE, hN, hfl⟩ := id C
  have hA : ∀ q : Nat, s.heap.size ≤ q → lA s q := fun _ h => h
  have hbA : ¬ lA s b := Nat.not_le.mpr hbl
  have hn : sN S ≤ 40 := hS9.1
  rcases Nat.eq_zero_or_pos (sN S) with h0 | h0
  · skip
    refine lv_iload_n hx hb dL_law_339 rfl (lv_at hl 3 rfl) ?_
    refine lv_if_eq (tgt := 373) hx hb dL_law_340 (by decide) (fun c_340 => absurd c_340 (by decide)) (fun c_340 => ?_)
    refine lv_iload hx hb dL_law_343 (lv_at hl 7 rfl) ?_
    refine lv_iconst (v := 1) hx hb dL_law_345 (by decide) ?_
    refine lv_icmp_lt (tgt := 369) hx hb dL_law_346 (by decide) (fun c_346 => ?_) (fun c_346 => absurd (by rw [h0]; decide) c_346)
    refine lv_iconst (v := 1) hx hb dL_law_369 (by decide) ?_
    refine lv_goto (tgt := 374) hx hb dL_law_370 (by decide) ?_
    refine lv_istore_n (lv' := [(3, .int 1), (0, .ref b), (1, .ref h1), (2, .ref h2), (4, .int E), (5, .int As), (6, .int (nI k)), (11, .int (nI (sN S))), (12, .int X)]) hx hb dL_law_374 rfl hl (by decide) rfl (fun ls hl => ?_)
    refine lv_iinc (v := nI (k + 1)) (lv' := [(6, .int (nI (k + 1))), (3, .int 1), (0, .ref b), (1, .ref h1), (2, .ref h2), (4, .int E), (5, .int As), (11, .int (nI (sN S))), (12, .int X)]) hx hb dL_law_375 hl (k := 6) rfl (nI_add k 1) (by decide) rfl (fun ls hl => ?_)
    refine lv_goto (tgt := 27) hx hb dL_law_378 (by decide) ?_
    exact W.widen (k := cK) (n := zK) (by omega) (by omega) (KK S wa wb H locs ls E As hS9 hwa hwb hP hD hS (lv_sub hl [2, 3, 4, 1, 5, 6, 0] rfl))
  · skip
    refine lv_iload_n hx hb dL_law_339 rfl (lv_at hl 3 rfl) ?_
    refine lv_if_eq (tgt := 373) hx hb dL_law_340 (by decide) (fun c_340 => absurd c_340 (by decide)) (fun c_340 => ?_)
    refine lv_iload hx hb dL_law_343 (lv_at hl 7 rfl) ?_
    refine lv_iconst (v := 1) hx hb dL_law_345 (by decide) ?_
    refine lv_icmp_lt (tgt := 369) hx hb dL_law_346 (by decide) (fun c_346 => absurd c_346 (Int32.not_lt.mpr (one_le h0 hn))) (fun c_346 => ?_)
    refine lv_iload hx hb dL_law_349 (lv_at hl 6 rfl) ?_
    refine lv_bipush (v := 40) hx hb dL_law_351 (by decide) ?_
    refine lv_irem hx hb dL_law_353 (by decide) ?_
    refine lv_bipush (v := 39) hx hb dL_law_354 (by decide) ?_
    refine lv_icmp_ne (tgt := 369) hx hb dL_law_356 (by decide) (fun c_356 => ?_) (fun c_356 => ?_)
    · skip
      refine lv_iconst (v := 1) hx hb dL_law_369 (by decide) ?_
      refine lv_goto (tgt := 374) hx hb dL_law_370 (by decide) ?_
      refine lv_istore_n (lv' := [(3, .int 1), (0, .ref b), (1, .ref h1), (2, .ref h2), (4, .int E), (5, .int As), (6, .int (nI k)), (11, .int (nI (sN S))), (12, .int X)]) hx hb dL_law_374 rfl hl (by decide) rfl (fun ls hl => ?_)
      refine lv_iinc (v := nI (k + 1)) (lv' := [(6, .int (nI (k + 1))), (3, .int 1), (0, .ref b), (1, .ref h1), (2, .ref h2), (4, .int E), (5, .int As), (11, .int (nI (sN S))), (12, .int X)]) hx hb dL_law_375 hl (k := 6) rfl (nI_add k 1) (by decide) rfl (fun ls hl => ?_)
      refine lv_goto (tgt := 27) hx hb dL_law_378 (by decide) ?_
      exact W.widen (k := cK) (n := zK) (by omega) (by omega) (KK S wa wb H locs ls E As hS9 hwa hwb hP hD hS (lv_sub hl [2, 3, 4, 1, 5, 6, 0] rfl))
    · skip
      refine lv_aload_n hx hb dL_law_359 rfl (lv_at hl 1 rfl) ?_
      refine lv_aload_n hx hb dL_law_360 rfl (lv_at hl 2 rfl) ?_
      refine lv_iload hx hb dL_law_361 (lv_at hl 8 rfl) ?_
      refine g_callN (ws := []) (wc := wa ++ wb) (va_runS (As := [.ref h1, .ref h2, .int X]) (rest := []) ⟨hx, hb, hml, hown, hts⟩ (c_L_areAlike l hfl D y ad hS9 h0 hwa hwb X H.size) (va_cwS 3 hts gL_law_L_areAlike rfl rfl rfl (by decide +kernel) ⟨Nat.le_of_ble_eq_true rfl, Nat.le_of_ble_eq_true rfl⟩) (gPN_SA hP hD hK hE hN hS hA) rfl rfl hl.1 rfl (lv_room (Nat.le_of_ble_eq_true rfl)) dL_law_363 ⟨by show cells + 322 ≤ 600074; omega, by show slots + 1932 ≤ 7301550; omega⟩) hP hD hS hA (fun v9 w9 H locs hf hP hD hS => ?_)
      obtain ⟨rfl, w1a, w1b, rfl, hwa, hwb⟩ := hf
      have hP : va_P D vwCl (w1a ++ w1b) H := hP
      have hD : va_D (lA s) (w1a ++ w1b) := hD
      refine lv_if_eq (tgt := 373) hx hb dL_law_366 (by decide) (fun c_366 => absurd c_366 (by decide)) (fun c_366 => ?_)
      refine lv_iconst (v := 1) hx hb dL_law_369 (by decide) ?_
      refine lv_goto (tgt := 374) hx hb dL_law_370 (by decide) ?_
      refine lv_istore_n (lv' := [(3, .int 1), (0, .ref b), (1, .ref h1), (2, .ref h2), (4, .int E), (5, .int As), (6, .int (nI k)), (11, .int (nI (sN S))), (12, .int X)]) hx hb dL_law_374 rfl hl (by decide) rfl (fun ls hl => ?_)
      refine lv_iinc (v := nI (k + 1)) (lv' := [(6, .int (nI (k + 1))), (3, .int 1), (0, .ref b), (1, .ref h1), (2, .ref h2), (4, .int E), (5, .int As), (11, .int (nI (sN S))), (12, .int X)]) hx hb dL_law_375 hl (k := 6) rfl (nI_add k 1) (by decide) rfl (fun ls hl => ?_)
      refine lv_goto (tgt := 27) hx hb dL_law_378 (by decide) ?_
      exact W.widen (k := cK) (n := zK) (by omega) (by omega) (KK S w1a w1b H locs ls E As hS9 hwa hwb hP hD hS (lv_sub hl [2, 3, 4, 1, 5, 6, 0] rfl))
