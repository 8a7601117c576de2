abbrev xScr (y : Nat → ClassId) (ad : Nat → Nat) (h : Nat) (q : Nat → Nat) (n : Nat) (pa : Nat → Nat → Nat) (kd : Nat → Nat) (on ot : Nat → Int32) (pt : Nat → Int64) (fb : Nat → Nat → Bool) (fl fh : Nat → Nat → Int64) (tb : Nat → Nat → Bool) (tl th : Nat → Nat → Int64) (dg : Nat → Int32) (ds : Nat → Int64) (w : va_W) : Prop := ∃ (b1 : Bool) (l1 : Int64) (r1 : Int64) (b2 : Bool) (l2 : Int64) (r2 : Int64) (b3 : Bool) (l3 : Int64) (r3 : Int64) (uz : Nat → Bool) (ul : Nat → Int64) (uh : Nat → Int64) (f1 : Int64) (g1 : Int64) (f2 : Int64) (g2 : Int64), w = wXp y ad h q n b1 l1 r1 b2 l2 r2 b3 l3 r3 uz ul uh f1 g1 f2 g2 pa kd on ot pt fb fl fh tb tl th dg ds
theorem g_p24 {p : Nat} (h : p < 25) : nI p ≤ 24 := nI_le (b := 24) (by omega) (by decide)
theorem g_up {a b : Int32} (h : a < 0 ∨ ¬ a ≤ b) : a < 0 ∨ ¬ a ≤ b := h
theorem in_X7_loadTold_X5 : ∀ w ∈ wsX50, w ∈ wsX7_loadTold := fun _ h => List.mem_cons_of_mem _ (List.mem_append_left _ (List.mem_append_left _ (List.mem_append_left _ (List.mem_append_left _ (List.mem_append_left _ (List.mem_append_right _ h))))))
theorem in_X7_loadTold_X7 : ∀ w ∈ wsX70, w ∈ wsX7_loadTold := fun _ h => List.mem_cons_of_mem _ (List.mem_append_left _ (List.mem_append_left _ (List.mem_append_left _ (List.mem_append_left _ (List.mem_append_right _ h)))))
set_option maxHeartbeats 4000000 in
set_option maxRecDepth 100000 in
theorem c_X7_loadTold_0 (l : Launch) (hfl : l.stackTraces = false) (D : va_G) (y : Nat → ClassId) (ad : Nat → Nat) (sz : Nat) (h : Nat) (q : Nat → Nat) (n : Nat) (b1 : Bool) (l1 r1 : Int64) (b2 : Bool) (l2 r2 : Int64) (b3 : Bool) (l3 r3 : Int64) (uz : Nat → Bool) (ul uh : Nat → Int64) (f1 g1 f2 g2 : Int64) (pa : Nat → Nat → Nat) (kd : Nat → Nat) (on ot : Nat → Int32) (pt : Nat → Int64) (fb : Nat → Nat → Bool) (fl fh : Nat → Nat → Int64) (tb : Nat → Nat → Bool) (tl th : Nat → Nat → Int64) (dg : Nat → Int32) (ds : Nat → Int64) (k p : Nat) (hn : n ≤ 40) (hk : k < n) (hp : p < 25) : Met l yX7_loadTold wsX7_loadTold ({ frames := 2, cells := 0, slots := 0, locals := 46 } : Room) (gPX D y ad [.ref h, .int (nI k), .int (nI p)] (wXp y ad h q n b1 l1 r1 b2 l2 r2 b3 l3 r3 uz ul uh f1 g1 f2 g2 pa kd on ot pt fb fl fh tb tl th dg ds) sz) (gQ D (wXp y ad h q n b1 l1 r1 b2 l2 r2 b3 l3 r3 uz ul uh f1 g1 f2 g2 pa kd on ot pt fb fl fh tb tl th dg ds) (gF none (wXp y ad h q n (sp_X6_load_b1 (tb k) (tl k) (th k) p) (sp_X6_load_lo1 (tb k) (tl k) (th k) p) (sp_X6_load_hi1 (tb k) (tl k) (th k) p) b2 l2 r2 b3 l3 r3 uz ul uh f1 g1 f2 g2 pa kd on ot pt fb fl fh tb tl th dg ds))) 0 0 (va_A (wXp y ad h q n b1 l1 r1 b2 l2 r2 b3 l3 r3 uz ul uh f1 g1 f2 g2 pa kd on ot pt fb fl fh tb tl th dg ds) sz) := by
  refine Met.ofW (cc := cX7_loadTold) (maxL := 4) (ret := none) (by decide) rfl ?_
  intro pg e s m args below meth c s₁ B hml hv
  obtain ⟨rfl, hsz, hP, hK, hD0, hE0⟩ := hv
  have hx := B.exec
  have hb := B.bytes
  have hr := B.returns
  have hts := atoms_spec (ws := wsX7_loadTold) B.pre
  have hown : s.vm.findClass RX7 = some m.cls := findClass_of_methodNamed B.named
  have hlocks := B.notSynchronized
  subst hsz
  obtain ⟨A, hAe⟩ : ∃ A : Nat → Prop, A = va_A (wXp y ad h q n b1 l1 r1 b2 l2 r2 b3 l3 r3 uz ul uh f1 g1 f2 g2 pa kd on ot pt fb fl fh tb tl th dg ds) s.heap.size := ⟨_, rfl⟩
  have hE : gE ad A s s.heap := by rw [hAe]; exact hE0
  have hD : va_D A (wXp y ad h q n b1 l1 r1 b2 l2 r2 b3 l3 r3 uz ul uh f1 g1 f2 g2 pa kd on ot pt fb fl fh tb tl th dg ds) := by rw [hAe]; exact hD0.self (sz := s.heap.size)
  have hA : ∀ q : Nat, s.heap.size ≤ q → A q := fun q h => by rw [hAe]; exact Or.inr h
  have hS : va_S A s.heap s.heap [] := va_S.rf
  have hl := lv_entry ([.ref h, .int (nI k), .int (nI p)]) (n := 4) (Nat.le_of_ble_eq_true rfl)
  rw [lg_entry_eq]
  generalize (lg_sl ([.ref h, .int (nI k), .int (nI p)]) ++ List.replicate (4 - (lg_sl ([.ref h, .int (nI k), .int (nI p)])).length) Slot.unset).toArray = ls at hl ⊢
  have hl : lv_has ls 4 [(0, .ref h), (1, .int (nI k)), (2, .int (nI p))] := hl
  refine lv_aload_n hx hb dX7_loadTold_0 rfl (lv_at hl 0 rfl) ?_
  refine lv_iload_n hx hb dX7_loadTold_1 rfl (lv_at hl 1 rfl) ?_
  refine g_callR (v0 := .ref (pa k 0)) (va_runV (As := [.int (nI k)]) (rest := []) ⟨hx, hb, hml, hown, hts⟩ (c_X7_existing_0 l hfl D y ad s.heap.size h q n b1 l1 r1 b2 l2 r2 b3 l3 r3 uz ul uh f1 g1 f2 g2 pa kd on ot pt fb fl fh tb tl th dg ds k hn hk) (cwV 1 hts gX7_loadTold_X7_existing rfl rfl rfl (by decide +kernel) ⟨Nat.le_of_ble_eq_true rfl, Nat.le_of_ble_eq_true rfl⟩) (gPX_VA hP hD hK hE hS hA 0 rfl rfl) rfl rfl hl.1 rfl (lv_room (Nat.le_of_ble_eq_true rfl)) dX7_loadTold_2 ⟨Nat.zero_le _, Nat.zero_le _⟩) ?_
  refine lv_astore_n (lv' := [(3, .ref (pa k 0)), (0, .ref h), (1, .int (nI k)), (2, .int (nI p))]) hx hb dX7_loadTold_5 rfl hl (by decide) rfl (fun ls hl => ?_)
  refine lv_iload_n hx hb dX7_loadTold_6 rfl (lv_at hl 3 rfl) ?_
  refine lv_iconst (v := 0) hx hb dX7_loadTold_7 (by decide) ?_
  refine lv_bipush (v := 24) hx hb dX7_loadTold_8 (by decide) ?_
  refine g_callv (va_runS (As := [.int (nI p), .int 0, .int 24]) (rest := []) ⟨hx, hb, hml, hown, hts⟩ (c_X7_requireWithin_0 l hfl D y ad s.heap.size (nI p) 0 24 (nI_pos (by omega)) (g_p24 hp)) (va_cwS 3 hts gX7_loadTold_X7_requireWithin rfl rfl rfl (by decide +kernel) ⟨Nat.le_of_ble_eq_true rfl, Nat.le_of_ble_eq_true rfl⟩) (gPX_S0 hK hE hS hA) rfl rfl hl.1 rfl (lv_room (Nat.le_of_ble_eq_true rfl)) dX7_loadTold_10 ⟨Nat.zero_le _, Nat.zero_le _⟩) hP hD hS hA [] rfl (fun H locs hP hD hS => ?_)
  have hP : va_P D vwCl (wXp y ad h q n b1 l1 r1 b2 l2 r2 b3 l3 r3 uz ul uh f1 g1 f2 g2 pa kd on ot pt fb fl fh tb tl th dg ds) H := hP
  have hD : va_D A (wXp y ad h q n b1 l1 r1 b2 l2 r2 b3 l3 r3 uz ul uh f1 g1 f2 g2 pa kd on ot pt fb fl fh tb tl th dg ds) := hD
  refine lv_aload_n hx hb dX7_loadTold_13 rfl (lv_at hl 0 rfl) ?_
  refine va_get (D := D) (ci := 3) (v := .ref (pa k 5)) (C := RX5) (T := TX5) (N := 8) hx hb hts in_X7_loadTold_X5 hown hK.1 hP (9 * k + 0 + 11) (gPL_at (j := 0) (fun _ => rfl) (by decide) hk) rfl 5 (by decide) (hts (.fieldLink RX7 170 "Nestlimit$Program" "told" "LNestlimit$Row;") (List.mem_of_getElem? (i := 1) rfl)) (fun _ h9 => h9) rfl dX7_loadTold_14 ?_
  refine lv_iload_n hx hb dX7_loadTold_17 rfl (lv_at hl 3 rfl) ?_
  refine lv_aload_n hx hb dX7_loadTold_18 rfl (lv_at hl 1 rfl) ?_
  refine va_get (D := D) (ci := 5) (v := .ref (q 1)) (C := RX7) (T := TX7) (N := 8) hx hb hts in_X7_loadTold_X7 hown hK.1 hP 0 rfl rfl 2 (by decide) (hts (.fieldLink RX7 22 "Nestlimit" "answer" "LNestlimit$Interval;") (List.mem_of_getElem? (i := 2) rfl)) (fun _ h9 => h9) rfl dX7_loadTold_19 ?_
  refine g_callW (wc := [((pa k 5), .inr (4, [.ref (pa k 6), .ref (pa k 7), .ref (pa k 8)])), ((pa k 6), .inl (y 2, 25, .inl (gZ (tb k)))), ((pa k 7), .inl (y 1, 25, .inr (.inl (tl k)))), ((pa k 8), .inl (y 1, 25, .inr (.inl (th k)))), ((q 1), .inr (1, [.int (gB b1), .long l1, .long r1]))]) (b := (q 1)) (e0 := .inr (1, [.int (gB b1), .long l1, .long r1])) (e1 := .inr (1, [.int (gB (sp_X6_load_b1 (tb k) (tl k) (th k) p)), .long (sp_X6_load_lo1 (tb k) (tl k) (th k) p), .long (sp_X6_load_hi1 (tb k) (tl k) (th k) p)])) (v0 := none) (fun w0 hw0 => by subst hw0; exact (va_runV (As := [.int (nI p), .ref (q 1)]) (rest := []) ⟨hx, hb, hml, hown, hts⟩ (c_X6_load l D y H.size (pa k 5) (pa k 6) (pa k 7) (pa k 8) 25 (tb k) (tl k) (th k) (q 1) b1 l1 r1 p (by omega) (by decide)) (cwV 2 hts gX7_loadTold_X6_load rfl rfl rfl (by decide +kernel) ⟨Nat.le_of_ble_eq_true rfl, Nat.le_of_ble_eq_true rfl⟩) (gP_VI hP hD hK [9 * k + 5 + 11, 9 * k + 6 + 11, 9 * k + 7 + 11, 9 * k + 8 + 11, 2] (by simp <;> omega) (by show [(gPL _ _)[9 * k + 5]?, (gPL _ _)[9 * k + 6]?, (gPL _ _)[9 * k + 7]?, (gPL _ _)[9 * k + 8]?, some _] = _; rw [gPL_at (j := 5) (fun _ => rfl) (by decide) hk, gPL_at (j := 6) (fun _ => rfl) (by decide) hk, gPL_at (j := 7) (fun _ => rfl) (by decide) hk, gPL_at (j := 8) (fun _ => rfl) (by decide) hk]; rfl) 0 rfl rfl) rfl rfl hl.1 rfl (lv_room (Nat.le_of_ble_eq_true rfl)) dX7_loadTold_22 ⟨Nat.zero_le _, Nat.zero_le _⟩)) hP hD hS hA [9 * k + 5 + 11, 9 * k + 6 + 11, 9 * k + 7 + 11, 9 * k + 8 + 11, 2] (by show [(gPL _ _)[9 * k + 5]?, (gPL _ _)[9 * k + 6]?, (gPL _ _)[9 * k + 7]?, (gPL _ _)[9 * k + 8]?, some _] = _; rw [gPL_at (j := 5) (fun _ => rfl) (by decide) hk, gPL_at (j := 6) (fun _ => rfl) (by decide) hk, gPL_at (j := 7) (fun _ => rfl) (by decide) hk, gPL_at (j := 8) (fun _ => rfl) (by decide) hk]; rfl) 2 rfl ⟨[((pa k 5), .inr (4, [.ref (pa k 6), .ref (pa k 7), .ref (pa k 8)])), ((pa k 6), .inl (y 2, 25, .inl (gZ (tb k)))), ((pa k 7), .inl (y 1, 25, .inr (.inl (tl k)))), ((pa k 8), .inl (y 1, 25, .inr (.inl (th k))))], rfl⟩ (fun H locs hP hD hS => ?_)
  have hP : va_P D vwCl (wXp y ad h q n (sp_X6_load_b1 (tb k) (tl k) (th k) p) (sp_X6_load_lo1 (tb k) (tl k) (th k) p) (sp_X6_load_hi1 (tb k) (tl k) (th k) p) b2 l2 r2 b3 l3 r3 uz ul uh f1 g1 f2 g2 pa kd on ot pt fb fl fh tb tl th dg ds) H := hP
  have hD : va_D A (wXp y ad h q n (sp_X6_load_b1 (tb k) (tl k) (th k) p) (sp_X6_load_lo1 (tb k) (tl k) (th k) p) (sp_X6_load_hi1 (tb k) (tl k) (th k) p) b2 l2 r2 b3 l3 r3 uz ul uh f1 g1 f2 g2 pa kd on ot pt fb fl fh tb tl th dg ds) := hD
  exact W.vret hx hb hr (fun t ht hW => ⟨⟨none, wXp y ad h q n (sp_X6_load_b1 (tb k) (tl k) (th k) p) (sp_X6_load_lo1 (tb k) (tl k) (th k) p) (sp_X6_load_hi1 (tb k) (tl k) (th k) p) b2 l2 r2 b3 l3 r3 uz ul uh f1 g1 f2 g2 pa kd on ot pt fb fl fh tb tl th dg ds, rfl, ⟨rfl, rfl⟩, rfl, by rw [ht]; exact hP⟩, by rw [← hAe]; exact hS.F ht⟩) (by rw [← hAe]; exact hS.2.2) dX7_loadTold_25
set_option maxHeartbeats 4000000 in
set_option maxRecDepth 100000 in
theorem c_X7_loadTold_X1 (l : Launch) (hfl : l.stackTraces = false) (D : va_G) (y : Nat → ClassId) (ad : Nat → Nat) (sz : Nat) (h : Nat) (q : Nat → Nat) (n : Nat) (b1 : Bool) (l1 r1 : Int64) (b2 : Bool) (l2 r2 : Int64) (b3 : Bool) (l3 r3 : Int64) (uz : Nat → Bool) (ul uh : Nat → Int64) (f1 g1 f2 g2 : Int64) (pa : Nat → Nat → Nat) (kd : Nat → Nat) (on ot : Nat → Int32) (pt : Nat → Int64) (fb : Nat → Nat → Bool) (fl fh : Nat → Nat → Int64) (tb : Nat → Nat → Bool) (tl th : Nat → Nat → Int64) (dg : Nat → Int32) (ds : Nat → Int64) (a b : Int32) (hbad : a < 0 ∨ nI n ≤ a) : vx_Met l yX7_loadTold wsX7_loadTold ({ frames := 7, cells := 1, slots := 6, locals := 114 } : Room) (gPX D y ad [.ref h, .int a, .int b] (wXp y ad h q n b1 l1 r1 b2 l2 r2 b3 l3 r3 uz ul uh f1 g1 f2 g2 pa kd on ot pt fb fl fh tb tl th dg ds) sz) gNo (gXC D (wXp y ad h q n b1 l1 r1 b2 l2 r2 b3 l3 r3 uz ul uh f1 g1 f2 g2 pa kd on ot pt fb fl fh tb tl th dg ds) gIOB (fun w => w = wXp y ad h q n b1 l1 r1 b2 l2 r2 b3 l3 r3 uz ul uh f1 g1 f2 g2 pa kd on ot pt fb fl fh tb tl th dg ds)) 1 6 (va_A (wXp y ad h q n b1 l1 r1 b2 l2 r2 b3 l3 r3 uz ul uh f1 g1 f2 g2 pa kd on ot pt fb fl fh tb tl th dg ds) sz) := by
  refine vx_ofW (cc := cX7_loadTold) (maxL := 4) (ret := none) (by decide) rfl ?_
  intro pg e s m args below meth c s₁ B hml hno hv
  obtain ⟨rfl, hsz, hP, hK, hD0, hE0⟩ := hv
  have hx := B.exec
  have hb := B.bytes
  have hr := B.returns
  have hts := atoms_spec (ws := wsX7_loadTold) B.pre
  have hown : s.vm.findClass RX7 = some m.cls := findClass_of_methodNamed B.named
  have hlocks := B.notSynchronized
  subst hsz
  obtain ⟨A, hAe⟩ : ∃ A : Nat → Prop, A = va_A (wXp y ad h q n b1 l1 r1 b2 l2 r2 b3 l3 r3 uz ul uh f1 g1 f2 g2 pa kd on ot pt fb fl fh tb tl th dg ds) s.heap.size := ⟨_, rfl⟩
  have hE : gE ad A s s.heap := by rw [hAe]; exact hE0
  have hD : va_D A (wXp y ad h q n b1 l1 r1 b2 l2 r2 b3 l3 r3 uz ul uh f1 g1 f2 g2 pa kd on ot pt fb fl fh tb tl th dg ds) := by rw [hAe]; exact hD0.self (sz := s.heap.size)
  have hA : ∀ q : Nat, s.heap.size ≤ q → A q := fun q h => by rw [hAe]; exact Or.inr h
  have hS : va_S A s.heap s.heap [] := va_S.rf
  have hl := lv_entry ([.ref h, .int a, .int b]) (n := 4) (Nat.le_of_ble_eq_true rfl)
  rw [lg_entry_eq]
  generalize (lg_sl ([.ref h, .int a, .int b]) ++ List.replicate (4 - (lg_sl ([.ref h, .int a, .int b])).length) Slot.unset).toArray = ls at hl ⊢
  have hl : lv_has ls 4 [(0, .ref h), (1, .int a), (2, .int b)] := hl
  refine lv_aload_n hx hb dX7_loadTold_0 rfl (lv_at hl 0 rfl) ?_
  refine lv_iload_n hx hb dX7_loadTold_1 rfl (lv_at hl 1 rfl) ?_
  exact g_outX (vx_runV (As := [.int a]) (rest := []) ⟨hx, hb, hml, hown, hts⟩ (c_X7_existing_X l hfl D y ad s.heap.size h q n b1 l1 r1 b2 l2 r2 b3 l3 r3 uz ul uh f1 g1 f2 g2 pa kd on ot pt fb fl fh tb tl th dg ds a hbad) (cwV 1 hts gX7_loadTold_X7_existing rfl rfl rfl (by decide +kernel) ⟨Nat.le_of_ble_eq_true rfl, Nat.le_of_ble_eq_true rfl⟩) (gPX_VA hP hD hK hE hS hA 0 rfl rfl) rfl rfl hl.1 rfl (lv_room (Nat.le_of_ble_eq_true rfl)) dX7_loadTold_2 ⟨Nat.le_of_ble_eq_true rfl, Nat.le_of_ble_eq_true rfl⟩) hAe hD hS hA (fun w1 h9 => h9) rfl hno hlocks (Nat.le_of_ble_eq_true rfl) (Nat.le_of_ble_eq_true rfl)
set_option maxHeartbeats 4000000 in
set_option maxRecDepth 100000 in
theorem c_X7_loadTold_X2 (l : Launch) (hfl : l.stackTraces = false) (D : va_G) (y : Nat → ClassId) (ad : Nat → Nat) (sz : Nat) (h : Nat) (q : Nat → Nat) (n : Nat) (b1 : Bool) (l1 r1 : Int64) (b2 : Bool) (l2 r2 : Int64) (b3 : Bool) (l3 r3 : Int64) (uz : Nat → Bool) (ul uh : Nat → Int64) (f1 g1 f2 g2 : Int64) (pa : Nat → Nat → Nat) (kd : Nat → Nat) (on ot : Nat → Int32) (pt : Nat → Int64) (fb : Nat → Nat → Bool) (fl fh : Nat → Nat → Int64) (tb : Nat → Nat → Bool) (tl th : Nat → Nat → Int64) (dg : Nat → Int32) (ds : Nat → Int64) (k : Nat) (b : Int32) (hn : n ≤ 40) (hk : k < n) (hp : b < 0 ∨ ¬ b ≤ 24) : vx_Met l yX7_loadTold wsX7_loadTold ({ frames := 7, cells := 1, slots := 6, locals := 114 } : Room) (gPX D y ad [.ref h, .int (nI k), .int b] (wXp y ad h q n b1 l1 r1 b2 l2 r2 b3 l3 r3 uz ul uh f1 g1 f2 g2 pa kd on ot pt fb fl fh tb tl th dg ds) sz) gNo (gXC D (wXp y ad h q n b1 l1 r1 b2 l2 r2 b3 l3 r3 uz ul uh f1 g1 f2 g2 pa kd on ot pt fb fl fh tb tl th dg ds) gIAE (fun w => w = wXp y ad h q n b1 l1 r1 b2 l2 r2 b3 l3 r3 uz ul uh f1 g1 f2 g2 pa kd on ot pt fb fl fh tb tl th dg ds)) 1 6 (va_A (wXp y ad h q n b1 l1 r1 b2 l2 r2 b3 l3 r3 uz ul uh f1 g1 f2 g2 pa kd on ot pt fb fl fh tb tl th dg ds) sz) := by
  refine vx_ofW (cc := cX7_loadTold) (maxL := 4) (ret := none) (by decide) rfl ?_
  intro pg e s m args below meth c s₁ B hml hno hv
  obtain ⟨rfl, hsz, hP, hK, hD0, hE0⟩ := hv
  have hx := B.exec
  have hb := B.bytes
  have hr := B.returns
  have hts := atoms_spec (ws := wsX7_loadTold) B.pre
  have hown : s.vm.findClass RX7 = some m.cls := findClass_of_methodNamed B.named
  have hlocks := B.notSynchronized
  subst hsz
  obtain ⟨A, hAe⟩ : ∃ A : Nat → Prop, A = va_A (wXp y ad h q n b1 l1 r1 b2 l2 r2 b3 l3 r3 uz ul uh f1 g1 f2 g2 pa kd on ot pt fb fl fh tb tl th dg ds) s.heap.size := ⟨_, rfl⟩
  have hE : gE ad A s s.heap := by rw [hAe]; exact hE0
  have hD : va_D A (wXp y ad h q n b1 l1 r1 b2 l2 r2 b3 l3 r3 uz ul uh f1 g1 f2 g2 pa kd on ot pt fb fl fh tb tl th dg ds) := by rw [hAe]; exact hD0.self (sz := s.heap.size)
  have hA : ∀ q : Nat, s.heap.size ≤ q → A q := fun q h => by rw [hAe]; exact Or.inr h
  have hS : va_S A s.heap s.heap [] := va_S.rf
  have hl := lv_entry ([.ref h, .int (nI k), .int b]) (n := 4) (Nat.le_of_ble_eq_true rfl)
  rw [lg_entry_eq]
  generalize (lg_sl ([.ref h, .int (nI k), .int b]) ++ List.replicate (4 - (lg_sl ([.ref h, .int (nI k), .int b])).length) Slot.unset).toArray = ls at hl ⊢
  have hl : lv_has ls 4 [(0, .ref h), (1, .int (nI k)), (2, .int b)] := hl
  refine lv_aload_n hx hb dX7_loadTold_0 rfl (lv_at hl 0 rfl) ?_
  refine lv_iload_n hx hb dX7_loadTold_1 rfl (lv_at hl 1 rfl) ?_
  refine g_callR (v0 := .ref (pa k 0)) (va_runV (As := [.int (nI k)]) (rest := []) ⟨hx, hb, hml, hown, hts⟩ (c_X7_existing_0 l hfl D y ad s.heap.size h q n b1 l1 r1 b2 l2 r2 b3 l3 r3 uz ul uh f1 g1 f2 g2 pa kd on ot pt fb fl fh tb tl th dg ds k hn hk) (cwV 1 hts gX7_loadTold_X7_existing rfl rfl rfl (by decide +kernel) ⟨Nat.le_of_ble_eq_true rfl, Nat.le_of_ble_eq_true rfl⟩) (gPX_VA hP hD hK hE hS hA 0 rfl rfl) rfl rfl hl.1 rfl (lv_room (Nat.le_of_ble_eq_true rfl)) dX7_loadTold_2 ⟨Nat.zero_le _, Nat.zero_le _⟩) ?_
  refine lv_astore_n (lv' := [(3, .ref (pa k 0)), (0, .ref h), (1, .int (nI k)), (2, .int b)]) hx hb dX7_loadTold_5 rfl hl (by decide) rfl (fun ls hl => ?_)
  refine lv_iload_n hx hb dX7_loadTold_6 rfl (lv_at hl 3 rfl) ?_
  refine lv_iconst (v := 0) hx hb dX7_loadTold_7 (by decide) ?_
  refine lv_bipush (v := 24) hx hb dX7_loadTold_8 (by decide) ?_
  exact g_outS (vx_runS (As := [.int b, .int 0, .int 24]) (rest := []) ⟨hx, hb, hml, hown, hts⟩ (c_X7_requireWithin_X l hfl D y ad s.heap.size b 0 24 hp) (va_cwS 3 hts gX7_loadTold_X7_requireWithin rfl rfl rfl (by decide +kernel) ⟨Nat.le_of_ble_eq_true rfl, Nat.le_of_ble_eq_true rfl⟩) (gPX_S0 hK hE hS hA) rfl rfl hl.1 rfl (lv_room (Nat.le_of_ble_eq_true rfl)) dX7_loadTold_10 ⟨Nat.le_of_ble_eq_true rfl, Nat.le_of_ble_eq_true rfl⟩) hAe hP hS hA rfl rfl hno hlocks (Nat.le_of_ble_eq_true rfl) (Nat.le_of_ble_eq_true rfl)
set_option maxHeartbeats 4000000 in
set_option maxRecDepth 100000 in
theorem c_X7_raw_X1 (l : Launch) (hfl : l.stackTraces = false) (D : va_G) (y : Nat → ClassId) (ad : Nat → Nat) (sz : Nat) (h : Nat) (q : Nat → Nat) (n : Nat) (b1 : Bool) (l1 r1 : Int64) (b2 : Bool) (l2 r2 : Int64) (b3 : Bool) (l3 r3 : Int64) (uz : Nat → Bool) (ul uh : Nat → Int64) (f1 g1 f2 g2 : Int64) (pa : Nat → Nat → Nat) (kd : Nat → Nat) (on ot : Nat → Int32) (pt : Nat → Int64) (fb : Nat → Nat → Bool) (fl fh : Nat → Nat → Int64) (tb : Nat → Nat → Bool) (tl th : Nat → Nat → Int64) (dg : Nat → Int32) (ds : Nat → Int64) (a b : Int32) (bb : Bool) (hbad : a < 0 ∨ nI n ≤ a) : vx_Met l yX7_raw wsX7_raw ({ frames := 7, cells := 1, slots := 6, locals := 114 } : Room) (gPX D y ad [.ref h, .int a, .int b, .int (gB bb)] (wXp y ad h q n b1 l1 r1 b2 l2 r2 b3 l3 r3 uz ul uh f1 g1 f2 g2 pa kd on ot pt fb fl fh tb tl th dg ds) sz) gNo (gXC D (wXp y ad h q n b1 l1 r1 b2 l2 r2 b3 l3 r3 uz ul uh f1 g1 f2 g2 pa kd on ot pt fb fl fh tb tl th dg ds) gIOB (xScr y ad h q n pa kd on ot pt fb fl fh tb tl th dg ds)) 1 6 (va_A (wXp y ad h q n b1 l1 r1 b2 l2 r2 b3 l3 r3 uz ul uh f1 g1 f2 g2 pa kd on ot pt fb fl fh tb tl th dg ds) sz) := by
  refine vx_ofW (cc := cX7_raw) (maxL := 5) (ret := (some .long)) (by decide) rfl ?_
  intro pg e s m args below meth c s₁ B hml hno hv
  obtain ⟨rfl, hsz, hP, hK, hD0, hE0⟩ := hv
  have hx := B.exec
  have hb := B.bytes
  have hr := B.returns
  have hts := atoms_spec (ws := wsX7_raw) B.pre
  have hown : s.vm.findClass RX7 = some m.cls := findClass_of_methodNamed B.named
  have hlocks := B.notSynchronized
  subst hsz
  obtain ⟨A, hAe⟩ : ∃ A : Nat → Prop, A = va_A (wXp y ad h q n b1 l1 r1 b2 l2 r2 b3 l3 r3 uz ul uh f1 g1 f2 g2 pa kd on ot pt fb fl fh tb tl th dg ds) s.heap.size := ⟨_, rfl⟩
  have hE : gE ad A s s.heap := by rw [hAe]; exact hE0
  have hD : va_D A (wXp y ad h q n b1 l1 r1 b2 l2 r2 b3 l3 r3 uz ul uh f1 g1 f2 g2 pa kd on ot pt fb fl fh tb tl th dg ds) := by rw [hAe]; exact hD0.self (sz := s.heap.size)
  have hA : ∀ q : Nat, s.heap.size ≤ q → A q := fun q h => by rw [hAe]; exact Or.inr h
  have hS : va_S A s.heap s.heap [] := va_S.rf
  have hl := lv_entry ([.ref h, .int a, .int b, .int (gB bb)]) (n := 5) (Nat.le_of_ble_eq_true rfl)
  rw [lg_entry_eq]
  generalize (lg_sl ([.ref h, .int a, .int b, .int (gB bb)]) ++ List.replicate (5 - (lg_sl ([.ref h, .int a, .int b, .int (gB bb)])).length) Slot.unset).toArray = ls at hl ⊢
  have hl : lv_has ls 5 [(0, .ref h), (1, .int a), (2, .int b), (3, .int (gB bb))] := hl
  refine lv_aload_n hx hb dX7_raw_0 rfl (lv_at hl 0 rfl) ?_
  refine lv_iload_n hx hb dX7_raw_1 rfl (lv_at hl 1 rfl) ?_
  exact g_outX (vx_runV (As := [.int a]) (rest := []) ⟨hx, hb, hml, hown, hts⟩ (c_X7_existing_X l hfl D y ad s.heap.size h q n b1 l1 r1 b2 l2 r2 b3 l3 r3 uz ul uh f1 g1 f2 g2 pa kd on ot pt fb fl fh tb tl th dg ds a hbad) (cwV 1 hts gX7_raw_X7_existing rfl rfl rfl (by decide +kernel) ⟨Nat.le_of_ble_eq_true rfl, Nat.le_of_ble_eq_true rfl⟩) (gPX_VA hP hD hK hE hS hA 0 rfl rfl) rfl rfl hl.1 rfl (lv_room (Nat.le_of_ble_eq_true rfl)) dX7_raw_2 ⟨Nat.le_of_ble_eq_true rfl, Nat.le_of_ble_eq_true rfl⟩) hAe hD hS hA (fun w1 h9 => by subst h9; exact ⟨_, _, _, _, _, _, _, _, _, _, _, _, _, _, _, _, rfl⟩) rfl hno hlocks (Nat.le_of_ble_eq_true rfl) (Nat.le_of_ble_eq_true rfl)
set_option maxHeartbeats 4000000 in
set_option maxRecDepth 100000 in
theorem c_X7_raw_X2 (l : Launch) (hfl : l.stackTraces = false) (D : va_G) (y : Nat → ClassId) (ad : Nat → Nat) (sz : Nat) (h : Nat) (q : Nat → Nat) (n : Nat) (b1 : Bool) (l1 r1 : Int64) (b2 : Bool) (l2 r2 : Int64) (b3 : Bool) (l3 r3 : Int64) (uz : Nat → Bool) (ul uh : Nat → Int64) (f1 g1 f2 g2 : Int64) (pa : Nat → Nat → Nat) (kd : Nat → Nat) (on ot : Nat → Int32) (pt : Nat → Int64) (fb : Nat → Nat → Bool) (fl fh : Nat → Nat → Int64) (tb : Nat → Nat → Bool) (tl th : Nat → Nat → Int64) (dg : Nat → Int32) (ds : Nat → Int64) (k : Nat) (b : Int32) (bb : Bool) (hn : n ≤ 40) (hk : k < n) (hp : b < 0 ∨ ¬ b ≤ 24) : vx_Met l yX7_raw wsX7_raw ({ frames := 7, cells := 1, slots := 6, locals := 114 } : Room) (gPX D y ad [.ref h, .int (nI k), .int b, .int (gB bb)] (wXp y ad h q n b1 l1 r1 b2 l2 r2 b3 l3 r3 uz ul uh f1 g1 f2 g2 pa kd on ot pt fb fl fh tb tl th dg ds) sz) gNo (gXC D (wXp y ad h q n b1 l1 r1 b2 l2 r2 b3 l3 r3 uz ul uh f1 g1 f2 g2 pa kd on ot pt fb fl fh tb tl th dg ds) gIAE (xScr y ad h q n pa kd on ot pt fb fl fh tb tl th dg ds)) 1 6 (va_A (wXp y ad h q n b1 l1 r1 b2 l2 r2 b3 l3 r3 uz ul uh f1 g1 f2 g2 pa kd on ot pt fb fl fh tb tl th dg ds) sz) := by
  refine vx_ofW (cc := cX7_raw) (maxL := 5) (ret := (some .long)) (by decide) rfl ?_
  intro pg e s m args below meth c s₁ B hml hno hv
  obtain ⟨rfl, hsz, hP, hK, hD0, hE0⟩ := hv
  have hx := B.exec
  have hb := B.bytes
  have hr := B.returns
  have hts := atoms_spec (ws := wsX7_raw) B.pre
  have hown : s.vm.findClass RX7 = some m.cls := findClass_of_methodNamed B.named
  have hlocks := B.notSynchronized
  subst hsz
  obtain ⟨A, hAe⟩ : ∃ A : Nat → Prop, A = va_A (wXp y ad h q n b1 l1 r1 b2 l2 r2 b3 l3 r3 uz ul uh f1 g1 f2 g2 pa kd on ot pt fb fl fh tb tl th dg ds) s.heap.size := ⟨_, rfl⟩
  have hE : gE ad A s s.heap := by rw [hAe]; exact hE0
  have hD : va_D A (wXp y ad h q n b1 l1 r1 b2 l2 r2 b3 l3 r3 uz ul uh f1 g1 f2 g2 pa kd on ot pt fb fl fh tb tl th dg ds) := by rw [hAe]; exact hD0.self (sz := s.heap.size)
  have hA : ∀ q : Nat, s.heap.size ≤ q → A q := fun q h => by rw [hAe]; exact Or.inr h
  have hS : va_S A s.heap s.heap [] := va_S.rf
  have hl := lv_entry ([.ref h, .int (nI k), .int b, .int (gB bb)]) (n := 5) (Nat.le_of_ble_eq_true rfl)
  rw [lg_entry_eq]
  generalize (lg_sl ([.ref h, .int (nI k), .int b, .int (gB bb)]) ++ List.replicate (5 - (lg_sl ([.ref h, .int (nI k), .int b, .int (gB bb)])).length) Slot.unset).toArray = ls at hl ⊢
  have hl : lv_has ls 5 [(0, .ref h), (1, .int (nI k)), (2, .int b), (3, .int (gB bb))] := hl
  refine lv_aload_n hx hb dX7_raw_0 rfl (lv_at hl 0 rfl) ?_
  refine lv_iload_n hx hb dX7_raw_1 rfl (lv_at hl 1 rfl) ?_
  refine g_callR (v0 := .ref (pa k 0)) (va_runV (As := [.int (nI k)]) (rest := []) ⟨hx, hb, hml, hown, hts⟩ (c_X7_existing_0 l hfl D y ad s.heap.size h q n b1 l1 r1 b2 l2 r2 b3 l3 r3 uz ul uh f1 g1 f2 g2 pa kd on ot pt fb fl fh tb tl th dg ds k hn hk) (cwV 1 hts gX7_raw_X7_existing rfl rfl rfl (by decide +kernel) ⟨Nat.le_of_ble_eq_true rfl, Nat.le_of_ble_eq_true rfl⟩) (gPX_VA hP hD hK hE hS hA 0 rfl rfl) rfl rfl hl.1 rfl (lv_room (Nat.le_of_ble_eq_true rfl)) dX7_raw_2 ⟨Nat.zero_le _, Nat.zero_le _⟩) ?_
  refine lv_astore (lv' := [(4, .ref (pa k 0)), (0, .ref h), (1, .int (nI k)), (2, .int b), (3, .int (gB bb))]) hx hb dX7_raw_5 hl (by decide) rfl (fun ls hl => ?_)
  refine lv_iload_n hx hb dX7_raw_7 rfl (lv_at hl 3 rfl) ?_
  refine lv_iconst (v := 0) hx hb dX7_raw_8 (by decide) ?_
  refine lv_bipush (v := 24) hx hb dX7_raw_9 (by decide) ?_
  exact g_outS (vx_runS (As := [.int b, .int 0, .int 24]) (rest := []) ⟨hx, hb, hml, hown, hts⟩ (c_X7_requireWithin_X l hfl D y ad s.heap.size b 0 24 hp) (va_cwS 3 hts gX7_raw_X7_requireWithin rfl rfl rfl (by decide +kernel) ⟨Nat.le_of_ble_eq_true rfl, Nat.le_of_ble_eq_true rfl⟩) (gPX_S0 hK hE hS hA) rfl rfl hl.1 rfl (lv_room (Nat.le_of_ble_eq_true rfl)) dX7_raw_11 ⟨Nat.le_of_ble_eq_true rfl, Nat.le_of_ble_eq_true rfl⟩) hAe hP hS hA ⟨_, _, _, _, _, _, _, _, _, _, _, _, _, _, _, _, rfl⟩ rfl hno hlocks (Nat.le_of_ble_eq_true rfl) (Nat.le_of_ble_eq_true rfl)
theorem in_X7_raw_X5 : ∀ w ∈ wsX50, w ∈ wsX7_raw := fun _ h => List.mem_cons_of_mem _ (List.mem_append_left _ (List.mem_append_left _ (List.mem_append_left _ (List.mem_append_left _ (List.mem_append_left _ (List.mem_append_left _ (List.mem_append_right _ h)))))))
theorem in_X7_raw_X7 : ∀ w ∈ wsX70, w ∈ wsX7_raw := fun _ h => List.mem_cons_of_mem _ (List.mem_append_left _ (List.mem_append_left _ (List.mem_append_left _ (List.mem_append_left _ (List.mem_append_left _ (List.mem_append_right _ h))))))
set_option maxHeartbeats 4000000 in
set_option maxRecDepth 100000 in
theorem c_X7_raw_X3 (l : Launch) (hfl : l.stackTraces = false) (D : va_G) (y : Nat → ClassId) (ad : Nat → Nat) (sz : Nat) (h : Nat) (q : Nat → Nat) (n : Nat) (b1 : Bool) (l1 r1 : Int64) (b2 : Bool) (l2 r2 : Int64) (b3 : Bool) (l3 r3 : Int64) (uz : Nat → Bool) (ul uh : Nat → Int64) (f1 g1 f2 g2 : Int64) (pa : Nat → Nat → Nat) (kd : Nat → Nat) (on ot : Nat → Int32) (pt : Nat → Int64) (fb : Nat → Nat → Bool) (fl fh : Nat → Nat → Int64) (tb : Nat → Nat → Bool) (tl th : Nat → Nat → Int64) (dg : Nat → Int32) (ds : Nat → Int64) (k p : Nat) (bb : Bool) (hn : n ≤ 40) (hk : k < n) (hp : p < 25) (hf : ¬ sp_X6_load_b1 (fb k) (fl k) (fh k) p = true) : vx_Met l yX7_raw wsX7_raw ({ frames := 7, cells := 1, slots := 6, locals := 113 } : Room) (gPX D y ad [.ref h, .int (nI k), .int (nI p), .int (gB bb)] (wXp y ad h q n b1 l1 r1 b2 l2 r2 b3 l3 r3 uz ul uh f1 g1 f2 g2 pa kd on ot pt fb fl fh tb tl th dg ds) sz) gNo (gXC D (wXp y ad h q n b1 l1 r1 b2 l2 r2 b3 l3 r3 uz ul uh f1 g1 f2 g2 pa kd on ot pt fb fl fh tb tl th dg ds) gISE (xScr y ad h q n pa kd on ot pt fb fl fh tb tl th dg ds)) 1 6 (va_A (wXp y ad h q n b1 l1 r1 b2 l2 r2 b3 l3 r3 uz ul uh f1 g1 f2 g2 pa kd on ot pt fb fl fh tb tl th dg ds) sz) := by
  refine vx_ofW (cc := cX7_raw) (maxL := 5) (ret := (some .long)) (by decide) rfl ?_
  intro pg e s m args below meth c s₁ B hml hno hv
  obtain ⟨rfl, hsz, hP, hK, hD0, hE0⟩ := hv
  have hx := B.exec
  have hb := B.bytes
  have hr := B.returns
  have hts := atoms_spec (ws := wsX7_raw) B.pre
  have hown : s.vm.findClass RX7 = some m.cls := findClass_of_methodNamed B.named
  have hlocks := B.notSynchronized
  subst hsz
  obtain ⟨A, hAe⟩ : ∃ A : Nat → Prop, A = va_A (wXp y ad h q n b1 l1 r1 b2 l2 r2 b3 l3 r3 uz ul uh f1 g1 f2 g2 pa kd on ot pt fb fl fh tb tl th dg ds) s.heap.size := ⟨_, rfl⟩
  have hE : gE ad A s s.heap := by rw [hAe]; exact hE0
  have hD : va_D A (wXp y ad h q n b1 l1 r1 b2 l2 r2 b3 l3 r3 uz ul uh f1 g1 f2 g2 pa kd on ot pt fb fl fh tb tl th dg ds) := by rw [hAe]; exact hD0.self (sz := s.heap.size)
  have hA : ∀ q : Nat, s.heap.size ≤ q → A q := fun q h => by rw [hAe]; exact Or.inr h
  have hS : va_S A s.heap s.heap [] := va_S.rf
  have hl := lv_entry ([.ref h, .int (nI k), .int (nI p), .int (gB bb)]) (n := 5) (Nat.le_of_ble_eq_true rfl)
  rw [lg_entry_eq]
  generalize (lg_sl ([.ref h, .int (nI k), .int (nI p), .int (gB bb)]) ++ List.replicate (5 - (lg_sl ([.ref h, .int (nI k), .int (nI p), .int (gB bb)])).length) Slot.unset).toArray = ls at hl ⊢
  have hl : lv_has ls 5 [(0, .ref h), (1, .int (nI k)), (2, .int (nI p)), (3, .int (gB bb))] := hl
  refine lv_aload_n hx hb dX7_raw_0 rfl (lv_at hl 0 rfl) ?_
  refine lv_iload_n hx hb dX7_raw_1 rfl (lv_at hl 1 rfl) ?_
  refine g_callR (v0 := .ref (pa k 0)) (va_runV (As := [.int (nI k)]) (rest := []) ⟨hx, hb, hml, hown, hts⟩ (c_X7_existing_0 l hfl D y ad s.heap.size h q n b1 l1 r1 b2 l2 r2 b3 l3 r3 uz ul uh f1 g1 f2 g2 pa kd on ot pt fb fl fh tb tl th dg ds k hn hk) (cwV 1 hts gX7_raw_X7_existing rfl rfl rfl (by decide +kernel) ⟨Nat.le_of_ble_eq_true rfl, Nat.le_of_ble_eq_true rfl⟩) (gPX_VA hP hD hK hE hS hA 0 rfl rfl) rfl rfl hl.1 rfl (lv_room (Nat.le_of_ble_eq_true rfl)) dX7_raw_2 ⟨Nat.zero_le _, Nat.zero_le _⟩) ?_
  refine lv_astore (lv' := [(4, .ref (pa k 0)), (0, .ref h), (1, .int (nI k)), (2, .int (nI p)), (3, .int (gB bb))]) hx hb dX7_raw_5 hl (by decide) rfl (fun ls hl => ?_)
  refine lv_iload_n hx hb dX7_raw_7 rfl (lv_at hl 3 rfl) ?_
  refine lv_iconst (v := 0) hx hb dX7_raw_8 (by decide) ?_
  refine lv_bipush (v := 24) hx hb dX7_raw_9 (by decide) ?_
  refine g_callv (va_runS (As := [.int (nI p), .int 0, .int 24]) (rest := []) ⟨hx, hb, hml, hown, hts⟩ (c_X7_requireWithin_0 l hfl D y ad s.heap.size (nI p) 0 24 (nI_pos (by omega)) (g_p24 hp)) (va_cwS 3 hts gX7_raw_X7_requireWithin rfl rfl rfl (by decide +kernel) ⟨Nat.le_of_ble_eq_true rfl, Nat.le_of_ble_eq_true rfl⟩) (gPX_S0 hK hE hS hA) rfl rfl hl.1 rfl (lv_room (Nat.le_of_ble_eq_true rfl)) dX7_raw_11 ⟨Nat.zero_le _, Nat.zero_le _⟩) hP hD hS hA [] rfl (fun H locs hP hD hS => ?_)
  have hP : va_P D vwCl (wXp y ad h q n b1 l1 r1 b2 l2 r2 b3 l3 r3 uz ul uh f1 g1 f2 g2 pa kd on ot pt fb fl fh tb tl th dg ds) H := hP
  have hD : va_D A (wXp y ad h q n b1 l1 r1 b2 l2 r2 b3 l3 r3 uz ul uh f1 g1 f2 g2 pa kd on ot pt fb fl fh tb tl th dg ds) := hD
  refine lv_aload hx hb dX7_raw_14 (lv_at hl 0 rfl) ?_
  refine va_get (D := D) (ci := 3) (v := .ref (pa k 1)) (C := RX5) (T := TX5) (N := 8) hx hb hts in_X7_raw_X5 hown hK.1 hP (9 * k + 0 + 11) (gPL_at (j := 0) (fun _ => rfl) (by decide) hk) rfl 4 (by decide) (hts (.fieldLink RX7 89 "Nestlimit$Program" "found" "LNestlimit$Row;") (List.mem_of_getElem? (i := 1) rfl)) (fun _ h9 => h9) rfl dX7_raw_16 ?_
  refine lv_iload_n hx hb dX7_raw_19 rfl (lv_at hl 3 rfl) ?_
  refine lv_aload_n hx hb dX7_raw_20 rfl (lv_at hl 1 rfl) ?_
  refine va_get (D := D) (ci := 5) (v := .ref (q 1)) (C := RX7) (T := TX7) (N := 8) hx hb hts in_X7_raw_X7 hown hK.1 hP 0 rfl rfl 2 (by decide) (hts (.fieldLink RX7 22 "Nestlimit" "answer" "LNestlimit$Interval;") (List.mem_of_getElem? (i := 2) rfl)) (fun _ h9 => h9) rfl dX7_raw_21 ?_
  refine g_callW (wc := [((pa k 1), .inr (4, [.ref (pa k 2), .ref (pa k 3), .ref (pa k 4)])), ((pa k 2), .inl (y 2, 25, .inl (gZ (fb k)))), ((pa k 3), .inl (y 1, 25, .inr (.inl (fl k)))), ((pa k 4), .inl (y 1, 25, .inr (.inl (fh k)))), ((q 1), .inr (1, [.int (gB b1), .long l1, .long r1]))]) (b := (q 1)) (e0 := .inr (1, [.int (gB b1), .long l1, .long r1])) (e1 := .inr (1, [.int (gB (sp_X6_load_b1 (fb k) (fl k) (fh k) p)), .long (sp_X6_load_lo1 (fb k) (fl k) (fh k) p), .long (sp_X6_load_hi1 (fb k) (fl k) (fh k) p)])) (v0 := none) (fun w0 hw0 => by subst hw0; exact (va_runV (As := [.int (nI p), .ref (q 1)]) (rest := []) ⟨hx, hb, hml, hown, hts⟩ (c_X6_load l D y H.size (pa k 1) (pa k 2) (pa k 3) (pa k 4) 25 (fb k) (fl k) (fh k) (q 1) b1 l1 r1 p (by omega) (by decide)) (cwV 2 hts gX7_raw_X6_load rfl rfl rfl (by decide +kernel) ⟨Nat.le_of_ble_eq_true rfl, Nat.le_of_ble_eq_true rfl⟩) (gP_VI hP hD hK [9 * k + 1 + 11, 9 * k + 2 + 11, 9 * k + 3 + 11, 9 * k + 4 + 11, 2] (by simp <;> omega) (by show [(gPL _ _)[9 * k + 1]?, (gPL _ _)[9 * k + 2]?, (gPL _ _)[9 * k + 3]?, (gPL _ _)[9 * k + 4]?, some _] = _; rw [gPL_at (j := 1) (fun _ => rfl) (by decide) hk, gPL_at (j := 2) (fun _ => rfl) (by decide) hk, gPL_at (j := 3) (fun _ => rfl) (by decide) hk, gPL_at (j := 4) (fun _ => rfl) (by decide) hk]; rfl) 0 rfl rfl) rfl rfl hl.1 rfl (lv_room (Nat.le_of_ble_eq_true rfl)) dX7_raw_24 ⟨Nat.zero_le _, Nat.zero_le _⟩)) hP hD hS hA [9 * k + 1 + 11, 9 * k + 2 + 11, 9 * k + 3 + 11, 9 * k + 4 + 11, 2] (by show [(gPL _ _)[9 * k + 1]?, (gPL _ _)[9 * k + 2]?, (gPL _ _)[9 * k + 3]?, (gPL _ _)[9 * k + 4]?, some _] = _; rw [gPL_at (j := 1) (fun _ => rfl) (by decide) hk, gPL_at (j := 2) (fun _ => rfl) (by decide) hk, gPL_at (j := 3) (fun _ => rfl) (by decide) hk, gPL_at (j := 4) (fun _ => rfl) (by decide) hk]; rfl) 2 rfl ⟨[((pa k 1), .inr (4, [.ref (pa k 2), .ref (pa k 3), .ref (pa k 4)])), ((pa k 2), .inl (y 2, 25, .inl (gZ (fb k)))), ((pa k 3), .inl (y 1, 25, .inr (.inl (fl k)))), ((pa k 4), .inl (y 1, 25, .inr (.inl (fh k))))], rfl⟩ (fun H locs hP hD hS => ?_)
  have hP : va_P D vwCl (wXp y ad h q n (sp_X6_load_b1 (fb k) (fl k) (fh k) p) (sp_X6_load_lo1 (fb k) (fl k) (fh k) p) (sp_X6_load_hi1 (fb k) (fl k) (fh k) p) b2 l2 r2 b3 l3 r3 uz ul uh f1 g1 f2 g2 pa kd on ot pt fb fl fh tb tl th dg ds) H := hP
  have hD : va_D A (wXp y ad h q n (sp_X6_load_b1 (fb k) (fl k) (fh k) p) (sp_X6_load_lo1 (fb k) (fl k) (fh k) p) (sp_X6_load_hi1 (fb k) (fl k) (fh k) p) b2 l2 r2 b3 l3 r3 uz ul uh f1 g1 f2 g2 pa kd on ot pt fb fl fh tb tl th dg ds) := hD
  refine lv_aload_n hx hb dX7_raw_27 rfl (lv_at hl 1 rfl) ?_
  refine lv_iload_n hx hb dX7_raw_28 rfl (lv_at hl 4 rfl) ?_
  exact g_outX (vx_runV (As := [.int (gB bb)]) (rest := []) ⟨hx, hb, hml, hown, hts⟩ (c_X7_endOfAnswer_X l hfl D y ad H.size h q n (sp_X6_load_b1 (fb k) (fl k) (fh k) p) (sp_X6_load_lo1 (fb k) (fl k) (fh k) p) (sp_X6_load_hi1 (fb k) (fl k) (fh k) p) b2 l2 r2 b3 l3 r3 uz ul uh f1 g1 f2 g2 pa kd on ot pt fb fl fh tb tl th dg ds bb hf) (cwV 1 hts gX7_raw_X7_endOfAnswer rfl rfl rfl (by decide +kernel) ⟨Nat.le_of_ble_eq_true rfl, Nat.le_of_ble_eq_true rfl⟩) (gPX_VA hP hD hK hE hS hA 0 rfl rfl) rfl rfl hl.1 rfl (lv_room (Nat.le_of_ble_eq_true rfl)) dX7_raw_29 ⟨Nat.le_of_ble_eq_true rfl, Nat.le_of_ble_eq_true rfl⟩) hAe hD hS hA (fun w1 h9 => by subst h9; exact ⟨_, _, _, _, _, _, _, _, _, _, _, _, _, _, _, _, rfl⟩) rfl hno hlocks (Nat.le_of_ble_eq_true rfl) (Nat.le_of_ble_eq_true rfl)
set_option maxHeartbeats 4000000 in
set_option maxRecDepth 100000 in
theorem c_X7_raw_0 (l : Launch) (hfl : l.stackTraces = false) (D : va_G) (y : Nat → ClassId) (ad : Nat → Nat) (sz : Nat) (h : Nat) (q : Nat → Nat) (n : Nat) (b1 : Bool) (l1 r1 : Int64) (b2 : Bool) (l2 r2 : Int64) (b3 : Bool) (l3 r3 : Int64) (uz : Nat → Bool) (ul uh : Nat → Int64) (f1 g1 f2 g2 : Int64) (pa : Nat → Nat → Nat) (kd : Nat → Nat) (on ot : Nat → Int32) (pt : Nat → Int64) (fb : Nat → Nat → Bool) (fl fh : Nat → Nat → Int64) (tb : Nat → Nat → Bool) (tl th : Nat → Nat → Int64) (dg : Nat → Int32) (ds : Nat → Int64) (k p : Nat) (bb : Bool) (hn : n ≤ 40) (hk : k < n) (hp : p < 25) (hf : sp_X6_load_b1 (fb k) (fl k) (fh k) p = true) : Met l yX7_raw wsX7_raw ({ frames := 2, cells := 0, slots := 0, locals := 46 } : Room) (gPX D y ad [.ref h, .int (nI k), .int (nI p), .int (gB bb)] (wXp y ad h q n b1 l1 r1 b2 l2 r2 b3 l3 r3 uz ul uh f1 g1 f2 g2 pa kd on ot pt fb fl fh tb tl th dg ds) sz) (gQ D (wXp y ad h q n b1 l1 r1 b2 l2 r2 b3 l3 r3 uz ul uh f1 g1 f2 g2 pa kd on ot pt fb fl fh tb tl th dg ds) (fun v w => v = some (.long (gSl bb (sp_X6_load_hi1 (fb k) (fl k) (fh k) p) (sp_X6_load_lo1 (fb k) (fl k) (fh k) p))) ∧ xScr y ad h q n pa kd on ot pt fb fl fh tb tl th dg ds w)) 0 0 (va_A (wXp y ad h q n b1 l1 r1 b2 l2 r2 b3 l3 r3 uz ul uh f1 g1 f2 g2 pa kd on ot pt fb fl fh tb tl th dg ds) sz) := by
  refine Met.ofW (cc := cX7_raw) (maxL := 5) (ret := (some .long)) (by decide) rfl ?_
  intro pg e s m args below meth c s₁ B hml hv
  obtain ⟨rfl, hsz, hP, hK, hD0, hE0⟩ := hv
  have hx := B.exec
  have hb := B.bytes
  have hr := B.returns
  have hts := atoms_spec (ws := wsX7_raw) B.pre
  have hown : s.vm.findClass RX7 = some m.cls := findClass_of_methodNamed B.named
  have hlocks := B.notSynchronized
  subst hsz
  obtain ⟨A, hAe⟩ : ∃ A : Nat → Prop, A = va_A (wXp y ad h q n b1 l1 r1 b2 l2 r2 b3 l3 r3 uz ul uh f1 g1 f2 g2 pa kd on ot pt fb fl fh tb tl th dg ds) s.heap.size := ⟨_, rfl⟩
  have hE : gE ad A s s.heap := by rw [hAe]; exact hE0
  have hD : va_D A (wXp y ad h q n b1 l1 r1 b2 l2 r2 b3 l3 r3 uz ul uh f1 g1 f2 g2 pa kd on ot pt fb fl fh tb tl th dg ds) := by rw [hAe]; exact hD0.self (sz := s.heap.size)
  have hA : ∀ q : Nat, s.heap.size ≤ q → A q := fun q h => by rw [hAe]; exact Or.inr h
  have hS : va_S A s.heap s.heap [] := va_S.rf
  have hl := lv_entry ([.ref h, .int (nI k), .int (nI p), .int (gB bb)]) (n := 5) (Nat.le_of_ble_eq_true rfl)
  rw [lg_entry_eq]
  generalize (lg_sl ([.ref h, .int (nI k), .int (nI p), .int (gB bb)]) ++ List.replicate (5 - (lg_sl ([.ref h, .int (nI k), .int (nI p), .int (gB bb)])).length) Slot.unset).toArray = ls at hl ⊢
  have hl : lv_has ls 5 [(0, .ref h), (1, .int (nI k)), (2, .int (nI p)), (3, .int (gB bb))] := hl
  refine lv_aload_n hx hb dX7_raw_0 rfl (lv_at hl 0 rfl) ?_
  refine lv_iload_n hx hb dX7_raw_1 rfl (lv_at hl 1 rfl) ?_
  refine g_callR (v0 := .ref (pa k 0)) (va_runV (As := [.int (nI k)]) (rest := []) ⟨hx, hb, hml, hown, hts⟩ (c_X7_existing_0 l hfl D y ad s.heap.size h q n b1 l1 r1 b2 l2 r2 b3 l3 r3 uz ul uh f1 g1 f2 g2 pa kd on ot pt fb fl fh tb tl th dg ds k hn hk) (cwV 1 hts gX7_raw_X7_existing rfl rfl rfl (by decide +kernel) ⟨Nat.le_of_ble_eq_true rfl, Nat.le_of_ble_eq_true rfl⟩) (gPX_VA hP hD hK hE hS hA 0 rfl rfl) rfl rfl hl.1 rfl (lv_room (Nat.le_of_ble_eq_true rfl)) dX7_raw_2 ⟨Nat.zero_le _, Nat.zero_le _⟩) ?_
  refine lv_astore (lv' := [(4, .ref (pa k 0)), (0, .ref h), (1, .int (nI k)), (2, .int (nI p)), (3, .int (gB bb))]) hx hb dX7_raw_5 hl (by decide) rfl (fun ls hl => ?_)
  refine lv_iload_n hx hb dX7_raw_7 rfl (lv_at hl 3 rfl) ?_
  refine lv_iconst (v := 0) hx hb dX7_raw_8 (by decide) ?_
  refine lv_bipush (v := 24) hx hb dX7_raw_9 (by decide) ?_
  refine g_callv (va_runS (As := [.int (nI p), .int 0, .int 24]) (rest := []) ⟨hx, hb, hml, hown, hts⟩ (c_X7_requireWithin_0 l hfl D y ad s.heap.size (nI p) 0 24 (nI_pos (by omega)) (g_p24 hp)) (va_cwS 3 hts gX7_raw_X7_requireWithin rfl rfl rfl (by decide +kernel) ⟨Nat.le_of_ble_eq_true rfl, Nat.le_of_ble_eq_true rfl⟩) (gPX_S0 hK hE hS hA) rfl rfl hl.1 rfl (lv_room (Nat.le_of_ble_eq_true rfl)) dX7_raw_11 ⟨Nat.zero_le _, Nat.zero_le _⟩) hP hD hS hA [] rfl (fun H locs hP hD hS => ?_)
  have hP : va_P D vwCl (wXp y ad h q n b1 l1 r1 b2 l2 r2 b3 l3 r3 uz ul uh f1 g1 f2 g2 pa kd on ot pt fb fl fh tb tl th dg ds) H := hP
  have hD : va_D A (wXp y ad h q n b1 l1 r1 b2 l2 r2 b3 l3 r3 uz ul uh f1 g1 f2 g2 pa kd on ot pt fb fl fh tb tl th dg ds) := hD
  refine lv_aload hx hb dX7_raw_14 (lv_at hl 0 rfl) ?_
  refine va_get (D := D) (ci := 3) (v := .ref (pa k 1)) (C := RX5) (T := TX5) (N := 8) hx hb hts in_X7_raw_X5 hown hK.1 hP (9 * k + 0 + 11) (gPL_at (j := 0) (fun _ => rfl) (by decide) hk) rfl 4 (by decide) (hts (.fieldLink RX7 89 "Nestlimit$Program" "found" "LNestlimit$Row;") (List.mem_of_getElem? (i := 1) rfl)) (fun _ h9 => h9) rfl dX7_raw_16 ?_
  refine lv_iload_n hx hb dX7_raw_19 rfl (lv_at hl 3 rfl) ?_
  refine lv_aload_n hx hb dX7_raw_20 rfl (lv_at hl 1 rfl) ?_
  refine va_get (D := D) (ci := 5) (v := .ref (q 1)) (C := RX7) (T := TX7) (N := 8) hx hb hts in_X7_raw_X7 hown hK.1 hP 0 rfl rfl 2 (by decide) (hts (.fieldLink RX7 22 "Nestlimit" "answer" "LNestlimit$Interval;") (List.mem_of_getElem? (i := 2) rfl)) (fun _ h9 => h9) rfl dX7_raw_21 ?_
  refine g_callW (wc := [((pa k 1), .inr (4, [.ref (pa k 2), .ref (pa k 3), .ref (pa k 4)])), ((pa k 2), .inl (y 2, 25, .inl (gZ (fb k)))), ((pa k 3), .inl (y 1, 25, .inr (.inl (fl k)))), ((pa k 4), .inl (y 1, 25, .inr (.inl (fh k)))), ((q 1), .inr (1, [.int (gB b1), .long l1, .long r1]))]) (b := (q 1)) (e0 := .inr (1, [.int (gB b1), .long l1, .long r1])) (e1 := .inr (1, [.int (gB (sp_X6_load_b1 (fb k) (fl k) (fh k) p)), .long (sp_X6_load_lo1 (fb k) (fl k) (fh k) p), .long (sp_X6_load_hi1 (fb k) (fl k) (fh k) p)])) (v0 := none) (fun w0 hw0 => by subst hw0; exact (va_runV (As := [.int (nI p), .ref (q 1)]) (rest := []) ⟨hx, hb, hml, hown, hts⟩ (c_X6_load l D y H.size (pa k 1) (pa k 2) (pa k 3) (pa k 4) 25 (fb k) (fl k) (fh k) (q 1) b1 l1 r1 p (by omega) (by decide)) (cwV 2 hts gX7_raw_X6_load rfl rfl rfl (by decide +kernel) ⟨Nat.le_of_ble_eq_true rfl, Nat.le_of_ble_eq_true rfl⟩) (gP_VI hP hD hK [9 * k + 1 + 11, 9 * k + 2 + 11, 9 * k + 3 + 11, 9 * k + 4 + 11, 2] (by simp <;> omega) (by show [(gPL _ _)[9 * k + 1]?, (gPL _ _)[9 * k + 2]?, (gPL _ _)[9 * k + 3]?, (gPL _ _)[9 * k + 4]?, some _] = _; rw [gPL_at (j := 1) (fun _ => rfl) (by decide) hk, gPL_at (j := 2) (fun _ => rfl) (by decide) hk, gPL_at (j := 3) (fun _ => rfl) (by decide) hk, gPL_at (j := 4) (fun _ => rfl) (by decide) hk]; rfl) 0 rfl rfl) rfl rfl hl.1 rfl (lv_room (Nat.le_of_ble_eq_true rfl)) dX7_raw_24 ⟨Nat.zero_le _, Nat.zero_le _⟩)) hP hD hS hA [9 * k + 1 + 11, 9 * k + 2 + 11, 9 * k + 3 + 11, 9 * k + 4 + 11, 2] (by show [(gPL _ _)[9 * k + 1]?, (gPL _ _)[9 * k + 2]?, (gPL _ _)[9 * k + 3]?, (gPL _ _)[9 * k + 4]?, some _] = _; rw [gPL_at (j := 1) (fun _ => rfl) (by decide) hk, gPL_at (j := 2) (fun _ => rfl) (by decide) hk, gPL_at (j := 3) (fun _ => rfl) (by decide) hk, gPL_at (j := 4) (fun _ => rfl) (by decide) hk]; rfl) 2 rfl ⟨[((pa k 1), .inr (4, [.ref (pa k 2), .ref (pa k 3), .ref (pa k 4)])), ((pa k 2), .inl (y 2, 25, .inl (gZ (fb k)))), ((pa k 3), .inl (y 1, 25, .inr (.inl (fl k)))), ((pa k 4), .inl (y 1, 25, .inr (.inl (fh k))))], rfl⟩ (fun H locs hP hD hS => ?_)
  have hP : va_P D vwCl (wXp y ad h q n (sp_X6_load_b1 (fb k) (fl k) (fh k) p) (sp_X6_load_lo1 (fb k) (fl k) (fh k) p) (sp_X6_load_hi1 (fb k) (fl k) (fh k) p) b2 l2 r2 b3 l3 r3 uz ul uh f1 g1 f2 g2 pa kd on ot pt fb fl fh tb tl th dg ds) H := hP
  have hD : va_D A (wXp y ad h q n (sp_X6_load_b1 (fb k) (fl k) (fh k) p) (sp_X6_load_lo1 (fb k) (fl k) (fh k) p) (sp_X6_load_hi1 (fb k) (fl k) (fh k) p) b2 l2 r2 b3 l3 r3 uz ul uh f1 g1 f2 g2 pa kd on ot pt fb fl fh tb tl th dg ds) := hD
  refine lv_aload_n hx hb dX7_raw_27 rfl (lv_at hl 1 rfl) ?_
  refine lv_iload_n hx hb dX7_raw_28 rfl (lv_at hl 4 rfl) ?_
  refine g_callR (v0 := .long (gSl bb (sp_X6_load_hi1 (fb k) (fl k) (fh k) p) (sp_X6_load_lo1 (fb k) (fl k) (fh k) p))) (va_runV (As := [.int (gB bb)]) (rest := []) ⟨hx, hb, hml, hown, hts⟩ (c_X7_endOfAnswer_0 l hfl D y ad H.size h q n (sp_X6_load_b1 (fb k) (fl k) (fh k) p) (sp_X6_load_lo1 (fb k) (fl k) (fh k) p) (sp_X6_load_hi1 (fb k) (fl k) (fh k) p) b2 l2 r2 b3 l3 r3 uz ul uh f1 g1 f2 g2 pa kd on ot pt fb fl fh tb tl th dg ds bb hf) (cwV 1 hts gX7_raw_X7_endOfAnswer rfl rfl rfl (by decide +kernel) ⟨Nat.le_of_ble_eq_true rfl, Nat.le_of_ble_eq_true rfl⟩) (gPX_VA hP hD hK hE hS hA 0 rfl rfl) rfl rfl hl.1 rfl (lv_room (Nat.le_of_ble_eq_true rfl)) dX7_raw_29 ⟨Nat.zero_le _, Nat.zero_le _⟩) ?_
  exact W.lret (v := gSl bb (sp_X6_load_hi1 (fb k) (fl k) (fh k) p) (sp_X6_load_lo1 (fb k) (fl k) (fh k) p)) hx hb hr (fun t ht hW => ⟨⟨some (.long (gSl bb (sp_X6_load_hi1 (fb k) (fl k) (fh k) p) (sp_X6_load_lo1 (fb k) (fl k) (fh k) p))), wXp y ad h q n (sp_X6_load_b1 (fb k) (fl k) (fh k) p) (sp_X6_load_lo1 (fb k) (fl k) (fh k) p) (sp_X6_load_hi1 (fb k) (fl k) (fh k) p) b2 l2 r2 b3 l3 r3 uz ul uh f1 g1 f2 g2 pa kd on ot pt fb fl fh tb tl th dg ds, rfl, ⟨rfl, ⟨_, _, _, _, _, _, _, _, _, _, _, _, _, _, _, _, rfl⟩⟩, rfl, by rw [ht]; exact hP⟩, by rw [← hAe]; exact hS.F ht⟩) (by rw [← hAe]; exact hS.2.2) dX7_raw_32
set_option maxHeartbeats 4000000 in
set_option maxRecDepth 100000 in
theorem c_X7_told_X1 (l : Launch) (hfl : l.stackTraces = false) (D : va_G) (y : Nat → ClassId) (ad : Nat → Nat) (sz : Nat) (h : Nat) (q : Nat → Nat) (n : Nat) (b1 : Bool) (l1 r1 : Int64) (b2 : Bool) (l2 r2 : Int64) (b3 : Bool) (l3 r3 : Int64) (uz : Nat → Bool) (ul uh : Nat → Int64) (f1 g1 f2 g2 : Int64) (pa : Nat → Nat → Nat) (kd : Nat → Nat) (on ot : Nat → Int32) (pt : Nat → Int64) (fb : Nat → Nat → Bool) (fl fh : Nat → Nat → Int64) (tb : Nat → Nat → Bool) (tl th : Nat → Nat → Int64) (dg : Nat → Int32) (ds : Nat → Int64) (a b : Int32) (bb : Bool) (hbad : a < 0 ∨ nI n ≤ a) : vx_Met l yX7_told wsX7_told ({ frames := 8, cells := 1, slots := 6, locals := 137 } : Room) (gPX D y ad [.ref h, .int a, .int b, .int (gB bb)] (wXp y ad h q n b1 l1 r1 b2 l2 r2 b3 l3 r3 uz ul uh f1 g1 f2 g2 pa kd on ot pt fb fl fh tb tl th dg ds) sz) gNo (gXC D (wXp y ad h q n b1 l1 r1 b2 l2 r2 b3 l3 r3 uz ul uh f1 g1 f2 g2 pa kd on ot pt fb fl fh tb tl th dg ds) gIOB (xScr y ad h q n pa kd on ot pt fb fl fh tb tl th dg ds)) 1 6 (va_A (wXp y ad h q n b1 l1 r1 b2 l2 r2 b3 l3 r3 uz ul uh f1 g1 f2 g2 pa kd on ot pt fb fl fh tb tl th dg ds) sz) := by
  refine vx_ofW (cc := cX7_told) (maxL := 4) (ret := (some .long)) (by decide) rfl ?_
  intro pg e s m args below meth c s₁ B hml hno hv
  obtain ⟨rfl, hsz, hP, hK, hD0, hE0⟩ := hv
  have hx := B.exec
  have hb := B.bytes
  have hr := B.returns
  have hts := atoms_spec (ws := wsX7_told) B.pre
  have hown : s.vm.findClass RX7 = some m.cls := findClass_of_methodNamed B.named
  have hlocks := B.notSynchronized
  subst hsz
  obtain ⟨A, hAe⟩ : ∃ A : Nat → Prop, A = va_A (wXp y ad h q n b1 l1 r1 b2 l2 r2 b3 l3 r3 uz ul uh f1 g1 f2 g2 pa kd on ot pt fb fl fh tb tl th dg ds) s.heap.size := ⟨_, rfl⟩
  have hE : gE ad A s s.heap := by rw [hAe]; exact hE0
  have hD : va_D A (wXp y ad h q n b1 l1 r1 b2 l2 r2 b3 l3 r3 uz ul uh f1 g1 f2 g2 pa kd on ot pt fb fl fh tb tl th dg ds) := by rw [hAe]; exact hD0.self (sz := s.heap.size)
  have hA : ∀ q : Nat, s.heap.size ≤ q → A q := fun q h => by rw [hAe]; exact Or.inr h
  have hS : va_S A s.heap s.heap [] := va_S.rf
  have hl := lv_entry ([.ref h, .int a, .int b, .int (gB bb)]) (n := 4) (Nat.le_of_ble_eq_true rfl)
  rw [lg_entry_eq]
  generalize (lg_sl ([.ref h, .int a, .int b, .int (gB bb)]) ++ List.replicate (4 - (lg_sl ([.ref h, .int a, .int b, .int (gB bb)])).length) Slot.unset).toArray = ls at hl ⊢
  have hl : lv_has ls 4 [(0, .ref h), (1, .int a), (2, .int b), (3, .int (gB bb))] := hl
  refine lv_aload_n hx hb dX7_told_0 rfl (lv_at hl 0 rfl) ?_
  refine lv_iload_n hx hb dX7_told_1 rfl (lv_at hl 1 rfl) ?_
  refine lv_iload_n hx hb dX7_told_2 rfl (lv_at hl 2 rfl) ?_
  exact g_outX (vx_runV (As := [.int a, .int b]) (rest := []) ⟨hx, hb, hml, hown, hts⟩ (c_X7_loadTold_X1 l hfl D y ad s.heap.size h q n b1 l1 r1 b2 l2 r2 b3 l3 r3 uz ul uh f1 g1 f2 g2 pa kd on ot pt fb fl fh tb tl th dg ds a b hbad) (cwV 2 hts gX7_told_X7_loadTold rfl rfl rfl (by decide +kernel) ⟨Nat.le_of_ble_eq_true rfl, Nat.le_of_ble_eq_true rfl⟩) (gPX_VA hP hD hK hE hS hA 0 rfl rfl) rfl rfl hl.1 rfl (lv_room (Nat.le_of_ble_eq_true rfl)) dX7_told_3 ⟨Nat.le_of_ble_eq_true rfl, Nat.le_of_ble_eq_true rfl⟩) hAe hD hS hA (fun w1 h9 => by subst h9; exact ⟨_, _, _, _, _, _, _, _, _, _, _, _, _, _, _, _, rfl⟩) rfl hno hlocks (Nat.le_of_ble_eq_true rfl) (Nat.le_of_ble_eq_true rfl)
set_option maxHeartbeats 4000000 in
set_option maxRecDepth 100000 in
theorem c_X7_told_X2 (l : Launch) (hfl : l.stackTraces = false) (D : va_G) (y : Nat → ClassId) (ad : Nat → Nat) (sz : Nat) (h : Nat) (q : Nat → Nat) (n : Nat) (b1 : Bool) (l1 r1 : Int64) (b2 : Bool) (l2 r2 : Int64) (b3 : Bool) (l3 r3 : Int64) (uz : Nat → Bool) (ul uh : Nat → Int64) (f1 g1 f2 g2 : Int64) (pa : Nat → Nat → Nat) (kd : Nat → Nat) (on ot : Nat → Int32) (pt : Nat → Int64) (fb : Nat → Nat → Bool) (fl fh : Nat → Nat → Int64) (tb : Nat → Nat → Bool) (tl th : Nat → Nat → Int64) (dg : Nat → Int32) (ds : Nat → Int64) (k : Nat) (b : Int32) (bb : Bool) (hn : n ≤ 40) (hk : k < n) (hp : b < 0 ∨ ¬ b ≤ 24) : vx_Met l yX7_told wsX7_told ({ frames := 8, cells := 1, slots := 6, locals := 137 } : Room) (gPX D y ad [.ref h, .int (nI k), .int b, .int (gB bb)] (wXp y ad h q n b1 l1 r1 b2 l2 r2 b3 l3 r3 uz ul uh f1 g1 f2 g2 pa kd on ot pt fb fl fh tb tl th dg ds) sz) gNo (gXC D (wXp y ad h q n b1 l1 r1 b2 l2 r2 b3 l3 r3 uz ul uh f1 g1 f2 g2 pa kd on ot pt fb fl fh tb tl th dg ds) gIAE (xScr y ad h q n pa kd on ot pt fb fl fh tb tl th dg ds)) 1 6 (va_A (wXp y ad h q n b1 l1 r1 b2 l2 r2 b3 l3 r3 uz ul uh f1 g1 f2 g2 pa kd on ot pt fb fl fh tb tl th dg ds) sz) := by
  refine vx_ofW (cc := cX7_told) (maxL := 4) (ret := (some .long)) (by decide) rfl ?_
  intro pg e s m args below meth c s₁ B hml hno hv
  obtain ⟨rfl, hsz, hP, hK, hD0, hE0⟩ := hv
  have hx := B.exec
  have hb := B.bytes
  have hr := B.returns
  have hts := atoms_spec (ws := wsX7_told) B.pre
  have hown : s.vm.findClass RX7 = some m.cls := findClass_of_methodNamed B.named
  have hlocks := B.notSynchronized
  subst hsz
  obtain ⟨A, hAe⟩ : ∃ A : Nat → Prop, A = va_A (wXp y ad h q n b1 l1 r1 b2 l2 r2 b3 l3 r3 uz ul uh f1 g1 f2 g2 pa kd on ot pt fb fl fh tb tl th dg ds) s.heap.size := ⟨_, rfl⟩
  have hE : gE ad A s s.heap := by rw [hAe]; exact hE0
  have hD : va_D A (wXp y ad h q n b1 l1 r1 b2 l2 r2 b3 l3 r3 uz ul uh f1 g1 f2 g2 pa kd on ot pt fb fl fh tb tl th dg ds) := by rw [hAe]; exact hD0.self (sz := s.heap.size)
  have hA : ∀ q : Nat, s.heap.size ≤ q → A q := fun q h => by rw [hAe]; exact Or.inr h
  have hS : va_S A s.heap s.heap [] := va_S.rf
  have hl := lv_entry ([.ref h, .int (nI k), .int b, .int (gB bb)]) (n := 4) (Nat.le_of_ble_eq_true rfl)
  rw [lg_entry_eq]
  generalize (lg_sl ([.ref h, .int (nI k), .int b, .int (gB bb)]) ++ List.replicate (4 - (lg_sl ([.ref h, .int (nI k), .int b, .int (gB bb)])).length) Slot.unset).toArray = ls at hl ⊢
  have hl : lv_has ls 4 [(0, .ref h), (1, .int (nI k)), (2, .int b), (3, .int (gB bb))] := hl
  refine lv_aload_n hx hb dX7_told_0 rfl (lv_at hl 0 rfl) ?_
  refine lv_iload_n hx hb dX7_told_1 rfl (lv_at hl 1 rfl) ?_
  refine lv_iload_n hx hb dX7_told_2 rfl (lv_at hl 2 rfl) ?_
  exact g_outX (vx_runV (As := [.int (nI k), .int b]) (rest := []) ⟨hx, hb, hml, hown, hts⟩ (c_X7_loadTold_X2 l hfl D y ad s.heap.size h q n b1 l1 r1 b2 l2 r2 b3 l3 r3 uz ul uh f1 g1 f2 g2 pa kd on ot pt fb fl fh tb tl th dg ds k b hn hk hp) (cwV 2 hts gX7_told_X7_loadTold rfl rfl rfl (by decide +kernel) ⟨Nat.le_of_ble_eq_true rfl, Nat.le_of_ble_eq_true rfl⟩) (gPX_VA hP hD hK hE hS hA 0 rfl rfl) rfl rfl hl.1 rfl (lv_room (Nat.le_of_ble_eq_true rfl)) dX7_told_3 ⟨Nat.le_of_ble_eq_true rfl, Nat.le_of_ble_eq_true rfl⟩) hAe hD hS hA (fun w1 h9 => by subst h9; exact ⟨_, _, _, _, _, _, _, _, _, _, _, _, _, _, _, _, rfl⟩) rfl hno hlocks (Nat.le_of_ble_eq_true rfl) (Nat.le_of_ble_eq_true rfl)
set_option maxHeartbeats 4000000 in
set_option maxRecDepth 100000 in
theorem c_X7_told_X3 (l : Launch) (hfl : l.stackTraces = false) (D : va_G) (y : Nat → ClassId) (ad : Nat → Nat) (sz : Nat) (h : Nat) (q : Nat → Nat) (n : Nat) (b1 : Bool) (l1 r1 : Int64) (b2 : Bool) (l2 r2 : Int64) (b3 : Bool) (l3 r3 : Int64) (uz : Nat → Bool) (ul uh : Nat → Int64) (f1 g1 f2 g2 : Int64) (pa : Nat → Nat → Nat) (kd : Nat → Nat) (on ot : Nat → Int32) (pt : Nat → Int64) (fb : Nat → Nat → Bool) (fl fh : Nat → Nat → Int64) (tb : Nat → Nat → Bool) (tl th : Nat → Nat → Int64) (dg : Nat → Int32) (ds : Nat → Int64) (k p : Nat) (bb : Bool) (hn : n ≤ 40) (hk : k < n) (hp : p < 25) (hf : ¬ sp_X6_load_b1 (tb k) (tl k) (th k) p = true) : vx_Met l yX7_told wsX7_told ({ frames := 7, cells := 1, slots := 6, locals := 113 } : Room) (gPX D y ad [.ref h, .int (nI k), .int (nI p), .int (gB bb)] (wXp y ad h q n b1 l1 r1 b2 l2 r2 b3 l3 r3 uz ul uh f1 g1 f2 g2 pa kd on ot pt fb fl fh tb tl th dg ds) sz) gNo (gXC D (wXp y ad h q n b1 l1 r1 b2 l2 r2 b3 l3 r3 uz ul uh f1 g1 f2 g2 pa kd on ot pt fb fl fh tb tl th dg ds) gISE (xScr y ad h q n pa kd on ot pt fb fl fh tb tl th dg ds)) 1 6 (va_A (wXp y ad h q n b1 l1 r1 b2 l2 r2 b3 l3 r3 uz ul uh f1 g1 f2 g2 pa kd on ot pt fb fl fh tb tl th dg ds) sz) := by
  refine vx_ofW (cc := cX7_told) (maxL := 4) (ret := (some .long)) (by decide) rfl ?_
  intro pg e s m args below meth c s₁ B hml hno hv
  obtain ⟨rfl, hsz, hP, hK, hD0, hE0⟩ := hv
  have hx := B.exec
  have hb := B.bytes
  have hr := B.returns
  have hts := atoms_spec (ws := wsX7_told) B.pre
  have hown : s.vm.findClass RX7 = some m.cls := findClass_of_methodNamed B.named
  have hlocks := B.notSynchronized
  subst hsz
  obtain ⟨A, hAe⟩ : ∃ A : Nat → Prop, A = va_A (wXp y ad h q n b1 l1 r1 b2 l2 r2 b3 l3 r3 uz ul uh f1 g1 f2 g2 pa kd on ot pt fb fl fh tb tl th dg ds) s.heap.size := ⟨_, rfl⟩
  have hE : gE ad A s s.heap := by rw [hAe]; exact hE0
  have hD : va_D A (wXp y ad h q n b1 l1 r1 b2 l2 r2 b3 l3 r3 uz ul uh f1 g1 f2 g2 pa kd on ot pt fb fl fh tb tl th dg ds) := by rw [hAe]; exact hD0.self (sz := s.heap.size)
  have hA : ∀ q : Nat, s.heap.size ≤ q → A q := fun q h => by rw [hAe]; exact Or.inr h
  have hS : va_S A s.heap s.heap [] := va_S.rf
  have hl := lv_entry ([.ref h, .int (nI k), .int (nI p), .int (gB bb)]) (n := 4) (Nat.le_of_ble_eq_true rfl)
  rw [lg_entry_eq]
  generalize (lg_sl ([.ref h, .int (nI k), .int (nI p), .int (gB bb)]) ++ List.replicate (4 - (lg_sl ([.ref h, .int (nI k), .int (nI p), .int (gB bb)])).length) Slot.unset).toArray = ls at hl ⊢
  have hl : lv_has ls 4 [(0, .ref h), (1, .int (nI k)), (2, .int (nI p)), (3, .int (gB bb))] := hl
  refine lv_aload_n hx hb dX7_told_0 rfl (lv_at hl 0 rfl) ?_
  refine lv_iload_n hx hb dX7_told_1 rfl (lv_at hl 1 rfl) ?_
  refine lv_iload_n hx hb dX7_told_2 rfl (lv_at hl 2 rfl) ?_
  refine g_callAv (w0 := wXp y ad h q n (sp_X6_load_b1 (tb k) (tl k) (th k) p) (sp_X6_load_lo1 (tb k) (tl k) (th k) p) (sp_X6_load_hi1 (tb k) (tl k) (th k) p) b2 l2 r2 b3 l3 r3 uz ul uh f1 g1 f2 g2 pa kd on ot pt fb fl fh tb tl th dg ds) (va_runV (As := [.int (nI k), .int (nI p)]) (rest := []) ⟨hx, hb, hml, hown, hts⟩ (c_X7_loadTold_0 l hfl D y ad s.heap.size h q n b1 l1 r1 b2 l2 r2 b3 l3 r3 uz ul uh f1 g1 f2 g2 pa kd on ot pt fb fl fh tb tl th dg ds k p hn hk hp) (cwV 2 hts gX7_told_X7_loadTold rfl rfl rfl (by decide +kernel) ⟨Nat.le_of_ble_eq_true rfl, Nat.le_of_ble_eq_true rfl⟩) (gPX_VA hP hD hK hE hS hA 0 rfl rfl) rfl rfl hl.1 rfl (lv_room (Nat.le_of_ble_eq_true rfl)) dX7_told_3 ⟨Nat.zero_le _, Nat.zero_le _⟩) hP hD hS hA rfl (fun H locs hP hD hS => ?_)
  refine lv_aload_n hx hb dX7_told_6 rfl (lv_at hl 0 rfl) ?_
  refine lv_iload_n hx hb dX7_told_7 rfl (lv_at hl 3 rfl) ?_
  exact g_outX (vx_runV (As := [.int (gB bb)]) (rest := []) ⟨hx, hb, hml, hown, hts⟩ (c_X7_endOfAnswer_X l hfl D y ad H.size h q n (sp_X6_load_b1 (tb k) (tl k) (th k) p) (sp_X6_load_lo1 (tb k) (tl k) (th k) p) (sp_X6_load_hi1 (tb k) (tl k) (th k) p) b2 l2 r2 b3 l3 r3 uz ul uh f1 g1 f2 g2 pa kd on ot pt fb fl fh tb tl th dg ds bb hf) (cwV 1 hts gX7_told_X7_endOfAnswer rfl rfl rfl (by decide +kernel) ⟨Nat.le_of_ble_eq_true rfl, Nat.le_of_ble_eq_true rfl⟩) (gPX_VA hP hD hK hE hS hA 0 rfl rfl) rfl rfl hl.1 rfl (lv_room (Nat.le_of_ble_eq_true rfl)) dX7_told_8 ⟨Nat.le_of_ble_eq_true rfl, Nat.le_of_ble_eq_true rfl⟩) hAe hD hS hA (fun w1 h9 => by subst h9; exact ⟨_, _, _, _, _, _, _, _, _, _, _, _, _, _, _, _, rfl⟩) rfl hno hlocks (Nat.le_of_ble_eq_true rfl) (Nat.le_of_ble_eq_true rfl)
set_option maxHeartbeats 4000000 in
set_option maxRecDepth 100000 in
theorem c_X7_told_0 (l : Launch) (hfl : l.stackTraces = false) (D : va_G) (y : Nat → ClassId) (ad : Nat → Nat) (sz : Nat) (h : Nat) (q : Nat → Nat) (n : Nat) (b1 : Bool) (l1 r1 : Int64) (b2 : Bool) (l2 r2 : Int64) (b3 : Bool) (l3 r3 : Int64) (uz : Nat → Bool) (ul uh : Nat → Int64) (f1 g1 f2 g2 : Int64) (pa : Nat → Nat → Nat) (kd : Nat → Nat) (on ot : Nat → Int32) (pt : Nat → Int64) (fb : Nat → Nat → Bool) (fl fh : Nat → Nat → Int64) (tb : Nat → Nat → Bool) (tl th : Nat → Nat → Int64) (dg : Nat → Int32) (ds : Nat → Int64) (k p : Nat) (bb : Bool) (hn : n ≤ 40) (hk : k < n) (hp : p < 25) (hf : sp_X6_load_b1 (tb k) (tl k) (th k) p = true) : Met l yX7_told wsX7_told ({ frames := 3, cells := 0, slots := 0, locals := 69 } : Room) (gPX D y ad [.ref h, .int (nI k), .int (nI p), .int (gB bb)] (wXp y ad h q n b1 l1 r1 b2 l2 r2 b3 l3 r3 uz ul uh f1 g1 f2 g2 pa kd on ot pt fb fl fh tb tl th dg ds) sz) (gQ D (wXp y ad h q n b1 l1 r1 b2 l2 r2 b3 l3 r3 uz ul uh f1 g1 f2 g2 pa kd on ot pt fb fl fh tb tl th dg ds) (fun v w => v = some (.long (gSl bb (sp_X6_load_hi1 (tb k) (tl k) (th k) p) (sp_X6_load_lo1 (tb k) (tl k) (th k) p))) ∧ xScr y ad h q n pa kd on ot pt fb fl fh tb tl th dg ds w)) 0 0 (va_A (wXp y ad h q n b1 l1 r1 b2 l2 r2 b3 l3 r3 uz ul uh f1 g1 f2 g2 pa kd on ot pt fb fl fh tb tl th dg ds) sz) := by
  refine Met.ofW (cc := cX7_told) (maxL := 4) (ret := (some .long)) (by decide) rfl ?_
  intro pg e s m args below meth c s₁ B hml hv
  obtain ⟨rfl, hsz, hP, hK, hD0, hE0⟩ := hv
  have hx := B.exec
  have hb := B.bytes
  have hr := B.returns
  have hts := atoms_spec (ws := wsX7_told) B.pre
  have hown : s.vm.findClass RX7 = some m.cls := findClass_of_methodNamed B.named
  have hlocks := B.notSynchronized
  subst hsz
  obtain ⟨A, hAe⟩ : ∃ A : Nat → Prop, A = va_A (wXp y ad h q n b1 l1 r1 b2 l2 r2 b3 l3 r3 uz ul uh f1 g1 f2 g2 pa kd on ot pt fb fl fh tb tl th dg ds) s.heap.size := ⟨_, rfl⟩
  have hE : gE ad A s s.heap := by rw [hAe]; exact hE0
  have hD : va_D A (wXp y ad h q n b1 l1 r1 b2 l2 r2 b3 l3 r3 uz ul uh f1 g1 f2 g2 pa kd on ot pt fb fl fh tb tl th dg ds) := by rw [hAe]; exact hD0.self (sz := s.heap.size)
  have hA : ∀ q : Nat, s.heap.size ≤ q → A q := fun q h => by rw [hAe]; exact Or.inr h
  have hS : va_S A s.heap s.heap [] := va_S.rf
  have hl := lv_entry ([.ref h, .int (nI k), .int (nI p), .int (gB bb)]) (n := 4) (Nat.le_of_ble_eq_true rfl)
  rw [lg_entry_eq]
  generalize (lg_sl ([.ref h, .int (nI k), .int (nI p), .int (gB bb)]) ++ List.replicate (4 - (lg_sl ([.ref h, .int (nI k), .int (nI p), .int (gB bb)])).length) Slot.unset).toArray = ls at hl ⊢
  have hl : lv_has ls 4 [(0, .ref h), (1, .int (nI k)), (2, .int (nI p)), (3, .int (gB bb))] := hl
  refine lv_aload_n hx hb dX7_told_0 rfl (lv_at hl 0 rfl) ?_
  refine lv_iload_n hx hb dX7_told_1 rfl (lv_at hl 1 rfl) ?_
  refine lv_iload_n hx hb dX7_told_2 rfl (lv_at hl 2 rfl) ?_
  refine g_callAv (w0 := wXp y ad h q n (sp_X6_load_b1 (tb k) (tl k) (th k) p) (sp_X6_load_lo1 (tb k) (tl k) (th k) p) (sp_X6_load_hi1 (tb k) (tl k) (th k) p) b2 l2 r2 b3 l3 r3 uz ul uh f1 g1 f2 g2 pa kd on ot pt fb fl fh tb tl th dg ds) (va_runV (As := [.int (nI k), .int (nI p)]) (rest := []) ⟨hx, hb, hml, hown, hts⟩ (c_X7_loadTold_0 l hfl D y ad s.heap.size h q n b1 l1 r1 b2 l2 r2 b3 l3 r3 uz ul uh f1 g1 f2 g2 pa kd on ot pt fb fl fh tb tl th dg ds k p hn hk hp) (cwV 2 hts gX7_told_X7_loadTold rfl rfl rfl (by decide +kernel) ⟨Nat.le_of_ble_eq_true rfl, Nat.le_of_ble_eq_true rfl⟩) (gPX_VA hP hD hK hE hS hA 0 rfl rfl) rfl rfl hl.1 rfl (lv_room (Nat.le_of_ble_eq_true rfl)) dX7_told_3 ⟨Nat.zero_le _, Nat.zero_le _⟩) hP hD hS hA rfl (fun H locs hP hD hS => ?_)
  refine lv_aload_n hx hb dX7_told_6 rfl (lv_at hl 0 rfl) ?_
  refine lv_iload_n hx hb dX7_told_7 rfl (lv_at hl 3 rfl) ?_
  refine g_callR (v0 := .long (gSl bb (sp_X6_load_hi1 (tb k) (tl k) (th k) p) (sp_X6_load_lo1 (tb k) (tl k) (th k) p))) (va_runV (As := [.int (gB bb)]) (rest := []) ⟨hx, hb, hml, hown, hts⟩ (c_X7_endOfAnswer_0 l hfl D y ad H.size h q n (sp_X6_load_b1 (tb k) (tl k) (th k) p) (sp_X6_load_lo1 (tb k) (tl k) (th k) p) (sp_X6_load_hi1 (tb k) (tl k) (th k) p) b2 l2 r2 b3 l3 r3 uz ul uh f1 g1 f2 g2 pa kd on ot pt fb fl fh tb tl th dg ds bb hf) (cwV 1 hts gX7_told_X7_endOfAnswer rfl rfl rfl (by decide +kernel) ⟨Nat.le_of_ble_eq_true rfl, Nat.le_of_ble_eq_true rfl⟩) (gPX_VA hP hD hK hE hS hA 0 rfl rfl) rfl rfl hl.1 rfl (lv_room (Nat.le_of_ble_eq_true rfl)) dX7_told_8 ⟨Nat.zero_le _, Nat.zero_le _⟩) ?_
  exact W.lret (v := gSl bb (sp_X6_load_hi1 (tb k) (tl k) (th k) p) (sp_X6_load_lo1 (tb k) (tl k) (th k) p)) hx hb hr (fun t ht hW => ⟨⟨some (.long (gSl bb (sp_X6_load_hi1 (tb k) (tl k) (th k) p) (sp_X6_load_lo1 (tb k) (tl k) (th k) p))), wXp y ad h q n (sp_X6_load_b1 (tb k) (tl k) (th k) p) (sp_X6_load_lo1 (tb k) (tl k) (th k) p) (sp_X6_load_hi1 (tb k) (tl k) (th k) p) b2 l2 r2 b3 l3 r3 uz ul uh f1 g1 f2 g2 pa kd on ot pt fb fl fh tb tl th dg ds, rfl, ⟨rfl, ⟨_, _, _, _, _, _, _, _, _, _, _, _, _, _, _, _, rfl⟩⟩, rfl, by rw [ht]; exact hP⟩, by rw [← hAe]; exact hS.F ht⟩) (by rw [← hAe]; exact hS.2.2) dX7_told_11
