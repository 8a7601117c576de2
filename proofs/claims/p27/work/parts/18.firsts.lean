def gSl (b : Bool) (x z : Int64) : Int64 := if b = true then x else z
abbrev wXp (y : Nat → ClassId) (ad : Nat → Nat) (h : Nat) (q : Nat → Nat) (n : Nat) (b1 : Bool) (l1 r1 : Int64) (b2 : Bool) (l2 r2 : Int64) (b3 : Bool) (l3 r3 : Int64) (uz : Nat → Bool) (ul uh : Nat → Int64) (f1 g1 f2 g2 : Int64) (pa : Nat → Nat → Nat) (kd : Nat → Nat) (on ot : Nat → Int32) (pt : Nat → Int64) (fb : Nat → Nat → Bool) (fl fh : Nat → Nat → Int64) (tb : Nat → Nat → Bool) (tl th : Nat → Nat → Int64) (dg : Nat → Int32) (ds : Nat → Int64) : va_W := wX y h q n (gPg pa n) b1 l1 r1 b2 l2 r2 b3 l3 r3 uz ul uh f1 g1 f2 g2 (gPL (pcX y ad pa kd on ot pt fb fl fh tb tl th dg ds) n)
set_option maxHeartbeats 4000000 in
set_option maxRecDepth 100000 in
theorem c_X7_requireWithin_0 (l : Launch) (hfl : l.stackTraces = false) (D : va_G) (y : Nat → ClassId) (ad : Nat → Nat) (sz : Nat) (a b c0 : Int32) (h1 : ¬ a < b) (h2 : a ≤ c0) : Met l yX7_requireWithin wsX7_requireWithin ({ frames := 0, cells := 0, slots := 0, locals := 0 } : Room) (gPX D y ad [.int a, .int b, .int c0] [] sz) (gQ D [] (gF none [])) 0 0 (va_A [] sz) := by
  refine Met.ofW (cc := cX7_requireWithin) (maxL := 3) (ret := none) (by decide) rfl ?_
  intro pg e s m args below meth c s₁ B hml hv
  obtain ⟨rfl, hsz, hP, hK, hD0, hE0⟩ := hv
  have hx := B.exec
  have hb := B.bytes
  have hr := B.returns
  have hts := atoms_spec (ws := wsX7_requireWithin) B.pre
  have hown : s.vm.findClass RX7 = some m.cls := findClass_of_methodNamed B.named
  have hlocks := B.notSynchronized
  subst hsz
  obtain ⟨A, hAe⟩ : ∃ A : Nat → Prop, A = va_A [] s.heap.size := ⟨_, rfl⟩
  have hE : gE ad A s s.heap := by rw [hAe]; exact hE0
  have hD : va_D A [] := by rw [hAe]; exact hD0.self (sz := s.heap.size)
  have hA : ∀ q : Nat, s.heap.size ≤ q → A q := fun q h => by rw [hAe]; exact Or.inr h
  have hS : va_S A s.heap s.heap [] := va_S.rf
  have hl := lv_entry ([.int a, .int b, .int c0]) (n := 3) (Nat.le_of_ble_eq_true rfl)
  rw [lg_entry_eq]
  generalize (lg_sl ([.int a, .int b, .int c0]) ++ List.replicate (3 - (lg_sl ([.int a, .int b, .int c0])).length) Slot.unset).toArray = ls at hl ⊢
  have hl : lv_has ls 3 [(0, .int a), (1, .int b), (2, .int c0)] := hl
  refine lv_iload_n hx hb dX7_requireWithin_0 rfl (lv_at hl 0 rfl) ?_
  refine lv_iload_n hx hb dX7_requireWithin_1 rfl (lv_at hl 1 rfl) ?_
  refine lv_icmp_lt (tgt := 10) hx hb dX7_requireWithin_2 (by decide) (fun c_2 => absurd c_2 h1) (fun c_2 => ?_)
  refine lv_iload_n hx hb dX7_requireWithin_5 rfl (lv_at hl 0 rfl) ?_
  refine lv_iload_n hx hb dX7_requireWithin_6 rfl (lv_at hl 2 rfl) ?_
  refine lv_icmp_le (tgt := 20) hx hb dX7_requireWithin_7 (by decide) (fun c_7 => ?_) (fun c_7 => absurd h2 c_7)
  exact W.vret hx hb hr (fun t ht hW => ⟨⟨none, [], rfl, ⟨rfl, rfl⟩, rfl, by rw [ht]; exact hP⟩, by rw [← hAe]; exact hS.F ht⟩) (by rw [← hAe]; exact hS.2.2) dX7_requireWithin_20
theorem in_X7_requireWithin_iae : ∀ w ∈ (vx_atS RX7 249 "java/lang/IllegalArgumentException" ["java/lang/RuntimeException", "java/lang/Exception"]).filter goodWord, w ∈ wsX7_requireWithin := fun _ h => List.mem_cons_of_mem _ (List.mem_append_right _ h)
set_option maxHeartbeats 4000000 in
set_option maxRecDepth 100000 in
theorem c_X7_requireWithin_X (l : Launch) (hfl : l.stackTraces = false) (D : va_G) (y : Nat → ClassId) (ad : Nat → Nat) (sz : Nat) (a b c0 : Int32) (h1 : a < b ∨ ¬ a ≤ c0) : vx_Met l yX7_requireWithin wsX7_requireWithin ({ frames := 6, cells := 1, slots := 6, locals := 92 } : Room) (gPX D y ad [.int a, .int b, .int c0] [] sz) gNo (gXC D [] gIAE (fun w => w = [])) 1 6 (va_A [] sz) := by
  refine vx_ofW (cc := cX7_requireWithin) (maxL := 3) (ret := none) (by decide) rfl ?_
  intro pg e s m args below meth c s₁ B hml hno hv
  obtain ⟨rfl, hsz, hP, hK, hD0, hE0⟩ := hv
  have hx := B.exec
  have hb := B.bytes
  have hr := B.returns
  have hts := atoms_spec (ws := wsX7_requireWithin) B.pre
  have hown : s.vm.findClass RX7 = some m.cls := findClass_of_methodNamed B.named
  have hlocks := B.notSynchronized
  subst hsz
  obtain ⟨A, hAe⟩ : ∃ A : Nat → Prop, A = va_A [] s.heap.size := ⟨_, rfl⟩
  have hE : gE ad A s s.heap := by rw [hAe]; exact hE0
  have hD : va_D A [] := by rw [hAe]; exact hD0.self (sz := s.heap.size)
  have hA : ∀ q : Nat, s.heap.size ≤ q → A q := fun q h => by rw [hAe]; exact Or.inr h
  have hS : va_S A s.heap s.heap [] := va_S.rf
  have hl := lv_entry ([.int a, .int b, .int c0]) (n := 3) (Nat.le_of_ble_eq_true rfl)
  rw [lg_entry_eq]
  generalize (lg_sl ([.int a, .int b, .int c0]) ++ List.replicate (3 - (lg_sl ([.int a, .int b, .int c0])).length) Slot.unset).toArray = ls at hl ⊢
  have hl : lv_has ls 3 [(0, .int a), (1, .int b), (2, .int c0)] := hl
  refine lv_iload_n hx hb dX7_requireWithin_0 rfl (lv_at hl 0 rfl) ?_
  refine lv_iload_n hx hb dX7_requireWithin_1 rfl (lv_at hl 1 rfl) ?_
  refine lv_icmp_lt (tgt := 10) hx hb dX7_requireWithin_2 (by decide) (fun c_2 => ?_) (fun c_2 => ?_)
  · skip
    obtain ⟨sa, hsa⟩ := hE.str 6 rfl
    exact vx_throwS hx hb hfl (own := RX7) (cls := gIAE) (names := gNm) (A := A) hown (by decide +kernel) (by decide +kernel) (hts (.classLink RX7 245 "java/lang/IllegalArgumentException") (List.mem_of_getElem? (i := 1) rfl)) (hts (.initialized "java/lang/IllegalArgumentException") (List.mem_of_getElem? (i := 2) rfl)) hsa (vx_hat (fun w hw => hts w (in_X7_requireWithin_iae w hw)) gAt_iae hE.cw) gOt_iae hE.1.1 hE.1.2 hS (hl.1.trans hml.symm) dX7_requireWithin_10 dX7_requireWithin_13 dX7_requireWithin_14 dX7_requireWithin_16 dX7_requireWithin_19 (fun x hx9 => (hno x hx9).elim) (Nat.le_of_ble_eq_true rfl) (Nat.le_of_ble_eq_true rfl) (Nat.le_of_ble_eq_true rfl) (Nat.le_of_ble_eq_true rfl) hlocks (g_xc hAe hP hS rfl rfl) (by rw [← hAe]; exact hS.2.2) (Nat.le_of_ble_eq_true rfl) (Nat.le_of_ble_eq_true rfl)
  · skip
    refine lv_iload_n hx hb dX7_requireWithin_5 rfl (lv_at hl 0 rfl) ?_
    refine lv_iload_n hx hb dX7_requireWithin_6 rfl (lv_at hl 2 rfl) ?_
    refine lv_icmp_le (tgt := 20) hx hb dX7_requireWithin_7 (by decide) (fun c_7 => absurd h1 (fun z => z.elim c_2 (fun w => w c_7))) (fun c_7 => ?_)
    obtain ⟨sa, hsa⟩ := hE.str 6 rfl
    exact vx_throwS hx hb hfl (own := RX7) (cls := gIAE) (names := gNm) (A := A) hown (by decide +kernel) (by decide +kernel) (hts (.classLink RX7 245 "java/lang/IllegalArgumentException") (List.mem_of_getElem? (i := 1) rfl)) (hts (.initialized "java/lang/IllegalArgumentException") (List.mem_of_getElem? (i := 2) rfl)) hsa (vx_hat (fun w hw => hts w (in_X7_requireWithin_iae w hw)) gAt_iae hE.cw) gOt_iae hE.1.1 hE.1.2 hS (hl.1.trans hml.symm) dX7_requireWithin_10 dX7_requireWithin_13 dX7_requireWithin_14 dX7_requireWithin_16 dX7_requireWithin_19 (fun x hx9 => (hno x hx9).elim) (Nat.le_of_ble_eq_true rfl) (Nat.le_of_ble_eq_true rfl) (Nat.le_of_ble_eq_true rfl) (Nat.le_of_ble_eq_true rfl) hlocks (g_xc hAe hP hS rfl rfl) (by rw [← hAe]; exact hS.2.2) (Nat.le_of_ble_eq_true rfl) (Nat.le_of_ble_eq_true rfl)
theorem in_X7_requireRoom_X7 : ∀ w ∈ wsX70, w ∈ wsX7_requireRoom := fun _ h => List.mem_cons_of_mem _ (List.mem_append_left _ (List.mem_append_right _ h))
set_option maxHeartbeats 4000000 in
set_option maxRecDepth 100000 in
theorem c_X7_requireRoom_0 (l : Launch) (hfl : l.stackTraces = false) (D : va_G) (y : Nat → ClassId) (ad : Nat → Nat) (sz : Nat) (h : Nat) (q : Nat → Nat) (n : Nat) (b1 : Bool) (l1 r1 : Int64) (b2 : Bool) (l2 r2 : Int64) (b3 : Bool) (l3 r3 : Int64) (uz : Nat → Bool) (ul uh : Nat → Int64) (f1 g1 f2 g2 : Int64) (pa : Nat → Nat → Nat) (kd : Nat → Nat) (on ot : Nat → Int32) (pt : Nat → Int64) (fb : Nat → Nat → Bool) (fl fh : Nat → Nat → Int64) (tb : Nat → Nat → Bool) (tl th : Nat → Nat → Int64) (dg : Nat → Int32) (ds : Nat → Int64) (hn : n < 40) : Met l yX7_requireRoom wsX7_requireRoom ({ frames := 0, cells := 0, slots := 0, locals := 0 } : Room) (gPX D y ad [.ref h] (wXp y ad h q n b1 l1 r1 b2 l2 r2 b3 l3 r3 uz ul uh f1 g1 f2 g2 pa kd on ot pt fb fl fh tb tl th dg ds) sz) (gQ D (wXp y ad h q n b1 l1 r1 b2 l2 r2 b3 l3 r3 uz ul uh f1 g1 f2 g2 pa kd on ot pt fb fl fh tb tl th dg ds) (gF none (wXp y ad h q n b1 l1 r1 b2 l2 r2 b3 l3 r3 uz ul uh f1 g1 f2 g2 pa kd on ot pt fb fl fh tb tl th dg ds))) 0 0 (va_A (wXp y ad h q n b1 l1 r1 b2 l2 r2 b3 l3 r3 uz ul uh f1 g1 f2 g2 pa kd on ot pt fb fl fh tb tl th dg ds) sz) := by
  refine Met.ofW (cc := cX7_requireRoom) (maxL := 1) (ret := none) (by decide) rfl ?_
  intro pg e s m args below meth c s₁ B hml hv
  obtain ⟨rfl, hsz, hP, hK, hD0, hE0⟩ := hv
  have hx := B.exec
  have hb := B.bytes
  have hr := B.returns
  have hts := atoms_spec (ws := wsX7_requireRoom) B.pre
  have hown : s.vm.findClass RX7 = some m.cls := findClass_of_methodNamed B.named
  have hlocks := B.notSynchronized
  subst hsz
  obtain ⟨A, hAe⟩ : ∃ A : Nat → Prop, A = va_A (wXp y ad h q n b1 l1 r1 b2 l2 r2 b3 l3 r3 uz ul uh f1 g1 f2 g2 pa kd on ot pt fb fl fh tb tl th dg ds) s.heap.size := ⟨_, rfl⟩
  have hE : gE ad A s s.heap := by rw [hAe]; exact hE0
  have hD : va_D A (wXp y ad h q n b1 l1 r1 b2 l2 r2 b3 l3 r3 uz ul uh f1 g1 f2 g2 pa kd on ot pt fb fl fh tb tl th dg ds) := by rw [hAe]; exact hD0.self (sz := s.heap.size)
  have hA : ∀ q : Nat, s.heap.size ≤ q → A q := fun q h => by rw [hAe]; exact Or.inr h
  have hS : va_S A s.heap s.heap [] := va_S.rf
  have hl := lv_entry ([.ref h]) (n := 1) (Nat.le_of_ble_eq_true rfl)
  rw [lg_entry_eq]
  generalize (lg_sl ([.ref h]) ++ List.replicate (1 - (lg_sl ([.ref h])).length) Slot.unset).toArray = ls at hl ⊢
  have hl : lv_has ls 1 [(0, .ref h)] := hl
  refine lv_aload_n hx hb dX7_requireRoom_0 rfl (lv_at hl 0 rfl) ?_
  refine va_get (D := D) (ci := 5) (v := .int (nI n)) (C := RX7) (T := TX7) (N := 8) hx hb hts in_X7_requireRoom_X7 hown hK.1 hP 0 rfl rfl 1 (by decide) (hts (.fieldLink RX7 15 "Nestlimit" "made" "I") (List.mem_of_getElem? (i := 3) rfl)) (fun _ h9 => h9) rfl dX7_requireRoom_1 ?_
  refine lv_aload_n hx hb dX7_requireRoom_4 rfl (lv_at hl 0 rfl) ?_
  refine va_get (D := D) (ci := 5) (v := .ref (q 0)) (C := RX7) (T := TX7) (N := 8) hx hb hts in_X7_requireRoom_X7 hown hK.1 hP 0 rfl rfl 0 (by decide) (hts (.fieldLink RX7 11 "Nestlimit" "programs" "[LNestlimit$Program;") (List.mem_of_getElem? (i := 4) rfl)) (fun _ h9 => h9) rfl dX7_requireRoom_5 ?_
  refine va_alen (v := 40) hx hb hK.1 hP 1 3 rfl rfl rfl dX7_requireRoom_8 ?_
  refine lv_icmp_lt (tgt := 22) hx hb dX7_requireRoom_9 (by decide) (fun c_9 => ?_) (fun c_9 => absurd (nI_lt (b := 40) hn (by decide)) c_9)
  exact W.vret hx hb hr (fun t ht hW => ⟨⟨none, wXp y ad h q n b1 l1 r1 b2 l2 r2 b3 l3 r3 uz ul uh f1 g1 f2 g2 pa kd on ot pt fb fl fh tb tl th dg ds, rfl, ⟨rfl, rfl⟩, rfl, by rw [ht]; exact hP⟩, by rw [← hAe]; exact hS.F ht⟩) (by rw [← hAe]; exact hS.2.2) dX7_requireRoom_22
theorem in_X7_requireRoom_ise : ∀ w ∈ (vx_atS RX7 138 "java/lang/IllegalStateException" ["java/lang/RuntimeException", "java/lang/Exception"]).filter goodWord, w ∈ wsX7_requireRoom := fun _ h => List.mem_cons_of_mem _ (List.mem_append_right _ h)
set_option maxHeartbeats 4000000 in
set_option maxRecDepth 100000 in
theorem c_X7_requireRoom_X (l : Launch) (hfl : l.stackTraces = false) (D : va_G) (y : Nat → ClassId) (ad : Nat → Nat) (sz : Nat) (h : Nat) (q : Nat → Nat) (n : Nat) (b1 : Bool) (l1 r1 : Int64) (b2 : Bool) (l2 r2 : Int64) (b3 : Bool) (l3 r3 : Int64) (uz : Nat → Bool) (ul uh : Nat → Int64) (f1 g1 f2 g2 : Int64) (pa : Nat → Nat → Nat) (kd : Nat → Nat) (on ot : Nat → Int32) (pt : Nat → Int64) (fb : Nat → Nat → Bool) (fl fh : Nat → Nat → Int64) (tb : Nat → Nat → Bool) (tl th : Nat → Nat → Int64) (dg : Nat → Int32) (ds : Nat → Int64) (hn : ¬ n < 40) (hn2 : n ≤ 40) : vx_Met l yX7_requireRoom wsX7_requireRoom ({ frames := 6, cells := 1, slots := 6, locals := 92 } : Room) (gPX D y ad [.ref h] (wXp y ad h q n b1 l1 r1 b2 l2 r2 b3 l3 r3 uz ul uh f1 g1 f2 g2 pa kd on ot pt fb fl fh tb tl th dg ds) sz) gNo (gXC D (wXp y ad h q n b1 l1 r1 b2 l2 r2 b3 l3 r3 uz ul uh f1 g1 f2 g2 pa kd on ot pt fb fl fh tb tl th dg ds) gISE (fun w => w = wXp y ad h q n b1 l1 r1 b2 l2 r2 b3 l3 r3 uz ul uh f1 g1 f2 g2 pa kd on ot pt fb fl fh tb tl th dg ds)) 1 6 (va_A (wXp y ad h q n b1 l1 r1 b2 l2 r2 b3 l3 r3 uz ul uh f1 g1 f2 g2 pa kd on ot pt fb fl fh tb tl th dg ds) sz) := by
  refine vx_ofW (cc := cX7_requireRoom) (maxL := 1) (ret := none) (by decide) rfl ?_
  intro pg e s m args below meth c s₁ B hml hno hv
  obtain ⟨rfl, hsz, hP, hK, hD0, hE0⟩ := hv
  have hx := B.exec
  have hb := B.bytes
  have hr := B.returns
  have hts := atoms_spec (ws := wsX7_requireRoom) B.pre
  have hown : s.vm.findClass RX7 = some m.cls := findClass_of_methodNamed B.named
  have hlocks := B.notSynchronized
  subst hsz
  obtain ⟨A, hAe⟩ : ∃ A : Nat → Prop, A = va_A (wXp y ad h q n b1 l1 r1 b2 l2 r2 b3 l3 r3 uz ul uh f1 g1 f2 g2 pa kd on ot pt fb fl fh tb tl th dg ds) s.heap.size := ⟨_, rfl⟩
  have hE : gE ad A s s.heap := by rw [hAe]; exact hE0
  have hD : va_D A (wXp y ad h q n b1 l1 r1 b2 l2 r2 b3 l3 r3 uz ul uh f1 g1 f2 g2 pa kd on ot pt fb fl fh tb tl th dg ds) := by rw [hAe]; exact hD0.self (sz := s.heap.size)
  have hA : ∀ q : Nat, s.heap.size ≤ q → A q := fun q h => by rw [hAe]; exact Or.inr h
  have hS : va_S A s.heap s.heap [] := va_S.rf
  have hl := lv_entry ([.ref h]) (n := 1) (Nat.le_of_ble_eq_true rfl)
  rw [lg_entry_eq]
  generalize (lg_sl ([.ref h]) ++ List.replicate (1 - (lg_sl ([.ref h])).length) Slot.unset).toArray = ls at hl ⊢
  have hl : lv_has ls 1 [(0, .ref h)] := hl
  refine lv_aload_n hx hb dX7_requireRoom_0 rfl (lv_at hl 0 rfl) ?_
  refine va_get (D := D) (ci := 5) (v := .int (nI n)) (C := RX7) (T := TX7) (N := 8) hx hb hts in_X7_requireRoom_X7 hown hK.1 hP 0 rfl rfl 1 (by decide) (hts (.fieldLink RX7 15 "Nestlimit" "made" "I") (List.mem_of_getElem? (i := 3) rfl)) (fun _ h9 => h9) rfl dX7_requireRoom_1 ?_
  refine lv_aload_n hx hb dX7_requireRoom_4 rfl (lv_at hl 0 rfl) ?_
  refine va_get (D := D) (ci := 5) (v := .ref (q 0)) (C := RX7) (T := TX7) (N := 8) hx hb hts in_X7_requireRoom_X7 hown hK.1 hP 0 rfl rfl 0 (by decide) (hts (.fieldLink RX7 11 "Nestlimit" "programs" "[LNestlimit$Program;") (List.mem_of_getElem? (i := 4) rfl)) (fun _ h9 => h9) rfl dX7_requireRoom_5 ?_
  refine va_alen (v := 40) hx hb hK.1 hP 1 3 rfl rfl rfl dX7_requireRoom_8 ?_
  refine lv_icmp_lt (tgt := 22) hx hb dX7_requireRoom_9 (by decide) (fun c_9 => absurd c_9 (nI_nlt (b := 40) (by omega) (by omega))) (fun c_9 => ?_)
  obtain ⟨sa, hsa⟩ := hE.str 7 rfl
  exact vx_throwS hx hb hfl (own := RX7) (cls := gISE) (names := gNm) (A := A) hown (by decide +kernel) (by decide +kernel) (hts (.classLink RX7 134 "java/lang/IllegalStateException") (List.mem_of_getElem? (i := 1) rfl)) (hts (.initialized "java/lang/IllegalStateException") (List.mem_of_getElem? (i := 2) rfl)) hsa (vx_hat (fun w hw => hts w (in_X7_requireRoom_ise w hw)) gAt_ise hE.cw) gOt_ise hE.1.1 hE.1.2 hS (hl.1.trans hml.symm) dX7_requireRoom_12 dX7_requireRoom_15 dX7_requireRoom_16 dX7_requireRoom_18 dX7_requireRoom_21 (fun x hx9 => (hno x hx9).elim) (Nat.le_of_ble_eq_true rfl) (Nat.le_of_ble_eq_true rfl) (Nat.le_of_ble_eq_true rfl) (Nat.le_of_ble_eq_true rfl) hlocks (g_xc hAe hP hS rfl rfl) (by rw [← hAe]; exact hS.2.2) (Nat.le_of_ble_eq_true rfl) (Nat.le_of_ble_eq_true rfl)
theorem in_X7_existing_X7 : ∀ w ∈ wsX70, w ∈ wsX7_existing := fun _ h => List.mem_cons_of_mem _ (List.mem_append_left _ (List.mem_append_right _ h))
set_option maxHeartbeats 4000000 in
set_option maxRecDepth 100000 in
theorem c_X7_existing_0 (l : Launch) (hfl : l.stackTraces = false) (D : va_G) (y : Nat → ClassId) (ad : Nat → Nat) (sz : Nat) (h : Nat) (q : Nat → Nat) (n : Nat) (b1 : Bool) (l1 r1 : Int64) (b2 : Bool) (l2 r2 : Int64) (b3 : Bool) (l3 r3 : Int64) (uz : Nat → Bool) (ul uh : Nat → Int64) (f1 g1 f2 g2 : Int64) (pa : Nat → Nat → Nat) (kd : Nat → Nat) (on ot : Nat → Int32) (pt : Nat → Int64) (fb : Nat → Nat → Bool) (fl fh : Nat → Nat → Int64) (tb : Nat → Nat → Bool) (tl th : Nat → Nat → Int64) (dg : Nat → Int32) (ds : Nat → Int64) (k : Nat) (hn : n ≤ 40) (hk : k < n) : Met l yX7_existing wsX7_existing ({ frames := 0, cells := 0, slots := 0, locals := 0 } : Room) (gPX D y ad [.ref h, .int (nI k)] (wXp y ad h q n b1 l1 r1 b2 l2 r2 b3 l3 r3 uz ul uh f1 g1 f2 g2 pa kd on ot pt fb fl fh tb tl th dg ds) sz) (gR (.ref (pa k 0))) 0 0 (fun _ => False) := by
  refine Met.ofW (cc := cX7_existing) (maxL := 3) (ret := (some (.object "Nestlimit$Program"))) (by decide) rfl ?_
  intro pg e s m args below meth c s₁ B hml hv
  obtain ⟨rfl, hsz, hP, hK, hD0, hE0⟩ := hv
  have hx := B.exec
  have hb := B.bytes
  have hr := B.returns
  have hts := atoms_spec (ws := wsX7_existing) B.pre
  have hown : s.vm.findClass RX7 = some m.cls := findClass_of_methodNamed B.named
  have hlocks := B.notSynchronized
  subst hsz
  obtain ⟨A, hAe⟩ : ∃ A : Nat → Prop, A = va_A (wXp y ad h q n b1 l1 r1 b2 l2 r2 b3 l3 r3 uz ul uh f1 g1 f2 g2 pa kd on ot pt fb fl fh tb tl th dg ds) s.heap.size := ⟨_, rfl⟩
  have hE : gE ad A s s.heap := by rw [hAe]; exact hE0
  have hD : va_D A (wXp y ad h q n b1 l1 r1 b2 l2 r2 b3 l3 r3 uz ul uh f1 g1 f2 g2 pa kd on ot pt fb fl fh tb tl th dg ds) := by rw [hAe]; exact hD0.self (sz := s.heap.size)
  have hA : ∀ q : Nat, s.heap.size ≤ q → A q := fun q h => by rw [hAe]; exact Or.inr h
  have hS : va_S A s.heap s.heap [] := va_S.rf
  have hl := lv_entry ([.ref h, .int (nI k)]) (n := 3) (Nat.le_of_ble_eq_true rfl)
  rw [lg_entry_eq]
  generalize (lg_sl ([.ref h, .int (nI k)]) ++ List.replicate (3 - (lg_sl ([.ref h, .int (nI k)])).length) Slot.unset).toArray = ls at hl ⊢
  have hl : lv_has ls 3 [(0, .ref h), (1, .int (nI k))] := hl
  refine lv_iload_n hx hb dX7_existing_0 rfl (lv_at hl 1 rfl) ?_
  refine lv_if_lt (tgt := 21) hx hb dX7_existing_1 (by decide) (fun c_1 => absurd c_1 (nI_pos (by omega))) (fun c_1 => ?_)
  refine lv_iload_n hx hb dX7_existing_4 rfl (lv_at hl 1 rfl) ?_
  refine lv_aload_n hx hb dX7_existing_5 rfl (lv_at hl 0 rfl) ?_
  refine va_get (D := D) (ci := 5) (v := .int (nI n)) (C := RX7) (T := TX7) (N := 8) hx hb hts in_X7_existing_X7 hown hK.1 hP 0 rfl rfl 1 (by decide) (hts (.fieldLink RX7 15 "Nestlimit" "made" "I") (List.mem_of_getElem? (i := 3) rfl)) (fun _ h9 => h9) rfl dX7_existing_6 ?_
  refine lv_icmp_ge (tgt := 21) hx hb dX7_existing_9 (by decide) (fun c_9 => absurd c_9 (nI_ge hk (by omega))) (fun c_9 => ?_)
  refine lv_iload_n hx hb dX7_existing_12 rfl (lv_at hl 1 rfl) ?_
  refine lv_aload_n hx hb dX7_existing_13 rfl (lv_at hl 0 rfl) ?_
  refine va_get (D := D) (ci := 5) (v := .ref (q 0)) (C := RX7) (T := TX7) (N := 8) hx hb hts in_X7_existing_X7 hown hK.1 hP 0 rfl rfl 0 (by decide) (hts (.fieldLink RX7 11 "Nestlimit" "programs" "[LNestlimit$Program;") (List.mem_of_getElem? (i := 4) rfl)) (fun _ h9 => h9) rfl dX7_existing_14 ?_
  refine va_alen (v := 40) hx hb hK.1 hP 1 3 rfl rfl rfl dX7_existing_17 ?_
  refine lv_icmp_lt (tgt := 31) hx hb dX7_existing_18 (by decide) (fun c_18 => ?_) (fun c_18 => absurd (nI_lt (b := 40) (by omega) (by decide)) c_18)
  refine lv_aload_n hx hb dX7_existing_31 rfl (lv_at hl 0 rfl) ?_
  refine va_get (D := D) (ci := 5) (v := .ref (q 0)) (C := RX7) (T := TX7) (N := 8) hx hb hts in_X7_existing_X7 hown hK.1 hP 0 rfl rfl 0 (by decide) (hts (.fieldLink RX7 11 "Nestlimit" "programs" "[LNestlimit$Program;") (List.mem_of_getElem? (i := 4) rfl)) (fun _ h9 => h9) rfl dX7_existing_32 ?_
  refine lv_iload_n hx hb dX7_existing_35 rfl (lv_at hl 1 rfl) ?_
  refine g_aldq (k := k) hx hb hK.1 hP 1 3 rfl rfl (by omega) (by decide) dX7_existing_36 ?_
  refine g_topv (gPg_at hk) ?_
  refine lv_astore_n (lv' := [(2, .ref (pa k 0)), (0, .ref h), (1, .int (nI k))]) hx hb dX7_existing_37 rfl hl (by decide) rfl (fun ls hl => ?_)
  refine lv_aload_n hx hb dX7_existing_38 rfl (lv_at hl 0 rfl) ?_
  refine lv_ifnonnull (tgt := 52) hx hb dX7_existing_39 (by decide) ?_
  refine lv_aload_n hx hb dX7_existing_52 rfl (lv_at hl 0 rfl) ?_
  exact W.aret (v := .ref (pa k 0)) (rt := .object "Nestlimit$Program") hx hb hr (Or.inl ⟨_, rfl⟩) (Or.inr ⟨_, rfl⟩) (fun t ht hW => ⟨rfl, ht⟩) (fun q h => by cases h) dX7_existing_53
theorem in_X7_existing_iob : ∀ w ∈ (vx_atS RX7 256 "java/lang/IndexOutOfBoundsException" ["java/lang/RuntimeException", "java/lang/Exception"]).filter goodWord, w ∈ wsX7_existing := fun _ h => List.mem_cons_of_mem _ (List.mem_append_right _ h)
set_option maxHeartbeats 4000000 in
set_option maxRecDepth 100000 in
theorem c_X7_existing_X (l : Launch) (hfl : l.stackTraces = false) (D : va_G) (y : Nat → ClassId) (ad : Nat → Nat) (sz : Nat) (h : Nat) (q : Nat → Nat) (n : Nat) (b1 : Bool) (l1 r1 : Int64) (b2 : Bool) (l2 r2 : Int64) (b3 : Bool) (l3 r3 : Int64) (uz : Nat → Bool) (ul uh : Nat → Int64) (f1 g1 f2 g2 : Int64) (pa : Nat → Nat → Nat) (kd : Nat → Nat) (on ot : Nat → Int32) (pt : Nat → Int64) (fb : Nat → Nat → Bool) (fl fh : Nat → Nat → Int64) (tb : Nat → Nat → Bool) (tl th : Nat → Nat → Int64) (dg : Nat → Int32) (ds : Nat → Int64) (a : Int32) (hbad : a < 0 ∨ nI n ≤ a) : vx_Met l yX7_existing wsX7_existing ({ frames := 6, cells := 1, slots := 6, locals := 92 } : Room) (gPX D y ad [.ref h, .int a] (wXp y ad h q n b1 l1 r1 b2 l2 r2 b3 l3 r3 uz ul uh f1 g1 f2 g2 pa kd on ot pt fb fl fh tb tl th dg ds) sz) gNo (gXC D (wXp y ad h q n b1 l1 r1 b2 l2 r2 b3 l3 r3 uz ul uh f1 g1 f2 g2 pa kd on ot pt fb fl fh tb tl th dg ds) gIOB (fun w => w = wXp y ad h q n b1 l1 r1 b2 l2 r2 b3 l3 r3 uz ul uh f1 g1 f2 g2 pa kd on ot pt fb fl fh tb tl th dg ds)) 1 6 (va_A (wXp y ad h q n b1 l1 r1 b2 l2 r2 b3 l3 r3 uz ul uh f1 g1 f2 g2 pa kd on ot pt fb fl fh tb tl th dg ds) sz) := by
  refine vx_ofW (cc := cX7_existing) (maxL := 3) (ret := (some (.object "Nestlimit$Program"))) (by decide) rfl ?_
  intro pg e s m args below meth c s₁ B hml hno hv
  obtain ⟨rfl, hsz, hP, hK, hD0, hE0⟩ := hv
  have hx := B.exec
  have hb := B.bytes
  have hr := B.returns
  have hts := atoms_spec (ws := wsX7_existing) B.pre
  have hown : s.vm.findClass RX7 = some m.cls := findClass_of_methodNamed B.named
  have hlocks := B.notSynchronized
  subst hsz
  obtain ⟨A, hAe⟩ : ∃ A : Nat → Prop, A = va_A (wXp y ad h q n b1 l1 r1 b2 l2 r2 b3 l3 r3 uz ul uh f1 g1 f2 g2 pa kd on ot pt fb fl fh tb tl th dg ds) s.heap.size := ⟨_, rfl⟩
  have hE : gE ad A s s.heap := by rw [hAe]; exact hE0
  have hD : va_D A (wXp y ad h q n b1 l1 r1 b2 l2 r2 b3 l3 r3 uz ul uh f1 g1 f2 g2 pa kd on ot pt fb fl fh tb tl th dg ds) := by rw [hAe]; exact hD0.self (sz := s.heap.size)
  have hA : ∀ q : Nat, s.heap.size ≤ q → A q := fun q h => by rw [hAe]; exact Or.inr h
  have hS : va_S A s.heap s.heap [] := va_S.rf
  have hl := lv_entry ([.ref h, .int a]) (n := 3) (Nat.le_of_ble_eq_true rfl)
  rw [lg_entry_eq]
  generalize (lg_sl ([.ref h, .int a]) ++ List.replicate (3 - (lg_sl ([.ref h, .int a])).length) Slot.unset).toArray = ls at hl ⊢
  have hl : lv_has ls 3 [(0, .ref h), (1, .int a)] := hl
  refine lv_iload_n hx hb dX7_existing_0 rfl (lv_at hl 1 rfl) ?_
  refine lv_if_lt (tgt := 21) hx hb dX7_existing_1 (by decide) (fun c_1 => ?_) (fun c_1 => ?_)
  · skip
    obtain ⟨sa, hsa⟩ := hE.str 8 rfl
    exact vx_throwS hx hb hfl (own := RX7) (cls := gIOB) (names := gNm) (A := A) hown (by decide +kernel) (by decide +kernel) (hts (.classLink RX7 252 "java/lang/IndexOutOfBoundsException") (List.mem_of_getElem? (i := 1) rfl)) (hts (.initialized "java/lang/IndexOutOfBoundsException") (List.mem_of_getElem? (i := 2) rfl)) hsa (vx_hat (fun w hw => hts w (in_X7_existing_iob w hw)) gAt_iob hE.cw) gOt_iob hE.1.1 hE.1.2 hS (hl.1.trans hml.symm) dX7_existing_21 dX7_existing_24 dX7_existing_25 dX7_existing_27 dX7_existing_30 (fun x hx9 => (hno x hx9).elim) (Nat.le_of_ble_eq_true rfl) (Nat.le_of_ble_eq_true rfl) (Nat.le_of_ble_eq_true rfl) (Nat.le_of_ble_eq_true rfl) hlocks (g_xc hAe hP hS rfl rfl) (by rw [← hAe]; exact hS.2.2) (Nat.le_of_ble_eq_true rfl) (Nat.le_of_ble_eq_true rfl)
  · skip
    refine lv_iload_n hx hb dX7_existing_4 rfl (lv_at hl 1 rfl) ?_
    refine lv_aload_n hx hb dX7_existing_5 rfl (lv_at hl 0 rfl) ?_
    refine va_get (D := D) (ci := 5) (v := .int (nI n)) (C := RX7) (T := TX7) (N := 8) hx hb hts in_X7_existing_X7 hown hK.1 hP 0 rfl rfl 1 (by decide) (hts (.fieldLink RX7 15 "Nestlimit" "made" "I") (List.mem_of_getElem? (i := 3) rfl)) (fun _ h9 => h9) rfl dX7_existing_6 ?_
    refine lv_icmp_ge (tgt := 21) hx hb dX7_existing_9 (by decide) (fun c_9 => ?_) (fun c_9 => absurd hbad (fun z => z.elim c_1 c_9))
    obtain ⟨sa, hsa⟩ := hE.str 8 rfl
    exact vx_throwS hx hb hfl (own := RX7) (cls := gIOB) (names := gNm) (A := A) hown (by decide +kernel) (by decide +kernel) (hts (.classLink RX7 252 "java/lang/IndexOutOfBoundsException") (List.mem_of_getElem? (i := 1) rfl)) (hts (.initialized "java/lang/IndexOutOfBoundsException") (List.mem_of_getElem? (i := 2) rfl)) hsa (vx_hat (fun w hw => hts w (in_X7_existing_iob w hw)) gAt_iob hE.cw) gOt_iob hE.1.1 hE.1.2 hS (hl.1.trans hml.symm) dX7_existing_21 dX7_existing_24 dX7_existing_25 dX7_existing_27 dX7_existing_30 (fun x hx9 => (hno x hx9).elim) (Nat.le_of_ble_eq_true rfl) (Nat.le_of_ble_eq_true rfl) (Nat.le_of_ble_eq_true rfl) (Nat.le_of_ble_eq_true rfl) hlocks (g_xc hAe hP hS rfl rfl) (by rw [← hAe]; exact hS.2.2) (Nat.le_of_ble_eq_true rfl) (Nat.le_of_ble_eq_true rfl)
theorem in_X7_endOfAnswer_X2 : ∀ w ∈ wsX20, w ∈ wsX7_endOfAnswer := fun _ h => List.mem_cons_of_mem _ (List.mem_append_left _ (List.mem_append_right _ h))
theorem in_X7_endOfAnswer_X7 : ∀ w ∈ wsX70, w ∈ wsX7_endOfAnswer := fun _ h => List.mem_cons_of_mem _ (List.mem_append_left _ (List.mem_append_left _ (List.mem_append_right _ h)))
set_option maxHeartbeats 4000000 in
set_option maxRecDepth 100000 in
theorem c_X7_endOfAnswer_0 (l : Launch) (hfl : l.stackTraces = false) (D : va_G) (y : Nat → ClassId) (ad : Nat → Nat) (sz : Nat) (h : Nat) (q : Nat → Nat) (n : Nat) (b1 : Bool) (l1 r1 : Int64) (b2 : Bool) (l2 r2 : Int64) (b3 : Bool) (l3 r3 : Int64) (uz : Nat → Bool) (ul uh : Nat → Int64) (f1 g1 f2 g2 : Int64) (pa : Nat → Nat → Nat) (kd : Nat → Nat) (on ot : Nat → Int32) (pt : Nat → Int64) (fb : Nat → Nat → Bool) (fl fh : Nat → Nat → Int64) (tb : Nat → Nat → Bool) (tl th : Nat → Nat → Int64) (dg : Nat → Int32) (ds : Nat → Int64) (bb : Bool) (hb1 : b1 = true) : Met l yX7_endOfAnswer wsX7_endOfAnswer ({ frames := 0, cells := 0, slots := 0, locals := 0 } : Room) (gPX D y ad [.ref h, .int (gB bb)] (wXp y ad h q n b1 l1 r1 b2 l2 r2 b3 l3 r3 uz ul uh f1 g1 f2 g2 pa kd on ot pt fb fl fh tb tl th dg ds) sz) (gR (.long (gSl bb r1 l1))) 0 0 (fun _ => False) := by
  refine Met.ofW (cc := cX7_endOfAnswer) (maxL := 2) (ret := (some .long)) (by decide) rfl ?_
  intro pg e s m args below meth c s₁ B hml hv
  obtain ⟨rfl, hsz, hP, hK, hD0, hE0⟩ := hv
  have hx := B.exec
  have hb := B.bytes
  have hr := B.returns
  have hts := atoms_spec (ws := wsX7_endOfAnswer) B.pre
  have hown : s.vm.findClass RX7 = some m.cls := findClass_of_methodNamed B.named
  have hlocks := B.notSynchronized
  subst hsz
  obtain ⟨A, hAe⟩ : ∃ A : Nat → Prop, A = va_A (wXp y ad h q n b1 l1 r1 b2 l2 r2 b3 l3 r3 uz ul uh f1 g1 f2 g2 pa kd on ot pt fb fl fh tb tl th dg ds) s.heap.size := ⟨_, rfl⟩
  have hE : gE ad A s s.heap := by rw [hAe]; exact hE0
  have hD : va_D A (wXp y ad h q n b1 l1 r1 b2 l2 r2 b3 l3 r3 uz ul uh f1 g1 f2 g2 pa kd on ot pt fb fl fh tb tl th dg ds) := by rw [hAe]; exact hD0.self (sz := s.heap.size)
  have hA : ∀ q : Nat, s.heap.size ≤ q → A q := fun q h => by rw [hAe]; exact Or.inr h
  have hS : va_S A s.heap s.heap [] := va_S.rf
  have hl := lv_entry ([.ref h, .int (gB bb)]) (n := 2) (Nat.le_of_ble_eq_true rfl)
  rw [lg_entry_eq]
  generalize (lg_sl ([.ref h, .int (gB bb)]) ++ List.replicate (2 - (lg_sl ([.ref h, .int (gB bb)])).length) Slot.unset).toArray = ls at hl ⊢
  have hl : lv_has ls 2 [(0, .ref h), (1, .int (gB bb))] := hl
  refine lv_aload_n hx hb dX7_endOfAnswer_0 rfl (lv_at hl 0 rfl) ?_
  refine va_get (D := D) (ci := 5) (v := .ref (q 1)) (C := RX7) (T := TX7) (N := 8) hx hb hts in_X7_endOfAnswer_X7 hown hK.1 hP 0 rfl rfl 2 (by decide) (hts (.fieldLink RX7 22 "Nestlimit" "answer" "LNestlimit$Interval;") (List.mem_of_getElem? (i := 3) rfl)) (fun _ h9 => h9) rfl dX7_endOfAnswer_1 ?_
  refine va_get (D := D) (ci := 1) (v := .int (gB b1)) (C := RX2) (T := TX2) (N := 3) hx hb hts in_X7_endOfAnswer_X2 hown hK.1 hP 2 rfl rfl 0 (by decide) (hts (.fieldLink RX7 173 "Nestlimit$Interval" "isThere" "Z") (List.mem_of_getElem? (i := 4) rfl)) (fun _ h9 => h9) rfl dX7_endOfAnswer_4 ?_
  refine g_bne (tgt := 21) hx hb dX7_endOfAnswer_7 (by decide) (fun c_7 => ?_) (fun c_7 => absurd hb1 c_7)
  refine lv_iload_n hx hb dX7_endOfAnswer_21 rfl (lv_at hl 1 rfl) ?_
  refine g_beq (tgt := 35) hx hb dX7_endOfAnswer_22 (by decide) (fun c_22 => ?_) (fun c_22 => ?_)
  · skip
    refine lv_aload_n hx hb dX7_endOfAnswer_35 rfl (lv_at hl 0 rfl) ?_
    refine va_get (D := D) (ci := 5) (v := .ref (q 1)) (C := RX7) (T := TX7) (N := 8) hx hb hts in_X7_endOfAnswer_X7 hown hK.1 hP 0 rfl rfl 2 (by decide) (hts (.fieldLink RX7 22 "Nestlimit" "answer" "LNestlimit$Interval;") (List.mem_of_getElem? (i := 3) rfl)) (fun _ h9 => h9) rfl dX7_endOfAnswer_36 ?_
    refine va_get (D := D) (ci := 1) (v := .long l1) (C := RX2) (T := TX2) (N := 3) hx hb hts in_X7_endOfAnswer_X2 hown hK.1 hP 2 rfl rfl 1 (by decide) (hts (.fieldLink RX7 181 "Nestlimit$Interval" "low" "J") (List.mem_of_getElem? (i := 6) rfl)) (fun _ h9 => h9) rfl dX7_endOfAnswer_39 ?_
    exact W.lret (v := l1) hx hb hr (fun t ht hW => ⟨congrArg (fun z => Outcome.returned (some (Value.long z))) (by simp only [gSl, if_neg c_22]), ht⟩) (fun q h => by cases h) dX7_endOfAnswer_42
  · skip
    refine lv_aload_n hx hb dX7_endOfAnswer_25 rfl (lv_at hl 0 rfl) ?_
    refine va_get (D := D) (ci := 5) (v := .ref (q 1)) (C := RX7) (T := TX7) (N := 8) hx hb hts in_X7_endOfAnswer_X7 hown hK.1 hP 0 rfl rfl 2 (by decide) (hts (.fieldLink RX7 22 "Nestlimit" "answer" "LNestlimit$Interval;") (List.mem_of_getElem? (i := 3) rfl)) (fun _ h9 => h9) rfl dX7_endOfAnswer_26 ?_
    refine va_get (D := D) (ci := 1) (v := .long r1) (C := RX2) (T := TX2) (N := 3) hx hb hts in_X7_endOfAnswer_X2 hown hK.1 hP 2 rfl rfl 2 (by decide) (hts (.fieldLink RX7 177 "Nestlimit$Interval" "high" "J") (List.mem_of_getElem? (i := 5) rfl)) (fun _ h9 => h9) rfl dX7_endOfAnswer_29 ?_
    refine lv_goto (tgt := 42) hx hb dX7_endOfAnswer_32 (by decide) ?_
    exact W.lret (v := r1) hx hb hr (fun t ht hW => ⟨congrArg (fun z => Outcome.returned (some (Value.long z))) (by simp only [gSl, if_pos c_22]), ht⟩) (fun q h => by cases h) dX7_endOfAnswer_42
theorem in_X7_endOfAnswer_ise : ∀ w ∈ (vx_atS RX7 138 "java/lang/IllegalStateException" ["java/lang/RuntimeException", "java/lang/Exception"]).filter goodWord, w ∈ wsX7_endOfAnswer := fun _ h => List.mem_cons_of_mem _ (List.mem_append_right _ h)
set_option maxHeartbeats 4000000 in
set_option maxRecDepth 100000 in
theorem c_X7_endOfAnswer_X (l : Launch) (hfl : l.stackTraces = false) (D : va_G) (y : Nat → ClassId) (ad : Nat → Nat) (sz : Nat) (h : Nat) (q : Nat → Nat) (n : Nat) (b1 : Bool) (l1 r1 : Int64) (b2 : Bool) (l2 r2 : Int64) (b3 : Bool) (l3 r3 : Int64) (uz : Nat → Bool) (ul uh : Nat → Int64) (f1 g1 f2 g2 : Int64) (pa : Nat → Nat → Nat) (kd : Nat → Nat) (on ot : Nat → Int32) (pt : Nat → Int64) (fb : Nat → Nat → Bool) (fl fh : Nat → Nat → Int64) (tb : Nat → Nat → Bool) (tl th : Nat → Nat → Int64) (dg : Nat → Int32) (ds : Nat → Int64) (bb : Bool) (hb1 : ¬ b1 = true) : vx_Met l yX7_endOfAnswer wsX7_endOfAnswer ({ frames := 6, cells := 1, slots := 6, locals := 92 } : Room) (gPX D y ad [.ref h, .int (gB bb)] (wXp y ad h q n b1 l1 r1 b2 l2 r2 b3 l3 r3 uz ul uh f1 g1 f2 g2 pa kd on ot pt fb fl fh tb tl th dg ds) sz) gNo (gXC D (wXp y ad h q n b1 l1 r1 b2 l2 r2 b3 l3 r3 uz ul uh f1 g1 f2 g2 pa kd on ot pt fb fl fh tb tl th dg ds) gISE (fun w => w = wXp y ad h q n b1 l1 r1 b2 l2 r2 b3 l3 r3 uz ul uh f1 g1 f2 g2 pa kd on ot pt fb fl fh tb tl th dg ds)) 1 6 (va_A (wXp y ad h q n b1 l1 r1 b2 l2 r2 b3 l3 r3 uz ul uh f1 g1 f2 g2 pa kd on ot pt fb fl fh tb tl th dg ds) sz) := by
  refine vx_ofW (cc := cX7_endOfAnswer) (maxL := 2) (ret := (some .long)) (by decide) rfl ?_
  intro pg e s m args below meth c s₁ B hml hno hv
  obtain ⟨rfl, hsz, hP, hK, hD0, hE0⟩ := hv
  have hx := B.exec
  have hb := B.bytes
  have hr := B.returns
  have hts := atoms_spec (ws := wsX7_endOfAnswer) B.pre
  have hown : s.vm.findClass RX7 = some m.cls := findClass_of_methodNamed B.named
  have hlocks := B.notSynchronized
  subst hsz
  obtain ⟨A, hAe⟩ : ∃ A : Nat → Prop, A = va_A (wXp y ad h q n b1 l1 r1 b2 l2 r2 b3 l3 r3 uz ul uh f1 g1 f2 g2 pa kd on ot pt fb fl fh tb tl th dg ds) s.heap.size := ⟨_, rfl⟩
  have hE : gE ad A s s.heap := by rw [hAe]; exact hE0
  have hD : va_D A (wXp y ad h q n b1 l1 r1 b2 l2 r2 b3 l3 r3 uz ul uh f1 g1 f2 g2 pa kd on ot pt fb fl fh tb tl th dg ds) := by rw [hAe]; exact hD0.self (sz := s.heap.size)
  have hA : ∀ q : Nat, s.heap.size ≤ q → A q := fun q h => by rw [hAe]; exact Or.inr h
  have hS : va_S A s.heap s.heap [] := va_S.rf
  have hl := lv_entry ([.ref h, .int (gB bb)]) (n := 2) (Nat.le_of_ble_eq_true rfl)
  rw [lg_entry_eq]
  generalize (lg_sl ([.ref h, .int (gB bb)]) ++ List.replicate (2 - (lg_sl ([.ref h, .int (gB bb)])).length) Slot.unset).toArray = ls at hl ⊢
  have hl : lv_has ls 2 [(0, .ref h), (1, .int (gB bb))] := hl
  refine lv_aload_n hx hb dX7_endOfAnswer_0 rfl (lv_at hl 0 rfl) ?_
  refine va_get (D := D) (ci := 5) (v := .ref (q 1)) (C := RX7) (T := TX7) (N := 8) hx hb hts in_X7_endOfAnswer_X7 hown hK.1 hP 0 rfl rfl 2 (by decide) (hts (.fieldLink RX7 22 "Nestlimit" "answer" "LNestlimit$Interval;") (List.mem_of_getElem? (i := 3) rfl)) (fun _ h9 => h9) rfl dX7_endOfAnswer_1 ?_
  refine va_get (D := D) (ci := 1) (v := .int (gB b1)) (C := RX2) (T := TX2) (N := 3) hx hb hts in_X7_endOfAnswer_X2 hown hK.1 hP 2 rfl rfl 0 (by decide) (hts (.fieldLink RX7 173 "Nestlimit$Interval" "isThere" "Z") (List.mem_of_getElem? (i := 4) rfl)) (fun _ h9 => h9) rfl dX7_endOfAnswer_4 ?_
  refine g_bne (tgt := 21) hx hb dX7_endOfAnswer_7 (by decide) (fun c_7 => absurd c_7 hb1) (fun c_7 => ?_)
  obtain ⟨sa, hsa⟩ := hE.str 9 rfl
  exact vx_throwSW hx hb hfl (own := RX7) (cls := gISE) (names := gNm) (A := A) hown (by decide +kernel) (by decide +kernel) (hts (.classLink RX7 134 "java/lang/IllegalStateException") (List.mem_of_getElem? (i := 1) rfl)) (hts (.initialized "java/lang/IllegalStateException") (List.mem_of_getElem? (i := 2) rfl)) hsa (vx_hat (fun w hw => hts w (in_X7_endOfAnswer_ise w hw)) gAt_ise hE.cw) gOt_ise hE.1.1 hE.1.2 hS (hl.1.trans hml.symm) dX7_endOfAnswer_10 dX7_endOfAnswer_13 dX7_endOfAnswer_14 dX7_endOfAnswer_17 dX7_endOfAnswer_20 (fun x hx9 => (hno x hx9).elim) (Nat.le_of_ble_eq_true rfl) (Nat.le_of_ble_eq_true rfl) (Nat.le_of_ble_eq_true rfl) (Nat.le_of_ble_eq_true rfl) hlocks (g_xc hAe hP hS rfl rfl) (by rw [← hAe]; exact hS.2.2) (Nat.le_of_ble_eq_true rfl) (Nat.le_of_ble_eq_true rfl)
theorem in_X7_ownBit_X7 : ∀ w ∈ wsX70, w ∈ wsX7_ownBit := fun _ h => List.mem_cons_of_mem _ (List.mem_append_right _ h)
set_option maxHeartbeats 4000000 in
set_option maxRecDepth 100000 in
theorem c_X7_ownBit (l : Launch) (hfl : l.stackTraces = false) (D : va_G) (y : Nat → ClassId) (ad : Nat → Nat) (sz : Nat) (h : Nat) (q : Nat → Nat) (n : Nat) (b1 : Bool) (l1 r1 : Int64) (b2 : Bool) (l2 r2 : Int64) (b3 : Bool) (l3 r3 : Int64) (uz : Nat → Bool) (ul uh : Nat → Int64) (f1 g1 f2 g2 : Int64) (pa : Nat → Nat → Nat) (kd : Nat → Nat) (on ot : Nat → Int32) (pt : Nat → Int64) (fb : Nat → Nat → Bool) (fl fh : Nat → Nat → Int64) (tb : Nat → Nat → Bool) (tl th : Nat → Nat → Int64) (dg : Nat → Int32) (ds : Nat → Int64) : Met l yX7_ownBit wsX7_ownBit ({ frames := 0, cells := 0, slots := 0, locals := 0 } : Room) (gPX D y ad [.ref h] (wXp y ad h q n b1 l1 r1 b2 l2 r2 b3 l3 r3 uz ul uh f1 g1 f2 g2 pa kd on ot pt fb fl fh tb tl th dg ds) sz) (gR (.long (jshl 1 (nI n)))) 0 0 (fun _ => False) := by
  refine Met.ofW (cc := cX7_ownBit) (maxL := 1) (ret := (some .long)) (by decide) rfl ?_
  intro pg e s m args below meth c s₁ B hml hv
  obtain ⟨rfl, hsz, hP, hK, hD0, hE0⟩ := hv
  have hx := B.exec
  have hb := B.bytes
  have hr := B.returns
  have hts := atoms_spec (ws := wsX7_ownBit) B.pre
  have hown : s.vm.findClass RX7 = some m.cls := findClass_of_methodNamed B.named
  have hlocks := B.notSynchronized
  subst hsz
  obtain ⟨A, hAe⟩ : ∃ A : Nat → Prop, A = va_A (wXp y ad h q n b1 l1 r1 b2 l2 r2 b3 l3 r3 uz ul uh f1 g1 f2 g2 pa kd on ot pt fb fl fh tb tl th dg ds) s.heap.size := ⟨_, rfl⟩
  have hE : gE ad A s s.heap := by rw [hAe]; exact hE0
  have hD : va_D A (wXp y ad h q n b1 l1 r1 b2 l2 r2 b3 l3 r3 uz ul uh f1 g1 f2 g2 pa kd on ot pt fb fl fh tb tl th dg ds) := by rw [hAe]; exact hD0.self (sz := s.heap.size)
  have hA : ∀ q : Nat, s.heap.size ≤ q → A q := fun q h => by rw [hAe]; exact Or.inr h
  have hS : va_S A s.heap s.heap [] := va_S.rf
  have hl := lv_entry ([.ref h]) (n := 1) (Nat.le_of_ble_eq_true rfl)
  rw [lg_entry_eq]
  generalize (lg_sl ([.ref h]) ++ List.replicate (1 - (lg_sl ([.ref h])).length) Slot.unset).toArray = ls at hl ⊢
  have hl : lv_has ls 1 [(0, .ref h)] := hl
  refine lv_lconst (v := 1) hx hb dX7_ownBit_0 (by decide) ?_
  refine lv_aload_n hx hb dX7_ownBit_1 rfl (lv_at hl 0 rfl) ?_
  refine va_get (D := D) (ci := 5) (v := .int (nI n)) (C := RX7) (T := TX7) (N := 8) hx hb hts in_X7_ownBit_X7 hown hK.1 hP 0 rfl rfl 1 (by decide) (hts (.fieldLink RX7 15 "Nestlimit" "made" "I") (List.mem_of_getElem? (i := 1) rfl)) (fun _ h9 => h9) rfl dX7_ownBit_2 ?_
  refine lv_lshl (v := jshl 1 (nI n)) hx hb dX7_ownBit_5 rfl ?_
  exact W.lret (v := jshl 1 (nI n)) hx hb hr (fun t ht hW => ⟨congrArg (fun z => Outcome.returned (some (Value.long z))) (rfl), ht⟩) (fun q h => by cases h) dX7_ownBit_6
