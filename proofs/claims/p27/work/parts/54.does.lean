set_option maxRecDepth 100000 in
theorem dn_raw {l : Launch} {D : va_G} {y : Nat → ClassId} {ad : Nat → Nat} {w : va_W} {h : Nat} {fs : List Value} (he : w[0]? = some (h, .inr (5, fs))) {a b c0 : Int32} {bb : Bool} (hbb : bb = decide (c0 = 1)) {G : va_W → Prop} {rm : Room} {mc ms : Nat} {x : Int64} (HL : ∀ sz, Met l yX7_raw wsX7_raw rm (gPX D y ad [.ref h, .int a, .int b, .int (gB bb)] w sz) (gQn D w (fun v w1 => v = some (.long x) ∧ G w1)) mc ms (va_A w sz)) (hc9 : rm.cells = mc) (hs9 : rm.slots = ms) (hr9 : rm.frames + 1 ≤ 11 ∧ 8 + (5 + 11) + rm.locals ≤ 400) (hm9 : 0 + mc ≤ 1 ∧ 0 + ms ≤ 6) (sz : Nat) : Met l yL_does wsL_does ({ frames := 11, cells := 1, slots := 6, locals := 400 } : Room) (gPN D y ad [.ref h, .int 8, .int a, .int b, .int c0] w sz) (gQn D w (fun v w1 => v = some (.long (x)) ∧ G w1)) 1 6 (va_A w sz) := by
  refine gMet_ofWH (cc := cL_does) (maxL := 6) (ret := (some .long)) (hh := [(0, 236, 237, 60), (0, 236, 243, 64), (0, 236, 249, 66)]) (by decide) rfl ?_
  intro pg e s m args below meth c s₁ B hml hv
  obtain ⟨rfl, ⟨hsz, hP, hK, hD0, hE0⟩, hN⟩ := hv
  have hx := B.exec
  have hb := B.bytes
  have hr := B.returns
  have hts := atoms_spec (ws := wsL_does) B.pre
  have hown : s.vm.findClass RL = some m.cls := findClass_of_methodNamed B.named
  have htab : c.exceptionTable.toList = tableOf [(0, 236, 237, 60), (0, 236, 243, 64), (0, 236, 249, 66)] := vx_table (x := yL_does) B (hts _ List.mem_cons_self)
  have hlocks := B.notSynchronized
  subst hsz
  obtain ⟨A, hAe⟩ : ∃ A : Nat → Prop, A = va_A w s.heap.size := ⟨_, rfl⟩
  have hE : gE ad A s s.heap := by rw [hAe]; exact hE0
  have hD : va_D A w := by rw [hAe]; exact hD0.self (sz := s.heap.size)
  have hA : ∀ q : Nat, s.heap.size ≤ q → A q := fun q h => by rw [hAe]; exact Or.inr h
  have hS : va_S A s.heap s.heap [] := va_S.rf
  have hl := lv_entry ([.ref h, .int 8, .int a, .int b, .int c0]) (n := 6) (Nat.le_of_ble_eq_true rfl)
  rw [lg_entry_eq]
  generalize (lg_sl ([.ref h, .int 8, .int a, .int b, .int c0]) ++ List.replicate (6 - (lg_sl ([.ref h, .int 8, .int a, .int b, .int c0])).length) Slot.unset).toArray = ls at hl ⊢
  have hl : lv_has ls 6 [(0, .ref h), (1, .int 8), (2, .int a), (3, .int b), (4, .int c0)] := hl
  by_cases c9 : c0 = 1
  · have e9 : bb = true := by rw [hbb]; exact decide_eq_true c9
    subst e9
    refine lv_iload_n hx hb dL_does_0 rfl (lv_at hl 1 rfl) ?_
    refine lv_bipush (v := 8) hx hb dL_does_1 (by decide) ?_
    refine lv_icmp_ge (tgt := 17) hx hb dL_does_3 (by decide) (fun c_3 => ?_) (fun c_3 => absurd c_3 (by decide))
    refine lv_iload_n hx hb dL_does_17 rfl (lv_at hl 1 rfl) ?_
    refine lv_bipush (v := 8) hx hb dL_does_18 (by decide) ?_
    refine lv_icmp_ne (tgt := 43) hx hb dL_does_20 (by decide) (fun c_20 => absurd c_20 (by decide)) (fun c_20 => ?_)
    refine lv_aload_n hx hb dL_does_23 rfl (lv_at hl 0 rfl) ?_
    refine lv_iload_n hx hb dL_does_24 rfl (lv_at hl 2 rfl) ?_
    refine lv_iload_n hx hb dL_does_25 rfl (lv_at hl 3 rfl) ?_
    refine lv_iload hx hb dL_does_26 (lv_at hl 4 rfl) ?_
    refine lv_iconst (v := 1) hx hb dL_does_28 (by decide) ?_
    refine lv_icmp_ne (tgt := 36) hx hb dL_does_29 (by decide) (fun c_29 => (absurd c9 c_29)) (fun c_29 => ?_)
    refine lv_iconst (v := 1) hx hb dL_does_32 (by decide) ?_
    refine lv_goto (tgt := 37) hx hb dL_does_33 (by decide) ?_
    refine g_callN (ws := []) (wc := w) (va_runV (As := [.int a, .int b, .int (gB true)]) (rest := []) ⟨hx, hb, hml, hown, hts⟩ (HL s.heap.size) (cwV 3 hts gL_does_X7_raw rfl hc9 hs9 (by decide +kernel) hr9) (gPX_VA hP hD hK hE hS hA 0 he rfl) rfl rfl hl.1 rfl (lv_room (Nat.le_of_ble_eq_true rfl)) dL_does_37 hm9) hP hD hS hA (fun v w1 H locs hf hP hD hS => ?_)
    obtain ⟨rfl, hG⟩ := hf
    refine lv_goto (tgt := 236) hx hb dL_does_40 (by decide) ?_
    refine W.widen (k := 1) (n := 6) hm9.1 hm9.2 ?_
    exact W.lret (v := x) hx hb hr (fun t ht hW => ⟨⟨some (.long (x)), w1, rfl, ⟨rfl, hG⟩, by rw [← hAe]; exact hD, by rw [ht]; exact hP⟩, by rw [← hAe]; exact hS.F ht⟩) (by rw [← hAe]; exact hS.2.2) dL_does_236
  · have e9 : bb = false := by rw [hbb]; exact decide_eq_false c9
    subst e9
    refine lv_iload_n hx hb dL_does_0 rfl (lv_at hl 1 rfl) ?_
    refine lv_bipush (v := 8) hx hb dL_does_1 (by decide) ?_
    refine lv_icmp_ge (tgt := 17) hx hb dL_does_3 (by decide) (fun c_3 => ?_) (fun c_3 => absurd c_3 (by decide))
    refine lv_iload_n hx hb dL_does_17 rfl (lv_at hl 1 rfl) ?_
    refine lv_bipush (v := 8) hx hb dL_does_18 (by decide) ?_
    refine lv_icmp_ne (tgt := 43) hx hb dL_does_20 (by decide) (fun c_20 => absurd c_20 (by decide)) (fun c_20 => ?_)
    refine lv_aload_n hx hb dL_does_23 rfl (lv_at hl 0 rfl) ?_
    refine lv_iload_n hx hb dL_does_24 rfl (lv_at hl 2 rfl) ?_
    refine lv_iload_n hx hb dL_does_25 rfl (lv_at hl 3 rfl) ?_
    refine lv_iload hx hb dL_does_26 (lv_at hl 4 rfl) ?_
    refine lv_iconst (v := 1) hx hb dL_does_28 (by decide) ?_
    refine lv_icmp_ne (tgt := 36) hx hb dL_does_29 (by decide) (fun c_29 => ?_) (fun c_29 => (c9 c_29).elim)
    refine lv_iconst (v := 0) hx hb dL_does_36 (by decide) ?_
    refine g_callN (ws := []) (wc := w) (va_runV (As := [.int a, .int b, .int (gB false)]) (rest := []) ⟨hx, hb, hml, hown, hts⟩ (HL s.heap.size) (cwV 3 hts gL_does_X7_raw rfl hc9 hs9 (by decide +kernel) hr9) (gPX_VA hP hD hK hE hS hA 0 he rfl) rfl rfl hl.1 rfl (lv_room (Nat.le_of_ble_eq_true rfl)) dL_does_37 hm9) hP hD hS hA (fun v w1 H locs hf hP hD hS => ?_)
    obtain ⟨rfl, hG⟩ := hf
    refine lv_goto (tgt := 236) hx hb dL_does_40 (by decide) ?_
    refine W.widen (k := 1) (n := 6) hm9.1 hm9.2 ?_
    exact W.lret (v := x) hx hb hr (fun t ht hW => ⟨⟨some (.long (x)), w1, rfl, ⟨rfl, hG⟩, by rw [← hAe]; exact hD, by rw [ht]; exact hP⟩, by rw [← hAe]; exact hS.F ht⟩) (by rw [← hAe]; exact hS.2.2) dL_does_236
set_option maxRecDepth 100000 in
theorem dt_raw {l : Launch} {D : va_G} {y : Nat → ClassId} {ad : Nat → Nat} {w : va_W} {h : Nat} {fs : List Value} (he : w[0]? = some (h, .inr (5, fs))) {a b c0 : Int32} {bb : Bool} (hbb : bb = decide (c0 = 1)) {G : va_W → Prop} {rm : Room} {mc ms : Nat} {E : String} (hE9 : E = gIOB ∨ E = gIAE ∨ E = gISE) (HL : ∀ sz, vx_Met l yX7_raw wsX7_raw rm (gPX D y ad [.ref h, .int a, .int b, .int (gB bb)] w sz) gNo (gXC D w E G) mc ms (va_A w sz)) (hc9 : rm.cells = mc) (hs9 : rm.slots = ms) (hr9 : rm.frames + 1 ≤ 11 ∧ 8 + (5 + 11) + rm.locals ≤ 400) (hm9 : 0 + mc ≤ 1 ∧ 0 + ms ≤ 6) (sz : Nat) : Met l yL_does wsL_does ({ frames := 11, cells := 1, slots := 6, locals := 400 } : Room) (gPN D y ad [.ref h, .int 8, .int a, .int b, .int c0] w sz) (gQn D w (fun v w1 => v = some (.long (-2100000000)) ∧ G w1)) 1 6 (va_A w sz) := by
  rcases hE9 with rfl | rfl | rfl
  · skip
    refine gMet_ofWH (cc := cL_does) (maxL := 6) (ret := (some .long)) (hh := [(0, 236, 237, 60), (0, 236, 243, 64), (0, 236, 249, 66)]) (by decide) rfl ?_
    intro pg e s m args below meth c s₁ B hml hv
    obtain ⟨rfl, ⟨hsz, hP, hK, hD0, hE0⟩, hN⟩ := hv
    have hx := B.exec
    have hb := B.bytes
    have hr := B.returns
    have hts := atoms_spec (ws := wsL_does) B.pre
    have hown : s.vm.findClass RL = some m.cls := findClass_of_methodNamed B.named
    have htab : c.exceptionTable.toList = tableOf [(0, 236, 237, 60), (0, 236, 243, 64), (0, 236, 249, 66)] := vx_table (x := yL_does) B (hts _ List.mem_cons_self)
    have hlocks := B.notSynchronized
    subst hsz
    obtain ⟨A, hAe⟩ : ∃ A : Nat → Prop, A = va_A w s.heap.size := ⟨_, rfl⟩
    have hE : gE ad A s s.heap := by rw [hAe]; exact hE0
    have hD : va_D A w := by rw [hAe]; exact hD0.self (sz := s.heap.size)
    have hA : ∀ q : Nat, s.heap.size ≤ q → A q := fun q h => by rw [hAe]; exact Or.inr h
    have hS : va_S A s.heap s.heap [] := va_S.rf
    have hl := lv_entry ([.ref h, .int 8, .int a, .int b, .int c0]) (n := 6) (Nat.le_of_ble_eq_true rfl)
    rw [lg_entry_eq]
    generalize (lg_sl ([.ref h, .int 8, .int a, .int b, .int c0]) ++ List.replicate (6 - (lg_sl ([.ref h, .int 8, .int a, .int b, .int c0])).length) Slot.unset).toArray = ls at hl ⊢
    have hl : lv_has ls 6 [(0, .ref h), (1, .int 8), (2, .int a), (3, .int b), (4, .int c0)] := hl
    by_cases c9 : c0 = 1
    · have e9 : bb = true := by rw [hbb]; exact decide_eq_true c9
      subst e9
      refine lv_iload_n hx hb dL_does_0 rfl (lv_at hl 1 rfl) ?_
      refine lv_bipush (v := 8) hx hb dL_does_1 (by decide) ?_
      refine lv_icmp_ge (tgt := 17) hx hb dL_does_3 (by decide) (fun c_3 => ?_) (fun c_3 => absurd c_3 (by decide))
      refine lv_iload_n hx hb dL_does_17 rfl (lv_at hl 1 rfl) ?_
      refine lv_bipush (v := 8) hx hb dL_does_18 (by decide) ?_
      refine lv_icmp_ne (tgt := 43) hx hb dL_does_20 (by decide) (fun c_20 => absurd c_20 (by decide)) (fun c_20 => ?_)
      refine lv_aload_n hx hb dL_does_23 rfl (lv_at hl 0 rfl) ?_
      refine lv_iload_n hx hb dL_does_24 rfl (lv_at hl 2 rfl) ?_
      refine lv_iload_n hx hb dL_does_25 rfl (lv_at hl 3 rfl) ?_
      refine lv_iload hx hb dL_does_26 (lv_at hl 4 rfl) ?_
      refine lv_iconst (v := 1) hx hb dL_does_28 (by decide) ?_
      refine lv_icmp_ne (tgt := 36) hx hb dL_does_29 (by decide) (fun c_29 => (absurd c9 c_29)) (fun c_29 => ?_)
      refine lv_iconst (v := 1) hx hb dL_does_32 (by decide) ?_
      refine lv_goto (tgt := 37) hx hb dL_does_33 (by decide) ?_
      refine g_catch (name := gIOB) (ws := []) (wc := w) (vx_runV (As := [.int a, .int b, .int (gB true)]) (rest := []) ⟨hx, hb, hml, hown, hts⟩ (HL s.heap.size) (cwV 3 hts gL_does_X7_raw rfl hc9 hs9 (by decide +kernel) hr9) (gPX_VA hP hD hK hE hS hA 0 he rfl) rfl rfl hl.1 rfl (lv_room (Nat.le_of_ble_eq_true rfl)) dL_does_37 hm9) hP hD hS hA hown [] ⟨0, 236, 237, 60⟩ [⟨0, 236, 243, 64⟩, ⟨0, 236, 249, 66⟩] (by rw [htab]; rfl) (fun z hz => absurd hz List.not_mem_nil) (by decide) (by decide) (hts (.classLink RL 60 "java/lang/IndexOutOfBoundsException") (List.mem_of_getElem? (i := 1) rfl)) (hE.cw (Cond.castable gIOB gIOB) (List.mem_of_getElem? (i := 5) rfl)) (fun q9 w1 H locs hG hP hD hS => ?_)
      refine lv_astore (lv' := [(5, .ref q9), (0, .ref h), (1, .int 8), (2, .int a), (3, .int b), (4, .int c0)]) hx hb dL_does_237 hl (by decide) rfl (fun ls hl => ?_)
      refine lv_ldc2 (v := -2100000000) hx hb hown (hts (.constantLong RL 62 (-2100000000)) (List.mem_of_getElem? (i := 4) rfl)) dL_does_239 ?_
      refine W.widen (k := 1) (n := 6) hm9.1 hm9.2 ?_
      exact W.lret (v := -2100000000) hx hb hr (fun t ht hW => ⟨⟨some (.long (-2100000000)), w1, rfl, ⟨rfl, hG⟩, by rw [← hAe]; exact hD, by rw [ht]; exact hP⟩, by rw [← hAe]; exact hS.F ht⟩) (by rw [← hAe]; exact hS.2.2) dL_does_242
    · have e9 : bb = false := by rw [hbb]; exact decide_eq_false c9
      subst e9
      refine lv_iload_n hx hb dL_does_0 rfl (lv_at hl 1 rfl) ?_
      refine lv_bipush (v := 8) hx hb dL_does_1 (by decide) ?_
      refine lv_icmp_ge (tgt := 17) hx hb dL_does_3 (by decide) (fun c_3 => ?_) (fun c_3 => absurd c_3 (by decide))
      refine lv_iload_n hx hb dL_does_17 rfl (lv_at hl 1 rfl) ?_
      refine lv_bipush (v := 8) hx hb dL_does_18 (by decide) ?_
      refine lv_icmp_ne (tgt := 43) hx hb dL_does_20 (by decide) (fun c_20 => absurd c_20 (by decide)) (fun c_20 => ?_)
      refine lv_aload_n hx hb dL_does_23 rfl (lv_at hl 0 rfl) ?_
      refine lv_iload_n hx hb dL_does_24 rfl (lv_at hl 2 rfl) ?_
      refine lv_iload_n hx hb dL_does_25 rfl (lv_at hl 3 rfl) ?_
      refine lv_iload hx hb dL_does_26 (lv_at hl 4 rfl) ?_
      refine lv_iconst (v := 1) hx hb dL_does_28 (by decide) ?_
      refine lv_icmp_ne (tgt := 36) hx hb dL_does_29 (by decide) (fun c_29 => ?_) (fun c_29 => (c9 c_29).elim)
      refine lv_iconst (v := 0) hx hb dL_does_36 (by decide) ?_
      refine g_catch (name := gIOB) (ws := []) (wc := w) (vx_runV (As := [.int a, .int b, .int (gB false)]) (rest := []) ⟨hx, hb, hml, hown, hts⟩ (HL s.heap.size) (cwV 3 hts gL_does_X7_raw rfl hc9 hs9 (by decide +kernel) hr9) (gPX_VA hP hD hK hE hS hA 0 he rfl) rfl rfl hl.1 rfl (lv_room (Nat.le_of_ble_eq_true rfl)) dL_does_37 hm9) hP hD hS hA hown [] ⟨0, 236, 237, 60⟩ [⟨0, 236, 243, 64⟩, ⟨0, 236, 249, 66⟩] (by rw [htab]; rfl) (fun z hz => absurd hz List.not_mem_nil) (by decide) (by decide) (hts (.classLink RL 60 "java/lang/IndexOutOfBoundsException") (List.mem_of_getElem? (i := 1) rfl)) (hE.cw (Cond.castable gIOB gIOB) (List.mem_of_getElem? (i := 5) rfl)) (fun q9 w1 H locs hG hP hD hS => ?_)
      refine lv_astore (lv' := [(5, .ref q9), (0, .ref h), (1, .int 8), (2, .int a), (3, .int b), (4, .int c0)]) hx hb dL_does_237 hl (by decide) rfl (fun ls hl => ?_)
      refine lv_ldc2 (v := -2100000000) hx hb hown (hts (.constantLong RL 62 (-2100000000)) (List.mem_of_getElem? (i := 4) rfl)) dL_does_239 ?_
      refine W.widen (k := 1) (n := 6) hm9.1 hm9.2 ?_
      exact W.lret (v := -2100000000) hx hb hr (fun t ht hW => ⟨⟨some (.long (-2100000000)), w1, rfl, ⟨rfl, hG⟩, by rw [← hAe]; exact hD, by rw [ht]; exact hP⟩, by rw [← hAe]; exact hS.F ht⟩) (by rw [← hAe]; exact hS.2.2) dL_does_242
  · skip
    refine gMet_ofWH (cc := cL_does) (maxL := 6) (ret := (some .long)) (hh := [(0, 236, 237, 60), (0, 236, 243, 64), (0, 236, 249, 66)]) (by decide) rfl ?_
    intro pg e s m args below meth c s₁ B hml hv
    obtain ⟨rfl, ⟨hsz, hP, hK, hD0, hE0⟩, hN⟩ := hv
    have hx := B.exec
    have hb := B.bytes
    have hr := B.returns
    have hts := atoms_spec (ws := wsL_does) B.pre
    have hown : s.vm.findClass RL = some m.cls := findClass_of_methodNamed B.named
    have htab : c.exceptionTable.toList = tableOf [(0, 236, 237, 60), (0, 236, 243, 64), (0, 236, 249, 66)] := vx_table (x := yL_does) B (hts _ List.mem_cons_self)
    have hlocks := B.notSynchronized
    subst hsz
    obtain ⟨A, hAe⟩ : ∃ A : Nat → Prop, A = va_A w s.heap.size := ⟨_, rfl⟩
    have hE : gE ad A s s.heap := by rw [hAe]; exact hE0
    have hD : va_D A w := by rw [hAe]; exact hD0.self (sz := s.heap.size)
    have hA : ∀ q : Nat, s.heap.size ≤ q → A q := fun q h => by rw [hAe]; exact Or.inr h
    have hS : va_S A s.heap s.heap [] := va_S.rf
    have hl := lv_entry ([.ref h, .int 8, .int a, .int b, .int c0]) (n := 6) (Nat.le_of_ble_eq_true rfl)
    rw [lg_entry_eq]
    generalize (lg_sl ([.ref h, .int 8, .int a, .int b, .int c0]) ++ List.replicate (6 - (lg_sl ([.ref h, .int 8, .int a, .int b, .int c0])).length) Slot.unset).toArray = ls at hl ⊢
    have hl : lv_has ls 6 [(0, .ref h), (1, .int 8), (2, .int a), (3, .int b), (4, .int c0)] := hl
    by_cases c9 : c0 = 1
    · have e9 : bb = true := by rw [hbb]; exact decide_eq_true c9
      subst e9
      refine lv_iload_n hx hb dL_does_0 rfl (lv_at hl 1 rfl) ?_
      refine lv_bipush (v := 8) hx hb dL_does_1 (by decide) ?_
      refine lv_icmp_ge (tgt := 17) hx hb dL_does_3 (by decide) (fun c_3 => ?_) (fun c_3 => absurd c_3 (by decide))
      refine lv_iload_n hx hb dL_does_17 rfl (lv_at hl 1 rfl) ?_
      refine lv_bipush (v := 8) hx hb dL_does_18 (by decide) ?_
      refine lv_icmp_ne (tgt := 43) hx hb dL_does_20 (by decide) (fun c_20 => absurd c_20 (by decide)) (fun c_20 => ?_)
      refine lv_aload_n hx hb dL_does_23 rfl (lv_at hl 0 rfl) ?_
      refine lv_iload_n hx hb dL_does_24 rfl (lv_at hl 2 rfl) ?_
      refine lv_iload_n hx hb dL_does_25 rfl (lv_at hl 3 rfl) ?_
      refine lv_iload hx hb dL_does_26 (lv_at hl 4 rfl) ?_
      refine lv_iconst (v := 1) hx hb dL_does_28 (by decide) ?_
      refine lv_icmp_ne (tgt := 36) hx hb dL_does_29 (by decide) (fun c_29 => (absurd c9 c_29)) (fun c_29 => ?_)
      refine lv_iconst (v := 1) hx hb dL_does_32 (by decide) ?_
      refine lv_goto (tgt := 37) hx hb dL_does_33 (by decide) ?_
      refine g_catch (name := gIAE) (ws := []) (wc := w) (vx_runV (As := [.int a, .int b, .int (gB true)]) (rest := []) ⟨hx, hb, hml, hown, hts⟩ (HL s.heap.size) (cwV 3 hts gL_does_X7_raw rfl hc9 hs9 (by decide +kernel) hr9) (gPX_VA hP hD hK hE hS hA 0 he rfl) rfl rfl hl.1 rfl (lv_room (Nat.le_of_ble_eq_true rfl)) dL_does_37 hm9) hP hD hS hA hown [⟨0, 236, 237, 60⟩] ⟨0, 236, 243, 64⟩ [⟨0, 236, 249, 66⟩] (by rw [htab]; rfl) (fun z hz => by rcases List.mem_singleton.mp hz with rfl; exact Or.inr ⟨by decide, _, (hts (.classLink RL 60 "java/lang/IndexOutOfBoundsException") (List.mem_of_getElem? (i := 1) rfl)), hN.1⟩) (by decide) (by decide) (hts (.classLink RL 64 "java/lang/IllegalArgumentException") (List.mem_of_getElem? (i := 2) rfl)) (hE.cw (Cond.castable gIAE gIAE) (List.mem_of_getElem? (i := 3) rfl)) (fun q9 w1 H locs hG hP hD hS => ?_)
      refine lv_astore (lv' := [(5, .ref q9), (0, .ref h), (1, .int 8), (2, .int a), (3, .int b), (4, .int c0)]) hx hb dL_does_243 hl (by decide) rfl (fun ls hl => ?_)
      refine lv_ldc2 (v := -2100000000) hx hb hown (hts (.constantLong RL 62 (-2100000000)) (List.mem_of_getElem? (i := 4) rfl)) dL_does_245 ?_
      refine W.widen (k := 1) (n := 6) hm9.1 hm9.2 ?_
      exact W.lret (v := -2100000000) hx hb hr (fun t ht hW => ⟨⟨some (.long (-2100000000)), w1, rfl, ⟨rfl, hG⟩, by rw [← hAe]; exact hD, by rw [ht]; exact hP⟩, by rw [← hAe]; exact hS.F ht⟩) (by rw [← hAe]; exact hS.2.2) dL_does_248
    · have e9 : bb = false := by rw [hbb]; exact decide_eq_false c9
      subst e9
      refine lv_iload_n hx hb dL_does_0 rfl (lv_at hl 1 rfl) ?_
      refine lv_bipush (v := 8) hx hb dL_does_1 (by decide) ?_
      refine lv_icmp_ge (tgt := 17) hx hb dL_does_3 (by decide) (fun c_3 => ?_) (fun c_3 => absurd c_3 (by decide))
      refine lv_iload_n hx hb dL_does_17 rfl (lv_at hl 1 rfl) ?_
      refine lv_bipush (v := 8) hx hb dL_does_18 (by decide) ?_
      refine lv_icmp_ne (tgt := 43) hx hb dL_does_20 (by decide) (fun c_20 => absurd c_20 (by decide)) (fun c_20 => ?_)
      refine lv_aload_n hx hb dL_does_23 rfl (lv_at hl 0 rfl) ?_
      refine lv_iload_n hx hb dL_does_24 rfl (lv_at hl 2 rfl) ?_
      refine lv_iload_n hx hb dL_does_25 rfl (lv_at hl 3 rfl) ?_
      refine lv_iload hx hb dL_does_26 (lv_at hl 4 rfl) ?_
      refine lv_iconst (v := 1) hx hb dL_does_28 (by decide) ?_
      refine lv_icmp_ne (tgt := 36) hx hb dL_does_29 (by decide) (fun c_29 => ?_) (fun c_29 => (c9 c_29).elim)
      refine lv_iconst (v := 0) hx hb dL_does_36 (by decide) ?_
      refine g_catch (name := gIAE) (ws := []) (wc := w) (vx_runV (As := [.int a, .int b, .int (gB false)]) (rest := []) ⟨hx, hb, hml, hown, hts⟩ (HL s.heap.size) (cwV 3 hts gL_does_X7_raw rfl hc9 hs9 (by decide +kernel) hr9) (gPX_VA hP hD hK hE hS hA 0 he rfl) rfl rfl hl.1 rfl (lv_room (Nat.le_of_ble_eq_true rfl)) dL_does_37 hm9) hP hD hS hA hown [⟨0, 236, 237, 60⟩] ⟨0, 236, 243, 64⟩ [⟨0, 236, 249, 66⟩] (by rw [htab]; rfl) (fun z hz => by rcases List.mem_singleton.mp hz with rfl; exact Or.inr ⟨by decide, _, (hts (.classLink RL 60 "java/lang/IndexOutOfBoundsException") (List.mem_of_getElem? (i := 1) rfl)), hN.1⟩) (by decide) (by decide) (hts (.classLink RL 64 "java/lang/IllegalArgumentException") (List.mem_of_getElem? (i := 2) rfl)) (hE.cw (Cond.castable gIAE gIAE) (List.mem_of_getElem? (i := 3) rfl)) (fun q9 w1 H locs hG hP hD hS => ?_)
      refine lv_astore (lv' := [(5, .ref q9), (0, .ref h), (1, .int 8), (2, .int a), (3, .int b), (4, .int c0)]) hx hb dL_does_243 hl (by decide) rfl (fun ls hl => ?_)
      refine lv_ldc2 (v := -2100000000) hx hb hown (hts (.constantLong RL 62 (-2100000000)) (List.mem_of_getElem? (i := 4) rfl)) dL_does_245 ?_
      refine W.widen (k := 1) (n := 6) hm9.1 hm9.2 ?_
      exact W.lret (v := -2100000000) hx hb hr (fun t ht hW => ⟨⟨some (.long (-2100000000)), w1, rfl, ⟨rfl, hG⟩, by rw [← hAe]; exact hD, by rw [ht]; exact hP⟩, by rw [← hAe]; exact hS.F ht⟩) (by rw [← hAe]; exact hS.2.2) dL_does_248
  · skip
    refine gMet_ofWH (cc := cL_does) (maxL := 6) (ret := (some .long)) (hh := [(0, 236, 237, 60), (0, 236, 243, 64), (0, 236, 249, 66)]) (by decide) rfl ?_
    intro pg e s m args below meth c s₁ B hml hv
    obtain ⟨rfl, ⟨hsz, hP, hK, hD0, hE0⟩, hN⟩ := hv
    have hx := B.exec
    have hb := B.bytes
    have hr := B.returns
    have hts := atoms_spec (ws := wsL_does) B.pre
    have hown : s.vm.findClass RL = some m.cls := findClass_of_methodNamed B.named
    have htab : c.exceptionTable.toList = tableOf [(0, 236, 237, 60), (0, 236, 243, 64), (0, 236, 249, 66)] := vx_table (x := yL_does) B (hts _ List.mem_cons_self)
    have hlocks := B.notSynchronized
    subst hsz
    obtain ⟨A, hAe⟩ : ∃ A : Nat → Prop, A = va_A w s.heap.size := ⟨_, rfl⟩
    have hE : gE ad A s s.heap := by rw [hAe]; exact hE0
    have hD : va_D A w := by rw [hAe]; exact hD0.self (sz := s.heap.size)
    have hA : ∀ q : Nat, s.heap.size ≤ q → A q := fun q h => by rw [hAe]; exact Or.inr h
    have hS : va_S A s.heap s.heap [] := va_S.rf
    have hl := lv_entry ([.ref h, .int 8, .int a, .int b, .int c0]) (n := 6) (Nat.le_of_ble_eq_true rfl)
    rw [lg_entry_eq]
    generalize (lg_sl ([.ref h, .int 8, .int a, .int b, .int c0]) ++ List.replicate (6 - (lg_sl ([.ref h, .int 8, .int a, .int b, .int c0])).length) Slot.unset).toArray = ls at hl ⊢
    have hl : lv_has ls 6 [(0, .ref h), (1, .int 8), (2, .int a), (3, .int b), (4, .int c0)] := hl
    by_cases c9 : c0 = 1
    · have e9 : bb = true := by rw [hbb]; exact decide_eq_true c9
      subst e9
      refine lv_iload_n hx hb dL_does_0 rfl (lv_at hl 1 rfl) ?_
      refine lv_bipush (v := 8) hx hb dL_does_1 (by decide) ?_
      refine lv_icmp_ge (tgt := 17) hx hb dL_does_3 (by decide) (fun c_3 => ?_) (fun c_3 => absurd c_3 (by decide))
      refine lv_iload_n hx hb dL_does_17 rfl (lv_at hl 1 rfl) ?_
      refine lv_bipush (v := 8) hx hb dL_does_18 (by decide) ?_
      refine lv_icmp_ne (tgt := 43) hx hb dL_does_20 (by decide) (fun c_20 => absurd c_20 (by decide)) (fun c_20 => ?_)
      refine lv_aload_n hx hb dL_does_23 rfl (lv_at hl 0 rfl) ?_
      refine lv_iload_n hx hb dL_does_24 rfl (lv_at hl 2 rfl) ?_
      refine lv_iload_n hx hb dL_does_25 rfl (lv_at hl 3 rfl) ?_
      refine lv_iload hx hb dL_does_26 (lv_at hl 4 rfl) ?_
      refine lv_iconst (v := 1) hx hb dL_does_28 (by decide) ?_
      refine lv_icmp_ne (tgt := 36) hx hb dL_does_29 (by decide) (fun c_29 => (absurd c9 c_29)) (fun c_29 => ?_)
      refine lv_iconst (v := 1) hx hb dL_does_32 (by decide) ?_
      refine lv_goto (tgt := 37) hx hb dL_does_33 (by decide) ?_
      refine g_catch (name := gISE) (ws := []) (wc := w) (vx_runV (As := [.int a, .int b, .int (gB true)]) (rest := []) ⟨hx, hb, hml, hown, hts⟩ (HL s.heap.size) (cwV 3 hts gL_does_X7_raw rfl hc9 hs9 (by decide +kernel) hr9) (gPX_VA hP hD hK hE hS hA 0 he rfl) rfl rfl hl.1 rfl (lv_room (Nat.le_of_ble_eq_true rfl)) dL_does_37 hm9) hP hD hS hA hown [⟨0, 236, 237, 60⟩, ⟨0, 236, 243, 64⟩] ⟨0, 236, 249, 66⟩ [] (by rw [htab]; rfl) (fun z hz => by
        rcases List.mem_cons.mp hz with rfl | hz
        · exact Or.inr ⟨by decide, _, (hts (.classLink RL 60 "java/lang/IndexOutOfBoundsException") (List.mem_of_getElem? (i := 1) rfl)), hN.2.1⟩
        · rcases List.mem_singleton.mp hz with rfl; exact Or.inr ⟨by decide, _, (hts (.classLink RL 64 "java/lang/IllegalArgumentException") (List.mem_of_getElem? (i := 2) rfl)), hN.2.2⟩) (by decide) (by decide) (hts (.classLink RL 66 "java/lang/IllegalStateException") (List.mem_of_getElem? (i := 3) rfl)) (hE.cw (Cond.castable gISE gISE) (List.mem_of_getElem? (i := 4) rfl)) (fun q9 w1 H locs hG hP hD hS => ?_)
      refine lv_astore (lv' := [(5, .ref q9), (0, .ref h), (1, .int 8), (2, .int a), (3, .int b), (4, .int c0)]) hx hb dL_does_249 hl (by decide) rfl (fun ls hl => ?_)
      refine lv_ldc2 (v := -2100000000) hx hb hown (hts (.constantLong RL 62 (-2100000000)) (List.mem_of_getElem? (i := 4) rfl)) dL_does_251 ?_
      refine W.widen (k := 1) (n := 6) hm9.1 hm9.2 ?_
      exact W.lret (v := -2100000000) hx hb hr (fun t ht hW => ⟨⟨some (.long (-2100000000)), w1, rfl, ⟨rfl, hG⟩, by rw [← hAe]; exact hD, by rw [ht]; exact hP⟩, by rw [← hAe]; exact hS.F ht⟩) (by rw [← hAe]; exact hS.2.2) dL_does_254
    · have e9 : bb = false := by rw [hbb]; exact decide_eq_false c9
      subst e9
      refine lv_iload_n hx hb dL_does_0 rfl (lv_at hl 1 rfl) ?_
      refine lv_bipush (v := 8) hx hb dL_does_1 (by decide) ?_
      refine lv_icmp_ge (tgt := 17) hx hb dL_does_3 (by decide) (fun c_3 => ?_) (fun c_3 => absurd c_3 (by decide))
      refine lv_iload_n hx hb dL_does_17 rfl (lv_at hl 1 rfl) ?_
      refine lv_bipush (v := 8) hx hb dL_does_18 (by decide) ?_
      refine lv_icmp_ne (tgt := 43) hx hb dL_does_20 (by decide) (fun c_20 => absurd c_20 (by decide)) (fun c_20 => ?_)
      refine lv_aload_n hx hb dL_does_23 rfl (lv_at hl 0 rfl) ?_
      refine lv_iload_n hx hb dL_does_24 rfl (lv_at hl 2 rfl) ?_
      refine lv_iload_n hx hb dL_does_25 rfl (lv_at hl 3 rfl) ?_
      refine lv_iload hx hb dL_does_26 (lv_at hl 4 rfl) ?_
      refine lv_iconst (v := 1) hx hb dL_does_28 (by decide) ?_
      refine lv_icmp_ne (tgt := 36) hx hb dL_does_29 (by decide) (fun c_29 => ?_) (fun c_29 => (c9 c_29).elim)
      refine lv_iconst (v := 0) hx hb dL_does_36 (by decide) ?_
      refine g_catch (name := gISE) (ws := []) (wc := w) (vx_runV (As := [.int a, .int b, .int (gB false)]) (rest := []) ⟨hx, hb, hml, hown, hts⟩ (HL s.heap.size) (cwV 3 hts gL_does_X7_raw rfl hc9 hs9 (by decide +kernel) hr9) (gPX_VA hP hD hK hE hS hA 0 he rfl) rfl rfl hl.1 rfl (lv_room (Nat.le_of_ble_eq_true rfl)) dL_does_37 hm9) hP hD hS hA hown [⟨0, 236, 237, 60⟩, ⟨0, 236, 243, 64⟩] ⟨0, 236, 249, 66⟩ [] (by rw [htab]; rfl) (fun z hz => by
        rcases List.mem_cons.mp hz with rfl | hz
        · exact Or.inr ⟨by decide, _, (hts (.classLink RL 60 "java/lang/IndexOutOfBoundsException") (List.mem_of_getElem? (i := 1) rfl)), hN.2.1⟩
        · rcases List.mem_singleton.mp hz with rfl; exact Or.inr ⟨by decide, _, (hts (.classLink RL 64 "java/lang/IllegalArgumentException") (List.mem_of_getElem? (i := 2) rfl)), hN.2.2⟩) (by decide) (by decide) (hts (.classLink RL 66 "java/lang/IllegalStateException") (List.mem_of_getElem? (i := 3) rfl)) (hE.cw (Cond.castable gISE gISE) (List.mem_of_getElem? (i := 4) rfl)) (fun q9 w1 H locs hG hP hD hS => ?_)
      refine lv_astore (lv' := [(5, .ref q9), (0, .ref h), (1, .int 8), (2, .int a), (3, .int b), (4, .int c0)]) hx hb dL_does_249 hl (by decide) rfl (fun ls hl => ?_)
      refine lv_ldc2 (v := -2100000000) hx hb hown (hts (.constantLong RL 62 (-2100000000)) (List.mem_of_getElem? (i := 4) rfl)) dL_does_251 ?_
      refine W.widen (k := 1) (n := 6) hm9.1 hm9.2 ?_
      exact W.lret (v := -2100000000) hx hb hr (fun t ht hW => ⟨⟨some (.long (-2100000000)), w1, rfl, ⟨rfl, hG⟩, by rw [← hAe]; exact hD, by rw [ht]; exact hP⟩, by rw [← hAe]; exact hS.F ht⟩) (by rw [← hAe]; exact hS.2.2) dL_does_254
set_option maxRecDepth 100000 in
theorem dn_told {l : Launch} {D : va_G} {y : Nat → ClassId} {ad : Nat → Nat} {w : va_W} {h : Nat} {fs : List Value} (he : w[0]? = some (h, .inr (5, fs))) {a b c0 : Int32} {bb : Bool} (hbb : bb = decide (c0 = 1)) {G : va_W → Prop} {rm : Room} {mc ms : Nat} {x : Int64} (HL : ∀ sz, Met l yX7_told wsX7_told rm (gPX D y ad [.ref h, .int a, .int b, .int (gB bb)] w sz) (gQn D w (fun v w1 => v = some (.long x) ∧ G w1)) mc ms (va_A w sz)) (hc9 : rm.cells = mc) (hs9 : rm.slots = ms) (hr9 : rm.frames + 1 ≤ 11 ∧ 8 + (4 + 11) + rm.locals ≤ 400) (hm9 : 0 + mc ≤ 1 ∧ 0 + ms ≤ 6) (sz : Nat) : Met l yL_does wsL_does ({ frames := 11, cells := 1, slots := 6, locals := 400 } : Room) (gPN D y ad [.ref h, .int 9, .int a, .int b, .int c0] w sz) (gQn D w (fun v w1 => v = some (.long (x)) ∧ G w1)) 1 6 (va_A w sz) := by
  refine gMet_ofWH (cc := cL_does) (maxL := 6) (ret := (some .long)) (hh := [(0, 236, 237, 60), (0, 236, 243, 64), (0, 236, 249, 66)]) (by decide) rfl ?_
  intro pg e s m args below meth c s₁ B hml hv
  obtain ⟨rfl, ⟨hsz, hP, hK, hD0, hE0⟩, hN⟩ := hv
  have hx := B.exec
  have hb := B.bytes
  have hr := B.returns
  have hts := atoms_spec (ws := wsL_does) B.pre
  have hown : s.vm.findClass RL = some m.cls := findClass_of_methodNamed B.named
  have htab : c.exceptionTable.toList = tableOf [(0, 236, 237, 60), (0, 236, 243, 64), (0, 236, 249, 66)] := vx_table (x := yL_does) B (hts _ List.mem_cons_self)
  have hlocks := B.notSynchronized
  subst hsz
  obtain ⟨A, hAe⟩ : ∃ A : Nat → Prop, A = va_A w s.heap.size := ⟨_, rfl⟩
  have hE : gE ad A s s.heap := by rw [hAe]; exact hE0
  have hD : va_D A w := by rw [hAe]; exact hD0.self (sz := s.heap.size)
  have hA : ∀ q : Nat, s.heap.size ≤ q → A q := fun q h => by rw [hAe]; exact Or.inr h
  have hS : va_S A s.heap s.heap [] := va_S.rf
  have hl := lv_entry ([.ref h, .int 9, .int a, .int b, .int c0]) (n := 6) (Nat.le_of_ble_eq_true rfl)
  rw [lg_entry_eq]
  generalize (lg_sl ([.ref h, .int 9, .int a, .int b, .int c0]) ++ List.replicate (6 - (lg_sl ([.ref h, .int 9, .int a, .int b, .int c0])).length) Slot.unset).toArray = ls at hl ⊢
  have hl : lv_has ls 6 [(0, .ref h), (1, .int 9), (2, .int a), (3, .int b), (4, .int c0)] := hl
  by_cases c9 : c0 = 1
  · have e9 : bb = true := by rw [hbb]; exact decide_eq_true c9
    subst e9
    refine lv_iload_n hx hb dL_does_0 rfl (lv_at hl 1 rfl) ?_
    refine lv_bipush (v := 8) hx hb dL_does_1 (by decide) ?_
    refine lv_icmp_ge (tgt := 17) hx hb dL_does_3 (by decide) (fun c_3 => ?_) (fun c_3 => absurd c_3 (by decide))
    refine lv_iload_n hx hb dL_does_17 rfl (lv_at hl 1 rfl) ?_
    refine lv_bipush (v := 8) hx hb dL_does_18 (by decide) ?_
    refine lv_icmp_ne (tgt := 43) hx hb dL_does_20 (by decide) (fun c_20 => ?_) (fun c_20 => absurd c_20 (by decide))
    refine lv_iload_n hx hb dL_does_43 rfl (lv_at hl 1 rfl) ?_
    refine lv_bipush (v := 9) hx hb dL_does_44 (by decide) ?_
    refine lv_icmp_ne (tgt := 69) hx hb dL_does_46 (by decide) (fun c_46 => absurd c_46 (by decide)) (fun c_46 => ?_)
    refine lv_aload_n hx hb dL_does_49 rfl (lv_at hl 0 rfl) ?_
    refine lv_iload_n hx hb dL_does_50 rfl (lv_at hl 2 rfl) ?_
    refine lv_iload_n hx hb dL_does_51 rfl (lv_at hl 3 rfl) ?_
    refine lv_iload hx hb dL_does_52 (lv_at hl 4 rfl) ?_
    refine lv_iconst (v := 1) hx hb dL_does_54 (by decide) ?_
    refine lv_icmp_ne (tgt := 62) hx hb dL_does_55 (by decide) (fun c_55 => (absurd c9 c_55)) (fun c_55 => ?_)
    refine lv_iconst (v := 1) hx hb dL_does_58 (by decide) ?_
    refine lv_goto (tgt := 63) hx hb dL_does_59 (by decide) ?_
    refine g_callN (ws := []) (wc := w) (va_runV (As := [.int a, .int b, .int (gB true)]) (rest := []) ⟨hx, hb, hml, hown, hts⟩ (HL s.heap.size) (cwV 3 hts gL_does_X7_told rfl hc9 hs9 (by decide +kernel) hr9) (gPX_VA hP hD hK hE hS hA 0 he rfl) rfl rfl hl.1 rfl (lv_room (Nat.le_of_ble_eq_true rfl)) dL_does_63 hm9) hP hD hS hA (fun v w1 H locs hf hP hD hS => ?_)
    obtain ⟨rfl, hG⟩ := hf
    refine lv_goto (tgt := 236) hx hb dL_does_66 (by decide) ?_
    refine W.widen (k := 1) (n := 6) hm9.1 hm9.2 ?_
    exact W.lret (v := x) hx hb hr (fun t ht hW => ⟨⟨some (.long (x)), w1, rfl, ⟨rfl, hG⟩, by rw [← hAe]; exact hD, by rw [ht]; exact hP⟩, by rw [← hAe]; exact hS.F ht⟩) (by rw [← hAe]; exact hS.2.2) dL_does_236
  · have e9 : bb = false := by rw [hbb]; exact decide_eq_false c9
    subst e9
    refine lv_iload_n hx hb dL_does_0 rfl (lv_at hl 1 rfl) ?_
    refine lv_bipush (v := 8) hx hb dL_does_1 (by decide) ?_
    refine lv_icmp_ge (tgt := 17) hx hb dL_does_3 (by decide) (fun c_3 => ?_) (fun c_3 => absurd c_3 (by decide))
    refine lv_iload_n hx hb dL_does_17 rfl (lv_at hl 1 rfl) ?_
    refine lv_bipush (v := 8) hx hb dL_does_18 (by decide) ?_
    refine lv_icmp_ne (tgt := 43) hx hb dL_does_20 (by decide) (fun c_20 => ?_) (fun c_20 => absurd c_20 (by decide))
    refine lv_iload_n hx hb dL_does_43 rfl (lv_at hl 1 rfl) ?_
    refine lv_bipush (v := 9) hx hb dL_does_44 (by decide) ?_
    refine lv_icmp_ne (tgt := 69) hx hb dL_does_46 (by decide) (fun c_46 => absurd c_46 (by decide)) (fun c_46 => ?_)
    refine lv_aload_n hx hb dL_does_49 rfl (lv_at hl 0 rfl) ?_
    refine lv_iload_n hx hb dL_does_50 rfl (lv_at hl 2 rfl) ?_
    refine lv_iload_n hx hb dL_does_51 rfl (lv_at hl 3 rfl) ?_
    refine lv_iload hx hb dL_does_52 (lv_at hl 4 rfl) ?_
    refine lv_iconst (v := 1) hx hb dL_does_54 (by decide) ?_
    refine lv_icmp_ne (tgt := 62) hx hb dL_does_55 (by decide) (fun c_55 => ?_) (fun c_55 => (c9 c_55).elim)
    refine lv_iconst (v := 0) hx hb dL_does_62 (by decide) ?_
    refine g_callN (ws := []) (wc := w) (va_runV (As := [.int a, .int b, .int (gB false)]) (rest := []) ⟨hx, hb, hml, hown, hts⟩ (HL s.heap.size) (cwV 3 hts gL_does_X7_told rfl hc9 hs9 (by decide +kernel) hr9) (gPX_VA hP hD hK hE hS hA 0 he rfl) rfl rfl hl.1 rfl (lv_room (Nat.le_of_ble_eq_true rfl)) dL_does_63 hm9) hP hD hS hA (fun v w1 H locs hf hP hD hS => ?_)
    obtain ⟨rfl, hG⟩ := hf
    refine lv_goto (tgt := 236) hx hb dL_does_66 (by decide) ?_
    refine W.widen (k := 1) (n := 6) hm9.1 hm9.2 ?_
    exact W.lret (v := x) hx hb hr (fun t ht hW => ⟨⟨some (.long (x)), w1, rfl, ⟨rfl, hG⟩, by rw [← hAe]; exact hD, by rw [ht]; exact hP⟩, by rw [← hAe]; exact hS.F ht⟩) (by rw [← hAe]; exact hS.2.2) dL_does_236
set_option maxRecDepth 100000 in
theorem dt_told {l : Launch} {D : va_G} {y : Nat → ClassId} {ad : Nat → Nat} {w : va_W} {h : Nat} {fs : List Value} (he : w[0]? = some (h, .inr (5, fs))) {a b c0 : Int32} {bb : Bool} (hbb : bb = decide (c0 = 1)) {G : va_W → Prop} {rm : Room} {mc ms : Nat} {E : String} (hE9 : E = gIOB ∨ E = gIAE ∨ E = gISE) (HL : ∀ sz, vx_Met l yX7_told wsX7_told rm (gPX D y ad [.ref h, .int a, .int b, .int (gB bb)] w sz) gNo (gXC D w E G) mc ms (va_A w sz)) (hc9 : rm.cells = mc) (hs9 : rm.slots = ms) (hr9 : rm.frames + 1 ≤ 11 ∧ 8 + (4 + 11) + rm.locals ≤ 400) (hm9 : 0 + mc ≤ 1 ∧ 0 + ms ≤ 6) (sz : Nat) : Met l yL_does wsL_does ({ frames := 11, cells := 1, slots := 6, locals := 400 } : Room) (gPN D y ad [.ref h, .int 9, .int a, .int b, .int c0] w sz) (gQn D w (fun v w1 => v = some (.long (-2100000000)) ∧ G w1)) 1 6 (va_A w sz) := by
  rcases hE9 with rfl | rfl | rfl
  · skip
    refine gMet_ofWH (cc := cL_does) (maxL := 6) (ret := (some .long)) (hh := [(0, 236, 237, 60), (0, 236, 243, 64), (0, 236, 249, 66)]) (by decide) rfl ?_
    intro pg e s m args below meth c s₁ B hml hv
    obtain ⟨rfl, ⟨hsz, hP, hK, hD0, hE0⟩, hN⟩ := hv
    have hx := B.exec
    have hb := B.bytes
    have hr := B.returns
    have hts := atoms_spec (ws := wsL_does) B.pre
    have hown : s.vm.findClass RL = some m.cls := findClass_of_methodNamed B.named
    have htab : c.exceptionTable.toList = tableOf [(0, 236, 237, 60), (0, 236, 243, 64), (0, 236, 249, 66)] := vx_table (x := yL_does) B (hts _ List.mem_cons_self)
    have hlocks := B.notSynchronized
    subst hsz
    obtain ⟨A, hAe⟩ : ∃ A : Nat → Prop, A = va_A w s.heap.size := ⟨_, rfl⟩
    have hE : gE ad A s s.heap := by rw [hAe]; exact hE0
    have hD : va_D A w := by rw [hAe]; exact hD0.self (sz := s.heap.size)
    have hA : ∀ q : Nat, s.heap.size ≤ q → A q := fun q h => by rw [hAe]; exact Or.inr h
    have hS : va_S A s.heap s.heap [] := va_S.rf
    have hl := lv_entry ([.ref h, .int 9, .int a, .int b, .int c0]) (n := 6) (Nat.le_of_ble_eq_true rfl)
    rw [lg_entry_eq]
    generalize (lg_sl ([.ref h, .int 9, .int a, .int b, .int c0]) ++ List.replicate (6 - (lg_sl ([.ref h, .int 9, .int a, .int b, .int c0])).length) Slot.unset).toArray = ls at hl ⊢
    have hl : lv_has ls 6 [(0, .ref h), (1, .int 9), (2, .int a), (3, .int b), (4, .int c0)] := hl
    by_cases c9 : c0 = 1
    · have e9 : bb = true := by rw [hbb]; exact decide_eq_true c9
      subst e9
      refine lv_iload_n hx hb dL_does_0 rfl (lv_at hl 1 rfl) ?_
      refine lv_bipush (v := 8) hx hb dL_does_1 (by decide) ?_
      refine lv_icmp_ge (tgt := 17) hx hb dL_does_3 (by decide) (fun c_3 => ?_) (fun c_3 => absurd c_3 (by decide))
      refine lv_iload_n hx hb dL_does_17 rfl (lv_at hl 1 rfl) ?_
      refine lv_bipush (v := 8) hx hb dL_does_18 (by decide) ?_
      refine lv_icmp_ne (tgt := 43) hx hb dL_does_20 (by decide) (fun c_20 => ?_) (fun c_20 => absurd c_20 (by decide))
      refine lv_iload_n hx hb dL_does_43 rfl (lv_at hl 1 rfl) ?_
      refine lv_bipush (v := 9) hx hb dL_does_44 (by decide) ?_
      refine lv_icmp_ne (tgt := 69) hx hb dL_does_46 (by decide) (fun c_46 => absurd c_46 (by decide)) (fun c_46 => ?_)
      refine lv_aload_n hx hb dL_does_49 rfl (lv_at hl 0 rfl) ?_
      refine lv_iload_n hx hb dL_does_50 rfl (lv_at hl 2 rfl) ?_
      refine lv_iload_n hx hb dL_does_51 rfl (lv_at hl 3 rfl) ?_
      refine lv_iload hx hb dL_does_52 (lv_at hl 4 rfl) ?_
      refine lv_iconst (v := 1) hx hb dL_does_54 (by decide) ?_
      refine lv_icmp_ne (tgt := 62) hx hb dL_does_55 (by decide) (fun c_55 => (absurd c9 c_55)) (fun c_55 => ?_)
      refine lv_iconst (v := 1) hx hb dL_does_58 (by decide) ?_
      refine lv_goto (tgt := 63) hx hb dL_does_59 (by decide) ?_
      refine g_catch (name := gIOB) (ws := []) (wc := w) (vx_runV (As := [.int a, .int b, .int (gB true)]) (rest := []) ⟨hx, hb, hml, hown, hts⟩ (HL s.heap.size) (cwV 3 hts gL_does_X7_told rfl hc9 hs9 (by decide +kernel) hr9) (gPX_VA hP hD hK hE hS hA 0 he rfl) rfl rfl hl.1 rfl (lv_room (Nat.le_of_ble_eq_true rfl)) dL_does_63 hm9) hP hD hS hA hown [] ⟨0, 236, 237, 60⟩ [⟨0, 236, 243, 64⟩, ⟨0, 236, 249, 66⟩] (by rw [htab]; rfl) (fun z hz => absurd hz List.not_mem_nil) (by decide) (by decide) (hts (.classLink RL 60 "java/lang/IndexOutOfBoundsException") (List.mem_of_getElem? (i := 1) rfl)) (hE.cw (Cond.castable gIOB gIOB) (List.mem_of_getElem? (i := 5) rfl)) (fun q9 w1 H locs hG hP hD hS => ?_)
      refine lv_astore (lv' := [(5, .ref q9), (0, .ref h), (1, .int 9), (2, .int a), (3, .int b), (4, .int c0)]) hx hb dL_does_237 hl (by decide) rfl (fun ls hl => ?_)
      refine lv_ldc2 (v := -2100000000) hx hb hown (hts (.constantLong RL 62 (-2100000000)) (List.mem_of_getElem? (i := 4) rfl)) dL_does_239 ?_
      refine W.widen (k := 1) (n := 6) hm9.1 hm9.2 ?_
      exact W.lret (v := -2100000000) hx hb hr (fun t ht hW => ⟨⟨some (.long (-2100000000)), w1, rfl, ⟨rfl, hG⟩, by rw [← hAe]; exact hD, by rw [ht]; exact hP⟩, by rw [← hAe]; exact hS.F ht⟩) (by rw [← hAe]; exact hS.2.2) dL_does_242
    · have e9 : bb = false := by rw [hbb]; exact decide_eq_false c9
      subst e9
      refine lv_iload_n hx hb dL_does_0 rfl (lv_at hl 1 rfl) ?_
      refine lv_bipush (v := 8) hx hb dL_does_1 (by decide) ?_
      refine lv_icmp_ge (tgt := 17) hx hb dL_does_3 (by decide) (fun c_3 => ?_) (fun c_3 => absurd c_3 (by decide))
      refine lv_iload_n hx hb dL_does_17 rfl (lv_at hl 1 rfl) ?_
      refine lv_bipush (v := 8) hx hb dL_does_18 (by decide) ?_
      refine lv_icmp_ne (tgt := 43) hx hb dL_does_20 (by decide) (fun c_20 => ?_) (fun c_20 => absurd c_20 (by decide))
      refine lv_iload_n hx hb dL_does_43 rfl (lv_at hl 1 rfl) ?_
      refine lv_bipush (v := 9) hx hb dL_does_44 (by decide) ?_
      refine lv_icmp_ne (tgt := 69) hx hb dL_does_46 (by decide) (fun c_46 => absurd c_46 (by decide)) (fun c_46 => ?_)
      refine lv_aload_n hx hb dL_does_49 rfl (lv_at hl 0 rfl) ?_
      refine lv_iload_n hx hb dL_does_50 rfl (lv_at hl 2 rfl) ?_
      refine lv_iload_n hx hb dL_does_51 rfl (lv_at hl 3 rfl) ?_
      refine lv_iload hx hb dL_does_52 (lv_at hl 4 rfl) ?_
      refine lv_iconst (v := 1) hx hb dL_does_54 (by decide) ?_
      refine lv_icmp_ne (tgt := 62) hx hb dL_does_55 (by decide) (fun c_55 => ?_) (fun c_55 => (c9 c_55).elim)
      refine lv_iconst (v := 0) hx hb dL_does_62 (by decide) ?_
      refine g_catch (name := gIOB) (ws := []) (wc := w) (vx_runV (As := [.int a, .int b, .int (gB false)]) (rest := []) ⟨hx, hb, hml, hown, hts⟩ (HL s.heap.size) (cwV 3 hts gL_does_X7_told rfl hc9 hs9 (by decide +kernel) hr9) (gPX_VA hP hD hK hE hS hA 0 he rfl) rfl rfl hl.1 rfl (lv_room (Nat.le_of_ble_eq_true rfl)) dL_does_63 hm9) hP hD hS hA hown [] ⟨0, 236, 237, 60⟩ [⟨0, 236, 243, 64⟩, ⟨0, 236, 249, 66⟩] (by rw [htab]; rfl) (fun z hz => absurd hz List.not_mem_nil) (by decide) (by decide) (hts (.classLink RL 60 "java/lang/IndexOutOfBoundsException") (List.mem_of_getElem? (i := 1) rfl)) (hE.cw (Cond.castable gIOB gIOB) (List.mem_of_getElem? (i := 5) rfl)) (fun q9 w1 H locs hG hP hD hS => ?_)
      refine lv_astore (lv' := [(5, .ref q9), (0, .ref h), (1, .int 9), (2, .int a), (3, .int b), (4, .int c0)]) hx hb dL_does_237 hl (by decide) rfl (fun ls hl => ?_)
      refine lv_ldc2 (v := -2100000000) hx hb hown (hts (.constantLong RL 62 (-2100000000)) (List.mem_of_getElem? (i := 4) rfl)) dL_does_239 ?_
      refine W.widen (k := 1) (n := 6) hm9.1 hm9.2 ?_
      exact W.lret (v := -2100000000) hx hb hr (fun t ht hW => ⟨⟨some (.long (-2100000000)), w1, rfl, ⟨rfl, hG⟩, by rw [← hAe]; exact hD, by rw [ht]; exact hP⟩, by rw [← hAe]; exact hS.F ht⟩) (by rw [← hAe]; exact hS.2.2) dL_does_242
  · skip
    refine gMet_ofWH (cc := cL_does) (maxL := 6) (ret := (some .long)) (hh := [(0, 236, 237, 60), (0, 236, 243, 64), (0, 236, 249, 66)]) (by decide) rfl ?_
    intro pg e s m args below meth c s₁ B hml hv
    obtain ⟨rfl, ⟨hsz, hP, hK, hD0, hE0⟩, hN⟩ := hv
    have hx := B.exec
    have hb := B.bytes
    have hr := B.returns
    have hts := atoms_spec (ws := wsL_does) B.pre
    have hown : s.vm.findClass RL = some m.cls := findClass_of_methodNamed B.named
    have htab : c.exceptionTable.toList = tableOf [(0, 236, 237, 60), (0, 236, 243, 64), (0, 236, 249, 66)] := vx_table (x := yL_does) B (hts _ List.mem_cons_self)
    have hlocks := B.notSynchronized
    subst hsz
    obtain ⟨A, hAe⟩ : ∃ A : Nat → Prop, A = va_A w s.heap.size := ⟨_, rfl⟩
    have hE : gE ad A s s.heap := by rw [hAe]; exact hE0
    have hD : va_D A w := by rw [hAe]; exact hD0.self (sz := s.heap.size)
    have hA : ∀ q : Nat, s.heap.size ≤ q → A q := fun q h => by rw [hAe]; exact Or.inr h
    have hS : va_S A s.heap s.heap [] := va_S.rf
    have hl := lv_entry ([.ref h, .int 9, .int a, .int b, .int c0]) (n := 6) (Nat.le_of_ble_eq_true rfl)
    rw [lg_entry_eq]
    generalize (lg_sl ([.ref h, .int 9, .int a, .int b, .int c0]) ++ List.replicate (6 - (lg_sl ([.ref h, .int 9, .int a, .int b, .int c0])).length) Slot.unset).toArray = ls at hl ⊢
    have hl : lv_has ls 6 [(0, .ref h), (1, .int 9), (2, .int a), (3, .int b), (4, .int c0)] := hl
    by_cases c9 : c0 = 1
    · have e9 : bb = true := by rw [hbb]; exact decide_eq_true c9
      subst e9
      refine lv_iload_n hx hb dL_does_0 rfl (lv_at hl 1 rfl) ?_
      refine lv_bipush (v := 8) hx hb dL_does_1 (by decide) ?_
      refine lv_icmp_ge (tgt := 17) hx hb dL_does_3 (by decide) (fun c_3 => ?_) (fun c_3 => absurd c_3 (by decide))
      refine lv_iload_n hx hb dL_does_17 rfl (lv_at hl 1 rfl) ?_
      refine lv_bipush (v := 8) hx hb dL_does_18 (by decide) ?_
      refine lv_icmp_ne (tgt := 43) hx hb dL_does_20 (by decide) (fun c_20 => ?_) (fun c_20 => absurd c_20 (by decide))
      refine lv_iload_n hx hb dL_does_43 rfl (lv_at hl 1 rfl) ?_
      refine lv_bipush (v := 9) hx hb dL_does_44 (by decide) ?_
      refine lv_icmp_ne (tgt := 69) hx hb dL_does_46 (by decide) (fun c_46 => absurd c_46 (by decide)) (fun c_46 => ?_)
      refine lv_aload_n hx hb dL_does_49 rfl (lv_at hl 0 rfl) ?_
      refine lv_iload_n hx hb dL_does_50 rfl (lv_at hl 2 rfl) ?_
      refine lv_iload_n hx hb dL_does_51 rfl (lv_at hl 3 rfl) ?_
      refine lv_iload hx hb dL_does_52 (lv_at hl 4 rfl) ?_
      refine lv_iconst (v := 1) hx hb dL_does_54 (by decide) ?_
      refine lv_icmp_ne (tgt := 62) hx hb dL_does_55 (by decide) (fun c_55 => (absurd c9 c_55)) (fun c_55 => ?_)
      refine lv_iconst (v := 1) hx hb dL_does_58 (by decide) ?_
      refine lv_goto (tgt := 63) hx hb dL_does_59 (by decide) ?_
      refine g_catch (name := gIAE) (ws := []) (wc := w) (vx_runV (As := [.int a, .int b, .int (gB true)]) (rest := []) ⟨hx, hb, hml, hown, hts⟩ (HL s.heap.size) (cwV 3 hts gL_does_X7_told rfl hc9 hs9 (by decide +kernel) hr9) (gPX_VA hP hD hK hE hS hA 0 he rfl) rfl rfl hl.1 rfl (lv_room (Nat.le_of_ble_eq_true rfl)) dL_does_63 hm9) hP hD hS hA hown [⟨0, 236, 237, 60⟩] ⟨0, 236, 243, 64⟩ [⟨0, 236, 249, 66⟩] (by rw [htab]; rfl) (fun z hz => by rcases List.mem_singleton.mp hz with rfl; exact Or.inr ⟨by decide, _, (hts (.classLink RL 60 "java/lang/IndexOutOfBoundsException") (List.mem_of_getElem? (i := 1) rfl)), hN.1⟩) (by decide) (by decide) (hts (.classLink RL 64 "java/lang/IllegalArgumentException") (List.mem_of_getElem? (i := 2) rfl)) (hE.cw (Cond.castable gIAE gIAE) (List.mem_of_getElem? (i := 3) rfl)) (fun q9 w1 H locs hG hP hD hS => ?_)
      refine lv_astore (lv' := [(5, .ref q9), (0, .ref h), (1, .int 9), (2, .int a), (3, .int b), (4, .int c0)]) hx hb dL_does_243 hl (by decide) rfl (fun ls hl => ?_)
      refine lv_ldc2 (v := -2100000000) hx hb hown (hts (.constantLong RL 62 (-2100000000)) (List.mem_of_getElem? (i := 4) rfl)) dL_does_245 ?_
      refine W.widen (k := 1) (n := 6) hm9.1 hm9.2 ?_
      exact W.lret (v := -2100000000) hx hb hr (fun t ht hW => ⟨⟨some (.long (-2100000000)), w1, rfl, ⟨rfl, hG⟩, by rw [← hAe]; exact hD, by rw [ht]; exact hP⟩, by rw [← hAe]; exact hS.F ht⟩) (by rw [← hAe]; exact hS.2.2) dL_does_248
    · have e9 : bb = false := by rw [hbb]; exact decide_eq_false c9
      subst e9
      refine lv_iload_n hx hb dL_does_0 rfl (lv_at hl 1 rfl) ?_
      refine lv_bipush (v := 8) hx hb dL_does_1 (by decide) ?_
      refine lv_icmp_ge (tgt := 17) hx hb dL_does_3 (by decide) (fun c_3 => ?_) (fun c_3 => absurd c_3 (by decide))
      refine lv_iload_n hx hb dL_does_17 rfl (lv_at hl 1 rfl) ?_
      refine lv_bipush (v := 8) hx hb dL_does_18 (by decide) ?_
      refine lv_icmp_ne (tgt := 43) hx hb dL_does_20 (by decide) (fun c_20 => ?_) (fun c_20 => absurd c_20 (by decide))
      refine lv_iload_n hx hb dL_does_43 rfl (lv_at hl 1 rfl) ?_
      refine lv_bipush (v := 9) hx hb dL_does_44 (by decide) ?_
      refine lv_icmp_ne (tgt := 69) hx hb dL_does_46 (by decide) (fun c_46 => absurd c_46 (by decide)) (fun c_46 => ?_)
      refine lv_aload_n hx hb dL_does_49 rfl (lv_at hl 0 rfl) ?_
      refine lv_iload_n hx hb dL_does_50 rfl (lv_at hl 2 rfl) ?_
      refine lv_iload_n hx hb dL_does_51 rfl (lv_at hl 3 rfl) ?_
      refine lv_iload hx hb dL_does_52 (lv_at hl 4 rfl) ?_
      refine lv_iconst (v := 1) hx hb dL_does_54 (by decide) ?_
      refine lv_icmp_ne (tgt := 62) hx hb dL_does_55 (by decide) (fun c_55 => ?_) (fun c_55 => (c9 c_55).elim)
      refine lv_iconst (v := 0) hx hb dL_does_62 (by decide) ?_
      refine g_catch (name := gIAE) (ws := []) (wc := w) (vx_runV (As := [.int a, .int b, .int (gB false)]) (rest := []) ⟨hx, hb, hml, hown, hts⟩ (HL s.heap.size) (cwV 3 hts gL_does_X7_told rfl hc9 hs9 (by decide +kernel) hr9) (gPX_VA hP hD hK hE hS hA 0 he rfl) rfl rfl hl.1 rfl (lv_room (Nat.le_of_ble_eq_true rfl)) dL_does_63 hm9) hP hD hS hA hown [⟨0, 236, 237, 60⟩] ⟨0, 236, 243, 64⟩ [⟨0, 236, 249, 66⟩] (by rw [htab]; rfl) (fun z hz => by rcases List.mem_singleton.mp hz with rfl; exact Or.inr ⟨by decide, _, (hts (.classLink RL 60 "java/lang/IndexOutOfBoundsException") (List.mem_of_getElem? (i := 1) rfl)), hN.1⟩) (by decide) (by decide) (hts (.classLink RL 64 "java/lang/IllegalArgumentException") (List.mem_of_getElem? (i := 2) rfl)) (hE.cw (Cond.castable gIAE gIAE) (List.mem_of_getElem? (i := 3) rfl)) (fun q9 w1 H locs hG hP hD hS => ?_)
      refine lv_astore (lv' := [(5, .ref q9), (0, .ref h), (1, .int 9), (2, .int a), (3, .int b), (4, .int c0)]) hx hb dL_does_243 hl (by decide) rfl (fun ls hl => ?_)
      refine lv_ldc2 (v := -2100000000) hx hb hown (hts (.constantLong RL 62 (-2100000000)) (List.mem_of_getElem? (i := 4) rfl)) dL_does_245 ?_
      refine W.widen (k := 1) (n := 6) hm9.1 hm9.2 ?_
      exact W.lret (v := -2100000000) hx hb hr (fun t ht hW => ⟨⟨some (.long (-2100000000)), w1, rfl, ⟨rfl, hG⟩, by rw [← hAe]; exact hD, by rw [ht]; exact hP⟩, by rw [← hAe]; exact hS.F ht⟩) (by rw [← hAe]; exact hS.2.2) dL_does_248
  · skip
    refine gMet_ofWH (cc := cL_does) (maxL := 6) (ret := (some .long)) (hh := [(0, 236, 237, 60), (0, 236, 243, 64), (0, 236, 249, 66)]) (by decide) rfl ?_
    intro pg e s m args below meth c s₁ B hml hv
    obtain ⟨rfl, ⟨hsz, hP, hK, hD0, hE0⟩, hN⟩ := hv
    have hx := B.exec
    have hb := B.bytes
    have hr := B.returns
    have hts := atoms_spec (ws := wsL_does) B.pre
    have hown : s.vm.findClass RL = some m.cls := findClass_of_methodNamed B.named
    have htab : c.exceptionTable.toList = tableOf [(0, 236, 237, 60), (0, 236, 243, 64), (0, 236, 249, 66)] := vx_table (x := yL_does) B (hts _ List.mem_cons_self)
    have hlocks := B.notSynchronized
    subst hsz
    obtain ⟨A, hAe⟩ : ∃ A : Nat → Prop, A = va_A w s.heap.size := ⟨_, rfl⟩
    have hE : gE ad A s s.heap := by rw [hAe]; exact hE0
    have hD : va_D A w := by rw [hAe]; exact hD0.self (sz := s.heap.size)
    have hA : ∀ q : Nat, s.heap.size ≤ q → A q := fun q h => by rw [hAe]; exact Or.inr h
    have hS : va_S A s.heap s.heap [] := va_S.rf
    have hl := lv_entry ([.ref h, .int 9, .int a, .int b, .int c0]) (n := 6) (Nat.le_of_ble_eq_true rfl)
    rw [lg_entry_eq]
    generalize (lg_sl ([.ref h, .int 9, .int a, .int b, .int c0]) ++ List.replicate (6 - (lg_sl ([.ref h, .int 9, .int a, .int b, .int c0])).length) Slot.unset).toArray = ls at hl ⊢
    have hl : lv_has ls 6 [(0, .ref h), (1, .int 9), (2, .int a), (3, .int b), (4, .int c0)] := hl
    by_cases c9 : c0 = 1
    · have e9 : bb = true := by rw [hbb]; exact decide_eq_true c9
      subst e9
      refine lv_iload_n hx hb dL_does_0 rfl (lv_at hl 1 rfl) ?_
      refine lv_bipush (v := 8) hx hb dL_does_1 (by decide) ?_
      refine lv_icmp_ge (tgt := 17) hx hb dL_does_3 (by decide) (fun c_3 => ?_) (fun c_3 => absurd c_3 (by decide))
      refine lv_iload_n hx hb dL_does_17 rfl (lv_at hl 1 rfl) ?_
      refine lv_bipush (v := 8) hx hb dL_does_18 (by decide) ?_
      refine lv_icmp_ne (tgt := 43) hx hb dL_does_20 (by decide) (fun c_20 => ?_) (fun c_20 => absurd c_20 (by decide))
      refine lv_iload_n hx hb dL_does_43 rfl (lv_at hl 1 rfl) ?_
      refine lv_bipush (v := 9) hx hb dL_does_44 (by decide) ?_
      refine lv_icmp_ne (tgt := 69) hx hb dL_does_46 (by decide) (fun c_46 => absurd c_46 (by decide)) (fun c_46 => ?_)
      refine lv_aload_n hx hb dL_does_49 rfl (lv_at hl 0 rfl) ?_
      refine lv_iload_n hx hb dL_does_50 rfl (lv_at hl 2 rfl) ?_
      refine lv_iload_n hx hb dL_does_51 rfl (lv_at hl 3 rfl) ?_
      refine lv_iload hx hb dL_does_52 (lv_at hl 4 rfl) ?_
      refine lv_iconst (v := 1) hx hb dL_does_54 (by decide) ?_
      refine lv_icmp_ne (tgt := 62) hx hb dL_does_55 (by decide) (fun c_55 => (absurd c9 c_55)) (fun c_55 => ?_)
      refine lv_iconst (v := 1) hx hb dL_does_58 (by decide) ?_
      refine lv_goto (tgt := 63) hx hb dL_does_59 (by decide) ?_
      refine g_catch (name := gISE) (ws := []) (wc := w) (vx_runV (As := [.int a, .int b, .int (gB true)]) (rest := []) ⟨hx, hb, hml, hown, hts⟩ (HL s.heap.size) (cwV 3 hts gL_does_X7_told rfl hc9 hs9 (by decide +kernel) hr9) (gPX_VA hP hD hK hE hS hA 0 he rfl) rfl rfl hl.1 rfl (lv_room (Nat.le_of_ble_eq_true rfl)) dL_does_63 hm9) hP hD hS hA hown [⟨0, 236, 237, 60⟩, ⟨0, 236, 243, 64⟩] ⟨0, 236, 249, 66⟩ [] (by rw [htab]; rfl) (fun z hz => by
        rcases List.mem_cons.mp hz with rfl | hz
        · exact Or.inr ⟨by decide, _, (hts (.classLink RL 60 "java/lang/IndexOutOfBoundsException") (List.mem_of_getElem? (i := 1) rfl)), hN.2.1⟩
        · rcases List.mem_singleton.mp hz with rfl; exact Or.inr ⟨by decide, _, (hts (.classLink RL 64 "java/lang/IllegalArgumentException") (List.mem_of_getElem? (i := 2) rfl)), hN.2.2⟩) (by decide) (by decide) (hts (.classLink RL 66 "java/lang/IllegalStateException") (List.mem_of_getElem? (i := 3) rfl)) (hE.cw (Cond.castable gISE gISE) (List.mem_of_getElem? (i := 4) rfl)) (fun q9 w1 H locs hG hP hD hS => ?_)
      refine lv_astore (lv' := [(5, .ref q9), (0, .ref h), (1, .int 9), (2, .int a), (3, .int b), (4, .int c0)]) hx hb dL_does_249 hl (by decide) rfl (fun ls hl => ?_)
      refine lv_ldc2 (v := -2100000000) hx hb hown (hts (.constantLong RL 62 (-2100000000)) (List.mem_of_getElem? (i := 4) rfl)) dL_does_251 ?_
      refine W.widen (k := 1) (n := 6) hm9.1 hm9.2 ?_
      exact W.lret (v := -2100000000) hx hb hr (fun t ht hW => ⟨⟨some (.long (-2100000000)), w1, rfl, ⟨rfl, hG⟩, by rw [← hAe]; exact hD, by rw [ht]; exact hP⟩, by rw [← hAe]; exact hS.F ht⟩) (by rw [← hAe]; exact hS.2.2) dL_does_254
    · have e9 : bb = false := by rw [hbb]; exact decide_eq_false c9
      subst e9
      refine lv_iload_n hx hb dL_does_0 rfl (lv_at hl 1 rfl) ?_
      refine lv_bipush (v := 8) hx hb dL_does_1 (by decide) ?_
      refine lv_icmp_ge (tgt := 17) hx hb dL_does_3 (by decide) (fun c_3 => ?_) (fun c_3 => absurd c_3 (by decide))
      refine lv_iload_n hx hb dL_does_17 rfl (lv_at hl 1 rfl) ?_
      refine lv_bipush (v := 8) hx hb dL_does_18 (by decide) ?_
      refine lv_icmp_ne (tgt := 43) hx hb dL_does_20 (by decide) (fun c_20 => ?_) (fun c_20 => absurd c_20 (by decide))
      refine lv_iload_n hx hb dL_does_43 rfl (lv_at hl 1 rfl) ?_
      refine lv_bipush (v := 9) hx hb dL_does_44 (by decide) ?_
      refine lv_icmp_ne (tgt := 69) hx hb dL_does_46 (by decide) (fun c_46 => absurd c_46 (by decide)) (fun c_46 => ?_)
      refine lv_aload_n hx hb dL_does_49 rfl (lv_at hl 0 rfl) ?_
      refine lv_iload_n hx hb dL_does_50 rfl (lv_at hl 2 rfl) ?_
      refine lv_iload_n hx hb dL_does_51 rfl (lv_at hl 3 rfl) ?_
      refine lv_iload hx hb dL_does_52 (lv_at hl 4 rfl) ?_
      refine lv_iconst (v := 1) hx hb dL_does_54 (by decide) ?_
      refine lv_icmp_ne (tgt := 62) hx hb dL_does_55 (by decide) (fun c_55 => ?_) (fun c_55 => (c9 c_55).elim)
      refine lv_iconst (v := 0) hx hb dL_does_62 (by decide) ?_
      refine g_catch (name := gISE) (ws := []) (wc := w) (vx_runV (As := [.int a, .int b, .int (gB false)]) (rest := []) ⟨hx, hb, hml, hown, hts⟩ (HL s.heap.size) (cwV 3 hts gL_does_X7_told rfl hc9 hs9 (by decide +kernel) hr9) (gPX_VA hP hD hK hE hS hA 0 he rfl) rfl rfl hl.1 rfl (lv_room (Nat.le_of_ble_eq_true rfl)) dL_does_63 hm9) hP hD hS hA hown [⟨0, 236, 237, 60⟩, ⟨0, 236, 243, 64⟩] ⟨0, 236, 249, 66⟩ [] (by rw [htab]; rfl) (fun z hz => by
        rcases List.mem_cons.mp hz with rfl | hz
        · exact Or.inr ⟨by decide, _, (hts (.classLink RL 60 "java/lang/IndexOutOfBoundsException") (List.mem_of_getElem? (i := 1) rfl)), hN.2.1⟩
        · rcases List.mem_singleton.mp hz with rfl; exact Or.inr ⟨by decide, _, (hts (.classLink RL 64 "java/lang/IllegalArgumentException") (List.mem_of_getElem? (i := 2) rfl)), hN.2.2⟩) (by decide) (by decide) (hts (.classLink RL 66 "java/lang/IllegalStateException") (List.mem_of_getElem? (i := 3) rfl)) (hE.cw (Cond.castable gISE gISE) (List.mem_of_getElem? (i := 4) rfl)) (fun q9 w1 H locs hG hP hD hS => ?_)
      refine lv_astore (lv' := [(5, .ref q9), (0, .ref h), (1, .int 9), (2, .int a), (3, .int b), (4, .int c0)]) hx hb dL_does_249 hl (by decide) rfl (fun ls hl => ?_)
      refine lv_ldc2 (v := -2100000000) hx hb hown (hts (.constantLong RL 62 (-2100000000)) (List.mem_of_getElem? (i := 4) rfl)) dL_does_251 ?_
      refine W.widen (k := 1) (n := 6) hm9.1 hm9.2 ?_
      exact W.lret (v := -2100000000) hx hb hr (fun t ht hW => ⟨⟨some (.long (-2100000000)), w1, rfl, ⟨rfl, hG⟩, by rw [← hAe]; exact hD, by rw [ht]; exact hP⟩, by rw [← hAe]; exact hS.F ht⟩) (by rw [← hAe]; exact hS.2.2) dL_does_254
set_option maxRecDepth 100000 in
theorem dn_compare {l : Launch} {D : va_G} {y : Nat → ClassId} {ad : Nat → Nat} {w : va_W} {h : Nat} {fs : List Value} (he : w[0]? = some (h, .inr (5, fs))) {a b c0 : Int32} {G : va_W → Prop} {rm : Room} {mc ms : Nat} {x : Int32} (HL : ∀ sz, Met l yX7_compare wsX7_compare rm (gPX D y ad [.ref h, .int a, .int b, .int c0] w sz) (gQn D w (fun v w1 => v = some (.int x) ∧ G w1)) mc ms (va_A w sz)) (hc9 : rm.cells = mc) (hs9 : rm.slots = ms) (hr9 : rm.frames + 1 ≤ 11 ∧ 8 + (6 + 11) + rm.locals ≤ 400) (hm9 : 0 + mc ≤ 1 ∧ 0 + ms ≤ 6) (sz : Nat) : Met l yL_does wsL_does ({ frames := 11, cells := 1, slots := 6, locals := 400 } : Room) (gPN D y ad [.ref h, .int 11, .int a, .int b, .int c0] w sz) (gQn D w (fun v w1 => v = some (.long (x.toInt64)) ∧ G w1)) 1 6 (va_A w sz) := by
  refine gMet_ofWH (cc := cL_does) (maxL := 6) (ret := (some .long)) (hh := [(0, 236, 237, 60), (0, 236, 243, 64), (0, 236, 249, 66)]) (by decide) rfl ?_
  intro pg e s m args below meth c s₁ B hml hv
  obtain ⟨rfl, ⟨hsz, hP, hK, hD0, hE0⟩, hN⟩ := hv
  have hx := B.exec
  have hb := B.bytes
  have hr := B.returns
  have hts := atoms_spec (ws := wsL_does) B.pre
  have hown : s.vm.findClass RL = some m.cls := findClass_of_methodNamed B.named
  have htab : c.exceptionTable.toList = tableOf [(0, 236, 237, 60), (0, 236, 243, 64), (0, 236, 249, 66)] := vx_table (x := yL_does) B (hts _ List.mem_cons_self)
  have hlocks := B.notSynchronized
  subst hsz
  obtain ⟨A, hAe⟩ : ∃ A : Nat → Prop, A = va_A w s.heap.size := ⟨_, rfl⟩
  have hE : gE ad A s s.heap := by rw [hAe]; exact hE0
  have hD : va_D A w := by rw [hAe]; exact hD0.self (sz := s.heap.size)
  have hA : ∀ q : Nat, s.heap.size ≤ q → A q := fun q h => by rw [hAe]; exact Or.inr h
  have hS : va_S A s.heap s.heap [] := va_S.rf
  have hl := lv_entry ([.ref h, .int 11, .int a, .int b, .int c0]) (n := 6) (Nat.le_of_ble_eq_true rfl)
  rw [lg_entry_eq]
  generalize (lg_sl ([.ref h, .int 11, .int a, .int b, .int c0]) ++ List.replicate (6 - (lg_sl ([.ref h, .int 11, .int a, .int b, .int c0])).length) Slot.unset).toArray = ls at hl ⊢
  have hl : lv_has ls 6 [(0, .ref h), (1, .int 11), (2, .int a), (3, .int b), (4, .int c0)] := hl
  refine lv_iload_n hx hb dL_does_0 rfl (lv_at hl 1 rfl) ?_
  refine lv_bipush (v := 8) hx hb dL_does_1 (by decide) ?_
  refine lv_icmp_ge (tgt := 17) hx hb dL_does_3 (by decide) (fun c_3 => ?_) (fun c_3 => absurd c_3 (by decide))
  refine lv_iload_n hx hb dL_does_17 rfl (lv_at hl 1 rfl) ?_
  refine lv_bipush (v := 8) hx hb dL_does_18 (by decide) ?_
  refine lv_icmp_ne (tgt := 43) hx hb dL_does_20 (by decide) (fun c_20 => ?_) (fun c_20 => absurd c_20 (by decide))
  refine lv_iload_n hx hb dL_does_43 rfl (lv_at hl 1 rfl) ?_
  refine lv_bipush (v := 9) hx hb dL_does_44 (by decide) ?_
  refine lv_icmp_ne (tgt := 69) hx hb dL_does_46 (by decide) (fun c_46 => ?_) (fun c_46 => absurd c_46 (by decide))
  refine lv_iload_n hx hb dL_does_69 rfl (lv_at hl 1 rfl) ?_
  refine lv_bipush (v := 10) hx hb dL_does_70 (by decide) ?_
  refine lv_icmp_ne (tgt := 85) hx hb dL_does_72 (by decide) (fun c_72 => ?_) (fun c_72 => absurd c_72 (by decide))
  refine lv_iload_n hx hb dL_does_85 rfl (lv_at hl 1 rfl) ?_
  refine lv_bipush (v := 11) hx hb dL_does_86 (by decide) ?_
  refine lv_icmp_ne (tgt := 103) hx hb dL_does_88 (by decide) (fun c_88 => absurd c_88 (by decide)) (fun c_88 => ?_)
  refine lv_aload_n hx hb dL_does_91 rfl (lv_at hl 0 rfl) ?_
  refine lv_iload_n hx hb dL_does_92 rfl (lv_at hl 2 rfl) ?_
  refine lv_iload_n hx hb dL_does_93 rfl (lv_at hl 3 rfl) ?_
  refine lv_iload hx hb dL_does_94 (lv_at hl 4 rfl) ?_
  refine g_callN (ws := []) (wc := w) (va_runV (As := [.int a, .int b, .int c0]) (rest := []) ⟨hx, hb, hml, hown, hts⟩ (HL s.heap.size) (cwV 3 hts gL_does_X7_compare rfl hc9 hs9 (by decide +kernel) hr9) (gPX_VA hP hD hK hE hS hA 0 he rfl) rfl rfl hl.1 rfl (lv_room (Nat.le_of_ble_eq_true rfl)) dL_does_96 hm9) hP hD hS hA (fun v w1 H locs hf hP hD hS => ?_)
  obtain ⟨rfl, hG⟩ := hf
  refine lv_i2l (v := x.toInt64) hx hb dL_does_99 rfl ?_
  refine lv_goto (tgt := 236) hx hb dL_does_100 (by decide) ?_
  refine W.widen (k := 1) (n := 6) hm9.1 hm9.2 ?_
  exact W.lret (v := x.toInt64) hx hb hr (fun t ht hW => ⟨⟨some (.long (x.toInt64)), w1, rfl, ⟨rfl, hG⟩, by rw [← hAe]; exact hD, by rw [ht]; exact hP⟩, by rw [← hAe]; exact hS.F ht⟩) (by rw [← hAe]; exact hS.2.2) dL_does_236
set_option maxRecDepth 100000 in
theorem dt_compare {l : Launch} {D : va_G} {y : Nat → ClassId} {ad : Nat → Nat} {w : va_W} {h : Nat} {fs : List Value} (he : w[0]? = some (h, .inr (5, fs))) {a b c0 : Int32} {G : va_W → Prop} {rm : Room} {mc ms : Nat} {E : String} (hE9 : E = gIOB ∨ E = gIAE ∨ E = gISE) (HL : ∀ sz, vx_Met l yX7_compare wsX7_compare rm (gPX D y ad [.ref h, .int a, .int b, .int c0] w sz) gNo (gXC D w E G) mc ms (va_A w sz)) (hc9 : rm.cells = mc) (hs9 : rm.slots = ms) (hr9 : rm.frames + 1 ≤ 11 ∧ 8 + (6 + 11) + rm.locals ≤ 400) (hm9 : 0 + mc ≤ 1 ∧ 0 + ms ≤ 6) (sz : Nat) : Met l yL_does wsL_does ({ frames := 11, cells := 1, slots := 6, locals := 400 } : Room) (gPN D y ad [.ref h, .int 11, .int a, .int b, .int c0] w sz) (gQn D w (fun v w1 => v = some (.long (-2100000000)) ∧ G w1)) 1 6 (va_A w sz) := by
  rcases hE9 with rfl | rfl | rfl
  · skip
    refine gMet_ofWH (cc := cL_does) (maxL := 6) (ret := (some .long)) (hh := [(0, 236, 237, 60), (0, 236, 243, 64), (0, 236, 249, 66)]) (by decide) rfl ?_
    intro pg e s m args below meth c s₁ B hml hv
    obtain ⟨rfl, ⟨hsz, hP, hK, hD0, hE0⟩, hN⟩ := hv
    have hx := B.exec
    have hb := B.bytes
    have hr := B.returns
    have hts := atoms_spec (ws := wsL_does) B.pre
    have hown : s.vm.findClass RL = some m.cls := findClass_of_methodNamed B.named
    have htab : c.exceptionTable.toList = tableOf [(0, 236, 237, 60), (0, 236, 243, 64), (0, 236, 249, 66)] := vx_table (x := yL_does) B (hts _ List.mem_cons_self)
    have hlocks := B.notSynchronized
    subst hsz
    obtain ⟨A, hAe⟩ : ∃ A : Nat → Prop, A = va_A w s.heap.size := ⟨_, rfl⟩
    have hE : gE ad A s s.heap := by rw [hAe]; exact hE0
    have hD : va_D A w := by rw [hAe]; exact hD0.self (sz := s.heap.size)
    have hA : ∀ q : Nat, s.heap.size ≤ q → A q := fun q h => by rw [hAe]; exact Or.inr h
    have hS : va_S A s.heap s.heap [] := va_S.rf
    have hl := lv_entry ([.ref h, .int 11, .int a, .int b, .int c0]) (n := 6) (Nat.le_of_ble_eq_true rfl)
    rw [lg_entry_eq]
    generalize (lg_sl ([.ref h, .int 11, .int a, .int b, .int c0]) ++ List.replicate (6 - (lg_sl ([.ref h, .int 11, .int a, .int b, .int c0])).length) Slot.unset).toArray = ls at hl ⊢
    have hl : lv_has ls 6 [(0, .ref h), (1, .int 11), (2, .int a), (3, .int b), (4, .int c0)] := hl
    refine lv_iload_n hx hb dL_does_0 rfl (lv_at hl 1 rfl) ?_
    refine lv_bipush (v := 8) hx hb dL_does_1 (by decide) ?_
    refine lv_icmp_ge (tgt := 17) hx hb dL_does_3 (by decide) (fun c_3 => ?_) (fun c_3 => absurd c_3 (by decide))
    refine lv_iload_n hx hb dL_does_17 rfl (lv_at hl 1 rfl) ?_
    refine lv_bipush (v := 8) hx hb dL_does_18 (by decide) ?_
    refine lv_icmp_ne (tgt := 43) hx hb dL_does_20 (by decide) (fun c_20 => ?_) (fun c_20 => absurd c_20 (by decide))
    refine lv_iload_n hx hb dL_does_43 rfl (lv_at hl 1 rfl) ?_
    refine lv_bipush (v := 9) hx hb dL_does_44 (by decide) ?_
    refine lv_icmp_ne (tgt := 69) hx hb dL_does_46 (by decide) (fun c_46 => ?_) (fun c_46 => absurd c_46 (by decide))
    refine lv_iload_n hx hb dL_does_69 rfl (lv_at hl 1 rfl) ?_
    refine lv_bipush (v := 10) hx hb dL_does_70 (by decide) ?_
    refine lv_icmp_ne (tgt := 85) hx hb dL_does_72 (by decide) (fun c_72 => ?_) (fun c_72 => absurd c_72 (by decide))
    refine lv_iload_n hx hb dL_does_85 rfl (lv_at hl 1 rfl) ?_
    refine lv_bipush (v := 11) hx hb dL_does_86 (by decide) ?_
    refine lv_icmp_ne (tgt := 103) hx hb dL_does_88 (by decide) (fun c_88 => absurd c_88 (by decide)) (fun c_88 => ?_)
    refine lv_aload_n hx hb dL_does_91 rfl (lv_at hl 0 rfl) ?_
    refine lv_iload_n hx hb dL_does_92 rfl (lv_at hl 2 rfl) ?_
    refine lv_iload_n hx hb dL_does_93 rfl (lv_at hl 3 rfl) ?_
    refine lv_iload hx hb dL_does_94 (lv_at hl 4 rfl) ?_
    refine g_catch (name := gIOB) (ws := []) (wc := w) (vx_runV (As := [.int a, .int b, .int c0]) (rest := []) ⟨hx, hb, hml, hown, hts⟩ (HL s.heap.size) (cwV 3 hts gL_does_X7_compare rfl hc9 hs9 (by decide +kernel) hr9) (gPX_VA hP hD hK hE hS hA 0 he rfl) rfl rfl hl.1 rfl (lv_room (Nat.le_of_ble_eq_true rfl)) dL_does_96 hm9) hP hD hS hA hown [] ⟨0, 236, 237, 60⟩ [⟨0, 236, 243, 64⟩, ⟨0, 236, 249, 66⟩] (by rw [htab]; rfl) (fun z hz => absurd hz List.not_mem_nil) (by decide) (by decide) (hts (.classLink RL 60 "java/lang/IndexOutOfBoundsException") (List.mem_of_getElem? (i := 1) rfl)) (hE.cw (Cond.castable gIOB gIOB) (List.mem_of_getElem? (i := 5) rfl)) (fun q9 w1 H locs hG hP hD hS => ?_)
    refine lv_astore (lv' := [(5, .ref q9), (0, .ref h), (1, .int 11), (2, .int a), (3, .int b), (4, .int c0)]) hx hb dL_does_237 hl (by decide) rfl (fun ls hl => ?_)
    refine lv_ldc2 (v := -2100000000) hx hb hown (hts (.constantLong RL 62 (-2100000000)) (List.mem_of_getElem? (i := 4) rfl)) dL_does_239 ?_
    refine W.widen (k := 1) (n := 6) hm9.1 hm9.2 ?_
    exact W.lret (v := -2100000000) hx hb hr (fun t ht hW => ⟨⟨some (.long (-2100000000)), w1, rfl, ⟨rfl, hG⟩, by rw [← hAe]; exact hD, by rw [ht]; exact hP⟩, by rw [← hAe]; exact hS.F ht⟩) (by rw [← hAe]; exact hS.2.2) dL_does_242
  · skip
    refine gMet_ofWH (cc := cL_does) (maxL := 6) (ret := (some .long)) (hh := [(0, 236, 237, 60), (0, 236, 243, 64), (0, 236, 249, 66)]) (by decide) rfl ?_
    intro pg e s m args below meth c s₁ B hml hv
    obtain ⟨rfl, ⟨hsz, hP, hK, hD0, hE0⟩, hN⟩ := hv
    have hx := B.exec
    have hb := B.bytes
    have hr := B.returns
    have hts := atoms_spec (ws := wsL_does) B.pre
    have hown : s.vm.findClass RL = some m.cls := findClass_of_methodNamed B.named
    have htab : c.exceptionTable.toList = tableOf [(0, 236, 237, 60), (0, 236, 243, 64), (0, 236, 249, 66)] := vx_table (x := yL_does) B (hts _ List.mem_cons_self)
    have hlocks := B.notSynchronized
    subst hsz
    obtain ⟨A, hAe⟩ : ∃ A : Nat → Prop, A = va_A w s.heap.size := ⟨_, rfl⟩
    have hE : gE ad A s s.heap := by rw [hAe]; exact hE0
    have hD : va_D A w := by rw [hAe]; exact hD0.self (sz := s.heap.size)
    have hA : ∀ q : Nat, s.heap.size ≤ q → A q := fun q h => by rw [hAe]; exact Or.inr h
    have hS : va_S A s.heap s.heap [] := va_S.rf
    have hl := lv_entry ([.ref h, .int 11, .int a, .int b, .int c0]) (n := 6) (Nat.le_of_ble_eq_true rfl)
    rw [lg_entry_eq]
    generalize (lg_sl ([.ref h, .int 11, .int a, .int b, .int c0]) ++ List.replicate (6 - (lg_sl ([.ref h, .int 11, .int a, .int b, .int c0])).length) Slot.unset).toArray = ls at hl ⊢
    have hl : lv_has ls 6 [(0, .ref h), (1, .int 11), (2, .int a), (3, .int b), (4, .int c0)] := hl
    refine lv_iload_n hx hb dL_does_0 rfl (lv_at hl 1 rfl) ?_
    refine lv_bipush (v := 8) hx hb dL_does_1 (by decide) ?_
    refine lv_icmp_ge (tgt := 17) hx hb dL_does_3 (by decide) (fun c_3 => ?_) (fun c_3 => absurd c_3 (by decide))
    refine lv_iload_n hx hb dL_does_17 rfl (lv_at hl 1 rfl) ?_
    refine lv_bipush (v := 8) hx hb dL_does_18 (by decide) ?_
    refine lv_icmp_ne (tgt := 43) hx hb dL_does_20 (by decide) (fun c_20 => ?_) (fun c_20 => absurd c_20 (by decide))
    refine lv_iload_n hx hb dL_does_43 rfl (lv_at hl 1 rfl) ?_
    refine lv_bipush (v := 9) hx hb dL_does_44 (by decide) ?_
    refine lv_icmp_ne (tgt := 69) hx hb dL_does_46 (by decide) (fun c_46 => ?_) (fun c_46 => absurd c_46 (by decide))
    refine lv_iload_n hx hb dL_does_69 rfl (lv_at hl 1 rfl) ?_
    refine lv_bipush (v := 10) hx hb dL_does_70 (by decide) ?_
    refine lv_icmp_ne (tgt := 85) hx hb dL_does_72 (by decide) (fun c_72 => ?_) (fun c_72 => absurd c_72 (by decide))
    refine lv_iload_n hx hb dL_does_85 rfl (lv_at hl 1 rfl) ?_
    refine lv_bipush (v := 11) hx hb dL_does_86 (by decide) ?_
    refine lv_icmp_ne (tgt := 103) hx hb dL_does_88 (by decide) (fun c_88 => absurd c_88 (by decide)) (fun c_88 => ?_)
    refine lv_aload_n hx hb dL_does_91 rfl (lv_at hl 0 rfl) ?_
    refine lv_iload_n hx hb dL_does_92 rfl (lv_at hl 2 rfl) ?_
    refine lv_iload_n hx hb dL_does_93 rfl (lv_at hl 3 rfl) ?_
    refine lv_iload hx hb dL_does_94 (lv_at hl 4 rfl) ?_
    refine g_catch (name := gIAE) (ws := []) (wc := w) (vx_runV (As := [.int a, .int b, .int c0]) (rest := []) ⟨hx, hb, hml, hown, hts⟩ (HL s.heap.size) (cwV 3 hts gL_does_X7_compare rfl hc9 hs9 (by decide +kernel) hr9) (gPX_VA hP hD hK hE hS hA 0 he rfl) rfl rfl hl.1 rfl (lv_room (Nat.le_of_ble_eq_true rfl)) dL_does_96 hm9) hP hD hS hA hown [⟨0, 236, 237, 60⟩] ⟨0, 236, 243, 64⟩ [⟨0, 236, 249, 66⟩] (by rw [htab]; rfl) (fun z hz => by rcases List.mem_singleton.mp hz with rfl; exact Or.inr ⟨by decide, _, (hts (.classLink RL 60 "java/lang/IndexOutOfBoundsException") (List.mem_of_getElem? (i := 1) rfl)), hN.1⟩) (by decide) (by decide) (hts (.classLink RL 64 "java/lang/IllegalArgumentException") (List.mem_of_getElem? (i := 2) rfl)) (hE.cw (Cond.castable gIAE gIAE) (List.mem_of_getElem? (i := 3) rfl)) (fun q9 w1 H locs hG hP hD hS => ?_)
    refine lv_astore (lv' := [(5, .ref q9), (0, .ref h), (1, .int 11), (2, .int a), (3, .int b), (4, .int c0)]) hx hb dL_does_243 hl (by decide) rfl (fun ls hl => ?_)
    refine lv_ldc2 (v := -2100000000) hx hb hown (hts (.constantLong RL 62 (-2100000000)) (List.mem_of_getElem? (i := 4) rfl)) dL_does_245 ?_
    refine W.widen (k := 1) (n := 6) hm9.1 hm9.2 ?_
    exact W.lret (v := -2100000000) hx hb hr (fun t ht hW => ⟨⟨some (.long (-2100000000)), w1, rfl, ⟨rfl, hG⟩, by rw [← hAe]; exact hD, by rw [ht]; exact hP⟩, by rw [← hAe]; exact hS.F ht⟩) (by rw [← hAe]; exact hS.2.2) dL_does_248
  · skip
    refine gMet_ofWH (cc := cL_does) (maxL := 6) (ret := (some .long)) (hh := [(0, 236, 237, 60), (0, 236, 243, 64), (0, 236, 249, 66)]) (by decide) rfl ?_
    intro pg e s m args below meth c s₁ B hml hv
    obtain ⟨rfl, ⟨hsz, hP, hK, hD0, hE0⟩, hN⟩ := hv
    have hx := B.exec
    have hb := B.bytes
    have hr := B.returns
    have hts := atoms_spec (ws := wsL_does) B.pre
    have hown : s.vm.findClass RL = some m.cls := findClass_of_methodNamed B.named
    have htab : c.exceptionTable.toList = tableOf [(0, 236, 237, 60), (0, 236, 243, 64), (0, 236, 249, 66)] := vx_table (x := yL_does) B (hts _ List.mem_cons_self)
    have hlocks := B.notSynchronized
    subst hsz
    obtain ⟨A, hAe⟩ : ∃ A : Nat → Prop, A = va_A w s.heap.size := ⟨_, rfl⟩
    have hE : gE ad A s s.heap := by rw [hAe]; exact hE0
    have hD : va_D A w := by rw [hAe]; exact hD0.self (sz := s.heap.size)
    have hA : ∀ q : Nat, s.heap.size ≤ q → A q := fun q h => by rw [hAe]; exact Or.inr h
    have hS : va_S A s.heap s.heap [] := va_S.rf
    have hl := lv_entry ([.ref h, .int 11, .int a, .int b, .int c0]) (n := 6) (Nat.le_of_ble_eq_true rfl)
    rw [lg_entry_eq]
    generalize (lg_sl ([.ref h, .int 11, .int a, .int b, .int c0]) ++ List.replicate (6 - (lg_sl ([.ref h, .int 11, .int a, .int b, .int c0])).length) Slot.unset).toArray = ls at hl ⊢
    have hl : lv_has ls 6 [(0, .ref h), (1, .int 11), (2, .int a), (3, .int b), (4, .int c0)] := hl
    refine lv_iload_n hx hb dL_does_0 rfl (lv_at hl 1 rfl) ?_
    refine lv_bipush (v := 8) hx hb dL_does_1 (by decide) ?_
    refine lv_icmp_ge (tgt := 17) hx hb dL_does_3 (by decide) (fun c_3 => ?_) (fun c_3 => absurd c_3 (by decide))
    refine lv_iload_n hx hb dL_does_17 rfl (lv_at hl 1 rfl) ?_
    refine lv_bipush (v := 8) hx hb dL_does_18 (by decide) ?_
    refine lv_icmp_ne (tgt := 43) hx hb dL_does_20 (by decide) (fun c_20 => ?_) (fun c_20 => absurd c_20 (by decide))
    refine lv_iload_n hx hb dL_does_43 rfl (lv_at hl 1 rfl) ?_
    refine lv_bipush (v := 9) hx hb dL_does_44 (by decide) ?_
    refine lv_icmp_ne (tgt := 69) hx hb dL_does_46 (by decide) (fun c_46 => ?_) (fun c_46 => absurd c_46 (by decide))
    refine lv_iload_n hx hb dL_does_69 rfl (lv_at hl 1 rfl) ?_
    refine lv_bipush (v := 10) hx hb dL_does_70 (by decide) ?_
    refine lv_icmp_ne (tgt := 85) hx hb dL_does_72 (by decide) (fun c_72 => ?_) (fun c_72 => absurd c_72 (by decide))
    refine lv_iload_n hx hb dL_does_85 rfl (lv_at hl 1 rfl) ?_
    refine lv_bipush (v := 11) hx hb dL_does_86 (by decide) ?_
    refine lv_icmp_ne (tgt := 103) hx hb dL_does_88 (by decide) (fun c_88 => absurd c_88 (by decide)) (fun c_88 => ?_)
    refine lv_aload_n hx hb dL_does_91 rfl (lv_at hl 0 rfl) ?_
    refine lv_iload_n hx hb dL_does_92 rfl (lv_at hl 2 rfl) ?_
    refine lv_iload_n hx hb dL_does_93 rfl (lv_at hl 3 rfl) ?_
    refine lv_iload hx hb dL_does_94 (lv_at hl 4 rfl) ?_
    refine g_catch (name := gISE) (ws := []) (wc := w) (vx_runV (As := [.int a, .int b, .int c0]) (rest := []) ⟨hx, hb, hml, hown, hts⟩ (HL s.heap.size) (cwV 3 hts gL_does_X7_compare rfl hc9 hs9 (by decide +kernel) hr9) (gPX_VA hP hD hK hE hS hA 0 he rfl) rfl rfl hl.1 rfl (lv_room (Nat.le_of_ble_eq_true rfl)) dL_does_96 hm9) hP hD hS hA hown [⟨0, 236, 237, 60⟩, ⟨0, 236, 243, 64⟩] ⟨0, 236, 249, 66⟩ [] (by rw [htab]; rfl) (fun z hz => by
      rcases List.mem_cons.mp hz with rfl | hz
      · exact Or.inr ⟨by decide, _, (hts (.classLink RL 60 "java/lang/IndexOutOfBoundsException") (List.mem_of_getElem? (i := 1) rfl)), hN.2.1⟩
      · rcases List.mem_singleton.mp hz with rfl; exact Or.inr ⟨by decide, _, (hts (.classLink RL 64 "java/lang/IllegalArgumentException") (List.mem_of_getElem? (i := 2) rfl)), hN.2.2⟩) (by decide) (by decide) (hts (.classLink RL 66 "java/lang/IllegalStateException") (List.mem_of_getElem? (i := 3) rfl)) (hE.cw (Cond.castable gISE gISE) (List.mem_of_getElem? (i := 4) rfl)) (fun q9 w1 H locs hG hP hD hS => ?_)
    refine lv_astore (lv' := [(5, .ref q9), (0, .ref h), (1, .int 11), (2, .int a), (3, .int b), (4, .int c0)]) hx hb dL_does_249 hl (by decide) rfl (fun ls hl => ?_)
    refine lv_ldc2 (v := -2100000000) hx hb hown (hts (.constantLong RL 62 (-2100000000)) (List.mem_of_getElem? (i := 4) rfl)) dL_does_251 ?_
    refine W.widen (k := 1) (n := 6) hm9.1 hm9.2 ?_
    exact W.lret (v := -2100000000) hx hb hr (fun t ht hW => ⟨⟨some (.long (-2100000000)), w1, rfl, ⟨rfl, hG⟩, by rw [← hAe]; exact hD, by rw [ht]; exact hP⟩, by rw [← hAe]; exact hS.F ht⟩) (by rw [← hAe]; exact hS.2.2) dL_does_254
set_option maxRecDepth 100000 in
theorem dn_decimals {l : Launch} {D : va_G} {y : Nat → ClassId} {ad : Nat → Nat} {w : va_W} {h : Nat} {fs : List Value} (he : w[0]? = some (h, .inr (5, fs))) {a b c0 : Int32} {G : va_W → Prop} {rm : Room} {mc ms : Nat} {x : Int32} (HL : ∀ sz, Met l yX7_decimals wsX7_decimals rm (gPX D y ad [.ref h, .int a, .int b] w sz) (gQn D w (fun v w1 => v = some (.int x) ∧ G w1)) mc ms (va_A w sz)) (hc9 : rm.cells = mc) (hs9 : rm.slots = ms) (hr9 : rm.frames + 1 ≤ 11 ∧ 8 + (3 + 11) + rm.locals ≤ 400) (hm9 : 0 + mc ≤ 1 ∧ 0 + ms ≤ 6) (sz : Nat) : Met l yL_does wsL_does ({ frames := 11, cells := 1, slots := 6, locals := 400 } : Room) (gPN D y ad [.ref h, .int 13, .int a, .int b, .int c0] w sz) (gQn D w (fun v w1 => v = some (.long (x.toInt64)) ∧ G w1)) 1 6 (va_A w sz) := by
  refine gMet_ofWH (cc := cL_does) (maxL := 6) (ret := (some .long)) (hh := [(0, 236, 237, 60), (0, 236, 243, 64), (0, 236, 249, 66)]) (by decide) rfl ?_
  intro pg e s m args below meth c s₁ B hml hv
  obtain ⟨rfl, ⟨hsz, hP, hK, hD0, hE0⟩, hN⟩ := hv
  have hx := B.exec
  have hb := B.bytes
  have hr := B.returns
  have hts := atoms_spec (ws := wsL_does) B.pre
  have hown : s.vm.findClass RL = some m.cls := findClass_of_methodNamed B.named
  have htab : c.exceptionTable.toList = tableOf [(0, 236, 237, 60), (0, 236, 243, 64), (0, 236, 249, 66)] := vx_table (x := yL_does) B (hts _ List.mem_cons_self)
  have hlocks := B.notSynchronized
  subst hsz
  obtain ⟨A, hAe⟩ : ∃ A : Nat → Prop, A = va_A w s.heap.size := ⟨_, rfl⟩
  have hE : gE ad A s s.heap := by rw [hAe]; exact hE0
  have hD : va_D A w := by rw [hAe]; exact hD0.self (sz := s.heap.size)
  have hA : ∀ q : Nat, s.heap.size ≤ q → A q := fun q h => by rw [hAe]; exact Or.inr h
  have hS : va_S A s.heap s.heap [] := va_S.rf
  have hl := lv_entry ([.ref h, .int 13, .int a, .int b, .int c0]) (n := 6) (Nat.le_of_ble_eq_true rfl)
  rw [lg_entry_eq]
  generalize (lg_sl ([.ref h, .int 13, .int a, .int b, .int c0]) ++ List.replicate (6 - (lg_sl ([.ref h, .int 13, .int a, .int b, .int c0])).length) Slot.unset).toArray = ls at hl ⊢
  have hl : lv_has ls 6 [(0, .ref h), (1, .int 13), (2, .int a), (3, .int b), (4, .int c0)] := hl
  refine lv_iload_n hx hb dL_does_0 rfl (lv_at hl 1 rfl) ?_
  refine lv_bipush (v := 8) hx hb dL_does_1 (by decide) ?_
  refine lv_icmp_ge (tgt := 17) hx hb dL_does_3 (by decide) (fun c_3 => ?_) (fun c_3 => absurd c_3 (by decide))
  refine lv_iload_n hx hb dL_does_17 rfl (lv_at hl 1 rfl) ?_
  refine lv_bipush (v := 8) hx hb dL_does_18 (by decide) ?_
  refine lv_icmp_ne (tgt := 43) hx hb dL_does_20 (by decide) (fun c_20 => ?_) (fun c_20 => absurd c_20 (by decide))
  refine lv_iload_n hx hb dL_does_43 rfl (lv_at hl 1 rfl) ?_
  refine lv_bipush (v := 9) hx hb dL_does_44 (by decide) ?_
  refine lv_icmp_ne (tgt := 69) hx hb dL_does_46 (by decide) (fun c_46 => ?_) (fun c_46 => absurd c_46 (by decide))
  refine lv_iload_n hx hb dL_does_69 rfl (lv_at hl 1 rfl) ?_
  refine lv_bipush (v := 10) hx hb dL_does_70 (by decide) ?_
  refine lv_icmp_ne (tgt := 85) hx hb dL_does_72 (by decide) (fun c_72 => ?_) (fun c_72 => absurd c_72 (by decide))
  refine lv_iload_n hx hb dL_does_85 rfl (lv_at hl 1 rfl) ?_
  refine lv_bipush (v := 11) hx hb dL_does_86 (by decide) ?_
  refine lv_icmp_ne (tgt := 103) hx hb dL_does_88 (by decide) (fun c_88 => ?_) (fun c_88 => absurd c_88 (by decide))
  refine lv_iload_n hx hb dL_does_103 rfl (lv_at hl 1 rfl) ?_
  refine lv_bipush (v := 12) hx hb dL_does_104 (by decide) ?_
  refine lv_icmp_ne (tgt := 119) hx hb dL_does_106 (by decide) (fun c_106 => ?_) (fun c_106 => absurd c_106 (by decide))
  refine lv_iload_n hx hb dL_does_119 rfl (lv_at hl 1 rfl) ?_
  refine lv_bipush (v := 13) hx hb dL_does_120 (by decide) ?_
  refine lv_icmp_ne (tgt := 135) hx hb dL_does_122 (by decide) (fun c_122 => absurd c_122 (by decide)) (fun c_122 => ?_)
  refine lv_aload_n hx hb dL_does_125 rfl (lv_at hl 0 rfl) ?_
  refine lv_iload_n hx hb dL_does_126 rfl (lv_at hl 2 rfl) ?_
  refine lv_iload_n hx hb dL_does_127 rfl (lv_at hl 3 rfl) ?_
  refine g_callN (ws := []) (wc := w) (va_runV (As := [.int a, .int b]) (rest := []) ⟨hx, hb, hml, hown, hts⟩ (HL s.heap.size) (cwV 2 hts gL_does_X7_decimals rfl hc9 hs9 (by decide +kernel) hr9) (gPX_VA hP hD hK hE hS hA 0 he rfl) rfl rfl hl.1 rfl (lv_room (Nat.le_of_ble_eq_true rfl)) dL_does_128 hm9) hP hD hS hA (fun v w1 H locs hf hP hD hS => ?_)
  obtain ⟨rfl, hG⟩ := hf
  refine lv_i2l (v := x.toInt64) hx hb dL_does_131 rfl ?_
  refine lv_goto (tgt := 236) hx hb dL_does_132 (by decide) ?_
  refine W.widen (k := 1) (n := 6) hm9.1 hm9.2 ?_
  exact W.lret (v := x.toInt64) hx hb hr (fun t ht hW => ⟨⟨some (.long (x.toInt64)), w1, rfl, ⟨rfl, hG⟩, by rw [← hAe]; exact hD, by rw [ht]; exact hP⟩, by rw [← hAe]; exact hS.F ht⟩) (by rw [← hAe]; exact hS.2.2) dL_does_236
set_option maxRecDepth 100000 in
theorem dt_decimals {l : Launch} {D : va_G} {y : Nat → ClassId} {ad : Nat → Nat} {w : va_W} {h : Nat} {fs : List Value} (he : w[0]? = some (h, .inr (5, fs))) {a b c0 : Int32} {G : va_W → Prop} {rm : Room} {mc ms : Nat} {E : String} (hE9 : E = gIOB ∨ E = gIAE ∨ E = gISE) (HL : ∀ sz, vx_Met l yX7_decimals wsX7_decimals rm (gPX D y ad [.ref h, .int a, .int b] w sz) gNo (gXC D w E G) mc ms (va_A w sz)) (hc9 : rm.cells = mc) (hs9 : rm.slots = ms) (hr9 : rm.frames + 1 ≤ 11 ∧ 8 + (3 + 11) + rm.locals ≤ 400) (hm9 : 0 + mc ≤ 1 ∧ 0 + ms ≤ 6) (sz : Nat) : Met l yL_does wsL_does ({ frames := 11, cells := 1, slots := 6, locals := 400 } : Room) (gPN D y ad [.ref h, .int 13, .int a, .int b, .int c0] w sz) (gQn D w (fun v w1 => v = some (.long (-2100000000)) ∧ G w1)) 1 6 (va_A w sz) := by
  rcases hE9 with rfl | rfl | rfl
  · skip
    refine gMet_ofWH (cc := cL_does) (maxL := 6) (ret := (some .long)) (hh := [(0, 236, 237, 60), (0, 236, 243, 64), (0, 236, 249, 66)]) (by decide) rfl ?_
    intro pg e s m args below meth c s₁ B hml hv
    obtain ⟨rfl, ⟨hsz, hP, hK, hD0, hE0⟩, hN⟩ := hv
    have hx := B.exec
    have hb := B.bytes
    have hr := B.returns
    have hts := atoms_spec (ws := wsL_does) B.pre
    have hown : s.vm.findClass RL = some m.cls := findClass_of_methodNamed B.named
    have htab : c.exceptionTable.toList = tableOf [(0, 236, 237, 60), (0, 236, 243, 64), (0, 236, 249, 66)] := vx_table (x := yL_does) B (hts _ List.mem_cons_self)
    have hlocks := B.notSynchronized
    subst hsz
    obtain ⟨A, hAe⟩ : ∃ A : Nat → Prop, A = va_A w s.heap.size := ⟨_, rfl⟩
    have hE : gE ad A s s.heap := by rw [hAe]; exact hE0
    have hD : va_D A w := by rw [hAe]; exact hD0.self (sz := s.heap.size)
    have hA : ∀ q : Nat, s.heap.size ≤ q → A q := fun q h => by rw [hAe]; exact Or.inr h
    have hS : va_S A s.heap s.heap [] := va_S.rf
    have hl := lv_entry ([.ref h, .int 13, .int a, .int b, .int c0]) (n := 6) (Nat.le_of_ble_eq_true rfl)
    rw [lg_entry_eq]
    generalize (lg_sl ([.ref h, .int 13, .int a, .int b, .int c0]) ++ List.replicate (6 - (lg_sl ([.ref h, .int 13, .int a, .int b, .int c0])).length) Slot.unset).toArray = ls at hl ⊢
    have hl : lv_has ls 6 [(0, .ref h), (1, .int 13), (2, .int a), (3, .int b), (4, .int c0)] := hl
    refine lv_iload_n hx hb dL_does_0 rfl (lv_at hl 1 rfl) ?_
    refine lv_bipush (v := 8) hx hb dL_does_1 (by decide) ?_
    refine lv_icmp_ge (tgt := 17) hx hb dL_does_3 (by decide) (fun c_3 => ?_) (fun c_3 => absurd c_3 (by decide))
    refine lv_iload_n hx hb dL_does_17 rfl (lv_at hl 1 rfl) ?_
    refine lv_bipush (v := 8) hx hb dL_does_18 (by decide) ?_
    refine lv_icmp_ne (tgt := 43) hx hb dL_does_20 (by decide) (fun c_20 => ?_) (fun c_20 => absurd c_20 (by decide))
    refine lv_iload_n hx hb dL_does_43 rfl (lv_at hl 1 rfl) ?_
    refine lv_bipush (v := 9) hx hb dL_does_44 (by decide) ?_
    refine lv_icmp_ne (tgt := 69) hx hb dL_does_46 (by decide) (fun c_46 => ?_) (fun c_46 => absurd c_46 (by decide))
    refine lv_iload_n hx hb dL_does_69 rfl (lv_at hl 1 rfl) ?_
    refine lv_bipush (v := 10) hx hb dL_does_70 (by decide) ?_
    refine lv_icmp_ne (tgt := 85) hx hb dL_does_72 (by decide) (fun c_72 => ?_) (fun c_72 => absurd c_72 (by decide))
    refine lv_iload_n hx hb dL_does_85 rfl (lv_at hl 1 rfl) ?_
    refine lv_bipush (v := 11) hx hb dL_does_86 (by decide) ?_
    refine lv_icmp_ne (tgt := 103) hx hb dL_does_88 (by decide) (fun c_88 => ?_) (fun c_88 => absurd c_88 (by decide))
    refine lv_iload_n hx hb dL_does_103 rfl (lv_at hl 1 rfl) ?_
    refine lv_bipush (v := 12) hx hb dL_does_104 (by decide) ?_
    refine lv_icmp_ne (tgt := 119) hx hb dL_does_106 (by decide) (fun c_106 => ?_) (fun c_106 => absurd c_106 (by decide))
    refine lv_iload_n hx hb dL_does_119 rfl (lv_at hl 1 rfl) ?_
    refine lv_bipush (v := 13) hx hb dL_does_120 (by decide) ?_
    refine lv_icmp_ne (tgt := 135) hx hb dL_does_122 (by decide) (fun c_122 => absurd c_122 (by decide)) (fun c_122 => ?_)
    refine lv_aload_n hx hb dL_does_125 rfl (lv_at hl 0 rfl) ?_
    refine lv_iload_n hx hb dL_does_126 rfl (lv_at hl 2 rfl) ?_
    refine lv_iload_n hx hb dL_does_127 rfl (lv_at hl 3 rfl) ?_
    refine g_catch (name := gIOB) (ws := []) (wc := w) (vx_runV (As := [.int a, .int b]) (rest := []) ⟨hx, hb, hml, hown, hts⟩ (HL s.heap.size) (cwV 2 hts gL_does_X7_decimals rfl hc9 hs9 (by decide +kernel) hr9) (gPX_VA hP hD hK hE hS hA 0 he rfl) rfl rfl hl.1 rfl (lv_room (Nat.le_of_ble_eq_true rfl)) dL_does_128 hm9) hP hD hS hA hown [] ⟨0, 236, 237, 60⟩ [⟨0, 236, 243, 64⟩, ⟨0, 236, 249, 66⟩] (by rw [htab]; rfl) (fun z hz => absurd hz List.not_mem_nil) (by decide) (by decide) (hts (.classLink RL 60 "java/lang/IndexOutOfBoundsException") (List.mem_of_getElem? (i := 1) rfl)) (hE.cw (Cond.castable gIOB gIOB) (List.mem_of_getElem? (i := 5) rfl)) (fun q9 w1 H locs hG hP hD hS => ?_)
    refine lv_astore (lv' := [(5, .ref q9), (0, .ref h), (1, .int 13), (2, .int a), (3, .int b), (4, .int c0)]) hx hb dL_does_237 hl (by decide) rfl (fun ls hl => ?_)
    refine lv_ldc2 (v := -2100000000) hx hb hown (hts (.constantLong RL 62 (-2100000000)) (List.mem_of_getElem? (i := 4) rfl)) dL_does_239 ?_
    refine W.widen (k := 1) (n := 6) hm9.1 hm9.2 ?_
    exact W.lret (v := -2100000000) hx hb hr (fun t ht hW => ⟨⟨some (.long (-2100000000)), w1, rfl, ⟨rfl, hG⟩, by rw [← hAe]; exact hD, by rw [ht]; exact hP⟩, by rw [← hAe]; exact hS.F ht⟩) (by rw [← hAe]; exact hS.2.2) dL_does_242
  · skip
    refine gMet_ofWH (cc := cL_does) (maxL := 6) (ret := (some .long)) (hh := [(0, 236, 237, 60), (0, 236, 243, 64), (0, 236, 249, 66)]) (by decide) rfl ?_
    intro pg e s m args below meth c s₁ B hml hv
    obtain ⟨rfl, ⟨hsz, hP, hK, hD0, hE0⟩, hN⟩ := hv
    have hx := B.exec
    have hb := B.bytes
    have hr := B.returns
    have hts := atoms_spec (ws := wsL_does) B.pre
    have hown : s.vm.findClass RL = some m.cls := findClass_of_methodNamed B.named
    have htab : c.exceptionTable.toList = tableOf [(0, 236, 237, 60), (0, 236, 243, 64), (0, 236, 249, 66)] := vx_table (x := yL_does) B (hts _ List.mem_cons_self)
    have hlocks := B.notSynchronized
    subst hsz
    obtain ⟨A, hAe⟩ : ∃ A : Nat → Prop, A = va_A w s.heap.size := ⟨_, rfl⟩
    have hE : gE ad A s s.heap := by rw [hAe]; exact hE0
    have hD : va_D A w := by rw [hAe]; exact hD0.self (sz := s.heap.size)
    have hA : ∀ q : Nat, s.heap.size ≤ q → A q := fun q h => by rw [hAe]; exact Or.inr h
    have hS : va_S A s.heap s.heap [] := va_S.rf
    have hl := lv_entry ([.ref h, .int 13, .int a, .int b, .int c0]) (n := 6) (Nat.le_of_ble_eq_true rfl)
    rw [lg_entry_eq]
    generalize (lg_sl ([.ref h, .int 13, .int a, .int b, .int c0]) ++ List.replicate (6 - (lg_sl ([.ref h, .int 13, .int a, .int b, .int c0])).length) Slot.unset).toArray = ls at hl ⊢
    have hl : lv_has ls 6 [(0, .ref h), (1, .int 13), (2, .int a), (3, .int b), (4, .int c0)] := hl
    refine lv_iload_n hx hb dL_does_0 rfl (lv_at hl 1 rfl) ?_
    refine lv_bipush (v := 8) hx hb dL_does_1 (by decide) ?_
    refine lv_icmp_ge (tgt := 17) hx hb dL_does_3 (by decide) (fun c_3 => ?_) (fun c_3 => absurd c_3 (by decide))
    refine lv_iload_n hx hb dL_does_17 rfl (lv_at hl 1 rfl) ?_
    refine lv_bipush (v := 8) hx hb dL_does_18 (by decide) ?_
    refine lv_icmp_ne (tgt := 43) hx hb dL_does_20 (by decide) (fun c_20 => ?_) (fun c_20 => absurd c_20 (by decide))
    refine lv_iload_n hx hb dL_does_43 rfl (lv_at hl 1 rfl) ?_
    refine lv_bipush (v := 9) hx hb dL_does_44 (by decide) ?_
    refine lv_icmp_ne (tgt := 69) hx hb dL_does_46 (by decide) (fun c_46 => ?_) (fun c_46 => absurd c_46 (by decide))
    refine lv_iload_n hx hb dL_does_69 rfl (lv_at hl 1 rfl) ?_
    refine lv_bipush (v := 10) hx hb dL_does_70 (by decide) ?_
    refine lv_icmp_ne (tgt := 85) hx hb dL_does_72 (by decide) (fun c_72 => ?_) (fun c_72 => absurd c_72 (by decide))
    refine lv_iload_n hx hb dL_does_85 rfl (lv_at hl 1 rfl) ?_
    refine lv_bipush (v := 11) hx hb dL_does_86 (by decide) ?_
    refine lv_icmp_ne (tgt := 103) hx hb dL_does_88 (by decide) (fun c_88 => ?_) (fun c_88 => absurd c_88 (by decide))
    refine lv_iload_n hx hb dL_does_103 rfl (lv_at hl 1 rfl) ?_
    refine lv_bipush (v := 12) hx hb dL_does_104 (by decide) ?_
    refine lv_icmp_ne (tgt := 119) hx hb dL_does_106 (by decide) (fun c_106 => ?_) (fun c_106 => absurd c_106 (by decide))
    refine lv_iload_n hx hb dL_does_119 rfl (lv_at hl 1 rfl) ?_
    refine lv_bipush (v := 13) hx hb dL_does_120 (by decide) ?_
    refine lv_icmp_ne (tgt := 135) hx hb dL_does_122 (by decide) (fun c_122 => absurd c_122 (by decide)) (fun c_122 => ?_)
    refine lv_aload_n hx hb dL_does_125 rfl (lv_at hl 0 rfl) ?_
    refine lv_iload_n hx hb dL_does_126 rfl (lv_at hl 2 rfl) ?_
    refine lv_iload_n hx hb dL_does_127 rfl (lv_at hl 3 rfl) ?_
    refine g_catch (name := gIAE) (ws := []) (wc := w) (vx_runV (As := [.int a, .int b]) (rest := []) ⟨hx, hb, hml, hown, hts⟩ (HL s.heap.size) (cwV 2 hts gL_does_X7_decimals rfl hc9 hs9 (by decide +kernel) hr9) (gPX_VA hP hD hK hE hS hA 0 he rfl) rfl rfl hl.1 rfl (lv_room (Nat.le_of_ble_eq_true rfl)) dL_does_128 hm9) hP hD hS hA hown [⟨0, 236, 237, 60⟩] ⟨0, 236, 243, 64⟩ [⟨0, 236, 249, 66⟩] (by rw [htab]; rfl) (fun z hz => by rcases List.mem_singleton.mp hz with rfl; exact Or.inr ⟨by decide, _, (hts (.classLink RL 60 "java/lang/IndexOutOfBoundsException") (List.mem_of_getElem? (i := 1) rfl)), hN.1⟩) (by decide) (by decide) (hts (.classLink RL 64 "java/lang/IllegalArgumentException") (List.mem_of_getElem? (i := 2) rfl)) (hE.cw (Cond.castable gIAE gIAE) (List.mem_of_getElem? (i := 3) rfl)) (fun q9 w1 H locs hG hP hD hS => ?_)
    refine lv_astore (lv' := [(5, .ref q9), (0, .ref h), (1, .int 13), (2, .int a), (3, .int b), (4, .int c0)]) hx hb dL_does_243 hl (by decide) rfl (fun ls hl => ?_)
    refine lv_ldc2 (v := -2100000000) hx hb hown (hts (.constantLong RL 62 (-2100000000)) (List.mem_of_getElem? (i := 4) rfl)) dL_does_245 ?_
    refine W.widen (k := 1) (n := 6) hm9.1 hm9.2 ?_
    exact W.lret (v := -2100000000) hx hb hr (fun t ht hW => ⟨⟨some (.long (-2100000000)), w1, rfl, ⟨rfl, hG⟩, by rw [← hAe]; exact hD, by rw [ht]; exact hP⟩, by rw [← hAe]; exact hS.F ht⟩) (by rw [← hAe]; exact hS.2.2) dL_does_248
  · skip
    refine gMet_ofWH (cc := cL_does) (maxL := 6) (ret := (some .long)) (hh := [(0, 236, 237, 60), (0, 236, 243, 64), (0, 236, 249, 66)]) (by decide) rfl ?_
    intro pg e s m args below meth c s₁ B hml hv
    obtain ⟨rfl, ⟨hsz, hP, hK, hD0, hE0⟩, hN⟩ := hv
    have hx := B.exec
    have hb := B.bytes
    have hr := B.returns
    have hts := atoms_spec (ws := wsL_does) B.pre
    have hown : s.vm.findClass RL = some m.cls := findClass_of_methodNamed B.named
    have htab : c.exceptionTable.toList = tableOf [(0, 236, 237, 60), (0, 236, 243, 64), (0, 236, 249, 66)] := vx_table (x := yL_does) B (hts _ List.mem_cons_self)
    have hlocks := B.notSynchronized
    subst hsz
    obtain ⟨A, hAe⟩ : ∃ A : Nat → Prop, A = va_A w s.heap.size := ⟨_, rfl⟩
    have hE : gE ad A s s.heap := by rw [hAe]; exact hE0
    have hD : va_D A w := by rw [hAe]; exact hD0.self (sz := s.heap.size)
    have hA : ∀ q : Nat, s.heap.size ≤ q → A q := fun q h => by rw [hAe]; exact Or.inr h
    have hS : va_S A s.heap s.heap [] := va_S.rf
    have hl := lv_entry ([.ref h, .int 13, .int a, .int b, .int c0]) (n := 6) (Nat.le_of_ble_eq_true rfl)
    rw [lg_entry_eq]
    generalize (lg_sl ([.ref h, .int 13, .int a, .int b, .int c0]) ++ List.replicate (6 - (lg_sl ([.ref h, .int 13, .int a, .int b, .int c0])).length) Slot.unset).toArray = ls at hl ⊢
    have hl : lv_has ls 6 [(0, .ref h), (1, .int 13), (2, .int a), (3, .int b), (4, .int c0)] := hl
    refine lv_iload_n hx hb dL_does_0 rfl (lv_at hl 1 rfl) ?_
    refine lv_bipush (v := 8) hx hb dL_does_1 (by decide) ?_
    refine lv_icmp_ge (tgt := 17) hx hb dL_does_3 (by decide) (fun c_3 => ?_) (fun c_3 => absurd c_3 (by decide))
    refine lv_iload_n hx hb dL_does_17 rfl (lv_at hl 1 rfl) ?_
    refine lv_bipush (v := 8) hx hb dL_does_18 (by decide) ?_
    refine lv_icmp_ne (tgt := 43) hx hb dL_does_20 (by decide) (fun c_20 => ?_) (fun c_20 => absurd c_20 (by decide))
    refine lv_iload_n hx hb dL_does_43 rfl (lv_at hl 1 rfl) ?_
    refine lv_bipush (v := 9) hx hb dL_does_44 (by decide) ?_
    refine lv_icmp_ne (tgt := 69) hx hb dL_does_46 (by decide) (fun c_46 => ?_) (fun c_46 => absurd c_46 (by decide))
    refine lv_iload_n hx hb dL_does_69 rfl (lv_at hl 1 rfl) ?_
    refine lv_bipush (v := 10) hx hb dL_does_70 (by decide) ?_
    refine lv_icmp_ne (tgt := 85) hx hb dL_does_72 (by decide) (fun c_72 => ?_) (fun c_72 => absurd c_72 (by decide))
    refine lv_iload_n hx hb dL_does_85 rfl (lv_at hl 1 rfl) ?_
    refine lv_bipush (v := 11) hx hb dL_does_86 (by decide) ?_
    refine lv_icmp_ne (tgt := 103) hx hb dL_does_88 (by decide) (fun c_88 => ?_) (fun c_88 => absurd c_88 (by decide))
    refine lv_iload_n hx hb dL_does_103 rfl (lv_at hl 1 rfl) ?_
    refine lv_bipush (v := 12) hx hb dL_does_104 (by decide) ?_
    refine lv_icmp_ne (tgt := 119) hx hb dL_does_106 (by decide) (fun c_106 => ?_) (fun c_106 => absurd c_106 (by decide))
    refine lv_iload_n hx hb dL_does_119 rfl (lv_at hl 1 rfl) ?_
    refine lv_bipush (v := 13) hx hb dL_does_120 (by decide) ?_
    refine lv_icmp_ne (tgt := 135) hx hb dL_does_122 (by decide) (fun c_122 => absurd c_122 (by decide)) (fun c_122 => ?_)
    refine lv_aload_n hx hb dL_does_125 rfl (lv_at hl 0 rfl) ?_
    refine lv_iload_n hx hb dL_does_126 rfl (lv_at hl 2 rfl) ?_
    refine lv_iload_n hx hb dL_does_127 rfl (lv_at hl 3 rfl) ?_
    refine g_catch (name := gISE) (ws := []) (wc := w) (vx_runV (As := [.int a, .int b]) (rest := []) ⟨hx, hb, hml, hown, hts⟩ (HL s.heap.size) (cwV 2 hts gL_does_X7_decimals rfl hc9 hs9 (by decide +kernel) hr9) (gPX_VA hP hD hK hE hS hA 0 he rfl) rfl rfl hl.1 rfl (lv_room (Nat.le_of_ble_eq_true rfl)) dL_does_128 hm9) hP hD hS hA hown [⟨0, 236, 237, 60⟩, ⟨0, 236, 243, 64⟩] ⟨0, 236, 249, 66⟩ [] (by rw [htab]; rfl) (fun z hz => by
      rcases List.mem_cons.mp hz with rfl | hz
      · exact Or.inr ⟨by decide, _, (hts (.classLink RL 60 "java/lang/IndexOutOfBoundsException") (List.mem_of_getElem? (i := 1) rfl)), hN.2.1⟩
      · rcases List.mem_singleton.mp hz with rfl; exact Or.inr ⟨by decide, _, (hts (.classLink RL 64 "java/lang/IllegalArgumentException") (List.mem_of_getElem? (i := 2) rfl)), hN.2.2⟩) (by decide) (by decide) (hts (.classLink RL 66 "java/lang/IllegalStateException") (List.mem_of_getElem? (i := 3) rfl)) (hE.cw (Cond.castable gISE gISE) (List.mem_of_getElem? (i := 4) rfl)) (fun q9 w1 H locs hG hP hD hS => ?_)
    refine lv_astore (lv' := [(5, .ref q9), (0, .ref h), (1, .int 13), (2, .int a), (3, .int b), (4, .int c0)]) hx hb dL_does_249 hl (by decide) rfl (fun ls hl => ?_)
    refine lv_ldc2 (v := -2100000000) hx hb hown (hts (.constantLong RL 62 (-2100000000)) (List.mem_of_getElem? (i := 4) rfl)) dL_does_251 ?_
    refine W.widen (k := 1) (n := 6) hm9.1 hm9.2 ?_
    exact W.lret (v := -2100000000) hx hb hr (fun t ht hW => ⟨⟨some (.long (-2100000000)), w1, rfl, ⟨rfl, hG⟩, by rw [← hAe]; exact hD, by rw [ht]; exact hP⟩, by rw [← hAe]; exact hS.F ht⟩) (by rw [← hAe]; exact hS.2.2) dL_does_254
set_option maxRecDepth 100000 in
theorem dn_decimal {l : Launch} {D : va_G} {y : Nat → ClassId} {ad : Nat → Nat} {w : va_W} {h : Nat} {fs : List Value} (he : w[0]? = some (h, .inr (5, fs))) {a b c0 : Int32} {G : va_W → Prop} {rm : Room} {mc ms : Nat} {x : Int32} (HL : ∀ sz, Met l yX7_decimal wsX7_decimal rm (gPX D y ad [.ref h, .int a, .int b, .int c0] w sz) (gQn D w (fun v w1 => v = some (.int x) ∧ G w1)) mc ms (va_A w sz)) (hc9 : rm.cells = mc) (hs9 : rm.slots = ms) (hr9 : rm.frames + 1 ≤ 11 ∧ 8 + (6 + 11) + rm.locals ≤ 400) (hm9 : 0 + mc ≤ 1 ∧ 0 + ms ≤ 6) (sz : Nat) : Met l yL_does wsL_does ({ frames := 11, cells := 1, slots := 6, locals := 400 } : Room) (gPN D y ad [.ref h, .int 14, .int a, .int b, .int c0] w sz) (gQn D w (fun v w1 => v = some (.long (x.toInt64)) ∧ G w1)) 1 6 (va_A w sz) := by
  refine gMet_ofWH (cc := cL_does) (maxL := 6) (ret := (some .long)) (hh := [(0, 236, 237, 60), (0, 236, 243, 64), (0, 236, 249, 66)]) (by decide) rfl ?_
  intro pg e s m args below meth c s₁ B hml hv
  obtain ⟨rfl, ⟨hsz, hP, hK, hD0, hE0⟩, hN⟩ := hv
  have hx := B.exec
  have hb := B.bytes
  have hr := B.returns
  have hts := atoms_spec (ws := wsL_does) B.pre
  have hown : s.vm.findClass RL = some m.cls := findClass_of_methodNamed B.named
  have htab : c.exceptionTable.toList = tableOf [(0, 236, 237, 60), (0, 236, 243, 64), (0, 236, 249, 66)] := vx_table (x := yL_does) B (hts _ List.mem_cons_self)
  have hlocks := B.notSynchronized
  subst hsz
  obtain ⟨A, hAe⟩ : ∃ A : Nat → Prop, A = va_A w s.heap.size := ⟨_, rfl⟩
  have hE : gE ad A s s.heap := by rw [hAe]; exact hE0
  have hD : va_D A w := by rw [hAe]; exact hD0.self (sz := s.heap.size)
  have hA : ∀ q : Nat, s.heap.size ≤ q → A q := fun q h => by rw [hAe]; exact Or.inr h
  have hS : va_S A s.heap s.heap [] := va_S.rf
  have hl := lv_entry ([.ref h, .int 14, .int a, .int b, .int c0]) (n := 6) (Nat.le_of_ble_eq_true rfl)
  rw [lg_entry_eq]
  generalize (lg_sl ([.ref h, .int 14, .int a, .int b, .int c0]) ++ List.replicate (6 - (lg_sl ([.ref h, .int 14, .int a, .int b, .int c0])).length) Slot.unset).toArray = ls at hl ⊢
  have hl : lv_has ls 6 [(0, .ref h), (1, .int 14), (2, .int a), (3, .int b), (4, .int c0)] := hl
  refine lv_iload_n hx hb dL_does_0 rfl (lv_at hl 1 rfl) ?_
  refine lv_bipush (v := 8) hx hb dL_does_1 (by decide) ?_
  refine lv_icmp_ge (tgt := 17) hx hb dL_does_3 (by decide) (fun c_3 => ?_) (fun c_3 => absurd c_3 (by decide))
  refine lv_iload_n hx hb dL_does_17 rfl (lv_at hl 1 rfl) ?_
  refine lv_bipush (v := 8) hx hb dL_does_18 (by decide) ?_
  refine lv_icmp_ne (tgt := 43) hx hb dL_does_20 (by decide) (fun c_20 => ?_) (fun c_20 => absurd c_20 (by decide))
  refine lv_iload_n hx hb dL_does_43 rfl (lv_at hl 1 rfl) ?_
  refine lv_bipush (v := 9) hx hb dL_does_44 (by decide) ?_
  refine lv_icmp_ne (tgt := 69) hx hb dL_does_46 (by decide) (fun c_46 => ?_) (fun c_46 => absurd c_46 (by decide))
  refine lv_iload_n hx hb dL_does_69 rfl (lv_at hl 1 rfl) ?_
  refine lv_bipush (v := 10) hx hb dL_does_70 (by decide) ?_
  refine lv_icmp_ne (tgt := 85) hx hb dL_does_72 (by decide) (fun c_72 => ?_) (fun c_72 => absurd c_72 (by decide))
  refine lv_iload_n hx hb dL_does_85 rfl (lv_at hl 1 rfl) ?_
  refine lv_bipush (v := 11) hx hb dL_does_86 (by decide) ?_
  refine lv_icmp_ne (tgt := 103) hx hb dL_does_88 (by decide) (fun c_88 => ?_) (fun c_88 => absurd c_88 (by decide))
  refine lv_iload_n hx hb dL_does_103 rfl (lv_at hl 1 rfl) ?_
  refine lv_bipush (v := 12) hx hb dL_does_104 (by decide) ?_
  refine lv_icmp_ne (tgt := 119) hx hb dL_does_106 (by decide) (fun c_106 => ?_) (fun c_106 => absurd c_106 (by decide))
  refine lv_iload_n hx hb dL_does_119 rfl (lv_at hl 1 rfl) ?_
  refine lv_bipush (v := 13) hx hb dL_does_120 (by decide) ?_
  refine lv_icmp_ne (tgt := 135) hx hb dL_does_122 (by decide) (fun c_122 => ?_) (fun c_122 => absurd c_122 (by decide))
  refine lv_iload_n hx hb dL_does_135 rfl (lv_at hl 1 rfl) ?_
  refine lv_bipush (v := 14) hx hb dL_does_136 (by decide) ?_
  refine lv_icmp_ne (tgt := 153) hx hb dL_does_138 (by decide) (fun c_138 => absurd c_138 (by decide)) (fun c_138 => ?_)
  refine lv_aload_n hx hb dL_does_141 rfl (lv_at hl 0 rfl) ?_
  refine lv_iload_n hx hb dL_does_142 rfl (lv_at hl 2 rfl) ?_
  refine lv_iload_n hx hb dL_does_143 rfl (lv_at hl 3 rfl) ?_
  refine lv_iload hx hb dL_does_144 (lv_at hl 4 rfl) ?_
  refine g_callN (ws := []) (wc := w) (va_runV (As := [.int a, .int b, .int c0]) (rest := []) ⟨hx, hb, hml, hown, hts⟩ (HL s.heap.size) (cwV 3 hts gL_does_X7_decimal rfl hc9 hs9 (by decide +kernel) hr9) (gPX_VA hP hD hK hE hS hA 0 he rfl) rfl rfl hl.1 rfl (lv_room (Nat.le_of_ble_eq_true rfl)) dL_does_146 hm9) hP hD hS hA (fun v w1 H locs hf hP hD hS => ?_)
  obtain ⟨rfl, hG⟩ := hf
  refine lv_i2l (v := x.toInt64) hx hb dL_does_149 rfl ?_
  refine lv_goto (tgt := 236) hx hb dL_does_150 (by decide) ?_
  refine W.widen (k := 1) (n := 6) hm9.1 hm9.2 ?_
  exact W.lret (v := x.toInt64) hx hb hr (fun t ht hW => ⟨⟨some (.long (x.toInt64)), w1, rfl, ⟨rfl, hG⟩, by rw [← hAe]; exact hD, by rw [ht]; exact hP⟩, by rw [← hAe]; exact hS.F ht⟩) (by rw [← hAe]; exact hS.2.2) dL_does_236
set_option maxRecDepth 100000 in
theorem dt_decimal {l : Launch} {D : va_G} {y : Nat → ClassId} {ad : Nat → Nat} {w : va_W} {h : Nat} {fs : List Value} (he : w[0]? = some (h, .inr (5, fs))) {a b c0 : Int32} {G : va_W → Prop} {rm : Room} {mc ms : Nat} {E : String} (hE9 : E = gIOB ∨ E = gIAE ∨ E = gISE) (HL : ∀ sz, vx_Met l yX7_decimal wsX7_decimal rm (gPX D y ad [.ref h, .int a, .int b, .int c0] w sz) gNo (gXC D w E G) mc ms (va_A w sz)) (hc9 : rm.cells = mc) (hs9 : rm.slots = ms) (hr9 : rm.frames + 1 ≤ 11 ∧ 8 + (6 + 11) + rm.locals ≤ 400) (hm9 : 0 + mc ≤ 1 ∧ 0 + ms ≤ 6) (sz : Nat) : Met l yL_does wsL_does ({ frames := 11, cells := 1, slots := 6, locals := 400 } : Room) (gPN D y ad [.ref h, .int 14, .int a, .int b, .int c0] w sz) (gQn D w (fun v w1 => v = some (.long (-2100000000)) ∧ G w1)) 1 6 (va_A w sz) := by
  rcases hE9 with rfl | rfl | rfl
  · skip
    refine gMet_ofWH (cc := cL_does) (maxL := 6) (ret := (some .long)) (hh := [(0, 236, 237, 60), (0, 236, 243, 64), (0, 236, 249, 66)]) (by decide) rfl ?_
    intro pg e s m args below meth c s₁ B hml hv
    obtain ⟨rfl, ⟨hsz, hP, hK, hD0, hE0⟩, hN⟩ := hv
    have hx := B.exec
    have hb := B.bytes
    have hr := B.returns
    have hts := atoms_spec (ws := wsL_does) B.pre
    have hown : s.vm.findClass RL = some m.cls := findClass_of_methodNamed B.named
    have htab : c.exceptionTable.toList = tableOf [(0, 236, 237, 60), (0, 236, 243, 64), (0, 236, 249, 66)] := vx_table (x := yL_does) B (hts _ List.mem_cons_self)
    have hlocks := B.notSynchronized
    subst hsz
    obtain ⟨A, hAe⟩ : ∃ A : Nat → Prop, A = va_A w s.heap.size := ⟨_, rfl⟩
    have hE : gE ad A s s.heap := by rw [hAe]; exact hE0
    have hD : va_D A w := by rw [hAe]; exact hD0.self (sz := s.heap.size)
    have hA : ∀ q : Nat, s.heap.size ≤ q → A q := fun q h => by rw [hAe]; exact Or.inr h
    have hS : va_S A s.heap s.heap [] := va_S.rf
    have hl := lv_entry ([.ref h, .int 14, .int a, .int b, .int c0]) (n := 6) (Nat.le_of_ble_eq_true rfl)
    rw [lg_entry_eq]
    generalize (lg_sl ([.ref h, .int 14, .int a, .int b, .int c0]) ++ List.replicate (6 - (lg_sl ([.ref h, .int 14, .int a, .int b, .int c0])).length) Slot.unset).toArray = ls at hl ⊢
    have hl : lv_has ls 6 [(0, .ref h), (1, .int 14), (2, .int a), (3, .int b), (4, .int c0)] := hl
    refine lv_iload_n hx hb dL_does_0 rfl (lv_at hl 1 rfl) ?_
    refine lv_bipush (v := 8) hx hb dL_does_1 (by decide) ?_
    refine lv_icmp_ge (tgt := 17) hx hb dL_does_3 (by decide) (fun c_3 => ?_) (fun c_3 => absurd c_3 (by decide))
    refine lv_iload_n hx hb dL_does_17 rfl (lv_at hl 1 rfl) ?_
    refine lv_bipush (v := 8) hx hb dL_does_18 (by decide) ?_
    refine lv_icmp_ne (tgt := 43) hx hb dL_does_20 (by decide) (fun c_20 => ?_) (fun c_20 => absurd c_20 (by decide))
    refine lv_iload_n hx hb dL_does_43 rfl (lv_at hl 1 rfl) ?_
    refine lv_bipush (v := 9) hx hb dL_does_44 (by decide) ?_
    refine lv_icmp_ne (tgt := 69) hx hb dL_does_46 (by decide) (fun c_46 => ?_) (fun c_46 => absurd c_46 (by decide))
    refine lv_iload_n hx hb dL_does_69 rfl (lv_at hl 1 rfl) ?_
    refine lv_bipush (v := 10) hx hb dL_does_70 (by decide) ?_
    refine lv_icmp_ne (tgt := 85) hx hb dL_does_72 (by decide) (fun c_72 => ?_) (fun c_72 => absurd c_72 (by decide))
    refine lv_iload_n hx hb dL_does_85 rfl (lv_at hl 1 rfl) ?_
    refine lv_bipush (v := 11) hx hb dL_does_86 (by decide) ?_
    refine lv_icmp_ne (tgt := 103) hx hb dL_does_88 (by decide) (fun c_88 => ?_) (fun c_88 => absurd c_88 (by decide))
    refine lv_iload_n hx hb dL_does_103 rfl (lv_at hl 1 rfl) ?_
    refine lv_bipush (v := 12) hx hb dL_does_104 (by decide) ?_
    refine lv_icmp_ne (tgt := 119) hx hb dL_does_106 (by decide) (fun c_106 => ?_) (fun c_106 => absurd c_106 (by decide))
    refine lv_iload_n hx hb dL_does_119 rfl (lv_at hl 1 rfl) ?_
    refine lv_bipush (v := 13) hx hb dL_does_120 (by decide) ?_
    refine lv_icmp_ne (tgt := 135) hx hb dL_does_122 (by decide) (fun c_122 => ?_) (fun c_122 => absurd c_122 (by decide))
    refine lv_iload_n hx hb dL_does_135 rfl (lv_at hl 1 rfl) ?_
    refine lv_bipush (v := 14) hx hb dL_does_136 (by decide) ?_
    refine lv_icmp_ne (tgt := 153) hx hb dL_does_138 (by decide) (fun c_138 => absurd c_138 (by decide)) (fun c_138 => ?_)
    refine lv_aload_n hx hb dL_does_141 rfl (lv_at hl 0 rfl) ?_
    refine lv_iload_n hx hb dL_does_142 rfl (lv_at hl 2 rfl) ?_
    refine lv_iload_n hx hb dL_does_143 rfl (lv_at hl 3 rfl) ?_
    refine lv_iload hx hb dL_does_144 (lv_at hl 4 rfl) ?_
    refine g_catch (name := gIOB) (ws := []) (wc := w) (vx_runV (As := [.int a, .int b, .int c0]) (rest := []) ⟨hx, hb, hml, hown, hts⟩ (HL s.heap.size) (cwV 3 hts gL_does_X7_decimal rfl hc9 hs9 (by decide +kernel) hr9) (gPX_VA hP hD hK hE hS hA 0 he rfl) rfl rfl hl.1 rfl (lv_room (Nat.le_of_ble_eq_true rfl)) dL_does_146 hm9) hP hD hS hA hown [] ⟨0, 236, 237, 60⟩ [⟨0, 236, 243, 64⟩, ⟨0, 236, 249, 66⟩] (by rw [htab]; rfl) (fun z hz => absurd hz List.not_mem_nil) (by decide) (by decide) (hts (.classLink RL 60 "java/lang/IndexOutOfBoundsException") (List.mem_of_getElem? (i := 1) rfl)) (hE.cw (Cond.castable gIOB gIOB) (List.mem_of_getElem? (i := 5) rfl)) (fun q9 w1 H locs hG hP hD hS => ?_)
    refine lv_astore (lv' := [(5, .ref q9), (0, .ref h), (1, .int 14), (2, .int a), (3, .int b), (4, .int c0)]) hx hb dL_does_237 hl (by decide) rfl (fun ls hl => ?_)
    refine lv_ldc2 (v := -2100000000) hx hb hown (hts (.constantLong RL 62 (-2100000000)) (List.mem_of_getElem? (i := 4) rfl)) dL_does_239 ?_
    refine W.widen (k := 1) (n := 6) hm9.1 hm9.2 ?_
    exact W.lret (v := -2100000000) hx hb hr (fun t ht hW => ⟨⟨some (.long (-2100000000)), w1, rfl, ⟨rfl, hG⟩, by rw [← hAe]; exact hD, by rw [ht]; exact hP⟩, by rw [← hAe]; exact hS.F ht⟩) (by rw [← hAe]; exact hS.2.2) dL_does_242
  · skip
    refine gMet_ofWH (cc := cL_does) (maxL := 6) (ret := (some .long)) (hh := [(0, 236, 237, 60), (0, 236, 243, 64), (0, 236, 249, 66)]) (by decide) rfl ?_
    intro pg e s m args below meth c s₁ B hml hv
    obtain ⟨rfl, ⟨hsz, hP, hK, hD0, hE0⟩, hN⟩ := hv
    have hx := B.exec
    have hb := B.bytes
    have hr := B.returns
    have hts := atoms_spec (ws := wsL_does) B.pre
    have hown : s.vm.findClass RL = some m.cls := findClass_of_methodNamed B.named
    have htab : c.exceptionTable.toList = tableOf [(0, 236, 237, 60), (0, 236, 243, 64), (0, 236, 249, 66)] := vx_table (x := yL_does) B (hts _ List.mem_cons_self)
    have hlocks := B.notSynchronized
    subst hsz
    obtain ⟨A, hAe⟩ : ∃ A : Nat → Prop, A = va_A w s.heap.size := ⟨_, rfl⟩
    have hE : gE ad A s s.heap := by rw [hAe]; exact hE0
    have hD : va_D A w := by rw [hAe]; exact hD0.self (sz := s.heap.size)
    have hA : ∀ q : Nat, s.heap.size ≤ q → A q := fun q h => by rw [hAe]; exact Or.inr h
    have hS : va_S A s.heap s.heap [] := va_S.rf
    have hl := lv_entry ([.ref h, .int 14, .int a, .int b, .int c0]) (n := 6) (Nat.le_of_ble_eq_true rfl)
    rw [lg_entry_eq]
    generalize (lg_sl ([.ref h, .int 14, .int a, .int b, .int c0]) ++ List.replicate (6 - (lg_sl ([.ref h, .int 14, .int a, .int b, .int c0])).length) Slot.unset).toArray = ls at hl ⊢
    have hl : lv_has ls 6 [(0, .ref h), (1, .int 14), (2, .int a), (3, .int b), (4, .int c0)] := hl
    refine lv_iload_n hx hb dL_does_0 rfl (lv_at hl 1 rfl) ?_
    refine lv_bipush (v := 8) hx hb dL_does_1 (by decide) ?_
    refine lv_icmp_ge (tgt := 17) hx hb dL_does_3 (by decide) (fun c_3 => ?_) (fun c_3 => absurd c_3 (by decide))
    refine lv_iload_n hx hb dL_does_17 rfl (lv_at hl 1 rfl) ?_
    refine lv_bipush (v := 8) hx hb dL_does_18 (by decide) ?_
    refine lv_icmp_ne (tgt := 43) hx hb dL_does_20 (by decide) (fun c_20 => ?_) (fun c_20 => absurd c_20 (by decide))
    refine lv_iload_n hx hb dL_does_43 rfl (lv_at hl 1 rfl) ?_
    refine lv_bipush (v := 9) hx hb dL_does_44 (by decide) ?_
    refine lv_icmp_ne (tgt := 69) hx hb dL_does_46 (by decide) (fun c_46 => ?_) (fun c_46 => absurd c_46 (by decide))
    refine lv_iload_n hx hb dL_does_69 rfl (lv_at hl 1 rfl) ?_
    refine lv_bipush (v := 10) hx hb dL_does_70 (by decide) ?_
    refine lv_icmp_ne (tgt := 85) hx hb dL_does_72 (by decide) (fun c_72 => ?_) (fun c_72 => absurd c_72 (by decide))
    refine lv_iload_n hx hb dL_does_85 rfl (lv_at hl 1 rfl) ?_
    refine lv_bipush (v := 11) hx hb dL_does_86 (by decide) ?_
    refine lv_icmp_ne (tgt := 103) hx hb dL_does_88 (by decide) (fun c_88 => ?_) (fun c_88 => absurd c_88 (by decide))
    refine lv_iload_n hx hb dL_does_103 rfl (lv_at hl 1 rfl) ?_
    refine lv_bipush (v := 12) hx hb dL_does_104 (by decide) ?_
    refine lv_icmp_ne (tgt := 119) hx hb dL_does_106 (by decide) (fun c_106 => ?_) (fun c_106 => absurd c_106 (by decide))
    refine lv_iload_n hx hb dL_does_119 rfl (lv_at hl 1 rfl) ?_
    refine lv_bipush (v := 13) hx hb dL_does_120 (by decide) ?_
    refine lv_icmp_ne (tgt := 135) hx hb dL_does_122 (by decide) (fun c_122 => ?_) (fun c_122 => absurd c_122 (by decide))
    refine lv_iload_n hx hb dL_does_135 rfl (lv_at hl 1 rfl) ?_
    refine lv_bipush (v := 14) hx hb dL_does_136 (by decide) ?_
    refine lv_icmp_ne (tgt := 153) hx hb dL_does_138 (by decide) (fun c_138 => absurd c_138 (by decide)) (fun c_138 => ?_)
    refine lv_aload_n hx hb dL_does_141 rfl (lv_at hl 0 rfl) ?_
    refine lv_iload_n hx hb dL_does_142 rfl (lv_at hl 2 rfl) ?_
    refine lv_iload_n hx hb dL_does_143 rfl (lv_at hl 3 rfl) ?_
    refine lv_iload hx hb dL_does_144 (lv_at hl 4 rfl) ?_
    refine g_catch (name := gIAE) (ws := []) (wc := w) (vx_runV (As := [.int a, .int b, .int c0]) (rest := []) ⟨hx, hb, hml, hown, hts⟩ (HL s.heap.size) (cwV 3 hts gL_does_X7_decimal rfl hc9 hs9 (by decide +kernel) hr9) (gPX_VA hP hD hK hE hS hA 0 he rfl) rfl rfl hl.1 rfl (lv_room (Nat.le_of_ble_eq_true rfl)) dL_does_146 hm9) hP hD hS hA hown [⟨0, 236, 237, 60⟩] ⟨0, 236, 243, 64⟩ [⟨0, 236, 249, 66⟩] (by rw [htab]; rfl) (fun z hz => by rcases List.mem_singleton.mp hz with rfl; exact Or.inr ⟨by decide, _, (hts (.classLink RL 60 "java/lang/IndexOutOfBoundsException") (List.mem_of_getElem? (i := 1) rfl)), hN.1⟩) (by decide) (by decide) (hts (.classLink RL 64 "java/lang/IllegalArgumentException") (List.mem_of_getElem? (i := 2) rfl)) (hE.cw (Cond.castable gIAE gIAE) (List.mem_of_getElem? (i := 3) rfl)) (fun q9 w1 H locs hG hP hD hS => ?_)
    refine lv_astore (lv' := [(5, .ref q9), (0, .ref h), (1, .int 14), (2, .int a), (3, .int b), (4, .int c0)]) hx hb dL_does_243 hl (by decide) rfl (fun ls hl => ?_)
    refine lv_ldc2 (v := -2100000000) hx hb hown (hts (.constantLong RL 62 (-2100000000)) (List.mem_of_getElem? (i := 4) rfl)) dL_does_245 ?_
    refine W.widen (k := 1) (n := 6) hm9.1 hm9.2 ?_
    exact W.lret (v := -2100000000) hx hb hr (fun t ht hW => ⟨⟨some (.long (-2100000000)), w1, rfl, ⟨rfl, hG⟩, by rw [← hAe]; exact hD, by rw [ht]; exact hP⟩, by rw [← hAe]; exact hS.F ht⟩) (by rw [← hAe]; exact hS.2.2) dL_does_248
  · skip
    refine gMet_ofWH (cc := cL_does) (maxL := 6) (ret := (some .long)) (hh := [(0, 236, 237, 60), (0, 236, 243, 64), (0, 236, 249, 66)]) (by decide) rfl ?_
    intro pg e s m args below meth c s₁ B hml hv
    obtain ⟨rfl, ⟨hsz, hP, hK, hD0, hE0⟩, hN⟩ := hv
    have hx := B.exec
    have hb := B.bytes
    have hr := B.returns
    have hts := atoms_spec (ws := wsL_does) B.pre
    have hown : s.vm.findClass RL = some m.cls := findClass_of_methodNamed B.named
    have htab : c.exceptionTable.toList = tableOf [(0, 236, 237, 60), (0, 236, 243, 64), (0, 236, 249, 66)] := vx_table (x := yL_does) B (hts _ List.mem_cons_self)
    have hlocks := B.notSynchronized
    subst hsz
    obtain ⟨A, hAe⟩ : ∃ A : Nat → Prop, A = va_A w s.heap.size := ⟨_, rfl⟩
    have hE : gE ad A s s.heap := by rw [hAe]; exact hE0
    have hD : va_D A w := by rw [hAe]; exact hD0.self (sz := s.heap.size)
    have hA : ∀ q : Nat, s.heap.size ≤ q → A q := fun q h => by rw [hAe]; exact Or.inr h
    have hS : va_S A s.heap s.heap [] := va_S.rf
    have hl := lv_entry ([.ref h, .int 14, .int a, .int b, .int c0]) (n := 6) (Nat.le_of_ble_eq_true rfl)
    rw [lg_entry_eq]
    generalize (lg_sl ([.ref h, .int 14, .int a, .int b, .int c0]) ++ List.replicate (6 - (lg_sl ([.ref h, .int 14, .int a, .int b, .int c0])).length) Slot.unset).toArray = ls at hl ⊢
    have hl : lv_has ls 6 [(0, .ref h), (1, .int 14), (2, .int a), (3, .int b), (4, .int c0)] := hl
    refine lv_iload_n hx hb dL_does_0 rfl (lv_at hl 1 rfl) ?_
    refine lv_bipush (v := 8) hx hb dL_does_1 (by decide) ?_
    refine lv_icmp_ge (tgt := 17) hx hb dL_does_3 (by decide) (fun c_3 => ?_) (fun c_3 => absurd c_3 (by decide))
    refine lv_iload_n hx hb dL_does_17 rfl (lv_at hl 1 rfl) ?_
    refine lv_bipush (v := 8) hx hb dL_does_18 (by decide) ?_
    refine lv_icmp_ne (tgt := 43) hx hb dL_does_20 (by decide) (fun c_20 => ?_) (fun c_20 => absurd c_20 (by decide))
    refine lv_iload_n hx hb dL_does_43 rfl (lv_at hl 1 rfl) ?_
    refine lv_bipush (v := 9) hx hb dL_does_44 (by decide) ?_
    refine lv_icmp_ne (tgt := 69) hx hb dL_does_46 (by decide) (fun c_46 => ?_) (fun c_46 => absurd c_46 (by decide))
    refine lv_iload_n hx hb dL_does_69 rfl (lv_at hl 1 rfl) ?_
    refine lv_bipush (v := 10) hx hb dL_does_70 (by decide) ?_
    refine lv_icmp_ne (tgt := 85) hx hb dL_does_72 (by decide) (fun c_72 => ?_) (fun c_72 => absurd c_72 (by decide))
    refine lv_iload_n hx hb dL_does_85 rfl (lv_at hl 1 rfl) ?_
    refine lv_bipush (v := 11) hx hb dL_does_86 (by decide) ?_
    refine lv_icmp_ne (tgt := 103) hx hb dL_does_88 (by decide) (fun c_88 => ?_) (fun c_88 => absurd c_88 (by decide))
    refine lv_iload_n hx hb dL_does_103 rfl (lv_at hl 1 rfl) ?_
    refine lv_bipush (v := 12) hx hb dL_does_104 (by decide) ?_
    refine lv_icmp_ne (tgt := 119) hx hb dL_does_106 (by decide) (fun c_106 => ?_) (fun c_106 => absurd c_106 (by decide))
    refine lv_iload_n hx hb dL_does_119 rfl (lv_at hl 1 rfl) ?_
    refine lv_bipush (v := 13) hx hb dL_does_120 (by decide) ?_
    refine lv_icmp_ne (tgt := 135) hx hb dL_does_122 (by decide) (fun c_122 => ?_) (fun c_122 => absurd c_122 (by decide))
    refine lv_iload_n hx hb dL_does_135 rfl (lv_at hl 1 rfl) ?_
    refine lv_bipush (v := 14) hx hb dL_does_136 (by decide) ?_
    refine lv_icmp_ne (tgt := 153) hx hb dL_does_138 (by decide) (fun c_138 => absurd c_138 (by decide)) (fun c_138 => ?_)
    refine lv_aload_n hx hb dL_does_141 rfl (lv_at hl 0 rfl) ?_
    refine lv_iload_n hx hb dL_does_142 rfl (lv_at hl 2 rfl) ?_
    refine lv_iload_n hx hb dL_does_143 rfl (lv_at hl 3 rfl) ?_
    refine lv_iload hx hb dL_does_144 (lv_at hl 4 rfl) ?_
    refine g_catch (name := gISE) (ws := []) (wc := w) (vx_runV (As := [.int a, .int b, .int c0]) (rest := []) ⟨hx, hb, hml, hown, hts⟩ (HL s.heap.size) (cwV 3 hts gL_does_X7_decimal rfl hc9 hs9 (by decide +kernel) hr9) (gPX_VA hP hD hK hE hS hA 0 he rfl) rfl rfl hl.1 rfl (lv_room (Nat.le_of_ble_eq_true rfl)) dL_does_146 hm9) hP hD hS hA hown [⟨0, 236, 237, 60⟩, ⟨0, 236, 243, 64⟩] ⟨0, 236, 249, 66⟩ [] (by rw [htab]; rfl) (fun z hz => by
      rcases List.mem_cons.mp hz with rfl | hz
      · exact Or.inr ⟨by decide, _, (hts (.classLink RL 60 "java/lang/IndexOutOfBoundsException") (List.mem_of_getElem? (i := 1) rfl)), hN.2.1⟩
      · rcases List.mem_singleton.mp hz with rfl; exact Or.inr ⟨by decide, _, (hts (.classLink RL 64 "java/lang/IllegalArgumentException") (List.mem_of_getElem? (i := 2) rfl)), hN.2.2⟩) (by decide) (by decide) (hts (.classLink RL 66 "java/lang/IllegalStateException") (List.mem_of_getElem? (i := 3) rfl)) (hE.cw (Cond.castable gISE gISE) (List.mem_of_getElem? (i := 4) rfl)) (fun q9 w1 H locs hG hP hD hS => ?_)
    refine lv_astore (lv' := [(5, .ref q9), (0, .ref h), (1, .int 14), (2, .int a), (3, .int b), (4, .int c0)]) hx hb dL_does_249 hl (by decide) rfl (fun ls hl => ?_)
    refine lv_ldc2 (v := -2100000000) hx hb hown (hts (.constantLong RL 62 (-2100000000)) (List.mem_of_getElem? (i := 4) rfl)) dL_does_251 ?_
    refine W.widen (k := 1) (n := 6) hm9.1 hm9.2 ?_
    exact W.lret (v := -2100000000) hx hb hr (fun t ht hW => ⟨⟨some (.long (-2100000000)), w1, rfl, ⟨rfl, hG⟩, by rw [← hAe]; exact hD, by rw [ht]; exact hP⟩, by rw [← hAe]; exact hS.F ht⟩) (by rw [← hAe]; exact hS.2.2) dL_does_254
set_option maxRecDepth 100000 in
theorem dn_quotient {l : Launch} {D : va_G} {y : Nat → ClassId} {ad : Nat → Nat} {w : va_W} {h : Nat} {fs : List Value} (he : w[0]? = some (h, .inr (5, fs))) {a b c0 : Int32} {G : va_W → Prop} {rm : Room} {mc ms : Nat} {x : Int32} (HL : ∀ sz, Met l yX7_quotient wsX7_quotient rm (gPX D y ad [.ref h, .int a, .int b, .int c0] w sz) (gQn D w (fun v w1 => v = some (.int x) ∧ G w1)) mc ms (va_A w sz)) (hc9 : rm.cells = mc) (hs9 : rm.slots = ms) (hr9 : rm.frames + 1 ≤ 11 ∧ 8 + (5 + 11) + rm.locals ≤ 400) (hm9 : 0 + mc ≤ 1 ∧ 0 + ms ≤ 6) (sz : Nat) : Met l yL_does wsL_does ({ frames := 11, cells := 1, slots := 6, locals := 400 } : Room) (gPN D y ad [.ref h, .int 15, .int a, .int b, .int c0] w sz) (gQn D w (fun v w1 => v = some (.long (x.toInt64)) ∧ G w1)) 1 6 (va_A w sz) := by
  refine gMet_ofWH (cc := cL_does) (maxL := 6) (ret := (some .long)) (hh := [(0, 236, 237, 60), (0, 236, 243, 64), (0, 236, 249, 66)]) (by decide) rfl ?_
  intro pg e s m args below meth c s₁ B hml hv
  obtain ⟨rfl, ⟨hsz, hP, hK, hD0, hE0⟩, hN⟩ := hv
  have hx := B.exec
  have hb := B.bytes
  have hr := B.returns
  have hts := atoms_spec (ws := wsL_does) B.pre
  have hown : s.vm.findClass RL = some m.cls := findClass_of_methodNamed B.named
  have htab : c.exceptionTable.toList = tableOf [(0, 236, 237, 60), (0, 236, 243, 64), (0, 236, 249, 66)] := vx_table (x := yL_does) B (hts _ List.mem_cons_self)
  have hlocks := B.notSynchronized
  subst hsz
  obtain ⟨A, hAe⟩ : ∃ A : Nat → Prop, A = va_A w s.heap.size := ⟨_, rfl⟩
  have hE : gE ad A s s.heap := by rw [hAe]; exact hE0
  have hD : va_D A w := by rw [hAe]; exact hD0.self (sz := s.heap.size)
  have hA : ∀ q : Nat, s.heap.size ≤ q → A q := fun q h => by rw [hAe]; exact Or.inr h
  have hS : va_S A s.heap s.heap [] := va_S.rf
  have hl := lv_entry ([.ref h, .int 15, .int a, .int b, .int c0]) (n := 6) (Nat.le_of_ble_eq_true rfl)
  rw [lg_entry_eq]
  generalize (lg_sl ([.ref h, .int 15, .int a, .int b, .int c0]) ++ List.replicate (6 - (lg_sl ([.ref h, .int 15, .int a, .int b, .int c0])).length) Slot.unset).toArray = ls at hl ⊢
  have hl : lv_has ls 6 [(0, .ref h), (1, .int 15), (2, .int a), (3, .int b), (4, .int c0)] := hl
  refine lv_iload_n hx hb dL_does_0 rfl (lv_at hl 1 rfl) ?_
  refine lv_bipush (v := 8) hx hb dL_does_1 (by decide) ?_
  refine lv_icmp_ge (tgt := 17) hx hb dL_does_3 (by decide) (fun c_3 => ?_) (fun c_3 => absurd c_3 (by decide))
  refine lv_iload_n hx hb dL_does_17 rfl (lv_at hl 1 rfl) ?_
  refine lv_bipush (v := 8) hx hb dL_does_18 (by decide) ?_
  refine lv_icmp_ne (tgt := 43) hx hb dL_does_20 (by decide) (fun c_20 => ?_) (fun c_20 => absurd c_20 (by decide))
  refine lv_iload_n hx hb dL_does_43 rfl (lv_at hl 1 rfl) ?_
  refine lv_bipush (v := 9) hx hb dL_does_44 (by decide) ?_
  refine lv_icmp_ne (tgt := 69) hx hb dL_does_46 (by decide) (fun c_46 => ?_) (fun c_46 => absurd c_46 (by decide))
  refine lv_iload_n hx hb dL_does_69 rfl (lv_at hl 1 rfl) ?_
  refine lv_bipush (v := 10) hx hb dL_does_70 (by decide) ?_
  refine lv_icmp_ne (tgt := 85) hx hb dL_does_72 (by decide) (fun c_72 => ?_) (fun c_72 => absurd c_72 (by decide))
  refine lv_iload_n hx hb dL_does_85 rfl (lv_at hl 1 rfl) ?_
  refine lv_bipush (v := 11) hx hb dL_does_86 (by decide) ?_
  refine lv_icmp_ne (tgt := 103) hx hb dL_does_88 (by decide) (fun c_88 => ?_) (fun c_88 => absurd c_88 (by decide))
  refine lv_iload_n hx hb dL_does_103 rfl (lv_at hl 1 rfl) ?_
  refine lv_bipush (v := 12) hx hb dL_does_104 (by decide) ?_
  refine lv_icmp_ne (tgt := 119) hx hb dL_does_106 (by decide) (fun c_106 => ?_) (fun c_106 => absurd c_106 (by decide))
  refine lv_iload_n hx hb dL_does_119 rfl (lv_at hl 1 rfl) ?_
  refine lv_bipush (v := 13) hx hb dL_does_120 (by decide) ?_
  refine lv_icmp_ne (tgt := 135) hx hb dL_does_122 (by decide) (fun c_122 => ?_) (fun c_122 => absurd c_122 (by decide))
  refine lv_iload_n hx hb dL_does_135 rfl (lv_at hl 1 rfl) ?_
  refine lv_bipush (v := 14) hx hb dL_does_136 (by decide) ?_
  refine lv_icmp_ne (tgt := 153) hx hb dL_does_138 (by decide) (fun c_138 => ?_) (fun c_138 => absurd c_138 (by decide))
  refine lv_iload_n hx hb dL_does_153 rfl (lv_at hl 1 rfl) ?_
  refine lv_bipush (v := 15) hx hb dL_does_154 (by decide) ?_
  refine lv_icmp_ne (tgt := 171) hx hb dL_does_156 (by decide) (fun c_156 => absurd c_156 (by decide)) (fun c_156 => ?_)
  refine lv_aload_n hx hb dL_does_159 rfl (lv_at hl 0 rfl) ?_
  refine lv_iload_n hx hb dL_does_160 rfl (lv_at hl 2 rfl) ?_
  refine lv_iload_n hx hb dL_does_161 rfl (lv_at hl 3 rfl) ?_
  refine lv_iload hx hb dL_does_162 (lv_at hl 4 rfl) ?_
  refine g_callN (ws := []) (wc := w) (va_runV (As := [.int a, .int b, .int c0]) (rest := []) ⟨hx, hb, hml, hown, hts⟩ (HL s.heap.size) (cwV 3 hts gL_does_X7_quotient rfl hc9 hs9 (by decide +kernel) hr9) (gPX_VA hP hD hK hE hS hA 0 he rfl) rfl rfl hl.1 rfl (lv_room (Nat.le_of_ble_eq_true rfl)) dL_does_164 hm9) hP hD hS hA (fun v w1 H locs hf hP hD hS => ?_)
  obtain ⟨rfl, hG⟩ := hf
  refine lv_i2l (v := x.toInt64) hx hb dL_does_167 rfl ?_
  refine lv_goto (tgt := 236) hx hb dL_does_168 (by decide) ?_
  refine W.widen (k := 1) (n := 6) hm9.1 hm9.2 ?_
  exact W.lret (v := x.toInt64) hx hb hr (fun t ht hW => ⟨⟨some (.long (x.toInt64)), w1, rfl, ⟨rfl, hG⟩, by rw [← hAe]; exact hD, by rw [ht]; exact hP⟩, by rw [← hAe]; exact hS.F ht⟩) (by rw [← hAe]; exact hS.2.2) dL_does_236
set_option maxRecDepth 100000 in
theorem dt_quotient {l : Launch} {D : va_G} {y : Nat → ClassId} {ad : Nat → Nat} {w : va_W} {h : Nat} {fs : List Value} (he : w[0]? = some (h, .inr (5, fs))) {a b c0 : Int32} {G : va_W → Prop} {rm : Room} {mc ms : Nat} {E : String} (hE9 : E = gIOB ∨ E = gIAE ∨ E = gISE) (HL : ∀ sz, vx_Met l yX7_quotient wsX7_quotient rm (gPX D y ad [.ref h, .int a, .int b, .int c0] w sz) gNo (gXC D w E G) mc ms (va_A w sz)) (hc9 : rm.cells = mc) (hs9 : rm.slots = ms) (hr9 : rm.frames + 1 ≤ 11 ∧ 8 + (5 + 11) + rm.locals ≤ 400) (hm9 : 0 + mc ≤ 1 ∧ 0 + ms ≤ 6) (sz : Nat) : Met l yL_does wsL_does ({ frames := 11, cells := 1, slots := 6, locals := 400 } : Room) (gPN D y ad [.ref h, .int 15, .int a, .int b, .int c0] w sz) (gQn D w (fun v w1 => v = some (.long (-2100000000)) ∧ G w1)) 1 6 (va_A w sz) := by
  rcases hE9 with rfl | rfl | rfl
  · skip
    refine gMet_ofWH (cc := cL_does) (maxL := 6) (ret := (some .long)) (hh := [(0, 236, 237, 60), (0, 236, 243, 64), (0, 236, 249, 66)]) (by decide) rfl ?_
    intro pg e s m args below meth c s₁ B hml hv
    obtain ⟨rfl, ⟨hsz, hP, hK, hD0, hE0⟩, hN⟩ := hv
    have hx := B.exec
    have hb := B.bytes
    have hr := B.returns
    have hts := atoms_spec (ws := wsL_does) B.pre
    have hown : s.vm.findClass RL = some m.cls := findClass_of_methodNamed B.named
    have htab : c.exceptionTable.toList = tableOf [(0, 236, 237, 60), (0, 236, 243, 64), (0, 236, 249, 66)] := vx_table (x := yL_does) B (hts _ List.mem_cons_self)
    have hlocks := B.notSynchronized
    subst hsz
    obtain ⟨A, hAe⟩ : ∃ A : Nat → Prop, A = va_A w s.heap.size := ⟨_, rfl⟩
    have hE : gE ad A s s.heap := by rw [hAe]; exact hE0
    have hD : va_D A w := by rw [hAe]; exact hD0.self (sz := s.heap.size)
    have hA : ∀ q : Nat, s.heap.size ≤ q → A q := fun q h => by rw [hAe]; exact Or.inr h
    have hS : va_S A s.heap s.heap [] := va_S.rf
    have hl := lv_entry ([.ref h, .int 15, .int a, .int b, .int c0]) (n := 6) (Nat.le_of_ble_eq_true rfl)
    rw [lg_entry_eq]
    generalize (lg_sl ([.ref h, .int 15, .int a, .int b, .int c0]) ++ List.replicate (6 - (lg_sl ([.ref h, .int 15, .int a, .int b, .int c0])).length) Slot.unset).toArray = ls at hl ⊢
    have hl : lv_has ls 6 [(0, .ref h), (1, .int 15), (2, .int a), (3, .int b), (4, .int c0)] := hl
    refine lv_iload_n hx hb dL_does_0 rfl (lv_at hl 1 rfl) ?_
    refine lv_bipush (v := 8) hx hb dL_does_1 (by decide) ?_
    refine lv_icmp_ge (tgt := 17) hx hb dL_does_3 (by decide) (fun c_3 => ?_) (fun c_3 => absurd c_3 (by decide))
    refine lv_iload_n hx hb dL_does_17 rfl (lv_at hl 1 rfl) ?_
    refine lv_bipush (v := 8) hx hb dL_does_18 (by decide) ?_
    refine lv_icmp_ne (tgt := 43) hx hb dL_does_20 (by decide) (fun c_20 => ?_) (fun c_20 => absurd c_20 (by decide))
    refine lv_iload_n hx hb dL_does_43 rfl (lv_at hl 1 rfl) ?_
    refine lv_bipush (v := 9) hx hb dL_does_44 (by decide) ?_
    refine lv_icmp_ne (tgt := 69) hx hb dL_does_46 (by decide) (fun c_46 => ?_) (fun c_46 => absurd c_46 (by decide))
    refine lv_iload_n hx hb dL_does_69 rfl (lv_at hl 1 rfl) ?_
    refine lv_bipush (v := 10) hx hb dL_does_70 (by decide) ?_
    refine lv_icmp_ne (tgt := 85) hx hb dL_does_72 (by decide) (fun c_72 => ?_) (fun c_72 => absurd c_72 (by decide))
    refine lv_iload_n hx hb dL_does_85 rfl (lv_at hl 1 rfl) ?_
    refine lv_bipush (v := 11) hx hb dL_does_86 (by decide) ?_
    refine lv_icmp_ne (tgt := 103) hx hb dL_does_88 (by decide) (fun c_88 => ?_) (fun c_88 => absurd c_88 (by decide))
    refine lv_iload_n hx hb dL_does_103 rfl (lv_at hl 1 rfl) ?_
    refine lv_bipush (v := 12) hx hb dL_does_104 (by decide) ?_
    refine lv_icmp_ne (tgt := 119) hx hb dL_does_106 (by decide) (fun c_106 => ?_) (fun c_106 => absurd c_106 (by decide))
    refine lv_iload_n hx hb dL_does_119 rfl (lv_at hl 1 rfl) ?_
    refine lv_bipush (v := 13) hx hb dL_does_120 (by decide) ?_
    refine lv_icmp_ne (tgt := 135) hx hb dL_does_122 (by decide) (fun c_122 => ?_) (fun c_122 => absurd c_122 (by decide))
    refine lv_iload_n hx hb dL_does_135 rfl (lv_at hl 1 rfl) ?_
    refine lv_bipush (v := 14) hx hb dL_does_136 (by decide) ?_
    refine lv_icmp_ne (tgt := 153) hx hb dL_does_138 (by decide) (fun c_138 => ?_) (fun c_138 => absurd c_138 (by decide))
    refine lv_iload_n hx hb dL_does_153 rfl (lv_at hl 1 rfl) ?_
    refine lv_bipush (v := 15) hx hb dL_does_154 (by decide) ?_
    refine lv_icmp_ne (tgt := 171) hx hb dL_does_156 (by decide) (fun c_156 => absurd c_156 (by decide)) (fun c_156 => ?_)
    refine lv_aload_n hx hb dL_does_159 rfl (lv_at hl 0 rfl) ?_
    refine lv_iload_n hx hb dL_does_160 rfl (lv_at hl 2 rfl) ?_
    refine lv_iload_n hx hb dL_does_161 rfl (lv_at hl 3 rfl) ?_
    refine lv_iload hx hb dL_does_162 (lv_at hl 4 rfl) ?_
    refine g_catch (name := gIOB) (ws := []) (wc := w) (vx_runV (As := [.int a, .int b, .int c0]) (rest := []) ⟨hx, hb, hml, hown, hts⟩ (HL s.heap.size) (cwV 3 hts gL_does_X7_quotient rfl hc9 hs9 (by decide +kernel) hr9) (gPX_VA hP hD hK hE hS hA 0 he rfl) rfl rfl hl.1 rfl (lv_room (Nat.le_of_ble_eq_true rfl)) dL_does_164 hm9) hP hD hS hA hown [] ⟨0, 236, 237, 60⟩ [⟨0, 236, 243, 64⟩, ⟨0, 236, 249, 66⟩] (by rw [htab]; rfl) (fun z hz => absurd hz List.not_mem_nil) (by decide) (by decide) (hts (.classLink RL 60 "java/lang/IndexOutOfBoundsException") (List.mem_of_getElem? (i := 1) rfl)) (hE.cw (Cond.castable gIOB gIOB) (List.mem_of_getElem? (i := 5) rfl)) (fun q9 w1 H locs hG hP hD hS => ?_)
    refine lv_astore (lv' := [(5, .ref q9), (0, .ref h), (1, .int 15), (2, .int a), (3, .int b), (4, .int c0)]) hx hb dL_does_237 hl (by decide) rfl (fun ls hl => ?_)
    refine lv_ldc2 (v := -2100000000) hx hb hown (hts (.constantLong RL 62 (-2100000000)) (List.mem_of_getElem? (i := 4) rfl)) dL_does_239 ?_
    refine W.widen (k := 1) (n := 6) hm9.1 hm9.2 ?_
    exact W.lret (v := -2100000000) hx hb hr (fun t ht hW => ⟨⟨some (.long (-2100000000)), w1, rfl, ⟨rfl, hG⟩, by rw [← hAe]; exact hD, by rw [ht]; exact hP⟩, by rw [← hAe]; exact hS.F ht⟩) (by rw [← hAe]; exact hS.2.2) dL_does_242
  · skip
    refine gMet_ofWH (cc := cL_does) (maxL := 6) (ret := (some .long)) (hh := [(0, 236, 237, 60), (0, 236, 243, 64), (0, 236, 249, 66)]) (by decide) rfl ?_
    intro pg e s m args below meth c s₁ B hml hv
    obtain ⟨rfl, ⟨hsz, hP, hK, hD0, hE0⟩, hN⟩ := hv
    have hx := B.exec
    have hb := B.bytes
    have hr := B.returns
    have hts := atoms_spec (ws := wsL_does) B.pre
    have hown : s.vm.findClass RL = some m.cls := findClass_of_methodNamed B.named
    have htab : c.exceptionTable.toList = tableOf [(0, 236, 237, 60), (0, 236, 243, 64), (0, 236, 249, 66)] := vx_table (x := yL_does) B (hts _ List.mem_cons_self)
    have hlocks := B.notSynchronized
    subst hsz
    obtain ⟨A, hAe⟩ : ∃ A : Nat → Prop, A = va_A w s.heap.size := ⟨_, rfl⟩
    have hE : gE ad A s s.heap := by rw [hAe]; exact hE0
    have hD : va_D A w := by rw [hAe]; exact hD0.self (sz := s.heap.size)
    have hA : ∀ q : Nat, s.heap.size ≤ q → A q := fun q h => by rw [hAe]; exact Or.inr h
    have hS : va_S A s.heap s.heap [] := va_S.rf
    have hl := lv_entry ([.ref h, .int 15, .int a, .int b, .int c0]) (n := 6) (Nat.le_of_ble_eq_true rfl)
    rw [lg_entry_eq]
    generalize (lg_sl ([.ref h, .int 15, .int a, .int b, .int c0]) ++ List.replicate (6 - (lg_sl ([.ref h, .int 15, .int a, .int b, .int c0])).length) Slot.unset).toArray = ls at hl ⊢
    have hl : lv_has ls 6 [(0, .ref h), (1, .int 15), (2, .int a), (3, .int b), (4, .int c0)] := hl
    refine lv_iload_n hx hb dL_does_0 rfl (lv_at hl 1 rfl) ?_
    refine lv_bipush (v := 8) hx hb dL_does_1 (by decide) ?_
    refine lv_icmp_ge (tgt := 17) hx hb dL_does_3 (by decide) (fun c_3 => ?_) (fun c_3 => absurd c_3 (by decide))
    refine lv_iload_n hx hb dL_does_17 rfl (lv_at hl 1 rfl) ?_
    refine lv_bipush (v := 8) hx hb dL_does_18 (by decide) ?_
    refine lv_icmp_ne (tgt := 43) hx hb dL_does_20 (by decide) (fun c_20 => ?_) (fun c_20 => absurd c_20 (by decide))
    refine lv_iload_n hx hb dL_does_43 rfl (lv_at hl 1 rfl) ?_
    refine lv_bipush (v := 9) hx hb dL_does_44 (by decide) ?_
    refine lv_icmp_ne (tgt := 69) hx hb dL_does_46 (by decide) (fun c_46 => ?_) (fun c_46 => absurd c_46 (by decide))
    refine lv_iload_n hx hb dL_does_69 rfl (lv_at hl 1 rfl) ?_
    refine lv_bipush (v := 10) hx hb dL_does_70 (by decide) ?_
    refine lv_icmp_ne (tgt := 85) hx hb dL_does_72 (by decide) (fun c_72 => ?_) (fun c_72 => absurd c_72 (by decide))
    refine lv_iload_n hx hb dL_does_85 rfl (lv_at hl 1 rfl) ?_
    refine lv_bipush (v := 11) hx hb dL_does_86 (by decide) ?_
    refine lv_icmp_ne (tgt := 103) hx hb dL_does_88 (by decide) (fun c_88 => ?_) (fun c_88 => absurd c_88 (by decide))
    refine lv_iload_n hx hb dL_does_103 rfl (lv_at hl 1 rfl) ?_
    refine lv_bipush (v := 12) hx hb dL_does_104 (by decide) ?_
    refine lv_icmp_ne (tgt := 119) hx hb dL_does_106 (by decide) (fun c_106 => ?_) (fun c_106 => absurd c_106 (by decide))
    refine lv_iload_n hx hb dL_does_119 rfl (lv_at hl 1 rfl) ?_
    refine lv_bipush (v := 13) hx hb dL_does_120 (by decide) ?_
    refine lv_icmp_ne (tgt := 135) hx hb dL_does_122 (by decide) (fun c_122 => ?_) (fun c_122 => absurd c_122 (by decide))
    refine lv_iload_n hx hb dL_does_135 rfl (lv_at hl 1 rfl) ?_
    refine lv_bipush (v := 14) hx hb dL_does_136 (by decide) ?_
    refine lv_icmp_ne (tgt := 153) hx hb dL_does_138 (by decide) (fun c_138 => ?_) (fun c_138 => absurd c_138 (by decide))
    refine lv_iload_n hx hb dL_does_153 rfl (lv_at hl 1 rfl) ?_
    refine lv_bipush (v := 15) hx hb dL_does_154 (by decide) ?_
    refine lv_icmp_ne (tgt := 171) hx hb dL_does_156 (by decide) (fun c_156 => absurd c_156 (by decide)) (fun c_156 => ?_)
    refine lv_aload_n hx hb dL_does_159 rfl (lv_at hl 0 rfl) ?_
    refine lv_iload_n hx hb dL_does_160 rfl (lv_at hl 2 rfl) ?_
    refine lv_iload_n hx hb dL_does_161 rfl (lv_at hl 3 rfl) ?_
    refine lv_iload hx hb dL_does_162 (lv_at hl 4 rfl) ?_
    refine g_catch (name := gIAE) (ws := []) (wc := w) (vx_runV (As := [.int a, .int b, .int c0]) (rest := []) ⟨hx, hb, hml, hown, hts⟩ (HL s.heap.size) (cwV 3 hts gL_does_X7_quotient rfl hc9 hs9 (by decide +kernel) hr9) (gPX_VA hP hD hK hE hS hA 0 he rfl) rfl rfl hl.1 rfl (lv_room (Nat.le_of_ble_eq_true rfl)) dL_does_164 hm9) hP hD hS hA hown [⟨0, 236, 237, 60⟩] ⟨0, 236, 243, 64⟩ [⟨0, 236, 249, 66⟩] (by rw [htab]; rfl) (fun z hz => by rcases List.mem_singleton.mp hz with rfl; exact Or.inr ⟨by decide, _, (hts (.classLink RL 60 "java/lang/IndexOutOfBoundsException") (List.mem_of_getElem? (i := 1) rfl)), hN.1⟩) (by decide) (by decide) (hts (.classLink RL 64 "java/lang/IllegalArgumentException") (List.mem_of_getElem? (i := 2) rfl)) (hE.cw (Cond.castable gIAE gIAE) (List.mem_of_getElem? (i := 3) rfl)) (fun q9 w1 H locs hG hP hD hS => ?_)
    refine lv_astore (lv' := [(5, .ref q9), (0, .ref h), (1, .int 15), (2, .int a), (3, .int b), (4, .int c0)]) hx hb dL_does_243 hl (by decide) rfl (fun ls hl => ?_)
    refine lv_ldc2 (v := -2100000000) hx hb hown (hts (.constantLong RL 62 (-2100000000)) (List.mem_of_getElem? (i := 4) rfl)) dL_does_245 ?_
    refine W.widen (k := 1) (n := 6) hm9.1 hm9.2 ?_
    exact W.lret (v := -2100000000) hx hb hr (fun t ht hW => ⟨⟨some (.long (-2100000000)), w1, rfl, ⟨rfl, hG⟩, by rw [← hAe]; exact hD, by rw [ht]; exact hP⟩, by rw [← hAe]; exact hS.F ht⟩) (by rw [← hAe]; exact hS.2.2) dL_does_248
  · skip
    refine gMet_ofWH (cc := cL_does) (maxL := 6) (ret := (some .long)) (hh := [(0, 236, 237, 60), (0, 236, 243, 64), (0, 236, 249, 66)]) (by decide) rfl ?_
    intro pg e s m args below meth c s₁ B hml hv
    obtain ⟨rfl, ⟨hsz, hP, hK, hD0, hE0⟩, hN⟩ := hv
    have hx := B.exec
    have hb := B.bytes
    have hr := B.returns
    have hts := atoms_spec (ws := wsL_does) B.pre
    have hown : s.vm.findClass RL = some m.cls := findClass_of_methodNamed B.named
    have htab : c.exceptionTable.toList = tableOf [(0, 236, 237, 60), (0, 236, 243, 64), (0, 236, 249, 66)] := vx_table (x := yL_does) B (hts _ List.mem_cons_self)
    have hlocks := B.notSynchronized
    subst hsz
    obtain ⟨A, hAe⟩ : ∃ A : Nat → Prop, A = va_A w s.heap.size := ⟨_, rfl⟩
    have hE : gE ad A s s.heap := by rw [hAe]; exact hE0
    have hD : va_D A w := by rw [hAe]; exact hD0.self (sz := s.heap.size)
    have hA : ∀ q : Nat, s.heap.size ≤ q → A q := fun q h => by rw [hAe]; exact Or.inr h
    have hS : va_S A s.heap s.heap [] := va_S.rf
    have hl := lv_entry ([.ref h, .int 15, .int a, .int b, .int c0]) (n := 6) (Nat.le_of_ble_eq_true rfl)
    rw [lg_entry_eq]
    generalize (lg_sl ([.ref h, .int 15, .int a, .int b, .int c0]) ++ List.replicate (6 - (lg_sl ([.ref h, .int 15, .int a, .int b, .int c0])).length) Slot.unset).toArray = ls at hl ⊢
    have hl : lv_has ls 6 [(0, .ref h), (1, .int 15), (2, .int a), (3, .int b), (4, .int c0)] := hl
    refine lv_iload_n hx hb dL_does_0 rfl (lv_at hl 1 rfl) ?_
    refine lv_bipush (v := 8) hx hb dL_does_1 (by decide) ?_
    refine lv_icmp_ge (tgt := 17) hx hb dL_does_3 (by decide) (fun c_3 => ?_) (fun c_3 => absurd c_3 (by decide))
    refine lv_iload_n hx hb dL_does_17 rfl (lv_at hl 1 rfl) ?_
    refine lv_bipush (v := 8) hx hb dL_does_18 (by decide) ?_
    refine lv_icmp_ne (tgt := 43) hx hb dL_does_20 (by decide) (fun c_20 => ?_) (fun c_20 => absurd c_20 (by decide))
    refine lv_iload_n hx hb dL_does_43 rfl (lv_at hl 1 rfl) ?_
    refine lv_bipush (v := 9) hx hb dL_does_44 (by decide) ?_
    refine lv_icmp_ne (tgt := 69) hx hb dL_does_46 (by decide) (fun c_46 => ?_) (fun c_46 => absurd c_46 (by decide))
    refine lv_iload_n hx hb dL_does_69 rfl (lv_at hl 1 rfl) ?_
    refine lv_bipush (v := 10) hx hb dL_does_70 (by decide) ?_
    refine lv_icmp_ne (tgt := 85) hx hb dL_does_72 (by decide) (fun c_72 => ?_) (fun c_72 => absurd c_72 (by decide))
    refine lv_iload_n hx hb dL_does_85 rfl (lv_at hl 1 rfl) ?_
    refine lv_bipush (v := 11) hx hb dL_does_86 (by decide) ?_
    refine lv_icmp_ne (tgt := 103) hx hb dL_does_88 (by decide) (fun c_88 => ?_) (fun c_88 => absurd c_88 (by decide))
    refine lv_iload_n hx hb dL_does_103 rfl (lv_at hl 1 rfl) ?_
    refine lv_bipush (v := 12) hx hb dL_does_104 (by decide) ?_
    refine lv_icmp_ne (tgt := 119) hx hb dL_does_106 (by decide) (fun c_106 => ?_) (fun c_106 => absurd c_106 (by decide))
    refine lv_iload_n hx hb dL_does_119 rfl (lv_at hl 1 rfl) ?_
    refine lv_bipush (v := 13) hx hb dL_does_120 (by decide) ?_
    refine lv_icmp_ne (tgt := 135) hx hb dL_does_122 (by decide) (fun c_122 => ?_) (fun c_122 => absurd c_122 (by decide))
    refine lv_iload_n hx hb dL_does_135 rfl (lv_at hl 1 rfl) ?_
    refine lv_bipush (v := 14) hx hb dL_does_136 (by decide) ?_
    refine lv_icmp_ne (tgt := 153) hx hb dL_does_138 (by decide) (fun c_138 => ?_) (fun c_138 => absurd c_138 (by decide))
    refine lv_iload_n hx hb dL_does_153 rfl (lv_at hl 1 rfl) ?_
    refine lv_bipush (v := 15) hx hb dL_does_154 (by decide) ?_
    refine lv_icmp_ne (tgt := 171) hx hb dL_does_156 (by decide) (fun c_156 => absurd c_156 (by decide)) (fun c_156 => ?_)
    refine lv_aload_n hx hb dL_does_159 rfl (lv_at hl 0 rfl) ?_
    refine lv_iload_n hx hb dL_does_160 rfl (lv_at hl 2 rfl) ?_
    refine lv_iload_n hx hb dL_does_161 rfl (lv_at hl 3 rfl) ?_
    refine lv_iload hx hb dL_does_162 (lv_at hl 4 rfl) ?_
    refine g_catch (name := gISE) (ws := []) (wc := w) (vx_runV (As := [.int a, .int b, .int c0]) (rest := []) ⟨hx, hb, hml, hown, hts⟩ (HL s.heap.size) (cwV 3 hts gL_does_X7_quotient rfl hc9 hs9 (by decide +kernel) hr9) (gPX_VA hP hD hK hE hS hA 0 he rfl) rfl rfl hl.1 rfl (lv_room (Nat.le_of_ble_eq_true rfl)) dL_does_164 hm9) hP hD hS hA hown [⟨0, 236, 237, 60⟩, ⟨0, 236, 243, 64⟩] ⟨0, 236, 249, 66⟩ [] (by rw [htab]; rfl) (fun z hz => by
      rcases List.mem_cons.mp hz with rfl | hz
      · exact Or.inr ⟨by decide, _, (hts (.classLink RL 60 "java/lang/IndexOutOfBoundsException") (List.mem_of_getElem? (i := 1) rfl)), hN.2.1⟩
      · rcases List.mem_singleton.mp hz with rfl; exact Or.inr ⟨by decide, _, (hts (.classLink RL 64 "java/lang/IllegalArgumentException") (List.mem_of_getElem? (i := 2) rfl)), hN.2.2⟩) (by decide) (by decide) (hts (.classLink RL 66 "java/lang/IllegalStateException") (List.mem_of_getElem? (i := 3) rfl)) (hE.cw (Cond.castable gISE gISE) (List.mem_of_getElem? (i := 4) rfl)) (fun q9 w1 H locs hG hP hD hS => ?_)
    refine lv_astore (lv' := [(5, .ref q9), (0, .ref h), (1, .int 15), (2, .int a), (3, .int b), (4, .int c0)]) hx hb dL_does_249 hl (by decide) rfl (fun ls hl => ?_)
    refine lv_ldc2 (v := -2100000000) hx hb hown (hts (.constantLong RL 62 (-2100000000)) (List.mem_of_getElem? (i := 4) rfl)) dL_does_251 ?_
    refine W.widen (k := 1) (n := 6) hm9.1 hm9.2 ?_
    exact W.lret (v := -2100000000) hx hb hr (fun t ht hW => ⟨⟨some (.long (-2100000000)), w1, rfl, ⟨rfl, hG⟩, by rw [← hAe]; exact hD, by rw [ht]; exact hP⟩, by rw [← hAe]; exact hS.F ht⟩) (by rw [← hAe]; exact hS.2.2) dL_does_254
set_option maxRecDepth 100000 in
theorem dn_next {l : Launch} {D : va_G} {y : Nat → ClassId} {ad : Nat → Nat} {w : va_W} {h : Nat} {fs : List Value} (he : w[0]? = some (h, .inr (5, fs))) {a b c0 : Int32} {G : va_W → Prop} {rm : Room} {mc ms : Nat} {x : Int32} (HL : ∀ sz, Met l yX7_next wsX7_next rm (gPX D y ad [.ref h, .int a] w sz) (gQn D w (fun v w1 => v = some (.int x) ∧ G w1)) mc ms (va_A w sz)) (hc9 : rm.cells = mc) (hs9 : rm.slots = ms) (hr9 : rm.frames + 1 ≤ 11 ∧ 8 + (5 + 11) + rm.locals ≤ 400) (hm9 : 0 + mc ≤ 1 ∧ 0 + ms ≤ 6) (sz : Nat) : Met l yL_does wsL_does ({ frames := 11, cells := 1, slots := 6, locals := 400 } : Room) (gPN D y ad [.ref h, .int 16, .int a, .int b, .int c0] w sz) (gQn D w (fun v w1 => v = some (.long (x.toInt64)) ∧ G w1)) 1 6 (va_A w sz) := by
  refine gMet_ofWH (cc := cL_does) (maxL := 6) (ret := (some .long)) (hh := [(0, 236, 237, 60), (0, 236, 243, 64), (0, 236, 249, 66)]) (by decide) rfl ?_
  intro pg e s m args below meth c s₁ B hml hv
  obtain ⟨rfl, ⟨hsz, hP, hK, hD0, hE0⟩, hN⟩ := hv
  have hx := B.exec
  have hb := B.bytes
  have hr := B.returns
  have hts := atoms_spec (ws := wsL_does) B.pre
  have hown : s.vm.findClass RL = some m.cls := findClass_of_methodNamed B.named
  have htab : c.exceptionTable.toList = tableOf [(0, 236, 237, 60), (0, 236, 243, 64), (0, 236, 249, 66)] := vx_table (x := yL_does) B (hts _ List.mem_cons_self)
  have hlocks := B.notSynchronized
  subst hsz
  obtain ⟨A, hAe⟩ : ∃ A : Nat → Prop, A = va_A w s.heap.size := ⟨_, rfl⟩
  have hE : gE ad A s s.heap := by rw [hAe]; exact hE0
  have hD : va_D A w := by rw [hAe]; exact hD0.self (sz := s.heap.size)
  have hA : ∀ q : Nat, s.heap.size ≤ q → A q := fun q h => by rw [hAe]; exact Or.inr h
  have hS : va_S A s.heap s.heap [] := va_S.rf
  have hl := lv_entry ([.ref h, .int 16, .int a, .int b, .int c0]) (n := 6) (Nat.le_of_ble_eq_true rfl)
  rw [lg_entry_eq]
  generalize (lg_sl ([.ref h, .int 16, .int a, .int b, .int c0]) ++ List.replicate (6 - (lg_sl ([.ref h, .int 16, .int a, .int b, .int c0])).length) Slot.unset).toArray = ls at hl ⊢
  have hl : lv_has ls 6 [(0, .ref h), (1, .int 16), (2, .int a), (3, .int b), (4, .int c0)] := hl
  refine lv_iload_n hx hb dL_does_0 rfl (lv_at hl 1 rfl) ?_
  refine lv_bipush (v := 8) hx hb dL_does_1 (by decide) ?_
  refine lv_icmp_ge (tgt := 17) hx hb dL_does_3 (by decide) (fun c_3 => ?_) (fun c_3 => absurd c_3 (by decide))
  refine lv_iload_n hx hb dL_does_17 rfl (lv_at hl 1 rfl) ?_
  refine lv_bipush (v := 8) hx hb dL_does_18 (by decide) ?_
  refine lv_icmp_ne (tgt := 43) hx hb dL_does_20 (by decide) (fun c_20 => ?_) (fun c_20 => absurd c_20 (by decide))
  refine lv_iload_n hx hb dL_does_43 rfl (lv_at hl 1 rfl) ?_
  refine lv_bipush (v := 9) hx hb dL_does_44 (by decide) ?_
  refine lv_icmp_ne (tgt := 69) hx hb dL_does_46 (by decide) (fun c_46 => ?_) (fun c_46 => absurd c_46 (by decide))
  refine lv_iload_n hx hb dL_does_69 rfl (lv_at hl 1 rfl) ?_
  refine lv_bipush (v := 10) hx hb dL_does_70 (by decide) ?_
  refine lv_icmp_ne (tgt := 85) hx hb dL_does_72 (by decide) (fun c_72 => ?_) (fun c_72 => absurd c_72 (by decide))
  refine lv_iload_n hx hb dL_does_85 rfl (lv_at hl 1 rfl) ?_
  refine lv_bipush (v := 11) hx hb dL_does_86 (by decide) ?_
  refine lv_icmp_ne (tgt := 103) hx hb dL_does_88 (by decide) (fun c_88 => ?_) (fun c_88 => absurd c_88 (by decide))
  refine lv_iload_n hx hb dL_does_103 rfl (lv_at hl 1 rfl) ?_
  refine lv_bipush (v := 12) hx hb dL_does_104 (by decide) ?_
  refine lv_icmp_ne (tgt := 119) hx hb dL_does_106 (by decide) (fun c_106 => ?_) (fun c_106 => absurd c_106 (by decide))
  refine lv_iload_n hx hb dL_does_119 rfl (lv_at hl 1 rfl) ?_
  refine lv_bipush (v := 13) hx hb dL_does_120 (by decide) ?_
  refine lv_icmp_ne (tgt := 135) hx hb dL_does_122 (by decide) (fun c_122 => ?_) (fun c_122 => absurd c_122 (by decide))
  refine lv_iload_n hx hb dL_does_135 rfl (lv_at hl 1 rfl) ?_
  refine lv_bipush (v := 14) hx hb dL_does_136 (by decide) ?_
  refine lv_icmp_ne (tgt := 153) hx hb dL_does_138 (by decide) (fun c_138 => ?_) (fun c_138 => absurd c_138 (by decide))
  refine lv_iload_n hx hb dL_does_153 rfl (lv_at hl 1 rfl) ?_
  refine lv_bipush (v := 15) hx hb dL_does_154 (by decide) ?_
  refine lv_icmp_ne (tgt := 171) hx hb dL_does_156 (by decide) (fun c_156 => ?_) (fun c_156 => absurd c_156 (by decide))
  refine lv_iload_n hx hb dL_does_171 rfl (lv_at hl 1 rfl) ?_
  refine lv_bipush (v := 16) hx hb dL_does_172 (by decide) ?_
  refine lv_icmp_ne (tgt := 186) hx hb dL_does_174 (by decide) (fun c_174 => absurd c_174 (by decide)) (fun c_174 => ?_)
  refine lv_aload_n hx hb dL_does_177 rfl (lv_at hl 0 rfl) ?_
  refine lv_iload_n hx hb dL_does_178 rfl (lv_at hl 2 rfl) ?_
  refine g_callN (ws := []) (wc := w) (va_runV (As := [.int a]) (rest := []) ⟨hx, hb, hml, hown, hts⟩ (HL s.heap.size) (cwV 1 hts gL_does_X7_next rfl hc9 hs9 (by decide +kernel) hr9) (gPX_VA hP hD hK hE hS hA 0 he rfl) rfl rfl hl.1 rfl (lv_room (Nat.le_of_ble_eq_true rfl)) dL_does_179 hm9) hP hD hS hA (fun v w1 H locs hf hP hD hS => ?_)
  obtain ⟨rfl, hG⟩ := hf
  refine lv_i2l (v := x.toInt64) hx hb dL_does_182 rfl ?_
  refine lv_goto (tgt := 236) hx hb dL_does_183 (by decide) ?_
  refine W.widen (k := 1) (n := 6) hm9.1 hm9.2 ?_
  exact W.lret (v := x.toInt64) hx hb hr (fun t ht hW => ⟨⟨some (.long (x.toInt64)), w1, rfl, ⟨rfl, hG⟩, by rw [← hAe]; exact hD, by rw [ht]; exact hP⟩, by rw [← hAe]; exact hS.F ht⟩) (by rw [← hAe]; exact hS.2.2) dL_does_236
set_option maxRecDepth 100000 in
theorem dt_next {l : Launch} {D : va_G} {y : Nat → ClassId} {ad : Nat → Nat} {w : va_W} {h : Nat} {fs : List Value} (he : w[0]? = some (h, .inr (5, fs))) {a b c0 : Int32} {G : va_W → Prop} {rm : Room} {mc ms : Nat} {E : String} (hE9 : E = gIOB ∨ E = gIAE ∨ E = gISE) (HL : ∀ sz, vx_Met l yX7_next wsX7_next rm (gPX D y ad [.ref h, .int a] w sz) gNo (gXC D w E G) mc ms (va_A w sz)) (hc9 : rm.cells = mc) (hs9 : rm.slots = ms) (hr9 : rm.frames + 1 ≤ 11 ∧ 8 + (5 + 11) + rm.locals ≤ 400) (hm9 : 0 + mc ≤ 1 ∧ 0 + ms ≤ 6) (sz : Nat) : Met l yL_does wsL_does ({ frames := 11, cells := 1, slots := 6, locals := 400 } : Room) (gPN D y ad [.ref h, .int 16, .int a, .int b, .int c0] w sz) (gQn D w (fun v w1 => v = some (.long (-2100000000)) ∧ G w1)) 1 6 (va_A w sz) := by
  rcases hE9 with rfl | rfl | rfl
  · skip
    refine gMet_ofWH (cc := cL_does) (maxL := 6) (ret := (some .long)) (hh := [(0, 236, 237, 60), (0, 236, 243, 64), (0, 236, 249, 66)]) (by decide) rfl ?_
    intro pg e s m args below meth c s₁ B hml hv
    obtain ⟨rfl, ⟨hsz, hP, hK, hD0, hE0⟩, hN⟩ := hv
    have hx := B.exec
    have hb := B.bytes
    have hr := B.returns
    have hts := atoms_spec (ws := wsL_does) B.pre
    have hown : s.vm.findClass RL = some m.cls := findClass_of_methodNamed B.named
    have htab : c.exceptionTable.toList = tableOf [(0, 236, 237, 60), (0, 236, 243, 64), (0, 236, 249, 66)] := vx_table (x := yL_does) B (hts _ List.mem_cons_self)
    have hlocks := B.notSynchronized
    subst hsz
    obtain ⟨A, hAe⟩ : ∃ A : Nat → Prop, A = va_A w s.heap.size := ⟨_, rfl⟩
    have hE : gE ad A s s.heap := by rw [hAe]; exact hE0
    have hD : va_D A w := by rw [hAe]; exact hD0.self (sz := s.heap.size)
    have hA : ∀ q : Nat, s.heap.size ≤ q → A q := fun q h => by rw [hAe]; exact Or.inr h
    have hS : va_S A s.heap s.heap [] := va_S.rf
    have hl := lv_entry ([.ref h, .int 16, .int a, .int b, .int c0]) (n := 6) (Nat.le_of_ble_eq_true rfl)
    rw [lg_entry_eq]
    generalize (lg_sl ([.ref h, .int 16, .int a, .int b, .int c0]) ++ List.replicate (6 - (lg_sl ([.ref h, .int 16, .int a, .int b, .int c0])).length) Slot.unset).toArray = ls at hl ⊢
    have hl : lv_has ls 6 [(0, .ref h), (1, .int 16), (2, .int a), (3, .int b), (4, .int c0)] := hl
    refine lv_iload_n hx hb dL_does_0 rfl (lv_at hl 1 rfl) ?_
    refine lv_bipush (v := 8) hx hb dL_does_1 (by decide) ?_
    refine lv_icmp_ge (tgt := 17) hx hb dL_does_3 (by decide) (fun c_3 => ?_) (fun c_3 => absurd c_3 (by decide))
    refine lv_iload_n hx hb dL_does_17 rfl (lv_at hl 1 rfl) ?_
    refine lv_bipush (v := 8) hx hb dL_does_18 (by decide) ?_
    refine lv_icmp_ne (tgt := 43) hx hb dL_does_20 (by decide) (fun c_20 => ?_) (fun c_20 => absurd c_20 (by decide))
    refine lv_iload_n hx hb dL_does_43 rfl (lv_at hl 1 rfl) ?_
    refine lv_bipush (v := 9) hx hb dL_does_44 (by decide) ?_
    refine lv_icmp_ne (tgt := 69) hx hb dL_does_46 (by decide) (fun c_46 => ?_) (fun c_46 => absurd c_46 (by decide))
    refine lv_iload_n hx hb dL_does_69 rfl (lv_at hl 1 rfl) ?_
    refine lv_bipush (v := 10) hx hb dL_does_70 (by decide) ?_
    refine lv_icmp_ne (tgt := 85) hx hb dL_does_72 (by decide) (fun c_72 => ?_) (fun c_72 => absurd c_72 (by decide))
    refine lv_iload_n hx hb dL_does_85 rfl (lv_at hl 1 rfl) ?_
    refine lv_bipush (v := 11) hx hb dL_does_86 (by decide) ?_
    refine lv_icmp_ne (tgt := 103) hx hb dL_does_88 (by decide) (fun c_88 => ?_) (fun c_88 => absurd c_88 (by decide))
    refine lv_iload_n hx hb dL_does_103 rfl (lv_at hl 1 rfl) ?_
    refine lv_bipush (v := 12) hx hb dL_does_104 (by decide) ?_
    refine lv_icmp_ne (tgt := 119) hx hb dL_does_106 (by decide) (fun c_106 => ?_) (fun c_106 => absurd c_106 (by decide))
    refine lv_iload_n hx hb dL_does_119 rfl (lv_at hl 1 rfl) ?_
    refine lv_bipush (v := 13) hx hb dL_does_120 (by decide) ?_
    refine lv_icmp_ne (tgt := 135) hx hb dL_does_122 (by decide) (fun c_122 => ?_) (fun c_122 => absurd c_122 (by decide))
    refine lv_iload_n hx hb dL_does_135 rfl (lv_at hl 1 rfl) ?_
    refine lv_bipush (v := 14) hx hb dL_does_136 (by decide) ?_
    refine lv_icmp_ne (tgt := 153) hx hb dL_does_138 (by decide) (fun c_138 => ?_) (fun c_138 => absurd c_138 (by decide))
    refine lv_iload_n hx hb dL_does_153 rfl (lv_at hl 1 rfl) ?_
    refine lv_bipush (v := 15) hx hb dL_does_154 (by decide) ?_
    refine lv_icmp_ne (tgt := 171) hx hb dL_does_156 (by decide) (fun c_156 => ?_) (fun c_156 => absurd c_156 (by decide))
    refine lv_iload_n hx hb dL_does_171 rfl (lv_at hl 1 rfl) ?_
    refine lv_bipush (v := 16) hx hb dL_does_172 (by decide) ?_
    refine lv_icmp_ne (tgt := 186) hx hb dL_does_174 (by decide) (fun c_174 => absurd c_174 (by decide)) (fun c_174 => ?_)
    refine lv_aload_n hx hb dL_does_177 rfl (lv_at hl 0 rfl) ?_
    refine lv_iload_n hx hb dL_does_178 rfl (lv_at hl 2 rfl) ?_
    refine g_catch (name := gIOB) (ws := []) (wc := w) (vx_runV (As := [.int a]) (rest := []) ⟨hx, hb, hml, hown, hts⟩ (HL s.heap.size) (cwV 1 hts gL_does_X7_next rfl hc9 hs9 (by decide +kernel) hr9) (gPX_VA hP hD hK hE hS hA 0 he rfl) rfl rfl hl.1 rfl (lv_room (Nat.le_of_ble_eq_true rfl)) dL_does_179 hm9) hP hD hS hA hown [] ⟨0, 236, 237, 60⟩ [⟨0, 236, 243, 64⟩, ⟨0, 236, 249, 66⟩] (by rw [htab]; rfl) (fun z hz => absurd hz List.not_mem_nil) (by decide) (by decide) (hts (.classLink RL 60 "java/lang/IndexOutOfBoundsException") (List.mem_of_getElem? (i := 1) rfl)) (hE.cw (Cond.castable gIOB gIOB) (List.mem_of_getElem? (i := 5) rfl)) (fun q9 w1 H locs hG hP hD hS => ?_)
    refine lv_astore (lv' := [(5, .ref q9), (0, .ref h), (1, .int 16), (2, .int a), (3, .int b), (4, .int c0)]) hx hb dL_does_237 hl (by decide) rfl (fun ls hl => ?_)
    refine lv_ldc2 (v := -2100000000) hx hb hown (hts (.constantLong RL 62 (-2100000000)) (List.mem_of_getElem? (i := 4) rfl)) dL_does_239 ?_
    refine W.widen (k := 1) (n := 6) hm9.1 hm9.2 ?_
    exact W.lret (v := -2100000000) hx hb hr (fun t ht hW => ⟨⟨some (.long (-2100000000)), w1, rfl, ⟨rfl, hG⟩, by rw [← hAe]; exact hD, by rw [ht]; exact hP⟩, by rw [← hAe]; exact hS.F ht⟩) (by rw [← hAe]; exact hS.2.2) dL_does_242
  · skip
    refine gMet_ofWH (cc := cL_does) (maxL := 6) (ret := (some .long)) (hh := [(0, 236, 237, 60), (0, 236, 243, 64), (0, 236, 249, 66)]) (by decide) rfl ?_
    intro pg e s m args below meth c s₁ B hml hv
    obtain ⟨rfl, ⟨hsz, hP, hK, hD0, hE0⟩, hN⟩ := hv
    have hx := B.exec
    have hb := B.bytes
    have hr := B.returns
    have hts := atoms_spec (ws := wsL_does) B.pre
    have hown : s.vm.findClass RL = some m.cls := findClass_of_methodNamed B.named
    have htab : c.exceptionTable.toList = tableOf [(0, 236, 237, 60), (0, 236, 243, 64), (0, 236, 249, 66)] := vx_table (x := yL_does) B (hts _ List.mem_cons_self)
    have hlocks := B.notSynchronized
    subst hsz
    obtain ⟨A, hAe⟩ : ∃ A : Nat → Prop, A = va_A w s.heap.size := ⟨_, rfl⟩
    have hE : gE ad A s s.heap := by rw [hAe]; exact hE0
    have hD : va_D A w := by rw [hAe]; exact hD0.self (sz := s.heap.size)
    have hA : ∀ q : Nat, s.heap.size ≤ q → A q := fun q h => by rw [hAe]; exact Or.inr h
    have hS : va_S A s.heap s.heap [] := va_S.rf
    have hl := lv_entry ([.ref h, .int 16, .int a, .int b, .int c0]) (n := 6) (Nat.le_of_ble_eq_true rfl)
    rw [lg_entry_eq]
    generalize (lg_sl ([.ref h, .int 16, .int a, .int b, .int c0]) ++ List.replicate (6 - (lg_sl ([.ref h, .int 16, .int a, .int b, .int c0])).length) Slot.unset).toArray = ls at hl ⊢
    have hl : lv_has ls 6 [(0, .ref h), (1, .int 16), (2, .int a), (3, .int b), (4, .int c0)] := hl
    refine lv_iload_n hx hb dL_does_0 rfl (lv_at hl 1 rfl) ?_
    refine lv_bipush (v := 8) hx hb dL_does_1 (by decide) ?_
    refine lv_icmp_ge (tgt := 17) hx hb dL_does_3 (by decide) (fun c_3 => ?_) (fun c_3 => absurd c_3 (by decide))
    refine lv_iload_n hx hb dL_does_17 rfl (lv_at hl 1 rfl) ?_
    refine lv_bipush (v := 8) hx hb dL_does_18 (by decide) ?_
    refine lv_icmp_ne (tgt := 43) hx hb dL_does_20 (by decide) (fun c_20 => ?_) (fun c_20 => absurd c_20 (by decide))
    refine lv_iload_n hx hb dL_does_43 rfl (lv_at hl 1 rfl) ?_
    refine lv_bipush (v := 9) hx hb dL_does_44 (by decide) ?_
    refine lv_icmp_ne (tgt := 69) hx hb dL_does_46 (by decide) (fun c_46 => ?_) (fun c_46 => absurd c_46 (by decide))
    refine lv_iload_n hx hb dL_does_69 rfl (lv_at hl 1 rfl) ?_
    refine lv_bipush (v := 10) hx hb dL_does_70 (by decide) ?_
    refine lv_icmp_ne (tgt := 85) hx hb dL_does_72 (by decide) (fun c_72 => ?_) (fun c_72 => absurd c_72 (by decide))
    refine lv_iload_n hx hb dL_does_85 rfl (lv_at hl 1 rfl) ?_
    refine lv_bipush (v := 11) hx hb dL_does_86 (by decide) ?_
    refine lv_icmp_ne (tgt := 103) hx hb dL_does_88 (by decide) (fun c_88 => ?_) (fun c_88 => absurd c_88 (by decide))
    refine lv_iload_n hx hb dL_does_103 rfl (lv_at hl 1 rfl) ?_
    refine lv_bipush (v := 12) hx hb dL_does_104 (by decide) ?_
    refine lv_icmp_ne (tgt := 119) hx hb dL_does_106 (by decide) (fun c_106 => ?_) (fun c_106 => absurd c_106 (by decide))
    refine lv_iload_n hx hb dL_does_119 rfl (lv_at hl 1 rfl) ?_
    refine lv_bipush (v := 13) hx hb dL_does_120 (by decide) ?_
    refine lv_icmp_ne (tgt := 135) hx hb dL_does_122 (by decide) (fun c_122 => ?_) (fun c_122 => absurd c_122 (by decide))
    refine lv_iload_n hx hb dL_does_135 rfl (lv_at hl 1 rfl) ?_
    refine lv_bipush (v := 14) hx hb dL_does_136 (by decide) ?_
    refine lv_icmp_ne (tgt := 153) hx hb dL_does_138 (by decide) (fun c_138 => ?_) (fun c_138 => absurd c_138 (by decide))
    refine lv_iload_n hx hb dL_does_153 rfl (lv_at hl 1 rfl) ?_
    refine lv_bipush (v := 15) hx hb dL_does_154 (by decide) ?_
    refine lv_icmp_ne (tgt := 171) hx hb dL_does_156 (by decide) (fun c_156 => ?_) (fun c_156 => absurd c_156 (by decide))
    refine lv_iload_n hx hb dL_does_171 rfl (lv_at hl 1 rfl) ?_
    refine lv_bipush (v := 16) hx hb dL_does_172 (by decide) ?_
    refine lv_icmp_ne (tgt := 186) hx hb dL_does_174 (by decide) (fun c_174 => absurd c_174 (by decide)) (fun c_174 => ?_)
    refine lv_aload_n hx hb dL_does_177 rfl (lv_at hl 0 rfl) ?_
    refine lv_iload_n hx hb dL_does_178 rfl (lv_at hl 2 rfl) ?_
    refine g_catch (name := gIAE) (ws := []) (wc := w) (vx_runV (As := [.int a]) (rest := []) ⟨hx, hb, hml, hown, hts⟩ (HL s.heap.size) (cwV 1 hts gL_does_X7_next rfl hc9 hs9 (by decide +kernel) hr9) (gPX_VA hP hD hK hE hS hA 0 he rfl) rfl rfl hl.1 rfl (lv_room (Nat.le_of_ble_eq_true rfl)) dL_does_179 hm9) hP hD hS hA hown [⟨0, 236, 237, 60⟩] ⟨0, 236, 243, 64⟩ [⟨0, 236, 249, 66⟩] (by rw [htab]; rfl) (fun z hz => by rcases List.mem_singleton.mp hz with rfl; exact Or.inr ⟨by decide, _, (hts (.classLink RL 60 "java/lang/IndexOutOfBoundsException") (List.mem_of_getElem? (i := 1) rfl)), hN.1⟩) (by decide) (by decide) (hts (.classLink RL 64 "java/lang/IllegalArgumentException") (List.mem_of_getElem? (i := 2) rfl)) (hE.cw (Cond.castable gIAE gIAE) (List.mem_of_getElem? (i := 3) rfl)) (fun q9 w1 H locs hG hP hD hS => ?_)
    refine lv_astore (lv' := [(5, .ref q9), (0, .ref h), (1, .int 16), (2, .int a), (3, .int b), (4, .int c0)]) hx hb dL_does_243 hl (by decide) rfl (fun ls hl => ?_)
    refine lv_ldc2 (v := -2100000000) hx hb hown (hts (.constantLong RL 62 (-2100000000)) (List.mem_of_getElem? (i := 4) rfl)) dL_does_245 ?_
    refine W.widen (k := 1) (n := 6) hm9.1 hm9.2 ?_
    exact W.lret (v := -2100000000) hx hb hr (fun t ht hW => ⟨⟨some (.long (-2100000000)), w1, rfl, ⟨rfl, hG⟩, by rw [← hAe]; exact hD, by rw [ht]; exact hP⟩, by rw [← hAe]; exact hS.F ht⟩) (by rw [← hAe]; exact hS.2.2) dL_does_248
  · skip
    refine gMet_ofWH (cc := cL_does) (maxL := 6) (ret := (some .long)) (hh := [(0, 236, 237, 60), (0, 236, 243, 64), (0, 236, 249, 66)]) (by decide) rfl ?_
    intro pg e s m args below meth c s₁ B hml hv
    obtain ⟨rfl, ⟨hsz, hP, hK, hD0, hE0⟩, hN⟩ := hv
    have hx := B.exec
    have hb := B.bytes
    have hr := B.returns
    have hts := atoms_spec (ws := wsL_does) B.pre
    have hown : s.vm.findClass RL = some m.cls := findClass_of_methodNamed B.named
    have htab : c.exceptionTable.toList = tableOf [(0, 236, 237, 60), (0, 236, 243, 64), (0, 236, 249, 66)] := vx_table (x := yL_does) B (hts _ List.mem_cons_self)
    have hlocks := B.notSynchronized
    subst hsz
    obtain ⟨A, hAe⟩ : ∃ A : Nat → Prop, A = va_A w s.heap.size := ⟨_, rfl⟩
    have hE : gE ad A s s.heap := by rw [hAe]; exact hE0
    have hD : va_D A w := by rw [hAe]; exact hD0.self (sz := s.heap.size)
    have hA : ∀ q : Nat, s.heap.size ≤ q → A q := fun q h => by rw [hAe]; exact Or.inr h
    have hS : va_S A s.heap s.heap [] := va_S.rf
    have hl := lv_entry ([.ref h, .int 16, .int a, .int b, .int c0]) (n := 6) (Nat.le_of_ble_eq_true rfl)
    rw [lg_entry_eq]
    generalize (lg_sl ([.ref h, .int 16, .int a, .int b, .int c0]) ++ List.replicate (6 - (lg_sl ([.ref h, .int 16, .int a, .int b, .int c0])).length) Slot.unset).toArray = ls at hl ⊢
    have hl : lv_has ls 6 [(0, .ref h), (1, .int 16), (2, .int a), (3, .int b), (4, .int c0)] := hl
    refine lv_iload_n hx hb dL_does_0 rfl (lv_at hl 1 rfl) ?_
    refine lv_bipush (v := 8) hx hb dL_does_1 (by decide) ?_
    refine lv_icmp_ge (tgt := 17) hx hb dL_does_3 (by decide) (fun c_3 => ?_) (fun c_3 => absurd c_3 (by decide))
    refine lv_iload_n hx hb dL_does_17 rfl (lv_at hl 1 rfl) ?_
    refine lv_bipush (v := 8) hx hb dL_does_18 (by decide) ?_
    refine lv_icmp_ne (tgt := 43) hx hb dL_does_20 (by decide) (fun c_20 => ?_) (fun c_20 => absurd c_20 (by decide))
    refine lv_iload_n hx hb dL_does_43 rfl (lv_at hl 1 rfl) ?_
    refine lv_bipush (v := 9) hx hb dL_does_44 (by decide) ?_
    refine lv_icmp_ne (tgt := 69) hx hb dL_does_46 (by decide) (fun c_46 => ?_) (fun c_46 => absurd c_46 (by decide))
    refine lv_iload_n hx hb dL_does_69 rfl (lv_at hl 1 rfl) ?_
    refine lv_bipush (v := 10) hx hb dL_does_70 (by decide) ?_
    refine lv_icmp_ne (tgt := 85) hx hb dL_does_72 (by decide) (fun c_72 => ?_) (fun c_72 => absurd c_72 (by decide))
    refine lv_iload_n hx hb dL_does_85 rfl (lv_at hl 1 rfl) ?_
    refine lv_bipush (v := 11) hx hb dL_does_86 (by decide) ?_
    refine lv_icmp_ne (tgt := 103) hx hb dL_does_88 (by decide) (fun c_88 => ?_) (fun c_88 => absurd c_88 (by decide))
    refine lv_iload_n hx hb dL_does_103 rfl (lv_at hl 1 rfl) ?_
    refine lv_bipush (v := 12) hx hb dL_does_104 (by decide) ?_
    refine lv_icmp_ne (tgt := 119) hx hb dL_does_106 (by decide) (fun c_106 => ?_) (fun c_106 => absurd c_106 (by decide))
    refine lv_iload_n hx hb dL_does_119 rfl (lv_at hl 1 rfl) ?_
    refine lv_bipush (v := 13) hx hb dL_does_120 (by decide) ?_
    refine lv_icmp_ne (tgt := 135) hx hb dL_does_122 (by decide) (fun c_122 => ?_) (fun c_122 => absurd c_122 (by decide))
    refine lv_iload_n hx hb dL_does_135 rfl (lv_at hl 1 rfl) ?_
    refine lv_bipush (v := 14) hx hb dL_does_136 (by decide) ?_
    refine lv_icmp_ne (tgt := 153) hx hb dL_does_138 (by decide) (fun c_138 => ?_) (fun c_138 => absurd c_138 (by decide))
    refine lv_iload_n hx hb dL_does_153 rfl (lv_at hl 1 rfl) ?_
    refine lv_bipush (v := 15) hx hb dL_does_154 (by decide) ?_
    refine lv_icmp_ne (tgt := 171) hx hb dL_does_156 (by decide) (fun c_156 => ?_) (fun c_156 => absurd c_156 (by decide))
    refine lv_iload_n hx hb dL_does_171 rfl (lv_at hl 1 rfl) ?_
    refine lv_bipush (v := 16) hx hb dL_does_172 (by decide) ?_
    refine lv_icmp_ne (tgt := 186) hx hb dL_does_174 (by decide) (fun c_174 => absurd c_174 (by decide)) (fun c_174 => ?_)
    refine lv_aload_n hx hb dL_does_177 rfl (lv_at hl 0 rfl) ?_
    refine lv_iload_n hx hb dL_does_178 rfl (lv_at hl 2 rfl) ?_
    refine g_catch (name := gISE) (ws := []) (wc := w) (vx_runV (As := [.int a]) (rest := []) ⟨hx, hb, hml, hown, hts⟩ (HL s.heap.size) (cwV 1 hts gL_does_X7_next rfl hc9 hs9 (by decide +kernel) hr9) (gPX_VA hP hD hK hE hS hA 0 he rfl) rfl rfl hl.1 rfl (lv_room (Nat.le_of_ble_eq_true rfl)) dL_does_179 hm9) hP hD hS hA hown [⟨0, 236, 237, 60⟩, ⟨0, 236, 243, 64⟩] ⟨0, 236, 249, 66⟩ [] (by rw [htab]; rfl) (fun z hz => by
      rcases List.mem_cons.mp hz with rfl | hz
      · exact Or.inr ⟨by decide, _, (hts (.classLink RL 60 "java/lang/IndexOutOfBoundsException") (List.mem_of_getElem? (i := 1) rfl)), hN.2.1⟩
      · rcases List.mem_singleton.mp hz with rfl; exact Or.inr ⟨by decide, _, (hts (.classLink RL 64 "java/lang/IllegalArgumentException") (List.mem_of_getElem? (i := 2) rfl)), hN.2.2⟩) (by decide) (by decide) (hts (.classLink RL 66 "java/lang/IllegalStateException") (List.mem_of_getElem? (i := 3) rfl)) (hE.cw (Cond.castable gISE gISE) (List.mem_of_getElem? (i := 4) rfl)) (fun q9 w1 H locs hG hP hD hS => ?_)
    refine lv_astore (lv' := [(5, .ref q9), (0, .ref h), (1, .int 16), (2, .int a), (3, .int b), (4, .int c0)]) hx hb dL_does_249 hl (by decide) rfl (fun ls hl => ?_)
    refine lv_ldc2 (v := -2100000000) hx hb hown (hts (.constantLong RL 62 (-2100000000)) (List.mem_of_getElem? (i := 4) rfl)) dL_does_251 ?_
    refine W.widen (k := 1) (n := 6) hm9.1 hm9.2 ?_
    exact W.lret (v := -2100000000) hx hb hr (fun t ht hW => ⟨⟨some (.long (-2100000000)), w1, rfl, ⟨rfl, hG⟩, by rw [← hAe]; exact hD, by rw [ht]; exact hP⟩, by rw [← hAe]; exact hS.F ht⟩) (by rw [← hAe]; exact hS.2.2) dL_does_254
set_option maxRecDepth 100000 in
theorem dn_emitted {l : Launch} {D : va_G} {y : Nat → ClassId} {ad : Nat → Nat} {w : va_W} {h : Nat} {fs : List Value} (he : w[0]? = some (h, .inr (5, fs))) {a b c0 : Int32} {G : va_W → Prop} {rm : Room} {mc ms : Nat} {x : Int32} (HL : ∀ sz, Met l yX7_emitted wsX7_emitted rm (gPX D y ad [.ref h, .int a] w sz) (gQn D w (fun v w1 => v = some (.int x) ∧ G w1)) mc ms (va_A w sz)) (hc9 : rm.cells = mc) (hs9 : rm.slots = ms) (hr9 : rm.frames + 1 ≤ 11 ∧ 8 + (2 + 11) + rm.locals ≤ 400) (hm9 : 0 + mc ≤ 1 ∧ 0 + ms ≤ 6) (sz : Nat) : Met l yL_does wsL_does ({ frames := 11, cells := 1, slots := 6, locals := 400 } : Room) (gPN D y ad [.ref h, .int 17, .int a, .int b, .int c0] w sz) (gQn D w (fun v w1 => v = some (.long (x.toInt64)) ∧ G w1)) 1 6 (va_A w sz) := by
  refine gMet_ofWH (cc := cL_does) (maxL := 6) (ret := (some .long)) (hh := [(0, 236, 237, 60), (0, 236, 243, 64), (0, 236, 249, 66)]) (by decide) rfl ?_
  intro pg e s m args below meth c s₁ B hml hv
  obtain ⟨rfl, ⟨hsz, hP, hK, hD0, hE0⟩, hN⟩ := hv
  have hx := B.exec
  have hb := B.bytes
  have hr := B.returns
  have hts := atoms_spec (ws := wsL_does) B.pre
  have hown : s.vm.findClass RL = some m.cls := findClass_of_methodNamed B.named
  have htab : c.exceptionTable.toList = tableOf [(0, 236, 237, 60), (0, 236, 243, 64), (0, 236, 249, 66)] := vx_table (x := yL_does) B (hts _ List.mem_cons_self)
  have hlocks := B.notSynchronized
  subst hsz
  obtain ⟨A, hAe⟩ : ∃ A : Nat → Prop, A = va_A w s.heap.size := ⟨_, rfl⟩
  have hE : gE ad A s s.heap := by rw [hAe]; exact hE0
  have hD : va_D A w := by rw [hAe]; exact hD0.self (sz := s.heap.size)
  have hA : ∀ q : Nat, s.heap.size ≤ q → A q := fun q h => by rw [hAe]; exact Or.inr h
  have hS : va_S A s.heap s.heap [] := va_S.rf
  have hl := lv_entry ([.ref h, .int 17, .int a, .int b, .int c0]) (n := 6) (Nat.le_of_ble_eq_true rfl)
  rw [lg_entry_eq]
  generalize (lg_sl ([.ref h, .int 17, .int a, .int b, .int c0]) ++ List.replicate (6 - (lg_sl ([.ref h, .int 17, .int a, .int b, .int c0])).length) Slot.unset).toArray = ls at hl ⊢
  have hl : lv_has ls 6 [(0, .ref h), (1, .int 17), (2, .int a), (3, .int b), (4, .int c0)] := hl
  refine lv_iload_n hx hb dL_does_0 rfl (lv_at hl 1 rfl) ?_
  refine lv_bipush (v := 8) hx hb dL_does_1 (by decide) ?_
  refine lv_icmp_ge (tgt := 17) hx hb dL_does_3 (by decide) (fun c_3 => ?_) (fun c_3 => absurd c_3 (by decide))
  refine lv_iload_n hx hb dL_does_17 rfl (lv_at hl 1 rfl) ?_
  refine lv_bipush (v := 8) hx hb dL_does_18 (by decide) ?_
  refine lv_icmp_ne (tgt := 43) hx hb dL_does_20 (by decide) (fun c_20 => ?_) (fun c_20 => absurd c_20 (by decide))
  refine lv_iload_n hx hb dL_does_43 rfl (lv_at hl 1 rfl) ?_
  refine lv_bipush (v := 9) hx hb dL_does_44 (by decide) ?_
  refine lv_icmp_ne (tgt := 69) hx hb dL_does_46 (by decide) (fun c_46 => ?_) (fun c_46 => absurd c_46 (by decide))
  refine lv_iload_n hx hb dL_does_69 rfl (lv_at hl 1 rfl) ?_
  refine lv_bipush (v := 10) hx hb dL_does_70 (by decide) ?_
  refine lv_icmp_ne (tgt := 85) hx hb dL_does_72 (by decide) (fun c_72 => ?_) (fun c_72 => absurd c_72 (by decide))
  refine lv_iload_n hx hb dL_does_85 rfl (lv_at hl 1 rfl) ?_
  refine lv_bipush (v := 11) hx hb dL_does_86 (by decide) ?_
  refine lv_icmp_ne (tgt := 103) hx hb dL_does_88 (by decide) (fun c_88 => ?_) (fun c_88 => absurd c_88 (by decide))
  refine lv_iload_n hx hb dL_does_103 rfl (lv_at hl 1 rfl) ?_
  refine lv_bipush (v := 12) hx hb dL_does_104 (by decide) ?_
  refine lv_icmp_ne (tgt := 119) hx hb dL_does_106 (by decide) (fun c_106 => ?_) (fun c_106 => absurd c_106 (by decide))
  refine lv_iload_n hx hb dL_does_119 rfl (lv_at hl 1 rfl) ?_
  refine lv_bipush (v := 13) hx hb dL_does_120 (by decide) ?_
  refine lv_icmp_ne (tgt := 135) hx hb dL_does_122 (by decide) (fun c_122 => ?_) (fun c_122 => absurd c_122 (by decide))
  refine lv_iload_n hx hb dL_does_135 rfl (lv_at hl 1 rfl) ?_
  refine lv_bipush (v := 14) hx hb dL_does_136 (by decide) ?_
  refine lv_icmp_ne (tgt := 153) hx hb dL_does_138 (by decide) (fun c_138 => ?_) (fun c_138 => absurd c_138 (by decide))
  refine lv_iload_n hx hb dL_does_153 rfl (lv_at hl 1 rfl) ?_
  refine lv_bipush (v := 15) hx hb dL_does_154 (by decide) ?_
  refine lv_icmp_ne (tgt := 171) hx hb dL_does_156 (by decide) (fun c_156 => ?_) (fun c_156 => absurd c_156 (by decide))
  refine lv_iload_n hx hb dL_does_171 rfl (lv_at hl 1 rfl) ?_
  refine lv_bipush (v := 16) hx hb dL_does_172 (by decide) ?_
  refine lv_icmp_ne (tgt := 186) hx hb dL_does_174 (by decide) (fun c_174 => ?_) (fun c_174 => absurd c_174 (by decide))
  refine lv_iload_n hx hb dL_does_186 rfl (lv_at hl 1 rfl) ?_
  refine lv_bipush (v := 17) hx hb dL_does_187 (by decide) ?_
  refine lv_icmp_ne (tgt := 201) hx hb dL_does_189 (by decide) (fun c_189 => absurd c_189 (by decide)) (fun c_189 => ?_)
  refine lv_aload_n hx hb dL_does_192 rfl (lv_at hl 0 rfl) ?_
  refine lv_iload_n hx hb dL_does_193 rfl (lv_at hl 2 rfl) ?_
  refine g_callN (ws := []) (wc := w) (va_runV (As := [.int a]) (rest := []) ⟨hx, hb, hml, hown, hts⟩ (HL s.heap.size) (cwV 1 hts gL_does_X7_emitted rfl hc9 hs9 (by decide +kernel) hr9) (gPX_VA hP hD hK hE hS hA 0 he rfl) rfl rfl hl.1 rfl (lv_room (Nat.le_of_ble_eq_true rfl)) dL_does_194 hm9) hP hD hS hA (fun v w1 H locs hf hP hD hS => ?_)
  obtain ⟨rfl, hG⟩ := hf
  refine lv_i2l (v := x.toInt64) hx hb dL_does_197 rfl ?_
  refine lv_goto (tgt := 236) hx hb dL_does_198 (by decide) ?_
  refine W.widen (k := 1) (n := 6) hm9.1 hm9.2 ?_
  exact W.lret (v := x.toInt64) hx hb hr (fun t ht hW => ⟨⟨some (.long (x.toInt64)), w1, rfl, ⟨rfl, hG⟩, by rw [← hAe]; exact hD, by rw [ht]; exact hP⟩, by rw [← hAe]; exact hS.F ht⟩) (by rw [← hAe]; exact hS.2.2) dL_does_236
set_option maxRecDepth 100000 in
theorem dt_emitted {l : Launch} {D : va_G} {y : Nat → ClassId} {ad : Nat → Nat} {w : va_W} {h : Nat} {fs : List Value} (he : w[0]? = some (h, .inr (5, fs))) {a b c0 : Int32} {G : va_W → Prop} {rm : Room} {mc ms : Nat} {E : String} (hE9 : E = gIOB ∨ E = gIAE ∨ E = gISE) (HL : ∀ sz, vx_Met l yX7_emitted wsX7_emitted rm (gPX D y ad [.ref h, .int a] w sz) gNo (gXC D w E G) mc ms (va_A w sz)) (hc9 : rm.cells = mc) (hs9 : rm.slots = ms) (hr9 : rm.frames + 1 ≤ 11 ∧ 8 + (2 + 11) + rm.locals ≤ 400) (hm9 : 0 + mc ≤ 1 ∧ 0 + ms ≤ 6) (sz : Nat) : Met l yL_does wsL_does ({ frames := 11, cells := 1, slots := 6, locals := 400 } : Room) (gPN D y ad [.ref h, .int 17, .int a, .int b, .int c0] w sz) (gQn D w (fun v w1 => v = some (.long (-2100000000)) ∧ G w1)) 1 6 (va_A w sz) := by
  rcases hE9 with rfl | rfl | rfl
  · skip
    refine gMet_ofWH (cc := cL_does) (maxL := 6) (ret := (some .long)) (hh := [(0, 236, 237, 60), (0, 236, 243, 64), (0, 236, 249, 66)]) (by decide) rfl ?_
    intro pg e s m args below meth c s₁ B hml hv
    obtain ⟨rfl, ⟨hsz, hP, hK, hD0, hE0⟩, hN⟩ := hv
    have hx := B.exec
    have hb := B.bytes
    have hr := B.returns
    have hts := atoms_spec (ws := wsL_does) B.pre
    have hown : s.vm.findClass RL = some m.cls := findClass_of_methodNamed B.named
    have htab : c.exceptionTable.toList = tableOf [(0, 236, 237, 60), (0, 236, 243, 64), (0, 236, 249, 66)] := vx_table (x := yL_does) B (hts _ List.mem_cons_self)
    have hlocks := B.notSynchronized
    subst hsz
    obtain ⟨A, hAe⟩ : ∃ A : Nat → Prop, A = va_A w s.heap.size := ⟨_, rfl⟩
    have hE : gE ad A s s.heap := by rw [hAe]; exact hE0
    have hD : va_D A w := by rw [hAe]; exact hD0.self (sz := s.heap.size)
    have hA : ∀ q : Nat, s.heap.size ≤ q → A q := fun q h => by rw [hAe]; exact Or.inr h
    have hS : va_S A s.heap s.heap [] := va_S.rf
    have hl := lv_entry ([.ref h, .int 17, .int a, .int b, .int c0]) (n := 6) (Nat.le_of_ble_eq_true rfl)
    rw [lg_entry_eq]
    generalize (lg_sl ([.ref h, .int 17, .int a, .int b, .int c0]) ++ List.replicate (6 - (lg_sl ([.ref h, .int 17, .int a, .int b, .int c0])).length) Slot.unset).toArray = ls at hl ⊢
    have hl : lv_has ls 6 [(0, .ref h), (1, .int 17), (2, .int a), (3, .int b), (4, .int c0)] := hl
    refine lv_iload_n hx hb dL_does_0 rfl (lv_at hl 1 rfl) ?_
    refine lv_bipush (v := 8) hx hb dL_does_1 (by decide) ?_
    refine lv_icmp_ge (tgt := 17) hx hb dL_does_3 (by decide) (fun c_3 => ?_) (fun c_3 => absurd c_3 (by decide))
    refine lv_iload_n hx hb dL_does_17 rfl (lv_at hl 1 rfl) ?_
    refine lv_bipush (v := 8) hx hb dL_does_18 (by decide) ?_
    refine lv_icmp_ne (tgt := 43) hx hb dL_does_20 (by decide) (fun c_20 => ?_) (fun c_20 => absurd c_20 (by decide))
    refine lv_iload_n hx hb dL_does_43 rfl (lv_at hl 1 rfl) ?_
    refine lv_bipush (v := 9) hx hb dL_does_44 (by decide) ?_
    refine lv_icmp_ne (tgt := 69) hx hb dL_does_46 (by decide) (fun c_46 => ?_) (fun c_46 => absurd c_46 (by decide))
    refine lv_iload_n hx hb dL_does_69 rfl (lv_at hl 1 rfl) ?_
    refine lv_bipush (v := 10) hx hb dL_does_70 (by decide) ?_
    refine lv_icmp_ne (tgt := 85) hx hb dL_does_72 (by decide) (fun c_72 => ?_) (fun c_72 => absurd c_72 (by decide))
    refine lv_iload_n hx hb dL_does_85 rfl (lv_at hl 1 rfl) ?_
    refine lv_bipush (v := 11) hx hb dL_does_86 (by decide) ?_
    refine lv_icmp_ne (tgt := 103) hx hb dL_does_88 (by decide) (fun c_88 => ?_) (fun c_88 => absurd c_88 (by decide))
    refine lv_iload_n hx hb dL_does_103 rfl (lv_at hl 1 rfl) ?_
    refine lv_bipush (v := 12) hx hb dL_does_104 (by decide) ?_
    refine lv_icmp_ne (tgt := 119) hx hb dL_does_106 (by decide) (fun c_106 => ?_) (fun c_106 => absurd c_106 (by decide))
    refine lv_iload_n hx hb dL_does_119 rfl (lv_at hl 1 rfl) ?_
    refine lv_bipush (v := 13) hx hb dL_does_120 (by decide) ?_
    refine lv_icmp_ne (tgt := 135) hx hb dL_does_122 (by decide) (fun c_122 => ?_) (fun c_122 => absurd c_122 (by decide))
    refine lv_iload_n hx hb dL_does_135 rfl (lv_at hl 1 rfl) ?_
    refine lv_bipush (v := 14) hx hb dL_does_136 (by decide) ?_
    refine lv_icmp_ne (tgt := 153) hx hb dL_does_138 (by decide) (fun c_138 => ?_) (fun c_138 => absurd c_138 (by decide))
    refine lv_iload_n hx hb dL_does_153 rfl (lv_at hl 1 rfl) ?_
    refine lv_bipush (v := 15) hx hb dL_does_154 (by decide) ?_
    refine lv_icmp_ne (tgt := 171) hx hb dL_does_156 (by decide) (fun c_156 => ?_) (fun c_156 => absurd c_156 (by decide))
    refine lv_iload_n hx hb dL_does_171 rfl (lv_at hl 1 rfl) ?_
    refine lv_bipush (v := 16) hx hb dL_does_172 (by decide) ?_
    refine lv_icmp_ne (tgt := 186) hx hb dL_does_174 (by decide) (fun c_174 => ?_) (fun c_174 => absurd c_174 (by decide))
    refine lv_iload_n hx hb dL_does_186 rfl (lv_at hl 1 rfl) ?_
    refine lv_bipush (v := 17) hx hb dL_does_187 (by decide) ?_
    refine lv_icmp_ne (tgt := 201) hx hb dL_does_189 (by decide) (fun c_189 => absurd c_189 (by decide)) (fun c_189 => ?_)
    refine lv_aload_n hx hb dL_does_192 rfl (lv_at hl 0 rfl) ?_
    refine lv_iload_n hx hb dL_does_193 rfl (lv_at hl 2 rfl) ?_
    refine g_catch (name := gIOB) (ws := []) (wc := w) (vx_runV (As := [.int a]) (rest := []) ⟨hx, hb, hml, hown, hts⟩ (HL s.heap.size) (cwV 1 hts gL_does_X7_emitted rfl hc9 hs9 (by decide +kernel) hr9) (gPX_VA hP hD hK hE hS hA 0 he rfl) rfl rfl hl.1 rfl (lv_room (Nat.le_of_ble_eq_true rfl)) dL_does_194 hm9) hP hD hS hA hown [] ⟨0, 236, 237, 60⟩ [⟨0, 236, 243, 64⟩, ⟨0, 236, 249, 66⟩] (by rw [htab]; rfl) (fun z hz => absurd hz List.not_mem_nil) (by decide) (by decide) (hts (.classLink RL 60 "java/lang/IndexOutOfBoundsException") (List.mem_of_getElem? (i := 1) rfl)) (hE.cw (Cond.castable gIOB gIOB) (List.mem_of_getElem? (i := 5) rfl)) (fun q9 w1 H locs hG hP hD hS => ?_)
    refine lv_astore (lv' := [(5, .ref q9), (0, .ref h), (1, .int 17), (2, .int a), (3, .int b), (4, .int c0)]) hx hb dL_does_237 hl (by decide) rfl (fun ls hl => ?_)
    refine lv_ldc2 (v := -2100000000) hx hb hown (hts (.constantLong RL 62 (-2100000000)) (List.mem_of_getElem? (i := 4) rfl)) dL_does_239 ?_
    refine W.widen (k := 1) (n := 6) hm9.1 hm9.2 ?_
    exact W.lret (v := -2100000000) hx hb hr (fun t ht hW => ⟨⟨some (.long (-2100000000)), w1, rfl, ⟨rfl, hG⟩, by rw [← hAe]; exact hD, by rw [ht]; exact hP⟩, by rw [← hAe]; exact hS.F ht⟩) (by rw [← hAe]; exact hS.2.2) dL_does_242
  · skip
    refine gMet_ofWH (cc := cL_does) (maxL := 6) (ret := (some .long)) (hh := [(0, 236, 237, 60), (0, 236, 243, 64), (0, 236, 249, 66)]) (by decide) rfl ?_
    intro pg e s m args below meth c s₁ B hml hv
    obtain ⟨rfl, ⟨hsz, hP, hK, hD0, hE0⟩, hN⟩ := hv
    have hx := B.exec
    have hb := B.bytes
    have hr := B.returns
    have hts := atoms_spec (ws := wsL_does) B.pre
    have hown : s.vm.findClass RL = some m.cls := findClass_of_methodNamed B.named
    have htab : c.exceptionTable.toList = tableOf [(0, 236, 237, 60), (0, 236, 243, 64), (0, 236, 249, 66)] := vx_table (x := yL_does) B (hts _ List.mem_cons_self)
    have hlocks := B.notSynchronized
    subst hsz
    obtain ⟨A, hAe⟩ : ∃ A : Nat → Prop, A = va_A w s.heap.size := ⟨_, rfl⟩
    have hE : gE ad A s s.heap := by rw [hAe]; exact hE0
    have hD : va_D A w := by rw [hAe]; exact hD0.self (sz := s.heap.size)
    have hA : ∀ q : Nat, s.heap.size ≤ q → A q := fun q h => by rw [hAe]; exact Or.inr h
    have hS : va_S A s.heap s.heap [] := va_S.rf
    have hl := lv_entry ([.ref h, .int 17, .int a, .int b, .int c0]) (n := 6) (Nat.le_of_ble_eq_true rfl)
    rw [lg_entry_eq]
    generalize (lg_sl ([.ref h, .int 17, .int a, .int b, .int c0]) ++ List.replicate (6 - (lg_sl ([.ref h, .int 17, .int a, .int b, .int c0])).length) Slot.unset).toArray = ls at hl ⊢
    have hl : lv_has ls 6 [(0, .ref h), (1, .int 17), (2, .int a), (3, .int b), (4, .int c0)] := hl
    refine lv_iload_n hx hb dL_does_0 rfl (lv_at hl 1 rfl) ?_
    refine lv_bipush (v := 8) hx hb dL_does_1 (by decide) ?_
    refine lv_icmp_ge (tgt := 17) hx hb dL_does_3 (by decide) (fun c_3 => ?_) (fun c_3 => absurd c_3 (by decide))
    refine lv_iload_n hx hb dL_does_17 rfl (lv_at hl 1 rfl) ?_
    refine lv_bipush (v := 8) hx hb dL_does_18 (by decide) ?_
    refine lv_icmp_ne (tgt := 43) hx hb dL_does_20 (by decide) (fun c_20 => ?_) (fun c_20 => absurd c_20 (by decide))
    refine lv_iload_n hx hb dL_does_43 rfl (lv_at hl 1 rfl) ?_
    refine lv_bipush (v := 9) hx hb dL_does_44 (by decide) ?_
    refine lv_icmp_ne (tgt := 69) hx hb dL_does_46 (by decide) (fun c_46 => ?_) (fun c_46 => absurd c_46 (by decide))
    refine lv_iload_n hx hb dL_does_69 rfl (lv_at hl 1 rfl) ?_
    refine lv_bipush (v := 10) hx hb dL_does_70 (by decide) ?_
    refine lv_icmp_ne (tgt := 85) hx hb dL_does_72 (by decide) (fun c_72 => ?_) (fun c_72 => absurd c_72 (by decide))
    refine lv_iload_n hx hb dL_does_85 rfl (lv_at hl 1 rfl) ?_
    refine lv_bipush (v := 11) hx hb dL_does_86 (by decide) ?_
    refine lv_icmp_ne (tgt := 103) hx hb dL_does_88 (by decide) (fun c_88 => ?_) (fun c_88 => absurd c_88 (by decide))
    refine lv_iload_n hx hb dL_does_103 rfl (lv_at hl 1 rfl) ?_
    refine lv_bipush (v := 12) hx hb dL_does_104 (by decide) ?_
    refine lv_icmp_ne (tgt := 119) hx hb dL_does_106 (by decide) (fun c_106 => ?_) (fun c_106 => absurd c_106 (by decide))
    refine lv_iload_n hx hb dL_does_119 rfl (lv_at hl 1 rfl) ?_
    refine lv_bipush (v := 13) hx hb dL_does_120 (by decide) ?_
    refine lv_icmp_ne (tgt := 135) hx hb dL_does_122 (by decide) (fun c_122 => ?_) (fun c_122 => absurd c_122 (by decide))
    refine lv_iload_n hx hb dL_does_135 rfl (lv_at hl 1 rfl) ?_
    refine lv_bipush (v := 14) hx hb dL_does_136 (by decide) ?_
    refine lv_icmp_ne (tgt := 153) hx hb dL_does_138 (by decide) (fun c_138 => ?_) (fun c_138 => absurd c_138 (by decide))
    refine lv_iload_n hx hb dL_does_153 rfl (lv_at hl 1 rfl) ?_
    refine lv_bipush (v := 15) hx hb dL_does_154 (by decide) ?_
    refine lv_icmp_ne (tgt := 171) hx hb dL_does_156 (by decide) (fun c_156 => ?_) (fun c_156 => absurd c_156 (by decide))
    refine lv_iload_n hx hb dL_does_171 rfl (lv_at hl 1 rfl) ?_
    refine lv_bipush (v := 16) hx hb dL_does_172 (by decide) ?_
    refine lv_icmp_ne (tgt := 186) hx hb dL_does_174 (by decide) (fun c_174 => ?_) (fun c_174 => absurd c_174 (by decide))
    refine lv_iload_n hx hb dL_does_186 rfl (lv_at hl 1 rfl) ?_
    refine lv_bipush (v := 17) hx hb dL_does_187 (by decide) ?_
    refine lv_icmp_ne (tgt := 201) hx hb dL_does_189 (by decide) (fun c_189 => absurd c_189 (by decide)) (fun c_189 => ?_)
    refine lv_aload_n hx hb dL_does_192 rfl (lv_at hl 0 rfl) ?_
    refine lv_iload_n hx hb dL_does_193 rfl (lv_at hl 2 rfl) ?_
    refine g_catch (name := gIAE) (ws := []) (wc := w) (vx_runV (As := [.int a]) (rest := []) ⟨hx, hb, hml, hown, hts⟩ (HL s.heap.size) (cwV 1 hts gL_does_X7_emitted rfl hc9 hs9 (by decide +kernel) hr9) (gPX_VA hP hD hK hE hS hA 0 he rfl) rfl rfl hl.1 rfl (lv_room (Nat.le_of_ble_eq_true rfl)) dL_does_194 hm9) hP hD hS hA hown [⟨0, 236, 237, 60⟩] ⟨0, 236, 243, 64⟩ [⟨0, 236, 249, 66⟩] (by rw [htab]; rfl) (fun z hz => by rcases List.mem_singleton.mp hz with rfl; exact Or.inr ⟨by decide, _, (hts (.classLink RL 60 "java/lang/IndexOutOfBoundsException") (List.mem_of_getElem? (i := 1) rfl)), hN.1⟩) (by decide) (by decide) (hts (.classLink RL 64 "java/lang/IllegalArgumentException") (List.mem_of_getElem? (i := 2) rfl)) (hE.cw (Cond.castable gIAE gIAE) (List.mem_of_getElem? (i := 3) rfl)) (fun q9 w1 H locs hG hP hD hS => ?_)
    refine lv_astore (lv' := [(5, .ref q9), (0, .ref h), (1, .int 17), (2, .int a), (3, .int b), (4, .int c0)]) hx hb dL_does_243 hl (by decide) rfl (fun ls hl => ?_)
    refine lv_ldc2 (v := -2100000000) hx hb hown (hts (.constantLong RL 62 (-2100000000)) (List.mem_of_getElem? (i := 4) rfl)) dL_does_245 ?_
    refine W.widen (k := 1) (n := 6) hm9.1 hm9.2 ?_
    exact W.lret (v := -2100000000) hx hb hr (fun t ht hW => ⟨⟨some (.long (-2100000000)), w1, rfl, ⟨rfl, hG⟩, by rw [← hAe]; exact hD, by rw [ht]; exact hP⟩, by rw [← hAe]; exact hS.F ht⟩) (by rw [← hAe]; exact hS.2.2) dL_does_248
  · skip
    refine gMet_ofWH (cc := cL_does) (maxL := 6) (ret := (some .long)) (hh := [(0, 236, 237, 60), (0, 236, 243, 64), (0, 236, 249, 66)]) (by decide) rfl ?_
    intro pg e s m args below meth c s₁ B hml hv
    obtain ⟨rfl, ⟨hsz, hP, hK, hD0, hE0⟩, hN⟩ := hv
    have hx := B.exec
    have hb := B.bytes
    have hr := B.returns
    have hts := atoms_spec (ws := wsL_does) B.pre
    have hown : s.vm.findClass RL = some m.cls := findClass_of_methodNamed B.named
    have htab : c.exceptionTable.toList = tableOf [(0, 236, 237, 60), (0, 236, 243, 64), (0, 236, 249, 66)] := vx_table (x := yL_does) B (hts _ List.mem_cons_self)
    have hlocks := B.notSynchronized
    subst hsz
    obtain ⟨A, hAe⟩ : ∃ A : Nat → Prop, A = va_A w s.heap.size := ⟨_, rfl⟩
    have hE : gE ad A s s.heap := by rw [hAe]; exact hE0
    have hD : va_D A w := by rw [hAe]; exact hD0.self (sz := s.heap.size)
    have hA : ∀ q : Nat, s.heap.size ≤ q → A q := fun q h => by rw [hAe]; exact Or.inr h
    have hS : va_S A s.heap s.heap [] := va_S.rf
    have hl := lv_entry ([.ref h, .int 17, .int a, .int b, .int c0]) (n := 6) (Nat.le_of_ble_eq_true rfl)
    rw [lg_entry_eq]
    generalize (lg_sl ([.ref h, .int 17, .int a, .int b, .int c0]) ++ List.replicate (6 - (lg_sl ([.ref h, .int 17, .int a, .int b, .int c0])).length) Slot.unset).toArray = ls at hl ⊢
    have hl : lv_has ls 6 [(0, .ref h), (1, .int 17), (2, .int a), (3, .int b), (4, .int c0)] := hl
    refine lv_iload_n hx hb dL_does_0 rfl (lv_at hl 1 rfl) ?_
    refine lv_bipush (v := 8) hx hb dL_does_1 (by decide) ?_
    refine lv_icmp_ge (tgt := 17) hx hb dL_does_3 (by decide) (fun c_3 => ?_) (fun c_3 => absurd c_3 (by decide))
    refine lv_iload_n hx hb dL_does_17 rfl (lv_at hl 1 rfl) ?_
    refine lv_bipush (v := 8) hx hb dL_does_18 (by decide) ?_
    refine lv_icmp_ne (tgt := 43) hx hb dL_does_20 (by decide) (fun c_20 => ?_) (fun c_20 => absurd c_20 (by decide))
    refine lv_iload_n hx hb dL_does_43 rfl (lv_at hl 1 rfl) ?_
    refine lv_bipush (v := 9) hx hb dL_does_44 (by decide) ?_
    refine lv_icmp_ne (tgt := 69) hx hb dL_does_46 (by decide) (fun c_46 => ?_) (fun c_46 => absurd c_46 (by decide))
    refine lv_iload_n hx hb dL_does_69 rfl (lv_at hl 1 rfl) ?_
    refine lv_bipush (v := 10) hx hb dL_does_70 (by decide) ?_
    refine lv_icmp_ne (tgt := 85) hx hb dL_does_72 (by decide) (fun c_72 => ?_) (fun c_72 => absurd c_72 (by decide))
    refine lv_iload_n hx hb dL_does_85 rfl (lv_at hl 1 rfl) ?_
    refine lv_bipush (v := 11) hx hb dL_does_86 (by decide) ?_
    refine lv_icmp_ne (tgt := 103) hx hb dL_does_88 (by decide) (fun c_88 => ?_) (fun c_88 => absurd c_88 (by decide))
    refine lv_iload_n hx hb dL_does_103 rfl (lv_at hl 1 rfl) ?_
    refine lv_bipush (v := 12) hx hb dL_does_104 (by decide) ?_
    refine lv_icmp_ne (tgt := 119) hx hb dL_does_106 (by decide) (fun c_106 => ?_) (fun c_106 => absurd c_106 (by decide))
    refine lv_iload_n hx hb dL_does_119 rfl (lv_at hl 1 rfl) ?_
    refine lv_bipush (v := 13) hx hb dL_does_120 (by decide) ?_
    refine lv_icmp_ne (tgt := 135) hx hb dL_does_122 (by decide) (fun c_122 => ?_) (fun c_122 => absurd c_122 (by decide))
    refine lv_iload_n hx hb dL_does_135 rfl (lv_at hl 1 rfl) ?_
    refine lv_bipush (v := 14) hx hb dL_does_136 (by decide) ?_
    refine lv_icmp_ne (tgt := 153) hx hb dL_does_138 (by decide) (fun c_138 => ?_) (fun c_138 => absurd c_138 (by decide))
    refine lv_iload_n hx hb dL_does_153 rfl (lv_at hl 1 rfl) ?_
    refine lv_bipush (v := 15) hx hb dL_does_154 (by decide) ?_
    refine lv_icmp_ne (tgt := 171) hx hb dL_does_156 (by decide) (fun c_156 => ?_) (fun c_156 => absurd c_156 (by decide))
    refine lv_iload_n hx hb dL_does_171 rfl (lv_at hl 1 rfl) ?_
    refine lv_bipush (v := 16) hx hb dL_does_172 (by decide) ?_
    refine lv_icmp_ne (tgt := 186) hx hb dL_does_174 (by decide) (fun c_174 => ?_) (fun c_174 => absurd c_174 (by decide))
    refine lv_iload_n hx hb dL_does_186 rfl (lv_at hl 1 rfl) ?_
    refine lv_bipush (v := 17) hx hb dL_does_187 (by decide) ?_
    refine lv_icmp_ne (tgt := 201) hx hb dL_does_189 (by decide) (fun c_189 => absurd c_189 (by decide)) (fun c_189 => ?_)
    refine lv_aload_n hx hb dL_does_192 rfl (lv_at hl 0 rfl) ?_
    refine lv_iload_n hx hb dL_does_193 rfl (lv_at hl 2 rfl) ?_
    refine g_catch (name := gISE) (ws := []) (wc := w) (vx_runV (As := [.int a]) (rest := []) ⟨hx, hb, hml, hown, hts⟩ (HL s.heap.size) (cwV 1 hts gL_does_X7_emitted rfl hc9 hs9 (by decide +kernel) hr9) (gPX_VA hP hD hK hE hS hA 0 he rfl) rfl rfl hl.1 rfl (lv_room (Nat.le_of_ble_eq_true rfl)) dL_does_194 hm9) hP hD hS hA hown [⟨0, 236, 237, 60⟩, ⟨0, 236, 243, 64⟩] ⟨0, 236, 249, 66⟩ [] (by rw [htab]; rfl) (fun z hz => by
      rcases List.mem_cons.mp hz with rfl | hz
      · exact Or.inr ⟨by decide, _, (hts (.classLink RL 60 "java/lang/IndexOutOfBoundsException") (List.mem_of_getElem? (i := 1) rfl)), hN.2.1⟩
      · rcases List.mem_singleton.mp hz with rfl; exact Or.inr ⟨by decide, _, (hts (.classLink RL 64 "java/lang/IllegalArgumentException") (List.mem_of_getElem? (i := 2) rfl)), hN.2.2⟩) (by decide) (by decide) (hts (.classLink RL 66 "java/lang/IllegalStateException") (List.mem_of_getElem? (i := 3) rfl)) (hE.cw (Cond.castable gISE gISE) (List.mem_of_getElem? (i := 4) rfl)) (fun q9 w1 H locs hG hP hD hS => ?_)
    refine lv_astore (lv' := [(5, .ref q9), (0, .ref h), (1, .int 17), (2, .int a), (3, .int b), (4, .int c0)]) hx hb dL_does_249 hl (by decide) rfl (fun ls hl => ?_)
    refine lv_ldc2 (v := -2100000000) hx hb hown (hts (.constantLong RL 62 (-2100000000)) (List.mem_of_getElem? (i := 4) rfl)) dL_does_251 ?_
    refine W.widen (k := 1) (n := 6) hm9.1 hm9.2 ?_
    exact W.lret (v := -2100000000) hx hb hr (fun t ht hW => ⟨⟨some (.long (-2100000000)), w1, rfl, ⟨rfl, hG⟩, by rw [← hAe]; exact hD, by rw [ht]; exact hP⟩, by rw [← hAe]; exact hS.F ht⟩) (by rw [← hAe]; exact hS.2.2) dL_does_254
set_option maxRecDepth 100000 in
theorem dn_partial {l : Launch} {D : va_G} {y : Nat → ClassId} {ad : Nat → Nat} {w : va_W} {h : Nat} {fs : List Value} (he : w[0]? = some (h, .inr (5, fs))) {a b c0 : Int32} {G : va_W → Prop} {rm : Room} {mc ms : Nat} {x : Int64} (HL : ∀ sz, Met l yX7_partial wsX7_partial rm (gPX D y ad [.ref h, .int a] w sz) (gQn D w (fun v w1 => v = some (.long x) ∧ G w1)) mc ms (va_A w sz)) (hc9 : rm.cells = mc) (hs9 : rm.slots = ms) (hr9 : rm.frames + 1 ≤ 11 ∧ 8 + (2 + 11) + rm.locals ≤ 400) (hm9 : 0 + mc ≤ 1 ∧ 0 + ms ≤ 6) (sz : Nat) : Met l yL_does wsL_does ({ frames := 11, cells := 1, slots := 6, locals := 400 } : Room) (gPN D y ad [.ref h, .int 18, .int a, .int b, .int c0] w sz) (gQn D w (fun v w1 => v = some (.long (x)) ∧ G w1)) 1 6 (va_A w sz) := by
  refine gMet_ofWH (cc := cL_does) (maxL := 6) (ret := (some .long)) (hh := [(0, 236, 237, 60), (0, 236, 243, 64), (0, 236, 249, 66)]) (by decide) rfl ?_
  intro pg e s m args below meth c s₁ B hml hv
  obtain ⟨rfl, ⟨hsz, hP, hK, hD0, hE0⟩, hN⟩ := hv
  have hx := B.exec
  have hb := B.bytes
  have hr := B.returns
  have hts := atoms_spec (ws := wsL_does) B.pre
  have hown : s.vm.findClass RL = some m.cls := findClass_of_methodNamed B.named
  have htab : c.exceptionTable.toList = tableOf [(0, 236, 237, 60), (0, 236, 243, 64), (0, 236, 249, 66)] := vx_table (x := yL_does) B (hts _ List.mem_cons_self)
  have hlocks := B.notSynchronized
  subst hsz
  obtain ⟨A, hAe⟩ : ∃ A : Nat → Prop, A = va_A w s.heap.size := ⟨_, rfl⟩
  have hE : gE ad A s s.heap := by rw [hAe]; exact hE0
  have hD : va_D A w := by rw [hAe]; exact hD0.self (sz := s.heap.size)
  have hA : ∀ q : Nat, s.heap.size ≤ q → A q := fun q h => by rw [hAe]; exact Or.inr h
  have hS : va_S A s.heap s.heap [] := va_S.rf
  have hl := lv_entry ([.ref h, .int 18, .int a, .int b, .int c0]) (n := 6) (Nat.le_of_ble_eq_true rfl)
  rw [lg_entry_eq]
  generalize (lg_sl ([.ref h, .int 18, .int a, .int b, .int c0]) ++ List.replicate (6 - (lg_sl ([.ref h, .int 18, .int a, .int b, .int c0])).length) Slot.unset).toArray = ls at hl ⊢
  have hl : lv_has ls 6 [(0, .ref h), (1, .int 18), (2, .int a), (3, .int b), (4, .int c0)] := hl
  refine lv_iload_n hx hb dL_does_0 rfl (lv_at hl 1 rfl) ?_
  refine lv_bipush (v := 8) hx hb dL_does_1 (by decide) ?_
  refine lv_icmp_ge (tgt := 17) hx hb dL_does_3 (by decide) (fun c_3 => ?_) (fun c_3 => absurd c_3 (by decide))
  refine lv_iload_n hx hb dL_does_17 rfl (lv_at hl 1 rfl) ?_
  refine lv_bipush (v := 8) hx hb dL_does_18 (by decide) ?_
  refine lv_icmp_ne (tgt := 43) hx hb dL_does_20 (by decide) (fun c_20 => ?_) (fun c_20 => absurd c_20 (by decide))
  refine lv_iload_n hx hb dL_does_43 rfl (lv_at hl 1 rfl) ?_
  refine lv_bipush (v := 9) hx hb dL_does_44 (by decide) ?_
  refine lv_icmp_ne (tgt := 69) hx hb dL_does_46 (by decide) (fun c_46 => ?_) (fun c_46 => absurd c_46 (by decide))
  refine lv_iload_n hx hb dL_does_69 rfl (lv_at hl 1 rfl) ?_
  refine lv_bipush (v := 10) hx hb dL_does_70 (by decide) ?_
  refine lv_icmp_ne (tgt := 85) hx hb dL_does_72 (by decide) (fun c_72 => ?_) (fun c_72 => absurd c_72 (by decide))
  refine lv_iload_n hx hb dL_does_85 rfl (lv_at hl 1 rfl) ?_
  refine lv_bipush (v := 11) hx hb dL_does_86 (by decide) ?_
  refine lv_icmp_ne (tgt := 103) hx hb dL_does_88 (by decide) (fun c_88 => ?_) (fun c_88 => absurd c_88 (by decide))
  refine lv_iload_n hx hb dL_does_103 rfl (lv_at hl 1 rfl) ?_
  refine lv_bipush (v := 12) hx hb dL_does_104 (by decide) ?_
  refine lv_icmp_ne (tgt := 119) hx hb dL_does_106 (by decide) (fun c_106 => ?_) (fun c_106 => absurd c_106 (by decide))
  refine lv_iload_n hx hb dL_does_119 rfl (lv_at hl 1 rfl) ?_
  refine lv_bipush (v := 13) hx hb dL_does_120 (by decide) ?_
  refine lv_icmp_ne (tgt := 135) hx hb dL_does_122 (by decide) (fun c_122 => ?_) (fun c_122 => absurd c_122 (by decide))
  refine lv_iload_n hx hb dL_does_135 rfl (lv_at hl 1 rfl) ?_
  refine lv_bipush (v := 14) hx hb dL_does_136 (by decide) ?_
  refine lv_icmp_ne (tgt := 153) hx hb dL_does_138 (by decide) (fun c_138 => ?_) (fun c_138 => absurd c_138 (by decide))
  refine lv_iload_n hx hb dL_does_153 rfl (lv_at hl 1 rfl) ?_
  refine lv_bipush (v := 15) hx hb dL_does_154 (by decide) ?_
  refine lv_icmp_ne (tgt := 171) hx hb dL_does_156 (by decide) (fun c_156 => ?_) (fun c_156 => absurd c_156 (by decide))
  refine lv_iload_n hx hb dL_does_171 rfl (lv_at hl 1 rfl) ?_
  refine lv_bipush (v := 16) hx hb dL_does_172 (by decide) ?_
  refine lv_icmp_ne (tgt := 186) hx hb dL_does_174 (by decide) (fun c_174 => ?_) (fun c_174 => absurd c_174 (by decide))
  refine lv_iload_n hx hb dL_does_186 rfl (lv_at hl 1 rfl) ?_
  refine lv_bipush (v := 17) hx hb dL_does_187 (by decide) ?_
  refine lv_icmp_ne (tgt := 201) hx hb dL_does_189 (by decide) (fun c_189 => ?_) (fun c_189 => absurd c_189 (by decide))
  refine lv_iload_n hx hb dL_does_201 rfl (lv_at hl 1 rfl) ?_
  refine lv_bipush (v := 18) hx hb dL_does_202 (by decide) ?_
  refine lv_icmp_ne (tgt := 215) hx hb dL_does_204 (by decide) (fun c_204 => absurd c_204 (by decide)) (fun c_204 => ?_)
  refine lv_aload_n hx hb dL_does_207 rfl (lv_at hl 0 rfl) ?_
  refine lv_iload_n hx hb dL_does_208 rfl (lv_at hl 2 rfl) ?_
  refine g_callN (ws := []) (wc := w) (va_runV (As := [.int a]) (rest := []) ⟨hx, hb, hml, hown, hts⟩ (HL s.heap.size) (cwV 1 hts gL_does_X7_partial rfl hc9 hs9 (by decide +kernel) hr9) (gPX_VA hP hD hK hE hS hA 0 he rfl) rfl rfl hl.1 rfl (lv_room (Nat.le_of_ble_eq_true rfl)) dL_does_209 hm9) hP hD hS hA (fun v w1 H locs hf hP hD hS => ?_)
  obtain ⟨rfl, hG⟩ := hf
  refine lv_goto (tgt := 236) hx hb dL_does_212 (by decide) ?_
  refine W.widen (k := 1) (n := 6) hm9.1 hm9.2 ?_
  exact W.lret (v := x) hx hb hr (fun t ht hW => ⟨⟨some (.long (x)), w1, rfl, ⟨rfl, hG⟩, by rw [← hAe]; exact hD, by rw [ht]; exact hP⟩, by rw [← hAe]; exact hS.F ht⟩) (by rw [← hAe]; exact hS.2.2) dL_does_236
set_option maxRecDepth 100000 in
theorem dt_partial {l : Launch} {D : va_G} {y : Nat → ClassId} {ad : Nat → Nat} {w : va_W} {h : Nat} {fs : List Value} (he : w[0]? = some (h, .inr (5, fs))) {a b c0 : Int32} {G : va_W → Prop} {rm : Room} {mc ms : Nat} {E : String} (hE9 : E = gIOB ∨ E = gIAE ∨ E = gISE) (HL : ∀ sz, vx_Met l yX7_partial wsX7_partial rm (gPX D y ad [.ref h, .int a] w sz) gNo (gXC D w E G) mc ms (va_A w sz)) (hc9 : rm.cells = mc) (hs9 : rm.slots = ms) (hr9 : rm.frames + 1 ≤ 11 ∧ 8 + (2 + 11) + rm.locals ≤ 400) (hm9 : 0 + mc ≤ 1 ∧ 0 + ms ≤ 6) (sz : Nat) : Met l yL_does wsL_does ({ frames := 11, cells := 1, slots := 6, locals := 400 } : Room) (gPN D y ad [.ref h, .int 18, .int a, .int b, .int c0] w sz) (gQn D w (fun v w1 => v = some (.long (-2100000000)) ∧ G w1)) 1 6 (va_A w sz) := by
  rcases hE9 with rfl | rfl | rfl
  · skip
    refine gMet_ofWH (cc := cL_does) (maxL := 6) (ret := (some .long)) (hh := [(0, 236, 237, 60), (0, 236, 243, 64), (0, 236, 249, 66)]) (by decide) rfl ?_
    intro pg e s m args below meth c s₁ B hml hv
    obtain ⟨rfl, ⟨hsz, hP, hK, hD0, hE0⟩, hN⟩ := hv
    have hx := B.exec
    have hb := B.bytes
    have hr := B.returns
    have hts := atoms_spec (ws := wsL_does) B.pre
    have hown : s.vm.findClass RL = some m.cls := findClass_of_methodNamed B.named
    have htab : c.exceptionTable.toList = tableOf [(0, 236, 237, 60), (0, 236, 243, 64), (0, 236, 249, 66)] := vx_table (x := yL_does) B (hts _ List.mem_cons_self)
    have hlocks := B.notSynchronized
    subst hsz
    obtain ⟨A, hAe⟩ : ∃ A : Nat → Prop, A = va_A w s.heap.size := ⟨_, rfl⟩
    have hE : gE ad A s s.heap := by rw [hAe]; exact hE0
    have hD : va_D A w := by rw [hAe]; exact hD0.self (sz := s.heap.size)
    have hA : ∀ q : Nat, s.heap.size ≤ q → A q := fun q h => by rw [hAe]; exact Or.inr h
    have hS : va_S A s.heap s.heap [] := va_S.rf
    have hl := lv_entry ([.ref h, .int 18, .int a, .int b, .int c0]) (n := 6) (Nat.le_of_ble_eq_true rfl)
    rw [lg_entry_eq]
    generalize (lg_sl ([.ref h, .int 18, .int a, .int b, .int c0]) ++ List.replicate (6 - (lg_sl ([.ref h, .int 18, .int a, .int b, .int c0])).length) Slot.unset).toArray = ls at hl ⊢
    have hl : lv_has ls 6 [(0, .ref h), (1, .int 18), (2, .int a), (3, .int b), (4, .int c0)] := hl
    refine lv_iload_n hx hb dL_does_0 rfl (lv_at hl 1 rfl) ?_
    refine lv_bipush (v := 8) hx hb dL_does_1 (by decide) ?_
    refine lv_icmp_ge (tgt := 17) hx hb dL_does_3 (by decide) (fun c_3 => ?_) (fun c_3 => absurd c_3 (by decide))
    refine lv_iload_n hx hb dL_does_17 rfl (lv_at hl 1 rfl) ?_
    refine lv_bipush (v := 8) hx hb dL_does_18 (by decide) ?_
    refine lv_icmp_ne (tgt := 43) hx hb dL_does_20 (by decide) (fun c_20 => ?_) (fun c_20 => absurd c_20 (by decide))
    refine lv_iload_n hx hb dL_does_43 rfl (lv_at hl 1 rfl) ?_
    refine lv_bipush (v := 9) hx hb dL_does_44 (by decide) ?_
    refine lv_icmp_ne (tgt := 69) hx hb dL_does_46 (by decide) (fun c_46 => ?_) (fun c_46 => absurd c_46 (by decide))
    refine lv_iload_n hx hb dL_does_69 rfl (lv_at hl 1 rfl) ?_
    refine lv_bipush (v := 10) hx hb dL_does_70 (by decide) ?_
    refine lv_icmp_ne (tgt := 85) hx hb dL_does_72 (by decide) (fun c_72 => ?_) (fun c_72 => absurd c_72 (by decide))
    refine lv_iload_n hx hb dL_does_85 rfl (lv_at hl 1 rfl) ?_
    refine lv_bipush (v := 11) hx hb dL_does_86 (by decide) ?_
    refine lv_icmp_ne (tgt := 103) hx hb dL_does_88 (by decide) (fun c_88 => ?_) (fun c_88 => absurd c_88 (by decide))
    refine lv_iload_n hx hb dL_does_103 rfl (lv_at hl 1 rfl) ?_
    refine lv_bipush (v := 12) hx hb dL_does_104 (by decide) ?_
    refine lv_icmp_ne (tgt := 119) hx hb dL_does_106 (by decide) (fun c_106 => ?_) (fun c_106 => absurd c_106 (by decide))
    refine lv_iload_n hx hb dL_does_119 rfl (lv_at hl 1 rfl) ?_
    refine lv_bipush (v := 13) hx hb dL_does_120 (by decide) ?_
    refine lv_icmp_ne (tgt := 135) hx hb dL_does_122 (by decide) (fun c_122 => ?_) (fun c_122 => absurd c_122 (by decide))
    refine lv_iload_n hx hb dL_does_135 rfl (lv_at hl 1 rfl) ?_
    refine lv_bipush (v := 14) hx hb dL_does_136 (by decide) ?_
    refine lv_icmp_ne (tgt := 153) hx hb dL_does_138 (by decide) (fun c_138 => ?_) (fun c_138 => absurd c_138 (by decide))
    refine lv_iload_n hx hb dL_does_153 rfl (lv_at hl 1 rfl) ?_
    refine lv_bipush (v := 15) hx hb dL_does_154 (by decide) ?_
    refine lv_icmp_ne (tgt := 171) hx hb dL_does_156 (by decide) (fun c_156 => ?_) (fun c_156 => absurd c_156 (by decide))
    refine lv_iload_n hx hb dL_does_171 rfl (lv_at hl 1 rfl) ?_
    refine lv_bipush (v := 16) hx hb dL_does_172 (by decide) ?_
    refine lv_icmp_ne (tgt := 186) hx hb dL_does_174 (by decide) (fun c_174 => ?_) (fun c_174 => absurd c_174 (by decide))
    refine lv_iload_n hx hb dL_does_186 rfl (lv_at hl 1 rfl) ?_
    refine lv_bipush (v := 17) hx hb dL_does_187 (by decide) ?_
    refine lv_icmp_ne (tgt := 201) hx hb dL_does_189 (by decide) (fun c_189 => ?_) (fun c_189 => absurd c_189 (by decide))
    refine lv_iload_n hx hb dL_does_201 rfl (lv_at hl 1 rfl) ?_
    refine lv_bipush (v := 18) hx hb dL_does_202 (by decide) ?_
    refine lv_icmp_ne (tgt := 215) hx hb dL_does_204 (by decide) (fun c_204 => absurd c_204 (by decide)) (fun c_204 => ?_)
    refine lv_aload_n hx hb dL_does_207 rfl (lv_at hl 0 rfl) ?_
    refine lv_iload_n hx hb dL_does_208 rfl (lv_at hl 2 rfl) ?_
    refine g_catch (name := gIOB) (ws := []) (wc := w) (vx_runV (As := [.int a]) (rest := []) ⟨hx, hb, hml, hown, hts⟩ (HL s.heap.size) (cwV 1 hts gL_does_X7_partial rfl hc9 hs9 (by decide +kernel) hr9) (gPX_VA hP hD hK hE hS hA 0 he rfl) rfl rfl hl.1 rfl (lv_room (Nat.le_of_ble_eq_true rfl)) dL_does_209 hm9) hP hD hS hA hown [] ⟨0, 236, 237, 60⟩ [⟨0, 236, 243, 64⟩, ⟨0, 236, 249, 66⟩] (by rw [htab]; rfl) (fun z hz => absurd hz List.not_mem_nil) (by decide) (by decide) (hts (.classLink RL 60 "java/lang/IndexOutOfBoundsException") (List.mem_of_getElem? (i := 1) rfl)) (hE.cw (Cond.castable gIOB gIOB) (List.mem_of_getElem? (i := 5) rfl)) (fun q9 w1 H locs hG hP hD hS => ?_)
    refine lv_astore (lv' := [(5, .ref q9), (0, .ref h), (1, .int 18), (2, .int a), (3, .int b), (4, .int c0)]) hx hb dL_does_237 hl (by decide) rfl (fun ls hl => ?_)
    refine lv_ldc2 (v := -2100000000) hx hb hown (hts (.constantLong RL 62 (-2100000000)) (List.mem_of_getElem? (i := 4) rfl)) dL_does_239 ?_
    refine W.widen (k := 1) (n := 6) hm9.1 hm9.2 ?_
    exact W.lret (v := -2100000000) hx hb hr (fun t ht hW => ⟨⟨some (.long (-2100000000)), w1, rfl, ⟨rfl, hG⟩, by rw [← hAe]; exact hD, by rw [ht]; exact hP⟩, by rw [← hAe]; exact hS.F ht⟩) (by rw [← hAe]; exact hS.2.2) dL_does_242
  · skip
    refine gMet_ofWH (cc := cL_does) (maxL := 6) (ret := (some .long)) (hh := [(0, 236, 237, 60), (0, 236, 243, 64), (0, 236, 249, 66)]) (by decide) rfl ?_
    intro pg e s m args below meth c s₁ B hml hv
    obtain ⟨rfl, ⟨hsz, hP, hK, hD0, hE0⟩, hN⟩ := hv
    have hx := B.exec
    have hb := B.bytes
    have hr := B.returns
    have hts := atoms_spec (ws := wsL_does) B.pre
    have hown : s.vm.findClass RL = some m.cls := findClass_of_methodNamed B.named
    have htab : c.exceptionTable.toList = tableOf [(0, 236, 237, 60), (0, 236, 243, 64), (0, 236, 249, 66)] := vx_table (x := yL_does) B (hts _ List.mem_cons_self)
    have hlocks := B.notSynchronized
    subst hsz
    obtain ⟨A, hAe⟩ : ∃ A : Nat → Prop, A = va_A w s.heap.size := ⟨_, rfl⟩
    have hE : gE ad A s s.heap := by rw [hAe]; exact hE0
    have hD : va_D A w := by rw [hAe]; exact hD0.self (sz := s.heap.size)
    have hA : ∀ q : Nat, s.heap.size ≤ q → A q := fun q h => by rw [hAe]; exact Or.inr h
    have hS : va_S A s.heap s.heap [] := va_S.rf
    have hl := lv_entry ([.ref h, .int 18, .int a, .int b, .int c0]) (n := 6) (Nat.le_of_ble_eq_true rfl)
    rw [lg_entry_eq]
    generalize (lg_sl ([.ref h, .int 18, .int a, .int b, .int c0]) ++ List.replicate (6 - (lg_sl ([.ref h, .int 18, .int a, .int b, .int c0])).length) Slot.unset).toArray = ls at hl ⊢
    have hl : lv_has ls 6 [(0, .ref h), (1, .int 18), (2, .int a), (3, .int b), (4, .int c0)] := hl
    refine lv_iload_n hx hb dL_does_0 rfl (lv_at hl 1 rfl) ?_
    refine lv_bipush (v := 8) hx hb dL_does_1 (by decide) ?_
    refine lv_icmp_ge (tgt := 17) hx hb dL_does_3 (by decide) (fun c_3 => ?_) (fun c_3 => absurd c_3 (by decide))
    refine lv_iload_n hx hb dL_does_17 rfl (lv_at hl 1 rfl) ?_
    refine lv_bipush (v := 8) hx hb dL_does_18 (by decide) ?_
    refine lv_icmp_ne (tgt := 43) hx hb dL_does_20 (by decide) (fun c_20 => ?_) (fun c_20 => absurd c_20 (by decide))
    refine lv_iload_n hx hb dL_does_43 rfl (lv_at hl 1 rfl) ?_
    refine lv_bipush (v := 9) hx hb dL_does_44 (by decide) ?_
    refine lv_icmp_ne (tgt := 69) hx hb dL_does_46 (by decide) (fun c_46 => ?_) (fun c_46 => absurd c_46 (by decide))
    refine lv_iload_n hx hb dL_does_69 rfl (lv_at hl 1 rfl) ?_
    refine lv_bipush (v := 10) hx hb dL_does_70 (by decide) ?_
    refine lv_icmp_ne (tgt := 85) hx hb dL_does_72 (by decide) (fun c_72 => ?_) (fun c_72 => absurd c_72 (by decide))
    refine lv_iload_n hx hb dL_does_85 rfl (lv_at hl 1 rfl) ?_
    refine lv_bipush (v := 11) hx hb dL_does_86 (by decide) ?_
    refine lv_icmp_ne (tgt := 103) hx hb dL_does_88 (by decide) (fun c_88 => ?_) (fun c_88 => absurd c_88 (by decide))
    refine lv_iload_n hx hb dL_does_103 rfl (lv_at hl 1 rfl) ?_
    refine lv_bipush (v := 12) hx hb dL_does_104 (by decide) ?_
    refine lv_icmp_ne (tgt := 119) hx hb dL_does_106 (by decide) (fun c_106 => ?_) (fun c_106 => absurd c_106 (by decide))
    refine lv_iload_n hx hb dL_does_119 rfl (lv_at hl 1 rfl) ?_
    refine lv_bipush (v := 13) hx hb dL_does_120 (by decide) ?_
    refine lv_icmp_ne (tgt := 135) hx hb dL_does_122 (by decide) (fun c_122 => ?_) (fun c_122 => absurd c_122 (by decide))
    refine lv_iload_n hx hb dL_does_135 rfl (lv_at hl 1 rfl) ?_
    refine lv_bipush (v := 14) hx hb dL_does_136 (by decide) ?_
    refine lv_icmp_ne (tgt := 153) hx hb dL_does_138 (by decide) (fun c_138 => ?_) (fun c_138 => absurd c_138 (by decide))
    refine lv_iload_n hx hb dL_does_153 rfl (lv_at hl 1 rfl) ?_
    refine lv_bipush (v := 15) hx hb dL_does_154 (by decide) ?_
    refine lv_icmp_ne (tgt := 171) hx hb dL_does_156 (by decide) (fun c_156 => ?_) (fun c_156 => absurd c_156 (by decide))
    refine lv_iload_n hx hb dL_does_171 rfl (lv_at hl 1 rfl) ?_
    refine lv_bipush (v := 16) hx hb dL_does_172 (by decide) ?_
    refine lv_icmp_ne (tgt := 186) hx hb dL_does_174 (by decide) (fun c_174 => ?_) (fun c_174 => absurd c_174 (by decide))
    refine lv_iload_n hx hb dL_does_186 rfl (lv_at hl 1 rfl) ?_
    refine lv_bipush (v := 17) hx hb dL_does_187 (by decide) ?_
    refine lv_icmp_ne (tgt := 201) hx hb dL_does_189 (by decide) (fun c_189 => ?_) (fun c_189 => absurd c_189 (by decide))
    refine lv_iload_n hx hb dL_does_201 rfl (lv_at hl 1 rfl) ?_
    refine lv_bipush (v := 18) hx hb dL_does_202 (by decide) ?_
    refine lv_icmp_ne (tgt := 215) hx hb dL_does_204 (by decide) (fun c_204 => absurd c_204 (by decide)) (fun c_204 => ?_)
    refine lv_aload_n hx hb dL_does_207 rfl (lv_at hl 0 rfl) ?_
    refine lv_iload_n hx hb dL_does_208 rfl (lv_at hl 2 rfl) ?_
    refine g_catch (name := gIAE) (ws := []) (wc := w) (vx_runV (As := [.int a]) (rest := []) ⟨hx, hb, hml, hown, hts⟩ (HL s.heap.size) (cwV 1 hts gL_does_X7_partial rfl hc9 hs9 (by decide +kernel) hr9) (gPX_VA hP hD hK hE hS hA 0 he rfl) rfl rfl hl.1 rfl (lv_room (Nat.le_of_ble_eq_true rfl)) dL_does_209 hm9) hP hD hS hA hown [⟨0, 236, 237, 60⟩] ⟨0, 236, 243, 64⟩ [⟨0, 236, 249, 66⟩] (by rw [htab]; rfl) (fun z hz => by rcases List.mem_singleton.mp hz with rfl; exact Or.inr ⟨by decide, _, (hts (.classLink RL 60 "java/lang/IndexOutOfBoundsException") (List.mem_of_getElem? (i := 1) rfl)), hN.1⟩) (by decide) (by decide) (hts (.classLink RL 64 "java/lang/IllegalArgumentException") (List.mem_of_getElem? (i := 2) rfl)) (hE.cw (Cond.castable gIAE gIAE) (List.mem_of_getElem? (i := 3) rfl)) (fun q9 w1 H locs hG hP hD hS => ?_)
    refine lv_astore (lv' := [(5, .ref q9), (0, .ref h), (1, .int 18), (2, .int a), (3, .int b), (4, .int c0)]) hx hb dL_does_243 hl (by decide) rfl (fun ls hl => ?_)
    refine lv_ldc2 (v := -2100000000) hx hb hown (hts (.constantLong RL 62 (-2100000000)) (List.mem_of_getElem? (i := 4) rfl)) dL_does_245 ?_
    refine W.widen (k := 1) (n := 6) hm9.1 hm9.2 ?_
    exact W.lret (v := -2100000000) hx hb hr (fun t ht hW => ⟨⟨some (.long (-2100000000)), w1, rfl, ⟨rfl, hG⟩, by rw [← hAe]; exact hD, by rw [ht]; exact hP⟩, by rw [← hAe]; exact hS.F ht⟩) (by rw [← hAe]; exact hS.2.2) dL_does_248
  · skip
    refine gMet_ofWH (cc := cL_does) (maxL := 6) (ret := (some .long)) (hh := [(0, 236, 237, 60), (0, 236, 243, 64), (0, 236, 249, 66)]) (by decide) rfl ?_
    intro pg e s m args below meth c s₁ B hml hv
    obtain ⟨rfl, ⟨hsz, hP, hK, hD0, hE0⟩, hN⟩ := hv
    have hx := B.exec
    have hb := B.bytes
    have hr := B.returns
    have hts := atoms_spec (ws := wsL_does) B.pre
    have hown : s.vm.findClass RL = some m.cls := findClass_of_methodNamed B.named
    have htab : c.exceptionTable.toList = tableOf [(0, 236, 237, 60), (0, 236, 243, 64), (0, 236, 249, 66)] := vx_table (x := yL_does) B (hts _ List.mem_cons_self)
    have hlocks := B.notSynchronized
    subst hsz
    obtain ⟨A, hAe⟩ : ∃ A : Nat → Prop, A = va_A w s.heap.size := ⟨_, rfl⟩
    have hE : gE ad A s s.heap := by rw [hAe]; exact hE0
    have hD : va_D A w := by rw [hAe]; exact hD0.self (sz := s.heap.size)
    have hA : ∀ q : Nat, s.heap.size ≤ q → A q := fun q h => by rw [hAe]; exact Or.inr h
    have hS : va_S A s.heap s.heap [] := va_S.rf
    have hl := lv_entry ([.ref h, .int 18, .int a, .int b, .int c0]) (n := 6) (Nat.le_of_ble_eq_true rfl)
    rw [lg_entry_eq]
    generalize (lg_sl ([.ref h, .int 18, .int a, .int b, .int c0]) ++ List.replicate (6 - (lg_sl ([.ref h, .int 18, .int a, .int b, .int c0])).length) Slot.unset).toArray = ls at hl ⊢
    have hl : lv_has ls 6 [(0, .ref h), (1, .int 18), (2, .int a), (3, .int b), (4, .int c0)] := hl
    refine lv_iload_n hx hb dL_does_0 rfl (lv_at hl 1 rfl) ?_
    refine lv_bipush (v := 8) hx hb dL_does_1 (by decide) ?_
    refine lv_icmp_ge (tgt := 17) hx hb dL_does_3 (by decide) (fun c_3 => ?_) (fun c_3 => absurd c_3 (by decide))
    refine lv_iload_n hx hb dL_does_17 rfl (lv_at hl 1 rfl) ?_
    refine lv_bipush (v := 8) hx hb dL_does_18 (by decide) ?_
    refine lv_icmp_ne (tgt := 43) hx hb dL_does_20 (by decide) (fun c_20 => ?_) (fun c_20 => absurd c_20 (by decide))
    refine lv_iload_n hx hb dL_does_43 rfl (lv_at hl 1 rfl) ?_
    refine lv_bipush (v := 9) hx hb dL_does_44 (by decide) ?_
    refine lv_icmp_ne (tgt := 69) hx hb dL_does_46 (by decide) (fun c_46 => ?_) (fun c_46 => absurd c_46 (by decide))
    refine lv_iload_n hx hb dL_does_69 rfl (lv_at hl 1 rfl) ?_
    refine lv_bipush (v := 10) hx hb dL_does_70 (by decide) ?_
    refine lv_icmp_ne (tgt := 85) hx hb dL_does_72 (by decide) (fun c_72 => ?_) (fun c_72 => absurd c_72 (by decide))
    refine lv_iload_n hx hb dL_does_85 rfl (lv_at hl 1 rfl) ?_
    refine lv_bipush (v := 11) hx hb dL_does_86 (by decide) ?_
    refine lv_icmp_ne (tgt := 103) hx hb dL_does_88 (by decide) (fun c_88 => ?_) (fun c_88 => absurd c_88 (by decide))
    refine lv_iload_n hx hb dL_does_103 rfl (lv_at hl 1 rfl) ?_
    refine lv_bipush (v := 12) hx hb dL_does_104 (by decide) ?_
    refine lv_icmp_ne (tgt := 119) hx hb dL_does_106 (by decide) (fun c_106 => ?_) (fun c_106 => absurd c_106 (by decide))
    refine lv_iload_n hx hb dL_does_119 rfl (lv_at hl 1 rfl) ?_
    refine lv_bipush (v := 13) hx hb dL_does_120 (by decide) ?_
    refine lv_icmp_ne (tgt := 135) hx hb dL_does_122 (by decide) (fun c_122 => ?_) (fun c_122 => absurd c_122 (by decide))
    refine lv_iload_n hx hb dL_does_135 rfl (lv_at hl 1 rfl) ?_
    refine lv_bipush (v := 14) hx hb dL_does_136 (by decide) ?_
    refine lv_icmp_ne (tgt := 153) hx hb dL_does_138 (by decide) (fun c_138 => ?_) (fun c_138 => absurd c_138 (by decide))
    refine lv_iload_n hx hb dL_does_153 rfl (lv_at hl 1 rfl) ?_
    refine lv_bipush (v := 15) hx hb dL_does_154 (by decide) ?_
    refine lv_icmp_ne (tgt := 171) hx hb dL_does_156 (by decide) (fun c_156 => ?_) (fun c_156 => absurd c_156 (by decide))
    refine lv_iload_n hx hb dL_does_171 rfl (lv_at hl 1 rfl) ?_
    refine lv_bipush (v := 16) hx hb dL_does_172 (by decide) ?_
    refine lv_icmp_ne (tgt := 186) hx hb dL_does_174 (by decide) (fun c_174 => ?_) (fun c_174 => absurd c_174 (by decide))
    refine lv_iload_n hx hb dL_does_186 rfl (lv_at hl 1 rfl) ?_
    refine lv_bipush (v := 17) hx hb dL_does_187 (by decide) ?_
    refine lv_icmp_ne (tgt := 201) hx hb dL_does_189 (by decide) (fun c_189 => ?_) (fun c_189 => absurd c_189 (by decide))
    refine lv_iload_n hx hb dL_does_201 rfl (lv_at hl 1 rfl) ?_
    refine lv_bipush (v := 18) hx hb dL_does_202 (by decide) ?_
    refine lv_icmp_ne (tgt := 215) hx hb dL_does_204 (by decide) (fun c_204 => absurd c_204 (by decide)) (fun c_204 => ?_)
    refine lv_aload_n hx hb dL_does_207 rfl (lv_at hl 0 rfl) ?_
    refine lv_iload_n hx hb dL_does_208 rfl (lv_at hl 2 rfl) ?_
    refine g_catch (name := gISE) (ws := []) (wc := w) (vx_runV (As := [.int a]) (rest := []) ⟨hx, hb, hml, hown, hts⟩ (HL s.heap.size) (cwV 1 hts gL_does_X7_partial rfl hc9 hs9 (by decide +kernel) hr9) (gPX_VA hP hD hK hE hS hA 0 he rfl) rfl rfl hl.1 rfl (lv_room (Nat.le_of_ble_eq_true rfl)) dL_does_209 hm9) hP hD hS hA hown [⟨0, 236, 237, 60⟩, ⟨0, 236, 243, 64⟩] ⟨0, 236, 249, 66⟩ [] (by rw [htab]; rfl) (fun z hz => by
      rcases List.mem_cons.mp hz with rfl | hz
      · exact Or.inr ⟨by decide, _, (hts (.classLink RL 60 "java/lang/IndexOutOfBoundsException") (List.mem_of_getElem? (i := 1) rfl)), hN.2.1⟩
      · rcases List.mem_singleton.mp hz with rfl; exact Or.inr ⟨by decide, _, (hts (.classLink RL 64 "java/lang/IllegalArgumentException") (List.mem_of_getElem? (i := 2) rfl)), hN.2.2⟩) (by decide) (by decide) (hts (.classLink RL 66 "java/lang/IllegalStateException") (List.mem_of_getElem? (i := 3) rfl)) (hE.cw (Cond.castable gISE gISE) (List.mem_of_getElem? (i := 4) rfl)) (fun q9 w1 H locs hG hP hD hS => ?_)
    refine lv_astore (lv' := [(5, .ref q9), (0, .ref h), (1, .int 18), (2, .int a), (3, .int b), (4, .int c0)]) hx hb dL_does_249 hl (by decide) rfl (fun ls hl => ?_)
    refine lv_ldc2 (v := -2100000000) hx hb hown (hts (.constantLong RL 62 (-2100000000)) (List.mem_of_getElem? (i := 4) rfl)) dL_does_251 ?_
    refine W.widen (k := 1) (n := 6) hm9.1 hm9.2 ?_
    exact W.lret (v := -2100000000) hx hb hr (fun t ht hW => ⟨⟨some (.long (-2100000000)), w1, rfl, ⟨rfl, hG⟩, by rw [← hAe]; exact hD, by rw [ht]; exact hP⟩, by rw [← hAe]; exact hS.F ht⟩) (by rw [← hAe]; exact hS.2.2) dL_does_254
set_option maxRecDepth 100000 in
theorem dn_restart {l : Launch} {D : va_G} {y : Nat → ClassId} {ad : Nat → Nat} {w : va_W} {h : Nat} {fs : List Value} (he : w[0]? = some (h, .inr (5, fs))) {a b c0 : Int32} {G : va_W → Prop} {rm : Room} {mc ms : Nat} {x : Int32} (HL : ∀ sz, Met l yX7_restart wsX7_restart rm (gPX D y ad [.ref h, .int a] w sz) (gQn D w (fun v w1 => v = some (.int x) ∧ G w1)) mc ms (va_A w sz)) (hc9 : rm.cells = mc) (hs9 : rm.slots = ms) (hr9 : rm.frames + 1 ≤ 11 ∧ 8 + (4 + 11) + rm.locals ≤ 400) (hm9 : 0 + mc ≤ 1 ∧ 0 + ms ≤ 6) (sz : Nat) : Met l yL_does wsL_does ({ frames := 11, cells := 1, slots := 6, locals := 400 } : Room) (gPN D y ad [.ref h, .int 19, .int a, .int b, .int c0] w sz) (gQn D w (fun v w1 => v = some (.long (x.toInt64)) ∧ G w1)) 1 6 (va_A w sz) := by
  refine gMet_ofWH (cc := cL_does) (maxL := 6) (ret := (some .long)) (hh := [(0, 236, 237, 60), (0, 236, 243, 64), (0, 236, 249, 66)]) (by decide) rfl ?_
  intro pg e s m args below meth c s₁ B hml hv
  obtain ⟨rfl, ⟨hsz, hP, hK, hD0, hE0⟩, hN⟩ := hv
  have hx := B.exec
  have hb := B.bytes
  have hr := B.returns
  have hts := atoms_spec (ws := wsL_does) B.pre
  have hown : s.vm.findClass RL = some m.cls := findClass_of_methodNamed B.named
  have htab : c.exceptionTable.toList = tableOf [(0, 236, 237, 60), (0, 236, 243, 64), (0, 236, 249, 66)] := vx_table (x := yL_does) B (hts _ List.mem_cons_self)
  have hlocks := B.notSynchronized
  subst hsz
  obtain ⟨A, hAe⟩ : ∃ A : Nat → Prop, A = va_A w s.heap.size := ⟨_, rfl⟩
  have hE : gE ad A s s.heap := by rw [hAe]; exact hE0
  have hD : va_D A w := by rw [hAe]; exact hD0.self (sz := s.heap.size)
  have hA : ∀ q : Nat, s.heap.size ≤ q → A q := fun q h => by rw [hAe]; exact Or.inr h
  have hS : va_S A s.heap s.heap [] := va_S.rf
  have hl := lv_entry ([.ref h, .int 19, .int a, .int b, .int c0]) (n := 6) (Nat.le_of_ble_eq_true rfl)
  rw [lg_entry_eq]
  generalize (lg_sl ([.ref h, .int 19, .int a, .int b, .int c0]) ++ List.replicate (6 - (lg_sl ([.ref h, .int 19, .int a, .int b, .int c0])).length) Slot.unset).toArray = ls at hl ⊢
  have hl : lv_has ls 6 [(0, .ref h), (1, .int 19), (2, .int a), (3, .int b), (4, .int c0)] := hl
  refine lv_iload_n hx hb dL_does_0 rfl (lv_at hl 1 rfl) ?_
  refine lv_bipush (v := 8) hx hb dL_does_1 (by decide) ?_
  refine lv_icmp_ge (tgt := 17) hx hb dL_does_3 (by decide) (fun c_3 => ?_) (fun c_3 => absurd c_3 (by decide))
  refine lv_iload_n hx hb dL_does_17 rfl (lv_at hl 1 rfl) ?_
  refine lv_bipush (v := 8) hx hb dL_does_18 (by decide) ?_
  refine lv_icmp_ne (tgt := 43) hx hb dL_does_20 (by decide) (fun c_20 => ?_) (fun c_20 => absurd c_20 (by decide))
  refine lv_iload_n hx hb dL_does_43 rfl (lv_at hl 1 rfl) ?_
  refine lv_bipush (v := 9) hx hb dL_does_44 (by decide) ?_
  refine lv_icmp_ne (tgt := 69) hx hb dL_does_46 (by decide) (fun c_46 => ?_) (fun c_46 => absurd c_46 (by decide))
  refine lv_iload_n hx hb dL_does_69 rfl (lv_at hl 1 rfl) ?_
  refine lv_bipush (v := 10) hx hb dL_does_70 (by decide) ?_
  refine lv_icmp_ne (tgt := 85) hx hb dL_does_72 (by decide) (fun c_72 => ?_) (fun c_72 => absurd c_72 (by decide))
  refine lv_iload_n hx hb dL_does_85 rfl (lv_at hl 1 rfl) ?_
  refine lv_bipush (v := 11) hx hb dL_does_86 (by decide) ?_
  refine lv_icmp_ne (tgt := 103) hx hb dL_does_88 (by decide) (fun c_88 => ?_) (fun c_88 => absurd c_88 (by decide))
  refine lv_iload_n hx hb dL_does_103 rfl (lv_at hl 1 rfl) ?_
  refine lv_bipush (v := 12) hx hb dL_does_104 (by decide) ?_
  refine lv_icmp_ne (tgt := 119) hx hb dL_does_106 (by decide) (fun c_106 => ?_) (fun c_106 => absurd c_106 (by decide))
  refine lv_iload_n hx hb dL_does_119 rfl (lv_at hl 1 rfl) ?_
  refine lv_bipush (v := 13) hx hb dL_does_120 (by decide) ?_
  refine lv_icmp_ne (tgt := 135) hx hb dL_does_122 (by decide) (fun c_122 => ?_) (fun c_122 => absurd c_122 (by decide))
  refine lv_iload_n hx hb dL_does_135 rfl (lv_at hl 1 rfl) ?_
  refine lv_bipush (v := 14) hx hb dL_does_136 (by decide) ?_
  refine lv_icmp_ne (tgt := 153) hx hb dL_does_138 (by decide) (fun c_138 => ?_) (fun c_138 => absurd c_138 (by decide))
  refine lv_iload_n hx hb dL_does_153 rfl (lv_at hl 1 rfl) ?_
  refine lv_bipush (v := 15) hx hb dL_does_154 (by decide) ?_
  refine lv_icmp_ne (tgt := 171) hx hb dL_does_156 (by decide) (fun c_156 => ?_) (fun c_156 => absurd c_156 (by decide))
  refine lv_iload_n hx hb dL_does_171 rfl (lv_at hl 1 rfl) ?_
  refine lv_bipush (v := 16) hx hb dL_does_172 (by decide) ?_
  refine lv_icmp_ne (tgt := 186) hx hb dL_does_174 (by decide) (fun c_174 => ?_) (fun c_174 => absurd c_174 (by decide))
  refine lv_iload_n hx hb dL_does_186 rfl (lv_at hl 1 rfl) ?_
  refine lv_bipush (v := 17) hx hb dL_does_187 (by decide) ?_
  refine lv_icmp_ne (tgt := 201) hx hb dL_does_189 (by decide) (fun c_189 => ?_) (fun c_189 => absurd c_189 (by decide))
  refine lv_iload_n hx hb dL_does_201 rfl (lv_at hl 1 rfl) ?_
  refine lv_bipush (v := 18) hx hb dL_does_202 (by decide) ?_
  refine lv_icmp_ne (tgt := 215) hx hb dL_does_204 (by decide) (fun c_204 => ?_) (fun c_204 => absurd c_204 (by decide))
  refine lv_iload_n hx hb dL_does_215 rfl (lv_at hl 1 rfl) ?_
  refine lv_bipush (v := 19) hx hb dL_does_216 (by decide) ?_
  refine lv_icmp_ne (tgt := 230) hx hb dL_does_218 (by decide) (fun c_218 => absurd c_218 (by decide)) (fun c_218 => ?_)
  refine lv_aload_n hx hb dL_does_221 rfl (lv_at hl 0 rfl) ?_
  refine lv_iload_n hx hb dL_does_222 rfl (lv_at hl 2 rfl) ?_
  refine g_callN (ws := []) (wc := w) (va_runV (As := [.int a]) (rest := []) ⟨hx, hb, hml, hown, hts⟩ (HL s.heap.size) (cwV 1 hts gL_does_X7_restart rfl hc9 hs9 (by decide +kernel) hr9) (gPX_VA hP hD hK hE hS hA 0 he rfl) rfl rfl hl.1 rfl (lv_room (Nat.le_of_ble_eq_true rfl)) dL_does_223 hm9) hP hD hS hA (fun v w1 H locs hf hP hD hS => ?_)
  obtain ⟨rfl, hG⟩ := hf
  refine lv_i2l (v := x.toInt64) hx hb dL_does_226 rfl ?_
  refine lv_goto (tgt := 236) hx hb dL_does_227 (by decide) ?_
  refine W.widen (k := 1) (n := 6) hm9.1 hm9.2 ?_
  exact W.lret (v := x.toInt64) hx hb hr (fun t ht hW => ⟨⟨some (.long (x.toInt64)), w1, rfl, ⟨rfl, hG⟩, by rw [← hAe]; exact hD, by rw [ht]; exact hP⟩, by rw [← hAe]; exact hS.F ht⟩) (by rw [← hAe]; exact hS.2.2) dL_does_236
set_option maxRecDepth 100000 in
theorem dt_restart {l : Launch} {D : va_G} {y : Nat → ClassId} {ad : Nat → Nat} {w : va_W} {h : Nat} {fs : List Value} (he : w[0]? = some (h, .inr (5, fs))) {a b c0 : Int32} {G : va_W → Prop} {rm : Room} {mc ms : Nat} {E : String} (hE9 : E = gIOB ∨ E = gIAE ∨ E = gISE) (HL : ∀ sz, vx_Met l yX7_restart wsX7_restart rm (gPX D y ad [.ref h, .int a] w sz) gNo (gXC D w E G) mc ms (va_A w sz)) (hc9 : rm.cells = mc) (hs9 : rm.slots = ms) (hr9 : rm.frames + 1 ≤ 11 ∧ 8 + (4 + 11) + rm.locals ≤ 400) (hm9 : 0 + mc ≤ 1 ∧ 0 + ms ≤ 6) (sz : Nat) : Met l yL_does wsL_does ({ frames := 11, cells := 1, slots := 6, locals := 400 } : Room) (gPN D y ad [.ref h, .int 19, .int a, .int b, .int c0] w sz) (gQn D w (fun v w1 => v = some (.long (-2100000000)) ∧ G w1)) 1 6 (va_A w sz) := by
  rcases hE9 with rfl | rfl | rfl
  · skip
    refine gMet_ofWH (cc := cL_does) (maxL := 6) (ret := (some .long)) (hh := [(0, 236, 237, 60), (0, 236, 243, 64), (0, 236, 249, 66)]) (by decide) rfl ?_
    intro pg e s m args below meth c s₁ B hml hv
    obtain ⟨rfl, ⟨hsz, hP, hK, hD0, hE0⟩, hN⟩ := hv
    have hx := B.exec
    have hb := B.bytes
    have hr := B.returns
    have hts := atoms_spec (ws := wsL_does) B.pre
    have hown : s.vm.findClass RL = some m.cls := findClass_of_methodNamed B.named
    have htab : c.exceptionTable.toList = tableOf [(0, 236, 237, 60), (0, 236, 243, 64), (0, 236, 249, 66)] := vx_table (x := yL_does) B (hts _ List.mem_cons_self)
    have hlocks := B.notSynchronized
    subst hsz
    obtain ⟨A, hAe⟩ : ∃ A : Nat → Prop, A = va_A w s.heap.size := ⟨_, rfl⟩
    have hE : gE ad A s s.heap := by rw [hAe]; exact hE0
    have hD : va_D A w := by rw [hAe]; exact hD0.self (sz := s.heap.size)
    have hA : ∀ q : Nat, s.heap.size ≤ q → A q := fun q h => by rw [hAe]; exact Or.inr h
    have hS : va_S A s.heap s.heap [] := va_S.rf
    have hl := lv_entry ([.ref h, .int 19, .int a, .int b, .int c0]) (n := 6) (Nat.le_of_ble_eq_true rfl)
    rw [lg_entry_eq]
    generalize (lg_sl ([.ref h, .int 19, .int a, .int b, .int c0]) ++ List.replicate (6 - (lg_sl ([.ref h, .int 19, .int a, .int b, .int c0])).length) Slot.unset).toArray = ls at hl ⊢
    have hl : lv_has ls 6 [(0, .ref h), (1, .int 19), (2, .int a), (3, .int b), (4, .int c0)] := hl
    refine lv_iload_n hx hb dL_does_0 rfl (lv_at hl 1 rfl) ?_
    refine lv_bipush (v := 8) hx hb dL_does_1 (by decide) ?_
    refine lv_icmp_ge (tgt := 17) hx hb dL_does_3 (by decide) (fun c_3 => ?_) (fun c_3 => absurd c_3 (by decide))
    refine lv_iload_n hx hb dL_does_17 rfl (lv_at hl 1 rfl) ?_
    refine lv_bipush (v := 8) hx hb dL_does_18 (by decide) ?_
    refine lv_icmp_ne (tgt := 43) hx hb dL_does_20 (by decide) (fun c_20 => ?_) (fun c_20 => absurd c_20 (by decide))
    refine lv_iload_n hx hb dL_does_43 rfl (lv_at hl 1 rfl) ?_
    refine lv_bipush (v := 9) hx hb dL_does_44 (by decide) ?_
    refine lv_icmp_ne (tgt := 69) hx hb dL_does_46 (by decide) (fun c_46 => ?_) (fun c_46 => absurd c_46 (by decide))
    refine lv_iload_n hx hb dL_does_69 rfl (lv_at hl 1 rfl) ?_
    refine lv_bipush (v := 10) hx hb dL_does_70 (by decide) ?_
    refine lv_icmp_ne (tgt := 85) hx hb dL_does_72 (by decide) (fun c_72 => ?_) (fun c_72 => absurd c_72 (by decide))
    refine lv_iload_n hx hb dL_does_85 rfl (lv_at hl 1 rfl) ?_
    refine lv_bipush (v := 11) hx hb dL_does_86 (by decide) ?_
    refine lv_icmp_ne (tgt := 103) hx hb dL_does_88 (by decide) (fun c_88 => ?_) (fun c_88 => absurd c_88 (by decide))
    refine lv_iload_n hx hb dL_does_103 rfl (lv_at hl 1 rfl) ?_
    refine lv_bipush (v := 12) hx hb dL_does_104 (by decide) ?_
    refine lv_icmp_ne (tgt := 119) hx hb dL_does_106 (by decide) (fun c_106 => ?_) (fun c_106 => absurd c_106 (by decide))
    refine lv_iload_n hx hb dL_does_119 rfl (lv_at hl 1 rfl) ?_
    refine lv_bipush (v := 13) hx hb dL_does_120 (by decide) ?_
    refine lv_icmp_ne (tgt := 135) hx hb dL_does_122 (by decide) (fun c_122 => ?_) (fun c_122 => absurd c_122 (by decide))
    refine lv_iload_n hx hb dL_does_135 rfl (lv_at hl 1 rfl) ?_
    refine lv_bipush (v := 14) hx hb dL_does_136 (by decide) ?_
    refine lv_icmp_ne (tgt := 153) hx hb dL_does_138 (by decide) (fun c_138 => ?_) (fun c_138 => absurd c_138 (by decide))
    refine lv_iload_n hx hb dL_does_153 rfl (lv_at hl 1 rfl) ?_
    refine lv_bipush (v := 15) hx hb dL_does_154 (by decide) ?_
    refine lv_icmp_ne (tgt := 171) hx hb dL_does_156 (by decide) (fun c_156 => ?_) (fun c_156 => absurd c_156 (by decide))
    refine lv_iload_n hx hb dL_does_171 rfl (lv_at hl 1 rfl) ?_
    refine lv_bipush (v := 16) hx hb dL_does_172 (by decide) ?_
    refine lv_icmp_ne (tgt := 186) hx hb dL_does_174 (by decide) (fun c_174 => ?_) (fun c_174 => absurd c_174 (by decide))
    refine lv_iload_n hx hb dL_does_186 rfl (lv_at hl 1 rfl) ?_
    refine lv_bipush (v := 17) hx hb dL_does_187 (by decide) ?_
    refine lv_icmp_ne (tgt := 201) hx hb dL_does_189 (by decide) (fun c_189 => ?_) (fun c_189 => absurd c_189 (by decide))
    refine lv_iload_n hx hb dL_does_201 rfl (lv_at hl 1 rfl) ?_
    refine lv_bipush (v := 18) hx hb dL_does_202 (by decide) ?_
    refine lv_icmp_ne (tgt := 215) hx hb dL_does_204 (by decide) (fun c_204 => ?_) (fun c_204 => absurd c_204 (by decide))
    refine lv_iload_n hx hb dL_does_215 rfl (lv_at hl 1 rfl) ?_
    refine lv_bipush (v := 19) hx hb dL_does_216 (by decide) ?_
    refine lv_icmp_ne (tgt := 230) hx hb dL_does_218 (by decide) (fun c_218 => absurd c_218 (by decide)) (fun c_218 => ?_)
    refine lv_aload_n hx hb dL_does_221 rfl (lv_at hl 0 rfl) ?_
    refine lv_iload_n hx hb dL_does_222 rfl (lv_at hl 2 rfl) ?_
    refine g_catch (name := gIOB) (ws := []) (wc := w) (vx_runV (As := [.int a]) (rest := []) ⟨hx, hb, hml, hown, hts⟩ (HL s.heap.size) (cwV 1 hts gL_does_X7_restart rfl hc9 hs9 (by decide +kernel) hr9) (gPX_VA hP hD hK hE hS hA 0 he rfl) rfl rfl hl.1 rfl (lv_room (Nat.le_of_ble_eq_true rfl)) dL_does_223 hm9) hP hD hS hA hown [] ⟨0, 236, 237, 60⟩ [⟨0, 236, 243, 64⟩, ⟨0, 236, 249, 66⟩] (by rw [htab]; rfl) (fun z hz => absurd hz List.not_mem_nil) (by decide) (by decide) (hts (.classLink RL 60 "java/lang/IndexOutOfBoundsException") (List.mem_of_getElem? (i := 1) rfl)) (hE.cw (Cond.castable gIOB gIOB) (List.mem_of_getElem? (i := 5) rfl)) (fun q9 w1 H locs hG hP hD hS => ?_)
    refine lv_astore (lv' := [(5, .ref q9), (0, .ref h), (1, .int 19), (2, .int a), (3, .int b), (4, .int c0)]) hx hb dL_does_237 hl (by decide) rfl (fun ls hl => ?_)
    refine lv_ldc2 (v := -2100000000) hx hb hown (hts (.constantLong RL 62 (-2100000000)) (List.mem_of_getElem? (i := 4) rfl)) dL_does_239 ?_
    refine W.widen (k := 1) (n := 6) hm9.1 hm9.2 ?_
    exact W.lret (v := -2100000000) hx hb hr (fun t ht hW => ⟨⟨some (.long (-2100000000)), w1, rfl, ⟨rfl, hG⟩, by rw [← hAe]; exact hD, by rw [ht]; exact hP⟩, by rw [← hAe]; exact hS.F ht⟩) (by rw [← hAe]; exact hS.2.2) dL_does_242
  · skip
    refine gMet_ofWH (cc := cL_does) (maxL := 6) (ret := (some .long)) (hh := [(0, 236, 237, 60), (0, 236, 243, 64), (0, 236, 249, 66)]) (by decide) rfl ?_
    intro pg e s m args below meth c s₁ B hml hv
    obtain ⟨rfl, ⟨hsz, hP, hK, hD0, hE0⟩, hN⟩ := hv
    have hx := B.exec
    have hb := B.bytes
    have hr := B.returns
    have hts := atoms_spec (ws := wsL_does) B.pre
    have hown : s.vm.findClass RL = some m.cls := findClass_of_methodNamed B.named
    have htab : c.exceptionTable.toList = tableOf [(0, 236, 237, 60), (0, 236, 243, 64), (0, 236, 249, 66)] := vx_table (x := yL_does) B (hts _ List.mem_cons_self)
    have hlocks := B.notSynchronized
    subst hsz
    obtain ⟨A, hAe⟩ : ∃ A : Nat → Prop, A = va_A w s.heap.size := ⟨_, rfl⟩
    have hE : gE ad A s s.heap := by rw [hAe]; exact hE0
    have hD : va_D A w := by rw [hAe]; exact hD0.self (sz := s.heap.size)
    have hA : ∀ q : Nat, s.heap.size ≤ q → A q := fun q h => by rw [hAe]; exact Or.inr h
    have hS : va_S A s.heap s.heap [] := va_S.rf
    have hl := lv_entry ([.ref h, .int 19, .int a, .int b, .int c0]) (n := 6) (Nat.le_of_ble_eq_true rfl)
    rw [lg_entry_eq]
    generalize (lg_sl ([.ref h, .int 19, .int a, .int b, .int c0]) ++ List.replicate (6 - (lg_sl ([.ref h, .int 19, .int a, .int b, .int c0])).length) Slot.unset).toArray = ls at hl ⊢
    have hl : lv_has ls 6 [(0, .ref h), (1, .int 19), (2, .int a), (3, .int b), (4, .int c0)] := hl
    refine lv_iload_n hx hb dL_does_0 rfl (lv_at hl 1 rfl) ?_
    refine lv_bipush (v := 8) hx hb dL_does_1 (by decide) ?_
    refine lv_icmp_ge (tgt := 17) hx hb dL_does_3 (by decide) (fun c_3 => ?_) (fun c_3 => absurd c_3 (by decide))
    refine lv_iload_n hx hb dL_does_17 rfl (lv_at hl 1 rfl) ?_
    refine lv_bipush (v := 8) hx hb dL_does_18 (by decide) ?_
    refine lv_icmp_ne (tgt := 43) hx hb dL_does_20 (by decide) (fun c_20 => ?_) (fun c_20 => absurd c_20 (by decide))
    refine lv_iload_n hx hb dL_does_43 rfl (lv_at hl 1 rfl) ?_
    refine lv_bipush (v := 9) hx hb dL_does_44 (by decide) ?_
    refine lv_icmp_ne (tgt := 69) hx hb dL_does_46 (by decide) (fun c_46 => ?_) (fun c_46 => absurd c_46 (by decide))
    refine lv_iload_n hx hb dL_does_69 rfl (lv_at hl 1 rfl) ?_
    refine lv_bipush (v := 10) hx hb dL_does_70 (by decide) ?_
    refine lv_icmp_ne (tgt := 85) hx hb dL_does_72 (by decide) (fun c_72 => ?_) (fun c_72 => absurd c_72 (by decide))
    refine lv_iload_n hx hb dL_does_85 rfl (lv_at hl 1 rfl) ?_
    refine lv_bipush (v := 11) hx hb dL_does_86 (by decide) ?_
    refine lv_icmp_ne (tgt := 103) hx hb dL_does_88 (by decide) (fun c_88 => ?_) (fun c_88 => absurd c_88 (by decide))
    refine lv_iload_n hx hb dL_does_103 rfl (lv_at hl 1 rfl) ?_
    refine lv_bipush (v := 12) hx hb dL_does_104 (by decide) ?_
    refine lv_icmp_ne (tgt := 119) hx hb dL_does_106 (by decide) (fun c_106 => ?_) (fun c_106 => absurd c_106 (by decide))
    refine lv_iload_n hx hb dL_does_119 rfl (lv_at hl 1 rfl) ?_
    refine lv_bipush (v := 13) hx hb dL_does_120 (by decide) ?_
    refine lv_icmp_ne (tgt := 135) hx hb dL_does_122 (by decide) (fun c_122 => ?_) (fun c_122 => absurd c_122 (by decide))
    refine lv_iload_n hx hb dL_does_135 rfl (lv_at hl 1 rfl) ?_
    refine lv_bipush (v := 14) hx hb dL_does_136 (by decide) ?_
    refine lv_icmp_ne (tgt := 153) hx hb dL_does_138 (by decide) (fun c_138 => ?_) (fun c_138 => absurd c_138 (by decide))
    refine lv_iload_n hx hb dL_does_153 rfl (lv_at hl 1 rfl) ?_
    refine lv_bipush (v := 15) hx hb dL_does_154 (by decide) ?_
    refine lv_icmp_ne (tgt := 171) hx hb dL_does_156 (by decide) (fun c_156 => ?_) (fun c_156 => absurd c_156 (by decide))
    refine lv_iload_n hx hb dL_does_171 rfl (lv_at hl 1 rfl) ?_
    refine lv_bipush (v := 16) hx hb dL_does_172 (by decide) ?_
    refine lv_icmp_ne (tgt := 186) hx hb dL_does_174 (by decide) (fun c_174 => ?_) (fun c_174 => absurd c_174 (by decide))
    refine lv_iload_n hx hb dL_does_186 rfl (lv_at hl 1 rfl) ?_
    refine lv_bipush (v := 17) hx hb dL_does_187 (by decide) ?_
    refine lv_icmp_ne (tgt := 201) hx hb dL_does_189 (by decide) (fun c_189 => ?_) (fun c_189 => absurd c_189 (by decide))
    refine lv_iload_n hx hb dL_does_201 rfl (lv_at hl 1 rfl) ?_
    refine lv_bipush (v := 18) hx hb dL_does_202 (by decide) ?_
    refine lv_icmp_ne (tgt := 215) hx hb dL_does_204 (by decide) (fun c_204 => ?_) (fun c_204 => absurd c_204 (by decide))
    refine lv_iload_n hx hb dL_does_215 rfl (lv_at hl 1 rfl) ?_
    refine lv_bipush (v := 19) hx hb dL_does_216 (by decide) ?_
    refine lv_icmp_ne (tgt := 230) hx hb dL_does_218 (by decide) (fun c_218 => absurd c_218 (by decide)) (fun c_218 => ?_)
    refine lv_aload_n hx hb dL_does_221 rfl (lv_at hl 0 rfl) ?_
    refine lv_iload_n hx hb dL_does_222 rfl (lv_at hl 2 rfl) ?_
    refine g_catch (name := gIAE) (ws := []) (wc := w) (vx_runV (As := [.int a]) (rest := []) ⟨hx, hb, hml, hown, hts⟩ (HL s.heap.size) (cwV 1 hts gL_does_X7_restart rfl hc9 hs9 (by decide +kernel) hr9) (gPX_VA hP hD hK hE hS hA 0 he rfl) rfl rfl hl.1 rfl (lv_room (Nat.le_of_ble_eq_true rfl)) dL_does_223 hm9) hP hD hS hA hown [⟨0, 236, 237, 60⟩] ⟨0, 236, 243, 64⟩ [⟨0, 236, 249, 66⟩] (by rw [htab]; rfl) (fun z hz => by rcases List.mem_singleton.mp hz with rfl; exact Or.inr ⟨by decide, _, (hts (.classLink RL 60 "java/lang/IndexOutOfBoundsException") (List.mem_of_getElem? (i := 1) rfl)), hN.1⟩) (by decide) (by decide) (hts (.classLink RL 64 "java/lang/IllegalArgumentException") (List.mem_of_getElem? (i := 2) rfl)) (hE.cw (Cond.castable gIAE gIAE) (List.mem_of_getElem? (i := 3) rfl)) (fun q9 w1 H locs hG hP hD hS => ?_)
    refine lv_astore (lv' := [(5, .ref q9), (0, .ref h), (1, .int 19), (2, .int a), (3, .int b), (4, .int c0)]) hx hb dL_does_243 hl (by decide) rfl (fun ls hl => ?_)
    refine lv_ldc2 (v := -2100000000) hx hb hown (hts (.constantLong RL 62 (-2100000000)) (List.mem_of_getElem? (i := 4) rfl)) dL_does_245 ?_
    refine W.widen (k := 1) (n := 6) hm9.1 hm9.2 ?_
    exact W.lret (v := -2100000000) hx hb hr (fun t ht hW => ⟨⟨some (.long (-2100000000)), w1, rfl, ⟨rfl, hG⟩, by rw [← hAe]; exact hD, by rw [ht]; exact hP⟩, by rw [← hAe]; exact hS.F ht⟩) (by rw [← hAe]; exact hS.2.2) dL_does_248
  · skip
    refine gMet_ofWH (cc := cL_does) (maxL := 6) (ret := (some .long)) (hh := [(0, 236, 237, 60), (0, 236, 243, 64), (0, 236, 249, 66)]) (by decide) rfl ?_
    intro pg e s m args below meth c s₁ B hml hv
    obtain ⟨rfl, ⟨hsz, hP, hK, hD0, hE0⟩, hN⟩ := hv
    have hx := B.exec
    have hb := B.bytes
    have hr := B.returns
    have hts := atoms_spec (ws := wsL_does) B.pre
    have hown : s.vm.findClass RL = some m.cls := findClass_of_methodNamed B.named
    have htab : c.exceptionTable.toList = tableOf [(0, 236, 237, 60), (0, 236, 243, 64), (0, 236, 249, 66)] := vx_table (x := yL_does) B (hts _ List.mem_cons_self)
    have hlocks := B.notSynchronized
    subst hsz
    obtain ⟨A, hAe⟩ : ∃ A : Nat → Prop, A = va_A w s.heap.size := ⟨_, rfl⟩
    have hE : gE ad A s s.heap := by rw [hAe]; exact hE0
    have hD : va_D A w := by rw [hAe]; exact hD0.self (sz := s.heap.size)
    have hA : ∀ q : Nat, s.heap.size ≤ q → A q := fun q h => by rw [hAe]; exact Or.inr h
    have hS : va_S A s.heap s.heap [] := va_S.rf
    have hl := lv_entry ([.ref h, .int 19, .int a, .int b, .int c0]) (n := 6) (Nat.le_of_ble_eq_true rfl)
    rw [lg_entry_eq]
    generalize (lg_sl ([.ref h, .int 19, .int a, .int b, .int c0]) ++ List.replicate (6 - (lg_sl ([.ref h, .int 19, .int a, .int b, .int c0])).length) Slot.unset).toArray = ls at hl ⊢
    have hl : lv_has ls 6 [(0, .ref h), (1, .int 19), (2, .int a), (3, .int b), (4, .int c0)] := hl
    refine lv_iload_n hx hb dL_does_0 rfl (lv_at hl 1 rfl) ?_
    refine lv_bipush (v := 8) hx hb dL_does_1 (by decide) ?_
    refine lv_icmp_ge (tgt := 17) hx hb dL_does_3 (by decide) (fun c_3 => ?_) (fun c_3 => absurd c_3 (by decide))
    refine lv_iload_n hx hb dL_does_17 rfl (lv_at hl 1 rfl) ?_
    refine lv_bipush (v := 8) hx hb dL_does_18 (by decide) ?_
    refine lv_icmp_ne (tgt := 43) hx hb dL_does_20 (by decide) (fun c_20 => ?_) (fun c_20 => absurd c_20 (by decide))
    refine lv_iload_n hx hb dL_does_43 rfl (lv_at hl 1 rfl) ?_
    refine lv_bipush (v := 9) hx hb dL_does_44 (by decide) ?_
    refine lv_icmp_ne (tgt := 69) hx hb dL_does_46 (by decide) (fun c_46 => ?_) (fun c_46 => absurd c_46 (by decide))
    refine lv_iload_n hx hb dL_does_69 rfl (lv_at hl 1 rfl) ?_
    refine lv_bipush (v := 10) hx hb dL_does_70 (by decide) ?_
    refine lv_icmp_ne (tgt := 85) hx hb dL_does_72 (by decide) (fun c_72 => ?_) (fun c_72 => absurd c_72 (by decide))
    refine lv_iload_n hx hb dL_does_85 rfl (lv_at hl 1 rfl) ?_
    refine lv_bipush (v := 11) hx hb dL_does_86 (by decide) ?_
    refine lv_icmp_ne (tgt := 103) hx hb dL_does_88 (by decide) (fun c_88 => ?_) (fun c_88 => absurd c_88 (by decide))
    refine lv_iload_n hx hb dL_does_103 rfl (lv_at hl 1 rfl) ?_
    refine lv_bipush (v := 12) hx hb dL_does_104 (by decide) ?_
    refine lv_icmp_ne (tgt := 119) hx hb dL_does_106 (by decide) (fun c_106 => ?_) (fun c_106 => absurd c_106 (by decide))
    refine lv_iload_n hx hb dL_does_119 rfl (lv_at hl 1 rfl) ?_
    refine lv_bipush (v := 13) hx hb dL_does_120 (by decide) ?_
    refine lv_icmp_ne (tgt := 135) hx hb dL_does_122 (by decide) (fun c_122 => ?_) (fun c_122 => absurd c_122 (by decide))
    refine lv_iload_n hx hb dL_does_135 rfl (lv_at hl 1 rfl) ?_
    refine lv_bipush (v := 14) hx hb dL_does_136 (by decide) ?_
    refine lv_icmp_ne (tgt := 153) hx hb dL_does_138 (by decide) (fun c_138 => ?_) (fun c_138 => absurd c_138 (by decide))
    refine lv_iload_n hx hb dL_does_153 rfl (lv_at hl 1 rfl) ?_
    refine lv_bipush (v := 15) hx hb dL_does_154 (by decide) ?_
    refine lv_icmp_ne (tgt := 171) hx hb dL_does_156 (by decide) (fun c_156 => ?_) (fun c_156 => absurd c_156 (by decide))
    refine lv_iload_n hx hb dL_does_171 rfl (lv_at hl 1 rfl) ?_
    refine lv_bipush (v := 16) hx hb dL_does_172 (by decide) ?_
    refine lv_icmp_ne (tgt := 186) hx hb dL_does_174 (by decide) (fun c_174 => ?_) (fun c_174 => absurd c_174 (by decide))
    refine lv_iload_n hx hb dL_does_186 rfl (lv_at hl 1 rfl) ?_
    refine lv_bipush (v := 17) hx hb dL_does_187 (by decide) ?_
    refine lv_icmp_ne (tgt := 201) hx hb dL_does_189 (by decide) (fun c_189 => ?_) (fun c_189 => absurd c_189 (by decide))
    refine lv_iload_n hx hb dL_does_201 rfl (lv_at hl 1 rfl) ?_
    refine lv_bipush (v := 18) hx hb dL_does_202 (by decide) ?_
    refine lv_icmp_ne (tgt := 215) hx hb dL_does_204 (by decide) (fun c_204 => ?_) (fun c_204 => absurd c_204 (by decide))
    refine lv_iload_n hx hb dL_does_215 rfl (lv_at hl 1 rfl) ?_
    refine lv_bipush (v := 19) hx hb dL_does_216 (by decide) ?_
    refine lv_icmp_ne (tgt := 230) hx hb dL_does_218 (by decide) (fun c_218 => absurd c_218 (by decide)) (fun c_218 => ?_)
    refine lv_aload_n hx hb dL_does_221 rfl (lv_at hl 0 rfl) ?_
    refine lv_iload_n hx hb dL_does_222 rfl (lv_at hl 2 rfl) ?_
    refine g_catch (name := gISE) (ws := []) (wc := w) (vx_runV (As := [.int a]) (rest := []) ⟨hx, hb, hml, hown, hts⟩ (HL s.heap.size) (cwV 1 hts gL_does_X7_restart rfl hc9 hs9 (by decide +kernel) hr9) (gPX_VA hP hD hK hE hS hA 0 he rfl) rfl rfl hl.1 rfl (lv_room (Nat.le_of_ble_eq_true rfl)) dL_does_223 hm9) hP hD hS hA hown [⟨0, 236, 237, 60⟩, ⟨0, 236, 243, 64⟩] ⟨0, 236, 249, 66⟩ [] (by rw [htab]; rfl) (fun z hz => by
      rcases List.mem_cons.mp hz with rfl | hz
      · exact Or.inr ⟨by decide, _, (hts (.classLink RL 60 "java/lang/IndexOutOfBoundsException") (List.mem_of_getElem? (i := 1) rfl)), hN.2.1⟩
      · rcases List.mem_singleton.mp hz with rfl; exact Or.inr ⟨by decide, _, (hts (.classLink RL 64 "java/lang/IllegalArgumentException") (List.mem_of_getElem? (i := 2) rfl)), hN.2.2⟩) (by decide) (by decide) (hts (.classLink RL 66 "java/lang/IllegalStateException") (List.mem_of_getElem? (i := 3) rfl)) (hE.cw (Cond.castable gISE gISE) (List.mem_of_getElem? (i := 4) rfl)) (fun q9 w1 H locs hG hP hD hS => ?_)
    refine lv_astore (lv' := [(5, .ref q9), (0, .ref h), (1, .int 19), (2, .int a), (3, .int b), (4, .int c0)]) hx hb dL_does_249 hl (by decide) rfl (fun ls hl => ?_)
    refine lv_ldc2 (v := -2100000000) hx hb hown (hts (.constantLong RL 62 (-2100000000)) (List.mem_of_getElem? (i := 4) rfl)) dL_does_251 ?_
    refine W.widen (k := 1) (n := 6) hm9.1 hm9.2 ?_
    exact W.lret (v := -2100000000) hx hb hr (fun t ht hW => ⟨⟨some (.long (-2100000000)), w1, rfl, ⟨rfl, hG⟩, by rw [← hAe]; exact hD, by rw [ht]; exact hP⟩, by rw [← hAe]; exact hS.F ht⟩) (by rw [← hAe]; exact hS.2.2) dL_does_254
set_option maxRecDepth 100000 in
theorem dn_needs {l : Launch} {D : va_G} {y : Nat → ClassId} {ad : Nat → Nat} {w : va_W} {h : Nat} {fs : List Value} (he : w[0]? = some (h, .inr (5, fs))) {a b c0 : Int32} {G : va_W → Prop} {rm : Room} {mc ms : Nat} {x : Int32} (HL : ∀ sz, Met l yX7_needs wsX7_needs rm (gPX D y ad [.ref h, .int a] w sz) (gQn D w (fun v w1 => v = some (.int x) ∧ G w1)) mc ms (va_A w sz)) (hc9 : rm.cells = mc) (hs9 : rm.slots = ms) (hr9 : rm.frames + 1 ≤ 11 ∧ 8 + (2 + 11) + rm.locals ≤ 400) (hm9 : 0 + mc ≤ 1 ∧ 0 + ms ≤ 6) (sz : Nat) : Met l yL_does wsL_does ({ frames := 11, cells := 1, slots := 6, locals := 400 } : Room) (gPN D y ad [.ref h, .int 20, .int a, .int b, .int c0] w sz) (gQn D w (fun v w1 => v = some (.long (x.toInt64)) ∧ G w1)) 1 6 (va_A w sz) := by
  refine gMet_ofWH (cc := cL_does) (maxL := 6) (ret := (some .long)) (hh := [(0, 236, 237, 60), (0, 236, 243, 64), (0, 236, 249, 66)]) (by decide) rfl ?_
  intro pg e s m args below meth c s₁ B hml hv
  obtain ⟨rfl, ⟨hsz, hP, hK, hD0, hE0⟩, hN⟩ := hv
  have hx := B.exec
  have hb := B.bytes
  have hr := B.returns
  have hts := atoms_spec (ws := wsL_does) B.pre
  have hown : s.vm.findClass RL = some m.cls := findClass_of_methodNamed B.named
  have htab : c.exceptionTable.toList = tableOf [(0, 236, 237, 60), (0, 236, 243, 64), (0, 236, 249, 66)] := vx_table (x := yL_does) B (hts _ List.mem_cons_self)
  have hlocks := B.notSynchronized
  subst hsz
  obtain ⟨A, hAe⟩ : ∃ A : Nat → Prop, A = va_A w s.heap.size := ⟨_, rfl⟩
  have hE : gE ad A s s.heap := by rw [hAe]; exact hE0
  have hD : va_D A w := by rw [hAe]; exact hD0.self (sz := s.heap.size)
  have hA : ∀ q : Nat, s.heap.size ≤ q → A q := fun q h => by rw [hAe]; exact Or.inr h
  have hS : va_S A s.heap s.heap [] := va_S.rf
  have hl := lv_entry ([.ref h, .int 20, .int a, .int b, .int c0]) (n := 6) (Nat.le_of_ble_eq_true rfl)
  rw [lg_entry_eq]
  generalize (lg_sl ([.ref h, .int 20, .int a, .int b, .int c0]) ++ List.replicate (6 - (lg_sl ([.ref h, .int 20, .int a, .int b, .int c0])).length) Slot.unset).toArray = ls at hl ⊢
  have hl : lv_has ls 6 [(0, .ref h), (1, .int 20), (2, .int a), (3, .int b), (4, .int c0)] := hl
  refine lv_iload_n hx hb dL_does_0 rfl (lv_at hl 1 rfl) ?_
  refine lv_bipush (v := 8) hx hb dL_does_1 (by decide) ?_
  refine lv_icmp_ge (tgt := 17) hx hb dL_does_3 (by decide) (fun c_3 => ?_) (fun c_3 => absurd c_3 (by decide))
  refine lv_iload_n hx hb dL_does_17 rfl (lv_at hl 1 rfl) ?_
  refine lv_bipush (v := 8) hx hb dL_does_18 (by decide) ?_
  refine lv_icmp_ne (tgt := 43) hx hb dL_does_20 (by decide) (fun c_20 => ?_) (fun c_20 => absurd c_20 (by decide))
  refine lv_iload_n hx hb dL_does_43 rfl (lv_at hl 1 rfl) ?_
  refine lv_bipush (v := 9) hx hb dL_does_44 (by decide) ?_
  refine lv_icmp_ne (tgt := 69) hx hb dL_does_46 (by decide) (fun c_46 => ?_) (fun c_46 => absurd c_46 (by decide))
  refine lv_iload_n hx hb dL_does_69 rfl (lv_at hl 1 rfl) ?_
  refine lv_bipush (v := 10) hx hb dL_does_70 (by decide) ?_
  refine lv_icmp_ne (tgt := 85) hx hb dL_does_72 (by decide) (fun c_72 => ?_) (fun c_72 => absurd c_72 (by decide))
  refine lv_iload_n hx hb dL_does_85 rfl (lv_at hl 1 rfl) ?_
  refine lv_bipush (v := 11) hx hb dL_does_86 (by decide) ?_
  refine lv_icmp_ne (tgt := 103) hx hb dL_does_88 (by decide) (fun c_88 => ?_) (fun c_88 => absurd c_88 (by decide))
  refine lv_iload_n hx hb dL_does_103 rfl (lv_at hl 1 rfl) ?_
  refine lv_bipush (v := 12) hx hb dL_does_104 (by decide) ?_
  refine lv_icmp_ne (tgt := 119) hx hb dL_does_106 (by decide) (fun c_106 => ?_) (fun c_106 => absurd c_106 (by decide))
  refine lv_iload_n hx hb dL_does_119 rfl (lv_at hl 1 rfl) ?_
  refine lv_bipush (v := 13) hx hb dL_does_120 (by decide) ?_
  refine lv_icmp_ne (tgt := 135) hx hb dL_does_122 (by decide) (fun c_122 => ?_) (fun c_122 => absurd c_122 (by decide))
  refine lv_iload_n hx hb dL_does_135 rfl (lv_at hl 1 rfl) ?_
  refine lv_bipush (v := 14) hx hb dL_does_136 (by decide) ?_
  refine lv_icmp_ne (tgt := 153) hx hb dL_does_138 (by decide) (fun c_138 => ?_) (fun c_138 => absurd c_138 (by decide))
  refine lv_iload_n hx hb dL_does_153 rfl (lv_at hl 1 rfl) ?_
  refine lv_bipush (v := 15) hx hb dL_does_154 (by decide) ?_
  refine lv_icmp_ne (tgt := 171) hx hb dL_does_156 (by decide) (fun c_156 => ?_) (fun c_156 => absurd c_156 (by decide))
  refine lv_iload_n hx hb dL_does_171 rfl (lv_at hl 1 rfl) ?_
  refine lv_bipush (v := 16) hx hb dL_does_172 (by decide) ?_
  refine lv_icmp_ne (tgt := 186) hx hb dL_does_174 (by decide) (fun c_174 => ?_) (fun c_174 => absurd c_174 (by decide))
  refine lv_iload_n hx hb dL_does_186 rfl (lv_at hl 1 rfl) ?_
  refine lv_bipush (v := 17) hx hb dL_does_187 (by decide) ?_
  refine lv_icmp_ne (tgt := 201) hx hb dL_does_189 (by decide) (fun c_189 => ?_) (fun c_189 => absurd c_189 (by decide))
  refine lv_iload_n hx hb dL_does_201 rfl (lv_at hl 1 rfl) ?_
  refine lv_bipush (v := 18) hx hb dL_does_202 (by decide) ?_
  refine lv_icmp_ne (tgt := 215) hx hb dL_does_204 (by decide) (fun c_204 => ?_) (fun c_204 => absurd c_204 (by decide))
  refine lv_iload_n hx hb dL_does_215 rfl (lv_at hl 1 rfl) ?_
  refine lv_bipush (v := 19) hx hb dL_does_216 (by decide) ?_
  refine lv_icmp_ne (tgt := 230) hx hb dL_does_218 (by decide) (fun c_218 => ?_) (fun c_218 => absurd c_218 (by decide))
  refine lv_aload_n hx hb dL_does_230 rfl (lv_at hl 0 rfl) ?_
  refine lv_iload_n hx hb dL_does_231 rfl (lv_at hl 2 rfl) ?_
  refine g_callN (ws := []) (wc := w) (va_runV (As := [.int a]) (rest := []) ⟨hx, hb, hml, hown, hts⟩ (HL s.heap.size) (cwV 1 hts gL_does_X7_needs rfl hc9 hs9 (by decide +kernel) hr9) (gPX_VA hP hD hK hE hS hA 0 he rfl) rfl rfl hl.1 rfl (lv_room (Nat.le_of_ble_eq_true rfl)) dL_does_232 hm9) hP hD hS hA (fun v w1 H locs hf hP hD hS => ?_)
  obtain ⟨rfl, hG⟩ := hf
  refine lv_i2l (v := x.toInt64) hx hb dL_does_235 rfl ?_
  refine W.widen (k := 1) (n := 6) hm9.1 hm9.2 ?_
  exact W.lret (v := x.toInt64) hx hb hr (fun t ht hW => ⟨⟨some (.long (x.toInt64)), w1, rfl, ⟨rfl, hG⟩, by rw [← hAe]; exact hD, by rw [ht]; exact hP⟩, by rw [← hAe]; exact hS.F ht⟩) (by rw [← hAe]; exact hS.2.2) dL_does_236
set_option maxRecDepth 100000 in
theorem dt_needs {l : Launch} {D : va_G} {y : Nat → ClassId} {ad : Nat → Nat} {w : va_W} {h : Nat} {fs : List Value} (he : w[0]? = some (h, .inr (5, fs))) {a b c0 : Int32} {G : va_W → Prop} {rm : Room} {mc ms : Nat} {E : String} (hE9 : E = gIOB ∨ E = gIAE ∨ E = gISE) (HL : ∀ sz, vx_Met l yX7_needs wsX7_needs rm (gPX D y ad [.ref h, .int a] w sz) gNo (gXC D w E G) mc ms (va_A w sz)) (hc9 : rm.cells = mc) (hs9 : rm.slots = ms) (hr9 : rm.frames + 1 ≤ 11 ∧ 8 + (2 + 11) + rm.locals ≤ 400) (hm9 : 0 + mc ≤ 1 ∧ 0 + ms ≤ 6) (sz : Nat) : Met l yL_does wsL_does ({ frames := 11, cells := 1, slots := 6, locals := 400 } : Room) (gPN D y ad [.ref h, .int 20, .int a, .int b, .int c0] w sz) (gQn D w (fun v w1 => v = some (.long (-2100000000)) ∧ G w1)) 1 6 (va_A w sz) := by
  rcases hE9 with rfl | rfl | rfl
  · skip
    refine gMet_ofWH (cc := cL_does) (maxL := 6) (ret := (some .long)) (hh := [(0, 236, 237, 60), (0, 236, 243, 64), (0, 236, 249, 66)]) (by decide) rfl ?_
    intro pg e s m args below meth c s₁ B hml hv
    obtain ⟨rfl, ⟨hsz, hP, hK, hD0, hE0⟩, hN⟩ := hv
    have hx := B.exec
    have hb := B.bytes
    have hr := B.returns
    have hts := atoms_spec (ws := wsL_does) B.pre
    have hown : s.vm.findClass RL = some m.cls := findClass_of_methodNamed B.named
    have htab : c.exceptionTable.toList = tableOf [(0, 236, 237, 60), (0, 236, 243, 64), (0, 236, 249, 66)] := vx_table (x := yL_does) B (hts _ List.mem_cons_self)
    have hlocks := B.notSynchronized
    subst hsz
    obtain ⟨A, hAe⟩ : ∃ A : Nat → Prop, A = va_A w s.heap.size := ⟨_, rfl⟩
    have hE : gE ad A s s.heap := by rw [hAe]; exact hE0
    have hD : va_D A w := by rw [hAe]; exact hD0.self (sz := s.heap.size)
    have hA : ∀ q : Nat, s.heap.size ≤ q → A q := fun q h => by rw [hAe]; exact Or.inr h
    have hS : va_S A s.heap s.heap [] := va_S.rf
    have hl := lv_entry ([.ref h, .int 20, .int a, .int b, .int c0]) (n := 6) (Nat.le_of_ble_eq_true rfl)
    rw [lg_entry_eq]
    generalize (lg_sl ([.ref h, .int 20, .int a, .int b, .int c0]) ++ List.replicate (6 - (lg_sl ([.ref h, .int 20, .int a, .int b, .int c0])).length) Slot.unset).toArray = ls at hl ⊢
    have hl : lv_has ls 6 [(0, .ref h), (1, .int 20), (2, .int a), (3, .int b), (4, .int c0)] := hl
    refine lv_iload_n hx hb dL_does_0 rfl (lv_at hl 1 rfl) ?_
    refine lv_bipush (v := 8) hx hb dL_does_1 (by decide) ?_
    refine lv_icmp_ge (tgt := 17) hx hb dL_does_3 (by decide) (fun c_3 => ?_) (fun c_3 => absurd c_3 (by decide))
    refine lv_iload_n hx hb dL_does_17 rfl (lv_at hl 1 rfl) ?_
    refine lv_bipush (v := 8) hx hb dL_does_18 (by decide) ?_
    refine lv_icmp_ne (tgt := 43) hx hb dL_does_20 (by decide) (fun c_20 => ?_) (fun c_20 => absurd c_20 (by decide))
    refine lv_iload_n hx hb dL_does_43 rfl (lv_at hl 1 rfl) ?_
    refine lv_bipush (v := 9) hx hb dL_does_44 (by decide) ?_
    refine lv_icmp_ne (tgt := 69) hx hb dL_does_46 (by decide) (fun c_46 => ?_) (fun c_46 => absurd c_46 (by decide))
    refine lv_iload_n hx hb dL_does_69 rfl (lv_at hl 1 rfl) ?_
    refine lv_bipush (v := 10) hx hb dL_does_70 (by decide) ?_
    refine lv_icmp_ne (tgt := 85) hx hb dL_does_72 (by decide) (fun c_72 => ?_) (fun c_72 => absurd c_72 (by decide))
    refine lv_iload_n hx hb dL_does_85 rfl (lv_at hl 1 rfl) ?_
    refine lv_bipush (v := 11) hx hb dL_does_86 (by decide) ?_
    refine lv_icmp_ne (tgt := 103) hx hb dL_does_88 (by decide) (fun c_88 => ?_) (fun c_88 => absurd c_88 (by decide))
    refine lv_iload_n hx hb dL_does_103 rfl (lv_at hl 1 rfl) ?_
    refine lv_bipush (v := 12) hx hb dL_does_104 (by decide) ?_
    refine lv_icmp_ne (tgt := 119) hx hb dL_does_106 (by decide) (fun c_106 => ?_) (fun c_106 => absurd c_106 (by decide))
    refine lv_iload_n hx hb dL_does_119 rfl (lv_at hl 1 rfl) ?_
    refine lv_bipush (v := 13) hx hb dL_does_120 (by decide) ?_
    refine lv_icmp_ne (tgt := 135) hx hb dL_does_122 (by decide) (fun c_122 => ?_) (fun c_122 => absurd c_122 (by decide))
    refine lv_iload_n hx hb dL_does_135 rfl (lv_at hl 1 rfl) ?_
    refine lv_bipush (v := 14) hx hb dL_does_136 (by decide) ?_
    refine lv_icmp_ne (tgt := 153) hx hb dL_does_138 (by decide) (fun c_138 => ?_) (fun c_138 => absurd c_138 (by decide))
    refine lv_iload_n hx hb dL_does_153 rfl (lv_at hl 1 rfl) ?_
    refine lv_bipush (v := 15) hx hb dL_does_154 (by decide) ?_
    refine lv_icmp_ne (tgt := 171) hx hb dL_does_156 (by decide) (fun c_156 => ?_) (fun c_156 => absurd c_156 (by decide))
    refine lv_iload_n hx hb dL_does_171 rfl (lv_at hl 1 rfl) ?_
    refine lv_bipush (v := 16) hx hb dL_does_172 (by decide) ?_
    refine lv_icmp_ne (tgt := 186) hx hb dL_does_174 (by decide) (fun c_174 => ?_) (fun c_174 => absurd c_174 (by decide))
    refine lv_iload_n hx hb dL_does_186 rfl (lv_at hl 1 rfl) ?_
    refine lv_bipush (v := 17) hx hb dL_does_187 (by decide) ?_
    refine lv_icmp_ne (tgt := 201) hx hb dL_does_189 (by decide) (fun c_189 => ?_) (fun c_189 => absurd c_189 (by decide))
    refine lv_iload_n hx hb dL_does_201 rfl (lv_at hl 1 rfl) ?_
    refine lv_bipush (v := 18) hx hb dL_does_202 (by decide) ?_
    refine lv_icmp_ne (tgt := 215) hx hb dL_does_204 (by decide) (fun c_204 => ?_) (fun c_204 => absurd c_204 (by decide))
    refine lv_iload_n hx hb dL_does_215 rfl (lv_at hl 1 rfl) ?_
    refine lv_bipush (v := 19) hx hb dL_does_216 (by decide) ?_
    refine lv_icmp_ne (tgt := 230) hx hb dL_does_218 (by decide) (fun c_218 => ?_) (fun c_218 => absurd c_218 (by decide))
    refine lv_aload_n hx hb dL_does_230 rfl (lv_at hl 0 rfl) ?_
    refine lv_iload_n hx hb dL_does_231 rfl (lv_at hl 2 rfl) ?_
    refine g_catch (name := gIOB) (ws := []) (wc := w) (vx_runV (As := [.int a]) (rest := []) ⟨hx, hb, hml, hown, hts⟩ (HL s.heap.size) (cwV 1 hts gL_does_X7_needs rfl hc9 hs9 (by decide +kernel) hr9) (gPX_VA hP hD hK hE hS hA 0 he rfl) rfl rfl hl.1 rfl (lv_room (Nat.le_of_ble_eq_true rfl)) dL_does_232 hm9) hP hD hS hA hown [] ⟨0, 236, 237, 60⟩ [⟨0, 236, 243, 64⟩, ⟨0, 236, 249, 66⟩] (by rw [htab]; rfl) (fun z hz => absurd hz List.not_mem_nil) (by decide) (by decide) (hts (.classLink RL 60 "java/lang/IndexOutOfBoundsException") (List.mem_of_getElem? (i := 1) rfl)) (hE.cw (Cond.castable gIOB gIOB) (List.mem_of_getElem? (i := 5) rfl)) (fun q9 w1 H locs hG hP hD hS => ?_)
    refine lv_astore (lv' := [(5, .ref q9), (0, .ref h), (1, .int 20), (2, .int a), (3, .int b), (4, .int c0)]) hx hb dL_does_237 hl (by decide) rfl (fun ls hl => ?_)
    refine lv_ldc2 (v := -2100000000) hx hb hown (hts (.constantLong RL 62 (-2100000000)) (List.mem_of_getElem? (i := 4) rfl)) dL_does_239 ?_
    refine W.widen (k := 1) (n := 6) hm9.1 hm9.2 ?_
    exact W.lret (v := -2100000000) hx hb hr (fun t ht hW => ⟨⟨some (.long (-2100000000)), w1, rfl, ⟨rfl, hG⟩, by rw [← hAe]; exact hD, by rw [ht]; exact hP⟩, by rw [← hAe]; exact hS.F ht⟩) (by rw [← hAe]; exact hS.2.2) dL_does_242
  · skip
    refine gMet_ofWH (cc := cL_does) (maxL := 6) (ret := (some .long)) (hh := [(0, 236, 237, 60), (0, 236, 243, 64), (0, 236, 249, 66)]) (by decide) rfl ?_
    intro pg e s m args below meth c s₁ B hml hv
    obtain ⟨rfl, ⟨hsz, hP, hK, hD0, hE0⟩, hN⟩ := hv
    have hx := B.exec
    have hb := B.bytes
    have hr := B.returns
    have hts := atoms_spec (ws := wsL_does) B.pre
    have hown : s.vm.findClass RL = some m.cls := findClass_of_methodNamed B.named
    have htab : c.exceptionTable.toList = tableOf [(0, 236, 237, 60), (0, 236, 243, 64), (0, 236, 249, 66)] := vx_table (x := yL_does) B (hts _ List.mem_cons_self)
    have hlocks := B.notSynchronized
    subst hsz
    obtain ⟨A, hAe⟩ : ∃ A : Nat → Prop, A = va_A w s.heap.size := ⟨_, rfl⟩
    have hE : gE ad A s s.heap := by rw [hAe]; exact hE0
    have hD : va_D A w := by rw [hAe]; exact hD0.self (sz := s.heap.size)
    have hA : ∀ q : Nat, s.heap.size ≤ q → A q := fun q h => by rw [hAe]; exact Or.inr h
    have hS : va_S A s.heap s.heap [] := va_S.rf
    have hl := lv_entry ([.ref h, .int 20, .int a, .int b, .int c0]) (n := 6) (Nat.le_of_ble_eq_true rfl)
    rw [lg_entry_eq]
    generalize (lg_sl ([.ref h, .int 20, .int a, .int b, .int c0]) ++ List.replicate (6 - (lg_sl ([.ref h, .int 20, .int a, .int b, .int c0])).length) Slot.unset).toArray = ls at hl ⊢
    have hl : lv_has ls 6 [(0, .ref h), (1, .int 20), (2, .int a), (3, .int b), (4, .int c0)] := hl
    refine lv_iload_n hx hb dL_does_0 rfl (lv_at hl 1 rfl) ?_
    refine lv_bipush (v := 8) hx hb dL_does_1 (by decide) ?_
    refine lv_icmp_ge (tgt := 17) hx hb dL_does_3 (by decide) (fun c_3 => ?_) (fun c_3 => absurd c_3 (by decide))
    refine lv_iload_n hx hb dL_does_17 rfl (lv_at hl 1 rfl) ?_
    refine lv_bipush (v := 8) hx hb dL_does_18 (by decide) ?_
    refine lv_icmp_ne (tgt := 43) hx hb dL_does_20 (by decide) (fun c_20 => ?_) (fun c_20 => absurd c_20 (by decide))
    refine lv_iload_n hx hb dL_does_43 rfl (lv_at hl 1 rfl) ?_
    refine lv_bipush (v := 9) hx hb dL_does_44 (by decide) ?_
    refine lv_icmp_ne (tgt := 69) hx hb dL_does_46 (by decide) (fun c_46 => ?_) (fun c_46 => absurd c_46 (by decide))
    refine lv_iload_n hx hb dL_does_69 rfl (lv_at hl 1 rfl) ?_
    refine lv_bipush (v := 10) hx hb dL_does_70 (by decide) ?_
    refine lv_icmp_ne (tgt := 85) hx hb dL_does_72 (by decide) (fun c_72 => ?_) (fun c_72 => absurd c_72 (by decide))
    refine lv_iload_n hx hb dL_does_85 rfl (lv_at hl 1 rfl) ?_
    refine lv_bipush (v := 11) hx hb dL_does_86 (by decide) ?_
    refine lv_icmp_ne (tgt := 103) hx hb dL_does_88 (by decide) (fun c_88 => ?_) (fun c_88 => absurd c_88 (by decide))
    refine lv_iload_n hx hb dL_does_103 rfl (lv_at hl 1 rfl) ?_
    refine lv_bipush (v := 12) hx hb dL_does_104 (by decide) ?_
    refine lv_icmp_ne (tgt := 119) hx hb dL_does_106 (by decide) (fun c_106 => ?_) (fun c_106 => absurd c_106 (by decide))
    refine lv_iload_n hx hb dL_does_119 rfl (lv_at hl 1 rfl) ?_
    refine lv_bipush (v := 13) hx hb dL_does_120 (by decide) ?_
    refine lv_icmp_ne (tgt := 135) hx hb dL_does_122 (by decide) (fun c_122 => ?_) (fun c_122 => absurd c_122 (by decide))
    refine lv_iload_n hx hb dL_does_135 rfl (lv_at hl 1 rfl) ?_
    refine lv_bipush (v := 14) hx hb dL_does_136 (by decide) ?_
    refine lv_icmp_ne (tgt := 153) hx hb dL_does_138 (by decide) (fun c_138 => ?_) (fun c_138 => absurd c_138 (by decide))
    refine lv_iload_n hx hb dL_does_153 rfl (lv_at hl 1 rfl) ?_
    refine lv_bipush (v := 15) hx hb dL_does_154 (by decide) ?_
    refine lv_icmp_ne (tgt := 171) hx hb dL_does_156 (by decide) (fun c_156 => ?_) (fun c_156 => absurd c_156 (by decide))
    refine lv_iload_n hx hb dL_does_171 rfl (lv_at hl 1 rfl) ?_
    refine lv_bipush (v := 16) hx hb dL_does_172 (by decide) ?_
    refine lv_icmp_ne (tgt := 186) hx hb dL_does_174 (by decide) (fun c_174 => ?_) (fun c_174 => absurd c_174 (by decide))
    refine lv_iload_n hx hb dL_does_186 rfl (lv_at hl 1 rfl) ?_
    refine lv_bipush (v := 17) hx hb dL_does_187 (by decide) ?_
    refine lv_icmp_ne (tgt := 201) hx hb dL_does_189 (by decide) (fun c_189 => ?_) (fun c_189 => absurd c_189 (by decide))
    refine lv_iload_n hx hb dL_does_201 rfl (lv_at hl 1 rfl) ?_
    refine lv_bipush (v := 18) hx hb dL_does_202 (by decide) ?_
    refine lv_icmp_ne (tgt := 215) hx hb dL_does_204 (by decide) (fun c_204 => ?_) (fun c_204 => absurd c_204 (by decide))
    refine lv_iload_n hx hb dL_does_215 rfl (lv_at hl 1 rfl) ?_
    refine lv_bipush (v := 19) hx hb dL_does_216 (by decide) ?_
    refine lv_icmp_ne (tgt := 230) hx hb dL_does_218 (by decide) (fun c_218 => ?_) (fun c_218 => absurd c_218 (by decide))
    refine lv_aload_n hx hb dL_does_230 rfl (lv_at hl 0 rfl) ?_
    refine lv_iload_n hx hb dL_does_231 rfl (lv_at hl 2 rfl) ?_
    refine g_catch (name := gIAE) (ws := []) (wc := w) (vx_runV (As := [.int a]) (rest := []) ⟨hx, hb, hml, hown, hts⟩ (HL s.heap.size) (cwV 1 hts gL_does_X7_needs rfl hc9 hs9 (by decide +kernel) hr9) (gPX_VA hP hD hK hE hS hA 0 he rfl) rfl rfl hl.1 rfl (lv_room (Nat.le_of_ble_eq_true rfl)) dL_does_232 hm9) hP hD hS hA hown [⟨0, 236, 237, 60⟩] ⟨0, 236, 243, 64⟩ [⟨0, 236, 249, 66⟩] (by rw [htab]; rfl) (fun z hz => by rcases List.mem_singleton.mp hz with rfl; exact Or.inr ⟨by decide, _, (hts (.classLink RL 60 "java/lang/IndexOutOfBoundsException") (List.mem_of_getElem? (i := 1) rfl)), hN.1⟩) (by decide) (by decide) (hts (.classLink RL 64 "java/lang/IllegalArgumentException") (List.mem_of_getElem? (i := 2) rfl)) (hE.cw (Cond.castable gIAE gIAE) (List.mem_of_getElem? (i := 3) rfl)) (fun q9 w1 H locs hG hP hD hS => ?_)
    refine lv_astore (lv' := [(5, .ref q9), (0, .ref h), (1, .int 20), (2, .int a), (3, .int b), (4, .int c0)]) hx hb dL_does_243 hl (by decide) rfl (fun ls hl => ?_)
    refine lv_ldc2 (v := -2100000000) hx hb hown (hts (.constantLong RL 62 (-2100000000)) (List.mem_of_getElem? (i := 4) rfl)) dL_does_245 ?_
    refine W.widen (k := 1) (n := 6) hm9.1 hm9.2 ?_
    exact W.lret (v := -2100000000) hx hb hr (fun t ht hW => ⟨⟨some (.long (-2100000000)), w1, rfl, ⟨rfl, hG⟩, by rw [← hAe]; exact hD, by rw [ht]; exact hP⟩, by rw [← hAe]; exact hS.F ht⟩) (by rw [← hAe]; exact hS.2.2) dL_does_248
  · skip
    refine gMet_ofWH (cc := cL_does) (maxL := 6) (ret := (some .long)) (hh := [(0, 236, 237, 60), (0, 236, 243, 64), (0, 236, 249, 66)]) (by decide) rfl ?_
    intro pg e s m args below meth c s₁ B hml hv
    obtain ⟨rfl, ⟨hsz, hP, hK, hD0, hE0⟩, hN⟩ := hv
    have hx := B.exec
    have hb := B.bytes
    have hr := B.returns
    have hts := atoms_spec (ws := wsL_does) B.pre
    have hown : s.vm.findClass RL = some m.cls := findClass_of_methodNamed B.named
    have htab : c.exceptionTable.toList = tableOf [(0, 236, 237, 60), (0, 236, 243, 64), (0, 236, 249, 66)] := vx_table (x := yL_does) B (hts _ List.mem_cons_self)
    have hlocks := B.notSynchronized
    subst hsz
    obtain ⟨A, hAe⟩ : ∃ A : Nat → Prop, A = va_A w s.heap.size := ⟨_, rfl⟩
    have hE : gE ad A s s.heap := by rw [hAe]; exact hE0
    have hD : va_D A w := by rw [hAe]; exact hD0.self (sz := s.heap.size)
    have hA : ∀ q : Nat, s.heap.size ≤ q → A q := fun q h => by rw [hAe]; exact Or.inr h
    have hS : va_S A s.heap s.heap [] := va_S.rf
    have hl := lv_entry ([.ref h, .int 20, .int a, .int b, .int c0]) (n := 6) (Nat.le_of_ble_eq_true rfl)
    rw [lg_entry_eq]
    generalize (lg_sl ([.ref h, .int 20, .int a, .int b, .int c0]) ++ List.replicate (6 - (lg_sl ([.ref h, .int 20, .int a, .int b, .int c0])).length) Slot.unset).toArray = ls at hl ⊢
    have hl : lv_has ls 6 [(0, .ref h), (1, .int 20), (2, .int a), (3, .int b), (4, .int c0)] := hl
    refine lv_iload_n hx hb dL_does_0 rfl (lv_at hl 1 rfl) ?_
    refine lv_bipush (v := 8) hx hb dL_does_1 (by decide) ?_
    refine lv_icmp_ge (tgt := 17) hx hb dL_does_3 (by decide) (fun c_3 => ?_) (fun c_3 => absurd c_3 (by decide))
    refine lv_iload_n hx hb dL_does_17 rfl (lv_at hl 1 rfl) ?_
    refine lv_bipush (v := 8) hx hb dL_does_18 (by decide) ?_
    refine lv_icmp_ne (tgt := 43) hx hb dL_does_20 (by decide) (fun c_20 => ?_) (fun c_20 => absurd c_20 (by decide))
    refine lv_iload_n hx hb dL_does_43 rfl (lv_at hl 1 rfl) ?_
    refine lv_bipush (v := 9) hx hb dL_does_44 (by decide) ?_
    refine lv_icmp_ne (tgt := 69) hx hb dL_does_46 (by decide) (fun c_46 => ?_) (fun c_46 => absurd c_46 (by decide))
    refine lv_iload_n hx hb dL_does_69 rfl (lv_at hl 1 rfl) ?_
    refine lv_bipush (v := 10) hx hb dL_does_70 (by decide) ?_
    refine lv_icmp_ne (tgt := 85) hx hb dL_does_72 (by decide) (fun c_72 => ?_) (fun c_72 => absurd c_72 (by decide))
    refine lv_iload_n hx hb dL_does_85 rfl (lv_at hl 1 rfl) ?_
    refine lv_bipush (v := 11) hx hb dL_does_86 (by decide) ?_
    refine lv_icmp_ne (tgt := 103) hx hb dL_does_88 (by decide) (fun c_88 => ?_) (fun c_88 => absurd c_88 (by decide))
    refine lv_iload_n hx hb dL_does_103 rfl (lv_at hl 1 rfl) ?_
    refine lv_bipush (v := 12) hx hb dL_does_104 (by decide) ?_
    refine lv_icmp_ne (tgt := 119) hx hb dL_does_106 (by decide) (fun c_106 => ?_) (fun c_106 => absurd c_106 (by decide))
    refine lv_iload_n hx hb dL_does_119 rfl (lv_at hl 1 rfl) ?_
    refine lv_bipush (v := 13) hx hb dL_does_120 (by decide) ?_
    refine lv_icmp_ne (tgt := 135) hx hb dL_does_122 (by decide) (fun c_122 => ?_) (fun c_122 => absurd c_122 (by decide))
    refine lv_iload_n hx hb dL_does_135 rfl (lv_at hl 1 rfl) ?_
    refine lv_bipush (v := 14) hx hb dL_does_136 (by decide) ?_
    refine lv_icmp_ne (tgt := 153) hx hb dL_does_138 (by decide) (fun c_138 => ?_) (fun c_138 => absurd c_138 (by decide))
    refine lv_iload_n hx hb dL_does_153 rfl (lv_at hl 1 rfl) ?_
    refine lv_bipush (v := 15) hx hb dL_does_154 (by decide) ?_
    refine lv_icmp_ne (tgt := 171) hx hb dL_does_156 (by decide) (fun c_156 => ?_) (fun c_156 => absurd c_156 (by decide))
    refine lv_iload_n hx hb dL_does_171 rfl (lv_at hl 1 rfl) ?_
    refine lv_bipush (v := 16) hx hb dL_does_172 (by decide) ?_
    refine lv_icmp_ne (tgt := 186) hx hb dL_does_174 (by decide) (fun c_174 => ?_) (fun c_174 => absurd c_174 (by decide))
    refine lv_iload_n hx hb dL_does_186 rfl (lv_at hl 1 rfl) ?_
    refine lv_bipush (v := 17) hx hb dL_does_187 (by decide) ?_
    refine lv_icmp_ne (tgt := 201) hx hb dL_does_189 (by decide) (fun c_189 => ?_) (fun c_189 => absurd c_189 (by decide))
    refine lv_iload_n hx hb dL_does_201 rfl (lv_at hl 1 rfl) ?_
    refine lv_bipush (v := 18) hx hb dL_does_202 (by decide) ?_
    refine lv_icmp_ne (tgt := 215) hx hb dL_does_204 (by decide) (fun c_204 => ?_) (fun c_204 => absurd c_204 (by decide))
    refine lv_iload_n hx hb dL_does_215 rfl (lv_at hl 1 rfl) ?_
    refine lv_bipush (v := 19) hx hb dL_does_216 (by decide) ?_
    refine lv_icmp_ne (tgt := 230) hx hb dL_does_218 (by decide) (fun c_218 => ?_) (fun c_218 => absurd c_218 (by decide))
    refine lv_aload_n hx hb dL_does_230 rfl (lv_at hl 0 rfl) ?_
    refine lv_iload_n hx hb dL_does_231 rfl (lv_at hl 2 rfl) ?_
    refine g_catch (name := gISE) (ws := []) (wc := w) (vx_runV (As := [.int a]) (rest := []) ⟨hx, hb, hml, hown, hts⟩ (HL s.heap.size) (cwV 1 hts gL_does_X7_needs rfl hc9 hs9 (by decide +kernel) hr9) (gPX_VA hP hD hK hE hS hA 0 he rfl) rfl rfl hl.1 rfl (lv_room (Nat.le_of_ble_eq_true rfl)) dL_does_232 hm9) hP hD hS hA hown [⟨0, 236, 237, 60⟩, ⟨0, 236, 243, 64⟩] ⟨0, 236, 249, 66⟩ [] (by rw [htab]; rfl) (fun z hz => by
      rcases List.mem_cons.mp hz with rfl | hz
      · exact Or.inr ⟨by decide, _, (hts (.classLink RL 60 "java/lang/IndexOutOfBoundsException") (List.mem_of_getElem? (i := 1) rfl)), hN.2.1⟩
      · rcases List.mem_singleton.mp hz with rfl; exact Or.inr ⟨by decide, _, (hts (.classLink RL 64 "java/lang/IllegalArgumentException") (List.mem_of_getElem? (i := 2) rfl)), hN.2.2⟩) (by decide) (by decide) (hts (.classLink RL 66 "java/lang/IllegalStateException") (List.mem_of_getElem? (i := 3) rfl)) (hE.cw (Cond.castable gISE gISE) (List.mem_of_getElem? (i := 4) rfl)) (fun q9 w1 H locs hG hP hD hS => ?_)
    refine lv_astore (lv' := [(5, .ref q9), (0, .ref h), (1, .int 20), (2, .int a), (3, .int b), (4, .int c0)]) hx hb dL_does_249 hl (by decide) rfl (fun ls hl => ?_)
    refine lv_ldc2 (v := -2100000000) hx hb hown (hts (.constantLong RL 62 (-2100000000)) (List.mem_of_getElem? (i := 4) rfl)) dL_does_251 ?_
    refine W.widen (k := 1) (n := 6) hm9.1 hm9.2 ?_
    exact W.lret (v := -2100000000) hx hb hr (fun t ht hW => ⟨⟨some (.long (-2100000000)), w1, rfl, ⟨rfl, hG⟩, by rw [← hAe]; exact hD, by rw [ht]; exact hP⟩, by rw [← hAe]; exact hS.F ht⟩) (by rw [← hAe]; exact hS.2.2) dL_does_254
set_option maxRecDepth 100000 in
theorem mn_ratio {l : Launch} {D : va_G} {y : Nat → ClassId} {ad : Nat → Nat} {w : va_W} {h : Nat} {fs : List Value} (he : w[0]? = some (h, .inr (5, fs))) {a b : Int32} {G : va_W → Prop} {rm : Room} {mc ms : Nat} {x : Int32} (HL : ∀ sz, Met l yX7_ratio wsX7_ratio rm (gPX D y ad [.ref h, .int a, .int b] w sz) (gQn D w (fun v w1 => v = some (.int x) ∧ G w1)) mc ms (va_A w sz)) (hc9 : rm.cells = mc) (hs9 : rm.slots = ms) (hm9 : 0 + mc ≤ 9 ∧ 0 + ms ≤ 164) (hr9 : rm.frames + 1 ≤ 9 ∧ 8 + (7 + 11) + rm.locals ≤ 350) (sz : Nat) : Met l yL_made wsL_made ({ frames := 9, cells := 9, slots := 164, locals := 350 } : Room) (gPX D y ad [.ref h, .int 0, .int a, .int b] w sz) (gQn D w (fun v w1 => v = some (.int x) ∧ G w1)) 9 164 (va_A w sz) := by
  refine Met.ofW (cc := cL_made) (maxL := 4) (ret := (some .int)) (by decide) rfl ?_
  intro pg e s m args below meth c s₁ B hml hv
  obtain ⟨rfl, hsz, hP, hK, hD0, hE0⟩ := hv
  have hx := B.exec
  have hb := B.bytes
  have hr := B.returns
  have hts := atoms_spec (ws := wsL_made) B.pre
  have hown : s.vm.findClass RL = some m.cls := findClass_of_methodNamed B.named
  have hlocks := B.notSynchronized
  subst hsz
  obtain ⟨A, hAe⟩ : ∃ A : Nat → Prop, A = va_A w s.heap.size := ⟨_, rfl⟩
  have hE : gE ad A s s.heap := by rw [hAe]; exact hE0
  have hD : va_D A w := by rw [hAe]; exact hD0.self (sz := s.heap.size)
  have hA : ∀ q : Nat, s.heap.size ≤ q → A q := fun q h => by rw [hAe]; exact Or.inr h
  have hS : va_S A s.heap s.heap [] := va_S.rf
  have hl := lv_entry ([.ref h, .int 0, .int a, .int b]) (n := 4) (Nat.le_of_ble_eq_true rfl)
  rw [lg_entry_eq]
  generalize (lg_sl ([.ref h, .int 0, .int a, .int b]) ++ List.replicate (4 - (lg_sl ([.ref h, .int 0, .int a, .int b])).length) Slot.unset).toArray = ls at hl ⊢
  have hl : lv_has ls 4 [(0, .ref h), (1, .int 0), (2, .int a), (3, .int b)] := hl
  refine lv_iload_n hx hb dL_made_0 rfl (lv_at hl 1 rfl) ?_
  refine lv_if_ne (tgt := 13) hx hb dL_made_1 (by decide) (fun c_1 => absurd c_1 (by decide)) (fun c_1 => ?_)
  refine lv_aload_n hx hb dL_made_4 rfl (lv_at hl 0 rfl) ?_
  refine lv_iload_n hx hb dL_made_5 rfl (lv_at hl 2 rfl) ?_
  refine lv_iload_n hx hb dL_made_6 rfl (lv_at hl 3 rfl) ?_
  refine g_callN (ws := []) (wc := w) (va_runV (As := [.int a, .int b]) (rest := []) ⟨hx, hb, hml, hown, hts⟩ (HL s.heap.size) (cwV 2 hts gL_made_X7_ratio rfl hc9 hs9 (by decide +kernel) hr9) (gPX_VA hP hD hK hE hS hA 0 he rfl) rfl rfl hl.1 rfl (lv_room (Nat.le_of_ble_eq_true rfl)) dL_made_7 hm9) hP hD hS hA (fun v w1 H locs hf hP hD hS => ?_)
  obtain ⟨rfl, hG⟩ := hf
  refine lv_goto (tgt := 101) hx hb dL_made_10 (by decide) ?_
  refine W.widen (k := 9) (n := 164) hm9.1 hm9.2 ?_
  exact W.iret (v := x) hx hb hr (fun t ht hW => ⟨⟨some (.int x), w1, rfl, ⟨rfl, hG⟩, by rw [← hAe]; exact hD, by rw [ht]; exact hP⟩, by rw [← hAe]; exact hS.F ht⟩) (by rw [← hAe]; exact hS.2.2) dL_made_101
set_option maxRecDepth 100000 in
theorem mt_ratio {l : Launch} {D : va_G} {y : Nat → ClassId} {ad : Nat → Nat} {w : va_W} {h : Nat} {fs : List Value} (he : w[0]? = some (h, .inr (5, fs))) {a b : Int32} {G : va_W → Prop} {rm : Room} {E : String} (HL : ∀ sz, vx_Met l yX7_ratio wsX7_ratio rm (gPX D y ad [.ref h, .int a, .int b] w sz) gNo (gXC D w E G) 1 6 (va_A w sz)) (hc9 : rm.cells = 1) (hs9 : rm.slots = 6) (hr9 : rm.frames + 1 ≤ 9 ∧ 8 + (7 + 11) + rm.locals ≤ 350) (sz : Nat) : vx_Met l yL_made wsL_made ({ frames := 9, cells := 1, slots := 6, locals := 350 } : Room) (gPX D y ad [.ref h, .int 0, .int a, .int b] w sz) gNo (gXC D w E G) 1 6 (va_A w sz) := by
  refine vx_ofW (cc := cL_made) (maxL := 4) (ret := (some .int)) (by decide) rfl ?_
  intro pg e s m args below meth c s₁ B hml hno hv
  obtain ⟨rfl, hsz, hP, hK, hD0, hE0⟩ := hv
  have hx := B.exec
  have hb := B.bytes
  have hr := B.returns
  have hts := atoms_spec (ws := wsL_made) B.pre
  have hown : s.vm.findClass RL = some m.cls := findClass_of_methodNamed B.named
  have hlocks := B.notSynchronized
  subst hsz
  obtain ⟨A, hAe⟩ : ∃ A : Nat → Prop, A = va_A w s.heap.size := ⟨_, rfl⟩
  have hE : gE ad A s s.heap := by rw [hAe]; exact hE0
  have hD : va_D A w := by rw [hAe]; exact hD0.self (sz := s.heap.size)
  have hA : ∀ q : Nat, s.heap.size ≤ q → A q := fun q h => by rw [hAe]; exact Or.inr h
  have hS : va_S A s.heap s.heap [] := va_S.rf
  have hl := lv_entry ([.ref h, .int 0, .int a, .int b]) (n := 4) (Nat.le_of_ble_eq_true rfl)
  rw [lg_entry_eq]
  generalize (lg_sl ([.ref h, .int 0, .int a, .int b]) ++ List.replicate (4 - (lg_sl ([.ref h, .int 0, .int a, .int b])).length) Slot.unset).toArray = ls at hl ⊢
  have hl : lv_has ls 4 [(0, .ref h), (1, .int 0), (2, .int a), (3, .int b)] := hl
  refine lv_iload_n hx hb dL_made_0 rfl (lv_at hl 1 rfl) ?_
  refine lv_if_ne (tgt := 13) hx hb dL_made_1 (by decide) (fun c_1 => absurd c_1 (by decide)) (fun c_1 => ?_)
  refine lv_aload_n hx hb dL_made_4 rfl (lv_at hl 0 rfl) ?_
  refine lv_iload_n hx hb dL_made_5 rfl (lv_at hl 2 rfl) ?_
  refine lv_iload_n hx hb dL_made_6 rfl (lv_at hl 3 rfl) ?_
  exact g_outX (vx_runV (As := [.int a, .int b]) (rest := []) ⟨hx, hb, hml, hown, hts⟩ (HL s.heap.size) (cwV 2 hts gL_made_X7_ratio rfl hc9 hs9 (by decide +kernel) hr9) (gPX_VA hP hD hK hE hS hA 0 he rfl) rfl rfl hl.1 rfl (lv_room (Nat.le_of_ble_eq_true rfl)) dL_made_7 ⟨Nat.le_of_ble_eq_true rfl, Nat.le_of_ble_eq_true rfl⟩) hAe hD hS hA (fun w1 h9 => h9) rfl hno hlocks (Nat.le_of_ble_eq_true rfl) (Nat.le_of_ble_eq_true rfl)
set_option maxRecDepth 100000 in
theorem mn_sum {l : Launch} {D : va_G} {y : Nat → ClassId} {ad : Nat → Nat} {w : va_W} {h : Nat} {fs : List Value} (he : w[0]? = some (h, .inr (5, fs))) {a b : Int32} {G : va_W → Prop} {rm : Room} {mc ms : Nat} {x : Int32} (HL : ∀ sz, Met l yX7_sum wsX7_sum rm (gPX D y ad [.ref h, .int a, .int b] w sz) (gQn D w (fun v w1 => v = some (.int x) ∧ G w1)) mc ms (va_A w sz)) (hc9 : rm.cells = mc) (hs9 : rm.slots = ms) (hm9 : 0 + mc ≤ 9 ∧ 0 + ms ≤ 164) (hr9 : rm.frames + 1 ≤ 9 ∧ 8 + (3 + 11) + rm.locals ≤ 350) (sz : Nat) : Met l yL_made wsL_made ({ frames := 9, cells := 9, slots := 164, locals := 350 } : Room) (gPX D y ad [.ref h, .int 1, .int a, .int b] w sz) (gQn D w (fun v w1 => v = some (.int x) ∧ G w1)) 9 164 (va_A w sz) := by
  refine Met.ofW (cc := cL_made) (maxL := 4) (ret := (some .int)) (by decide) rfl ?_
  intro pg e s m args below meth c s₁ B hml hv
  obtain ⟨rfl, hsz, hP, hK, hD0, hE0⟩ := hv
  have hx := B.exec
  have hb := B.bytes
  have hr := B.returns
  have hts := atoms_spec (ws := wsL_made) B.pre
  have hown : s.vm.findClass RL = some m.cls := findClass_of_methodNamed B.named
  have hlocks := B.notSynchronized
  subst hsz
  obtain ⟨A, hAe⟩ : ∃ A : Nat → Prop, A = va_A w s.heap.size := ⟨_, rfl⟩
  have hE : gE ad A s s.heap := by rw [hAe]; exact hE0
  have hD : va_D A w := by rw [hAe]; exact hD0.self (sz := s.heap.size)
  have hA : ∀ q : Nat, s.heap.size ≤ q → A q := fun q h => by rw [hAe]; exact Or.inr h
  have hS : va_S A s.heap s.heap [] := va_S.rf
  have hl := lv_entry ([.ref h, .int 1, .int a, .int b]) (n := 4) (Nat.le_of_ble_eq_true rfl)
  rw [lg_entry_eq]
  generalize (lg_sl ([.ref h, .int 1, .int a, .int b]) ++ List.replicate (4 - (lg_sl ([.ref h, .int 1, .int a, .int b])).length) Slot.unset).toArray = ls at hl ⊢
  have hl : lv_has ls 4 [(0, .ref h), (1, .int 1), (2, .int a), (3, .int b)] := hl
  refine lv_iload_n hx hb dL_made_0 rfl (lv_at hl 1 rfl) ?_
  refine lv_if_ne (tgt := 13) hx hb dL_made_1 (by decide) (fun c_1 => ?_) (fun c_1 => absurd c_1 (by decide))
  refine lv_iload_n hx hb dL_made_13 rfl (lv_at hl 1 rfl) ?_
  refine lv_iconst (v := 1) hx hb dL_made_14 (by decide) ?_
  refine lv_icmp_ne (tgt := 27) hx hb dL_made_15 (by decide) (fun c_15 => absurd c_15 (by decide)) (fun c_15 => ?_)
  refine lv_aload_n hx hb dL_made_18 rfl (lv_at hl 0 rfl) ?_
  refine lv_iload_n hx hb dL_made_19 rfl (lv_at hl 2 rfl) ?_
  refine lv_iload_n hx hb dL_made_20 rfl (lv_at hl 3 rfl) ?_
  refine g_callN (ws := []) (wc := w) (va_runV (As := [.int a, .int b]) (rest := []) ⟨hx, hb, hml, hown, hts⟩ (HL s.heap.size) (cwV 2 hts gL_made_X7_sum rfl hc9 hs9 (by decide +kernel) hr9) (gPX_VA hP hD hK hE hS hA 0 he rfl) rfl rfl hl.1 rfl (lv_room (Nat.le_of_ble_eq_true rfl)) dL_made_21 hm9) hP hD hS hA (fun v w1 H locs hf hP hD hS => ?_)
  obtain ⟨rfl, hG⟩ := hf
  refine lv_goto (tgt := 101) hx hb dL_made_24 (by decide) ?_
  refine W.widen (k := 9) (n := 164) hm9.1 hm9.2 ?_
  exact W.iret (v := x) hx hb hr (fun t ht hW => ⟨⟨some (.int x), w1, rfl, ⟨rfl, hG⟩, by rw [← hAe]; exact hD, by rw [ht]; exact hP⟩, by rw [← hAe]; exact hS.F ht⟩) (by rw [← hAe]; exact hS.2.2) dL_made_101
set_option maxRecDepth 100000 in
theorem mt_sum {l : Launch} {D : va_G} {y : Nat → ClassId} {ad : Nat → Nat} {w : va_W} {h : Nat} {fs : List Value} (he : w[0]? = some (h, .inr (5, fs))) {a b : Int32} {G : va_W → Prop} {rm : Room} {E : String} (HL : ∀ sz, vx_Met l yX7_sum wsX7_sum rm (gPX D y ad [.ref h, .int a, .int b] w sz) gNo (gXC D w E G) 1 6 (va_A w sz)) (hc9 : rm.cells = 1) (hs9 : rm.slots = 6) (hr9 : rm.frames + 1 ≤ 9 ∧ 8 + (3 + 11) + rm.locals ≤ 350) (sz : Nat) : vx_Met l yL_made wsL_made ({ frames := 9, cells := 1, slots := 6, locals := 350 } : Room) (gPX D y ad [.ref h, .int 1, .int a, .int b] w sz) gNo (gXC D w E G) 1 6 (va_A w sz) := by
  refine vx_ofW (cc := cL_made) (maxL := 4) (ret := (some .int)) (by decide) rfl ?_
  intro pg e s m args below meth c s₁ B hml hno hv
  obtain ⟨rfl, hsz, hP, hK, hD0, hE0⟩ := hv
  have hx := B.exec
  have hb := B.bytes
  have hr := B.returns
  have hts := atoms_spec (ws := wsL_made) B.pre
  have hown : s.vm.findClass RL = some m.cls := findClass_of_methodNamed B.named
  have hlocks := B.notSynchronized
  subst hsz
  obtain ⟨A, hAe⟩ : ∃ A : Nat → Prop, A = va_A w s.heap.size := ⟨_, rfl⟩
  have hE : gE ad A s s.heap := by rw [hAe]; exact hE0
  have hD : va_D A w := by rw [hAe]; exact hD0.self (sz := s.heap.size)
  have hA : ∀ q : Nat, s.heap.size ≤ q → A q := fun q h => by rw [hAe]; exact Or.inr h
  have hS : va_S A s.heap s.heap [] := va_S.rf
  have hl := lv_entry ([.ref h, .int 1, .int a, .int b]) (n := 4) (Nat.le_of_ble_eq_true rfl)
  rw [lg_entry_eq]
  generalize (lg_sl ([.ref h, .int 1, .int a, .int b]) ++ List.replicate (4 - (lg_sl ([.ref h, .int 1, .int a, .int b])).length) Slot.unset).toArray = ls at hl ⊢
  have hl : lv_has ls 4 [(0, .ref h), (1, .int 1), (2, .int a), (3, .int b)] := hl
  refine lv_iload_n hx hb dL_made_0 rfl (lv_at hl 1 rfl) ?_
  refine lv_if_ne (tgt := 13) hx hb dL_made_1 (by decide) (fun c_1 => ?_) (fun c_1 => absurd c_1 (by decide))
  refine lv_iload_n hx hb dL_made_13 rfl (lv_at hl 1 rfl) ?_
  refine lv_iconst (v := 1) hx hb dL_made_14 (by decide) ?_
  refine lv_icmp_ne (tgt := 27) hx hb dL_made_15 (by decide) (fun c_15 => absurd c_15 (by decide)) (fun c_15 => ?_)
  refine lv_aload_n hx hb dL_made_18 rfl (lv_at hl 0 rfl) ?_
  refine lv_iload_n hx hb dL_made_19 rfl (lv_at hl 2 rfl) ?_
  refine lv_iload_n hx hb dL_made_20 rfl (lv_at hl 3 rfl) ?_
  exact g_outX (vx_runV (As := [.int a, .int b]) (rest := []) ⟨hx, hb, hml, hown, hts⟩ (HL s.heap.size) (cwV 2 hts gL_made_X7_sum rfl hc9 hs9 (by decide +kernel) hr9) (gPX_VA hP hD hK hE hS hA 0 he rfl) rfl rfl hl.1 rfl (lv_room (Nat.le_of_ble_eq_true rfl)) dL_made_21 ⟨Nat.le_of_ble_eq_true rfl, Nat.le_of_ble_eq_true rfl⟩) hAe hD hS hA (fun w1 h9 => h9) rfl hno hlocks (Nat.le_of_ble_eq_true rfl) (Nat.le_of_ble_eq_true rfl)
set_option maxRecDepth 100000 in
theorem mn_difference {l : Launch} {D : va_G} {y : Nat → ClassId} {ad : Nat → Nat} {w : va_W} {h : Nat} {fs : List Value} (he : w[0]? = some (h, .inr (5, fs))) {a b : Int32} {G : va_W → Prop} {rm : Room} {mc ms : Nat} {x : Int32} (HL : ∀ sz, Met l yX7_difference wsX7_difference rm (gPX D y ad [.ref h, .int a, .int b] w sz) (gQn D w (fun v w1 => v = some (.int x) ∧ G w1)) mc ms (va_A w sz)) (hc9 : rm.cells = mc) (hs9 : rm.slots = ms) (hm9 : 0 + mc ≤ 9 ∧ 0 + ms ≤ 164) (hr9 : rm.frames + 1 ≤ 9 ∧ 8 + (3 + 11) + rm.locals ≤ 350) (sz : Nat) : Met l yL_made wsL_made ({ frames := 9, cells := 9, slots := 164, locals := 350 } : Room) (gPX D y ad [.ref h, .int 2, .int a, .int b] w sz) (gQn D w (fun v w1 => v = some (.int x) ∧ G w1)) 9 164 (va_A w sz) := by
  refine Met.ofW (cc := cL_made) (maxL := 4) (ret := (some .int)) (by decide) rfl ?_
  intro pg e s m args below meth c s₁ B hml hv
  obtain ⟨rfl, hsz, hP, hK, hD0, hE0⟩ := hv
  have hx := B.exec
  have hb := B.bytes
  have hr := B.returns
  have hts := atoms_spec (ws := wsL_made) B.pre
  have hown : s.vm.findClass RL = some m.cls := findClass_of_methodNamed B.named
  have hlocks := B.notSynchronized
  subst hsz
  obtain ⟨A, hAe⟩ : ∃ A : Nat → Prop, A = va_A w s.heap.size := ⟨_, rfl⟩
  have hE : gE ad A s s.heap := by rw [hAe]; exact hE0
  have hD : va_D A w := by rw [hAe]; exact hD0.self (sz := s.heap.size)
  have hA : ∀ q : Nat, s.heap.size ≤ q → A q := fun q h => by rw [hAe]; exact Or.inr h
  have hS : va_S A s.heap s.heap [] := va_S.rf
  have hl := lv_entry ([.ref h, .int 2, .int a, .int b]) (n := 4) (Nat.le_of_ble_eq_true rfl)
  rw [lg_entry_eq]
  generalize (lg_sl ([.ref h, .int 2, .int a, .int b]) ++ List.replicate (4 - (lg_sl ([.ref h, .int 2, .int a, .int b])).length) Slot.unset).toArray = ls at hl ⊢
  have hl : lv_has ls 4 [(0, .ref h), (1, .int 2), (2, .int a), (3, .int b)] := hl
  refine lv_iload_n hx hb dL_made_0 rfl (lv_at hl 1 rfl) ?_
  refine lv_if_ne (tgt := 13) hx hb dL_made_1 (by decide) (fun c_1 => ?_) (fun c_1 => absurd c_1 (by decide))
  refine lv_iload_n hx hb dL_made_13 rfl (lv_at hl 1 rfl) ?_
  refine lv_iconst (v := 1) hx hb dL_made_14 (by decide) ?_
  refine lv_icmp_ne (tgt := 27) hx hb dL_made_15 (by decide) (fun c_15 => ?_) (fun c_15 => absurd c_15 (by decide))
  refine lv_iload_n hx hb dL_made_27 rfl (lv_at hl 1 rfl) ?_
  refine lv_iconst (v := 2) hx hb dL_made_28 (by decide) ?_
  refine lv_icmp_ne (tgt := 41) hx hb dL_made_29 (by decide) (fun c_29 => absurd c_29 (by decide)) (fun c_29 => ?_)
  refine lv_aload_n hx hb dL_made_32 rfl (lv_at hl 0 rfl) ?_
  refine lv_iload_n hx hb dL_made_33 rfl (lv_at hl 2 rfl) ?_
  refine lv_iload_n hx hb dL_made_34 rfl (lv_at hl 3 rfl) ?_
  refine g_callN (ws := []) (wc := w) (va_runV (As := [.int a, .int b]) (rest := []) ⟨hx, hb, hml, hown, hts⟩ (HL s.heap.size) (cwV 2 hts gL_made_X7_difference rfl hc9 hs9 (by decide +kernel) hr9) (gPX_VA hP hD hK hE hS hA 0 he rfl) rfl rfl hl.1 rfl (lv_room (Nat.le_of_ble_eq_true rfl)) dL_made_35 hm9) hP hD hS hA (fun v w1 H locs hf hP hD hS => ?_)
  obtain ⟨rfl, hG⟩ := hf
  refine lv_goto (tgt := 101) hx hb dL_made_38 (by decide) ?_
  refine W.widen (k := 9) (n := 164) hm9.1 hm9.2 ?_
  exact W.iret (v := x) hx hb hr (fun t ht hW => ⟨⟨some (.int x), w1, rfl, ⟨rfl, hG⟩, by rw [← hAe]; exact hD, by rw [ht]; exact hP⟩, by rw [← hAe]; exact hS.F ht⟩) (by rw [← hAe]; exact hS.2.2) dL_made_101
set_option maxRecDepth 100000 in
theorem mt_difference {l : Launch} {D : va_G} {y : Nat → ClassId} {ad : Nat → Nat} {w : va_W} {h : Nat} {fs : List Value} (he : w[0]? = some (h, .inr (5, fs))) {a b : Int32} {G : va_W → Prop} {rm : Room} {E : String} (HL : ∀ sz, vx_Met l yX7_difference wsX7_difference rm (gPX D y ad [.ref h, .int a, .int b] w sz) gNo (gXC D w E G) 1 6 (va_A w sz)) (hc9 : rm.cells = 1) (hs9 : rm.slots = 6) (hr9 : rm.frames + 1 ≤ 9 ∧ 8 + (3 + 11) + rm.locals ≤ 350) (sz : Nat) : vx_Met l yL_made wsL_made ({ frames := 9, cells := 1, slots := 6, locals := 350 } : Room) (gPX D y ad [.ref h, .int 2, .int a, .int b] w sz) gNo (gXC D w E G) 1 6 (va_A w sz) := by
  refine vx_ofW (cc := cL_made) (maxL := 4) (ret := (some .int)) (by decide) rfl ?_
  intro pg e s m args below meth c s₁ B hml hno hv
  obtain ⟨rfl, hsz, hP, hK, hD0, hE0⟩ := hv
  have hx := B.exec
  have hb := B.bytes
  have hr := B.returns
  have hts := atoms_spec (ws := wsL_made) B.pre
  have hown : s.vm.findClass RL = some m.cls := findClass_of_methodNamed B.named
  have hlocks := B.notSynchronized
  subst hsz
  obtain ⟨A, hAe⟩ : ∃ A : Nat → Prop, A = va_A w s.heap.size := ⟨_, rfl⟩
  have hE : gE ad A s s.heap := by rw [hAe]; exact hE0
  have hD : va_D A w := by rw [hAe]; exact hD0.self (sz := s.heap.size)
  have hA : ∀ q : Nat, s.heap.size ≤ q → A q := fun q h => by rw [hAe]; exact Or.inr h
  have hS : va_S A s.heap s.heap [] := va_S.rf
  have hl := lv_entry ([.ref h, .int 2, .int a, .int b]) (n := 4) (Nat.le_of_ble_eq_true rfl)
  rw [lg_entry_eq]
  generalize (lg_sl ([.ref h, .int 2, .int a, .int b]) ++ List.replicate (4 - (lg_sl ([.ref h, .int 2, .int a, .int b])).length) Slot.unset).toArray = ls at hl ⊢
  have hl : lv_has ls 4 [(0, .ref h), (1, .int 2), (2, .int a), (3, .int b)] := hl
  refine lv_iload_n hx hb dL_made_0 rfl (lv_at hl 1 rfl) ?_
  refine lv_if_ne (tgt := 13) hx hb dL_made_1 (by decide) (fun c_1 => ?_) (fun c_1 => absurd c_1 (by decide))
  refine lv_iload_n hx hb dL_made_13 rfl (lv_at hl 1 rfl) ?_
  refine lv_iconst (v := 1) hx hb dL_made_14 (by decide) ?_
  refine lv_icmp_ne (tgt := 27) hx hb dL_made_15 (by decide) (fun c_15 => ?_) (fun c_15 => absurd c_15 (by decide))
  refine lv_iload_n hx hb dL_made_27 rfl (lv_at hl 1 rfl) ?_
  refine lv_iconst (v := 2) hx hb dL_made_28 (by decide) ?_
  refine lv_icmp_ne (tgt := 41) hx hb dL_made_29 (by decide) (fun c_29 => absurd c_29 (by decide)) (fun c_29 => ?_)
  refine lv_aload_n hx hb dL_made_32 rfl (lv_at hl 0 rfl) ?_
  refine lv_iload_n hx hb dL_made_33 rfl (lv_at hl 2 rfl) ?_
  refine lv_iload_n hx hb dL_made_34 rfl (lv_at hl 3 rfl) ?_
  exact g_outX (vx_runV (As := [.int a, .int b]) (rest := []) ⟨hx, hb, hml, hown, hts⟩ (HL s.heap.size) (cwV 2 hts gL_made_X7_difference rfl hc9 hs9 (by decide +kernel) hr9) (gPX_VA hP hD hK hE hS hA 0 he rfl) rfl rfl hl.1 rfl (lv_room (Nat.le_of_ble_eq_true rfl)) dL_made_35 ⟨Nat.le_of_ble_eq_true rfl, Nat.le_of_ble_eq_true rfl⟩) hAe hD hS hA (fun w1 h9 => h9) rfl hno hlocks (Nat.le_of_ble_eq_true rfl) (Nat.le_of_ble_eq_true rfl)
set_option maxRecDepth 100000 in
theorem mn_product {l : Launch} {D : va_G} {y : Nat → ClassId} {ad : Nat → Nat} {w : va_W} {h : Nat} {fs : List Value} (he : w[0]? = some (h, .inr (5, fs))) {a b : Int32} {G : va_W → Prop} {rm : Room} {mc ms : Nat} {x : Int32} (HL : ∀ sz, Met l yX7_product wsX7_product rm (gPX D y ad [.ref h, .int a, .int b] w sz) (gQn D w (fun v w1 => v = some (.int x) ∧ G w1)) mc ms (va_A w sz)) (hc9 : rm.cells = mc) (hs9 : rm.slots = ms) (hm9 : 0 + mc ≤ 9 ∧ 0 + ms ≤ 164) (hr9 : rm.frames + 1 ≤ 9 ∧ 8 + (3 + 11) + rm.locals ≤ 350) (sz : Nat) : Met l yL_made wsL_made ({ frames := 9, cells := 9, slots := 164, locals := 350 } : Room) (gPX D y ad [.ref h, .int 3, .int a, .int b] w sz) (gQn D w (fun v w1 => v = some (.int x) ∧ G w1)) 9 164 (va_A w sz) := by
  refine Met.ofW (cc := cL_made) (maxL := 4) (ret := (some .int)) (by decide) rfl ?_
  intro pg e s m args below meth c s₁ B hml hv
  obtain ⟨rfl, hsz, hP, hK, hD0, hE0⟩ := hv
  have hx := B.exec
  have hb := B.bytes
  have hr := B.returns
  have hts := atoms_spec (ws := wsL_made) B.pre
  have hown : s.vm.findClass RL = some m.cls := findClass_of_methodNamed B.named
  have hlocks := B.notSynchronized
  subst hsz
  obtain ⟨A, hAe⟩ : ∃ A : Nat → Prop, A = va_A w s.heap.size := ⟨_, rfl⟩
  have hE : gE ad A s s.heap := by rw [hAe]; exact hE0
  have hD : va_D A w := by rw [hAe]; exact hD0.self (sz := s.heap.size)
  have hA : ∀ q : Nat, s.heap.size ≤ q → A q := fun q h => by rw [hAe]; exact Or.inr h
  have hS : va_S A s.heap s.heap [] := va_S.rf
  have hl := lv_entry ([.ref h, .int 3, .int a, .int b]) (n := 4) (Nat.le_of_ble_eq_true rfl)
  rw [lg_entry_eq]
  generalize (lg_sl ([.ref h, .int 3, .int a, .int b]) ++ List.replicate (4 - (lg_sl ([.ref h, .int 3, .int a, .int b])).length) Slot.unset).toArray = ls at hl ⊢
  have hl : lv_has ls 4 [(0, .ref h), (1, .int 3), (2, .int a), (3, .int b)] := hl
  refine lv_iload_n hx hb dL_made_0 rfl (lv_at hl 1 rfl) ?_
  refine lv_if_ne (tgt := 13) hx hb dL_made_1 (by decide) (fun c_1 => ?_) (fun c_1 => absurd c_1 (by decide))
  refine lv_iload_n hx hb dL_made_13 rfl (lv_at hl 1 rfl) ?_
  refine lv_iconst (v := 1) hx hb dL_made_14 (by decide) ?_
  refine lv_icmp_ne (tgt := 27) hx hb dL_made_15 (by decide) (fun c_15 => ?_) (fun c_15 => absurd c_15 (by decide))
  refine lv_iload_n hx hb dL_made_27 rfl (lv_at hl 1 rfl) ?_
  refine lv_iconst (v := 2) hx hb dL_made_28 (by decide) ?_
  refine lv_icmp_ne (tgt := 41) hx hb dL_made_29 (by decide) (fun c_29 => ?_) (fun c_29 => absurd c_29 (by decide))
  refine lv_iload_n hx hb dL_made_41 rfl (lv_at hl 1 rfl) ?_
  refine lv_iconst (v := 3) hx hb dL_made_42 (by decide) ?_
  refine lv_icmp_ne (tgt := 55) hx hb dL_made_43 (by decide) (fun c_43 => absurd c_43 (by decide)) (fun c_43 => ?_)
  refine lv_aload_n hx hb dL_made_46 rfl (lv_at hl 0 rfl) ?_
  refine lv_iload_n hx hb dL_made_47 rfl (lv_at hl 2 rfl) ?_
  refine lv_iload_n hx hb dL_made_48 rfl (lv_at hl 3 rfl) ?_
  refine g_callN (ws := []) (wc := w) (va_runV (As := [.int a, .int b]) (rest := []) ⟨hx, hb, hml, hown, hts⟩ (HL s.heap.size) (cwV 2 hts gL_made_X7_product rfl hc9 hs9 (by decide +kernel) hr9) (gPX_VA hP hD hK hE hS hA 0 he rfl) rfl rfl hl.1 rfl (lv_room (Nat.le_of_ble_eq_true rfl)) dL_made_49 hm9) hP hD hS hA (fun v w1 H locs hf hP hD hS => ?_)
  obtain ⟨rfl, hG⟩ := hf
  refine lv_goto (tgt := 101) hx hb dL_made_52 (by decide) ?_
  refine W.widen (k := 9) (n := 164) hm9.1 hm9.2 ?_
  exact W.iret (v := x) hx hb hr (fun t ht hW => ⟨⟨some (.int x), w1, rfl, ⟨rfl, hG⟩, by rw [← hAe]; exact hD, by rw [ht]; exact hP⟩, by rw [← hAe]; exact hS.F ht⟩) (by rw [← hAe]; exact hS.2.2) dL_made_101
set_option maxRecDepth 100000 in
theorem mt_product {l : Launch} {D : va_G} {y : Nat → ClassId} {ad : Nat → Nat} {w : va_W} {h : Nat} {fs : List Value} (he : w[0]? = some (h, .inr (5, fs))) {a b : Int32} {G : va_W → Prop} {rm : Room} {E : String} (HL : ∀ sz, vx_Met l yX7_product wsX7_product rm (gPX D y ad [.ref h, .int a, .int b] w sz) gNo (gXC D w E G) 1 6 (va_A w sz)) (hc9 : rm.cells = 1) (hs9 : rm.slots = 6) (hr9 : rm.frames + 1 ≤ 9 ∧ 8 + (3 + 11) + rm.locals ≤ 350) (sz : Nat) : vx_Met l yL_made wsL_made ({ frames := 9, cells := 1, slots := 6, locals := 350 } : Room) (gPX D y ad [.ref h, .int 3, .int a, .int b] w sz) gNo (gXC D w E G) 1 6 (va_A w sz) := by
  refine vx_ofW (cc := cL_made) (maxL := 4) (ret := (some .int)) (by decide) rfl ?_
  intro pg e s m args below meth c s₁ B hml hno hv
  obtain ⟨rfl, hsz, hP, hK, hD0, hE0⟩ := hv
  have hx := B.exec
  have hb := B.bytes
  have hr := B.returns
  have hts := atoms_spec (ws := wsL_made) B.pre
  have hown : s.vm.findClass RL = some m.cls := findClass_of_methodNamed B.named
  have hlocks := B.notSynchronized
  subst hsz
  obtain ⟨A, hAe⟩ : ∃ A : Nat → Prop, A = va_A w s.heap.size := ⟨_, rfl⟩
  have hE : gE ad A s s.heap := by rw [hAe]; exact hE0
  have hD : va_D A w := by rw [hAe]; exact hD0.self (sz := s.heap.size)
  have hA : ∀ q : Nat, s.heap.size ≤ q → A q := fun q h => by rw [hAe]; exact Or.inr h
  have hS : va_S A s.heap s.heap [] := va_S.rf
  have hl := lv_entry ([.ref h, .int 3, .int a, .int b]) (n := 4) (Nat.le_of_ble_eq_true rfl)
  rw [lg_entry_eq]
  generalize (lg_sl ([.ref h, .int 3, .int a, .int b]) ++ List.replicate (4 - (lg_sl ([.ref h, .int 3, .int a, .int b])).length) Slot.unset).toArray = ls at hl ⊢
  have hl : lv_has ls 4 [(0, .ref h), (1, .int 3), (2, .int a), (3, .int b)] := hl
  refine lv_iload_n hx hb dL_made_0 rfl (lv_at hl 1 rfl) ?_
  refine lv_if_ne (tgt := 13) hx hb dL_made_1 (by decide) (fun c_1 => ?_) (fun c_1 => absurd c_1 (by decide))
  refine lv_iload_n hx hb dL_made_13 rfl (lv_at hl 1 rfl) ?_
  refine lv_iconst (v := 1) hx hb dL_made_14 (by decide) ?_
  refine lv_icmp_ne (tgt := 27) hx hb dL_made_15 (by decide) (fun c_15 => ?_) (fun c_15 => absurd c_15 (by decide))
  refine lv_iload_n hx hb dL_made_27 rfl (lv_at hl 1 rfl) ?_
  refine lv_iconst (v := 2) hx hb dL_made_28 (by decide) ?_
  refine lv_icmp_ne (tgt := 41) hx hb dL_made_29 (by decide) (fun c_29 => ?_) (fun c_29 => absurd c_29 (by decide))
  refine lv_iload_n hx hb dL_made_41 rfl (lv_at hl 1 rfl) ?_
  refine lv_iconst (v := 3) hx hb dL_made_42 (by decide) ?_
  refine lv_icmp_ne (tgt := 55) hx hb dL_made_43 (by decide) (fun c_43 => absurd c_43 (by decide)) (fun c_43 => ?_)
  refine lv_aload_n hx hb dL_made_46 rfl (lv_at hl 0 rfl) ?_
  refine lv_iload_n hx hb dL_made_47 rfl (lv_at hl 2 rfl) ?_
  refine lv_iload_n hx hb dL_made_48 rfl (lv_at hl 3 rfl) ?_
  exact g_outX (vx_runV (As := [.int a, .int b]) (rest := []) ⟨hx, hb, hml, hown, hts⟩ (HL s.heap.size) (cwV 2 hts gL_made_X7_product rfl hc9 hs9 (by decide +kernel) hr9) (gPX_VA hP hD hK hE hS hA 0 he rfl) rfl rfl hl.1 rfl (lv_room (Nat.le_of_ble_eq_true rfl)) dL_made_49 ⟨Nat.le_of_ble_eq_true rfl, Nat.le_of_ble_eq_true rfl⟩) hAe hD hS hA (fun w1 h9 => h9) rfl hno hlocks (Nat.le_of_ble_eq_true rfl) (Nat.le_of_ble_eq_true rfl)
set_option maxRecDepth 100000 in
theorem mn_greater {l : Launch} {D : va_G} {y : Nat → ClassId} {ad : Nat → Nat} {w : va_W} {h : Nat} {fs : List Value} (he : w[0]? = some (h, .inr (5, fs))) {a b : Int32} {G : va_W → Prop} {rm : Room} {mc ms : Nat} {x : Int32} (HL : ∀ sz, Met l yX7_greater wsX7_greater rm (gPX D y ad [.ref h, .int a, .int b] w sz) (gQn D w (fun v w1 => v = some (.int x) ∧ G w1)) mc ms (va_A w sz)) (hc9 : rm.cells = mc) (hs9 : rm.slots = ms) (hm9 : 0 + mc ≤ 9 ∧ 0 + ms ≤ 164) (hr9 : rm.frames + 1 ≤ 9 ∧ 8 + (3 + 11) + rm.locals ≤ 350) (sz : Nat) : Met l yL_made wsL_made ({ frames := 9, cells := 9, slots := 164, locals := 350 } : Room) (gPX D y ad [.ref h, .int 4, .int a, .int b] w sz) (gQn D w (fun v w1 => v = some (.int x) ∧ G w1)) 9 164 (va_A w sz) := by
  refine Met.ofW (cc := cL_made) (maxL := 4) (ret := (some .int)) (by decide) rfl ?_
  intro pg e s m args below meth c s₁ B hml hv
  obtain ⟨rfl, hsz, hP, hK, hD0, hE0⟩ := hv
  have hx := B.exec
  have hb := B.bytes
  have hr := B.returns
  have hts := atoms_spec (ws := wsL_made) B.pre
  have hown : s.vm.findClass RL = some m.cls := findClass_of_methodNamed B.named
  have hlocks := B.notSynchronized
  subst hsz
  obtain ⟨A, hAe⟩ : ∃ A : Nat → Prop, A = va_A w s.heap.size := ⟨_, rfl⟩
  have hE : gE ad A s s.heap := by rw [hAe]; exact hE0
  have hD : va_D A w := by rw [hAe]; exact hD0.self (sz := s.heap.size)
  have hA : ∀ q : Nat, s.heap.size ≤ q → A q := fun q h => by rw [hAe]; exact Or.inr h
  have hS : va_S A s.heap s.heap [] := va_S.rf
  have hl := lv_entry ([.ref h, .int 4, .int a, .int b]) (n := 4) (Nat.le_of_ble_eq_true rfl)
  rw [lg_entry_eq]
  generalize (lg_sl ([.ref h, .int 4, .int a, .int b]) ++ List.replicate (4 - (lg_sl ([.ref h, .int 4, .int a, .int b])).length) Slot.unset).toArray = ls at hl ⊢
  have hl : lv_has ls 4 [(0, .ref h), (1, .int 4), (2, .int a), (3, .int b)] := hl
  refine lv_iload_n hx hb dL_made_0 rfl (lv_at hl 1 rfl) ?_
  refine lv_if_ne (tgt := 13) hx hb dL_made_1 (by decide) (fun c_1 => ?_) (fun c_1 => absurd c_1 (by decide))
  refine lv_iload_n hx hb dL_made_13 rfl (lv_at hl 1 rfl) ?_
  refine lv_iconst (v := 1) hx hb dL_made_14 (by decide) ?_
  refine lv_icmp_ne (tgt := 27) hx hb dL_made_15 (by decide) (fun c_15 => ?_) (fun c_15 => absurd c_15 (by decide))
  refine lv_iload_n hx hb dL_made_27 rfl (lv_at hl 1 rfl) ?_
  refine lv_iconst (v := 2) hx hb dL_made_28 (by decide) ?_
  refine lv_icmp_ne (tgt := 41) hx hb dL_made_29 (by decide) (fun c_29 => ?_) (fun c_29 => absurd c_29 (by decide))
  refine lv_iload_n hx hb dL_made_41 rfl (lv_at hl 1 rfl) ?_
  refine lv_iconst (v := 3) hx hb dL_made_42 (by decide) ?_
  refine lv_icmp_ne (tgt := 55) hx hb dL_made_43 (by decide) (fun c_43 => ?_) (fun c_43 => absurd c_43 (by decide))
  refine lv_iload_n hx hb dL_made_55 rfl (lv_at hl 1 rfl) ?_
  refine lv_iconst (v := 4) hx hb dL_made_56 (by decide) ?_
  refine lv_icmp_ne (tgt := 69) hx hb dL_made_57 (by decide) (fun c_57 => absurd c_57 (by decide)) (fun c_57 => ?_)
  refine lv_aload_n hx hb dL_made_60 rfl (lv_at hl 0 rfl) ?_
  refine lv_iload_n hx hb dL_made_61 rfl (lv_at hl 2 rfl) ?_
  refine lv_iload_n hx hb dL_made_62 rfl (lv_at hl 3 rfl) ?_
  refine g_callN (ws := []) (wc := w) (va_runV (As := [.int a, .int b]) (rest := []) ⟨hx, hb, hml, hown, hts⟩ (HL s.heap.size) (cwV 2 hts gL_made_X7_greater rfl hc9 hs9 (by decide +kernel) hr9) (gPX_VA hP hD hK hE hS hA 0 he rfl) rfl rfl hl.1 rfl (lv_room (Nat.le_of_ble_eq_true rfl)) dL_made_63 hm9) hP hD hS hA (fun v w1 H locs hf hP hD hS => ?_)
  obtain ⟨rfl, hG⟩ := hf
  refine lv_goto (tgt := 101) hx hb dL_made_66 (by decide) ?_
  refine W.widen (k := 9) (n := 164) hm9.1 hm9.2 ?_
  exact W.iret (v := x) hx hb hr (fun t ht hW => ⟨⟨some (.int x), w1, rfl, ⟨rfl, hG⟩, by rw [← hAe]; exact hD, by rw [ht]; exact hP⟩, by rw [← hAe]; exact hS.F ht⟩) (by rw [← hAe]; exact hS.2.2) dL_made_101
set_option maxRecDepth 100000 in
theorem mt_greater {l : Launch} {D : va_G} {y : Nat → ClassId} {ad : Nat → Nat} {w : va_W} {h : Nat} {fs : List Value} (he : w[0]? = some (h, .inr (5, fs))) {a b : Int32} {G : va_W → Prop} {rm : Room} {E : String} (HL : ∀ sz, vx_Met l yX7_greater wsX7_greater rm (gPX D y ad [.ref h, .int a, .int b] w sz) gNo (gXC D w E G) 1 6 (va_A w sz)) (hc9 : rm.cells = 1) (hs9 : rm.slots = 6) (hr9 : rm.frames + 1 ≤ 9 ∧ 8 + (3 + 11) + rm.locals ≤ 350) (sz : Nat) : vx_Met l yL_made wsL_made ({ frames := 9, cells := 1, slots := 6, locals := 350 } : Room) (gPX D y ad [.ref h, .int 4, .int a, .int b] w sz) gNo (gXC D w E G) 1 6 (va_A w sz) := by
  refine vx_ofW (cc := cL_made) (maxL := 4) (ret := (some .int)) (by decide) rfl ?_
  intro pg e s m args below meth c s₁ B hml hno hv
  obtain ⟨rfl, hsz, hP, hK, hD0, hE0⟩ := hv
  have hx := B.exec
  have hb := B.bytes
  have hr := B.returns
  have hts := atoms_spec (ws := wsL_made) B.pre
  have hown : s.vm.findClass RL = some m.cls := findClass_of_methodNamed B.named
  have hlocks := B.notSynchronized
  subst hsz
  obtain ⟨A, hAe⟩ : ∃ A : Nat → Prop, A = va_A w s.heap.size := ⟨_, rfl⟩
  have hE : gE ad A s s.heap := by rw [hAe]; exact hE0
  have hD : va_D A w := by rw [hAe]; exact hD0.self (sz := s.heap.size)
  have hA : ∀ q : Nat, s.heap.size ≤ q → A q := fun q h => by rw [hAe]; exact Or.inr h
  have hS : va_S A s.heap s.heap [] := va_S.rf
  have hl := lv_entry ([.ref h, .int 4, .int a, .int b]) (n := 4) (Nat.le_of_ble_eq_true rfl)
  rw [lg_entry_eq]
  generalize (lg_sl ([.ref h, .int 4, .int a, .int b]) ++ List.replicate (4 - (lg_sl ([.ref h, .int 4, .int a, .int b])).length) Slot.unset).toArray = ls at hl ⊢
  have hl : lv_has ls 4 [(0, .ref h), (1, .int 4), (2, .int a), (3, .int b)] := hl
  refine lv_iload_n hx hb dL_made_0 rfl (lv_at hl 1 rfl) ?_
  refine lv_if_ne (tgt := 13) hx hb dL_made_1 (by decide) (fun c_1 => ?_) (fun c_1 => absurd c_1 (by decide))
  refine lv_iload_n hx hb dL_made_13 rfl (lv_at hl 1 rfl) ?_
  refine lv_iconst (v := 1) hx hb dL_made_14 (by decide) ?_
  refine lv_icmp_ne (tgt := 27) hx hb dL_made_15 (by decide) (fun c_15 => ?_) (fun c_15 => absurd c_15 (by decide))
  refine lv_iload_n hx hb dL_made_27 rfl (lv_at hl 1 rfl) ?_
  refine lv_iconst (v := 2) hx hb dL_made_28 (by decide) ?_
  refine lv_icmp_ne (tgt := 41) hx hb dL_made_29 (by decide) (fun c_29 => ?_) (fun c_29 => absurd c_29 (by decide))
  refine lv_iload_n hx hb dL_made_41 rfl (lv_at hl 1 rfl) ?_
  refine lv_iconst (v := 3) hx hb dL_made_42 (by decide) ?_
  refine lv_icmp_ne (tgt := 55) hx hb dL_made_43 (by decide) (fun c_43 => ?_) (fun c_43 => absurd c_43 (by decide))
  refine lv_iload_n hx hb dL_made_55 rfl (lv_at hl 1 rfl) ?_
  refine lv_iconst (v := 4) hx hb dL_made_56 (by decide) ?_
  refine lv_icmp_ne (tgt := 69) hx hb dL_made_57 (by decide) (fun c_57 => absurd c_57 (by decide)) (fun c_57 => ?_)
  refine lv_aload_n hx hb dL_made_60 rfl (lv_at hl 0 rfl) ?_
  refine lv_iload_n hx hb dL_made_61 rfl (lv_at hl 2 rfl) ?_
  refine lv_iload_n hx hb dL_made_62 rfl (lv_at hl 3 rfl) ?_
  exact g_outX (vx_runV (As := [.int a, .int b]) (rest := []) ⟨hx, hb, hml, hown, hts⟩ (HL s.heap.size) (cwV 2 hts gL_made_X7_greater rfl hc9 hs9 (by decide +kernel) hr9) (gPX_VA hP hD hK hE hS hA 0 he rfl) rfl rfl hl.1 rfl (lv_room (Nat.le_of_ble_eq_true rfl)) dL_made_63 ⟨Nat.le_of_ble_eq_true rfl, Nat.le_of_ble_eq_true rfl⟩) hAe hD hS hA (fun w1 h9 => h9) rfl hno hlocks (Nat.le_of_ble_eq_true rfl) (Nat.le_of_ble_eq_true rfl)
set_option maxRecDepth 100000 in
theorem mn_inverse {l : Launch} {D : va_G} {y : Nat → ClassId} {ad : Nat → Nat} {w : va_W} {h : Nat} {fs : List Value} (he : w[0]? = some (h, .inr (5, fs))) {a b : Int32} {G : va_W → Prop} {rm : Room} {mc ms : Nat} {x : Int32} (HL : ∀ sz, Met l yX7_inverse wsX7_inverse rm (gPX D y ad [.ref h, .int a] w sz) (gQn D w (fun v w1 => v = some (.int x) ∧ G w1)) mc ms (va_A w sz)) (hc9 : rm.cells = mc) (hs9 : rm.slots = ms) (hm9 : 0 + mc ≤ 9 ∧ 0 + ms ≤ 164) (hr9 : rm.frames + 1 ≤ 9 ∧ 8 + (2 + 11) + rm.locals ≤ 350) (sz : Nat) : Met l yL_made wsL_made ({ frames := 9, cells := 9, slots := 164, locals := 350 } : Room) (gPX D y ad [.ref h, .int 5, .int a, .int b] w sz) (gQn D w (fun v w1 => v = some (.int x) ∧ G w1)) 9 164 (va_A w sz) := by
  refine Met.ofW (cc := cL_made) (maxL := 4) (ret := (some .int)) (by decide) rfl ?_
  intro pg e s m args below meth c s₁ B hml hv
  obtain ⟨rfl, hsz, hP, hK, hD0, hE0⟩ := hv
  have hx := B.exec
  have hb := B.bytes
  have hr := B.returns
  have hts := atoms_spec (ws := wsL_made) B.pre
  have hown : s.vm.findClass RL = some m.cls := findClass_of_methodNamed B.named
  have hlocks := B.notSynchronized
  subst hsz
  obtain ⟨A, hAe⟩ : ∃ A : Nat → Prop, A = va_A w s.heap.size := ⟨_, rfl⟩
  have hE : gE ad A s s.heap := by rw [hAe]; exact hE0
  have hD : va_D A w := by rw [hAe]; exact hD0.self (sz := s.heap.size)
  have hA : ∀ q : Nat, s.heap.size ≤ q → A q := fun q h => by rw [hAe]; exact Or.inr h
  have hS : va_S A s.heap s.heap [] := va_S.rf
  have hl := lv_entry ([.ref h, .int 5, .int a, .int b]) (n := 4) (Nat.le_of_ble_eq_true rfl)
  rw [lg_entry_eq]
  generalize (lg_sl ([.ref h, .int 5, .int a, .int b]) ++ List.replicate (4 - (lg_sl ([.ref h, .int 5, .int a, .int b])).length) Slot.unset).toArray = ls at hl ⊢
  have hl : lv_has ls 4 [(0, .ref h), (1, .int 5), (2, .int a), (3, .int b)] := hl
  refine lv_iload_n hx hb dL_made_0 rfl (lv_at hl 1 rfl) ?_
  refine lv_if_ne (tgt := 13) hx hb dL_made_1 (by decide) (fun c_1 => ?_) (fun c_1 => absurd c_1 (by decide))
  refine lv_iload_n hx hb dL_made_13 rfl (lv_at hl 1 rfl) ?_
  refine lv_iconst (v := 1) hx hb dL_made_14 (by decide) ?_
  refine lv_icmp_ne (tgt := 27) hx hb dL_made_15 (by decide) (fun c_15 => ?_) (fun c_15 => absurd c_15 (by decide))
  refine lv_iload_n hx hb dL_made_27 rfl (lv_at hl 1 rfl) ?_
  refine lv_iconst (v := 2) hx hb dL_made_28 (by decide) ?_
  refine lv_icmp_ne (tgt := 41) hx hb dL_made_29 (by decide) (fun c_29 => ?_) (fun c_29 => absurd c_29 (by decide))
  refine lv_iload_n hx hb dL_made_41 rfl (lv_at hl 1 rfl) ?_
  refine lv_iconst (v := 3) hx hb dL_made_42 (by decide) ?_
  refine lv_icmp_ne (tgt := 55) hx hb dL_made_43 (by decide) (fun c_43 => ?_) (fun c_43 => absurd c_43 (by decide))
  refine lv_iload_n hx hb dL_made_55 rfl (lv_at hl 1 rfl) ?_
  refine lv_iconst (v := 4) hx hb dL_made_56 (by decide) ?_
  refine lv_icmp_ne (tgt := 69) hx hb dL_made_57 (by decide) (fun c_57 => ?_) (fun c_57 => absurd c_57 (by decide))
  refine lv_iload_n hx hb dL_made_69 rfl (lv_at hl 1 rfl) ?_
  refine lv_iconst (v := 5) hx hb dL_made_70 (by decide) ?_
  refine lv_icmp_ne (tgt := 82) hx hb dL_made_71 (by decide) (fun c_71 => absurd c_71 (by decide)) (fun c_71 => ?_)
  refine lv_aload_n hx hb dL_made_74 rfl (lv_at hl 0 rfl) ?_
  refine lv_iload_n hx hb dL_made_75 rfl (lv_at hl 2 rfl) ?_
  refine g_callN (ws := []) (wc := w) (va_runV (As := [.int a]) (rest := []) ⟨hx, hb, hml, hown, hts⟩ (HL s.heap.size) (cwV 1 hts gL_made_X7_inverse rfl hc9 hs9 (by decide +kernel) hr9) (gPX_VA hP hD hK hE hS hA 0 he rfl) rfl rfl hl.1 rfl (lv_room (Nat.le_of_ble_eq_true rfl)) dL_made_76 hm9) hP hD hS hA (fun v w1 H locs hf hP hD hS => ?_)
  obtain ⟨rfl, hG⟩ := hf
  refine lv_goto (tgt := 101) hx hb dL_made_79 (by decide) ?_
  refine W.widen (k := 9) (n := 164) hm9.1 hm9.2 ?_
  exact W.iret (v := x) hx hb hr (fun t ht hW => ⟨⟨some (.int x), w1, rfl, ⟨rfl, hG⟩, by rw [← hAe]; exact hD, by rw [ht]; exact hP⟩, by rw [← hAe]; exact hS.F ht⟩) (by rw [← hAe]; exact hS.2.2) dL_made_101
set_option maxRecDepth 100000 in
theorem mt_inverse {l : Launch} {D : va_G} {y : Nat → ClassId} {ad : Nat → Nat} {w : va_W} {h : Nat} {fs : List Value} (he : w[0]? = some (h, .inr (5, fs))) {a b : Int32} {G : va_W → Prop} {rm : Room} {E : String} (HL : ∀ sz, vx_Met l yX7_inverse wsX7_inverse rm (gPX D y ad [.ref h, .int a] w sz) gNo (gXC D w E G) 1 6 (va_A w sz)) (hc9 : rm.cells = 1) (hs9 : rm.slots = 6) (hr9 : rm.frames + 1 ≤ 9 ∧ 8 + (2 + 11) + rm.locals ≤ 350) (sz : Nat) : vx_Met l yL_made wsL_made ({ frames := 9, cells := 1, slots := 6, locals := 350 } : Room) (gPX D y ad [.ref h, .int 5, .int a, .int b] w sz) gNo (gXC D w E G) 1 6 (va_A w sz) := by
  refine vx_ofW (cc := cL_made) (maxL := 4) (ret := (some .int)) (by decide) rfl ?_
  intro pg e s m args below meth c s₁ B hml hno hv
  obtain ⟨rfl, hsz, hP, hK, hD0, hE0⟩ := hv
  have hx := B.exec
  have hb := B.bytes
  have hr := B.returns
  have hts := atoms_spec (ws := wsL_made) B.pre
  have hown : s.vm.findClass RL = some m.cls := findClass_of_methodNamed B.named
  have hlocks := B.notSynchronized
  subst hsz
  obtain ⟨A, hAe⟩ : ∃ A : Nat → Prop, A = va_A w s.heap.size := ⟨_, rfl⟩
  have hE : gE ad A s s.heap := by rw [hAe]; exact hE0
  have hD : va_D A w := by rw [hAe]; exact hD0.self (sz := s.heap.size)
  have hA : ∀ q : Nat, s.heap.size ≤ q → A q := fun q h => by rw [hAe]; exact Or.inr h
  have hS : va_S A s.heap s.heap [] := va_S.rf
  have hl := lv_entry ([.ref h, .int 5, .int a, .int b]) (n := 4) (Nat.le_of_ble_eq_true rfl)
  rw [lg_entry_eq]
  generalize (lg_sl ([.ref h, .int 5, .int a, .int b]) ++ List.replicate (4 - (lg_sl ([.ref h, .int 5, .int a, .int b])).length) Slot.unset).toArray = ls at hl ⊢
  have hl : lv_has ls 4 [(0, .ref h), (1, .int 5), (2, .int a), (3, .int b)] := hl
  refine lv_iload_n hx hb dL_made_0 rfl (lv_at hl 1 rfl) ?_
  refine lv_if_ne (tgt := 13) hx hb dL_made_1 (by decide) (fun c_1 => ?_) (fun c_1 => absurd c_1 (by decide))
  refine lv_iload_n hx hb dL_made_13 rfl (lv_at hl 1 rfl) ?_
  refine lv_iconst (v := 1) hx hb dL_made_14 (by decide) ?_
  refine lv_icmp_ne (tgt := 27) hx hb dL_made_15 (by decide) (fun c_15 => ?_) (fun c_15 => absurd c_15 (by decide))
  refine lv_iload_n hx hb dL_made_27 rfl (lv_at hl 1 rfl) ?_
  refine lv_iconst (v := 2) hx hb dL_made_28 (by decide) ?_
  refine lv_icmp_ne (tgt := 41) hx hb dL_made_29 (by decide) (fun c_29 => ?_) (fun c_29 => absurd c_29 (by decide))
  refine lv_iload_n hx hb dL_made_41 rfl (lv_at hl 1 rfl) ?_
  refine lv_iconst (v := 3) hx hb dL_made_42 (by decide) ?_
  refine lv_icmp_ne (tgt := 55) hx hb dL_made_43 (by decide) (fun c_43 => ?_) (fun c_43 => absurd c_43 (by decide))
  refine lv_iload_n hx hb dL_made_55 rfl (lv_at hl 1 rfl) ?_
  refine lv_iconst (v := 4) hx hb dL_made_56 (by decide) ?_
  refine lv_icmp_ne (tgt := 69) hx hb dL_made_57 (by decide) (fun c_57 => ?_) (fun c_57 => absurd c_57 (by decide))
  refine lv_iload_n hx hb dL_made_69 rfl (lv_at hl 1 rfl) ?_
  refine lv_iconst (v := 5) hx hb dL_made_70 (by decide) ?_
  refine lv_icmp_ne (tgt := 82) hx hb dL_made_71 (by decide) (fun c_71 => absurd c_71 (by decide)) (fun c_71 => ?_)
  refine lv_aload_n hx hb dL_made_74 rfl (lv_at hl 0 rfl) ?_
  refine lv_iload_n hx hb dL_made_75 rfl (lv_at hl 2 rfl) ?_
  exact g_outX (vx_runV (As := [.int a]) (rest := []) ⟨hx, hb, hml, hown, hts⟩ (HL s.heap.size) (cwV 1 hts gL_made_X7_inverse rfl hc9 hs9 (by decide +kernel) hr9) (gPX_VA hP hD hK hE hS hA 0 he rfl) rfl rfl hl.1 rfl (lv_room (Nat.le_of_ble_eq_true rfl)) dL_made_76 ⟨Nat.le_of_ble_eq_true rfl, Nat.le_of_ble_eq_true rfl⟩) hAe hD hS hA (fun w1 h9 => h9) rfl hno hlocks (Nat.le_of_ble_eq_true rfl) (Nat.le_of_ble_eq_true rfl)
set_option maxRecDepth 100000 in
theorem mn_root {l : Launch} {D : va_G} {y : Nat → ClassId} {ad : Nat → Nat} {w : va_W} {h : Nat} {fs : List Value} (he : w[0]? = some (h, .inr (5, fs))) {a b : Int32} {G : va_W → Prop} {rm : Room} {mc ms : Nat} {x : Int32} (HL : ∀ sz, Met l yX7_root wsX7_root rm (gPX D y ad [.ref h, .int a] w sz) (gQn D w (fun v w1 => v = some (.int x) ∧ G w1)) mc ms (va_A w sz)) (hc9 : rm.cells = mc) (hs9 : rm.slots = ms) (hm9 : 0 + mc ≤ 9 ∧ 0 + ms ≤ 164) (hr9 : rm.frames + 1 ≤ 9 ∧ 8 + (2 + 11) + rm.locals ≤ 350) (sz : Nat) : Met l yL_made wsL_made ({ frames := 9, cells := 9, slots := 164, locals := 350 } : Room) (gPX D y ad [.ref h, .int 6, .int a, .int b] w sz) (gQn D w (fun v w1 => v = some (.int x) ∧ G w1)) 9 164 (va_A w sz) := by
  refine Met.ofW (cc := cL_made) (maxL := 4) (ret := (some .int)) (by decide) rfl ?_
  intro pg e s m args below meth c s₁ B hml hv
  obtain ⟨rfl, hsz, hP, hK, hD0, hE0⟩ := hv
  have hx := B.exec
  have hb := B.bytes
  have hr := B.returns
  have hts := atoms_spec (ws := wsL_made) B.pre
  have hown : s.vm.findClass RL = some m.cls := findClass_of_methodNamed B.named
  have hlocks := B.notSynchronized
  subst hsz
  obtain ⟨A, hAe⟩ : ∃ A : Nat → Prop, A = va_A w s.heap.size := ⟨_, rfl⟩
  have hE : gE ad A s s.heap := by rw [hAe]; exact hE0
  have hD : va_D A w := by rw [hAe]; exact hD0.self (sz := s.heap.size)
  have hA : ∀ q : Nat, s.heap.size ≤ q → A q := fun q h => by rw [hAe]; exact Or.inr h
  have hS : va_S A s.heap s.heap [] := va_S.rf
  have hl := lv_entry ([.ref h, .int 6, .int a, .int b]) (n := 4) (Nat.le_of_ble_eq_true rfl)
  rw [lg_entry_eq]
  generalize (lg_sl ([.ref h, .int 6, .int a, .int b]) ++ List.replicate (4 - (lg_sl ([.ref h, .int 6, .int a, .int b])).length) Slot.unset).toArray = ls at hl ⊢
  have hl : lv_has ls 4 [(0, .ref h), (1, .int 6), (2, .int a), (3, .int b)] := hl
  refine lv_iload_n hx hb dL_made_0 rfl (lv_at hl 1 rfl) ?_
  refine lv_if_ne (tgt := 13) hx hb dL_made_1 (by decide) (fun c_1 => ?_) (fun c_1 => absurd c_1 (by decide))
  refine lv_iload_n hx hb dL_made_13 rfl (lv_at hl 1 rfl) ?_
  refine lv_iconst (v := 1) hx hb dL_made_14 (by decide) ?_
  refine lv_icmp_ne (tgt := 27) hx hb dL_made_15 (by decide) (fun c_15 => ?_) (fun c_15 => absurd c_15 (by decide))
  refine lv_iload_n hx hb dL_made_27 rfl (lv_at hl 1 rfl) ?_
  refine lv_iconst (v := 2) hx hb dL_made_28 (by decide) ?_
  refine lv_icmp_ne (tgt := 41) hx hb dL_made_29 (by decide) (fun c_29 => ?_) (fun c_29 => absurd c_29 (by decide))
  refine lv_iload_n hx hb dL_made_41 rfl (lv_at hl 1 rfl) ?_
  refine lv_iconst (v := 3) hx hb dL_made_42 (by decide) ?_
  refine lv_icmp_ne (tgt := 55) hx hb dL_made_43 (by decide) (fun c_43 => ?_) (fun c_43 => absurd c_43 (by decide))
  refine lv_iload_n hx hb dL_made_55 rfl (lv_at hl 1 rfl) ?_
  refine lv_iconst (v := 4) hx hb dL_made_56 (by decide) ?_
  refine lv_icmp_ne (tgt := 69) hx hb dL_made_57 (by decide) (fun c_57 => ?_) (fun c_57 => absurd c_57 (by decide))
  refine lv_iload_n hx hb dL_made_69 rfl (lv_at hl 1 rfl) ?_
  refine lv_iconst (v := 5) hx hb dL_made_70 (by decide) ?_
  refine lv_icmp_ne (tgt := 82) hx hb dL_made_71 (by decide) (fun c_71 => ?_) (fun c_71 => absurd c_71 (by decide))
  refine lv_iload_n hx hb dL_made_82 rfl (lv_at hl 1 rfl) ?_
  refine lv_bipush (v := 6) hx hb dL_made_83 (by decide) ?_
  refine lv_icmp_ne (tgt := 96) hx hb dL_made_85 (by decide) (fun c_85 => absurd c_85 (by decide)) (fun c_85 => ?_)
  refine lv_aload_n hx hb dL_made_88 rfl (lv_at hl 0 rfl) ?_
  refine lv_iload_n hx hb dL_made_89 rfl (lv_at hl 2 rfl) ?_
  refine g_callN (ws := []) (wc := w) (va_runV (As := [.int a]) (rest := []) ⟨hx, hb, hml, hown, hts⟩ (HL s.heap.size) (cwV 1 hts gL_made_X7_root rfl hc9 hs9 (by decide +kernel) hr9) (gPX_VA hP hD hK hE hS hA 0 he rfl) rfl rfl hl.1 rfl (lv_room (Nat.le_of_ble_eq_true rfl)) dL_made_90 hm9) hP hD hS hA (fun v w1 H locs hf hP hD hS => ?_)
  obtain ⟨rfl, hG⟩ := hf
  refine lv_goto (tgt := 101) hx hb dL_made_93 (by decide) ?_
  refine W.widen (k := 9) (n := 164) hm9.1 hm9.2 ?_
  exact W.iret (v := x) hx hb hr (fun t ht hW => ⟨⟨some (.int x), w1, rfl, ⟨rfl, hG⟩, by rw [← hAe]; exact hD, by rw [ht]; exact hP⟩, by rw [← hAe]; exact hS.F ht⟩) (by rw [← hAe]; exact hS.2.2) dL_made_101
set_option maxRecDepth 100000 in
theorem mt_root {l : Launch} {D : va_G} {y : Nat → ClassId} {ad : Nat → Nat} {w : va_W} {h : Nat} {fs : List Value} (he : w[0]? = some (h, .inr (5, fs))) {a b : Int32} {G : va_W → Prop} {rm : Room} {E : String} (HL : ∀ sz, vx_Met l yX7_root wsX7_root rm (gPX D y ad [.ref h, .int a] w sz) gNo (gXC D w E G) 1 6 (va_A w sz)) (hc9 : rm.cells = 1) (hs9 : rm.slots = 6) (hr9 : rm.frames + 1 ≤ 9 ∧ 8 + (2 + 11) + rm.locals ≤ 350) (sz : Nat) : vx_Met l yL_made wsL_made ({ frames := 9, cells := 1, slots := 6, locals := 350 } : Room) (gPX D y ad [.ref h, .int 6, .int a, .int b] w sz) gNo (gXC D w E G) 1 6 (va_A w sz) := by
  refine vx_ofW (cc := cL_made) (maxL := 4) (ret := (some .int)) (by decide) rfl ?_
  intro pg e s m args below meth c s₁ B hml hno hv
  obtain ⟨rfl, hsz, hP, hK, hD0, hE0⟩ := hv
  have hx := B.exec
  have hb := B.bytes
  have hr := B.returns
  have hts := atoms_spec (ws := wsL_made) B.pre
  have hown : s.vm.findClass RL = some m.cls := findClass_of_methodNamed B.named
  have hlocks := B.notSynchronized
  subst hsz
  obtain ⟨A, hAe⟩ : ∃ A : Nat → Prop, A = va_A w s.heap.size := ⟨_, rfl⟩
  have hE : gE ad A s s.heap := by rw [hAe]; exact hE0
  have hD : va_D A w := by rw [hAe]; exact hD0.self (sz := s.heap.size)
  have hA : ∀ q : Nat, s.heap.size ≤ q → A q := fun q h => by rw [hAe]; exact Or.inr h
  have hS : va_S A s.heap s.heap [] := va_S.rf
  have hl := lv_entry ([.ref h, .int 6, .int a, .int b]) (n := 4) (Nat.le_of_ble_eq_true rfl)
  rw [lg_entry_eq]
  generalize (lg_sl ([.ref h, .int 6, .int a, .int b]) ++ List.replicate (4 - (lg_sl ([.ref h, .int 6, .int a, .int b])).length) Slot.unset).toArray = ls at hl ⊢
  have hl : lv_has ls 4 [(0, .ref h), (1, .int 6), (2, .int a), (3, .int b)] := hl
  refine lv_iload_n hx hb dL_made_0 rfl (lv_at hl 1 rfl) ?_
  refine lv_if_ne (tgt := 13) hx hb dL_made_1 (by decide) (fun c_1 => ?_) (fun c_1 => absurd c_1 (by decide))
  refine lv_iload_n hx hb dL_made_13 rfl (lv_at hl 1 rfl) ?_
  refine lv_iconst (v := 1) hx hb dL_made_14 (by decide) ?_
  refine lv_icmp_ne (tgt := 27) hx hb dL_made_15 (by decide) (fun c_15 => ?_) (fun c_15 => absurd c_15 (by decide))
  refine lv_iload_n hx hb dL_made_27 rfl (lv_at hl 1 rfl) ?_
  refine lv_iconst (v := 2) hx hb dL_made_28 (by decide) ?_
  refine lv_icmp_ne (tgt := 41) hx hb dL_made_29 (by decide) (fun c_29 => ?_) (fun c_29 => absurd c_29 (by decide))
  refine lv_iload_n hx hb dL_made_41 rfl (lv_at hl 1 rfl) ?_
  refine lv_iconst (v := 3) hx hb dL_made_42 (by decide) ?_
  refine lv_icmp_ne (tgt := 55) hx hb dL_made_43 (by decide) (fun c_43 => ?_) (fun c_43 => absurd c_43 (by decide))
  refine lv_iload_n hx hb dL_made_55 rfl (lv_at hl 1 rfl) ?_
  refine lv_iconst (v := 4) hx hb dL_made_56 (by decide) ?_
  refine lv_icmp_ne (tgt := 69) hx hb dL_made_57 (by decide) (fun c_57 => ?_) (fun c_57 => absurd c_57 (by decide))
  refine lv_iload_n hx hb dL_made_69 rfl (lv_at hl 1 rfl) ?_
  refine lv_iconst (v := 5) hx hb dL_made_70 (by decide) ?_
  refine lv_icmp_ne (tgt := 82) hx hb dL_made_71 (by decide) (fun c_71 => ?_) (fun c_71 => absurd c_71 (by decide))
  refine lv_iload_n hx hb dL_made_82 rfl (lv_at hl 1 rfl) ?_
  refine lv_bipush (v := 6) hx hb dL_made_83 (by decide) ?_
  refine lv_icmp_ne (tgt := 96) hx hb dL_made_85 (by decide) (fun c_85 => absurd c_85 (by decide)) (fun c_85 => ?_)
  refine lv_aload_n hx hb dL_made_88 rfl (lv_at hl 0 rfl) ?_
  refine lv_iload_n hx hb dL_made_89 rfl (lv_at hl 2 rfl) ?_
  exact g_outX (vx_runV (As := [.int a]) (rest := []) ⟨hx, hb, hml, hown, hts⟩ (HL s.heap.size) (cwV 1 hts gL_made_X7_root rfl hc9 hs9 (by decide +kernel) hr9) (gPX_VA hP hD hK hE hS hA 0 he rfl) rfl rfl hl.1 rfl (lv_room (Nat.le_of_ble_eq_true rfl)) dL_made_90 ⟨Nat.le_of_ble_eq_true rfl, Nat.le_of_ble_eq_true rfl⟩) hAe hD hS hA (fun w1 h9 => h9) rfl hno hlocks (Nat.le_of_ble_eq_true rfl) (Nat.le_of_ble_eq_true rfl)
set_option maxRecDepth 100000 in
theorem mn_exp {l : Launch} {D : va_G} {y : Nat → ClassId} {ad : Nat → Nat} {w : va_W} {h : Nat} {fs : List Value} (he : w[0]? = some (h, .inr (5, fs))) {a b : Int32} {G : va_W → Prop} {rm : Room} {mc ms : Nat} {x : Int32} (HL : ∀ sz, Met l yX7_exp wsX7_exp rm (gPX D y ad [.ref h, .int a] w sz) (gQn D w (fun v w1 => v = some (.int x) ∧ G w1)) mc ms (va_A w sz)) (hc9 : rm.cells = mc) (hs9 : rm.slots = ms) (hm9 : 0 + mc ≤ 9 ∧ 0 + ms ≤ 164) (hr9 : rm.frames + 1 ≤ 9 ∧ 8 + (2 + 11) + rm.locals ≤ 350) (sz : Nat) : Met l yL_made wsL_made ({ frames := 9, cells := 9, slots := 164, locals := 350 } : Room) (gPX D y ad [.ref h, .int 7, .int a, .int b] w sz) (gQn D w (fun v w1 => v = some (.int x) ∧ G w1)) 9 164 (va_A w sz) := by
  refine Met.ofW (cc := cL_made) (maxL := 4) (ret := (some .int)) (by decide) rfl ?_
  intro pg e s m args below meth c s₁ B hml hv
  obtain ⟨rfl, hsz, hP, hK, hD0, hE0⟩ := hv
  have hx := B.exec
  have hb := B.bytes
  have hr := B.returns
  have hts := atoms_spec (ws := wsL_made) B.pre
  have hown : s.vm.findClass RL = some m.cls := findClass_of_methodNamed B.named
  have hlocks := B.notSynchronized
  subst hsz
  obtain ⟨A, hAe⟩ : ∃ A : Nat → Prop, A = va_A w s.heap.size := ⟨_, rfl⟩
  have hE : gE ad A s s.heap := by rw [hAe]; exact hE0
  have hD : va_D A w := by rw [hAe]; exact hD0.self (sz := s.heap.size)
  have hA : ∀ q : Nat, s.heap.size ≤ q → A q := fun q h => by rw [hAe]; exact Or.inr h
  have hS : va_S A s.heap s.heap [] := va_S.rf
  have hl := lv_entry ([.ref h, .int 7, .int a, .int b]) (n := 4) (Nat.le_of_ble_eq_true rfl)
  rw [lg_entry_eq]
  generalize (lg_sl ([.ref h, .int 7, .int a, .int b]) ++ List.replicate (4 - (lg_sl ([.ref h, .int 7, .int a, .int b])).length) Slot.unset).toArray = ls at hl ⊢
  have hl : lv_has ls 4 [(0, .ref h), (1, .int 7), (2, .int a), (3, .int b)] := hl
  refine lv_iload_n hx hb dL_made_0 rfl (lv_at hl 1 rfl) ?_
  refine lv_if_ne (tgt := 13) hx hb dL_made_1 (by decide) (fun c_1 => ?_) (fun c_1 => absurd c_1 (by decide))
  refine lv_iload_n hx hb dL_made_13 rfl (lv_at hl 1 rfl) ?_
  refine lv_iconst (v := 1) hx hb dL_made_14 (by decide) ?_
  refine lv_icmp_ne (tgt := 27) hx hb dL_made_15 (by decide) (fun c_15 => ?_) (fun c_15 => absurd c_15 (by decide))
  refine lv_iload_n hx hb dL_made_27 rfl (lv_at hl 1 rfl) ?_
  refine lv_iconst (v := 2) hx hb dL_made_28 (by decide) ?_
  refine lv_icmp_ne (tgt := 41) hx hb dL_made_29 (by decide) (fun c_29 => ?_) (fun c_29 => absurd c_29 (by decide))
  refine lv_iload_n hx hb dL_made_41 rfl (lv_at hl 1 rfl) ?_
  refine lv_iconst (v := 3) hx hb dL_made_42 (by decide) ?_
  refine lv_icmp_ne (tgt := 55) hx hb dL_made_43 (by decide) (fun c_43 => ?_) (fun c_43 => absurd c_43 (by decide))
  refine lv_iload_n hx hb dL_made_55 rfl (lv_at hl 1 rfl) ?_
  refine lv_iconst (v := 4) hx hb dL_made_56 (by decide) ?_
  refine lv_icmp_ne (tgt := 69) hx hb dL_made_57 (by decide) (fun c_57 => ?_) (fun c_57 => absurd c_57 (by decide))
  refine lv_iload_n hx hb dL_made_69 rfl (lv_at hl 1 rfl) ?_
  refine lv_iconst (v := 5) hx hb dL_made_70 (by decide) ?_
  refine lv_icmp_ne (tgt := 82) hx hb dL_made_71 (by decide) (fun c_71 => ?_) (fun c_71 => absurd c_71 (by decide))
  refine lv_iload_n hx hb dL_made_82 rfl (lv_at hl 1 rfl) ?_
  refine lv_bipush (v := 6) hx hb dL_made_83 (by decide) ?_
  refine lv_icmp_ne (tgt := 96) hx hb dL_made_85 (by decide) (fun c_85 => ?_) (fun c_85 => absurd c_85 (by decide))
  refine lv_aload_n hx hb dL_made_96 rfl (lv_at hl 0 rfl) ?_
  refine lv_iload_n hx hb dL_made_97 rfl (lv_at hl 2 rfl) ?_
  refine g_callN (ws := []) (wc := w) (va_runV (As := [.int a]) (rest := []) ⟨hx, hb, hml, hown, hts⟩ (HL s.heap.size) (cwV 1 hts gL_made_X7_exp rfl hc9 hs9 (by decide +kernel) hr9) (gPX_VA hP hD hK hE hS hA 0 he rfl) rfl rfl hl.1 rfl (lv_room (Nat.le_of_ble_eq_true rfl)) dL_made_98 hm9) hP hD hS hA (fun v w1 H locs hf hP hD hS => ?_)
  obtain ⟨rfl, hG⟩ := hf
  refine W.widen (k := 9) (n := 164) hm9.1 hm9.2 ?_
  exact W.iret (v := x) hx hb hr (fun t ht hW => ⟨⟨some (.int x), w1, rfl, ⟨rfl, hG⟩, by rw [← hAe]; exact hD, by rw [ht]; exact hP⟩, by rw [← hAe]; exact hS.F ht⟩) (by rw [← hAe]; exact hS.2.2) dL_made_101
set_option maxRecDepth 100000 in
theorem mt_exp {l : Launch} {D : va_G} {y : Nat → ClassId} {ad : Nat → Nat} {w : va_W} {h : Nat} {fs : List Value} (he : w[0]? = some (h, .inr (5, fs))) {a b : Int32} {G : va_W → Prop} {rm : Room} {E : String} (HL : ∀ sz, vx_Met l yX7_exp wsX7_exp rm (gPX D y ad [.ref h, .int a] w sz) gNo (gXC D w E G) 1 6 (va_A w sz)) (hc9 : rm.cells = 1) (hs9 : rm.slots = 6) (hr9 : rm.frames + 1 ≤ 9 ∧ 8 + (2 + 11) + rm.locals ≤ 350) (sz : Nat) : vx_Met l yL_made wsL_made ({ frames := 9, cells := 1, slots := 6, locals := 350 } : Room) (gPX D y ad [.ref h, .int 7, .int a, .int b] w sz) gNo (gXC D w E G) 1 6 (va_A w sz) := by
  refine vx_ofW (cc := cL_made) (maxL := 4) (ret := (some .int)) (by decide) rfl ?_
  intro pg e s m args below meth c s₁ B hml hno hv
  obtain ⟨rfl, hsz, hP, hK, hD0, hE0⟩ := hv
  have hx := B.exec
  have hb := B.bytes
  have hr := B.returns
  have hts := atoms_spec (ws := wsL_made) B.pre
  have hown : s.vm.findClass RL = some m.cls := findClass_of_methodNamed B.named
  have hlocks := B.notSynchronized
  subst hsz
  obtain ⟨A, hAe⟩ : ∃ A : Nat → Prop, A = va_A w s.heap.size := ⟨_, rfl⟩
  have hE : gE ad A s s.heap := by rw [hAe]; exact hE0
  have hD : va_D A w := by rw [hAe]; exact hD0.self (sz := s.heap.size)
  have hA : ∀ q : Nat, s.heap.size ≤ q → A q := fun q h => by rw [hAe]; exact Or.inr h
  have hS : va_S A s.heap s.heap [] := va_S.rf
  have hl := lv_entry ([.ref h, .int 7, .int a, .int b]) (n := 4) (Nat.le_of_ble_eq_true rfl)
  rw [lg_entry_eq]
  generalize (lg_sl ([.ref h, .int 7, .int a, .int b]) ++ List.replicate (4 - (lg_sl ([.ref h, .int 7, .int a, .int b])).length) Slot.unset).toArray = ls at hl ⊢
  have hl : lv_has ls 4 [(0, .ref h), (1, .int 7), (2, .int a), (3, .int b)] := hl
  refine lv_iload_n hx hb dL_made_0 rfl (lv_at hl 1 rfl) ?_
  refine lv_if_ne (tgt := 13) hx hb dL_made_1 (by decide) (fun c_1 => ?_) (fun c_1 => absurd c_1 (by decide))
  refine lv_iload_n hx hb dL_made_13 rfl (lv_at hl 1 rfl) ?_
  refine lv_iconst (v := 1) hx hb dL_made_14 (by decide) ?_
  refine lv_icmp_ne (tgt := 27) hx hb dL_made_15 (by decide) (fun c_15 => ?_) (fun c_15 => absurd c_15 (by decide))
  refine lv_iload_n hx hb dL_made_27 rfl (lv_at hl 1 rfl) ?_
  refine lv_iconst (v := 2) hx hb dL_made_28 (by decide) ?_
  refine lv_icmp_ne (tgt := 41) hx hb dL_made_29 (by decide) (fun c_29 => ?_) (fun c_29 => absurd c_29 (by decide))
  refine lv_iload_n hx hb dL_made_41 rfl (lv_at hl 1 rfl) ?_
  refine lv_iconst (v := 3) hx hb dL_made_42 (by decide) ?_
  refine lv_icmp_ne (tgt := 55) hx hb dL_made_43 (by decide) (fun c_43 => ?_) (fun c_43 => absurd c_43 (by decide))
  refine lv_iload_n hx hb dL_made_55 rfl (lv_at hl 1 rfl) ?_
  refine lv_iconst (v := 4) hx hb dL_made_56 (by decide) ?_
  refine lv_icmp_ne (tgt := 69) hx hb dL_made_57 (by decide) (fun c_57 => ?_) (fun c_57 => absurd c_57 (by decide))
  refine lv_iload_n hx hb dL_made_69 rfl (lv_at hl 1 rfl) ?_
  refine lv_iconst (v := 5) hx hb dL_made_70 (by decide) ?_
  refine lv_icmp_ne (tgt := 82) hx hb dL_made_71 (by decide) (fun c_71 => ?_) (fun c_71 => absurd c_71 (by decide))
  refine lv_iload_n hx hb dL_made_82 rfl (lv_at hl 1 rfl) ?_
  refine lv_bipush (v := 6) hx hb dL_made_83 (by decide) ?_
  refine lv_icmp_ne (tgt := 96) hx hb dL_made_85 (by decide) (fun c_85 => ?_) (fun c_85 => absurd c_85 (by decide))
  refine lv_aload_n hx hb dL_made_96 rfl (lv_at hl 0 rfl) ?_
  refine lv_iload_n hx hb dL_made_97 rfl (lv_at hl 2 rfl) ?_
  exact g_outX (vx_runV (As := [.int a]) (rest := []) ⟨hx, hb, hml, hown, hts⟩ (HL s.heap.size) (cwV 1 hts gL_made_X7_exp rfl hc9 hs9 (by decide +kernel) hr9) (gPX_VA hP hD hK hE hS hA 0 he rfl) rfl rfl hl.1 rfl (lv_room (Nat.le_of_ble_eq_true rfl)) dL_made_98 ⟨Nat.le_of_ble_eq_true rfl, Nat.le_of_ble_eq_true rfl⟩) hAe hD hS hA (fun w1 h9 => h9) rfl hno hlocks (Nat.le_of_ble_eq_true rfl) (Nat.le_of_ble_eq_true rfl)
set_option maxRecDepth 100000 in
theorem dn_made {l : Launch} {D : va_G} {y : Nat → ClassId} {ad : Nat → Nat} {w : va_W} {hw a b c0 : Int32} (h8 : hw < 8) {h : Nat} {G : va_W → Prop} {x : Int32} (HL : ∀ sz, Met l yL_made wsL_made ({ frames := 9, cells := 9, slots := 164, locals := 350 } : Room) (gPX D y ad [.ref h, .int hw, .int a, .int b] w sz) (gQn D w (fun v w1 => v = some (.int x) ∧ G w1)) 9 164 (va_A w sz)) (sz : Nat) : Met l yL_does wsL_does ({ frames := 11, cells := 9, slots := 164, locals := 400 } : Room) (gPN D y ad [.ref h, .int hw, .int a, .int b, .int c0] w sz) (gQn D w (fun v w1 => v = some (.long (x.toInt64)) ∧ G w1)) 9 164 (va_A w sz) := by
  refine gMet_ofWH (cc := cL_does) (maxL := 6) (ret := (some .long)) (hh := [(0, 236, 237, 60), (0, 236, 243, 64), (0, 236, 249, 66)]) (by decide) rfl ?_
  intro pg e s m args below meth c s₁ B hml hv
  obtain ⟨rfl, ⟨hsz, hP, hK, hD0, hE0⟩, hN⟩ := hv
  have hx := B.exec
  have hb := B.bytes
  have hr := B.returns
  have hts := atoms_spec (ws := wsL_does) B.pre
  have hown : s.vm.findClass RL = some m.cls := findClass_of_methodNamed B.named
  have htab : c.exceptionTable.toList = tableOf [(0, 236, 237, 60), (0, 236, 243, 64), (0, 236, 249, 66)] := vx_table (x := yL_does) B (hts _ List.mem_cons_self)
  have hlocks := B.notSynchronized
  subst hsz
  obtain ⟨A, hAe⟩ : ∃ A : Nat → Prop, A = va_A w s.heap.size := ⟨_, rfl⟩
  have hE : gE ad A s s.heap := by rw [hAe]; exact hE0
  have hD : va_D A w := by rw [hAe]; exact hD0.self (sz := s.heap.size)
  have hA : ∀ q : Nat, s.heap.size ≤ q → A q := fun q h => by rw [hAe]; exact Or.inr h
  have hS : va_S A s.heap s.heap [] := va_S.rf
  have hl := lv_entry ([.ref h, .int hw, .int a, .int b, .int c0]) (n := 6) (Nat.le_of_ble_eq_true rfl)
  rw [lg_entry_eq]
  generalize (lg_sl ([.ref h, .int hw, .int a, .int b, .int c0]) ++ List.replicate (6 - (lg_sl ([.ref h, .int hw, .int a, .int b, .int c0])).length) Slot.unset).toArray = ls at hl ⊢
  have hl : lv_has ls 6 [(0, .ref h), (1, .int hw), (2, .int a), (3, .int b), (4, .int c0)] := hl
  refine lv_iload_n hx hb dL_does_0 rfl (lv_at hl 1 rfl) ?_
  refine lv_bipush (v := 8) hx hb dL_does_1 (by decide) ?_
  refine lv_icmp_ge (tgt := 17) hx hb dL_does_3 (by decide) (fun c_3 => absurd h8 (Int32.not_lt.mpr c_3)) (fun c_3 => ?_)
  refine lv_aload_n hx hb dL_does_6 rfl (lv_at hl 0 rfl) ?_
  refine lv_iload_n hx hb dL_does_7 rfl (lv_at hl 1 rfl) ?_
  refine lv_iload_n hx hb dL_does_8 rfl (lv_at hl 2 rfl) ?_
  refine lv_iload_n hx hb dL_does_9 rfl (lv_at hl 3 rfl) ?_
  refine g_callN (ws := []) (wc := w) (va_runS (As := [.ref h, .int hw, .int a, .int b]) (rest := []) ⟨hx, hb, hml, hown, hts⟩ (HL s.heap.size) (va_cwS 4 hts gL_does_L_made rfl rfl rfl (by decide +kernel) ⟨Nat.le_of_ble_eq_true rfl, Nat.le_of_ble_eq_true rfl⟩) (gPX_SA hP hD hK hE hS hA) rfl rfl hl.1 rfl (lv_room (Nat.le_of_ble_eq_true rfl)) dL_does_10 ⟨Nat.le_of_ble_eq_true rfl, Nat.le_of_ble_eq_true rfl⟩) hP hD hS hA (fun v w1 H locs hf hP hD hS => ?_)
  obtain ⟨rfl, hG⟩ := hf
  refine lv_i2l (v := x.toInt64) hx hb dL_does_13 rfl ?_
  refine lv_goto (tgt := 236) hx hb dL_does_14 (by decide) ?_
  refine W.widen (k := 9) (n := 164) (Nat.le_of_ble_eq_true rfl) (Nat.le_of_ble_eq_true rfl) ?_
  exact W.lret (v := x.toInt64) hx hb hr (fun t ht hW => ⟨⟨some (.long (x.toInt64)), w1, rfl, ⟨rfl, hG⟩, by rw [← hAe]; exact hD, by rw [ht]; exact hP⟩, by rw [← hAe]; exact hS.F ht⟩) (by rw [← hAe]; exact hS.2.2) dL_does_236
set_option maxRecDepth 100000 in
theorem dt_made {l : Launch} {D : va_G} {y : Nat → ClassId} {ad : Nat → Nat} {w : va_W} {hw a b c0 : Int32} (h8 : hw < 8) {h : Nat} {G : va_W → Prop} {E : String} (hE9 : E = gIOB ∨ E = gIAE ∨ E = gISE) (HL : ∀ sz, vx_Met l yL_made wsL_made ({ frames := 9, cells := 1, slots := 6, locals := 350 } : Room) (gPX D y ad [.ref h, .int hw, .int a, .int b] w sz) gNo (gXC D w E G) 1 6 (va_A w sz)) (sz : Nat) : Met l yL_does wsL_does ({ frames := 11, cells := 9, slots := 164, locals := 400 } : Room) (gPN D y ad [.ref h, .int hw, .int a, .int b, .int c0] w sz) (gQn D w (fun v w1 => v = some (.long (-2100000000)) ∧ G w1)) 9 164 (va_A w sz) := by
  rcases hE9 with rfl | rfl | rfl
  · skip
    refine gMet_ofWH (cc := cL_does) (maxL := 6) (ret := (some .long)) (hh := [(0, 236, 237, 60), (0, 236, 243, 64), (0, 236, 249, 66)]) (by decide) rfl ?_
    intro pg e s m args below meth c s₁ B hml hv
    obtain ⟨rfl, ⟨hsz, hP, hK, hD0, hE0⟩, hN⟩ := hv
    have hx := B.exec
    have hb := B.bytes
    have hr := B.returns
    have hts := atoms_spec (ws := wsL_does) B.pre
    have hown : s.vm.findClass RL = some m.cls := findClass_of_methodNamed B.named
    have htab : c.exceptionTable.toList = tableOf [(0, 236, 237, 60), (0, 236, 243, 64), (0, 236, 249, 66)] := vx_table (x := yL_does) B (hts _ List.mem_cons_self)
    have hlocks := B.notSynchronized
    subst hsz
    obtain ⟨A, hAe⟩ : ∃ A : Nat → Prop, A = va_A w s.heap.size := ⟨_, rfl⟩
    have hE : gE ad A s s.heap := by rw [hAe]; exact hE0
    have hD : va_D A w := by rw [hAe]; exact hD0.self (sz := s.heap.size)
    have hA : ∀ q : Nat, s.heap.size ≤ q → A q := fun q h => by rw [hAe]; exact Or.inr h
    have hS : va_S A s.heap s.heap [] := va_S.rf
    have hl := lv_entry ([.ref h, .int hw, .int a, .int b, .int c0]) (n := 6) (Nat.le_of_ble_eq_true rfl)
    rw [lg_entry_eq]
    generalize (lg_sl ([.ref h, .int hw, .int a, .int b, .int c0]) ++ List.replicate (6 - (lg_sl ([.ref h, .int hw, .int a, .int b, .int c0])).length) Slot.unset).toArray = ls at hl ⊢
    have hl : lv_has ls 6 [(0, .ref h), (1, .int hw), (2, .int a), (3, .int b), (4, .int c0)] := hl
    refine lv_iload_n hx hb dL_does_0 rfl (lv_at hl 1 rfl) ?_
    refine lv_bipush (v := 8) hx hb dL_does_1 (by decide) ?_
    refine lv_icmp_ge (tgt := 17) hx hb dL_does_3 (by decide) (fun c_3 => absurd h8 (Int32.not_lt.mpr c_3)) (fun c_3 => ?_)
    refine lv_aload_n hx hb dL_does_6 rfl (lv_at hl 0 rfl) ?_
    refine lv_iload_n hx hb dL_does_7 rfl (lv_at hl 1 rfl) ?_
    refine lv_iload_n hx hb dL_does_8 rfl (lv_at hl 2 rfl) ?_
    refine lv_iload_n hx hb dL_does_9 rfl (lv_at hl 3 rfl) ?_
    refine g_catch (name := gIOB) (ws := []) (wc := w) (vx_runS (As := [.ref h, .int hw, .int a, .int b]) (rest := []) ⟨hx, hb, hml, hown, hts⟩ (HL s.heap.size) (va_cwS 4 hts gL_does_L_made rfl rfl rfl (by decide +kernel) ⟨Nat.le_of_ble_eq_true rfl, Nat.le_of_ble_eq_true rfl⟩) (gPX_SA hP hD hK hE hS hA) rfl rfl hl.1 rfl (lv_room (Nat.le_of_ble_eq_true rfl)) dL_does_10 ⟨Nat.le_of_ble_eq_true rfl, Nat.le_of_ble_eq_true rfl⟩) hP hD hS hA hown [] ⟨0, 236, 237, 60⟩ [⟨0, 236, 243, 64⟩, ⟨0, 236, 249, 66⟩] (by rw [htab]; rfl) (fun z hz => absurd hz List.not_mem_nil) (by decide) (by decide) (hts (.classLink RL 60 "java/lang/IndexOutOfBoundsException") (List.mem_of_getElem? (i := 1) rfl)) (hE.cw (Cond.castable gIOB gIOB) (List.mem_of_getElem? (i := 5) rfl)) (fun q9 w1 H locs hG hP hD hS => ?_)
    refine lv_astore (lv' := [(5, .ref q9), (0, .ref h), (1, .int hw), (2, .int a), (3, .int b), (4, .int c0)]) hx hb dL_does_237 hl (by decide) rfl (fun ls hl => ?_)
    refine lv_ldc2 (v := -2100000000) hx hb hown (hts (.constantLong RL 62 (-2100000000)) (List.mem_of_getElem? (i := 4) rfl)) dL_does_239 ?_
    refine W.widen (k := 9) (n := 164) (Nat.le_of_ble_eq_true rfl) (Nat.le_of_ble_eq_true rfl) ?_
    exact W.lret (v := -2100000000) hx hb hr (fun t ht hW => ⟨⟨some (.long (-2100000000)), w1, rfl, ⟨rfl, hG⟩, by rw [← hAe]; exact hD, by rw [ht]; exact hP⟩, by rw [← hAe]; exact hS.F ht⟩) (by rw [← hAe]; exact hS.2.2) dL_does_242
  · skip
    refine gMet_ofWH (cc := cL_does) (maxL := 6) (ret := (some .long)) (hh := [(0, 236, 237, 60), (0, 236, 243, 64), (0, 236, 249, 66)]) (by decide) rfl ?_
    intro pg e s m args below meth c s₁ B hml hv
    obtain ⟨rfl, ⟨hsz, hP, hK, hD0, hE0⟩, hN⟩ := hv
    have hx := B.exec
    have hb := B.bytes
    have hr := B.returns
    have hts := atoms_spec (ws := wsL_does) B.pre
    have hown : s.vm.findClass RL = some m.cls := findClass_of_methodNamed B.named
    have htab : c.exceptionTable.toList = tableOf [(0, 236, 237, 60), (0, 236, 243, 64), (0, 236, 249, 66)] := vx_table (x := yL_does) B (hts _ List.mem_cons_self)
    have hlocks := B.notSynchronized
    subst hsz
    obtain ⟨A, hAe⟩ : ∃ A : Nat → Prop, A = va_A w s.heap.size := ⟨_, rfl⟩
    have hE : gE ad A s s.heap := by rw [hAe]; exact hE0
    have hD : va_D A w := by rw [hAe]; exact hD0.self (sz := s.heap.size)
    have hA : ∀ q : Nat, s.heap.size ≤ q → A q := fun q h => by rw [hAe]; exact Or.inr h
    have hS : va_S A s.heap s.heap [] := va_S.rf
    have hl := lv_entry ([.ref h, .int hw, .int a, .int b, .int c0]) (n := 6) (Nat.le_of_ble_eq_true rfl)
    rw [lg_entry_eq]
    generalize (lg_sl ([.ref h, .int hw, .int a, .int b, .int c0]) ++ List.replicate (6 - (lg_sl ([.ref h, .int hw, .int a, .int b, .int c0])).length) Slot.unset).toArray = ls at hl ⊢
    have hl : lv_has ls 6 [(0, .ref h), (1, .int hw), (2, .int a), (3, .int b), (4, .int c0)] := hl
    refine lv_iload_n hx hb dL_does_0 rfl (lv_at hl 1 rfl) ?_
    refine lv_bipush (v := 8) hx hb dL_does_1 (by decide) ?_
    refine lv_icmp_ge (tgt := 17) hx hb dL_does_3 (by decide) (fun c_3 => absurd h8 (Int32.not_lt.mpr c_3)) (fun c_3 => ?_)
    refine lv_aload_n hx hb dL_does_6 rfl (lv_at hl 0 rfl) ?_
    refine lv_iload_n hx hb dL_does_7 rfl (lv_at hl 1 rfl) ?_
    refine lv_iload_n hx hb dL_does_8 rfl (lv_at hl 2 rfl) ?_
    refine lv_iload_n hx hb dL_does_9 rfl (lv_at hl 3 rfl) ?_
    refine g_catch (name := gIAE) (ws := []) (wc := w) (vx_runS (As := [.ref h, .int hw, .int a, .int b]) (rest := []) ⟨hx, hb, hml, hown, hts⟩ (HL s.heap.size) (va_cwS 4 hts gL_does_L_made rfl rfl rfl (by decide +kernel) ⟨Nat.le_of_ble_eq_true rfl, Nat.le_of_ble_eq_true rfl⟩) (gPX_SA hP hD hK hE hS hA) rfl rfl hl.1 rfl (lv_room (Nat.le_of_ble_eq_true rfl)) dL_does_10 ⟨Nat.le_of_ble_eq_true rfl, Nat.le_of_ble_eq_true rfl⟩) hP hD hS hA hown [⟨0, 236, 237, 60⟩] ⟨0, 236, 243, 64⟩ [⟨0, 236, 249, 66⟩] (by rw [htab]; rfl) (fun z hz => by rcases List.mem_singleton.mp hz with rfl; exact Or.inr ⟨by decide, _, (hts (.classLink RL 60 "java/lang/IndexOutOfBoundsException") (List.mem_of_getElem? (i := 1) rfl)), hN.1⟩) (by decide) (by decide) (hts (.classLink RL 64 "java/lang/IllegalArgumentException") (List.mem_of_getElem? (i := 2) rfl)) (hE.cw (Cond.castable gIAE gIAE) (List.mem_of_getElem? (i := 3) rfl)) (fun q9 w1 H locs hG hP hD hS => ?_)
    refine lv_astore (lv' := [(5, .ref q9), (0, .ref h), (1, .int hw), (2, .int a), (3, .int b), (4, .int c0)]) hx hb dL_does_243 hl (by decide) rfl (fun ls hl => ?_)
    refine lv_ldc2 (v := -2100000000) hx hb hown (hts (.constantLong RL 62 (-2100000000)) (List.mem_of_getElem? (i := 4) rfl)) dL_does_245 ?_
    refine W.widen (k := 9) (n := 164) (Nat.le_of_ble_eq_true rfl) (Nat.le_of_ble_eq_true rfl) ?_
    exact W.lret (v := -2100000000) hx hb hr (fun t ht hW => ⟨⟨some (.long (-2100000000)), w1, rfl, ⟨rfl, hG⟩, by rw [← hAe]; exact hD, by rw [ht]; exact hP⟩, by rw [← hAe]; exact hS.F ht⟩) (by rw [← hAe]; exact hS.2.2) dL_does_248
  · skip
    refine gMet_ofWH (cc := cL_does) (maxL := 6) (ret := (some .long)) (hh := [(0, 236, 237, 60), (0, 236, 243, 64), (0, 236, 249, 66)]) (by decide) rfl ?_
    intro pg e s m args below meth c s₁ B hml hv
    obtain ⟨rfl, ⟨hsz, hP, hK, hD0, hE0⟩, hN⟩ := hv
    have hx := B.exec
    have hb := B.bytes
    have hr := B.returns
    have hts := atoms_spec (ws := wsL_does) B.pre
    have hown : s.vm.findClass RL = some m.cls := findClass_of_methodNamed B.named
    have htab : c.exceptionTable.toList = tableOf [(0, 236, 237, 60), (0, 236, 243, 64), (0, 236, 249, 66)] := vx_table (x := yL_does) B (hts _ List.mem_cons_self)
    have hlocks := B.notSynchronized
    subst hsz
    obtain ⟨A, hAe⟩ : ∃ A : Nat → Prop, A = va_A w s.heap.size := ⟨_, rfl⟩
    have hE : gE ad A s s.heap := by rw [hAe]; exact hE0
    have hD : va_D A w := by rw [hAe]; exact hD0.self (sz := s.heap.size)
    have hA : ∀ q : Nat, s.heap.size ≤ q → A q := fun q h => by rw [hAe]; exact Or.inr h
    have hS : va_S A s.heap s.heap [] := va_S.rf
    have hl := lv_entry ([.ref h, .int hw, .int a, .int b, .int c0]) (n := 6) (Nat.le_of_ble_eq_true rfl)
    rw [lg_entry_eq]
    generalize (lg_sl ([.ref h, .int hw, .int a, .int b, .int c0]) ++ List.replicate (6 - (lg_sl ([.ref h, .int hw, .int a, .int b, .int c0])).length) Slot.unset).toArray = ls at hl ⊢
    have hl : lv_has ls 6 [(0, .ref h), (1, .int hw), (2, .int a), (3, .int b), (4, .int c0)] := hl
    refine lv_iload_n hx hb dL_does_0 rfl (lv_at hl 1 rfl) ?_
    refine lv_bipush (v := 8) hx hb dL_does_1 (by decide) ?_
    refine lv_icmp_ge (tgt := 17) hx hb dL_does_3 (by decide) (fun c_3 => absurd h8 (Int32.not_lt.mpr c_3)) (fun c_3 => ?_)
    refine lv_aload_n hx hb dL_does_6 rfl (lv_at hl 0 rfl) ?_
    refine lv_iload_n hx hb dL_does_7 rfl (lv_at hl 1 rfl) ?_
    refine lv_iload_n hx hb dL_does_8 rfl (lv_at hl 2 rfl) ?_
    refine lv_iload_n hx hb dL_does_9 rfl (lv_at hl 3 rfl) ?_
    refine g_catch (name := gISE) (ws := []) (wc := w) (vx_runS (As := [.ref h, .int hw, .int a, .int b]) (rest := []) ⟨hx, hb, hml, hown, hts⟩ (HL s.heap.size) (va_cwS 4 hts gL_does_L_made rfl rfl rfl (by decide +kernel) ⟨Nat.le_of_ble_eq_true rfl, Nat.le_of_ble_eq_true rfl⟩) (gPX_SA hP hD hK hE hS hA) rfl rfl hl.1 rfl (lv_room (Nat.le_of_ble_eq_true rfl)) dL_does_10 ⟨Nat.le_of_ble_eq_true rfl, Nat.le_of_ble_eq_true rfl⟩) hP hD hS hA hown [⟨0, 236, 237, 60⟩, ⟨0, 236, 243, 64⟩] ⟨0, 236, 249, 66⟩ [] (by rw [htab]; rfl) (fun z hz => by
      rcases List.mem_cons.mp hz with rfl | hz
      · exact Or.inr ⟨by decide, _, (hts (.classLink RL 60 "java/lang/IndexOutOfBoundsException") (List.mem_of_getElem? (i := 1) rfl)), hN.2.1⟩
      · rcases List.mem_singleton.mp hz with rfl; exact Or.inr ⟨by decide, _, (hts (.classLink RL 64 "java/lang/IllegalArgumentException") (List.mem_of_getElem? (i := 2) rfl)), hN.2.2⟩) (by decide) (by decide) (hts (.classLink RL 66 "java/lang/IllegalStateException") (List.mem_of_getElem? (i := 3) rfl)) (hE.cw (Cond.castable gISE gISE) (List.mem_of_getElem? (i := 4) rfl)) (fun q9 w1 H locs hG hP hD hS => ?_)
    refine lv_astore (lv' := [(5, .ref q9), (0, .ref h), (1, .int hw), (2, .int a), (3, .int b), (4, .int c0)]) hx hb dL_does_249 hl (by decide) rfl (fun ls hl => ?_)
    refine lv_ldc2 (v := -2100000000) hx hb hown (hts (.constantLong RL 62 (-2100000000)) (List.mem_of_getElem? (i := 4) rfl)) dL_does_251 ?_
    refine W.widen (k := 9) (n := 164) (Nat.le_of_ble_eq_true rfl) (Nat.le_of_ble_eq_true rfl) ?_
    exact W.lret (v := -2100000000) hx hb hr (fun t ht hW => ⟨⟨some (.long (-2100000000)), w1, rfl, ⟨rfl, hG⟩, by rw [← hAe]; exact hD, by rw [ht]; exact hP⟩, by rw [← hAe]; exact hS.F ht⟩) (by rw [← hAe]; exact hS.2.2) dL_does_254
set_option maxRecDepth 100000 in
theorem sn_zero {l : Launch} {D : va_G} {y : Nat → ClassId} {ad : Nat → Nat} {w : va_W} {h : Nat} {fs : List Value} (he : w[0]? = some (h, .inr (5, fs))) {a b c0 d0 fr hv : Int32} {G : va_W → Prop} {rm : Room} {mc ms : Nat} {x : Int32} (HL : ∀ sz, Met l yX7_zero wsX7_zero rm (gPX D y ad [.ref h, .int a, .int b, .int c0, .int d0, .int fr, .int hv] w sz) (gQn D w (fun v w1 => v = some (.int x) ∧ G w1)) mc ms (va_A w sz)) (hc9 : rm.cells = mc) (hs9 : rm.slots = ms) (hr9 : rm.frames + 1 ≤ 10 ∧ 8 + (12 + 11) + rm.locals ≤ 300) (hm9 : 0 + mc ≤ 10 ∧ 0 + ms ≤ 168) (sz : Nat) : Met l yL_seeks wsL_seeks ({ frames := 10, cells := 10, slots := 168, locals := 300 } : Room) (gPN D y ad [.ref h, .int a, .int b, .int c0, .int d0, .int fr, .int hv] w sz) (gQn D w (fun v w1 => v = some (.int (x)) ∧ G w1)) 10 168 (va_A w sz) := by
  refine gMet_ofWH (cc := cL_seeks) (maxL := 8) (ret := (some .int)) (hh := [(0, 13, 14, 64), (0, 13, 19, 66)]) (by decide) rfl ?_
  intro pg e s m args below meth c s₁ B hml hv
  obtain ⟨rfl, ⟨hsz, hP, hK, hD0, hE0⟩, hN⟩ := hv
  have hx := B.exec
  have hb := B.bytes
  have hr := B.returns
  have hts := atoms_spec (ws := wsL_seeks) B.pre
  have hown : s.vm.findClass RL = some m.cls := findClass_of_methodNamed B.named
  have htab : c.exceptionTable.toList = tableOf [(0, 13, 14, 64), (0, 13, 19, 66)] := vx_table (x := yL_seeks) B (hts _ List.mem_cons_self)
  have hlocks := B.notSynchronized
  subst hsz
  obtain ⟨A, hAe⟩ : ∃ A : Nat → Prop, A = va_A w s.heap.size := ⟨_, rfl⟩
  have hE : gE ad A s s.heap := by rw [hAe]; exact hE0
  have hD : va_D A w := by rw [hAe]; exact hD0.self (sz := s.heap.size)
  have hA : ∀ q : Nat, s.heap.size ≤ q → A q := fun q h => by rw [hAe]; exact Or.inr h
  have hS : va_S A s.heap s.heap [] := va_S.rf
  have hl := lv_entry ([.ref h, .int a, .int b, .int c0, .int d0, .int fr, .int hv]) (n := 8) (Nat.le_of_ble_eq_true rfl)
  rw [lg_entry_eq]
  generalize (lg_sl ([.ref h, .int a, .int b, .int c0, .int d0, .int fr, .int hv]) ++ List.replicate (8 - (lg_sl ([.ref h, .int a, .int b, .int c0, .int d0, .int fr, .int hv])).length) Slot.unset).toArray = ls at hl ⊢
  have hl : lv_has ls 8 [(0, .ref h), (1, .int a), (2, .int b), (3, .int c0), (4, .int d0), (5, .int fr), (6, .int hv)] := hl
  refine lv_aload_n hx hb dL_seeks_0 rfl (lv_at hl 0 rfl) ?_
  refine lv_iload_n hx hb dL_seeks_1 rfl (lv_at hl 1 rfl) ?_
  refine lv_iload_n hx hb dL_seeks_2 rfl (lv_at hl 2 rfl) ?_
  refine lv_iload_n hx hb dL_seeks_3 rfl (lv_at hl 3 rfl) ?_
  refine lv_iload hx hb dL_seeks_4 (lv_at hl 4 rfl) ?_
  refine lv_iload hx hb dL_seeks_6 (lv_at hl 5 rfl) ?_
  refine lv_iload hx hb dL_seeks_8 (lv_at hl 6 rfl) ?_
  refine g_callN (ws := []) (wc := w) (va_runV (As := [.int a, .int b, .int c0, .int d0, .int fr, .int hv]) (rest := []) ⟨hx, hb, hml, hown, hts⟩ (HL s.heap.size) (cwV 6 hts gL_seeks_X7_zero rfl hc9 hs9 (by decide +kernel) hr9) (gPX_VA hP hD hK hE hS hA 0 he rfl) rfl rfl hl.1 rfl (lv_room (Nat.le_of_ble_eq_true rfl)) dL_seeks_10 hm9) hP hD hS hA (fun v w1 H locs hf hP hD hS => ?_)
  obtain ⟨rfl, hG⟩ := hf
  refine W.widen (k := 10) (n := 168) hm9.1 hm9.2 ?_
  exact W.iret (v := x) hx hb hr (fun t ht hW => ⟨⟨some (.int (x)), w1, rfl, ⟨rfl, hG⟩, by rw [← hAe]; exact hD, by rw [ht]; exact hP⟩, by rw [← hAe]; exact hS.F ht⟩) (by rw [← hAe]; exact hS.2.2) dL_seeks_13
set_option maxRecDepth 100000 in
theorem st_zero {l : Launch} {D : va_G} {y : Nat → ClassId} {ad : Nat → Nat} {w : va_W} {h : Nat} {fs : List Value} (he : w[0]? = some (h, .inr (5, fs))) {a b c0 d0 fr hv : Int32} {G : va_W → Prop} {rm : Room} {mc ms : Nat} {E : String} (hE9 : E = gIAE ∨ E = gISE) (HL : ∀ sz, vx_Met l yX7_zero wsX7_zero rm (gPX D y ad [.ref h, .int a, .int b, .int c0, .int d0, .int fr, .int hv] w sz) gNo (gXC D w E G) mc ms (va_A w sz)) (hc9 : rm.cells = mc) (hs9 : rm.slots = ms) (hr9 : rm.frames + 1 ≤ 10 ∧ 8 + (12 + 11) + rm.locals ≤ 300) (hm9 : 0 + mc ≤ 10 ∧ 0 + ms ≤ 168) (sz : Nat) : Met l yL_seeks wsL_seeks ({ frames := 10, cells := 10, slots := 168, locals := 300 } : Room) (gPN D y ad [.ref h, .int a, .int b, .int c0, .int d0, .int fr, .int hv] w sz) (gQn D w (fun v w1 => v = some (.int (-2100000000)) ∧ G w1)) 10 168 (va_A w sz) := by
  rcases hE9 with rfl | rfl
  · skip
    refine gMet_ofWH (cc := cL_seeks) (maxL := 8) (ret := (some .int)) (hh := [(0, 13, 14, 64), (0, 13, 19, 66)]) (by decide) rfl ?_
    intro pg e s m args below meth c s₁ B hml hv
    obtain ⟨rfl, ⟨hsz, hP, hK, hD0, hE0⟩, hN⟩ := hv
    have hx := B.exec
    have hb := B.bytes
    have hr := B.returns
    have hts := atoms_spec (ws := wsL_seeks) B.pre
    have hown : s.vm.findClass RL = some m.cls := findClass_of_methodNamed B.named
    have htab : c.exceptionTable.toList = tableOf [(0, 13, 14, 64), (0, 13, 19, 66)] := vx_table (x := yL_seeks) B (hts _ List.mem_cons_self)
    have hlocks := B.notSynchronized
    subst hsz
    obtain ⟨A, hAe⟩ : ∃ A : Nat → Prop, A = va_A w s.heap.size := ⟨_, rfl⟩
    have hE : gE ad A s s.heap := by rw [hAe]; exact hE0
    have hD : va_D A w := by rw [hAe]; exact hD0.self (sz := s.heap.size)
    have hA : ∀ q : Nat, s.heap.size ≤ q → A q := fun q h => by rw [hAe]; exact Or.inr h
    have hS : va_S A s.heap s.heap [] := va_S.rf
    have hl := lv_entry ([.ref h, .int a, .int b, .int c0, .int d0, .int fr, .int hv]) (n := 8) (Nat.le_of_ble_eq_true rfl)
    rw [lg_entry_eq]
    generalize (lg_sl ([.ref h, .int a, .int b, .int c0, .int d0, .int fr, .int hv]) ++ List.replicate (8 - (lg_sl ([.ref h, .int a, .int b, .int c0, .int d0, .int fr, .int hv])).length) Slot.unset).toArray = ls at hl ⊢
    have hl : lv_has ls 8 [(0, .ref h), (1, .int a), (2, .int b), (3, .int c0), (4, .int d0), (5, .int fr), (6, .int hv)] := hl
    refine lv_aload_n hx hb dL_seeks_0 rfl (lv_at hl 0 rfl) ?_
    refine lv_iload_n hx hb dL_seeks_1 rfl (lv_at hl 1 rfl) ?_
    refine lv_iload_n hx hb dL_seeks_2 rfl (lv_at hl 2 rfl) ?_
    refine lv_iload_n hx hb dL_seeks_3 rfl (lv_at hl 3 rfl) ?_
    refine lv_iload hx hb dL_seeks_4 (lv_at hl 4 rfl) ?_
    refine lv_iload hx hb dL_seeks_6 (lv_at hl 5 rfl) ?_
    refine lv_iload hx hb dL_seeks_8 (lv_at hl 6 rfl) ?_
    refine g_catch (name := gIAE) (ws := []) (wc := w) (vx_runV (As := [.int a, .int b, .int c0, .int d0, .int fr, .int hv]) (rest := []) ⟨hx, hb, hml, hown, hts⟩ (HL s.heap.size) (cwV 6 hts gL_seeks_X7_zero rfl hc9 hs9 (by decide +kernel) hr9) (gPX_VA hP hD hK hE hS hA 0 he rfl) rfl rfl hl.1 rfl (lv_room (Nat.le_of_ble_eq_true rfl)) dL_seeks_10 hm9) hP hD hS hA hown [] ⟨0, 13, 14, 64⟩ [⟨0, 13, 19, 66⟩] (by rw [htab]; rfl) (fun z hz => absurd hz List.not_mem_nil) (by decide) (by decide) (hts (.classLink RL 64 "java/lang/IllegalArgumentException") (List.mem_of_getElem? (i := 1) rfl)) (hE.cw (Cond.castable gIAE gIAE) (List.mem_of_getElem? (i := 3) rfl)) (fun q9 w1 H locs hG hP hD hS => ?_)
    refine lv_astore (lv' := [(7, .ref q9), (0, .ref h), (1, .int a), (2, .int b), (3, .int c0), (4, .int d0), (5, .int fr), (6, .int hv)]) hx hb dL_seeks_14 hl (by decide) rfl (fun ls hl => ?_)
    refine lv_ldc (v := -2100000000) hx hb hown (hts (.constant RL 96 (-2100000000)) (List.mem_of_getElem? (i := 3) rfl)) dL_seeks_16 ?_
    refine W.widen (k := 10) (n := 168) hm9.1 hm9.2 ?_
    exact W.iret (v := -2100000000) hx hb hr (fun t ht hW => ⟨⟨some (.int (-2100000000)), w1, rfl, ⟨rfl, hG⟩, by rw [← hAe]; exact hD, by rw [ht]; exact hP⟩, by rw [← hAe]; exact hS.F ht⟩) (by rw [← hAe]; exact hS.2.2) dL_seeks_18
  · skip
    refine gMet_ofWH (cc := cL_seeks) (maxL := 8) (ret := (some .int)) (hh := [(0, 13, 14, 64), (0, 13, 19, 66)]) (by decide) rfl ?_
    intro pg e s m args below meth c s₁ B hml hv
    obtain ⟨rfl, ⟨hsz, hP, hK, hD0, hE0⟩, hN⟩ := hv
    have hx := B.exec
    have hb := B.bytes
    have hr := B.returns
    have hts := atoms_spec (ws := wsL_seeks) B.pre
    have hown : s.vm.findClass RL = some m.cls := findClass_of_methodNamed B.named
    have htab : c.exceptionTable.toList = tableOf [(0, 13, 14, 64), (0, 13, 19, 66)] := vx_table (x := yL_seeks) B (hts _ List.mem_cons_self)
    have hlocks := B.notSynchronized
    subst hsz
    obtain ⟨A, hAe⟩ : ∃ A : Nat → Prop, A = va_A w s.heap.size := ⟨_, rfl⟩
    have hE : gE ad A s s.heap := by rw [hAe]; exact hE0
    have hD : va_D A w := by rw [hAe]; exact hD0.self (sz := s.heap.size)
    have hA : ∀ q : Nat, s.heap.size ≤ q → A q := fun q h => by rw [hAe]; exact Or.inr h
    have hS : va_S A s.heap s.heap [] := va_S.rf
    have hl := lv_entry ([.ref h, .int a, .int b, .int c0, .int d0, .int fr, .int hv]) (n := 8) (Nat.le_of_ble_eq_true rfl)
    rw [lg_entry_eq]
    generalize (lg_sl ([.ref h, .int a, .int b, .int c0, .int d0, .int fr, .int hv]) ++ List.replicate (8 - (lg_sl ([.ref h, .int a, .int b, .int c0, .int d0, .int fr, .int hv])).length) Slot.unset).toArray = ls at hl ⊢
    have hl : lv_has ls 8 [(0, .ref h), (1, .int a), (2, .int b), (3, .int c0), (4, .int d0), (5, .int fr), (6, .int hv)] := hl
    refine lv_aload_n hx hb dL_seeks_0 rfl (lv_at hl 0 rfl) ?_
    refine lv_iload_n hx hb dL_seeks_1 rfl (lv_at hl 1 rfl) ?_
    refine lv_iload_n hx hb dL_seeks_2 rfl (lv_at hl 2 rfl) ?_
    refine lv_iload_n hx hb dL_seeks_3 rfl (lv_at hl 3 rfl) ?_
    refine lv_iload hx hb dL_seeks_4 (lv_at hl 4 rfl) ?_
    refine lv_iload hx hb dL_seeks_6 (lv_at hl 5 rfl) ?_
    refine lv_iload hx hb dL_seeks_8 (lv_at hl 6 rfl) ?_
    refine g_catch (name := gISE) (ws := []) (wc := w) (vx_runV (As := [.int a, .int b, .int c0, .int d0, .int fr, .int hv]) (rest := []) ⟨hx, hb, hml, hown, hts⟩ (HL s.heap.size) (cwV 6 hts gL_seeks_X7_zero rfl hc9 hs9 (by decide +kernel) hr9) (gPX_VA hP hD hK hE hS hA 0 he rfl) rfl rfl hl.1 rfl (lv_room (Nat.le_of_ble_eq_true rfl)) dL_seeks_10 hm9) hP hD hS hA hown [⟨0, 13, 14, 64⟩] ⟨0, 13, 19, 66⟩ [] (by rw [htab]; rfl) (fun z hz => by rcases List.mem_singleton.mp hz with rfl; exact Or.inr ⟨by decide, _, (hts (.classLink RL 64 "java/lang/IllegalArgumentException") (List.mem_of_getElem? (i := 1) rfl)), hN.2.2⟩) (by decide) (by decide) (hts (.classLink RL 66 "java/lang/IllegalStateException") (List.mem_of_getElem? (i := 2) rfl)) (hE.cw (Cond.castable gISE gISE) (List.mem_of_getElem? (i := 4) rfl)) (fun q9 w1 H locs hG hP hD hS => ?_)
    refine lv_astore (lv' := [(7, .ref q9), (0, .ref h), (1, .int a), (2, .int b), (3, .int c0), (4, .int d0), (5, .int fr), (6, .int hv)]) hx hb dL_seeks_19 hl (by decide) rfl (fun ls hl => ?_)
    refine lv_ldc (v := -2100000000) hx hb hown (hts (.constant RL 96 (-2100000000)) (List.mem_of_getElem? (i := 3) rfl)) dL_seeks_21 ?_
    refine W.widen (k := 10) (n := 168) hm9.1 hm9.2 ?_
    exact W.iret (v := -2100000000) hx hb hr (fun t ht hW => ⟨⟨some (.int (-2100000000)), w1, rfl, ⟨rfl, hG⟩, by rw [← hAe]; exact hD, by rw [ht]; exact hP⟩, by rw [← hAe]; exact hS.F ht⟩) (by rw [← hAe]; exact hS.2.2) dL_seeks_23
set_option maxRecDepth 100000 in
theorem sn_instead {l : Launch} {D : va_G} {y : Nat → ClassId} {ad : Nat → Nat} {w : va_W} {h : Nat} {fs : List Value} (he : w[0]? = some (h, .inr (5, fs))) {a b c0 d0 : Int32} {bb : Bool} {G : va_W → Prop} {rm : Room} {mc ms : Nat} {x : Int64} (HL : ∀ sz, Met l yX7_instead wsX7_instead rm (gPX D y ad [.ref h, .int a, .int b, .int c0, .int d0, .int (gB bb)] w sz) (gQn D w (fun v w1 => v = some (.long x) ∧ G w1)) mc ms (va_A w sz)) (hc9 : rm.cells = mc) (hs9 : rm.slots = ms) (hr9 : rm.frames + 1 ≤ 11 ∧ 8 + (8 + 11) + rm.locals ≤ 400) (hm9 : 0 + mc ≤ 1 ∧ 0 + ms ≤ 6) (sz : Nat) : Met l yL_instead wsL_instead ({ frames := 11, cells := 1, slots := 6, locals := 400 } : Room) (gPN D y ad [.ref h, .int a, .int b, .int c0, .int d0, .int (gB bb)] w sz) (gQn D w (fun v w1 => v = some (.long (x)) ∧ G w1)) 1 6 (va_A w sz) := by
  refine gMet_ofWH (cc := cL_instead) (maxL := 7) (ret := (some .long)) (hh := [(0, 11, 12, 60), (0, 11, 18, 64), (0, 11, 24, 66)]) (by decide) rfl ?_
  intro pg e s m args below meth c s₁ B hml hv
  obtain ⟨rfl, ⟨hsz, hP, hK, hD0, hE0⟩, hN⟩ := hv
  have hx := B.exec
  have hb := B.bytes
  have hr := B.returns
  have hts := atoms_spec (ws := wsL_instead) B.pre
  have hown : s.vm.findClass RL = some m.cls := findClass_of_methodNamed B.named
  have htab : c.exceptionTable.toList = tableOf [(0, 11, 12, 60), (0, 11, 18, 64), (0, 11, 24, 66)] := vx_table (x := yL_instead) B (hts _ List.mem_cons_self)
  have hlocks := B.notSynchronized
  subst hsz
  obtain ⟨A, hAe⟩ : ∃ A : Nat → Prop, A = va_A w s.heap.size := ⟨_, rfl⟩
  have hE : gE ad A s s.heap := by rw [hAe]; exact hE0
  have hD : va_D A w := by rw [hAe]; exact hD0.self (sz := s.heap.size)
  have hA : ∀ q : Nat, s.heap.size ≤ q → A q := fun q h => by rw [hAe]; exact Or.inr h
  have hS : va_S A s.heap s.heap [] := va_S.rf
  have hl := lv_entry ([.ref h, .int a, .int b, .int c0, .int d0, .int (gB bb)]) (n := 7) (Nat.le_of_ble_eq_true rfl)
  rw [lg_entry_eq]
  generalize (lg_sl ([.ref h, .int a, .int b, .int c0, .int d0, .int (gB bb)]) ++ List.replicate (7 - (lg_sl ([.ref h, .int a, .int b, .int c0, .int d0, .int (gB bb)])).length) Slot.unset).toArray = ls at hl ⊢
  have hl : lv_has ls 7 [(0, .ref h), (1, .int a), (2, .int b), (3, .int c0), (4, .int d0), (5, .int (gB bb))] := hl
  refine lv_aload_n hx hb dL_instead_0 rfl (lv_at hl 0 rfl) ?_
  refine lv_iload_n hx hb dL_instead_1 rfl (lv_at hl 1 rfl) ?_
  refine lv_iload_n hx hb dL_instead_2 rfl (lv_at hl 2 rfl) ?_
  refine lv_iload_n hx hb dL_instead_3 rfl (lv_at hl 3 rfl) ?_
  refine lv_iload hx hb dL_instead_4 (lv_at hl 4 rfl) ?_
  refine lv_iload hx hb dL_instead_6 (lv_at hl 5 rfl) ?_
  refine g_callN (ws := []) (wc := w) (va_runV (As := [.int a, .int b, .int c0, .int d0, .int (gB bb)]) (rest := []) ⟨hx, hb, hml, hown, hts⟩ (HL s.heap.size) (cwV 5 hts gL_instead_X7_instead rfl hc9 hs9 (by decide +kernel) hr9) (gPX_VA hP hD hK hE hS hA 0 he rfl) rfl rfl hl.1 rfl (lv_room (Nat.le_of_ble_eq_true rfl)) dL_instead_8 hm9) hP hD hS hA (fun v w1 H locs hf hP hD hS => ?_)
  obtain ⟨rfl, hG⟩ := hf
  refine W.widen (k := 1) (n := 6) hm9.1 hm9.2 ?_
  exact W.lret (v := x) hx hb hr (fun t ht hW => ⟨⟨some (.long (x)), w1, rfl, ⟨rfl, hG⟩, by rw [← hAe]; exact hD, by rw [ht]; exact hP⟩, by rw [← hAe]; exact hS.F ht⟩) (by rw [← hAe]; exact hS.2.2) dL_instead_11
set_option maxRecDepth 100000 in
theorem st_instead {l : Launch} {D : va_G} {y : Nat → ClassId} {ad : Nat → Nat} {w : va_W} {h : Nat} {fs : List Value} (he : w[0]? = some (h, .inr (5, fs))) {a b c0 d0 : Int32} {bb : Bool} {G : va_W → Prop} {rm : Room} {mc ms : Nat} {E : String} (hE9 : E = gIOB ∨ E = gIAE ∨ E = gISE) (HL : ∀ sz, vx_Met l yX7_instead wsX7_instead rm (gPX D y ad [.ref h, .int a, .int b, .int c0, .int d0, .int (gB bb)] w sz) gNo (gXC D w E G) mc ms (va_A w sz)) (hc9 : rm.cells = mc) (hs9 : rm.slots = ms) (hr9 : rm.frames + 1 ≤ 11 ∧ 8 + (8 + 11) + rm.locals ≤ 400) (hm9 : 0 + mc ≤ 1 ∧ 0 + ms ≤ 6) (sz : Nat) : Met l yL_instead wsL_instead ({ frames := 11, cells := 1, slots := 6, locals := 400 } : Room) (gPN D y ad [.ref h, .int a, .int b, .int c0, .int d0, .int (gB bb)] w sz) (gQn D w (fun v w1 => v = some (.long (-2100000000)) ∧ G w1)) 1 6 (va_A w sz) := by
  rcases hE9 with rfl | rfl | rfl
  · skip
    refine gMet_ofWH (cc := cL_instead) (maxL := 7) (ret := (some .long)) (hh := [(0, 11, 12, 60), (0, 11, 18, 64), (0, 11, 24, 66)]) (by decide) rfl ?_
    intro pg e s m args below meth c s₁ B hml hv
    obtain ⟨rfl, ⟨hsz, hP, hK, hD0, hE0⟩, hN⟩ := hv
    have hx := B.exec
    have hb := B.bytes
    have hr := B.returns
    have hts := atoms_spec (ws := wsL_instead) B.pre
    have hown : s.vm.findClass RL = some m.cls := findClass_of_methodNamed B.named
    have htab : c.exceptionTable.toList = tableOf [(0, 11, 12, 60), (0, 11, 18, 64), (0, 11, 24, 66)] := vx_table (x := yL_instead) B (hts _ List.mem_cons_self)
    have hlocks := B.notSynchronized
    subst hsz
    obtain ⟨A, hAe⟩ : ∃ A : Nat → Prop, A = va_A w s.heap.size := ⟨_, rfl⟩
    have hE : gE ad A s s.heap := by rw [hAe]; exact hE0
    have hD : va_D A w := by rw [hAe]; exact hD0.self (sz := s.heap.size)
    have hA : ∀ q : Nat, s.heap.size ≤ q → A q := fun q h => by rw [hAe]; exact Or.inr h
    have hS : va_S A s.heap s.heap [] := va_S.rf
    have hl := lv_entry ([.ref h, .int a, .int b, .int c0, .int d0, .int (gB bb)]) (n := 7) (Nat.le_of_ble_eq_true rfl)
    rw [lg_entry_eq]
    generalize (lg_sl ([.ref h, .int a, .int b, .int c0, .int d0, .int (gB bb)]) ++ List.replicate (7 - (lg_sl ([.ref h, .int a, .int b, .int c0, .int d0, .int (gB bb)])).length) Slot.unset).toArray = ls at hl ⊢
    have hl : lv_has ls 7 [(0, .ref h), (1, .int a), (2, .int b), (3, .int c0), (4, .int d0), (5, .int (gB bb))] := hl
    refine lv_aload_n hx hb dL_instead_0 rfl (lv_at hl 0 rfl) ?_
    refine lv_iload_n hx hb dL_instead_1 rfl (lv_at hl 1 rfl) ?_
    refine lv_iload_n hx hb dL_instead_2 rfl (lv_at hl 2 rfl) ?_
    refine lv_iload_n hx hb dL_instead_3 rfl (lv_at hl 3 rfl) ?_
    refine lv_iload hx hb dL_instead_4 (lv_at hl 4 rfl) ?_
    refine lv_iload hx hb dL_instead_6 (lv_at hl 5 rfl) ?_
    refine g_catch (name := gIOB) (ws := []) (wc := w) (vx_runV (As := [.int a, .int b, .int c0, .int d0, .int (gB bb)]) (rest := []) ⟨hx, hb, hml, hown, hts⟩ (HL s.heap.size) (cwV 5 hts gL_instead_X7_instead rfl hc9 hs9 (by decide +kernel) hr9) (gPX_VA hP hD hK hE hS hA 0 he rfl) rfl rfl hl.1 rfl (lv_room (Nat.le_of_ble_eq_true rfl)) dL_instead_8 hm9) hP hD hS hA hown [] ⟨0, 11, 12, 60⟩ [⟨0, 11, 18, 64⟩, ⟨0, 11, 24, 66⟩] (by rw [htab]; rfl) (fun z hz => absurd hz List.not_mem_nil) (by decide) (by decide) (hts (.classLink RL 60 "java/lang/IndexOutOfBoundsException") (List.mem_of_getElem? (i := 1) rfl)) (hE.cw (Cond.castable gIOB gIOB) (List.mem_of_getElem? (i := 5) rfl)) (fun q9 w1 H locs hG hP hD hS => ?_)
    refine lv_astore (lv' := [(6, .ref q9), (0, .ref h), (1, .int a), (2, .int b), (3, .int c0), (4, .int d0), (5, .int (gB bb))]) hx hb dL_instead_12 hl (by decide) rfl (fun ls hl => ?_)
    refine lv_ldc2 (v := -2100000000) hx hb hown (hts (.constantLong RL 62 (-2100000000)) (List.mem_of_getElem? (i := 4) rfl)) dL_instead_14 ?_
    refine W.widen (k := 1) (n := 6) hm9.1 hm9.2 ?_
    exact W.lret (v := -2100000000) hx hb hr (fun t ht hW => ⟨⟨some (.long (-2100000000)), w1, rfl, ⟨rfl, hG⟩, by rw [← hAe]; exact hD, by rw [ht]; exact hP⟩, by rw [← hAe]; exact hS.F ht⟩) (by rw [← hAe]; exact hS.2.2) dL_instead_17
  · skip
    refine gMet_ofWH (cc := cL_instead) (maxL := 7) (ret := (some .long)) (hh := [(0, 11, 12, 60), (0, 11, 18, 64), (0, 11, 24, 66)]) (by decide) rfl ?_
    intro pg e s m args below meth c s₁ B hml hv
    obtain ⟨rfl, ⟨hsz, hP, hK, hD0, hE0⟩, hN⟩ := hv
    have hx := B.exec
    have hb := B.bytes
    have hr := B.returns
    have hts := atoms_spec (ws := wsL_instead) B.pre
    have hown : s.vm.findClass RL = some m.cls := findClass_of_methodNamed B.named
    have htab : c.exceptionTable.toList = tableOf [(0, 11, 12, 60), (0, 11, 18, 64), (0, 11, 24, 66)] := vx_table (x := yL_instead) B (hts _ List.mem_cons_self)
    have hlocks := B.notSynchronized
    subst hsz
    obtain ⟨A, hAe⟩ : ∃ A : Nat → Prop, A = va_A w s.heap.size := ⟨_, rfl⟩
    have hE : gE ad A s s.heap := by rw [hAe]; exact hE0
    have hD : va_D A w := by rw [hAe]; exact hD0.self (sz := s.heap.size)
    have hA : ∀ q : Nat, s.heap.size ≤ q → A q := fun q h => by rw [hAe]; exact Or.inr h
    have hS : va_S A s.heap s.heap [] := va_S.rf
    have hl := lv_entry ([.ref h, .int a, .int b, .int c0, .int d0, .int (gB bb)]) (n := 7) (Nat.le_of_ble_eq_true rfl)
    rw [lg_entry_eq]
    generalize (lg_sl ([.ref h, .int a, .int b, .int c0, .int d0, .int (gB bb)]) ++ List.replicate (7 - (lg_sl ([.ref h, .int a, .int b, .int c0, .int d0, .int (gB bb)])).length) Slot.unset).toArray = ls at hl ⊢
    have hl : lv_has ls 7 [(0, .ref h), (1, .int a), (2, .int b), (3, .int c0), (4, .int d0), (5, .int (gB bb))] := hl
    refine lv_aload_n hx hb dL_instead_0 rfl (lv_at hl 0 rfl) ?_
    refine lv_iload_n hx hb dL_instead_1 rfl (lv_at hl 1 rfl) ?_
    refine lv_iload_n hx hb dL_instead_2 rfl (lv_at hl 2 rfl) ?_
    refine lv_iload_n hx hb dL_instead_3 rfl (lv_at hl 3 rfl) ?_
    refine lv_iload hx hb dL_instead_4 (lv_at hl 4 rfl) ?_
    refine lv_iload hx hb dL_instead_6 (lv_at hl 5 rfl) ?_
    refine g_catch (name := gIAE) (ws := []) (wc := w) (vx_runV (As := [.int a, .int b, .int c0, .int d0, .int (gB bb)]) (rest := []) ⟨hx, hb, hml, hown, hts⟩ (HL s.heap.size) (cwV 5 hts gL_instead_X7_instead rfl hc9 hs9 (by decide +kernel) hr9) (gPX_VA hP hD hK hE hS hA 0 he rfl) rfl rfl hl.1 rfl (lv_room (Nat.le_of_ble_eq_true rfl)) dL_instead_8 hm9) hP hD hS hA hown [⟨0, 11, 12, 60⟩] ⟨0, 11, 18, 64⟩ [⟨0, 11, 24, 66⟩] (by rw [htab]; rfl) (fun z hz => by rcases List.mem_singleton.mp hz with rfl; exact Or.inr ⟨by decide, _, (hts (.classLink RL 60 "java/lang/IndexOutOfBoundsException") (List.mem_of_getElem? (i := 1) rfl)), hN.1⟩) (by decide) (by decide) (hts (.classLink RL 64 "java/lang/IllegalArgumentException") (List.mem_of_getElem? (i := 2) rfl)) (hE.cw (Cond.castable gIAE gIAE) (List.mem_of_getElem? (i := 3) rfl)) (fun q9 w1 H locs hG hP hD hS => ?_)
    refine lv_astore (lv' := [(6, .ref q9), (0, .ref h), (1, .int a), (2, .int b), (3, .int c0), (4, .int d0), (5, .int (gB bb))]) hx hb dL_instead_18 hl (by decide) rfl (fun ls hl => ?_)
    refine lv_ldc2 (v := -2100000000) hx hb hown (hts (.constantLong RL 62 (-2100000000)) (List.mem_of_getElem? (i := 4) rfl)) dL_instead_20 ?_
    refine W.widen (k := 1) (n := 6) hm9.1 hm9.2 ?_
    exact W.lret (v := -2100000000) hx hb hr (fun t ht hW => ⟨⟨some (.long (-2100000000)), w1, rfl, ⟨rfl, hG⟩, by rw [← hAe]; exact hD, by rw [ht]; exact hP⟩, by rw [← hAe]; exact hS.F ht⟩) (by rw [← hAe]; exact hS.2.2) dL_instead_23
  · skip
    refine gMet_ofWH (cc := cL_instead) (maxL := 7) (ret := (some .long)) (hh := [(0, 11, 12, 60), (0, 11, 18, 64), (0, 11, 24, 66)]) (by decide) rfl ?_
    intro pg e s m args below meth c s₁ B hml hv
    obtain ⟨rfl, ⟨hsz, hP, hK, hD0, hE0⟩, hN⟩ := hv
    have hx := B.exec
    have hb := B.bytes
    have hr := B.returns
    have hts := atoms_spec (ws := wsL_instead) B.pre
    have hown : s.vm.findClass RL = some m.cls := findClass_of_methodNamed B.named
    have htab : c.exceptionTable.toList = tableOf [(0, 11, 12, 60), (0, 11, 18, 64), (0, 11, 24, 66)] := vx_table (x := yL_instead) B (hts _ List.mem_cons_self)
    have hlocks := B.notSynchronized
    subst hsz
    obtain ⟨A, hAe⟩ : ∃ A : Nat → Prop, A = va_A w s.heap.size := ⟨_, rfl⟩
    have hE : gE ad A s s.heap := by rw [hAe]; exact hE0
    have hD : va_D A w := by rw [hAe]; exact hD0.self (sz := s.heap.size)
    have hA : ∀ q : Nat, s.heap.size ≤ q → A q := fun q h => by rw [hAe]; exact Or.inr h
    have hS : va_S A s.heap s.heap [] := va_S.rf
    have hl := lv_entry ([.ref h, .int a, .int b, .int c0, .int d0, .int (gB bb)]) (n := 7) (Nat.le_of_ble_eq_true rfl)
    rw [lg_entry_eq]
    generalize (lg_sl ([.ref h, .int a, .int b, .int c0, .int d0, .int (gB bb)]) ++ List.replicate (7 - (lg_sl ([.ref h, .int a, .int b, .int c0, .int d0, .int (gB bb)])).length) Slot.unset).toArray = ls at hl ⊢
    have hl : lv_has ls 7 [(0, .ref h), (1, .int a), (2, .int b), (3, .int c0), (4, .int d0), (5, .int (gB bb))] := hl
    refine lv_aload_n hx hb dL_instead_0 rfl (lv_at hl 0 rfl) ?_
    refine lv_iload_n hx hb dL_instead_1 rfl (lv_at hl 1 rfl) ?_
    refine lv_iload_n hx hb dL_instead_2 rfl (lv_at hl 2 rfl) ?_
    refine lv_iload_n hx hb dL_instead_3 rfl (lv_at hl 3 rfl) ?_
    refine lv_iload hx hb dL_instead_4 (lv_at hl 4 rfl) ?_
    refine lv_iload hx hb dL_instead_6 (lv_at hl 5 rfl) ?_
    refine g_catch (name := gISE) (ws := []) (wc := w) (vx_runV (As := [.int a, .int b, .int c0, .int d0, .int (gB bb)]) (rest := []) ⟨hx, hb, hml, hown, hts⟩ (HL s.heap.size) (cwV 5 hts gL_instead_X7_instead rfl hc9 hs9 (by decide +kernel) hr9) (gPX_VA hP hD hK hE hS hA 0 he rfl) rfl rfl hl.1 rfl (lv_room (Nat.le_of_ble_eq_true rfl)) dL_instead_8 hm9) hP hD hS hA hown [⟨0, 11, 12, 60⟩, ⟨0, 11, 18, 64⟩] ⟨0, 11, 24, 66⟩ [] (by rw [htab]; rfl) (fun z hz => by
      rcases List.mem_cons.mp hz with rfl | hz
      · exact Or.inr ⟨by decide, _, (hts (.classLink RL 60 "java/lang/IndexOutOfBoundsException") (List.mem_of_getElem? (i := 1) rfl)), hN.2.1⟩
      · rcases List.mem_singleton.mp hz with rfl; exact Or.inr ⟨by decide, _, (hts (.classLink RL 64 "java/lang/IllegalArgumentException") (List.mem_of_getElem? (i := 2) rfl)), hN.2.2⟩) (by decide) (by decide) (hts (.classLink RL 66 "java/lang/IllegalStateException") (List.mem_of_getElem? (i := 3) rfl)) (hE.cw (Cond.castable gISE gISE) (List.mem_of_getElem? (i := 4) rfl)) (fun q9 w1 H locs hG hP hD hS => ?_)
    refine lv_astore (lv' := [(6, .ref q9), (0, .ref h), (1, .int a), (2, .int b), (3, .int c0), (4, .int d0), (5, .int (gB bb))]) hx hb dL_instead_24 hl (by decide) rfl (fun ls hl => ?_)
    refine lv_ldc2 (v := -2100000000) hx hb hown (hts (.constantLong RL 62 (-2100000000)) (List.mem_of_getElem? (i := 4) rfl)) dL_instead_26 ?_
    refine W.widen (k := 1) (n := 6) hm9.1 hm9.2 ?_
    exact W.lret (v := -2100000000) hx hb hr (fun t ht hW => ⟨⟨some (.long (-2100000000)), w1, rfl, ⟨rfl, hG⟩, by rw [← hAe]; exact hD, by rw [ht]; exact hP⟩, by rw [← hAe]; exact hS.F ht⟩) (by rw [← hAe]; exact hS.2.2) dL_instead_29
