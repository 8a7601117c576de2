set_option maxHeartbeats 4000000 in
set_option maxRecDepth 100000 in
theorem c_X8_instead_1 (l : Launch) (D : va_G) (y : Nat → ClassId) (sz : Nat) (h : Nat) (q : Nat → Nat) (tw : Int32) (pn : Nat) (ki on ot ab be zA zB zC zD zF zT : Nat → Int32) (fo : Nat → Bool) (lw hg : Nat → Int64) (at_ : Nat → Bool) (tl th : Nat → Int64) (wo : Nat → Bool) (wl wh : Nat → Int64) (is_ : Bool) (lo_ hi_ : Int64) (di : Nat → Int32) (su : Nat → Int64) (an : Nat → Bool) (a b c0 d0 : Int32) (bb : Bool) (hbad : ¬ (sp_X8_isProgram pn a = true ∧ sp_X8_isProgram pn b = true ∧ sp_X8_isProgram pn c0 = true)) : Met l yX8_instead wsX8_instead ({ frames := 2, cells := 0, slots := 0, locals := 43 } : Room) (gP D y [.ref h, .int a, .int b, .int c0, .int d0, .int (gB bb)] (wM y h q tw pn ki on ot ab be zA zB zC zD zF zT fo lw hg at_ tl th wo wl wh is_ lo_ hi_ di su an) sz) (gQ D (wM y h q tw pn ki on ot ab be zA zB zC zD zF zT fo lw hg at_ tl th wo wl wh is_ lo_ hi_ di su an) (gF (some (.long 0)) (wM y h q 1 pn ki on ot ab be zA zB zC zD zF zT fo lw hg at_ tl th wo wl wh is_ lo_ hi_ di su an))) 0 0 (va_A (wM y h q tw pn ki on ot ab be zA zB zC zD zF zT fo lw hg at_ tl th wo wl wh is_ lo_ hi_ di su an) sz) := by
  refine Met.ofW (cc := cX8_instead) (maxL := 7) (ret := (some .long)) (by decide) rfl ?_
  intro pg e s m args below meth c s₁ B hml hv
  obtain ⟨rfl, hsz, hP, hK, hD0⟩ := hv
  have hx := B.exec
  have hb := B.bytes
  have hr := B.returns
  have hts := atoms_spec (ws := wsX8_instead) B.pre
  have hown : s.vm.findClass RX8 = some m.cls := findClass_of_methodNamed B.named
  have hlocks := B.notSynchronized
  subst hsz
  obtain ⟨A, hAe⟩ : ∃ A : Nat → Prop, A = va_A (wM y h q tw pn ki on ot ab be zA zB zC zD zF zT fo lw hg at_ tl th wo wl wh is_ lo_ hi_ di su an) s.heap.size := ⟨_, rfl⟩
  have hD : va_D A (wM y h q tw pn ki on ot ab be zA zB zC zD zF zT fo lw hg at_ tl th wo wl wh is_ lo_ hi_ di su an) := by rw [hAe]; exact hD0.self (sz := s.heap.size)
  have hA : ∀ q : Nat, s.heap.size ≤ q → A q := fun q h => by rw [hAe]; exact Or.inr h
  have hS : va_S A s.heap s.heap [] := va_S.rf
  have hl := lv_entry ([.ref h, .int a, .int b, .int c0, .int d0, .int (gB bb)]) (n := 7) (Nat.le_of_ble_eq_true rfl)
  rw [lg_entry_eq]
  generalize (lg_sl ([.ref h, .int a, .int b, .int c0, .int d0, .int (gB bb)]) ++ List.replicate (7 - (lg_sl ([.ref h, .int a, .int b, .int c0, .int d0, .int (gB bb)])).length) Slot.unset).toArray = ls at hl ⊢
  have hl : lv_has ls 7 [(0, .ref h), (1, .int a), (2, .int b), (3, .int c0), (4, .int d0), (5, .int (gB bb))] := hl
  refine lv_aload_n hx hb dX8_instead_0 rfl (lv_at hl 0 rfl) ?_
  refine lv_iload_n hx hb dX8_instead_1 rfl (lv_at hl 1 rfl) ?_
  refine g_callR (v0 := .int (gB (sp_X8_isProgram pn a))) (va_runV (As := [.int a]) (rest := []) ⟨hx, hb, hml, hown, hts⟩ (c_X8_isProgram l D y s.heap.size h q tw pn ki on ot ab be zA zB zC zD zF zT fo lw hg at_ tl th wo wl wh is_ lo_ hi_ di su an a) (cwV 1 hts gX8_instead_X8_isProgram rfl rfl rfl (by decide +kernel) ⟨Nat.le_of_ble_eq_true rfl, Nat.le_of_ble_eq_true rfl⟩) (gP_VA hP hD hK 0 rfl rfl) rfl rfl hl.1 rfl (lv_room (Nat.le_of_ble_eq_true rfl)) dX8_instead_2 ⟨Nat.zero_le _, Nat.zero_le _⟩) ?_
  refine g_beq (tgt := 28) hx hb dX8_instead_5 (by decide) (fun c_5 => ?_) (fun c_5 => ?_)
  · skip
    refine lv_iconst (v := 0) hx hb dX8_instead_28 (by decide) ?_
    refine lv_istore (lv' := [(6, .int 0), (0, .ref h), (1, .int a), (2, .int b), (3, .int c0), (4, .int d0), (5, .int (gB bb))]) hx hb dX8_instead_29 hl (by decide) rfl (fun ls hl => ?_)
    refine lv_iload hx hb dX8_instead_31 (lv_at hl 0 rfl) ?_
    refine lv_if_eq (tgt := 52) hx hb dX8_instead_33 (by decide) (fun c_33 => ?_) (fun c_33 => absurd c_33 (by decide))
    refine lv_aload_n hx hb dX8_instead_52 rfl (lv_at hl 1 rfl) ?_
    refine lv_iload hx hb dX8_instead_53 (lv_at hl 0 rfl) ?_
    refine lv_if_ne (tgt := 62) hx hb dX8_instead_55 (by decide) (fun c_55 => absurd c_55 (by decide)) (fun c_55 => ?_)
    refine lv_iconst (v := 1) hx hb dX8_instead_58 (by decide) ?_
    refine lv_goto (tgt := 88) hx hb dX8_instead_59 (by decide) ?_
    refine g_callA1 (v0 := .int (gB (sp_X8_holds 1))) (w0 := wM y h q 1 pn ki on ot ab be zA zB zC zD zF zT fo lw hg at_ tl th wo wl wh is_ lo_ hi_ di su an) (va_runV (As := [.int 1]) (rest := []) ⟨hx, hb, hml, hown, hts⟩ (c_X8_holds l D y s.heap.size h q tw pn ki on ot ab be zA zB zC zD zF zT fo lw hg at_ tl th wo wl wh is_ lo_ hi_ di su an 1) (cwV 1 hts gX8_instead_X8_holds rfl rfl rfl (by decide +kernel) ⟨Nat.le_of_ble_eq_true rfl, Nat.le_of_ble_eq_true rfl⟩) (gP_VA hP hD hK 0 rfl rfl) rfl rfl hl.1 rfl (lv_room (Nat.le_of_ble_eq_true rfl)) dX8_instead_88 ⟨Nat.zero_le _, Nat.zero_le _⟩) hP hD hS hA rfl (fun H locs hP hD hS => ?_)
    refine g_bne (tgt := 96) hx hb dX8_instead_91 (by decide) (fun c_91 => absurd c_91 (by decide)) (fun c_91 => ?_)
    refine lv_lconst (v := 0) hx hb dX8_instead_94 (by decide) ?_
    exact W.lret (v := 0) hx hb hr (fun t ht hW => ⟨⟨_, wM y h q 1 pn ki on ot ab be zA zB zC zD zF zT fo lw hg at_ tl th wo wl wh is_ lo_ hi_ di su an, rfl, ⟨congrArg (fun z => some (Value.long z)) (rfl), rfl⟩, rfl, by rw [ht]; exact hP⟩, by rw [← hAe]; exact hS.F ht⟩) (by rw [← hAe]; exact hS.2.2) dX8_instead_95
  · skip
    refine lv_aload_n hx hb dX8_instead_8 rfl (lv_at hl 0 rfl) ?_
    refine lv_iload_n hx hb dX8_instead_9 rfl (lv_at hl 2 rfl) ?_
    refine g_callR (v0 := .int (gB (sp_X8_isProgram pn b))) (va_runV (As := [.int b]) (rest := []) ⟨hx, hb, hml, hown, hts⟩ (c_X8_isProgram l D y s.heap.size h q tw pn ki on ot ab be zA zB zC zD zF zT fo lw hg at_ tl th wo wl wh is_ lo_ hi_ di su an b) (cwV 1 hts gX8_instead_X8_isProgram rfl rfl rfl (by decide +kernel) ⟨Nat.le_of_ble_eq_true rfl, Nat.le_of_ble_eq_true rfl⟩) (gP_VA hP hD hK 0 rfl rfl) rfl rfl hl.1 rfl (lv_room (Nat.le_of_ble_eq_true rfl)) dX8_instead_10 ⟨Nat.zero_le _, Nat.zero_le _⟩) ?_
    refine g_beq (tgt := 28) hx hb dX8_instead_13 (by decide) (fun c_13 => ?_) (fun c_13 => ?_)
    · skip
      refine lv_iconst (v := 0) hx hb dX8_instead_28 (by decide) ?_
      refine lv_istore (lv' := [(6, .int 0), (0, .ref h), (1, .int a), (2, .int b), (3, .int c0), (4, .int d0), (5, .int (gB bb))]) hx hb dX8_instead_29 hl (by decide) rfl (fun ls hl => ?_)
      refine lv_iload hx hb dX8_instead_31 (lv_at hl 0 rfl) ?_
      refine lv_if_eq (tgt := 52) hx hb dX8_instead_33 (by decide) (fun c_33 => ?_) (fun c_33 => absurd c_33 (by decide))
      refine lv_aload_n hx hb dX8_instead_52 rfl (lv_at hl 1 rfl) ?_
      refine lv_iload hx hb dX8_instead_53 (lv_at hl 0 rfl) ?_
      refine lv_if_ne (tgt := 62) hx hb dX8_instead_55 (by decide) (fun c_55 => absurd c_55 (by decide)) (fun c_55 => ?_)
      refine lv_iconst (v := 1) hx hb dX8_instead_58 (by decide) ?_
      refine lv_goto (tgt := 88) hx hb dX8_instead_59 (by decide) ?_
      refine g_callA1 (v0 := .int (gB (sp_X8_holds 1))) (w0 := wM y h q 1 pn ki on ot ab be zA zB zC zD zF zT fo lw hg at_ tl th wo wl wh is_ lo_ hi_ di su an) (va_runV (As := [.int 1]) (rest := []) ⟨hx, hb, hml, hown, hts⟩ (c_X8_holds l D y s.heap.size h q tw pn ki on ot ab be zA zB zC zD zF zT fo lw hg at_ tl th wo wl wh is_ lo_ hi_ di su an 1) (cwV 1 hts gX8_instead_X8_holds rfl rfl rfl (by decide +kernel) ⟨Nat.le_of_ble_eq_true rfl, Nat.le_of_ble_eq_true rfl⟩) (gP_VA hP hD hK 0 rfl rfl) rfl rfl hl.1 rfl (lv_room (Nat.le_of_ble_eq_true rfl)) dX8_instead_88 ⟨Nat.zero_le _, Nat.zero_le _⟩) hP hD hS hA rfl (fun H locs hP hD hS => ?_)
      refine g_bne (tgt := 96) hx hb dX8_instead_91 (by decide) (fun c_91 => absurd c_91 (by decide)) (fun c_91 => ?_)
      refine lv_lconst (v := 0) hx hb dX8_instead_94 (by decide) ?_
      exact W.lret (v := 0) hx hb hr (fun t ht hW => ⟨⟨_, wM y h q 1 pn ki on ot ab be zA zB zC zD zF zT fo lw hg at_ tl th wo wl wh is_ lo_ hi_ di su an, rfl, ⟨congrArg (fun z => some (Value.long z)) (rfl), rfl⟩, rfl, by rw [ht]; exact hP⟩, by rw [← hAe]; exact hS.F ht⟩) (by rw [← hAe]; exact hS.2.2) dX8_instead_95
    · skip
      refine lv_aload_n hx hb dX8_instead_16 rfl (lv_at hl 0 rfl) ?_
      refine lv_iload_n hx hb dX8_instead_17 rfl (lv_at hl 3 rfl) ?_
      refine g_callR (v0 := .int (gB (sp_X8_isProgram pn c0))) (va_runV (As := [.int c0]) (rest := []) ⟨hx, hb, hml, hown, hts⟩ (c_X8_isProgram l D y s.heap.size h q tw pn ki on ot ab be zA zB zC zD zF zT fo lw hg at_ tl th wo wl wh is_ lo_ hi_ di su an c0) (cwV 1 hts gX8_instead_X8_isProgram rfl rfl rfl (by decide +kernel) ⟨Nat.le_of_ble_eq_true rfl, Nat.le_of_ble_eq_true rfl⟩) (gP_VA hP hD hK 0 rfl rfl) rfl rfl hl.1 rfl (lv_room (Nat.le_of_ble_eq_true rfl)) dX8_instead_18 ⟨Nat.zero_le _, Nat.zero_le _⟩) ?_
      refine g_beq (tgt := 28) hx hb dX8_instead_21 (by decide) (fun c_21 => ?_) (fun c_21 => absurd ⟨c_5, c_13, c_21⟩ hbad)
      refine lv_iconst (v := 0) hx hb dX8_instead_28 (by decide) ?_
      refine lv_istore (lv' := [(6, .int 0), (0, .ref h), (1, .int a), (2, .int b), (3, .int c0), (4, .int d0), (5, .int (gB bb))]) hx hb dX8_instead_29 hl (by decide) rfl (fun ls hl => ?_)
      refine lv_iload hx hb dX8_instead_31 (lv_at hl 0 rfl) ?_
      refine lv_if_eq (tgt := 52) hx hb dX8_instead_33 (by decide) (fun c_33 => ?_) (fun c_33 => absurd c_33 (by decide))
      refine lv_aload_n hx hb dX8_instead_52 rfl (lv_at hl 1 rfl) ?_
      refine lv_iload hx hb dX8_instead_53 (lv_at hl 0 rfl) ?_
      refine lv_if_ne (tgt := 62) hx hb dX8_instead_55 (by decide) (fun c_55 => absurd c_55 (by decide)) (fun c_55 => ?_)
      refine lv_iconst (v := 1) hx hb dX8_instead_58 (by decide) ?_
      refine lv_goto (tgt := 88) hx hb dX8_instead_59 (by decide) ?_
      refine g_callA1 (v0 := .int (gB (sp_X8_holds 1))) (w0 := wM y h q 1 pn ki on ot ab be zA zB zC zD zF zT fo lw hg at_ tl th wo wl wh is_ lo_ hi_ di su an) (va_runV (As := [.int 1]) (rest := []) ⟨hx, hb, hml, hown, hts⟩ (c_X8_holds l D y s.heap.size h q tw pn ki on ot ab be zA zB zC zD zF zT fo lw hg at_ tl th wo wl wh is_ lo_ hi_ di su an 1) (cwV 1 hts gX8_instead_X8_holds rfl rfl rfl (by decide +kernel) ⟨Nat.le_of_ble_eq_true rfl, Nat.le_of_ble_eq_true rfl⟩) (gP_VA hP hD hK 0 rfl rfl) rfl rfl hl.1 rfl (lv_room (Nat.le_of_ble_eq_true rfl)) dX8_instead_88 ⟨Nat.zero_le _, Nat.zero_le _⟩) hP hD hS hA rfl (fun H locs hP hD hS => ?_)
      refine g_bne (tgt := 96) hx hb dX8_instead_91 (by decide) (fun c_91 => absurd c_91 (by decide)) (fun c_91 => ?_)
      refine lv_lconst (v := 0) hx hb dX8_instead_94 (by decide) ?_
      exact W.lret (v := 0) hx hb hr (fun t ht hW => ⟨⟨_, wM y h q 1 pn ki on ot ab be zA zB zC zD zF zT fo lw hg at_ tl th wo wl wh is_ lo_ hi_ di su an, rfl, ⟨congrArg (fun z => some (Value.long z)) (rfl), rfl⟩, rfl, by rw [ht]; exact hP⟩, by rw [← hAe]; exact hS.F ht⟩) (by rw [← hAe]; exact hS.2.2) dX8_instead_95
set_option maxHeartbeats 4000000 in
set_option maxRecDepth 100000 in
theorem c_X8_instead_2 (l : Launch) (D : va_G) (y : Nat → ClassId) (sz : Nat) (h : Nat) (q : Nat → Nat) (tw : Int32) (pn : Nat) (ki on ot ab be zA zB zC zD zF zT : Nat → Int32) (fo : Nat → Bool) (lw hg : Nat → Int64) (at_ : Nat → Bool) (tl th : Nat → Int64) (wo : Nat → Bool) (wl wh : Nat → Int64) (is_ : Bool) (lo_ hi_ : Int64) (di : Nat → Int32) (su : Nat → Int64) (an : Nat → Bool) (k g jo : Nat) (d0 : Int32) (bb : Bool) (hpn : pn ≤ 40) (hk : k < pn) (hgn : g < pn) (hjo : jo < pn) (yP : ¬ sp_X8_isPlace d0 = true) : Met l yX8_instead wsX8_instead ({ frames := 2, cells := 0, slots := 0, locals := 43 } : Room) (gP D y [.ref h, .int (nI k), .int (nI g), .int (nI jo), .int d0, .int (gB bb)] (wM y h q tw pn ki on ot ab be zA zB zC zD zF zT fo lw hg at_ tl th wo wl wh is_ lo_ hi_ di su an) sz) (gQ D (wM y h q tw pn ki on ot ab be zA zB zC zD zF zT fo lw hg at_ tl th wo wl wh is_ lo_ hi_ di su an) (gF (some (.long 0)) (wM y h q 2 pn ki on ot ab be zA zB zC zD zF zT fo lw hg at_ tl th wo wl wh is_ lo_ hi_ di su an))) 0 0 (va_A (wM y h q tw pn ki on ot ab be zA zB zC zD zF zT fo lw hg at_ tl th wo wl wh is_ lo_ hi_ di su an) sz) := by
  refine Met.ofW (cc := cX8_instead) (maxL := 7) (ret := (some .long)) (by decide) rfl ?_
  intro pg e s m args below meth c s₁ B hml hv
  obtain ⟨rfl, hsz, hP, hK, hD0⟩ := hv
  have hx := B.exec
  have hb := B.bytes
  have hr := B.returns
  have hts := atoms_spec (ws := wsX8_instead) B.pre
  have hown : s.vm.findClass RX8 = some m.cls := findClass_of_methodNamed B.named
  have hlocks := B.notSynchronized
  subst hsz
  obtain ⟨A, hAe⟩ : ∃ A : Nat → Prop, A = va_A (wM y h q tw pn ki on ot ab be zA zB zC zD zF zT fo lw hg at_ tl th wo wl wh is_ lo_ hi_ di su an) s.heap.size := ⟨_, rfl⟩
  have hD : va_D A (wM y h q tw pn ki on ot ab be zA zB zC zD zF zT fo lw hg at_ tl th wo wl wh is_ lo_ hi_ di su an) := by rw [hAe]; exact hD0.self (sz := s.heap.size)
  have hA : ∀ q : Nat, s.heap.size ≤ q → A q := fun q h => by rw [hAe]; exact Or.inr h
  have hS : va_S A s.heap s.heap [] := va_S.rf
  have hl := lv_entry ([.ref h, .int (nI k), .int (nI g), .int (nI jo), .int d0, .int (gB bb)]) (n := 7) (Nat.le_of_ble_eq_true rfl)
  rw [lg_entry_eq]
  generalize (lg_sl ([.ref h, .int (nI k), .int (nI g), .int (nI jo), .int d0, .int (gB bb)]) ++ List.replicate (7 - (lg_sl ([.ref h, .int (nI k), .int (nI g), .int (nI jo), .int d0, .int (gB bb)])).length) Slot.unset).toArray = ls at hl ⊢
  have hl : lv_has ls 7 [(0, .ref h), (1, .int (nI k)), (2, .int (nI g)), (3, .int (nI jo)), (4, .int d0), (5, .int (gB bb))] := hl
  refine lv_aload_n hx hb dX8_instead_0 rfl (lv_at hl 0 rfl) ?_
  refine lv_iload_n hx hb dX8_instead_1 rfl (lv_at hl 1 rfl) ?_
  refine g_callR (v0 := .int (gB (sp_X8_isProgram pn (nI k)))) (va_runV (As := [.int (nI k)]) (rest := []) ⟨hx, hb, hml, hown, hts⟩ (c_X8_isProgram l D y s.heap.size h q tw pn ki on ot ab be zA zB zC zD zF zT fo lw hg at_ tl th wo wl wh is_ lo_ hi_ di su an (nI k)) (cwV 1 hts gX8_instead_X8_isProgram rfl rfl rfl (by decide +kernel) ⟨Nat.le_of_ble_eq_true rfl, Nat.le_of_ble_eq_true rfl⟩) (gP_VA hP hD hK 0 rfl rfl) rfl rfl hl.1 rfl (lv_room (Nat.le_of_ble_eq_true rfl)) dX8_instead_2 ⟨Nat.zero_le _, Nat.zero_le _⟩) ?_
  refine g_beq (tgt := 28) hx hb dX8_instead_5 (by decide) (fun c_5 => absurd (g_isP hk hpn) c_5) (fun c_5 => ?_)
  refine lv_aload_n hx hb dX8_instead_8 rfl (lv_at hl 0 rfl) ?_
  refine lv_iload_n hx hb dX8_instead_9 rfl (lv_at hl 2 rfl) ?_
  refine g_callR (v0 := .int (gB (sp_X8_isProgram pn (nI g)))) (va_runV (As := [.int (nI g)]) (rest := []) ⟨hx, hb, hml, hown, hts⟩ (c_X8_isProgram l D y s.heap.size h q tw pn ki on ot ab be zA zB zC zD zF zT fo lw hg at_ tl th wo wl wh is_ lo_ hi_ di su an (nI g)) (cwV 1 hts gX8_instead_X8_isProgram rfl rfl rfl (by decide +kernel) ⟨Nat.le_of_ble_eq_true rfl, Nat.le_of_ble_eq_true rfl⟩) (gP_VA hP hD hK 0 rfl rfl) rfl rfl hl.1 rfl (lv_room (Nat.le_of_ble_eq_true rfl)) dX8_instead_10 ⟨Nat.zero_le _, Nat.zero_le _⟩) ?_
  refine g_beq (tgt := 28) hx hb dX8_instead_13 (by decide) (fun c_13 => absurd (g_isP hgn hpn) c_13) (fun c_13 => ?_)
  refine lv_aload_n hx hb dX8_instead_16 rfl (lv_at hl 0 rfl) ?_
  refine lv_iload_n hx hb dX8_instead_17 rfl (lv_at hl 3 rfl) ?_
  refine g_callR (v0 := .int (gB (sp_X8_isProgram pn (nI jo)))) (va_runV (As := [.int (nI jo)]) (rest := []) ⟨hx, hb, hml, hown, hts⟩ (c_X8_isProgram l D y s.heap.size h q tw pn ki on ot ab be zA zB zC zD zF zT fo lw hg at_ tl th wo wl wh is_ lo_ hi_ di su an (nI jo)) (cwV 1 hts gX8_instead_X8_isProgram rfl rfl rfl (by decide +kernel) ⟨Nat.le_of_ble_eq_true rfl, Nat.le_of_ble_eq_true rfl⟩) (gP_VA hP hD hK 0 rfl rfl) rfl rfl hl.1 rfl (lv_room (Nat.le_of_ble_eq_true rfl)) dX8_instead_18 ⟨Nat.zero_le _, Nat.zero_le _⟩) ?_
  refine g_beq (tgt := 28) hx hb dX8_instead_21 (by decide) (fun c_21 => absurd (g_isP hjo hpn) c_21) (fun c_21 => ?_)
  refine lv_iconst (v := 1) hx hb dX8_instead_24 (by decide) ?_
  refine lv_goto (tgt := 29) hx hb dX8_instead_25 (by decide) ?_
  refine lv_istore (lv' := [(6, .int 1), (0, .ref h), (1, .int (nI k)), (2, .int (nI g)), (3, .int (nI jo)), (4, .int d0), (5, .int (gB bb))]) hx hb dX8_instead_29 hl (by decide) rfl (fun ls hl => ?_)
  refine lv_iload hx hb dX8_instead_31 (lv_at hl 0 rfl) ?_
  refine lv_if_eq (tgt := 52) hx hb dX8_instead_33 (by decide) (fun c_33 => absurd c_33 (by decide)) (fun c_33 => ?_)
  refine lv_iload hx hb dX8_instead_36 (lv_at hl 5 rfl) ?_
  refine g_callR (v0 := .int (gB (sp_X8_isPlace d0))) (va_runS (As := [.int d0]) (rest := []) ⟨hx, hb, hml, hown, hts⟩ (c_X8_isPlace l D y s.heap.size d0) (va_cwS 1 hts gX8_instead_X8_isPlace rfl rfl rfl (by decide +kernel) ⟨Nat.le_of_ble_eq_true rfl, Nat.le_of_ble_eq_true rfl⟩) (gP_S hP hD hK [] (by decide) rfl) rfl rfl hl.1 rfl (lv_room (Nat.le_of_ble_eq_true rfl)) dX8_instead_38 ⟨Nat.zero_le _, Nat.zero_le _⟩) ?_
  refine g_beq (tgt := 52) hx hb dX8_instead_41 (by decide) (fun c_41 => ?_) (fun c_41 => absurd c_41 yP)
  refine lv_aload_n hx hb dX8_instead_52 rfl (lv_at hl 1 rfl) ?_
  refine lv_iload hx hb dX8_instead_53 (lv_at hl 0 rfl) ?_
  refine lv_if_ne (tgt := 62) hx hb dX8_instead_55 (by decide) (fun c_55 => ?_) (fun c_55 => absurd c_55 (by decide))
  refine lv_iload hx hb dX8_instead_62 (lv_at hl 5 rfl) ?_
  refine g_callR (v0 := .int (gB (sp_X8_isPlace d0))) (va_runS (As := [.int d0]) (rest := [.ref h]) ⟨hx, hb, hml, hown, hts⟩ (c_X8_isPlace l D y s.heap.size d0) (va_cwS 1 hts gX8_instead_X8_isPlace rfl rfl rfl (by decide +kernel) ⟨Nat.le_of_ble_eq_true rfl, Nat.le_of_ble_eq_true rfl⟩) (gP_S hP hD hK [] (by decide) rfl) rfl rfl hl.1 rfl (lv_room (Nat.le_of_ble_eq_true rfl)) dX8_instead_64 ⟨Nat.zero_le _, Nat.zero_le _⟩) ?_
  refine g_bne (tgt := 74) hx hb dX8_instead_67 (by decide) (fun c_67 => absurd c_67 yP) (fun c_67 => ?_)
  refine lv_iconst (v := 2) hx hb dX8_instead_70 (by decide) ?_
  refine lv_goto (tgt := 88) hx hb dX8_instead_71 (by decide) ?_
  refine g_callA1 (v0 := .int (gB (sp_X8_holds 2))) (w0 := wM y h q 2 pn ki on ot ab be zA zB zC zD zF zT fo lw hg at_ tl th wo wl wh is_ lo_ hi_ di su an) (va_runV (As := [.int 2]) (rest := []) ⟨hx, hb, hml, hown, hts⟩ (c_X8_holds l D y s.heap.size h q tw pn ki on ot ab be zA zB zC zD zF zT fo lw hg at_ tl th wo wl wh is_ lo_ hi_ di su an 2) (cwV 1 hts gX8_instead_X8_holds rfl rfl rfl (by decide +kernel) ⟨Nat.le_of_ble_eq_true rfl, Nat.le_of_ble_eq_true rfl⟩) (gP_VA hP hD hK 0 rfl rfl) rfl rfl hl.1 rfl (lv_room (Nat.le_of_ble_eq_true rfl)) dX8_instead_88 ⟨Nat.zero_le _, Nat.zero_le _⟩) hP hD hS hA rfl (fun H locs hP hD hS => ?_)
  refine g_bne (tgt := 96) hx hb dX8_instead_91 (by decide) (fun c_91 => absurd c_91 (by decide)) (fun c_91 => ?_)
  refine lv_lconst (v := 0) hx hb dX8_instead_94 (by decide) ?_
  exact W.lret (v := 0) hx hb hr (fun t ht hW => ⟨⟨_, wM y h q 2 pn ki on ot ab be zA zB zC zD zF zT fo lw hg at_ tl th wo wl wh is_ lo_ hi_ di su an, rfl, ⟨congrArg (fun z => some (Value.long z)) (rfl), rfl⟩, rfl, by rw [ht]; exact hP⟩, by rw [← hAe]; exact hS.F ht⟩) (by rw [← hAe]; exact hS.2.2) dX8_instead_95
theorem in_X8_instead_X8 : ∀ w ∈ wsX80, w ∈ wsX8_instead := fun _ h => List.mem_cons_of_mem _ (List.mem_append_right _ h)
set_option maxHeartbeats 4000000 in
set_option maxRecDepth 100000 in
theorem c_X8_instead_3 (l : Launch) (D : va_G) (y : Nat → ClassId) (sz : Nat) (h : Nat) (q : Nat → Nat) (tw : Int32) (pn : Nat) (ki on ot ab be zA zB zC zD zF zT : Nat → Int32) (fo : Nat → Bool) (lw hg : Nat → Int64) (at_ : Nat → Bool) (tl th : Nat → Int64) (wo : Nat → Bool) (wl wh : Nat → Int64) (is_ : Bool) (lo_ hi_ : Int64) (di : Nat → Int32) (su : Nat → Int64) (an : Nat → Bool) (k g jo p : Nat) (bb : Bool) (cW : Nat → Bool) (cX cY : Nat → Int64) (hpn : pn ≤ 40) (hk : k < pn) (hgn : g < pn) (hjo : jo < pn) (hp : p < 25) (hform : ∀ k, k < pn → rpH ki on ot ab be zA zB zC zD zF zT cW cX cY g p k) (hgw : cW g = fo (25 * jo + p) ∧ (cW g = true → cX g = lw (25 * jo + p) ∧ cY g = hg (25 * jo + p))) (hw : ¬ cW k = true) : Met l yX8_instead wsX8_instead ({ frames := 5, cells := 0, slots := 0, locals := 148 } : Room) (gP D y [.ref h, .int (nI k), .int (nI g), .int (nI jo), .int (nI p), .int (gB bb)] (wM y h q tw pn ki on ot ab be zA zB zC zD zF zT fo lw hg at_ tl th wo wl wh is_ lo_ hi_ di su an) sz) (gQ D (wM y h q tw pn ki on ot ab be zA zB zC zD zF zT fo lw hg at_ tl th wo wl wh is_ lo_ hi_ di su an) (fun v w => ∃ (wo1 : Nat → Bool) (wl1 : Nat → Int64) (wh1 : Nat → Int64) (is1 : Bool) (lo1 : Int64) (hi1 : Int64), v = some (.long 0) ∧ w = (wM y h q 3 pn ki on ot ab be zA zB zC zD zF zT fo lw hg at_ tl th wo1 wl1 wh1 is1 lo1 hi1 di su an))) 0 0 (va_A (wM y h q tw pn ki on ot ab be zA zB zC zD zF zT fo lw hg at_ tl th wo wl wh is_ lo_ hi_ di su an) sz) := by
  refine Met.ofW (cc := cX8_instead) (maxL := 7) (ret := (some .long)) (by decide) rfl ?_
  intro pg e s m args below meth c s₁ B hml hv
  obtain ⟨rfl, hsz, hP, hK, hD0⟩ := hv
  have hx := B.exec
  have hb := B.bytes
  have hr := B.returns
  have hts := atoms_spec (ws := wsX8_instead) B.pre
  have hown : s.vm.findClass RX8 = some m.cls := findClass_of_methodNamed B.named
  have hlocks := B.notSynchronized
  subst hsz
  obtain ⟨A, hAe⟩ : ∃ A : Nat → Prop, A = va_A (wM y h q tw pn ki on ot ab be zA zB zC zD zF zT fo lw hg at_ tl th wo wl wh is_ lo_ hi_ di su an) s.heap.size := ⟨_, rfl⟩
  have hD : va_D A (wM y h q tw pn ki on ot ab be zA zB zC zD zF zT fo lw hg at_ tl th wo wl wh is_ lo_ hi_ di su an) := by rw [hAe]; exact hD0.self (sz := s.heap.size)
  have hA : ∀ q : Nat, s.heap.size ≤ q → A q := fun q h => by rw [hAe]; exact Or.inr h
  have hS : va_S A s.heap s.heap [] := va_S.rf
  have hl := lv_entry ([.ref h, .int (nI k), .int (nI g), .int (nI jo), .int (nI p), .int (gB bb)]) (n := 7) (Nat.le_of_ble_eq_true rfl)
  rw [lg_entry_eq]
  generalize (lg_sl ([.ref h, .int (nI k), .int (nI g), .int (nI jo), .int (nI p), .int (gB bb)]) ++ List.replicate (7 - (lg_sl ([.ref h, .int (nI k), .int (nI g), .int (nI jo), .int (nI p), .int (gB bb)])).length) Slot.unset).toArray = ls at hl ⊢
  have hl : lv_has ls 7 [(0, .ref h), (1, .int (nI k)), (2, .int (nI g)), (3, .int (nI jo)), (4, .int (nI p)), (5, .int (gB bb))] := hl
  refine lv_aload_n hx hb dX8_instead_0 rfl (lv_at hl 0 rfl) ?_
  refine lv_iload_n hx hb dX8_instead_1 rfl (lv_at hl 1 rfl) ?_
  refine g_callR (v0 := .int (gB (sp_X8_isProgram pn (nI k)))) (va_runV (As := [.int (nI k)]) (rest := []) ⟨hx, hb, hml, hown, hts⟩ (c_X8_isProgram l D y s.heap.size h q tw pn ki on ot ab be zA zB zC zD zF zT fo lw hg at_ tl th wo wl wh is_ lo_ hi_ di su an (nI k)) (cwV 1 hts gX8_instead_X8_isProgram rfl rfl rfl (by decide +kernel) ⟨Nat.le_of_ble_eq_true rfl, Nat.le_of_ble_eq_true rfl⟩) (gP_VA hP hD hK 0 rfl rfl) rfl rfl hl.1 rfl (lv_room (Nat.le_of_ble_eq_true rfl)) dX8_instead_2 ⟨Nat.zero_le _, Nat.zero_le _⟩) ?_
  refine g_beq (tgt := 28) hx hb dX8_instead_5 (by decide) (fun c_5 => absurd (g_isP hk hpn) c_5) (fun c_5 => ?_)
  refine lv_aload_n hx hb dX8_instead_8 rfl (lv_at hl 0 rfl) ?_
  refine lv_iload_n hx hb dX8_instead_9 rfl (lv_at hl 2 rfl) ?_
  refine g_callR (v0 := .int (gB (sp_X8_isProgram pn (nI g)))) (va_runV (As := [.int (nI g)]) (rest := []) ⟨hx, hb, hml, hown, hts⟩ (c_X8_isProgram l D y s.heap.size h q tw pn ki on ot ab be zA zB zC zD zF zT fo lw hg at_ tl th wo wl wh is_ lo_ hi_ di su an (nI g)) (cwV 1 hts gX8_instead_X8_isProgram rfl rfl rfl (by decide +kernel) ⟨Nat.le_of_ble_eq_true rfl, Nat.le_of_ble_eq_true rfl⟩) (gP_VA hP hD hK 0 rfl rfl) rfl rfl hl.1 rfl (lv_room (Nat.le_of_ble_eq_true rfl)) dX8_instead_10 ⟨Nat.zero_le _, Nat.zero_le _⟩) ?_
  refine g_beq (tgt := 28) hx hb dX8_instead_13 (by decide) (fun c_13 => absurd (g_isP hgn hpn) c_13) (fun c_13 => ?_)
  refine lv_aload_n hx hb dX8_instead_16 rfl (lv_at hl 0 rfl) ?_
  refine lv_iload_n hx hb dX8_instead_17 rfl (lv_at hl 3 rfl) ?_
  refine g_callR (v0 := .int (gB (sp_X8_isProgram pn (nI jo)))) (va_runV (As := [.int (nI jo)]) (rest := []) ⟨hx, hb, hml, hown, hts⟩ (c_X8_isProgram l D y s.heap.size h q tw pn ki on ot ab be zA zB zC zD zF zT fo lw hg at_ tl th wo wl wh is_ lo_ hi_ di su an (nI jo)) (cwV 1 hts gX8_instead_X8_isProgram rfl rfl rfl (by decide +kernel) ⟨Nat.le_of_ble_eq_true rfl, Nat.le_of_ble_eq_true rfl⟩) (gP_VA hP hD hK 0 rfl rfl) rfl rfl hl.1 rfl (lv_room (Nat.le_of_ble_eq_true rfl)) dX8_instead_18 ⟨Nat.zero_le _, Nat.zero_le _⟩) ?_
  refine g_beq (tgt := 28) hx hb dX8_instead_21 (by decide) (fun c_21 => absurd (g_isP hjo hpn) c_21) (fun c_21 => ?_)
  refine lv_iconst (v := 1) hx hb dX8_instead_24 (by decide) ?_
  refine lv_goto (tgt := 29) hx hb dX8_instead_25 (by decide) ?_
  refine lv_istore (lv' := [(6, .int 1), (0, .ref h), (1, .int (nI k)), (2, .int (nI g)), (3, .int (nI jo)), (4, .int (nI p)), (5, .int (gB bb))]) hx hb dX8_instead_29 hl (by decide) rfl (fun ls hl => ?_)
  refine lv_iload hx hb dX8_instead_31 (lv_at hl 0 rfl) ?_
  refine lv_if_eq (tgt := 52) hx hb dX8_instead_33 (by decide) (fun c_33 => absurd c_33 (by decide)) (fun c_33 => ?_)
  refine lv_iload hx hb dX8_instead_36 (lv_at hl 5 rfl) ?_
  refine g_callR (v0 := .int (gB (sp_X8_isPlace (nI p)))) (va_runS (As := [.int (nI p)]) (rest := []) ⟨hx, hb, hml, hown, hts⟩ (c_X8_isPlace l D y s.heap.size (nI p)) (va_cwS 1 hts gX8_instead_X8_isPlace rfl rfl rfl (by decide +kernel) ⟨Nat.le_of_ble_eq_true rfl, Nat.le_of_ble_eq_true rfl⟩) (gP_S hP hD hK [] (by decide) rfl) rfl rfl hl.1 rfl (lv_room (Nat.le_of_ble_eq_true rfl)) dX8_instead_38 ⟨Nat.zero_le _, Nat.zero_le _⟩) ?_
  refine g_beq (tgt := 52) hx hb dX8_instead_41 (by decide) (fun c_41 => absurd (g_isPl hp) c_41) (fun c_41 => ?_)
  refine lv_aload_n hx hb dX8_instead_44 rfl (lv_at hl 1 rfl) ?_
  refine lv_iload_n hx hb dX8_instead_45 rfl (lv_at hl 3 rfl) ?_
  refine lv_iload_n hx hb dX8_instead_46 rfl (lv_at hl 4 rfl) ?_
  refine lv_iload hx hb dX8_instead_47 (lv_at hl 5 rfl) ?_
  refine g_callA (va_runV (As := [.int (nI g), .int (nI jo), .int (nI p)]) (rest := []) ⟨hx, hb, hml, hown, hts⟩ (c_X8_replaces l D y s.heap.size h q tw pn ki on ot ab be zA zB zC zD zF zT fo lw hg at_ tl th wo wl wh is_ lo_ hi_ di su an g jo p cW cX cY hpn hp hgn hjo hform hgw) (cwV 3 hts gX8_instead_X8_replaces rfl rfl rfl (by decide +kernel) ⟨Nat.le_of_ble_eq_true rfl, Nat.le_of_ble_eq_true rfl⟩) (gP_VA hP hD hK 0 rfl rfl) rfl rfl hl.1 rfl (lv_room (Nat.le_of_ble_eq_true rfl)) dX8_instead_49 ⟨Nat.zero_le _, Nat.zero_le _⟩) hP hD hS hA (fun v w1 H locs hf hP hD hS => ?_)
  obtain ⟨wo1_49, wl1_49, wh1_49, is1_49, lo1_49, hi1_49, rfl, rfl, h49_0⟩ := hf
  have hP : va_P D vwCl (wM y h q tw pn ki on ot ab be zA zB zC zD zF zT fo lw hg at_ tl th wo1_49 wl1_49 wh1_49 is1_49 lo1_49 hi1_49 di su an) H := hP
  have hD : va_D A (wM y h q tw pn ki on ot ab be zA zB zC zD zF zT fo lw hg at_ tl th wo1_49 wl1_49 wh1_49 is1_49 lo1_49 hi1_49 di su an) := hD
  refine lv_aload_n hx hb dX8_instead_52 rfl (lv_at hl 1 rfl) ?_
  refine lv_iload hx hb dX8_instead_53 (lv_at hl 0 rfl) ?_
  refine lv_if_ne (tgt := 62) hx hb dX8_instead_55 (by decide) (fun c_55 => ?_) (fun c_55 => absurd c_55 (by decide))
  refine lv_iload hx hb dX8_instead_62 (lv_at hl 5 rfl) ?_
  refine g_callR (v0 := .int (gB (sp_X8_isPlace (nI p)))) (va_runS (As := [.int (nI p)]) (rest := [.ref h]) ⟨hx, hb, hml, hown, hts⟩ (c_X8_isPlace l D y H.size (nI p)) (va_cwS 1 hts gX8_instead_X8_isPlace rfl rfl rfl (by decide +kernel) ⟨Nat.le_of_ble_eq_true rfl, Nat.le_of_ble_eq_true rfl⟩) (gP_S hP hD hK [] (by decide) rfl) rfl rfl hl.1 rfl (lv_room (Nat.le_of_ble_eq_true rfl)) dX8_instead_64 ⟨Nat.zero_le _, Nat.zero_le _⟩) ?_
  refine g_bne (tgt := 74) hx hb dX8_instead_67 (by decide) (fun c_67 => ?_) (fun c_67 => absurd (g_isPl hp) c_67)
  refine lv_aload_n hx hb dX8_instead_74 rfl (lv_at hl 1 rfl) ?_
  refine va_get (D := D) (ci := 6) (v := .ref (q 19)) (C := RX8) (T := TX8) (N := 28) hx hb hts in_X8_instead_X8 hown hK.1 hP 0 rfl rfl 19 (by decide) (hts (.fieldLink RX8 63 "NestlimitModel" "would" "[Z") (List.mem_of_getElem? (i := 1) rfl)) (fun _ h9 => h9) rfl dX8_instead_75 ?_
  refine lv_iload_n hx hb dX8_instead_78 rfl (lv_at hl 2 rfl) ?_
  refine g_zald (k := k) hx hb hK.1 hP 18 2 rfl rfl (by omega) (by decide) dX8_instead_79 ?_
  refine g_beq (tgt := 87) hx hb dX8_instead_80 (by decide) (fun c_80 => ?_) (fun c_80 => absurd c_80 (fun z9 => hw ((h49_0 k hk).1.symm.trans z9)))
  refine lv_iconst (v := 3) hx hb dX8_instead_87 (by decide) ?_
  refine g_callA1 (v0 := .int (gB (sp_X8_holds 3))) (w0 := wM y h q 3 pn ki on ot ab be zA zB zC zD zF zT fo lw hg at_ tl th wo1_49 wl1_49 wh1_49 is1_49 lo1_49 hi1_49 di su an) (va_runV (As := [.int 3]) (rest := []) ⟨hx, hb, hml, hown, hts⟩ (c_X8_holds l D y H.size h q tw pn ki on ot ab be zA zB zC zD zF zT fo lw hg at_ tl th wo1_49 wl1_49 wh1_49 is1_49 lo1_49 hi1_49 di su an 3) (cwV 1 hts gX8_instead_X8_holds rfl rfl rfl (by decide +kernel) ⟨Nat.le_of_ble_eq_true rfl, Nat.le_of_ble_eq_true rfl⟩) (gP_VA hP hD hK 0 rfl rfl) rfl rfl hl.1 rfl (lv_room (Nat.le_of_ble_eq_true rfl)) dX8_instead_88 ⟨Nat.zero_le _, Nat.zero_le _⟩) hP hD hS hA rfl (fun H locs hP hD hS => ?_)
  refine g_bne (tgt := 96) hx hb dX8_instead_91 (by decide) (fun c_91 => absurd c_91 (by decide)) (fun c_91 => ?_)
  refine lv_lconst (v := 0) hx hb dX8_instead_94 (by decide) ?_
  exact W.lret (v := 0) hx hb hr (fun t ht hW => ⟨⟨some (.long (0)), wM y h q 3 pn ki on ot ab be zA zB zC zD zF zT fo lw hg at_ tl th wo1_49 wl1_49 wh1_49 is1_49 lo1_49 hi1_49 di su an, rfl, ⟨wo1_49, wl1_49, wh1_49, is1_49, lo1_49, hi1_49, rfl, rfl⟩, rfl, by rw [ht]; exact hP⟩, by rw [← hAe]; exact hS.F ht⟩) (by rw [← hAe]; exact hS.2.2) dX8_instead_95
set_option maxHeartbeats 4000000 in
set_option maxRecDepth 100000 in
theorem c_X8_instead_0 (l : Launch) (D : va_G) (y : Nat → ClassId) (sz : Nat) (h : Nat) (q : Nat → Nat) (tw : Int32) (pn : Nat) (ki on ot ab be zA zB zC zD zF zT : Nat → Int32) (fo : Nat → Bool) (lw hg : Nat → Int64) (at_ : Nat → Bool) (tl th : Nat → Int64) (wo : Nat → Bool) (wl wh : Nat → Int64) (is_ : Bool) (lo_ hi_ : Int64) (di : Nat → Int32) (su : Nat → Int64) (an : Nat → Bool) (k g jo p : Nat) (bb : Bool) (cW : Nat → Bool) (cX cY : Nat → Int64) (hpn : pn ≤ 40) (hk : k < pn) (hgn : g < pn) (hjo : jo < pn) (hp : p < 25) (hform : ∀ k, k < pn → rpH ki on ot ab be zA zB zC zD zF zT cW cX cY g p k) (hgw : cW g = fo (25 * jo + p) ∧ (cW g = true → cX g = lw (25 * jo + p) ∧ cY g = hg (25 * jo + p))) (hw : cW k = true) : Met l yX8_instead wsX8_instead ({ frames := 5, cells := 0, slots := 0, locals := 148 } : Room) (gP D y [.ref h, .int (nI k), .int (nI g), .int (nI jo), .int (nI p), .int (gB bb)] (wM y h q tw pn ki on ot ab be zA zB zC zD zF zT fo lw hg at_ tl th wo wl wh is_ lo_ hi_ di su an) sz) (gQ D (wM y h q tw pn ki on ot ab be zA zB zC zD zF zT fo lw hg at_ tl th wo wl wh is_ lo_ hi_ di su an) (fun v w => ∃ (wo1 : Nat → Bool) (wl1 : Nat → Int64) (wh1 : Nat → Int64) (is1 : Bool) (lo1 : Int64) (hi1 : Int64), v = some (.long (gSel bb (cY k) (cX k))) ∧ w = (wM y h q 0 pn ki on ot ab be zA zB zC zD zF zT fo lw hg at_ tl th wo1 wl1 wh1 is1 lo1 hi1 di su an))) 0 0 (va_A (wM y h q tw pn ki on ot ab be zA zB zC zD zF zT fo lw hg at_ tl th wo wl wh is_ lo_ hi_ di su an) sz) := by
  refine Met.ofW (cc := cX8_instead) (maxL := 7) (ret := (some .long)) (by decide) rfl ?_
  intro pg e s m args below meth c s₁ B hml hv
  obtain ⟨rfl, hsz, hP, hK, hD0⟩ := hv
  have hx := B.exec
  have hb := B.bytes
  have hr := B.returns
  have hts := atoms_spec (ws := wsX8_instead) B.pre
  have hown : s.vm.findClass RX8 = some m.cls := findClass_of_methodNamed B.named
  have hlocks := B.notSynchronized
  subst hsz
  obtain ⟨A, hAe⟩ : ∃ A : Nat → Prop, A = va_A (wM y h q tw pn ki on ot ab be zA zB zC zD zF zT fo lw hg at_ tl th wo wl wh is_ lo_ hi_ di su an) s.heap.size := ⟨_, rfl⟩
  have hD : va_D A (wM y h q tw pn ki on ot ab be zA zB zC zD zF zT fo lw hg at_ tl th wo wl wh is_ lo_ hi_ di su an) := by rw [hAe]; exact hD0.self (sz := s.heap.size)
  have hA : ∀ q : Nat, s.heap.size ≤ q → A q := fun q h => by rw [hAe]; exact Or.inr h
  have hS : va_S A s.heap s.heap [] := va_S.rf
  have hl := lv_entry ([.ref h, .int (nI k), .int (nI g), .int (nI jo), .int (nI p), .int (gB bb)]) (n := 7) (Nat.le_of_ble_eq_true rfl)
  rw [lg_entry_eq]
  generalize (lg_sl ([.ref h, .int (nI k), .int (nI g), .int (nI jo), .int (nI p), .int (gB bb)]) ++ List.replicate (7 - (lg_sl ([.ref h, .int (nI k), .int (nI g), .int (nI jo), .int (nI p), .int (gB bb)])).length) Slot.unset).toArray = ls at hl ⊢
  have hl : lv_has ls 7 [(0, .ref h), (1, .int (nI k)), (2, .int (nI g)), (3, .int (nI jo)), (4, .int (nI p)), (5, .int (gB bb))] := hl
  refine lv_aload_n hx hb dX8_instead_0 rfl (lv_at hl 0 rfl) ?_
  refine lv_iload_n hx hb dX8_instead_1 rfl (lv_at hl 1 rfl) ?_
  refine g_callR (v0 := .int (gB (sp_X8_isProgram pn (nI k)))) (va_runV (As := [.int (nI k)]) (rest := []) ⟨hx, hb, hml, hown, hts⟩ (c_X8_isProgram l D y s.heap.size h q tw pn ki on ot ab be zA zB zC zD zF zT fo lw hg at_ tl th wo wl wh is_ lo_ hi_ di su an (nI k)) (cwV 1 hts gX8_instead_X8_isProgram rfl rfl rfl (by decide +kernel) ⟨Nat.le_of_ble_eq_true rfl, Nat.le_of_ble_eq_true rfl⟩) (gP_VA hP hD hK 0 rfl rfl) rfl rfl hl.1 rfl (lv_room (Nat.le_of_ble_eq_true rfl)) dX8_instead_2 ⟨Nat.zero_le _, Nat.zero_le _⟩) ?_
  refine g_beq (tgt := 28) hx hb dX8_instead_5 (by decide) (fun c_5 => absurd (g_isP hk hpn) c_5) (fun c_5 => ?_)
  refine lv_aload_n hx hb dX8_instead_8 rfl (lv_at hl 0 rfl) ?_
  refine lv_iload_n hx hb dX8_instead_9 rfl (lv_at hl 2 rfl) ?_
  refine g_callR (v0 := .int (gB (sp_X8_isProgram pn (nI g)))) (va_runV (As := [.int (nI g)]) (rest := []) ⟨hx, hb, hml, hown, hts⟩ (c_X8_isProgram l D y s.heap.size h q tw pn ki on ot ab be zA zB zC zD zF zT fo lw hg at_ tl th wo wl wh is_ lo_ hi_ di su an (nI g)) (cwV 1 hts gX8_instead_X8_isProgram rfl rfl rfl (by decide +kernel) ⟨Nat.le_of_ble_eq_true rfl, Nat.le_of_ble_eq_true rfl⟩) (gP_VA hP hD hK 0 rfl rfl) rfl rfl hl.1 rfl (lv_room (Nat.le_of_ble_eq_true rfl)) dX8_instead_10 ⟨Nat.zero_le _, Nat.zero_le _⟩) ?_
  refine g_beq (tgt := 28) hx hb dX8_instead_13 (by decide) (fun c_13 => absurd (g_isP hgn hpn) c_13) (fun c_13 => ?_)
  refine lv_aload_n hx hb dX8_instead_16 rfl (lv_at hl 0 rfl) ?_
  refine lv_iload_n hx hb dX8_instead_17 rfl (lv_at hl 3 rfl) ?_
  refine g_callR (v0 := .int (gB (sp_X8_isProgram pn (nI jo)))) (va_runV (As := [.int (nI jo)]) (rest := []) ⟨hx, hb, hml, hown, hts⟩ (c_X8_isProgram l D y s.heap.size h q tw pn ki on ot ab be zA zB zC zD zF zT fo lw hg at_ tl th wo wl wh is_ lo_ hi_ di su an (nI jo)) (cwV 1 hts gX8_instead_X8_isProgram rfl rfl rfl (by decide +kernel) ⟨Nat.le_of_ble_eq_true rfl, Nat.le_of_ble_eq_true rfl⟩) (gP_VA hP hD hK 0 rfl rfl) rfl rfl hl.1 rfl (lv_room (Nat.le_of_ble_eq_true rfl)) dX8_instead_18 ⟨Nat.zero_le _, Nat.zero_le _⟩) ?_
  refine g_beq (tgt := 28) hx hb dX8_instead_21 (by decide) (fun c_21 => absurd (g_isP hjo hpn) c_21) (fun c_21 => ?_)
  refine lv_iconst (v := 1) hx hb dX8_instead_24 (by decide) ?_
  refine lv_goto (tgt := 29) hx hb dX8_instead_25 (by decide) ?_
  refine lv_istore (lv' := [(6, .int 1), (0, .ref h), (1, .int (nI k)), (2, .int (nI g)), (3, .int (nI jo)), (4, .int (nI p)), (5, .int (gB bb))]) hx hb dX8_instead_29 hl (by decide) rfl (fun ls hl => ?_)
  refine lv_iload hx hb dX8_instead_31 (lv_at hl 0 rfl) ?_
  refine lv_if_eq (tgt := 52) hx hb dX8_instead_33 (by decide) (fun c_33 => absurd c_33 (by decide)) (fun c_33 => ?_)
  refine lv_iload hx hb dX8_instead_36 (lv_at hl 5 rfl) ?_
  refine g_callR (v0 := .int (gB (sp_X8_isPlace (nI p)))) (va_runS (As := [.int (nI p)]) (rest := []) ⟨hx, hb, hml, hown, hts⟩ (c_X8_isPlace l D y s.heap.size (nI p)) (va_cwS 1 hts gX8_instead_X8_isPlace rfl rfl rfl (by decide +kernel) ⟨Nat.le_of_ble_eq_true rfl, Nat.le_of_ble_eq_true rfl⟩) (gP_S hP hD hK [] (by decide) rfl) rfl rfl hl.1 rfl (lv_room (Nat.le_of_ble_eq_true rfl)) dX8_instead_38 ⟨Nat.zero_le _, Nat.zero_le _⟩) ?_
  refine g_beq (tgt := 52) hx hb dX8_instead_41 (by decide) (fun c_41 => absurd (g_isPl hp) c_41) (fun c_41 => ?_)
  refine lv_aload_n hx hb dX8_instead_44 rfl (lv_at hl 1 rfl) ?_
  refine lv_iload_n hx hb dX8_instead_45 rfl (lv_at hl 3 rfl) ?_
  refine lv_iload_n hx hb dX8_instead_46 rfl (lv_at hl 4 rfl) ?_
  refine lv_iload hx hb dX8_instead_47 (lv_at hl 5 rfl) ?_
  refine g_callA (va_runV (As := [.int (nI g), .int (nI jo), .int (nI p)]) (rest := []) ⟨hx, hb, hml, hown, hts⟩ (c_X8_replaces l D y s.heap.size h q tw pn ki on ot ab be zA zB zC zD zF zT fo lw hg at_ tl th wo wl wh is_ lo_ hi_ di su an g jo p cW cX cY hpn hp hgn hjo hform hgw) (cwV 3 hts gX8_instead_X8_replaces rfl rfl rfl (by decide +kernel) ⟨Nat.le_of_ble_eq_true rfl, Nat.le_of_ble_eq_true rfl⟩) (gP_VA hP hD hK 0 rfl rfl) rfl rfl hl.1 rfl (lv_room (Nat.le_of_ble_eq_true rfl)) dX8_instead_49 ⟨Nat.zero_le _, Nat.zero_le _⟩) hP hD hS hA (fun v w1 H locs hf hP hD hS => ?_)
  obtain ⟨wo1_49, wl1_49, wh1_49, is1_49, lo1_49, hi1_49, rfl, rfl, h49_0⟩ := hf
  have hP : va_P D vwCl (wM y h q tw pn ki on ot ab be zA zB zC zD zF zT fo lw hg at_ tl th wo1_49 wl1_49 wh1_49 is1_49 lo1_49 hi1_49 di su an) H := hP
  have hD : va_D A (wM y h q tw pn ki on ot ab be zA zB zC zD zF zT fo lw hg at_ tl th wo1_49 wl1_49 wh1_49 is1_49 lo1_49 hi1_49 di su an) := hD
  refine lv_aload_n hx hb dX8_instead_52 rfl (lv_at hl 1 rfl) ?_
  refine lv_iload hx hb dX8_instead_53 (lv_at hl 0 rfl) ?_
  refine lv_if_ne (tgt := 62) hx hb dX8_instead_55 (by decide) (fun c_55 => ?_) (fun c_55 => absurd c_55 (by decide))
  refine lv_iload hx hb dX8_instead_62 (lv_at hl 5 rfl) ?_
  refine g_callR (v0 := .int (gB (sp_X8_isPlace (nI p)))) (va_runS (As := [.int (nI p)]) (rest := [.ref h]) ⟨hx, hb, hml, hown, hts⟩ (c_X8_isPlace l D y H.size (nI p)) (va_cwS 1 hts gX8_instead_X8_isPlace rfl rfl rfl (by decide +kernel) ⟨Nat.le_of_ble_eq_true rfl, Nat.le_of_ble_eq_true rfl⟩) (gP_S hP hD hK [] (by decide) rfl) rfl rfl hl.1 rfl (lv_room (Nat.le_of_ble_eq_true rfl)) dX8_instead_64 ⟨Nat.zero_le _, Nat.zero_le _⟩) ?_
  refine g_bne (tgt := 74) hx hb dX8_instead_67 (by decide) (fun c_67 => ?_) (fun c_67 => absurd (g_isPl hp) c_67)
  refine lv_aload_n hx hb dX8_instead_74 rfl (lv_at hl 1 rfl) ?_
  refine va_get (D := D) (ci := 6) (v := .ref (q 19)) (C := RX8) (T := TX8) (N := 28) hx hb hts in_X8_instead_X8 hown hK.1 hP 0 rfl rfl 19 (by decide) (hts (.fieldLink RX8 63 "NestlimitModel" "would" "[Z") (List.mem_of_getElem? (i := 1) rfl)) (fun _ h9 => h9) rfl dX8_instead_75 ?_
  refine lv_iload_n hx hb dX8_instead_78 rfl (lv_at hl 2 rfl) ?_
  refine g_zald (k := k) hx hb hK.1 hP 18 2 rfl rfl (by omega) (by decide) dX8_instead_79 ?_
  refine g_beq (tgt := 87) hx hb dX8_instead_80 (by decide) (fun c_80 => absurd ((h49_0 k hk).1.trans hw) c_80) (fun c_80 => ?_)
  refine lv_iconst (v := 0) hx hb dX8_instead_83 (by decide) ?_
  refine lv_goto (tgt := 88) hx hb dX8_instead_84 (by decide) ?_
  refine g_callA1 (v0 := .int (gB (sp_X8_holds 0))) (w0 := wM y h q 0 pn ki on ot ab be zA zB zC zD zF zT fo lw hg at_ tl th wo1_49 wl1_49 wh1_49 is1_49 lo1_49 hi1_49 di su an) (va_runV (As := [.int 0]) (rest := []) ⟨hx, hb, hml, hown, hts⟩ (c_X8_holds l D y H.size h q tw pn ki on ot ab be zA zB zC zD zF zT fo lw hg at_ tl th wo1_49 wl1_49 wh1_49 is1_49 lo1_49 hi1_49 di su an 0) (cwV 1 hts gX8_instead_X8_holds rfl rfl rfl (by decide +kernel) ⟨Nat.le_of_ble_eq_true rfl, Nat.le_of_ble_eq_true rfl⟩) (gP_VA hP hD hK 0 rfl rfl) rfl rfl hl.1 rfl (lv_room (Nat.le_of_ble_eq_true rfl)) dX8_instead_88 ⟨Nat.zero_le _, Nat.zero_le _⟩) hP hD hS hA rfl (fun H locs hP hD hS => ?_)
  refine g_bne (tgt := 96) hx hb dX8_instead_91 (by decide) (fun c_91 => ?_) (fun c_91 => absurd (by decide) c_91)
  refine lv_iload hx hb dX8_instead_96 (lv_at hl 6 rfl) ?_
  refine g_beq (tgt := 110) hx hb dX8_instead_98 (by decide) (fun c_98 => ?_) (fun c_98 => ?_)
  · skip
    refine lv_aload_n hx hb dX8_instead_110 rfl (lv_at hl 1 rfl) ?_
    refine va_get (D := D) (ci := 6) (v := .ref (q 20)) (C := RX8) (T := TX8) (N := 28) hx hb hts in_X8_instead_X8 hown hK.1 hP 0 rfl rfl 20 (by decide) (hts (.fieldLink RX8 66 "NestlimitModel" "wouldLow" "[J") (List.mem_of_getElem? (i := 3) rfl)) (fun _ h9 => h9) rfl dX8_instead_111 ?_
    refine lv_iload_n hx hb dX8_instead_114 rfl (lv_at hl 2 rfl) ?_
    refine g_lald (k := k) hx hb hK.1 hP 19 1 rfl rfl (by omega) (by decide) dX8_instead_115 ?_
    exact W.lret (v := wl1_49 k) hx hb hr (fun t ht hW => ⟨⟨some (.long (wl1_49 k)), wM y h q 0 pn ki on ot ab be zA zB zC zD zF zT fo lw hg at_ tl th wo1_49 wl1_49 wh1_49 is1_49 lo1_49 hi1_49 di su an, rfl, ⟨wo1_49, wl1_49, wh1_49, is1_49, lo1_49, hi1_49, (by obtain ⟨z1, z2⟩ := (h49_0 k hk).2 hw; rw [z1]; simp only [gSel, if_neg c_98]), rfl⟩, rfl, by rw [ht]; exact hP⟩, by rw [← hAe]; exact hS.F ht⟩) (by rw [← hAe]; exact hS.2.2) dX8_instead_116
  · skip
    refine lv_aload_n hx hb dX8_instead_101 rfl (lv_at hl 1 rfl) ?_
    refine va_get (D := D) (ci := 6) (v := .ref (q 21)) (C := RX8) (T := TX8) (N := 28) hx hb hts in_X8_instead_X8 hown hK.1 hP 0 rfl rfl 21 (by decide) (hts (.fieldLink RX8 69 "NestlimitModel" "wouldHigh" "[J") (List.mem_of_getElem? (i := 2) rfl)) (fun _ h9 => h9) rfl dX8_instead_102 ?_
    refine lv_iload_n hx hb dX8_instead_105 rfl (lv_at hl 2 rfl) ?_
    refine g_lald (k := k) hx hb hK.1 hP 20 1 rfl rfl (by omega) (by decide) dX8_instead_106 ?_
    refine lv_goto (tgt := 116) hx hb dX8_instead_107 (by decide) ?_
    exact W.lret (v := wh1_49 k) hx hb hr (fun t ht hW => ⟨⟨some (.long (wh1_49 k)), wM y h q 0 pn ki on ot ab be zA zB zC zD zF zT fo lw hg at_ tl th wo1_49 wl1_49 wh1_49 is1_49 lo1_49 hi1_49 di su an, rfl, ⟨wo1_49, wl1_49, wh1_49, is1_49, lo1_49, hi1_49, (by obtain ⟨z1, z2⟩ := (h49_0 k hk).2 hw; rw [z2]; simp only [gSel, if_pos c_98]), rfl⟩, rfl, by rw [ht]; exact hP⟩, by rw [← hAe]; exact hS.F ht⟩) (by rw [← hAe]; exact hS.2.2) dX8_instead_116
