def unl (a b : Int32) : Bool := if 0 ≤ a then (if a ≤ 0 then false else if 0 ≤ b then false else true) else if 0 < b then true else if a ≤ 0 then false else if 0 ≤ b then false else true
set_option maxHeartbeats 4000000 in
set_option maxRecDepth 100000 in
theorem c_X8_zero_1 (l : Launch) (D : va_G) (y : Nat → ClassId) (sz : Nat) (h : Nat) (q : Nat → Nat) (tw : Int32) (pn : Nat) (ki on ot ab be zA zB zC zD zF zT : Nat → Int32) (fo : Nat → Bool) (lw hg : Nat → Int64) (at_ : Nat → Bool) (tl th : Nat → Int64) (wo : Nat → Bool) (wl wh : Nat → Int64) (is_ : Bool) (lo_ hi_ : Int64) (di : Nat → Int32) (su : Nat → Int64) (an : Nat → Bool) (a b c0 d0 f hv : Int32) (hbad : ¬ (sp_X8_in a (-9) 9 = true ∧ sp_X8_in b (-9) 9 = true ∧ sp_X8_in c0 (-9) 9 = true ∧ sp_X8_in d0 (-9) 9 = true ∧ sp_X8_in f (-4) 3 = true ∧ sp_X8_in hv 0 2 = true)) : Met l yX8_zero wsX8_zero ({ frames := 1, cells := 0, slots := 0, locals := 22 } : Room) (gP D y [.ref h, .int a, .int b, .int c0, .int d0, .int f, .int hv] (wM y h q tw pn ki on ot ab be zA zB zC zD zF zT fo lw hg at_ tl th wo wl wh is_ lo_ hi_ di su an) sz) (gQ D (wM y h q tw pn ki on ot ab be zA zB zC zD zF zT fo lw hg at_ tl th wo wl wh is_ lo_ hi_ di su an) (gF (some (.int 0)) (wM y h q 1 pn ki on ot ab be zA zB zC zD zF zT fo lw hg at_ tl th wo wl wh is_ lo_ hi_ di su an))) 0 0 (va_A (wM y h q tw pn ki on ot ab be zA zB zC zD zF zT fo lw hg at_ tl th wo wl wh is_ lo_ hi_ di su an) sz) := by
  refine Met.ofW (cc := cX8_zero) (maxL := 12) (ret := (some .int)) (by decide) rfl ?_
  intro pg e s m args below meth c s₁ B hml hv
  obtain ⟨rfl, hsz, hP, hK, hD0⟩ := hv
  have hx := B.exec
  have hb := B.bytes
  have hr := B.returns
  have hts := atoms_spec (ws := wsX8_zero) B.pre
  have hown : s.vm.findClass RX8 = some m.cls := findClass_of_methodNamed B.named
  have hlocks := B.notSynchronized
  subst hsz
  obtain ⟨A, hAe⟩ : ∃ A : Nat → Prop, A = va_A (wM y h q tw pn ki on ot ab be zA zB zC zD zF zT fo lw hg at_ tl th wo wl wh is_ lo_ hi_ di su an) s.heap.size := ⟨_, rfl⟩
  have hD : va_D A (wM y h q tw pn ki on ot ab be zA zB zC zD zF zT fo lw hg at_ tl th wo wl wh is_ lo_ hi_ di su an) := by rw [hAe]; exact hD0.self (sz := s.heap.size)
  have hA : ∀ q : Nat, s.heap.size ≤ q → A q := fun q h => by rw [hAe]; exact Or.inr h
  have hS : va_S A s.heap s.heap [] := va_S.rf
  have hl := lv_entry ([.ref h, .int a, .int b, .int c0, .int d0, .int f, .int hv]) (n := 12) (Nat.le_of_ble_eq_true rfl)
  rw [lg_entry_eq]
  generalize (lg_sl ([.ref h, .int a, .int b, .int c0, .int d0, .int f, .int hv]) ++ List.replicate (12 - (lg_sl ([.ref h, .int a, .int b, .int c0, .int d0, .int f, .int hv])).length) Slot.unset).toArray = ls at hl ⊢
  have hl : lv_has ls 12 [(0, .ref h), (1, .int a), (2, .int b), (3, .int c0), (4, .int d0), (5, .int f), (6, .int hv)] := hl
  refine lv_iload_n hx hb dX8_zero_0 rfl (lv_at hl 1 rfl) ?_
  refine lv_bipush (v := -9) hx hb dX8_zero_1 (by decide) ?_
  refine lv_bipush (v := 9) hx hb dX8_zero_3 (by decide) ?_
  refine g_callR (v0 := .int (gB (sp_X8_in a (-9) 9))) (va_runS (As := [.int a, .int (-9), .int 9]) (rest := []) ⟨hx, hb, hml, hown, hts⟩ (c_X8_in l D y s.heap.size a (-9) 9) (va_cwS 3 hts gX8_zero_X8_in rfl rfl rfl (by decide +kernel) ⟨Nat.le_of_ble_eq_true rfl, Nat.le_of_ble_eq_true rfl⟩) (gP_S hP hD hK [] (by decide) rfl) rfl rfl hl.1 rfl (lv_room (Nat.le_of_ble_eq_true rfl)) dX8_zero_5 ⟨Nat.zero_le _, Nat.zero_le _⟩) ?_
  refine g_beq (tgt := 70) hx hb dX8_zero_8 (by decide) (fun c_8 => ?_) (fun c_8 => ?_)
  · skip
    refine lv_iconst (v := 0) hx hb dX8_zero_70 (by decide) ?_
    refine lv_istore (lv' := [(7, .int 0), (0, .ref h), (1, .int a), (2, .int b), (3, .int c0), (4, .int d0), (5, .int f), (6, .int hv)]) hx hb dX8_zero_71 hl (by decide) rfl (fun ls hl => ?_)
    refine lv_iload hx hb dX8_zero_73 (lv_at hl 0 rfl) ?_
    refine lv_if_eq (tgt := 88) hx hb dX8_zero_75 (by decide) (fun c_75 => ?_) (fun c_75 => absurd c_75 (by decide))
    refine lv_iconst (v := 0) hx hb dX8_zero_88 (by decide) ?_
    refine lv_istore (lv' := [(8, .int 0), (7, .int 0), (0, .ref h), (1, .int a), (2, .int b), (3, .int c0), (4, .int d0), (5, .int f), (6, .int hv)]) hx hb dX8_zero_89 hl (by decide) rfl (fun ls hl => ?_)
    refine lv_iload hx hb dX8_zero_91 (lv_at hl 1 rfl) ?_
    refine lv_if_eq (tgt := 109) hx hb dX8_zero_93 (by decide) (fun c_93 => ?_) (fun c_93 => absurd c_93 (by decide))
    refine lv_iconst (v := 0) hx hb dX8_zero_109 (by decide) ?_
    refine lv_istore (lv' := [(9, .int 0), (8, .int 0), (7, .int 0), (0, .ref h), (1, .int a), (2, .int b), (3, .int c0), (4, .int d0), (5, .int f), (6, .int hv)]) hx hb dX8_zero_110 hl (by decide) rfl (fun ls hl => ?_)
    refine lv_iload hx hb dX8_zero_112 (lv_at hl 2 rfl) ?_
    refine lv_if_eq (tgt := 130) hx hb dX8_zero_114 (by decide) (fun c_114 => ?_) (fun c_114 => absurd c_114 (by decide))
    refine lv_iconst (v := 0) hx hb dX8_zero_130 (by decide) ?_
    refine lv_istore (lv' := [(10, .int 0), (9, .int 0), (8, .int 0), (7, .int 0), (0, .ref h), (1, .int a), (2, .int b), (3, .int c0), (4, .int d0), (5, .int f), (6, .int hv)]) hx hb dX8_zero_131 hl (by decide) rfl (fun ls hl => ?_)
    refine lv_iload hx hb dX8_zero_133 (lv_at hl 1 rfl) ?_
    refine lv_if_ge (tgt := 143) hx hb dX8_zero_135 (by decide) (fun c_135 => ?_) (fun c_135 => absurd c_135 (by decide))
    refine lv_iload hx hb dX8_zero_143 (lv_at hl 1 rfl) ?_
    refine lv_if_le (tgt := 157) hx hb dX8_zero_145 (by decide) (fun c_145 => ?_) (fun c_145 => absurd c_145 (by decide))
    refine lv_iconst (v := 0) hx hb dX8_zero_157 (by decide) ?_
    refine lv_istore (lv' := [(11, .int 0), (10, .int 0), (9, .int 0), (8, .int 0), (7, .int 0), (0, .ref h), (1, .int a), (2, .int b), (3, .int c0), (4, .int d0), (5, .int f), (6, .int hv)]) hx hb dX8_zero_158 hl (by decide) rfl (fun ls hl => ?_)
    refine lv_aload_n hx hb dX8_zero_160 rfl (lv_at hl 5 rfl) ?_
    refine lv_iload hx hb dX8_zero_161 (lv_at hl 4 rfl) ?_
    refine lv_if_ne (tgt := 170) hx hb dX8_zero_163 (by decide) (fun c_163 => absurd c_163 (by decide)) (fun c_163 => ?_)
    refine lv_iconst (v := 1) hx hb dX8_zero_166 (by decide) ?_
    refine lv_goto (tgt := 189) hx hb dX8_zero_167 (by decide) ?_
    refine g_callA1 (v0 := .int (gB (sp_X8_holds 1))) (w0 := wM y h q 1 pn ki on ot ab be zA zB zC zD zF zT fo lw hg at_ tl th wo wl wh is_ lo_ hi_ di su an) (va_runV (As := [.int 1]) (rest := []) ⟨hx, hb, hml, hown, hts⟩ (c_X8_holds l D y s.heap.size h q tw pn ki on ot ab be zA zB zC zD zF zT fo lw hg at_ tl th wo wl wh is_ lo_ hi_ di su an 1) (cwV 1 hts gX8_zero_X8_holds rfl rfl rfl (by decide +kernel) ⟨Nat.le_of_ble_eq_true rfl, Nat.le_of_ble_eq_true rfl⟩) (gP_VA hP hD hK 0 rfl rfl) rfl rfl hl.1 rfl (lv_room (Nat.le_of_ble_eq_true rfl)) dX8_zero_189 ⟨Nat.zero_le _, Nat.zero_le _⟩) hP hD hS hA rfl (fun H locs hP hD hS => ?_)
    refine g_bne (tgt := 197) hx hb dX8_zero_192 (by decide) (fun c_192 => absurd c_192 (by decide)) (fun c_192 => ?_)
    refine lv_iconst (v := 0) hx hb dX8_zero_195 (by decide) ?_
    exact W.iret (v := 0) hx hb hr (fun t ht hW => ⟨⟨_, wM y h q 1 pn ki on ot ab be zA zB zC zD zF zT fo lw hg at_ tl th wo wl wh is_ lo_ hi_ di su an, rfl, ⟨congrArg (fun z => some (Value.int z)) (rfl), rfl⟩, rfl, by rw [ht]; exact hP⟩, by rw [← hAe]; exact hS.F ht⟩) (by rw [← hAe]; exact hS.2.2) dX8_zero_196
  · skip
    refine lv_iload_n hx hb dX8_zero_11 rfl (lv_at hl 2 rfl) ?_
    refine lv_bipush (v := -9) hx hb dX8_zero_12 (by decide) ?_
    refine lv_bipush (v := 9) hx hb dX8_zero_14 (by decide) ?_
    refine g_callR (v0 := .int (gB (sp_X8_in b (-9) 9))) (va_runS (As := [.int b, .int (-9), .int 9]) (rest := []) ⟨hx, hb, hml, hown, hts⟩ (c_X8_in l D y s.heap.size b (-9) 9) (va_cwS 3 hts gX8_zero_X8_in rfl rfl rfl (by decide +kernel) ⟨Nat.le_of_ble_eq_true rfl, Nat.le_of_ble_eq_true rfl⟩) (gP_S hP hD hK [] (by decide) rfl) rfl rfl hl.1 rfl (lv_room (Nat.le_of_ble_eq_true rfl)) dX8_zero_16 ⟨Nat.zero_le _, Nat.zero_le _⟩) ?_
    refine g_beq (tgt := 70) hx hb dX8_zero_19 (by decide) (fun c_19 => ?_) (fun c_19 => ?_)
    · skip
      refine lv_iconst (v := 0) hx hb dX8_zero_70 (by decide) ?_
      refine lv_istore (lv' := [(7, .int 0), (0, .ref h), (1, .int a), (2, .int b), (3, .int c0), (4, .int d0), (5, .int f), (6, .int hv)]) hx hb dX8_zero_71 hl (by decide) rfl (fun ls hl => ?_)
      refine lv_iload hx hb dX8_zero_73 (lv_at hl 0 rfl) ?_
      refine lv_if_eq (tgt := 88) hx hb dX8_zero_75 (by decide) (fun c_75 => ?_) (fun c_75 => absurd c_75 (by decide))
      refine lv_iconst (v := 0) hx hb dX8_zero_88 (by decide) ?_
      refine lv_istore (lv' := [(8, .int 0), (7, .int 0), (0, .ref h), (1, .int a), (2, .int b), (3, .int c0), (4, .int d0), (5, .int f), (6, .int hv)]) hx hb dX8_zero_89 hl (by decide) rfl (fun ls hl => ?_)
      refine lv_iload hx hb dX8_zero_91 (lv_at hl 1 rfl) ?_
      refine lv_if_eq (tgt := 109) hx hb dX8_zero_93 (by decide) (fun c_93 => ?_) (fun c_93 => absurd c_93 (by decide))
      refine lv_iconst (v := 0) hx hb dX8_zero_109 (by decide) ?_
      refine lv_istore (lv' := [(9, .int 0), (8, .int 0), (7, .int 0), (0, .ref h), (1, .int a), (2, .int b), (3, .int c0), (4, .int d0), (5, .int f), (6, .int hv)]) hx hb dX8_zero_110 hl (by decide) rfl (fun ls hl => ?_)
      refine lv_iload hx hb dX8_zero_112 (lv_at hl 2 rfl) ?_
      refine lv_if_eq (tgt := 130) hx hb dX8_zero_114 (by decide) (fun c_114 => ?_) (fun c_114 => absurd c_114 (by decide))
      refine lv_iconst (v := 0) hx hb dX8_zero_130 (by decide) ?_
      refine lv_istore (lv' := [(10, .int 0), (9, .int 0), (8, .int 0), (7, .int 0), (0, .ref h), (1, .int a), (2, .int b), (3, .int c0), (4, .int d0), (5, .int f), (6, .int hv)]) hx hb dX8_zero_131 hl (by decide) rfl (fun ls hl => ?_)
      refine lv_iload hx hb dX8_zero_133 (lv_at hl 1 rfl) ?_
      refine lv_if_ge (tgt := 143) hx hb dX8_zero_135 (by decide) (fun c_135 => ?_) (fun c_135 => absurd c_135 (by decide))
      refine lv_iload hx hb dX8_zero_143 (lv_at hl 1 rfl) ?_
      refine lv_if_le (tgt := 157) hx hb dX8_zero_145 (by decide) (fun c_145 => ?_) (fun c_145 => absurd c_145 (by decide))
      refine lv_iconst (v := 0) hx hb dX8_zero_157 (by decide) ?_
      refine lv_istore (lv' := [(11, .int 0), (10, .int 0), (9, .int 0), (8, .int 0), (7, .int 0), (0, .ref h), (1, .int a), (2, .int b), (3, .int c0), (4, .int d0), (5, .int f), (6, .int hv)]) hx hb dX8_zero_158 hl (by decide) rfl (fun ls hl => ?_)
      refine lv_aload_n hx hb dX8_zero_160 rfl (lv_at hl 5 rfl) ?_
      refine lv_iload hx hb dX8_zero_161 (lv_at hl 4 rfl) ?_
      refine lv_if_ne (tgt := 170) hx hb dX8_zero_163 (by decide) (fun c_163 => absurd c_163 (by decide)) (fun c_163 => ?_)
      refine lv_iconst (v := 1) hx hb dX8_zero_166 (by decide) ?_
      refine lv_goto (tgt := 189) hx hb dX8_zero_167 (by decide) ?_
      refine g_callA1 (v0 := .int (gB (sp_X8_holds 1))) (w0 := wM y h q 1 pn ki on ot ab be zA zB zC zD zF zT fo lw hg at_ tl th wo wl wh is_ lo_ hi_ di su an) (va_runV (As := [.int 1]) (rest := []) ⟨hx, hb, hml, hown, hts⟩ (c_X8_holds l D y s.heap.size h q tw pn ki on ot ab be zA zB zC zD zF zT fo lw hg at_ tl th wo wl wh is_ lo_ hi_ di su an 1) (cwV 1 hts gX8_zero_X8_holds rfl rfl rfl (by decide +kernel) ⟨Nat.le_of_ble_eq_true rfl, Nat.le_of_ble_eq_true rfl⟩) (gP_VA hP hD hK 0 rfl rfl) rfl rfl hl.1 rfl (lv_room (Nat.le_of_ble_eq_true rfl)) dX8_zero_189 ⟨Nat.zero_le _, Nat.zero_le _⟩) hP hD hS hA rfl (fun H locs hP hD hS => ?_)
      refine g_bne (tgt := 197) hx hb dX8_zero_192 (by decide) (fun c_192 => absurd c_192 (by decide)) (fun c_192 => ?_)
      refine lv_iconst (v := 0) hx hb dX8_zero_195 (by decide) ?_
      exact W.iret (v := 0) hx hb hr (fun t ht hW => ⟨⟨_, wM y h q 1 pn ki on ot ab be zA zB zC zD zF zT fo lw hg at_ tl th wo wl wh is_ lo_ hi_ di su an, rfl, ⟨congrArg (fun z => some (Value.int z)) (rfl), rfl⟩, rfl, by rw [ht]; exact hP⟩, by rw [← hAe]; exact hS.F ht⟩) (by rw [← hAe]; exact hS.2.2) dX8_zero_196
    · skip
      refine lv_iload_n hx hb dX8_zero_22 rfl (lv_at hl 3 rfl) ?_
      refine lv_bipush (v := -9) hx hb dX8_zero_23 (by decide) ?_
      refine lv_bipush (v := 9) hx hb dX8_zero_25 (by decide) ?_
      refine g_callR (v0 := .int (gB (sp_X8_in c0 (-9) 9))) (va_runS (As := [.int c0, .int (-9), .int 9]) (rest := []) ⟨hx, hb, hml, hown, hts⟩ (c_X8_in l D y s.heap.size c0 (-9) 9) (va_cwS 3 hts gX8_zero_X8_in rfl rfl rfl (by decide +kernel) ⟨Nat.le_of_ble_eq_true rfl, Nat.le_of_ble_eq_true rfl⟩) (gP_S hP hD hK [] (by decide) rfl) rfl rfl hl.1 rfl (lv_room (Nat.le_of_ble_eq_true rfl)) dX8_zero_27 ⟨Nat.zero_le _, Nat.zero_le _⟩) ?_
      refine g_beq (tgt := 70) hx hb dX8_zero_30 (by decide) (fun c_30 => ?_) (fun c_30 => ?_)
      · skip
        refine lv_iconst (v := 0) hx hb dX8_zero_70 (by decide) ?_
        refine lv_istore (lv' := [(7, .int 0), (0, .ref h), (1, .int a), (2, .int b), (3, .int c0), (4, .int d0), (5, .int f), (6, .int hv)]) hx hb dX8_zero_71 hl (by decide) rfl (fun ls hl => ?_)
        refine lv_iload hx hb dX8_zero_73 (lv_at hl 0 rfl) ?_
        refine lv_if_eq (tgt := 88) hx hb dX8_zero_75 (by decide) (fun c_75 => ?_) (fun c_75 => absurd c_75 (by decide))
        refine lv_iconst (v := 0) hx hb dX8_zero_88 (by decide) ?_
        refine lv_istore (lv' := [(8, .int 0), (7, .int 0), (0, .ref h), (1, .int a), (2, .int b), (3, .int c0), (4, .int d0), (5, .int f), (6, .int hv)]) hx hb dX8_zero_89 hl (by decide) rfl (fun ls hl => ?_)
        refine lv_iload hx hb dX8_zero_91 (lv_at hl 1 rfl) ?_
        refine lv_if_eq (tgt := 109) hx hb dX8_zero_93 (by decide) (fun c_93 => ?_) (fun c_93 => absurd c_93 (by decide))
        refine lv_iconst (v := 0) hx hb dX8_zero_109 (by decide) ?_
        refine lv_istore (lv' := [(9, .int 0), (8, .int 0), (7, .int 0), (0, .ref h), (1, .int a), (2, .int b), (3, .int c0), (4, .int d0), (5, .int f), (6, .int hv)]) hx hb dX8_zero_110 hl (by decide) rfl (fun ls hl => ?_)
        refine lv_iload hx hb dX8_zero_112 (lv_at hl 2 rfl) ?_
        refine lv_if_eq (tgt := 130) hx hb dX8_zero_114 (by decide) (fun c_114 => ?_) (fun c_114 => absurd c_114 (by decide))
        refine lv_iconst (v := 0) hx hb dX8_zero_130 (by decide) ?_
        refine lv_istore (lv' := [(10, .int 0), (9, .int 0), (8, .int 0), (7, .int 0), (0, .ref h), (1, .int a), (2, .int b), (3, .int c0), (4, .int d0), (5, .int f), (6, .int hv)]) hx hb dX8_zero_131 hl (by decide) rfl (fun ls hl => ?_)
        refine lv_iload hx hb dX8_zero_133 (lv_at hl 1 rfl) ?_
        refine lv_if_ge (tgt := 143) hx hb dX8_zero_135 (by decide) (fun c_135 => ?_) (fun c_135 => absurd c_135 (by decide))
        refine lv_iload hx hb dX8_zero_143 (lv_at hl 1 rfl) ?_
        refine lv_if_le (tgt := 157) hx hb dX8_zero_145 (by decide) (fun c_145 => ?_) (fun c_145 => absurd c_145 (by decide))
        refine lv_iconst (v := 0) hx hb dX8_zero_157 (by decide) ?_
        refine lv_istore (lv' := [(11, .int 0), (10, .int 0), (9, .int 0), (8, .int 0), (7, .int 0), (0, .ref h), (1, .int a), (2, .int b), (3, .int c0), (4, .int d0), (5, .int f), (6, .int hv)]) hx hb dX8_zero_158 hl (by decide) rfl (fun ls hl => ?_)
        refine lv_aload_n hx hb dX8_zero_160 rfl (lv_at hl 5 rfl) ?_
        refine lv_iload hx hb dX8_zero_161 (lv_at hl 4 rfl) ?_
        refine lv_if_ne (tgt := 170) hx hb dX8_zero_163 (by decide) (fun c_163 => absurd c_163 (by decide)) (fun c_163 => ?_)
        refine lv_iconst (v := 1) hx hb dX8_zero_166 (by decide) ?_
        refine lv_goto (tgt := 189) hx hb dX8_zero_167 (by decide) ?_
        refine g_callA1 (v0 := .int (gB (sp_X8_holds 1))) (w0 := wM y h q 1 pn ki on ot ab be zA zB zC zD zF zT fo lw hg at_ tl th wo wl wh is_ lo_ hi_ di su an) (va_runV (As := [.int 1]) (rest := []) ⟨hx, hb, hml, hown, hts⟩ (c_X8_holds l D y s.heap.size h q tw pn ki on ot ab be zA zB zC zD zF zT fo lw hg at_ tl th wo wl wh is_ lo_ hi_ di su an 1) (cwV 1 hts gX8_zero_X8_holds rfl rfl rfl (by decide +kernel) ⟨Nat.le_of_ble_eq_true rfl, Nat.le_of_ble_eq_true rfl⟩) (gP_VA hP hD hK 0 rfl rfl) rfl rfl hl.1 rfl (lv_room (Nat.le_of_ble_eq_true rfl)) dX8_zero_189 ⟨Nat.zero_le _, Nat.zero_le _⟩) hP hD hS hA rfl (fun H locs hP hD hS => ?_)
        refine g_bne (tgt := 197) hx hb dX8_zero_192 (by decide) (fun c_192 => absurd c_192 (by decide)) (fun c_192 => ?_)
        refine lv_iconst (v := 0) hx hb dX8_zero_195 (by decide) ?_
        exact W.iret (v := 0) hx hb hr (fun t ht hW => ⟨⟨_, wM y h q 1 pn ki on ot ab be zA zB zC zD zF zT fo lw hg at_ tl th wo wl wh is_ lo_ hi_ di su an, rfl, ⟨congrArg (fun z => some (Value.int z)) (rfl), rfl⟩, rfl, by rw [ht]; exact hP⟩, by rw [← hAe]; exact hS.F ht⟩) (by rw [← hAe]; exact hS.2.2) dX8_zero_196
      · skip
        refine lv_iload hx hb dX8_zero_33 (lv_at hl 4 rfl) ?_
        refine lv_bipush (v := -9) hx hb dX8_zero_35 (by decide) ?_
        refine lv_bipush (v := 9) hx hb dX8_zero_37 (by decide) ?_
        refine g_callR (v0 := .int (gB (sp_X8_in d0 (-9) 9))) (va_runS (As := [.int d0, .int (-9), .int 9]) (rest := []) ⟨hx, hb, hml, hown, hts⟩ (c_X8_in l D y s.heap.size d0 (-9) 9) (va_cwS 3 hts gX8_zero_X8_in rfl rfl rfl (by decide +kernel) ⟨Nat.le_of_ble_eq_true rfl, Nat.le_of_ble_eq_true rfl⟩) (gP_S hP hD hK [] (by decide) rfl) rfl rfl hl.1 rfl (lv_room (Nat.le_of_ble_eq_true rfl)) dX8_zero_39 ⟨Nat.zero_le _, Nat.zero_le _⟩) ?_
        refine g_beq (tgt := 70) hx hb dX8_zero_42 (by decide) (fun c_42 => ?_) (fun c_42 => ?_)
        · skip
          refine lv_iconst (v := 0) hx hb dX8_zero_70 (by decide) ?_
          refine lv_istore (lv' := [(7, .int 0), (0, .ref h), (1, .int a), (2, .int b), (3, .int c0), (4, .int d0), (5, .int f), (6, .int hv)]) hx hb dX8_zero_71 hl (by decide) rfl (fun ls hl => ?_)
          refine lv_iload hx hb dX8_zero_73 (lv_at hl 0 rfl) ?_
          refine lv_if_eq (tgt := 88) hx hb dX8_zero_75 (by decide) (fun c_75 => ?_) (fun c_75 => absurd c_75 (by decide))
          refine lv_iconst (v := 0) hx hb dX8_zero_88 (by decide) ?_
          refine lv_istore (lv' := [(8, .int 0), (7, .int 0), (0, .ref h), (1, .int a), (2, .int b), (3, .int c0), (4, .int d0), (5, .int f), (6, .int hv)]) hx hb dX8_zero_89 hl (by decide) rfl (fun ls hl => ?_)
          refine lv_iload hx hb dX8_zero_91 (lv_at hl 1 rfl) ?_
          refine lv_if_eq (tgt := 109) hx hb dX8_zero_93 (by decide) (fun c_93 => ?_) (fun c_93 => absurd c_93 (by decide))
          refine lv_iconst (v := 0) hx hb dX8_zero_109 (by decide) ?_
          refine lv_istore (lv' := [(9, .int 0), (8, .int 0), (7, .int 0), (0, .ref h), (1, .int a), (2, .int b), (3, .int c0), (4, .int d0), (5, .int f), (6, .int hv)]) hx hb dX8_zero_110 hl (by decide) rfl (fun ls hl => ?_)
          refine lv_iload hx hb dX8_zero_112 (lv_at hl 2 rfl) ?_
          refine lv_if_eq (tgt := 130) hx hb dX8_zero_114 (by decide) (fun c_114 => ?_) (fun c_114 => absurd c_114 (by decide))
          refine lv_iconst (v := 0) hx hb dX8_zero_130 (by decide) ?_
          refine lv_istore (lv' := [(10, .int 0), (9, .int 0), (8, .int 0), (7, .int 0), (0, .ref h), (1, .int a), (2, .int b), (3, .int c0), (4, .int d0), (5, .int f), (6, .int hv)]) hx hb dX8_zero_131 hl (by decide) rfl (fun ls hl => ?_)
          refine lv_iload hx hb dX8_zero_133 (lv_at hl 1 rfl) ?_
          refine lv_if_ge (tgt := 143) hx hb dX8_zero_135 (by decide) (fun c_135 => ?_) (fun c_135 => absurd c_135 (by decide))
          refine lv_iload hx hb dX8_zero_143 (lv_at hl 1 rfl) ?_
          refine lv_if_le (tgt := 157) hx hb dX8_zero_145 (by decide) (fun c_145 => ?_) (fun c_145 => absurd c_145 (by decide))
          refine lv_iconst (v := 0) hx hb dX8_zero_157 (by decide) ?_
          refine lv_istore (lv' := [(11, .int 0), (10, .int 0), (9, .int 0), (8, .int 0), (7, .int 0), (0, .ref h), (1, .int a), (2, .int b), (3, .int c0), (4, .int d0), (5, .int f), (6, .int hv)]) hx hb dX8_zero_158 hl (by decide) rfl (fun ls hl => ?_)
          refine lv_aload_n hx hb dX8_zero_160 rfl (lv_at hl 5 rfl) ?_
          refine lv_iload hx hb dX8_zero_161 (lv_at hl 4 rfl) ?_
          refine lv_if_ne (tgt := 170) hx hb dX8_zero_163 (by decide) (fun c_163 => absurd c_163 (by decide)) (fun c_163 => ?_)
          refine lv_iconst (v := 1) hx hb dX8_zero_166 (by decide) ?_
          refine lv_goto (tgt := 189) hx hb dX8_zero_167 (by decide) ?_
          refine g_callA1 (v0 := .int (gB (sp_X8_holds 1))) (w0 := wM y h q 1 pn ki on ot ab be zA zB zC zD zF zT fo lw hg at_ tl th wo wl wh is_ lo_ hi_ di su an) (va_runV (As := [.int 1]) (rest := []) ⟨hx, hb, hml, hown, hts⟩ (c_X8_holds l D y s.heap.size h q tw pn ki on ot ab be zA zB zC zD zF zT fo lw hg at_ tl th wo wl wh is_ lo_ hi_ di su an 1) (cwV 1 hts gX8_zero_X8_holds rfl rfl rfl (by decide +kernel) ⟨Nat.le_of_ble_eq_true rfl, Nat.le_of_ble_eq_true rfl⟩) (gP_VA hP hD hK 0 rfl rfl) rfl rfl hl.1 rfl (lv_room (Nat.le_of_ble_eq_true rfl)) dX8_zero_189 ⟨Nat.zero_le _, Nat.zero_le _⟩) hP hD hS hA rfl (fun H locs hP hD hS => ?_)
          refine g_bne (tgt := 197) hx hb dX8_zero_192 (by decide) (fun c_192 => absurd c_192 (by decide)) (fun c_192 => ?_)
          refine lv_iconst (v := 0) hx hb dX8_zero_195 (by decide) ?_
          exact W.iret (v := 0) hx hb hr (fun t ht hW => ⟨⟨_, wM y h q 1 pn ki on ot ab be zA zB zC zD zF zT fo lw hg at_ tl th wo wl wh is_ lo_ hi_ di su an, rfl, ⟨congrArg (fun z => some (Value.int z)) (rfl), rfl⟩, rfl, by rw [ht]; exact hP⟩, by rw [← hAe]; exact hS.F ht⟩) (by rw [← hAe]; exact hS.2.2) dX8_zero_196
        · skip
          refine lv_iload hx hb dX8_zero_45 (lv_at hl 5 rfl) ?_
          refine lv_bipush (v := -4) hx hb dX8_zero_47 (by decide) ?_
          refine lv_iconst (v := 3) hx hb dX8_zero_49 (by decide) ?_
          refine g_callR (v0 := .int (gB (sp_X8_in f (-4) 3))) (va_runS (As := [.int f, .int (-4), .int 3]) (rest := []) ⟨hx, hb, hml, hown, hts⟩ (c_X8_in l D y s.heap.size f (-4) 3) (va_cwS 3 hts gX8_zero_X8_in rfl rfl rfl (by decide +kernel) ⟨Nat.le_of_ble_eq_true rfl, Nat.le_of_ble_eq_true rfl⟩) (gP_S hP hD hK [] (by decide) rfl) rfl rfl hl.1 rfl (lv_room (Nat.le_of_ble_eq_true rfl)) dX8_zero_50 ⟨Nat.zero_le _, Nat.zero_le _⟩) ?_
          refine g_beq (tgt := 70) hx hb dX8_zero_53 (by decide) (fun c_53 => ?_) (fun c_53 => ?_)
          · skip
            refine lv_iconst (v := 0) hx hb dX8_zero_70 (by decide) ?_
            refine lv_istore (lv' := [(7, .int 0), (0, .ref h), (1, .int a), (2, .int b), (3, .int c0), (4, .int d0), (5, .int f), (6, .int hv)]) hx hb dX8_zero_71 hl (by decide) rfl (fun ls hl => ?_)
            refine lv_iload hx hb dX8_zero_73 (lv_at hl 0 rfl) ?_
            refine lv_if_eq (tgt := 88) hx hb dX8_zero_75 (by decide) (fun c_75 => ?_) (fun c_75 => absurd c_75 (by decide))
            refine lv_iconst (v := 0) hx hb dX8_zero_88 (by decide) ?_
            refine lv_istore (lv' := [(8, .int 0), (7, .int 0), (0, .ref h), (1, .int a), (2, .int b), (3, .int c0), (4, .int d0), (5, .int f), (6, .int hv)]) hx hb dX8_zero_89 hl (by decide) rfl (fun ls hl => ?_)
            refine lv_iload hx hb dX8_zero_91 (lv_at hl 1 rfl) ?_
            refine lv_if_eq (tgt := 109) hx hb dX8_zero_93 (by decide) (fun c_93 => ?_) (fun c_93 => absurd c_93 (by decide))
            refine lv_iconst (v := 0) hx hb dX8_zero_109 (by decide) ?_
            refine lv_istore (lv' := [(9, .int 0), (8, .int 0), (7, .int 0), (0, .ref h), (1, .int a), (2, .int b), (3, .int c0), (4, .int d0), (5, .int f), (6, .int hv)]) hx hb dX8_zero_110 hl (by decide) rfl (fun ls hl => ?_)
            refine lv_iload hx hb dX8_zero_112 (lv_at hl 2 rfl) ?_
            refine lv_if_eq (tgt := 130) hx hb dX8_zero_114 (by decide) (fun c_114 => ?_) (fun c_114 => absurd c_114 (by decide))
            refine lv_iconst (v := 0) hx hb dX8_zero_130 (by decide) ?_
            refine lv_istore (lv' := [(10, .int 0), (9, .int 0), (8, .int 0), (7, .int 0), (0, .ref h), (1, .int a), (2, .int b), (3, .int c0), (4, .int d0), (5, .int f), (6, .int hv)]) hx hb dX8_zero_131 hl (by decide) rfl (fun ls hl => ?_)
            refine lv_iload hx hb dX8_zero_133 (lv_at hl 1 rfl) ?_
            refine lv_if_ge (tgt := 143) hx hb dX8_zero_135 (by decide) (fun c_135 => ?_) (fun c_135 => absurd c_135 (by decide))
            refine lv_iload hx hb dX8_zero_143 (lv_at hl 1 rfl) ?_
            refine lv_if_le (tgt := 157) hx hb dX8_zero_145 (by decide) (fun c_145 => ?_) (fun c_145 => absurd c_145 (by decide))
            refine lv_iconst (v := 0) hx hb dX8_zero_157 (by decide) ?_
            refine lv_istore (lv' := [(11, .int 0), (10, .int 0), (9, .int 0), (8, .int 0), (7, .int 0), (0, .ref h), (1, .int a), (2, .int b), (3, .int c0), (4, .int d0), (5, .int f), (6, .int hv)]) hx hb dX8_zero_158 hl (by decide) rfl (fun ls hl => ?_)
            refine lv_aload_n hx hb dX8_zero_160 rfl (lv_at hl 5 rfl) ?_
            refine lv_iload hx hb dX8_zero_161 (lv_at hl 4 rfl) ?_
            refine lv_if_ne (tgt := 170) hx hb dX8_zero_163 (by decide) (fun c_163 => absurd c_163 (by decide)) (fun c_163 => ?_)
            refine lv_iconst (v := 1) hx hb dX8_zero_166 (by decide) ?_
            refine lv_goto (tgt := 189) hx hb dX8_zero_167 (by decide) ?_
            refine g_callA1 (v0 := .int (gB (sp_X8_holds 1))) (w0 := wM y h q 1 pn ki on ot ab be zA zB zC zD zF zT fo lw hg at_ tl th wo wl wh is_ lo_ hi_ di su an) (va_runV (As := [.int 1]) (rest := []) ⟨hx, hb, hml, hown, hts⟩ (c_X8_holds l D y s.heap.size h q tw pn ki on ot ab be zA zB zC zD zF zT fo lw hg at_ tl th wo wl wh is_ lo_ hi_ di su an 1) (cwV 1 hts gX8_zero_X8_holds rfl rfl rfl (by decide +kernel) ⟨Nat.le_of_ble_eq_true rfl, Nat.le_of_ble_eq_true rfl⟩) (gP_VA hP hD hK 0 rfl rfl) rfl rfl hl.1 rfl (lv_room (Nat.le_of_ble_eq_true rfl)) dX8_zero_189 ⟨Nat.zero_le _, Nat.zero_le _⟩) hP hD hS hA rfl (fun H locs hP hD hS => ?_)
            refine g_bne (tgt := 197) hx hb dX8_zero_192 (by decide) (fun c_192 => absurd c_192 (by decide)) (fun c_192 => ?_)
            refine lv_iconst (v := 0) hx hb dX8_zero_195 (by decide) ?_
            exact W.iret (v := 0) hx hb hr (fun t ht hW => ⟨⟨_, wM y h q 1 pn ki on ot ab be zA zB zC zD zF zT fo lw hg at_ tl th wo wl wh is_ lo_ hi_ di su an, rfl, ⟨congrArg (fun z => some (Value.int z)) (rfl), rfl⟩, rfl, by rw [ht]; exact hP⟩, by rw [← hAe]; exact hS.F ht⟩) (by rw [← hAe]; exact hS.2.2) dX8_zero_196
          · skip
            refine lv_iload hx hb dX8_zero_56 (lv_at hl 6 rfl) ?_
            refine lv_iconst (v := 0) hx hb dX8_zero_58 (by decide) ?_
            refine lv_iconst (v := 2) hx hb dX8_zero_59 (by decide) ?_
            refine g_callR (v0 := .int (gB (sp_X8_in hv 0 2))) (va_runS (As := [.int hv, .int 0, .int 2]) (rest := []) ⟨hx, hb, hml, hown, hts⟩ (c_X8_in l D y s.heap.size hv 0 2) (va_cwS 3 hts gX8_zero_X8_in rfl rfl rfl (by decide +kernel) ⟨Nat.le_of_ble_eq_true rfl, Nat.le_of_ble_eq_true rfl⟩) (gP_S hP hD hK [] (by decide) rfl) rfl rfl hl.1 rfl (lv_room (Nat.le_of_ble_eq_true rfl)) dX8_zero_60 ⟨Nat.zero_le _, Nat.zero_le _⟩) ?_
            refine g_beq (tgt := 70) hx hb dX8_zero_63 (by decide) (fun c_63 => ?_) (fun c_63 => absurd ⟨c_8, c_19, c_30, c_42, c_53, c_63⟩ hbad)
            refine lv_iconst (v := 0) hx hb dX8_zero_70 (by decide) ?_
            refine lv_istore (lv' := [(7, .int 0), (0, .ref h), (1, .int a), (2, .int b), (3, .int c0), (4, .int d0), (5, .int f), (6, .int hv)]) hx hb dX8_zero_71 hl (by decide) rfl (fun ls hl => ?_)
            refine lv_iload hx hb dX8_zero_73 (lv_at hl 0 rfl) ?_
            refine lv_if_eq (tgt := 88) hx hb dX8_zero_75 (by decide) (fun c_75 => ?_) (fun c_75 => absurd c_75 (by decide))
            refine lv_iconst (v := 0) hx hb dX8_zero_88 (by decide) ?_
            refine lv_istore (lv' := [(8, .int 0), (7, .int 0), (0, .ref h), (1, .int a), (2, .int b), (3, .int c0), (4, .int d0), (5, .int f), (6, .int hv)]) hx hb dX8_zero_89 hl (by decide) rfl (fun ls hl => ?_)
            refine lv_iload hx hb dX8_zero_91 (lv_at hl 1 rfl) ?_
            refine lv_if_eq (tgt := 109) hx hb dX8_zero_93 (by decide) (fun c_93 => ?_) (fun c_93 => absurd c_93 (by decide))
            refine lv_iconst (v := 0) hx hb dX8_zero_109 (by decide) ?_
            refine lv_istore (lv' := [(9, .int 0), (8, .int 0), (7, .int 0), (0, .ref h), (1, .int a), (2, .int b), (3, .int c0), (4, .int d0), (5, .int f), (6, .int hv)]) hx hb dX8_zero_110 hl (by decide) rfl (fun ls hl => ?_)
            refine lv_iload hx hb dX8_zero_112 (lv_at hl 2 rfl) ?_
            refine lv_if_eq (tgt := 130) hx hb dX8_zero_114 (by decide) (fun c_114 => ?_) (fun c_114 => absurd c_114 (by decide))
            refine lv_iconst (v := 0) hx hb dX8_zero_130 (by decide) ?_
            refine lv_istore (lv' := [(10, .int 0), (9, .int 0), (8, .int 0), (7, .int 0), (0, .ref h), (1, .int a), (2, .int b), (3, .int c0), (4, .int d0), (5, .int f), (6, .int hv)]) hx hb dX8_zero_131 hl (by decide) rfl (fun ls hl => ?_)
            refine lv_iload hx hb dX8_zero_133 (lv_at hl 1 rfl) ?_
            refine lv_if_ge (tgt := 143) hx hb dX8_zero_135 (by decide) (fun c_135 => ?_) (fun c_135 => absurd c_135 (by decide))
            refine lv_iload hx hb dX8_zero_143 (lv_at hl 1 rfl) ?_
            refine lv_if_le (tgt := 157) hx hb dX8_zero_145 (by decide) (fun c_145 => ?_) (fun c_145 => absurd c_145 (by decide))
            refine lv_iconst (v := 0) hx hb dX8_zero_157 (by decide) ?_
            refine lv_istore (lv' := [(11, .int 0), (10, .int 0), (9, .int 0), (8, .int 0), (7, .int 0), (0, .ref h), (1, .int a), (2, .int b), (3, .int c0), (4, .int d0), (5, .int f), (6, .int hv)]) hx hb dX8_zero_158 hl (by decide) rfl (fun ls hl => ?_)
            refine lv_aload_n hx hb dX8_zero_160 rfl (lv_at hl 5 rfl) ?_
            refine lv_iload hx hb dX8_zero_161 (lv_at hl 4 rfl) ?_
            refine lv_if_ne (tgt := 170) hx hb dX8_zero_163 (by decide) (fun c_163 => absurd c_163 (by decide)) (fun c_163 => ?_)
            refine lv_iconst (v := 1) hx hb dX8_zero_166 (by decide) ?_
            refine lv_goto (tgt := 189) hx hb dX8_zero_167 (by decide) ?_
            refine g_callA1 (v0 := .int (gB (sp_X8_holds 1))) (w0 := wM y h q 1 pn ki on ot ab be zA zB zC zD zF zT fo lw hg at_ tl th wo wl wh is_ lo_ hi_ di su an) (va_runV (As := [.int 1]) (rest := []) ⟨hx, hb, hml, hown, hts⟩ (c_X8_holds l D y s.heap.size h q tw pn ki on ot ab be zA zB zC zD zF zT fo lw hg at_ tl th wo wl wh is_ lo_ hi_ di su an 1) (cwV 1 hts gX8_zero_X8_holds rfl rfl rfl (by decide +kernel) ⟨Nat.le_of_ble_eq_true rfl, Nat.le_of_ble_eq_true rfl⟩) (gP_VA hP hD hK 0 rfl rfl) rfl rfl hl.1 rfl (lv_room (Nat.le_of_ble_eq_true rfl)) dX8_zero_189 ⟨Nat.zero_le _, Nat.zero_le _⟩) hP hD hS hA rfl (fun H locs hP hD hS => ?_)
            refine g_bne (tgt := 197) hx hb dX8_zero_192 (by decide) (fun c_192 => absurd c_192 (by decide)) (fun c_192 => ?_)
            refine lv_iconst (v := 0) hx hb dX8_zero_195 (by decide) ?_
            exact W.iret (v := 0) hx hb hr (fun t ht hW => ⟨⟨_, wM y h q 1 pn ki on ot ab be zA zB zC zD zF zT fo lw hg at_ tl th wo wl wh is_ lo_ hi_ di su an, rfl, ⟨congrArg (fun z => some (Value.int z)) (rfl), rfl⟩, rfl, by rw [ht]; exact hP⟩, by rw [← hAe]; exact hS.F ht⟩) (by rw [← hAe]; exact hS.2.2) dX8_zero_196
set_option maxHeartbeats 4000000 in
set_option maxRecDepth 100000 in
theorem c_X8_zero_2a (l : Launch) (D : va_G) (y : Nat → ClassId) (sz : Nat) (h : Nat) (q : Nat → Nat) (tw : Int32) (pn : Nat) (ki on ot ab be zA zB zC zD zF zT : Nat → Int32) (fo : Nat → Bool) (lw hg : Nat → Int64) (at_ : Nat → Bool) (tl th : Nat → Int64) (wo : Nat → Bool) (wl wh : Nat → Int64) (is_ : Bool) (lo_ hi_ : Int64) (di : Nat → Int32) (su : Nat → Int64) (an : Nat → Bool) (a b c0 d0 f hv : Int32) (hz0 : sp_X8_in a (-9) 9 = true) (hz1 : sp_X8_in b (-9) 9 = true) (hz2 : sp_X8_in c0 (-9) 9 = true) (hz3 : sp_X8_in d0 (-9) 9 = true) (hz4 : sp_X8_in f (-4) 3 = true) (hz5 : sp_X8_in hv 0 2 = true) (hun : ¬ unl (sp_X8_plain a b c0 d0 f) (sp_X8_plain a b c0 d0 (f + (1 <<< (hv &&& 31)))) = true) : Met l yX8_zero wsX8_zero ({ frames := 1, cells := 0, slots := 0, locals := 24 } : Room) (gP D y [.ref h, .int a, .int b, .int c0, .int d0, .int f, .int hv] (wM y h q tw pn ki on ot ab be zA zB zC zD zF zT fo lw hg at_ tl th wo wl wh is_ lo_ hi_ di su an) sz) (gQ D (wM y h q tw pn ki on ot ab be zA zB zC zD zF zT fo lw hg at_ tl th wo wl wh is_ lo_ hi_ di su an) (gF (some (.int 0)) (wM y h q 2 pn ki on ot ab be zA zB zC zD zF zT fo lw hg at_ tl th wo wl wh is_ lo_ hi_ di su an))) 0 0 (va_A (wM y h q tw pn ki on ot ab be zA zB zC zD zF zT fo lw hg at_ tl th wo wl wh is_ lo_ hi_ di su an) sz) := by
  refine Met.ofW (cc := cX8_zero) (maxL := 12) (ret := (some .int)) (by decide) rfl ?_
  intro pg e s m args below meth c s₁ B hml hv
  obtain ⟨rfl, hsz, hP, hK, hD0⟩ := hv
  have hx := B.exec
  have hb := B.bytes
  have hr := B.returns
  have hts := atoms_spec (ws := wsX8_zero) B.pre
  have hown : s.vm.findClass RX8 = some m.cls := findClass_of_methodNamed B.named
  have hlocks := B.notSynchronized
  subst hsz
  obtain ⟨A, hAe⟩ : ∃ A : Nat → Prop, A = va_A (wM y h q tw pn ki on ot ab be zA zB zC zD zF zT fo lw hg at_ tl th wo wl wh is_ lo_ hi_ di su an) s.heap.size := ⟨_, rfl⟩
  have hD : va_D A (wM y h q tw pn ki on ot ab be zA zB zC zD zF zT fo lw hg at_ tl th wo wl wh is_ lo_ hi_ di su an) := by rw [hAe]; exact hD0.self (sz := s.heap.size)
  have hA : ∀ q : Nat, s.heap.size ≤ q → A q := fun q h => by rw [hAe]; exact Or.inr h
  have hS : va_S A s.heap s.heap [] := va_S.rf
  have hl := lv_entry ([.ref h, .int a, .int b, .int c0, .int d0, .int f, .int hv]) (n := 12) (Nat.le_of_ble_eq_true rfl)
  rw [lg_entry_eq]
  generalize (lg_sl ([.ref h, .int a, .int b, .int c0, .int d0, .int f, .int hv]) ++ List.replicate (12 - (lg_sl ([.ref h, .int a, .int b, .int c0, .int d0, .int f, .int hv])).length) Slot.unset).toArray = ls at hl ⊢
  have hl : lv_has ls 12 [(0, .ref h), (1, .int a), (2, .int b), (3, .int c0), (4, .int d0), (5, .int f), (6, .int hv)] := hl
  refine lv_iload_n hx hb dX8_zero_0 rfl (lv_at hl 1 rfl) ?_
  refine lv_bipush (v := -9) hx hb dX8_zero_1 (by decide) ?_
  refine lv_bipush (v := 9) hx hb dX8_zero_3 (by decide) ?_
  refine g_callR (v0 := .int (gB (sp_X8_in a (-9) 9))) (va_runS (As := [.int a, .int (-9), .int 9]) (rest := []) ⟨hx, hb, hml, hown, hts⟩ (c_X8_in l D y s.heap.size a (-9) 9) (va_cwS 3 hts gX8_zero_X8_in rfl rfl rfl (by decide +kernel) ⟨Nat.le_of_ble_eq_true rfl, Nat.le_of_ble_eq_true rfl⟩) (gP_S hP hD hK [] (by decide) rfl) rfl rfl hl.1 rfl (lv_room (Nat.le_of_ble_eq_true rfl)) dX8_zero_5 ⟨Nat.zero_le _, Nat.zero_le _⟩) ?_
  refine g_beq (tgt := 70) hx hb dX8_zero_8 (by decide) (fun c_8 => absurd hz0 c_8) (fun c_8 => ?_)
  refine lv_iload_n hx hb dX8_zero_11 rfl (lv_at hl 2 rfl) ?_
  refine lv_bipush (v := -9) hx hb dX8_zero_12 (by decide) ?_
  refine lv_bipush (v := 9) hx hb dX8_zero_14 (by decide) ?_
  refine g_callR (v0 := .int (gB (sp_X8_in b (-9) 9))) (va_runS (As := [.int b, .int (-9), .int 9]) (rest := []) ⟨hx, hb, hml, hown, hts⟩ (c_X8_in l D y s.heap.size b (-9) 9) (va_cwS 3 hts gX8_zero_X8_in rfl rfl rfl (by decide +kernel) ⟨Nat.le_of_ble_eq_true rfl, Nat.le_of_ble_eq_true rfl⟩) (gP_S hP hD hK [] (by decide) rfl) rfl rfl hl.1 rfl (lv_room (Nat.le_of_ble_eq_true rfl)) dX8_zero_16 ⟨Nat.zero_le _, Nat.zero_le _⟩) ?_
  refine g_beq (tgt := 70) hx hb dX8_zero_19 (by decide) (fun c_19 => absurd hz1 c_19) (fun c_19 => ?_)
  refine lv_iload_n hx hb dX8_zero_22 rfl (lv_at hl 3 rfl) ?_
  refine lv_bipush (v := -9) hx hb dX8_zero_23 (by decide) ?_
  refine lv_bipush (v := 9) hx hb dX8_zero_25 (by decide) ?_
  refine g_callR (v0 := .int (gB (sp_X8_in c0 (-9) 9))) (va_runS (As := [.int c0, .int (-9), .int 9]) (rest := []) ⟨hx, hb, hml, hown, hts⟩ (c_X8_in l D y s.heap.size c0 (-9) 9) (va_cwS 3 hts gX8_zero_X8_in rfl rfl rfl (by decide +kernel) ⟨Nat.le_of_ble_eq_true rfl, Nat.le_of_ble_eq_true rfl⟩) (gP_S hP hD hK [] (by decide) rfl) rfl rfl hl.1 rfl (lv_room (Nat.le_of_ble_eq_true rfl)) dX8_zero_27 ⟨Nat.zero_le _, Nat.zero_le _⟩) ?_
  refine g_beq (tgt := 70) hx hb dX8_zero_30 (by decide) (fun c_30 => absurd hz2 c_30) (fun c_30 => ?_)
  refine lv_iload hx hb dX8_zero_33 (lv_at hl 4 rfl) ?_
  refine lv_bipush (v := -9) hx hb dX8_zero_35 (by decide) ?_
  refine lv_bipush (v := 9) hx hb dX8_zero_37 (by decide) ?_
  refine g_callR (v0 := .int (gB (sp_X8_in d0 (-9) 9))) (va_runS (As := [.int d0, .int (-9), .int 9]) (rest := []) ⟨hx, hb, hml, hown, hts⟩ (c_X8_in l D y s.heap.size d0 (-9) 9) (va_cwS 3 hts gX8_zero_X8_in rfl rfl rfl (by decide +kernel) ⟨Nat.le_of_ble_eq_true rfl, Nat.le_of_ble_eq_true rfl⟩) (gP_S hP hD hK [] (by decide) rfl) rfl rfl hl.1 rfl (lv_room (Nat.le_of_ble_eq_true rfl)) dX8_zero_39 ⟨Nat.zero_le _, Nat.zero_le _⟩) ?_
  refine g_beq (tgt := 70) hx hb dX8_zero_42 (by decide) (fun c_42 => absurd hz3 c_42) (fun c_42 => ?_)
  refine lv_iload hx hb dX8_zero_45 (lv_at hl 5 rfl) ?_
  refine lv_bipush (v := -4) hx hb dX8_zero_47 (by decide) ?_
  refine lv_iconst (v := 3) hx hb dX8_zero_49 (by decide) ?_
  refine g_callR (v0 := .int (gB (sp_X8_in f (-4) 3))) (va_runS (As := [.int f, .int (-4), .int 3]) (rest := []) ⟨hx, hb, hml, hown, hts⟩ (c_X8_in l D y s.heap.size f (-4) 3) (va_cwS 3 hts gX8_zero_X8_in rfl rfl rfl (by decide +kernel) ⟨Nat.le_of_ble_eq_true rfl, Nat.le_of_ble_eq_true rfl⟩) (gP_S hP hD hK [] (by decide) rfl) rfl rfl hl.1 rfl (lv_room (Nat.le_of_ble_eq_true rfl)) dX8_zero_50 ⟨Nat.zero_le _, Nat.zero_le _⟩) ?_
  refine g_beq (tgt := 70) hx hb dX8_zero_53 (by decide) (fun c_53 => absurd hz4 c_53) (fun c_53 => ?_)
  refine lv_iload hx hb dX8_zero_56 (lv_at hl 6 rfl) ?_
  refine lv_iconst (v := 0) hx hb dX8_zero_58 (by decide) ?_
  refine lv_iconst (v := 2) hx hb dX8_zero_59 (by decide) ?_
  refine g_callR (v0 := .int (gB (sp_X8_in hv 0 2))) (va_runS (As := [.int hv, .int 0, .int 2]) (rest := []) ⟨hx, hb, hml, hown, hts⟩ (c_X8_in l D y s.heap.size hv 0 2) (va_cwS 3 hts gX8_zero_X8_in rfl rfl rfl (by decide +kernel) ⟨Nat.le_of_ble_eq_true rfl, Nat.le_of_ble_eq_true rfl⟩) (gP_S hP hD hK [] (by decide) rfl) rfl rfl hl.1 rfl (lv_room (Nat.le_of_ble_eq_true rfl)) dX8_zero_60 ⟨Nat.zero_le _, Nat.zero_le _⟩) ?_
  refine g_beq (tgt := 70) hx hb dX8_zero_63 (by decide) (fun c_63 => absurd hz5 c_63) (fun c_63 => ?_)
  refine lv_iconst (v := 1) hx hb dX8_zero_66 (by decide) ?_
  refine lv_goto (tgt := 71) hx hb dX8_zero_67 (by decide) ?_
  refine lv_istore (lv' := [(7, .int 1), (0, .ref h), (1, .int a), (2, .int b), (3, .int c0), (4, .int d0), (5, .int f), (6, .int hv)]) hx hb dX8_zero_71 hl (by decide) rfl (fun ls hl => ?_)
  refine lv_iload hx hb dX8_zero_73 (lv_at hl 0 rfl) ?_
  refine lv_if_eq (tgt := 88) hx hb dX8_zero_75 (by decide) (fun c_75 => absurd c_75 (by decide)) (fun c_75 => ?_)
  refine lv_iload hx hb dX8_zero_78 (lv_at hl 6 rfl) ?_
  refine lv_iconst (v := 1) hx hb dX8_zero_80 (by decide) ?_
  refine lv_iload hx hb dX8_zero_81 (lv_at hl 7 rfl) ?_
  refine lv_ishl hx hb dX8_zero_83 ?_
  refine lv_iadd hx hb dX8_zero_84 ?_
  refine lv_goto (tgt := 89) hx hb dX8_zero_85 (by decide) ?_
  refine lv_istore (lv' := [(8, .int (f + (1 <<< (hv &&& 31)))), (7, .int 1), (0, .ref h), (1, .int a), (2, .int b), (3, .int c0), (4, .int d0), (5, .int f), (6, .int hv)]) hx hb dX8_zero_89 hl (by decide) rfl (fun ls hl => ?_)
  refine lv_iload hx hb dX8_zero_91 (lv_at hl 1 rfl) ?_
  refine lv_if_eq (tgt := 109) hx hb dX8_zero_93 (by decide) (fun c_93 => absurd c_93 (by decide)) (fun c_93 => ?_)
  refine lv_iload_n hx hb dX8_zero_96 rfl (lv_at hl 3 rfl) ?_
  refine lv_iload_n hx hb dX8_zero_97 rfl (lv_at hl 4 rfl) ?_
  refine lv_iload_n hx hb dX8_zero_98 rfl (lv_at hl 5 rfl) ?_
  refine lv_iload hx hb dX8_zero_99 (lv_at hl 6 rfl) ?_
  refine lv_iload hx hb dX8_zero_101 (lv_at hl 7 rfl) ?_
  refine g_callR (v0 := .int (sp_X8_plain a b c0 d0 f)) (va_runS (As := [.int a, .int b, .int c0, .int d0, .int f]) (rest := []) ⟨hx, hb, hml, hown, hts⟩ (c_X8_plain l D y s.heap.size a b c0 d0 f) (va_cwS 5 hts gX8_zero_X8_plain rfl rfl rfl (by decide +kernel) ⟨Nat.le_of_ble_eq_true rfl, Nat.le_of_ble_eq_true rfl⟩) (gP_S hP hD hK [] (by decide) rfl) rfl rfl hl.1 rfl (lv_room (Nat.le_of_ble_eq_true rfl)) dX8_zero_103 ⟨Nat.zero_le _, Nat.zero_le _⟩) ?_
  refine lv_goto (tgt := 110) hx hb dX8_zero_106 (by decide) ?_
  refine lv_istore (lv' := [(9, .int (sp_X8_plain a b c0 d0 f)), (8, .int (f + (1 <<< (hv &&& 31)))), (7, .int 1), (0, .ref h), (1, .int a), (2, .int b), (3, .int c0), (4, .int d0), (5, .int f), (6, .int hv)]) hx hb dX8_zero_110 hl (by decide) rfl (fun ls hl => ?_)
  refine lv_iload hx hb dX8_zero_112 (lv_at hl 2 rfl) ?_
  refine lv_if_eq (tgt := 130) hx hb dX8_zero_114 (by decide) (fun c_114 => absurd c_114 (by decide)) (fun c_114 => ?_)
  refine lv_iload_n hx hb dX8_zero_117 rfl (lv_at hl 4 rfl) ?_
  refine lv_iload_n hx hb dX8_zero_118 rfl (lv_at hl 5 rfl) ?_
  refine lv_iload_n hx hb dX8_zero_119 rfl (lv_at hl 6 rfl) ?_
  refine lv_iload hx hb dX8_zero_120 (lv_at hl 7 rfl) ?_
  refine lv_iload hx hb dX8_zero_122 (lv_at hl 1 rfl) ?_
  refine g_callR (v0 := .int (sp_X8_plain a b c0 d0 (f + (1 <<< (hv &&& 31))))) (va_runS (As := [.int a, .int b, .int c0, .int d0, .int (f + (1 <<< (hv &&& 31)))]) (rest := []) ⟨hx, hb, hml, hown, hts⟩ (c_X8_plain l D y s.heap.size a b c0 d0 (f + (1 <<< (hv &&& 31)))) (va_cwS 5 hts gX8_zero_X8_plain rfl rfl rfl (by decide +kernel) ⟨Nat.le_of_ble_eq_true rfl, Nat.le_of_ble_eq_true rfl⟩) (gP_S hP hD hK [] (by decide) rfl) rfl rfl hl.1 rfl (lv_room (Nat.le_of_ble_eq_true rfl)) dX8_zero_124 ⟨Nat.zero_le _, Nat.zero_le _⟩) ?_
  refine lv_goto (tgt := 131) hx hb dX8_zero_127 (by decide) ?_
  refine lv_istore (lv' := [(10, .int (sp_X8_plain a b c0 d0 (f + (1 <<< (hv &&& 31))))), (9, .int (sp_X8_plain a b c0 d0 f)), (8, .int (f + (1 <<< (hv &&& 31)))), (7, .int 1), (0, .ref h), (1, .int a), (2, .int b), (3, .int c0), (4, .int d0), (5, .int f), (6, .int hv)]) hx hb dX8_zero_131 hl (by decide) rfl (fun ls hl => ?_)
  refine lv_iload hx hb dX8_zero_133 (lv_at hl 1 rfl) ?_
  refine lv_if_ge (tgt := 143) hx hb dX8_zero_135 (by decide) (fun c_135 => ?_) (fun c_135 => ?_)
  · skip
    refine lv_iload hx hb dX8_zero_143 (lv_at hl 1 rfl) ?_
    refine lv_if_le (tgt := 157) hx hb dX8_zero_145 (by decide) (fun c_145 => ?_) (fun c_145 => ?_)
    · skip
      refine lv_iconst (v := 0) hx hb dX8_zero_157 (by decide) ?_
      refine lv_istore (lv' := [(11, .int 0), (10, .int (sp_X8_plain a b c0 d0 (f + (1 <<< (hv &&& 31))))), (9, .int (sp_X8_plain a b c0 d0 f)), (8, .int (f + (1 <<< (hv &&& 31)))), (7, .int 1), (0, .ref h), (1, .int a), (2, .int b), (3, .int c0), (4, .int d0), (5, .int f), (6, .int hv)]) hx hb dX8_zero_158 hl (by decide) rfl (fun ls hl => ?_)
      refine lv_aload_n hx hb dX8_zero_160 rfl (lv_at hl 5 rfl) ?_
      refine lv_iload hx hb dX8_zero_161 (lv_at hl 4 rfl) ?_
      refine lv_if_ne (tgt := 170) hx hb dX8_zero_163 (by decide) (fun c_163 => ?_) (fun c_163 => absurd c_163 (by decide))
      refine lv_iload hx hb dX8_zero_170 (lv_at hl 0 rfl) ?_
      refine lv_if_eq (tgt := 184) hx hb dX8_zero_172 (by decide) (fun c_172 => ?_) (fun c_172 => absurd c_172 (by decide))
      refine lv_iconst (v := 2) hx hb dX8_zero_184 (by decide) ?_
      refine lv_goto (tgt := 189) hx hb dX8_zero_185 (by decide) ?_
      refine g_callA1 (v0 := .int (gB (sp_X8_holds 2))) (w0 := wM y h q 2 pn ki on ot ab be zA zB zC zD zF zT fo lw hg at_ tl th wo wl wh is_ lo_ hi_ di su an) (va_runV (As := [.int 2]) (rest := []) ⟨hx, hb, hml, hown, hts⟩ (c_X8_holds l D y s.heap.size h q tw pn ki on ot ab be zA zB zC zD zF zT fo lw hg at_ tl th wo wl wh is_ lo_ hi_ di su an 2) (cwV 1 hts gX8_zero_X8_holds rfl rfl rfl (by decide +kernel) ⟨Nat.le_of_ble_eq_true rfl, Nat.le_of_ble_eq_true rfl⟩) (gP_VA hP hD hK 0 rfl rfl) rfl rfl hl.1 rfl (lv_room (Nat.le_of_ble_eq_true rfl)) dX8_zero_189 ⟨Nat.zero_le _, Nat.zero_le _⟩) hP hD hS hA rfl (fun H locs hP hD hS => ?_)
      refine g_bne (tgt := 197) hx hb dX8_zero_192 (by decide) (fun c_192 => absurd c_192 (by decide)) (fun c_192 => ?_)
      refine lv_iconst (v := 0) hx hb dX8_zero_195 (by decide) ?_
      exact W.iret (v := 0) hx hb hr (fun t ht hW => ⟨⟨_, wM y h q 2 pn ki on ot ab be zA zB zC zD zF zT fo lw hg at_ tl th wo wl wh is_ lo_ hi_ di su an, rfl, ⟨congrArg (fun z => some (Value.int z)) (rfl), rfl⟩, rfl, by rw [ht]; exact hP⟩, by rw [← hAe]; exact hS.F ht⟩) (by rw [← hAe]; exact hS.2.2) dX8_zero_196
    · skip
      refine lv_iload hx hb dX8_zero_148 (lv_at hl 0 rfl) ?_
      refine lv_if_ge (tgt := 157) hx hb dX8_zero_150 (by decide) (fun c_150 => ?_) (fun c_150 => ?_)
      · skip
        refine lv_iconst (v := 0) hx hb dX8_zero_157 (by decide) ?_
        refine lv_istore (lv' := [(11, .int 0), (10, .int (sp_X8_plain a b c0 d0 (f + (1 <<< (hv &&& 31))))), (9, .int (sp_X8_plain a b c0 d0 f)), (8, .int (f + (1 <<< (hv &&& 31)))), (7, .int 1), (0, .ref h), (1, .int a), (2, .int b), (3, .int c0), (4, .int d0), (5, .int f), (6, .int hv)]) hx hb dX8_zero_158 hl (by decide) rfl (fun ls hl => ?_)
        refine lv_aload_n hx hb dX8_zero_160 rfl (lv_at hl 5 rfl) ?_
        refine lv_iload hx hb dX8_zero_161 (lv_at hl 4 rfl) ?_
        refine lv_if_ne (tgt := 170) hx hb dX8_zero_163 (by decide) (fun c_163 => ?_) (fun c_163 => absurd c_163 (by decide))
        refine lv_iload hx hb dX8_zero_170 (lv_at hl 0 rfl) ?_
        refine lv_if_eq (tgt := 184) hx hb dX8_zero_172 (by decide) (fun c_172 => ?_) (fun c_172 => absurd c_172 (by decide))
        refine lv_iconst (v := 2) hx hb dX8_zero_184 (by decide) ?_
        refine lv_goto (tgt := 189) hx hb dX8_zero_185 (by decide) ?_
        refine g_callA1 (v0 := .int (gB (sp_X8_holds 2))) (w0 := wM y h q 2 pn ki on ot ab be zA zB zC zD zF zT fo lw hg at_ tl th wo wl wh is_ lo_ hi_ di su an) (va_runV (As := [.int 2]) (rest := []) ⟨hx, hb, hml, hown, hts⟩ (c_X8_holds l D y s.heap.size h q tw pn ki on ot ab be zA zB zC zD zF zT fo lw hg at_ tl th wo wl wh is_ lo_ hi_ di su an 2) (cwV 1 hts gX8_zero_X8_holds rfl rfl rfl (by decide +kernel) ⟨Nat.le_of_ble_eq_true rfl, Nat.le_of_ble_eq_true rfl⟩) (gP_VA hP hD hK 0 rfl rfl) rfl rfl hl.1 rfl (lv_room (Nat.le_of_ble_eq_true rfl)) dX8_zero_189 ⟨Nat.zero_le _, Nat.zero_le _⟩) hP hD hS hA rfl (fun H locs hP hD hS => ?_)
        refine g_bne (tgt := 197) hx hb dX8_zero_192 (by decide) (fun c_192 => absurd c_192 (by decide)) (fun c_192 => ?_)
        refine lv_iconst (v := 0) hx hb dX8_zero_195 (by decide) ?_
        exact W.iret (v := 0) hx hb hr (fun t ht hW => ⟨⟨_, wM y h q 2 pn ki on ot ab be zA zB zC zD zF zT fo lw hg at_ tl th wo wl wh is_ lo_ hi_ di su an, rfl, ⟨congrArg (fun z => some (Value.int z)) (rfl), rfl⟩, rfl, by rw [ht]; exact hP⟩, by rw [← hAe]; exact hS.F ht⟩) (by rw [← hAe]; exact hS.2.2) dX8_zero_196
      · skip
        refine lv_iconst (v := 1) hx hb dX8_zero_153 (by decide) ?_
        refine lv_goto (tgt := 158) hx hb dX8_zero_154 (by decide) ?_
        refine lv_istore (lv' := [(11, .int 1), (10, .int (sp_X8_plain a b c0 d0 (f + (1 <<< (hv &&& 31))))), (9, .int (sp_X8_plain a b c0 d0 f)), (8, .int (f + (1 <<< (hv &&& 31)))), (7, .int 1), (0, .ref h), (1, .int a), (2, .int b), (3, .int c0), (4, .int d0), (5, .int f), (6, .int hv)]) hx hb dX8_zero_158 hl (by decide) rfl (fun ls hl => ?_)
        exact absurd (by simp only [unl, if_pos c_135, if_neg c_145, if_neg c_150]) hun
  · skip
    refine lv_iload hx hb dX8_zero_138 (lv_at hl 0 rfl) ?_
    refine lv_if_gt (tgt := 153) hx hb dX8_zero_140 (by decide) (fun c_140 => ?_) (fun c_140 => ?_)
    · skip
      refine lv_iconst (v := 1) hx hb dX8_zero_153 (by decide) ?_
      refine lv_goto (tgt := 158) hx hb dX8_zero_154 (by decide) ?_
      refine lv_istore (lv' := [(11, .int 1), (10, .int (sp_X8_plain a b c0 d0 (f + (1 <<< (hv &&& 31))))), (9, .int (sp_X8_plain a b c0 d0 f)), (8, .int (f + (1 <<< (hv &&& 31)))), (7, .int 1), (0, .ref h), (1, .int a), (2, .int b), (3, .int c0), (4, .int d0), (5, .int f), (6, .int hv)]) hx hb dX8_zero_158 hl (by decide) rfl (fun ls hl => ?_)
      exact absurd (by simp only [unl, if_neg c_135, if_pos c_140]) hun
    · skip
      refine lv_iload hx hb dX8_zero_143 (lv_at hl 1 rfl) ?_
      refine lv_if_le (tgt := 157) hx hb dX8_zero_145 (by decide) (fun c_145 => ?_) (fun c_145 => ?_)
      · skip
        refine lv_iconst (v := 0) hx hb dX8_zero_157 (by decide) ?_
        refine lv_istore (lv' := [(11, .int 0), (10, .int (sp_X8_plain a b c0 d0 (f + (1 <<< (hv &&& 31))))), (9, .int (sp_X8_plain a b c0 d0 f)), (8, .int (f + (1 <<< (hv &&& 31)))), (7, .int 1), (0, .ref h), (1, .int a), (2, .int b), (3, .int c0), (4, .int d0), (5, .int f), (6, .int hv)]) hx hb dX8_zero_158 hl (by decide) rfl (fun ls hl => ?_)
        refine lv_aload_n hx hb dX8_zero_160 rfl (lv_at hl 5 rfl) ?_
        refine lv_iload hx hb dX8_zero_161 (lv_at hl 4 rfl) ?_
        refine lv_if_ne (tgt := 170) hx hb dX8_zero_163 (by decide) (fun c_163 => ?_) (fun c_163 => absurd c_163 (by decide))
        refine lv_iload hx hb dX8_zero_170 (lv_at hl 0 rfl) ?_
        refine lv_if_eq (tgt := 184) hx hb dX8_zero_172 (by decide) (fun c_172 => ?_) (fun c_172 => absurd c_172 (by decide))
        refine lv_iconst (v := 2) hx hb dX8_zero_184 (by decide) ?_
        refine lv_goto (tgt := 189) hx hb dX8_zero_185 (by decide) ?_
        refine g_callA1 (v0 := .int (gB (sp_X8_holds 2))) (w0 := wM y h q 2 pn ki on ot ab be zA zB zC zD zF zT fo lw hg at_ tl th wo wl wh is_ lo_ hi_ di su an) (va_runV (As := [.int 2]) (rest := []) ⟨hx, hb, hml, hown, hts⟩ (c_X8_holds l D y s.heap.size h q tw pn ki on ot ab be zA zB zC zD zF zT fo lw hg at_ tl th wo wl wh is_ lo_ hi_ di su an 2) (cwV 1 hts gX8_zero_X8_holds rfl rfl rfl (by decide +kernel) ⟨Nat.le_of_ble_eq_true rfl, Nat.le_of_ble_eq_true rfl⟩) (gP_VA hP hD hK 0 rfl rfl) rfl rfl hl.1 rfl (lv_room (Nat.le_of_ble_eq_true rfl)) dX8_zero_189 ⟨Nat.zero_le _, Nat.zero_le _⟩) hP hD hS hA rfl (fun H locs hP hD hS => ?_)
        refine g_bne (tgt := 197) hx hb dX8_zero_192 (by decide) (fun c_192 => absurd c_192 (by decide)) (fun c_192 => ?_)
        refine lv_iconst (v := 0) hx hb dX8_zero_195 (by decide) ?_
        exact W.iret (v := 0) hx hb hr (fun t ht hW => ⟨⟨_, wM y h q 2 pn ki on ot ab be zA zB zC zD zF zT fo lw hg at_ tl th wo wl wh is_ lo_ hi_ di su an, rfl, ⟨congrArg (fun z => some (Value.int z)) (rfl), rfl⟩, rfl, by rw [ht]; exact hP⟩, by rw [← hAe]; exact hS.F ht⟩) (by rw [← hAe]; exact hS.2.2) dX8_zero_196
      · skip
        refine lv_iload hx hb dX8_zero_148 (lv_at hl 0 rfl) ?_
        refine lv_if_ge (tgt := 157) hx hb dX8_zero_150 (by decide) (fun c_150 => ?_) (fun c_150 => ?_)
        · skip
          refine lv_iconst (v := 0) hx hb dX8_zero_157 (by decide) ?_
          refine lv_istore (lv' := [(11, .int 0), (10, .int (sp_X8_plain a b c0 d0 (f + (1 <<< (hv &&& 31))))), (9, .int (sp_X8_plain a b c0 d0 f)), (8, .int (f + (1 <<< (hv &&& 31)))), (7, .int 1), (0, .ref h), (1, .int a), (2, .int b), (3, .int c0), (4, .int d0), (5, .int f), (6, .int hv)]) hx hb dX8_zero_158 hl (by decide) rfl (fun ls hl => ?_)
          refine lv_aload_n hx hb dX8_zero_160 rfl (lv_at hl 5 rfl) ?_
          refine lv_iload hx hb dX8_zero_161 (lv_at hl 4 rfl) ?_
          refine lv_if_ne (tgt := 170) hx hb dX8_zero_163 (by decide) (fun c_163 => ?_) (fun c_163 => absurd c_163 (by decide))
          refine lv_iload hx hb dX8_zero_170 (lv_at hl 0 rfl) ?_
          refine lv_if_eq (tgt := 184) hx hb dX8_zero_172 (by decide) (fun c_172 => ?_) (fun c_172 => absurd c_172 (by decide))
          refine lv_iconst (v := 2) hx hb dX8_zero_184 (by decide) ?_
          refine lv_goto (tgt := 189) hx hb dX8_zero_185 (by decide) ?_
          refine g_callA1 (v0 := .int (gB (sp_X8_holds 2))) (w0 := wM y h q 2 pn ki on ot ab be zA zB zC zD zF zT fo lw hg at_ tl th wo wl wh is_ lo_ hi_ di su an) (va_runV (As := [.int 2]) (rest := []) ⟨hx, hb, hml, hown, hts⟩ (c_X8_holds l D y s.heap.size h q tw pn ki on ot ab be zA zB zC zD zF zT fo lw hg at_ tl th wo wl wh is_ lo_ hi_ di su an 2) (cwV 1 hts gX8_zero_X8_holds rfl rfl rfl (by decide +kernel) ⟨Nat.le_of_ble_eq_true rfl, Nat.le_of_ble_eq_true rfl⟩) (gP_VA hP hD hK 0 rfl rfl) rfl rfl hl.1 rfl (lv_room (Nat.le_of_ble_eq_true rfl)) dX8_zero_189 ⟨Nat.zero_le _, Nat.zero_le _⟩) hP hD hS hA rfl (fun H locs hP hD hS => ?_)
          refine g_bne (tgt := 197) hx hb dX8_zero_192 (by decide) (fun c_192 => absurd c_192 (by decide)) (fun c_192 => ?_)
          refine lv_iconst (v := 0) hx hb dX8_zero_195 (by decide) ?_
          exact W.iret (v := 0) hx hb hr (fun t ht hW => ⟨⟨_, wM y h q 2 pn ki on ot ab be zA zB zC zD zF zT fo lw hg at_ tl th wo wl wh is_ lo_ hi_ di su an, rfl, ⟨congrArg (fun z => some (Value.int z)) (rfl), rfl⟩, rfl, by rw [ht]; exact hP⟩, by rw [← hAe]; exact hS.F ht⟩) (by rw [← hAe]; exact hS.2.2) dX8_zero_196
        · skip
          refine lv_iconst (v := 1) hx hb dX8_zero_153 (by decide) ?_
          refine lv_goto (tgt := 158) hx hb dX8_zero_154 (by decide) ?_
          refine lv_istore (lv' := [(11, .int 1), (10, .int (sp_X8_plain a b c0 d0 (f + (1 <<< (hv &&& 31))))), (9, .int (sp_X8_plain a b c0 d0 f)), (8, .int (f + (1 <<< (hv &&& 31)))), (7, .int 1), (0, .ref h), (1, .int a), (2, .int b), (3, .int c0), (4, .int d0), (5, .int f), (6, .int hv)]) hx hb dX8_zero_158 hl (by decide) rfl (fun ls hl => ?_)
          exact absurd (by simp only [unl, if_neg c_135, if_neg c_140, if_neg c_145, if_neg c_150]) hun
theorem in_X8_zero_X8 : ∀ w ∈ wsX80, w ∈ wsX8_zero := fun _ h => List.mem_cons_of_mem _ (List.mem_append_right _ h)
set_option maxHeartbeats 4000000 in
set_option maxRecDepth 100000 in
theorem c_X8_zero_2b (l : Launch) (D : va_G) (y : Nat → ClassId) (sz : Nat) (h : Nat) (q : Nat → Nat) (tw : Int32) (pn : Nat) (ki on ot ab be zA zB zC zD zF zT : Nat → Int32) (fo : Nat → Bool) (lw hg : Nat → Int64) (at_ : Nat → Bool) (tl th : Nat → Int64) (wo : Nat → Bool) (wl wh : Nat → Int64) (is_ : Bool) (lo_ hi_ : Int64) (di : Nat → Int32) (su : Nat → Int64) (an : Nat → Bool) (a b c0 d0 f hv : Int32) (hz0 : sp_X8_in a (-9) 9 = true) (hz1 : sp_X8_in b (-9) 9 = true) (hz2 : sp_X8_in c0 (-9) 9 = true) (hz3 : sp_X8_in d0 (-9) 9 = true) (hz4 : sp_X8_in f (-4) 3 = true) (hz5 : sp_X8_in hv 0 2 = true) (hun : unl (sp_X8_plain a b c0 d0 f) (sp_X8_plain a b c0 d0 (f + (1 <<< (hv &&& 31)))) = true) (hf : nI pn = 40) : Met l yX8_zero wsX8_zero ({ frames := 1, cells := 0, slots := 0, locals := 24 } : Room) (gP D y [.ref h, .int a, .int b, .int c0, .int d0, .int f, .int hv] (wM y h q tw pn ki on ot ab be zA zB zC zD zF zT fo lw hg at_ tl th wo wl wh is_ lo_ hi_ di su an) sz) (gQ D (wM y h q tw pn ki on ot ab be zA zB zC zD zF zT fo lw hg at_ tl th wo wl wh is_ lo_ hi_ di su an) (gF (some (.int 0)) (wM y h q 2 pn ki on ot ab be zA zB zC zD zF zT fo lw hg at_ tl th wo wl wh is_ lo_ hi_ di su an))) 0 0 (va_A (wM y h q tw pn ki on ot ab be zA zB zC zD zF zT fo lw hg at_ tl th wo wl wh is_ lo_ hi_ di su an) sz) := by
  refine Met.ofW (cc := cX8_zero) (maxL := 12) (ret := (some .int)) (by decide) rfl ?_
  intro pg e s m args below meth c s₁ B hml hv
  obtain ⟨rfl, hsz, hP, hK, hD0⟩ := hv
  have hx := B.exec
  have hb := B.bytes
  have hr := B.returns
  have hts := atoms_spec (ws := wsX8_zero) B.pre
  have hown : s.vm.findClass RX8 = some m.cls := findClass_of_methodNamed B.named
  have hlocks := B.notSynchronized
  subst hsz
  obtain ⟨A, hAe⟩ : ∃ A : Nat → Prop, A = va_A (wM y h q tw pn ki on ot ab be zA zB zC zD zF zT fo lw hg at_ tl th wo wl wh is_ lo_ hi_ di su an) s.heap.size := ⟨_, rfl⟩
  have hD : va_D A (wM y h q tw pn ki on ot ab be zA zB zC zD zF zT fo lw hg at_ tl th wo wl wh is_ lo_ hi_ di su an) := by rw [hAe]; exact hD0.self (sz := s.heap.size)
  have hA : ∀ q : Nat, s.heap.size ≤ q → A q := fun q h => by rw [hAe]; exact Or.inr h
  have hS : va_S A s.heap s.heap [] := va_S.rf
  have hl := lv_entry ([.ref h, .int a, .int b, .int c0, .int d0, .int f, .int hv]) (n := 12) (Nat.le_of_ble_eq_true rfl)
  rw [lg_entry_eq]
  generalize (lg_sl ([.ref h, .int a, .int b, .int c0, .int d0, .int f, .int hv]) ++ List.replicate (12 - (lg_sl ([.ref h, .int a, .int b, .int c0, .int d0, .int f, .int hv])).length) Slot.unset).toArray = ls at hl ⊢
  have hl : lv_has ls 12 [(0, .ref h), (1, .int a), (2, .int b), (3, .int c0), (4, .int d0), (5, .int f), (6, .int hv)] := hl
  refine lv_iload_n hx hb dX8_zero_0 rfl (lv_at hl 1 rfl) ?_
  refine lv_bipush (v := -9) hx hb dX8_zero_1 (by decide) ?_
  refine lv_bipush (v := 9) hx hb dX8_zero_3 (by decide) ?_
  refine g_callR (v0 := .int (gB (sp_X8_in a (-9) 9))) (va_runS (As := [.int a, .int (-9), .int 9]) (rest := []) ⟨hx, hb, hml, hown, hts⟩ (c_X8_in l D y s.heap.size a (-9) 9) (va_cwS 3 hts gX8_zero_X8_in rfl rfl rfl (by decide +kernel) ⟨Nat.le_of_ble_eq_true rfl, Nat.le_of_ble_eq_true rfl⟩) (gP_S hP hD hK [] (by decide) rfl) rfl rfl hl.1 rfl (lv_room (Nat.le_of_ble_eq_true rfl)) dX8_zero_5 ⟨Nat.zero_le _, Nat.zero_le _⟩) ?_
  refine g_beq (tgt := 70) hx hb dX8_zero_8 (by decide) (fun c_8 => absurd hz0 c_8) (fun c_8 => ?_)
  refine lv_iload_n hx hb dX8_zero_11 rfl (lv_at hl 2 rfl) ?_
  refine lv_bipush (v := -9) hx hb dX8_zero_12 (by decide) ?_
  refine lv_bipush (v := 9) hx hb dX8_zero_14 (by decide) ?_
  refine g_callR (v0 := .int (gB (sp_X8_in b (-9) 9))) (va_runS (As := [.int b, .int (-9), .int 9]) (rest := []) ⟨hx, hb, hml, hown, hts⟩ (c_X8_in l D y s.heap.size b (-9) 9) (va_cwS 3 hts gX8_zero_X8_in rfl rfl rfl (by decide +kernel) ⟨Nat.le_of_ble_eq_true rfl, Nat.le_of_ble_eq_true rfl⟩) (gP_S hP hD hK [] (by decide) rfl) rfl rfl hl.1 rfl (lv_room (Nat.le_of_ble_eq_true rfl)) dX8_zero_16 ⟨Nat.zero_le _, Nat.zero_le _⟩) ?_
  refine g_beq (tgt := 70) hx hb dX8_zero_19 (by decide) (fun c_19 => absurd hz1 c_19) (fun c_19 => ?_)
  refine lv_iload_n hx hb dX8_zero_22 rfl (lv_at hl 3 rfl) ?_
  refine lv_bipush (v := -9) hx hb dX8_zero_23 (by decide) ?_
  refine lv_bipush (v := 9) hx hb dX8_zero_25 (by decide) ?_
  refine g_callR (v0 := .int (gB (sp_X8_in c0 (-9) 9))) (va_runS (As := [.int c0, .int (-9), .int 9]) (rest := []) ⟨hx, hb, hml, hown, hts⟩ (c_X8_in l D y s.heap.size c0 (-9) 9) (va_cwS 3 hts gX8_zero_X8_in rfl rfl rfl (by decide +kernel) ⟨Nat.le_of_ble_eq_true rfl, Nat.le_of_ble_eq_true rfl⟩) (gP_S hP hD hK [] (by decide) rfl) rfl rfl hl.1 rfl (lv_room (Nat.le_of_ble_eq_true rfl)) dX8_zero_27 ⟨Nat.zero_le _, Nat.zero_le _⟩) ?_
  refine g_beq (tgt := 70) hx hb dX8_zero_30 (by decide) (fun c_30 => absurd hz2 c_30) (fun c_30 => ?_)
  refine lv_iload hx hb dX8_zero_33 (lv_at hl 4 rfl) ?_
  refine lv_bipush (v := -9) hx hb dX8_zero_35 (by decide) ?_
  refine lv_bipush (v := 9) hx hb dX8_zero_37 (by decide) ?_
  refine g_callR (v0 := .int (gB (sp_X8_in d0 (-9) 9))) (va_runS (As := [.int d0, .int (-9), .int 9]) (rest := []) ⟨hx, hb, hml, hown, hts⟩ (c_X8_in l D y s.heap.size d0 (-9) 9) (va_cwS 3 hts gX8_zero_X8_in rfl rfl rfl (by decide +kernel) ⟨Nat.le_of_ble_eq_true rfl, Nat.le_of_ble_eq_true rfl⟩) (gP_S hP hD hK [] (by decide) rfl) rfl rfl hl.1 rfl (lv_room (Nat.le_of_ble_eq_true rfl)) dX8_zero_39 ⟨Nat.zero_le _, Nat.zero_le _⟩) ?_
  refine g_beq (tgt := 70) hx hb dX8_zero_42 (by decide) (fun c_42 => absurd hz3 c_42) (fun c_42 => ?_)
  refine lv_iload hx hb dX8_zero_45 (lv_at hl 5 rfl) ?_
  refine lv_bipush (v := -4) hx hb dX8_zero_47 (by decide) ?_
  refine lv_iconst (v := 3) hx hb dX8_zero_49 (by decide) ?_
  refine g_callR (v0 := .int (gB (sp_X8_in f (-4) 3))) (va_runS (As := [.int f, .int (-4), .int 3]) (rest := []) ⟨hx, hb, hml, hown, hts⟩ (c_X8_in l D y s.heap.size f (-4) 3) (va_cwS 3 hts gX8_zero_X8_in rfl rfl rfl (by decide +kernel) ⟨Nat.le_of_ble_eq_true rfl, Nat.le_of_ble_eq_true rfl⟩) (gP_S hP hD hK [] (by decide) rfl) rfl rfl hl.1 rfl (lv_room (Nat.le_of_ble_eq_true rfl)) dX8_zero_50 ⟨Nat.zero_le _, Nat.zero_le _⟩) ?_
  refine g_beq (tgt := 70) hx hb dX8_zero_53 (by decide) (fun c_53 => absurd hz4 c_53) (fun c_53 => ?_)
  refine lv_iload hx hb dX8_zero_56 (lv_at hl 6 rfl) ?_
  refine lv_iconst (v := 0) hx hb dX8_zero_58 (by decide) ?_
  refine lv_iconst (v := 2) hx hb dX8_zero_59 (by decide) ?_
  refine g_callR (v0 := .int (gB (sp_X8_in hv 0 2))) (va_runS (As := [.int hv, .int 0, .int 2]) (rest := []) ⟨hx, hb, hml, hown, hts⟩ (c_X8_in l D y s.heap.size hv 0 2) (va_cwS 3 hts gX8_zero_X8_in rfl rfl rfl (by decide +kernel) ⟨Nat.le_of_ble_eq_true rfl, Nat.le_of_ble_eq_true rfl⟩) (gP_S hP hD hK [] (by decide) rfl) rfl rfl hl.1 rfl (lv_room (Nat.le_of_ble_eq_true rfl)) dX8_zero_60 ⟨Nat.zero_le _, Nat.zero_le _⟩) ?_
  refine g_beq (tgt := 70) hx hb dX8_zero_63 (by decide) (fun c_63 => absurd hz5 c_63) (fun c_63 => ?_)
  refine lv_iconst (v := 1) hx hb dX8_zero_66 (by decide) ?_
  refine lv_goto (tgt := 71) hx hb dX8_zero_67 (by decide) ?_
  refine lv_istore (lv' := [(7, .int 1), (0, .ref h), (1, .int a), (2, .int b), (3, .int c0), (4, .int d0), (5, .int f), (6, .int hv)]) hx hb dX8_zero_71 hl (by decide) rfl (fun ls hl => ?_)
  refine lv_iload hx hb dX8_zero_73 (lv_at hl 0 rfl) ?_
  refine lv_if_eq (tgt := 88) hx hb dX8_zero_75 (by decide) (fun c_75 => absurd c_75 (by decide)) (fun c_75 => ?_)
  refine lv_iload hx hb dX8_zero_78 (lv_at hl 6 rfl) ?_
  refine lv_iconst (v := 1) hx hb dX8_zero_80 (by decide) ?_
  refine lv_iload hx hb dX8_zero_81 (lv_at hl 7 rfl) ?_
  refine lv_ishl hx hb dX8_zero_83 ?_
  refine lv_iadd hx hb dX8_zero_84 ?_
  refine lv_goto (tgt := 89) hx hb dX8_zero_85 (by decide) ?_
  refine lv_istore (lv' := [(8, .int (f + (1 <<< (hv &&& 31)))), (7, .int 1), (0, .ref h), (1, .int a), (2, .int b), (3, .int c0), (4, .int d0), (5, .int f), (6, .int hv)]) hx hb dX8_zero_89 hl (by decide) rfl (fun ls hl => ?_)
  refine lv_iload hx hb dX8_zero_91 (lv_at hl 1 rfl) ?_
  refine lv_if_eq (tgt := 109) hx hb dX8_zero_93 (by decide) (fun c_93 => absurd c_93 (by decide)) (fun c_93 => ?_)
  refine lv_iload_n hx hb dX8_zero_96 rfl (lv_at hl 3 rfl) ?_
  refine lv_iload_n hx hb dX8_zero_97 rfl (lv_at hl 4 rfl) ?_
  refine lv_iload_n hx hb dX8_zero_98 rfl (lv_at hl 5 rfl) ?_
  refine lv_iload hx hb dX8_zero_99 (lv_at hl 6 rfl) ?_
  refine lv_iload hx hb dX8_zero_101 (lv_at hl 7 rfl) ?_
  refine g_callR (v0 := .int (sp_X8_plain a b c0 d0 f)) (va_runS (As := [.int a, .int b, .int c0, .int d0, .int f]) (rest := []) ⟨hx, hb, hml, hown, hts⟩ (c_X8_plain l D y s.heap.size a b c0 d0 f) (va_cwS 5 hts gX8_zero_X8_plain rfl rfl rfl (by decide +kernel) ⟨Nat.le_of_ble_eq_true rfl, Nat.le_of_ble_eq_true rfl⟩) (gP_S hP hD hK [] (by decide) rfl) rfl rfl hl.1 rfl (lv_room (Nat.le_of_ble_eq_true rfl)) dX8_zero_103 ⟨Nat.zero_le _, Nat.zero_le _⟩) ?_
  refine lv_goto (tgt := 110) hx hb dX8_zero_106 (by decide) ?_
  refine lv_istore (lv' := [(9, .int (sp_X8_plain a b c0 d0 f)), (8, .int (f + (1 <<< (hv &&& 31)))), (7, .int 1), (0, .ref h), (1, .int a), (2, .int b), (3, .int c0), (4, .int d0), (5, .int f), (6, .int hv)]) hx hb dX8_zero_110 hl (by decide) rfl (fun ls hl => ?_)
  refine lv_iload hx hb dX8_zero_112 (lv_at hl 2 rfl) ?_
  refine lv_if_eq (tgt := 130) hx hb dX8_zero_114 (by decide) (fun c_114 => absurd c_114 (by decide)) (fun c_114 => ?_)
  refine lv_iload_n hx hb dX8_zero_117 rfl (lv_at hl 4 rfl) ?_
  refine lv_iload_n hx hb dX8_zero_118 rfl (lv_at hl 5 rfl) ?_
  refine lv_iload_n hx hb dX8_zero_119 rfl (lv_at hl 6 rfl) ?_
  refine lv_iload hx hb dX8_zero_120 (lv_at hl 7 rfl) ?_
  refine lv_iload hx hb dX8_zero_122 (lv_at hl 1 rfl) ?_
  refine g_callR (v0 := .int (sp_X8_plain a b c0 d0 (f + (1 <<< (hv &&& 31))))) (va_runS (As := [.int a, .int b, .int c0, .int d0, .int (f + (1 <<< (hv &&& 31)))]) (rest := []) ⟨hx, hb, hml, hown, hts⟩ (c_X8_plain l D y s.heap.size a b c0 d0 (f + (1 <<< (hv &&& 31)))) (va_cwS 5 hts gX8_zero_X8_plain rfl rfl rfl (by decide +kernel) ⟨Nat.le_of_ble_eq_true rfl, Nat.le_of_ble_eq_true rfl⟩) (gP_S hP hD hK [] (by decide) rfl) rfl rfl hl.1 rfl (lv_room (Nat.le_of_ble_eq_true rfl)) dX8_zero_124 ⟨Nat.zero_le _, Nat.zero_le _⟩) ?_
  refine lv_goto (tgt := 131) hx hb dX8_zero_127 (by decide) ?_
  refine lv_istore (lv' := [(10, .int (sp_X8_plain a b c0 d0 (f + (1 <<< (hv &&& 31))))), (9, .int (sp_X8_plain a b c0 d0 f)), (8, .int (f + (1 <<< (hv &&& 31)))), (7, .int 1), (0, .ref h), (1, .int a), (2, .int b), (3, .int c0), (4, .int d0), (5, .int f), (6, .int hv)]) hx hb dX8_zero_131 hl (by decide) rfl (fun ls hl => ?_)
  refine lv_iload hx hb dX8_zero_133 (lv_at hl 1 rfl) ?_
  refine lv_if_ge (tgt := 143) hx hb dX8_zero_135 (by decide) (fun c_135 => ?_) (fun c_135 => ?_)
  · skip
    refine lv_iload hx hb dX8_zero_143 (lv_at hl 1 rfl) ?_
    refine lv_if_le (tgt := 157) hx hb dX8_zero_145 (by decide) (fun c_145 => ?_) (fun c_145 => ?_)
    · skip
      refine lv_iconst (v := 0) hx hb dX8_zero_157 (by decide) ?_
      refine lv_istore (lv' := [(11, .int 0), (10, .int (sp_X8_plain a b c0 d0 (f + (1 <<< (hv &&& 31))))), (9, .int (sp_X8_plain a b c0 d0 f)), (8, .int (f + (1 <<< (hv &&& 31)))), (7, .int 1), (0, .ref h), (1, .int a), (2, .int b), (3, .int c0), (4, .int d0), (5, .int f), (6, .int hv)]) hx hb dX8_zero_158 hl (by decide) rfl (fun ls hl => ?_)
      exact absurd hun (by simp only [unl, if_pos c_135, if_pos c_145]; decide)
    · skip
      refine lv_iload hx hb dX8_zero_148 (lv_at hl 0 rfl) ?_
      refine lv_if_ge (tgt := 157) hx hb dX8_zero_150 (by decide) (fun c_150 => ?_) (fun c_150 => ?_)
      · skip
        refine lv_iconst (v := 0) hx hb dX8_zero_157 (by decide) ?_
        refine lv_istore (lv' := [(11, .int 0), (10, .int (sp_X8_plain a b c0 d0 (f + (1 <<< (hv &&& 31))))), (9, .int (sp_X8_plain a b c0 d0 f)), (8, .int (f + (1 <<< (hv &&& 31)))), (7, .int 1), (0, .ref h), (1, .int a), (2, .int b), (3, .int c0), (4, .int d0), (5, .int f), (6, .int hv)]) hx hb dX8_zero_158 hl (by decide) rfl (fun ls hl => ?_)
        exact absurd hun (by simp only [unl, if_pos c_135, if_neg c_145, if_pos c_150]; decide)
      · skip
        refine lv_iconst (v := 1) hx hb dX8_zero_153 (by decide) ?_
        refine lv_goto (tgt := 158) hx hb dX8_zero_154 (by decide) ?_
        refine lv_istore (lv' := [(11, .int 1), (10, .int (sp_X8_plain a b c0 d0 (f + (1 <<< (hv &&& 31))))), (9, .int (sp_X8_plain a b c0 d0 f)), (8, .int (f + (1 <<< (hv &&& 31)))), (7, .int 1), (0, .ref h), (1, .int a), (2, .int b), (3, .int c0), (4, .int d0), (5, .int f), (6, .int hv)]) hx hb dX8_zero_158 hl (by decide) rfl (fun ls hl => ?_)
        refine lv_aload_n hx hb dX8_zero_160 rfl (lv_at hl 5 rfl) ?_
        refine lv_iload hx hb dX8_zero_161 (lv_at hl 4 rfl) ?_
        refine lv_if_ne (tgt := 170) hx hb dX8_zero_163 (by decide) (fun c_163 => ?_) (fun c_163 => absurd c_163 (by decide))
        refine lv_iload hx hb dX8_zero_170 (lv_at hl 0 rfl) ?_
        refine lv_if_eq (tgt := 184) hx hb dX8_zero_172 (by decide) (fun c_172 => absurd c_172 (by decide)) (fun c_172 => ?_)
        refine lv_aload_n hx hb dX8_zero_175 rfl (lv_at hl 5 rfl) ?_
        refine va_get (D := D) (ci := 6) (v := .int (nI pn)) (C := RX8) (T := TX8) (N := 28) hx hb hts in_X8_zero_X8 hown hK.1 hP 0 rfl rfl 1 (by decide) (hts (.fieldLink RX8 85 "NestlimitModel" "programs" "I") (List.mem_of_getElem? (i := 1) rfl)) (fun _ h9 => h9) rfl dX8_zero_176 ?_
        refine lv_bipush (v := 40) hx hb dX8_zero_179 (by decide) ?_
        refine lv_icmp_ne (tgt := 188) hx hb dX8_zero_181 (by decide) (fun c_181 => absurd hf c_181) (fun c_181 => ?_)
        refine lv_iconst (v := 2) hx hb dX8_zero_184 (by decide) ?_
        refine lv_goto (tgt := 189) hx hb dX8_zero_185 (by decide) ?_
        refine g_callA1 (v0 := .int (gB (sp_X8_holds 2))) (w0 := wM y h q 2 pn ki on ot ab be zA zB zC zD zF zT fo lw hg at_ tl th wo wl wh is_ lo_ hi_ di su an) (va_runV (As := [.int 2]) (rest := []) ⟨hx, hb, hml, hown, hts⟩ (c_X8_holds l D y s.heap.size h q tw pn ki on ot ab be zA zB zC zD zF zT fo lw hg at_ tl th wo wl wh is_ lo_ hi_ di su an 2) (cwV 1 hts gX8_zero_X8_holds rfl rfl rfl (by decide +kernel) ⟨Nat.le_of_ble_eq_true rfl, Nat.le_of_ble_eq_true rfl⟩) (gP_VA hP hD hK 0 rfl rfl) rfl rfl hl.1 rfl (lv_room (Nat.le_of_ble_eq_true rfl)) dX8_zero_189 ⟨Nat.zero_le _, Nat.zero_le _⟩) hP hD hS hA rfl (fun H locs hP hD hS => ?_)
        refine g_bne (tgt := 197) hx hb dX8_zero_192 (by decide) (fun c_192 => absurd c_192 (by decide)) (fun c_192 => ?_)
        refine lv_iconst (v := 0) hx hb dX8_zero_195 (by decide) ?_
        exact W.iret (v := 0) hx hb hr (fun t ht hW => ⟨⟨_, wM y h q 2 pn ki on ot ab be zA zB zC zD zF zT fo lw hg at_ tl th wo wl wh is_ lo_ hi_ di su an, rfl, ⟨congrArg (fun z => some (Value.int z)) (rfl), rfl⟩, rfl, by rw [ht]; exact hP⟩, by rw [← hAe]; exact hS.F ht⟩) (by rw [← hAe]; exact hS.2.2) dX8_zero_196
  · skip
    refine lv_iload hx hb dX8_zero_138 (lv_at hl 0 rfl) ?_
    refine lv_if_gt (tgt := 153) hx hb dX8_zero_140 (by decide) (fun c_140 => ?_) (fun c_140 => ?_)
    · skip
      refine lv_iconst (v := 1) hx hb dX8_zero_153 (by decide) ?_
      refine lv_goto (tgt := 158) hx hb dX8_zero_154 (by decide) ?_
      refine lv_istore (lv' := [(11, .int 1), (10, .int (sp_X8_plain a b c0 d0 (f + (1 <<< (hv &&& 31))))), (9, .int (sp_X8_plain a b c0 d0 f)), (8, .int (f + (1 <<< (hv &&& 31)))), (7, .int 1), (0, .ref h), (1, .int a), (2, .int b), (3, .int c0), (4, .int d0), (5, .int f), (6, .int hv)]) hx hb dX8_zero_158 hl (by decide) rfl (fun ls hl => ?_)
      refine lv_aload_n hx hb dX8_zero_160 rfl (lv_at hl 5 rfl) ?_
      refine lv_iload hx hb dX8_zero_161 (lv_at hl 4 rfl) ?_
      refine lv_if_ne (tgt := 170) hx hb dX8_zero_163 (by decide) (fun c_163 => ?_) (fun c_163 => absurd c_163 (by decide))
      refine lv_iload hx hb dX8_zero_170 (lv_at hl 0 rfl) ?_
      refine lv_if_eq (tgt := 184) hx hb dX8_zero_172 (by decide) (fun c_172 => absurd c_172 (by decide)) (fun c_172 => ?_)
      refine lv_aload_n hx hb dX8_zero_175 rfl (lv_at hl 5 rfl) ?_
      refine va_get (D := D) (ci := 6) (v := .int (nI pn)) (C := RX8) (T := TX8) (N := 28) hx hb hts in_X8_zero_X8 hown hK.1 hP 0 rfl rfl 1 (by decide) (hts (.fieldLink RX8 85 "NestlimitModel" "programs" "I") (List.mem_of_getElem? (i := 1) rfl)) (fun _ h9 => h9) rfl dX8_zero_176 ?_
      refine lv_bipush (v := 40) hx hb dX8_zero_179 (by decide) ?_
      refine lv_icmp_ne (tgt := 188) hx hb dX8_zero_181 (by decide) (fun c_181 => absurd hf c_181) (fun c_181 => ?_)
      refine lv_iconst (v := 2) hx hb dX8_zero_184 (by decide) ?_
      refine lv_goto (tgt := 189) hx hb dX8_zero_185 (by decide) ?_
      refine g_callA1 (v0 := .int (gB (sp_X8_holds 2))) (w0 := wM y h q 2 pn ki on ot ab be zA zB zC zD zF zT fo lw hg at_ tl th wo wl wh is_ lo_ hi_ di su an) (va_runV (As := [.int 2]) (rest := []) ⟨hx, hb, hml, hown, hts⟩ (c_X8_holds l D y s.heap.size h q tw pn ki on ot ab be zA zB zC zD zF zT fo lw hg at_ tl th wo wl wh is_ lo_ hi_ di su an 2) (cwV 1 hts gX8_zero_X8_holds rfl rfl rfl (by decide +kernel) ⟨Nat.le_of_ble_eq_true rfl, Nat.le_of_ble_eq_true rfl⟩) (gP_VA hP hD hK 0 rfl rfl) rfl rfl hl.1 rfl (lv_room (Nat.le_of_ble_eq_true rfl)) dX8_zero_189 ⟨Nat.zero_le _, Nat.zero_le _⟩) hP hD hS hA rfl (fun H locs hP hD hS => ?_)
      refine g_bne (tgt := 197) hx hb dX8_zero_192 (by decide) (fun c_192 => absurd c_192 (by decide)) (fun c_192 => ?_)
      refine lv_iconst (v := 0) hx hb dX8_zero_195 (by decide) ?_
      exact W.iret (v := 0) hx hb hr (fun t ht hW => ⟨⟨_, wM y h q 2 pn ki on ot ab be zA zB zC zD zF zT fo lw hg at_ tl th wo wl wh is_ lo_ hi_ di su an, rfl, ⟨congrArg (fun z => some (Value.int z)) (rfl), rfl⟩, rfl, by rw [ht]; exact hP⟩, by rw [← hAe]; exact hS.F ht⟩) (by rw [← hAe]; exact hS.2.2) dX8_zero_196
    · skip
      refine lv_iload hx hb dX8_zero_143 (lv_at hl 1 rfl) ?_
      refine lv_if_le (tgt := 157) hx hb dX8_zero_145 (by decide) (fun c_145 => ?_) (fun c_145 => ?_)
      · skip
        refine lv_iconst (v := 0) hx hb dX8_zero_157 (by decide) ?_
        refine lv_istore (lv' := [(11, .int 0), (10, .int (sp_X8_plain a b c0 d0 (f + (1 <<< (hv &&& 31))))), (9, .int (sp_X8_plain a b c0 d0 f)), (8, .int (f + (1 <<< (hv &&& 31)))), (7, .int 1), (0, .ref h), (1, .int a), (2, .int b), (3, .int c0), (4, .int d0), (5, .int f), (6, .int hv)]) hx hb dX8_zero_158 hl (by decide) rfl (fun ls hl => ?_)
        exact absurd hun (by simp only [unl, if_neg c_135, if_neg c_140, if_pos c_145]; decide)
      · skip
        refine lv_iload hx hb dX8_zero_148 (lv_at hl 0 rfl) ?_
        refine lv_if_ge (tgt := 157) hx hb dX8_zero_150 (by decide) (fun c_150 => ?_) (fun c_150 => ?_)
        · skip
          refine lv_iconst (v := 0) hx hb dX8_zero_157 (by decide) ?_
          refine lv_istore (lv' := [(11, .int 0), (10, .int (sp_X8_plain a b c0 d0 (f + (1 <<< (hv &&& 31))))), (9, .int (sp_X8_plain a b c0 d0 f)), (8, .int (f + (1 <<< (hv &&& 31)))), (7, .int 1), (0, .ref h), (1, .int a), (2, .int b), (3, .int c0), (4, .int d0), (5, .int f), (6, .int hv)]) hx hb dX8_zero_158 hl (by decide) rfl (fun ls hl => ?_)
          exact absurd hun (by simp only [unl, if_neg c_135, if_neg c_140, if_neg c_145, if_pos c_150]; decide)
        · skip
          refine lv_iconst (v := 1) hx hb dX8_zero_153 (by decide) ?_
          refine lv_goto (tgt := 158) hx hb dX8_zero_154 (by decide) ?_
          refine lv_istore (lv' := [(11, .int 1), (10, .int (sp_X8_plain a b c0 d0 (f + (1 <<< (hv &&& 31))))), (9, .int (sp_X8_plain a b c0 d0 f)), (8, .int (f + (1 <<< (hv &&& 31)))), (7, .int 1), (0, .ref h), (1, .int a), (2, .int b), (3, .int c0), (4, .int d0), (5, .int f), (6, .int hv)]) hx hb dX8_zero_158 hl (by decide) rfl (fun ls hl => ?_)
          refine lv_aload_n hx hb dX8_zero_160 rfl (lv_at hl 5 rfl) ?_
          refine lv_iload hx hb dX8_zero_161 (lv_at hl 4 rfl) ?_
          refine lv_if_ne (tgt := 170) hx hb dX8_zero_163 (by decide) (fun c_163 => ?_) (fun c_163 => absurd c_163 (by decide))
          refine lv_iload hx hb dX8_zero_170 (lv_at hl 0 rfl) ?_
          refine lv_if_eq (tgt := 184) hx hb dX8_zero_172 (by decide) (fun c_172 => absurd c_172 (by decide)) (fun c_172 => ?_)
          refine lv_aload_n hx hb dX8_zero_175 rfl (lv_at hl 5 rfl) ?_
          refine va_get (D := D) (ci := 6) (v := .int (nI pn)) (C := RX8) (T := TX8) (N := 28) hx hb hts in_X8_zero_X8 hown hK.1 hP 0 rfl rfl 1 (by decide) (hts (.fieldLink RX8 85 "NestlimitModel" "programs" "I") (List.mem_of_getElem? (i := 1) rfl)) (fun _ h9 => h9) rfl dX8_zero_176 ?_
          refine lv_bipush (v := 40) hx hb dX8_zero_179 (by decide) ?_
          refine lv_icmp_ne (tgt := 188) hx hb dX8_zero_181 (by decide) (fun c_181 => absurd hf c_181) (fun c_181 => ?_)
          refine lv_iconst (v := 2) hx hb dX8_zero_184 (by decide) ?_
          refine lv_goto (tgt := 189) hx hb dX8_zero_185 (by decide) ?_
          refine g_callA1 (v0 := .int (gB (sp_X8_holds 2))) (w0 := wM y h q 2 pn ki on ot ab be zA zB zC zD zF zT fo lw hg at_ tl th wo wl wh is_ lo_ hi_ di su an) (va_runV (As := [.int 2]) (rest := []) ⟨hx, hb, hml, hown, hts⟩ (c_X8_holds l D y s.heap.size h q tw pn ki on ot ab be zA zB zC zD zF zT fo lw hg at_ tl th wo wl wh is_ lo_ hi_ di su an 2) (cwV 1 hts gX8_zero_X8_holds rfl rfl rfl (by decide +kernel) ⟨Nat.le_of_ble_eq_true rfl, Nat.le_of_ble_eq_true rfl⟩) (gP_VA hP hD hK 0 rfl rfl) rfl rfl hl.1 rfl (lv_room (Nat.le_of_ble_eq_true rfl)) dX8_zero_189 ⟨Nat.zero_le _, Nat.zero_le _⟩) hP hD hS hA rfl (fun H locs hP hD hS => ?_)
          refine g_bne (tgt := 197) hx hb dX8_zero_192 (by decide) (fun c_192 => absurd c_192 (by decide)) (fun c_192 => ?_)
          refine lv_iconst (v := 0) hx hb dX8_zero_195 (by decide) ?_
          exact W.iret (v := 0) hx hb hr (fun t ht hW => ⟨⟨_, wM y h q 2 pn ki on ot ab be zA zB zC zD zF zT fo lw hg at_ tl th wo wl wh is_ lo_ hi_ di su an, rfl, ⟨congrArg (fun z => some (Value.int z)) (rfl), rfl⟩, rfl, by rw [ht]; exact hP⟩, by rw [← hAe]; exact hS.F ht⟩) (by rw [← hAe]; exact hS.2.2) dX8_zero_196
set_option maxHeartbeats 4000000 in
set_option maxRecDepth 100000 in
theorem c_X8_zero_0 (l : Launch) (D : va_G) (y : Nat → ClassId) (sz : Nat) (h : Nat) (q : Nat → Nat) (tw : Int32) (pn : Nat) (ki on ot ab be zA zB zC zD zF zT : Nat → Int32) (fo : Nat → Bool) (lw hg : Nat → Int64) (at_ : Nat → Bool) (tl th : Nat → Int64) (wo : Nat → Bool) (wl wh : Nat → Int64) (is_ : Bool) (lo_ hi_ : Int64) (di : Nat → Int32) (su : Nat → Int64) (an : Nat → Bool) (a b c0 d0 f hv : Int32) (cF : Nat → Bool) (cL cH : Nat → Int64) (hpn : pn < 40) (hz0 : sp_X8_in a (-9) 9 = true) (hz1 : sp_X8_in b (-9) 9 = true) (hz2 : sp_X8_in c0 (-9) 9 = true) (hz3 : sp_X8_in d0 (-9) 9 = true) (hz4 : sp_X8_in f (-4) 3 = true) (hz5 : sp_X8_in hv 0 2 = true) (hun : unl (sp_X8_plain a b c0 d0 f) (sp_X8_plain a b c0 d0 (f + (1 <<< (hv &&& 31)))) = true) (hcan : ∀ p, p < 25 → ∀ (x1 x2 x3 x4 : Int64), mkOK 8 be (upd zF pn f) (upd zT pn (f + (1 <<< (hv &&& 31)))) pn x1 x2 ∧ mk_is 8 ab be (upd zA pn a) (upd zB pn b) (upd zC pn c0) (upd zD pn d0) (upd zF pn f) (upd zT pn (f + (1 <<< (hv &&& 31)))) x3 x4 pn p x1 x2 x1 x2 = cF p ∧ (cF p = true → mk_lo 8 ab be (upd zA pn a) (upd zB pn b) (upd zC pn c0) (upd zD pn d0) (upd zF pn f) (upd zT pn (f + (1 <<< (hv &&& 31)))) x3 x4 pn p x1 x2 x1 x2 = cL p ∧ mk_hi 8 ab be (upd zA pn a) (upd zB pn b) (upd zC pn c0) (upd zD pn d0) (upd zF pn f) (upd zT pn (f + (1 <<< (hv &&& 31)))) x3 x4 pn p x1 x2 x1 x2 = cH p)) : Met l yX8_zero wsX8_zero ({ frames := 6, cells := 0, slots := 0, locals := 172 } : Room) (gP D y [.ref h, .int a, .int b, .int c0, .int d0, .int f, .int hv] (wM y h q tw pn ki on ot ab be zA zB zC zD zF zT fo lw hg at_ tl th wo wl wh is_ lo_ hi_ di su an) sz) (gQ D (wM y h q tw pn ki on ot ab be zA zB zC zD zF zT fo lw hg at_ tl th wo wl wh is_ lo_ hi_ di su an) (fun v w => ∃ (fo1 : Nat → Bool) (lw1 : Nat → Int64) (hg1 : Nat → Int64) (at1 : Nat → Bool) (tl1 : Nat → Int64) (th1 : Nat → Int64) (is1 : Bool) (lo1 : Int64) (hi1 : Int64), v = some (.int (nI pn)) ∧ w = (wM y h q 0 (pn + 1) (upd ki pn (nI 8)) (upd on pn (-1)) (upd ot pn (-1)) ab be (upd zA pn a) (upd zB pn b) (upd zC pn c0) (upd zD pn d0) (upd zF pn f) (upd zT pn (f + (1 <<< (hv &&& 31)))) fo1 lw1 hg1 at1 tl1 th1 wo wl wh is1 lo1 hi1 di su an) ∧ (adS pn fo fo1 lw hg lw1 hg1 at_ at1 tl th tl1 th1) ∧ (∀ p, p < 25 → adR pn cF cL cH fo1 lw1 hg1 at1 tl1 th1 p))) 0 0 (va_A (wM y h q tw pn ki on ot ab be zA zB zC zD zF zT fo lw hg at_ tl th wo wl wh is_ lo_ hi_ di su an) sz) := by
  refine Met.ofW (cc := cX8_zero) (maxL := 12) (ret := (some .int)) (by decide) rfl ?_
  intro pg e s m args below meth c s₁ B hml hv
  obtain ⟨rfl, hsz, hP, hK, hD0⟩ := hv
  have hx := B.exec
  have hb := B.bytes
  have hr := B.returns
  have hts := atoms_spec (ws := wsX8_zero) B.pre
  have hown : s.vm.findClass RX8 = some m.cls := findClass_of_methodNamed B.named
  have hlocks := B.notSynchronized
  subst hsz
  obtain ⟨A, hAe⟩ : ∃ A : Nat → Prop, A = va_A (wM y h q tw pn ki on ot ab be zA zB zC zD zF zT fo lw hg at_ tl th wo wl wh is_ lo_ hi_ di su an) s.heap.size := ⟨_, rfl⟩
  have hD : va_D A (wM y h q tw pn ki on ot ab be zA zB zC zD zF zT fo lw hg at_ tl th wo wl wh is_ lo_ hi_ di su an) := by rw [hAe]; exact hD0.self (sz := s.heap.size)
  have hA : ∀ q : Nat, s.heap.size ≤ q → A q := fun q h => by rw [hAe]; exact Or.inr h
  have hS : va_S A s.heap s.heap [] := va_S.rf
  have hl := lv_entry ([.ref h, .int a, .int b, .int c0, .int d0, .int f, .int hv]) (n := 12) (Nat.le_of_ble_eq_true rfl)
  rw [lg_entry_eq]
  generalize (lg_sl ([.ref h, .int a, .int b, .int c0, .int d0, .int f, .int hv]) ++ List.replicate (12 - (lg_sl ([.ref h, .int a, .int b, .int c0, .int d0, .int f, .int hv])).length) Slot.unset).toArray = ls at hl ⊢
  have hl : lv_has ls 12 [(0, .ref h), (1, .int a), (2, .int b), (3, .int c0), (4, .int d0), (5, .int f), (6, .int hv)] := hl
  refine lv_iload_n hx hb dX8_zero_0 rfl (lv_at hl 1 rfl) ?_
  refine lv_bipush (v := -9) hx hb dX8_zero_1 (by decide) ?_
  refine lv_bipush (v := 9) hx hb dX8_zero_3 (by decide) ?_
  refine g_callR (v0 := .int (gB (sp_X8_in a (-9) 9))) (va_runS (As := [.int a, .int (-9), .int 9]) (rest := []) ⟨hx, hb, hml, hown, hts⟩ (c_X8_in l D y s.heap.size a (-9) 9) (va_cwS 3 hts gX8_zero_X8_in rfl rfl rfl (by decide +kernel) ⟨Nat.le_of_ble_eq_true rfl, Nat.le_of_ble_eq_true rfl⟩) (gP_S hP hD hK [] (by decide) rfl) rfl rfl hl.1 rfl (lv_room (Nat.le_of_ble_eq_true rfl)) dX8_zero_5 ⟨Nat.zero_le _, Nat.zero_le _⟩) ?_
  refine g_beq (tgt := 70) hx hb dX8_zero_8 (by decide) (fun c_8 => absurd hz0 c_8) (fun c_8 => ?_)
  refine lv_iload_n hx hb dX8_zero_11 rfl (lv_at hl 2 rfl) ?_
  refine lv_bipush (v := -9) hx hb dX8_zero_12 (by decide) ?_
  refine lv_bipush (v := 9) hx hb dX8_zero_14 (by decide) ?_
  refine g_callR (v0 := .int (gB (sp_X8_in b (-9) 9))) (va_runS (As := [.int b, .int (-9), .int 9]) (rest := []) ⟨hx, hb, hml, hown, hts⟩ (c_X8_in l D y s.heap.size b (-9) 9) (va_cwS 3 hts gX8_zero_X8_in rfl rfl rfl (by decide +kernel) ⟨Nat.le_of_ble_eq_true rfl, Nat.le_of_ble_eq_true rfl⟩) (gP_S hP hD hK [] (by decide) rfl) rfl rfl hl.1 rfl (lv_room (Nat.le_of_ble_eq_true rfl)) dX8_zero_16 ⟨Nat.zero_le _, Nat.zero_le _⟩) ?_
  refine g_beq (tgt := 70) hx hb dX8_zero_19 (by decide) (fun c_19 => absurd hz1 c_19) (fun c_19 => ?_)
  refine lv_iload_n hx hb dX8_zero_22 rfl (lv_at hl 3 rfl) ?_
  refine lv_bipush (v := -9) hx hb dX8_zero_23 (by decide) ?_
  refine lv_bipush (v := 9) hx hb dX8_zero_25 (by decide) ?_
  refine g_callR (v0 := .int (gB (sp_X8_in c0 (-9) 9))) (va_runS (As := [.int c0, .int (-9), .int 9]) (rest := []) ⟨hx, hb, hml, hown, hts⟩ (c_X8_in l D y s.heap.size c0 (-9) 9) (va_cwS 3 hts gX8_zero_X8_in rfl rfl rfl (by decide +kernel) ⟨Nat.le_of_ble_eq_true rfl, Nat.le_of_ble_eq_true rfl⟩) (gP_S hP hD hK [] (by decide) rfl) rfl rfl hl.1 rfl (lv_room (Nat.le_of_ble_eq_true rfl)) dX8_zero_27 ⟨Nat.zero_le _, Nat.zero_le _⟩) ?_
  refine g_beq (tgt := 70) hx hb dX8_zero_30 (by decide) (fun c_30 => absurd hz2 c_30) (fun c_30 => ?_)
  refine lv_iload hx hb dX8_zero_33 (lv_at hl 4 rfl) ?_
  refine lv_bipush (v := -9) hx hb dX8_zero_35 (by decide) ?_
  refine lv_bipush (v := 9) hx hb dX8_zero_37 (by decide) ?_
  refine g_callR (v0 := .int (gB (sp_X8_in d0 (-9) 9))) (va_runS (As := [.int d0, .int (-9), .int 9]) (rest := []) ⟨hx, hb, hml, hown, hts⟩ (c_X8_in l D y s.heap.size d0 (-9) 9) (va_cwS 3 hts gX8_zero_X8_in rfl rfl rfl (by decide +kernel) ⟨Nat.le_of_ble_eq_true rfl, Nat.le_of_ble_eq_true rfl⟩) (gP_S hP hD hK [] (by decide) rfl) rfl rfl hl.1 rfl (lv_room (Nat.le_of_ble_eq_true rfl)) dX8_zero_39 ⟨Nat.zero_le _, Nat.zero_le _⟩) ?_
  refine g_beq (tgt := 70) hx hb dX8_zero_42 (by decide) (fun c_42 => absurd hz3 c_42) (fun c_42 => ?_)
  refine lv_iload hx hb dX8_zero_45 (lv_at hl 5 rfl) ?_
  refine lv_bipush (v := -4) hx hb dX8_zero_47 (by decide) ?_
  refine lv_iconst (v := 3) hx hb dX8_zero_49 (by decide) ?_
  refine g_callR (v0 := .int (gB (sp_X8_in f (-4) 3))) (va_runS (As := [.int f, .int (-4), .int 3]) (rest := []) ⟨hx, hb, hml, hown, hts⟩ (c_X8_in l D y s.heap.size f (-4) 3) (va_cwS 3 hts gX8_zero_X8_in rfl rfl rfl (by decide +kernel) ⟨Nat.le_of_ble_eq_true rfl, Nat.le_of_ble_eq_true rfl⟩) (gP_S hP hD hK [] (by decide) rfl) rfl rfl hl.1 rfl (lv_room (Nat.le_of_ble_eq_true rfl)) dX8_zero_50 ⟨Nat.zero_le _, Nat.zero_le _⟩) ?_
  refine g_beq (tgt := 70) hx hb dX8_zero_53 (by decide) (fun c_53 => absurd hz4 c_53) (fun c_53 => ?_)
  refine lv_iload hx hb dX8_zero_56 (lv_at hl 6 rfl) ?_
  refine lv_iconst (v := 0) hx hb dX8_zero_58 (by decide) ?_
  refine lv_iconst (v := 2) hx hb dX8_zero_59 (by decide) ?_
  refine g_callR (v0 := .int (gB (sp_X8_in hv 0 2))) (va_runS (As := [.int hv, .int 0, .int 2]) (rest := []) ⟨hx, hb, hml, hown, hts⟩ (c_X8_in l D y s.heap.size hv 0 2) (va_cwS 3 hts gX8_zero_X8_in rfl rfl rfl (by decide +kernel) ⟨Nat.le_of_ble_eq_true rfl, Nat.le_of_ble_eq_true rfl⟩) (gP_S hP hD hK [] (by decide) rfl) rfl rfl hl.1 rfl (lv_room (Nat.le_of_ble_eq_true rfl)) dX8_zero_60 ⟨Nat.zero_le _, Nat.zero_le _⟩) ?_
  refine g_beq (tgt := 70) hx hb dX8_zero_63 (by decide) (fun c_63 => absurd hz5 c_63) (fun c_63 => ?_)
  refine lv_iconst (v := 1) hx hb dX8_zero_66 (by decide) ?_
  refine lv_goto (tgt := 71) hx hb dX8_zero_67 (by decide) ?_
  refine lv_istore (lv' := [(7, .int 1), (0, .ref h), (1, .int a), (2, .int b), (3, .int c0), (4, .int d0), (5, .int f), (6, .int hv)]) hx hb dX8_zero_71 hl (by decide) rfl (fun ls hl => ?_)
  refine lv_iload hx hb dX8_zero_73 (lv_at hl 0 rfl) ?_
  refine lv_if_eq (tgt := 88) hx hb dX8_zero_75 (by decide) (fun c_75 => absurd c_75 (by decide)) (fun c_75 => ?_)
  refine lv_iload hx hb dX8_zero_78 (lv_at hl 6 rfl) ?_
  refine lv_iconst (v := 1) hx hb dX8_zero_80 (by decide) ?_
  refine lv_iload hx hb dX8_zero_81 (lv_at hl 7 rfl) ?_
  refine lv_ishl hx hb dX8_zero_83 ?_
  refine lv_iadd hx hb dX8_zero_84 ?_
  refine lv_goto (tgt := 89) hx hb dX8_zero_85 (by decide) ?_
  refine lv_istore (lv' := [(8, .int (f + (1 <<< (hv &&& 31)))), (7, .int 1), (0, .ref h), (1, .int a), (2, .int b), (3, .int c0), (4, .int d0), (5, .int f), (6, .int hv)]) hx hb dX8_zero_89 hl (by decide) rfl (fun ls hl => ?_)
  refine lv_iload hx hb dX8_zero_91 (lv_at hl 1 rfl) ?_
  refine lv_if_eq (tgt := 109) hx hb dX8_zero_93 (by decide) (fun c_93 => absurd c_93 (by decide)) (fun c_93 => ?_)
  refine lv_iload_n hx hb dX8_zero_96 rfl (lv_at hl 3 rfl) ?_
  refine lv_iload_n hx hb dX8_zero_97 rfl (lv_at hl 4 rfl) ?_
  refine lv_iload_n hx hb dX8_zero_98 rfl (lv_at hl 5 rfl) ?_
  refine lv_iload hx hb dX8_zero_99 (lv_at hl 6 rfl) ?_
  refine lv_iload hx hb dX8_zero_101 (lv_at hl 7 rfl) ?_
  refine g_callR (v0 := .int (sp_X8_plain a b c0 d0 f)) (va_runS (As := [.int a, .int b, .int c0, .int d0, .int f]) (rest := []) ⟨hx, hb, hml, hown, hts⟩ (c_X8_plain l D y s.heap.size a b c0 d0 f) (va_cwS 5 hts gX8_zero_X8_plain rfl rfl rfl (by decide +kernel) ⟨Nat.le_of_ble_eq_true rfl, Nat.le_of_ble_eq_true rfl⟩) (gP_S hP hD hK [] (by decide) rfl) rfl rfl hl.1 rfl (lv_room (Nat.le_of_ble_eq_true rfl)) dX8_zero_103 ⟨Nat.zero_le _, Nat.zero_le _⟩) ?_
  refine lv_goto (tgt := 110) hx hb dX8_zero_106 (by decide) ?_
  refine lv_istore (lv' := [(9, .int (sp_X8_plain a b c0 d0 f)), (8, .int (f + (1 <<< (hv &&& 31)))), (7, .int 1), (0, .ref h), (1, .int a), (2, .int b), (3, .int c0), (4, .int d0), (5, .int f), (6, .int hv)]) hx hb dX8_zero_110 hl (by decide) rfl (fun ls hl => ?_)
  refine lv_iload hx hb dX8_zero_112 (lv_at hl 2 rfl) ?_
  refine lv_if_eq (tgt := 130) hx hb dX8_zero_114 (by decide) (fun c_114 => absurd c_114 (by decide)) (fun c_114 => ?_)
  refine lv_iload_n hx hb dX8_zero_117 rfl (lv_at hl 4 rfl) ?_
  refine lv_iload_n hx hb dX8_zero_118 rfl (lv_at hl 5 rfl) ?_
  refine lv_iload_n hx hb dX8_zero_119 rfl (lv_at hl 6 rfl) ?_
  refine lv_iload hx hb dX8_zero_120 (lv_at hl 7 rfl) ?_
  refine lv_iload hx hb dX8_zero_122 (lv_at hl 1 rfl) ?_
  refine g_callR (v0 := .int (sp_X8_plain a b c0 d0 (f + (1 <<< (hv &&& 31))))) (va_runS (As := [.int a, .int b, .int c0, .int d0, .int (f + (1 <<< (hv &&& 31)))]) (rest := []) ⟨hx, hb, hml, hown, hts⟩ (c_X8_plain l D y s.heap.size a b c0 d0 (f + (1 <<< (hv &&& 31)))) (va_cwS 5 hts gX8_zero_X8_plain rfl rfl rfl (by decide +kernel) ⟨Nat.le_of_ble_eq_true rfl, Nat.le_of_ble_eq_true rfl⟩) (gP_S hP hD hK [] (by decide) rfl) rfl rfl hl.1 rfl (lv_room (Nat.le_of_ble_eq_true rfl)) dX8_zero_124 ⟨Nat.zero_le _, Nat.zero_le _⟩) ?_
  refine lv_goto (tgt := 131) hx hb dX8_zero_127 (by decide) ?_
  refine lv_istore (lv' := [(10, .int (sp_X8_plain a b c0 d0 (f + (1 <<< (hv &&& 31))))), (9, .int (sp_X8_plain a b c0 d0 f)), (8, .int (f + (1 <<< (hv &&& 31)))), (7, .int 1), (0, .ref h), (1, .int a), (2, .int b), (3, .int c0), (4, .int d0), (5, .int f), (6, .int hv)]) hx hb dX8_zero_131 hl (by decide) rfl (fun ls hl => ?_)
  refine lv_iload hx hb dX8_zero_133 (lv_at hl 1 rfl) ?_
  refine lv_if_ge (tgt := 143) hx hb dX8_zero_135 (by decide) (fun c_135 => ?_) (fun c_135 => ?_)
  · skip
    refine lv_iload hx hb dX8_zero_143 (lv_at hl 1 rfl) ?_
    refine lv_if_le (tgt := 157) hx hb dX8_zero_145 (by decide) (fun c_145 => ?_) (fun c_145 => ?_)
    · skip
      refine lv_iconst (v := 0) hx hb dX8_zero_157 (by decide) ?_
      refine lv_istore (lv' := [(11, .int 0), (10, .int (sp_X8_plain a b c0 d0 (f + (1 <<< (hv &&& 31))))), (9, .int (sp_X8_plain a b c0 d0 f)), (8, .int (f + (1 <<< (hv &&& 31)))), (7, .int 1), (0, .ref h), (1, .int a), (2, .int b), (3, .int c0), (4, .int d0), (5, .int f), (6, .int hv)]) hx hb dX8_zero_158 hl (by decide) rfl (fun ls hl => ?_)
      exact absurd hun (by simp only [unl, if_pos c_135, if_pos c_145]; decide)
    · skip
      refine lv_iload hx hb dX8_zero_148 (lv_at hl 0 rfl) ?_
      refine lv_if_ge (tgt := 157) hx hb dX8_zero_150 (by decide) (fun c_150 => ?_) (fun c_150 => ?_)
      · skip
        refine lv_iconst (v := 0) hx hb dX8_zero_157 (by decide) ?_
        refine lv_istore (lv' := [(11, .int 0), (10, .int (sp_X8_plain a b c0 d0 (f + (1 <<< (hv &&& 31))))), (9, .int (sp_X8_plain a b c0 d0 f)), (8, .int (f + (1 <<< (hv &&& 31)))), (7, .int 1), (0, .ref h), (1, .int a), (2, .int b), (3, .int c0), (4, .int d0), (5, .int f), (6, .int hv)]) hx hb dX8_zero_158 hl (by decide) rfl (fun ls hl => ?_)
        exact absurd hun (by simp only [unl, if_pos c_135, if_neg c_145, if_pos c_150]; decide)
      · skip
        refine lv_iconst (v := 1) hx hb dX8_zero_153 (by decide) ?_
        refine lv_goto (tgt := 158) hx hb dX8_zero_154 (by decide) ?_
        refine lv_istore (lv' := [(11, .int 1), (10, .int (sp_X8_plain a b c0 d0 (f + (1 <<< (hv &&& 31))))), (9, .int (sp_X8_plain a b c0 d0 f)), (8, .int (f + (1 <<< (hv &&& 31)))), (7, .int 1), (0, .ref h), (1, .int a), (2, .int b), (3, .int c0), (4, .int d0), (5, .int f), (6, .int hv)]) hx hb dX8_zero_158 hl (by decide) rfl (fun ls hl => ?_)
        refine lv_aload_n hx hb dX8_zero_160 rfl (lv_at hl 5 rfl) ?_
        refine lv_iload hx hb dX8_zero_161 (lv_at hl 4 rfl) ?_
        refine lv_if_ne (tgt := 170) hx hb dX8_zero_163 (by decide) (fun c_163 => ?_) (fun c_163 => absurd c_163 (by decide))
        refine lv_iload hx hb dX8_zero_170 (lv_at hl 0 rfl) ?_
        refine lv_if_eq (tgt := 184) hx hb dX8_zero_172 (by decide) (fun c_172 => absurd c_172 (by decide)) (fun c_172 => ?_)
        refine lv_aload_n hx hb dX8_zero_175 rfl (lv_at hl 5 rfl) ?_
        refine va_get (D := D) (ci := 6) (v := .int (nI pn)) (C := RX8) (T := TX8) (N := 28) hx hb hts in_X8_zero_X8 hown hK.1 hP 0 rfl rfl 1 (by decide) (hts (.fieldLink RX8 85 "NestlimitModel" "programs" "I") (List.mem_of_getElem? (i := 1) rfl)) (fun _ h9 => h9) rfl dX8_zero_176 ?_
        refine lv_bipush (v := 40) hx hb dX8_zero_179 (by decide) ?_
        refine lv_icmp_ne (tgt := 188) hx hb dX8_zero_181 (by decide) (fun c_181 => ?_) (fun c_181 => absurd c_181 (g_n40 hpn))
        refine lv_iconst (v := 0) hx hb dX8_zero_188 (by decide) ?_
        refine g_callA1 (v0 := .int (gB (sp_X8_holds 0))) (w0 := wM y h q 0 pn ki on ot ab be zA zB zC zD zF zT fo lw hg at_ tl th wo wl wh is_ lo_ hi_ di su an) (va_runV (As := [.int 0]) (rest := []) ⟨hx, hb, hml, hown, hts⟩ (c_X8_holds l D y s.heap.size h q tw pn ki on ot ab be zA zB zC zD zF zT fo lw hg at_ tl th wo wl wh is_ lo_ hi_ di su an 0) (cwV 1 hts gX8_zero_X8_holds rfl rfl rfl (by decide +kernel) ⟨Nat.le_of_ble_eq_true rfl, Nat.le_of_ble_eq_true rfl⟩) (gP_VA hP hD hK 0 rfl rfl) rfl rfl hl.1 rfl (lv_room (Nat.le_of_ble_eq_true rfl)) dX8_zero_189 ⟨Nat.zero_le _, Nat.zero_le _⟩) hP hD hS hA rfl (fun H locs hP hD hS => ?_)
        refine g_bne (tgt := 197) hx hb dX8_zero_192 (by decide) (fun c_192 => ?_) (fun c_192 => absurd (by decide) c_192)
        refine lv_aload_n hx hb dX8_zero_197 rfl (lv_at hl 5 rfl) ?_
        refine va_get (D := D) (ci := 6) (v := .ref (q 7)) (C := RX8) (T := TX8) (N := 28) hx hb hts in_X8_zero_X8 hown hK.1 hP 0 rfl rfl 7 (by decide) (hts (.fieldLink RX8 25 "NestlimitModel" "zeroA" "[I") (List.mem_of_getElem? (i := 2) rfl)) (fun _ h9 => h9) rfl dX8_zero_198 ?_
        refine lv_aload_n hx hb dX8_zero_201 rfl (lv_at hl 5 rfl) ?_
        refine va_get (D := D) (ci := 6) (v := .int (nI pn)) (C := RX8) (T := TX8) (N := 28) hx hb hts in_X8_zero_X8 hown hK.1 hP 0 rfl rfl 1 (by decide) (hts (.fieldLink RX8 85 "NestlimitModel" "programs" "I") (List.mem_of_getElem? (i := 1) rfl)) (fun _ h9 => h9) rfl dX8_zero_202 ?_
        refine lv_iload_n hx hb dX8_zero_205 rfl (lv_at hl 6 rfl) ?_
        refine g_iast (k := pn) (x := a) hx hb hK.1 hP hD hS 6 0 rfl rfl (hpn) (by decide) dX8_zero_206 (fun H locs hP hD hS => ?_)
        have hP : va_P D vwCl (wM y h q 0 pn ki on ot ab be (upd zA pn a) zB zC zD zF zT fo lw hg at_ tl th wo wl wh is_ lo_ hi_ di su an) H := hP
        have hD : va_D A (wM y h q 0 pn ki on ot ab be (upd zA pn a) zB zC zD zF zT fo lw hg at_ tl th wo wl wh is_ lo_ hi_ di su an) := hD
        refine lv_aload_n hx hb dX8_zero_207 rfl (lv_at hl 5 rfl) ?_
        refine va_get (D := D) (ci := 6) (v := .ref (q 8)) (C := RX8) (T := TX8) (N := 28) hx hb hts in_X8_zero_X8 hown hK.1 hP 0 rfl rfl 8 (by decide) (hts (.fieldLink RX8 28 "NestlimitModel" "zeroB" "[I") (List.mem_of_getElem? (i := 3) rfl)) (fun _ h9 => h9) rfl dX8_zero_208 ?_
        refine lv_aload_n hx hb dX8_zero_211 rfl (lv_at hl 5 rfl) ?_
        refine va_get (D := D) (ci := 6) (v := .int (nI pn)) (C := RX8) (T := TX8) (N := 28) hx hb hts in_X8_zero_X8 hown hK.1 hP 0 rfl rfl 1 (by decide) (hts (.fieldLink RX8 85 "NestlimitModel" "programs" "I") (List.mem_of_getElem? (i := 1) rfl)) (fun _ h9 => h9) rfl dX8_zero_212 ?_
        refine lv_iload_n hx hb dX8_zero_215 rfl (lv_at hl 7 rfl) ?_
        refine g_iast (k := pn) (x := b) hx hb hK.1 hP hD hS 7 0 rfl rfl (hpn) (by decide) dX8_zero_216 (fun H locs hP hD hS => ?_)
        have hP : va_P D vwCl (wM y h q 0 pn ki on ot ab be (upd zA pn a) (upd zB pn b) zC zD zF zT fo lw hg at_ tl th wo wl wh is_ lo_ hi_ di su an) H := hP
        have hD : va_D A (wM y h q 0 pn ki on ot ab be (upd zA pn a) (upd zB pn b) zC zD zF zT fo lw hg at_ tl th wo wl wh is_ lo_ hi_ di su an) := hD
        refine lv_aload_n hx hb dX8_zero_217 rfl (lv_at hl 5 rfl) ?_
        refine va_get (D := D) (ci := 6) (v := .ref (q 9)) (C := RX8) (T := TX8) (N := 28) hx hb hts in_X8_zero_X8 hown hK.1 hP 0 rfl rfl 9 (by decide) (hts (.fieldLink RX8 31 "NestlimitModel" "zeroC" "[I") (List.mem_of_getElem? (i := 4) rfl)) (fun _ h9 => h9) rfl dX8_zero_218 ?_
        refine lv_aload_n hx hb dX8_zero_221 rfl (lv_at hl 5 rfl) ?_
        refine va_get (D := D) (ci := 6) (v := .int (nI pn)) (C := RX8) (T := TX8) (N := 28) hx hb hts in_X8_zero_X8 hown hK.1 hP 0 rfl rfl 1 (by decide) (hts (.fieldLink RX8 85 "NestlimitModel" "programs" "I") (List.mem_of_getElem? (i := 1) rfl)) (fun _ h9 => h9) rfl dX8_zero_222 ?_
        refine lv_iload_n hx hb dX8_zero_225 rfl (lv_at hl 8 rfl) ?_
        refine g_iast (k := pn) (x := c0) hx hb hK.1 hP hD hS 8 0 rfl rfl (hpn) (by decide) dX8_zero_226 (fun H locs hP hD hS => ?_)
        have hP : va_P D vwCl (wM y h q 0 pn ki on ot ab be (upd zA pn a) (upd zB pn b) (upd zC pn c0) zD zF zT fo lw hg at_ tl th wo wl wh is_ lo_ hi_ di su an) H := hP
        have hD : va_D A (wM y h q 0 pn ki on ot ab be (upd zA pn a) (upd zB pn b) (upd zC pn c0) zD zF zT fo lw hg at_ tl th wo wl wh is_ lo_ hi_ di su an) := hD
        refine lv_aload_n hx hb dX8_zero_227 rfl (lv_at hl 5 rfl) ?_
        refine va_get (D := D) (ci := 6) (v := .ref (q 10)) (C := RX8) (T := TX8) (N := 28) hx hb hts in_X8_zero_X8 hown hK.1 hP 0 rfl rfl 10 (by decide) (hts (.fieldLink RX8 34 "NestlimitModel" "zeroD" "[I") (List.mem_of_getElem? (i := 5) rfl)) (fun _ h9 => h9) rfl dX8_zero_228 ?_
        refine lv_aload_n hx hb dX8_zero_231 rfl (lv_at hl 5 rfl) ?_
        refine va_get (D := D) (ci := 6) (v := .int (nI pn)) (C := RX8) (T := TX8) (N := 28) hx hb hts in_X8_zero_X8 hown hK.1 hP 0 rfl rfl 1 (by decide) (hts (.fieldLink RX8 85 "NestlimitModel" "programs" "I") (List.mem_of_getElem? (i := 1) rfl)) (fun _ h9 => h9) rfl dX8_zero_232 ?_
        refine lv_iload hx hb dX8_zero_235 (lv_at hl 9 rfl) ?_
        refine g_iast (k := pn) (x := d0) hx hb hK.1 hP hD hS 9 0 rfl rfl (hpn) (by decide) dX8_zero_237 (fun H locs hP hD hS => ?_)
        have hP : va_P D vwCl (wM y h q 0 pn ki on ot ab be (upd zA pn a) (upd zB pn b) (upd zC pn c0) (upd zD pn d0) zF zT fo lw hg at_ tl th wo wl wh is_ lo_ hi_ di su an) H := hP
        have hD : va_D A (wM y h q 0 pn ki on ot ab be (upd zA pn a) (upd zB pn b) (upd zC pn c0) (upd zD pn d0) zF zT fo lw hg at_ tl th wo wl wh is_ lo_ hi_ di su an) := hD
        refine lv_aload_n hx hb dX8_zero_238 rfl (lv_at hl 5 rfl) ?_
        refine va_get (D := D) (ci := 6) (v := .ref (q 11)) (C := RX8) (T := TX8) (N := 28) hx hb hts in_X8_zero_X8 hown hK.1 hP 0 rfl rfl 11 (by decide) (hts (.fieldLink RX8 37 "NestlimitModel" "zeroFrom" "[I") (List.mem_of_getElem? (i := 6) rfl)) (fun _ h9 => h9) rfl dX8_zero_239 ?_
        refine lv_aload_n hx hb dX8_zero_242 rfl (lv_at hl 5 rfl) ?_
        refine va_get (D := D) (ci := 6) (v := .int (nI pn)) (C := RX8) (T := TX8) (N := 28) hx hb hts in_X8_zero_X8 hown hK.1 hP 0 rfl rfl 1 (by decide) (hts (.fieldLink RX8 85 "NestlimitModel" "programs" "I") (List.mem_of_getElem? (i := 1) rfl)) (fun _ h9 => h9) rfl dX8_zero_243 ?_
        refine lv_iload hx hb dX8_zero_246 (lv_at hl 10 rfl) ?_
        refine g_iast (k := pn) (x := f) hx hb hK.1 hP hD hS 10 0 rfl rfl (hpn) (by decide) dX8_zero_248 (fun H locs hP hD hS => ?_)
        have hP : va_P D vwCl (wM y h q 0 pn ki on ot ab be (upd zA pn a) (upd zB pn b) (upd zC pn c0) (upd zD pn d0) (upd zF pn f) zT fo lw hg at_ tl th wo wl wh is_ lo_ hi_ di su an) H := hP
        have hD : va_D A (wM y h q 0 pn ki on ot ab be (upd zA pn a) (upd zB pn b) (upd zC pn c0) (upd zD pn d0) (upd zF pn f) zT fo lw hg at_ tl th wo wl wh is_ lo_ hi_ di su an) := hD
        refine lv_aload_n hx hb dX8_zero_249 rfl (lv_at hl 5 rfl) ?_
        refine va_get (D := D) (ci := 6) (v := .ref (q 12)) (C := RX8) (T := TX8) (N := 28) hx hb hts in_X8_zero_X8 hown hK.1 hP 0 rfl rfl 12 (by decide) (hts (.fieldLink RX8 40 "NestlimitModel" "zeroTo" "[I") (List.mem_of_getElem? (i := 7) rfl)) (fun _ h9 => h9) rfl dX8_zero_250 ?_
        refine lv_aload_n hx hb dX8_zero_253 rfl (lv_at hl 5 rfl) ?_
        refine va_get (D := D) (ci := 6) (v := .int (nI pn)) (C := RX8) (T := TX8) (N := 28) hx hb hts in_X8_zero_X8 hown hK.1 hP 0 rfl rfl 1 (by decide) (hts (.fieldLink RX8 85 "NestlimitModel" "programs" "I") (List.mem_of_getElem? (i := 1) rfl)) (fun _ h9 => h9) rfl dX8_zero_254 ?_
        refine lv_iload hx hb dX8_zero_257 (lv_at hl 3 rfl) ?_
        refine g_iast (k := pn) (x := f + (1 <<< (hv &&& 31))) hx hb hK.1 hP hD hS 11 0 rfl rfl (hpn) (by decide) dX8_zero_259 (fun H locs hP hD hS => ?_)
        have hP : va_P D vwCl (wM y h q 0 pn ki on ot ab be (upd zA pn a) (upd zB pn b) (upd zC pn c0) (upd zD pn d0) (upd zF pn f) (upd zT pn (f + (1 <<< (hv &&& 31)))) fo lw hg at_ tl th wo wl wh is_ lo_ hi_ di su an) H := hP
        have hD : va_D A (wM y h q 0 pn ki on ot ab be (upd zA pn a) (upd zB pn b) (upd zC pn c0) (upd zD pn d0) (upd zF pn f) (upd zT pn (f + (1 <<< (hv &&& 31)))) fo lw hg at_ tl th wo wl wh is_ lo_ hi_ di su an) := hD
        refine lv_aload_n hx hb dX8_zero_260 rfl (lv_at hl 5 rfl) ?_
        refine lv_bipush (v := 8) hx hb dX8_zero_261 (by decide) ?_
        refine lv_iconst (v := -1) hx hb dX8_zero_263 (by decide) ?_
        refine lv_iconst (v := -1) hx hb dX8_zero_264 (by decide) ?_
        refine g_callA (va_runV (As := [.int 8, .int (-1), .int (-1)]) (rest := []) ⟨hx, hb, hml, hown, hts⟩ (c_X8_adds_0 l D y H.size h q 0 pn ki on ot ab be (upd zA pn a) (upd zB pn b) (upd zC pn c0) (upd zD pn d0) (upd zF pn f) (upd zT pn (f + (1 <<< (hv &&& 31)))) fo lw hg at_ tl th wo wl wh is_ lo_ hi_ di su an 8 cF cL cH hpn (by decide) hcan) (cwV 3 hts gX8_zero_X8_adds rfl rfl rfl (by decide +kernel) ⟨Nat.le_of_ble_eq_true rfl, Nat.le_of_ble_eq_true rfl⟩) (gP_VA hP hD hK 0 rfl rfl) rfl rfl hl.1 rfl (lv_room (Nat.le_of_ble_eq_true rfl)) dX8_zero_265 ⟨Nat.zero_le _, Nat.zero_le _⟩) hP hD hS hA (fun v w1 H locs hf hP hD hS => ?_)
        obtain ⟨fo1_265, lw1_265, hg1_265, at1_265, tl1_265, th1_265, is1_265, lo1_265, hi1_265, rfl, rfl, h265_0, h265_1⟩ := hf
        have hP : va_P D vwCl (wM y h q 0 (pn + 1) (upd ki pn (nI 8)) (upd on pn (-1)) (upd ot pn (-1)) ab be (upd zA pn a) (upd zB pn b) (upd zC pn c0) (upd zD pn d0) (upd zF pn f) (upd zT pn (f + (1 <<< (hv &&& 31)))) fo1_265 lw1_265 hg1_265 at1_265 tl1_265 th1_265 wo wl wh is1_265 lo1_265 hi1_265 di su an) H := hP
        have hD : va_D A (wM y h q 0 (pn + 1) (upd ki pn (nI 8)) (upd on pn (-1)) (upd ot pn (-1)) ab be (upd zA pn a) (upd zB pn b) (upd zC pn c0) (upd zD pn d0) (upd zF pn f) (upd zT pn (f + (1 <<< (hv &&& 31)))) fo1_265 lw1_265 hg1_265 at1_265 tl1_265 th1_265 wo wl wh is1_265 lo1_265 hi1_265 di su an) := hD
        exact W.iret (v := nI pn) hx hb hr (fun t ht hW => ⟨⟨some (.int (nI pn)), wM y h q 0 (pn + 1) (upd ki pn (nI 8)) (upd on pn (-1)) (upd ot pn (-1)) ab be (upd zA pn a) (upd zB pn b) (upd zC pn c0) (upd zD pn d0) (upd zF pn f) (upd zT pn (f + (1 <<< (hv &&& 31)))) fo1_265 lw1_265 hg1_265 at1_265 tl1_265 th1_265 wo wl wh is1_265 lo1_265 hi1_265 di su an, rfl, ⟨fo1_265, lw1_265, hg1_265, at1_265, tl1_265, th1_265, is1_265, lo1_265, hi1_265, rfl, rfl, h265_0, h265_1⟩, rfl, by rw [ht]; exact hP⟩, by rw [← hAe]; exact hS.F ht⟩) (by rw [← hAe]; exact hS.2.2) dX8_zero_268
  · skip
    refine lv_iload hx hb dX8_zero_138 (lv_at hl 0 rfl) ?_
    refine lv_if_gt (tgt := 153) hx hb dX8_zero_140 (by decide) (fun c_140 => ?_) (fun c_140 => ?_)
    · skip
      refine lv_iconst (v := 1) hx hb dX8_zero_153 (by decide) ?_
      refine lv_goto (tgt := 158) hx hb dX8_zero_154 (by decide) ?_
      refine lv_istore (lv' := [(11, .int 1), (10, .int (sp_X8_plain a b c0 d0 (f + (1 <<< (hv &&& 31))))), (9, .int (sp_X8_plain a b c0 d0 f)), (8, .int (f + (1 <<< (hv &&& 31)))), (7, .int 1), (0, .ref h), (1, .int a), (2, .int b), (3, .int c0), (4, .int d0), (5, .int f), (6, .int hv)]) hx hb dX8_zero_158 hl (by decide) rfl (fun ls hl => ?_)
      refine lv_aload_n hx hb dX8_zero_160 rfl (lv_at hl 5 rfl) ?_
      refine lv_iload hx hb dX8_zero_161 (lv_at hl 4 rfl) ?_
      refine lv_if_ne (tgt := 170) hx hb dX8_zero_163 (by decide) (fun c_163 => ?_) (fun c_163 => absurd c_163 (by decide))
      refine lv_iload hx hb dX8_zero_170 (lv_at hl 0 rfl) ?_
      refine lv_if_eq (tgt := 184) hx hb dX8_zero_172 (by decide) (fun c_172 => absurd c_172 (by decide)) (fun c_172 => ?_)
      refine lv_aload_n hx hb dX8_zero_175 rfl (lv_at hl 5 rfl) ?_
      refine va_get (D := D) (ci := 6) (v := .int (nI pn)) (C := RX8) (T := TX8) (N := 28) hx hb hts in_X8_zero_X8 hown hK.1 hP 0 rfl rfl 1 (by decide) (hts (.fieldLink RX8 85 "NestlimitModel" "programs" "I") (List.mem_of_getElem? (i := 1) rfl)) (fun _ h9 => h9) rfl dX8_zero_176 ?_
      refine lv_bipush (v := 40) hx hb dX8_zero_179 (by decide) ?_
      refine lv_icmp_ne (tgt := 188) hx hb dX8_zero_181 (by decide) (fun c_181 => ?_) (fun c_181 => absurd c_181 (g_n40 hpn))
      refine lv_iconst (v := 0) hx hb dX8_zero_188 (by decide) ?_
      refine g_callA1 (v0 := .int (gB (sp_X8_holds 0))) (w0 := wM y h q 0 pn ki on ot ab be zA zB zC zD zF zT fo lw hg at_ tl th wo wl wh is_ lo_ hi_ di su an) (va_runV (As := [.int 0]) (rest := []) ⟨hx, hb, hml, hown, hts⟩ (c_X8_holds l D y s.heap.size h q tw pn ki on ot ab be zA zB zC zD zF zT fo lw hg at_ tl th wo wl wh is_ lo_ hi_ di su an 0) (cwV 1 hts gX8_zero_X8_holds rfl rfl rfl (by decide +kernel) ⟨Nat.le_of_ble_eq_true rfl, Nat.le_of_ble_eq_true rfl⟩) (gP_VA hP hD hK 0 rfl rfl) rfl rfl hl.1 rfl (lv_room (Nat.le_of_ble_eq_true rfl)) dX8_zero_189 ⟨Nat.zero_le _, Nat.zero_le _⟩) hP hD hS hA rfl (fun H locs hP hD hS => ?_)
      refine g_bne (tgt := 197) hx hb dX8_zero_192 (by decide) (fun c_192 => ?_) (fun c_192 => absurd (by decide) c_192)
      refine lv_aload_n hx hb dX8_zero_197 rfl (lv_at hl 5 rfl) ?_
      refine va_get (D := D) (ci := 6) (v := .ref (q 7)) (C := RX8) (T := TX8) (N := 28) hx hb hts in_X8_zero_X8 hown hK.1 hP 0 rfl rfl 7 (by decide) (hts (.fieldLink RX8 25 "NestlimitModel" "zeroA" "[I") (List.mem_of_getElem? (i := 2) rfl)) (fun _ h9 => h9) rfl dX8_zero_198 ?_
      refine lv_aload_n hx hb dX8_zero_201 rfl (lv_at hl 5 rfl) ?_
      refine va_get (D := D) (ci := 6) (v := .int (nI pn)) (C := RX8) (T := TX8) (N := 28) hx hb hts in_X8_zero_X8 hown hK.1 hP 0 rfl rfl 1 (by decide) (hts (.fieldLink RX8 85 "NestlimitModel" "programs" "I") (List.mem_of_getElem? (i := 1) rfl)) (fun _ h9 => h9) rfl dX8_zero_202 ?_
      refine lv_iload_n hx hb dX8_zero_205 rfl (lv_at hl 6 rfl) ?_
      refine g_iast (k := pn) (x := a) hx hb hK.1 hP hD hS 6 0 rfl rfl (hpn) (by decide) dX8_zero_206 (fun H locs hP hD hS => ?_)
      have hP : va_P D vwCl (wM y h q 0 pn ki on ot ab be (upd zA pn a) zB zC zD zF zT fo lw hg at_ tl th wo wl wh is_ lo_ hi_ di su an) H := hP
      have hD : va_D A (wM y h q 0 pn ki on ot ab be (upd zA pn a) zB zC zD zF zT fo lw hg at_ tl th wo wl wh is_ lo_ hi_ di su an) := hD
      refine lv_aload_n hx hb dX8_zero_207 rfl (lv_at hl 5 rfl) ?_
      refine va_get (D := D) (ci := 6) (v := .ref (q 8)) (C := RX8) (T := TX8) (N := 28) hx hb hts in_X8_zero_X8 hown hK.1 hP 0 rfl rfl 8 (by decide) (hts (.fieldLink RX8 28 "NestlimitModel" "zeroB" "[I") (List.mem_of_getElem? (i := 3) rfl)) (fun _ h9 => h9) rfl dX8_zero_208 ?_
      refine lv_aload_n hx hb dX8_zero_211 rfl (lv_at hl 5 rfl) ?_
      refine va_get (D := D) (ci := 6) (v := .int (nI pn)) (C := RX8) (T := TX8) (N := 28) hx hb hts in_X8_zero_X8 hown hK.1 hP 0 rfl rfl 1 (by decide) (hts (.fieldLink RX8 85 "NestlimitModel" "programs" "I") (List.mem_of_getElem? (i := 1) rfl)) (fun _ h9 => h9) rfl dX8_zero_212 ?_
      refine lv_iload_n hx hb dX8_zero_215 rfl (lv_at hl 7 rfl) ?_
      refine g_iast (k := pn) (x := b) hx hb hK.1 hP hD hS 7 0 rfl rfl (hpn) (by decide) dX8_zero_216 (fun H locs hP hD hS => ?_)
      have hP : va_P D vwCl (wM y h q 0 pn ki on ot ab be (upd zA pn a) (upd zB pn b) zC zD zF zT fo lw hg at_ tl th wo wl wh is_ lo_ hi_ di su an) H := hP
      have hD : va_D A (wM y h q 0 pn ki on ot ab be (upd zA pn a) (upd zB pn b) zC zD zF zT fo lw hg at_ tl th wo wl wh is_ lo_ hi_ di su an) := hD
      refine lv_aload_n hx hb dX8_zero_217 rfl (lv_at hl 5 rfl) ?_
      refine va_get (D := D) (ci := 6) (v := .ref (q 9)) (C := RX8) (T := TX8) (N := 28) hx hb hts in_X8_zero_X8 hown hK.1 hP 0 rfl rfl 9 (by decide) (hts (.fieldLink RX8 31 "NestlimitModel" "zeroC" "[I") (List.mem_of_getElem? (i := 4) rfl)) (fun _ h9 => h9) rfl dX8_zero_218 ?_
      refine lv_aload_n hx hb dX8_zero_221 rfl (lv_at hl 5 rfl) ?_
      refine va_get (D := D) (ci := 6) (v := .int (nI pn)) (C := RX8) (T := TX8) (N := 28) hx hb hts in_X8_zero_X8 hown hK.1 hP 0 rfl rfl 1 (by decide) (hts (.fieldLink RX8 85 "NestlimitModel" "programs" "I") (List.mem_of_getElem? (i := 1) rfl)) (fun _ h9 => h9) rfl dX8_zero_222 ?_
      refine lv_iload_n hx hb dX8_zero_225 rfl (lv_at hl 8 rfl) ?_
      refine g_iast (k := pn) (x := c0) hx hb hK.1 hP hD hS 8 0 rfl rfl (hpn) (by decide) dX8_zero_226 (fun H locs hP hD hS => ?_)
      have hP : va_P D vwCl (wM y h q 0 pn ki on ot ab be (upd zA pn a) (upd zB pn b) (upd zC pn c0) zD zF zT fo lw hg at_ tl th wo wl wh is_ lo_ hi_ di su an) H := hP
      have hD : va_D A (wM y h q 0 pn ki on ot ab be (upd zA pn a) (upd zB pn b) (upd zC pn c0) zD zF zT fo lw hg at_ tl th wo wl wh is_ lo_ hi_ di su an) := hD
      refine lv_aload_n hx hb dX8_zero_227 rfl (lv_at hl 5 rfl) ?_
      refine va_get (D := D) (ci := 6) (v := .ref (q 10)) (C := RX8) (T := TX8) (N := 28) hx hb hts in_X8_zero_X8 hown hK.1 hP 0 rfl rfl 10 (by decide) (hts (.fieldLink RX8 34 "NestlimitModel" "zeroD" "[I") (List.mem_of_getElem? (i := 5) rfl)) (fun _ h9 => h9) rfl dX8_zero_228 ?_
      refine lv_aload_n hx hb dX8_zero_231 rfl (lv_at hl 5 rfl) ?_
      refine va_get (D := D) (ci := 6) (v := .int (nI pn)) (C := RX8) (T := TX8) (N := 28) hx hb hts in_X8_zero_X8 hown hK.1 hP 0 rfl rfl 1 (by decide) (hts (.fieldLink RX8 85 "NestlimitModel" "programs" "I") (List.mem_of_getElem? (i := 1) rfl)) (fun _ h9 => h9) rfl dX8_zero_232 ?_
      refine lv_iload hx hb dX8_zero_235 (lv_at hl 9 rfl) ?_
      refine g_iast (k := pn) (x := d0) hx hb hK.1 hP hD hS 9 0 rfl rfl (hpn) (by decide) dX8_zero_237 (fun H locs hP hD hS => ?_)
      have hP : va_P D vwCl (wM y h q 0 pn ki on ot ab be (upd zA pn a) (upd zB pn b) (upd zC pn c0) (upd zD pn d0) zF zT fo lw hg at_ tl th wo wl wh is_ lo_ hi_ di su an) H := hP
      have hD : va_D A (wM y h q 0 pn ki on ot ab be (upd zA pn a) (upd zB pn b) (upd zC pn c0) (upd zD pn d0) zF zT fo lw hg at_ tl th wo wl wh is_ lo_ hi_ di su an) := hD
      refine lv_aload_n hx hb dX8_zero_238 rfl (lv_at hl 5 rfl) ?_
      refine va_get (D := D) (ci := 6) (v := .ref (q 11)) (C := RX8) (T := TX8) (N := 28) hx hb hts in_X8_zero_X8 hown hK.1 hP 0 rfl rfl 11 (by decide) (hts (.fieldLink RX8 37 "NestlimitModel" "zeroFrom" "[I") (List.mem_of_getElem? (i := 6) rfl)) (fun _ h9 => h9) rfl dX8_zero_239 ?_
      refine lv_aload_n hx hb dX8_zero_242 rfl (lv_at hl 5 rfl) ?_
      refine va_get (D := D) (ci := 6) (v := .int (nI pn)) (C := RX8) (T := TX8) (N := 28) hx hb hts in_X8_zero_X8 hown hK.1 hP 0 rfl rfl 1 (by decide) (hts (.fieldLink RX8 85 "NestlimitModel" "programs" "I") (List.mem_of_getElem? (i := 1) rfl)) (fun _ h9 => h9) rfl dX8_zero_243 ?_
      refine lv_iload hx hb dX8_zero_246 (lv_at hl 10 rfl) ?_
      refine g_iast (k := pn) (x := f) hx hb hK.1 hP hD hS 10 0 rfl rfl (hpn) (by decide) dX8_zero_248 (fun H locs hP hD hS => ?_)
      have hP : va_P D vwCl (wM y h q 0 pn ki on ot ab be (upd zA pn a) (upd zB pn b) (upd zC pn c0) (upd zD pn d0) (upd zF pn f) zT fo lw hg at_ tl th wo wl wh is_ lo_ hi_ di su an) H := hP
      have hD : va_D A (wM y h q 0 pn ki on ot ab be (upd zA pn a) (upd zB pn b) (upd zC pn c0) (upd zD pn d0) (upd zF pn f) zT fo lw hg at_ tl th wo wl wh is_ lo_ hi_ di su an) := hD
      refine lv_aload_n hx hb dX8_zero_249 rfl (lv_at hl 5 rfl) ?_
      refine va_get (D := D) (ci := 6) (v := .ref (q 12)) (C := RX8) (T := TX8) (N := 28) hx hb hts in_X8_zero_X8 hown hK.1 hP 0 rfl rfl 12 (by decide) (hts (.fieldLink RX8 40 "NestlimitModel" "zeroTo" "[I") (List.mem_of_getElem? (i := 7) rfl)) (fun _ h9 => h9) rfl dX8_zero_250 ?_
      refine lv_aload_n hx hb dX8_zero_253 rfl (lv_at hl 5 rfl) ?_
      refine va_get (D := D) (ci := 6) (v := .int (nI pn)) (C := RX8) (T := TX8) (N := 28) hx hb hts in_X8_zero_X8 hown hK.1 hP 0 rfl rfl 1 (by decide) (hts (.fieldLink RX8 85 "NestlimitModel" "programs" "I") (List.mem_of_getElem? (i := 1) rfl)) (fun _ h9 => h9) rfl dX8_zero_254 ?_
      refine lv_iload hx hb dX8_zero_257 (lv_at hl 3 rfl) ?_
      refine g_iast (k := pn) (x := f + (1 <<< (hv &&& 31))) hx hb hK.1 hP hD hS 11 0 rfl rfl (hpn) (by decide) dX8_zero_259 (fun H locs hP hD hS => ?_)
      have hP : va_P D vwCl (wM y h q 0 pn ki on ot ab be (upd zA pn a) (upd zB pn b) (upd zC pn c0) (upd zD pn d0) (upd zF pn f) (upd zT pn (f + (1 <<< (hv &&& 31)))) fo lw hg at_ tl th wo wl wh is_ lo_ hi_ di su an) H := hP
      have hD : va_D A (wM y h q 0 pn ki on ot ab be (upd zA pn a) (upd zB pn b) (upd zC pn c0) (upd zD pn d0) (upd zF pn f) (upd zT pn (f + (1 <<< (hv &&& 31)))) fo lw hg at_ tl th wo wl wh is_ lo_ hi_ di su an) := hD
      refine lv_aload_n hx hb dX8_zero_260 rfl (lv_at hl 5 rfl) ?_
      refine lv_bipush (v := 8) hx hb dX8_zero_261 (by decide) ?_
      refine lv_iconst (v := -1) hx hb dX8_zero_263 (by decide) ?_
      refine lv_iconst (v := -1) hx hb dX8_zero_264 (by decide) ?_
      refine g_callA (va_runV (As := [.int 8, .int (-1), .int (-1)]) (rest := []) ⟨hx, hb, hml, hown, hts⟩ (c_X8_adds_0 l D y H.size h q 0 pn ki on ot ab be (upd zA pn a) (upd zB pn b) (upd zC pn c0) (upd zD pn d0) (upd zF pn f) (upd zT pn (f + (1 <<< (hv &&& 31)))) fo lw hg at_ tl th wo wl wh is_ lo_ hi_ di su an 8 cF cL cH hpn (by decide) hcan) (cwV 3 hts gX8_zero_X8_adds rfl rfl rfl (by decide +kernel) ⟨Nat.le_of_ble_eq_true rfl, Nat.le_of_ble_eq_true rfl⟩) (gP_VA hP hD hK 0 rfl rfl) rfl rfl hl.1 rfl (lv_room (Nat.le_of_ble_eq_true rfl)) dX8_zero_265 ⟨Nat.zero_le _, Nat.zero_le _⟩) hP hD hS hA (fun v w1 H locs hf hP hD hS => ?_)
      obtain ⟨fo1_265, lw1_265, hg1_265, at1_265, tl1_265, th1_265, is1_265, lo1_265, hi1_265, rfl, rfl, h265_0, h265_1⟩ := hf
      have hP : va_P D vwCl (wM y h q 0 (pn + 1) (upd ki pn (nI 8)) (upd on pn (-1)) (upd ot pn (-1)) ab be (upd zA pn a) (upd zB pn b) (upd zC pn c0) (upd zD pn d0) (upd zF pn f) (upd zT pn (f + (1 <<< (hv &&& 31)))) fo1_265 lw1_265 hg1_265 at1_265 tl1_265 th1_265 wo wl wh is1_265 lo1_265 hi1_265 di su an) H := hP
      have hD : va_D A (wM y h q 0 (pn + 1) (upd ki pn (nI 8)) (upd on pn (-1)) (upd ot pn (-1)) ab be (upd zA pn a) (upd zB pn b) (upd zC pn c0) (upd zD pn d0) (upd zF pn f) (upd zT pn (f + (1 <<< (hv &&& 31)))) fo1_265 lw1_265 hg1_265 at1_265 tl1_265 th1_265 wo wl wh is1_265 lo1_265 hi1_265 di su an) := hD
      exact W.iret (v := nI pn) hx hb hr (fun t ht hW => ⟨⟨some (.int (nI pn)), wM y h q 0 (pn + 1) (upd ki pn (nI 8)) (upd on pn (-1)) (upd ot pn (-1)) ab be (upd zA pn a) (upd zB pn b) (upd zC pn c0) (upd zD pn d0) (upd zF pn f) (upd zT pn (f + (1 <<< (hv &&& 31)))) fo1_265 lw1_265 hg1_265 at1_265 tl1_265 th1_265 wo wl wh is1_265 lo1_265 hi1_265 di su an, rfl, ⟨fo1_265, lw1_265, hg1_265, at1_265, tl1_265, th1_265, is1_265, lo1_265, hi1_265, rfl, rfl, h265_0, h265_1⟩, rfl, by rw [ht]; exact hP⟩, by rw [← hAe]; exact hS.F ht⟩) (by rw [← hAe]; exact hS.2.2) dX8_zero_268
    · skip
      refine lv_iload hx hb dX8_zero_143 (lv_at hl 1 rfl) ?_
      refine lv_if_le (tgt := 157) hx hb dX8_zero_145 (by decide) (fun c_145 => ?_) (fun c_145 => ?_)
      · skip
        refine lv_iconst (v := 0) hx hb dX8_zero_157 (by decide) ?_
        refine lv_istore (lv' := [(11, .int 0), (10, .int (sp_X8_plain a b c0 d0 (f + (1 <<< (hv &&& 31))))), (9, .int (sp_X8_plain a b c0 d0 f)), (8, .int (f + (1 <<< (hv &&& 31)))), (7, .int 1), (0, .ref h), (1, .int a), (2, .int b), (3, .int c0), (4, .int d0), (5, .int f), (6, .int hv)]) hx hb dX8_zero_158 hl (by decide) rfl (fun ls hl => ?_)
        exact absurd hun (by simp only [unl, if_neg c_135, if_neg c_140, if_pos c_145]; decide)
      · skip
        refine lv_iload hx hb dX8_zero_148 (lv_at hl 0 rfl) ?_
        refine lv_if_ge (tgt := 157) hx hb dX8_zero_150 (by decide) (fun c_150 => ?_) (fun c_150 => ?_)
        · skip
          refine lv_iconst (v := 0) hx hb dX8_zero_157 (by decide) ?_
          refine lv_istore (lv' := [(11, .int 0), (10, .int (sp_X8_plain a b c0 d0 (f + (1 <<< (hv &&& 31))))), (9, .int (sp_X8_plain a b c0 d0 f)), (8, .int (f + (1 <<< (hv &&& 31)))), (7, .int 1), (0, .ref h), (1, .int a), (2, .int b), (3, .int c0), (4, .int d0), (5, .int f), (6, .int hv)]) hx hb dX8_zero_158 hl (by decide) rfl (fun ls hl => ?_)
          exact absurd hun (by simp only [unl, if_neg c_135, if_neg c_140, if_neg c_145, if_pos c_150]; decide)
        · skip
          refine lv_iconst (v := 1) hx hb dX8_zero_153 (by decide) ?_
          refine lv_goto (tgt := 158) hx hb dX8_zero_154 (by decide) ?_
          refine lv_istore (lv' := [(11, .int 1), (10, .int (sp_X8_plain a b c0 d0 (f + (1 <<< (hv &&& 31))))), (9, .int (sp_X8_plain a b c0 d0 f)), (8, .int (f + (1 <<< (hv &&& 31)))), (7, .int 1), (0, .ref h), (1, .int a), (2, .int b), (3, .int c0), (4, .int d0), (5, .int f), (6, .int hv)]) hx hb dX8_zero_158 hl (by decide) rfl (fun ls hl => ?_)
          refine lv_aload_n hx hb dX8_zero_160 rfl (lv_at hl 5 rfl) ?_
          refine lv_iload hx hb dX8_zero_161 (lv_at hl 4 rfl) ?_
          refine lv_if_ne (tgt := 170) hx hb dX8_zero_163 (by decide) (fun c_163 => ?_) (fun c_163 => absurd c_163 (by decide))
          refine lv_iload hx hb dX8_zero_170 (lv_at hl 0 rfl) ?_
          refine lv_if_eq (tgt := 184) hx hb dX8_zero_172 (by decide) (fun c_172 => absurd c_172 (by decide)) (fun c_172 => ?_)
          refine lv_aload_n hx hb dX8_zero_175 rfl (lv_at hl 5 rfl) ?_
          refine va_get (D := D) (ci := 6) (v := .int (nI pn)) (C := RX8) (T := TX8) (N := 28) hx hb hts in_X8_zero_X8 hown hK.1 hP 0 rfl rfl 1 (by decide) (hts (.fieldLink RX8 85 "NestlimitModel" "programs" "I") (List.mem_of_getElem? (i := 1) rfl)) (fun _ h9 => h9) rfl dX8_zero_176 ?_
          refine lv_bipush (v := 40) hx hb dX8_zero_179 (by decide) ?_
          refine lv_icmp_ne (tgt := 188) hx hb dX8_zero_181 (by decide) (fun c_181 => ?_) (fun c_181 => absurd c_181 (g_n40 hpn))
          refine lv_iconst (v := 0) hx hb dX8_zero_188 (by decide) ?_
          refine g_callA1 (v0 := .int (gB (sp_X8_holds 0))) (w0 := wM y h q 0 pn ki on ot ab be zA zB zC zD zF zT fo lw hg at_ tl th wo wl wh is_ lo_ hi_ di su an) (va_runV (As := [.int 0]) (rest := []) ⟨hx, hb, hml, hown, hts⟩ (c_X8_holds l D y s.heap.size h q tw pn ki on ot ab be zA zB zC zD zF zT fo lw hg at_ tl th wo wl wh is_ lo_ hi_ di su an 0) (cwV 1 hts gX8_zero_X8_holds rfl rfl rfl (by decide +kernel) ⟨Nat.le_of_ble_eq_true rfl, Nat.le_of_ble_eq_true rfl⟩) (gP_VA hP hD hK 0 rfl rfl) rfl rfl hl.1 rfl (lv_room (Nat.le_of_ble_eq_true rfl)) dX8_zero_189 ⟨Nat.zero_le _, Nat.zero_le _⟩) hP hD hS hA rfl (fun H locs hP hD hS => ?_)
          refine g_bne (tgt := 197) hx hb dX8_zero_192 (by decide) (fun c_192 => ?_) (fun c_192 => absurd (by decide) c_192)
          refine lv_aload_n hx hb dX8_zero_197 rfl (lv_at hl 5 rfl) ?_
          refine va_get (D := D) (ci := 6) (v := .ref (q 7)) (C := RX8) (T := TX8) (N := 28) hx hb hts in_X8_zero_X8 hown hK.1 hP 0 rfl rfl 7 (by decide) (hts (.fieldLink RX8 25 "NestlimitModel" "zeroA" "[I") (List.mem_of_getElem? (i := 2) rfl)) (fun _ h9 => h9) rfl dX8_zero_198 ?_
          refine lv_aload_n hx hb dX8_zero_201 rfl (lv_at hl 5 rfl) ?_
          refine va_get (D := D) (ci := 6) (v := .int (nI pn)) (C := RX8) (T := TX8) (N := 28) hx hb hts in_X8_zero_X8 hown hK.1 hP 0 rfl rfl 1 (by decide) (hts (.fieldLink RX8 85 "NestlimitModel" "programs" "I") (List.mem_of_getElem? (i := 1) rfl)) (fun _ h9 => h9) rfl dX8_zero_202 ?_
          refine lv_iload_n hx hb dX8_zero_205 rfl (lv_at hl 6 rfl) ?_
          refine g_iast (k := pn) (x := a) hx hb hK.1 hP hD hS 6 0 rfl rfl (hpn) (by decide) dX8_zero_206 (fun H locs hP hD hS => ?_)
          have hP : va_P D vwCl (wM y h q 0 pn ki on ot ab be (upd zA pn a) zB zC zD zF zT fo lw hg at_ tl th wo wl wh is_ lo_ hi_ di su an) H := hP
          have hD : va_D A (wM y h q 0 pn ki on ot ab be (upd zA pn a) zB zC zD zF zT fo lw hg at_ tl th wo wl wh is_ lo_ hi_ di su an) := hD
          refine lv_aload_n hx hb dX8_zero_207 rfl (lv_at hl 5 rfl) ?_
          refine va_get (D := D) (ci := 6) (v := .ref (q 8)) (C := RX8) (T := TX8) (N := 28) hx hb hts in_X8_zero_X8 hown hK.1 hP 0 rfl rfl 8 (by decide) (hts (.fieldLink RX8 28 "NestlimitModel" "zeroB" "[I") (List.mem_of_getElem? (i := 3) rfl)) (fun _ h9 => h9) rfl dX8_zero_208 ?_
          refine lv_aload_n hx hb dX8_zero_211 rfl (lv_at hl 5 rfl) ?_
          refine va_get (D := D) (ci := 6) (v := .int (nI pn)) (C := RX8) (T := TX8) (N := 28) hx hb hts in_X8_zero_X8 hown hK.1 hP 0 rfl rfl 1 (by decide) (hts (.fieldLink RX8 85 "NestlimitModel" "programs" "I") (List.mem_of_getElem? (i := 1) rfl)) (fun _ h9 => h9) rfl dX8_zero_212 ?_
          refine lv_iload_n hx hb dX8_zero_215 rfl (lv_at hl 7 rfl) ?_
          refine g_iast (k := pn) (x := b) hx hb hK.1 hP hD hS 7 0 rfl rfl (hpn) (by decide) dX8_zero_216 (fun H locs hP hD hS => ?_)
          have hP : va_P D vwCl (wM y h q 0 pn ki on ot ab be (upd zA pn a) (upd zB pn b) zC zD zF zT fo lw hg at_ tl th wo wl wh is_ lo_ hi_ di su an) H := hP
          have hD : va_D A (wM y h q 0 pn ki on ot ab be (upd zA pn a) (upd zB pn b) zC zD zF zT fo lw hg at_ tl th wo wl wh is_ lo_ hi_ di su an) := hD
          refine lv_aload_n hx hb dX8_zero_217 rfl (lv_at hl 5 rfl) ?_
          refine va_get (D := D) (ci := 6) (v := .ref (q 9)) (C := RX8) (T := TX8) (N := 28) hx hb hts in_X8_zero_X8 hown hK.1 hP 0 rfl rfl 9 (by decide) (hts (.fieldLink RX8 31 "NestlimitModel" "zeroC" "[I") (List.mem_of_getElem? (i := 4) rfl)) (fun _ h9 => h9) rfl dX8_zero_218 ?_
          refine lv_aload_n hx hb dX8_zero_221 rfl (lv_at hl 5 rfl) ?_
          refine va_get (D := D) (ci := 6) (v := .int (nI pn)) (C := RX8) (T := TX8) (N := 28) hx hb hts in_X8_zero_X8 hown hK.1 hP 0 rfl rfl 1 (by decide) (hts (.fieldLink RX8 85 "NestlimitModel" "programs" "I") (List.mem_of_getElem? (i := 1) rfl)) (fun _ h9 => h9) rfl dX8_zero_222 ?_
          refine lv_iload_n hx hb dX8_zero_225 rfl (lv_at hl 8 rfl) ?_
          refine g_iast (k := pn) (x := c0) hx hb hK.1 hP hD hS 8 0 rfl rfl (hpn) (by decide) dX8_zero_226 (fun H locs hP hD hS => ?_)
          have hP : va_P D vwCl (wM y h q 0 pn ki on ot ab be (upd zA pn a) (upd zB pn b) (upd zC pn c0) zD zF zT fo lw hg at_ tl th wo wl wh is_ lo_ hi_ di su an) H := hP
          have hD : va_D A (wM y h q 0 pn ki on ot ab be (upd zA pn a) (upd zB pn b) (upd zC pn c0) zD zF zT fo lw hg at_ tl th wo wl wh is_ lo_ hi_ di su an) := hD
          refine lv_aload_n hx hb dX8_zero_227 rfl (lv_at hl 5 rfl) ?_
          refine va_get (D := D) (ci := 6) (v := .ref (q 10)) (C := RX8) (T := TX8) (N := 28) hx hb hts in_X8_zero_X8 hown hK.1 hP 0 rfl rfl 10 (by decide) (hts (.fieldLink RX8 34 "NestlimitModel" "zeroD" "[I") (List.mem_of_getElem? (i := 5) rfl)) (fun _ h9 => h9) rfl dX8_zero_228 ?_
          refine lv_aload_n hx hb dX8_zero_231 rfl (lv_at hl 5 rfl) ?_
          refine va_get (D := D) (ci := 6) (v := .int (nI pn)) (C := RX8) (T := TX8) (N := 28) hx hb hts in_X8_zero_X8 hown hK.1 hP 0 rfl rfl 1 (by decide) (hts (.fieldLink RX8 85 "NestlimitModel" "programs" "I") (List.mem_of_getElem? (i := 1) rfl)) (fun _ h9 => h9) rfl dX8_zero_232 ?_
          refine lv_iload hx hb dX8_zero_235 (lv_at hl 9 rfl) ?_
          refine g_iast (k := pn) (x := d0) hx hb hK.1 hP hD hS 9 0 rfl rfl (hpn) (by decide) dX8_zero_237 (fun H locs hP hD hS => ?_)
          have hP : va_P D vwCl (wM y h q 0 pn ki on ot ab be (upd zA pn a) (upd zB pn b) (upd zC pn c0) (upd zD pn d0) zF zT fo lw hg at_ tl th wo wl wh is_ lo_ hi_ di su an) H := hP
          have hD : va_D A (wM y h q 0 pn ki on ot ab be (upd zA pn a) (upd zB pn b) (upd zC pn c0) (upd zD pn d0) zF zT fo lw hg at_ tl th wo wl wh is_ lo_ hi_ di su an) := hD
          refine lv_aload_n hx hb dX8_zero_238 rfl (lv_at hl 5 rfl) ?_
          refine va_get (D := D) (ci := 6) (v := .ref (q 11)) (C := RX8) (T := TX8) (N := 28) hx hb hts in_X8_zero_X8 hown hK.1 hP 0 rfl rfl 11 (by decide) (hts (.fieldLink RX8 37 "NestlimitModel" "zeroFrom" "[I") (List.mem_of_getElem? (i := 6) rfl)) (fun _ h9 => h9) rfl dX8_zero_239 ?_
          refine lv_aload_n hx hb dX8_zero_242 rfl (lv_at hl 5 rfl) ?_
          refine va_get (D := D) (ci := 6) (v := .int (nI pn)) (C := RX8) (T := TX8) (N := 28) hx hb hts in_X8_zero_X8 hown hK.1 hP 0 rfl rfl 1 (by decide) (hts (.fieldLink RX8 85 "NestlimitModel" "programs" "I") (List.mem_of_getElem? (i := 1) rfl)) (fun _ h9 => h9) rfl dX8_zero_243 ?_
          refine lv_iload hx hb dX8_zero_246 (lv_at hl 10 rfl) ?_
          refine g_iast (k := pn) (x := f) hx hb hK.1 hP hD hS 10 0 rfl rfl (hpn) (by decide) dX8_zero_248 (fun H locs hP hD hS => ?_)
          have hP : va_P D vwCl (wM y h q 0 pn ki on ot ab be (upd zA pn a) (upd zB pn b) (upd zC pn c0) (upd zD pn d0) (upd zF pn f) zT fo lw hg at_ tl th wo wl wh is_ lo_ hi_ di su an) H := hP
          have hD : va_D A (wM y h q 0 pn ki on ot ab be (upd zA pn a) (upd zB pn b) (upd zC pn c0) (upd zD pn d0) (upd zF pn f) zT fo lw hg at_ tl th wo wl wh is_ lo_ hi_ di su an) := hD
          refine lv_aload_n hx hb dX8_zero_249 rfl (lv_at hl 5 rfl) ?_
          refine va_get (D := D) (ci := 6) (v := .ref (q 12)) (C := RX8) (T := TX8) (N := 28) hx hb hts in_X8_zero_X8 hown hK.1 hP 0 rfl rfl 12 (by decide) (hts (.fieldLink RX8 40 "NestlimitModel" "zeroTo" "[I") (List.mem_of_getElem? (i := 7) rfl)) (fun _ h9 => h9) rfl dX8_zero_250 ?_
          refine lv_aload_n hx hb dX8_zero_253 rfl (lv_at hl 5 rfl) ?_
          refine va_get (D := D) (ci := 6) (v := .int (nI pn)) (C := RX8) (T := TX8) (N := 28) hx hb hts in_X8_zero_X8 hown hK.1 hP 0 rfl rfl 1 (by decide) (hts (.fieldLink RX8 85 "NestlimitModel" "programs" "I") (List.mem_of_getElem? (i := 1) rfl)) (fun _ h9 => h9) rfl dX8_zero_254 ?_
          refine lv_iload hx hb dX8_zero_257 (lv_at hl 3 rfl) ?_
          refine g_iast (k := pn) (x := f + (1 <<< (hv &&& 31))) hx hb hK.1 hP hD hS 11 0 rfl rfl (hpn) (by decide) dX8_zero_259 (fun H locs hP hD hS => ?_)
          have hP : va_P D vwCl (wM y h q 0 pn ki on ot ab be (upd zA pn a) (upd zB pn b) (upd zC pn c0) (upd zD pn d0) (upd zF pn f) (upd zT pn (f + (1 <<< (hv &&& 31)))) fo lw hg at_ tl th wo wl wh is_ lo_ hi_ di su an) H := hP
          have hD : va_D A (wM y h q 0 pn ki on ot ab be (upd zA pn a) (upd zB pn b) (upd zC pn c0) (upd zD pn d0) (upd zF pn f) (upd zT pn (f + (1 <<< (hv &&& 31)))) fo lw hg at_ tl th wo wl wh is_ lo_ hi_ di su an) := hD
          refine lv_aload_n hx hb dX8_zero_260 rfl (lv_at hl 5 rfl) ?_
          refine lv_bipush (v := 8) hx hb dX8_zero_261 (by decide) ?_
          refine lv_iconst (v := -1) hx hb dX8_zero_263 (by decide) ?_
          refine lv_iconst (v := -1) hx hb dX8_zero_264 (by decide) ?_
          refine g_callA (va_runV (As := [.int 8, .int (-1), .int (-1)]) (rest := []) ⟨hx, hb, hml, hown, hts⟩ (c_X8_adds_0 l D y H.size h q 0 pn ki on ot ab be (upd zA pn a) (upd zB pn b) (upd zC pn c0) (upd zD pn d0) (upd zF pn f) (upd zT pn (f + (1 <<< (hv &&& 31)))) fo lw hg at_ tl th wo wl wh is_ lo_ hi_ di su an 8 cF cL cH hpn (by decide) hcan) (cwV 3 hts gX8_zero_X8_adds rfl rfl rfl (by decide +kernel) ⟨Nat.le_of_ble_eq_true rfl, Nat.le_of_ble_eq_true rfl⟩) (gP_VA hP hD hK 0 rfl rfl) rfl rfl hl.1 rfl (lv_room (Nat.le_of_ble_eq_true rfl)) dX8_zero_265 ⟨Nat.zero_le _, Nat.zero_le _⟩) hP hD hS hA (fun v w1 H locs hf hP hD hS => ?_)
          obtain ⟨fo1_265, lw1_265, hg1_265, at1_265, tl1_265, th1_265, is1_265, lo1_265, hi1_265, rfl, rfl, h265_0, h265_1⟩ := hf
          have hP : va_P D vwCl (wM y h q 0 (pn + 1) (upd ki pn (nI 8)) (upd on pn (-1)) (upd ot pn (-1)) ab be (upd zA pn a) (upd zB pn b) (upd zC pn c0) (upd zD pn d0) (upd zF pn f) (upd zT pn (f + (1 <<< (hv &&& 31)))) fo1_265 lw1_265 hg1_265 at1_265 tl1_265 th1_265 wo wl wh is1_265 lo1_265 hi1_265 di su an) H := hP
          have hD : va_D A (wM y h q 0 (pn + 1) (upd ki pn (nI 8)) (upd on pn (-1)) (upd ot pn (-1)) ab be (upd zA pn a) (upd zB pn b) (upd zC pn c0) (upd zD pn d0) (upd zF pn f) (upd zT pn (f + (1 <<< (hv &&& 31)))) fo1_265 lw1_265 hg1_265 at1_265 tl1_265 th1_265 wo wl wh is1_265 lo1_265 hi1_265 di su an) := hD
          exact W.iret (v := nI pn) hx hb hr (fun t ht hW => ⟨⟨some (.int (nI pn)), wM y h q 0 (pn + 1) (upd ki pn (nI 8)) (upd on pn (-1)) (upd ot pn (-1)) ab be (upd zA pn a) (upd zB pn b) (upd zC pn c0) (upd zD pn d0) (upd zF pn f) (upd zT pn (f + (1 <<< (hv &&& 31)))) fo1_265 lw1_265 hg1_265 at1_265 tl1_265 th1_265 wo wl wh is1_265 lo1_265 hi1_265 di su an, rfl, ⟨fo1_265, lw1_265, hg1_265, at1_265, tl1_265, th1_265, is1_265, lo1_265, hi1_265, rfl, rfl, h265_0, h265_1⟩, rfl, by rw [ht]; exact hP⟩, by rw [← hAe]; exact hS.F ht⟩) (by rw [← hAe]; exact hS.2.2) dX8_zero_268
theorem g_isP {k n : Nat} (h : k < n) (hn : n ≤ 40) : sp_X8_isProgram n (nI k) = true := by
  unfold sp_X8_isProgram sp_X8_in
  obtain ⟨m, rfl⟩ : ∃ m, n = m + 1 := ⟨n - 1, by omega⟩
  rw [nI_pred, if_neg (nI_pos (by omega)), if_neg (nI_nlt (by omega) (by omega))]
theorem g_isPl {p : Nat} (h : p < 25) : sp_X8_isPlace (nI p) = true := by
  have h2 : ∀ p : Fin 25, sp_X8_isPlace (nI p.val) = true := by decide
  exact h2 ⟨p, h⟩
def gSel (b : Bool) (x z : Int64) : Int64 := if b = true then x else z
set_option maxHeartbeats 4000000 in
set_option maxRecDepth 100000 in
theorem c_X8_canAsk_1 (l : Launch) (D : va_G) (y : Nat → ClassId) (sz : Nat) (h : Nat) (q : Nat → Nat) (tw : Int32) (pn : Nat) (ki on ot ab be zA zB zC zD zF zT : Nat → Int32) (fo : Nat → Bool) (lw hg : Nat → Int64) (at_ : Nat → Bool) (tl th : Nat → Int64) (wo : Nat → Bool) (wl wh : Nat → Int64) (is_ : Bool) (lo_ hi_ : Int64) (di : Nat → Int32) (su : Nat → Int64) (an : Nat → Bool) (a b v : Int32) (yA : ¬ sp_X8_isProgram pn a = true) : Met l yX8_canAsk wsX8_canAsk ({ frames := 2, cells := 0, slots := 0, locals := 43 } : Room) (gP D y [.ref h, .int a, .int b, .int v] (wM y h q tw pn ki on ot ab be zA zB zC zD zF zT fo lw hg at_ tl th wo wl wh is_ lo_ hi_ di su an) sz) (gQ D (wM y h q tw pn ki on ot ab be zA zB zC zD zF zT fo lw hg at_ tl th wo wl wh is_ lo_ hi_ di su an) (gF (some (.int (gB false))) (wM y h q 1 pn ki on ot ab be zA zB zC zD zF zT fo lw hg at_ tl th wo wl wh is_ lo_ hi_ di su an))) 0 0 (va_A (wM y h q tw pn ki on ot ab be zA zB zC zD zF zT fo lw hg at_ tl th wo wl wh is_ lo_ hi_ di su an) sz) := by
  refine Met.ofW (cc := cX8_canAsk) (maxL := 6) (ret := (some .boolean)) (by decide) rfl ?_
  intro pg e s m args below meth c s₁ B hml hv
  obtain ⟨rfl, hsz, hP, hK, hD0⟩ := hv
  have hx := B.exec
  have hb := B.bytes
  have hr := B.returns
  have hts := atoms_spec (ws := wsX8_canAsk) B.pre
  have hown : s.vm.findClass RX8 = some m.cls := findClass_of_methodNamed B.named
  have hlocks := B.notSynchronized
  subst hsz
  obtain ⟨A, hAe⟩ : ∃ A : Nat → Prop, A = va_A (wM y h q tw pn ki on ot ab be zA zB zC zD zF zT fo lw hg at_ tl th wo wl wh is_ lo_ hi_ di su an) s.heap.size := ⟨_, rfl⟩
  have hD : va_D A (wM y h q tw pn ki on ot ab be zA zB zC zD zF zT fo lw hg at_ tl th wo wl wh is_ lo_ hi_ di su an) := by rw [hAe]; exact hD0.self (sz := s.heap.size)
  have hA : ∀ q : Nat, s.heap.size ≤ q → A q := fun q h => by rw [hAe]; exact Or.inr h
  have hS : va_S A s.heap s.heap [] := va_S.rf
  have hl := lv_entry ([.ref h, .int a, .int b, .int v]) (n := 6) (Nat.le_of_ble_eq_true rfl)
  rw [lg_entry_eq]
  generalize (lg_sl ([.ref h, .int a, .int b, .int v]) ++ List.replicate (6 - (lg_sl ([.ref h, .int a, .int b, .int v])).length) Slot.unset).toArray = ls at hl ⊢
  have hl : lv_has ls 6 [(0, .ref h), (1, .int a), (2, .int b), (3, .int v)] := hl
  refine lv_aload_n hx hb dX8_canAsk_0 rfl (lv_at hl 0 rfl) ?_
  refine lv_iload_n hx hb dX8_canAsk_1 rfl (lv_at hl 1 rfl) ?_
  refine g_callR (v0 := .int (gB (sp_X8_isProgram pn a))) (va_runV (As := [.int a]) (rest := []) ⟨hx, hb, hml, hown, hts⟩ (c_X8_isProgram l D y s.heap.size h q tw pn ki on ot ab be zA zB zC zD zF zT fo lw hg at_ tl th wo wl wh is_ lo_ hi_ di su an a) (cwV 1 hts gX8_canAsk_X8_isProgram rfl rfl rfl (by decide +kernel) ⟨Nat.le_of_ble_eq_true rfl, Nat.le_of_ble_eq_true rfl⟩) (gP_VA hP hD hK 0 rfl rfl) rfl rfl hl.1 rfl (lv_room (Nat.le_of_ble_eq_true rfl)) dX8_canAsk_2 ⟨Nat.zero_le _, Nat.zero_le _⟩) ?_
  refine lv_istore (lv' := [(4, .int (gB (sp_X8_isProgram pn a))), (0, .ref h), (1, .int a), (2, .int b), (3, .int v)]) hx hb dX8_canAsk_5 hl (by decide) rfl (fun ls hl => ?_)
  refine lv_iload hx hb dX8_canAsk_7 (lv_at hl 0 rfl) ?_
  refine g_beq (tgt := 58) hx hb dX8_canAsk_9 (by decide) (fun c_9 => ?_) (fun c_9 => absurd c_9 yA)
  refine lv_iconst (v := 0) hx hb dX8_canAsk_58 (by decide) ?_
  refine lv_istore (lv' := [(5, .int 0), (4, .int (gB (sp_X8_isProgram pn a))), (0, .ref h), (1, .int a), (2, .int b), (3, .int v)]) hx hb dX8_canAsk_59 hl (by decide) rfl (fun ls hl => ?_)
  refine lv_aload_n hx hb dX8_canAsk_61 rfl (lv_at hl 2 rfl) ?_
  refine lv_iload hx hb dX8_canAsk_62 (lv_at hl 1 rfl) ?_
  refine g_bne (tgt := 71) hx hb dX8_canAsk_64 (by decide) (fun c_64 => absurd c_64 yA) (fun c_64 => ?_)
  refine lv_iconst (v := 1) hx hb dX8_canAsk_67 (by decide) ?_
  refine lv_goto (tgt := 92) hx hb dX8_canAsk_68 (by decide) ?_
  refine g_callA1 (v0 := .int (gB (sp_X8_holds 1))) (w0 := wM y h q 1 pn ki on ot ab be zA zB zC zD zF zT fo lw hg at_ tl th wo wl wh is_ lo_ hi_ di su an) (va_runV (As := [.int 1]) (rest := []) ⟨hx, hb, hml, hown, hts⟩ (c_X8_holds l D y s.heap.size h q tw pn ki on ot ab be zA zB zC zD zF zT fo lw hg at_ tl th wo wl wh is_ lo_ hi_ di su an 1) (cwV 1 hts gX8_canAsk_X8_holds rfl rfl rfl (by decide +kernel) ⟨Nat.le_of_ble_eq_true rfl, Nat.le_of_ble_eq_true rfl⟩) (gP_VA hP hD hK 0 rfl rfl) rfl rfl hl.1 rfl (lv_room (Nat.le_of_ble_eq_true rfl)) dX8_canAsk_92 ⟨Nat.zero_le _, Nat.zero_le _⟩) hP hD hS hA rfl (fun H locs hP hD hS => ?_)
  exact W.zret (v := gB (sp_X8_holds 1)) hx hb hr (gB_n _) (fun t ht hW => ⟨⟨_, wM y h q 1 pn ki on ot ab be zA zB zC zD zF zT fo lw hg at_ tl th wo wl wh is_ lo_ hi_ di su an, rfl, ⟨congrArg (fun z => some (Value.int z)) (by decide), rfl⟩, rfl, by rw [ht]; exact hP⟩, by rw [← hAe]; exact hS.F ht⟩) (by rw [← hAe]; exact hS.2.2) dX8_canAsk_95
set_option maxHeartbeats 4000000 in
set_option maxRecDepth 100000 in
theorem c_X8_canAsk_2 (l : Launch) (D : va_G) (y : Nat → ClassId) (sz : Nat) (h : Nat) (q : Nat → Nat) (tw : Int32) (pn : Nat) (ki on ot ab be zA zB zC zD zF zT : Nat → Int32) (fo : Nat → Bool) (lw hg : Nat → Int64) (at_ : Nat → Bool) (tl th : Nat → Int64) (wo : Nat → Bool) (wl wh : Nat → Int64) (is_ : Bool) (lo_ hi_ : Int64) (di : Nat → Int32) (su : Nat → Int64) (an : Nat → Bool) (k : Nat) (b v : Int32) (hpn : pn ≤ 40) (hk : k < pn) (yP : ¬ sp_X8_isPlace b = true) : Met l yX8_canAsk wsX8_canAsk ({ frames := 2, cells := 0, slots := 0, locals := 43 } : Room) (gP D y [.ref h, .int (nI k), .int b, .int v] (wM y h q tw pn ki on ot ab be zA zB zC zD zF zT fo lw hg at_ tl th wo wl wh is_ lo_ hi_ di su an) sz) (gQ D (wM y h q tw pn ki on ot ab be zA zB zC zD zF zT fo lw hg at_ tl th wo wl wh is_ lo_ hi_ di su an) (gF (some (.int (gB false))) (wM y h q 2 pn ki on ot ab be zA zB zC zD zF zT fo lw hg at_ tl th wo wl wh is_ lo_ hi_ di su an))) 0 0 (va_A (wM y h q tw pn ki on ot ab be zA zB zC zD zF zT fo lw hg at_ tl th wo wl wh is_ lo_ hi_ di su an) sz) := by
  refine Met.ofW (cc := cX8_canAsk) (maxL := 6) (ret := (some .boolean)) (by decide) rfl ?_
  intro pg e s m args below meth c s₁ B hml hv
  obtain ⟨rfl, hsz, hP, hK, hD0⟩ := hv
  have hx := B.exec
  have hb := B.bytes
  have hr := B.returns
  have hts := atoms_spec (ws := wsX8_canAsk) B.pre
  have hown : s.vm.findClass RX8 = some m.cls := findClass_of_methodNamed B.named
  have hlocks := B.notSynchronized
  subst hsz
  obtain ⟨A, hAe⟩ : ∃ A : Nat → Prop, A = va_A (wM y h q tw pn ki on ot ab be zA zB zC zD zF zT fo lw hg at_ tl th wo wl wh is_ lo_ hi_ di su an) s.heap.size := ⟨_, rfl⟩
  have hD : va_D A (wM y h q tw pn ki on ot ab be zA zB zC zD zF zT fo lw hg at_ tl th wo wl wh is_ lo_ hi_ di su an) := by rw [hAe]; exact hD0.self (sz := s.heap.size)
  have hA : ∀ q : Nat, s.heap.size ≤ q → A q := fun q h => by rw [hAe]; exact Or.inr h
  have hS : va_S A s.heap s.heap [] := va_S.rf
  have hl := lv_entry ([.ref h, .int (nI k), .int b, .int v]) (n := 6) (Nat.le_of_ble_eq_true rfl)
  rw [lg_entry_eq]
  generalize (lg_sl ([.ref h, .int (nI k), .int b, .int v]) ++ List.replicate (6 - (lg_sl ([.ref h, .int (nI k), .int b, .int v])).length) Slot.unset).toArray = ls at hl ⊢
  have hl : lv_has ls 6 [(0, .ref h), (1, .int (nI k)), (2, .int b), (3, .int v)] := hl
  refine lv_aload_n hx hb dX8_canAsk_0 rfl (lv_at hl 0 rfl) ?_
  refine lv_iload_n hx hb dX8_canAsk_1 rfl (lv_at hl 1 rfl) ?_
  refine g_callR (v0 := .int (gB (sp_X8_isProgram pn (nI k)))) (va_runV (As := [.int (nI k)]) (rest := []) ⟨hx, hb, hml, hown, hts⟩ (c_X8_isProgram l D y s.heap.size h q tw pn ki on ot ab be zA zB zC zD zF zT fo lw hg at_ tl th wo wl wh is_ lo_ hi_ di su an (nI k)) (cwV 1 hts gX8_canAsk_X8_isProgram rfl rfl rfl (by decide +kernel) ⟨Nat.le_of_ble_eq_true rfl, Nat.le_of_ble_eq_true rfl⟩) (gP_VA hP hD hK 0 rfl rfl) rfl rfl hl.1 rfl (lv_room (Nat.le_of_ble_eq_true rfl)) dX8_canAsk_2 ⟨Nat.zero_le _, Nat.zero_le _⟩) ?_
  refine lv_istore (lv' := [(4, .int (gB (sp_X8_isProgram pn (nI k)))), (0, .ref h), (1, .int (nI k)), (2, .int b), (3, .int v)]) hx hb dX8_canAsk_5 hl (by decide) rfl (fun ls hl => ?_)
  refine lv_iload hx hb dX8_canAsk_7 (lv_at hl 0 rfl) ?_
  refine g_beq (tgt := 58) hx hb dX8_canAsk_9 (by decide) (fun c_9 => absurd (g_isP hk hpn) c_9) (fun c_9 => ?_)
  refine lv_iload_n hx hb dX8_canAsk_12 rfl (lv_at hl 3 rfl) ?_
  refine g_callR (v0 := .int (gB (sp_X8_isPlace b))) (va_runS (As := [.int b]) (rest := []) ⟨hx, hb, hml, hown, hts⟩ (c_X8_isPlace l D y s.heap.size b) (va_cwS 1 hts gX8_canAsk_X8_isPlace rfl rfl rfl (by decide +kernel) ⟨Nat.le_of_ble_eq_true rfl, Nat.le_of_ble_eq_true rfl⟩) (gP_S hP hD hK [] (by decide) rfl) rfl rfl hl.1 rfl (lv_room (Nat.le_of_ble_eq_true rfl)) dX8_canAsk_13 ⟨Nat.zero_le _, Nat.zero_le _⟩) ?_
  refine g_beq (tgt := 58) hx hb dX8_canAsk_16 (by decide) (fun c_16 => ?_) (fun c_16 => absurd c_16 yP)
  refine lv_iconst (v := 0) hx hb dX8_canAsk_58 (by decide) ?_
  refine lv_istore (lv' := [(5, .int 0), (4, .int (gB (sp_X8_isProgram pn (nI k)))), (0, .ref h), (1, .int (nI k)), (2, .int b), (3, .int v)]) hx hb dX8_canAsk_59 hl (by decide) rfl (fun ls hl => ?_)
  refine lv_aload_n hx hb dX8_canAsk_61 rfl (lv_at hl 2 rfl) ?_
  refine lv_iload hx hb dX8_canAsk_62 (lv_at hl 1 rfl) ?_
  refine g_bne (tgt := 71) hx hb dX8_canAsk_64 (by decide) (fun c_64 => ?_) (fun c_64 => absurd (g_isP hk hpn) c_64)
  refine lv_iload_n hx hb dX8_canAsk_71 rfl (lv_at hl 4 rfl) ?_
  refine g_callR (v0 := .int (gB (sp_X8_isPlace b))) (va_runS (As := [.int b]) (rest := [.ref h]) ⟨hx, hb, hml, hown, hts⟩ (c_X8_isPlace l D y s.heap.size b) (va_cwS 1 hts gX8_canAsk_X8_isPlace rfl rfl rfl (by decide +kernel) ⟨Nat.le_of_ble_eq_true rfl, Nat.le_of_ble_eq_true rfl⟩) (gP_S hP hD hK [] (by decide) rfl) rfl rfl hl.1 rfl (lv_room (Nat.le_of_ble_eq_true rfl)) dX8_canAsk_72 ⟨Nat.zero_le _, Nat.zero_le _⟩) ?_
  refine g_bne (tgt := 82) hx hb dX8_canAsk_75 (by decide) (fun c_75 => absurd c_75 yP) (fun c_75 => ?_)
  refine lv_iconst (v := 2) hx hb dX8_canAsk_78 (by decide) ?_
  refine lv_goto (tgt := 92) hx hb dX8_canAsk_79 (by decide) ?_
  refine g_callA1 (v0 := .int (gB (sp_X8_holds 2))) (w0 := wM y h q 2 pn ki on ot ab be zA zB zC zD zF zT fo lw hg at_ tl th wo wl wh is_ lo_ hi_ di su an) (va_runV (As := [.int 2]) (rest := []) ⟨hx, hb, hml, hown, hts⟩ (c_X8_holds l D y s.heap.size h q tw pn ki on ot ab be zA zB zC zD zF zT fo lw hg at_ tl th wo wl wh is_ lo_ hi_ di su an 2) (cwV 1 hts gX8_canAsk_X8_holds rfl rfl rfl (by decide +kernel) ⟨Nat.le_of_ble_eq_true rfl, Nat.le_of_ble_eq_true rfl⟩) (gP_VA hP hD hK 0 rfl rfl) rfl rfl hl.1 rfl (lv_room (Nat.le_of_ble_eq_true rfl)) dX8_canAsk_92 ⟨Nat.zero_le _, Nat.zero_le _⟩) hP hD hS hA rfl (fun H locs hP hD hS => ?_)
  exact W.zret (v := gB (sp_X8_holds 2)) hx hb hr (gB_n _) (fun t ht hW => ⟨⟨_, wM y h q 2 pn ki on ot ab be zA zB zC zD zF zT fo lw hg at_ tl th wo wl wh is_ lo_ hi_ di su an, rfl, ⟨congrArg (fun z => some (Value.int z)) (by decide), rfl⟩, rfl, by rw [ht]; exact hP⟩, by rw [← hAe]; exact hS.F ht⟩) (by rw [← hAe]; exact hS.2.2) dX8_canAsk_95
theorem in_X8_canAsk_X8 : ∀ w ∈ wsX80, w ∈ wsX8_canAsk := fun _ h => List.mem_cons_of_mem _ (List.mem_append_right _ h)
set_option maxHeartbeats 4000000 in
set_option maxRecDepth 100000 in
theorem c_X8_canAsk_f0 (l : Launch) (D : va_G) (y : Nat → ClassId) (sz : Nat) (h : Nat) (q : Nat → Nat) (tw : Int32) (pn : Nat) (ki on ot ab be zA zB zC zD zF zT : Nat → Int32) (fo : Nat → Bool) (lw hg : Nat → Int64) (at_ : Nat → Bool) (tl th : Nat → Int64) (wo : Nat → Bool) (wl wh : Nat → Int64) (is_ : Bool) (lo_ hi_ : Int64) (di : Nat → Int32) (su : Nat → Int64) (an : Nat → Bool) (k p : Nat) (hpn : pn ≤ 40) (hk : k < pn) (hp : p < 25) (hf : fo (25 * k + p) = true) : Met l yX8_canAsk wsX8_canAsk ({ frames := 2, cells := 0, slots := 0, locals := 43 } : Room) (gP D y [.ref h, .int (nI k), .int (nI p), .int 1] (wM y h q tw pn ki on ot ab be zA zB zC zD zF zT fo lw hg at_ tl th wo wl wh is_ lo_ hi_ di su an) sz) (gQ D (wM y h q tw pn ki on ot ab be zA zB zC zD zF zT fo lw hg at_ tl th wo wl wh is_ lo_ hi_ di su an) (gF (some (.int (gB true))) (wM y h q 0 pn ki on ot ab be zA zB zC zD zF zT fo lw hg at_ tl th wo wl wh is_ lo_ hi_ di su an))) 0 0 (va_A (wM y h q tw pn ki on ot ab be zA zB zC zD zF zT fo lw hg at_ tl th wo wl wh is_ lo_ hi_ di su an) sz) := by
  refine Met.ofW (cc := cX8_canAsk) (maxL := 6) (ret := (some .boolean)) (by decide) rfl ?_
  intro pg e s m args below meth c s₁ B hml hv
  obtain ⟨rfl, hsz, hP, hK, hD0⟩ := hv
  have hx := B.exec
  have hb := B.bytes
  have hr := B.returns
  have hts := atoms_spec (ws := wsX8_canAsk) B.pre
  have hown : s.vm.findClass RX8 = some m.cls := findClass_of_methodNamed B.named
  have hlocks := B.notSynchronized
  subst hsz
  obtain ⟨A, hAe⟩ : ∃ A : Nat → Prop, A = va_A (wM y h q tw pn ki on ot ab be zA zB zC zD zF zT fo lw hg at_ tl th wo wl wh is_ lo_ hi_ di su an) s.heap.size := ⟨_, rfl⟩
  have hD : va_D A (wM y h q tw pn ki on ot ab be zA zB zC zD zF zT fo lw hg at_ tl th wo wl wh is_ lo_ hi_ di su an) := by rw [hAe]; exact hD0.self (sz := s.heap.size)
  have hA : ∀ q : Nat, s.heap.size ≤ q → A q := fun q h => by rw [hAe]; exact Or.inr h
  have hS : va_S A s.heap s.heap [] := va_S.rf
  have hl := lv_entry ([.ref h, .int (nI k), .int (nI p), .int 1]) (n := 6) (Nat.le_of_ble_eq_true rfl)
  rw [lg_entry_eq]
  generalize (lg_sl ([.ref h, .int (nI k), .int (nI p), .int 1]) ++ List.replicate (6 - (lg_sl ([.ref h, .int (nI k), .int (nI p), .int 1])).length) Slot.unset).toArray = ls at hl ⊢
  have hl : lv_has ls 6 [(0, .ref h), (1, .int (nI k)), (2, .int (nI p)), (3, .int 1)] := hl
  refine lv_aload_n hx hb dX8_canAsk_0 rfl (lv_at hl 0 rfl) ?_
  refine lv_iload_n hx hb dX8_canAsk_1 rfl (lv_at hl 1 rfl) ?_
  refine g_callR (v0 := .int (gB (sp_X8_isProgram pn (nI k)))) (va_runV (As := [.int (nI k)]) (rest := []) ⟨hx, hb, hml, hown, hts⟩ (c_X8_isProgram l D y s.heap.size h q tw pn ki on ot ab be zA zB zC zD zF zT fo lw hg at_ tl th wo wl wh is_ lo_ hi_ di su an (nI k)) (cwV 1 hts gX8_canAsk_X8_isProgram rfl rfl rfl (by decide +kernel) ⟨Nat.le_of_ble_eq_true rfl, Nat.le_of_ble_eq_true rfl⟩) (gP_VA hP hD hK 0 rfl rfl) rfl rfl hl.1 rfl (lv_room (Nat.le_of_ble_eq_true rfl)) dX8_canAsk_2 ⟨Nat.zero_le _, Nat.zero_le _⟩) ?_
  refine lv_istore (lv' := [(4, .int (gB (sp_X8_isProgram pn (nI k)))), (0, .ref h), (1, .int (nI k)), (2, .int (nI p)), (3, .int 1)]) hx hb dX8_canAsk_5 hl (by decide) rfl (fun ls hl => ?_)
  refine lv_iload hx hb dX8_canAsk_7 (lv_at hl 0 rfl) ?_
  refine g_beq (tgt := 58) hx hb dX8_canAsk_9 (by decide) (fun c_9 => absurd (g_isP hk hpn) c_9) (fun c_9 => ?_)
  refine lv_iload_n hx hb dX8_canAsk_12 rfl (lv_at hl 3 rfl) ?_
  refine g_callR (v0 := .int (gB (sp_X8_isPlace (nI p)))) (va_runS (As := [.int (nI p)]) (rest := []) ⟨hx, hb, hml, hown, hts⟩ (c_X8_isPlace l D y s.heap.size (nI p)) (va_cwS 1 hts gX8_canAsk_X8_isPlace rfl rfl rfl (by decide +kernel) ⟨Nat.le_of_ble_eq_true rfl, Nat.le_of_ble_eq_true rfl⟩) (gP_S hP hD hK [] (by decide) rfl) rfl rfl hl.1 rfl (lv_room (Nat.le_of_ble_eq_true rfl)) dX8_canAsk_13 ⟨Nat.zero_le _, Nat.zero_le _⟩) ?_
  refine g_beq (tgt := 58) hx hb dX8_canAsk_16 (by decide) (fun c_16 => absurd (g_isPl hp) c_16) (fun c_16 => ?_)
  refine lv_iload_n hx hb dX8_canAsk_19 rfl (lv_at hl 4 rfl) ?_
  refine lv_if_eq (tgt := 40) hx hb dX8_canAsk_20 (by decide) (fun c_20 => absurd c_20 (by decide)) (fun c_20 => ?_)
  refine lv_aload_n hx hb dX8_canAsk_23 rfl (lv_at hl 1 rfl) ?_
  refine va_get (D := D) (ci := 6) (v := .ref (q 13)) (C := RX8) (T := TX8) (N := 28) hx hb hts in_X8_canAsk_X8 hown hK.1 hP 0 rfl rfl 13 (by decide) (hts (.fieldLink RX8 43 "NestlimitModel" "found" "[Z") (List.mem_of_getElem? (i := 1) rfl)) (fun _ h9 => h9) rfl dX8_canAsk_24 ?_
  refine lv_bipush (v := 25) hx hb dX8_canAsk_27 (by decide) ?_
  refine lv_iload_n hx hb dX8_canAsk_29 rfl (lv_at hl 2 rfl) ?_
  refine lv_imul hx hb dX8_canAsk_30 ?_
  refine g_topi (pk_mul 25 k) ?_
  refine lv_iload_n hx hb dX8_canAsk_31 rfl (lv_at hl 3 rfl) ?_
  refine lv_iadd hx hb dX8_canAsk_32 ?_
  refine g_topi (nI_add (25 * k) p) ?_
  refine g_zald (k := (25 * k) + p) hx hb hK.1 hP 12 2 rfl rfl (by omega) (by decide) dX8_canAsk_33 ?_
  refine g_beq (tgt := 58) hx hb dX8_canAsk_34 (by decide) (fun c_34 => absurd hf c_34) (fun c_34 => ?_)
  refine lv_goto (tgt := 54) hx hb dX8_canAsk_37 (by decide) ?_
  refine lv_iconst (v := 1) hx hb dX8_canAsk_54 (by decide) ?_
  refine lv_goto (tgt := 59) hx hb dX8_canAsk_55 (by decide) ?_
  refine lv_istore (lv' := [(5, .int 1), (4, .int (gB (sp_X8_isProgram pn (nI k)))), (0, .ref h), (1, .int (nI k)), (2, .int (nI p)), (3, .int 1)]) hx hb dX8_canAsk_59 hl (by decide) rfl (fun ls hl => ?_)
  refine lv_aload_n hx hb dX8_canAsk_61 rfl (lv_at hl 2 rfl) ?_
  refine lv_iload hx hb dX8_canAsk_62 (lv_at hl 1 rfl) ?_
  refine g_bne (tgt := 71) hx hb dX8_canAsk_64 (by decide) (fun c_64 => ?_) (fun c_64 => absurd (g_isP hk hpn) c_64)
  refine lv_iload_n hx hb dX8_canAsk_71 rfl (lv_at hl 4 rfl) ?_
  refine g_callR (v0 := .int (gB (sp_X8_isPlace (nI p)))) (va_runS (As := [.int (nI p)]) (rest := [.ref h]) ⟨hx, hb, hml, hown, hts⟩ (c_X8_isPlace l D y s.heap.size (nI p)) (va_cwS 1 hts gX8_canAsk_X8_isPlace rfl rfl rfl (by decide +kernel) ⟨Nat.le_of_ble_eq_true rfl, Nat.le_of_ble_eq_true rfl⟩) (gP_S hP hD hK [] (by decide) rfl) rfl rfl hl.1 rfl (lv_room (Nat.le_of_ble_eq_true rfl)) dX8_canAsk_72 ⟨Nat.zero_le _, Nat.zero_le _⟩) ?_
  refine g_bne (tgt := 82) hx hb dX8_canAsk_75 (by decide) (fun c_75 => ?_) (fun c_75 => absurd (g_isPl hp) c_75)
  refine lv_iload hx hb dX8_canAsk_82 (lv_at hl 0 rfl) ?_
  refine lv_if_eq (tgt := 91) hx hb dX8_canAsk_84 (by decide) (fun c_84 => absurd c_84 (by decide)) (fun c_84 => ?_)
  refine lv_iconst (v := 0) hx hb dX8_canAsk_87 (by decide) ?_
  refine lv_goto (tgt := 92) hx hb dX8_canAsk_88 (by decide) ?_
  refine g_callA1 (v0 := .int (gB (sp_X8_holds 0))) (w0 := wM y h q 0 pn ki on ot ab be zA zB zC zD zF zT fo lw hg at_ tl th wo wl wh is_ lo_ hi_ di su an) (va_runV (As := [.int 0]) (rest := []) ⟨hx, hb, hml, hown, hts⟩ (c_X8_holds l D y s.heap.size h q tw pn ki on ot ab be zA zB zC zD zF zT fo lw hg at_ tl th wo wl wh is_ lo_ hi_ di su an 0) (cwV 1 hts gX8_canAsk_X8_holds rfl rfl rfl (by decide +kernel) ⟨Nat.le_of_ble_eq_true rfl, Nat.le_of_ble_eq_true rfl⟩) (gP_VA hP hD hK 0 rfl rfl) rfl rfl hl.1 rfl (lv_room (Nat.le_of_ble_eq_true rfl)) dX8_canAsk_92 ⟨Nat.zero_le _, Nat.zero_le _⟩) hP hD hS hA rfl (fun H locs hP hD hS => ?_)
  exact W.zret (v := gB (sp_X8_holds 0)) hx hb hr (gB_n _) (fun t ht hW => ⟨⟨_, wM y h q 0 pn ki on ot ab be zA zB zC zD zF zT fo lw hg at_ tl th wo wl wh is_ lo_ hi_ di su an, rfl, ⟨congrArg (fun z => some (Value.int z)) (by decide), rfl⟩, rfl, by rw [ht]; exact hP⟩, by rw [← hAe]; exact hS.F ht⟩) (by rw [← hAe]; exact hS.2.2) dX8_canAsk_95
set_option maxHeartbeats 4000000 in
set_option maxRecDepth 100000 in
theorem c_X8_canAsk_f3 (l : Launch) (D : va_G) (y : Nat → ClassId) (sz : Nat) (h : Nat) (q : Nat → Nat) (tw : Int32) (pn : Nat) (ki on ot ab be zA zB zC zD zF zT : Nat → Int32) (fo : Nat → Bool) (lw hg : Nat → Int64) (at_ : Nat → Bool) (tl th : Nat → Int64) (wo : Nat → Bool) (wl wh : Nat → Int64) (is_ : Bool) (lo_ hi_ : Int64) (di : Nat → Int32) (su : Nat → Int64) (an : Nat → Bool) (k p : Nat) (hpn : pn ≤ 40) (hk : k < pn) (hp : p < 25) (hf : ¬ fo (25 * k + p) = true) : Met l yX8_canAsk wsX8_canAsk ({ frames := 2, cells := 0, slots := 0, locals := 43 } : Room) (gP D y [.ref h, .int (nI k), .int (nI p), .int 1] (wM y h q tw pn ki on ot ab be zA zB zC zD zF zT fo lw hg at_ tl th wo wl wh is_ lo_ hi_ di su an) sz) (gQ D (wM y h q tw pn ki on ot ab be zA zB zC zD zF zT fo lw hg at_ tl th wo wl wh is_ lo_ hi_ di su an) (gF (some (.int (gB false))) (wM y h q 3 pn ki on ot ab be zA zB zC zD zF zT fo lw hg at_ tl th wo wl wh is_ lo_ hi_ di su an))) 0 0 (va_A (wM y h q tw pn ki on ot ab be zA zB zC zD zF zT fo lw hg at_ tl th wo wl wh is_ lo_ hi_ di su an) sz) := by
  refine Met.ofW (cc := cX8_canAsk) (maxL := 6) (ret := (some .boolean)) (by decide) rfl ?_
  intro pg e s m args below meth c s₁ B hml hv
  obtain ⟨rfl, hsz, hP, hK, hD0⟩ := hv
  have hx := B.exec
  have hb := B.bytes
  have hr := B.returns
  have hts := atoms_spec (ws := wsX8_canAsk) B.pre
  have hown : s.vm.findClass RX8 = some m.cls := findClass_of_methodNamed B.named
  have hlocks := B.notSynchronized
  subst hsz
  obtain ⟨A, hAe⟩ : ∃ A : Nat → Prop, A = va_A (wM y h q tw pn ki on ot ab be zA zB zC zD zF zT fo lw hg at_ tl th wo wl wh is_ lo_ hi_ di su an) s.heap.size := ⟨_, rfl⟩
  have hD : va_D A (wM y h q tw pn ki on ot ab be zA zB zC zD zF zT fo lw hg at_ tl th wo wl wh is_ lo_ hi_ di su an) := by rw [hAe]; exact hD0.self (sz := s.heap.size)
  have hA : ∀ q : Nat, s.heap.size ≤ q → A q := fun q h => by rw [hAe]; exact Or.inr h
  have hS : va_S A s.heap s.heap [] := va_S.rf
  have hl := lv_entry ([.ref h, .int (nI k), .int (nI p), .int 1]) (n := 6) (Nat.le_of_ble_eq_true rfl)
  rw [lg_entry_eq]
  generalize (lg_sl ([.ref h, .int (nI k), .int (nI p), .int 1]) ++ List.replicate (6 - (lg_sl ([.ref h, .int (nI k), .int (nI p), .int 1])).length) Slot.unset).toArray = ls at hl ⊢
  have hl : lv_has ls 6 [(0, .ref h), (1, .int (nI k)), (2, .int (nI p)), (3, .int 1)] := hl
  refine lv_aload_n hx hb dX8_canAsk_0 rfl (lv_at hl 0 rfl) ?_
  refine lv_iload_n hx hb dX8_canAsk_1 rfl (lv_at hl 1 rfl) ?_
  refine g_callR (v0 := .int (gB (sp_X8_isProgram pn (nI k)))) (va_runV (As := [.int (nI k)]) (rest := []) ⟨hx, hb, hml, hown, hts⟩ (c_X8_isProgram l D y s.heap.size h q tw pn ki on ot ab be zA zB zC zD zF zT fo lw hg at_ tl th wo wl wh is_ lo_ hi_ di su an (nI k)) (cwV 1 hts gX8_canAsk_X8_isProgram rfl rfl rfl (by decide +kernel) ⟨Nat.le_of_ble_eq_true rfl, Nat.le_of_ble_eq_true rfl⟩) (gP_VA hP hD hK 0 rfl rfl) rfl rfl hl.1 rfl (lv_room (Nat.le_of_ble_eq_true rfl)) dX8_canAsk_2 ⟨Nat.zero_le _, Nat.zero_le _⟩) ?_
  refine lv_istore (lv' := [(4, .int (gB (sp_X8_isProgram pn (nI k)))), (0, .ref h), (1, .int (nI k)), (2, .int (nI p)), (3, .int 1)]) hx hb dX8_canAsk_5 hl (by decide) rfl (fun ls hl => ?_)
  refine lv_iload hx hb dX8_canAsk_7 (lv_at hl 0 rfl) ?_
  refine g_beq (tgt := 58) hx hb dX8_canAsk_9 (by decide) (fun c_9 => absurd (g_isP hk hpn) c_9) (fun c_9 => ?_)
  refine lv_iload_n hx hb dX8_canAsk_12 rfl (lv_at hl 3 rfl) ?_
  refine g_callR (v0 := .int (gB (sp_X8_isPlace (nI p)))) (va_runS (As := [.int (nI p)]) (rest := []) ⟨hx, hb, hml, hown, hts⟩ (c_X8_isPlace l D y s.heap.size (nI p)) (va_cwS 1 hts gX8_canAsk_X8_isPlace rfl rfl rfl (by decide +kernel) ⟨Nat.le_of_ble_eq_true rfl, Nat.le_of_ble_eq_true rfl⟩) (gP_S hP hD hK [] (by decide) rfl) rfl rfl hl.1 rfl (lv_room (Nat.le_of_ble_eq_true rfl)) dX8_canAsk_13 ⟨Nat.zero_le _, Nat.zero_le _⟩) ?_
  refine g_beq (tgt := 58) hx hb dX8_canAsk_16 (by decide) (fun c_16 => absurd (g_isPl hp) c_16) (fun c_16 => ?_)
  refine lv_iload_n hx hb dX8_canAsk_19 rfl (lv_at hl 4 rfl) ?_
  refine lv_if_eq (tgt := 40) hx hb dX8_canAsk_20 (by decide) (fun c_20 => absurd c_20 (by decide)) (fun c_20 => ?_)
  refine lv_aload_n hx hb dX8_canAsk_23 rfl (lv_at hl 1 rfl) ?_
  refine va_get (D := D) (ci := 6) (v := .ref (q 13)) (C := RX8) (T := TX8) (N := 28) hx hb hts in_X8_canAsk_X8 hown hK.1 hP 0 rfl rfl 13 (by decide) (hts (.fieldLink RX8 43 "NestlimitModel" "found" "[Z") (List.mem_of_getElem? (i := 1) rfl)) (fun _ h9 => h9) rfl dX8_canAsk_24 ?_
  refine lv_bipush (v := 25) hx hb dX8_canAsk_27 (by decide) ?_
  refine lv_iload_n hx hb dX8_canAsk_29 rfl (lv_at hl 2 rfl) ?_
  refine lv_imul hx hb dX8_canAsk_30 ?_
  refine g_topi (pk_mul 25 k) ?_
  refine lv_iload_n hx hb dX8_canAsk_31 rfl (lv_at hl 3 rfl) ?_
  refine lv_iadd hx hb dX8_canAsk_32 ?_
  refine g_topi (nI_add (25 * k) p) ?_
  refine g_zald (k := (25 * k) + p) hx hb hK.1 hP 12 2 rfl rfl (by omega) (by decide) dX8_canAsk_33 ?_
  refine g_beq (tgt := 58) hx hb dX8_canAsk_34 (by decide) (fun c_34 => ?_) (fun c_34 => absurd c_34 hf)
  refine lv_iconst (v := 0) hx hb dX8_canAsk_58 (by decide) ?_
  refine lv_istore (lv' := [(5, .int 0), (4, .int (gB (sp_X8_isProgram pn (nI k)))), (0, .ref h), (1, .int (nI k)), (2, .int (nI p)), (3, .int 1)]) hx hb dX8_canAsk_59 hl (by decide) rfl (fun ls hl => ?_)
  refine lv_aload_n hx hb dX8_canAsk_61 rfl (lv_at hl 2 rfl) ?_
  refine lv_iload hx hb dX8_canAsk_62 (lv_at hl 1 rfl) ?_
  refine g_bne (tgt := 71) hx hb dX8_canAsk_64 (by decide) (fun c_64 => ?_) (fun c_64 => absurd (g_isP hk hpn) c_64)
  refine lv_iload_n hx hb dX8_canAsk_71 rfl (lv_at hl 4 rfl) ?_
  refine g_callR (v0 := .int (gB (sp_X8_isPlace (nI p)))) (va_runS (As := [.int (nI p)]) (rest := [.ref h]) ⟨hx, hb, hml, hown, hts⟩ (c_X8_isPlace l D y s.heap.size (nI p)) (va_cwS 1 hts gX8_canAsk_X8_isPlace rfl rfl rfl (by decide +kernel) ⟨Nat.le_of_ble_eq_true rfl, Nat.le_of_ble_eq_true rfl⟩) (gP_S hP hD hK [] (by decide) rfl) rfl rfl hl.1 rfl (lv_room (Nat.le_of_ble_eq_true rfl)) dX8_canAsk_72 ⟨Nat.zero_le _, Nat.zero_le _⟩) ?_
  refine g_bne (tgt := 82) hx hb dX8_canAsk_75 (by decide) (fun c_75 => ?_) (fun c_75 => absurd (g_isPl hp) c_75)
  refine lv_iload hx hb dX8_canAsk_82 (lv_at hl 0 rfl) ?_
  refine lv_if_eq (tgt := 91) hx hb dX8_canAsk_84 (by decide) (fun c_84 => ?_) (fun c_84 => absurd c_84 (by decide))
  refine lv_iconst (v := 3) hx hb dX8_canAsk_91 (by decide) ?_
  refine g_callA1 (v0 := .int (gB (sp_X8_holds 3))) (w0 := wM y h q 3 pn ki on ot ab be zA zB zC zD zF zT fo lw hg at_ tl th wo wl wh is_ lo_ hi_ di su an) (va_runV (As := [.int 3]) (rest := []) ⟨hx, hb, hml, hown, hts⟩ (c_X8_holds l D y s.heap.size h q tw pn ki on ot ab be zA zB zC zD zF zT fo lw hg at_ tl th wo wl wh is_ lo_ hi_ di su an 3) (cwV 1 hts gX8_canAsk_X8_holds rfl rfl rfl (by decide +kernel) ⟨Nat.le_of_ble_eq_true rfl, Nat.le_of_ble_eq_true rfl⟩) (gP_VA hP hD hK 0 rfl rfl) rfl rfl hl.1 rfl (lv_room (Nat.le_of_ble_eq_true rfl)) dX8_canAsk_92 ⟨Nat.zero_le _, Nat.zero_le _⟩) hP hD hS hA rfl (fun H locs hP hD hS => ?_)
  exact W.zret (v := gB (sp_X8_holds 3)) hx hb hr (gB_n _) (fun t ht hW => ⟨⟨_, wM y h q 3 pn ki on ot ab be zA zB zC zD zF zT fo lw hg at_ tl th wo wl wh is_ lo_ hi_ di su an, rfl, ⟨congrArg (fun z => some (Value.int z)) (by decide), rfl⟩, rfl, by rw [ht]; exact hP⟩, by rw [← hAe]; exact hS.F ht⟩) (by rw [← hAe]; exact hS.2.2) dX8_canAsk_95
set_option maxHeartbeats 4000000 in
set_option maxRecDepth 100000 in
theorem c_X8_canAsk_t0 (l : Launch) (D : va_G) (y : Nat → ClassId) (sz : Nat) (h : Nat) (q : Nat → Nat) (tw : Int32) (pn : Nat) (ki on ot ab be zA zB zC zD zF zT : Nat → Int32) (fo : Nat → Bool) (lw hg : Nat → Int64) (at_ : Nat → Bool) (tl th : Nat → Int64) (wo : Nat → Bool) (wl wh : Nat → Int64) (is_ : Bool) (lo_ hi_ : Int64) (di : Nat → Int32) (su : Nat → Int64) (an : Nat → Bool) (k p : Nat) (hpn : pn ≤ 40) (hk : k < pn) (hp : p < 25) (hf : at_ (25 * k + p) = true) : Met l yX8_canAsk wsX8_canAsk ({ frames := 2, cells := 0, slots := 0, locals := 43 } : Room) (gP D y [.ref h, .int (nI k), .int (nI p), .int 0] (wM y h q tw pn ki on ot ab be zA zB zC zD zF zT fo lw hg at_ tl th wo wl wh is_ lo_ hi_ di su an) sz) (gQ D (wM y h q tw pn ki on ot ab be zA zB zC zD zF zT fo lw hg at_ tl th wo wl wh is_ lo_ hi_ di su an) (gF (some (.int (gB true))) (wM y h q 0 pn ki on ot ab be zA zB zC zD zF zT fo lw hg at_ tl th wo wl wh is_ lo_ hi_ di su an))) 0 0 (va_A (wM y h q tw pn ki on ot ab be zA zB zC zD zF zT fo lw hg at_ tl th wo wl wh is_ lo_ hi_ di su an) sz) := by
  refine Met.ofW (cc := cX8_canAsk) (maxL := 6) (ret := (some .boolean)) (by decide) rfl ?_
  intro pg e s m args below meth c s₁ B hml hv
  obtain ⟨rfl, hsz, hP, hK, hD0⟩ := hv
  have hx := B.exec
  have hb := B.bytes
  have hr := B.returns
  have hts := atoms_spec (ws := wsX8_canAsk) B.pre
  have hown : s.vm.findClass RX8 = some m.cls := findClass_of_methodNamed B.named
  have hlocks := B.notSynchronized
  subst hsz
  obtain ⟨A, hAe⟩ : ∃ A : Nat → Prop, A = va_A (wM y h q tw pn ki on ot ab be zA zB zC zD zF zT fo lw hg at_ tl th wo wl wh is_ lo_ hi_ di su an) s.heap.size := ⟨_, rfl⟩
  have hD : va_D A (wM y h q tw pn ki on ot ab be zA zB zC zD zF zT fo lw hg at_ tl th wo wl wh is_ lo_ hi_ di su an) := by rw [hAe]; exact hD0.self (sz := s.heap.size)
  have hA : ∀ q : Nat, s.heap.size ≤ q → A q := fun q h => by rw [hAe]; exact Or.inr h
  have hS : va_S A s.heap s.heap [] := va_S.rf
  have hl := lv_entry ([.ref h, .int (nI k), .int (nI p), .int 0]) (n := 6) (Nat.le_of_ble_eq_true rfl)
  rw [lg_entry_eq]
  generalize (lg_sl ([.ref h, .int (nI k), .int (nI p), .int 0]) ++ List.replicate (6 - (lg_sl ([.ref h, .int (nI k), .int (nI p), .int 0])).length) Slot.unset).toArray = ls at hl ⊢
  have hl : lv_has ls 6 [(0, .ref h), (1, .int (nI k)), (2, .int (nI p)), (3, .int 0)] := hl
  refine lv_aload_n hx hb dX8_canAsk_0 rfl (lv_at hl 0 rfl) ?_
  refine lv_iload_n hx hb dX8_canAsk_1 rfl (lv_at hl 1 rfl) ?_
  refine g_callR (v0 := .int (gB (sp_X8_isProgram pn (nI k)))) (va_runV (As := [.int (nI k)]) (rest := []) ⟨hx, hb, hml, hown, hts⟩ (c_X8_isProgram l D y s.heap.size h q tw pn ki on ot ab be zA zB zC zD zF zT fo lw hg at_ tl th wo wl wh is_ lo_ hi_ di su an (nI k)) (cwV 1 hts gX8_canAsk_X8_isProgram rfl rfl rfl (by decide +kernel) ⟨Nat.le_of_ble_eq_true rfl, Nat.le_of_ble_eq_true rfl⟩) (gP_VA hP hD hK 0 rfl rfl) rfl rfl hl.1 rfl (lv_room (Nat.le_of_ble_eq_true rfl)) dX8_canAsk_2 ⟨Nat.zero_le _, Nat.zero_le _⟩) ?_
  refine lv_istore (lv' := [(4, .int (gB (sp_X8_isProgram pn (nI k)))), (0, .ref h), (1, .int (nI k)), (2, .int (nI p)), (3, .int 0)]) hx hb dX8_canAsk_5 hl (by decide) rfl (fun ls hl => ?_)
  refine lv_iload hx hb dX8_canAsk_7 (lv_at hl 0 rfl) ?_
  refine g_beq (tgt := 58) hx hb dX8_canAsk_9 (by decide) (fun c_9 => absurd (g_isP hk hpn) c_9) (fun c_9 => ?_)
  refine lv_iload_n hx hb dX8_canAsk_12 rfl (lv_at hl 3 rfl) ?_
  refine g_callR (v0 := .int (gB (sp_X8_isPlace (nI p)))) (va_runS (As := [.int (nI p)]) (rest := []) ⟨hx, hb, hml, hown, hts⟩ (c_X8_isPlace l D y s.heap.size (nI p)) (va_cwS 1 hts gX8_canAsk_X8_isPlace rfl rfl rfl (by decide +kernel) ⟨Nat.le_of_ble_eq_true rfl, Nat.le_of_ble_eq_true rfl⟩) (gP_S hP hD hK [] (by decide) rfl) rfl rfl hl.1 rfl (lv_room (Nat.le_of_ble_eq_true rfl)) dX8_canAsk_13 ⟨Nat.zero_le _, Nat.zero_le _⟩) ?_
  refine g_beq (tgt := 58) hx hb dX8_canAsk_16 (by decide) (fun c_16 => absurd (g_isPl hp) c_16) (fun c_16 => ?_)
  refine lv_iload_n hx hb dX8_canAsk_19 rfl (lv_at hl 4 rfl) ?_
  refine lv_if_eq (tgt := 40) hx hb dX8_canAsk_20 (by decide) (fun c_20 => ?_) (fun c_20 => absurd c_20 (by decide))
  refine lv_aload_n hx hb dX8_canAsk_40 rfl (lv_at hl 1 rfl) ?_
  refine va_get (D := D) (ci := 6) (v := .ref (q 16)) (C := RX8) (T := TX8) (N := 28) hx hb hts in_X8_canAsk_X8 hown hK.1 hP 0 rfl rfl 16 (by decide) (hts (.fieldLink RX8 54 "NestlimitModel" "areTold" "[Z") (List.mem_of_getElem? (i := 2) rfl)) (fun _ h9 => h9) rfl dX8_canAsk_41 ?_
  refine lv_bipush (v := 25) hx hb dX8_canAsk_44 (by decide) ?_
  refine lv_iload_n hx hb dX8_canAsk_46 rfl (lv_at hl 2 rfl) ?_
  refine lv_imul hx hb dX8_canAsk_47 ?_
  refine g_topi (pk_mul 25 k) ?_
  refine lv_iload_n hx hb dX8_canAsk_48 rfl (lv_at hl 3 rfl) ?_
  refine lv_iadd hx hb dX8_canAsk_49 ?_
  refine g_topi (nI_add (25 * k) p) ?_
  refine g_zald (k := (25 * k) + p) hx hb hK.1 hP 15 2 rfl rfl (by omega) (by decide) dX8_canAsk_50 ?_
  refine g_beq (tgt := 58) hx hb dX8_canAsk_51 (by decide) (fun c_51 => absurd hf c_51) (fun c_51 => ?_)
  refine lv_iconst (v := 1) hx hb dX8_canAsk_54 (by decide) ?_
  refine lv_goto (tgt := 59) hx hb dX8_canAsk_55 (by decide) ?_
  refine lv_istore (lv' := [(5, .int 1), (4, .int (gB (sp_X8_isProgram pn (nI k)))), (0, .ref h), (1, .int (nI k)), (2, .int (nI p)), (3, .int 0)]) hx hb dX8_canAsk_59 hl (by decide) rfl (fun ls hl => ?_)
  refine lv_aload_n hx hb dX8_canAsk_61 rfl (lv_at hl 2 rfl) ?_
  refine lv_iload hx hb dX8_canAsk_62 (lv_at hl 1 rfl) ?_
  refine g_bne (tgt := 71) hx hb dX8_canAsk_64 (by decide) (fun c_64 => ?_) (fun c_64 => absurd (g_isP hk hpn) c_64)
  refine lv_iload_n hx hb dX8_canAsk_71 rfl (lv_at hl 4 rfl) ?_
  refine g_callR (v0 := .int (gB (sp_X8_isPlace (nI p)))) (va_runS (As := [.int (nI p)]) (rest := [.ref h]) ⟨hx, hb, hml, hown, hts⟩ (c_X8_isPlace l D y s.heap.size (nI p)) (va_cwS 1 hts gX8_canAsk_X8_isPlace rfl rfl rfl (by decide +kernel) ⟨Nat.le_of_ble_eq_true rfl, Nat.le_of_ble_eq_true rfl⟩) (gP_S hP hD hK [] (by decide) rfl) rfl rfl hl.1 rfl (lv_room (Nat.le_of_ble_eq_true rfl)) dX8_canAsk_72 ⟨Nat.zero_le _, Nat.zero_le _⟩) ?_
  refine g_bne (tgt := 82) hx hb dX8_canAsk_75 (by decide) (fun c_75 => ?_) (fun c_75 => absurd (g_isPl hp) c_75)
  refine lv_iload hx hb dX8_canAsk_82 (lv_at hl 0 rfl) ?_
  refine lv_if_eq (tgt := 91) hx hb dX8_canAsk_84 (by decide) (fun c_84 => absurd c_84 (by decide)) (fun c_84 => ?_)
  refine lv_iconst (v := 0) hx hb dX8_canAsk_87 (by decide) ?_
  refine lv_goto (tgt := 92) hx hb dX8_canAsk_88 (by decide) ?_
  refine g_callA1 (v0 := .int (gB (sp_X8_holds 0))) (w0 := wM y h q 0 pn ki on ot ab be zA zB zC zD zF zT fo lw hg at_ tl th wo wl wh is_ lo_ hi_ di su an) (va_runV (As := [.int 0]) (rest := []) ⟨hx, hb, hml, hown, hts⟩ (c_X8_holds l D y s.heap.size h q tw pn ki on ot ab be zA zB zC zD zF zT fo lw hg at_ tl th wo wl wh is_ lo_ hi_ di su an 0) (cwV 1 hts gX8_canAsk_X8_holds rfl rfl rfl (by decide +kernel) ⟨Nat.le_of_ble_eq_true rfl, Nat.le_of_ble_eq_true rfl⟩) (gP_VA hP hD hK 0 rfl rfl) rfl rfl hl.1 rfl (lv_room (Nat.le_of_ble_eq_true rfl)) dX8_canAsk_92 ⟨Nat.zero_le _, Nat.zero_le _⟩) hP hD hS hA rfl (fun H locs hP hD hS => ?_)
  exact W.zret (v := gB (sp_X8_holds 0)) hx hb hr (gB_n _) (fun t ht hW => ⟨⟨_, wM y h q 0 pn ki on ot ab be zA zB zC zD zF zT fo lw hg at_ tl th wo wl wh is_ lo_ hi_ di su an, rfl, ⟨congrArg (fun z => some (Value.int z)) (by decide), rfl⟩, rfl, by rw [ht]; exact hP⟩, by rw [← hAe]; exact hS.F ht⟩) (by rw [← hAe]; exact hS.2.2) dX8_canAsk_95
set_option maxHeartbeats 4000000 in
set_option maxRecDepth 100000 in
theorem c_X8_canAsk_t3 (l : Launch) (D : va_G) (y : Nat → ClassId) (sz : Nat) (h : Nat) (q : Nat → Nat) (tw : Int32) (pn : Nat) (ki on ot ab be zA zB zC zD zF zT : Nat → Int32) (fo : Nat → Bool) (lw hg : Nat → Int64) (at_ : Nat → Bool) (tl th : Nat → Int64) (wo : Nat → Bool) (wl wh : Nat → Int64) (is_ : Bool) (lo_ hi_ : Int64) (di : Nat → Int32) (su : Nat → Int64) (an : Nat → Bool) (k p : Nat) (hpn : pn ≤ 40) (hk : k < pn) (hp : p < 25) (hf : ¬ at_ (25 * k + p) = true) : Met l yX8_canAsk wsX8_canAsk ({ frames := 2, cells := 0, slots := 0, locals := 43 } : Room) (gP D y [.ref h, .int (nI k), .int (nI p), .int 0] (wM y h q tw pn ki on ot ab be zA zB zC zD zF zT fo lw hg at_ tl th wo wl wh is_ lo_ hi_ di su an) sz) (gQ D (wM y h q tw pn ki on ot ab be zA zB zC zD zF zT fo lw hg at_ tl th wo wl wh is_ lo_ hi_ di su an) (gF (some (.int (gB false))) (wM y h q 3 pn ki on ot ab be zA zB zC zD zF zT fo lw hg at_ tl th wo wl wh is_ lo_ hi_ di su an))) 0 0 (va_A (wM y h q tw pn ki on ot ab be zA zB zC zD zF zT fo lw hg at_ tl th wo wl wh is_ lo_ hi_ di su an) sz) := by
  refine Met.ofW (cc := cX8_canAsk) (maxL := 6) (ret := (some .boolean)) (by decide) rfl ?_
  intro pg e s m args below meth c s₁ B hml hv
  obtain ⟨rfl, hsz, hP, hK, hD0⟩ := hv
  have hx := B.exec
  have hb := B.bytes
  have hr := B.returns
  have hts := atoms_spec (ws := wsX8_canAsk) B.pre
  have hown : s.vm.findClass RX8 = some m.cls := findClass_of_methodNamed B.named
  have hlocks := B.notSynchronized
  subst hsz
  obtain ⟨A, hAe⟩ : ∃ A : Nat → Prop, A = va_A (wM y h q tw pn ki on ot ab be zA zB zC zD zF zT fo lw hg at_ tl th wo wl wh is_ lo_ hi_ di su an) s.heap.size := ⟨_, rfl⟩
  have hD : va_D A (wM y h q tw pn ki on ot ab be zA zB zC zD zF zT fo lw hg at_ tl th wo wl wh is_ lo_ hi_ di su an) := by rw [hAe]; exact hD0.self (sz := s.heap.size)
  have hA : ∀ q : Nat, s.heap.size ≤ q → A q := fun q h => by rw [hAe]; exact Or.inr h
  have hS : va_S A s.heap s.heap [] := va_S.rf
  have hl := lv_entry ([.ref h, .int (nI k), .int (nI p), .int 0]) (n := 6) (Nat.le_of_ble_eq_true rfl)
  rw [lg_entry_eq]
  generalize (lg_sl ([.ref h, .int (nI k), .int (nI p), .int 0]) ++ List.replicate (6 - (lg_sl ([.ref h, .int (nI k), .int (nI p), .int 0])).length) Slot.unset).toArray = ls at hl ⊢
  have hl : lv_has ls 6 [(0, .ref h), (1, .int (nI k)), (2, .int (nI p)), (3, .int 0)] := hl
  refine lv_aload_n hx hb dX8_canAsk_0 rfl (lv_at hl 0 rfl) ?_
  refine lv_iload_n hx hb dX8_canAsk_1 rfl (lv_at hl 1 rfl) ?_
  refine g_callR (v0 := .int (gB (sp_X8_isProgram pn (nI k)))) (va_runV (As := [.int (nI k)]) (rest := []) ⟨hx, hb, hml, hown, hts⟩ (c_X8_isProgram l D y s.heap.size h q tw pn ki on ot ab be zA zB zC zD zF zT fo lw hg at_ tl th wo wl wh is_ lo_ hi_ di su an (nI k)) (cwV 1 hts gX8_canAsk_X8_isProgram rfl rfl rfl (by decide +kernel) ⟨Nat.le_of_ble_eq_true rfl, Nat.le_of_ble_eq_true rfl⟩) (gP_VA hP hD hK 0 rfl rfl) rfl rfl hl.1 rfl (lv_room (Nat.le_of_ble_eq_true rfl)) dX8_canAsk_2 ⟨Nat.zero_le _, Nat.zero_le _⟩) ?_
  refine lv_istore (lv' := [(4, .int (gB (sp_X8_isProgram pn (nI k)))), (0, .ref h), (1, .int (nI k)), (2, .int (nI p)), (3, .int 0)]) hx hb dX8_canAsk_5 hl (by decide) rfl (fun ls hl => ?_)
  refine lv_iload hx hb dX8_canAsk_7 (lv_at hl 0 rfl) ?_
  refine g_beq (tgt := 58) hx hb dX8_canAsk_9 (by decide) (fun c_9 => absurd (g_isP hk hpn) c_9) (fun c_9 => ?_)
  refine lv_iload_n hx hb dX8_canAsk_12 rfl (lv_at hl 3 rfl) ?_
  refine g_callR (v0 := .int (gB (sp_X8_isPlace (nI p)))) (va_runS (As := [.int (nI p)]) (rest := []) ⟨hx, hb, hml, hown, hts⟩ (c_X8_isPlace l D y s.heap.size (nI p)) (va_cwS 1 hts gX8_canAsk_X8_isPlace rfl rfl rfl (by decide +kernel) ⟨Nat.le_of_ble_eq_true rfl, Nat.le_of_ble_eq_true rfl⟩) (gP_S hP hD hK [] (by decide) rfl) rfl rfl hl.1 rfl (lv_room (Nat.le_of_ble_eq_true rfl)) dX8_canAsk_13 ⟨Nat.zero_le _, Nat.zero_le _⟩) ?_
  refine g_beq (tgt := 58) hx hb dX8_canAsk_16 (by decide) (fun c_16 => absurd (g_isPl hp) c_16) (fun c_16 => ?_)
  refine lv_iload_n hx hb dX8_canAsk_19 rfl (lv_at hl 4 rfl) ?_
  refine lv_if_eq (tgt := 40) hx hb dX8_canAsk_20 (by decide) (fun c_20 => ?_) (fun c_20 => absurd c_20 (by decide))
  refine lv_aload_n hx hb dX8_canAsk_40 rfl (lv_at hl 1 rfl) ?_
  refine va_get (D := D) (ci := 6) (v := .ref (q 16)) (C := RX8) (T := TX8) (N := 28) hx hb hts in_X8_canAsk_X8 hown hK.1 hP 0 rfl rfl 16 (by decide) (hts (.fieldLink RX8 54 "NestlimitModel" "areTold" "[Z") (List.mem_of_getElem? (i := 2) rfl)) (fun _ h9 => h9) rfl dX8_canAsk_41 ?_
  refine lv_bipush (v := 25) hx hb dX8_canAsk_44 (by decide) ?_
  refine lv_iload_n hx hb dX8_canAsk_46 rfl (lv_at hl 2 rfl) ?_
  refine lv_imul hx hb dX8_canAsk_47 ?_
  refine g_topi (pk_mul 25 k) ?_
  refine lv_iload_n hx hb dX8_canAsk_48 rfl (lv_at hl 3 rfl) ?_
  refine lv_iadd hx hb dX8_canAsk_49 ?_
  refine g_topi (nI_add (25 * k) p) ?_
  refine g_zald (k := (25 * k) + p) hx hb hK.1 hP 15 2 rfl rfl (by omega) (by decide) dX8_canAsk_50 ?_
  refine g_beq (tgt := 58) hx hb dX8_canAsk_51 (by decide) (fun c_51 => ?_) (fun c_51 => absurd c_51 hf)
  refine lv_iconst (v := 0) hx hb dX8_canAsk_58 (by decide) ?_
  refine lv_istore (lv' := [(5, .int 0), (4, .int (gB (sp_X8_isProgram pn (nI k)))), (0, .ref h), (1, .int (nI k)), (2, .int (nI p)), (3, .int 0)]) hx hb dX8_canAsk_59 hl (by decide) rfl (fun ls hl => ?_)
  refine lv_aload_n hx hb dX8_canAsk_61 rfl (lv_at hl 2 rfl) ?_
  refine lv_iload hx hb dX8_canAsk_62 (lv_at hl 1 rfl) ?_
  refine g_bne (tgt := 71) hx hb dX8_canAsk_64 (by decide) (fun c_64 => ?_) (fun c_64 => absurd (g_isP hk hpn) c_64)
  refine lv_iload_n hx hb dX8_canAsk_71 rfl (lv_at hl 4 rfl) ?_
  refine g_callR (v0 := .int (gB (sp_X8_isPlace (nI p)))) (va_runS (As := [.int (nI p)]) (rest := [.ref h]) ⟨hx, hb, hml, hown, hts⟩ (c_X8_isPlace l D y s.heap.size (nI p)) (va_cwS 1 hts gX8_canAsk_X8_isPlace rfl rfl rfl (by decide +kernel) ⟨Nat.le_of_ble_eq_true rfl, Nat.le_of_ble_eq_true rfl⟩) (gP_S hP hD hK [] (by decide) rfl) rfl rfl hl.1 rfl (lv_room (Nat.le_of_ble_eq_true rfl)) dX8_canAsk_72 ⟨Nat.zero_le _, Nat.zero_le _⟩) ?_
  refine g_bne (tgt := 82) hx hb dX8_canAsk_75 (by decide) (fun c_75 => ?_) (fun c_75 => absurd (g_isPl hp) c_75)
  refine lv_iload hx hb dX8_canAsk_82 (lv_at hl 0 rfl) ?_
  refine lv_if_eq (tgt := 91) hx hb dX8_canAsk_84 (by decide) (fun c_84 => ?_) (fun c_84 => absurd c_84 (by decide))
  refine lv_iconst (v := 3) hx hb dX8_canAsk_91 (by decide) ?_
  refine g_callA1 (v0 := .int (gB (sp_X8_holds 3))) (w0 := wM y h q 3 pn ki on ot ab be zA zB zC zD zF zT fo lw hg at_ tl th wo wl wh is_ lo_ hi_ di su an) (va_runV (As := [.int 3]) (rest := []) ⟨hx, hb, hml, hown, hts⟩ (c_X8_holds l D y s.heap.size h q tw pn ki on ot ab be zA zB zC zD zF zT fo lw hg at_ tl th wo wl wh is_ lo_ hi_ di su an 3) (cwV 1 hts gX8_canAsk_X8_holds rfl rfl rfl (by decide +kernel) ⟨Nat.le_of_ble_eq_true rfl, Nat.le_of_ble_eq_true rfl⟩) (gP_VA hP hD hK 0 rfl rfl) rfl rfl hl.1 rfl (lv_room (Nat.le_of_ble_eq_true rfl)) dX8_canAsk_92 ⟨Nat.zero_le _, Nat.zero_le _⟩) hP hD hS hA rfl (fun H locs hP hD hS => ?_)
  exact W.zret (v := gB (sp_X8_holds 3)) hx hb hr (gB_n _) (fun t ht hW => ⟨⟨_, wM y h q 3 pn ki on ot ab be zA zB zC zD zF zT fo lw hg at_ tl th wo wl wh is_ lo_ hi_ di su an, rfl, ⟨congrArg (fun z => some (Value.int z)) (by decide), rfl⟩, rfl, by rw [ht]; exact hP⟩, by rw [← hAe]; exact hS.F ht⟩) (by rw [← hAe]; exact hS.2.2) dX8_canAsk_95
set_option maxHeartbeats 4000000 in
set_option maxRecDepth 100000 in
theorem c_X8_raw_1 (l : Launch) (D : va_G) (y : Nat → ClassId) (sz : Nat) (h : Nat) (q : Nat → Nat) (tw : Int32) (pn : Nat) (ki on ot ab be zA zB zC zD zF zT : Nat → Int32) (fo : Nat → Bool) (lw hg : Nat → Int64) (at_ : Nat → Bool) (tl th : Nat → Int64) (wo : Nat → Bool) (wl wh : Nat → Int64) (is_ : Bool) (lo_ hi_ : Int64) (di : Nat → Int32) (su : Nat → Int64) (an : Nat → Bool) (a b : Int32) (bb : Bool) (yA : ¬ sp_X8_isProgram pn a = true) : Met l yX8_raw wsX8_raw ({ frames := 3, cells := 0, slots := 0, locals := 68 } : Room) (gP D y [.ref h, .int a, .int b, .int (gB bb)] (wM y h q tw pn ki on ot ab be zA zB zC zD zF zT fo lw hg at_ tl th wo wl wh is_ lo_ hi_ di su an) sz) (gQ D (wM y h q tw pn ki on ot ab be zA zB zC zD zF zT fo lw hg at_ tl th wo wl wh is_ lo_ hi_ di su an) (gF (some (.long 0)) (wM y h q 1 pn ki on ot ab be zA zB zC zD zF zT fo lw hg at_ tl th wo wl wh is_ lo_ hi_ di su an))) 0 0 (va_A (wM y h q tw pn ki on ot ab be zA zB zC zD zF zT fo lw hg at_ tl th wo wl wh is_ lo_ hi_ di su an) sz) := by
  refine Met.ofW (cc := cX8_raw) (maxL := 4) (ret := (some .long)) (by decide) rfl ?_
  intro pg e s m args below meth c s₁ B hml hv
  obtain ⟨rfl, hsz, hP, hK, hD0⟩ := hv
  have hx := B.exec
  have hb := B.bytes
  have hr := B.returns
  have hts := atoms_spec (ws := wsX8_raw) B.pre
  have hown : s.vm.findClass RX8 = some m.cls := findClass_of_methodNamed B.named
  have hlocks := B.notSynchronized
  subst hsz
  obtain ⟨A, hAe⟩ : ∃ A : Nat → Prop, A = va_A (wM y h q tw pn ki on ot ab be zA zB zC zD zF zT fo lw hg at_ tl th wo wl wh is_ lo_ hi_ di su an) s.heap.size := ⟨_, rfl⟩
  have hD : va_D A (wM y h q tw pn ki on ot ab be zA zB zC zD zF zT fo lw hg at_ tl th wo wl wh is_ lo_ hi_ di su an) := by rw [hAe]; exact hD0.self (sz := s.heap.size)
  have hA : ∀ q : Nat, s.heap.size ≤ q → A q := fun q h => by rw [hAe]; exact Or.inr h
  have hS : va_S A s.heap s.heap [] := va_S.rf
  have hl := lv_entry ([.ref h, .int a, .int b, .int (gB bb)]) (n := 4) (Nat.le_of_ble_eq_true rfl)
  rw [lg_entry_eq]
  generalize (lg_sl ([.ref h, .int a, .int b, .int (gB bb)]) ++ List.replicate (4 - (lg_sl ([.ref h, .int a, .int b, .int (gB bb)])).length) Slot.unset).toArray = ls at hl ⊢
  have hl : lv_has ls 4 [(0, .ref h), (1, .int a), (2, .int b), (3, .int (gB bb))] := hl
  refine lv_aload_n hx hb dX8_raw_0 rfl (lv_at hl 0 rfl) ?_
  refine lv_iload_n hx hb dX8_raw_1 rfl (lv_at hl 1 rfl) ?_
  refine lv_iload_n hx hb dX8_raw_2 rfl (lv_at hl 2 rfl) ?_
  refine lv_iconst (v := 1) hx hb dX8_raw_3 (by decide) ?_
  refine g_callA1 (v0 := .int (gB false)) (w0 := wM y h q 1 pn ki on ot ab be zA zB zC zD zF zT fo lw hg at_ tl th wo wl wh is_ lo_ hi_ di su an) (va_runV (As := [.int a, .int b, .int 1]) (rest := []) ⟨hx, hb, hml, hown, hts⟩ (c_X8_canAsk_1 l D y s.heap.size h q tw pn ki on ot ab be zA zB zC zD zF zT fo lw hg at_ tl th wo wl wh is_ lo_ hi_ di su an a b 1 yA) (cwV 3 hts gX8_raw_X8_canAsk rfl rfl rfl (by decide +kernel) ⟨Nat.le_of_ble_eq_true rfl, Nat.le_of_ble_eq_true rfl⟩) (gP_VA hP hD hK 0 rfl rfl) rfl rfl hl.1 rfl (lv_room (Nat.le_of_ble_eq_true rfl)) dX8_raw_4 ⟨Nat.zero_le _, Nat.zero_le _⟩) hP hD hS hA rfl (fun H locs hP hD hS => ?_)
  refine g_bne (tgt := 12) hx hb dX8_raw_7 (by decide) (fun c_7 => absurd c_7 (by decide)) (fun c_7 => ?_)
  refine lv_lconst (v := 0) hx hb dX8_raw_10 (by decide) ?_
  exact W.lret (v := 0) hx hb hr (fun t ht hW => ⟨⟨_, wM y h q 1 pn ki on ot ab be zA zB zC zD zF zT fo lw hg at_ tl th wo wl wh is_ lo_ hi_ di su an, rfl, ⟨congrArg (fun z => some (Value.long z)) (rfl), rfl⟩, rfl, by rw [ht]; exact hP⟩, by rw [← hAe]; exact hS.F ht⟩) (by rw [← hAe]; exact hS.2.2) dX8_raw_11
set_option maxHeartbeats 4000000 in
set_option maxRecDepth 100000 in
theorem c_X8_raw_2 (l : Launch) (D : va_G) (y : Nat → ClassId) (sz : Nat) (h : Nat) (q : Nat → Nat) (tw : Int32) (pn : Nat) (ki on ot ab be zA zB zC zD zF zT : Nat → Int32) (fo : Nat → Bool) (lw hg : Nat → Int64) (at_ : Nat → Bool) (tl th : Nat → Int64) (wo : Nat → Bool) (wl wh : Nat → Int64) (is_ : Bool) (lo_ hi_ : Int64) (di : Nat → Int32) (su : Nat → Int64) (an : Nat → Bool) (k : Nat) (b : Int32) (bb : Bool) (hpn : pn ≤ 40) (hk : k < pn) (yP : ¬ sp_X8_isPlace b = true) : Met l yX8_raw wsX8_raw ({ frames := 3, cells := 0, slots := 0, locals := 68 } : Room) (gP D y [.ref h, .int (nI k), .int b, .int (gB bb)] (wM y h q tw pn ki on ot ab be zA zB zC zD zF zT fo lw hg at_ tl th wo wl wh is_ lo_ hi_ di su an) sz) (gQ D (wM y h q tw pn ki on ot ab be zA zB zC zD zF zT fo lw hg at_ tl th wo wl wh is_ lo_ hi_ di su an) (gF (some (.long 0)) (wM y h q 2 pn ki on ot ab be zA zB zC zD zF zT fo lw hg at_ tl th wo wl wh is_ lo_ hi_ di su an))) 0 0 (va_A (wM y h q tw pn ki on ot ab be zA zB zC zD zF zT fo lw hg at_ tl th wo wl wh is_ lo_ hi_ di su an) sz) := by
  refine Met.ofW (cc := cX8_raw) (maxL := 4) (ret := (some .long)) (by decide) rfl ?_
  intro pg e s m args below meth c s₁ B hml hv
  obtain ⟨rfl, hsz, hP, hK, hD0⟩ := hv
  have hx := B.exec
  have hb := B.bytes
  have hr := B.returns
  have hts := atoms_spec (ws := wsX8_raw) B.pre
  have hown : s.vm.findClass RX8 = some m.cls := findClass_of_methodNamed B.named
  have hlocks := B.notSynchronized
  subst hsz
  obtain ⟨A, hAe⟩ : ∃ A : Nat → Prop, A = va_A (wM y h q tw pn ki on ot ab be zA zB zC zD zF zT fo lw hg at_ tl th wo wl wh is_ lo_ hi_ di su an) s.heap.size := ⟨_, rfl⟩
  have hD : va_D A (wM y h q tw pn ki on ot ab be zA zB zC zD zF zT fo lw hg at_ tl th wo wl wh is_ lo_ hi_ di su an) := by rw [hAe]; exact hD0.self (sz := s.heap.size)
  have hA : ∀ q : Nat, s.heap.size ≤ q → A q := fun q h => by rw [hAe]; exact Or.inr h
  have hS : va_S A s.heap s.heap [] := va_S.rf
  have hl := lv_entry ([.ref h, .int (nI k), .int b, .int (gB bb)]) (n := 4) (Nat.le_of_ble_eq_true rfl)
  rw [lg_entry_eq]
  generalize (lg_sl ([.ref h, .int (nI k), .int b, .int (gB bb)]) ++ List.replicate (4 - (lg_sl ([.ref h, .int (nI k), .int b, .int (gB bb)])).length) Slot.unset).toArray = ls at hl ⊢
  have hl : lv_has ls 4 [(0, .ref h), (1, .int (nI k)), (2, .int b), (3, .int (gB bb))] := hl
  refine lv_aload_n hx hb dX8_raw_0 rfl (lv_at hl 0 rfl) ?_
  refine lv_iload_n hx hb dX8_raw_1 rfl (lv_at hl 1 rfl) ?_
  refine lv_iload_n hx hb dX8_raw_2 rfl (lv_at hl 2 rfl) ?_
  refine lv_iconst (v := 1) hx hb dX8_raw_3 (by decide) ?_
  refine g_callA1 (v0 := .int (gB false)) (w0 := wM y h q 2 pn ki on ot ab be zA zB zC zD zF zT fo lw hg at_ tl th wo wl wh is_ lo_ hi_ di su an) (va_runV (As := [.int (nI k), .int b, .int 1]) (rest := []) ⟨hx, hb, hml, hown, hts⟩ (c_X8_canAsk_2 l D y s.heap.size h q tw pn ki on ot ab be zA zB zC zD zF zT fo lw hg at_ tl th wo wl wh is_ lo_ hi_ di su an k b 1 hpn hk yP) (cwV 3 hts gX8_raw_X8_canAsk rfl rfl rfl (by decide +kernel) ⟨Nat.le_of_ble_eq_true rfl, Nat.le_of_ble_eq_true rfl⟩) (gP_VA hP hD hK 0 rfl rfl) rfl rfl hl.1 rfl (lv_room (Nat.le_of_ble_eq_true rfl)) dX8_raw_4 ⟨Nat.zero_le _, Nat.zero_le _⟩) hP hD hS hA rfl (fun H locs hP hD hS => ?_)
  refine g_bne (tgt := 12) hx hb dX8_raw_7 (by decide) (fun c_7 => absurd c_7 (by decide)) (fun c_7 => ?_)
  refine lv_lconst (v := 0) hx hb dX8_raw_10 (by decide) ?_
  exact W.lret (v := 0) hx hb hr (fun t ht hW => ⟨⟨_, wM y h q 2 pn ki on ot ab be zA zB zC zD zF zT fo lw hg at_ tl th wo wl wh is_ lo_ hi_ di su an, rfl, ⟨congrArg (fun z => some (Value.long z)) (rfl), rfl⟩, rfl, by rw [ht]; exact hP⟩, by rw [← hAe]; exact hS.F ht⟩) (by rw [← hAe]; exact hS.2.2) dX8_raw_11
set_option maxHeartbeats 4000000 in
set_option maxRecDepth 100000 in
theorem c_X8_raw_3 (l : Launch) (D : va_G) (y : Nat → ClassId) (sz : Nat) (h : Nat) (q : Nat → Nat) (tw : Int32) (pn : Nat) (ki on ot ab be zA zB zC zD zF zT : Nat → Int32) (fo : Nat → Bool) (lw hg : Nat → Int64) (at_ : Nat → Bool) (tl th : Nat → Int64) (wo : Nat → Bool) (wl wh : Nat → Int64) (is_ : Bool) (lo_ hi_ : Int64) (di : Nat → Int32) (su : Nat → Int64) (an : Nat → Bool) (k p : Nat) (bb : Bool) (hpn : pn ≤ 40) (hk : k < pn) (hp : p < 25) (hf : ¬ fo (25 * k + p) = true) : Met l yX8_raw wsX8_raw ({ frames := 3, cells := 0, slots := 0, locals := 68 } : Room) (gP D y [.ref h, .int (nI k), .int (nI p), .int (gB bb)] (wM y h q tw pn ki on ot ab be zA zB zC zD zF zT fo lw hg at_ tl th wo wl wh is_ lo_ hi_ di su an) sz) (gQ D (wM y h q tw pn ki on ot ab be zA zB zC zD zF zT fo lw hg at_ tl th wo wl wh is_ lo_ hi_ di su an) (gF (some (.long 0)) (wM y h q 3 pn ki on ot ab be zA zB zC zD zF zT fo lw hg at_ tl th wo wl wh is_ lo_ hi_ di su an))) 0 0 (va_A (wM y h q tw pn ki on ot ab be zA zB zC zD zF zT fo lw hg at_ tl th wo wl wh is_ lo_ hi_ di su an) sz) := by
  refine Met.ofW (cc := cX8_raw) (maxL := 4) (ret := (some .long)) (by decide) rfl ?_
  intro pg e s m args below meth c s₁ B hml hv
  obtain ⟨rfl, hsz, hP, hK, hD0⟩ := hv
  have hx := B.exec
  have hb := B.bytes
  have hr := B.returns
  have hts := atoms_spec (ws := wsX8_raw) B.pre
  have hown : s.vm.findClass RX8 = some m.cls := findClass_of_methodNamed B.named
  have hlocks := B.notSynchronized
  subst hsz
  obtain ⟨A, hAe⟩ : ∃ A : Nat → Prop, A = va_A (wM y h q tw pn ki on ot ab be zA zB zC zD zF zT fo lw hg at_ tl th wo wl wh is_ lo_ hi_ di su an) s.heap.size := ⟨_, rfl⟩
  have hD : va_D A (wM y h q tw pn ki on ot ab be zA zB zC zD zF zT fo lw hg at_ tl th wo wl wh is_ lo_ hi_ di su an) := by rw [hAe]; exact hD0.self (sz := s.heap.size)
  have hA : ∀ q : Nat, s.heap.size ≤ q → A q := fun q h => by rw [hAe]; exact Or.inr h
  have hS : va_S A s.heap s.heap [] := va_S.rf
  have hl := lv_entry ([.ref h, .int (nI k), .int (nI p), .int (gB bb)]) (n := 4) (Nat.le_of_ble_eq_true rfl)
  rw [lg_entry_eq]
  generalize (lg_sl ([.ref h, .int (nI k), .int (nI p), .int (gB bb)]) ++ List.replicate (4 - (lg_sl ([.ref h, .int (nI k), .int (nI p), .int (gB bb)])).length) Slot.unset).toArray = ls at hl ⊢
  have hl : lv_has ls 4 [(0, .ref h), (1, .int (nI k)), (2, .int (nI p)), (3, .int (gB bb))] := hl
  refine lv_aload_n hx hb dX8_raw_0 rfl (lv_at hl 0 rfl) ?_
  refine lv_iload_n hx hb dX8_raw_1 rfl (lv_at hl 1 rfl) ?_
  refine lv_iload_n hx hb dX8_raw_2 rfl (lv_at hl 2 rfl) ?_
  refine lv_iconst (v := 1) hx hb dX8_raw_3 (by decide) ?_
  refine g_callA1 (v0 := .int (gB false)) (w0 := wM y h q 3 pn ki on ot ab be zA zB zC zD zF zT fo lw hg at_ tl th wo wl wh is_ lo_ hi_ di su an) (va_runV (As := [.int (nI k), .int (nI p), .int 1]) (rest := []) ⟨hx, hb, hml, hown, hts⟩ (c_X8_canAsk_f3 l D y s.heap.size h q tw pn ki on ot ab be zA zB zC zD zF zT fo lw hg at_ tl th wo wl wh is_ lo_ hi_ di su an k p hpn hk hp hf) (cwV 3 hts gX8_raw_X8_canAsk rfl rfl rfl (by decide +kernel) ⟨Nat.le_of_ble_eq_true rfl, Nat.le_of_ble_eq_true rfl⟩) (gP_VA hP hD hK 0 rfl rfl) rfl rfl hl.1 rfl (lv_room (Nat.le_of_ble_eq_true rfl)) dX8_raw_4 ⟨Nat.zero_le _, Nat.zero_le _⟩) hP hD hS hA rfl (fun H locs hP hD hS => ?_)
  refine g_bne (tgt := 12) hx hb dX8_raw_7 (by decide) (fun c_7 => absurd c_7 (by decide)) (fun c_7 => ?_)
  refine lv_lconst (v := 0) hx hb dX8_raw_10 (by decide) ?_
  exact W.lret (v := 0) hx hb hr (fun t ht hW => ⟨⟨_, wM y h q 3 pn ki on ot ab be zA zB zC zD zF zT fo lw hg at_ tl th wo wl wh is_ lo_ hi_ di su an, rfl, ⟨congrArg (fun z => some (Value.long z)) (rfl), rfl⟩, rfl, by rw [ht]; exact hP⟩, by rw [← hAe]; exact hS.F ht⟩) (by rw [← hAe]; exact hS.2.2) dX8_raw_11
theorem in_X8_raw_X8 : ∀ w ∈ wsX80, w ∈ wsX8_raw := fun _ h => List.mem_cons_of_mem _ (List.mem_append_right _ h)
set_option maxHeartbeats 4000000 in
set_option maxRecDepth 100000 in
theorem c_X8_raw_0 (l : Launch) (D : va_G) (y : Nat → ClassId) (sz : Nat) (h : Nat) (q : Nat → Nat) (tw : Int32) (pn : Nat) (ki on ot ab be zA zB zC zD zF zT : Nat → Int32) (fo : Nat → Bool) (lw hg : Nat → Int64) (at_ : Nat → Bool) (tl th : Nat → Int64) (wo : Nat → Bool) (wl wh : Nat → Int64) (is_ : Bool) (lo_ hi_ : Int64) (di : Nat → Int32) (su : Nat → Int64) (an : Nat → Bool) (k p : Nat) (bb : Bool) (hpn : pn ≤ 40) (hk : k < pn) (hp : p < 25) (hf : fo (25 * k + p) = true) : Met l yX8_raw wsX8_raw ({ frames := 3, cells := 0, slots := 0, locals := 68 } : Room) (gP D y [.ref h, .int (nI k), .int (nI p), .int (gB bb)] (wM y h q tw pn ki on ot ab be zA zB zC zD zF zT fo lw hg at_ tl th wo wl wh is_ lo_ hi_ di su an) sz) (gQ D (wM y h q tw pn ki on ot ab be zA zB zC zD zF zT fo lw hg at_ tl th wo wl wh is_ lo_ hi_ di su an) (gF (some (.long (gSel bb (hg (25 * k + p)) (lw (25 * k + p))))) (wM y h q 0 pn ki on ot ab be zA zB zC zD zF zT fo lw hg at_ tl th wo wl wh is_ lo_ hi_ di su an))) 0 0 (va_A (wM y h q tw pn ki on ot ab be zA zB zC zD zF zT fo lw hg at_ tl th wo wl wh is_ lo_ hi_ di su an) sz) := by
  refine Met.ofW (cc := cX8_raw) (maxL := 4) (ret := (some .long)) (by decide) rfl ?_
  intro pg e s m args below meth c s₁ B hml hv
  obtain ⟨rfl, hsz, hP, hK, hD0⟩ := hv
  have hx := B.exec
  have hb := B.bytes
  have hr := B.returns
  have hts := atoms_spec (ws := wsX8_raw) B.pre
  have hown : s.vm.findClass RX8 = some m.cls := findClass_of_methodNamed B.named
  have hlocks := B.notSynchronized
  subst hsz
  obtain ⟨A, hAe⟩ : ∃ A : Nat → Prop, A = va_A (wM y h q tw pn ki on ot ab be zA zB zC zD zF zT fo lw hg at_ tl th wo wl wh is_ lo_ hi_ di su an) s.heap.size := ⟨_, rfl⟩
  have hD : va_D A (wM y h q tw pn ki on ot ab be zA zB zC zD zF zT fo lw hg at_ tl th wo wl wh is_ lo_ hi_ di su an) := by rw [hAe]; exact hD0.self (sz := s.heap.size)
  have hA : ∀ q : Nat, s.heap.size ≤ q → A q := fun q h => by rw [hAe]; exact Or.inr h
  have hS : va_S A s.heap s.heap [] := va_S.rf
  have hl := lv_entry ([.ref h, .int (nI k), .int (nI p), .int (gB bb)]) (n := 4) (Nat.le_of_ble_eq_true rfl)
  rw [lg_entry_eq]
  generalize (lg_sl ([.ref h, .int (nI k), .int (nI p), .int (gB bb)]) ++ List.replicate (4 - (lg_sl ([.ref h, .int (nI k), .int (nI p), .int (gB bb)])).length) Slot.unset).toArray = ls at hl ⊢
  have hl : lv_has ls 4 [(0, .ref h), (1, .int (nI k)), (2, .int (nI p)), (3, .int (gB bb))] := hl
  refine lv_aload_n hx hb dX8_raw_0 rfl (lv_at hl 0 rfl) ?_
  refine lv_iload_n hx hb dX8_raw_1 rfl (lv_at hl 1 rfl) ?_
  refine lv_iload_n hx hb dX8_raw_2 rfl (lv_at hl 2 rfl) ?_
  refine lv_iconst (v := 1) hx hb dX8_raw_3 (by decide) ?_
  refine g_callA1 (v0 := .int (gB true)) (w0 := wM y h q 0 pn ki on ot ab be zA zB zC zD zF zT fo lw hg at_ tl th wo wl wh is_ lo_ hi_ di su an) (va_runV (As := [.int (nI k), .int (nI p), .int 1]) (rest := []) ⟨hx, hb, hml, hown, hts⟩ (c_X8_canAsk_f0 l D y s.heap.size h q tw pn ki on ot ab be zA zB zC zD zF zT fo lw hg at_ tl th wo wl wh is_ lo_ hi_ di su an k p hpn hk hp hf) (cwV 3 hts gX8_raw_X8_canAsk rfl rfl rfl (by decide +kernel) ⟨Nat.le_of_ble_eq_true rfl, Nat.le_of_ble_eq_true rfl⟩) (gP_VA hP hD hK 0 rfl rfl) rfl rfl hl.1 rfl (lv_room (Nat.le_of_ble_eq_true rfl)) dX8_raw_4 ⟨Nat.zero_le _, Nat.zero_le _⟩) hP hD hS hA rfl (fun H locs hP hD hS => ?_)
  refine g_bne (tgt := 12) hx hb dX8_raw_7 (by decide) (fun c_7 => ?_) (fun c_7 => absurd c_7 (by decide))
  refine lv_iload_n hx hb dX8_raw_12 rfl (lv_at hl 3 rfl) ?_
  refine g_beq (tgt := 30) hx hb dX8_raw_13 (by decide) (fun c_13 => ?_) (fun c_13 => ?_)
  · skip
    refine lv_aload_n hx hb dX8_raw_30 rfl (lv_at hl 0 rfl) ?_
    refine va_get (D := D) (ci := 6) (v := .ref (q 14)) (C := RX8) (T := TX8) (N := 28) hx hb hts in_X8_raw_X8 hown hK.1 hP 0 rfl rfl 14 (by decide) (hts (.fieldLink RX8 47 "NestlimitModel" "lows" "[J") (List.mem_of_getElem? (i := 2) rfl)) (fun _ h9 => h9) rfl dX8_raw_31 ?_
    refine lv_bipush (v := 25) hx hb dX8_raw_34 (by decide) ?_
    refine lv_iload_n hx hb dX8_raw_36 rfl (lv_at hl 1 rfl) ?_
    refine lv_imul hx hb dX8_raw_37 ?_
    refine g_topi (pk_mul 25 k) ?_
    refine lv_iload_n hx hb dX8_raw_38 rfl (lv_at hl 2 rfl) ?_
    refine lv_iadd hx hb dX8_raw_39 ?_
    refine g_topi (nI_add (25 * k) p) ?_
    refine g_lald (k := (25 * k) + p) hx hb hK.1 hP 13 1 rfl rfl (by omega) (by decide) dX8_raw_40 ?_
    exact W.lret (v := lw ((25 * k) + p)) hx hb hr (fun t ht hW => ⟨⟨_, wM y h q 0 pn ki on ot ab be zA zB zC zD zF zT fo lw hg at_ tl th wo wl wh is_ lo_ hi_ di su an, rfl, ⟨congrArg (fun z => some (Value.long z)) (by simp only [gSel, if_neg c_13]), rfl⟩, rfl, by rw [ht]; exact hP⟩, by rw [← hAe]; exact hS.F ht⟩) (by rw [← hAe]; exact hS.2.2) dX8_raw_41
  · skip
    refine lv_aload_n hx hb dX8_raw_16 rfl (lv_at hl 0 rfl) ?_
    refine va_get (D := D) (ci := 6) (v := .ref (q 15)) (C := RX8) (T := TX8) (N := 28) hx hb hts in_X8_raw_X8 hown hK.1 hP 0 rfl rfl 15 (by decide) (hts (.fieldLink RX8 51 "NestlimitModel" "highs" "[J") (List.mem_of_getElem? (i := 1) rfl)) (fun _ h9 => h9) rfl dX8_raw_17 ?_
    refine lv_bipush (v := 25) hx hb dX8_raw_20 (by decide) ?_
    refine lv_iload_n hx hb dX8_raw_22 rfl (lv_at hl 1 rfl) ?_
    refine lv_imul hx hb dX8_raw_23 ?_
    refine g_topi (pk_mul 25 k) ?_
    refine lv_iload_n hx hb dX8_raw_24 rfl (lv_at hl 2 rfl) ?_
    refine lv_iadd hx hb dX8_raw_25 ?_
    refine g_topi (nI_add (25 * k) p) ?_
    refine g_lald (k := (25 * k) + p) hx hb hK.1 hP 14 1 rfl rfl (by omega) (by decide) dX8_raw_26 ?_
    refine lv_goto (tgt := 41) hx hb dX8_raw_27 (by decide) ?_
    exact W.lret (v := hg ((25 * k) + p)) hx hb hr (fun t ht hW => ⟨⟨_, wM y h q 0 pn ki on ot ab be zA zB zC zD zF zT fo lw hg at_ tl th wo wl wh is_ lo_ hi_ di su an, rfl, ⟨congrArg (fun z => some (Value.long z)) (by simp only [gSel, if_pos c_13]), rfl⟩, rfl, by rw [ht]; exact hP⟩, by rw [← hAe]; exact hS.F ht⟩) (by rw [← hAe]; exact hS.2.2) dX8_raw_41
set_option maxHeartbeats 4000000 in
set_option maxRecDepth 100000 in
theorem c_X8_told_1 (l : Launch) (D : va_G) (y : Nat → ClassId) (sz : Nat) (h : Nat) (q : Nat → Nat) (tw : Int32) (pn : Nat) (ki on ot ab be zA zB zC zD zF zT : Nat → Int32) (fo : Nat → Bool) (lw hg : Nat → Int64) (at_ : Nat → Bool) (tl th : Nat → Int64) (wo : Nat → Bool) (wl wh : Nat → Int64) (is_ : Bool) (lo_ hi_ : Int64) (di : Nat → Int32) (su : Nat → Int64) (an : Nat → Bool) (a b : Int32) (bb : Bool) (yA : ¬ sp_X8_isProgram pn a = true) : Met l yX8_told wsX8_told ({ frames := 3, cells := 0, slots := 0, locals := 68 } : Room) (gP D y [.ref h, .int a, .int b, .int (gB bb)] (wM y h q tw pn ki on ot ab be zA zB zC zD zF zT fo lw hg at_ tl th wo wl wh is_ lo_ hi_ di su an) sz) (gQ D (wM y h q tw pn ki on ot ab be zA zB zC zD zF zT fo lw hg at_ tl th wo wl wh is_ lo_ hi_ di su an) (gF (some (.long 0)) (wM y h q 1 pn ki on ot ab be zA zB zC zD zF zT fo lw hg at_ tl th wo wl wh is_ lo_ hi_ di su an))) 0 0 (va_A (wM y h q tw pn ki on ot ab be zA zB zC zD zF zT fo lw hg at_ tl th wo wl wh is_ lo_ hi_ di su an) sz) := by
  refine Met.ofW (cc := cX8_told) (maxL := 4) (ret := (some .long)) (by decide) rfl ?_
  intro pg e s m args below meth c s₁ B hml hv
  obtain ⟨rfl, hsz, hP, hK, hD0⟩ := hv
  have hx := B.exec
  have hb := B.bytes
  have hr := B.returns
  have hts := atoms_spec (ws := wsX8_told) B.pre
  have hown : s.vm.findClass RX8 = some m.cls := findClass_of_methodNamed B.named
  have hlocks := B.notSynchronized
  subst hsz
  obtain ⟨A, hAe⟩ : ∃ A : Nat → Prop, A = va_A (wM y h q tw pn ki on ot ab be zA zB zC zD zF zT fo lw hg at_ tl th wo wl wh is_ lo_ hi_ di su an) s.heap.size := ⟨_, rfl⟩
  have hD : va_D A (wM y h q tw pn ki on ot ab be zA zB zC zD zF zT fo lw hg at_ tl th wo wl wh is_ lo_ hi_ di su an) := by rw [hAe]; exact hD0.self (sz := s.heap.size)
  have hA : ∀ q : Nat, s.heap.size ≤ q → A q := fun q h => by rw [hAe]; exact Or.inr h
  have hS : va_S A s.heap s.heap [] := va_S.rf
  have hl := lv_entry ([.ref h, .int a, .int b, .int (gB bb)]) (n := 4) (Nat.le_of_ble_eq_true rfl)
  rw [lg_entry_eq]
  generalize (lg_sl ([.ref h, .int a, .int b, .int (gB bb)]) ++ List.replicate (4 - (lg_sl ([.ref h, .int a, .int b, .int (gB bb)])).length) Slot.unset).toArray = ls at hl ⊢
  have hl : lv_has ls 4 [(0, .ref h), (1, .int a), (2, .int b), (3, .int (gB bb))] := hl
  refine lv_aload_n hx hb dX8_told_0 rfl (lv_at hl 0 rfl) ?_
  refine lv_iload_n hx hb dX8_told_1 rfl (lv_at hl 1 rfl) ?_
  refine lv_iload_n hx hb dX8_told_2 rfl (lv_at hl 2 rfl) ?_
  refine lv_iconst (v := 0) hx hb dX8_told_3 (by decide) ?_
  refine g_callA1 (v0 := .int (gB false)) (w0 := wM y h q 1 pn ki on ot ab be zA zB zC zD zF zT fo lw hg at_ tl th wo wl wh is_ lo_ hi_ di su an) (va_runV (As := [.int a, .int b, .int 0]) (rest := []) ⟨hx, hb, hml, hown, hts⟩ (c_X8_canAsk_1 l D y s.heap.size h q tw pn ki on ot ab be zA zB zC zD zF zT fo lw hg at_ tl th wo wl wh is_ lo_ hi_ di su an a b 0 yA) (cwV 3 hts gX8_told_X8_canAsk rfl rfl rfl (by decide +kernel) ⟨Nat.le_of_ble_eq_true rfl, Nat.le_of_ble_eq_true rfl⟩) (gP_VA hP hD hK 0 rfl rfl) rfl rfl hl.1 rfl (lv_room (Nat.le_of_ble_eq_true rfl)) dX8_told_4 ⟨Nat.zero_le _, Nat.zero_le _⟩) hP hD hS hA rfl (fun H locs hP hD hS => ?_)
  refine g_bne (tgt := 12) hx hb dX8_told_7 (by decide) (fun c_7 => absurd c_7 (by decide)) (fun c_7 => ?_)
  refine lv_lconst (v := 0) hx hb dX8_told_10 (by decide) ?_
  exact W.lret (v := 0) hx hb hr (fun t ht hW => ⟨⟨_, wM y h q 1 pn ki on ot ab be zA zB zC zD zF zT fo lw hg at_ tl th wo wl wh is_ lo_ hi_ di su an, rfl, ⟨congrArg (fun z => some (Value.long z)) (rfl), rfl⟩, rfl, by rw [ht]; exact hP⟩, by rw [← hAe]; exact hS.F ht⟩) (by rw [← hAe]; exact hS.2.2) dX8_told_11
set_option maxHeartbeats 4000000 in
set_option maxRecDepth 100000 in
theorem c_X8_told_2 (l : Launch) (D : va_G) (y : Nat → ClassId) (sz : Nat) (h : Nat) (q : Nat → Nat) (tw : Int32) (pn : Nat) (ki on ot ab be zA zB zC zD zF zT : Nat → Int32) (fo : Nat → Bool) (lw hg : Nat → Int64) (at_ : Nat → Bool) (tl th : Nat → Int64) (wo : Nat → Bool) (wl wh : Nat → Int64) (is_ : Bool) (lo_ hi_ : Int64) (di : Nat → Int32) (su : Nat → Int64) (an : Nat → Bool) (k : Nat) (b : Int32) (bb : Bool) (hpn : pn ≤ 40) (hk : k < pn) (yP : ¬ sp_X8_isPlace b = true) : Met l yX8_told wsX8_told ({ frames := 3, cells := 0, slots := 0, locals := 68 } : Room) (gP D y [.ref h, .int (nI k), .int b, .int (gB bb)] (wM y h q tw pn ki on ot ab be zA zB zC zD zF zT fo lw hg at_ tl th wo wl wh is_ lo_ hi_ di su an) sz) (gQ D (wM y h q tw pn ki on ot ab be zA zB zC zD zF zT fo lw hg at_ tl th wo wl wh is_ lo_ hi_ di su an) (gF (some (.long 0)) (wM y h q 2 pn ki on ot ab be zA zB zC zD zF zT fo lw hg at_ tl th wo wl wh is_ lo_ hi_ di su an))) 0 0 (va_A (wM y h q tw pn ki on ot ab be zA zB zC zD zF zT fo lw hg at_ tl th wo wl wh is_ lo_ hi_ di su an) sz) := by
  refine Met.ofW (cc := cX8_told) (maxL := 4) (ret := (some .long)) (by decide) rfl ?_
  intro pg e s m args below meth c s₁ B hml hv
  obtain ⟨rfl, hsz, hP, hK, hD0⟩ := hv
  have hx := B.exec
  have hb := B.bytes
  have hr := B.returns
  have hts := atoms_spec (ws := wsX8_told) B.pre
  have hown : s.vm.findClass RX8 = some m.cls := findClass_of_methodNamed B.named
  have hlocks := B.notSynchronized
  subst hsz
  obtain ⟨A, hAe⟩ : ∃ A : Nat → Prop, A = va_A (wM y h q tw pn ki on ot ab be zA zB zC zD zF zT fo lw hg at_ tl th wo wl wh is_ lo_ hi_ di su an) s.heap.size := ⟨_, rfl⟩
  have hD : va_D A (wM y h q tw pn ki on ot ab be zA zB zC zD zF zT fo lw hg at_ tl th wo wl wh is_ lo_ hi_ di su an) := by rw [hAe]; exact hD0.self (sz := s.heap.size)
  have hA : ∀ q : Nat, s.heap.size ≤ q → A q := fun q h => by rw [hAe]; exact Or.inr h
  have hS : va_S A s.heap s.heap [] := va_S.rf
  have hl := lv_entry ([.ref h, .int (nI k), .int b, .int (gB bb)]) (n := 4) (Nat.le_of_ble_eq_true rfl)
  rw [lg_entry_eq]
  generalize (lg_sl ([.ref h, .int (nI k), .int b, .int (gB bb)]) ++ List.replicate (4 - (lg_sl ([.ref h, .int (nI k), .int b, .int (gB bb)])).length) Slot.unset).toArray = ls at hl ⊢
  have hl : lv_has ls 4 [(0, .ref h), (1, .int (nI k)), (2, .int b), (3, .int (gB bb))] := hl
  refine lv_aload_n hx hb dX8_told_0 rfl (lv_at hl 0 rfl) ?_
  refine lv_iload_n hx hb dX8_told_1 rfl (lv_at hl 1 rfl) ?_
  refine lv_iload_n hx hb dX8_told_2 rfl (lv_at hl 2 rfl) ?_
  refine lv_iconst (v := 0) hx hb dX8_told_3 (by decide) ?_
  refine g_callA1 (v0 := .int (gB false)) (w0 := wM y h q 2 pn ki on ot ab be zA zB zC zD zF zT fo lw hg at_ tl th wo wl wh is_ lo_ hi_ di su an) (va_runV (As := [.int (nI k), .int b, .int 0]) (rest := []) ⟨hx, hb, hml, hown, hts⟩ (c_X8_canAsk_2 l D y s.heap.size h q tw pn ki on ot ab be zA zB zC zD zF zT fo lw hg at_ tl th wo wl wh is_ lo_ hi_ di su an k b 0 hpn hk yP) (cwV 3 hts gX8_told_X8_canAsk rfl rfl rfl (by decide +kernel) ⟨Nat.le_of_ble_eq_true rfl, Nat.le_of_ble_eq_true rfl⟩) (gP_VA hP hD hK 0 rfl rfl) rfl rfl hl.1 rfl (lv_room (Nat.le_of_ble_eq_true rfl)) dX8_told_4 ⟨Nat.zero_le _, Nat.zero_le _⟩) hP hD hS hA rfl (fun H locs hP hD hS => ?_)
  refine g_bne (tgt := 12) hx hb dX8_told_7 (by decide) (fun c_7 => absurd c_7 (by decide)) (fun c_7 => ?_)
  refine lv_lconst (v := 0) hx hb dX8_told_10 (by decide) ?_
  exact W.lret (v := 0) hx hb hr (fun t ht hW => ⟨⟨_, wM y h q 2 pn ki on ot ab be zA zB zC zD zF zT fo lw hg at_ tl th wo wl wh is_ lo_ hi_ di su an, rfl, ⟨congrArg (fun z => some (Value.long z)) (rfl), rfl⟩, rfl, by rw [ht]; exact hP⟩, by rw [← hAe]; exact hS.F ht⟩) (by rw [← hAe]; exact hS.2.2) dX8_told_11
set_option maxHeartbeats 4000000 in
set_option maxRecDepth 100000 in
theorem c_X8_told_3 (l : Launch) (D : va_G) (y : Nat → ClassId) (sz : Nat) (h : Nat) (q : Nat → Nat) (tw : Int32) (pn : Nat) (ki on ot ab be zA zB zC zD zF zT : Nat → Int32) (fo : Nat → Bool) (lw hg : Nat → Int64) (at_ : Nat → Bool) (tl th : Nat → Int64) (wo : Nat → Bool) (wl wh : Nat → Int64) (is_ : Bool) (lo_ hi_ : Int64) (di : Nat → Int32) (su : Nat → Int64) (an : Nat → Bool) (k p : Nat) (bb : Bool) (hpn : pn ≤ 40) (hk : k < pn) (hp : p < 25) (hf : ¬ at_ (25 * k + p) = true) : Met l yX8_told wsX8_told ({ frames := 3, cells := 0, slots := 0, locals := 68 } : Room) (gP D y [.ref h, .int (nI k), .int (nI p), .int (gB bb)] (wM y h q tw pn ki on ot ab be zA zB zC zD zF zT fo lw hg at_ tl th wo wl wh is_ lo_ hi_ di su an) sz) (gQ D (wM y h q tw pn ki on ot ab be zA zB zC zD zF zT fo lw hg at_ tl th wo wl wh is_ lo_ hi_ di su an) (gF (some (.long 0)) (wM y h q 3 pn ki on ot ab be zA zB zC zD zF zT fo lw hg at_ tl th wo wl wh is_ lo_ hi_ di su an))) 0 0 (va_A (wM y h q tw pn ki on ot ab be zA zB zC zD zF zT fo lw hg at_ tl th wo wl wh is_ lo_ hi_ di su an) sz) := by
  refine Met.ofW (cc := cX8_told) (maxL := 4) (ret := (some .long)) (by decide) rfl ?_
  intro pg e s m args below meth c s₁ B hml hv
  obtain ⟨rfl, hsz, hP, hK, hD0⟩ := hv
  have hx := B.exec
  have hb := B.bytes
  have hr := B.returns
  have hts := atoms_spec (ws := wsX8_told) B.pre
  have hown : s.vm.findClass RX8 = some m.cls := findClass_of_methodNamed B.named
  have hlocks := B.notSynchronized
  subst hsz
  obtain ⟨A, hAe⟩ : ∃ A : Nat → Prop, A = va_A (wM y h q tw pn ki on ot ab be zA zB zC zD zF zT fo lw hg at_ tl th wo wl wh is_ lo_ hi_ di su an) s.heap.size := ⟨_, rfl⟩
  have hD : va_D A (wM y h q tw pn ki on ot ab be zA zB zC zD zF zT fo lw hg at_ tl th wo wl wh is_ lo_ hi_ di su an) := by rw [hAe]; exact hD0.self (sz := s.heap.size)
  have hA : ∀ q : Nat, s.heap.size ≤ q → A q := fun q h => by rw [hAe]; exact Or.inr h
  have hS : va_S A s.heap s.heap [] := va_S.rf
  have hl := lv_entry ([.ref h, .int (nI k), .int (nI p), .int (gB bb)]) (n := 4) (Nat.le_of_ble_eq_true rfl)
  rw [lg_entry_eq]
  generalize (lg_sl ([.ref h, .int (nI k), .int (nI p), .int (gB bb)]) ++ List.replicate (4 - (lg_sl ([.ref h, .int (nI k), .int (nI p), .int (gB bb)])).length) Slot.unset).toArray = ls at hl ⊢
  have hl : lv_has ls 4 [(0, .ref h), (1, .int (nI k)), (2, .int (nI p)), (3, .int (gB bb))] := hl
  refine lv_aload_n hx hb dX8_told_0 rfl (lv_at hl 0 rfl) ?_
  refine lv_iload_n hx hb dX8_told_1 rfl (lv_at hl 1 rfl) ?_
  refine lv_iload_n hx hb dX8_told_2 rfl (lv_at hl 2 rfl) ?_
  refine lv_iconst (v := 0) hx hb dX8_told_3 (by decide) ?_
  refine g_callA1 (v0 := .int (gB false)) (w0 := wM y h q 3 pn ki on ot ab be zA zB zC zD zF zT fo lw hg at_ tl th wo wl wh is_ lo_ hi_ di su an) (va_runV (As := [.int (nI k), .int (nI p), .int 0]) (rest := []) ⟨hx, hb, hml, hown, hts⟩ (c_X8_canAsk_t3 l D y s.heap.size h q tw pn ki on ot ab be zA zB zC zD zF zT fo lw hg at_ tl th wo wl wh is_ lo_ hi_ di su an k p hpn hk hp hf) (cwV 3 hts gX8_told_X8_canAsk rfl rfl rfl (by decide +kernel) ⟨Nat.le_of_ble_eq_true rfl, Nat.le_of_ble_eq_true rfl⟩) (gP_VA hP hD hK 0 rfl rfl) rfl rfl hl.1 rfl (lv_room (Nat.le_of_ble_eq_true rfl)) dX8_told_4 ⟨Nat.zero_le _, Nat.zero_le _⟩) hP hD hS hA rfl (fun H locs hP hD hS => ?_)
  refine g_bne (tgt := 12) hx hb dX8_told_7 (by decide) (fun c_7 => absurd c_7 (by decide)) (fun c_7 => ?_)
  refine lv_lconst (v := 0) hx hb dX8_told_10 (by decide) ?_
  exact W.lret (v := 0) hx hb hr (fun t ht hW => ⟨⟨_, wM y h q 3 pn ki on ot ab be zA zB zC zD zF zT fo lw hg at_ tl th wo wl wh is_ lo_ hi_ di su an, rfl, ⟨congrArg (fun z => some (Value.long z)) (rfl), rfl⟩, rfl, by rw [ht]; exact hP⟩, by rw [← hAe]; exact hS.F ht⟩) (by rw [← hAe]; exact hS.2.2) dX8_told_11
theorem in_X8_told_X8 : ∀ w ∈ wsX80, w ∈ wsX8_told := fun _ h => List.mem_cons_of_mem _ (List.mem_append_right _ h)
set_option maxHeartbeats 4000000 in
set_option maxRecDepth 100000 in
theorem c_X8_told_0 (l : Launch) (D : va_G) (y : Nat → ClassId) (sz : Nat) (h : Nat) (q : Nat → Nat) (tw : Int32) (pn : Nat) (ki on ot ab be zA zB zC zD zF zT : Nat → Int32) (fo : Nat → Bool) (lw hg : Nat → Int64) (at_ : Nat → Bool) (tl th : Nat → Int64) (wo : Nat → Bool) (wl wh : Nat → Int64) (is_ : Bool) (lo_ hi_ : Int64) (di : Nat → Int32) (su : Nat → Int64) (an : Nat → Bool) (k p : Nat) (bb : Bool) (hpn : pn ≤ 40) (hk : k < pn) (hp : p < 25) (hf : at_ (25 * k + p) = true) : Met l yX8_told wsX8_told ({ frames := 3, cells := 0, slots := 0, locals := 68 } : Room) (gP D y [.ref h, .int (nI k), .int (nI p), .int (gB bb)] (wM y h q tw pn ki on ot ab be zA zB zC zD zF zT fo lw hg at_ tl th wo wl wh is_ lo_ hi_ di su an) sz) (gQ D (wM y h q tw pn ki on ot ab be zA zB zC zD zF zT fo lw hg at_ tl th wo wl wh is_ lo_ hi_ di su an) (gF (some (.long (gSel bb (th (25 * k + p)) (tl (25 * k + p))))) (wM y h q 0 pn ki on ot ab be zA zB zC zD zF zT fo lw hg at_ tl th wo wl wh is_ lo_ hi_ di su an))) 0 0 (va_A (wM y h q tw pn ki on ot ab be zA zB zC zD zF zT fo lw hg at_ tl th wo wl wh is_ lo_ hi_ di su an) sz) := by
  refine Met.ofW (cc := cX8_told) (maxL := 4) (ret := (some .long)) (by decide) rfl ?_
  intro pg e s m args below meth c s₁ B hml hv
  obtain ⟨rfl, hsz, hP, hK, hD0⟩ := hv
  have hx := B.exec
  have hb := B.bytes
  have hr := B.returns
  have hts := atoms_spec (ws := wsX8_told) B.pre
  have hown : s.vm.findClass RX8 = some m.cls := findClass_of_methodNamed B.named
  have hlocks := B.notSynchronized
  subst hsz
  obtain ⟨A, hAe⟩ : ∃ A : Nat → Prop, A = va_A (wM y h q tw pn ki on ot ab be zA zB zC zD zF zT fo lw hg at_ tl th wo wl wh is_ lo_ hi_ di su an) s.heap.size := ⟨_, rfl⟩
  have hD : va_D A (wM y h q tw pn ki on ot ab be zA zB zC zD zF zT fo lw hg at_ tl th wo wl wh is_ lo_ hi_ di su an) := by rw [hAe]; exact hD0.self (sz := s.heap.size)
  have hA : ∀ q : Nat, s.heap.size ≤ q → A q := fun q h => by rw [hAe]; exact Or.inr h
  have hS : va_S A s.heap s.heap [] := va_S.rf
  have hl := lv_entry ([.ref h, .int (nI k), .int (nI p), .int (gB bb)]) (n := 4) (Nat.le_of_ble_eq_true rfl)
  rw [lg_entry_eq]
  generalize (lg_sl ([.ref h, .int (nI k), .int (nI p), .int (gB bb)]) ++ List.replicate (4 - (lg_sl ([.ref h, .int (nI k), .int (nI p), .int (gB bb)])).length) Slot.unset).toArray = ls at hl ⊢
  have hl : lv_has ls 4 [(0, .ref h), (1, .int (nI k)), (2, .int (nI p)), (3, .int (gB bb))] := hl
  refine lv_aload_n hx hb dX8_told_0 rfl (lv_at hl 0 rfl) ?_
  refine lv_iload_n hx hb dX8_told_1 rfl (lv_at hl 1 rfl) ?_
  refine lv_iload_n hx hb dX8_told_2 rfl (lv_at hl 2 rfl) ?_
  refine lv_iconst (v := 0) hx hb dX8_told_3 (by decide) ?_
  refine g_callA1 (v0 := .int (gB true)) (w0 := wM y h q 0 pn ki on ot ab be zA zB zC zD zF zT fo lw hg at_ tl th wo wl wh is_ lo_ hi_ di su an) (va_runV (As := [.int (nI k), .int (nI p), .int 0]) (rest := []) ⟨hx, hb, hml, hown, hts⟩ (c_X8_canAsk_t0 l D y s.heap.size h q tw pn ki on ot ab be zA zB zC zD zF zT fo lw hg at_ tl th wo wl wh is_ lo_ hi_ di su an k p hpn hk hp hf) (cwV 3 hts gX8_told_X8_canAsk rfl rfl rfl (by decide +kernel) ⟨Nat.le_of_ble_eq_true rfl, Nat.le_of_ble_eq_true rfl⟩) (gP_VA hP hD hK 0 rfl rfl) rfl rfl hl.1 rfl (lv_room (Nat.le_of_ble_eq_true rfl)) dX8_told_4 ⟨Nat.zero_le _, Nat.zero_le _⟩) hP hD hS hA rfl (fun H locs hP hD hS => ?_)
  refine g_bne (tgt := 12) hx hb dX8_told_7 (by decide) (fun c_7 => ?_) (fun c_7 => absurd c_7 (by decide))
  refine lv_iload_n hx hb dX8_told_12 rfl (lv_at hl 3 rfl) ?_
  refine g_beq (tgt := 30) hx hb dX8_told_13 (by decide) (fun c_13 => ?_) (fun c_13 => ?_)
  · skip
    refine lv_aload_n hx hb dX8_told_30 rfl (lv_at hl 0 rfl) ?_
    refine va_get (D := D) (ci := 6) (v := .ref (q 17)) (C := RX8) (T := TX8) (N := 28) hx hb hts in_X8_told_X8 hown hK.1 hP 0 rfl rfl 17 (by decide) (hts (.fieldLink RX8 57 "NestlimitModel" "toldLow" "[J") (List.mem_of_getElem? (i := 2) rfl)) (fun _ h9 => h9) rfl dX8_told_31 ?_
    refine lv_bipush (v := 25) hx hb dX8_told_34 (by decide) ?_
    refine lv_iload_n hx hb dX8_told_36 rfl (lv_at hl 1 rfl) ?_
    refine lv_imul hx hb dX8_told_37 ?_
    refine g_topi (pk_mul 25 k) ?_
    refine lv_iload_n hx hb dX8_told_38 rfl (lv_at hl 2 rfl) ?_
    refine lv_iadd hx hb dX8_told_39 ?_
    refine g_topi (nI_add (25 * k) p) ?_
    refine g_lald (k := (25 * k) + p) hx hb hK.1 hP 16 1 rfl rfl (by omega) (by decide) dX8_told_40 ?_
    exact W.lret (v := tl ((25 * k) + p)) hx hb hr (fun t ht hW => ⟨⟨_, wM y h q 0 pn ki on ot ab be zA zB zC zD zF zT fo lw hg at_ tl th wo wl wh is_ lo_ hi_ di su an, rfl, ⟨congrArg (fun z => some (Value.long z)) (by simp only [gSel, if_neg c_13]), rfl⟩, rfl, by rw [ht]; exact hP⟩, by rw [← hAe]; exact hS.F ht⟩) (by rw [← hAe]; exact hS.2.2) dX8_told_41
  · skip
    refine lv_aload_n hx hb dX8_told_16 rfl (lv_at hl 0 rfl) ?_
    refine va_get (D := D) (ci := 6) (v := .ref (q 18)) (C := RX8) (T := TX8) (N := 28) hx hb hts in_X8_told_X8 hown hK.1 hP 0 rfl rfl 18 (by decide) (hts (.fieldLink RX8 60 "NestlimitModel" "toldHigh" "[J") (List.mem_of_getElem? (i := 1) rfl)) (fun _ h9 => h9) rfl dX8_told_17 ?_
    refine lv_bipush (v := 25) hx hb dX8_told_20 (by decide) ?_
    refine lv_iload_n hx hb dX8_told_22 rfl (lv_at hl 1 rfl) ?_
    refine lv_imul hx hb dX8_told_23 ?_
    refine g_topi (pk_mul 25 k) ?_
    refine lv_iload_n hx hb dX8_told_24 rfl (lv_at hl 2 rfl) ?_
    refine lv_iadd hx hb dX8_told_25 ?_
    refine g_topi (nI_add (25 * k) p) ?_
    refine g_lald (k := (25 * k) + p) hx hb hK.1 hP 17 1 rfl rfl (by omega) (by decide) dX8_told_26 ?_
    refine lv_goto (tgt := 41) hx hb dX8_told_27 (by decide) ?_
    exact W.lret (v := th ((25 * k) + p)) hx hb hr (fun t ht hW => ⟨⟨_, wM y h q 0 pn ki on ot ab be zA zB zC zD zF zT fo lw hg at_ tl th wo wl wh is_ lo_ hi_ di su an, rfl, ⟨congrArg (fun z => some (Value.long z)) (by simp only [gSel, if_pos c_13]), rfl⟩, rfl, by rw [ht]; exact hP⟩, by rw [← hAe]; exact hS.F ht⟩) (by rw [← hAe]; exact hS.2.2) dX8_told_41
theorem in_X8_answer_X8 : ∀ w ∈ wsX80, w ∈ wsX8_answer := fun _ h => List.mem_cons_of_mem _ (List.mem_append_right _ h)
def sp_X8_answer (at_ : Nat → Bool) (tl th : Nat → Int64) (k j p : Nat) : Int32 := if (at_ ((25 * k) + p)) = true then if (at_ ((25 * j) + p)) = true then if (tl ((25 * j) + p)) ≤ (th ((25 * k) + p)) then if (tl ((25 * k) + p)) ≤ (th ((25 * j) + p)) then 0 else 1 else -1 else 0 else 0
set_option maxHeartbeats 4000000 in
set_option maxRecDepth 100000 in
theorem c_X8_answer (l : Launch) (D : va_G) (y : Nat → ClassId) (sz : Nat) (h : Nat) (q : Nat → Nat) (tw : Int32) (pn : Nat) (ki on ot ab be zA zB zC zD zF zT : Nat → Int32) (fo : Nat → Bool) (lw hg : Nat → Int64) (at_ : Nat → Bool) (tl th : Nat → Int64) (wo : Nat → Bool) (wl wh : Nat → Int64) (is_ : Bool) (lo_ hi_ : Int64) (di : Nat → Int32) (su : Nat → Int64) (an : Nat → Bool) (k j p : Nat) (hk : k < 40) (hj : j < 40) (hp : p < 25) : Met l yX8_answer wsX8_answer ({ frames := 0, cells := 0, slots := 0, locals := 0 } : Room) (gP D y [.ref h, .int (nI k), .int (nI j), .int (nI p)] (wM y h q tw pn ki on ot ab be zA zB zC zD zF zT fo lw hg at_ tl th wo wl wh is_ lo_ hi_ di su an) sz) (gR (.int (sp_X8_answer at_ tl th k j p))) 0 0 (fun _ => False) := by
  refine Met.ofW (cc := cX8_answer) (maxL := 6) (ret := (some .int)) (by decide) rfl ?_
  intro pg e s m args below meth c s₁ B hml hv
  obtain ⟨rfl, hsz, hP, hK, hD0⟩ := hv
  have hx := B.exec
  have hb := B.bytes
  have hr := B.returns
  have hts := atoms_spec (ws := wsX8_answer) B.pre
  have hown : s.vm.findClass RX8 = some m.cls := findClass_of_methodNamed B.named
  have hlocks := B.notSynchronized
  subst hsz
  obtain ⟨A, hAe⟩ : ∃ A : Nat → Prop, A = va_A (wM y h q tw pn ki on ot ab be zA zB zC zD zF zT fo lw hg at_ tl th wo wl wh is_ lo_ hi_ di su an) s.heap.size := ⟨_, rfl⟩
  have hD : va_D A (wM y h q tw pn ki on ot ab be zA zB zC zD zF zT fo lw hg at_ tl th wo wl wh is_ lo_ hi_ di su an) := by rw [hAe]; exact hD0.self (sz := s.heap.size)
  have hA : ∀ q : Nat, s.heap.size ≤ q → A q := fun q h => by rw [hAe]; exact Or.inr h
  have hS : va_S A s.heap s.heap [] := va_S.rf
  have hl := lv_entry ([.ref h, .int (nI k), .int (nI j), .int (nI p)]) (n := 6) (Nat.le_of_ble_eq_true rfl)
  rw [lg_entry_eq]
  generalize (lg_sl ([.ref h, .int (nI k), .int (nI j), .int (nI p)]) ++ List.replicate (6 - (lg_sl ([.ref h, .int (nI k), .int (nI j), .int (nI p)])).length) Slot.unset).toArray = ls at hl ⊢
  have hl : lv_has ls 6 [(0, .ref h), (1, .int (nI k)), (2, .int (nI j)), (3, .int (nI p))] := hl
  refine lv_bipush (v := 25) hx hb dX8_answer_0 (by decide) ?_
  refine lv_iload_n hx hb dX8_answer_2 rfl (lv_at hl 1 rfl) ?_
  refine lv_imul hx hb dX8_answer_3 ?_
  refine g_topi (pk_mul 25 k) ?_
  refine lv_iload_n hx hb dX8_answer_4 rfl (lv_at hl 3 rfl) ?_
  refine lv_iadd hx hb dX8_answer_5 ?_
  refine g_topi (nI_add (25 * k) p) ?_
  refine lv_istore (lv' := [(4, .int (nI ((25 * k) + p))), (0, .ref h), (1, .int (nI k)), (2, .int (nI j)), (3, .int (nI p))]) hx hb dX8_answer_6 hl (by decide) rfl (fun ls hl => ?_)
  refine lv_bipush (v := 25) hx hb dX8_answer_8 (by decide) ?_
  refine lv_iload_n hx hb dX8_answer_10 rfl (lv_at hl 3 rfl) ?_
  refine lv_imul hx hb dX8_answer_11 ?_
  refine g_topi (pk_mul 25 j) ?_
  refine lv_iload_n hx hb dX8_answer_12 rfl (lv_at hl 4 rfl) ?_
  refine lv_iadd hx hb dX8_answer_13 ?_
  refine g_topi (nI_add (25 * j) p) ?_
  refine lv_istore (lv' := [(5, .int (nI ((25 * j) + p))), (4, .int (nI ((25 * k) + p))), (0, .ref h), (1, .int (nI k)), (2, .int (nI j)), (3, .int (nI p))]) hx hb dX8_answer_14 hl (by decide) rfl (fun ls hl => ?_)
  refine lv_aload_n hx hb dX8_answer_16 rfl (lv_at hl 2 rfl) ?_
  refine va_get (D := D) (ci := 6) (v := .ref (q 16)) (C := RX8) (T := TX8) (N := 28) hx hb hts in_X8_answer_X8 hown hK.1 hP 0 rfl rfl 16 (by decide) (hts (.fieldLink RX8 54 "NestlimitModel" "areTold" "[Z") (List.mem_of_getElem? (i := 1) rfl)) (fun _ h9 => h9) rfl dX8_answer_17 ?_
  refine lv_iload hx hb dX8_answer_20 (lv_at hl 1 rfl) ?_
  refine g_zald (k := (25 * k) + p) hx hb hK.1 hP 15 2 rfl rfl (by omega) (by decide) dX8_answer_22 ?_
  refine g_beq (tgt := 36) hx hb dX8_answer_23 (by decide) (fun c_23 => ?_) (fun c_23 => ?_)
  · skip
    refine lv_iconst (v := 0) hx hb dX8_answer_36 (by decide) ?_
    exact W.iret (v := 0) hx hb hr (fun t ht hW => ⟨congrArg (fun z => Outcome.returned (some (Value.int z))) (by simp only [sp_X8_answer, if_neg c_23]), ht⟩) (fun q h => by cases h) dX8_answer_37
  · skip
    refine lv_aload_n hx hb dX8_answer_26 rfl (lv_at hl 2 rfl) ?_
    refine va_get (D := D) (ci := 6) (v := .ref (q 16)) (C := RX8) (T := TX8) (N := 28) hx hb hts in_X8_answer_X8 hown hK.1 hP 0 rfl rfl 16 (by decide) (hts (.fieldLink RX8 54 "NestlimitModel" "areTold" "[Z") (List.mem_of_getElem? (i := 1) rfl)) (fun _ h9 => h9) rfl dX8_answer_27 ?_
    refine lv_iload hx hb dX8_answer_30 (lv_at hl 0 rfl) ?_
    refine g_zald (k := (25 * j) + p) hx hb hK.1 hP 15 2 rfl rfl (by omega) (by decide) dX8_answer_32 ?_
    refine g_bne (tgt := 38) hx hb dX8_answer_33 (by decide) (fun c_33 => ?_) (fun c_33 => ?_)
    · skip
      refine lv_aload_n hx hb dX8_answer_38 rfl (lv_at hl 2 rfl) ?_
      refine va_get (D := D) (ci := 6) (v := .ref (q 18)) (C := RX8) (T := TX8) (N := 28) hx hb hts in_X8_answer_X8 hown hK.1 hP 0 rfl rfl 18 (by decide) (hts (.fieldLink RX8 60 "NestlimitModel" "toldHigh" "[J") (List.mem_of_getElem? (i := 2) rfl)) (fun _ h9 => h9) rfl dX8_answer_39 ?_
      refine lv_iload hx hb dX8_answer_42 (lv_at hl 1 rfl) ?_
      refine g_lald (k := (25 * k) + p) hx hb hK.1 hP 17 1 rfl rfl (by omega) (by decide) dX8_answer_44 ?_
      refine lv_aload_n hx hb dX8_answer_45 rfl (lv_at hl 2 rfl) ?_
      refine va_get (D := D) (ci := 6) (v := .ref (q 17)) (C := RX8) (T := TX8) (N := 28) hx hb hts in_X8_answer_X8 hown hK.1 hP 0 rfl rfl 17 (by decide) (hts (.fieldLink RX8 57 "NestlimitModel" "toldLow" "[J") (List.mem_of_getElem? (i := 3) rfl)) (fun _ h9 => h9) rfl dX8_answer_46 ?_
      refine lv_iload hx hb dX8_answer_49 (lv_at hl 0 rfl) ?_
      refine g_lald (k := (25 * j) + p) hx hb hK.1 hP 16 1 rfl rfl (by omega) (by decide) dX8_answer_51 ?_
      refine g_ge (tgt := 60) hx hb dX8_answer_52 dX8_answer_53 (by decide) (fun c_52 => ?_) (fun c_52 => ?_)
      · skip
        refine lv_aload_n hx hb dX8_answer_60 rfl (lv_at hl 2 rfl) ?_
        refine va_get (D := D) (ci := 6) (v := .ref (q 18)) (C := RX8) (T := TX8) (N := 28) hx hb hts in_X8_answer_X8 hown hK.1 hP 0 rfl rfl 18 (by decide) (hts (.fieldLink RX8 60 "NestlimitModel" "toldHigh" "[J") (List.mem_of_getElem? (i := 2) rfl)) (fun _ h9 => h9) rfl dX8_answer_61 ?_
        refine lv_iload hx hb dX8_answer_64 (lv_at hl 0 rfl) ?_
        refine g_lald (k := (25 * j) + p) hx hb hK.1 hP 17 1 rfl rfl (by omega) (by decide) dX8_answer_66 ?_
        refine lv_aload_n hx hb dX8_answer_67 rfl (lv_at hl 2 rfl) ?_
        refine va_get (D := D) (ci := 6) (v := .ref (q 17)) (C := RX8) (T := TX8) (N := 28) hx hb hts in_X8_answer_X8 hown hK.1 hP 0 rfl rfl 17 (by decide) (hts (.fieldLink RX8 57 "NestlimitModel" "toldLow" "[J") (List.mem_of_getElem? (i := 3) rfl)) (fun _ h9 => h9) rfl dX8_answer_68 ?_
        refine lv_iload hx hb dX8_answer_71 (lv_at hl 1 rfl) ?_
        refine g_lald (k := (25 * k) + p) hx hb hK.1 hP 16 1 rfl rfl (by omega) (by decide) dX8_answer_73 ?_
        refine g_ge (tgt := 82) hx hb dX8_answer_74 dX8_answer_75 (by decide) (fun c_74 => ?_) (fun c_74 => ?_)
        · skip
          refine lv_iconst (v := 0) hx hb dX8_answer_82 (by decide) ?_
          exact W.iret (v := 0) hx hb hr (fun t ht hW => ⟨congrArg (fun z => Outcome.returned (some (Value.int z))) (by simp only [sp_X8_answer, if_pos c_23, if_pos c_33, if_pos c_52, if_pos c_74]), ht⟩) (fun q h => by cases h) dX8_answer_83
        · skip
          refine lv_iconst (v := 1) hx hb dX8_answer_78 (by decide) ?_
          refine lv_goto (tgt := 83) hx hb dX8_answer_79 (by decide) ?_
          exact W.iret (v := 1) hx hb hr (fun t ht hW => ⟨congrArg (fun z => Outcome.returned (some (Value.int z))) (by simp only [sp_X8_answer, if_pos c_23, if_pos c_33, if_pos c_52, if_neg c_74]), ht⟩) (fun q h => by cases h) dX8_answer_83
      · skip
        refine lv_iconst (v := -1) hx hb dX8_answer_56 (by decide) ?_
        refine lv_goto (tgt := 83) hx hb dX8_answer_57 (by decide) ?_
        exact W.iret (v := -1) hx hb hr (fun t ht hW => ⟨congrArg (fun z => Outcome.returned (some (Value.int z))) (by simp only [sp_X8_answer, if_pos c_23, if_pos c_33, if_neg c_52]), ht⟩) (fun q h => by cases h) dX8_answer_83
    · skip
      refine lv_iconst (v := 0) hx hb dX8_answer_36 (by decide) ?_
      exact W.iret (v := 0) hx hb hr (fun t ht hW => ⟨congrArg (fun z => Outcome.returned (some (Value.int z))) (by simp only [sp_X8_answer, if_pos c_23, if_neg c_33]), ht⟩) (fun q h => by cases h) dX8_answer_37
set_option maxHeartbeats 4000000 in
set_option maxRecDepth 100000 in
theorem c_X8_compare_1 (l : Launch) (D : va_G) (y : Nat → ClassId) (sz : Nat) (h : Nat) (q : Nat → Nat) (tw : Int32) (pn : Nat) (ki on ot ab be zA zB zC zD zF zT : Nat → Int32) (fo : Nat → Bool) (lw hg : Nat → Int64) (at_ : Nat → Bool) (tl th : Nat → Int64) (wo : Nat → Bool) (wl wh : Nat → Int64) (is_ : Bool) (lo_ hi_ : Int64) (di : Nat → Int32) (su : Nat → Int64) (an : Nat → Bool) (a b c0 : Int32) (hbad : ¬ (sp_X8_isProgram pn a = true ∧ sp_X8_isProgram pn b = true)) : Met l yX8_compare wsX8_compare ({ frames := 2, cells := 0, slots := 0, locals := 43 } : Room) (gP D y [.ref h, .int a, .int b, .int c0] (wM y h q tw pn ki on ot ab be zA zB zC zD zF zT fo lw hg at_ tl th wo wl wh is_ lo_ hi_ di su an) sz) (gQ D (wM y h q tw pn ki on ot ab be zA zB zC zD zF zT fo lw hg at_ tl th wo wl wh is_ lo_ hi_ di su an) (gF (some (.int 0)) (wM y h q 1 pn ki on ot ab be zA zB zC zD zF zT fo lw hg at_ tl th wo wl wh is_ lo_ hi_ di su an))) 0 0 (va_A (wM y h q tw pn ki on ot ab be zA zB zC zD zF zT fo lw hg at_ tl th wo wl wh is_ lo_ hi_ di su an) sz) := by
  refine Met.ofW (cc := cX8_compare) (maxL := 5) (ret := (some .int)) (by decide) rfl ?_
  intro pg e s m args below meth c s₁ B hml hv
  obtain ⟨rfl, hsz, hP, hK, hD0⟩ := hv
  have hx := B.exec
  have hb := B.bytes
  have hr := B.returns
  have hts := atoms_spec (ws := wsX8_compare) B.pre
  have hown : s.vm.findClass RX8 = some m.cls := findClass_of_methodNamed B.named
  have hlocks := B.notSynchronized
  subst hsz
  obtain ⟨A, hAe⟩ : ∃ A : Nat → Prop, A = va_A (wM y h q tw pn ki on ot ab be zA zB zC zD zF zT fo lw hg at_ tl th wo wl wh is_ lo_ hi_ di su an) s.heap.size := ⟨_, rfl⟩
  have hD : va_D A (wM y h q tw pn ki on ot ab be zA zB zC zD zF zT fo lw hg at_ tl th wo wl wh is_ lo_ hi_ di su an) := by rw [hAe]; exact hD0.self (sz := s.heap.size)
  have hA : ∀ q : Nat, s.heap.size ≤ q → A q := fun q h => by rw [hAe]; exact Or.inr h
  have hS : va_S A s.heap s.heap [] := va_S.rf
  have hl := lv_entry ([.ref h, .int a, .int b, .int c0]) (n := 5) (Nat.le_of_ble_eq_true rfl)
  rw [lg_entry_eq]
  generalize (lg_sl ([.ref h, .int a, .int b, .int c0]) ++ List.replicate (5 - (lg_sl ([.ref h, .int a, .int b, .int c0])).length) Slot.unset).toArray = ls at hl ⊢
  have hl : lv_has ls 5 [(0, .ref h), (1, .int a), (2, .int b), (3, .int c0)] := hl
  refine lv_aload_n hx hb dX8_compare_0 rfl (lv_at hl 0 rfl) ?_
  refine lv_iload_n hx hb dX8_compare_1 rfl (lv_at hl 1 rfl) ?_
  refine g_callR (v0 := .int (gB (sp_X8_isProgram pn a))) (va_runV (As := [.int a]) (rest := []) ⟨hx, hb, hml, hown, hts⟩ (c_X8_isProgram l D y s.heap.size h q tw pn ki on ot ab be zA zB zC zD zF zT fo lw hg at_ tl th wo wl wh is_ lo_ hi_ di su an a) (cwV 1 hts gX8_compare_X8_isProgram rfl rfl rfl (by decide +kernel) ⟨Nat.le_of_ble_eq_true rfl, Nat.le_of_ble_eq_true rfl⟩) (gP_VA hP hD hK 0 rfl rfl) rfl rfl hl.1 rfl (lv_room (Nat.le_of_ble_eq_true rfl)) dX8_compare_2 ⟨Nat.zero_le _, Nat.zero_le _⟩) ?_
  refine g_beq (tgt := 20) hx hb dX8_compare_5 (by decide) (fun c_5 => ?_) (fun c_5 => ?_)
  · skip
    refine lv_iconst (v := 0) hx hb dX8_compare_20 (by decide) ?_
    refine lv_istore (lv' := [(4, .int 0), (0, .ref h), (1, .int a), (2, .int b), (3, .int c0)]) hx hb dX8_compare_21 hl (by decide) rfl (fun ls hl => ?_)
    refine lv_aload_n hx hb dX8_compare_23 rfl (lv_at hl 1 rfl) ?_
    refine lv_iload hx hb dX8_compare_24 (lv_at hl 0 rfl) ?_
    refine lv_if_ne (tgt := 33) hx hb dX8_compare_26 (by decide) (fun c_26 => absurd c_26 (by decide)) (fun c_26 => ?_)
    refine lv_iconst (v := 1) hx hb dX8_compare_29 (by decide) ?_
    refine lv_goto (tgt := 45) hx hb dX8_compare_30 (by decide) ?_
    refine g_callA1 (v0 := .int (gB (sp_X8_holds 1))) (w0 := wM y h q 1 pn ki on ot ab be zA zB zC zD zF zT fo lw hg at_ tl th wo wl wh is_ lo_ hi_ di su an) (va_runV (As := [.int 1]) (rest := []) ⟨hx, hb, hml, hown, hts⟩ (c_X8_holds l D y s.heap.size h q tw pn ki on ot ab be zA zB zC zD zF zT fo lw hg at_ tl th wo wl wh is_ lo_ hi_ di su an 1) (cwV 1 hts gX8_compare_X8_holds rfl rfl rfl (by decide +kernel) ⟨Nat.le_of_ble_eq_true rfl, Nat.le_of_ble_eq_true rfl⟩) (gP_VA hP hD hK 0 rfl rfl) rfl rfl hl.1 rfl (lv_room (Nat.le_of_ble_eq_true rfl)) dX8_compare_45 ⟨Nat.zero_le _, Nat.zero_le _⟩) hP hD hS hA rfl (fun H locs hP hD hS => ?_)
    refine g_beq (tgt := 61) hx hb dX8_compare_48 (by decide) (fun c_48 => ?_) (fun c_48 => absurd c_48 (by decide))
    refine lv_iconst (v := 0) hx hb dX8_compare_61 (by decide) ?_
    exact W.iret (v := 0) hx hb hr (fun t ht hW => ⟨⟨_, wM y h q 1 pn ki on ot ab be zA zB zC zD zF zT fo lw hg at_ tl th wo wl wh is_ lo_ hi_ di su an, rfl, ⟨congrArg (fun z => some (Value.int z)) (rfl), rfl⟩, rfl, by rw [ht]; exact hP⟩, by rw [← hAe]; exact hS.F ht⟩) (by rw [← hAe]; exact hS.2.2) dX8_compare_62
  · skip
    refine lv_aload_n hx hb dX8_compare_8 rfl (lv_at hl 0 rfl) ?_
    refine lv_iload_n hx hb dX8_compare_9 rfl (lv_at hl 2 rfl) ?_
    refine g_callR (v0 := .int (gB (sp_X8_isProgram pn b))) (va_runV (As := [.int b]) (rest := []) ⟨hx, hb, hml, hown, hts⟩ (c_X8_isProgram l D y s.heap.size h q tw pn ki on ot ab be zA zB zC zD zF zT fo lw hg at_ tl th wo wl wh is_ lo_ hi_ di su an b) (cwV 1 hts gX8_compare_X8_isProgram rfl rfl rfl (by decide +kernel) ⟨Nat.le_of_ble_eq_true rfl, Nat.le_of_ble_eq_true rfl⟩) (gP_VA hP hD hK 0 rfl rfl) rfl rfl hl.1 rfl (lv_room (Nat.le_of_ble_eq_true rfl)) dX8_compare_10 ⟨Nat.zero_le _, Nat.zero_le _⟩) ?_
    refine g_beq (tgt := 20) hx hb dX8_compare_13 (by decide) (fun c_13 => ?_) (fun c_13 => absurd (And.intro c_5 c_13) hbad)
    refine lv_iconst (v := 0) hx hb dX8_compare_20 (by decide) ?_
    refine lv_istore (lv' := [(4, .int 0), (0, .ref h), (1, .int a), (2, .int b), (3, .int c0)]) hx hb dX8_compare_21 hl (by decide) rfl (fun ls hl => ?_)
    refine lv_aload_n hx hb dX8_compare_23 rfl (lv_at hl 1 rfl) ?_
    refine lv_iload hx hb dX8_compare_24 (lv_at hl 0 rfl) ?_
    refine lv_if_ne (tgt := 33) hx hb dX8_compare_26 (by decide) (fun c_26 => absurd c_26 (by decide)) (fun c_26 => ?_)
    refine lv_iconst (v := 1) hx hb dX8_compare_29 (by decide) ?_
    refine lv_goto (tgt := 45) hx hb dX8_compare_30 (by decide) ?_
    refine g_callA1 (v0 := .int (gB (sp_X8_holds 1))) (w0 := wM y h q 1 pn ki on ot ab be zA zB zC zD zF zT fo lw hg at_ tl th wo wl wh is_ lo_ hi_ di su an) (va_runV (As := [.int 1]) (rest := []) ⟨hx, hb, hml, hown, hts⟩ (c_X8_holds l D y s.heap.size h q tw pn ki on ot ab be zA zB zC zD zF zT fo lw hg at_ tl th wo wl wh is_ lo_ hi_ di su an 1) (cwV 1 hts gX8_compare_X8_holds rfl rfl rfl (by decide +kernel) ⟨Nat.le_of_ble_eq_true rfl, Nat.le_of_ble_eq_true rfl⟩) (gP_VA hP hD hK 0 rfl rfl) rfl rfl hl.1 rfl (lv_room (Nat.le_of_ble_eq_true rfl)) dX8_compare_45 ⟨Nat.zero_le _, Nat.zero_le _⟩) hP hD hS hA rfl (fun H locs hP hD hS => ?_)
    refine g_beq (tgt := 61) hx hb dX8_compare_48 (by decide) (fun c_48 => ?_) (fun c_48 => absurd c_48 (by decide))
    refine lv_iconst (v := 0) hx hb dX8_compare_61 (by decide) ?_
    exact W.iret (v := 0) hx hb hr (fun t ht hW => ⟨⟨_, wM y h q 1 pn ki on ot ab be zA zB zC zD zF zT fo lw hg at_ tl th wo wl wh is_ lo_ hi_ di su an, rfl, ⟨congrArg (fun z => some (Value.int z)) (rfl), rfl⟩, rfl, by rw [ht]; exact hP⟩, by rw [← hAe]; exact hS.F ht⟩) (by rw [← hAe]; exact hS.2.2) dX8_compare_62
set_option maxHeartbeats 4000000 in
set_option maxRecDepth 100000 in
theorem c_X8_compare_2 (l : Launch) (D : va_G) (y : Nat → ClassId) (sz : Nat) (h : Nat) (q : Nat → Nat) (tw : Int32) (pn : Nat) (ki on ot ab be zA zB zC zD zF zT : Nat → Int32) (fo : Nat → Bool) (lw hg : Nat → Int64) (at_ : Nat → Bool) (tl th : Nat → Int64) (wo : Nat → Bool) (wl wh : Nat → Int64) (is_ : Bool) (lo_ hi_ : Int64) (di : Nat → Int32) (su : Nat → Int64) (an : Nat → Bool) (k j : Nat) (c0 : Int32) (hpn : pn ≤ 40) (hk : k < pn) (hj : j < pn) (yP : ¬ sp_X8_isPlace c0 = true) : Met l yX8_compare wsX8_compare ({ frames := 2, cells := 0, slots := 0, locals := 43 } : Room) (gP D y [.ref h, .int (nI k), .int (nI j), .int c0] (wM y h q tw pn ki on ot ab be zA zB zC zD zF zT fo lw hg at_ tl th wo wl wh is_ lo_ hi_ di su an) sz) (gQ D (wM y h q tw pn ki on ot ab be zA zB zC zD zF zT fo lw hg at_ tl th wo wl wh is_ lo_ hi_ di su an) (gF (some (.int 0)) (wM y h q 2 pn ki on ot ab be zA zB zC zD zF zT fo lw hg at_ tl th wo wl wh is_ lo_ hi_ di su an))) 0 0 (va_A (wM y h q tw pn ki on ot ab be zA zB zC zD zF zT fo lw hg at_ tl th wo wl wh is_ lo_ hi_ di su an) sz) := by
  refine Met.ofW (cc := cX8_compare) (maxL := 5) (ret := (some .int)) (by decide) rfl ?_
  intro pg e s m args below meth c s₁ B hml hv
  obtain ⟨rfl, hsz, hP, hK, hD0⟩ := hv
  have hx := B.exec
  have hb := B.bytes
  have hr := B.returns
  have hts := atoms_spec (ws := wsX8_compare) B.pre
  have hown : s.vm.findClass RX8 = some m.cls := findClass_of_methodNamed B.named
  have hlocks := B.notSynchronized
  subst hsz
  obtain ⟨A, hAe⟩ : ∃ A : Nat → Prop, A = va_A (wM y h q tw pn ki on ot ab be zA zB zC zD zF zT fo lw hg at_ tl th wo wl wh is_ lo_ hi_ di su an) s.heap.size := ⟨_, rfl⟩
  have hD : va_D A (wM y h q tw pn ki on ot ab be zA zB zC zD zF zT fo lw hg at_ tl th wo wl wh is_ lo_ hi_ di su an) := by rw [hAe]; exact hD0.self (sz := s.heap.size)
  have hA : ∀ q : Nat, s.heap.size ≤ q → A q := fun q h => by rw [hAe]; exact Or.inr h
  have hS : va_S A s.heap s.heap [] := va_S.rf
  have hl := lv_entry ([.ref h, .int (nI k), .int (nI j), .int c0]) (n := 5) (Nat.le_of_ble_eq_true rfl)
  rw [lg_entry_eq]
  generalize (lg_sl ([.ref h, .int (nI k), .int (nI j), .int c0]) ++ List.replicate (5 - (lg_sl ([.ref h, .int (nI k), .int (nI j), .int c0])).length) Slot.unset).toArray = ls at hl ⊢
  have hl : lv_has ls 5 [(0, .ref h), (1, .int (nI k)), (2, .int (nI j)), (3, .int c0)] := hl
  refine lv_aload_n hx hb dX8_compare_0 rfl (lv_at hl 0 rfl) ?_
  refine lv_iload_n hx hb dX8_compare_1 rfl (lv_at hl 1 rfl) ?_
  refine g_callR (v0 := .int (gB (sp_X8_isProgram pn (nI k)))) (va_runV (As := [.int (nI k)]) (rest := []) ⟨hx, hb, hml, hown, hts⟩ (c_X8_isProgram l D y s.heap.size h q tw pn ki on ot ab be zA zB zC zD zF zT fo lw hg at_ tl th wo wl wh is_ lo_ hi_ di su an (nI k)) (cwV 1 hts gX8_compare_X8_isProgram rfl rfl rfl (by decide +kernel) ⟨Nat.le_of_ble_eq_true rfl, Nat.le_of_ble_eq_true rfl⟩) (gP_VA hP hD hK 0 rfl rfl) rfl rfl hl.1 rfl (lv_room (Nat.le_of_ble_eq_true rfl)) dX8_compare_2 ⟨Nat.zero_le _, Nat.zero_le _⟩) ?_
  refine g_beq (tgt := 20) hx hb dX8_compare_5 (by decide) (fun c_5 => absurd (g_isP hk hpn) c_5) (fun c_5 => ?_)
  refine lv_aload_n hx hb dX8_compare_8 rfl (lv_at hl 0 rfl) ?_
  refine lv_iload_n hx hb dX8_compare_9 rfl (lv_at hl 2 rfl) ?_
  refine g_callR (v0 := .int (gB (sp_X8_isProgram pn (nI j)))) (va_runV (As := [.int (nI j)]) (rest := []) ⟨hx, hb, hml, hown, hts⟩ (c_X8_isProgram l D y s.heap.size h q tw pn ki on ot ab be zA zB zC zD zF zT fo lw hg at_ tl th wo wl wh is_ lo_ hi_ di su an (nI j)) (cwV 1 hts gX8_compare_X8_isProgram rfl rfl rfl (by decide +kernel) ⟨Nat.le_of_ble_eq_true rfl, Nat.le_of_ble_eq_true rfl⟩) (gP_VA hP hD hK 0 rfl rfl) rfl rfl hl.1 rfl (lv_room (Nat.le_of_ble_eq_true rfl)) dX8_compare_10 ⟨Nat.zero_le _, Nat.zero_le _⟩) ?_
  refine g_beq (tgt := 20) hx hb dX8_compare_13 (by decide) (fun c_13 => absurd (g_isP hj hpn) c_13) (fun c_13 => ?_)
  refine lv_iconst (v := 1) hx hb dX8_compare_16 (by decide) ?_
  refine lv_goto (tgt := 21) hx hb dX8_compare_17 (by decide) ?_
  refine lv_istore (lv' := [(4, .int 1), (0, .ref h), (1, .int (nI k)), (2, .int (nI j)), (3, .int c0)]) hx hb dX8_compare_21 hl (by decide) rfl (fun ls hl => ?_)
  refine lv_aload_n hx hb dX8_compare_23 rfl (lv_at hl 1 rfl) ?_
  refine lv_iload hx hb dX8_compare_24 (lv_at hl 0 rfl) ?_
  refine lv_if_ne (tgt := 33) hx hb dX8_compare_26 (by decide) (fun c_26 => ?_) (fun c_26 => absurd c_26 (by decide))
  refine lv_iload_n hx hb dX8_compare_33 rfl (lv_at hl 4 rfl) ?_
  refine g_callR (v0 := .int (gB (sp_X8_isPlace c0))) (va_runS (As := [.int c0]) (rest := [.ref h]) ⟨hx, hb, hml, hown, hts⟩ (c_X8_isPlace l D y s.heap.size c0) (va_cwS 1 hts gX8_compare_X8_isPlace rfl rfl rfl (by decide +kernel) ⟨Nat.le_of_ble_eq_true rfl, Nat.le_of_ble_eq_true rfl⟩) (gP_S hP hD hK [] (by decide) rfl) rfl rfl hl.1 rfl (lv_room (Nat.le_of_ble_eq_true rfl)) dX8_compare_34 ⟨Nat.zero_le _, Nat.zero_le _⟩) ?_
  refine g_beq (tgt := 44) hx hb dX8_compare_37 (by decide) (fun c_37 => ?_) (fun c_37 => absurd c_37 yP)
  refine lv_iconst (v := 2) hx hb dX8_compare_44 (by decide) ?_
  refine g_callA1 (v0 := .int (gB (sp_X8_holds 2))) (w0 := wM y h q 2 pn ki on ot ab be zA zB zC zD zF zT fo lw hg at_ tl th wo wl wh is_ lo_ hi_ di su an) (va_runV (As := [.int 2]) (rest := []) ⟨hx, hb, hml, hown, hts⟩ (c_X8_holds l D y s.heap.size h q tw pn ki on ot ab be zA zB zC zD zF zT fo lw hg at_ tl th wo wl wh is_ lo_ hi_ di su an 2) (cwV 1 hts gX8_compare_X8_holds rfl rfl rfl (by decide +kernel) ⟨Nat.le_of_ble_eq_true rfl, Nat.le_of_ble_eq_true rfl⟩) (gP_VA hP hD hK 0 rfl rfl) rfl rfl hl.1 rfl (lv_room (Nat.le_of_ble_eq_true rfl)) dX8_compare_45 ⟨Nat.zero_le _, Nat.zero_le _⟩) hP hD hS hA rfl (fun H locs hP hD hS => ?_)
  refine g_beq (tgt := 61) hx hb dX8_compare_48 (by decide) (fun c_48 => ?_) (fun c_48 => absurd c_48 (by decide))
  refine lv_iconst (v := 0) hx hb dX8_compare_61 (by decide) ?_
  exact W.iret (v := 0) hx hb hr (fun t ht hW => ⟨⟨_, wM y h q 2 pn ki on ot ab be zA zB zC zD zF zT fo lw hg at_ tl th wo wl wh is_ lo_ hi_ di su an, rfl, ⟨congrArg (fun z => some (Value.int z)) (rfl), rfl⟩, rfl, by rw [ht]; exact hP⟩, by rw [← hAe]; exact hS.F ht⟩) (by rw [← hAe]; exact hS.2.2) dX8_compare_62
set_option maxHeartbeats 4000000 in
set_option maxRecDepth 100000 in
theorem c_X8_compare_0 (l : Launch) (D : va_G) (y : Nat → ClassId) (sz : Nat) (h : Nat) (q : Nat → Nat) (tw : Int32) (pn : Nat) (ki on ot ab be zA zB zC zD zF zT : Nat → Int32) (fo : Nat → Bool) (lw hg : Nat → Int64) (at_ : Nat → Bool) (tl th : Nat → Int64) (wo : Nat → Bool) (wl wh : Nat → Int64) (is_ : Bool) (lo_ hi_ : Int64) (di : Nat → Int32) (su : Nat → Int64) (an : Nat → Bool) (k j p : Nat) (hpn : pn ≤ 40) (hk : k < pn) (hj : j < pn) (hp : p < 25) : Met l yX8_compare wsX8_compare ({ frames := 2, cells := 0, slots := 0, locals := 43 } : Room) (gP D y [.ref h, .int (nI k), .int (nI j), .int (nI p)] (wM y h q tw pn ki on ot ab be zA zB zC zD zF zT fo lw hg at_ tl th wo wl wh is_ lo_ hi_ di su an) sz) (gQ D (wM y h q tw pn ki on ot ab be zA zB zC zD zF zT fo lw hg at_ tl th wo wl wh is_ lo_ hi_ di su an) (gF (some (.int (sp_X8_answer at_ tl th k j p))) (wM y h q 0 pn ki on ot ab be zA zB zC zD zF zT fo lw hg at_ tl th wo wl wh is_ lo_ hi_ di su an))) 0 0 (va_A (wM y h q tw pn ki on ot ab be zA zB zC zD zF zT fo lw hg at_ tl th wo wl wh is_ lo_ hi_ di su an) sz) := by
  refine Met.ofW (cc := cX8_compare) (maxL := 5) (ret := (some .int)) (by decide) rfl ?_
  intro pg e s m args below meth c s₁ B hml hv
  obtain ⟨rfl, hsz, hP, hK, hD0⟩ := hv
  have hx := B.exec
  have hb := B.bytes
  have hr := B.returns
  have hts := atoms_spec (ws := wsX8_compare) B.pre
  have hown : s.vm.findClass RX8 = some m.cls := findClass_of_methodNamed B.named
  have hlocks := B.notSynchronized
  subst hsz
  obtain ⟨A, hAe⟩ : ∃ A : Nat → Prop, A = va_A (wM y h q tw pn ki on ot ab be zA zB zC zD zF zT fo lw hg at_ tl th wo wl wh is_ lo_ hi_ di su an) s.heap.size := ⟨_, rfl⟩
  have hD : va_D A (wM y h q tw pn ki on ot ab be zA zB zC zD zF zT fo lw hg at_ tl th wo wl wh is_ lo_ hi_ di su an) := by rw [hAe]; exact hD0.self (sz := s.heap.size)
  have hA : ∀ q : Nat, s.heap.size ≤ q → A q := fun q h => by rw [hAe]; exact Or.inr h
  have hS : va_S A s.heap s.heap [] := va_S.rf
  have hl := lv_entry ([.ref h, .int (nI k), .int (nI j), .int (nI p)]) (n := 5) (Nat.le_of_ble_eq_true rfl)
  rw [lg_entry_eq]
  generalize (lg_sl ([.ref h, .int (nI k), .int (nI j), .int (nI p)]) ++ List.replicate (5 - (lg_sl ([.ref h, .int (nI k), .int (nI j), .int (nI p)])).length) Slot.unset).toArray = ls at hl ⊢
  have hl : lv_has ls 5 [(0, .ref h), (1, .int (nI k)), (2, .int (nI j)), (3, .int (nI p))] := hl
  refine lv_aload_n hx hb dX8_compare_0 rfl (lv_at hl 0 rfl) ?_
  refine lv_iload_n hx hb dX8_compare_1 rfl (lv_at hl 1 rfl) ?_
  refine g_callR (v0 := .int (gB (sp_X8_isProgram pn (nI k)))) (va_runV (As := [.int (nI k)]) (rest := []) ⟨hx, hb, hml, hown, hts⟩ (c_X8_isProgram l D y s.heap.size h q tw pn ki on ot ab be zA zB zC zD zF zT fo lw hg at_ tl th wo wl wh is_ lo_ hi_ di su an (nI k)) (cwV 1 hts gX8_compare_X8_isProgram rfl rfl rfl (by decide +kernel) ⟨Nat.le_of_ble_eq_true rfl, Nat.le_of_ble_eq_true rfl⟩) (gP_VA hP hD hK 0 rfl rfl) rfl rfl hl.1 rfl (lv_room (Nat.le_of_ble_eq_true rfl)) dX8_compare_2 ⟨Nat.zero_le _, Nat.zero_le _⟩) ?_
  refine g_beq (tgt := 20) hx hb dX8_compare_5 (by decide) (fun c_5 => absurd (g_isP hk hpn) c_5) (fun c_5 => ?_)
  refine lv_aload_n hx hb dX8_compare_8 rfl (lv_at hl 0 rfl) ?_
  refine lv_iload_n hx hb dX8_compare_9 rfl (lv_at hl 2 rfl) ?_
  refine g_callR (v0 := .int (gB (sp_X8_isProgram pn (nI j)))) (va_runV (As := [.int (nI j)]) (rest := []) ⟨hx, hb, hml, hown, hts⟩ (c_X8_isProgram l D y s.heap.size h q tw pn ki on ot ab be zA zB zC zD zF zT fo lw hg at_ tl th wo wl wh is_ lo_ hi_ di su an (nI j)) (cwV 1 hts gX8_compare_X8_isProgram rfl rfl rfl (by decide +kernel) ⟨Nat.le_of_ble_eq_true rfl, Nat.le_of_ble_eq_true rfl⟩) (gP_VA hP hD hK 0 rfl rfl) rfl rfl hl.1 rfl (lv_room (Nat.le_of_ble_eq_true rfl)) dX8_compare_10 ⟨Nat.zero_le _, Nat.zero_le _⟩) ?_
  refine g_beq (tgt := 20) hx hb dX8_compare_13 (by decide) (fun c_13 => absurd (g_isP hj hpn) c_13) (fun c_13 => ?_)
  refine lv_iconst (v := 1) hx hb dX8_compare_16 (by decide) ?_
  refine lv_goto (tgt := 21) hx hb dX8_compare_17 (by decide) ?_
  refine lv_istore (lv' := [(4, .int 1), (0, .ref h), (1, .int (nI k)), (2, .int (nI j)), (3, .int (nI p))]) hx hb dX8_compare_21 hl (by decide) rfl (fun ls hl => ?_)
  refine lv_aload_n hx hb dX8_compare_23 rfl (lv_at hl 1 rfl) ?_
  refine lv_iload hx hb dX8_compare_24 (lv_at hl 0 rfl) ?_
  refine lv_if_ne (tgt := 33) hx hb dX8_compare_26 (by decide) (fun c_26 => ?_) (fun c_26 => absurd c_26 (by decide))
  refine lv_iload_n hx hb dX8_compare_33 rfl (lv_at hl 4 rfl) ?_
  refine g_callR (v0 := .int (gB (sp_X8_isPlace (nI p)))) (va_runS (As := [.int (nI p)]) (rest := [.ref h]) ⟨hx, hb, hml, hown, hts⟩ (c_X8_isPlace l D y s.heap.size (nI p)) (va_cwS 1 hts gX8_compare_X8_isPlace rfl rfl rfl (by decide +kernel) ⟨Nat.le_of_ble_eq_true rfl, Nat.le_of_ble_eq_true rfl⟩) (gP_S hP hD hK [] (by decide) rfl) rfl rfl hl.1 rfl (lv_room (Nat.le_of_ble_eq_true rfl)) dX8_compare_34 ⟨Nat.zero_le _, Nat.zero_le _⟩) ?_
  refine g_beq (tgt := 44) hx hb dX8_compare_37 (by decide) (fun c_37 => absurd (g_isPl hp) c_37) (fun c_37 => ?_)
  refine lv_iconst (v := 0) hx hb dX8_compare_40 (by decide) ?_
  refine lv_goto (tgt := 45) hx hb dX8_compare_41 (by decide) ?_
  refine g_callA1 (v0 := .int (gB (sp_X8_holds 0))) (w0 := wM y h q 0 pn ki on ot ab be zA zB zC zD zF zT fo lw hg at_ tl th wo wl wh is_ lo_ hi_ di su an) (va_runV (As := [.int 0]) (rest := []) ⟨hx, hb, hml, hown, hts⟩ (c_X8_holds l D y s.heap.size h q tw pn ki on ot ab be zA zB zC zD zF zT fo lw hg at_ tl th wo wl wh is_ lo_ hi_ di su an 0) (cwV 1 hts gX8_compare_X8_holds rfl rfl rfl (by decide +kernel) ⟨Nat.le_of_ble_eq_true rfl, Nat.le_of_ble_eq_true rfl⟩) (gP_VA hP hD hK 0 rfl rfl) rfl rfl hl.1 rfl (lv_room (Nat.le_of_ble_eq_true rfl)) dX8_compare_45 ⟨Nat.zero_le _, Nat.zero_le _⟩) hP hD hS hA rfl (fun H locs hP hD hS => ?_)
  refine g_beq (tgt := 61) hx hb dX8_compare_48 (by decide) (fun c_48 => absurd (by decide) c_48) (fun c_48 => ?_)
  refine lv_aload_n hx hb dX8_compare_51 rfl (lv_at hl 1 rfl) ?_
  refine lv_iload_n hx hb dX8_compare_52 rfl (lv_at hl 2 rfl) ?_
  refine lv_iload_n hx hb dX8_compare_53 rfl (lv_at hl 3 rfl) ?_
  refine lv_iload_n hx hb dX8_compare_54 rfl (lv_at hl 4 rfl) ?_
  refine g_callR (v0 := .int (sp_X8_answer at_ tl th k j p)) (va_runV (As := [.int (nI k), .int (nI j), .int (nI p)]) (rest := []) ⟨hx, hb, hml, hown, hts⟩ (c_X8_answer l D y H.size h q 0 pn ki on ot ab be zA zB zC zD zF zT fo lw hg at_ tl th wo wl wh is_ lo_ hi_ di su an k j p (by omega) (by omega) hp) (cwV 3 hts gX8_compare_X8_answer rfl rfl rfl (by decide +kernel) ⟨Nat.le_of_ble_eq_true rfl, Nat.le_of_ble_eq_true rfl⟩) (gP_VA hP hD hK 0 rfl rfl) rfl rfl hl.1 rfl (lv_room (Nat.le_of_ble_eq_true rfl)) dX8_compare_55 ⟨Nat.zero_le _, Nat.zero_le _⟩) ?_
  refine lv_goto (tgt := 62) hx hb dX8_compare_58 (by decide) ?_
  exact W.iret (v := sp_X8_answer at_ tl th k j p) hx hb hr (fun t ht hW => ⟨⟨_, wM y h q 0 pn ki on ot ab be zA zB zC zD zF zT fo lw hg at_ tl th wo wl wh is_ lo_ hi_ di su an, rfl, ⟨congrArg (fun z => some (Value.int z)) (rfl), rfl⟩, rfl, by rw [ht]; exact hP⟩, by rw [← hAe]; exact hS.F ht⟩) (by rw [← hAe]; exact hS.2.2) dX8_compare_62
def dcF (f : Nat → Int32) : Nat → Nat → Nat
  | 0, p => p
  | n + 1, p => if f p = 0 then dcF f n (p + 1) else p
def dcR (x : Nat) : Int32 := if nI x = 25 then -1 else nI x
set_option maxHeartbeats 4000000 in
set_option maxRecDepth 100000 in
theorem c_X8_decided_1 (l : Launch) (D : va_G) (y : Nat → ClassId) (sz : Nat) (h : Nat) (q : Nat → Nat) (tw : Int32) (pn : Nat) (ki on ot ab be zA zB zC zD zF zT : Nat → Int32) (fo : Nat → Bool) (lw hg : Nat → Int64) (at_ : Nat → Bool) (tl th : Nat → Int64) (wo : Nat → Bool) (wl wh : Nat → Int64) (is_ : Bool) (lo_ hi_ : Int64) (di : Nat → Int32) (su : Nat → Int64) (an : Nat → Bool) (a b : Int32) (hbad : ¬ (sp_X8_isProgram pn a = true ∧ sp_X8_isProgram pn b = true)) : Met l yX8_decided wsX8_decided ({ frames := 2, cells := 0, slots := 0, locals := 43 } : Room) (gP D y [.ref h, .int a, .int b] (wM y h q tw pn ki on ot ab be zA zB zC zD zF zT fo lw hg at_ tl th wo wl wh is_ lo_ hi_ di su an) sz) (gQ D (wM y h q tw pn ki on ot ab be zA zB zC zD zF zT fo lw hg at_ tl th wo wl wh is_ lo_ hi_ di su an) (gF (some (.int 0)) (wM y h q 1 pn ki on ot ab be zA zB zC zD zF zT fo lw hg at_ tl th wo wl wh is_ lo_ hi_ di su an))) 0 0 (va_A (wM y h q tw pn ki on ot ab be zA zB zC zD zF zT fo lw hg at_ tl th wo wl wh is_ lo_ hi_ di su an) sz) := by
  refine Met.ofW (cc := cX8_decided) (maxL := 4) (ret := (some .int)) (by decide) rfl ?_
  intro pg e s m args below meth c s₁ B hml hv
  obtain ⟨rfl, hsz, hP, hK, hD0⟩ := hv
  have hx := B.exec
  have hb := B.bytes
  have hr := B.returns
  have hts := atoms_spec (ws := wsX8_decided) B.pre
  have hown : s.vm.findClass RX8 = some m.cls := findClass_of_methodNamed B.named
  have hlocks := B.notSynchronized
  subst hsz
  obtain ⟨A, hAe⟩ : ∃ A : Nat → Prop, A = va_A (wM y h q tw pn ki on ot ab be zA zB zC zD zF zT fo lw hg at_ tl th wo wl wh is_ lo_ hi_ di su an) s.heap.size := ⟨_, rfl⟩
  have hD : va_D A (wM y h q tw pn ki on ot ab be zA zB zC zD zF zT fo lw hg at_ tl th wo wl wh is_ lo_ hi_ di su an) := by rw [hAe]; exact hD0.self (sz := s.heap.size)
  have hA : ∀ q : Nat, s.heap.size ≤ q → A q := fun q h => by rw [hAe]; exact Or.inr h
  have hS : va_S A s.heap s.heap [] := va_S.rf
  have hl := lv_entry ([.ref h, .int a, .int b]) (n := 4) (Nat.le_of_ble_eq_true rfl)
  rw [lg_entry_eq]
  generalize (lg_sl ([.ref h, .int a, .int b]) ++ List.replicate (4 - (lg_sl ([.ref h, .int a, .int b])).length) Slot.unset).toArray = ls at hl ⊢
  have hl : lv_has ls 4 [(0, .ref h), (1, .int a), (2, .int b)] := hl
  refine lv_aload_n hx hb dX8_decided_0 rfl (lv_at hl 0 rfl) ?_
  refine lv_aload_n hx hb dX8_decided_1 rfl (lv_at hl 0 rfl) ?_
  refine lv_iload_n hx hb dX8_decided_2 rfl (lv_at hl 1 rfl) ?_
  refine g_callR (v0 := .int (gB (sp_X8_isProgram pn a))) (va_runV (As := [.int a]) (rest := [.ref h]) ⟨hx, hb, hml, hown, hts⟩ (c_X8_isProgram l D y s.heap.size h q tw pn ki on ot ab be zA zB zC zD zF zT fo lw hg at_ tl th wo wl wh is_ lo_ hi_ di su an a) (cwV 1 hts gX8_decided_X8_isProgram rfl rfl rfl (by decide +kernel) ⟨Nat.le_of_ble_eq_true rfl, Nat.le_of_ble_eq_true rfl⟩) (gP_VA hP hD hK 0 rfl rfl) rfl rfl hl.1 rfl (lv_room (Nat.le_of_ble_eq_true rfl)) dX8_decided_3 ⟨Nat.zero_le _, Nat.zero_le _⟩) ?_
  refine g_beq (tgt := 21) hx hb dX8_decided_6 (by decide) (fun c_6 => ?_) (fun c_6 => ?_)
  · skip
    refine lv_iconst (v := 1) hx hb dX8_decided_21 (by decide) ?_
    refine g_callA1 (v0 := .int (gB (sp_X8_holds 1))) (w0 := wM y h q 1 pn ki on ot ab be zA zB zC zD zF zT fo lw hg at_ tl th wo wl wh is_ lo_ hi_ di su an) (va_runV (As := [.int 1]) (rest := []) ⟨hx, hb, hml, hown, hts⟩ (c_X8_holds l D y s.heap.size h q tw pn ki on ot ab be zA zB zC zD zF zT fo lw hg at_ tl th wo wl wh is_ lo_ hi_ di su an 1) (cwV 1 hts gX8_decided_X8_holds rfl rfl rfl (by decide +kernel) ⟨Nat.le_of_ble_eq_true rfl, Nat.le_of_ble_eq_true rfl⟩) (gP_VA hP hD hK 0 rfl rfl) rfl rfl hl.1 rfl (lv_room (Nat.le_of_ble_eq_true rfl)) dX8_decided_22 ⟨Nat.zero_le _, Nat.zero_le _⟩) hP hD hS hA rfl (fun H locs hP hD hS => ?_)
    refine g_bne (tgt := 30) hx hb dX8_decided_25 (by decide) (fun c_25 => absurd c_25 (by decide)) (fun c_25 => ?_)
    refine lv_iconst (v := 0) hx hb dX8_decided_28 (by decide) ?_
    exact W.iret (v := 0) hx hb hr (fun t ht hW => ⟨⟨_, wM y h q 1 pn ki on ot ab be zA zB zC zD zF zT fo lw hg at_ tl th wo wl wh is_ lo_ hi_ di su an, rfl, ⟨congrArg (fun z => some (Value.int z)) (rfl), rfl⟩, rfl, by rw [ht]; exact hP⟩, by rw [← hAe]; exact hS.F ht⟩) (by rw [← hAe]; exact hS.2.2) dX8_decided_29
  · skip
    refine lv_aload_n hx hb dX8_decided_9 rfl (lv_at hl 0 rfl) ?_
    refine lv_iload_n hx hb dX8_decided_10 rfl (lv_at hl 2 rfl) ?_
    refine g_callR (v0 := .int (gB (sp_X8_isProgram pn b))) (va_runV (As := [.int b]) (rest := [.ref h]) ⟨hx, hb, hml, hown, hts⟩ (c_X8_isProgram l D y s.heap.size h q tw pn ki on ot ab be zA zB zC zD zF zT fo lw hg at_ tl th wo wl wh is_ lo_ hi_ di su an b) (cwV 1 hts gX8_decided_X8_isProgram rfl rfl rfl (by decide +kernel) ⟨Nat.le_of_ble_eq_true rfl, Nat.le_of_ble_eq_true rfl⟩) (gP_VA hP hD hK 0 rfl rfl) rfl rfl hl.1 rfl (lv_room (Nat.le_of_ble_eq_true rfl)) dX8_decided_11 ⟨Nat.zero_le _, Nat.zero_le _⟩) ?_
    refine g_beq (tgt := 21) hx hb dX8_decided_14 (by decide) (fun c_14 => ?_) (fun c_14 => absurd (And.intro c_6 c_14) hbad)
    refine lv_iconst (v := 1) hx hb dX8_decided_21 (by decide) ?_
    refine g_callA1 (v0 := .int (gB (sp_X8_holds 1))) (w0 := wM y h q 1 pn ki on ot ab be zA zB zC zD zF zT fo lw hg at_ tl th wo wl wh is_ lo_ hi_ di su an) (va_runV (As := [.int 1]) (rest := []) ⟨hx, hb, hml, hown, hts⟩ (c_X8_holds l D y s.heap.size h q tw pn ki on ot ab be zA zB zC zD zF zT fo lw hg at_ tl th wo wl wh is_ lo_ hi_ di su an 1) (cwV 1 hts gX8_decided_X8_holds rfl rfl rfl (by decide +kernel) ⟨Nat.le_of_ble_eq_true rfl, Nat.le_of_ble_eq_true rfl⟩) (gP_VA hP hD hK 0 rfl rfl) rfl rfl hl.1 rfl (lv_room (Nat.le_of_ble_eq_true rfl)) dX8_decided_22 ⟨Nat.zero_le _, Nat.zero_le _⟩) hP hD hS hA rfl (fun H locs hP hD hS => ?_)
    refine g_bne (tgt := 30) hx hb dX8_decided_25 (by decide) (fun c_25 => absurd c_25 (by decide)) (fun c_25 => ?_)
    refine lv_iconst (v := 0) hx hb dX8_decided_28 (by decide) ?_
    exact W.iret (v := 0) hx hb hr (fun t ht hW => ⟨⟨_, wM y h q 1 pn ki on ot ab be zA zB zC zD zF zT fo lw hg at_ tl th wo wl wh is_ lo_ hi_ di su an, rfl, ⟨congrArg (fun z => some (Value.int z)) (rfl), rfl⟩, rfl, by rw [ht]; exact hP⟩, by rw [← hAe]; exact hS.F ht⟩) (by rw [← hAe]; exact hS.2.2) dX8_decided_29
set_option maxHeartbeats 4000000 in
set_option maxRecDepth 100000 in
theorem c_X8_decided_0 (l : Launch) (D : va_G) (y : Nat → ClassId) (sz : Nat) (h : Nat) (q : Nat → Nat) (tw : Int32) (pn : Nat) (ki on ot ab be zA zB zC zD zF zT : Nat → Int32) (fo : Nat → Bool) (lw hg : Nat → Int64) (at_ : Nat → Bool) (tl th : Nat → Int64) (wo : Nat → Bool) (wl wh : Nat → Int64) (is_ : Bool) (lo_ hi_ : Int64) (di : Nat → Int32) (su : Nat → Int64) (an : Nat → Bool) (k j : Nat) (hpn : pn ≤ 40) (hk : k < pn) (hj : j < pn) : Met l yX8_decided wsX8_decided ({ frames := 2, cells := 0, slots := 0, locals := 43 } : Room) (gP D y [.ref h, .int (nI k), .int (nI j)] (wM y h q tw pn ki on ot ab be zA zB zC zD zF zT fo lw hg at_ tl th wo wl wh is_ lo_ hi_ di su an) sz) (gQ D (wM y h q tw pn ki on ot ab be zA zB zC zD zF zT fo lw hg at_ tl th wo wl wh is_ lo_ hi_ di su an) (gF (some (.int (dcR (dcF (fun p => sp_X8_answer at_ tl th k j p) 25 0)))) (wM y h q 0 pn ki on ot ab be zA zB zC zD zF zT fo lw hg at_ tl th wo wl wh is_ lo_ hi_ di su an))) 0 0 (va_A (wM y h q tw pn ki on ot ab be zA zB zC zD zF zT fo lw hg at_ tl th wo wl wh is_ lo_ hi_ di su an) sz) := by
  refine Met.ofW (cc := cX8_decided) (maxL := 4) (ret := (some .int)) (by decide) rfl ?_
  intro pg e s m args below meth c s₁ B hml hv
  obtain ⟨rfl, hsz, hP, hK, hD0⟩ := hv
  have hx := B.exec
  have hb := B.bytes
  have hr := B.returns
  have hts := atoms_spec (ws := wsX8_decided) B.pre
  have hown : s.vm.findClass RX8 = some m.cls := findClass_of_methodNamed B.named
  have hlocks := B.notSynchronized
  subst hsz
  obtain ⟨A, hAe⟩ : ∃ A : Nat → Prop, A = va_A (wM y h q tw pn ki on ot ab be zA zB zC zD zF zT fo lw hg at_ tl th wo wl wh is_ lo_ hi_ di su an) s.heap.size := ⟨_, rfl⟩
  have hD : va_D A (wM y h q tw pn ki on ot ab be zA zB zC zD zF zT fo lw hg at_ tl th wo wl wh is_ lo_ hi_ di su an) := by rw [hAe]; exact hD0.self (sz := s.heap.size)
  have hA : ∀ q : Nat, s.heap.size ≤ q → A q := fun q h => by rw [hAe]; exact Or.inr h
  have hS : va_S A s.heap s.heap [] := va_S.rf
  have hl := lv_entry ([.ref h, .int (nI k), .int (nI j)]) (n := 4) (Nat.le_of_ble_eq_true rfl)
  rw [lg_entry_eq]
  generalize (lg_sl ([.ref h, .int (nI k), .int (nI j)]) ++ List.replicate (4 - (lg_sl ([.ref h, .int (nI k), .int (nI j)])).length) Slot.unset).toArray = ls at hl ⊢
  have hl : lv_has ls 4 [(0, .ref h), (1, .int (nI k)), (2, .int (nI j))] := hl
  refine lv_aload_n hx hb dX8_decided_0 rfl (lv_at hl 0 rfl) ?_
  refine lv_aload_n hx hb dX8_decided_1 rfl (lv_at hl 0 rfl) ?_
  refine lv_iload_n hx hb dX8_decided_2 rfl (lv_at hl 1 rfl) ?_
  refine g_callR (v0 := .int (gB (sp_X8_isProgram pn (nI k)))) (va_runV (As := [.int (nI k)]) (rest := [.ref h]) ⟨hx, hb, hml, hown, hts⟩ (c_X8_isProgram l D y s.heap.size h q tw pn ki on ot ab be zA zB zC zD zF zT fo lw hg at_ tl th wo wl wh is_ lo_ hi_ di su an (nI k)) (cwV 1 hts gX8_decided_X8_isProgram rfl rfl rfl (by decide +kernel) ⟨Nat.le_of_ble_eq_true rfl, Nat.le_of_ble_eq_true rfl⟩) (gP_VA hP hD hK 0 rfl rfl) rfl rfl hl.1 rfl (lv_room (Nat.le_of_ble_eq_true rfl)) dX8_decided_3 ⟨Nat.zero_le _, Nat.zero_le _⟩) ?_
  refine g_beq (tgt := 21) hx hb dX8_decided_6 (by decide) (fun c_6 => absurd (g_isP hk hpn) c_6) (fun c_6 => ?_)
  refine lv_aload_n hx hb dX8_decided_9 rfl (lv_at hl 0 rfl) ?_
  refine lv_iload_n hx hb dX8_decided_10 rfl (lv_at hl 2 rfl) ?_
  refine g_callR (v0 := .int (gB (sp_X8_isProgram pn (nI j)))) (va_runV (As := [.int (nI j)]) (rest := [.ref h]) ⟨hx, hb, hml, hown, hts⟩ (c_X8_isProgram l D y s.heap.size h q tw pn ki on ot ab be zA zB zC zD zF zT fo lw hg at_ tl th wo wl wh is_ lo_ hi_ di su an (nI j)) (cwV 1 hts gX8_decided_X8_isProgram rfl rfl rfl (by decide +kernel) ⟨Nat.le_of_ble_eq_true rfl, Nat.le_of_ble_eq_true rfl⟩) (gP_VA hP hD hK 0 rfl rfl) rfl rfl hl.1 rfl (lv_room (Nat.le_of_ble_eq_true rfl)) dX8_decided_11 ⟨Nat.zero_le _, Nat.zero_le _⟩) ?_
  refine g_beq (tgt := 21) hx hb dX8_decided_14 (by decide) (fun c_14 => absurd (g_isP hj hpn) c_14) (fun c_14 => ?_)
  refine lv_iconst (v := 0) hx hb dX8_decided_17 (by decide) ?_
  refine lv_goto (tgt := 22) hx hb dX8_decided_18 (by decide) ?_
  refine g_callA1 (v0 := .int (gB (sp_X8_holds 0))) (w0 := wM y h q 0 pn ki on ot ab be zA zB zC zD zF zT fo lw hg at_ tl th wo wl wh is_ lo_ hi_ di su an) (va_runV (As := [.int 0]) (rest := []) ⟨hx, hb, hml, hown, hts⟩ (c_X8_holds l D y s.heap.size h q tw pn ki on ot ab be zA zB zC zD zF zT fo lw hg at_ tl th wo wl wh is_ lo_ hi_ di su an 0) (cwV 1 hts gX8_decided_X8_holds rfl rfl rfl (by decide +kernel) ⟨Nat.le_of_ble_eq_true rfl, Nat.le_of_ble_eq_true rfl⟩) (gP_VA hP hD hK 0 rfl rfl) rfl rfl hl.1 rfl (lv_room (Nat.le_of_ble_eq_true rfl)) dX8_decided_22 ⟨Nat.zero_le _, Nat.zero_le _⟩) hP hD hS hA rfl (fun H locs hP hD hS => ?_)
  refine g_bne (tgt := 30) hx hb dX8_decided_25 (by decide) (fun c_25 => ?_) (fun c_25 => absurd (by decide) c_25)
  refine lv_iconst (v := 0) hx hb dX8_decided_30 (by decide) ?_
  refine lv_istore_n (lv' := [(3, .int 0), (0, .ref h), (1, .int (nI k)), (2, .int (nI j))]) hx hb dX8_decided_31 rfl hl (by decide) rfl (fun ls hl => ?_)
  have LOOP32 : ∀ (n : Nat) (p : Nat), (p + n = 25) → (dcF (fun p => sp_X8_answer at_ tl th k j p) n p = dcF (fun p => sp_X8_answer at_ tl th k j p) 25 0) → ∀ (H : Heap) (locs : List Loc), va_P D vwCl (wM y h q 0 pn ki on ot ab be zA zB zC zD zF zT fo lw hg at_ tl th wo wl wh is_ lo_ hi_ di su an) H → va_D A (wM y h q 0 pn ki on ot ab be zA zB zC zD zF zT fo lw hg at_ tl th wo wl wh is_ lo_ hi_ di su an) → va_S A s.heap H locs → ∀ (ls : Array Slot), lv_has ls 4 [(0, .ref h), (1, .int (nI k)), (2, .int (nI j)), (3, .int (nI p))] → W pg l e (headSpec wsX8_decided ({ frames := 2, cells := 0, slots := 0, locals := 43 } : Room)).room s m (([.ref h, .int (nI k), .int (nI j)] : List Value).toArray) below meth c H locs 0 0 (MQ below (gQ D (wM y h q tw pn ki on ot ab be zA zB zC zD zF zT fo lw hg at_ tl th wo wl wh is_ lo_ hi_ di su an) (gF (some (.int (dcR (dcF (fun p => sp_X8_answer at_ tl th k j p) 25 0)))) (wM y h q 0 pn ki on ot ab be zA zB zC zD zF zT fo lw hg at_ tl th wo wl wh is_ lo_ hi_ di su an))) (([.ref h, .int (nI k), .int (nI j)] : List Value).toArray) s 0 0 (va_A (wM y h q tw pn ki on ot ab be zA zB zC zD zF zT fo lw hg at_ tl th wo wl wh is_ lo_ hi_ di su an) s.heap.size)) (F0 m 32 ls []) := by
    intro n
    induction n with
    | zero =>
      intro p hpn2 hF H locs hP hD hS ls hl
      refine lv_iload_n hx hb dX8_decided_32 rfl (lv_at hl 3 rfl) ?_
      refine lv_bipush (v := 25) hx hb dX8_decided_33 (by decide) ?_
      refine lv_icmp_ge (tgt := 54) hx hb dX8_decided_35 (by decide) (fun c_35 => ?_) (fun c_35 => absurd (nI_le (a := 25) (by omega) (by omega)) c_35)
      refine lv_iload_n hx hb dX8_decided_54 rfl (lv_at hl 3 rfl) ?_
      refine lv_bipush (v := 25) hx hb dX8_decided_55 (by decide) ?_
      refine lv_icmp_ne (tgt := 64) hx hb dX8_decided_57 (by decide) (fun c_57 => ?_) (fun c_57 => ?_)
      · skip
        refine lv_iload_n hx hb dX8_decided_64 rfl (lv_at hl 3 rfl) ?_
        exact W.iret (v := nI p) hx hb hr (fun t ht hW => ⟨⟨_, wM y h q 0 pn ki on ot ab be zA zB zC zD zF zT fo lw hg at_ tl th wo wl wh is_ lo_ hi_ di su an, rfl, ⟨congrArg (fun z => some (Value.int z)) (by rw [← hF]; show _ = dcR p; simp only [dcR, if_neg c_57]), rfl⟩, rfl, by rw [ht]; exact hP⟩, by rw [← hAe]; exact hS.F ht⟩) (by rw [← hAe]; exact hS.2.2) dX8_decided_65
      · skip
        refine lv_iconst (v := -1) hx hb dX8_decided_60 (by decide) ?_
        refine lv_goto (tgt := 65) hx hb dX8_decided_61 (by decide) ?_
        exact W.iret (v := -1) hx hb hr (fun t ht hW => ⟨⟨_, wM y h q 0 pn ki on ot ab be zA zB zC zD zF zT fo lw hg at_ tl th wo wl wh is_ lo_ hi_ di su an, rfl, ⟨congrArg (fun z => some (Value.int z)) (by rw [← hF]; show _ = dcR p; simp only [dcR, if_pos c_57]), rfl⟩, rfl, by rw [ht]; exact hP⟩, by rw [← hAe]; exact hS.F ht⟩) (by rw [← hAe]; exact hS.2.2) dX8_decided_65
    | succ n ih32 =>
      intro p hpn2 hF H locs hP hD hS ls hl
      refine lv_iload_n hx hb dX8_decided_32 rfl (lv_at hl 3 rfl) ?_
      refine lv_bipush (v := 25) hx hb dX8_decided_33 (by decide) ?_
      refine lv_icmp_ge (tgt := 54) hx hb dX8_decided_35 (by decide) (fun c_35 => absurd c_35 (nI_ge (b := 25) (by omega) (by omega))) (fun c_35 => ?_)
      refine lv_aload_n hx hb dX8_decided_38 rfl (lv_at hl 0 rfl) ?_
      refine lv_iload_n hx hb dX8_decided_39 rfl (lv_at hl 1 rfl) ?_
      refine lv_iload_n hx hb dX8_decided_40 rfl (lv_at hl 2 rfl) ?_
      refine lv_iload_n hx hb dX8_decided_41 rfl (lv_at hl 3 rfl) ?_
      refine g_callR (v0 := .int (sp_X8_answer at_ tl th k j p)) (va_runV (As := [.int (nI k), .int (nI j), .int (nI p)]) (rest := []) ⟨hx, hb, hml, hown, hts⟩ (c_X8_answer l D y H.size h q 0 pn ki on ot ab be zA zB zC zD zF zT fo lw hg at_ tl th wo wl wh is_ lo_ hi_ di su an k j p (by omega) (by omega) (by omega)) (cwV 3 hts gX8_decided_X8_answer rfl rfl rfl (by decide +kernel) ⟨Nat.le_of_ble_eq_true rfl, Nat.le_of_ble_eq_true rfl⟩) (gP_VA hP hD hK 0 rfl rfl) rfl rfl hl.1 rfl (lv_room (Nat.le_of_ble_eq_true rfl)) dX8_decided_42 ⟨Nat.zero_le _, Nat.zero_le _⟩) ?_
      refine lv_if_ne (tgt := 54) hx hb dX8_decided_45 (by decide) (fun c_45 => ?_) (fun c_45 => ?_)
      · skip
        refine lv_iload_n hx hb dX8_decided_54 rfl (lv_at hl 3 rfl) ?_
        refine lv_bipush (v := 25) hx hb dX8_decided_55 (by decide) ?_
        refine lv_icmp_ne (tgt := 64) hx hb dX8_decided_57 (by decide) (fun c_57 => ?_) (fun c_57 => ?_)
        · skip
          refine lv_iload_n hx hb dX8_decided_64 rfl (lv_at hl 3 rfl) ?_
          exact W.iret (v := nI p) hx hb hr (fun t ht hW => ⟨⟨_, wM y h q 0 pn ki on ot ab be zA zB zC zD zF zT fo lw hg at_ tl th wo wl wh is_ lo_ hi_ di su an, rfl, ⟨congrArg (fun z => some (Value.int z)) (by rw [← hF]; show _ = dcR (if _ then _ else _); rw [if_neg c_45]; simp only [dcR, if_neg c_57]), rfl⟩, rfl, by rw [ht]; exact hP⟩, by rw [← hAe]; exact hS.F ht⟩) (by rw [← hAe]; exact hS.2.2) dX8_decided_65
        · skip
          refine lv_iconst (v := -1) hx hb dX8_decided_60 (by decide) ?_
          refine lv_goto (tgt := 65) hx hb dX8_decided_61 (by decide) ?_
          exact W.iret (v := -1) hx hb hr (fun t ht hW => ⟨⟨_, wM y h q 0 pn ki on ot ab be zA zB zC zD zF zT fo lw hg at_ tl th wo wl wh is_ lo_ hi_ di su an, rfl, ⟨congrArg (fun z => some (Value.int z)) (by rw [← hF]; show _ = dcR (if _ then _ else _); rw [if_neg c_45]; simp only [dcR, if_pos c_57]), rfl⟩, rfl, by rw [ht]; exact hP⟩, by rw [← hAe]; exact hS.F ht⟩) (by rw [← hAe]; exact hS.2.2) dX8_decided_65
      · skip
        refine lv_iinc (v := nI (p + 1)) (lv' := [(3, .int (nI (p + 1))), (0, .ref h), (1, .int (nI k)), (2, .int (nI j))]) hx hb dX8_decided_48 hl (k := 3) rfl (nI_add p 1) (by decide) rfl (fun ls hl => ?_)
        refine lv_goto (tgt := 32) hx hb dX8_decided_51 (by decide) ?_
        exact ih32 (p + 1) (by omega) (by rw [← hF]; show _ = (if _ then _ else _); rw [if_pos c_45]) _ _ hP hD hS ls (lv_sub hl [1, 2, 3, 0] rfl)
  exact LOOP32 25 0 (by omega) (rfl) _ _ hP hD hS ls (lv_sub hl [1, 2, 3, 0] rfl)
def plF (at_ : Nat → Bool) (tl th : Nat → Int64) (k f : Nat) : Nat → Int32 → Int32
  | 0, r => r
  | n + 1, r => plF at_ tl th k f n (if at_ (25 * k + (f + n)) = true then (if jshl 1 (nI (f + n) - nI f) < th (25 * k + (f + n)) - tl (25 * k + (f + n)) then r else nI (f + n)) else r)
theorem gi_m1 (x : Int32) : x + Int32.ofInt (-1) = x - 1 := by
  rw [show Int32.ofInt (-1) = -1 from by decide, Int32.sub_eq_add_neg]
theorem g_pl24 {f : Nat} (h : f < 25) : (24 : Int32) = nI (f + (25 - f)) - 1 := by
  rw [show f + (25 - f) = 25 by omega]
  decide
theorem g_pl0 {f : Nat} (h : f < 25) : nI (f + 0) - 1 < nI f := by
  have h2 : ∀ f : Fin 25, nI (f.val + 0) - 1 < nI f.val := by decide
  exact h2 ⟨f, h⟩
theorem g_plS (f n : Nat) : nI (f + (n + 1)) - 1 = nI (f + n) := nI_pred (f + n)
set_option maxHeartbeats 4000000 in
set_option maxRecDepth 100000 in
theorem c_X8_place_1 (l : Launch) (D : va_G) (y : Nat → ClassId) (sz : Nat) (h : Nat) (q : Nat → Nat) (tw : Int32) (pn : Nat) (ki on ot ab be zA zB zC zD zF zT : Nat → Int32) (fo : Nat → Bool) (lw hg : Nat → Int64) (at_ : Nat → Bool) (tl th : Nat → Int64) (wo : Nat → Bool) (wl wh : Nat → Int64) (is_ : Bool) (lo_ hi_ : Int64) (di : Nat → Int32) (su : Nat → Int64) (an : Nat → Bool) (a b : Int32) (yA : ¬ sp_X8_isProgram pn a = true) : Met l yX8_place wsX8_place ({ frames := 2, cells := 0, slots := 0, locals := 43 } : Room) (gP D y [.ref h, .int a, .int b] (wM y h q tw pn ki on ot ab be zA zB zC zD zF zT fo lw hg at_ tl th wo wl wh is_ lo_ hi_ di su an) sz) (gQ D (wM y h q tw pn ki on ot ab be zA zB zC zD zF zT fo lw hg at_ tl th wo wl wh is_ lo_ hi_ di su an) (gF (some (.int 0)) (wM y h q 1 pn ki on ot ab be zA zB zC zD zF zT fo lw hg at_ tl th wo wl wh is_ lo_ hi_ di su an))) 0 0 (va_A (wM y h q tw pn ki on ot ab be zA zB zC zD zF zT fo lw hg at_ tl th wo wl wh is_ lo_ hi_ di su an) sz) := by
  refine Met.ofW (cc := cX8_place) (maxL := 6) (ret := (some .int)) (by decide) rfl ?_
  intro pg e s m args below meth c s₁ B hml hv
  obtain ⟨rfl, hsz, hP, hK, hD0⟩ := hv
  have hx := B.exec
  have hb := B.bytes
  have hr := B.returns
  have hts := atoms_spec (ws := wsX8_place) B.pre
  have hown : s.vm.findClass RX8 = some m.cls := findClass_of_methodNamed B.named
  have hlocks := B.notSynchronized
  subst hsz
  obtain ⟨A, hAe⟩ : ∃ A : Nat → Prop, A = va_A (wM y h q tw pn ki on ot ab be zA zB zC zD zF zT fo lw hg at_ tl th wo wl wh is_ lo_ hi_ di su an) s.heap.size := ⟨_, rfl⟩
  have hD : va_D A (wM y h q tw pn ki on ot ab be zA zB zC zD zF zT fo lw hg at_ tl th wo wl wh is_ lo_ hi_ di su an) := by rw [hAe]; exact hD0.self (sz := s.heap.size)
  have hA : ∀ q : Nat, s.heap.size ≤ q → A q := fun q h => by rw [hAe]; exact Or.inr h
  have hS : va_S A s.heap s.heap [] := va_S.rf
  have hl := lv_entry ([.ref h, .int a, .int b]) (n := 6) (Nat.le_of_ble_eq_true rfl)
  rw [lg_entry_eq]
  generalize (lg_sl ([.ref h, .int a, .int b]) ++ List.replicate (6 - (lg_sl ([.ref h, .int a, .int b])).length) Slot.unset).toArray = ls at hl ⊢
  have hl : lv_has ls 6 [(0, .ref h), (1, .int a), (2, .int b)] := hl
  refine lv_aload_n hx hb dX8_place_0 rfl (lv_at hl 0 rfl) ?_
  refine lv_aload_n hx hb dX8_place_1 rfl (lv_at hl 0 rfl) ?_
  refine lv_iload_n hx hb dX8_place_2 rfl (lv_at hl 1 rfl) ?_
  refine g_callR (v0 := .int (gB (sp_X8_isProgram pn a))) (va_runV (As := [.int a]) (rest := [.ref h]) ⟨hx, hb, hml, hown, hts⟩ (c_X8_isProgram l D y s.heap.size h q tw pn ki on ot ab be zA zB zC zD zF zT fo lw hg at_ tl th wo wl wh is_ lo_ hi_ di su an a) (cwV 1 hts gX8_place_X8_isProgram rfl rfl rfl (by decide +kernel) ⟨Nat.le_of_ble_eq_true rfl, Nat.le_of_ble_eq_true rfl⟩) (gP_VA hP hD hK 0 rfl rfl) rfl rfl hl.1 rfl (lv_room (Nat.le_of_ble_eq_true rfl)) dX8_place_3 ⟨Nat.zero_le _, Nat.zero_le _⟩) ?_
  refine g_bne (tgt := 13) hx hb dX8_place_6 (by decide) (fun c_6 => absurd c_6 yA) (fun c_6 => ?_)
  refine lv_iconst (v := 1) hx hb dX8_place_9 (by decide) ?_
  refine lv_goto (tgt := 25) hx hb dX8_place_10 (by decide) ?_
  refine g_callA1 (v0 := .int (gB (sp_X8_holds 1))) (w0 := wM y h q 1 pn ki on ot ab be zA zB zC zD zF zT fo lw hg at_ tl th wo wl wh is_ lo_ hi_ di su an) (va_runV (As := [.int 1]) (rest := []) ⟨hx, hb, hml, hown, hts⟩ (c_X8_holds l D y s.heap.size h q tw pn ki on ot ab be zA zB zC zD zF zT fo lw hg at_ tl th wo wl wh is_ lo_ hi_ di su an 1) (cwV 1 hts gX8_place_X8_holds rfl rfl rfl (by decide +kernel) ⟨Nat.le_of_ble_eq_true rfl, Nat.le_of_ble_eq_true rfl⟩) (gP_VA hP hD hK 0 rfl rfl) rfl rfl hl.1 rfl (lv_room (Nat.le_of_ble_eq_true rfl)) dX8_place_25 ⟨Nat.zero_le _, Nat.zero_le _⟩) hP hD hS hA rfl (fun H locs hP hD hS => ?_)
  refine g_bne (tgt := 33) hx hb dX8_place_28 (by decide) (fun c_28 => absurd c_28 (by decide)) (fun c_28 => ?_)
  refine lv_iconst (v := 0) hx hb dX8_place_31 (by decide) ?_
  exact W.iret (v := 0) hx hb hr (fun t ht hW => ⟨⟨_, wM y h q 1 pn ki on ot ab be zA zB zC zD zF zT fo lw hg at_ tl th wo wl wh is_ lo_ hi_ di su an, rfl, ⟨congrArg (fun z => some (Value.int z)) (rfl), rfl⟩, rfl, by rw [ht]; exact hP⟩, by rw [← hAe]; exact hS.F ht⟩) (by rw [← hAe]; exact hS.2.2) dX8_place_32
set_option maxHeartbeats 4000000 in
set_option maxRecDepth 100000 in
theorem c_X8_place_2 (l : Launch) (D : va_G) (y : Nat → ClassId) (sz : Nat) (h : Nat) (q : Nat → Nat) (tw : Int32) (pn : Nat) (ki on ot ab be zA zB zC zD zF zT : Nat → Int32) (fo : Nat → Bool) (lw hg : Nat → Int64) (at_ : Nat → Bool) (tl th : Nat → Int64) (wo : Nat → Bool) (wl wh : Nat → Int64) (is_ : Bool) (lo_ hi_ : Int64) (di : Nat → Int32) (su : Nat → Int64) (an : Nat → Bool) (k : Nat) (b : Int32) (hpn : pn ≤ 40) (hk : k < pn) (yP : ¬ sp_X8_isPlace b = true) : Met l yX8_place wsX8_place ({ frames := 2, cells := 0, slots := 0, locals := 43 } : Room) (gP D y [.ref h, .int (nI k), .int b] (wM y h q tw pn ki on ot ab be zA zB zC zD zF zT fo lw hg at_ tl th wo wl wh is_ lo_ hi_ di su an) sz) (gQ D (wM y h q tw pn ki on ot ab be zA zB zC zD zF zT fo lw hg at_ tl th wo wl wh is_ lo_ hi_ di su an) (gF (some (.int 0)) (wM y h q 2 pn ki on ot ab be zA zB zC zD zF zT fo lw hg at_ tl th wo wl wh is_ lo_ hi_ di su an))) 0 0 (va_A (wM y h q tw pn ki on ot ab be zA zB zC zD zF zT fo lw hg at_ tl th wo wl wh is_ lo_ hi_ di su an) sz) := by
  refine Met.ofW (cc := cX8_place) (maxL := 6) (ret := (some .int)) (by decide) rfl ?_
  intro pg e s m args below meth c s₁ B hml hv
  obtain ⟨rfl, hsz, hP, hK, hD0⟩ := hv
  have hx := B.exec
  have hb := B.bytes
  have hr := B.returns
  have hts := atoms_spec (ws := wsX8_place) B.pre
  have hown : s.vm.findClass RX8 = some m.cls := findClass_of_methodNamed B.named
  have hlocks := B.notSynchronized
  subst hsz
  obtain ⟨A, hAe⟩ : ∃ A : Nat → Prop, A = va_A (wM y h q tw pn ki on ot ab be zA zB zC zD zF zT fo lw hg at_ tl th wo wl wh is_ lo_ hi_ di su an) s.heap.size := ⟨_, rfl⟩
  have hD : va_D A (wM y h q tw pn ki on ot ab be zA zB zC zD zF zT fo lw hg at_ tl th wo wl wh is_ lo_ hi_ di su an) := by rw [hAe]; exact hD0.self (sz := s.heap.size)
  have hA : ∀ q : Nat, s.heap.size ≤ q → A q := fun q h => by rw [hAe]; exact Or.inr h
  have hS : va_S A s.heap s.heap [] := va_S.rf
  have hl := lv_entry ([.ref h, .int (nI k), .int b]) (n := 6) (Nat.le_of_ble_eq_true rfl)
  rw [lg_entry_eq]
  generalize (lg_sl ([.ref h, .int (nI k), .int b]) ++ List.replicate (6 - (lg_sl ([.ref h, .int (nI k), .int b])).length) Slot.unset).toArray = ls at hl ⊢
  have hl : lv_has ls 6 [(0, .ref h), (1, .int (nI k)), (2, .int b)] := hl
  refine lv_aload_n hx hb dX8_place_0 rfl (lv_at hl 0 rfl) ?_
  refine lv_aload_n hx hb dX8_place_1 rfl (lv_at hl 0 rfl) ?_
  refine lv_iload_n hx hb dX8_place_2 rfl (lv_at hl 1 rfl) ?_
  refine g_callR (v0 := .int (gB (sp_X8_isProgram pn (nI k)))) (va_runV (As := [.int (nI k)]) (rest := [.ref h]) ⟨hx, hb, hml, hown, hts⟩ (c_X8_isProgram l D y s.heap.size h q tw pn ki on ot ab be zA zB zC zD zF zT fo lw hg at_ tl th wo wl wh is_ lo_ hi_ di su an (nI k)) (cwV 1 hts gX8_place_X8_isProgram rfl rfl rfl (by decide +kernel) ⟨Nat.le_of_ble_eq_true rfl, Nat.le_of_ble_eq_true rfl⟩) (gP_VA hP hD hK 0 rfl rfl) rfl rfl hl.1 rfl (lv_room (Nat.le_of_ble_eq_true rfl)) dX8_place_3 ⟨Nat.zero_le _, Nat.zero_le _⟩) ?_
  refine g_bne (tgt := 13) hx hb dX8_place_6 (by decide) (fun c_6 => ?_) (fun c_6 => absurd (g_isP hk hpn) c_6)
  refine lv_iload_n hx hb dX8_place_13 rfl (lv_at hl 2 rfl) ?_
  refine g_callR (v0 := .int (gB (sp_X8_isPlace b))) (va_runS (As := [.int b]) (rest := [.ref h]) ⟨hx, hb, hml, hown, hts⟩ (c_X8_isPlace l D y s.heap.size b) (va_cwS 1 hts gX8_place_X8_isPlace rfl rfl rfl (by decide +kernel) ⟨Nat.le_of_ble_eq_true rfl, Nat.le_of_ble_eq_true rfl⟩) (gP_S hP hD hK [] (by decide) rfl) rfl rfl hl.1 rfl (lv_room (Nat.le_of_ble_eq_true rfl)) dX8_place_14 ⟨Nat.zero_le _, Nat.zero_le _⟩) ?_
  refine g_beq (tgt := 24) hx hb dX8_place_17 (by decide) (fun c_17 => ?_) (fun c_17 => absurd c_17 yP)
  refine lv_iconst (v := 2) hx hb dX8_place_24 (by decide) ?_
  refine g_callA1 (v0 := .int (gB (sp_X8_holds 2))) (w0 := wM y h q 2 pn ki on ot ab be zA zB zC zD zF zT fo lw hg at_ tl th wo wl wh is_ lo_ hi_ di su an) (va_runV (As := [.int 2]) (rest := []) ⟨hx, hb, hml, hown, hts⟩ (c_X8_holds l D y s.heap.size h q tw pn ki on ot ab be zA zB zC zD zF zT fo lw hg at_ tl th wo wl wh is_ lo_ hi_ di su an 2) (cwV 1 hts gX8_place_X8_holds rfl rfl rfl (by decide +kernel) ⟨Nat.le_of_ble_eq_true rfl, Nat.le_of_ble_eq_true rfl⟩) (gP_VA hP hD hK 0 rfl rfl) rfl rfl hl.1 rfl (lv_room (Nat.le_of_ble_eq_true rfl)) dX8_place_25 ⟨Nat.zero_le _, Nat.zero_le _⟩) hP hD hS hA rfl (fun H locs hP hD hS => ?_)
  refine g_bne (tgt := 33) hx hb dX8_place_28 (by decide) (fun c_28 => absurd c_28 (by decide)) (fun c_28 => ?_)
  refine lv_iconst (v := 0) hx hb dX8_place_31 (by decide) ?_
  exact W.iret (v := 0) hx hb hr (fun t ht hW => ⟨⟨_, wM y h q 2 pn ki on ot ab be zA zB zC zD zF zT fo lw hg at_ tl th wo wl wh is_ lo_ hi_ di su an, rfl, ⟨congrArg (fun z => some (Value.int z)) (rfl), rfl⟩, rfl, by rw [ht]; exact hP⟩, by rw [← hAe]; exact hS.F ht⟩) (by rw [← hAe]; exact hS.2.2) dX8_place_32
theorem in_X8_place_X8 : ∀ w ∈ wsX80, w ∈ wsX8_place := fun _ h => List.mem_cons_of_mem _ (List.mem_append_right _ h)
set_option maxHeartbeats 4000000 in
set_option maxRecDepth 100000 in
theorem c_X8_place_0 (l : Launch) (D : va_G) (y : Nat → ClassId) (sz : Nat) (h : Nat) (q : Nat → Nat) (tw : Int32) (pn : Nat) (ki on ot ab be zA zB zC zD zF zT : Nat → Int32) (fo : Nat → Bool) (lw hg : Nat → Int64) (at_ : Nat → Bool) (tl th : Nat → Int64) (wo : Nat → Bool) (wl wh : Nat → Int64) (is_ : Bool) (lo_ hi_ : Int64) (di : Nat → Int32) (su : Nat → Int64) (an : Nat → Bool) (k f : Nat) (hpn : pn ≤ 40) (hk : k < pn) (hp : f < 25) : Met l yX8_place wsX8_place ({ frames := 2, cells := 0, slots := 0, locals := 43 } : Room) (gP D y [.ref h, .int (nI k), .int (nI f)] (wM y h q tw pn ki on ot ab be zA zB zC zD zF zT fo lw hg at_ tl th wo wl wh is_ lo_ hi_ di su an) sz) (gQ D (wM y h q tw pn ki on ot ab be zA zB zC zD zF zT fo lw hg at_ tl th wo wl wh is_ lo_ hi_ di su an) (gF (some (.int (plF at_ tl th k f (25 - f) (-1)))) (wM y h q 0 pn ki on ot ab be zA zB zC zD zF zT fo lw hg at_ tl th wo wl wh is_ lo_ hi_ di su an))) 0 0 (va_A (wM y h q tw pn ki on ot ab be zA zB zC zD zF zT fo lw hg at_ tl th wo wl wh is_ lo_ hi_ di su an) sz) := by
  refine Met.ofW (cc := cX8_place) (maxL := 6) (ret := (some .int)) (by decide) rfl ?_
  intro pg e s m args below meth c s₁ B hml hv
  obtain ⟨rfl, hsz, hP, hK, hD0⟩ := hv
  have hx := B.exec
  have hb := B.bytes
  have hr := B.returns
  have hts := atoms_spec (ws := wsX8_place) B.pre
  have hown : s.vm.findClass RX8 = some m.cls := findClass_of_methodNamed B.named
  have hlocks := B.notSynchronized
  subst hsz
  obtain ⟨A, hAe⟩ : ∃ A : Nat → Prop, A = va_A (wM y h q tw pn ki on ot ab be zA zB zC zD zF zT fo lw hg at_ tl th wo wl wh is_ lo_ hi_ di su an) s.heap.size := ⟨_, rfl⟩
  have hD : va_D A (wM y h q tw pn ki on ot ab be zA zB zC zD zF zT fo lw hg at_ tl th wo wl wh is_ lo_ hi_ di su an) := by rw [hAe]; exact hD0.self (sz := s.heap.size)
  have hA : ∀ q : Nat, s.heap.size ≤ q → A q := fun q h => by rw [hAe]; exact Or.inr h
  have hS : va_S A s.heap s.heap [] := va_S.rf
  have hl := lv_entry ([.ref h, .int (nI k), .int (nI f)]) (n := 6) (Nat.le_of_ble_eq_true rfl)
  rw [lg_entry_eq]
  generalize (lg_sl ([.ref h, .int (nI k), .int (nI f)]) ++ List.replicate (6 - (lg_sl ([.ref h, .int (nI k), .int (nI f)])).length) Slot.unset).toArray = ls at hl ⊢
  have hl : lv_has ls 6 [(0, .ref h), (1, .int (nI k)), (2, .int (nI f))] := hl
  refine lv_aload_n hx hb dX8_place_0 rfl (lv_at hl 0 rfl) ?_
  refine lv_aload_n hx hb dX8_place_1 rfl (lv_at hl 0 rfl) ?_
  refine lv_iload_n hx hb dX8_place_2 rfl (lv_at hl 1 rfl) ?_
  refine g_callR (v0 := .int (gB (sp_X8_isProgram pn (nI k)))) (va_runV (As := [.int (nI k)]) (rest := [.ref h]) ⟨hx, hb, hml, hown, hts⟩ (c_X8_isProgram l D y s.heap.size h q tw pn ki on ot ab be zA zB zC zD zF zT fo lw hg at_ tl th wo wl wh is_ lo_ hi_ di su an (nI k)) (cwV 1 hts gX8_place_X8_isProgram rfl rfl rfl (by decide +kernel) ⟨Nat.le_of_ble_eq_true rfl, Nat.le_of_ble_eq_true rfl⟩) (gP_VA hP hD hK 0 rfl rfl) rfl rfl hl.1 rfl (lv_room (Nat.le_of_ble_eq_true rfl)) dX8_place_3 ⟨Nat.zero_le _, Nat.zero_le _⟩) ?_
  refine g_bne (tgt := 13) hx hb dX8_place_6 (by decide) (fun c_6 => ?_) (fun c_6 => absurd (g_isP hk hpn) c_6)
  refine lv_iload_n hx hb dX8_place_13 rfl (lv_at hl 2 rfl) ?_
  refine g_callR (v0 := .int (gB (sp_X8_isPlace (nI f)))) (va_runS (As := [.int (nI f)]) (rest := [.ref h]) ⟨hx, hb, hml, hown, hts⟩ (c_X8_isPlace l D y s.heap.size (nI f)) (va_cwS 1 hts gX8_place_X8_isPlace rfl rfl rfl (by decide +kernel) ⟨Nat.le_of_ble_eq_true rfl, Nat.le_of_ble_eq_true rfl⟩) (gP_S hP hD hK [] (by decide) rfl) rfl rfl hl.1 rfl (lv_room (Nat.le_of_ble_eq_true rfl)) dX8_place_14 ⟨Nat.zero_le _, Nat.zero_le _⟩) ?_
  refine g_beq (tgt := 24) hx hb dX8_place_17 (by decide) (fun c_17 => absurd (g_isPl hp) c_17) (fun c_17 => ?_)
  refine lv_iconst (v := 0) hx hb dX8_place_20 (by decide) ?_
  refine lv_goto (tgt := 25) hx hb dX8_place_21 (by decide) ?_
  refine g_callA1 (v0 := .int (gB (sp_X8_holds 0))) (w0 := wM y h q 0 pn ki on ot ab be zA zB zC zD zF zT fo lw hg at_ tl th wo wl wh is_ lo_ hi_ di su an) (va_runV (As := [.int 0]) (rest := []) ⟨hx, hb, hml, hown, hts⟩ (c_X8_holds l D y s.heap.size h q tw pn ki on ot ab be zA zB zC zD zF zT fo lw hg at_ tl th wo wl wh is_ lo_ hi_ di su an 0) (cwV 1 hts gX8_place_X8_holds rfl rfl rfl (by decide +kernel) ⟨Nat.le_of_ble_eq_true rfl, Nat.le_of_ble_eq_true rfl⟩) (gP_VA hP hD hK 0 rfl rfl) rfl rfl hl.1 rfl (lv_room (Nat.le_of_ble_eq_true rfl)) dX8_place_25 ⟨Nat.zero_le _, Nat.zero_le _⟩) hP hD hS hA rfl (fun H locs hP hD hS => ?_)
  refine g_bne (tgt := 33) hx hb dX8_place_28 (by decide) (fun c_28 => ?_) (fun c_28 => absurd (by decide) c_28)
  refine lv_iconst (v := -1) hx hb dX8_place_33 (by decide) ?_
  refine lv_istore_n (lv' := [(3, .int (-1)), (0, .ref h), (1, .int (nI k)), (2, .int (nI f))]) hx hb dX8_place_34 rfl hl (by decide) rfl (fun ls hl => ?_)
  refine lv_bipush (v := 24) hx hb dX8_place_35 (by decide) ?_
  refine g_topi (y := nI (f + (25 - f)) - 1) (g_pl24 hp) ?_
  refine lv_istore (lv' := [(4, .int (nI (f + (25 - f)) - 1)), (3, .int (-1)), (0, .ref h), (1, .int (nI k)), (2, .int (nI f))]) hx hb dX8_place_37 hl (by decide) rfl (fun ls hl => ?_)
  have LOOP39 : ∀ (n : Nat) (r : Int32), (f + n ≤ 25) → (plF at_ tl th k f n r = plF at_ tl th k f (25 - f) (-1)) → ∀ (H : Heap) (locs : List Loc), va_P D vwCl (wM y h q 0 pn ki on ot ab be zA zB zC zD zF zT fo lw hg at_ tl th wo wl wh is_ lo_ hi_ di su an) H → va_D A (wM y h q 0 pn ki on ot ab be zA zB zC zD zF zT fo lw hg at_ tl th wo wl wh is_ lo_ hi_ di su an) → va_S A s.heap H locs → ∀ (ls : Array Slot), lv_has ls 6 [(0, .ref h), (1, .int (nI k)), (2, .int (nI f)), (3, .int r), (4, .int (nI (f + n) - 1))] → W pg l e (headSpec wsX8_place ({ frames := 2, cells := 0, slots := 0, locals := 43 } : Room)).room s m (([.ref h, .int (nI k), .int (nI f)] : List Value).toArray) below meth c H locs 0 0 (MQ below (gQ D (wM y h q tw pn ki on ot ab be zA zB zC zD zF zT fo lw hg at_ tl th wo wl wh is_ lo_ hi_ di su an) (gF (some (.int (plF at_ tl th k f (25 - f) (-1)))) (wM y h q 0 pn ki on ot ab be zA zB zC zD zF zT fo lw hg at_ tl th wo wl wh is_ lo_ hi_ di su an))) (([.ref h, .int (nI k), .int (nI f)] : List Value).toArray) s 0 0 (va_A (wM y h q tw pn ki on ot ab be zA zB zC zD zF zT fo lw hg at_ tl th wo wl wh is_ lo_ hi_ di su an) s.heap.size)) (F0 m 39 ls []) := by
    intro n
    induction n with
    | zero =>
      intro r hn hF H locs hP hD hS ls hl
      refine lv_iload hx hb dX8_place_39 (lv_at hl 4 rfl) ?_
      refine lv_iload_n hx hb dX8_place_41 rfl (lv_at hl 2 rfl) ?_
      refine lv_icmp_lt (tgt := 102) hx hb dX8_place_42 (by decide) (fun c_42 => ?_) (fun c_42 => absurd (g_pl0 hp) c_42)
      refine lv_iload_n hx hb dX8_place_102 rfl (lv_at hl 3 rfl) ?_
      exact W.iret (v := r) hx hb hr (fun t ht hW => ⟨⟨_, wM y h q 0 pn ki on ot ab be zA zB zC zD zF zT fo lw hg at_ tl th wo wl wh is_ lo_ hi_ di su an, rfl, ⟨congrArg (fun z => some (Value.int z)) (hF), rfl⟩, rfl, by rw [ht]; exact hP⟩, by rw [← hAe]; exact hS.F ht⟩) (by rw [← hAe]; exact hS.2.2) dX8_place_103
    | succ n ih39 =>
      intro r hn hF H locs hP hD hS ls hl
      rw [g_plS] at hl
      refine lv_iload hx hb dX8_place_39 (lv_at hl 4 rfl) ?_
      refine lv_iload_n hx hb dX8_place_41 rfl (lv_at hl 2 rfl) ?_
      refine lv_icmp_lt (tgt := 102) hx hb dX8_place_42 (by decide) (fun c_42 => absurd c_42 (nI_nlt (by omega) (by omega))) (fun c_42 => ?_)
      refine lv_bipush (v := 25) hx hb dX8_place_45 (by decide) ?_
      refine lv_iload_n hx hb dX8_place_47 rfl (lv_at hl 1 rfl) ?_
      refine lv_imul hx hb dX8_place_48 ?_
      refine g_topi (pk_mul 25 k) ?_
      refine lv_iload hx hb dX8_place_49 (lv_at hl 4 rfl) ?_
      refine lv_iadd hx hb dX8_place_51 ?_
      refine g_topi (nI_add (25 * k) (f + n)) ?_
      refine lv_istore (lv' := [(5, .int (nI ((25 * k) + (f + n)))), (0, .ref h), (1, .int (nI k)), (2, .int (nI f)), (3, .int r), (4, .int (nI (f + n)))]) hx hb dX8_place_52 hl (by decide) rfl (fun ls hl => ?_)
      refine lv_aload_n hx hb dX8_place_54 rfl (lv_at hl 1 rfl) ?_
      refine va_get (D := D) (ci := 6) (v := .ref (q 16)) (C := RX8) (T := TX8) (N := 28) hx hb hts in_X8_place_X8 hown hK.1 hP 0 rfl rfl 16 (by decide) (hts (.fieldLink RX8 54 "NestlimitModel" "areTold" "[Z") (List.mem_of_getElem? (i := 1) rfl)) (fun _ h9 => h9) rfl dX8_place_55 ?_
      refine lv_iload hx hb dX8_place_58 (lv_at hl 0 rfl) ?_
      refine g_zald (k := (25 * k) + (f + n)) hx hb hK.1 hP 15 2 rfl rfl (by omega) (by decide) dX8_place_60 ?_
      refine g_beq (tgt := 94) hx hb dX8_place_61 (by decide) (fun c_61 => ?_) (fun c_61 => ?_)
      · skip
        refine lv_iload_n hx hb dX8_place_94 rfl (lv_at hl 4 rfl) ?_
        refine lv_istore_n (lv' := [(3, .int r), (5, .int (nI ((25 * k) + (f + n)))), (0, .ref h), (1, .int (nI k)), (2, .int (nI f)), (4, .int (nI (f + n)))]) hx hb dX8_place_95 rfl hl (by decide) rfl (fun ls hl => ?_)
        refine lv_iinc (v := nI (f + n) - 1) (lv' := [(4, .int (nI (f + n) - 1)), (3, .int r), (5, .int (nI ((25 * k) + (f + n)))), (0, .ref h), (1, .int (nI k)), (2, .int (nI f))]) hx hb dX8_place_96 hl (k := 5) rfl (gi_m1 _) (by decide) rfl (fun ls hl => ?_)
        refine lv_goto (tgt := 39) hx hb dX8_place_99 (by decide) ?_
        exact ih39 r (by omega) (by rw [← hF]; show _ = plF at_ tl th k f n (if _ then _ else _); simp only [if_neg c_61]) _ _ hP hD hS ls (lv_sub hl [3, 4, 5, 1, 0] rfl)
      · skip
        refine lv_aload_n hx hb dX8_place_64 rfl (lv_at hl 1 rfl) ?_
        refine va_get (D := D) (ci := 6) (v := .ref (q 18)) (C := RX8) (T := TX8) (N := 28) hx hb hts in_X8_place_X8 hown hK.1 hP 0 rfl rfl 18 (by decide) (hts (.fieldLink RX8 60 "NestlimitModel" "toldHigh" "[J") (List.mem_of_getElem? (i := 2) rfl)) (fun _ h9 => h9) rfl dX8_place_65 ?_
        refine lv_iload hx hb dX8_place_68 (lv_at hl 0 rfl) ?_
        refine g_lald (k := (25 * k) + (f + n)) hx hb hK.1 hP 17 1 rfl rfl (by omega) (by decide) dX8_place_70 ?_
        refine lv_aload_n hx hb dX8_place_71 rfl (lv_at hl 1 rfl) ?_
        refine va_get (D := D) (ci := 6) (v := .ref (q 17)) (C := RX8) (T := TX8) (N := 28) hx hb hts in_X8_place_X8 hown hK.1 hP 0 rfl rfl 17 (by decide) (hts (.fieldLink RX8 57 "NestlimitModel" "toldLow" "[J") (List.mem_of_getElem? (i := 3) rfl)) (fun _ h9 => h9) rfl dX8_place_72 ?_
        refine lv_iload hx hb dX8_place_75 (lv_at hl 0 rfl) ?_
        refine g_lald (k := (25 * k) + (f + n)) hx hb hK.1 hP 16 1 rfl rfl (by omega) (by decide) dX8_place_77 ?_
        refine lv_lsub hx hb dX8_place_78 ?_
        refine lv_lconst (v := 1) hx hb dX8_place_79 (by decide) ?_
        refine lv_iload hx hb dX8_place_80 (lv_at hl 5 rfl) ?_
        refine lv_iload_n hx hb dX8_place_82 rfl (lv_at hl 3 rfl) ?_
        refine lv_isub hx hb dX8_place_83 ?_
        refine lv_lshl (v := jshl 1 ((nI (f + n)) - (nI f))) hx hb dX8_place_84 rfl ?_
        refine g_gt (tgt := 94) hx hb dX8_place_85 dX8_place_86 (by decide) (fun c_85 => ?_) (fun c_85 => ?_)
        · skip
          refine lv_iload_n hx hb dX8_place_94 rfl (lv_at hl 4 rfl) ?_
          refine lv_istore_n (lv' := [(3, .int r), (5, .int (nI ((25 * k) + (f + n)))), (0, .ref h), (1, .int (nI k)), (2, .int (nI f)), (4, .int (nI (f + n)))]) hx hb dX8_place_95 rfl hl (by decide) rfl (fun ls hl => ?_)
          refine lv_iinc (v := nI (f + n) - 1) (lv' := [(4, .int (nI (f + n) - 1)), (3, .int r), (5, .int (nI ((25 * k) + (f + n)))), (0, .ref h), (1, .int (nI k)), (2, .int (nI f))]) hx hb dX8_place_96 hl (k := 5) rfl (gi_m1 _) (by decide) rfl (fun ls hl => ?_)
          refine lv_goto (tgt := 39) hx hb dX8_place_99 (by decide) ?_
          exact ih39 r (by omega) (by rw [← hF]; show _ = plF at_ tl th k f n (if _ then _ else _); simp only [if_pos c_61, if_pos c_85]) _ _ hP hD hS ls (lv_sub hl [3, 4, 5, 1, 0] rfl)
        · skip
          refine lv_iload hx hb dX8_place_89 (lv_at hl 5 rfl) ?_
          refine lv_goto (tgt := 95) hx hb dX8_place_91 (by decide) ?_
          refine lv_istore_n (lv' := [(3, .int (nI (f + n))), (5, .int (nI ((25 * k) + (f + n)))), (0, .ref h), (1, .int (nI k)), (2, .int (nI f)), (4, .int (nI (f + n)))]) hx hb dX8_place_95 rfl hl (by decide) rfl (fun ls hl => ?_)
          refine lv_iinc (v := nI (f + n) - 1) (lv' := [(4, .int (nI (f + n) - 1)), (3, .int (nI (f + n))), (5, .int (nI ((25 * k) + (f + n)))), (0, .ref h), (1, .int (nI k)), (2, .int (nI f))]) hx hb dX8_place_96 hl (k := 5) rfl (gi_m1 _) (by decide) rfl (fun ls hl => ?_)
          refine lv_goto (tgt := 39) hx hb dX8_place_99 (by decide) ?_
          exact ih39 (nI (f + n)) (by omega) (by rw [← hF]; show _ = plF at_ tl th k f n (if _ then _ else _); simp only [if_pos c_61, if_neg c_85]) _ _ hP hD hS ls (lv_sub hl [3, 4, 5, 1, 0] rfl)
  exact LOOP39 (25 - f) (-1) (by omega) (rfl) _ _ hP hD hS ls (lv_sub hl [2, 3, 4, 1, 0] rfl)
