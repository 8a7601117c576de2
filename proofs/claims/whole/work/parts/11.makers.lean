theorem g_n40 {n : Nat} (h : n < 40) : ¬ nI n = 40 := by
  intro z
  have h2 := (nI_eq (a := n) (b := 40) (by omega) (by omega)).mp z
  omega
set_option maxHeartbeats 4000000 in
set_option maxRecDepth 100000 in
theorem c_X8_ratio_1 (l : Launch) (D : va_G) (y : Nat → ClassId) (sz : Nat) (h : Nat) (q : Nat → Nat) (tw : Int32) (pn : Nat) (ki on ot ab be zA zB zC zD zF zT : Nat → Int32) (fo : Nat → Bool) (lw hg : Nat → Int64) (at_ : Nat → Bool) (tl th : Nat → Int64) (wo : Nat → Bool) (wl wh : Nat → Int64) (is_ : Bool) (lo_ hi_ : Int64) (di : Nat → Int32) (su : Nat → Int64) (an : Nat → Bool) (a b : Int32) (hbad : ¬ (sp_X8_in a (-1000) 1000 = true ∧ sp_X8_in b 1 1000 = true)) : Met l yX8_ratio wsX8_ratio ({ frames := 1, cells := 0, slots := 0, locals := 22 } : Room) (gP D y [.ref h, .int a, .int b] (wM y h q tw pn ki on ot ab be zA zB zC zD zF zT fo lw hg at_ tl th wo wl wh is_ lo_ hi_ di su an) sz) (gQ D (wM y h q tw pn ki on ot ab be zA zB zC zD zF zT fo lw hg at_ tl th wo wl wh is_ lo_ hi_ di su an) (gF (some (.int 0)) (wM y h q 1 pn ki on ot ab be zA zB zC zD zF zT fo lw hg at_ tl th wo wl wh is_ lo_ hi_ di su an))) 0 0 (va_A (wM y h q tw pn ki on ot ab be zA zB zC zD zF zT fo lw hg at_ tl th wo wl wh is_ lo_ hi_ di su an) sz) := by
  refine Met.ofW (cc := cX8_ratio) (maxL := 4) (ret := (some .int)) (by decide) rfl ?_
  intro pg e s m args below meth c s₁ B hml hv
  obtain ⟨rfl, hsz, hP, hK, hD0⟩ := hv
  have hx := B.exec
  have hb := B.bytes
  have hr := B.returns
  have hts := atoms_spec (ws := wsX8_ratio) B.pre
  have hown : s.vm.findClass RX8 = some m.cls := findClass_of_methodNamed B.named
  have hlocks := B.notSynchronized
  subst hsz
  obtain ⟨A, hAe⟩ : ∃ A : Nat → Prop, A = va_A (wM y h q tw pn ki on ot ab be zA zB zC zD zF zT fo lw hg at_ tl th wo wl wh is_ lo_ hi_ di su an) s.heap.size := ⟨_, rfl⟩
  have hD : va_D A (wM y h q tw pn ki on ot ab be zA zB zC zD zF zT fo lw hg at_ tl th wo wl wh is_ lo_ hi_ di su an) := by rw [hAe]; exact hD0.self (sz := s.heap.size)
  have hA : ∀ q : Nat, s.heap.size ≤ q → A q := fun q h => by rw [hAe]; exact Or.inr h
  have hS : va_S A s.heap s.heap [] := va_S.rf
  have hl := lv_entry ([.ref h, .int a, .int b]) (n := 4) (Nat.le_of_ble_eq_true rfl)
  rw [lg_entry_eq]
  generalize (lg_sl ([.ref h, .int a, .int b]) ++ List.replicate (4 - (lg_sl ([.ref h, .int a, .int b])).length) Slot.unset).toArray = ls at hl ⊢
  have hl : lv_has ls 4 [(0, .ref h), (1, .int a), (2, .int b)] := hl
  refine lv_iload_n hx hb dX8_ratio_0 rfl (lv_at hl 1 rfl) ?_
  refine lv_sipush (v := -1000) hx hb dX8_ratio_1 (by decide) ?_
  refine lv_sipush (v := 1000) hx hb dX8_ratio_4 (by decide) ?_
  refine g_callR (v0 := .int (gB (sp_X8_in a (-1000) 1000))) (va_runS (As := [.int a, .int (-1000), .int 1000]) (rest := []) ⟨hx, hb, hml, hown, hts⟩ (c_X8_in l D y s.heap.size a (-1000) 1000) (va_cwS 3 hts gX8_ratio_X8_in rfl rfl rfl (by decide +kernel) ⟨Nat.le_of_ble_eq_true rfl, Nat.le_of_ble_eq_true rfl⟩) (gP_S hP hD hK [] (by decide) rfl) rfl rfl hl.1 rfl (lv_room (Nat.le_of_ble_eq_true rfl)) dX8_ratio_7 ⟨Nat.zero_le _, Nat.zero_le _⟩) ?_
  refine g_beq (tgt := 28) hx hb dX8_ratio_10 (by decide) (fun c_10 => ?_) (fun c_10 => ?_)
  · skip
    refine lv_iconst (v := 0) hx hb dX8_ratio_28 (by decide) ?_
    refine lv_istore_n (lv' := [(3, .int 0), (0, .ref h), (1, .int a), (2, .int b)]) hx hb dX8_ratio_29 rfl hl (by decide) rfl (fun ls hl => ?_)
    refine lv_aload_n hx hb dX8_ratio_30 rfl (lv_at hl 1 rfl) ?_
    refine lv_iload_n hx hb dX8_ratio_31 rfl (lv_at hl 0 rfl) ?_
    refine lv_if_ne (tgt := 39) hx hb dX8_ratio_32 (by decide) (fun c_32 => absurd c_32 (by decide)) (fun c_32 => ?_)
    refine lv_iconst (v := 1) hx hb dX8_ratio_35 (by decide) ?_
    refine lv_goto (tgt := 53) hx hb dX8_ratio_36 (by decide) ?_
    refine g_callA1 (v0 := .int (gB (sp_X8_holds 1))) (w0 := wM y h q 1 pn ki on ot ab be zA zB zC zD zF zT fo lw hg at_ tl th wo wl wh is_ lo_ hi_ di su an) (va_runV (As := [.int 1]) (rest := []) ⟨hx, hb, hml, hown, hts⟩ (c_X8_holds l D y s.heap.size h q tw pn ki on ot ab be zA zB zC zD zF zT fo lw hg at_ tl th wo wl wh is_ lo_ hi_ di su an 1) (cwV 1 hts gX8_ratio_X8_holds rfl rfl rfl (by decide +kernel) ⟨Nat.le_of_ble_eq_true rfl, Nat.le_of_ble_eq_true rfl⟩) (gP_VA hP hD hK 0 rfl rfl) rfl rfl hl.1 rfl (lv_room (Nat.le_of_ble_eq_true rfl)) dX8_ratio_53 ⟨Nat.zero_le _, Nat.zero_le _⟩) hP hD hS hA rfl (fun H locs hP hD hS => ?_)
    refine g_bne (tgt := 61) hx hb dX8_ratio_56 (by decide) (fun c_56 => absurd c_56 (by decide)) (fun c_56 => ?_)
    refine lv_iconst (v := 0) hx hb dX8_ratio_59 (by decide) ?_
    exact W.iret (v := 0) hx hb hr (fun t ht hW => ⟨⟨_, wM y h q 1 pn ki on ot ab be zA zB zC zD zF zT fo lw hg at_ tl th wo wl wh is_ lo_ hi_ di su an, rfl, ⟨congrArg (fun z => some (Value.int z)) (rfl), rfl⟩, rfl, by rw [ht]; exact hP⟩, by rw [← hAe]; exact hS.F ht⟩) (by rw [← hAe]; exact hS.2.2) dX8_ratio_60
  · skip
    refine lv_iload_n hx hb dX8_ratio_13 rfl (lv_at hl 2 rfl) ?_
    refine lv_iconst (v := 1) hx hb dX8_ratio_14 (by decide) ?_
    refine lv_sipush (v := 1000) hx hb dX8_ratio_15 (by decide) ?_
    refine g_callR (v0 := .int (gB (sp_X8_in b 1 1000))) (va_runS (As := [.int b, .int 1, .int 1000]) (rest := []) ⟨hx, hb, hml, hown, hts⟩ (c_X8_in l D y s.heap.size b 1 1000) (va_cwS 3 hts gX8_ratio_X8_in rfl rfl rfl (by decide +kernel) ⟨Nat.le_of_ble_eq_true rfl, Nat.le_of_ble_eq_true rfl⟩) (gP_S hP hD hK [] (by decide) rfl) rfl rfl hl.1 rfl (lv_room (Nat.le_of_ble_eq_true rfl)) dX8_ratio_18 ⟨Nat.zero_le _, Nat.zero_le _⟩) ?_
    refine g_beq (tgt := 28) hx hb dX8_ratio_21 (by decide) (fun c_21 => ?_) (fun c_21 => absurd (And.intro c_10 c_21) hbad)
    refine lv_iconst (v := 0) hx hb dX8_ratio_28 (by decide) ?_
    refine lv_istore_n (lv' := [(3, .int 0), (0, .ref h), (1, .int a), (2, .int b)]) hx hb dX8_ratio_29 rfl hl (by decide) rfl (fun ls hl => ?_)
    refine lv_aload_n hx hb dX8_ratio_30 rfl (lv_at hl 1 rfl) ?_
    refine lv_iload_n hx hb dX8_ratio_31 rfl (lv_at hl 0 rfl) ?_
    refine lv_if_ne (tgt := 39) hx hb dX8_ratio_32 (by decide) (fun c_32 => absurd c_32 (by decide)) (fun c_32 => ?_)
    refine lv_iconst (v := 1) hx hb dX8_ratio_35 (by decide) ?_
    refine lv_goto (tgt := 53) hx hb dX8_ratio_36 (by decide) ?_
    refine g_callA1 (v0 := .int (gB (sp_X8_holds 1))) (w0 := wM y h q 1 pn ki on ot ab be zA zB zC zD zF zT fo lw hg at_ tl th wo wl wh is_ lo_ hi_ di su an) (va_runV (As := [.int 1]) (rest := []) ⟨hx, hb, hml, hown, hts⟩ (c_X8_holds l D y s.heap.size h q tw pn ki on ot ab be zA zB zC zD zF zT fo lw hg at_ tl th wo wl wh is_ lo_ hi_ di su an 1) (cwV 1 hts gX8_ratio_X8_holds rfl rfl rfl (by decide +kernel) ⟨Nat.le_of_ble_eq_true rfl, Nat.le_of_ble_eq_true rfl⟩) (gP_VA hP hD hK 0 rfl rfl) rfl rfl hl.1 rfl (lv_room (Nat.le_of_ble_eq_true rfl)) dX8_ratio_53 ⟨Nat.zero_le _, Nat.zero_le _⟩) hP hD hS hA rfl (fun H locs hP hD hS => ?_)
    refine g_bne (tgt := 61) hx hb dX8_ratio_56 (by decide) (fun c_56 => absurd c_56 (by decide)) (fun c_56 => ?_)
    refine lv_iconst (v := 0) hx hb dX8_ratio_59 (by decide) ?_
    exact W.iret (v := 0) hx hb hr (fun t ht hW => ⟨⟨_, wM y h q 1 pn ki on ot ab be zA zB zC zD zF zT fo lw hg at_ tl th wo wl wh is_ lo_ hi_ di su an, rfl, ⟨congrArg (fun z => some (Value.int z)) (rfl), rfl⟩, rfl, by rw [ht]; exact hP⟩, by rw [← hAe]; exact hS.F ht⟩) (by rw [← hAe]; exact hS.2.2) dX8_ratio_60
theorem in_X8_ratio_X8 : ∀ w ∈ wsX80, w ∈ wsX8_ratio := fun _ h => List.mem_cons_of_mem _ (List.mem_append_right _ h)
set_option maxHeartbeats 4000000 in
set_option maxRecDepth 100000 in
theorem c_X8_ratio_2 (l : Launch) (D : va_G) (y : Nat → ClassId) (sz : Nat) (h : Nat) (q : Nat → Nat) (tw : Int32) (pn : Nat) (ki on ot ab be zA zB zC zD zF zT : Nat → Int32) (fo : Nat → Bool) (lw hg : Nat → Int64) (at_ : Nat → Bool) (tl th : Nat → Int64) (wo : Nat → Bool) (wl wh : Nat → Int64) (is_ : Bool) (lo_ hi_ : Int64) (di : Nat → Int32) (su : Nat → Int64) (an : Nat → Bool) (a b : Int32) (yA : sp_X8_in a (-1000) 1000 = true) (yB : sp_X8_in b 1 1000 = true) (hf : nI pn = 40) : Met l yX8_ratio wsX8_ratio ({ frames := 1, cells := 0, slots := 0, locals := 22 } : Room) (gP D y [.ref h, .int a, .int b] (wM y h q tw pn ki on ot ab be zA zB zC zD zF zT fo lw hg at_ tl th wo wl wh is_ lo_ hi_ di su an) sz) (gQ D (wM y h q tw pn ki on ot ab be zA zB zC zD zF zT fo lw hg at_ tl th wo wl wh is_ lo_ hi_ di su an) (gF (some (.int 0)) (wM y h q 2 pn ki on ot ab be zA zB zC zD zF zT fo lw hg at_ tl th wo wl wh is_ lo_ hi_ di su an))) 0 0 (va_A (wM y h q tw pn ki on ot ab be zA zB zC zD zF zT fo lw hg at_ tl th wo wl wh is_ lo_ hi_ di su an) sz) := by
  refine Met.ofW (cc := cX8_ratio) (maxL := 4) (ret := (some .int)) (by decide) rfl ?_
  intro pg e s m args below meth c s₁ B hml hv
  obtain ⟨rfl, hsz, hP, hK, hD0⟩ := hv
  have hx := B.exec
  have hb := B.bytes
  have hr := B.returns
  have hts := atoms_spec (ws := wsX8_ratio) B.pre
  have hown : s.vm.findClass RX8 = some m.cls := findClass_of_methodNamed B.named
  have hlocks := B.notSynchronized
  subst hsz
  obtain ⟨A, hAe⟩ : ∃ A : Nat → Prop, A = va_A (wM y h q tw pn ki on ot ab be zA zB zC zD zF zT fo lw hg at_ tl th wo wl wh is_ lo_ hi_ di su an) s.heap.size := ⟨_, rfl⟩
  have hD : va_D A (wM y h q tw pn ki on ot ab be zA zB zC zD zF zT fo lw hg at_ tl th wo wl wh is_ lo_ hi_ di su an) := by rw [hAe]; exact hD0.self (sz := s.heap.size)
  have hA : ∀ q : Nat, s.heap.size ≤ q → A q := fun q h => by rw [hAe]; exact Or.inr h
  have hS : va_S A s.heap s.heap [] := va_S.rf
  have hl := lv_entry ([.ref h, .int a, .int b]) (n := 4) (Nat.le_of_ble_eq_true rfl)
  rw [lg_entry_eq]
  generalize (lg_sl ([.ref h, .int a, .int b]) ++ List.replicate (4 - (lg_sl ([.ref h, .int a, .int b])).length) Slot.unset).toArray = ls at hl ⊢
  have hl : lv_has ls 4 [(0, .ref h), (1, .int a), (2, .int b)] := hl
  refine lv_iload_n hx hb dX8_ratio_0 rfl (lv_at hl 1 rfl) ?_
  refine lv_sipush (v := -1000) hx hb dX8_ratio_1 (by decide) ?_
  refine lv_sipush (v := 1000) hx hb dX8_ratio_4 (by decide) ?_
  refine g_callR (v0 := .int (gB (sp_X8_in a (-1000) 1000))) (va_runS (As := [.int a, .int (-1000), .int 1000]) (rest := []) ⟨hx, hb, hml, hown, hts⟩ (c_X8_in l D y s.heap.size a (-1000) 1000) (va_cwS 3 hts gX8_ratio_X8_in rfl rfl rfl (by decide +kernel) ⟨Nat.le_of_ble_eq_true rfl, Nat.le_of_ble_eq_true rfl⟩) (gP_S hP hD hK [] (by decide) rfl) rfl rfl hl.1 rfl (lv_room (Nat.le_of_ble_eq_true rfl)) dX8_ratio_7 ⟨Nat.zero_le _, Nat.zero_le _⟩) ?_
  refine g_beq (tgt := 28) hx hb dX8_ratio_10 (by decide) (fun c_10 => absurd yA c_10) (fun c_10 => ?_)
  refine lv_iload_n hx hb dX8_ratio_13 rfl (lv_at hl 2 rfl) ?_
  refine lv_iconst (v := 1) hx hb dX8_ratio_14 (by decide) ?_
  refine lv_sipush (v := 1000) hx hb dX8_ratio_15 (by decide) ?_
  refine g_callR (v0 := .int (gB (sp_X8_in b 1 1000))) (va_runS (As := [.int b, .int 1, .int 1000]) (rest := []) ⟨hx, hb, hml, hown, hts⟩ (c_X8_in l D y s.heap.size b 1 1000) (va_cwS 3 hts gX8_ratio_X8_in rfl rfl rfl (by decide +kernel) ⟨Nat.le_of_ble_eq_true rfl, Nat.le_of_ble_eq_true rfl⟩) (gP_S hP hD hK [] (by decide) rfl) rfl rfl hl.1 rfl (lv_room (Nat.le_of_ble_eq_true rfl)) dX8_ratio_18 ⟨Nat.zero_le _, Nat.zero_le _⟩) ?_
  refine g_beq (tgt := 28) hx hb dX8_ratio_21 (by decide) (fun c_21 => absurd yB c_21) (fun c_21 => ?_)
  refine lv_iconst (v := 1) hx hb dX8_ratio_24 (by decide) ?_
  refine lv_goto (tgt := 29) hx hb dX8_ratio_25 (by decide) ?_
  refine lv_istore_n (lv' := [(3, .int 1), (0, .ref h), (1, .int a), (2, .int b)]) hx hb dX8_ratio_29 rfl hl (by decide) rfl (fun ls hl => ?_)
  refine lv_aload_n hx hb dX8_ratio_30 rfl (lv_at hl 1 rfl) ?_
  refine lv_iload_n hx hb dX8_ratio_31 rfl (lv_at hl 0 rfl) ?_
  refine lv_if_ne (tgt := 39) hx hb dX8_ratio_32 (by decide) (fun c_32 => ?_) (fun c_32 => absurd c_32 (by decide))
  refine lv_aload_n hx hb dX8_ratio_39 rfl (lv_at hl 1 rfl) ?_
  refine va_get (D := D) (ci := 6) (v := .int (nI pn)) (C := RX8) (T := TX8) (N := 28) hx hb hts in_X8_ratio_X8 hown hK.1 hP 0 rfl rfl 1 (by decide) (hts (.fieldLink RX8 85 "NestlimitModel" "programs" "I") (List.mem_of_getElem? (i := 1) rfl)) (fun _ h9 => h9) rfl dX8_ratio_40 ?_
  refine lv_bipush (v := 40) hx hb dX8_ratio_43 (by decide) ?_
  refine lv_icmp_ne (tgt := 52) hx hb dX8_ratio_45 (by decide) (fun c_45 => absurd hf c_45) (fun c_45 => ?_)
  refine lv_iconst (v := 2) hx hb dX8_ratio_48 (by decide) ?_
  refine lv_goto (tgt := 53) hx hb dX8_ratio_49 (by decide) ?_
  refine g_callA1 (v0 := .int (gB (sp_X8_holds 2))) (w0 := wM y h q 2 pn ki on ot ab be zA zB zC zD zF zT fo lw hg at_ tl th wo wl wh is_ lo_ hi_ di su an) (va_runV (As := [.int 2]) (rest := []) ⟨hx, hb, hml, hown, hts⟩ (c_X8_holds l D y s.heap.size h q tw pn ki on ot ab be zA zB zC zD zF zT fo lw hg at_ tl th wo wl wh is_ lo_ hi_ di su an 2) (cwV 1 hts gX8_ratio_X8_holds rfl rfl rfl (by decide +kernel) ⟨Nat.le_of_ble_eq_true rfl, Nat.le_of_ble_eq_true rfl⟩) (gP_VA hP hD hK 0 rfl rfl) rfl rfl hl.1 rfl (lv_room (Nat.le_of_ble_eq_true rfl)) dX8_ratio_53 ⟨Nat.zero_le _, Nat.zero_le _⟩) hP hD hS hA rfl (fun H locs hP hD hS => ?_)
  refine g_bne (tgt := 61) hx hb dX8_ratio_56 (by decide) (fun c_56 => absurd c_56 (by decide)) (fun c_56 => ?_)
  refine lv_iconst (v := 0) hx hb dX8_ratio_59 (by decide) ?_
  exact W.iret (v := 0) hx hb hr (fun t ht hW => ⟨⟨_, wM y h q 2 pn ki on ot ab be zA zB zC zD zF zT fo lw hg at_ tl th wo wl wh is_ lo_ hi_ di su an, rfl, ⟨congrArg (fun z => some (Value.int z)) (rfl), rfl⟩, rfl, by rw [ht]; exact hP⟩, by rw [← hAe]; exact hS.F ht⟩) (by rw [← hAe]; exact hS.2.2) dX8_ratio_60
set_option maxHeartbeats 4000000 in
set_option maxRecDepth 100000 in
theorem c_X8_ratio_0 (l : Launch) (D : va_G) (y : Nat → ClassId) (sz : Nat) (h : Nat) (q : Nat → Nat) (tw : Int32) (pn : Nat) (ki on ot ab be zA zB zC zD zF zT : Nat → Int32) (fo : Nat → Bool) (lw hg : Nat → Int64) (at_ : Nat → Bool) (tl th : Nat → Int64) (wo : Nat → Bool) (wl wh : Nat → Int64) (is_ : Bool) (lo_ hi_ : Int64) (di : Nat → Int32) (su : Nat → Int64) (an : Nat → Bool) (a b : Int32) (cF : Nat → Bool) (cL cH : Nat → Int64) (hpn : pn < 40) (yA : sp_X8_in a (-1000) 1000 = true) (yB : sp_X8_in b 1 1000 = true) (hcan : ∀ p, p < 25 → ∀ (x1 x2 x3 x4 : Int64), mkOK 0 (upd be pn b) zF zT pn x1 x2 ∧ mk_is 0 (upd ab pn a) (upd be pn b) zA zB zC zD zF zT x3 x4 pn p x1 x2 x1 x2 = cF p ∧ (cF p = true → mk_lo 0 (upd ab pn a) (upd be pn b) zA zB zC zD zF zT x3 x4 pn p x1 x2 x1 x2 = cL p ∧ mk_hi 0 (upd ab pn a) (upd be pn b) zA zB zC zD zF zT x3 x4 pn p x1 x2 x1 x2 = cH p)) : Met l yX8_ratio wsX8_ratio ({ frames := 6, cells := 0, slots := 0, locals := 172 } : Room) (gP D y [.ref h, .int a, .int b] (wM y h q tw pn ki on ot ab be zA zB zC zD zF zT fo lw hg at_ tl th wo wl wh is_ lo_ hi_ di su an) sz) (gQ D (wM y h q tw pn ki on ot ab be zA zB zC zD zF zT fo lw hg at_ tl th wo wl wh is_ lo_ hi_ di su an) (fun v w => ∃ (fo1 : Nat → Bool) (lw1 : Nat → Int64) (hg1 : Nat → Int64) (at1 : Nat → Bool) (tl1 : Nat → Int64) (th1 : Nat → Int64) (is1 : Bool) (lo1 : Int64) (hi1 : Int64), v = some (.int (nI pn)) ∧ w = (wM y h q 0 (pn + 1) (upd ki pn (nI 0)) (upd on pn (-1)) (upd ot pn (-1)) (upd ab pn a) (upd be pn b) zA zB zC zD zF zT fo1 lw1 hg1 at1 tl1 th1 wo wl wh is1 lo1 hi1 di su an) ∧ (adS pn fo fo1 lw hg lw1 hg1 at_ at1 tl th tl1 th1) ∧ (∀ p, p < 25 → adR pn cF cL cH fo1 lw1 hg1 at1 tl1 th1 p))) 0 0 (va_A (wM y h q tw pn ki on ot ab be zA zB zC zD zF zT fo lw hg at_ tl th wo wl wh is_ lo_ hi_ di su an) sz) := by
  refine Met.ofW (cc := cX8_ratio) (maxL := 4) (ret := (some .int)) (by decide) rfl ?_
  intro pg e s m args below meth c s₁ B hml hv
  obtain ⟨rfl, hsz, hP, hK, hD0⟩ := hv
  have hx := B.exec
  have hb := B.bytes
  have hr := B.returns
  have hts := atoms_spec (ws := wsX8_ratio) B.pre
  have hown : s.vm.findClass RX8 = some m.cls := findClass_of_methodNamed B.named
  have hlocks := B.notSynchronized
  subst hsz
  obtain ⟨A, hAe⟩ : ∃ A : Nat → Prop, A = va_A (wM y h q tw pn ki on ot ab be zA zB zC zD zF zT fo lw hg at_ tl th wo wl wh is_ lo_ hi_ di su an) s.heap.size := ⟨_, rfl⟩
  have hD : va_D A (wM y h q tw pn ki on ot ab be zA zB zC zD zF zT fo lw hg at_ tl th wo wl wh is_ lo_ hi_ di su an) := by rw [hAe]; exact hD0.self (sz := s.heap.size)
  have hA : ∀ q : Nat, s.heap.size ≤ q → A q := fun q h => by rw [hAe]; exact Or.inr h
  have hS : va_S A s.heap s.heap [] := va_S.rf
  have hl := lv_entry ([.ref h, .int a, .int b]) (n := 4) (Nat.le_of_ble_eq_true rfl)
  rw [lg_entry_eq]
  generalize (lg_sl ([.ref h, .int a, .int b]) ++ List.replicate (4 - (lg_sl ([.ref h, .int a, .int b])).length) Slot.unset).toArray = ls at hl ⊢
  have hl : lv_has ls 4 [(0, .ref h), (1, .int a), (2, .int b)] := hl
  refine lv_iload_n hx hb dX8_ratio_0 rfl (lv_at hl 1 rfl) ?_
  refine lv_sipush (v := -1000) hx hb dX8_ratio_1 (by decide) ?_
  refine lv_sipush (v := 1000) hx hb dX8_ratio_4 (by decide) ?_
  refine g_callR (v0 := .int (gB (sp_X8_in a (-1000) 1000))) (va_runS (As := [.int a, .int (-1000), .int 1000]) (rest := []) ⟨hx, hb, hml, hown, hts⟩ (c_X8_in l D y s.heap.size a (-1000) 1000) (va_cwS 3 hts gX8_ratio_X8_in rfl rfl rfl (by decide +kernel) ⟨Nat.le_of_ble_eq_true rfl, Nat.le_of_ble_eq_true rfl⟩) (gP_S hP hD hK [] (by decide) rfl) rfl rfl hl.1 rfl (lv_room (Nat.le_of_ble_eq_true rfl)) dX8_ratio_7 ⟨Nat.zero_le _, Nat.zero_le _⟩) ?_
  refine g_beq (tgt := 28) hx hb dX8_ratio_10 (by decide) (fun c_10 => absurd yA c_10) (fun c_10 => ?_)
  refine lv_iload_n hx hb dX8_ratio_13 rfl (lv_at hl 2 rfl) ?_
  refine lv_iconst (v := 1) hx hb dX8_ratio_14 (by decide) ?_
  refine lv_sipush (v := 1000) hx hb dX8_ratio_15 (by decide) ?_
  refine g_callR (v0 := .int (gB (sp_X8_in b 1 1000))) (va_runS (As := [.int b, .int 1, .int 1000]) (rest := []) ⟨hx, hb, hml, hown, hts⟩ (c_X8_in l D y s.heap.size b 1 1000) (va_cwS 3 hts gX8_ratio_X8_in rfl rfl rfl (by decide +kernel) ⟨Nat.le_of_ble_eq_true rfl, Nat.le_of_ble_eq_true rfl⟩) (gP_S hP hD hK [] (by decide) rfl) rfl rfl hl.1 rfl (lv_room (Nat.le_of_ble_eq_true rfl)) dX8_ratio_18 ⟨Nat.zero_le _, Nat.zero_le _⟩) ?_
  refine g_beq (tgt := 28) hx hb dX8_ratio_21 (by decide) (fun c_21 => absurd yB c_21) (fun c_21 => ?_)
  refine lv_iconst (v := 1) hx hb dX8_ratio_24 (by decide) ?_
  refine lv_goto (tgt := 29) hx hb dX8_ratio_25 (by decide) ?_
  refine lv_istore_n (lv' := [(3, .int 1), (0, .ref h), (1, .int a), (2, .int b)]) hx hb dX8_ratio_29 rfl hl (by decide) rfl (fun ls hl => ?_)
  refine lv_aload_n hx hb dX8_ratio_30 rfl (lv_at hl 1 rfl) ?_
  refine lv_iload_n hx hb dX8_ratio_31 rfl (lv_at hl 0 rfl) ?_
  refine lv_if_ne (tgt := 39) hx hb dX8_ratio_32 (by decide) (fun c_32 => ?_) (fun c_32 => absurd c_32 (by decide))
  refine lv_aload_n hx hb dX8_ratio_39 rfl (lv_at hl 1 rfl) ?_
  refine va_get (D := D) (ci := 6) (v := .int (nI pn)) (C := RX8) (T := TX8) (N := 28) hx hb hts in_X8_ratio_X8 hown hK.1 hP 0 rfl rfl 1 (by decide) (hts (.fieldLink RX8 85 "NestlimitModel" "programs" "I") (List.mem_of_getElem? (i := 1) rfl)) (fun _ h9 => h9) rfl dX8_ratio_40 ?_
  refine lv_bipush (v := 40) hx hb dX8_ratio_43 (by decide) ?_
  refine lv_icmp_ne (tgt := 52) hx hb dX8_ratio_45 (by decide) (fun c_45 => ?_) (fun c_45 => absurd c_45 (g_n40 hpn))
  refine lv_iconst (v := 0) hx hb dX8_ratio_52 (by decide) ?_
  refine g_callA1 (v0 := .int (gB (sp_X8_holds 0))) (w0 := wM y h q 0 pn ki on ot ab be zA zB zC zD zF zT fo lw hg at_ tl th wo wl wh is_ lo_ hi_ di su an) (va_runV (As := [.int 0]) (rest := []) ⟨hx, hb, hml, hown, hts⟩ (c_X8_holds l D y s.heap.size h q tw pn ki on ot ab be zA zB zC zD zF zT fo lw hg at_ tl th wo wl wh is_ lo_ hi_ di su an 0) (cwV 1 hts gX8_ratio_X8_holds rfl rfl rfl (by decide +kernel) ⟨Nat.le_of_ble_eq_true rfl, Nat.le_of_ble_eq_true rfl⟩) (gP_VA hP hD hK 0 rfl rfl) rfl rfl hl.1 rfl (lv_room (Nat.le_of_ble_eq_true rfl)) dX8_ratio_53 ⟨Nat.zero_le _, Nat.zero_le _⟩) hP hD hS hA rfl (fun H locs hP hD hS => ?_)
  refine g_bne (tgt := 61) hx hb dX8_ratio_56 (by decide) (fun c_56 => ?_) (fun c_56 => absurd (by decide) c_56)
  refine lv_aload_n hx hb dX8_ratio_61 rfl (lv_at hl 1 rfl) ?_
  refine va_get (D := D) (ci := 6) (v := .ref (q 5)) (C := RX8) (T := TX8) (N := 28) hx hb hts in_X8_ratio_X8 hown hK.1 hP 0 rfl rfl 5 (by decide) (hts (.fieldLink RX8 19 "NestlimitModel" "above" "[I") (List.mem_of_getElem? (i := 2) rfl)) (fun _ h9 => h9) rfl dX8_ratio_62 ?_
  refine lv_aload_n hx hb dX8_ratio_65 rfl (lv_at hl 1 rfl) ?_
  refine va_get (D := D) (ci := 6) (v := .int (nI pn)) (C := RX8) (T := TX8) (N := 28) hx hb hts in_X8_ratio_X8 hown hK.1 hP 0 rfl rfl 1 (by decide) (hts (.fieldLink RX8 85 "NestlimitModel" "programs" "I") (List.mem_of_getElem? (i := 1) rfl)) (fun _ h9 => h9) rfl dX8_ratio_66 ?_
  refine lv_iload_n hx hb dX8_ratio_69 rfl (lv_at hl 2 rfl) ?_
  refine g_iast (k := pn) (x := a) hx hb hK.1 hP hD hS 4 0 rfl rfl (hpn) (by decide) dX8_ratio_70 (fun H locs hP hD hS => ?_)
  have hP : va_P D vwCl (wM y h q 0 pn ki on ot (upd ab pn a) be zA zB zC zD zF zT fo lw hg at_ tl th wo wl wh is_ lo_ hi_ di su an) H := hP
  have hD : va_D A (wM y h q 0 pn ki on ot (upd ab pn a) be zA zB zC zD zF zT fo lw hg at_ tl th wo wl wh is_ lo_ hi_ di su an) := hD
  refine lv_aload_n hx hb dX8_ratio_71 rfl (lv_at hl 1 rfl) ?_
  refine va_get (D := D) (ci := 6) (v := .ref (q 6)) (C := RX8) (T := TX8) (N := 28) hx hb hts in_X8_ratio_X8 hown hK.1 hP 0 rfl rfl 6 (by decide) (hts (.fieldLink RX8 22 "NestlimitModel" "below" "[I") (List.mem_of_getElem? (i := 3) rfl)) (fun _ h9 => h9) rfl dX8_ratio_72 ?_
  refine lv_aload_n hx hb dX8_ratio_75 rfl (lv_at hl 1 rfl) ?_
  refine va_get (D := D) (ci := 6) (v := .int (nI pn)) (C := RX8) (T := TX8) (N := 28) hx hb hts in_X8_ratio_X8 hown hK.1 hP 0 rfl rfl 1 (by decide) (hts (.fieldLink RX8 85 "NestlimitModel" "programs" "I") (List.mem_of_getElem? (i := 1) rfl)) (fun _ h9 => h9) rfl dX8_ratio_76 ?_
  refine lv_iload_n hx hb dX8_ratio_79 rfl (lv_at hl 3 rfl) ?_
  refine g_iast (k := pn) (x := b) hx hb hK.1 hP hD hS 5 0 rfl rfl (hpn) (by decide) dX8_ratio_80 (fun H locs hP hD hS => ?_)
  have hP : va_P D vwCl (wM y h q 0 pn ki on ot (upd ab pn a) (upd be pn b) zA zB zC zD zF zT fo lw hg at_ tl th wo wl wh is_ lo_ hi_ di su an) H := hP
  have hD : va_D A (wM y h q 0 pn ki on ot (upd ab pn a) (upd be pn b) zA zB zC zD zF zT fo lw hg at_ tl th wo wl wh is_ lo_ hi_ di su an) := hD
  refine lv_aload_n hx hb dX8_ratio_81 rfl (lv_at hl 1 rfl) ?_
  refine lv_iconst (v := 0) hx hb dX8_ratio_82 (by decide) ?_
  refine lv_iconst (v := -1) hx hb dX8_ratio_83 (by decide) ?_
  refine lv_iconst (v := -1) hx hb dX8_ratio_84 (by decide) ?_
  refine g_callA (va_runV (As := [.int 0, .int (-1), .int (-1)]) (rest := []) ⟨hx, hb, hml, hown, hts⟩ (c_X8_adds_0 l D y H.size h q 0 pn ki on ot (upd ab pn a) (upd be pn b) zA zB zC zD zF zT fo lw hg at_ tl th wo wl wh is_ lo_ hi_ di su an 0 cF cL cH hpn (by decide) hcan) (cwV 3 hts gX8_ratio_X8_adds rfl rfl rfl (by decide +kernel) ⟨Nat.le_of_ble_eq_true rfl, Nat.le_of_ble_eq_true rfl⟩) (gP_VA hP hD hK 0 rfl rfl) rfl rfl hl.1 rfl (lv_room (Nat.le_of_ble_eq_true rfl)) dX8_ratio_85 ⟨Nat.zero_le _, Nat.zero_le _⟩) hP hD hS hA (fun v w1 H locs hf hP hD hS => ?_)
  obtain ⟨fo1_85, lw1_85, hg1_85, at1_85, tl1_85, th1_85, is1_85, lo1_85, hi1_85, rfl, rfl, h85_0, h85_1⟩ := hf
  have hP : va_P D vwCl (wM y h q 0 (pn + 1) (upd ki pn (nI 0)) (upd on pn (-1)) (upd ot pn (-1)) (upd ab pn a) (upd be pn b) zA zB zC zD zF zT fo1_85 lw1_85 hg1_85 at1_85 tl1_85 th1_85 wo wl wh is1_85 lo1_85 hi1_85 di su an) H := hP
  have hD : va_D A (wM y h q 0 (pn + 1) (upd ki pn (nI 0)) (upd on pn (-1)) (upd ot pn (-1)) (upd ab pn a) (upd be pn b) zA zB zC zD zF zT fo1_85 lw1_85 hg1_85 at1_85 tl1_85 th1_85 wo wl wh is1_85 lo1_85 hi1_85 di su an) := hD
  exact W.iret (v := nI pn) hx hb hr (fun t ht hW => ⟨⟨some (.int (nI pn)), wM y h q 0 (pn + 1) (upd ki pn (nI 0)) (upd on pn (-1)) (upd ot pn (-1)) (upd ab pn a) (upd be pn b) zA zB zC zD zF zT fo1_85 lw1_85 hg1_85 at1_85 tl1_85 th1_85 wo wl wh is1_85 lo1_85 hi1_85 di su an, rfl, ⟨fo1_85, lw1_85, hg1_85, at1_85, tl1_85, th1_85, is1_85, lo1_85, hi1_85, rfl, rfl, h85_0, h85_1⟩, rfl, by rw [ht]; exact hP⟩, by rw [← hAe]; exact hS.F ht⟩) (by rw [← hAe]; exact hS.2.2) dX8_ratio_88
set_option maxHeartbeats 4000000 in
set_option maxRecDepth 100000 in
theorem c_X8_ofTwo_1 (l : Launch) (D : va_G) (y : Nat → ClassId) (sz : Nat) (h : Nat) (q : Nat → Nat) (tw : Int32) (pn : Nat) (ki on ot ab be zA zB zC zD zF zT : Nat → Int32) (fo : Nat → Bool) (lw hg : Nat → Int64) (at_ : Nat → Bool) (tl th : Nat → Int64) (wo : Nat → Bool) (wl wh : Nat → Int64) (is_ : Bool) (lo_ hi_ : Int64) (di : Nat → Int32) (su : Nat → Int64) (an : Nat → Bool) (v a b : Int32) (hbad : ¬ (sp_X8_isProgram pn a = true ∧ sp_X8_isProgram pn b = true)) : Met l yX8_ofTwo wsX8_ofTwo ({ frames := 2, cells := 0, slots := 0, locals := 43 } : Room) (gP D y [.ref h, .int v, .int a, .int b] (wM y h q tw pn ki on ot ab be zA zB zC zD zF zT fo lw hg at_ tl th wo wl wh is_ lo_ hi_ di su an) sz) (gQ D (wM y h q tw pn ki on ot ab be zA zB zC zD zF zT fo lw hg at_ tl th wo wl wh is_ lo_ hi_ di su an) (gF (some (.int 0)) (wM y h q 1 pn ki on ot ab be zA zB zC zD zF zT fo lw hg at_ tl th wo wl wh is_ lo_ hi_ di su an))) 0 0 (va_A (wM y h q tw pn ki on ot ab be zA zB zC zD zF zT fo lw hg at_ tl th wo wl wh is_ lo_ hi_ di su an) sz) := by
  refine Met.ofW (cc := cX8_ofTwo) (maxL := 5) (ret := (some .int)) (by decide) rfl ?_
  intro pg e s m args below meth c s₁ B hml hv
  obtain ⟨rfl, hsz, hP, hK, hD0⟩ := hv
  have hx := B.exec
  have hb := B.bytes
  have hr := B.returns
  have hts := atoms_spec (ws := wsX8_ofTwo) B.pre
  have hown : s.vm.findClass RX8 = some m.cls := findClass_of_methodNamed B.named
  have hlocks := B.notSynchronized
  subst hsz
  obtain ⟨A, hAe⟩ : ∃ A : Nat → Prop, A = va_A (wM y h q tw pn ki on ot ab be zA zB zC zD zF zT fo lw hg at_ tl th wo wl wh is_ lo_ hi_ di su an) s.heap.size := ⟨_, rfl⟩
  have hD : va_D A (wM y h q tw pn ki on ot ab be zA zB zC zD zF zT fo lw hg at_ tl th wo wl wh is_ lo_ hi_ di su an) := by rw [hAe]; exact hD0.self (sz := s.heap.size)
  have hA : ∀ q : Nat, s.heap.size ≤ q → A q := fun q h => by rw [hAe]; exact Or.inr h
  have hS : va_S A s.heap s.heap [] := va_S.rf
  have hl := lv_entry ([.ref h, .int v, .int a, .int b]) (n := 5) (Nat.le_of_ble_eq_true rfl)
  rw [lg_entry_eq]
  generalize (lg_sl ([.ref h, .int v, .int a, .int b]) ++ List.replicate (5 - (lg_sl ([.ref h, .int v, .int a, .int b])).length) Slot.unset).toArray = ls at hl ⊢
  have hl : lv_has ls 5 [(0, .ref h), (1, .int v), (2, .int a), (3, .int b)] := hl
  refine lv_aload_n hx hb dX8_ofTwo_0 rfl (lv_at hl 0 rfl) ?_
  refine lv_iload_n hx hb dX8_ofTwo_1 rfl (lv_at hl 2 rfl) ?_
  refine g_callR (v0 := .int (gB (sp_X8_isProgram pn a))) (va_runV (As := [.int a]) (rest := []) ⟨hx, hb, hml, hown, hts⟩ (c_X8_isProgram l D y s.heap.size h q tw pn ki on ot ab be zA zB zC zD zF zT fo lw hg at_ tl th wo wl wh is_ lo_ hi_ di su an a) (cwV 1 hts gX8_ofTwo_X8_isProgram rfl rfl rfl (by decide +kernel) ⟨Nat.le_of_ble_eq_true rfl, Nat.le_of_ble_eq_true rfl⟩) (gP_VA hP hD hK 0 rfl rfl) rfl rfl hl.1 rfl (lv_room (Nat.le_of_ble_eq_true rfl)) dX8_ofTwo_2 ⟨Nat.zero_le _, Nat.zero_le _⟩) ?_
  refine g_beq (tgt := 20) hx hb dX8_ofTwo_5 (by decide) (fun c_5 => ?_) (fun c_5 => ?_)
  · skip
    refine lv_iconst (v := 0) hx hb dX8_ofTwo_20 (by decide) ?_
    refine lv_istore (lv' := [(4, .int 0), (0, .ref h), (1, .int v), (2, .int a), (3, .int b)]) hx hb dX8_ofTwo_21 hl (by decide) rfl (fun ls hl => ?_)
    refine lv_aload_n hx hb dX8_ofTwo_23 rfl (lv_at hl 1 rfl) ?_
    refine lv_iload hx hb dX8_ofTwo_24 (lv_at hl 0 rfl) ?_
    refine lv_if_ne (tgt := 33) hx hb dX8_ofTwo_26 (by decide) (fun c_26 => absurd c_26 (by decide)) (fun c_26 => ?_)
    refine lv_iconst (v := 1) hx hb dX8_ofTwo_29 (by decide) ?_
    refine lv_goto (tgt := 47) hx hb dX8_ofTwo_30 (by decide) ?_
    refine g_callA1 (v0 := .int (gB (sp_X8_holds 1))) (w0 := wM y h q 1 pn ki on ot ab be zA zB zC zD zF zT fo lw hg at_ tl th wo wl wh is_ lo_ hi_ di su an) (va_runV (As := [.int 1]) (rest := []) ⟨hx, hb, hml, hown, hts⟩ (c_X8_holds l D y s.heap.size h q tw pn ki on ot ab be zA zB zC zD zF zT fo lw hg at_ tl th wo wl wh is_ lo_ hi_ di su an 1) (cwV 1 hts gX8_ofTwo_X8_holds rfl rfl rfl (by decide +kernel) ⟨Nat.le_of_ble_eq_true rfl, Nat.le_of_ble_eq_true rfl⟩) (gP_VA hP hD hK 0 rfl rfl) rfl rfl hl.1 rfl (lv_room (Nat.le_of_ble_eq_true rfl)) dX8_ofTwo_47 ⟨Nat.zero_le _, Nat.zero_le _⟩) hP hD hS hA rfl (fun H locs hP hD hS => ?_)
    refine g_beq (tgt := 63) hx hb dX8_ofTwo_50 (by decide) (fun c_50 => ?_) (fun c_50 => absurd c_50 (by decide))
    refine lv_iconst (v := 0) hx hb dX8_ofTwo_63 (by decide) ?_
    exact W.iret (v := 0) hx hb hr (fun t ht hW => ⟨⟨_, wM y h q 1 pn ki on ot ab be zA zB zC zD zF zT fo lw hg at_ tl th wo wl wh is_ lo_ hi_ di su an, rfl, ⟨congrArg (fun z => some (Value.int z)) (rfl), rfl⟩, rfl, by rw [ht]; exact hP⟩, by rw [← hAe]; exact hS.F ht⟩) (by rw [← hAe]; exact hS.2.2) dX8_ofTwo_64
  · skip
    refine lv_aload_n hx hb dX8_ofTwo_8 rfl (lv_at hl 0 rfl) ?_
    refine lv_iload_n hx hb dX8_ofTwo_9 rfl (lv_at hl 3 rfl) ?_
    refine g_callR (v0 := .int (gB (sp_X8_isProgram pn b))) (va_runV (As := [.int b]) (rest := []) ⟨hx, hb, hml, hown, hts⟩ (c_X8_isProgram l D y s.heap.size h q tw pn ki on ot ab be zA zB zC zD zF zT fo lw hg at_ tl th wo wl wh is_ lo_ hi_ di su an b) (cwV 1 hts gX8_ofTwo_X8_isProgram rfl rfl rfl (by decide +kernel) ⟨Nat.le_of_ble_eq_true rfl, Nat.le_of_ble_eq_true rfl⟩) (gP_VA hP hD hK 0 rfl rfl) rfl rfl hl.1 rfl (lv_room (Nat.le_of_ble_eq_true rfl)) dX8_ofTwo_10 ⟨Nat.zero_le _, Nat.zero_le _⟩) ?_
    refine g_beq (tgt := 20) hx hb dX8_ofTwo_13 (by decide) (fun c_13 => ?_) (fun c_13 => absurd (And.intro c_5 c_13) hbad)
    refine lv_iconst (v := 0) hx hb dX8_ofTwo_20 (by decide) ?_
    refine lv_istore (lv' := [(4, .int 0), (0, .ref h), (1, .int v), (2, .int a), (3, .int b)]) hx hb dX8_ofTwo_21 hl (by decide) rfl (fun ls hl => ?_)
    refine lv_aload_n hx hb dX8_ofTwo_23 rfl (lv_at hl 1 rfl) ?_
    refine lv_iload hx hb dX8_ofTwo_24 (lv_at hl 0 rfl) ?_
    refine lv_if_ne (tgt := 33) hx hb dX8_ofTwo_26 (by decide) (fun c_26 => absurd c_26 (by decide)) (fun c_26 => ?_)
    refine lv_iconst (v := 1) hx hb dX8_ofTwo_29 (by decide) ?_
    refine lv_goto (tgt := 47) hx hb dX8_ofTwo_30 (by decide) ?_
    refine g_callA1 (v0 := .int (gB (sp_X8_holds 1))) (w0 := wM y h q 1 pn ki on ot ab be zA zB zC zD zF zT fo lw hg at_ tl th wo wl wh is_ lo_ hi_ di su an) (va_runV (As := [.int 1]) (rest := []) ⟨hx, hb, hml, hown, hts⟩ (c_X8_holds l D y s.heap.size h q tw pn ki on ot ab be zA zB zC zD zF zT fo lw hg at_ tl th wo wl wh is_ lo_ hi_ di su an 1) (cwV 1 hts gX8_ofTwo_X8_holds rfl rfl rfl (by decide +kernel) ⟨Nat.le_of_ble_eq_true rfl, Nat.le_of_ble_eq_true rfl⟩) (gP_VA hP hD hK 0 rfl rfl) rfl rfl hl.1 rfl (lv_room (Nat.le_of_ble_eq_true rfl)) dX8_ofTwo_47 ⟨Nat.zero_le _, Nat.zero_le _⟩) hP hD hS hA rfl (fun H locs hP hD hS => ?_)
    refine g_beq (tgt := 63) hx hb dX8_ofTwo_50 (by decide) (fun c_50 => ?_) (fun c_50 => absurd c_50 (by decide))
    refine lv_iconst (v := 0) hx hb dX8_ofTwo_63 (by decide) ?_
    exact W.iret (v := 0) hx hb hr (fun t ht hW => ⟨⟨_, wM y h q 1 pn ki on ot ab be zA zB zC zD zF zT fo lw hg at_ tl th wo wl wh is_ lo_ hi_ di su an, rfl, ⟨congrArg (fun z => some (Value.int z)) (rfl), rfl⟩, rfl, by rw [ht]; exact hP⟩, by rw [← hAe]; exact hS.F ht⟩) (by rw [← hAe]; exact hS.2.2) dX8_ofTwo_64
theorem in_X8_ofTwo_X8 : ∀ w ∈ wsX80, w ∈ wsX8_ofTwo := fun _ h => List.mem_cons_of_mem _ (List.mem_append_right _ h)
set_option maxHeartbeats 4000000 in
set_option maxRecDepth 100000 in
theorem c_X8_ofTwo_2 (l : Launch) (D : va_G) (y : Nat → ClassId) (sz : Nat) (h : Nat) (q : Nat → Nat) (tw : Int32) (pn : Nat) (ki on ot ab be zA zB zC zD zF zT : Nat → Int32) (fo : Nat → Bool) (lw hg : Nat → Int64) (at_ : Nat → Bool) (tl th : Nat → Int64) (wo : Nat → Bool) (wl wh : Nat → Int64) (is_ : Bool) (lo_ hi_ : Int64) (di : Nat → Int32) (su : Nat → Int64) (an : Nat → Bool) (v a b : Int32) (yA : sp_X8_isProgram pn a = true) (yB : sp_X8_isProgram pn b = true) (hf : nI pn = 40) : Met l yX8_ofTwo wsX8_ofTwo ({ frames := 2, cells := 0, slots := 0, locals := 43 } : Room) (gP D y [.ref h, .int v, .int a, .int b] (wM y h q tw pn ki on ot ab be zA zB zC zD zF zT fo lw hg at_ tl th wo wl wh is_ lo_ hi_ di su an) sz) (gQ D (wM y h q tw pn ki on ot ab be zA zB zC zD zF zT fo lw hg at_ tl th wo wl wh is_ lo_ hi_ di su an) (gF (some (.int 0)) (wM y h q 2 pn ki on ot ab be zA zB zC zD zF zT fo lw hg at_ tl th wo wl wh is_ lo_ hi_ di su an))) 0 0 (va_A (wM y h q tw pn ki on ot ab be zA zB zC zD zF zT fo lw hg at_ tl th wo wl wh is_ lo_ hi_ di su an) sz) := by
  refine Met.ofW (cc := cX8_ofTwo) (maxL := 5) (ret := (some .int)) (by decide) rfl ?_
  intro pg e s m args below meth c s₁ B hml hv
  obtain ⟨rfl, hsz, hP, hK, hD0⟩ := hv
  have hx := B.exec
  have hb := B.bytes
  have hr := B.returns
  have hts := atoms_spec (ws := wsX8_ofTwo) B.pre
  have hown : s.vm.findClass RX8 = some m.cls := findClass_of_methodNamed B.named
  have hlocks := B.notSynchronized
  subst hsz
  obtain ⟨A, hAe⟩ : ∃ A : Nat → Prop, A = va_A (wM y h q tw pn ki on ot ab be zA zB zC zD zF zT fo lw hg at_ tl th wo wl wh is_ lo_ hi_ di su an) s.heap.size := ⟨_, rfl⟩
  have hD : va_D A (wM y h q tw pn ki on ot ab be zA zB zC zD zF zT fo lw hg at_ tl th wo wl wh is_ lo_ hi_ di su an) := by rw [hAe]; exact hD0.self (sz := s.heap.size)
  have hA : ∀ q : Nat, s.heap.size ≤ q → A q := fun q h => by rw [hAe]; exact Or.inr h
  have hS : va_S A s.heap s.heap [] := va_S.rf
  have hl := lv_entry ([.ref h, .int v, .int a, .int b]) (n := 5) (Nat.le_of_ble_eq_true rfl)
  rw [lg_entry_eq]
  generalize (lg_sl ([.ref h, .int v, .int a, .int b]) ++ List.replicate (5 - (lg_sl ([.ref h, .int v, .int a, .int b])).length) Slot.unset).toArray = ls at hl ⊢
  have hl : lv_has ls 5 [(0, .ref h), (1, .int v), (2, .int a), (3, .int b)] := hl
  refine lv_aload_n hx hb dX8_ofTwo_0 rfl (lv_at hl 0 rfl) ?_
  refine lv_iload_n hx hb dX8_ofTwo_1 rfl (lv_at hl 2 rfl) ?_
  refine g_callR (v0 := .int (gB (sp_X8_isProgram pn a))) (va_runV (As := [.int a]) (rest := []) ⟨hx, hb, hml, hown, hts⟩ (c_X8_isProgram l D y s.heap.size h q tw pn ki on ot ab be zA zB zC zD zF zT fo lw hg at_ tl th wo wl wh is_ lo_ hi_ di su an a) (cwV 1 hts gX8_ofTwo_X8_isProgram rfl rfl rfl (by decide +kernel) ⟨Nat.le_of_ble_eq_true rfl, Nat.le_of_ble_eq_true rfl⟩) (gP_VA hP hD hK 0 rfl rfl) rfl rfl hl.1 rfl (lv_room (Nat.le_of_ble_eq_true rfl)) dX8_ofTwo_2 ⟨Nat.zero_le _, Nat.zero_le _⟩) ?_
  refine g_beq (tgt := 20) hx hb dX8_ofTwo_5 (by decide) (fun c_5 => absurd yA c_5) (fun c_5 => ?_)
  refine lv_aload_n hx hb dX8_ofTwo_8 rfl (lv_at hl 0 rfl) ?_
  refine lv_iload_n hx hb dX8_ofTwo_9 rfl (lv_at hl 3 rfl) ?_
  refine g_callR (v0 := .int (gB (sp_X8_isProgram pn b))) (va_runV (As := [.int b]) (rest := []) ⟨hx, hb, hml, hown, hts⟩ (c_X8_isProgram l D y s.heap.size h q tw pn ki on ot ab be zA zB zC zD zF zT fo lw hg at_ tl th wo wl wh is_ lo_ hi_ di su an b) (cwV 1 hts gX8_ofTwo_X8_isProgram rfl rfl rfl (by decide +kernel) ⟨Nat.le_of_ble_eq_true rfl, Nat.le_of_ble_eq_true rfl⟩) (gP_VA hP hD hK 0 rfl rfl) rfl rfl hl.1 rfl (lv_room (Nat.le_of_ble_eq_true rfl)) dX8_ofTwo_10 ⟨Nat.zero_le _, Nat.zero_le _⟩) ?_
  refine g_beq (tgt := 20) hx hb dX8_ofTwo_13 (by decide) (fun c_13 => absurd yB c_13) (fun c_13 => ?_)
  refine lv_iconst (v := 1) hx hb dX8_ofTwo_16 (by decide) ?_
  refine lv_goto (tgt := 21) hx hb dX8_ofTwo_17 (by decide) ?_
  refine lv_istore (lv' := [(4, .int 1), (0, .ref h), (1, .int v), (2, .int a), (3, .int b)]) hx hb dX8_ofTwo_21 hl (by decide) rfl (fun ls hl => ?_)
  refine lv_aload_n hx hb dX8_ofTwo_23 rfl (lv_at hl 1 rfl) ?_
  refine lv_iload hx hb dX8_ofTwo_24 (lv_at hl 0 rfl) ?_
  refine lv_if_ne (tgt := 33) hx hb dX8_ofTwo_26 (by decide) (fun c_26 => ?_) (fun c_26 => absurd c_26 (by decide))
  refine lv_aload_n hx hb dX8_ofTwo_33 rfl (lv_at hl 1 rfl) ?_
  refine va_get (D := D) (ci := 6) (v := .int (nI pn)) (C := RX8) (T := TX8) (N := 28) hx hb hts in_X8_ofTwo_X8 hown hK.1 hP 0 rfl rfl 1 (by decide) (hts (.fieldLink RX8 85 "NestlimitModel" "programs" "I") (List.mem_of_getElem? (i := 1) rfl)) (fun _ h9 => h9) rfl dX8_ofTwo_34 ?_
  refine lv_bipush (v := 40) hx hb dX8_ofTwo_37 (by decide) ?_
  refine lv_icmp_ne (tgt := 46) hx hb dX8_ofTwo_39 (by decide) (fun c_39 => absurd hf c_39) (fun c_39 => ?_)
  refine lv_iconst (v := 2) hx hb dX8_ofTwo_42 (by decide) ?_
  refine lv_goto (tgt := 47) hx hb dX8_ofTwo_43 (by decide) ?_
  refine g_callA1 (v0 := .int (gB (sp_X8_holds 2))) (w0 := wM y h q 2 pn ki on ot ab be zA zB zC zD zF zT fo lw hg at_ tl th wo wl wh is_ lo_ hi_ di su an) (va_runV (As := [.int 2]) (rest := []) ⟨hx, hb, hml, hown, hts⟩ (c_X8_holds l D y s.heap.size h q tw pn ki on ot ab be zA zB zC zD zF zT fo lw hg at_ tl th wo wl wh is_ lo_ hi_ di su an 2) (cwV 1 hts gX8_ofTwo_X8_holds rfl rfl rfl (by decide +kernel) ⟨Nat.le_of_ble_eq_true rfl, Nat.le_of_ble_eq_true rfl⟩) (gP_VA hP hD hK 0 rfl rfl) rfl rfl hl.1 rfl (lv_room (Nat.le_of_ble_eq_true rfl)) dX8_ofTwo_47 ⟨Nat.zero_le _, Nat.zero_le _⟩) hP hD hS hA rfl (fun H locs hP hD hS => ?_)
  refine g_beq (tgt := 63) hx hb dX8_ofTwo_50 (by decide) (fun c_50 => ?_) (fun c_50 => absurd c_50 (by decide))
  refine lv_iconst (v := 0) hx hb dX8_ofTwo_63 (by decide) ?_
  exact W.iret (v := 0) hx hb hr (fun t ht hW => ⟨⟨_, wM y h q 2 pn ki on ot ab be zA zB zC zD zF zT fo lw hg at_ tl th wo wl wh is_ lo_ hi_ di su an, rfl, ⟨congrArg (fun z => some (Value.int z)) (rfl), rfl⟩, rfl, by rw [ht]; exact hP⟩, by rw [← hAe]; exact hS.F ht⟩) (by rw [← hAe]; exact hS.2.2) dX8_ofTwo_64
set_option maxHeartbeats 4000000 in
set_option maxRecDepth 100000 in
theorem c_X8_ofOne_1 (l : Launch) (D : va_G) (y : Nat → ClassId) (sz : Nat) (h : Nat) (q : Nat → Nat) (tw : Int32) (pn : Nat) (ki on ot ab be zA zB zC zD zF zT : Nat → Int32) (fo : Nat → Bool) (lw hg : Nat → Int64) (at_ : Nat → Bool) (tl th : Nat → Int64) (wo : Nat → Bool) (wl wh : Nat → Int64) (is_ : Bool) (lo_ hi_ : Int64) (di : Nat → Int32) (su : Nat → Int64) (an : Nat → Bool) (v a : Int32) (hbad : ¬ sp_X8_isProgram pn a = true) : Met l yX8_ofOne wsX8_ofOne ({ frames := 2, cells := 0, slots := 0, locals := 43 } : Room) (gP D y [.ref h, .int v, .int a] (wM y h q tw pn ki on ot ab be zA zB zC zD zF zT fo lw hg at_ tl th wo wl wh is_ lo_ hi_ di su an) sz) (gQ D (wM y h q tw pn ki on ot ab be zA zB zC zD zF zT fo lw hg at_ tl th wo wl wh is_ lo_ hi_ di su an) (gF (some (.int 0)) (wM y h q 1 pn ki on ot ab be zA zB zC zD zF zT fo lw hg at_ tl th wo wl wh is_ lo_ hi_ di su an))) 0 0 (va_A (wM y h q tw pn ki on ot ab be zA zB zC zD zF zT fo lw hg at_ tl th wo wl wh is_ lo_ hi_ di su an) sz) := by
  refine Met.ofW (cc := cX8_ofOne) (maxL := 3) (ret := (some .int)) (by decide) rfl ?_
  intro pg e s m args below meth c s₁ B hml hv
  obtain ⟨rfl, hsz, hP, hK, hD0⟩ := hv
  have hx := B.exec
  have hb := B.bytes
  have hr := B.returns
  have hts := atoms_spec (ws := wsX8_ofOne) B.pre
  have hown : s.vm.findClass RX8 = some m.cls := findClass_of_methodNamed B.named
  have hlocks := B.notSynchronized
  subst hsz
  obtain ⟨A, hAe⟩ : ∃ A : Nat → Prop, A = va_A (wM y h q tw pn ki on ot ab be zA zB zC zD zF zT fo lw hg at_ tl th wo wl wh is_ lo_ hi_ di su an) s.heap.size := ⟨_, rfl⟩
  have hD : va_D A (wM y h q tw pn ki on ot ab be zA zB zC zD zF zT fo lw hg at_ tl th wo wl wh is_ lo_ hi_ di su an) := by rw [hAe]; exact hD0.self (sz := s.heap.size)
  have hA : ∀ q : Nat, s.heap.size ≤ q → A q := fun q h => by rw [hAe]; exact Or.inr h
  have hS : va_S A s.heap s.heap [] := va_S.rf
  have hl := lv_entry ([.ref h, .int v, .int a]) (n := 3) (Nat.le_of_ble_eq_true rfl)
  rw [lg_entry_eq]
  generalize (lg_sl ([.ref h, .int v, .int a]) ++ List.replicate (3 - (lg_sl ([.ref h, .int v, .int a])).length) Slot.unset).toArray = ls at hl ⊢
  have hl : lv_has ls 3 [(0, .ref h), (1, .int v), (2, .int a)] := hl
  refine lv_aload_n hx hb dX8_ofOne_0 rfl (lv_at hl 0 rfl) ?_
  refine lv_aload_n hx hb dX8_ofOne_1 rfl (lv_at hl 0 rfl) ?_
  refine lv_iload_n hx hb dX8_ofOne_2 rfl (lv_at hl 2 rfl) ?_
  refine g_callR (v0 := .int (gB (sp_X8_isProgram pn a))) (va_runV (As := [.int a]) (rest := [.ref h]) ⟨hx, hb, hml, hown, hts⟩ (c_X8_isProgram l D y s.heap.size h q tw pn ki on ot ab be zA zB zC zD zF zT fo lw hg at_ tl th wo wl wh is_ lo_ hi_ di su an a) (cwV 1 hts gX8_ofOne_X8_isProgram rfl rfl rfl (by decide +kernel) ⟨Nat.le_of_ble_eq_true rfl, Nat.le_of_ble_eq_true rfl⟩) (gP_VA hP hD hK 0 rfl rfl) rfl rfl hl.1 rfl (lv_room (Nat.le_of_ble_eq_true rfl)) dX8_ofOne_3 ⟨Nat.zero_le _, Nat.zero_le _⟩) ?_
  refine g_bne (tgt := 13) hx hb dX8_ofOne_6 (by decide) (fun c_6 => absurd c_6 hbad) (fun c_6 => ?_)
  refine lv_iconst (v := 1) hx hb dX8_ofOne_9 (by decide) ?_
  refine lv_goto (tgt := 27) hx hb dX8_ofOne_10 (by decide) ?_
  refine g_callA1 (v0 := .int (gB (sp_X8_holds 1))) (w0 := wM y h q 1 pn ki on ot ab be zA zB zC zD zF zT fo lw hg at_ tl th wo wl wh is_ lo_ hi_ di su an) (va_runV (As := [.int 1]) (rest := []) ⟨hx, hb, hml, hown, hts⟩ (c_X8_holds l D y s.heap.size h q tw pn ki on ot ab be zA zB zC zD zF zT fo lw hg at_ tl th wo wl wh is_ lo_ hi_ di su an 1) (cwV 1 hts gX8_ofOne_X8_holds rfl rfl rfl (by decide +kernel) ⟨Nat.le_of_ble_eq_true rfl, Nat.le_of_ble_eq_true rfl⟩) (gP_VA hP hD hK 0 rfl rfl) rfl rfl hl.1 rfl (lv_room (Nat.le_of_ble_eq_true rfl)) dX8_ofOne_27 ⟨Nat.zero_le _, Nat.zero_le _⟩) hP hD hS hA rfl (fun H locs hP hD hS => ?_)
  refine g_beq (tgt := 43) hx hb dX8_ofOne_30 (by decide) (fun c_30 => ?_) (fun c_30 => absurd c_30 (by decide))
  refine lv_iconst (v := 0) hx hb dX8_ofOne_43 (by decide) ?_
  exact W.iret (v := 0) hx hb hr (fun t ht hW => ⟨⟨_, wM y h q 1 pn ki on ot ab be zA zB zC zD zF zT fo lw hg at_ tl th wo wl wh is_ lo_ hi_ di su an, rfl, ⟨congrArg (fun z => some (Value.int z)) (rfl), rfl⟩, rfl, by rw [ht]; exact hP⟩, by rw [← hAe]; exact hS.F ht⟩) (by rw [← hAe]; exact hS.2.2) dX8_ofOne_44
theorem in_X8_ofOne_X8 : ∀ w ∈ wsX80, w ∈ wsX8_ofOne := fun _ h => List.mem_cons_of_mem _ (List.mem_append_right _ h)
set_option maxHeartbeats 4000000 in
set_option maxRecDepth 100000 in
theorem c_X8_ofOne_2 (l : Launch) (D : va_G) (y : Nat → ClassId) (sz : Nat) (h : Nat) (q : Nat → Nat) (tw : Int32) (pn : Nat) (ki on ot ab be zA zB zC zD zF zT : Nat → Int32) (fo : Nat → Bool) (lw hg : Nat → Int64) (at_ : Nat → Bool) (tl th : Nat → Int64) (wo : Nat → Bool) (wl wh : Nat → Int64) (is_ : Bool) (lo_ hi_ : Int64) (di : Nat → Int32) (su : Nat → Int64) (an : Nat → Bool) (v a : Int32) (yA : sp_X8_isProgram pn a = true) (hf : nI pn = 40) : Met l yX8_ofOne wsX8_ofOne ({ frames := 2, cells := 0, slots := 0, locals := 43 } : Room) (gP D y [.ref h, .int v, .int a] (wM y h q tw pn ki on ot ab be zA zB zC zD zF zT fo lw hg at_ tl th wo wl wh is_ lo_ hi_ di su an) sz) (gQ D (wM y h q tw pn ki on ot ab be zA zB zC zD zF zT fo lw hg at_ tl th wo wl wh is_ lo_ hi_ di su an) (gF (some (.int 0)) (wM y h q 2 pn ki on ot ab be zA zB zC zD zF zT fo lw hg at_ tl th wo wl wh is_ lo_ hi_ di su an))) 0 0 (va_A (wM y h q tw pn ki on ot ab be zA zB zC zD zF zT fo lw hg at_ tl th wo wl wh is_ lo_ hi_ di su an) sz) := by
  refine Met.ofW (cc := cX8_ofOne) (maxL := 3) (ret := (some .int)) (by decide) rfl ?_
  intro pg e s m args below meth c s₁ B hml hv
  obtain ⟨rfl, hsz, hP, hK, hD0⟩ := hv
  have hx := B.exec
  have hb := B.bytes
  have hr := B.returns
  have hts := atoms_spec (ws := wsX8_ofOne) B.pre
  have hown : s.vm.findClass RX8 = some m.cls := findClass_of_methodNamed B.named
  have hlocks := B.notSynchronized
  subst hsz
  obtain ⟨A, hAe⟩ : ∃ A : Nat → Prop, A = va_A (wM y h q tw pn ki on ot ab be zA zB zC zD zF zT fo lw hg at_ tl th wo wl wh is_ lo_ hi_ di su an) s.heap.size := ⟨_, rfl⟩
  have hD : va_D A (wM y h q tw pn ki on ot ab be zA zB zC zD zF zT fo lw hg at_ tl th wo wl wh is_ lo_ hi_ di su an) := by rw [hAe]; exact hD0.self (sz := s.heap.size)
  have hA : ∀ q : Nat, s.heap.size ≤ q → A q := fun q h => by rw [hAe]; exact Or.inr h
  have hS : va_S A s.heap s.heap [] := va_S.rf
  have hl := lv_entry ([.ref h, .int v, .int a]) (n := 3) (Nat.le_of_ble_eq_true rfl)
  rw [lg_entry_eq]
  generalize (lg_sl ([.ref h, .int v, .int a]) ++ List.replicate (3 - (lg_sl ([.ref h, .int v, .int a])).length) Slot.unset).toArray = ls at hl ⊢
  have hl : lv_has ls 3 [(0, .ref h), (1, .int v), (2, .int a)] := hl
  refine lv_aload_n hx hb dX8_ofOne_0 rfl (lv_at hl 0 rfl) ?_
  refine lv_aload_n hx hb dX8_ofOne_1 rfl (lv_at hl 0 rfl) ?_
  refine lv_iload_n hx hb dX8_ofOne_2 rfl (lv_at hl 2 rfl) ?_
  refine g_callR (v0 := .int (gB (sp_X8_isProgram pn a))) (va_runV (As := [.int a]) (rest := [.ref h]) ⟨hx, hb, hml, hown, hts⟩ (c_X8_isProgram l D y s.heap.size h q tw pn ki on ot ab be zA zB zC zD zF zT fo lw hg at_ tl th wo wl wh is_ lo_ hi_ di su an a) (cwV 1 hts gX8_ofOne_X8_isProgram rfl rfl rfl (by decide +kernel) ⟨Nat.le_of_ble_eq_true rfl, Nat.le_of_ble_eq_true rfl⟩) (gP_VA hP hD hK 0 rfl rfl) rfl rfl hl.1 rfl (lv_room (Nat.le_of_ble_eq_true rfl)) dX8_ofOne_3 ⟨Nat.zero_le _, Nat.zero_le _⟩) ?_
  refine g_bne (tgt := 13) hx hb dX8_ofOne_6 (by decide) (fun c_6 => ?_) (fun c_6 => absurd yA c_6)
  refine lv_aload_n hx hb dX8_ofOne_13 rfl (lv_at hl 0 rfl) ?_
  refine va_get (D := D) (ci := 6) (v := .int (nI pn)) (C := RX8) (T := TX8) (N := 28) hx hb hts in_X8_ofOne_X8 hown hK.1 hP 0 rfl rfl 1 (by decide) (hts (.fieldLink RX8 85 "NestlimitModel" "programs" "I") (List.mem_of_getElem? (i := 1) rfl)) (fun _ h9 => h9) rfl dX8_ofOne_14 ?_
  refine lv_bipush (v := 40) hx hb dX8_ofOne_17 (by decide) ?_
  refine lv_icmp_ne (tgt := 26) hx hb dX8_ofOne_19 (by decide) (fun c_19 => absurd hf c_19) (fun c_19 => ?_)
  refine lv_iconst (v := 2) hx hb dX8_ofOne_22 (by decide) ?_
  refine lv_goto (tgt := 27) hx hb dX8_ofOne_23 (by decide) ?_
  refine g_callA1 (v0 := .int (gB (sp_X8_holds 2))) (w0 := wM y h q 2 pn ki on ot ab be zA zB zC zD zF zT fo lw hg at_ tl th wo wl wh is_ lo_ hi_ di su an) (va_runV (As := [.int 2]) (rest := []) ⟨hx, hb, hml, hown, hts⟩ (c_X8_holds l D y s.heap.size h q tw pn ki on ot ab be zA zB zC zD zF zT fo lw hg at_ tl th wo wl wh is_ lo_ hi_ di su an 2) (cwV 1 hts gX8_ofOne_X8_holds rfl rfl rfl (by decide +kernel) ⟨Nat.le_of_ble_eq_true rfl, Nat.le_of_ble_eq_true rfl⟩) (gP_VA hP hD hK 0 rfl rfl) rfl rfl hl.1 rfl (lv_room (Nat.le_of_ble_eq_true rfl)) dX8_ofOne_27 ⟨Nat.zero_le _, Nat.zero_le _⟩) hP hD hS hA rfl (fun H locs hP hD hS => ?_)
  refine g_beq (tgt := 43) hx hb dX8_ofOne_30 (by decide) (fun c_30 => ?_) (fun c_30 => absurd c_30 (by decide))
  refine lv_iconst (v := 0) hx hb dX8_ofOne_43 (by decide) ?_
  exact W.iret (v := 0) hx hb hr (fun t ht hW => ⟨⟨_, wM y h q 2 pn ki on ot ab be zA zB zC zD zF zT fo lw hg at_ tl th wo wl wh is_ lo_ hi_ di su an, rfl, ⟨congrArg (fun z => some (Value.int z)) (rfl), rfl⟩, rfl, by rw [ht]; exact hP⟩, by rw [← hAe]; exact hS.F ht⟩) (by rw [← hAe]; exact hS.2.2) dX8_ofOne_44
set_option maxHeartbeats 4000000 in
set_option maxRecDepth 100000 in
theorem c_X8_ofTwo_0_1 (l : Launch) (D : va_G) (y : Nat → ClassId) (sz : Nat) (h : Nat) (q : Nat → Nat) (tw : Int32) (pn : Nat) (ki on ot ab be zA zB zC zD zF zT : Nat → Int32) (fo : Nat → Bool) (lw hg : Nat → Int64) (at_ : Nat → Bool) (tl th : Nat → Int64) (wo : Nat → Bool) (wl wh : Nat → Int64) (is_ : Bool) (lo_ hi_ : Int64) (di : Nat → Int32) (su : Nat → Int64) (an : Nat → Bool) (o1 o2 : Nat) (cF : Nat → Bool) (cL cH : Nat → Int64) (hpn : pn < 40) (ho1 : o1 < pn) (ho2 : o2 < pn) (yA : sp_X8_isProgram pn (nI o1) = true) (yB : sp_X8_isProgram pn (nI o2) = true) (hcan : ∀ p, p < 25 → ∀ (x1 x2 x3 x4 : Int64), fo (25 * o1 + p) = true → fo (25 * o2 + p) = true → mkOK 1 be zF zT pn (lw (25 * o1 + p)) (hg (25 * o1 + p)) ∧ mk_is 1 ab be zA zB zC zD zF zT x3 x4 pn p (lw (25 * o1 + p)) (hg (25 * o1 + p)) (lw (25 * o2 + p)) (hg (25 * o2 + p)) = cF p ∧ (cF p = true → mk_lo 1 ab be zA zB zC zD zF zT x3 x4 pn p (lw (25 * o1 + p)) (hg (25 * o1 + p)) (lw (25 * o2 + p)) (hg (25 * o2 + p)) = cL p ∧ mk_hi 1 ab be zA zB zC zD zF zT x3 x4 pn p (lw (25 * o1 + p)) (hg (25 * o1 + p)) (lw (25 * o2 + p)) (hg (25 * o2 + p)) = cH p)) (hno : ∀ p, p < 25 → ¬ (fo (25 * o1 + p) = true ∧ fo (25 * o2 + p) = true) → cF p = false) : Met l yX8_ofTwo wsX8_ofTwo ({ frames := 6, cells := 0, slots := 0, locals := 172 } : Room) (gP D y [.ref h, .int 1, .int (nI o1), .int (nI o2)] (wM y h q tw pn ki on ot ab be zA zB zC zD zF zT fo lw hg at_ tl th wo wl wh is_ lo_ hi_ di su an) sz) (gQ D (wM y h q tw pn ki on ot ab be zA zB zC zD zF zT fo lw hg at_ tl th wo wl wh is_ lo_ hi_ di su an) (fun v w => ∃ (fo1 : Nat → Bool) (lw1 : Nat → Int64) (hg1 : Nat → Int64) (at1 : Nat → Bool) (tl1 : Nat → Int64) (th1 : Nat → Int64) (is1 : Bool) (lo1 : Int64) (hi1 : Int64), v = some (.int (nI pn)) ∧ w = (wM y h q 0 (pn + 1) (upd ki pn (nI 1)) (upd on pn (nI o1)) (upd ot pn (nI o2)) ab be zA zB zC zD zF zT fo1 lw1 hg1 at1 tl1 th1 wo wl wh is1 lo1 hi1 di su an) ∧ (adS pn fo fo1 lw hg lw1 hg1 at_ at1 tl th tl1 th1) ∧ (∀ p, p < 25 → adR pn cF cL cH fo1 lw1 hg1 at1 tl1 th1 p))) 0 0 (va_A (wM y h q tw pn ki on ot ab be zA zB zC zD zF zT fo lw hg at_ tl th wo wl wh is_ lo_ hi_ di su an) sz) := by
  refine Met.ofW (cc := cX8_ofTwo) (maxL := 5) (ret := (some .int)) (by decide) rfl ?_
  intro pg e s m args below meth c s₁ B hml hv
  obtain ⟨rfl, hsz, hP, hK, hD0⟩ := hv
  have hx := B.exec
  have hb := B.bytes
  have hr := B.returns
  have hts := atoms_spec (ws := wsX8_ofTwo) B.pre
  have hown : s.vm.findClass RX8 = some m.cls := findClass_of_methodNamed B.named
  have hlocks := B.notSynchronized
  subst hsz
  obtain ⟨A, hAe⟩ : ∃ A : Nat → Prop, A = va_A (wM y h q tw pn ki on ot ab be zA zB zC zD zF zT fo lw hg at_ tl th wo wl wh is_ lo_ hi_ di su an) s.heap.size := ⟨_, rfl⟩
  have hD : va_D A (wM y h q tw pn ki on ot ab be zA zB zC zD zF zT fo lw hg at_ tl th wo wl wh is_ lo_ hi_ di su an) := by rw [hAe]; exact hD0.self (sz := s.heap.size)
  have hA : ∀ q : Nat, s.heap.size ≤ q → A q := fun q h => by rw [hAe]; exact Or.inr h
  have hS : va_S A s.heap s.heap [] := va_S.rf
  have hl := lv_entry ([.ref h, .int 1, .int (nI o1), .int (nI o2)]) (n := 5) (Nat.le_of_ble_eq_true rfl)
  rw [lg_entry_eq]
  generalize (lg_sl ([.ref h, .int 1, .int (nI o1), .int (nI o2)]) ++ List.replicate (5 - (lg_sl ([.ref h, .int 1, .int (nI o1), .int (nI o2)])).length) Slot.unset).toArray = ls at hl ⊢
  have hl : lv_has ls 5 [(0, .ref h), (1, .int 1), (2, .int (nI o1)), (3, .int (nI o2))] := hl
  refine lv_aload_n hx hb dX8_ofTwo_0 rfl (lv_at hl 0 rfl) ?_
  refine lv_iload_n hx hb dX8_ofTwo_1 rfl (lv_at hl 2 rfl) ?_
  refine g_callR (v0 := .int (gB (sp_X8_isProgram pn (nI o1)))) (va_runV (As := [.int (nI o1)]) (rest := []) ⟨hx, hb, hml, hown, hts⟩ (c_X8_isProgram l D y s.heap.size h q tw pn ki on ot ab be zA zB zC zD zF zT fo lw hg at_ tl th wo wl wh is_ lo_ hi_ di su an (nI o1)) (cwV 1 hts gX8_ofTwo_X8_isProgram rfl rfl rfl (by decide +kernel) ⟨Nat.le_of_ble_eq_true rfl, Nat.le_of_ble_eq_true rfl⟩) (gP_VA hP hD hK 0 rfl rfl) rfl rfl hl.1 rfl (lv_room (Nat.le_of_ble_eq_true rfl)) dX8_ofTwo_2 ⟨Nat.zero_le _, Nat.zero_le _⟩) ?_
  refine g_beq (tgt := 20) hx hb dX8_ofTwo_5 (by decide) (fun c_5 => absurd yA c_5) (fun c_5 => ?_)
  refine lv_aload_n hx hb dX8_ofTwo_8 rfl (lv_at hl 0 rfl) ?_
  refine lv_iload_n hx hb dX8_ofTwo_9 rfl (lv_at hl 3 rfl) ?_
  refine g_callR (v0 := .int (gB (sp_X8_isProgram pn (nI o2)))) (va_runV (As := [.int (nI o2)]) (rest := []) ⟨hx, hb, hml, hown, hts⟩ (c_X8_isProgram l D y s.heap.size h q tw pn ki on ot ab be zA zB zC zD zF zT fo lw hg at_ tl th wo wl wh is_ lo_ hi_ di su an (nI o2)) (cwV 1 hts gX8_ofTwo_X8_isProgram rfl rfl rfl (by decide +kernel) ⟨Nat.le_of_ble_eq_true rfl, Nat.le_of_ble_eq_true rfl⟩) (gP_VA hP hD hK 0 rfl rfl) rfl rfl hl.1 rfl (lv_room (Nat.le_of_ble_eq_true rfl)) dX8_ofTwo_10 ⟨Nat.zero_le _, Nat.zero_le _⟩) ?_
  refine g_beq (tgt := 20) hx hb dX8_ofTwo_13 (by decide) (fun c_13 => absurd yB c_13) (fun c_13 => ?_)
  refine lv_iconst (v := 1) hx hb dX8_ofTwo_16 (by decide) ?_
  refine lv_goto (tgt := 21) hx hb dX8_ofTwo_17 (by decide) ?_
  refine lv_istore (lv' := [(4, .int 1), (0, .ref h), (1, .int 1), (2, .int (nI o1)), (3, .int (nI o2))]) hx hb dX8_ofTwo_21 hl (by decide) rfl (fun ls hl => ?_)
  refine lv_aload_n hx hb dX8_ofTwo_23 rfl (lv_at hl 1 rfl) ?_
  refine lv_iload hx hb dX8_ofTwo_24 (lv_at hl 0 rfl) ?_
  refine lv_if_ne (tgt := 33) hx hb dX8_ofTwo_26 (by decide) (fun c_26 => ?_) (fun c_26 => absurd c_26 (by decide))
  refine lv_aload_n hx hb dX8_ofTwo_33 rfl (lv_at hl 1 rfl) ?_
  refine va_get (D := D) (ci := 6) (v := .int (nI pn)) (C := RX8) (T := TX8) (N := 28) hx hb hts in_X8_ofTwo_X8 hown hK.1 hP 0 rfl rfl 1 (by decide) (hts (.fieldLink RX8 85 "NestlimitModel" "programs" "I") (List.mem_of_getElem? (i := 1) rfl)) (fun _ h9 => h9) rfl dX8_ofTwo_34 ?_
  refine lv_bipush (v := 40) hx hb dX8_ofTwo_37 (by decide) ?_
  refine lv_icmp_ne (tgt := 46) hx hb dX8_ofTwo_39 (by decide) (fun c_39 => ?_) (fun c_39 => absurd c_39 (g_n40 hpn))
  refine lv_iconst (v := 0) hx hb dX8_ofTwo_46 (by decide) ?_
  refine g_callA1 (v0 := .int (gB (sp_X8_holds 0))) (w0 := wM y h q 0 pn ki on ot ab be zA zB zC zD zF zT fo lw hg at_ tl th wo wl wh is_ lo_ hi_ di su an) (va_runV (As := [.int 0]) (rest := []) ⟨hx, hb, hml, hown, hts⟩ (c_X8_holds l D y s.heap.size h q tw pn ki on ot ab be zA zB zC zD zF zT fo lw hg at_ tl th wo wl wh is_ lo_ hi_ di su an 0) (cwV 1 hts gX8_ofTwo_X8_holds rfl rfl rfl (by decide +kernel) ⟨Nat.le_of_ble_eq_true rfl, Nat.le_of_ble_eq_true rfl⟩) (gP_VA hP hD hK 0 rfl rfl) rfl rfl hl.1 rfl (lv_room (Nat.le_of_ble_eq_true rfl)) dX8_ofTwo_47 ⟨Nat.zero_le _, Nat.zero_le _⟩) hP hD hS hA rfl (fun H locs hP hD hS => ?_)
  refine g_beq (tgt := 63) hx hb dX8_ofTwo_50 (by decide) (fun c_50 => absurd (by decide) c_50) (fun c_50 => ?_)
  refine lv_aload_n hx hb dX8_ofTwo_53 rfl (lv_at hl 1 rfl) ?_
  refine lv_iload_n hx hb dX8_ofTwo_54 rfl (lv_at hl 2 rfl) ?_
  refine lv_iload_n hx hb dX8_ofTwo_55 rfl (lv_at hl 3 rfl) ?_
  refine lv_iload_n hx hb dX8_ofTwo_56 rfl (lv_at hl 4 rfl) ?_
  refine g_callA (va_runV (As := [.int 1, .int (nI o1), .int (nI o2)]) (rest := []) ⟨hx, hb, hml, hown, hts⟩ (c_X8_adds_2 l D y H.size h q 0 pn ki on ot ab be zA zB zC zD zF zT fo lw hg at_ tl th wo wl wh is_ lo_ hi_ di su an 1 o1 o2 cF cL cH hpn (by decide) ho1 ho2 hcan hno) (cwV 3 hts gX8_ofTwo_X8_adds rfl rfl rfl (by decide +kernel) ⟨Nat.le_of_ble_eq_true rfl, Nat.le_of_ble_eq_true rfl⟩) (gP_VA hP hD hK 0 rfl rfl) rfl rfl hl.1 rfl (lv_room (Nat.le_of_ble_eq_true rfl)) dX8_ofTwo_57 ⟨Nat.zero_le _, Nat.zero_le _⟩) hP hD hS hA (fun v w1 H locs hf hP hD hS => ?_)
  obtain ⟨fo1_57, lw1_57, hg1_57, at1_57, tl1_57, th1_57, is1_57, lo1_57, hi1_57, rfl, rfl, h57_0, h57_1⟩ := hf
  have hP : va_P D vwCl (wM y h q 0 (pn + 1) (upd ki pn (nI 1)) (upd on pn (nI o1)) (upd ot pn (nI o2)) ab be zA zB zC zD zF zT fo1_57 lw1_57 hg1_57 at1_57 tl1_57 th1_57 wo wl wh is1_57 lo1_57 hi1_57 di su an) H := hP
  have hD : va_D A (wM y h q 0 (pn + 1) (upd ki pn (nI 1)) (upd on pn (nI o1)) (upd ot pn (nI o2)) ab be zA zB zC zD zF zT fo1_57 lw1_57 hg1_57 at1_57 tl1_57 th1_57 wo wl wh is1_57 lo1_57 hi1_57 di su an) := hD
  refine lv_goto (tgt := 64) hx hb dX8_ofTwo_60 (by decide) ?_
  exact W.iret (v := nI pn) hx hb hr (fun t ht hW => ⟨⟨some (.int (nI pn)), wM y h q 0 (pn + 1) (upd ki pn (nI 1)) (upd on pn (nI o1)) (upd ot pn (nI o2)) ab be zA zB zC zD zF zT fo1_57 lw1_57 hg1_57 at1_57 tl1_57 th1_57 wo wl wh is1_57 lo1_57 hi1_57 di su an, rfl, ⟨fo1_57, lw1_57, hg1_57, at1_57, tl1_57, th1_57, is1_57, lo1_57, hi1_57, rfl, rfl, h57_0, h57_1⟩, rfl, by rw [ht]; exact hP⟩, by rw [← hAe]; exact hS.F ht⟩) (by rw [← hAe]; exact hS.2.2) dX8_ofTwo_64
set_option maxHeartbeats 4000000 in
set_option maxRecDepth 100000 in
theorem c_X8_ofTwo_0_2 (l : Launch) (D : va_G) (y : Nat → ClassId) (sz : Nat) (h : Nat) (q : Nat → Nat) (tw : Int32) (pn : Nat) (ki on ot ab be zA zB zC zD zF zT : Nat → Int32) (fo : Nat → Bool) (lw hg : Nat → Int64) (at_ : Nat → Bool) (tl th : Nat → Int64) (wo : Nat → Bool) (wl wh : Nat → Int64) (is_ : Bool) (lo_ hi_ : Int64) (di : Nat → Int32) (su : Nat → Int64) (an : Nat → Bool) (o1 o2 : Nat) (cF : Nat → Bool) (cL cH : Nat → Int64) (hpn : pn < 40) (ho1 : o1 < pn) (ho2 : o2 < pn) (yA : sp_X8_isProgram pn (nI o1) = true) (yB : sp_X8_isProgram pn (nI o2) = true) (hcan : ∀ p, p < 25 → ∀ (x1 x2 x3 x4 : Int64), fo (25 * o1 + p) = true → fo (25 * o2 + p) = true → mkOK 2 be zF zT pn (lw (25 * o1 + p)) (hg (25 * o1 + p)) ∧ mk_is 2 ab be zA zB zC zD zF zT x3 x4 pn p (lw (25 * o1 + p)) (hg (25 * o1 + p)) (lw (25 * o2 + p)) (hg (25 * o2 + p)) = cF p ∧ (cF p = true → mk_lo 2 ab be zA zB zC zD zF zT x3 x4 pn p (lw (25 * o1 + p)) (hg (25 * o1 + p)) (lw (25 * o2 + p)) (hg (25 * o2 + p)) = cL p ∧ mk_hi 2 ab be zA zB zC zD zF zT x3 x4 pn p (lw (25 * o1 + p)) (hg (25 * o1 + p)) (lw (25 * o2 + p)) (hg (25 * o2 + p)) = cH p)) (hno : ∀ p, p < 25 → ¬ (fo (25 * o1 + p) = true ∧ fo (25 * o2 + p) = true) → cF p = false) : Met l yX8_ofTwo wsX8_ofTwo ({ frames := 6, cells := 0, slots := 0, locals := 172 } : Room) (gP D y [.ref h, .int 2, .int (nI o1), .int (nI o2)] (wM y h q tw pn ki on ot ab be zA zB zC zD zF zT fo lw hg at_ tl th wo wl wh is_ lo_ hi_ di su an) sz) (gQ D (wM y h q tw pn ki on ot ab be zA zB zC zD zF zT fo lw hg at_ tl th wo wl wh is_ lo_ hi_ di su an) (fun v w => ∃ (fo1 : Nat → Bool) (lw1 : Nat → Int64) (hg1 : Nat → Int64) (at1 : Nat → Bool) (tl1 : Nat → Int64) (th1 : Nat → Int64) (is1 : Bool) (lo1 : Int64) (hi1 : Int64), v = some (.int (nI pn)) ∧ w = (wM y h q 0 (pn + 1) (upd ki pn (nI 2)) (upd on pn (nI o1)) (upd ot pn (nI o2)) ab be zA zB zC zD zF zT fo1 lw1 hg1 at1 tl1 th1 wo wl wh is1 lo1 hi1 di su an) ∧ (adS pn fo fo1 lw hg lw1 hg1 at_ at1 tl th tl1 th1) ∧ (∀ p, p < 25 → adR pn cF cL cH fo1 lw1 hg1 at1 tl1 th1 p))) 0 0 (va_A (wM y h q tw pn ki on ot ab be zA zB zC zD zF zT fo lw hg at_ tl th wo wl wh is_ lo_ hi_ di su an) sz) := by
  refine Met.ofW (cc := cX8_ofTwo) (maxL := 5) (ret := (some .int)) (by decide) rfl ?_
  intro pg e s m args below meth c s₁ B hml hv
  obtain ⟨rfl, hsz, hP, hK, hD0⟩ := hv
  have hx := B.exec
  have hb := B.bytes
  have hr := B.returns
  have hts := atoms_spec (ws := wsX8_ofTwo) B.pre
  have hown : s.vm.findClass RX8 = some m.cls := findClass_of_methodNamed B.named
  have hlocks := B.notSynchronized
  subst hsz
  obtain ⟨A, hAe⟩ : ∃ A : Nat → Prop, A = va_A (wM y h q tw pn ki on ot ab be zA zB zC zD zF zT fo lw hg at_ tl th wo wl wh is_ lo_ hi_ di su an) s.heap.size := ⟨_, rfl⟩
  have hD : va_D A (wM y h q tw pn ki on ot ab be zA zB zC zD zF zT fo lw hg at_ tl th wo wl wh is_ lo_ hi_ di su an) := by rw [hAe]; exact hD0.self (sz := s.heap.size)
  have hA : ∀ q : Nat, s.heap.size ≤ q → A q := fun q h => by rw [hAe]; exact Or.inr h
  have hS : va_S A s.heap s.heap [] := va_S.rf
  have hl := lv_entry ([.ref h, .int 2, .int (nI o1), .int (nI o2)]) (n := 5) (Nat.le_of_ble_eq_true rfl)
  rw [lg_entry_eq]
  generalize (lg_sl ([.ref h, .int 2, .int (nI o1), .int (nI o2)]) ++ List.replicate (5 - (lg_sl ([.ref h, .int 2, .int (nI o1), .int (nI o2)])).length) Slot.unset).toArray = ls at hl ⊢
  have hl : lv_has ls 5 [(0, .ref h), (1, .int 2), (2, .int (nI o1)), (3, .int (nI o2))] := hl
  refine lv_aload_n hx hb dX8_ofTwo_0 rfl (lv_at hl 0 rfl) ?_
  refine lv_iload_n hx hb dX8_ofTwo_1 rfl (lv_at hl 2 rfl) ?_
  refine g_callR (v0 := .int (gB (sp_X8_isProgram pn (nI o1)))) (va_runV (As := [.int (nI o1)]) (rest := []) ⟨hx, hb, hml, hown, hts⟩ (c_X8_isProgram l D y s.heap.size h q tw pn ki on ot ab be zA zB zC zD zF zT fo lw hg at_ tl th wo wl wh is_ lo_ hi_ di su an (nI o1)) (cwV 1 hts gX8_ofTwo_X8_isProgram rfl rfl rfl (by decide +kernel) ⟨Nat.le_of_ble_eq_true rfl, Nat.le_of_ble_eq_true rfl⟩) (gP_VA hP hD hK 0 rfl rfl) rfl rfl hl.1 rfl (lv_room (Nat.le_of_ble_eq_true rfl)) dX8_ofTwo_2 ⟨Nat.zero_le _, Nat.zero_le _⟩) ?_
  refine g_beq (tgt := 20) hx hb dX8_ofTwo_5 (by decide) (fun c_5 => absurd yA c_5) (fun c_5 => ?_)
  refine lv_aload_n hx hb dX8_ofTwo_8 rfl (lv_at hl 0 rfl) ?_
  refine lv_iload_n hx hb dX8_ofTwo_9 rfl (lv_at hl 3 rfl) ?_
  refine g_callR (v0 := .int (gB (sp_X8_isProgram pn (nI o2)))) (va_runV (As := [.int (nI o2)]) (rest := []) ⟨hx, hb, hml, hown, hts⟩ (c_X8_isProgram l D y s.heap.size h q tw pn ki on ot ab be zA zB zC zD zF zT fo lw hg at_ tl th wo wl wh is_ lo_ hi_ di su an (nI o2)) (cwV 1 hts gX8_ofTwo_X8_isProgram rfl rfl rfl (by decide +kernel) ⟨Nat.le_of_ble_eq_true rfl, Nat.le_of_ble_eq_true rfl⟩) (gP_VA hP hD hK 0 rfl rfl) rfl rfl hl.1 rfl (lv_room (Nat.le_of_ble_eq_true rfl)) dX8_ofTwo_10 ⟨Nat.zero_le _, Nat.zero_le _⟩) ?_
  refine g_beq (tgt := 20) hx hb dX8_ofTwo_13 (by decide) (fun c_13 => absurd yB c_13) (fun c_13 => ?_)
  refine lv_iconst (v := 1) hx hb dX8_ofTwo_16 (by decide) ?_
  refine lv_goto (tgt := 21) hx hb dX8_ofTwo_17 (by decide) ?_
  refine lv_istore (lv' := [(4, .int 1), (0, .ref h), (1, .int 2), (2, .int (nI o1)), (3, .int (nI o2))]) hx hb dX8_ofTwo_21 hl (by decide) rfl (fun ls hl => ?_)
  refine lv_aload_n hx hb dX8_ofTwo_23 rfl (lv_at hl 1 rfl) ?_
  refine lv_iload hx hb dX8_ofTwo_24 (lv_at hl 0 rfl) ?_
  refine lv_if_ne (tgt := 33) hx hb dX8_ofTwo_26 (by decide) (fun c_26 => ?_) (fun c_26 => absurd c_26 (by decide))
  refine lv_aload_n hx hb dX8_ofTwo_33 rfl (lv_at hl 1 rfl) ?_
  refine va_get (D := D) (ci := 6) (v := .int (nI pn)) (C := RX8) (T := TX8) (N := 28) hx hb hts in_X8_ofTwo_X8 hown hK.1 hP 0 rfl rfl 1 (by decide) (hts (.fieldLink RX8 85 "NestlimitModel" "programs" "I") (List.mem_of_getElem? (i := 1) rfl)) (fun _ h9 => h9) rfl dX8_ofTwo_34 ?_
  refine lv_bipush (v := 40) hx hb dX8_ofTwo_37 (by decide) ?_
  refine lv_icmp_ne (tgt := 46) hx hb dX8_ofTwo_39 (by decide) (fun c_39 => ?_) (fun c_39 => absurd c_39 (g_n40 hpn))
  refine lv_iconst (v := 0) hx hb dX8_ofTwo_46 (by decide) ?_
  refine g_callA1 (v0 := .int (gB (sp_X8_holds 0))) (w0 := wM y h q 0 pn ki on ot ab be zA zB zC zD zF zT fo lw hg at_ tl th wo wl wh is_ lo_ hi_ di su an) (va_runV (As := [.int 0]) (rest := []) ⟨hx, hb, hml, hown, hts⟩ (c_X8_holds l D y s.heap.size h q tw pn ki on ot ab be zA zB zC zD zF zT fo lw hg at_ tl th wo wl wh is_ lo_ hi_ di su an 0) (cwV 1 hts gX8_ofTwo_X8_holds rfl rfl rfl (by decide +kernel) ⟨Nat.le_of_ble_eq_true rfl, Nat.le_of_ble_eq_true rfl⟩) (gP_VA hP hD hK 0 rfl rfl) rfl rfl hl.1 rfl (lv_room (Nat.le_of_ble_eq_true rfl)) dX8_ofTwo_47 ⟨Nat.zero_le _, Nat.zero_le _⟩) hP hD hS hA rfl (fun H locs hP hD hS => ?_)
  refine g_beq (tgt := 63) hx hb dX8_ofTwo_50 (by decide) (fun c_50 => absurd (by decide) c_50) (fun c_50 => ?_)
  refine lv_aload_n hx hb dX8_ofTwo_53 rfl (lv_at hl 1 rfl) ?_
  refine lv_iload_n hx hb dX8_ofTwo_54 rfl (lv_at hl 2 rfl) ?_
  refine lv_iload_n hx hb dX8_ofTwo_55 rfl (lv_at hl 3 rfl) ?_
  refine lv_iload_n hx hb dX8_ofTwo_56 rfl (lv_at hl 4 rfl) ?_
  refine g_callA (va_runV (As := [.int 2, .int (nI o1), .int (nI o2)]) (rest := []) ⟨hx, hb, hml, hown, hts⟩ (c_X8_adds_2 l D y H.size h q 0 pn ki on ot ab be zA zB zC zD zF zT fo lw hg at_ tl th wo wl wh is_ lo_ hi_ di su an 2 o1 o2 cF cL cH hpn (by decide) ho1 ho2 hcan hno) (cwV 3 hts gX8_ofTwo_X8_adds rfl rfl rfl (by decide +kernel) ⟨Nat.le_of_ble_eq_true rfl, Nat.le_of_ble_eq_true rfl⟩) (gP_VA hP hD hK 0 rfl rfl) rfl rfl hl.1 rfl (lv_room (Nat.le_of_ble_eq_true rfl)) dX8_ofTwo_57 ⟨Nat.zero_le _, Nat.zero_le _⟩) hP hD hS hA (fun v w1 H locs hf hP hD hS => ?_)
  obtain ⟨fo1_57, lw1_57, hg1_57, at1_57, tl1_57, th1_57, is1_57, lo1_57, hi1_57, rfl, rfl, h57_0, h57_1⟩ := hf
  have hP : va_P D vwCl (wM y h q 0 (pn + 1) (upd ki pn (nI 2)) (upd on pn (nI o1)) (upd ot pn (nI o2)) ab be zA zB zC zD zF zT fo1_57 lw1_57 hg1_57 at1_57 tl1_57 th1_57 wo wl wh is1_57 lo1_57 hi1_57 di su an) H := hP
  have hD : va_D A (wM y h q 0 (pn + 1) (upd ki pn (nI 2)) (upd on pn (nI o1)) (upd ot pn (nI o2)) ab be zA zB zC zD zF zT fo1_57 lw1_57 hg1_57 at1_57 tl1_57 th1_57 wo wl wh is1_57 lo1_57 hi1_57 di su an) := hD
  refine lv_goto (tgt := 64) hx hb dX8_ofTwo_60 (by decide) ?_
  exact W.iret (v := nI pn) hx hb hr (fun t ht hW => ⟨⟨some (.int (nI pn)), wM y h q 0 (pn + 1) (upd ki pn (nI 2)) (upd on pn (nI o1)) (upd ot pn (nI o2)) ab be zA zB zC zD zF zT fo1_57 lw1_57 hg1_57 at1_57 tl1_57 th1_57 wo wl wh is1_57 lo1_57 hi1_57 di su an, rfl, ⟨fo1_57, lw1_57, hg1_57, at1_57, tl1_57, th1_57, is1_57, lo1_57, hi1_57, rfl, rfl, h57_0, h57_1⟩, rfl, by rw [ht]; exact hP⟩, by rw [← hAe]; exact hS.F ht⟩) (by rw [← hAe]; exact hS.2.2) dX8_ofTwo_64
set_option maxHeartbeats 4000000 in
set_option maxRecDepth 100000 in
theorem c_X8_ofTwo_0_3 (l : Launch) (D : va_G) (y : Nat → ClassId) (sz : Nat) (h : Nat) (q : Nat → Nat) (tw : Int32) (pn : Nat) (ki on ot ab be zA zB zC zD zF zT : Nat → Int32) (fo : Nat → Bool) (lw hg : Nat → Int64) (at_ : Nat → Bool) (tl th : Nat → Int64) (wo : Nat → Bool) (wl wh : Nat → Int64) (is_ : Bool) (lo_ hi_ : Int64) (di : Nat → Int32) (su : Nat → Int64) (an : Nat → Bool) (o1 o2 : Nat) (cF : Nat → Bool) (cL cH : Nat → Int64) (hpn : pn < 40) (ho1 : o1 < pn) (ho2 : o2 < pn) (yA : sp_X8_isProgram pn (nI o1) = true) (yB : sp_X8_isProgram pn (nI o2) = true) (hcan : ∀ p, p < 25 → ∀ (x1 x2 x3 x4 : Int64), fo (25 * o1 + p) = true → fo (25 * o2 + p) = true → mkOK 3 be zF zT pn (lw (25 * o1 + p)) (hg (25 * o1 + p)) ∧ mk_is 3 ab be zA zB zC zD zF zT x3 x4 pn p (lw (25 * o1 + p)) (hg (25 * o1 + p)) (lw (25 * o2 + p)) (hg (25 * o2 + p)) = cF p ∧ (cF p = true → mk_lo 3 ab be zA zB zC zD zF zT x3 x4 pn p (lw (25 * o1 + p)) (hg (25 * o1 + p)) (lw (25 * o2 + p)) (hg (25 * o2 + p)) = cL p ∧ mk_hi 3 ab be zA zB zC zD zF zT x3 x4 pn p (lw (25 * o1 + p)) (hg (25 * o1 + p)) (lw (25 * o2 + p)) (hg (25 * o2 + p)) = cH p)) (hno : ∀ p, p < 25 → ¬ (fo (25 * o1 + p) = true ∧ fo (25 * o2 + p) = true) → cF p = false) : Met l yX8_ofTwo wsX8_ofTwo ({ frames := 6, cells := 0, slots := 0, locals := 172 } : Room) (gP D y [.ref h, .int 3, .int (nI o1), .int (nI o2)] (wM y h q tw pn ki on ot ab be zA zB zC zD zF zT fo lw hg at_ tl th wo wl wh is_ lo_ hi_ di su an) sz) (gQ D (wM y h q tw pn ki on ot ab be zA zB zC zD zF zT fo lw hg at_ tl th wo wl wh is_ lo_ hi_ di su an) (fun v w => ∃ (fo1 : Nat → Bool) (lw1 : Nat → Int64) (hg1 : Nat → Int64) (at1 : Nat → Bool) (tl1 : Nat → Int64) (th1 : Nat → Int64) (is1 : Bool) (lo1 : Int64) (hi1 : Int64), v = some (.int (nI pn)) ∧ w = (wM y h q 0 (pn + 1) (upd ki pn (nI 3)) (upd on pn (nI o1)) (upd ot pn (nI o2)) ab be zA zB zC zD zF zT fo1 lw1 hg1 at1 tl1 th1 wo wl wh is1 lo1 hi1 di su an) ∧ (adS pn fo fo1 lw hg lw1 hg1 at_ at1 tl th tl1 th1) ∧ (∀ p, p < 25 → adR pn cF cL cH fo1 lw1 hg1 at1 tl1 th1 p))) 0 0 (va_A (wM y h q tw pn ki on ot ab be zA zB zC zD zF zT fo lw hg at_ tl th wo wl wh is_ lo_ hi_ di su an) sz) := by
  refine Met.ofW (cc := cX8_ofTwo) (maxL := 5) (ret := (some .int)) (by decide) rfl ?_
  intro pg e s m args below meth c s₁ B hml hv
  obtain ⟨rfl, hsz, hP, hK, hD0⟩ := hv
  have hx := B.exec
  have hb := B.bytes
  have hr := B.returns
  have hts := atoms_spec (ws := wsX8_ofTwo) B.pre
  have hown : s.vm.findClass RX8 = some m.cls := findClass_of_methodNamed B.named
  have hlocks := B.notSynchronized
  subst hsz
  obtain ⟨A, hAe⟩ : ∃ A : Nat → Prop, A = va_A (wM y h q tw pn ki on ot ab be zA zB zC zD zF zT fo lw hg at_ tl th wo wl wh is_ lo_ hi_ di su an) s.heap.size := ⟨_, rfl⟩
  have hD : va_D A (wM y h q tw pn ki on ot ab be zA zB zC zD zF zT fo lw hg at_ tl th wo wl wh is_ lo_ hi_ di su an) := by rw [hAe]; exact hD0.self (sz := s.heap.size)
  have hA : ∀ q : Nat, s.heap.size ≤ q → A q := fun q h => by rw [hAe]; exact Or.inr h
  have hS : va_S A s.heap s.heap [] := va_S.rf
  have hl := lv_entry ([.ref h, .int 3, .int (nI o1), .int (nI o2)]) (n := 5) (Nat.le_of_ble_eq_true rfl)
  rw [lg_entry_eq]
  generalize (lg_sl ([.ref h, .int 3, .int (nI o1), .int (nI o2)]) ++ List.replicate (5 - (lg_sl ([.ref h, .int 3, .int (nI o1), .int (nI o2)])).length) Slot.unset).toArray = ls at hl ⊢
  have hl : lv_has ls 5 [(0, .ref h), (1, .int 3), (2, .int (nI o1)), (3, .int (nI o2))] := hl
  refine lv_aload_n hx hb dX8_ofTwo_0 rfl (lv_at hl 0 rfl) ?_
  refine lv_iload_n hx hb dX8_ofTwo_1 rfl (lv_at hl 2 rfl) ?_
  refine g_callR (v0 := .int (gB (sp_X8_isProgram pn (nI o1)))) (va_runV (As := [.int (nI o1)]) (rest := []) ⟨hx, hb, hml, hown, hts⟩ (c_X8_isProgram l D y s.heap.size h q tw pn ki on ot ab be zA zB zC zD zF zT fo lw hg at_ tl th wo wl wh is_ lo_ hi_ di su an (nI o1)) (cwV 1 hts gX8_ofTwo_X8_isProgram rfl rfl rfl (by decide +kernel) ⟨Nat.le_of_ble_eq_true rfl, Nat.le_of_ble_eq_true rfl⟩) (gP_VA hP hD hK 0 rfl rfl) rfl rfl hl.1 rfl (lv_room (Nat.le_of_ble_eq_true rfl)) dX8_ofTwo_2 ⟨Nat.zero_le _, Nat.zero_le _⟩) ?_
  refine g_beq (tgt := 20) hx hb dX8_ofTwo_5 (by decide) (fun c_5 => absurd yA c_5) (fun c_5 => ?_)
  refine lv_aload_n hx hb dX8_ofTwo_8 rfl (lv_at hl 0 rfl) ?_
  refine lv_iload_n hx hb dX8_ofTwo_9 rfl (lv_at hl 3 rfl) ?_
  refine g_callR (v0 := .int (gB (sp_X8_isProgram pn (nI o2)))) (va_runV (As := [.int (nI o2)]) (rest := []) ⟨hx, hb, hml, hown, hts⟩ (c_X8_isProgram l D y s.heap.size h q tw pn ki on ot ab be zA zB zC zD zF zT fo lw hg at_ tl th wo wl wh is_ lo_ hi_ di su an (nI o2)) (cwV 1 hts gX8_ofTwo_X8_isProgram rfl rfl rfl (by decide +kernel) ⟨Nat.le_of_ble_eq_true rfl, Nat.le_of_ble_eq_true rfl⟩) (gP_VA hP hD hK 0 rfl rfl) rfl rfl hl.1 rfl (lv_room (Nat.le_of_ble_eq_true rfl)) dX8_ofTwo_10 ⟨Nat.zero_le _, Nat.zero_le _⟩) ?_
  refine g_beq (tgt := 20) hx hb dX8_ofTwo_13 (by decide) (fun c_13 => absurd yB c_13) (fun c_13 => ?_)
  refine lv_iconst (v := 1) hx hb dX8_ofTwo_16 (by decide) ?_
  refine lv_goto (tgt := 21) hx hb dX8_ofTwo_17 (by decide) ?_
  refine lv_istore (lv' := [(4, .int 1), (0, .ref h), (1, .int 3), (2, .int (nI o1)), (3, .int (nI o2))]) hx hb dX8_ofTwo_21 hl (by decide) rfl (fun ls hl => ?_)
  refine lv_aload_n hx hb dX8_ofTwo_23 rfl (lv_at hl 1 rfl) ?_
  refine lv_iload hx hb dX8_ofTwo_24 (lv_at hl 0 rfl) ?_
  refine lv_if_ne (tgt := 33) hx hb dX8_ofTwo_26 (by decide) (fun c_26 => ?_) (fun c_26 => absurd c_26 (by decide))
  refine lv_aload_n hx hb dX8_ofTwo_33 rfl (lv_at hl 1 rfl) ?_
  refine va_get (D := D) (ci := 6) (v := .int (nI pn)) (C := RX8) (T := TX8) (N := 28) hx hb hts in_X8_ofTwo_X8 hown hK.1 hP 0 rfl rfl 1 (by decide) (hts (.fieldLink RX8 85 "NestlimitModel" "programs" "I") (List.mem_of_getElem? (i := 1) rfl)) (fun _ h9 => h9) rfl dX8_ofTwo_34 ?_
  refine lv_bipush (v := 40) hx hb dX8_ofTwo_37 (by decide) ?_
  refine lv_icmp_ne (tgt := 46) hx hb dX8_ofTwo_39 (by decide) (fun c_39 => ?_) (fun c_39 => absurd c_39 (g_n40 hpn))
  refine lv_iconst (v := 0) hx hb dX8_ofTwo_46 (by decide) ?_
  refine g_callA1 (v0 := .int (gB (sp_X8_holds 0))) (w0 := wM y h q 0 pn ki on ot ab be zA zB zC zD zF zT fo lw hg at_ tl th wo wl wh is_ lo_ hi_ di su an) (va_runV (As := [.int 0]) (rest := []) ⟨hx, hb, hml, hown, hts⟩ (c_X8_holds l D y s.heap.size h q tw pn ki on ot ab be zA zB zC zD zF zT fo lw hg at_ tl th wo wl wh is_ lo_ hi_ di su an 0) (cwV 1 hts gX8_ofTwo_X8_holds rfl rfl rfl (by decide +kernel) ⟨Nat.le_of_ble_eq_true rfl, Nat.le_of_ble_eq_true rfl⟩) (gP_VA hP hD hK 0 rfl rfl) rfl rfl hl.1 rfl (lv_room (Nat.le_of_ble_eq_true rfl)) dX8_ofTwo_47 ⟨Nat.zero_le _, Nat.zero_le _⟩) hP hD hS hA rfl (fun H locs hP hD hS => ?_)
  refine g_beq (tgt := 63) hx hb dX8_ofTwo_50 (by decide) (fun c_50 => absurd (by decide) c_50) (fun c_50 => ?_)
  refine lv_aload_n hx hb dX8_ofTwo_53 rfl (lv_at hl 1 rfl) ?_
  refine lv_iload_n hx hb dX8_ofTwo_54 rfl (lv_at hl 2 rfl) ?_
  refine lv_iload_n hx hb dX8_ofTwo_55 rfl (lv_at hl 3 rfl) ?_
  refine lv_iload_n hx hb dX8_ofTwo_56 rfl (lv_at hl 4 rfl) ?_
  refine g_callA (va_runV (As := [.int 3, .int (nI o1), .int (nI o2)]) (rest := []) ⟨hx, hb, hml, hown, hts⟩ (c_X8_adds_2 l D y H.size h q 0 pn ki on ot ab be zA zB zC zD zF zT fo lw hg at_ tl th wo wl wh is_ lo_ hi_ di su an 3 o1 o2 cF cL cH hpn (by decide) ho1 ho2 hcan hno) (cwV 3 hts gX8_ofTwo_X8_adds rfl rfl rfl (by decide +kernel) ⟨Nat.le_of_ble_eq_true rfl, Nat.le_of_ble_eq_true rfl⟩) (gP_VA hP hD hK 0 rfl rfl) rfl rfl hl.1 rfl (lv_room (Nat.le_of_ble_eq_true rfl)) dX8_ofTwo_57 ⟨Nat.zero_le _, Nat.zero_le _⟩) hP hD hS hA (fun v w1 H locs hf hP hD hS => ?_)
  obtain ⟨fo1_57, lw1_57, hg1_57, at1_57, tl1_57, th1_57, is1_57, lo1_57, hi1_57, rfl, rfl, h57_0, h57_1⟩ := hf
  have hP : va_P D vwCl (wM y h q 0 (pn + 1) (upd ki pn (nI 3)) (upd on pn (nI o1)) (upd ot pn (nI o2)) ab be zA zB zC zD zF zT fo1_57 lw1_57 hg1_57 at1_57 tl1_57 th1_57 wo wl wh is1_57 lo1_57 hi1_57 di su an) H := hP
  have hD : va_D A (wM y h q 0 (pn + 1) (upd ki pn (nI 3)) (upd on pn (nI o1)) (upd ot pn (nI o2)) ab be zA zB zC zD zF zT fo1_57 lw1_57 hg1_57 at1_57 tl1_57 th1_57 wo wl wh is1_57 lo1_57 hi1_57 di su an) := hD
  refine lv_goto (tgt := 64) hx hb dX8_ofTwo_60 (by decide) ?_
  exact W.iret (v := nI pn) hx hb hr (fun t ht hW => ⟨⟨some (.int (nI pn)), wM y h q 0 (pn + 1) (upd ki pn (nI 3)) (upd on pn (nI o1)) (upd ot pn (nI o2)) ab be zA zB zC zD zF zT fo1_57 lw1_57 hg1_57 at1_57 tl1_57 th1_57 wo wl wh is1_57 lo1_57 hi1_57 di su an, rfl, ⟨fo1_57, lw1_57, hg1_57, at1_57, tl1_57, th1_57, is1_57, lo1_57, hi1_57, rfl, rfl, h57_0, h57_1⟩, rfl, by rw [ht]; exact hP⟩, by rw [← hAe]; exact hS.F ht⟩) (by rw [← hAe]; exact hS.2.2) dX8_ofTwo_64
set_option maxHeartbeats 4000000 in
set_option maxRecDepth 100000 in
theorem c_X8_ofTwo_0_4 (l : Launch) (D : va_G) (y : Nat → ClassId) (sz : Nat) (h : Nat) (q : Nat → Nat) (tw : Int32) (pn : Nat) (ki on ot ab be zA zB zC zD zF zT : Nat → Int32) (fo : Nat → Bool) (lw hg : Nat → Int64) (at_ : Nat → Bool) (tl th : Nat → Int64) (wo : Nat → Bool) (wl wh : Nat → Int64) (is_ : Bool) (lo_ hi_ : Int64) (di : Nat → Int32) (su : Nat → Int64) (an : Nat → Bool) (o1 o2 : Nat) (cF : Nat → Bool) (cL cH : Nat → Int64) (hpn : pn < 40) (ho1 : o1 < pn) (ho2 : o2 < pn) (yA : sp_X8_isProgram pn (nI o1) = true) (yB : sp_X8_isProgram pn (nI o2) = true) (hcan : ∀ p, p < 25 → ∀ (x1 x2 x3 x4 : Int64), fo (25 * o1 + p) = true → fo (25 * o2 + p) = true → mkOK 4 be zF zT pn (lw (25 * o1 + p)) (hg (25 * o1 + p)) ∧ mk_is 4 ab be zA zB zC zD zF zT x3 x4 pn p (lw (25 * o1 + p)) (hg (25 * o1 + p)) (lw (25 * o2 + p)) (hg (25 * o2 + p)) = cF p ∧ (cF p = true → mk_lo 4 ab be zA zB zC zD zF zT x3 x4 pn p (lw (25 * o1 + p)) (hg (25 * o1 + p)) (lw (25 * o2 + p)) (hg (25 * o2 + p)) = cL p ∧ mk_hi 4 ab be zA zB zC zD zF zT x3 x4 pn p (lw (25 * o1 + p)) (hg (25 * o1 + p)) (lw (25 * o2 + p)) (hg (25 * o2 + p)) = cH p)) (hno : ∀ p, p < 25 → ¬ (fo (25 * o1 + p) = true ∧ fo (25 * o2 + p) = true) → cF p = false) : Met l yX8_ofTwo wsX8_ofTwo ({ frames := 6, cells := 0, slots := 0, locals := 172 } : Room) (gP D y [.ref h, .int 4, .int (nI o1), .int (nI o2)] (wM y h q tw pn ki on ot ab be zA zB zC zD zF zT fo lw hg at_ tl th wo wl wh is_ lo_ hi_ di su an) sz) (gQ D (wM y h q tw pn ki on ot ab be zA zB zC zD zF zT fo lw hg at_ tl th wo wl wh is_ lo_ hi_ di su an) (fun v w => ∃ (fo1 : Nat → Bool) (lw1 : Nat → Int64) (hg1 : Nat → Int64) (at1 : Nat → Bool) (tl1 : Nat → Int64) (th1 : Nat → Int64) (is1 : Bool) (lo1 : Int64) (hi1 : Int64), v = some (.int (nI pn)) ∧ w = (wM y h q 0 (pn + 1) (upd ki pn (nI 4)) (upd on pn (nI o1)) (upd ot pn (nI o2)) ab be zA zB zC zD zF zT fo1 lw1 hg1 at1 tl1 th1 wo wl wh is1 lo1 hi1 di su an) ∧ (adS pn fo fo1 lw hg lw1 hg1 at_ at1 tl th tl1 th1) ∧ (∀ p, p < 25 → adR pn cF cL cH fo1 lw1 hg1 at1 tl1 th1 p))) 0 0 (va_A (wM y h q tw pn ki on ot ab be zA zB zC zD zF zT fo lw hg at_ tl th wo wl wh is_ lo_ hi_ di su an) sz) := by
  refine Met.ofW (cc := cX8_ofTwo) (maxL := 5) (ret := (some .int)) (by decide) rfl ?_
  intro pg e s m args below meth c s₁ B hml hv
  obtain ⟨rfl, hsz, hP, hK, hD0⟩ := hv
  have hx := B.exec
  have hb := B.bytes
  have hr := B.returns
  have hts := atoms_spec (ws := wsX8_ofTwo) B.pre
  have hown : s.vm.findClass RX8 = some m.cls := findClass_of_methodNamed B.named
  have hlocks := B.notSynchronized
  subst hsz
  obtain ⟨A, hAe⟩ : ∃ A : Nat → Prop, A = va_A (wM y h q tw pn ki on ot ab be zA zB zC zD zF zT fo lw hg at_ tl th wo wl wh is_ lo_ hi_ di su an) s.heap.size := ⟨_, rfl⟩
  have hD : va_D A (wM y h q tw pn ki on ot ab be zA zB zC zD zF zT fo lw hg at_ tl th wo wl wh is_ lo_ hi_ di su an) := by rw [hAe]; exact hD0.self (sz := s.heap.size)
  have hA : ∀ q : Nat, s.heap.size ≤ q → A q := fun q h => by rw [hAe]; exact Or.inr h
  have hS : va_S A s.heap s.heap [] := va_S.rf
  have hl := lv_entry ([.ref h, .int 4, .int (nI o1), .int (nI o2)]) (n := 5) (Nat.le_of_ble_eq_true rfl)
  rw [lg_entry_eq]
  generalize (lg_sl ([.ref h, .int 4, .int (nI o1), .int (nI o2)]) ++ List.replicate (5 - (lg_sl ([.ref h, .int 4, .int (nI o1), .int (nI o2)])).length) Slot.unset).toArray = ls at hl ⊢
  have hl : lv_has ls 5 [(0, .ref h), (1, .int 4), (2, .int (nI o1)), (3, .int (nI o2))] := hl
  refine lv_aload_n hx hb dX8_ofTwo_0 rfl (lv_at hl 0 rfl) ?_
  refine lv_iload_n hx hb dX8_ofTwo_1 rfl (lv_at hl 2 rfl) ?_
  refine g_callR (v0 := .int (gB (sp_X8_isProgram pn (nI o1)))) (va_runV (As := [.int (nI o1)]) (rest := []) ⟨hx, hb, hml, hown, hts⟩ (c_X8_isProgram l D y s.heap.size h q tw pn ki on ot ab be zA zB zC zD zF zT fo lw hg at_ tl th wo wl wh is_ lo_ hi_ di su an (nI o1)) (cwV 1 hts gX8_ofTwo_X8_isProgram rfl rfl rfl (by decide +kernel) ⟨Nat.le_of_ble_eq_true rfl, Nat.le_of_ble_eq_true rfl⟩) (gP_VA hP hD hK 0 rfl rfl) rfl rfl hl.1 rfl (lv_room (Nat.le_of_ble_eq_true rfl)) dX8_ofTwo_2 ⟨Nat.zero_le _, Nat.zero_le _⟩) ?_
  refine g_beq (tgt := 20) hx hb dX8_ofTwo_5 (by decide) (fun c_5 => absurd yA c_5) (fun c_5 => ?_)
  refine lv_aload_n hx hb dX8_ofTwo_8 rfl (lv_at hl 0 rfl) ?_
  refine lv_iload_n hx hb dX8_ofTwo_9 rfl (lv_at hl 3 rfl) ?_
  refine g_callR (v0 := .int (gB (sp_X8_isProgram pn (nI o2)))) (va_runV (As := [.int (nI o2)]) (rest := []) ⟨hx, hb, hml, hown, hts⟩ (c_X8_isProgram l D y s.heap.size h q tw pn ki on ot ab be zA zB zC zD zF zT fo lw hg at_ tl th wo wl wh is_ lo_ hi_ di su an (nI o2)) (cwV 1 hts gX8_ofTwo_X8_isProgram rfl rfl rfl (by decide +kernel) ⟨Nat.le_of_ble_eq_true rfl, Nat.le_of_ble_eq_true rfl⟩) (gP_VA hP hD hK 0 rfl rfl) rfl rfl hl.1 rfl (lv_room (Nat.le_of_ble_eq_true rfl)) dX8_ofTwo_10 ⟨Nat.zero_le _, Nat.zero_le _⟩) ?_
  refine g_beq (tgt := 20) hx hb dX8_ofTwo_13 (by decide) (fun c_13 => absurd yB c_13) (fun c_13 => ?_)
  refine lv_iconst (v := 1) hx hb dX8_ofTwo_16 (by decide) ?_
  refine lv_goto (tgt := 21) hx hb dX8_ofTwo_17 (by decide) ?_
  refine lv_istore (lv' := [(4, .int 1), (0, .ref h), (1, .int 4), (2, .int (nI o1)), (3, .int (nI o2))]) hx hb dX8_ofTwo_21 hl (by decide) rfl (fun ls hl => ?_)
  refine lv_aload_n hx hb dX8_ofTwo_23 rfl (lv_at hl 1 rfl) ?_
  refine lv_iload hx hb dX8_ofTwo_24 (lv_at hl 0 rfl) ?_
  refine lv_if_ne (tgt := 33) hx hb dX8_ofTwo_26 (by decide) (fun c_26 => ?_) (fun c_26 => absurd c_26 (by decide))
  refine lv_aload_n hx hb dX8_ofTwo_33 rfl (lv_at hl 1 rfl) ?_
  refine va_get (D := D) (ci := 6) (v := .int (nI pn)) (C := RX8) (T := TX8) (N := 28) hx hb hts in_X8_ofTwo_X8 hown hK.1 hP 0 rfl rfl 1 (by decide) (hts (.fieldLink RX8 85 "NestlimitModel" "programs" "I") (List.mem_of_getElem? (i := 1) rfl)) (fun _ h9 => h9) rfl dX8_ofTwo_34 ?_
  refine lv_bipush (v := 40) hx hb dX8_ofTwo_37 (by decide) ?_
  refine lv_icmp_ne (tgt := 46) hx hb dX8_ofTwo_39 (by decide) (fun c_39 => ?_) (fun c_39 => absurd c_39 (g_n40 hpn))
  refine lv_iconst (v := 0) hx hb dX8_ofTwo_46 (by decide) ?_
  refine g_callA1 (v0 := .int (gB (sp_X8_holds 0))) (w0 := wM y h q 0 pn ki on ot ab be zA zB zC zD zF zT fo lw hg at_ tl th wo wl wh is_ lo_ hi_ di su an) (va_runV (As := [.int 0]) (rest := []) ⟨hx, hb, hml, hown, hts⟩ (c_X8_holds l D y s.heap.size h q tw pn ki on ot ab be zA zB zC zD zF zT fo lw hg at_ tl th wo wl wh is_ lo_ hi_ di su an 0) (cwV 1 hts gX8_ofTwo_X8_holds rfl rfl rfl (by decide +kernel) ⟨Nat.le_of_ble_eq_true rfl, Nat.le_of_ble_eq_true rfl⟩) (gP_VA hP hD hK 0 rfl rfl) rfl rfl hl.1 rfl (lv_room (Nat.le_of_ble_eq_true rfl)) dX8_ofTwo_47 ⟨Nat.zero_le _, Nat.zero_le _⟩) hP hD hS hA rfl (fun H locs hP hD hS => ?_)
  refine g_beq (tgt := 63) hx hb dX8_ofTwo_50 (by decide) (fun c_50 => absurd (by decide) c_50) (fun c_50 => ?_)
  refine lv_aload_n hx hb dX8_ofTwo_53 rfl (lv_at hl 1 rfl) ?_
  refine lv_iload_n hx hb dX8_ofTwo_54 rfl (lv_at hl 2 rfl) ?_
  refine lv_iload_n hx hb dX8_ofTwo_55 rfl (lv_at hl 3 rfl) ?_
  refine lv_iload_n hx hb dX8_ofTwo_56 rfl (lv_at hl 4 rfl) ?_
  refine g_callA (va_runV (As := [.int 4, .int (nI o1), .int (nI o2)]) (rest := []) ⟨hx, hb, hml, hown, hts⟩ (c_X8_adds_2 l D y H.size h q 0 pn ki on ot ab be zA zB zC zD zF zT fo lw hg at_ tl th wo wl wh is_ lo_ hi_ di su an 4 o1 o2 cF cL cH hpn (by decide) ho1 ho2 hcan hno) (cwV 3 hts gX8_ofTwo_X8_adds rfl rfl rfl (by decide +kernel) ⟨Nat.le_of_ble_eq_true rfl, Nat.le_of_ble_eq_true rfl⟩) (gP_VA hP hD hK 0 rfl rfl) rfl rfl hl.1 rfl (lv_room (Nat.le_of_ble_eq_true rfl)) dX8_ofTwo_57 ⟨Nat.zero_le _, Nat.zero_le _⟩) hP hD hS hA (fun v w1 H locs hf hP hD hS => ?_)
  obtain ⟨fo1_57, lw1_57, hg1_57, at1_57, tl1_57, th1_57, is1_57, lo1_57, hi1_57, rfl, rfl, h57_0, h57_1⟩ := hf
  have hP : va_P D vwCl (wM y h q 0 (pn + 1) (upd ki pn (nI 4)) (upd on pn (nI o1)) (upd ot pn (nI o2)) ab be zA zB zC zD zF zT fo1_57 lw1_57 hg1_57 at1_57 tl1_57 th1_57 wo wl wh is1_57 lo1_57 hi1_57 di su an) H := hP
  have hD : va_D A (wM y h q 0 (pn + 1) (upd ki pn (nI 4)) (upd on pn (nI o1)) (upd ot pn (nI o2)) ab be zA zB zC zD zF zT fo1_57 lw1_57 hg1_57 at1_57 tl1_57 th1_57 wo wl wh is1_57 lo1_57 hi1_57 di su an) := hD
  refine lv_goto (tgt := 64) hx hb dX8_ofTwo_60 (by decide) ?_
  exact W.iret (v := nI pn) hx hb hr (fun t ht hW => ⟨⟨some (.int (nI pn)), wM y h q 0 (pn + 1) (upd ki pn (nI 4)) (upd on pn (nI o1)) (upd ot pn (nI o2)) ab be zA zB zC zD zF zT fo1_57 lw1_57 hg1_57 at1_57 tl1_57 th1_57 wo wl wh is1_57 lo1_57 hi1_57 di su an, rfl, ⟨fo1_57, lw1_57, hg1_57, at1_57, tl1_57, th1_57, is1_57, lo1_57, hi1_57, rfl, rfl, h57_0, h57_1⟩, rfl, by rw [ht]; exact hP⟩, by rw [← hAe]; exact hS.F ht⟩) (by rw [← hAe]; exact hS.2.2) dX8_ofTwo_64
set_option maxHeartbeats 4000000 in
set_option maxRecDepth 100000 in
theorem c_X8_ofOne_0_5 (l : Launch) (D : va_G) (y : Nat → ClassId) (sz : Nat) (h : Nat) (q : Nat → Nat) (tw : Int32) (pn : Nat) (ki on ot ab be zA zB zC zD zF zT : Nat → Int32) (fo : Nat → Bool) (lw hg : Nat → Int64) (at_ : Nat → Bool) (tl th : Nat → Int64) (wo : Nat → Bool) (wl wh : Nat → Int64) (is_ : Bool) (lo_ hi_ : Int64) (di : Nat → Int32) (su : Nat → Int64) (an : Nat → Bool) (o1 : Nat) (cF : Nat → Bool) (cL cH : Nat → Int64) (hpn : pn < 40) (ho1 : o1 < pn) (yA : sp_X8_isProgram pn (nI o1) = true) (hcan : ∀ p, p < 25 → ∀ (x1 x2 x3 x4 : Int64), fo (25 * o1 + p) = true → mkOK 5 be zF zT pn (lw (25 * o1 + p)) (hg (25 * o1 + p)) ∧ mk_is 5 ab be zA zB zC zD zF zT x3 x4 pn p (lw (25 * o1 + p)) (hg (25 * o1 + p)) x1 x2 = cF p ∧ (cF p = true → mk_lo 5 ab be zA zB zC zD zF zT x3 x4 pn p (lw (25 * o1 + p)) (hg (25 * o1 + p)) x1 x2 = cL p ∧ mk_hi 5 ab be zA zB zC zD zF zT x3 x4 pn p (lw (25 * o1 + p)) (hg (25 * o1 + p)) x1 x2 = cH p)) (hno : ∀ p, p < 25 → ¬ fo (25 * o1 + p) = true → cF p = false) : Met l yX8_ofOne wsX8_ofOne ({ frames := 6, cells := 0, slots := 0, locals := 172 } : Room) (gP D y [.ref h, .int 5, .int (nI o1)] (wM y h q tw pn ki on ot ab be zA zB zC zD zF zT fo lw hg at_ tl th wo wl wh is_ lo_ hi_ di su an) sz) (gQ D (wM y h q tw pn ki on ot ab be zA zB zC zD zF zT fo lw hg at_ tl th wo wl wh is_ lo_ hi_ di su an) (fun v w => ∃ (fo1 : Nat → Bool) (lw1 : Nat → Int64) (hg1 : Nat → Int64) (at1 : Nat → Bool) (tl1 : Nat → Int64) (th1 : Nat → Int64) (is1 : Bool) (lo1 : Int64) (hi1 : Int64), v = some (.int (nI pn)) ∧ w = (wM y h q 0 (pn + 1) (upd ki pn (nI 5)) (upd on pn (nI o1)) (upd ot pn (-1)) ab be zA zB zC zD zF zT fo1 lw1 hg1 at1 tl1 th1 wo wl wh is1 lo1 hi1 di su an) ∧ (adS pn fo fo1 lw hg lw1 hg1 at_ at1 tl th tl1 th1) ∧ (∀ p, p < 25 → adR pn cF cL cH fo1 lw1 hg1 at1 tl1 th1 p))) 0 0 (va_A (wM y h q tw pn ki on ot ab be zA zB zC zD zF zT fo lw hg at_ tl th wo wl wh is_ lo_ hi_ di su an) sz) := by
  refine Met.ofW (cc := cX8_ofOne) (maxL := 3) (ret := (some .int)) (by decide) rfl ?_
  intro pg e s m args below meth c s₁ B hml hv
  obtain ⟨rfl, hsz, hP, hK, hD0⟩ := hv
  have hx := B.exec
  have hb := B.bytes
  have hr := B.returns
  have hts := atoms_spec (ws := wsX8_ofOne) B.pre
  have hown : s.vm.findClass RX8 = some m.cls := findClass_of_methodNamed B.named
  have hlocks := B.notSynchronized
  subst hsz
  obtain ⟨A, hAe⟩ : ∃ A : Nat → Prop, A = va_A (wM y h q tw pn ki on ot ab be zA zB zC zD zF zT fo lw hg at_ tl th wo wl wh is_ lo_ hi_ di su an) s.heap.size := ⟨_, rfl⟩
  have hD : va_D A (wM y h q tw pn ki on ot ab be zA zB zC zD zF zT fo lw hg at_ tl th wo wl wh is_ lo_ hi_ di su an) := by rw [hAe]; exact hD0.self (sz := s.heap.size)
  have hA : ∀ q : Nat, s.heap.size ≤ q → A q := fun q h => by rw [hAe]; exact Or.inr h
  have hS : va_S A s.heap s.heap [] := va_S.rf
  have hl := lv_entry ([.ref h, .int 5, .int (nI o1)]) (n := 3) (Nat.le_of_ble_eq_true rfl)
  rw [lg_entry_eq]
  generalize (lg_sl ([.ref h, .int 5, .int (nI o1)]) ++ List.replicate (3 - (lg_sl ([.ref h, .int 5, .int (nI o1)])).length) Slot.unset).toArray = ls at hl ⊢
  have hl : lv_has ls 3 [(0, .ref h), (1, .int 5), (2, .int (nI o1))] := hl
  refine lv_aload_n hx hb dX8_ofOne_0 rfl (lv_at hl 0 rfl) ?_
  refine lv_aload_n hx hb dX8_ofOne_1 rfl (lv_at hl 0 rfl) ?_
  refine lv_iload_n hx hb dX8_ofOne_2 rfl (lv_at hl 2 rfl) ?_
  refine g_callR (v0 := .int (gB (sp_X8_isProgram pn (nI o1)))) (va_runV (As := [.int (nI o1)]) (rest := [.ref h]) ⟨hx, hb, hml, hown, hts⟩ (c_X8_isProgram l D y s.heap.size h q tw pn ki on ot ab be zA zB zC zD zF zT fo lw hg at_ tl th wo wl wh is_ lo_ hi_ di su an (nI o1)) (cwV 1 hts gX8_ofOne_X8_isProgram rfl rfl rfl (by decide +kernel) ⟨Nat.le_of_ble_eq_true rfl, Nat.le_of_ble_eq_true rfl⟩) (gP_VA hP hD hK 0 rfl rfl) rfl rfl hl.1 rfl (lv_room (Nat.le_of_ble_eq_true rfl)) dX8_ofOne_3 ⟨Nat.zero_le _, Nat.zero_le _⟩) ?_
  refine g_bne (tgt := 13) hx hb dX8_ofOne_6 (by decide) (fun c_6 => ?_) (fun c_6 => absurd yA c_6)
  refine lv_aload_n hx hb dX8_ofOne_13 rfl (lv_at hl 0 rfl) ?_
  refine va_get (D := D) (ci := 6) (v := .int (nI pn)) (C := RX8) (T := TX8) (N := 28) hx hb hts in_X8_ofOne_X8 hown hK.1 hP 0 rfl rfl 1 (by decide) (hts (.fieldLink RX8 85 "NestlimitModel" "programs" "I") (List.mem_of_getElem? (i := 1) rfl)) (fun _ h9 => h9) rfl dX8_ofOne_14 ?_
  refine lv_bipush (v := 40) hx hb dX8_ofOne_17 (by decide) ?_
  refine lv_icmp_ne (tgt := 26) hx hb dX8_ofOne_19 (by decide) (fun c_19 => ?_) (fun c_19 => absurd c_19 (g_n40 hpn))
  refine lv_iconst (v := 0) hx hb dX8_ofOne_26 (by decide) ?_
  refine g_callA1 (v0 := .int (gB (sp_X8_holds 0))) (w0 := wM y h q 0 pn ki on ot ab be zA zB zC zD zF zT fo lw hg at_ tl th wo wl wh is_ lo_ hi_ di su an) (va_runV (As := [.int 0]) (rest := []) ⟨hx, hb, hml, hown, hts⟩ (c_X8_holds l D y s.heap.size h q tw pn ki on ot ab be zA zB zC zD zF zT fo lw hg at_ tl th wo wl wh is_ lo_ hi_ di su an 0) (cwV 1 hts gX8_ofOne_X8_holds rfl rfl rfl (by decide +kernel) ⟨Nat.le_of_ble_eq_true rfl, Nat.le_of_ble_eq_true rfl⟩) (gP_VA hP hD hK 0 rfl rfl) rfl rfl hl.1 rfl (lv_room (Nat.le_of_ble_eq_true rfl)) dX8_ofOne_27 ⟨Nat.zero_le _, Nat.zero_le _⟩) hP hD hS hA rfl (fun H locs hP hD hS => ?_)
  refine g_beq (tgt := 43) hx hb dX8_ofOne_30 (by decide) (fun c_30 => absurd (by decide) c_30) (fun c_30 => ?_)
  refine lv_aload_n hx hb dX8_ofOne_33 rfl (lv_at hl 0 rfl) ?_
  refine lv_iload_n hx hb dX8_ofOne_34 rfl (lv_at hl 1 rfl) ?_
  refine lv_iload_n hx hb dX8_ofOne_35 rfl (lv_at hl 2 rfl) ?_
  refine lv_iconst (v := -1) hx hb dX8_ofOne_36 (by decide) ?_
  refine g_callA (va_runV (As := [.int 5, .int (nI o1), .int (-1)]) (rest := []) ⟨hx, hb, hml, hown, hts⟩ (c_X8_adds_1 l D y H.size h q 0 pn ki on ot ab be zA zB zC zD zF zT fo lw hg at_ tl th wo wl wh is_ lo_ hi_ di su an 5 o1 cF cL cH hpn (by decide) ho1 hcan hno) (cwV 3 hts gX8_ofOne_X8_adds rfl rfl rfl (by decide +kernel) ⟨Nat.le_of_ble_eq_true rfl, Nat.le_of_ble_eq_true rfl⟩) (gP_VA hP hD hK 0 rfl rfl) rfl rfl hl.1 rfl (lv_room (Nat.le_of_ble_eq_true rfl)) dX8_ofOne_37 ⟨Nat.zero_le _, Nat.zero_le _⟩) hP hD hS hA (fun v w1 H locs hf hP hD hS => ?_)
  obtain ⟨fo1_37, lw1_37, hg1_37, at1_37, tl1_37, th1_37, is1_37, lo1_37, hi1_37, rfl, rfl, h37_0, h37_1⟩ := hf
  have hP : va_P D vwCl (wM y h q 0 (pn + 1) (upd ki pn (nI 5)) (upd on pn (nI o1)) (upd ot pn (-1)) ab be zA zB zC zD zF zT fo1_37 lw1_37 hg1_37 at1_37 tl1_37 th1_37 wo wl wh is1_37 lo1_37 hi1_37 di su an) H := hP
  have hD : va_D A (wM y h q 0 (pn + 1) (upd ki pn (nI 5)) (upd on pn (nI o1)) (upd ot pn (-1)) ab be zA zB zC zD zF zT fo1_37 lw1_37 hg1_37 at1_37 tl1_37 th1_37 wo wl wh is1_37 lo1_37 hi1_37 di su an) := hD
  refine lv_goto (tgt := 44) hx hb dX8_ofOne_40 (by decide) ?_
  exact W.iret (v := nI pn) hx hb hr (fun t ht hW => ⟨⟨some (.int (nI pn)), wM y h q 0 (pn + 1) (upd ki pn (nI 5)) (upd on pn (nI o1)) (upd ot pn (-1)) ab be zA zB zC zD zF zT fo1_37 lw1_37 hg1_37 at1_37 tl1_37 th1_37 wo wl wh is1_37 lo1_37 hi1_37 di su an, rfl, ⟨fo1_37, lw1_37, hg1_37, at1_37, tl1_37, th1_37, is1_37, lo1_37, hi1_37, rfl, rfl, h37_0, h37_1⟩, rfl, by rw [ht]; exact hP⟩, by rw [← hAe]; exact hS.F ht⟩) (by rw [← hAe]; exact hS.2.2) dX8_ofOne_44
set_option maxHeartbeats 4000000 in
set_option maxRecDepth 100000 in
theorem c_X8_ofOne_0_6 (l : Launch) (D : va_G) (y : Nat → ClassId) (sz : Nat) (h : Nat) (q : Nat → Nat) (tw : Int32) (pn : Nat) (ki on ot ab be zA zB zC zD zF zT : Nat → Int32) (fo : Nat → Bool) (lw hg : Nat → Int64) (at_ : Nat → Bool) (tl th : Nat → Int64) (wo : Nat → Bool) (wl wh : Nat → Int64) (is_ : Bool) (lo_ hi_ : Int64) (di : Nat → Int32) (su : Nat → Int64) (an : Nat → Bool) (o1 : Nat) (cF : Nat → Bool) (cL cH : Nat → Int64) (hpn : pn < 40) (ho1 : o1 < pn) (yA : sp_X8_isProgram pn (nI o1) = true) (hcan : ∀ p, p < 25 → ∀ (x1 x2 x3 x4 : Int64), fo (25 * o1 + p) = true → mkOK 6 be zF zT pn (lw (25 * o1 + p)) (hg (25 * o1 + p)) ∧ mk_is 6 ab be zA zB zC zD zF zT x3 x4 pn p (lw (25 * o1 + p)) (hg (25 * o1 + p)) x1 x2 = cF p ∧ (cF p = true → mk_lo 6 ab be zA zB zC zD zF zT x3 x4 pn p (lw (25 * o1 + p)) (hg (25 * o1 + p)) x1 x2 = cL p ∧ mk_hi 6 ab be zA zB zC zD zF zT x3 x4 pn p (lw (25 * o1 + p)) (hg (25 * o1 + p)) x1 x2 = cH p)) (hno : ∀ p, p < 25 → ¬ fo (25 * o1 + p) = true → cF p = false) : Met l yX8_ofOne wsX8_ofOne ({ frames := 6, cells := 0, slots := 0, locals := 172 } : Room) (gP D y [.ref h, .int 6, .int (nI o1)] (wM y h q tw pn ki on ot ab be zA zB zC zD zF zT fo lw hg at_ tl th wo wl wh is_ lo_ hi_ di su an) sz) (gQ D (wM y h q tw pn ki on ot ab be zA zB zC zD zF zT fo lw hg at_ tl th wo wl wh is_ lo_ hi_ di su an) (fun v w => ∃ (fo1 : Nat → Bool) (lw1 : Nat → Int64) (hg1 : Nat → Int64) (at1 : Nat → Bool) (tl1 : Nat → Int64) (th1 : Nat → Int64) (is1 : Bool) (lo1 : Int64) (hi1 : Int64), v = some (.int (nI pn)) ∧ w = (wM y h q 0 (pn + 1) (upd ki pn (nI 6)) (upd on pn (nI o1)) (upd ot pn (-1)) ab be zA zB zC zD zF zT fo1 lw1 hg1 at1 tl1 th1 wo wl wh is1 lo1 hi1 di su an) ∧ (adS pn fo fo1 lw hg lw1 hg1 at_ at1 tl th tl1 th1) ∧ (∀ p, p < 25 → adR pn cF cL cH fo1 lw1 hg1 at1 tl1 th1 p))) 0 0 (va_A (wM y h q tw pn ki on ot ab be zA zB zC zD zF zT fo lw hg at_ tl th wo wl wh is_ lo_ hi_ di su an) sz) := by
  refine Met.ofW (cc := cX8_ofOne) (maxL := 3) (ret := (some .int)) (by decide) rfl ?_
  intro pg e s m args below meth c s₁ B hml hv
  obtain ⟨rfl, hsz, hP, hK, hD0⟩ := hv
  have hx := B.exec
  have hb := B.bytes
  have hr := B.returns
  have hts := atoms_spec (ws := wsX8_ofOne) B.pre
  have hown : s.vm.findClass RX8 = some m.cls := findClass_of_methodNamed B.named
  have hlocks := B.notSynchronized
  subst hsz
  obtain ⟨A, hAe⟩ : ∃ A : Nat → Prop, A = va_A (wM y h q tw pn ki on ot ab be zA zB zC zD zF zT fo lw hg at_ tl th wo wl wh is_ lo_ hi_ di su an) s.heap.size := ⟨_, rfl⟩
  have hD : va_D A (wM y h q tw pn ki on ot ab be zA zB zC zD zF zT fo lw hg at_ tl th wo wl wh is_ lo_ hi_ di su an) := by rw [hAe]; exact hD0.self (sz := s.heap.size)
  have hA : ∀ q : Nat, s.heap.size ≤ q → A q := fun q h => by rw [hAe]; exact Or.inr h
  have hS : va_S A s.heap s.heap [] := va_S.rf
  have hl := lv_entry ([.ref h, .int 6, .int (nI o1)]) (n := 3) (Nat.le_of_ble_eq_true rfl)
  rw [lg_entry_eq]
  generalize (lg_sl ([.ref h, .int 6, .int (nI o1)]) ++ List.replicate (3 - (lg_sl ([.ref h, .int 6, .int (nI o1)])).length) Slot.unset).toArray = ls at hl ⊢
  have hl : lv_has ls 3 [(0, .ref h), (1, .int 6), (2, .int (nI o1))] := hl
  refine lv_aload_n hx hb dX8_ofOne_0 rfl (lv_at hl 0 rfl) ?_
  refine lv_aload_n hx hb dX8_ofOne_1 rfl (lv_at hl 0 rfl) ?_
  refine lv_iload_n hx hb dX8_ofOne_2 rfl (lv_at hl 2 rfl) ?_
  refine g_callR (v0 := .int (gB (sp_X8_isProgram pn (nI o1)))) (va_runV (As := [.int (nI o1)]) (rest := [.ref h]) ⟨hx, hb, hml, hown, hts⟩ (c_X8_isProgram l D y s.heap.size h q tw pn ki on ot ab be zA zB zC zD zF zT fo lw hg at_ tl th wo wl wh is_ lo_ hi_ di su an (nI o1)) (cwV 1 hts gX8_ofOne_X8_isProgram rfl rfl rfl (by decide +kernel) ⟨Nat.le_of_ble_eq_true rfl, Nat.le_of_ble_eq_true rfl⟩) (gP_VA hP hD hK 0 rfl rfl) rfl rfl hl.1 rfl (lv_room (Nat.le_of_ble_eq_true rfl)) dX8_ofOne_3 ⟨Nat.zero_le _, Nat.zero_le _⟩) ?_
  refine g_bne (tgt := 13) hx hb dX8_ofOne_6 (by decide) (fun c_6 => ?_) (fun c_6 => absurd yA c_6)
  refine lv_aload_n hx hb dX8_ofOne_13 rfl (lv_at hl 0 rfl) ?_
  refine va_get (D := D) (ci := 6) (v := .int (nI pn)) (C := RX8) (T := TX8) (N := 28) hx hb hts in_X8_ofOne_X8 hown hK.1 hP 0 rfl rfl 1 (by decide) (hts (.fieldLink RX8 85 "NestlimitModel" "programs" "I") (List.mem_of_getElem? (i := 1) rfl)) (fun _ h9 => h9) rfl dX8_ofOne_14 ?_
  refine lv_bipush (v := 40) hx hb dX8_ofOne_17 (by decide) ?_
  refine lv_icmp_ne (tgt := 26) hx hb dX8_ofOne_19 (by decide) (fun c_19 => ?_) (fun c_19 => absurd c_19 (g_n40 hpn))
  refine lv_iconst (v := 0) hx hb dX8_ofOne_26 (by decide) ?_
  refine g_callA1 (v0 := .int (gB (sp_X8_holds 0))) (w0 := wM y h q 0 pn ki on ot ab be zA zB zC zD zF zT fo lw hg at_ tl th wo wl wh is_ lo_ hi_ di su an) (va_runV (As := [.int 0]) (rest := []) ⟨hx, hb, hml, hown, hts⟩ (c_X8_holds l D y s.heap.size h q tw pn ki on ot ab be zA zB zC zD zF zT fo lw hg at_ tl th wo wl wh is_ lo_ hi_ di su an 0) (cwV 1 hts gX8_ofOne_X8_holds rfl rfl rfl (by decide +kernel) ⟨Nat.le_of_ble_eq_true rfl, Nat.le_of_ble_eq_true rfl⟩) (gP_VA hP hD hK 0 rfl rfl) rfl rfl hl.1 rfl (lv_room (Nat.le_of_ble_eq_true rfl)) dX8_ofOne_27 ⟨Nat.zero_le _, Nat.zero_le _⟩) hP hD hS hA rfl (fun H locs hP hD hS => ?_)
  refine g_beq (tgt := 43) hx hb dX8_ofOne_30 (by decide) (fun c_30 => absurd (by decide) c_30) (fun c_30 => ?_)
  refine lv_aload_n hx hb dX8_ofOne_33 rfl (lv_at hl 0 rfl) ?_
  refine lv_iload_n hx hb dX8_ofOne_34 rfl (lv_at hl 1 rfl) ?_
  refine lv_iload_n hx hb dX8_ofOne_35 rfl (lv_at hl 2 rfl) ?_
  refine lv_iconst (v := -1) hx hb dX8_ofOne_36 (by decide) ?_
  refine g_callA (va_runV (As := [.int 6, .int (nI o1), .int (-1)]) (rest := []) ⟨hx, hb, hml, hown, hts⟩ (c_X8_adds_1 l D y H.size h q 0 pn ki on ot ab be zA zB zC zD zF zT fo lw hg at_ tl th wo wl wh is_ lo_ hi_ di su an 6 o1 cF cL cH hpn (by decide) ho1 hcan hno) (cwV 3 hts gX8_ofOne_X8_adds rfl rfl rfl (by decide +kernel) ⟨Nat.le_of_ble_eq_true rfl, Nat.le_of_ble_eq_true rfl⟩) (gP_VA hP hD hK 0 rfl rfl) rfl rfl hl.1 rfl (lv_room (Nat.le_of_ble_eq_true rfl)) dX8_ofOne_37 ⟨Nat.zero_le _, Nat.zero_le _⟩) hP hD hS hA (fun v w1 H locs hf hP hD hS => ?_)
  obtain ⟨fo1_37, lw1_37, hg1_37, at1_37, tl1_37, th1_37, is1_37, lo1_37, hi1_37, rfl, rfl, h37_0, h37_1⟩ := hf
  have hP : va_P D vwCl (wM y h q 0 (pn + 1) (upd ki pn (nI 6)) (upd on pn (nI o1)) (upd ot pn (-1)) ab be zA zB zC zD zF zT fo1_37 lw1_37 hg1_37 at1_37 tl1_37 th1_37 wo wl wh is1_37 lo1_37 hi1_37 di su an) H := hP
  have hD : va_D A (wM y h q 0 (pn + 1) (upd ki pn (nI 6)) (upd on pn (nI o1)) (upd ot pn (-1)) ab be zA zB zC zD zF zT fo1_37 lw1_37 hg1_37 at1_37 tl1_37 th1_37 wo wl wh is1_37 lo1_37 hi1_37 di su an) := hD
  refine lv_goto (tgt := 44) hx hb dX8_ofOne_40 (by decide) ?_
  exact W.iret (v := nI pn) hx hb hr (fun t ht hW => ⟨⟨some (.int (nI pn)), wM y h q 0 (pn + 1) (upd ki pn (nI 6)) (upd on pn (nI o1)) (upd ot pn (-1)) ab be zA zB zC zD zF zT fo1_37 lw1_37 hg1_37 at1_37 tl1_37 th1_37 wo wl wh is1_37 lo1_37 hi1_37 di su an, rfl, ⟨fo1_37, lw1_37, hg1_37, at1_37, tl1_37, th1_37, is1_37, lo1_37, hi1_37, rfl, rfl, h37_0, h37_1⟩, rfl, by rw [ht]; exact hP⟩, by rw [← hAe]; exact hS.F ht⟩) (by rw [← hAe]; exact hS.2.2) dX8_ofOne_44
set_option maxHeartbeats 4000000 in
set_option maxRecDepth 100000 in
theorem c_X8_ofOne_0_7 (l : Launch) (D : va_G) (y : Nat → ClassId) (sz : Nat) (h : Nat) (q : Nat → Nat) (tw : Int32) (pn : Nat) (ki on ot ab be zA zB zC zD zF zT : Nat → Int32) (fo : Nat → Bool) (lw hg : Nat → Int64) (at_ : Nat → Bool) (tl th : Nat → Int64) (wo : Nat → Bool) (wl wh : Nat → Int64) (is_ : Bool) (lo_ hi_ : Int64) (di : Nat → Int32) (su : Nat → Int64) (an : Nat → Bool) (o1 : Nat) (cF : Nat → Bool) (cL cH : Nat → Int64) (hpn : pn < 40) (ho1 : o1 < pn) (yA : sp_X8_isProgram pn (nI o1) = true) (hcan : ∀ p, p < 25 → ∀ (x1 x2 x3 x4 : Int64), fo (25 * o1 + p) = true → mkOK 7 be zF zT pn (lw (25 * o1 + p)) (hg (25 * o1 + p)) ∧ mk_is 7 ab be zA zB zC zD zF zT x3 x4 pn p (lw (25 * o1 + p)) (hg (25 * o1 + p)) x1 x2 = cF p ∧ (cF p = true → mk_lo 7 ab be zA zB zC zD zF zT x3 x4 pn p (lw (25 * o1 + p)) (hg (25 * o1 + p)) x1 x2 = cL p ∧ mk_hi 7 ab be zA zB zC zD zF zT x3 x4 pn p (lw (25 * o1 + p)) (hg (25 * o1 + p)) x1 x2 = cH p)) (hno : ∀ p, p < 25 → ¬ fo (25 * o1 + p) = true → cF p = false) : Met l yX8_ofOne wsX8_ofOne ({ frames := 6, cells := 0, slots := 0, locals := 172 } : Room) (gP D y [.ref h, .int 7, .int (nI o1)] (wM y h q tw pn ki on ot ab be zA zB zC zD zF zT fo lw hg at_ tl th wo wl wh is_ lo_ hi_ di su an) sz) (gQ D (wM y h q tw pn ki on ot ab be zA zB zC zD zF zT fo lw hg at_ tl th wo wl wh is_ lo_ hi_ di su an) (fun v w => ∃ (fo1 : Nat → Bool) (lw1 : Nat → Int64) (hg1 : Nat → Int64) (at1 : Nat → Bool) (tl1 : Nat → Int64) (th1 : Nat → Int64) (is1 : Bool) (lo1 : Int64) (hi1 : Int64), v = some (.int (nI pn)) ∧ w = (wM y h q 0 (pn + 1) (upd ki pn (nI 7)) (upd on pn (nI o1)) (upd ot pn (-1)) ab be zA zB zC zD zF zT fo1 lw1 hg1 at1 tl1 th1 wo wl wh is1 lo1 hi1 di su an) ∧ (adS pn fo fo1 lw hg lw1 hg1 at_ at1 tl th tl1 th1) ∧ (∀ p, p < 25 → adR pn cF cL cH fo1 lw1 hg1 at1 tl1 th1 p))) 0 0 (va_A (wM y h q tw pn ki on ot ab be zA zB zC zD zF zT fo lw hg at_ tl th wo wl wh is_ lo_ hi_ di su an) sz) := by
  refine Met.ofW (cc := cX8_ofOne) (maxL := 3) (ret := (some .int)) (by decide) rfl ?_
  intro pg e s m args below meth c s₁ B hml hv
  obtain ⟨rfl, hsz, hP, hK, hD0⟩ := hv
  have hx := B.exec
  have hb := B.bytes
  have hr := B.returns
  have hts := atoms_spec (ws := wsX8_ofOne) B.pre
  have hown : s.vm.findClass RX8 = some m.cls := findClass_of_methodNamed B.named
  have hlocks := B.notSynchronized
  subst hsz
  obtain ⟨A, hAe⟩ : ∃ A : Nat → Prop, A = va_A (wM y h q tw pn ki on ot ab be zA zB zC zD zF zT fo lw hg at_ tl th wo wl wh is_ lo_ hi_ di su an) s.heap.size := ⟨_, rfl⟩
  have hD : va_D A (wM y h q tw pn ki on ot ab be zA zB zC zD zF zT fo lw hg at_ tl th wo wl wh is_ lo_ hi_ di su an) := by rw [hAe]; exact hD0.self (sz := s.heap.size)
  have hA : ∀ q : Nat, s.heap.size ≤ q → A q := fun q h => by rw [hAe]; exact Or.inr h
  have hS : va_S A s.heap s.heap [] := va_S.rf
  have hl := lv_entry ([.ref h, .int 7, .int (nI o1)]) (n := 3) (Nat.le_of_ble_eq_true rfl)
  rw [lg_entry_eq]
  generalize (lg_sl ([.ref h, .int 7, .int (nI o1)]) ++ List.replicate (3 - (lg_sl ([.ref h, .int 7, .int (nI o1)])).length) Slot.unset).toArray = ls at hl ⊢
  have hl : lv_has ls 3 [(0, .ref h), (1, .int 7), (2, .int (nI o1))] := hl
  refine lv_aload_n hx hb dX8_ofOne_0 rfl (lv_at hl 0 rfl) ?_
  refine lv_aload_n hx hb dX8_ofOne_1 rfl (lv_at hl 0 rfl) ?_
  refine lv_iload_n hx hb dX8_ofOne_2 rfl (lv_at hl 2 rfl) ?_
  refine g_callR (v0 := .int (gB (sp_X8_isProgram pn (nI o1)))) (va_runV (As := [.int (nI o1)]) (rest := [.ref h]) ⟨hx, hb, hml, hown, hts⟩ (c_X8_isProgram l D y s.heap.size h q tw pn ki on ot ab be zA zB zC zD zF zT fo lw hg at_ tl th wo wl wh is_ lo_ hi_ di su an (nI o1)) (cwV 1 hts gX8_ofOne_X8_isProgram rfl rfl rfl (by decide +kernel) ⟨Nat.le_of_ble_eq_true rfl, Nat.le_of_ble_eq_true rfl⟩) (gP_VA hP hD hK 0 rfl rfl) rfl rfl hl.1 rfl (lv_room (Nat.le_of_ble_eq_true rfl)) dX8_ofOne_3 ⟨Nat.zero_le _, Nat.zero_le _⟩) ?_
  refine g_bne (tgt := 13) hx hb dX8_ofOne_6 (by decide) (fun c_6 => ?_) (fun c_6 => absurd yA c_6)
  refine lv_aload_n hx hb dX8_ofOne_13 rfl (lv_at hl 0 rfl) ?_
  refine va_get (D := D) (ci := 6) (v := .int (nI pn)) (C := RX8) (T := TX8) (N := 28) hx hb hts in_X8_ofOne_X8 hown hK.1 hP 0 rfl rfl 1 (by decide) (hts (.fieldLink RX8 85 "NestlimitModel" "programs" "I") (List.mem_of_getElem? (i := 1) rfl)) (fun _ h9 => h9) rfl dX8_ofOne_14 ?_
  refine lv_bipush (v := 40) hx hb dX8_ofOne_17 (by decide) ?_
  refine lv_icmp_ne (tgt := 26) hx hb dX8_ofOne_19 (by decide) (fun c_19 => ?_) (fun c_19 => absurd c_19 (g_n40 hpn))
  refine lv_iconst (v := 0) hx hb dX8_ofOne_26 (by decide) ?_
  refine g_callA1 (v0 := .int (gB (sp_X8_holds 0))) (w0 := wM y h q 0 pn ki on ot ab be zA zB zC zD zF zT fo lw hg at_ tl th wo wl wh is_ lo_ hi_ di su an) (va_runV (As := [.int 0]) (rest := []) ⟨hx, hb, hml, hown, hts⟩ (c_X8_holds l D y s.heap.size h q tw pn ki on ot ab be zA zB zC zD zF zT fo lw hg at_ tl th wo wl wh is_ lo_ hi_ di su an 0) (cwV 1 hts gX8_ofOne_X8_holds rfl rfl rfl (by decide +kernel) ⟨Nat.le_of_ble_eq_true rfl, Nat.le_of_ble_eq_true rfl⟩) (gP_VA hP hD hK 0 rfl rfl) rfl rfl hl.1 rfl (lv_room (Nat.le_of_ble_eq_true rfl)) dX8_ofOne_27 ⟨Nat.zero_le _, Nat.zero_le _⟩) hP hD hS hA rfl (fun H locs hP hD hS => ?_)
  refine g_beq (tgt := 43) hx hb dX8_ofOne_30 (by decide) (fun c_30 => absurd (by decide) c_30) (fun c_30 => ?_)
  refine lv_aload_n hx hb dX8_ofOne_33 rfl (lv_at hl 0 rfl) ?_
  refine lv_iload_n hx hb dX8_ofOne_34 rfl (lv_at hl 1 rfl) ?_
  refine lv_iload_n hx hb dX8_ofOne_35 rfl (lv_at hl 2 rfl) ?_
  refine lv_iconst (v := -1) hx hb dX8_ofOne_36 (by decide) ?_
  refine g_callA (va_runV (As := [.int 7, .int (nI o1), .int (-1)]) (rest := []) ⟨hx, hb, hml, hown, hts⟩ (c_X8_adds_1 l D y H.size h q 0 pn ki on ot ab be zA zB zC zD zF zT fo lw hg at_ tl th wo wl wh is_ lo_ hi_ di su an 7 o1 cF cL cH hpn (by decide) ho1 hcan hno) (cwV 3 hts gX8_ofOne_X8_adds rfl rfl rfl (by decide +kernel) ⟨Nat.le_of_ble_eq_true rfl, Nat.le_of_ble_eq_true rfl⟩) (gP_VA hP hD hK 0 rfl rfl) rfl rfl hl.1 rfl (lv_room (Nat.le_of_ble_eq_true rfl)) dX8_ofOne_37 ⟨Nat.zero_le _, Nat.zero_le _⟩) hP hD hS hA (fun v w1 H locs hf hP hD hS => ?_)
  obtain ⟨fo1_37, lw1_37, hg1_37, at1_37, tl1_37, th1_37, is1_37, lo1_37, hi1_37, rfl, rfl, h37_0, h37_1⟩ := hf
  have hP : va_P D vwCl (wM y h q 0 (pn + 1) (upd ki pn (nI 7)) (upd on pn (nI o1)) (upd ot pn (-1)) ab be zA zB zC zD zF zT fo1_37 lw1_37 hg1_37 at1_37 tl1_37 th1_37 wo wl wh is1_37 lo1_37 hi1_37 di su an) H := hP
  have hD : va_D A (wM y h q 0 (pn + 1) (upd ki pn (nI 7)) (upd on pn (nI o1)) (upd ot pn (-1)) ab be zA zB zC zD zF zT fo1_37 lw1_37 hg1_37 at1_37 tl1_37 th1_37 wo wl wh is1_37 lo1_37 hi1_37 di su an) := hD
  refine lv_goto (tgt := 44) hx hb dX8_ofOne_40 (by decide) ?_
  exact W.iret (v := nI pn) hx hb hr (fun t ht hW => ⟨⟨some (.int (nI pn)), wM y h q 0 (pn + 1) (upd ki pn (nI 7)) (upd on pn (nI o1)) (upd ot pn (-1)) ab be zA zB zC zD zF zT fo1_37 lw1_37 hg1_37 at1_37 tl1_37 th1_37 wo wl wh is1_37 lo1_37 hi1_37 di su an, rfl, ⟨fo1_37, lw1_37, hg1_37, at1_37, tl1_37, th1_37, is1_37, lo1_37, hi1_37, rfl, rfl, h37_0, h37_1⟩, rfl, by rw [ht]; exact hP⟩, by rw [← hAe]; exact hS.F ht⟩) (by rw [← hAe]; exact hS.2.2) dX8_ofOne_44
set_option maxHeartbeats 4000000 in
set_option maxRecDepth 100000 in
theorem c_X8_sum_1 (l : Launch) (D : va_G) (y : Nat → ClassId) (sz : Nat) (h : Nat) (q : Nat → Nat) (tw : Int32) (pn : Nat) (ki on ot ab be zA zB zC zD zF zT : Nat → Int32) (fo : Nat → Bool) (lw hg : Nat → Int64) (at_ : Nat → Bool) (tl th : Nat → Int64) (wo : Nat → Bool) (wl wh : Nat → Int64) (is_ : Bool) (lo_ hi_ : Int64) (di : Nat → Int32) (su : Nat → Int64) (an : Nat → Bool) (a b : Int32) (hbad : ¬ (sp_X8_isProgram pn a = true ∧ sp_X8_isProgram pn b = true)) : Met l yX8_sum wsX8_sum ({ frames := 3, cells := 0, slots := 0, locals := 67 } : Room) (gP D y [.ref h, .int a, .int b] (wM y h q tw pn ki on ot ab be zA zB zC zD zF zT fo lw hg at_ tl th wo wl wh is_ lo_ hi_ di su an) sz) (gQ D (wM y h q tw pn ki on ot ab be zA zB zC zD zF zT fo lw hg at_ tl th wo wl wh is_ lo_ hi_ di su an) (gF (some (.int 0)) (wM y h q 1 pn ki on ot ab be zA zB zC zD zF zT fo lw hg at_ tl th wo wl wh is_ lo_ hi_ di su an))) 0 0 (va_A (wM y h q tw pn ki on ot ab be zA zB zC zD zF zT fo lw hg at_ tl th wo wl wh is_ lo_ hi_ di su an) sz) := by
  refine Met.ofW (cc := cX8_sum) (maxL := 3) (ret := (some .int)) (by decide) rfl ?_
  intro pg e s m args below meth c s₁ B hml hv
  obtain ⟨rfl, hsz, hP, hK, hD0⟩ := hv
  have hx := B.exec
  have hb := B.bytes
  have hr := B.returns
  have hts := atoms_spec (ws := wsX8_sum) B.pre
  have hown : s.vm.findClass RX8 = some m.cls := findClass_of_methodNamed B.named
  have hlocks := B.notSynchronized
  subst hsz
  obtain ⟨A, hAe⟩ : ∃ A : Nat → Prop, A = va_A (wM y h q tw pn ki on ot ab be zA zB zC zD zF zT fo lw hg at_ tl th wo wl wh is_ lo_ hi_ di su an) s.heap.size := ⟨_, rfl⟩
  have hD : va_D A (wM y h q tw pn ki on ot ab be zA zB zC zD zF zT fo lw hg at_ tl th wo wl wh is_ lo_ hi_ di su an) := by rw [hAe]; exact hD0.self (sz := s.heap.size)
  have hA : ∀ q : Nat, s.heap.size ≤ q → A q := fun q h => by rw [hAe]; exact Or.inr h
  have hS : va_S A s.heap s.heap [] := va_S.rf
  have hl := lv_entry ([.ref h, .int a, .int b]) (n := 3) (Nat.le_of_ble_eq_true rfl)
  rw [lg_entry_eq]
  generalize (lg_sl ([.ref h, .int a, .int b]) ++ List.replicate (3 - (lg_sl ([.ref h, .int a, .int b])).length) Slot.unset).toArray = ls at hl ⊢
  have hl : lv_has ls 3 [(0, .ref h), (1, .int a), (2, .int b)] := hl
  refine lv_aload_n hx hb dX8_sum_0 rfl (lv_at hl 0 rfl) ?_
  refine lv_iconst (v := 1) hx hb dX8_sum_1 (by decide) ?_
  refine lv_iload_n hx hb dX8_sum_2 rfl (lv_at hl 1 rfl) ?_
  refine lv_iload_n hx hb dX8_sum_3 rfl (lv_at hl 2 rfl) ?_
  refine g_callA1 (v0 := .int 0) (w0 := wM y h q 1 pn ki on ot ab be zA zB zC zD zF zT fo lw hg at_ tl th wo wl wh is_ lo_ hi_ di su an) (va_runV (As := [.int 1, .int a, .int b]) (rest := []) ⟨hx, hb, hml, hown, hts⟩ (c_X8_ofTwo_1 l D y s.heap.size h q tw pn ki on ot ab be zA zB zC zD zF zT fo lw hg at_ tl th wo wl wh is_ lo_ hi_ di su an 1 a b hbad) (cwV 3 hts gX8_sum_X8_ofTwo rfl rfl rfl (by decide +kernel) ⟨Nat.le_of_ble_eq_true rfl, Nat.le_of_ble_eq_true rfl⟩) (gP_VA hP hD hK 0 rfl rfl) rfl rfl hl.1 rfl (lv_room (Nat.le_of_ble_eq_true rfl)) dX8_sum_4 ⟨Nat.zero_le _, Nat.zero_le _⟩) hP hD hS hA rfl (fun H locs hP hD hS => ?_)
  exact W.iret (v := 0) hx hb hr (fun t ht hW => ⟨⟨_, wM y h q 1 pn ki on ot ab be zA zB zC zD zF zT fo lw hg at_ tl th wo wl wh is_ lo_ hi_ di su an, rfl, ⟨congrArg (fun z => some (Value.int z)) (rfl), rfl⟩, rfl, by rw [ht]; exact hP⟩, by rw [← hAe]; exact hS.F ht⟩) (by rw [← hAe]; exact hS.2.2) dX8_sum_7
set_option maxHeartbeats 4000000 in
set_option maxRecDepth 100000 in
theorem c_X8_sum_2 (l : Launch) (D : va_G) (y : Nat → ClassId) (sz : Nat) (h : Nat) (q : Nat → Nat) (tw : Int32) (pn : Nat) (ki on ot ab be zA zB zC zD zF zT : Nat → Int32) (fo : Nat → Bool) (lw hg : Nat → Int64) (at_ : Nat → Bool) (tl th : Nat → Int64) (wo : Nat → Bool) (wl wh : Nat → Int64) (is_ : Bool) (lo_ hi_ : Int64) (di : Nat → Int32) (su : Nat → Int64) (an : Nat → Bool) (a b : Int32) (yA : sp_X8_isProgram pn a = true) (yB : sp_X8_isProgram pn b = true) (hf : nI pn = 40) : Met l yX8_sum wsX8_sum ({ frames := 3, cells := 0, slots := 0, locals := 67 } : Room) (gP D y [.ref h, .int a, .int b] (wM y h q tw pn ki on ot ab be zA zB zC zD zF zT fo lw hg at_ tl th wo wl wh is_ lo_ hi_ di su an) sz) (gQ D (wM y h q tw pn ki on ot ab be zA zB zC zD zF zT fo lw hg at_ tl th wo wl wh is_ lo_ hi_ di su an) (gF (some (.int 0)) (wM y h q 2 pn ki on ot ab be zA zB zC zD zF zT fo lw hg at_ tl th wo wl wh is_ lo_ hi_ di su an))) 0 0 (va_A (wM y h q tw pn ki on ot ab be zA zB zC zD zF zT fo lw hg at_ tl th wo wl wh is_ lo_ hi_ di su an) sz) := by
  refine Met.ofW (cc := cX8_sum) (maxL := 3) (ret := (some .int)) (by decide) rfl ?_
  intro pg e s m args below meth c s₁ B hml hv
  obtain ⟨rfl, hsz, hP, hK, hD0⟩ := hv
  have hx := B.exec
  have hb := B.bytes
  have hr := B.returns
  have hts := atoms_spec (ws := wsX8_sum) B.pre
  have hown : s.vm.findClass RX8 = some m.cls := findClass_of_methodNamed B.named
  have hlocks := B.notSynchronized
  subst hsz
  obtain ⟨A, hAe⟩ : ∃ A : Nat → Prop, A = va_A (wM y h q tw pn ki on ot ab be zA zB zC zD zF zT fo lw hg at_ tl th wo wl wh is_ lo_ hi_ di su an) s.heap.size := ⟨_, rfl⟩
  have hD : va_D A (wM y h q tw pn ki on ot ab be zA zB zC zD zF zT fo lw hg at_ tl th wo wl wh is_ lo_ hi_ di su an) := by rw [hAe]; exact hD0.self (sz := s.heap.size)
  have hA : ∀ q : Nat, s.heap.size ≤ q → A q := fun q h => by rw [hAe]; exact Or.inr h
  have hS : va_S A s.heap s.heap [] := va_S.rf
  have hl := lv_entry ([.ref h, .int a, .int b]) (n := 3) (Nat.le_of_ble_eq_true rfl)
  rw [lg_entry_eq]
  generalize (lg_sl ([.ref h, .int a, .int b]) ++ List.replicate (3 - (lg_sl ([.ref h, .int a, .int b])).length) Slot.unset).toArray = ls at hl ⊢
  have hl : lv_has ls 3 [(0, .ref h), (1, .int a), (2, .int b)] := hl
  refine lv_aload_n hx hb dX8_sum_0 rfl (lv_at hl 0 rfl) ?_
  refine lv_iconst (v := 1) hx hb dX8_sum_1 (by decide) ?_
  refine lv_iload_n hx hb dX8_sum_2 rfl (lv_at hl 1 rfl) ?_
  refine lv_iload_n hx hb dX8_sum_3 rfl (lv_at hl 2 rfl) ?_
  refine g_callA1 (v0 := .int 0) (w0 := wM y h q 2 pn ki on ot ab be zA zB zC zD zF zT fo lw hg at_ tl th wo wl wh is_ lo_ hi_ di su an) (va_runV (As := [.int 1, .int a, .int b]) (rest := []) ⟨hx, hb, hml, hown, hts⟩ (c_X8_ofTwo_2 l D y s.heap.size h q tw pn ki on ot ab be zA zB zC zD zF zT fo lw hg at_ tl th wo wl wh is_ lo_ hi_ di su an 1 a b yA yB hf) (cwV 3 hts gX8_sum_X8_ofTwo rfl rfl rfl (by decide +kernel) ⟨Nat.le_of_ble_eq_true rfl, Nat.le_of_ble_eq_true rfl⟩) (gP_VA hP hD hK 0 rfl rfl) rfl rfl hl.1 rfl (lv_room (Nat.le_of_ble_eq_true rfl)) dX8_sum_4 ⟨Nat.zero_le _, Nat.zero_le _⟩) hP hD hS hA rfl (fun H locs hP hD hS => ?_)
  exact W.iret (v := 0) hx hb hr (fun t ht hW => ⟨⟨_, wM y h q 2 pn ki on ot ab be zA zB zC zD zF zT fo lw hg at_ tl th wo wl wh is_ lo_ hi_ di su an, rfl, ⟨congrArg (fun z => some (Value.int z)) (rfl), rfl⟩, rfl, by rw [ht]; exact hP⟩, by rw [← hAe]; exact hS.F ht⟩) (by rw [← hAe]; exact hS.2.2) dX8_sum_7
set_option maxHeartbeats 4000000 in
set_option maxRecDepth 100000 in
theorem c_X8_sum_0 (l : Launch) (D : va_G) (y : Nat → ClassId) (sz : Nat) (h : Nat) (q : Nat → Nat) (tw : Int32) (pn : Nat) (ki on ot ab be zA zB zC zD zF zT : Nat → Int32) (fo : Nat → Bool) (lw hg : Nat → Int64) (at_ : Nat → Bool) (tl th : Nat → Int64) (wo : Nat → Bool) (wl wh : Nat → Int64) (is_ : Bool) (lo_ hi_ : Int64) (di : Nat → Int32) (su : Nat → Int64) (an : Nat → Bool) (o1 o2 : Nat) (cF : Nat → Bool) (cL cH : Nat → Int64) (hpn : pn < 40) (ho1 : o1 < pn) (ho2 : o2 < pn) (yA : sp_X8_isProgram pn (nI o1) = true) (yB : sp_X8_isProgram pn (nI o2) = true) (hcan : ∀ p, p < 25 → ∀ (x1 x2 x3 x4 : Int64), fo (25 * o1 + p) = true → fo (25 * o2 + p) = true → mkOK 1 be zF zT pn (lw (25 * o1 + p)) (hg (25 * o1 + p)) ∧ mk_is 1 ab be zA zB zC zD zF zT x3 x4 pn p (lw (25 * o1 + p)) (hg (25 * o1 + p)) (lw (25 * o2 + p)) (hg (25 * o2 + p)) = cF p ∧ (cF p = true → mk_lo 1 ab be zA zB zC zD zF zT x3 x4 pn p (lw (25 * o1 + p)) (hg (25 * o1 + p)) (lw (25 * o2 + p)) (hg (25 * o2 + p)) = cL p ∧ mk_hi 1 ab be zA zB zC zD zF zT x3 x4 pn p (lw (25 * o1 + p)) (hg (25 * o1 + p)) (lw (25 * o2 + p)) (hg (25 * o2 + p)) = cH p)) (hno : ∀ p, p < 25 → ¬ (fo (25 * o1 + p) = true ∧ fo (25 * o2 + p) = true) → cF p = false) : Met l yX8_sum wsX8_sum ({ frames := 7, cells := 0, slots := 0, locals := 196 } : Room) (gP D y [.ref h, .int (nI o1), .int (nI o2)] (wM y h q tw pn ki on ot ab be zA zB zC zD zF zT fo lw hg at_ tl th wo wl wh is_ lo_ hi_ di su an) sz) (gQ D (wM y h q tw pn ki on ot ab be zA zB zC zD zF zT fo lw hg at_ tl th wo wl wh is_ lo_ hi_ di su an) (fun v w => ∃ (fo1 : Nat → Bool) (lw1 : Nat → Int64) (hg1 : Nat → Int64) (at1 : Nat → Bool) (tl1 : Nat → Int64) (th1 : Nat → Int64) (is1 : Bool) (lo1 : Int64) (hi1 : Int64), v = some (.int (nI pn)) ∧ w = (wM y h q 0 (pn + 1) (upd ki pn (nI 1)) (upd on pn (nI o1)) (upd ot pn (nI o2)) ab be zA zB zC zD zF zT fo1 lw1 hg1 at1 tl1 th1 wo wl wh is1 lo1 hi1 di su an) ∧ (adS pn fo fo1 lw hg lw1 hg1 at_ at1 tl th tl1 th1) ∧ (∀ p, p < 25 → adR pn cF cL cH fo1 lw1 hg1 at1 tl1 th1 p))) 0 0 (va_A (wM y h q tw pn ki on ot ab be zA zB zC zD zF zT fo lw hg at_ tl th wo wl wh is_ lo_ hi_ di su an) sz) := by
  refine Met.ofW (cc := cX8_sum) (maxL := 3) (ret := (some .int)) (by decide) rfl ?_
  intro pg e s m args below meth c s₁ B hml hv
  obtain ⟨rfl, hsz, hP, hK, hD0⟩ := hv
  have hx := B.exec
  have hb := B.bytes
  have hr := B.returns
  have hts := atoms_spec (ws := wsX8_sum) B.pre
  have hown : s.vm.findClass RX8 = some m.cls := findClass_of_methodNamed B.named
  have hlocks := B.notSynchronized
  subst hsz
  obtain ⟨A, hAe⟩ : ∃ A : Nat → Prop, A = va_A (wM y h q tw pn ki on ot ab be zA zB zC zD zF zT fo lw hg at_ tl th wo wl wh is_ lo_ hi_ di su an) s.heap.size := ⟨_, rfl⟩
  have hD : va_D A (wM y h q tw pn ki on ot ab be zA zB zC zD zF zT fo lw hg at_ tl th wo wl wh is_ lo_ hi_ di su an) := by rw [hAe]; exact hD0.self (sz := s.heap.size)
  have hA : ∀ q : Nat, s.heap.size ≤ q → A q := fun q h => by rw [hAe]; exact Or.inr h
  have hS : va_S A s.heap s.heap [] := va_S.rf
  have hl := lv_entry ([.ref h, .int (nI o1), .int (nI o2)]) (n := 3) (Nat.le_of_ble_eq_true rfl)
  rw [lg_entry_eq]
  generalize (lg_sl ([.ref h, .int (nI o1), .int (nI o2)]) ++ List.replicate (3 - (lg_sl ([.ref h, .int (nI o1), .int (nI o2)])).length) Slot.unset).toArray = ls at hl ⊢
  have hl : lv_has ls 3 [(0, .ref h), (1, .int (nI o1)), (2, .int (nI o2))] := hl
  refine lv_aload_n hx hb dX8_sum_0 rfl (lv_at hl 0 rfl) ?_
  refine lv_iconst (v := 1) hx hb dX8_sum_1 (by decide) ?_
  refine lv_iload_n hx hb dX8_sum_2 rfl (lv_at hl 1 rfl) ?_
  refine lv_iload_n hx hb dX8_sum_3 rfl (lv_at hl 2 rfl) ?_
  refine g_callA (va_runV (As := [.int 1, .int (nI o1), .int (nI o2)]) (rest := []) ⟨hx, hb, hml, hown, hts⟩ (c_X8_ofTwo_0_1 l D y s.heap.size h q tw pn ki on ot ab be zA zB zC zD zF zT fo lw hg at_ tl th wo wl wh is_ lo_ hi_ di su an o1 o2 cF cL cH hpn ho1 ho2 yA yB hcan hno) (cwV 3 hts gX8_sum_X8_ofTwo rfl rfl rfl (by decide +kernel) ⟨Nat.le_of_ble_eq_true rfl, Nat.le_of_ble_eq_true rfl⟩) (gP_VA hP hD hK 0 rfl rfl) rfl rfl hl.1 rfl (lv_room (Nat.le_of_ble_eq_true rfl)) dX8_sum_4 ⟨Nat.zero_le _, Nat.zero_le _⟩) hP hD hS hA (fun v w1 H locs hf hP hD hS => ?_)
  obtain ⟨fo1_4, lw1_4, hg1_4, at1_4, tl1_4, th1_4, is1_4, lo1_4, hi1_4, rfl, rfl, h4_0, h4_1⟩ := hf
  have hP : va_P D vwCl (wM y h q 0 (pn + 1) (upd ki pn (nI 1)) (upd on pn (nI o1)) (upd ot pn (nI o2)) ab be zA zB zC zD zF zT fo1_4 lw1_4 hg1_4 at1_4 tl1_4 th1_4 wo wl wh is1_4 lo1_4 hi1_4 di su an) H := hP
  have hD : va_D A (wM y h q 0 (pn + 1) (upd ki pn (nI 1)) (upd on pn (nI o1)) (upd ot pn (nI o2)) ab be zA zB zC zD zF zT fo1_4 lw1_4 hg1_4 at1_4 tl1_4 th1_4 wo wl wh is1_4 lo1_4 hi1_4 di su an) := hD
  exact W.iret (v := nI pn) hx hb hr (fun t ht hW => ⟨⟨some (.int (nI pn)), wM y h q 0 (pn + 1) (upd ki pn (nI 1)) (upd on pn (nI o1)) (upd ot pn (nI o2)) ab be zA zB zC zD zF zT fo1_4 lw1_4 hg1_4 at1_4 tl1_4 th1_4 wo wl wh is1_4 lo1_4 hi1_4 di su an, rfl, ⟨fo1_4, lw1_4, hg1_4, at1_4, tl1_4, th1_4, is1_4, lo1_4, hi1_4, rfl, rfl, h4_0, h4_1⟩, rfl, by rw [ht]; exact hP⟩, by rw [← hAe]; exact hS.F ht⟩) (by rw [← hAe]; exact hS.2.2) dX8_sum_7
set_option maxHeartbeats 4000000 in
set_option maxRecDepth 100000 in
theorem c_X8_difference_1 (l : Launch) (D : va_G) (y : Nat → ClassId) (sz : Nat) (h : Nat) (q : Nat → Nat) (tw : Int32) (pn : Nat) (ki on ot ab be zA zB zC zD zF zT : Nat → Int32) (fo : Nat → Bool) (lw hg : Nat → Int64) (at_ : Nat → Bool) (tl th : Nat → Int64) (wo : Nat → Bool) (wl wh : Nat → Int64) (is_ : Bool) (lo_ hi_ : Int64) (di : Nat → Int32) (su : Nat → Int64) (an : Nat → Bool) (a b : Int32) (hbad : ¬ (sp_X8_isProgram pn a = true ∧ sp_X8_isProgram pn b = true)) : Met l yX8_difference wsX8_difference ({ frames := 3, cells := 0, slots := 0, locals := 67 } : Room) (gP D y [.ref h, .int a, .int b] (wM y h q tw pn ki on ot ab be zA zB zC zD zF zT fo lw hg at_ tl th wo wl wh is_ lo_ hi_ di su an) sz) (gQ D (wM y h q tw pn ki on ot ab be zA zB zC zD zF zT fo lw hg at_ tl th wo wl wh is_ lo_ hi_ di su an) (gF (some (.int 0)) (wM y h q 1 pn ki on ot ab be zA zB zC zD zF zT fo lw hg at_ tl th wo wl wh is_ lo_ hi_ di su an))) 0 0 (va_A (wM y h q tw pn ki on ot ab be zA zB zC zD zF zT fo lw hg at_ tl th wo wl wh is_ lo_ hi_ di su an) sz) := by
  refine Met.ofW (cc := cX8_difference) (maxL := 3) (ret := (some .int)) (by decide) rfl ?_
  intro pg e s m args below meth c s₁ B hml hv
  obtain ⟨rfl, hsz, hP, hK, hD0⟩ := hv
  have hx := B.exec
  have hb := B.bytes
  have hr := B.returns
  have hts := atoms_spec (ws := wsX8_difference) B.pre
  have hown : s.vm.findClass RX8 = some m.cls := findClass_of_methodNamed B.named
  have hlocks := B.notSynchronized
  subst hsz
  obtain ⟨A, hAe⟩ : ∃ A : Nat → Prop, A = va_A (wM y h q tw pn ki on ot ab be zA zB zC zD zF zT fo lw hg at_ tl th wo wl wh is_ lo_ hi_ di su an) s.heap.size := ⟨_, rfl⟩
  have hD : va_D A (wM y h q tw pn ki on ot ab be zA zB zC zD zF zT fo lw hg at_ tl th wo wl wh is_ lo_ hi_ di su an) := by rw [hAe]; exact hD0.self (sz := s.heap.size)
  have hA : ∀ q : Nat, s.heap.size ≤ q → A q := fun q h => by rw [hAe]; exact Or.inr h
  have hS : va_S A s.heap s.heap [] := va_S.rf
  have hl := lv_entry ([.ref h, .int a, .int b]) (n := 3) (Nat.le_of_ble_eq_true rfl)
  rw [lg_entry_eq]
  generalize (lg_sl ([.ref h, .int a, .int b]) ++ List.replicate (3 - (lg_sl ([.ref h, .int a, .int b])).length) Slot.unset).toArray = ls at hl ⊢
  have hl : lv_has ls 3 [(0, .ref h), (1, .int a), (2, .int b)] := hl
  refine lv_aload_n hx hb dX8_difference_0 rfl (lv_at hl 0 rfl) ?_
  refine lv_iconst (v := 2) hx hb dX8_difference_1 (by decide) ?_
  refine lv_iload_n hx hb dX8_difference_2 rfl (lv_at hl 1 rfl) ?_
  refine lv_iload_n hx hb dX8_difference_3 rfl (lv_at hl 2 rfl) ?_
  refine g_callA1 (v0 := .int 0) (w0 := wM y h q 1 pn ki on ot ab be zA zB zC zD zF zT fo lw hg at_ tl th wo wl wh is_ lo_ hi_ di su an) (va_runV (As := [.int 2, .int a, .int b]) (rest := []) ⟨hx, hb, hml, hown, hts⟩ (c_X8_ofTwo_1 l D y s.heap.size h q tw pn ki on ot ab be zA zB zC zD zF zT fo lw hg at_ tl th wo wl wh is_ lo_ hi_ di su an 2 a b hbad) (cwV 3 hts gX8_difference_X8_ofTwo rfl rfl rfl (by decide +kernel) ⟨Nat.le_of_ble_eq_true rfl, Nat.le_of_ble_eq_true rfl⟩) (gP_VA hP hD hK 0 rfl rfl) rfl rfl hl.1 rfl (lv_room (Nat.le_of_ble_eq_true rfl)) dX8_difference_4 ⟨Nat.zero_le _, Nat.zero_le _⟩) hP hD hS hA rfl (fun H locs hP hD hS => ?_)
  exact W.iret (v := 0) hx hb hr (fun t ht hW => ⟨⟨_, wM y h q 1 pn ki on ot ab be zA zB zC zD zF zT fo lw hg at_ tl th wo wl wh is_ lo_ hi_ di su an, rfl, ⟨congrArg (fun z => some (Value.int z)) (rfl), rfl⟩, rfl, by rw [ht]; exact hP⟩, by rw [← hAe]; exact hS.F ht⟩) (by rw [← hAe]; exact hS.2.2) dX8_difference_7
set_option maxHeartbeats 4000000 in
set_option maxRecDepth 100000 in
theorem c_X8_difference_2 (l : Launch) (D : va_G) (y : Nat → ClassId) (sz : Nat) (h : Nat) (q : Nat → Nat) (tw : Int32) (pn : Nat) (ki on ot ab be zA zB zC zD zF zT : Nat → Int32) (fo : Nat → Bool) (lw hg : Nat → Int64) (at_ : Nat → Bool) (tl th : Nat → Int64) (wo : Nat → Bool) (wl wh : Nat → Int64) (is_ : Bool) (lo_ hi_ : Int64) (di : Nat → Int32) (su : Nat → Int64) (an : Nat → Bool) (a b : Int32) (yA : sp_X8_isProgram pn a = true) (yB : sp_X8_isProgram pn b = true) (hf : nI pn = 40) : Met l yX8_difference wsX8_difference ({ frames := 3, cells := 0, slots := 0, locals := 67 } : Room) (gP D y [.ref h, .int a, .int b] (wM y h q tw pn ki on ot ab be zA zB zC zD zF zT fo lw hg at_ tl th wo wl wh is_ lo_ hi_ di su an) sz) (gQ D (wM y h q tw pn ki on ot ab be zA zB zC zD zF zT fo lw hg at_ tl th wo wl wh is_ lo_ hi_ di su an) (gF (some (.int 0)) (wM y h q 2 pn ki on ot ab be zA zB zC zD zF zT fo lw hg at_ tl th wo wl wh is_ lo_ hi_ di su an))) 0 0 (va_A (wM y h q tw pn ki on ot ab be zA zB zC zD zF zT fo lw hg at_ tl th wo wl wh is_ lo_ hi_ di su an) sz) := by
  refine Met.ofW (cc := cX8_difference) (maxL := 3) (ret := (some .int)) (by decide) rfl ?_
  intro pg e s m args below meth c s₁ B hml hv
  obtain ⟨rfl, hsz, hP, hK, hD0⟩ := hv
  have hx := B.exec
  have hb := B.bytes
  have hr := B.returns
  have hts := atoms_spec (ws := wsX8_difference) B.pre
  have hown : s.vm.findClass RX8 = some m.cls := findClass_of_methodNamed B.named
  have hlocks := B.notSynchronized
  subst hsz
  obtain ⟨A, hAe⟩ : ∃ A : Nat → Prop, A = va_A (wM y h q tw pn ki on ot ab be zA zB zC zD zF zT fo lw hg at_ tl th wo wl wh is_ lo_ hi_ di su an) s.heap.size := ⟨_, rfl⟩
  have hD : va_D A (wM y h q tw pn ki on ot ab be zA zB zC zD zF zT fo lw hg at_ tl th wo wl wh is_ lo_ hi_ di su an) := by rw [hAe]; exact hD0.self (sz := s.heap.size)
  have hA : ∀ q : Nat, s.heap.size ≤ q → A q := fun q h => by rw [hAe]; exact Or.inr h
  have hS : va_S A s.heap s.heap [] := va_S.rf
  have hl := lv_entry ([.ref h, .int a, .int b]) (n := 3) (Nat.le_of_ble_eq_true rfl)
  rw [lg_entry_eq]
  generalize (lg_sl ([.ref h, .int a, .int b]) ++ List.replicate (3 - (lg_sl ([.ref h, .int a, .int b])).length) Slot.unset).toArray = ls at hl ⊢
  have hl : lv_has ls 3 [(0, .ref h), (1, .int a), (2, .int b)] := hl
  refine lv_aload_n hx hb dX8_difference_0 rfl (lv_at hl 0 rfl) ?_
  refine lv_iconst (v := 2) hx hb dX8_difference_1 (by decide) ?_
  refine lv_iload_n hx hb dX8_difference_2 rfl (lv_at hl 1 rfl) ?_
  refine lv_iload_n hx hb dX8_difference_3 rfl (lv_at hl 2 rfl) ?_
  refine g_callA1 (v0 := .int 0) (w0 := wM y h q 2 pn ki on ot ab be zA zB zC zD zF zT fo lw hg at_ tl th wo wl wh is_ lo_ hi_ di su an) (va_runV (As := [.int 2, .int a, .int b]) (rest := []) ⟨hx, hb, hml, hown, hts⟩ (c_X8_ofTwo_2 l D y s.heap.size h q tw pn ki on ot ab be zA zB zC zD zF zT fo lw hg at_ tl th wo wl wh is_ lo_ hi_ di su an 2 a b yA yB hf) (cwV 3 hts gX8_difference_X8_ofTwo rfl rfl rfl (by decide +kernel) ⟨Nat.le_of_ble_eq_true rfl, Nat.le_of_ble_eq_true rfl⟩) (gP_VA hP hD hK 0 rfl rfl) rfl rfl hl.1 rfl (lv_room (Nat.le_of_ble_eq_true rfl)) dX8_difference_4 ⟨Nat.zero_le _, Nat.zero_le _⟩) hP hD hS hA rfl (fun H locs hP hD hS => ?_)
  exact W.iret (v := 0) hx hb hr (fun t ht hW => ⟨⟨_, wM y h q 2 pn ki on ot ab be zA zB zC zD zF zT fo lw hg at_ tl th wo wl wh is_ lo_ hi_ di su an, rfl, ⟨congrArg (fun z => some (Value.int z)) (rfl), rfl⟩, rfl, by rw [ht]; exact hP⟩, by rw [← hAe]; exact hS.F ht⟩) (by rw [← hAe]; exact hS.2.2) dX8_difference_7
set_option maxHeartbeats 4000000 in
set_option maxRecDepth 100000 in
theorem c_X8_difference_0 (l : Launch) (D : va_G) (y : Nat → ClassId) (sz : Nat) (h : Nat) (q : Nat → Nat) (tw : Int32) (pn : Nat) (ki on ot ab be zA zB zC zD zF zT : Nat → Int32) (fo : Nat → Bool) (lw hg : Nat → Int64) (at_ : Nat → Bool) (tl th : Nat → Int64) (wo : Nat → Bool) (wl wh : Nat → Int64) (is_ : Bool) (lo_ hi_ : Int64) (di : Nat → Int32) (su : Nat → Int64) (an : Nat → Bool) (o1 o2 : Nat) (cF : Nat → Bool) (cL cH : Nat → Int64) (hpn : pn < 40) (ho1 : o1 < pn) (ho2 : o2 < pn) (yA : sp_X8_isProgram pn (nI o1) = true) (yB : sp_X8_isProgram pn (nI o2) = true) (hcan : ∀ p, p < 25 → ∀ (x1 x2 x3 x4 : Int64), fo (25 * o1 + p) = true → fo (25 * o2 + p) = true → mkOK 2 be zF zT pn (lw (25 * o1 + p)) (hg (25 * o1 + p)) ∧ mk_is 2 ab be zA zB zC zD zF zT x3 x4 pn p (lw (25 * o1 + p)) (hg (25 * o1 + p)) (lw (25 * o2 + p)) (hg (25 * o2 + p)) = cF p ∧ (cF p = true → mk_lo 2 ab be zA zB zC zD zF zT x3 x4 pn p (lw (25 * o1 + p)) (hg (25 * o1 + p)) (lw (25 * o2 + p)) (hg (25 * o2 + p)) = cL p ∧ mk_hi 2 ab be zA zB zC zD zF zT x3 x4 pn p (lw (25 * o1 + p)) (hg (25 * o1 + p)) (lw (25 * o2 + p)) (hg (25 * o2 + p)) = cH p)) (hno : ∀ p, p < 25 → ¬ (fo (25 * o1 + p) = true ∧ fo (25 * o2 + p) = true) → cF p = false) : Met l yX8_difference wsX8_difference ({ frames := 7, cells := 0, slots := 0, locals := 196 } : Room) (gP D y [.ref h, .int (nI o1), .int (nI o2)] (wM y h q tw pn ki on ot ab be zA zB zC zD zF zT fo lw hg at_ tl th wo wl wh is_ lo_ hi_ di su an) sz) (gQ D (wM y h q tw pn ki on ot ab be zA zB zC zD zF zT fo lw hg at_ tl th wo wl wh is_ lo_ hi_ di su an) (fun v w => ∃ (fo1 : Nat → Bool) (lw1 : Nat → Int64) (hg1 : Nat → Int64) (at1 : Nat → Bool) (tl1 : Nat → Int64) (th1 : Nat → Int64) (is1 : Bool) (lo1 : Int64) (hi1 : Int64), v = some (.int (nI pn)) ∧ w = (wM y h q 0 (pn + 1) (upd ki pn (nI 2)) (upd on pn (nI o1)) (upd ot pn (nI o2)) ab be zA zB zC zD zF zT fo1 lw1 hg1 at1 tl1 th1 wo wl wh is1 lo1 hi1 di su an) ∧ (adS pn fo fo1 lw hg lw1 hg1 at_ at1 tl th tl1 th1) ∧ (∀ p, p < 25 → adR pn cF cL cH fo1 lw1 hg1 at1 tl1 th1 p))) 0 0 (va_A (wM y h q tw pn ki on ot ab be zA zB zC zD zF zT fo lw hg at_ tl th wo wl wh is_ lo_ hi_ di su an) sz) := by
  refine Met.ofW (cc := cX8_difference) (maxL := 3) (ret := (some .int)) (by decide) rfl ?_
  intro pg e s m args below meth c s₁ B hml hv
  obtain ⟨rfl, hsz, hP, hK, hD0⟩ := hv
  have hx := B.exec
  have hb := B.bytes
  have hr := B.returns
  have hts := atoms_spec (ws := wsX8_difference) B.pre
  have hown : s.vm.findClass RX8 = some m.cls := findClass_of_methodNamed B.named
  have hlocks := B.notSynchronized
  subst hsz
  obtain ⟨A, hAe⟩ : ∃ A : Nat → Prop, A = va_A (wM y h q tw pn ki on ot ab be zA zB zC zD zF zT fo lw hg at_ tl th wo wl wh is_ lo_ hi_ di su an) s.heap.size := ⟨_, rfl⟩
  have hD : va_D A (wM y h q tw pn ki on ot ab be zA zB zC zD zF zT fo lw hg at_ tl th wo wl wh is_ lo_ hi_ di su an) := by rw [hAe]; exact hD0.self (sz := s.heap.size)
  have hA : ∀ q : Nat, s.heap.size ≤ q → A q := fun q h => by rw [hAe]; exact Or.inr h
  have hS : va_S A s.heap s.heap [] := va_S.rf
  have hl := lv_entry ([.ref h, .int (nI o1), .int (nI o2)]) (n := 3) (Nat.le_of_ble_eq_true rfl)
  rw [lg_entry_eq]
  generalize (lg_sl ([.ref h, .int (nI o1), .int (nI o2)]) ++ List.replicate (3 - (lg_sl ([.ref h, .int (nI o1), .int (nI o2)])).length) Slot.unset).toArray = ls at hl ⊢
  have hl : lv_has ls 3 [(0, .ref h), (1, .int (nI o1)), (2, .int (nI o2))] := hl
  refine lv_aload_n hx hb dX8_difference_0 rfl (lv_at hl 0 rfl) ?_
  refine lv_iconst (v := 2) hx hb dX8_difference_1 (by decide) ?_
  refine lv_iload_n hx hb dX8_difference_2 rfl (lv_at hl 1 rfl) ?_
  refine lv_iload_n hx hb dX8_difference_3 rfl (lv_at hl 2 rfl) ?_
  refine g_callA (va_runV (As := [.int 2, .int (nI o1), .int (nI o2)]) (rest := []) ⟨hx, hb, hml, hown, hts⟩ (c_X8_ofTwo_0_2 l D y s.heap.size h q tw pn ki on ot ab be zA zB zC zD zF zT fo lw hg at_ tl th wo wl wh is_ lo_ hi_ di su an o1 o2 cF cL cH hpn ho1 ho2 yA yB hcan hno) (cwV 3 hts gX8_difference_X8_ofTwo rfl rfl rfl (by decide +kernel) ⟨Nat.le_of_ble_eq_true rfl, Nat.le_of_ble_eq_true rfl⟩) (gP_VA hP hD hK 0 rfl rfl) rfl rfl hl.1 rfl (lv_room (Nat.le_of_ble_eq_true rfl)) dX8_difference_4 ⟨Nat.zero_le _, Nat.zero_le _⟩) hP hD hS hA (fun v w1 H locs hf hP hD hS => ?_)
  obtain ⟨fo1_4, lw1_4, hg1_4, at1_4, tl1_4, th1_4, is1_4, lo1_4, hi1_4, rfl, rfl, h4_0, h4_1⟩ := hf
  have hP : va_P D vwCl (wM y h q 0 (pn + 1) (upd ki pn (nI 2)) (upd on pn (nI o1)) (upd ot pn (nI o2)) ab be zA zB zC zD zF zT fo1_4 lw1_4 hg1_4 at1_4 tl1_4 th1_4 wo wl wh is1_4 lo1_4 hi1_4 di su an) H := hP
  have hD : va_D A (wM y h q 0 (pn + 1) (upd ki pn (nI 2)) (upd on pn (nI o1)) (upd ot pn (nI o2)) ab be zA zB zC zD zF zT fo1_4 lw1_4 hg1_4 at1_4 tl1_4 th1_4 wo wl wh is1_4 lo1_4 hi1_4 di su an) := hD
  exact W.iret (v := nI pn) hx hb hr (fun t ht hW => ⟨⟨some (.int (nI pn)), wM y h q 0 (pn + 1) (upd ki pn (nI 2)) (upd on pn (nI o1)) (upd ot pn (nI o2)) ab be zA zB zC zD zF zT fo1_4 lw1_4 hg1_4 at1_4 tl1_4 th1_4 wo wl wh is1_4 lo1_4 hi1_4 di su an, rfl, ⟨fo1_4, lw1_4, hg1_4, at1_4, tl1_4, th1_4, is1_4, lo1_4, hi1_4, rfl, rfl, h4_0, h4_1⟩, rfl, by rw [ht]; exact hP⟩, by rw [← hAe]; exact hS.F ht⟩) (by rw [← hAe]; exact hS.2.2) dX8_difference_7
set_option maxHeartbeats 4000000 in
set_option maxRecDepth 100000 in
theorem c_X8_product_1 (l : Launch) (D : va_G) (y : Nat → ClassId) (sz : Nat) (h : Nat) (q : Nat → Nat) (tw : Int32) (pn : Nat) (ki on ot ab be zA zB zC zD zF zT : Nat → Int32) (fo : Nat → Bool) (lw hg : Nat → Int64) (at_ : Nat → Bool) (tl th : Nat → Int64) (wo : Nat → Bool) (wl wh : Nat → Int64) (is_ : Bool) (lo_ hi_ : Int64) (di : Nat → Int32) (su : Nat → Int64) (an : Nat → Bool) (a b : Int32) (hbad : ¬ (sp_X8_isProgram pn a = true ∧ sp_X8_isProgram pn b = true)) : Met l yX8_product wsX8_product ({ frames := 3, cells := 0, slots := 0, locals := 67 } : Room) (gP D y [.ref h, .int a, .int b] (wM y h q tw pn ki on ot ab be zA zB zC zD zF zT fo lw hg at_ tl th wo wl wh is_ lo_ hi_ di su an) sz) (gQ D (wM y h q tw pn ki on ot ab be zA zB zC zD zF zT fo lw hg at_ tl th wo wl wh is_ lo_ hi_ di su an) (gF (some (.int 0)) (wM y h q 1 pn ki on ot ab be zA zB zC zD zF zT fo lw hg at_ tl th wo wl wh is_ lo_ hi_ di su an))) 0 0 (va_A (wM y h q tw pn ki on ot ab be zA zB zC zD zF zT fo lw hg at_ tl th wo wl wh is_ lo_ hi_ di su an) sz) := by
  refine Met.ofW (cc := cX8_product) (maxL := 3) (ret := (some .int)) (by decide) rfl ?_
  intro pg e s m args below meth c s₁ B hml hv
  obtain ⟨rfl, hsz, hP, hK, hD0⟩ := hv
  have hx := B.exec
  have hb := B.bytes
  have hr := B.returns
  have hts := atoms_spec (ws := wsX8_product) B.pre
  have hown : s.vm.findClass RX8 = some m.cls := findClass_of_methodNamed B.named
  have hlocks := B.notSynchronized
  subst hsz
  obtain ⟨A, hAe⟩ : ∃ A : Nat → Prop, A = va_A (wM y h q tw pn ki on ot ab be zA zB zC zD zF zT fo lw hg at_ tl th wo wl wh is_ lo_ hi_ di su an) s.heap.size := ⟨_, rfl⟩
  have hD : va_D A (wM y h q tw pn ki on ot ab be zA zB zC zD zF zT fo lw hg at_ tl th wo wl wh is_ lo_ hi_ di su an) := by rw [hAe]; exact hD0.self (sz := s.heap.size)
  have hA : ∀ q : Nat, s.heap.size ≤ q → A q := fun q h => by rw [hAe]; exact Or.inr h
  have hS : va_S A s.heap s.heap [] := va_S.rf
  have hl := lv_entry ([.ref h, .int a, .int b]) (n := 3) (Nat.le_of_ble_eq_true rfl)
  rw [lg_entry_eq]
  generalize (lg_sl ([.ref h, .int a, .int b]) ++ List.replicate (3 - (lg_sl ([.ref h, .int a, .int b])).length) Slot.unset).toArray = ls at hl ⊢
  have hl : lv_has ls 3 [(0, .ref h), (1, .int a), (2, .int b)] := hl
  refine lv_aload_n hx hb dX8_product_0 rfl (lv_at hl 0 rfl) ?_
  refine lv_iconst (v := 3) hx hb dX8_product_1 (by decide) ?_
  refine lv_iload_n hx hb dX8_product_2 rfl (lv_at hl 1 rfl) ?_
  refine lv_iload_n hx hb dX8_product_3 rfl (lv_at hl 2 rfl) ?_
  refine g_callA1 (v0 := .int 0) (w0 := wM y h q 1 pn ki on ot ab be zA zB zC zD zF zT fo lw hg at_ tl th wo wl wh is_ lo_ hi_ di su an) (va_runV (As := [.int 3, .int a, .int b]) (rest := []) ⟨hx, hb, hml, hown, hts⟩ (c_X8_ofTwo_1 l D y s.heap.size h q tw pn ki on ot ab be zA zB zC zD zF zT fo lw hg at_ tl th wo wl wh is_ lo_ hi_ di su an 3 a b hbad) (cwV 3 hts gX8_product_X8_ofTwo rfl rfl rfl (by decide +kernel) ⟨Nat.le_of_ble_eq_true rfl, Nat.le_of_ble_eq_true rfl⟩) (gP_VA hP hD hK 0 rfl rfl) rfl rfl hl.1 rfl (lv_room (Nat.le_of_ble_eq_true rfl)) dX8_product_4 ⟨Nat.zero_le _, Nat.zero_le _⟩) hP hD hS hA rfl (fun H locs hP hD hS => ?_)
  exact W.iret (v := 0) hx hb hr (fun t ht hW => ⟨⟨_, wM y h q 1 pn ki on ot ab be zA zB zC zD zF zT fo lw hg at_ tl th wo wl wh is_ lo_ hi_ di su an, rfl, ⟨congrArg (fun z => some (Value.int z)) (rfl), rfl⟩, rfl, by rw [ht]; exact hP⟩, by rw [← hAe]; exact hS.F ht⟩) (by rw [← hAe]; exact hS.2.2) dX8_product_7
set_option maxHeartbeats 4000000 in
set_option maxRecDepth 100000 in
theorem c_X8_product_2 (l : Launch) (D : va_G) (y : Nat → ClassId) (sz : Nat) (h : Nat) (q : Nat → Nat) (tw : Int32) (pn : Nat) (ki on ot ab be zA zB zC zD zF zT : Nat → Int32) (fo : Nat → Bool) (lw hg : Nat → Int64) (at_ : Nat → Bool) (tl th : Nat → Int64) (wo : Nat → Bool) (wl wh : Nat → Int64) (is_ : Bool) (lo_ hi_ : Int64) (di : Nat → Int32) (su : Nat → Int64) (an : Nat → Bool) (a b : Int32) (yA : sp_X8_isProgram pn a = true) (yB : sp_X8_isProgram pn b = true) (hf : nI pn = 40) : Met l yX8_product wsX8_product ({ frames := 3, cells := 0, slots := 0, locals := 67 } : Room) (gP D y [.ref h, .int a, .int b] (wM y h q tw pn ki on ot ab be zA zB zC zD zF zT fo lw hg at_ tl th wo wl wh is_ lo_ hi_ di su an) sz) (gQ D (wM y h q tw pn ki on ot ab be zA zB zC zD zF zT fo lw hg at_ tl th wo wl wh is_ lo_ hi_ di su an) (gF (some (.int 0)) (wM y h q 2 pn ki on ot ab be zA zB zC zD zF zT fo lw hg at_ tl th wo wl wh is_ lo_ hi_ di su an))) 0 0 (va_A (wM y h q tw pn ki on ot ab be zA zB zC zD zF zT fo lw hg at_ tl th wo wl wh is_ lo_ hi_ di su an) sz) := by
  refine Met.ofW (cc := cX8_product) (maxL := 3) (ret := (some .int)) (by decide) rfl ?_
  intro pg e s m args below meth c s₁ B hml hv
  obtain ⟨rfl, hsz, hP, hK, hD0⟩ := hv
  have hx := B.exec
  have hb := B.bytes
  have hr := B.returns
  have hts := atoms_spec (ws := wsX8_product) B.pre
  have hown : s.vm.findClass RX8 = some m.cls := findClass_of_methodNamed B.named
  have hlocks := B.notSynchronized
  subst hsz
  obtain ⟨A, hAe⟩ : ∃ A : Nat → Prop, A = va_A (wM y h q tw pn ki on ot ab be zA zB zC zD zF zT fo lw hg at_ tl th wo wl wh is_ lo_ hi_ di su an) s.heap.size := ⟨_, rfl⟩
  have hD : va_D A (wM y h q tw pn ki on ot ab be zA zB zC zD zF zT fo lw hg at_ tl th wo wl wh is_ lo_ hi_ di su an) := by rw [hAe]; exact hD0.self (sz := s.heap.size)
  have hA : ∀ q : Nat, s.heap.size ≤ q → A q := fun q h => by rw [hAe]; exact Or.inr h
  have hS : va_S A s.heap s.heap [] := va_S.rf
  have hl := lv_entry ([.ref h, .int a, .int b]) (n := 3) (Nat.le_of_ble_eq_true rfl)
  rw [lg_entry_eq]
  generalize (lg_sl ([.ref h, .int a, .int b]) ++ List.replicate (3 - (lg_sl ([.ref h, .int a, .int b])).length) Slot.unset).toArray = ls at hl ⊢
  have hl : lv_has ls 3 [(0, .ref h), (1, .int a), (2, .int b)] := hl
  refine lv_aload_n hx hb dX8_product_0 rfl (lv_at hl 0 rfl) ?_
  refine lv_iconst (v := 3) hx hb dX8_product_1 (by decide) ?_
  refine lv_iload_n hx hb dX8_product_2 rfl (lv_at hl 1 rfl) ?_
  refine lv_iload_n hx hb dX8_product_3 rfl (lv_at hl 2 rfl) ?_
  refine g_callA1 (v0 := .int 0) (w0 := wM y h q 2 pn ki on ot ab be zA zB zC zD zF zT fo lw hg at_ tl th wo wl wh is_ lo_ hi_ di su an) (va_runV (As := [.int 3, .int a, .int b]) (rest := []) ⟨hx, hb, hml, hown, hts⟩ (c_X8_ofTwo_2 l D y s.heap.size h q tw pn ki on ot ab be zA zB zC zD zF zT fo lw hg at_ tl th wo wl wh is_ lo_ hi_ di su an 3 a b yA yB hf) (cwV 3 hts gX8_product_X8_ofTwo rfl rfl rfl (by decide +kernel) ⟨Nat.le_of_ble_eq_true rfl, Nat.le_of_ble_eq_true rfl⟩) (gP_VA hP hD hK 0 rfl rfl) rfl rfl hl.1 rfl (lv_room (Nat.le_of_ble_eq_true rfl)) dX8_product_4 ⟨Nat.zero_le _, Nat.zero_le _⟩) hP hD hS hA rfl (fun H locs hP hD hS => ?_)
  exact W.iret (v := 0) hx hb hr (fun t ht hW => ⟨⟨_, wM y h q 2 pn ki on ot ab be zA zB zC zD zF zT fo lw hg at_ tl th wo wl wh is_ lo_ hi_ di su an, rfl, ⟨congrArg (fun z => some (Value.int z)) (rfl), rfl⟩, rfl, by rw [ht]; exact hP⟩, by rw [← hAe]; exact hS.F ht⟩) (by rw [← hAe]; exact hS.2.2) dX8_product_7
set_option maxHeartbeats 4000000 in
set_option maxRecDepth 100000 in
theorem c_X8_product_0 (l : Launch) (D : va_G) (y : Nat → ClassId) (sz : Nat) (h : Nat) (q : Nat → Nat) (tw : Int32) (pn : Nat) (ki on ot ab be zA zB zC zD zF zT : Nat → Int32) (fo : Nat → Bool) (lw hg : Nat → Int64) (at_ : Nat → Bool) (tl th : Nat → Int64) (wo : Nat → Bool) (wl wh : Nat → Int64) (is_ : Bool) (lo_ hi_ : Int64) (di : Nat → Int32) (su : Nat → Int64) (an : Nat → Bool) (o1 o2 : Nat) (cF : Nat → Bool) (cL cH : Nat → Int64) (hpn : pn < 40) (ho1 : o1 < pn) (ho2 : o2 < pn) (yA : sp_X8_isProgram pn (nI o1) = true) (yB : sp_X8_isProgram pn (nI o2) = true) (hcan : ∀ p, p < 25 → ∀ (x1 x2 x3 x4 : Int64), fo (25 * o1 + p) = true → fo (25 * o2 + p) = true → mkOK 3 be zF zT pn (lw (25 * o1 + p)) (hg (25 * o1 + p)) ∧ mk_is 3 ab be zA zB zC zD zF zT x3 x4 pn p (lw (25 * o1 + p)) (hg (25 * o1 + p)) (lw (25 * o2 + p)) (hg (25 * o2 + p)) = cF p ∧ (cF p = true → mk_lo 3 ab be zA zB zC zD zF zT x3 x4 pn p (lw (25 * o1 + p)) (hg (25 * o1 + p)) (lw (25 * o2 + p)) (hg (25 * o2 + p)) = cL p ∧ mk_hi 3 ab be zA zB zC zD zF zT x3 x4 pn p (lw (25 * o1 + p)) (hg (25 * o1 + p)) (lw (25 * o2 + p)) (hg (25 * o2 + p)) = cH p)) (hno : ∀ p, p < 25 → ¬ (fo (25 * o1 + p) = true ∧ fo (25 * o2 + p) = true) → cF p = false) : Met l yX8_product wsX8_product ({ frames := 7, cells := 0, slots := 0, locals := 196 } : Room) (gP D y [.ref h, .int (nI o1), .int (nI o2)] (wM y h q tw pn ki on ot ab be zA zB zC zD zF zT fo lw hg at_ tl th wo wl wh is_ lo_ hi_ di su an) sz) (gQ D (wM y h q tw pn ki on ot ab be zA zB zC zD zF zT fo lw hg at_ tl th wo wl wh is_ lo_ hi_ di su an) (fun v w => ∃ (fo1 : Nat → Bool) (lw1 : Nat → Int64) (hg1 : Nat → Int64) (at1 : Nat → Bool) (tl1 : Nat → Int64) (th1 : Nat → Int64) (is1 : Bool) (lo1 : Int64) (hi1 : Int64), v = some (.int (nI pn)) ∧ w = (wM y h q 0 (pn + 1) (upd ki pn (nI 3)) (upd on pn (nI o1)) (upd ot pn (nI o2)) ab be zA zB zC zD zF zT fo1 lw1 hg1 at1 tl1 th1 wo wl wh is1 lo1 hi1 di su an) ∧ (adS pn fo fo1 lw hg lw1 hg1 at_ at1 tl th tl1 th1) ∧ (∀ p, p < 25 → adR pn cF cL cH fo1 lw1 hg1 at1 tl1 th1 p))) 0 0 (va_A (wM y h q tw pn ki on ot ab be zA zB zC zD zF zT fo lw hg at_ tl th wo wl wh is_ lo_ hi_ di su an) sz) := by
  refine Met.ofW (cc := cX8_product) (maxL := 3) (ret := (some .int)) (by decide) rfl ?_
  intro pg e s m args below meth c s₁ B hml hv
  obtain ⟨rfl, hsz, hP, hK, hD0⟩ := hv
  have hx := B.exec
  have hb := B.bytes
  have hr := B.returns
  have hts := atoms_spec (ws := wsX8_product) B.pre
  have hown : s.vm.findClass RX8 = some m.cls := findClass_of_methodNamed B.named
  have hlocks := B.notSynchronized
  subst hsz
  obtain ⟨A, hAe⟩ : ∃ A : Nat → Prop, A = va_A (wM y h q tw pn ki on ot ab be zA zB zC zD zF zT fo lw hg at_ tl th wo wl wh is_ lo_ hi_ di su an) s.heap.size := ⟨_, rfl⟩
  have hD : va_D A (wM y h q tw pn ki on ot ab be zA zB zC zD zF zT fo lw hg at_ tl th wo wl wh is_ lo_ hi_ di su an) := by rw [hAe]; exact hD0.self (sz := s.heap.size)
  have hA : ∀ q : Nat, s.heap.size ≤ q → A q := fun q h => by rw [hAe]; exact Or.inr h
  have hS : va_S A s.heap s.heap [] := va_S.rf
  have hl := lv_entry ([.ref h, .int (nI o1), .int (nI o2)]) (n := 3) (Nat.le_of_ble_eq_true rfl)
  rw [lg_entry_eq]
  generalize (lg_sl ([.ref h, .int (nI o1), .int (nI o2)]) ++ List.replicate (3 - (lg_sl ([.ref h, .int (nI o1), .int (nI o2)])).length) Slot.unset).toArray = ls at hl ⊢
  have hl : lv_has ls 3 [(0, .ref h), (1, .int (nI o1)), (2, .int (nI o2))] := hl
  refine lv_aload_n hx hb dX8_product_0 rfl (lv_at hl 0 rfl) ?_
  refine lv_iconst (v := 3) hx hb dX8_product_1 (by decide) ?_
  refine lv_iload_n hx hb dX8_product_2 rfl (lv_at hl 1 rfl) ?_
  refine lv_iload_n hx hb dX8_product_3 rfl (lv_at hl 2 rfl) ?_
  refine g_callA (va_runV (As := [.int 3, .int (nI o1), .int (nI o2)]) (rest := []) ⟨hx, hb, hml, hown, hts⟩ (c_X8_ofTwo_0_3 l D y s.heap.size h q tw pn ki on ot ab be zA zB zC zD zF zT fo lw hg at_ tl th wo wl wh is_ lo_ hi_ di su an o1 o2 cF cL cH hpn ho1 ho2 yA yB hcan hno) (cwV 3 hts gX8_product_X8_ofTwo rfl rfl rfl (by decide +kernel) ⟨Nat.le_of_ble_eq_true rfl, Nat.le_of_ble_eq_true rfl⟩) (gP_VA hP hD hK 0 rfl rfl) rfl rfl hl.1 rfl (lv_room (Nat.le_of_ble_eq_true rfl)) dX8_product_4 ⟨Nat.zero_le _, Nat.zero_le _⟩) hP hD hS hA (fun v w1 H locs hf hP hD hS => ?_)
  obtain ⟨fo1_4, lw1_4, hg1_4, at1_4, tl1_4, th1_4, is1_4, lo1_4, hi1_4, rfl, rfl, h4_0, h4_1⟩ := hf
  have hP : va_P D vwCl (wM y h q 0 (pn + 1) (upd ki pn (nI 3)) (upd on pn (nI o1)) (upd ot pn (nI o2)) ab be zA zB zC zD zF zT fo1_4 lw1_4 hg1_4 at1_4 tl1_4 th1_4 wo wl wh is1_4 lo1_4 hi1_4 di su an) H := hP
  have hD : va_D A (wM y h q 0 (pn + 1) (upd ki pn (nI 3)) (upd on pn (nI o1)) (upd ot pn (nI o2)) ab be zA zB zC zD zF zT fo1_4 lw1_4 hg1_4 at1_4 tl1_4 th1_4 wo wl wh is1_4 lo1_4 hi1_4 di su an) := hD
  exact W.iret (v := nI pn) hx hb hr (fun t ht hW => ⟨⟨some (.int (nI pn)), wM y h q 0 (pn + 1) (upd ki pn (nI 3)) (upd on pn (nI o1)) (upd ot pn (nI o2)) ab be zA zB zC zD zF zT fo1_4 lw1_4 hg1_4 at1_4 tl1_4 th1_4 wo wl wh is1_4 lo1_4 hi1_4 di su an, rfl, ⟨fo1_4, lw1_4, hg1_4, at1_4, tl1_4, th1_4, is1_4, lo1_4, hi1_4, rfl, rfl, h4_0, h4_1⟩, rfl, by rw [ht]; exact hP⟩, by rw [← hAe]; exact hS.F ht⟩) (by rw [← hAe]; exact hS.2.2) dX8_product_7
set_option maxHeartbeats 4000000 in
set_option maxRecDepth 100000 in
theorem c_X8_greater_1 (l : Launch) (D : va_G) (y : Nat → ClassId) (sz : Nat) (h : Nat) (q : Nat → Nat) (tw : Int32) (pn : Nat) (ki on ot ab be zA zB zC zD zF zT : Nat → Int32) (fo : Nat → Bool) (lw hg : Nat → Int64) (at_ : Nat → Bool) (tl th : Nat → Int64) (wo : Nat → Bool) (wl wh : Nat → Int64) (is_ : Bool) (lo_ hi_ : Int64) (di : Nat → Int32) (su : Nat → Int64) (an : Nat → Bool) (a b : Int32) (hbad : ¬ (sp_X8_isProgram pn a = true ∧ sp_X8_isProgram pn b = true)) : Met l yX8_greater wsX8_greater ({ frames := 3, cells := 0, slots := 0, locals := 67 } : Room) (gP D y [.ref h, .int a, .int b] (wM y h q tw pn ki on ot ab be zA zB zC zD zF zT fo lw hg at_ tl th wo wl wh is_ lo_ hi_ di su an) sz) (gQ D (wM y h q tw pn ki on ot ab be zA zB zC zD zF zT fo lw hg at_ tl th wo wl wh is_ lo_ hi_ di su an) (gF (some (.int 0)) (wM y h q 1 pn ki on ot ab be zA zB zC zD zF zT fo lw hg at_ tl th wo wl wh is_ lo_ hi_ di su an))) 0 0 (va_A (wM y h q tw pn ki on ot ab be zA zB zC zD zF zT fo lw hg at_ tl th wo wl wh is_ lo_ hi_ di su an) sz) := by
  refine Met.ofW (cc := cX8_greater) (maxL := 3) (ret := (some .int)) (by decide) rfl ?_
  intro pg e s m args below meth c s₁ B hml hv
  obtain ⟨rfl, hsz, hP, hK, hD0⟩ := hv
  have hx := B.exec
  have hb := B.bytes
  have hr := B.returns
  have hts := atoms_spec (ws := wsX8_greater) B.pre
  have hown : s.vm.findClass RX8 = some m.cls := findClass_of_methodNamed B.named
  have hlocks := B.notSynchronized
  subst hsz
  obtain ⟨A, hAe⟩ : ∃ A : Nat → Prop, A = va_A (wM y h q tw pn ki on ot ab be zA zB zC zD zF zT fo lw hg at_ tl th wo wl wh is_ lo_ hi_ di su an) s.heap.size := ⟨_, rfl⟩
  have hD : va_D A (wM y h q tw pn ki on ot ab be zA zB zC zD zF zT fo lw hg at_ tl th wo wl wh is_ lo_ hi_ di su an) := by rw [hAe]; exact hD0.self (sz := s.heap.size)
  have hA : ∀ q : Nat, s.heap.size ≤ q → A q := fun q h => by rw [hAe]; exact Or.inr h
  have hS : va_S A s.heap s.heap [] := va_S.rf
  have hl := lv_entry ([.ref h, .int a, .int b]) (n := 3) (Nat.le_of_ble_eq_true rfl)
  rw [lg_entry_eq]
  generalize (lg_sl ([.ref h, .int a, .int b]) ++ List.replicate (3 - (lg_sl ([.ref h, .int a, .int b])).length) Slot.unset).toArray = ls at hl ⊢
  have hl : lv_has ls 3 [(0, .ref h), (1, .int a), (2, .int b)] := hl
  refine lv_aload_n hx hb dX8_greater_0 rfl (lv_at hl 0 rfl) ?_
  refine lv_iconst (v := 4) hx hb dX8_greater_1 (by decide) ?_
  refine lv_iload_n hx hb dX8_greater_2 rfl (lv_at hl 1 rfl) ?_
  refine lv_iload_n hx hb dX8_greater_3 rfl (lv_at hl 2 rfl) ?_
  refine g_callA1 (v0 := .int 0) (w0 := wM y h q 1 pn ki on ot ab be zA zB zC zD zF zT fo lw hg at_ tl th wo wl wh is_ lo_ hi_ di su an) (va_runV (As := [.int 4, .int a, .int b]) (rest := []) ⟨hx, hb, hml, hown, hts⟩ (c_X8_ofTwo_1 l D y s.heap.size h q tw pn ki on ot ab be zA zB zC zD zF zT fo lw hg at_ tl th wo wl wh is_ lo_ hi_ di su an 4 a b hbad) (cwV 3 hts gX8_greater_X8_ofTwo rfl rfl rfl (by decide +kernel) ⟨Nat.le_of_ble_eq_true rfl, Nat.le_of_ble_eq_true rfl⟩) (gP_VA hP hD hK 0 rfl rfl) rfl rfl hl.1 rfl (lv_room (Nat.le_of_ble_eq_true rfl)) dX8_greater_4 ⟨Nat.zero_le _, Nat.zero_le _⟩) hP hD hS hA rfl (fun H locs hP hD hS => ?_)
  exact W.iret (v := 0) hx hb hr (fun t ht hW => ⟨⟨_, wM y h q 1 pn ki on ot ab be zA zB zC zD zF zT fo lw hg at_ tl th wo wl wh is_ lo_ hi_ di su an, rfl, ⟨congrArg (fun z => some (Value.int z)) (rfl), rfl⟩, rfl, by rw [ht]; exact hP⟩, by rw [← hAe]; exact hS.F ht⟩) (by rw [← hAe]; exact hS.2.2) dX8_greater_7
set_option maxHeartbeats 4000000 in
set_option maxRecDepth 100000 in
theorem c_X8_greater_2 (l : Launch) (D : va_G) (y : Nat → ClassId) (sz : Nat) (h : Nat) (q : Nat → Nat) (tw : Int32) (pn : Nat) (ki on ot ab be zA zB zC zD zF zT : Nat → Int32) (fo : Nat → Bool) (lw hg : Nat → Int64) (at_ : Nat → Bool) (tl th : Nat → Int64) (wo : Nat → Bool) (wl wh : Nat → Int64) (is_ : Bool) (lo_ hi_ : Int64) (di : Nat → Int32) (su : Nat → Int64) (an : Nat → Bool) (a b : Int32) (yA : sp_X8_isProgram pn a = true) (yB : sp_X8_isProgram pn b = true) (hf : nI pn = 40) : Met l yX8_greater wsX8_greater ({ frames := 3, cells := 0, slots := 0, locals := 67 } : Room) (gP D y [.ref h, .int a, .int b] (wM y h q tw pn ki on ot ab be zA zB zC zD zF zT fo lw hg at_ tl th wo wl wh is_ lo_ hi_ di su an) sz) (gQ D (wM y h q tw pn ki on ot ab be zA zB zC zD zF zT fo lw hg at_ tl th wo wl wh is_ lo_ hi_ di su an) (gF (some (.int 0)) (wM y h q 2 pn ki on ot ab be zA zB zC zD zF zT fo lw hg at_ tl th wo wl wh is_ lo_ hi_ di su an))) 0 0 (va_A (wM y h q tw pn ki on ot ab be zA zB zC zD zF zT fo lw hg at_ tl th wo wl wh is_ lo_ hi_ di su an) sz) := by
  refine Met.ofW (cc := cX8_greater) (maxL := 3) (ret := (some .int)) (by decide) rfl ?_
  intro pg e s m args below meth c s₁ B hml hv
  obtain ⟨rfl, hsz, hP, hK, hD0⟩ := hv
  have hx := B.exec
  have hb := B.bytes
  have hr := B.returns
  have hts := atoms_spec (ws := wsX8_greater) B.pre
  have hown : s.vm.findClass RX8 = some m.cls := findClass_of_methodNamed B.named
  have hlocks := B.notSynchronized
  subst hsz
  obtain ⟨A, hAe⟩ : ∃ A : Nat → Prop, A = va_A (wM y h q tw pn ki on ot ab be zA zB zC zD zF zT fo lw hg at_ tl th wo wl wh is_ lo_ hi_ di su an) s.heap.size := ⟨_, rfl⟩
  have hD : va_D A (wM y h q tw pn ki on ot ab be zA zB zC zD zF zT fo lw hg at_ tl th wo wl wh is_ lo_ hi_ di su an) := by rw [hAe]; exact hD0.self (sz := s.heap.size)
  have hA : ∀ q : Nat, s.heap.size ≤ q → A q := fun q h => by rw [hAe]; exact Or.inr h
  have hS : va_S A s.heap s.heap [] := va_S.rf
  have hl := lv_entry ([.ref h, .int a, .int b]) (n := 3) (Nat.le_of_ble_eq_true rfl)
  rw [lg_entry_eq]
  generalize (lg_sl ([.ref h, .int a, .int b]) ++ List.replicate (3 - (lg_sl ([.ref h, .int a, .int b])).length) Slot.unset).toArray = ls at hl ⊢
  have hl : lv_has ls 3 [(0, .ref h), (1, .int a), (2, .int b)] := hl
  refine lv_aload_n hx hb dX8_greater_0 rfl (lv_at hl 0 rfl) ?_
  refine lv_iconst (v := 4) hx hb dX8_greater_1 (by decide) ?_
  refine lv_iload_n hx hb dX8_greater_2 rfl (lv_at hl 1 rfl) ?_
  refine lv_iload_n hx hb dX8_greater_3 rfl (lv_at hl 2 rfl) ?_
  refine g_callA1 (v0 := .int 0) (w0 := wM y h q 2 pn ki on ot ab be zA zB zC zD zF zT fo lw hg at_ tl th wo wl wh is_ lo_ hi_ di su an) (va_runV (As := [.int 4, .int a, .int b]) (rest := []) ⟨hx, hb, hml, hown, hts⟩ (c_X8_ofTwo_2 l D y s.heap.size h q tw pn ki on ot ab be zA zB zC zD zF zT fo lw hg at_ tl th wo wl wh is_ lo_ hi_ di su an 4 a b yA yB hf) (cwV 3 hts gX8_greater_X8_ofTwo rfl rfl rfl (by decide +kernel) ⟨Nat.le_of_ble_eq_true rfl, Nat.le_of_ble_eq_true rfl⟩) (gP_VA hP hD hK 0 rfl rfl) rfl rfl hl.1 rfl (lv_room (Nat.le_of_ble_eq_true rfl)) dX8_greater_4 ⟨Nat.zero_le _, Nat.zero_le _⟩) hP hD hS hA rfl (fun H locs hP hD hS => ?_)
  exact W.iret (v := 0) hx hb hr (fun t ht hW => ⟨⟨_, wM y h q 2 pn ki on ot ab be zA zB zC zD zF zT fo lw hg at_ tl th wo wl wh is_ lo_ hi_ di su an, rfl, ⟨congrArg (fun z => some (Value.int z)) (rfl), rfl⟩, rfl, by rw [ht]; exact hP⟩, by rw [← hAe]; exact hS.F ht⟩) (by rw [← hAe]; exact hS.2.2) dX8_greater_7
set_option maxHeartbeats 4000000 in
set_option maxRecDepth 100000 in
theorem c_X8_greater_0 (l : Launch) (D : va_G) (y : Nat → ClassId) (sz : Nat) (h : Nat) (q : Nat → Nat) (tw : Int32) (pn : Nat) (ki on ot ab be zA zB zC zD zF zT : Nat → Int32) (fo : Nat → Bool) (lw hg : Nat → Int64) (at_ : Nat → Bool) (tl th : Nat → Int64) (wo : Nat → Bool) (wl wh : Nat → Int64) (is_ : Bool) (lo_ hi_ : Int64) (di : Nat → Int32) (su : Nat → Int64) (an : Nat → Bool) (o1 o2 : Nat) (cF : Nat → Bool) (cL cH : Nat → Int64) (hpn : pn < 40) (ho1 : o1 < pn) (ho2 : o2 < pn) (yA : sp_X8_isProgram pn (nI o1) = true) (yB : sp_X8_isProgram pn (nI o2) = true) (hcan : ∀ p, p < 25 → ∀ (x1 x2 x3 x4 : Int64), fo (25 * o1 + p) = true → fo (25 * o2 + p) = true → mkOK 4 be zF zT pn (lw (25 * o1 + p)) (hg (25 * o1 + p)) ∧ mk_is 4 ab be zA zB zC zD zF zT x3 x4 pn p (lw (25 * o1 + p)) (hg (25 * o1 + p)) (lw (25 * o2 + p)) (hg (25 * o2 + p)) = cF p ∧ (cF p = true → mk_lo 4 ab be zA zB zC zD zF zT x3 x4 pn p (lw (25 * o1 + p)) (hg (25 * o1 + p)) (lw (25 * o2 + p)) (hg (25 * o2 + p)) = cL p ∧ mk_hi 4 ab be zA zB zC zD zF zT x3 x4 pn p (lw (25 * o1 + p)) (hg (25 * o1 + p)) (lw (25 * o2 + p)) (hg (25 * o2 + p)) = cH p)) (hno : ∀ p, p < 25 → ¬ (fo (25 * o1 + p) = true ∧ fo (25 * o2 + p) = true) → cF p = false) : Met l yX8_greater wsX8_greater ({ frames := 7, cells := 0, slots := 0, locals := 196 } : Room) (gP D y [.ref h, .int (nI o1), .int (nI o2)] (wM y h q tw pn ki on ot ab be zA zB zC zD zF zT fo lw hg at_ tl th wo wl wh is_ lo_ hi_ di su an) sz) (gQ D (wM y h q tw pn ki on ot ab be zA zB zC zD zF zT fo lw hg at_ tl th wo wl wh is_ lo_ hi_ di su an) (fun v w => ∃ (fo1 : Nat → Bool) (lw1 : Nat → Int64) (hg1 : Nat → Int64) (at1 : Nat → Bool) (tl1 : Nat → Int64) (th1 : Nat → Int64) (is1 : Bool) (lo1 : Int64) (hi1 : Int64), v = some (.int (nI pn)) ∧ w = (wM y h q 0 (pn + 1) (upd ki pn (nI 4)) (upd on pn (nI o1)) (upd ot pn (nI o2)) ab be zA zB zC zD zF zT fo1 lw1 hg1 at1 tl1 th1 wo wl wh is1 lo1 hi1 di su an) ∧ (adS pn fo fo1 lw hg lw1 hg1 at_ at1 tl th tl1 th1) ∧ (∀ p, p < 25 → adR pn cF cL cH fo1 lw1 hg1 at1 tl1 th1 p))) 0 0 (va_A (wM y h q tw pn ki on ot ab be zA zB zC zD zF zT fo lw hg at_ tl th wo wl wh is_ lo_ hi_ di su an) sz) := by
  refine Met.ofW (cc := cX8_greater) (maxL := 3) (ret := (some .int)) (by decide) rfl ?_
  intro pg e s m args below meth c s₁ B hml hv
  obtain ⟨rfl, hsz, hP, hK, hD0⟩ := hv
  have hx := B.exec
  have hb := B.bytes
  have hr := B.returns
  have hts := atoms_spec (ws := wsX8_greater) B.pre
  have hown : s.vm.findClass RX8 = some m.cls := findClass_of_methodNamed B.named
  have hlocks := B.notSynchronized
  subst hsz
  obtain ⟨A, hAe⟩ : ∃ A : Nat → Prop, A = va_A (wM y h q tw pn ki on ot ab be zA zB zC zD zF zT fo lw hg at_ tl th wo wl wh is_ lo_ hi_ di su an) s.heap.size := ⟨_, rfl⟩
  have hD : va_D A (wM y h q tw pn ki on ot ab be zA zB zC zD zF zT fo lw hg at_ tl th wo wl wh is_ lo_ hi_ di su an) := by rw [hAe]; exact hD0.self (sz := s.heap.size)
  have hA : ∀ q : Nat, s.heap.size ≤ q → A q := fun q h => by rw [hAe]; exact Or.inr h
  have hS : va_S A s.heap s.heap [] := va_S.rf
  have hl := lv_entry ([.ref h, .int (nI o1), .int (nI o2)]) (n := 3) (Nat.le_of_ble_eq_true rfl)
  rw [lg_entry_eq]
  generalize (lg_sl ([.ref h, .int (nI o1), .int (nI o2)]) ++ List.replicate (3 - (lg_sl ([.ref h, .int (nI o1), .int (nI o2)])).length) Slot.unset).toArray = ls at hl ⊢
  have hl : lv_has ls 3 [(0, .ref h), (1, .int (nI o1)), (2, .int (nI o2))] := hl
  refine lv_aload_n hx hb dX8_greater_0 rfl (lv_at hl 0 rfl) ?_
  refine lv_iconst (v := 4) hx hb dX8_greater_1 (by decide) ?_
  refine lv_iload_n hx hb dX8_greater_2 rfl (lv_at hl 1 rfl) ?_
  refine lv_iload_n hx hb dX8_greater_3 rfl (lv_at hl 2 rfl) ?_
  refine g_callA (va_runV (As := [.int 4, .int (nI o1), .int (nI o2)]) (rest := []) ⟨hx, hb, hml, hown, hts⟩ (c_X8_ofTwo_0_4 l D y s.heap.size h q tw pn ki on ot ab be zA zB zC zD zF zT fo lw hg at_ tl th wo wl wh is_ lo_ hi_ di su an o1 o2 cF cL cH hpn ho1 ho2 yA yB hcan hno) (cwV 3 hts gX8_greater_X8_ofTwo rfl rfl rfl (by decide +kernel) ⟨Nat.le_of_ble_eq_true rfl, Nat.le_of_ble_eq_true rfl⟩) (gP_VA hP hD hK 0 rfl rfl) rfl rfl hl.1 rfl (lv_room (Nat.le_of_ble_eq_true rfl)) dX8_greater_4 ⟨Nat.zero_le _, Nat.zero_le _⟩) hP hD hS hA (fun v w1 H locs hf hP hD hS => ?_)
  obtain ⟨fo1_4, lw1_4, hg1_4, at1_4, tl1_4, th1_4, is1_4, lo1_4, hi1_4, rfl, rfl, h4_0, h4_1⟩ := hf
  have hP : va_P D vwCl (wM y h q 0 (pn + 1) (upd ki pn (nI 4)) (upd on pn (nI o1)) (upd ot pn (nI o2)) ab be zA zB zC zD zF zT fo1_4 lw1_4 hg1_4 at1_4 tl1_4 th1_4 wo wl wh is1_4 lo1_4 hi1_4 di su an) H := hP
  have hD : va_D A (wM y h q 0 (pn + 1) (upd ki pn (nI 4)) (upd on pn (nI o1)) (upd ot pn (nI o2)) ab be zA zB zC zD zF zT fo1_4 lw1_4 hg1_4 at1_4 tl1_4 th1_4 wo wl wh is1_4 lo1_4 hi1_4 di su an) := hD
  exact W.iret (v := nI pn) hx hb hr (fun t ht hW => ⟨⟨some (.int (nI pn)), wM y h q 0 (pn + 1) (upd ki pn (nI 4)) (upd on pn (nI o1)) (upd ot pn (nI o2)) ab be zA zB zC zD zF zT fo1_4 lw1_4 hg1_4 at1_4 tl1_4 th1_4 wo wl wh is1_4 lo1_4 hi1_4 di su an, rfl, ⟨fo1_4, lw1_4, hg1_4, at1_4, tl1_4, th1_4, is1_4, lo1_4, hi1_4, rfl, rfl, h4_0, h4_1⟩, rfl, by rw [ht]; exact hP⟩, by rw [← hAe]; exact hS.F ht⟩) (by rw [← hAe]; exact hS.2.2) dX8_greater_7
set_option maxHeartbeats 4000000 in
set_option maxRecDepth 100000 in
theorem c_X8_inverse_1 (l : Launch) (D : va_G) (y : Nat → ClassId) (sz : Nat) (h : Nat) (q : Nat → Nat) (tw : Int32) (pn : Nat) (ki on ot ab be zA zB zC zD zF zT : Nat → Int32) (fo : Nat → Bool) (lw hg : Nat → Int64) (at_ : Nat → Bool) (tl th : Nat → Int64) (wo : Nat → Bool) (wl wh : Nat → Int64) (is_ : Bool) (lo_ hi_ : Int64) (di : Nat → Int32) (su : Nat → Int64) (an : Nat → Bool) (a : Int32) (hbad : ¬ sp_X8_isProgram pn a = true) : Met l yX8_inverse wsX8_inverse ({ frames := 3, cells := 0, slots := 0, locals := 65 } : Room) (gP D y [.ref h, .int a] (wM y h q tw pn ki on ot ab be zA zB zC zD zF zT fo lw hg at_ tl th wo wl wh is_ lo_ hi_ di su an) sz) (gQ D (wM y h q tw pn ki on ot ab be zA zB zC zD zF zT fo lw hg at_ tl th wo wl wh is_ lo_ hi_ di su an) (gF (some (.int 0)) (wM y h q 1 pn ki on ot ab be zA zB zC zD zF zT fo lw hg at_ tl th wo wl wh is_ lo_ hi_ di su an))) 0 0 (va_A (wM y h q tw pn ki on ot ab be zA zB zC zD zF zT fo lw hg at_ tl th wo wl wh is_ lo_ hi_ di su an) sz) := by
  refine Met.ofW (cc := cX8_inverse) (maxL := 2) (ret := (some .int)) (by decide) rfl ?_
  intro pg e s m args below meth c s₁ B hml hv
  obtain ⟨rfl, hsz, hP, hK, hD0⟩ := hv
  have hx := B.exec
  have hb := B.bytes
  have hr := B.returns
  have hts := atoms_spec (ws := wsX8_inverse) B.pre
  have hown : s.vm.findClass RX8 = some m.cls := findClass_of_methodNamed B.named
  have hlocks := B.notSynchronized
  subst hsz
  obtain ⟨A, hAe⟩ : ∃ A : Nat → Prop, A = va_A (wM y h q tw pn ki on ot ab be zA zB zC zD zF zT fo lw hg at_ tl th wo wl wh is_ lo_ hi_ di su an) s.heap.size := ⟨_, rfl⟩
  have hD : va_D A (wM y h q tw pn ki on ot ab be zA zB zC zD zF zT fo lw hg at_ tl th wo wl wh is_ lo_ hi_ di su an) := by rw [hAe]; exact hD0.self (sz := s.heap.size)
  have hA : ∀ q : Nat, s.heap.size ≤ q → A q := fun q h => by rw [hAe]; exact Or.inr h
  have hS : va_S A s.heap s.heap [] := va_S.rf
  have hl := lv_entry ([.ref h, .int a]) (n := 2) (Nat.le_of_ble_eq_true rfl)
  rw [lg_entry_eq]
  generalize (lg_sl ([.ref h, .int a]) ++ List.replicate (2 - (lg_sl ([.ref h, .int a])).length) Slot.unset).toArray = ls at hl ⊢
  have hl : lv_has ls 2 [(0, .ref h), (1, .int a)] := hl
  refine lv_aload_n hx hb dX8_inverse_0 rfl (lv_at hl 0 rfl) ?_
  refine lv_iconst (v := 5) hx hb dX8_inverse_1 (by decide) ?_
  refine lv_iload_n hx hb dX8_inverse_2 rfl (lv_at hl 1 rfl) ?_
  refine g_callA1 (v0 := .int 0) (w0 := wM y h q 1 pn ki on ot ab be zA zB zC zD zF zT fo lw hg at_ tl th wo wl wh is_ lo_ hi_ di su an) (va_runV (As := [.int 5, .int a]) (rest := []) ⟨hx, hb, hml, hown, hts⟩ (c_X8_ofOne_1 l D y s.heap.size h q tw pn ki on ot ab be zA zB zC zD zF zT fo lw hg at_ tl th wo wl wh is_ lo_ hi_ di su an 5 a hbad) (cwV 2 hts gX8_inverse_X8_ofOne rfl rfl rfl (by decide +kernel) ⟨Nat.le_of_ble_eq_true rfl, Nat.le_of_ble_eq_true rfl⟩) (gP_VA hP hD hK 0 rfl rfl) rfl rfl hl.1 rfl (lv_room (Nat.le_of_ble_eq_true rfl)) dX8_inverse_3 ⟨Nat.zero_le _, Nat.zero_le _⟩) hP hD hS hA rfl (fun H locs hP hD hS => ?_)
  exact W.iret (v := 0) hx hb hr (fun t ht hW => ⟨⟨_, wM y h q 1 pn ki on ot ab be zA zB zC zD zF zT fo lw hg at_ tl th wo wl wh is_ lo_ hi_ di su an, rfl, ⟨congrArg (fun z => some (Value.int z)) (rfl), rfl⟩, rfl, by rw [ht]; exact hP⟩, by rw [← hAe]; exact hS.F ht⟩) (by rw [← hAe]; exact hS.2.2) dX8_inverse_6
set_option maxHeartbeats 4000000 in
set_option maxRecDepth 100000 in
theorem c_X8_inverse_2 (l : Launch) (D : va_G) (y : Nat → ClassId) (sz : Nat) (h : Nat) (q : Nat → Nat) (tw : Int32) (pn : Nat) (ki on ot ab be zA zB zC zD zF zT : Nat → Int32) (fo : Nat → Bool) (lw hg : Nat → Int64) (at_ : Nat → Bool) (tl th : Nat → Int64) (wo : Nat → Bool) (wl wh : Nat → Int64) (is_ : Bool) (lo_ hi_ : Int64) (di : Nat → Int32) (su : Nat → Int64) (an : Nat → Bool) (a : Int32) (yA : sp_X8_isProgram pn a = true) (hf : nI pn = 40) : Met l yX8_inverse wsX8_inverse ({ frames := 3, cells := 0, slots := 0, locals := 65 } : Room) (gP D y [.ref h, .int a] (wM y h q tw pn ki on ot ab be zA zB zC zD zF zT fo lw hg at_ tl th wo wl wh is_ lo_ hi_ di su an) sz) (gQ D (wM y h q tw pn ki on ot ab be zA zB zC zD zF zT fo lw hg at_ tl th wo wl wh is_ lo_ hi_ di su an) (gF (some (.int 0)) (wM y h q 2 pn ki on ot ab be zA zB zC zD zF zT fo lw hg at_ tl th wo wl wh is_ lo_ hi_ di su an))) 0 0 (va_A (wM y h q tw pn ki on ot ab be zA zB zC zD zF zT fo lw hg at_ tl th wo wl wh is_ lo_ hi_ di su an) sz) := by
  refine Met.ofW (cc := cX8_inverse) (maxL := 2) (ret := (some .int)) (by decide) rfl ?_
  intro pg e s m args below meth c s₁ B hml hv
  obtain ⟨rfl, hsz, hP, hK, hD0⟩ := hv
  have hx := B.exec
  have hb := B.bytes
  have hr := B.returns
  have hts := atoms_spec (ws := wsX8_inverse) B.pre
  have hown : s.vm.findClass RX8 = some m.cls := findClass_of_methodNamed B.named
  have hlocks := B.notSynchronized
  subst hsz
  obtain ⟨A, hAe⟩ : ∃ A : Nat → Prop, A = va_A (wM y h q tw pn ki on ot ab be zA zB zC zD zF zT fo lw hg at_ tl th wo wl wh is_ lo_ hi_ di su an) s.heap.size := ⟨_, rfl⟩
  have hD : va_D A (wM y h q tw pn ki on ot ab be zA zB zC zD zF zT fo lw hg at_ tl th wo wl wh is_ lo_ hi_ di su an) := by rw [hAe]; exact hD0.self (sz := s.heap.size)
  have hA : ∀ q : Nat, s.heap.size ≤ q → A q := fun q h => by rw [hAe]; exact Or.inr h
  have hS : va_S A s.heap s.heap [] := va_S.rf
  have hl := lv_entry ([.ref h, .int a]) (n := 2) (Nat.le_of_ble_eq_true rfl)
  rw [lg_entry_eq]
  generalize (lg_sl ([.ref h, .int a]) ++ List.replicate (2 - (lg_sl ([.ref h, .int a])).length) Slot.unset).toArray = ls at hl ⊢
  have hl : lv_has ls 2 [(0, .ref h), (1, .int a)] := hl
  refine lv_aload_n hx hb dX8_inverse_0 rfl (lv_at hl 0 rfl) ?_
  refine lv_iconst (v := 5) hx hb dX8_inverse_1 (by decide) ?_
  refine lv_iload_n hx hb dX8_inverse_2 rfl (lv_at hl 1 rfl) ?_
  refine g_callA1 (v0 := .int 0) (w0 := wM y h q 2 pn ki on ot ab be zA zB zC zD zF zT fo lw hg at_ tl th wo wl wh is_ lo_ hi_ di su an) (va_runV (As := [.int 5, .int a]) (rest := []) ⟨hx, hb, hml, hown, hts⟩ (c_X8_ofOne_2 l D y s.heap.size h q tw pn ki on ot ab be zA zB zC zD zF zT fo lw hg at_ tl th wo wl wh is_ lo_ hi_ di su an 5 a yA hf) (cwV 2 hts gX8_inverse_X8_ofOne rfl rfl rfl (by decide +kernel) ⟨Nat.le_of_ble_eq_true rfl, Nat.le_of_ble_eq_true rfl⟩) (gP_VA hP hD hK 0 rfl rfl) rfl rfl hl.1 rfl (lv_room (Nat.le_of_ble_eq_true rfl)) dX8_inverse_3 ⟨Nat.zero_le _, Nat.zero_le _⟩) hP hD hS hA rfl (fun H locs hP hD hS => ?_)
  exact W.iret (v := 0) hx hb hr (fun t ht hW => ⟨⟨_, wM y h q 2 pn ki on ot ab be zA zB zC zD zF zT fo lw hg at_ tl th wo wl wh is_ lo_ hi_ di su an, rfl, ⟨congrArg (fun z => some (Value.int z)) (rfl), rfl⟩, rfl, by rw [ht]; exact hP⟩, by rw [← hAe]; exact hS.F ht⟩) (by rw [← hAe]; exact hS.2.2) dX8_inverse_6
set_option maxHeartbeats 4000000 in
set_option maxRecDepth 100000 in
theorem c_X8_inverse_0 (l : Launch) (D : va_G) (y : Nat → ClassId) (sz : Nat) (h : Nat) (q : Nat → Nat) (tw : Int32) (pn : Nat) (ki on ot ab be zA zB zC zD zF zT : Nat → Int32) (fo : Nat → Bool) (lw hg : Nat → Int64) (at_ : Nat → Bool) (tl th : Nat → Int64) (wo : Nat → Bool) (wl wh : Nat → Int64) (is_ : Bool) (lo_ hi_ : Int64) (di : Nat → Int32) (su : Nat → Int64) (an : Nat → Bool) (o1 : Nat) (cF : Nat → Bool) (cL cH : Nat → Int64) (hpn : pn < 40) (ho1 : o1 < pn) (yA : sp_X8_isProgram pn (nI o1) = true) (hcan : ∀ p, p < 25 → ∀ (x1 x2 x3 x4 : Int64), fo (25 * o1 + p) = true → mkOK 5 be zF zT pn (lw (25 * o1 + p)) (hg (25 * o1 + p)) ∧ mk_is 5 ab be zA zB zC zD zF zT x3 x4 pn p (lw (25 * o1 + p)) (hg (25 * o1 + p)) x1 x2 = cF p ∧ (cF p = true → mk_lo 5 ab be zA zB zC zD zF zT x3 x4 pn p (lw (25 * o1 + p)) (hg (25 * o1 + p)) x1 x2 = cL p ∧ mk_hi 5 ab be zA zB zC zD zF zT x3 x4 pn p (lw (25 * o1 + p)) (hg (25 * o1 + p)) x1 x2 = cH p)) (hno : ∀ p, p < 25 → ¬ fo (25 * o1 + p) = true → cF p = false) : Met l yX8_inverse wsX8_inverse ({ frames := 7, cells := 0, slots := 0, locals := 194 } : Room) (gP D y [.ref h, .int (nI o1)] (wM y h q tw pn ki on ot ab be zA zB zC zD zF zT fo lw hg at_ tl th wo wl wh is_ lo_ hi_ di su an) sz) (gQ D (wM y h q tw pn ki on ot ab be zA zB zC zD zF zT fo lw hg at_ tl th wo wl wh is_ lo_ hi_ di su an) (fun v w => ∃ (fo1 : Nat → Bool) (lw1 : Nat → Int64) (hg1 : Nat → Int64) (at1 : Nat → Bool) (tl1 : Nat → Int64) (th1 : Nat → Int64) (is1 : Bool) (lo1 : Int64) (hi1 : Int64), v = some (.int (nI pn)) ∧ w = (wM y h q 0 (pn + 1) (upd ki pn (nI 5)) (upd on pn (nI o1)) (upd ot pn (-1)) ab be zA zB zC zD zF zT fo1 lw1 hg1 at1 tl1 th1 wo wl wh is1 lo1 hi1 di su an) ∧ (adS pn fo fo1 lw hg lw1 hg1 at_ at1 tl th tl1 th1) ∧ (∀ p, p < 25 → adR pn cF cL cH fo1 lw1 hg1 at1 tl1 th1 p))) 0 0 (va_A (wM y h q tw pn ki on ot ab be zA zB zC zD zF zT fo lw hg at_ tl th wo wl wh is_ lo_ hi_ di su an) sz) := by
  refine Met.ofW (cc := cX8_inverse) (maxL := 2) (ret := (some .int)) (by decide) rfl ?_
  intro pg e s m args below meth c s₁ B hml hv
  obtain ⟨rfl, hsz, hP, hK, hD0⟩ := hv
  have hx := B.exec
  have hb := B.bytes
  have hr := B.returns
  have hts := atoms_spec (ws := wsX8_inverse) B.pre
  have hown : s.vm.findClass RX8 = some m.cls := findClass_of_methodNamed B.named
  have hlocks := B.notSynchronized
  subst hsz
  obtain ⟨A, hAe⟩ : ∃ A : Nat → Prop, A = va_A (wM y h q tw pn ki on ot ab be zA zB zC zD zF zT fo lw hg at_ tl th wo wl wh is_ lo_ hi_ di su an) s.heap.size := ⟨_, rfl⟩
  have hD : va_D A (wM y h q tw pn ki on ot ab be zA zB zC zD zF zT fo lw hg at_ tl th wo wl wh is_ lo_ hi_ di su an) := by rw [hAe]; exact hD0.self (sz := s.heap.size)
  have hA : ∀ q : Nat, s.heap.size ≤ q → A q := fun q h => by rw [hAe]; exact Or.inr h
  have hS : va_S A s.heap s.heap [] := va_S.rf
  have hl := lv_entry ([.ref h, .int (nI o1)]) (n := 2) (Nat.le_of_ble_eq_true rfl)
  rw [lg_entry_eq]
  generalize (lg_sl ([.ref h, .int (nI o1)]) ++ List.replicate (2 - (lg_sl ([.ref h, .int (nI o1)])).length) Slot.unset).toArray = ls at hl ⊢
  have hl : lv_has ls 2 [(0, .ref h), (1, .int (nI o1))] := hl
  refine lv_aload_n hx hb dX8_inverse_0 rfl (lv_at hl 0 rfl) ?_
  refine lv_iconst (v := 5) hx hb dX8_inverse_1 (by decide) ?_
  refine lv_iload_n hx hb dX8_inverse_2 rfl (lv_at hl 1 rfl) ?_
  refine g_callA (va_runV (As := [.int 5, .int (nI o1)]) (rest := []) ⟨hx, hb, hml, hown, hts⟩ (c_X8_ofOne_0_5 l D y s.heap.size h q tw pn ki on ot ab be zA zB zC zD zF zT fo lw hg at_ tl th wo wl wh is_ lo_ hi_ di su an o1 cF cL cH hpn ho1 yA hcan hno) (cwV 2 hts gX8_inverse_X8_ofOne rfl rfl rfl (by decide +kernel) ⟨Nat.le_of_ble_eq_true rfl, Nat.le_of_ble_eq_true rfl⟩) (gP_VA hP hD hK 0 rfl rfl) rfl rfl hl.1 rfl (lv_room (Nat.le_of_ble_eq_true rfl)) dX8_inverse_3 ⟨Nat.zero_le _, Nat.zero_le _⟩) hP hD hS hA (fun v w1 H locs hf hP hD hS => ?_)
  obtain ⟨fo1_3, lw1_3, hg1_3, at1_3, tl1_3, th1_3, is1_3, lo1_3, hi1_3, rfl, rfl, h3_0, h3_1⟩ := hf
  have hP : va_P D vwCl (wM y h q 0 (pn + 1) (upd ki pn (nI 5)) (upd on pn (nI o1)) (upd ot pn (-1)) ab be zA zB zC zD zF zT fo1_3 lw1_3 hg1_3 at1_3 tl1_3 th1_3 wo wl wh is1_3 lo1_3 hi1_3 di su an) H := hP
  have hD : va_D A (wM y h q 0 (pn + 1) (upd ki pn (nI 5)) (upd on pn (nI o1)) (upd ot pn (-1)) ab be zA zB zC zD zF zT fo1_3 lw1_3 hg1_3 at1_3 tl1_3 th1_3 wo wl wh is1_3 lo1_3 hi1_3 di su an) := hD
  exact W.iret (v := nI pn) hx hb hr (fun t ht hW => ⟨⟨some (.int (nI pn)), wM y h q 0 (pn + 1) (upd ki pn (nI 5)) (upd on pn (nI o1)) (upd ot pn (-1)) ab be zA zB zC zD zF zT fo1_3 lw1_3 hg1_3 at1_3 tl1_3 th1_3 wo wl wh is1_3 lo1_3 hi1_3 di su an, rfl, ⟨fo1_3, lw1_3, hg1_3, at1_3, tl1_3, th1_3, is1_3, lo1_3, hi1_3, rfl, rfl, h3_0, h3_1⟩, rfl, by rw [ht]; exact hP⟩, by rw [← hAe]; exact hS.F ht⟩) (by rw [← hAe]; exact hS.2.2) dX8_inverse_6
set_option maxHeartbeats 4000000 in
set_option maxRecDepth 100000 in
theorem c_X8_root_1 (l : Launch) (D : va_G) (y : Nat → ClassId) (sz : Nat) (h : Nat) (q : Nat → Nat) (tw : Int32) (pn : Nat) (ki on ot ab be zA zB zC zD zF zT : Nat → Int32) (fo : Nat → Bool) (lw hg : Nat → Int64) (at_ : Nat → Bool) (tl th : Nat → Int64) (wo : Nat → Bool) (wl wh : Nat → Int64) (is_ : Bool) (lo_ hi_ : Int64) (di : Nat → Int32) (su : Nat → Int64) (an : Nat → Bool) (a : Int32) (hbad : ¬ sp_X8_isProgram pn a = true) : Met l yX8_root wsX8_root ({ frames := 3, cells := 0, slots := 0, locals := 65 } : Room) (gP D y [.ref h, .int a] (wM y h q tw pn ki on ot ab be zA zB zC zD zF zT fo lw hg at_ tl th wo wl wh is_ lo_ hi_ di su an) sz) (gQ D (wM y h q tw pn ki on ot ab be zA zB zC zD zF zT fo lw hg at_ tl th wo wl wh is_ lo_ hi_ di su an) (gF (some (.int 0)) (wM y h q 1 pn ki on ot ab be zA zB zC zD zF zT fo lw hg at_ tl th wo wl wh is_ lo_ hi_ di su an))) 0 0 (va_A (wM y h q tw pn ki on ot ab be zA zB zC zD zF zT fo lw hg at_ tl th wo wl wh is_ lo_ hi_ di su an) sz) := by
  refine Met.ofW (cc := cX8_root) (maxL := 2) (ret := (some .int)) (by decide) rfl ?_
  intro pg e s m args below meth c s₁ B hml hv
  obtain ⟨rfl, hsz, hP, hK, hD0⟩ := hv
  have hx := B.exec
  have hb := B.bytes
  have hr := B.returns
  have hts := atoms_spec (ws := wsX8_root) B.pre
  have hown : s.vm.findClass RX8 = some m.cls := findClass_of_methodNamed B.named
  have hlocks := B.notSynchronized
  subst hsz
  obtain ⟨A, hAe⟩ : ∃ A : Nat → Prop, A = va_A (wM y h q tw pn ki on ot ab be zA zB zC zD zF zT fo lw hg at_ tl th wo wl wh is_ lo_ hi_ di su an) s.heap.size := ⟨_, rfl⟩
  have hD : va_D A (wM y h q tw pn ki on ot ab be zA zB zC zD zF zT fo lw hg at_ tl th wo wl wh is_ lo_ hi_ di su an) := by rw [hAe]; exact hD0.self (sz := s.heap.size)
  have hA : ∀ q : Nat, s.heap.size ≤ q → A q := fun q h => by rw [hAe]; exact Or.inr h
  have hS : va_S A s.heap s.heap [] := va_S.rf
  have hl := lv_entry ([.ref h, .int a]) (n := 2) (Nat.le_of_ble_eq_true rfl)
  rw [lg_entry_eq]
  generalize (lg_sl ([.ref h, .int a]) ++ List.replicate (2 - (lg_sl ([.ref h, .int a])).length) Slot.unset).toArray = ls at hl ⊢
  have hl : lv_has ls 2 [(0, .ref h), (1, .int a)] := hl
  refine lv_aload_n hx hb dX8_root_0 rfl (lv_at hl 0 rfl) ?_
  refine lv_bipush (v := 6) hx hb dX8_root_1 (by decide) ?_
  refine lv_iload_n hx hb dX8_root_3 rfl (lv_at hl 1 rfl) ?_
  refine g_callA1 (v0 := .int 0) (w0 := wM y h q 1 pn ki on ot ab be zA zB zC zD zF zT fo lw hg at_ tl th wo wl wh is_ lo_ hi_ di su an) (va_runV (As := [.int 6, .int a]) (rest := []) ⟨hx, hb, hml, hown, hts⟩ (c_X8_ofOne_1 l D y s.heap.size h q tw pn ki on ot ab be zA zB zC zD zF zT fo lw hg at_ tl th wo wl wh is_ lo_ hi_ di su an 6 a hbad) (cwV 2 hts gX8_root_X8_ofOne rfl rfl rfl (by decide +kernel) ⟨Nat.le_of_ble_eq_true rfl, Nat.le_of_ble_eq_true rfl⟩) (gP_VA hP hD hK 0 rfl rfl) rfl rfl hl.1 rfl (lv_room (Nat.le_of_ble_eq_true rfl)) dX8_root_4 ⟨Nat.zero_le _, Nat.zero_le _⟩) hP hD hS hA rfl (fun H locs hP hD hS => ?_)
  exact W.iret (v := 0) hx hb hr (fun t ht hW => ⟨⟨_, wM y h q 1 pn ki on ot ab be zA zB zC zD zF zT fo lw hg at_ tl th wo wl wh is_ lo_ hi_ di su an, rfl, ⟨congrArg (fun z => some (Value.int z)) (rfl), rfl⟩, rfl, by rw [ht]; exact hP⟩, by rw [← hAe]; exact hS.F ht⟩) (by rw [← hAe]; exact hS.2.2) dX8_root_7
set_option maxHeartbeats 4000000 in
set_option maxRecDepth 100000 in
theorem c_X8_root_2 (l : Launch) (D : va_G) (y : Nat → ClassId) (sz : Nat) (h : Nat) (q : Nat → Nat) (tw : Int32) (pn : Nat) (ki on ot ab be zA zB zC zD zF zT : Nat → Int32) (fo : Nat → Bool) (lw hg : Nat → Int64) (at_ : Nat → Bool) (tl th : Nat → Int64) (wo : Nat → Bool) (wl wh : Nat → Int64) (is_ : Bool) (lo_ hi_ : Int64) (di : Nat → Int32) (su : Nat → Int64) (an : Nat → Bool) (a : Int32) (yA : sp_X8_isProgram pn a = true) (hf : nI pn = 40) : Met l yX8_root wsX8_root ({ frames := 3, cells := 0, slots := 0, locals := 65 } : Room) (gP D y [.ref h, .int a] (wM y h q tw pn ki on ot ab be zA zB zC zD zF zT fo lw hg at_ tl th wo wl wh is_ lo_ hi_ di su an) sz) (gQ D (wM y h q tw pn ki on ot ab be zA zB zC zD zF zT fo lw hg at_ tl th wo wl wh is_ lo_ hi_ di su an) (gF (some (.int 0)) (wM y h q 2 pn ki on ot ab be zA zB zC zD zF zT fo lw hg at_ tl th wo wl wh is_ lo_ hi_ di su an))) 0 0 (va_A (wM y h q tw pn ki on ot ab be zA zB zC zD zF zT fo lw hg at_ tl th wo wl wh is_ lo_ hi_ di su an) sz) := by
  refine Met.ofW (cc := cX8_root) (maxL := 2) (ret := (some .int)) (by decide) rfl ?_
  intro pg e s m args below meth c s₁ B hml hv
  obtain ⟨rfl, hsz, hP, hK, hD0⟩ := hv
  have hx := B.exec
  have hb := B.bytes
  have hr := B.returns
  have hts := atoms_spec (ws := wsX8_root) B.pre
  have hown : s.vm.findClass RX8 = some m.cls := findClass_of_methodNamed B.named
  have hlocks := B.notSynchronized
  subst hsz
  obtain ⟨A, hAe⟩ : ∃ A : Nat → Prop, A = va_A (wM y h q tw pn ki on ot ab be zA zB zC zD zF zT fo lw hg at_ tl th wo wl wh is_ lo_ hi_ di su an) s.heap.size := ⟨_, rfl⟩
  have hD : va_D A (wM y h q tw pn ki on ot ab be zA zB zC zD zF zT fo lw hg at_ tl th wo wl wh is_ lo_ hi_ di su an) := by rw [hAe]; exact hD0.self (sz := s.heap.size)
  have hA : ∀ q : Nat, s.heap.size ≤ q → A q := fun q h => by rw [hAe]; exact Or.inr h
  have hS : va_S A s.heap s.heap [] := va_S.rf
  have hl := lv_entry ([.ref h, .int a]) (n := 2) (Nat.le_of_ble_eq_true rfl)
  rw [lg_entry_eq]
  generalize (lg_sl ([.ref h, .int a]) ++ List.replicate (2 - (lg_sl ([.ref h, .int a])).length) Slot.unset).toArray = ls at hl ⊢
  have hl : lv_has ls 2 [(0, .ref h), (1, .int a)] := hl
  refine lv_aload_n hx hb dX8_root_0 rfl (lv_at hl 0 rfl) ?_
  refine lv_bipush (v := 6) hx hb dX8_root_1 (by decide) ?_
  refine lv_iload_n hx hb dX8_root_3 rfl (lv_at hl 1 rfl) ?_
  refine g_callA1 (v0 := .int 0) (w0 := wM y h q 2 pn ki on ot ab be zA zB zC zD zF zT fo lw hg at_ tl th wo wl wh is_ lo_ hi_ di su an) (va_runV (As := [.int 6, .int a]) (rest := []) ⟨hx, hb, hml, hown, hts⟩ (c_X8_ofOne_2 l D y s.heap.size h q tw pn ki on ot ab be zA zB zC zD zF zT fo lw hg at_ tl th wo wl wh is_ lo_ hi_ di su an 6 a yA hf) (cwV 2 hts gX8_root_X8_ofOne rfl rfl rfl (by decide +kernel) ⟨Nat.le_of_ble_eq_true rfl, Nat.le_of_ble_eq_true rfl⟩) (gP_VA hP hD hK 0 rfl rfl) rfl rfl hl.1 rfl (lv_room (Nat.le_of_ble_eq_true rfl)) dX8_root_4 ⟨Nat.zero_le _, Nat.zero_le _⟩) hP hD hS hA rfl (fun H locs hP hD hS => ?_)
  exact W.iret (v := 0) hx hb hr (fun t ht hW => ⟨⟨_, wM y h q 2 pn ki on ot ab be zA zB zC zD zF zT fo lw hg at_ tl th wo wl wh is_ lo_ hi_ di su an, rfl, ⟨congrArg (fun z => some (Value.int z)) (rfl), rfl⟩, rfl, by rw [ht]; exact hP⟩, by rw [← hAe]; exact hS.F ht⟩) (by rw [← hAe]; exact hS.2.2) dX8_root_7
set_option maxHeartbeats 4000000 in
set_option maxRecDepth 100000 in
theorem c_X8_root_0 (l : Launch) (D : va_G) (y : Nat → ClassId) (sz : Nat) (h : Nat) (q : Nat → Nat) (tw : Int32) (pn : Nat) (ki on ot ab be zA zB zC zD zF zT : Nat → Int32) (fo : Nat → Bool) (lw hg : Nat → Int64) (at_ : Nat → Bool) (tl th : Nat → Int64) (wo : Nat → Bool) (wl wh : Nat → Int64) (is_ : Bool) (lo_ hi_ : Int64) (di : Nat → Int32) (su : Nat → Int64) (an : Nat → Bool) (o1 : Nat) (cF : Nat → Bool) (cL cH : Nat → Int64) (hpn : pn < 40) (ho1 : o1 < pn) (yA : sp_X8_isProgram pn (nI o1) = true) (hcan : ∀ p, p < 25 → ∀ (x1 x2 x3 x4 : Int64), fo (25 * o1 + p) = true → mkOK 6 be zF zT pn (lw (25 * o1 + p)) (hg (25 * o1 + p)) ∧ mk_is 6 ab be zA zB zC zD zF zT x3 x4 pn p (lw (25 * o1 + p)) (hg (25 * o1 + p)) x1 x2 = cF p ∧ (cF p = true → mk_lo 6 ab be zA zB zC zD zF zT x3 x4 pn p (lw (25 * o1 + p)) (hg (25 * o1 + p)) x1 x2 = cL p ∧ mk_hi 6 ab be zA zB zC zD zF zT x3 x4 pn p (lw (25 * o1 + p)) (hg (25 * o1 + p)) x1 x2 = cH p)) (hno : ∀ p, p < 25 → ¬ fo (25 * o1 + p) = true → cF p = false) : Met l yX8_root wsX8_root ({ frames := 7, cells := 0, slots := 0, locals := 194 } : Room) (gP D y [.ref h, .int (nI o1)] (wM y h q tw pn ki on ot ab be zA zB zC zD zF zT fo lw hg at_ tl th wo wl wh is_ lo_ hi_ di su an) sz) (gQ D (wM y h q tw pn ki on ot ab be zA zB zC zD zF zT fo lw hg at_ tl th wo wl wh is_ lo_ hi_ di su an) (fun v w => ∃ (fo1 : Nat → Bool) (lw1 : Nat → Int64) (hg1 : Nat → Int64) (at1 : Nat → Bool) (tl1 : Nat → Int64) (th1 : Nat → Int64) (is1 : Bool) (lo1 : Int64) (hi1 : Int64), v = some (.int (nI pn)) ∧ w = (wM y h q 0 (pn + 1) (upd ki pn (nI 6)) (upd on pn (nI o1)) (upd ot pn (-1)) ab be zA zB zC zD zF zT fo1 lw1 hg1 at1 tl1 th1 wo wl wh is1 lo1 hi1 di su an) ∧ (adS pn fo fo1 lw hg lw1 hg1 at_ at1 tl th tl1 th1) ∧ (∀ p, p < 25 → adR pn cF cL cH fo1 lw1 hg1 at1 tl1 th1 p))) 0 0 (va_A (wM y h q tw pn ki on ot ab be zA zB zC zD zF zT fo lw hg at_ tl th wo wl wh is_ lo_ hi_ di su an) sz) := by
  refine Met.ofW (cc := cX8_root) (maxL := 2) (ret := (some .int)) (by decide) rfl ?_
  intro pg e s m args below meth c s₁ B hml hv
  obtain ⟨rfl, hsz, hP, hK, hD0⟩ := hv
  have hx := B.exec
  have hb := B.bytes
  have hr := B.returns
  have hts := atoms_spec (ws := wsX8_root) B.pre
  have hown : s.vm.findClass RX8 = some m.cls := findClass_of_methodNamed B.named
  have hlocks := B.notSynchronized
  subst hsz
  obtain ⟨A, hAe⟩ : ∃ A : Nat → Prop, A = va_A (wM y h q tw pn ki on ot ab be zA zB zC zD zF zT fo lw hg at_ tl th wo wl wh is_ lo_ hi_ di su an) s.heap.size := ⟨_, rfl⟩
  have hD : va_D A (wM y h q tw pn ki on ot ab be zA zB zC zD zF zT fo lw hg at_ tl th wo wl wh is_ lo_ hi_ di su an) := by rw [hAe]; exact hD0.self (sz := s.heap.size)
  have hA : ∀ q : Nat, s.heap.size ≤ q → A q := fun q h => by rw [hAe]; exact Or.inr h
  have hS : va_S A s.heap s.heap [] := va_S.rf
  have hl := lv_entry ([.ref h, .int (nI o1)]) (n := 2) (Nat.le_of_ble_eq_true rfl)
  rw [lg_entry_eq]
  generalize (lg_sl ([.ref h, .int (nI o1)]) ++ List.replicate (2 - (lg_sl ([.ref h, .int (nI o1)])).length) Slot.unset).toArray = ls at hl ⊢
  have hl : lv_has ls 2 [(0, .ref h), (1, .int (nI o1))] := hl
  refine lv_aload_n hx hb dX8_root_0 rfl (lv_at hl 0 rfl) ?_
  refine lv_bipush (v := 6) hx hb dX8_root_1 (by decide) ?_
  refine lv_iload_n hx hb dX8_root_3 rfl (lv_at hl 1 rfl) ?_
  refine g_callA (va_runV (As := [.int 6, .int (nI o1)]) (rest := []) ⟨hx, hb, hml, hown, hts⟩ (c_X8_ofOne_0_6 l D y s.heap.size h q tw pn ki on ot ab be zA zB zC zD zF zT fo lw hg at_ tl th wo wl wh is_ lo_ hi_ di su an o1 cF cL cH hpn ho1 yA hcan hno) (cwV 2 hts gX8_root_X8_ofOne rfl rfl rfl (by decide +kernel) ⟨Nat.le_of_ble_eq_true rfl, Nat.le_of_ble_eq_true rfl⟩) (gP_VA hP hD hK 0 rfl rfl) rfl rfl hl.1 rfl (lv_room (Nat.le_of_ble_eq_true rfl)) dX8_root_4 ⟨Nat.zero_le _, Nat.zero_le _⟩) hP hD hS hA (fun v w1 H locs hf hP hD hS => ?_)
  obtain ⟨fo1_4, lw1_4, hg1_4, at1_4, tl1_4, th1_4, is1_4, lo1_4, hi1_4, rfl, rfl, h4_0, h4_1⟩ := hf
  have hP : va_P D vwCl (wM y h q 0 (pn + 1) (upd ki pn (nI 6)) (upd on pn (nI o1)) (upd ot pn (-1)) ab be zA zB zC zD zF zT fo1_4 lw1_4 hg1_4 at1_4 tl1_4 th1_4 wo wl wh is1_4 lo1_4 hi1_4 di su an) H := hP
  have hD : va_D A (wM y h q 0 (pn + 1) (upd ki pn (nI 6)) (upd on pn (nI o1)) (upd ot pn (-1)) ab be zA zB zC zD zF zT fo1_4 lw1_4 hg1_4 at1_4 tl1_4 th1_4 wo wl wh is1_4 lo1_4 hi1_4 di su an) := hD
  exact W.iret (v := nI pn) hx hb hr (fun t ht hW => ⟨⟨some (.int (nI pn)), wM y h q 0 (pn + 1) (upd ki pn (nI 6)) (upd on pn (nI o1)) (upd ot pn (-1)) ab be zA zB zC zD zF zT fo1_4 lw1_4 hg1_4 at1_4 tl1_4 th1_4 wo wl wh is1_4 lo1_4 hi1_4 di su an, rfl, ⟨fo1_4, lw1_4, hg1_4, at1_4, tl1_4, th1_4, is1_4, lo1_4, hi1_4, rfl, rfl, h4_0, h4_1⟩, rfl, by rw [ht]; exact hP⟩, by rw [← hAe]; exact hS.F ht⟩) (by rw [← hAe]; exact hS.2.2) dX8_root_7
set_option maxHeartbeats 4000000 in
set_option maxRecDepth 100000 in
theorem c_X8_exp_1 (l : Launch) (D : va_G) (y : Nat → ClassId) (sz : Nat) (h : Nat) (q : Nat → Nat) (tw : Int32) (pn : Nat) (ki on ot ab be zA zB zC zD zF zT : Nat → Int32) (fo : Nat → Bool) (lw hg : Nat → Int64) (at_ : Nat → Bool) (tl th : Nat → Int64) (wo : Nat → Bool) (wl wh : Nat → Int64) (is_ : Bool) (lo_ hi_ : Int64) (di : Nat → Int32) (su : Nat → Int64) (an : Nat → Bool) (a : Int32) (hbad : ¬ sp_X8_isProgram pn a = true) : Met l yX8_exp wsX8_exp ({ frames := 3, cells := 0, slots := 0, locals := 65 } : Room) (gP D y [.ref h, .int a] (wM y h q tw pn ki on ot ab be zA zB zC zD zF zT fo lw hg at_ tl th wo wl wh is_ lo_ hi_ di su an) sz) (gQ D (wM y h q tw pn ki on ot ab be zA zB zC zD zF zT fo lw hg at_ tl th wo wl wh is_ lo_ hi_ di su an) (gF (some (.int 0)) (wM y h q 1 pn ki on ot ab be zA zB zC zD zF zT fo lw hg at_ tl th wo wl wh is_ lo_ hi_ di su an))) 0 0 (va_A (wM y h q tw pn ki on ot ab be zA zB zC zD zF zT fo lw hg at_ tl th wo wl wh is_ lo_ hi_ di su an) sz) := by
  refine Met.ofW (cc := cX8_exp) (maxL := 2) (ret := (some .int)) (by decide) rfl ?_
  intro pg e s m args below meth c s₁ B hml hv
  obtain ⟨rfl, hsz, hP, hK, hD0⟩ := hv
  have hx := B.exec
  have hb := B.bytes
  have hr := B.returns
  have hts := atoms_spec (ws := wsX8_exp) B.pre
  have hown : s.vm.findClass RX8 = some m.cls := findClass_of_methodNamed B.named
  have hlocks := B.notSynchronized
  subst hsz
  obtain ⟨A, hAe⟩ : ∃ A : Nat → Prop, A = va_A (wM y h q tw pn ki on ot ab be zA zB zC zD zF zT fo lw hg at_ tl th wo wl wh is_ lo_ hi_ di su an) s.heap.size := ⟨_, rfl⟩
  have hD : va_D A (wM y h q tw pn ki on ot ab be zA zB zC zD zF zT fo lw hg at_ tl th wo wl wh is_ lo_ hi_ di su an) := by rw [hAe]; exact hD0.self (sz := s.heap.size)
  have hA : ∀ q : Nat, s.heap.size ≤ q → A q := fun q h => by rw [hAe]; exact Or.inr h
  have hS : va_S A s.heap s.heap [] := va_S.rf
  have hl := lv_entry ([.ref h, .int a]) (n := 2) (Nat.le_of_ble_eq_true rfl)
  rw [lg_entry_eq]
  generalize (lg_sl ([.ref h, .int a]) ++ List.replicate (2 - (lg_sl ([.ref h, .int a])).length) Slot.unset).toArray = ls at hl ⊢
  have hl : lv_has ls 2 [(0, .ref h), (1, .int a)] := hl
  refine lv_aload_n hx hb dX8_exp_0 rfl (lv_at hl 0 rfl) ?_
  refine lv_bipush (v := 7) hx hb dX8_exp_1 (by decide) ?_
  refine lv_iload_n hx hb dX8_exp_3 rfl (lv_at hl 1 rfl) ?_
  refine g_callA1 (v0 := .int 0) (w0 := wM y h q 1 pn ki on ot ab be zA zB zC zD zF zT fo lw hg at_ tl th wo wl wh is_ lo_ hi_ di su an) (va_runV (As := [.int 7, .int a]) (rest := []) ⟨hx, hb, hml, hown, hts⟩ (c_X8_ofOne_1 l D y s.heap.size h q tw pn ki on ot ab be zA zB zC zD zF zT fo lw hg at_ tl th wo wl wh is_ lo_ hi_ di su an 7 a hbad) (cwV 2 hts gX8_exp_X8_ofOne rfl rfl rfl (by decide +kernel) ⟨Nat.le_of_ble_eq_true rfl, Nat.le_of_ble_eq_true rfl⟩) (gP_VA hP hD hK 0 rfl rfl) rfl rfl hl.1 rfl (lv_room (Nat.le_of_ble_eq_true rfl)) dX8_exp_4 ⟨Nat.zero_le _, Nat.zero_le _⟩) hP hD hS hA rfl (fun H locs hP hD hS => ?_)
  exact W.iret (v := 0) hx hb hr (fun t ht hW => ⟨⟨_, wM y h q 1 pn ki on ot ab be zA zB zC zD zF zT fo lw hg at_ tl th wo wl wh is_ lo_ hi_ di su an, rfl, ⟨congrArg (fun z => some (Value.int z)) (rfl), rfl⟩, rfl, by rw [ht]; exact hP⟩, by rw [← hAe]; exact hS.F ht⟩) (by rw [← hAe]; exact hS.2.2) dX8_exp_7
set_option maxHeartbeats 4000000 in
set_option maxRecDepth 100000 in
theorem c_X8_exp_2 (l : Launch) (D : va_G) (y : Nat → ClassId) (sz : Nat) (h : Nat) (q : Nat → Nat) (tw : Int32) (pn : Nat) (ki on ot ab be zA zB zC zD zF zT : Nat → Int32) (fo : Nat → Bool) (lw hg : Nat → Int64) (at_ : Nat → Bool) (tl th : Nat → Int64) (wo : Nat → Bool) (wl wh : Nat → Int64) (is_ : Bool) (lo_ hi_ : Int64) (di : Nat → Int32) (su : Nat → Int64) (an : Nat → Bool) (a : Int32) (yA : sp_X8_isProgram pn a = true) (hf : nI pn = 40) : Met l yX8_exp wsX8_exp ({ frames := 3, cells := 0, slots := 0, locals := 65 } : Room) (gP D y [.ref h, .int a] (wM y h q tw pn ki on ot ab be zA zB zC zD zF zT fo lw hg at_ tl th wo wl wh is_ lo_ hi_ di su an) sz) (gQ D (wM y h q tw pn ki on ot ab be zA zB zC zD zF zT fo lw hg at_ tl th wo wl wh is_ lo_ hi_ di su an) (gF (some (.int 0)) (wM y h q 2 pn ki on ot ab be zA zB zC zD zF zT fo lw hg at_ tl th wo wl wh is_ lo_ hi_ di su an))) 0 0 (va_A (wM y h q tw pn ki on ot ab be zA zB zC zD zF zT fo lw hg at_ tl th wo wl wh is_ lo_ hi_ di su an) sz) := by
  refine Met.ofW (cc := cX8_exp) (maxL := 2) (ret := (some .int)) (by decide) rfl ?_
  intro pg e s m args below meth c s₁ B hml hv
  obtain ⟨rfl, hsz, hP, hK, hD0⟩ := hv
  have hx := B.exec
  have hb := B.bytes
  have hr := B.returns
  have hts := atoms_spec (ws := wsX8_exp) B.pre
  have hown : s.vm.findClass RX8 = some m.cls := findClass_of_methodNamed B.named
  have hlocks := B.notSynchronized
  subst hsz
  obtain ⟨A, hAe⟩ : ∃ A : Nat → Prop, A = va_A (wM y h q tw pn ki on ot ab be zA zB zC zD zF zT fo lw hg at_ tl th wo wl wh is_ lo_ hi_ di su an) s.heap.size := ⟨_, rfl⟩
  have hD : va_D A (wM y h q tw pn ki on ot ab be zA zB zC zD zF zT fo lw hg at_ tl th wo wl wh is_ lo_ hi_ di su an) := by rw [hAe]; exact hD0.self (sz := s.heap.size)
  have hA : ∀ q : Nat, s.heap.size ≤ q → A q := fun q h => by rw [hAe]; exact Or.inr h
  have hS : va_S A s.heap s.heap [] := va_S.rf
  have hl := lv_entry ([.ref h, .int a]) (n := 2) (Nat.le_of_ble_eq_true rfl)
  rw [lg_entry_eq]
  generalize (lg_sl ([.ref h, .int a]) ++ List.replicate (2 - (lg_sl ([.ref h, .int a])).length) Slot.unset).toArray = ls at hl ⊢
  have hl : lv_has ls 2 [(0, .ref h), (1, .int a)] := hl
  refine lv_aload_n hx hb dX8_exp_0 rfl (lv_at hl 0 rfl) ?_
  refine lv_bipush (v := 7) hx hb dX8_exp_1 (by decide) ?_
  refine lv_iload_n hx hb dX8_exp_3 rfl (lv_at hl 1 rfl) ?_
  refine g_callA1 (v0 := .int 0) (w0 := wM y h q 2 pn ki on ot ab be zA zB zC zD zF zT fo lw hg at_ tl th wo wl wh is_ lo_ hi_ di su an) (va_runV (As := [.int 7, .int a]) (rest := []) ⟨hx, hb, hml, hown, hts⟩ (c_X8_ofOne_2 l D y s.heap.size h q tw pn ki on ot ab be zA zB zC zD zF zT fo lw hg at_ tl th wo wl wh is_ lo_ hi_ di su an 7 a yA hf) (cwV 2 hts gX8_exp_X8_ofOne rfl rfl rfl (by decide +kernel) ⟨Nat.le_of_ble_eq_true rfl, Nat.le_of_ble_eq_true rfl⟩) (gP_VA hP hD hK 0 rfl rfl) rfl rfl hl.1 rfl (lv_room (Nat.le_of_ble_eq_true rfl)) dX8_exp_4 ⟨Nat.zero_le _, Nat.zero_le _⟩) hP hD hS hA rfl (fun H locs hP hD hS => ?_)
  exact W.iret (v := 0) hx hb hr (fun t ht hW => ⟨⟨_, wM y h q 2 pn ki on ot ab be zA zB zC zD zF zT fo lw hg at_ tl th wo wl wh is_ lo_ hi_ di su an, rfl, ⟨congrArg (fun z => some (Value.int z)) (rfl), rfl⟩, rfl, by rw [ht]; exact hP⟩, by rw [← hAe]; exact hS.F ht⟩) (by rw [← hAe]; exact hS.2.2) dX8_exp_7
set_option maxHeartbeats 4000000 in
set_option maxRecDepth 100000 in
theorem c_X8_exp_0 (l : Launch) (D : va_G) (y : Nat → ClassId) (sz : Nat) (h : Nat) (q : Nat → Nat) (tw : Int32) (pn : Nat) (ki on ot ab be zA zB zC zD zF zT : Nat → Int32) (fo : Nat → Bool) (lw hg : Nat → Int64) (at_ : Nat → Bool) (tl th : Nat → Int64) (wo : Nat → Bool) (wl wh : Nat → Int64) (is_ : Bool) (lo_ hi_ : Int64) (di : Nat → Int32) (su : Nat → Int64) (an : Nat → Bool) (o1 : Nat) (cF : Nat → Bool) (cL cH : Nat → Int64) (hpn : pn < 40) (ho1 : o1 < pn) (yA : sp_X8_isProgram pn (nI o1) = true) (hcan : ∀ p, p < 25 → ∀ (x1 x2 x3 x4 : Int64), fo (25 * o1 + p) = true → mkOK 7 be zF zT pn (lw (25 * o1 + p)) (hg (25 * o1 + p)) ∧ mk_is 7 ab be zA zB zC zD zF zT x3 x4 pn p (lw (25 * o1 + p)) (hg (25 * o1 + p)) x1 x2 = cF p ∧ (cF p = true → mk_lo 7 ab be zA zB zC zD zF zT x3 x4 pn p (lw (25 * o1 + p)) (hg (25 * o1 + p)) x1 x2 = cL p ∧ mk_hi 7 ab be zA zB zC zD zF zT x3 x4 pn p (lw (25 * o1 + p)) (hg (25 * o1 + p)) x1 x2 = cH p)) (hno : ∀ p, p < 25 → ¬ fo (25 * o1 + p) = true → cF p = false) : Met l yX8_exp wsX8_exp ({ frames := 7, cells := 0, slots := 0, locals := 194 } : Room) (gP D y [.ref h, .int (nI o1)] (wM y h q tw pn ki on ot ab be zA zB zC zD zF zT fo lw hg at_ tl th wo wl wh is_ lo_ hi_ di su an) sz) (gQ D (wM y h q tw pn ki on ot ab be zA zB zC zD zF zT fo lw hg at_ tl th wo wl wh is_ lo_ hi_ di su an) (fun v w => ∃ (fo1 : Nat → Bool) (lw1 : Nat → Int64) (hg1 : Nat → Int64) (at1 : Nat → Bool) (tl1 : Nat → Int64) (th1 : Nat → Int64) (is1 : Bool) (lo1 : Int64) (hi1 : Int64), v = some (.int (nI pn)) ∧ w = (wM y h q 0 (pn + 1) (upd ki pn (nI 7)) (upd on pn (nI o1)) (upd ot pn (-1)) ab be zA zB zC zD zF zT fo1 lw1 hg1 at1 tl1 th1 wo wl wh is1 lo1 hi1 di su an) ∧ (adS pn fo fo1 lw hg lw1 hg1 at_ at1 tl th tl1 th1) ∧ (∀ p, p < 25 → adR pn cF cL cH fo1 lw1 hg1 at1 tl1 th1 p))) 0 0 (va_A (wM y h q tw pn ki on ot ab be zA zB zC zD zF zT fo lw hg at_ tl th wo wl wh is_ lo_ hi_ di su an) sz) := by
  refine Met.ofW (cc := cX8_exp) (maxL := 2) (ret := (some .int)) (by decide) rfl ?_
  intro pg e s m args below meth c s₁ B hml hv
  obtain ⟨rfl, hsz, hP, hK, hD0⟩ := hv
  have hx := B.exec
  have hb := B.bytes
  have hr := B.returns
  have hts := atoms_spec (ws := wsX8_exp) B.pre
  have hown : s.vm.findClass RX8 = some m.cls := findClass_of_methodNamed B.named
  have hlocks := B.notSynchronized
  subst hsz
  obtain ⟨A, hAe⟩ : ∃ A : Nat → Prop, A = va_A (wM y h q tw pn ki on ot ab be zA zB zC zD zF zT fo lw hg at_ tl th wo wl wh is_ lo_ hi_ di su an) s.heap.size := ⟨_, rfl⟩
  have hD : va_D A (wM y h q tw pn ki on ot ab be zA zB zC zD zF zT fo lw hg at_ tl th wo wl wh is_ lo_ hi_ di su an) := by rw [hAe]; exact hD0.self (sz := s.heap.size)
  have hA : ∀ q : Nat, s.heap.size ≤ q → A q := fun q h => by rw [hAe]; exact Or.inr h
  have hS : va_S A s.heap s.heap [] := va_S.rf
  have hl := lv_entry ([.ref h, .int (nI o1)]) (n := 2) (Nat.le_of_ble_eq_true rfl)
  rw [lg_entry_eq]
  generalize (lg_sl ([.ref h, .int (nI o1)]) ++ List.replicate (2 - (lg_sl ([.ref h, .int (nI o1)])).length) Slot.unset).toArray = ls at hl ⊢
  have hl : lv_has ls 2 [(0, .ref h), (1, .int (nI o1))] := hl
  refine lv_aload_n hx hb dX8_exp_0 rfl (lv_at hl 0 rfl) ?_
  refine lv_bipush (v := 7) hx hb dX8_exp_1 (by decide) ?_
  refine lv_iload_n hx hb dX8_exp_3 rfl (lv_at hl 1 rfl) ?_
  refine g_callA (va_runV (As := [.int 7, .int (nI o1)]) (rest := []) ⟨hx, hb, hml, hown, hts⟩ (c_X8_ofOne_0_7 l D y s.heap.size h q tw pn ki on ot ab be zA zB zC zD zF zT fo lw hg at_ tl th wo wl wh is_ lo_ hi_ di su an o1 cF cL cH hpn ho1 yA hcan hno) (cwV 2 hts gX8_exp_X8_ofOne rfl rfl rfl (by decide +kernel) ⟨Nat.le_of_ble_eq_true rfl, Nat.le_of_ble_eq_true rfl⟩) (gP_VA hP hD hK 0 rfl rfl) rfl rfl hl.1 rfl (lv_room (Nat.le_of_ble_eq_true rfl)) dX8_exp_4 ⟨Nat.zero_le _, Nat.zero_le _⟩) hP hD hS hA (fun v w1 H locs hf hP hD hS => ?_)
  obtain ⟨fo1_4, lw1_4, hg1_4, at1_4, tl1_4, th1_4, is1_4, lo1_4, hi1_4, rfl, rfl, h4_0, h4_1⟩ := hf
  have hP : va_P D vwCl (wM y h q 0 (pn + 1) (upd ki pn (nI 7)) (upd on pn (nI o1)) (upd ot pn (-1)) ab be zA zB zC zD zF zT fo1_4 lw1_4 hg1_4 at1_4 tl1_4 th1_4 wo wl wh is1_4 lo1_4 hi1_4 di su an) H := hP
  have hD : va_D A (wM y h q 0 (pn + 1) (upd ki pn (nI 7)) (upd on pn (nI o1)) (upd ot pn (-1)) ab be zA zB zC zD zF zT fo1_4 lw1_4 hg1_4 at1_4 tl1_4 th1_4 wo wl wh is1_4 lo1_4 hi1_4 di su an) := hD
  exact W.iret (v := nI pn) hx hb hr (fun t ht hW => ⟨⟨some (.int (nI pn)), wM y h q 0 (pn + 1) (upd ki pn (nI 7)) (upd on pn (nI o1)) (upd ot pn (-1)) ab be zA zB zC zD zF zT fo1_4 lw1_4 hg1_4 at1_4 tl1_4 th1_4 wo wl wh is1_4 lo1_4 hi1_4 di su an, rfl, ⟨fo1_4, lw1_4, hg1_4, at1_4, tl1_4, th1_4, is1_4, lo1_4, hi1_4, rfl, rfl, h4_0, h4_1⟩, rfl, by rw [ht]; exact hP⟩, by rw [← hAe]; exact hS.F ht⟩) (by rw [← hAe]; exact hS.2.2) dX8_exp_7
