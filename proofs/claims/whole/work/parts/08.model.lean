abbrev wM (y : Nat → ClassId) (h : Nat) (q : Nat → Nat) (tw : Int32) (pn : Nat) (ki on ot ab be zA zB zC zD zF zT : Nat → Int32) (fo : Nat → Bool) (lw hg : Nat → Int64) (at_ : Nat → Bool) (tl th : Nat → Int64) (wo : Nat → Bool) (wl wh : Nat → Int64) (is_ : Bool) (lo_ hi_ : Int64) (di : Nat → Int32) (su : Nat → Int64) (an : Nat → Bool) : va_W := [(h, .inr (6, [.int tw, .int (nI pn), .ref (q 2), .ref (q 3), .ref (q 4), .ref (q 5), .ref (q 6), .ref (q 7), .ref (q 8), .ref (q 9), .ref (q 10), .ref (q 11), .ref (q 12), .ref (q 13), .ref (q 14), .ref (q 15), .ref (q 16), .ref (q 17), .ref (q 18), .ref (q 19), .ref (q 20), .ref (q 21), .int (gB is_), .long lo_, .long hi_, .ref (q 25), .ref (q 26), .ref (q 27)])), ((q 2), .inl (y 0, 40, .inl ki)), ((q 3), .inl (y 0, 40, .inl on)), ((q 4), .inl (y 0, 40, .inl ot)), ((q 5), .inl (y 0, 40, .inl ab)), ((q 6), .inl (y 0, 40, .inl be)), ((q 7), .inl (y 0, 40, .inl zA)), ((q 8), .inl (y 0, 40, .inl zB)), ((q 9), .inl (y 0, 40, .inl zC)), ((q 10), .inl (y 0, 40, .inl zD)), ((q 11), .inl (y 0, 40, .inl zF)), ((q 12), .inl (y 0, 40, .inl zT)), ((q 13), .inl (y 2, 1000, .inl (gZ fo))), ((q 14), .inl (y 1, 1000, .inr (.inl lw))), ((q 15), .inl (y 1, 1000, .inr (.inl hg))), ((q 16), .inl (y 2, 1000, .inl (gZ at_))), ((q 17), .inl (y 1, 1000, .inr (.inl tl))), ((q 18), .inl (y 1, 1000, .inr (.inl th))), ((q 19), .inl (y 2, 40, .inl (gZ wo))), ((q 20), .inl (y 1, 40, .inr (.inl wl))), ((q 21), .inl (y 1, 40, .inr (.inl wh))), ((q 25), .inl (y 0, 40, .inl di)), ((q 26), .inl (y 1, 40, .inr (.inl su))), ((q 27), .inl (y 2, 40, .inl (gZ an)))]
theorem in_X8_thrown_X8 : ∀ w ∈ wsX80, w ∈ wsX8_thrown := fun _ h => List.mem_cons_of_mem _ (List.mem_append_right _ h)
set_option maxHeartbeats 4000000 in
set_option maxRecDepth 100000 in
theorem c_X8_thrown (l : Launch) (D : va_G) (y : Nat → ClassId) (sz : Nat) (h : Nat) (q : Nat → Nat) (tw : Int32) (pn : Nat) (ki on ot ab be zA zB zC zD zF zT : Nat → Int32) (fo : Nat → Bool) (lw hg : Nat → Int64) (at_ : Nat → Bool) (tl th : Nat → Int64) (wo : Nat → Bool) (wl wh : Nat → Int64) (is_ : Bool) (lo_ hi_ : Int64) (di : Nat → Int32) (su : Nat → Int64) (an : Nat → Bool) : Met l yX8_thrown wsX8_thrown ({ frames := 0, cells := 0, slots := 0, locals := 0 } : Room) (gP D y [.ref h] (wM y h q tw pn ki on ot ab be zA zB zC zD zF zT fo lw hg at_ tl th wo wl wh is_ lo_ hi_ di su an) sz) (gR (.int tw)) 0 0 (fun _ => False) := by
  refine Met.ofW (cc := cX8_thrown) (maxL := 1) (ret := (some .int)) (by decide) rfl ?_
  intro pg e s m args below meth c s₁ B hml hv
  obtain ⟨rfl, hsz, hP, hK, hD0⟩ := hv
  have hx := B.exec
  have hb := B.bytes
  have hr := B.returns
  have hts := atoms_spec (ws := wsX8_thrown) B.pre
  have hown : s.vm.findClass RX8 = some m.cls := findClass_of_methodNamed B.named
  have hlocks := B.notSynchronized
  subst hsz
  obtain ⟨A, hAe⟩ : ∃ A : Nat → Prop, A = va_A (wM y h q tw pn ki on ot ab be zA zB zC zD zF zT fo lw hg at_ tl th wo wl wh is_ lo_ hi_ di su an) s.heap.size := ⟨_, rfl⟩
  have hD : va_D A (wM y h q tw pn ki on ot ab be zA zB zC zD zF zT fo lw hg at_ tl th wo wl wh is_ lo_ hi_ di su an) := by rw [hAe]; exact hD0.self (sz := s.heap.size)
  have hA : ∀ q : Nat, s.heap.size ≤ q → A q := fun q h => by rw [hAe]; exact Or.inr h
  have hS : va_S A s.heap s.heap [] := va_S.rf
  have hl := lv_entry ([.ref h]) (n := 1) (Nat.le_of_ble_eq_true rfl)
  rw [lg_entry_eq]
  generalize (lg_sl ([.ref h]) ++ List.replicate (1 - (lg_sl ([.ref h])).length) Slot.unset).toArray = ls at hl ⊢
  have hl : lv_has ls 1 [(0, .ref h)] := hl
  refine lv_aload_n hx hb dX8_thrown_0 rfl (lv_at hl 0 rfl) ?_
  refine va_get (D := D) (ci := 6) (v := .int tw) (C := RX8) (T := TX8) (N := 28) hx hb hts in_X8_thrown_X8 hown hK.1 hP 0 rfl rfl 0 (by decide) (hts (.fieldLink RX8 81 "NestlimitModel" "thrown" "I") (List.mem_of_getElem? (i := 1) rfl)) (fun _ h9 => h9) rfl dX8_thrown_1 ?_
  exact W.iret (v := tw) hx hb hr (fun t ht hW => ⟨congrArg (fun z => Outcome.returned (some (Value.int z))) (rfl), ht⟩) (fun q h => by cases h) dX8_thrown_4
theorem in_X8_isProgram_X8 : ∀ w ∈ wsX80, w ∈ wsX8_isProgram := fun _ h => List.mem_cons_of_mem _ (List.mem_append_right _ h)
def sp_X8_isProgram (pn : Nat) (k : Int32) : Bool := sp_X8_in k 0 ((nI pn) - 1)
set_option maxHeartbeats 4000000 in
set_option maxRecDepth 100000 in
theorem c_X8_isProgram (l : Launch) (D : va_G) (y : Nat → ClassId) (sz : Nat) (h : Nat) (q : Nat → Nat) (tw : Int32) (pn : Nat) (ki on ot ab be zA zB zC zD zF zT : Nat → Int32) (fo : Nat → Bool) (lw hg : Nat → Int64) (at_ : Nat → Bool) (tl th : Nat → Int64) (wo : Nat → Bool) (wl wh : Nat → Int64) (is_ : Bool) (lo_ hi_ : Int64) (di : Nat → Int32) (su : Nat → Int64) (an : Nat → Bool) (k : Int32) : Met l yX8_isProgram wsX8_isProgram ({ frames := 1, cells := 0, slots := 0, locals := 22 } : Room) (gP D y [.ref h, .int k] (wM y h q tw pn ki on ot ab be zA zB zC zD zF zT fo lw hg at_ tl th wo wl wh is_ lo_ hi_ di su an) sz) (gR (.int (gB (sp_X8_isProgram pn k)))) 0 0 (fun _ => False) := by
  refine Met.ofW (cc := cX8_isProgram) (maxL := 2) (ret := (some .boolean)) (by decide) rfl ?_
  intro pg e s m args below meth c s₁ B hml hv
  obtain ⟨rfl, hsz, hP, hK, hD0⟩ := hv
  have hx := B.exec
  have hb := B.bytes
  have hr := B.returns
  have hts := atoms_spec (ws := wsX8_isProgram) B.pre
  have hown : s.vm.findClass RX8 = some m.cls := findClass_of_methodNamed B.named
  have hlocks := B.notSynchronized
  subst hsz
  obtain ⟨A, hAe⟩ : ∃ A : Nat → Prop, A = va_A (wM y h q tw pn ki on ot ab be zA zB zC zD zF zT fo lw hg at_ tl th wo wl wh is_ lo_ hi_ di su an) s.heap.size := ⟨_, rfl⟩
  have hD : va_D A (wM y h q tw pn ki on ot ab be zA zB zC zD zF zT fo lw hg at_ tl th wo wl wh is_ lo_ hi_ di su an) := by rw [hAe]; exact hD0.self (sz := s.heap.size)
  have hA : ∀ q : Nat, s.heap.size ≤ q → A q := fun q h => by rw [hAe]; exact Or.inr h
  have hS : va_S A s.heap s.heap [] := va_S.rf
  have hl := lv_entry ([.ref h, .int k]) (n := 2) (Nat.le_of_ble_eq_true rfl)
  rw [lg_entry_eq]
  generalize (lg_sl ([.ref h, .int k]) ++ List.replicate (2 - (lg_sl ([.ref h, .int k])).length) Slot.unset).toArray = ls at hl ⊢
  have hl : lv_has ls 2 [(0, .ref h), (1, .int k)] := hl
  refine lv_iload_n hx hb dX8_isProgram_0 rfl (lv_at hl 1 rfl) ?_
  refine lv_iconst (v := 0) hx hb dX8_isProgram_1 (by decide) ?_
  refine lv_aload_n hx hb dX8_isProgram_2 rfl (lv_at hl 0 rfl) ?_
  refine va_get (D := D) (ci := 6) (v := .int (nI pn)) (C := RX8) (T := TX8) (N := 28) hx hb hts in_X8_isProgram_X8 hown hK.1 hP 0 rfl rfl 1 (by decide) (hts (.fieldLink RX8 85 "NestlimitModel" "programs" "I") (List.mem_of_getElem? (i := 1) rfl)) (fun _ h9 => h9) rfl dX8_isProgram_3 ?_
  refine lv_iconst (v := 1) hx hb dX8_isProgram_6 (by decide) ?_
  refine lv_isub hx hb dX8_isProgram_7 ?_
  refine g_callR (v0 := .int (gB (sp_X8_in k 0 ((nI pn) - 1)))) (va_runS (As := [.int k, .int 0, .int ((nI pn) - 1)]) (rest := []) ⟨hx, hb, hml, hown, hts⟩ (c_X8_in l D y s.heap.size k 0 ((nI pn) - 1)) (va_cwS 3 hts gX8_isProgram_X8_in rfl rfl rfl (by decide +kernel) ⟨Nat.le_of_ble_eq_true rfl, Nat.le_of_ble_eq_true rfl⟩) (gP_S hP hD hK [] (by decide) rfl) rfl rfl hl.1 rfl (lv_room (Nat.le_of_ble_eq_true rfl)) dX8_isProgram_8 ⟨Nat.zero_le _, Nat.zero_le _⟩) ?_
  exact W.zret (v := gB (sp_X8_in k 0 ((nI pn) - 1))) hx hb hr (gB_n _) (fun t ht hW => ⟨congrArg (fun z => Outcome.returned (some (Value.int z))) (rfl), ht⟩) (fun q h => by cases h) dX8_isProgram_11
theorem in_X8_holds_X8 : ∀ w ∈ wsX80, w ∈ wsX8_holds := fun _ h => List.mem_cons_of_mem _ (List.mem_append_right _ h)
def sp_X8_holds (v : Int32) : Bool := if v = 0 then true else false
set_option maxHeartbeats 4000000 in
set_option maxRecDepth 100000 in
theorem c_X8_holds (l : Launch) (D : va_G) (y : Nat → ClassId) (sz : Nat) (h : Nat) (q : Nat → Nat) (tw : Int32) (pn : Nat) (ki on ot ab be zA zB zC zD zF zT : Nat → Int32) (fo : Nat → Bool) (lw hg : Nat → Int64) (at_ : Nat → Bool) (tl th : Nat → Int64) (wo : Nat → Bool) (wl wh : Nat → Int64) (is_ : Bool) (lo_ hi_ : Int64) (di : Nat → Int32) (su : Nat → Int64) (an : Nat → Bool) (v : Int32) : Met l yX8_holds wsX8_holds ({ frames := 0, cells := 0, slots := 0, locals := 0 } : Room) (gP D y [.ref h, .int v] (wM y h q tw pn ki on ot ab be zA zB zC zD zF zT fo lw hg at_ tl th wo wl wh is_ lo_ hi_ di su an) sz) (gQ D (wM y h q tw pn ki on ot ab be zA zB zC zD zF zT fo lw hg at_ tl th wo wl wh is_ lo_ hi_ di su an) (gF (some (.int (gB (sp_X8_holds v)))) (wM y h q v pn ki on ot ab be zA zB zC zD zF zT fo lw hg at_ tl th wo wl wh is_ lo_ hi_ di su an))) 0 0 (va_A (wM y h q tw pn ki on ot ab be zA zB zC zD zF zT fo lw hg at_ tl th wo wl wh is_ lo_ hi_ di su an) sz) := by
  refine Met.ofW (cc := cX8_holds) (maxL := 2) (ret := (some .boolean)) (by decide) rfl ?_
  intro pg e s m args below meth c s₁ B hml hv
  obtain ⟨rfl, hsz, hP, hK, hD0⟩ := hv
  have hx := B.exec
  have hb := B.bytes
  have hr := B.returns
  have hts := atoms_spec (ws := wsX8_holds) B.pre
  have hown : s.vm.findClass RX8 = some m.cls := findClass_of_methodNamed B.named
  have hlocks := B.notSynchronized
  subst hsz
  obtain ⟨A, hAe⟩ : ∃ A : Nat → Prop, A = va_A (wM y h q tw pn ki on ot ab be zA zB zC zD zF zT fo lw hg at_ tl th wo wl wh is_ lo_ hi_ di su an) s.heap.size := ⟨_, rfl⟩
  have hD : va_D A (wM y h q tw pn ki on ot ab be zA zB zC zD zF zT fo lw hg at_ tl th wo wl wh is_ lo_ hi_ di su an) := by rw [hAe]; exact hD0.self (sz := s.heap.size)
  have hA : ∀ q : Nat, s.heap.size ≤ q → A q := fun q h => by rw [hAe]; exact Or.inr h
  have hS : va_S A s.heap s.heap [] := va_S.rf
  have hl := lv_entry ([.ref h, .int v]) (n := 2) (Nat.le_of_ble_eq_true rfl)
  rw [lg_entry_eq]
  generalize (lg_sl ([.ref h, .int v]) ++ List.replicate (2 - (lg_sl ([.ref h, .int v])).length) Slot.unset).toArray = ls at hl ⊢
  have hl : lv_has ls 2 [(0, .ref h), (1, .int v)] := hl
  refine lv_aload_n hx hb dX8_holds_0 rfl (lv_at hl 0 rfl) ?_
  refine lv_iload_n hx hb dX8_holds_1 rfl (lv_at hl 1 rfl) ?_
  refine va_put (D := D) (ci := 6) (v := .int v) (ty := .int) (C := RX8) (T := TX8) (N := 28) hx hb hts in_X8_holds_X8 tyX8 tyX8_ok nmX8 hown hK.1 hP hD hS 0 rfl rfl 0 (by decide) (hts (.fieldLink RX8 81 "NestlimitModel" "thrown" "I") (List.mem_of_getElem? (i := 1) rfl)) (fun _ h9 => h9) rfl (by decide +kernel) (rfl) (rfl) (Nat.le_of_ble_eq_true rfl) dX8_holds_2 (fun H locs hP hD hS => ?_)
  have hP : va_P D vwCl (wM y h q v pn ki on ot ab be zA zB zC zD zF zT fo lw hg at_ tl th wo wl wh is_ lo_ hi_ di su an) H := hP
  have hD : va_D A (wM y h q v pn ki on ot ab be zA zB zC zD zF zT fo lw hg at_ tl th wo wl wh is_ lo_ hi_ di su an) := hD
  refine lv_iload_n hx hb dX8_holds_5 rfl (lv_at hl 1 rfl) ?_
  refine lv_if_ne (tgt := 13) hx hb dX8_holds_6 (by decide) (fun c_6 => ?_) (fun c_6 => ?_)
  · skip
    refine lv_iconst (v := 0) hx hb dX8_holds_13 (by decide) ?_
    exact W.zret (v := 0) hx hb hr (by decide) (fun t ht hW => ⟨⟨_, wM y h q v pn ki on ot ab be zA zB zC zD zF zT fo lw hg at_ tl th wo wl wh is_ lo_ hi_ di su an, rfl, ⟨congrArg (fun z => some (Value.int z)) (by simp only [sp_X8_holds, if_neg c_6] <;> rfl), rfl⟩, rfl, by rw [ht]; exact hP⟩, by rw [← hAe]; exact hS.F ht⟩) (by rw [← hAe]; exact hS.2.2) dX8_holds_14
  · skip
    refine lv_iconst (v := 1) hx hb dX8_holds_9 (by decide) ?_
    refine lv_goto (tgt := 14) hx hb dX8_holds_10 (by decide) ?_
    exact W.zret (v := 1) hx hb hr (by decide) (fun t ht hW => ⟨⟨_, wM y h q v pn ki on ot ab be zA zB zC zD zF zT fo lw hg at_ tl th wo wl wh is_ lo_ hi_ di su an, rfl, ⟨congrArg (fun z => some (Value.int z)) (by simp only [sp_X8_holds, if_pos c_6] <;> rfl), rfl⟩, rfl, by rw [ht]; exact hP⟩, by rw [← hAe]; exact hS.F ht⟩) (by rw [← hAe]; exact hS.2.2) dX8_holds_14
theorem in_X8_sets_X8 : ∀ w ∈ wsX80, w ∈ wsX8_sets := fun _ h => List.mem_cons_of_mem _ (List.mem_append_right _ h)
set_option maxHeartbeats 4000000 in
set_option maxRecDepth 100000 in
theorem c_X8_sets (l : Launch) (D : va_G) (y : Nat → ClassId) (sz : Nat) (h : Nat) (q : Nat → Nat) (tw : Int32) (pn : Nat) (ki on ot ab be zA zB zC zD zF zT : Nat → Int32) (fo : Nat → Bool) (lw hg : Nat → Int64) (at_ : Nat → Bool) (tl th : Nat → Int64) (wo : Nat → Bool) (wl wh : Nat → Int64) (is_ : Bool) (lo_ hi_ : Int64) (di : Nat → Int32) (su : Nat → Int64) (an : Nat → Bool) (a b : Int64) : Met l yX8_sets wsX8_sets ({ frames := 0, cells := 0, slots := 0, locals := 0 } : Room) (gP D y [.ref h, .long a, .long b] (wM y h q tw pn ki on ot ab be zA zB zC zD zF zT fo lw hg at_ tl th wo wl wh is_ lo_ hi_ di su an) sz) (gQ D (wM y h q tw pn ki on ot ab be zA zB zC zD zF zT fo lw hg at_ tl th wo wl wh is_ lo_ hi_ di su an) (gF none (wM y h q tw pn ki on ot ab be zA zB zC zD zF zT fo lw hg at_ tl th wo wl wh true a b di su an))) 0 0 (va_A (wM y h q tw pn ki on ot ab be zA zB zC zD zF zT fo lw hg at_ tl th wo wl wh is_ lo_ hi_ di su an) sz) := by
  refine Met.ofW (cc := cX8_sets) (maxL := 5) (ret := none) (by decide) rfl ?_
  intro pg e s m args below meth c s₁ B hml hv
  obtain ⟨rfl, hsz, hP, hK, hD0⟩ := hv
  have hx := B.exec
  have hb := B.bytes
  have hr := B.returns
  have hts := atoms_spec (ws := wsX8_sets) B.pre
  have hown : s.vm.findClass RX8 = some m.cls := findClass_of_methodNamed B.named
  have hlocks := B.notSynchronized
  subst hsz
  obtain ⟨A, hAe⟩ : ∃ A : Nat → Prop, A = va_A (wM y h q tw pn ki on ot ab be zA zB zC zD zF zT fo lw hg at_ tl th wo wl wh is_ lo_ hi_ di su an) s.heap.size := ⟨_, rfl⟩
  have hD : va_D A (wM y h q tw pn ki on ot ab be zA zB zC zD zF zT fo lw hg at_ tl th wo wl wh is_ lo_ hi_ di su an) := by rw [hAe]; exact hD0.self (sz := s.heap.size)
  have hA : ∀ q : Nat, s.heap.size ≤ q → A q := fun q h => by rw [hAe]; exact Or.inr h
  have hS : va_S A s.heap s.heap [] := va_S.rf
  have hl := lv_entry ([.ref h, .long a, .long b]) (n := 5) (Nat.le_of_ble_eq_true rfl)
  rw [lg_entry_eq]
  generalize (lg_sl ([.ref h, .long a, .long b]) ++ List.replicate (5 - (lg_sl ([.ref h, .long a, .long b])).length) Slot.unset).toArray = ls at hl ⊢
  have hl : lv_has ls 5 [(0, .ref h), (1, .long a), (3, .long b)] := hl
  refine lv_aload_n hx hb dX8_sets_0 rfl (lv_at hl 0 rfl) ?_
  refine lv_iconst (v := 1) hx hb dX8_sets_1 (by decide) ?_
  refine va_put (D := D) (ci := 6) (v := .int (gB true)) (ty := .boolean) (C := RX8) (T := TX8) (N := 28) hx hb hts in_X8_sets_X8 tyX8 tyX8_ok nmX8 hown hK.1 hP hD hS 0 rfl rfl 22 (by decide) (hts (.fieldLink RX8 92 "NestlimitModel" "is" "Z") (List.mem_of_getElem? (i := 1) rfl)) (fun _ h9 => h9) rfl (by decide +kernel) (gB_n _) (gB_f _) (Nat.le_of_ble_eq_true rfl) dX8_sets_2 (fun H locs hP hD hS => ?_)
  have hP : va_P D vwCl (wM y h q tw pn ki on ot ab be zA zB zC zD zF zT fo lw hg at_ tl th wo wl wh true lo_ hi_ di su an) H := hP
  have hD : va_D A (wM y h q tw pn ki on ot ab be zA zB zC zD zF zT fo lw hg at_ tl th wo wl wh true lo_ hi_ di su an) := hD
  refine lv_aload_n hx hb dX8_sets_5 rfl (lv_at hl 0 rfl) ?_
  refine lv_lload_n hx hb dX8_sets_6 rfl (lv_at hl 1 rfl) ?_
  refine va_put (D := D) (ci := 6) (v := .long a) (ty := .long) (C := RX8) (T := TX8) (N := 28) hx hb hts in_X8_sets_X8 tyX8 tyX8_ok nmX8 hown hK.1 hP hD hS 0 rfl rfl 23 (by decide) (hts (.fieldLink RX8 96 "NestlimitModel" "low" "J") (List.mem_of_getElem? (i := 2) rfl)) (fun _ h9 => h9) rfl (by decide +kernel) (rfl) (rfl) (Nat.le_of_ble_eq_true rfl) dX8_sets_7 (fun H locs hP hD hS => ?_)
  have hP : va_P D vwCl (wM y h q tw pn ki on ot ab be zA zB zC zD zF zT fo lw hg at_ tl th wo wl wh true a hi_ di su an) H := hP
  have hD : va_D A (wM y h q tw pn ki on ot ab be zA zB zC zD zF zT fo lw hg at_ tl th wo wl wh true a hi_ di su an) := hD
  refine lv_aload_n hx hb dX8_sets_10 rfl (lv_at hl 0 rfl) ?_
  refine lv_lload_n hx hb dX8_sets_11 rfl (lv_at hl 2 rfl) ?_
  refine va_put (D := D) (ci := 6) (v := .long b) (ty := .long) (C := RX8) (T := TX8) (N := 28) hx hb hts in_X8_sets_X8 tyX8 tyX8_ok nmX8 hown hK.1 hP hD hS 0 rfl rfl 24 (by decide) (hts (.fieldLink RX8 100 "NestlimitModel" "high" "J") (List.mem_of_getElem? (i := 3) rfl)) (fun _ h9 => h9) rfl (by decide +kernel) (rfl) (rfl) (Nat.le_of_ble_eq_true rfl) dX8_sets_12 (fun H locs hP hD hS => ?_)
  have hP : va_P D vwCl (wM y h q tw pn ki on ot ab be zA zB zC zD zF zT fo lw hg at_ tl th wo wl wh true a b di su an) H := hP
  have hD : va_D A (wM y h q tw pn ki on ot ab be zA zB zC zD zF zT fo lw hg at_ tl th wo wl wh true a b di su an) := hD
  exact W.vret hx hb hr (fun t ht hW => ⟨⟨none, wM y h q tw pn ki on ot ab be zA zB zC zD zF zT fo lw hg at_ tl th wo wl wh true a b di su an, rfl, ⟨rfl, rfl⟩, rfl, by rw [ht]; exact hP⟩, by rw [← hAe]; exact hS.F ht⟩) (by rw [← hAe]; exact hS.2.2) dX8_sets_15
def sp_X8_multiplies_lo_ (a : Int64) (b : Int64) (a2 : Int64) (b2 : Int64) (i : Int32) : Int64 := sp_X8_cut (sp_X8_least (sp_X8_least (a * a2) (a * b2)) (sp_X8_least (b * a2) (b * b2))) (jshl 1 i)
def sp_X8_multiplies_hi_ (a : Int64) (b : Int64) (a2 : Int64) (b2 : Int64) (i : Int32) : Int64 := sp_X8_fill (sp_X8_most (sp_X8_most (a * a2) (a * b2)) (sp_X8_most (b * a2) (b * b2))) (jshl 1 i)
set_option maxHeartbeats 4000000 in
set_option maxRecDepth 100000 in
theorem c_X8_multiplies (l : Launch) (D : va_G) (y : Nat → ClassId) (sz : Nat) (h : Nat) (q : Nat → Nat) (tw : Int32) (pn : Nat) (ki on ot ab be zA zB zC zD zF zT : Nat → Int32) (fo : Nat → Bool) (lw hg : Nat → Int64) (at_ : Nat → Bool) (tl th : Nat → Int64) (wo : Nat → Bool) (wl wh : Nat → Int64) (is_ : Bool) (lo_ hi_ : Int64) (di : Nat → Int32) (su : Nat → Int64) (an : Nat → Bool) (a b a2 b2 : Int64) (i : Int32) (hU : ¬ jshl 1 i = 0) : Met l yX8_multiplies wsX8_multiplies ({ frames := 1, cells := 0, slots := 0, locals := 25 } : Room) (gP D y [.ref h, .long a, .long b, .long a2, .long b2, .int i] (wM y h q tw pn ki on ot ab be zA zB zC zD zF zT fo lw hg at_ tl th wo wl wh is_ lo_ hi_ di su an) sz) (gQ D (wM y h q tw pn ki on ot ab be zA zB zC zD zF zT fo lw hg at_ tl th wo wl wh is_ lo_ hi_ di su an) (gF none (wM y h q tw pn ki on ot ab be zA zB zC zD zF zT fo lw hg at_ tl th wo wl wh true (sp_X8_multiplies_lo_ a b a2 b2 i) (sp_X8_multiplies_hi_ a b a2 b2 i) di su an))) 0 0 (va_A (wM y h q tw pn ki on ot ab be zA zB zC zD zF zT fo lw hg at_ tl th wo wl wh is_ lo_ hi_ di su an) sz) := by
  refine Met.ofW (cc := cX8_multiplies) (maxL := 18) (ret := none) (by decide) rfl ?_
  intro pg e s m args below meth c s₁ B hml hv
  obtain ⟨rfl, hsz, hP, hK, hD0⟩ := hv
  have hx := B.exec
  have hb := B.bytes
  have hr := B.returns
  have hts := atoms_spec (ws := wsX8_multiplies) B.pre
  have hown : s.vm.findClass RX8 = some m.cls := findClass_of_methodNamed B.named
  have hlocks := B.notSynchronized
  subst hsz
  obtain ⟨A, hAe⟩ : ∃ A : Nat → Prop, A = va_A (wM y h q tw pn ki on ot ab be zA zB zC zD zF zT fo lw hg at_ tl th wo wl wh is_ lo_ hi_ di su an) s.heap.size := ⟨_, rfl⟩
  have hD : va_D A (wM y h q tw pn ki on ot ab be zA zB zC zD zF zT fo lw hg at_ tl th wo wl wh is_ lo_ hi_ di su an) := by rw [hAe]; exact hD0.self (sz := s.heap.size)
  have hA : ∀ q : Nat, s.heap.size ≤ q → A q := fun q h => by rw [hAe]; exact Or.inr h
  have hS : va_S A s.heap s.heap [] := va_S.rf
  have hl := lv_entry ([.ref h, .long a, .long b, .long a2, .long b2, .int i]) (n := 18) (Nat.le_of_ble_eq_true rfl)
  rw [lg_entry_eq]
  generalize (lg_sl ([.ref h, .long a, .long b, .long a2, .long b2, .int i]) ++ List.replicate (18 - (lg_sl ([.ref h, .long a, .long b, .long a2, .long b2, .int i])).length) Slot.unset).toArray = ls at hl ⊢
  have hl : lv_has ls 18 [(0, .ref h), (1, .long a), (3, .long b), (5, .long a2), (7, .long b2), (9, .int i)] := hl
  refine lv_lload_n hx hb dX8_multiplies_0 rfl (lv_at hl 1 rfl) ?_
  refine lv_lload hx hb dX8_multiplies_1 (lv_at hl 3 rfl) ?_
  refine lv_lmul hx hb dX8_multiplies_3 ?_
  refine lv_lload_n hx hb dX8_multiplies_4 rfl (lv_at hl 1 rfl) ?_
  refine lv_lload hx hb dX8_multiplies_5 (lv_at hl 4 rfl) ?_
  refine lv_lmul hx hb dX8_multiplies_7 ?_
  refine g_callR (v0 := .long (sp_X8_least (a * a2) (a * b2))) (va_runS (As := [.long (a * a2), .long (a * b2)]) (rest := []) ⟨hx, hb, hml, hown, hts⟩ (c_X8_least l D y s.heap.size (a * a2) (a * b2)) (va_cwS 2 hts gX8_multiplies_X8_least rfl rfl rfl (by decide +kernel) ⟨Nat.le_of_ble_eq_true rfl, Nat.le_of_ble_eq_true rfl⟩) (gP_S hP hD hK [] (by decide) rfl) rfl rfl hl.1 rfl (lv_room (Nat.le_of_ble_eq_true rfl)) dX8_multiplies_8 ⟨Nat.zero_le _, Nat.zero_le _⟩) ?_
  refine lv_lstore (lv' := [(10, .long (sp_X8_least (a * a2) (a * b2))), (0, .ref h), (1, .long a), (3, .long b), (5, .long a2), (7, .long b2), (9, .int i)]) hx hb dX8_multiplies_11 hl (by decide) rfl (fun ls hl => ?_)
  refine lv_lload_n hx hb dX8_multiplies_13 rfl (lv_at hl 3 rfl) ?_
  refine lv_lload hx hb dX8_multiplies_14 (lv_at hl 4 rfl) ?_
  refine lv_lmul hx hb dX8_multiplies_16 ?_
  refine lv_lload_n hx hb dX8_multiplies_17 rfl (lv_at hl 3 rfl) ?_
  refine lv_lload hx hb dX8_multiplies_18 (lv_at hl 5 rfl) ?_
  refine lv_lmul hx hb dX8_multiplies_20 ?_
  refine g_callR (v0 := .long (sp_X8_least (b * a2) (b * b2))) (va_runS (As := [.long (b * a2), .long (b * b2)]) (rest := []) ⟨hx, hb, hml, hown, hts⟩ (c_X8_least l D y s.heap.size (b * a2) (b * b2)) (va_cwS 2 hts gX8_multiplies_X8_least rfl rfl rfl (by decide +kernel) ⟨Nat.le_of_ble_eq_true rfl, Nat.le_of_ble_eq_true rfl⟩) (gP_S hP hD hK [] (by decide) rfl) rfl rfl hl.1 rfl (lv_room (Nat.le_of_ble_eq_true rfl)) dX8_multiplies_21 ⟨Nat.zero_le _, Nat.zero_le _⟩) ?_
  refine lv_lstore (lv' := [(12, .long (sp_X8_least (b * a2) (b * b2))), (10, .long (sp_X8_least (a * a2) (a * b2))), (0, .ref h), (1, .long a), (3, .long b), (5, .long a2), (7, .long b2), (9, .int i)]) hx hb dX8_multiplies_24 hl (by decide) rfl (fun ls hl => ?_)
  refine lv_lload_n hx hb dX8_multiplies_26 rfl (lv_at hl 3 rfl) ?_
  refine lv_lload hx hb dX8_multiplies_27 (lv_at hl 5 rfl) ?_
  refine lv_lmul hx hb dX8_multiplies_29 ?_
  refine lv_lload_n hx hb dX8_multiplies_30 rfl (lv_at hl 3 rfl) ?_
  refine lv_lload hx hb dX8_multiplies_31 (lv_at hl 6 rfl) ?_
  refine lv_lmul hx hb dX8_multiplies_33 ?_
  refine g_callR (v0 := .long (sp_X8_most (a * a2) (a * b2))) (va_runS (As := [.long (a * a2), .long (a * b2)]) (rest := []) ⟨hx, hb, hml, hown, hts⟩ (c_X8_most l D y s.heap.size (a * a2) (a * b2)) (va_cwS 2 hts gX8_multiplies_X8_most rfl rfl rfl (by decide +kernel) ⟨Nat.le_of_ble_eq_true rfl, Nat.le_of_ble_eq_true rfl⟩) (gP_S hP hD hK [] (by decide) rfl) rfl rfl hl.1 rfl (lv_room (Nat.le_of_ble_eq_true rfl)) dX8_multiplies_34 ⟨Nat.zero_le _, Nat.zero_le _⟩) ?_
  refine lv_lstore (lv' := [(14, .long (sp_X8_most (a * a2) (a * b2))), (12, .long (sp_X8_least (b * a2) (b * b2))), (10, .long (sp_X8_least (a * a2) (a * b2))), (0, .ref h), (1, .long a), (3, .long b), (5, .long a2), (7, .long b2), (9, .int i)]) hx hb dX8_multiplies_37 hl (by decide) rfl (fun ls hl => ?_)
  refine lv_lload_n hx hb dX8_multiplies_39 rfl (lv_at hl 5 rfl) ?_
  refine lv_lload hx hb dX8_multiplies_40 (lv_at hl 6 rfl) ?_
  refine lv_lmul hx hb dX8_multiplies_42 ?_
  refine lv_lload_n hx hb dX8_multiplies_43 rfl (lv_at hl 5 rfl) ?_
  refine lv_lload hx hb dX8_multiplies_44 (lv_at hl 7 rfl) ?_
  refine lv_lmul hx hb dX8_multiplies_46 ?_
  refine g_callR (v0 := .long (sp_X8_most (b * a2) (b * b2))) (va_runS (As := [.long (b * a2), .long (b * b2)]) (rest := []) ⟨hx, hb, hml, hown, hts⟩ (c_X8_most l D y s.heap.size (b * a2) (b * b2)) (va_cwS 2 hts gX8_multiplies_X8_most rfl rfl rfl (by decide +kernel) ⟨Nat.le_of_ble_eq_true rfl, Nat.le_of_ble_eq_true rfl⟩) (gP_S hP hD hK [] (by decide) rfl) rfl rfl hl.1 rfl (lv_room (Nat.le_of_ble_eq_true rfl)) dX8_multiplies_47 ⟨Nat.zero_le _, Nat.zero_le _⟩) ?_
  refine lv_lstore (lv' := [(16, .long (sp_X8_most (b * a2) (b * b2))), (14, .long (sp_X8_most (a * a2) (a * b2))), (12, .long (sp_X8_least (b * a2) (b * b2))), (10, .long (sp_X8_least (a * a2) (a * b2))), (0, .ref h), (1, .long a), (3, .long b), (5, .long a2), (7, .long b2), (9, .int i)]) hx hb dX8_multiplies_50 hl (by decide) rfl (fun ls hl => ?_)
  refine lv_aload_n hx hb dX8_multiplies_52 rfl (lv_at hl 4 rfl) ?_
  refine lv_lload hx hb dX8_multiplies_53 (lv_at hl 3 rfl) ?_
  refine lv_lload hx hb dX8_multiplies_55 (lv_at hl 2 rfl) ?_
  refine g_callR (v0 := .long (sp_X8_least (sp_X8_least (a * a2) (a * b2)) (sp_X8_least (b * a2) (b * b2)))) (va_runS (As := [.long (sp_X8_least (a * a2) (a * b2)), .long (sp_X8_least (b * a2) (b * b2))]) (rest := [.ref h]) ⟨hx, hb, hml, hown, hts⟩ (c_X8_least l D y s.heap.size (sp_X8_least (a * a2) (a * b2)) (sp_X8_least (b * a2) (b * b2))) (va_cwS 2 hts gX8_multiplies_X8_least rfl rfl rfl (by decide +kernel) ⟨Nat.le_of_ble_eq_true rfl, Nat.le_of_ble_eq_true rfl⟩) (gP_S hP hD hK [] (by decide) rfl) rfl rfl hl.1 rfl (lv_room (Nat.le_of_ble_eq_true rfl)) dX8_multiplies_57 ⟨Nat.zero_le _, Nat.zero_le _⟩) ?_
  refine lv_lconst (v := 1) hx hb dX8_multiplies_60 (by decide) ?_
  refine lv_iload hx hb dX8_multiplies_61 (lv_at hl 9 rfl) ?_
  refine lv_lshl (v := jshl 1 i) hx hb dX8_multiplies_63 rfl ?_
  refine g_callR (v0 := .long (sp_X8_cut (sp_X8_least (sp_X8_least (a * a2) (a * b2)) (sp_X8_least (b * a2) (b * b2))) (jshl 1 i))) (va_runS (As := [.long (sp_X8_least (sp_X8_least (a * a2) (a * b2)) (sp_X8_least (b * a2) (b * b2))), .long (jshl 1 i)]) (rest := [.ref h]) ⟨hx, hb, hml, hown, hts⟩ (c_X8_cut l D y s.heap.size (sp_X8_least (sp_X8_least (a * a2) (a * b2)) (sp_X8_least (b * a2) (b * b2))) (jshl 1 i) hU) (va_cwS 2 hts gX8_multiplies_X8_cut rfl rfl rfl (by decide +kernel) ⟨Nat.le_of_ble_eq_true rfl, Nat.le_of_ble_eq_true rfl⟩) (gP_S hP hD hK [] (by decide) rfl) rfl rfl hl.1 rfl (lv_room (Nat.le_of_ble_eq_true rfl)) dX8_multiplies_64 ⟨Nat.zero_le _, Nat.zero_le _⟩) ?_
  refine lv_lload hx hb dX8_multiplies_67 (lv_at hl 1 rfl) ?_
  refine lv_lload hx hb dX8_multiplies_69 (lv_at hl 0 rfl) ?_
  refine g_callR (v0 := .long (sp_X8_most (sp_X8_most (a * a2) (a * b2)) (sp_X8_most (b * a2) (b * b2)))) (va_runS (As := [.long (sp_X8_most (a * a2) (a * b2)), .long (sp_X8_most (b * a2) (b * b2))]) (rest := [.long (sp_X8_cut (sp_X8_least (sp_X8_least (a * a2) (a * b2)) (sp_X8_least (b * a2) (b * b2))) (jshl 1 i)), .ref h]) ⟨hx, hb, hml, hown, hts⟩ (c_X8_most l D y s.heap.size (sp_X8_most (a * a2) (a * b2)) (sp_X8_most (b * a2) (b * b2))) (va_cwS 2 hts gX8_multiplies_X8_most rfl rfl rfl (by decide +kernel) ⟨Nat.le_of_ble_eq_true rfl, Nat.le_of_ble_eq_true rfl⟩) (gP_S hP hD hK [] (by decide) rfl) rfl rfl hl.1 rfl (lv_room (Nat.le_of_ble_eq_true rfl)) dX8_multiplies_71 ⟨Nat.zero_le _, Nat.zero_le _⟩) ?_
  refine lv_lconst (v := 1) hx hb dX8_multiplies_74 (by decide) ?_
  refine lv_iload hx hb dX8_multiplies_75 (lv_at hl 9 rfl) ?_
  refine lv_lshl (v := jshl 1 i) hx hb dX8_multiplies_77 rfl ?_
  refine g_callR (v0 := .long (sp_X8_fill (sp_X8_most (sp_X8_most (a * a2) (a * b2)) (sp_X8_most (b * a2) (b * b2))) (jshl 1 i))) (va_runS (As := [.long (sp_X8_most (sp_X8_most (a * a2) (a * b2)) (sp_X8_most (b * a2) (b * b2))), .long (jshl 1 i)]) (rest := [.long (sp_X8_cut (sp_X8_least (sp_X8_least (a * a2) (a * b2)) (sp_X8_least (b * a2) (b * b2))) (jshl 1 i)), .ref h]) ⟨hx, hb, hml, hown, hts⟩ (c_X8_fill l D y s.heap.size (sp_X8_most (sp_X8_most (a * a2) (a * b2)) (sp_X8_most (b * a2) (b * b2))) (jshl 1 i) hU) (va_cwS 2 hts gX8_multiplies_X8_fill rfl rfl rfl (by decide +kernel) ⟨Nat.le_of_ble_eq_true rfl, Nat.le_of_ble_eq_true rfl⟩) (gP_S hP hD hK [] (by decide) rfl) rfl rfl hl.1 rfl (lv_room (Nat.le_of_ble_eq_true rfl)) dX8_multiplies_78 ⟨Nat.zero_le _, Nat.zero_le _⟩) ?_
  refine g_callAv (w0 := wM y h q tw pn ki on ot ab be zA zB zC zD zF zT fo lw hg at_ tl th wo wl wh true (sp_X8_cut (sp_X8_least (sp_X8_least (a * a2) (a * b2)) (sp_X8_least (b * a2) (b * b2))) (jshl 1 i)) (sp_X8_fill (sp_X8_most (sp_X8_most (a * a2) (a * b2)) (sp_X8_most (b * a2) (b * b2))) (jshl 1 i)) di su an) (va_runV (As := [.long (sp_X8_cut (sp_X8_least (sp_X8_least (a * a2) (a * b2)) (sp_X8_least (b * a2) (b * b2))) (jshl 1 i)), .long (sp_X8_fill (sp_X8_most (sp_X8_most (a * a2) (a * b2)) (sp_X8_most (b * a2) (b * b2))) (jshl 1 i))]) (rest := []) ⟨hx, hb, hml, hown, hts⟩ (c_X8_sets l D y s.heap.size h q tw pn ki on ot ab be zA zB zC zD zF zT fo lw hg at_ tl th wo wl wh is_ lo_ hi_ di su an (sp_X8_cut (sp_X8_least (sp_X8_least (a * a2) (a * b2)) (sp_X8_least (b * a2) (b * b2))) (jshl 1 i)) (sp_X8_fill (sp_X8_most (sp_X8_most (a * a2) (a * b2)) (sp_X8_most (b * a2) (b * b2))) (jshl 1 i))) (cwV 2 hts gX8_multiplies_X8_sets rfl rfl rfl (by decide +kernel) ⟨Nat.le_of_ble_eq_true rfl, Nat.le_of_ble_eq_true rfl⟩) (gP_VA hP hD hK 0 rfl rfl) rfl rfl hl.1 rfl (lv_room (Nat.le_of_ble_eq_true rfl)) dX8_multiplies_81 ⟨Nat.zero_le _, Nat.zero_le _⟩) hP hD hS hA rfl (fun H locs hP hD hS => ?_)
  exact W.vret hx hb hr (fun t ht hW => ⟨⟨none, wM y h q tw pn ki on ot ab be zA zB zC zD zF zT fo lw hg at_ tl th wo wl wh true (sp_X8_cut (sp_X8_least (sp_X8_least (a * a2) (a * b2)) (sp_X8_least (b * a2) (b * b2))) (jshl 1 i)) (sp_X8_fill (sp_X8_most (sp_X8_most (a * a2) (a * b2)) (sp_X8_most (b * a2) (b * b2))) (jshl 1 i)) di su an, rfl, ⟨rfl, rfl⟩, rfl, by rw [ht]; exact hP⟩, by rw [← hAe]; exact hS.F ht⟩) (by rw [← hAe]; exact hS.2.2) dX8_multiplies_84
theorem g64_lt (a b : Int64) : a < b ↔ a.toInt < b.toInt := Int64.lt_iff_toInt_lt
theorem g64_le (a b : Int64) : a ≤ b ↔ a.toInt ≤ b.toInt := Int64.le_iff_toInt_le
theorem g_iv1 {a b : Int64} (h : 0 < a) (hab : a ≤ b) : ¬ b = 0 := by
  intro z
  rw [z] at hab
  rw [g64_lt] at h
  rw [g64_le] at hab
  exact absurd h (Int.not_lt.mpr hab)
theorem g_iv2 {a : Int64} (h : 0 < a) : ¬ a = 0 := by
  intro z
  rw [z] at h
  exact absurd h (by decide)
theorem g_iv3 {b : Int64} (h : ¬ 0 ≤ b) : ¬ b = 0 := by
  intro z
  rw [z] at h
  exact h (by decide)
theorem g_iv4 {a b : Int64} (h : ¬ 0 ≤ b) (hab : a ≤ b) : ¬ a = 0 := by
  intro z
  rw [z] at hab
  exact h hab
theorem g_k0 {n : Nat} (h : n + 1 < 2 ^ 31) : ¬ (nI (n + 1)).toInt64 = 0 := by
  rw [nI_l h]
  intro z
  have h2 := congrArg Int64.toInt z
  rw [lN_toInt h] at h2
  have h3 : (0 : Int64).toInt = 0 := by decide
  omega
def sp_X8_inverts_is_ (a : Int64) (b : Int64) : Bool := if 0 < a then true else if 0 ≤ b then false else true
def sp_X8_inverts_lo_ (lo_ : Int64) (a : Int64) (b : Int64) (i : Int32) : Int64 := if 0 < a then sp_X8_cut (jshl 1 (2 * i)) b else if 0 ≤ b then lo_ else sp_X8_cut (jshl 1 (2 * i)) b
def sp_X8_inverts_hi_ (hi_ : Int64) (a : Int64) (b : Int64) (i : Int32) : Int64 := if 0 < a then sp_X8_fill (jshl 1 (2 * i)) a else if 0 ≤ b then hi_ else sp_X8_fill (jshl 1 (2 * i)) a
theorem in_X8_inverts_X8 : ∀ w ∈ wsX80, w ∈ wsX8_inverts := fun _ h => List.mem_cons_of_mem _ (List.mem_append_right _ h)
set_option maxHeartbeats 4000000 in
set_option maxRecDepth 100000 in
theorem c_X8_inverts (l : Launch) (D : va_G) (y : Nat → ClassId) (sz : Nat) (h : Nat) (q : Nat → Nat) (tw : Int32) (pn : Nat) (ki on ot ab be zA zB zC zD zF zT : Nat → Int32) (fo : Nat → Bool) (lw hg : Nat → Int64) (at_ : Nat → Bool) (tl th : Nat → Int64) (wo : Nat → Bool) (wl wh : Nat → Int64) (is_ : Bool) (lo_ hi_ : Int64) (di : Nat → Int32) (su : Nat → Int64) (an : Nat → Bool) (a b : Int64) (i : Int32) (hab : a ≤ b) : Met l yX8_inverts wsX8_inverts ({ frames := 1, cells := 0, slots := 0, locals := 25 } : Room) (gP D y [.ref h, .long a, .long b, .int i] (wM y h q tw pn ki on ot ab be zA zB zC zD zF zT fo lw hg at_ tl th wo wl wh is_ lo_ hi_ di su an) sz) (gQ D (wM y h q tw pn ki on ot ab be zA zB zC zD zF zT fo lw hg at_ tl th wo wl wh is_ lo_ hi_ di su an) (gF none (wM y h q tw pn ki on ot ab be zA zB zC zD zF zT fo lw hg at_ tl th wo wl wh (sp_X8_inverts_is_ a b) (sp_X8_inverts_lo_ lo_ a b i) (sp_X8_inverts_hi_ hi_ a b i) di su an))) 0 0 (va_A (wM y h q tw pn ki on ot ab be zA zB zC zD zF zT fo lw hg at_ tl th wo wl wh is_ lo_ hi_ di su an) sz) := by
  refine Met.ofW (cc := cX8_inverts) (maxL := 6) (ret := none) (by decide) rfl ?_
  intro pg e s m args below meth c s₁ B hml hv
  obtain ⟨rfl, hsz, hP, hK, hD0⟩ := hv
  have hx := B.exec
  have hb := B.bytes
  have hr := B.returns
  have hts := atoms_spec (ws := wsX8_inverts) B.pre
  have hown : s.vm.findClass RX8 = some m.cls := findClass_of_methodNamed B.named
  have hlocks := B.notSynchronized
  subst hsz
  obtain ⟨A, hAe⟩ : ∃ A : Nat → Prop, A = va_A (wM y h q tw pn ki on ot ab be zA zB zC zD zF zT fo lw hg at_ tl th wo wl wh is_ lo_ hi_ di su an) s.heap.size := ⟨_, rfl⟩
  have hD : va_D A (wM y h q tw pn ki on ot ab be zA zB zC zD zF zT fo lw hg at_ tl th wo wl wh is_ lo_ hi_ di su an) := by rw [hAe]; exact hD0.self (sz := s.heap.size)
  have hA : ∀ q : Nat, s.heap.size ≤ q → A q := fun q h => by rw [hAe]; exact Or.inr h
  have hS : va_S A s.heap s.heap [] := va_S.rf
  have hl := lv_entry ([.ref h, .long a, .long b, .int i]) (n := 6) (Nat.le_of_ble_eq_true rfl)
  rw [lg_entry_eq]
  generalize (lg_sl ([.ref h, .long a, .long b, .int i]) ++ List.replicate (6 - (lg_sl ([.ref h, .long a, .long b, .int i])).length) Slot.unset).toArray = ls at hl ⊢
  have hl : lv_has ls 6 [(0, .ref h), (1, .long a), (3, .long b), (5, .int i)] := hl
  refine lv_aload_n hx hb dX8_inverts_0 rfl (lv_at hl 0 rfl) ?_
  refine lv_lload_n hx hb dX8_inverts_1 rfl (lv_at hl 1 rfl) ?_
  refine lv_lconst (v := 0) hx hb dX8_inverts_2 (by decide) ?_
  refine g_gt (tgt := 13) hx hb dX8_inverts_3 dX8_inverts_4 (by decide) (fun c_3 => ?_) (fun c_3 => ?_)
  · skip
    refine lv_iconst (v := 1) hx hb dX8_inverts_13 (by decide) ?_
    refine lv_goto (tgt := 18) hx hb dX8_inverts_14 (by decide) ?_
    refine va_put (D := D) (ci := 6) (v := .int (gB true)) (ty := .boolean) (C := RX8) (T := TX8) (N := 28) hx hb hts in_X8_inverts_X8 tyX8 tyX8_ok nmX8 hown hK.1 hP hD hS 0 rfl rfl 22 (by decide) (hts (.fieldLink RX8 92 "NestlimitModel" "is" "Z") (List.mem_of_getElem? (i := 1) rfl)) (fun _ h9 => h9) rfl (by decide +kernel) (gB_n _) (gB_f _) (Nat.le_of_ble_eq_true rfl) dX8_inverts_18 (fun H locs hP hD hS => ?_)
    have hP : va_P D vwCl (wM y h q tw pn ki on ot ab be zA zB zC zD zF zT fo lw hg at_ tl th wo wl wh true lo_ hi_ di su an) H := hP
    have hD : va_D A (wM y h q tw pn ki on ot ab be zA zB zC zD zF zT fo lw hg at_ tl th wo wl wh true lo_ hi_ di su an) := hD
    refine lv_aload_n hx hb dX8_inverts_21 rfl (lv_at hl 0 rfl) ?_
    refine va_get (D := D) (ci := 6) (v := .int (gB true)) (C := RX8) (T := TX8) (N := 28) hx hb hts in_X8_inverts_X8 hown hK.1 hP 0 rfl rfl 22 (by decide) (hts (.fieldLink RX8 92 "NestlimitModel" "is" "Z") (List.mem_of_getElem? (i := 1) rfl)) (fun _ h9 => h9) rfl dX8_inverts_22 ?_
    refine g_beq (tgt := 52) hx hb dX8_inverts_25 (by decide) (fun c_25 => absurd c_25 (by decide)) (fun c_25 => ?_)
    refine lv_aload_n hx hb dX8_inverts_28 rfl (lv_at hl 0 rfl) ?_
    refine lv_lconst (v := 1) hx hb dX8_inverts_29 (by decide) ?_
    refine lv_iconst (v := 2) hx hb dX8_inverts_30 (by decide) ?_
    refine lv_iload hx hb dX8_inverts_31 (lv_at hl 3 rfl) ?_
    refine lv_imul hx hb dX8_inverts_33 ?_
    refine lv_lshl (v := jshl 1 (2 * i)) hx hb dX8_inverts_34 rfl ?_
    refine lv_lload_n hx hb dX8_inverts_35 rfl (lv_at hl 2 rfl) ?_
    refine g_callR (v0 := .long (sp_X8_cut (jshl 1 (2 * i)) b)) (va_runS (As := [.long (jshl 1 (2 * i)), .long b]) (rest := [.ref h]) ⟨hx, hb, hml, hown, hts⟩ (c_X8_cut l D y H.size (jshl 1 (2 * i)) b (g_iv1 c_3 hab)) (va_cwS 2 hts gX8_inverts_X8_cut rfl rfl rfl (by decide +kernel) ⟨Nat.le_of_ble_eq_true rfl, Nat.le_of_ble_eq_true rfl⟩) (gP_S hP hD hK [] (by decide) rfl) rfl rfl hl.1 rfl (lv_room (Nat.le_of_ble_eq_true rfl)) dX8_inverts_36 ⟨Nat.zero_le _, Nat.zero_le _⟩) ?_
    refine lv_lconst (v := 1) hx hb dX8_inverts_39 (by decide) ?_
    refine lv_iconst (v := 2) hx hb dX8_inverts_40 (by decide) ?_
    refine lv_iload hx hb dX8_inverts_41 (lv_at hl 3 rfl) ?_
    refine lv_imul hx hb dX8_inverts_43 ?_
    refine lv_lshl (v := jshl 1 (2 * i)) hx hb dX8_inverts_44 rfl ?_
    refine lv_lload_n hx hb dX8_inverts_45 rfl (lv_at hl 1 rfl) ?_
    refine g_callR (v0 := .long (sp_X8_fill (jshl 1 (2 * i)) a)) (va_runS (As := [.long (jshl 1 (2 * i)), .long a]) (rest := [.long (sp_X8_cut (jshl 1 (2 * i)) b), .ref h]) ⟨hx, hb, hml, hown, hts⟩ (c_X8_fill l D y H.size (jshl 1 (2 * i)) a (g_iv2 c_3)) (va_cwS 2 hts gX8_inverts_X8_fill rfl rfl rfl (by decide +kernel) ⟨Nat.le_of_ble_eq_true rfl, Nat.le_of_ble_eq_true rfl⟩) (gP_S hP hD hK [] (by decide) rfl) rfl rfl hl.1 rfl (lv_room (Nat.le_of_ble_eq_true rfl)) dX8_inverts_46 ⟨Nat.zero_le _, Nat.zero_le _⟩) ?_
    refine g_callAv (w0 := wM y h q tw pn ki on ot ab be zA zB zC zD zF zT fo lw hg at_ tl th wo wl wh true (sp_X8_cut (jshl 1 (2 * i)) b) (sp_X8_fill (jshl 1 (2 * i)) a) di su an) (va_runV (As := [.long (sp_X8_cut (jshl 1 (2 * i)) b), .long (sp_X8_fill (jshl 1 (2 * i)) a)]) (rest := []) ⟨hx, hb, hml, hown, hts⟩ (c_X8_sets l D y H.size h q tw pn ki on ot ab be zA zB zC zD zF zT fo lw hg at_ tl th wo wl wh true lo_ hi_ di su an (sp_X8_cut (jshl 1 (2 * i)) b) (sp_X8_fill (jshl 1 (2 * i)) a)) (cwV 2 hts gX8_inverts_X8_sets rfl rfl rfl (by decide +kernel) ⟨Nat.le_of_ble_eq_true rfl, Nat.le_of_ble_eq_true rfl⟩) (gP_VA hP hD hK 0 rfl rfl) rfl rfl hl.1 rfl (lv_room (Nat.le_of_ble_eq_true rfl)) dX8_inverts_49 ⟨Nat.zero_le _, Nat.zero_le _⟩) hP hD hS hA rfl (fun H locs hP hD hS => ?_)
    exact W.vret hx hb hr (fun t ht hW => ⟨⟨none, wM y h q tw pn ki on ot ab be zA zB zC zD zF zT fo lw hg at_ tl th wo wl wh true (sp_X8_cut (jshl 1 (2 * i)) b) (sp_X8_fill (jshl 1 (2 * i)) a) di su an, rfl, ⟨rfl, by simp only [sp_X8_inverts_is_, sp_X8_inverts_lo_, sp_X8_inverts_hi_, if_pos c_3]⟩, rfl, by rw [ht]; exact hP⟩, by rw [← hAe]; exact hS.F ht⟩) (by rw [← hAe]; exact hS.2.2) dX8_inverts_52
  · skip
    refine lv_lload_n hx hb dX8_inverts_7 rfl (lv_at hl 2 rfl) ?_
    refine lv_lconst (v := 0) hx hb dX8_inverts_8 (by decide) ?_
    refine g_ge (tgt := 17) hx hb dX8_inverts_9 dX8_inverts_10 (by decide) (fun c_9 => ?_) (fun c_9 => ?_)
    · skip
      refine lv_iconst (v := 0) hx hb dX8_inverts_17 (by decide) ?_
      refine va_put (D := D) (ci := 6) (v := .int (gB false)) (ty := .boolean) (C := RX8) (T := TX8) (N := 28) hx hb hts in_X8_inverts_X8 tyX8 tyX8_ok nmX8 hown hK.1 hP hD hS 0 rfl rfl 22 (by decide) (hts (.fieldLink RX8 92 "NestlimitModel" "is" "Z") (List.mem_of_getElem? (i := 1) rfl)) (fun _ h9 => h9) rfl (by decide +kernel) (gB_n _) (gB_f _) (Nat.le_of_ble_eq_true rfl) dX8_inverts_18 (fun H locs hP hD hS => ?_)
      have hP : va_P D vwCl (wM y h q tw pn ki on ot ab be zA zB zC zD zF zT fo lw hg at_ tl th wo wl wh false lo_ hi_ di su an) H := hP
      have hD : va_D A (wM y h q tw pn ki on ot ab be zA zB zC zD zF zT fo lw hg at_ tl th wo wl wh false lo_ hi_ di su an) := hD
      refine lv_aload_n hx hb dX8_inverts_21 rfl (lv_at hl 0 rfl) ?_
      refine va_get (D := D) (ci := 6) (v := .int (gB false)) (C := RX8) (T := TX8) (N := 28) hx hb hts in_X8_inverts_X8 hown hK.1 hP 0 rfl rfl 22 (by decide) (hts (.fieldLink RX8 92 "NestlimitModel" "is" "Z") (List.mem_of_getElem? (i := 1) rfl)) (fun _ h9 => h9) rfl dX8_inverts_22 ?_
      refine g_beq (tgt := 52) hx hb dX8_inverts_25 (by decide) (fun c_25 => ?_) (fun c_25 => absurd c_25 (by decide))
      exact W.vret hx hb hr (fun t ht hW => ⟨⟨none, wM y h q tw pn ki on ot ab be zA zB zC zD zF zT fo lw hg at_ tl th wo wl wh false lo_ hi_ di su an, rfl, ⟨rfl, by simp only [sp_X8_inverts_is_, sp_X8_inverts_lo_, sp_X8_inverts_hi_, if_neg c_3, if_pos c_9]⟩, rfl, by rw [ht]; exact hP⟩, by rw [← hAe]; exact hS.F ht⟩) (by rw [← hAe]; exact hS.2.2) dX8_inverts_52
    · skip
      refine lv_iconst (v := 1) hx hb dX8_inverts_13 (by decide) ?_
      refine lv_goto (tgt := 18) hx hb dX8_inverts_14 (by decide) ?_
      refine va_put (D := D) (ci := 6) (v := .int (gB true)) (ty := .boolean) (C := RX8) (T := TX8) (N := 28) hx hb hts in_X8_inverts_X8 tyX8 tyX8_ok nmX8 hown hK.1 hP hD hS 0 rfl rfl 22 (by decide) (hts (.fieldLink RX8 92 "NestlimitModel" "is" "Z") (List.mem_of_getElem? (i := 1) rfl)) (fun _ h9 => h9) rfl (by decide +kernel) (gB_n _) (gB_f _) (Nat.le_of_ble_eq_true rfl) dX8_inverts_18 (fun H locs hP hD hS => ?_)
      have hP : va_P D vwCl (wM y h q tw pn ki on ot ab be zA zB zC zD zF zT fo lw hg at_ tl th wo wl wh true lo_ hi_ di su an) H := hP
      have hD : va_D A (wM y h q tw pn ki on ot ab be zA zB zC zD zF zT fo lw hg at_ tl th wo wl wh true lo_ hi_ di su an) := hD
      refine lv_aload_n hx hb dX8_inverts_21 rfl (lv_at hl 0 rfl) ?_
      refine va_get (D := D) (ci := 6) (v := .int (gB true)) (C := RX8) (T := TX8) (N := 28) hx hb hts in_X8_inverts_X8 hown hK.1 hP 0 rfl rfl 22 (by decide) (hts (.fieldLink RX8 92 "NestlimitModel" "is" "Z") (List.mem_of_getElem? (i := 1) rfl)) (fun _ h9 => h9) rfl dX8_inverts_22 ?_
      refine g_beq (tgt := 52) hx hb dX8_inverts_25 (by decide) (fun c_25 => absurd c_25 (by decide)) (fun c_25 => ?_)
      refine lv_aload_n hx hb dX8_inverts_28 rfl (lv_at hl 0 rfl) ?_
      refine lv_lconst (v := 1) hx hb dX8_inverts_29 (by decide) ?_
      refine lv_iconst (v := 2) hx hb dX8_inverts_30 (by decide) ?_
      refine lv_iload hx hb dX8_inverts_31 (lv_at hl 3 rfl) ?_
      refine lv_imul hx hb dX8_inverts_33 ?_
      refine lv_lshl (v := jshl 1 (2 * i)) hx hb dX8_inverts_34 rfl ?_
      refine lv_lload_n hx hb dX8_inverts_35 rfl (lv_at hl 2 rfl) ?_
      refine g_callR (v0 := .long (sp_X8_cut (jshl 1 (2 * i)) b)) (va_runS (As := [.long (jshl 1 (2 * i)), .long b]) (rest := [.ref h]) ⟨hx, hb, hml, hown, hts⟩ (c_X8_cut l D y H.size (jshl 1 (2 * i)) b (g_iv3 c_9)) (va_cwS 2 hts gX8_inverts_X8_cut rfl rfl rfl (by decide +kernel) ⟨Nat.le_of_ble_eq_true rfl, Nat.le_of_ble_eq_true rfl⟩) (gP_S hP hD hK [] (by decide) rfl) rfl rfl hl.1 rfl (lv_room (Nat.le_of_ble_eq_true rfl)) dX8_inverts_36 ⟨Nat.zero_le _, Nat.zero_le _⟩) ?_
      refine lv_lconst (v := 1) hx hb dX8_inverts_39 (by decide) ?_
      refine lv_iconst (v := 2) hx hb dX8_inverts_40 (by decide) ?_
      refine lv_iload hx hb dX8_inverts_41 (lv_at hl 3 rfl) ?_
      refine lv_imul hx hb dX8_inverts_43 ?_
      refine lv_lshl (v := jshl 1 (2 * i)) hx hb dX8_inverts_44 rfl ?_
      refine lv_lload_n hx hb dX8_inverts_45 rfl (lv_at hl 1 rfl) ?_
      refine g_callR (v0 := .long (sp_X8_fill (jshl 1 (2 * i)) a)) (va_runS (As := [.long (jshl 1 (2 * i)), .long a]) (rest := [.long (sp_X8_cut (jshl 1 (2 * i)) b), .ref h]) ⟨hx, hb, hml, hown, hts⟩ (c_X8_fill l D y H.size (jshl 1 (2 * i)) a (g_iv4 c_9 hab)) (va_cwS 2 hts gX8_inverts_X8_fill rfl rfl rfl (by decide +kernel) ⟨Nat.le_of_ble_eq_true rfl, Nat.le_of_ble_eq_true rfl⟩) (gP_S hP hD hK [] (by decide) rfl) rfl rfl hl.1 rfl (lv_room (Nat.le_of_ble_eq_true rfl)) dX8_inverts_46 ⟨Nat.zero_le _, Nat.zero_le _⟩) ?_
      refine g_callAv (w0 := wM y h q tw pn ki on ot ab be zA zB zC zD zF zT fo lw hg at_ tl th wo wl wh true (sp_X8_cut (jshl 1 (2 * i)) b) (sp_X8_fill (jshl 1 (2 * i)) a) di su an) (va_runV (As := [.long (sp_X8_cut (jshl 1 (2 * i)) b), .long (sp_X8_fill (jshl 1 (2 * i)) a)]) (rest := []) ⟨hx, hb, hml, hown, hts⟩ (c_X8_sets l D y H.size h q tw pn ki on ot ab be zA zB zC zD zF zT fo lw hg at_ tl th wo wl wh true lo_ hi_ di su an (sp_X8_cut (jshl 1 (2 * i)) b) (sp_X8_fill (jshl 1 (2 * i)) a)) (cwV 2 hts gX8_inverts_X8_sets rfl rfl rfl (by decide +kernel) ⟨Nat.le_of_ble_eq_true rfl, Nat.le_of_ble_eq_true rfl⟩) (gP_VA hP hD hK 0 rfl rfl) rfl rfl hl.1 rfl (lv_room (Nat.le_of_ble_eq_true rfl)) dX8_inverts_49 ⟨Nat.zero_le _, Nat.zero_le _⟩) hP hD hS hA rfl (fun H locs hP hD hS => ?_)
      exact W.vret hx hb hr (fun t ht hW => ⟨⟨none, wM y h q tw pn ki on ot ab be zA zB zC zD zF zT fo lw hg at_ tl th wo wl wh true (sp_X8_cut (jshl 1 (2 * i)) b) (sp_X8_fill (jshl 1 (2 * i)) a) di su an, rfl, ⟨rfl, by simp only [sp_X8_inverts_is_, sp_X8_inverts_lo_, sp_X8_inverts_hi_, if_neg c_3, if_neg c_9]⟩, rfl, by rw [ht]; exact hP⟩, by rw [← hAe]; exact hS.F ht⟩) (by rw [← hAe]; exact hS.2.2) dX8_inverts_52
def sp_X8_roots_hi_ (b : Int64) (i : Int32) : Int64 := if (jshl (sp_X8_most b 0) i) ≤ ((rtG 31 (jshl (sp_X8_most b 0) i) 0) * (rtG 31 (jshl (sp_X8_most b 0) i) 0)) then rtG 31 (jshl (sp_X8_most b 0) i) 0 else (rtG 31 (jshl (sp_X8_most b 0) i) 0) + 1
set_option maxHeartbeats 4000000 in
set_option maxRecDepth 100000 in
theorem c_X8_roots (l : Launch) (D : va_G) (y : Nat → ClassId) (sz : Nat) (h : Nat) (q : Nat → Nat) (tw : Int32) (pn : Nat) (ki on ot ab be zA zB zC zD zF zT : Nat → Int32) (fo : Nat → Bool) (lw hg : Nat → Int64) (at_ : Nat → Bool) (tl th : Nat → Int64) (wo : Nat → Bool) (wl wh : Nat → Int64) (is_ : Bool) (lo_ hi_ : Int64) (di : Nat → Int32) (su : Nat → Int64) (an : Nat → Bool) (a b : Int64) (i : Int32) : Met l yX8_roots wsX8_roots ({ frames := 1, cells := 0, slots := 0, locals := 26 } : Room) (gP D y [.ref h, .long a, .long b, .int i] (wM y h q tw pn ki on ot ab be zA zB zC zD zF zT fo lw hg at_ tl th wo wl wh is_ lo_ hi_ di su an) sz) (gQ D (wM y h q tw pn ki on ot ab be zA zB zC zD zF zT fo lw hg at_ tl th wo wl wh is_ lo_ hi_ di su an) (gF none (wM y h q tw pn ki on ot ab be zA zB zC zD zF zT fo lw hg at_ tl th wo wl wh true (rtG 31 (jshl (sp_X8_most a 0) i) 0) (sp_X8_roots_hi_ b i) di su an))) 0 0 (va_A (wM y h q tw pn ki on ot ab be zA zB zC zD zF zT fo lw hg at_ tl th wo wl wh is_ lo_ hi_ di su an) sz) := by
  refine Met.ofW (cc := cX8_roots) (maxL := 10) (ret := none) (by decide) rfl ?_
  intro pg e s m args below meth c s₁ B hml hv
  obtain ⟨rfl, hsz, hP, hK, hD0⟩ := hv
  have hx := B.exec
  have hb := B.bytes
  have hr := B.returns
  have hts := atoms_spec (ws := wsX8_roots) B.pre
  have hown : s.vm.findClass RX8 = some m.cls := findClass_of_methodNamed B.named
  have hlocks := B.notSynchronized
  subst hsz
  obtain ⟨A, hAe⟩ : ∃ A : Nat → Prop, A = va_A (wM y h q tw pn ki on ot ab be zA zB zC zD zF zT fo lw hg at_ tl th wo wl wh is_ lo_ hi_ di su an) s.heap.size := ⟨_, rfl⟩
  have hD : va_D A (wM y h q tw pn ki on ot ab be zA zB zC zD zF zT fo lw hg at_ tl th wo wl wh is_ lo_ hi_ di su an) := by rw [hAe]; exact hD0.self (sz := s.heap.size)
  have hA : ∀ q : Nat, s.heap.size ≤ q → A q := fun q h => by rw [hAe]; exact Or.inr h
  have hS : va_S A s.heap s.heap [] := va_S.rf
  have hl := lv_entry ([.ref h, .long a, .long b, .int i]) (n := 10) (Nat.le_of_ble_eq_true rfl)
  rw [lg_entry_eq]
  generalize (lg_sl ([.ref h, .long a, .long b, .int i]) ++ List.replicate (10 - (lg_sl ([.ref h, .long a, .long b, .int i])).length) Slot.unset).toArray = ls at hl ⊢
  have hl : lv_has ls 10 [(0, .ref h), (1, .long a), (3, .long b), (5, .int i)] := hl
  refine lv_lload_n hx hb dX8_roots_0 rfl (lv_at hl 2 rfl) ?_
  refine lv_lconst (v := 0) hx hb dX8_roots_1 (by decide) ?_
  refine g_callR (v0 := .long (sp_X8_most b 0)) (va_runS (As := [.long b, .long 0]) (rest := []) ⟨hx, hb, hml, hown, hts⟩ (c_X8_most l D y s.heap.size b 0) (va_cwS 2 hts gX8_roots_X8_most rfl rfl rfl (by decide +kernel) ⟨Nat.le_of_ble_eq_true rfl, Nat.le_of_ble_eq_true rfl⟩) (gP_S hP hD hK [] (by decide) rfl) rfl rfl hl.1 rfl (lv_room (Nat.le_of_ble_eq_true rfl)) dX8_roots_2 ⟨Nat.zero_le _, Nat.zero_le _⟩) ?_
  refine lv_iload hx hb dX8_roots_5 (lv_at hl 3 rfl) ?_
  refine lv_lshl (v := jshl (sp_X8_most b 0) i) hx hb dX8_roots_7 rfl ?_
  refine lv_lstore (lv' := [(6, .long (jshl (sp_X8_most b 0) i)), (0, .ref h), (1, .long a), (3, .long b), (5, .int i)]) hx hb dX8_roots_8 hl (by decide) rfl (fun ls hl => ?_)
  refine lv_lload hx hb dX8_roots_10 (lv_at hl 0 rfl) ?_
  refine g_callR (v0 := .long (rtG 31 (jshl (sp_X8_most b 0) i) 0)) (va_runS (As := [.long (jshl (sp_X8_most b 0) i)]) (rest := []) ⟨hx, hb, hml, hown, hts⟩ (c_X8_rootOf l D y s.heap.size (jshl (sp_X8_most b 0) i)) (va_cwS 1 hts gX8_roots_X8_rootOf rfl rfl rfl (by decide +kernel) ⟨Nat.le_of_ble_eq_true rfl, Nat.le_of_ble_eq_true rfl⟩) (gP_S hP hD hK [] (by decide) rfl) rfl rfl hl.1 rfl (lv_room (Nat.le_of_ble_eq_true rfl)) dX8_roots_12 ⟨Nat.zero_le _, Nat.zero_le _⟩) ?_
  refine lv_lstore (lv' := [(8, .long (rtG 31 (jshl (sp_X8_most b 0) i) 0)), (6, .long (jshl (sp_X8_most b 0) i)), (0, .ref h), (1, .long a), (3, .long b), (5, .int i)]) hx hb dX8_roots_15 hl (by decide) rfl (fun ls hl => ?_)
  refine lv_aload_n hx hb dX8_roots_17 rfl (lv_at hl 2 rfl) ?_
  refine lv_lload_n hx hb dX8_roots_18 rfl (lv_at hl 3 rfl) ?_
  refine lv_lconst (v := 0) hx hb dX8_roots_19 (by decide) ?_
  refine g_callR (v0 := .long (sp_X8_most a 0)) (va_runS (As := [.long a, .long 0]) (rest := [.ref h]) ⟨hx, hb, hml, hown, hts⟩ (c_X8_most l D y s.heap.size a 0) (va_cwS 2 hts gX8_roots_X8_most rfl rfl rfl (by decide +kernel) ⟨Nat.le_of_ble_eq_true rfl, Nat.le_of_ble_eq_true rfl⟩) (gP_S hP hD hK [] (by decide) rfl) rfl rfl hl.1 rfl (lv_room (Nat.le_of_ble_eq_true rfl)) dX8_roots_20 ⟨Nat.zero_le _, Nat.zero_le _⟩) ?_
  refine lv_iload hx hb dX8_roots_23 (lv_at hl 5 rfl) ?_
  refine lv_lshl (v := jshl (sp_X8_most a 0) i) hx hb dX8_roots_25 rfl ?_
  refine g_callR (v0 := .long (rtG 31 (jshl (sp_X8_most a 0) i) 0)) (va_runS (As := [.long (jshl (sp_X8_most a 0) i)]) (rest := [.ref h]) ⟨hx, hb, hml, hown, hts⟩ (c_X8_rootOf l D y s.heap.size (jshl (sp_X8_most a 0) i)) (va_cwS 1 hts gX8_roots_X8_rootOf rfl rfl rfl (by decide +kernel) ⟨Nat.le_of_ble_eq_true rfl, Nat.le_of_ble_eq_true rfl⟩) (gP_S hP hD hK [] (by decide) rfl) rfl rfl hl.1 rfl (lv_room (Nat.le_of_ble_eq_true rfl)) dX8_roots_26 ⟨Nat.zero_le _, Nat.zero_le _⟩) ?_
  refine lv_lload hx hb dX8_roots_29 (lv_at hl 0 rfl) ?_
  refine lv_lload hx hb dX8_roots_31 (lv_at hl 0 rfl) ?_
  refine lv_lmul hx hb dX8_roots_33 ?_
  refine lv_lload hx hb dX8_roots_34 (lv_at hl 1 rfl) ?_
  refine g_ge (tgt := 47) hx hb dX8_roots_36 dX8_roots_37 (by decide) (fun c_36 => ?_) (fun c_36 => ?_)
  · skip
    refine lv_lload hx hb dX8_roots_47 (lv_at hl 0 rfl) ?_
    refine g_callAv (w0 := wM y h q tw pn ki on ot ab be zA zB zC zD zF zT fo lw hg at_ tl th wo wl wh true (rtG 31 (jshl (sp_X8_most a 0) i) 0) (rtG 31 (jshl (sp_X8_most b 0) i) 0) di su an) (va_runV (As := [.long (rtG 31 (jshl (sp_X8_most a 0) i) 0), .long (rtG 31 (jshl (sp_X8_most b 0) i) 0)]) (rest := []) ⟨hx, hb, hml, hown, hts⟩ (c_X8_sets l D y s.heap.size h q tw pn ki on ot ab be zA zB zC zD zF zT fo lw hg at_ tl th wo wl wh is_ lo_ hi_ di su an (rtG 31 (jshl (sp_X8_most a 0) i) 0) (rtG 31 (jshl (sp_X8_most b 0) i) 0)) (cwV 2 hts gX8_roots_X8_sets rfl rfl rfl (by decide +kernel) ⟨Nat.le_of_ble_eq_true rfl, Nat.le_of_ble_eq_true rfl⟩) (gP_VA hP hD hK 0 rfl rfl) rfl rfl hl.1 rfl (lv_room (Nat.le_of_ble_eq_true rfl)) dX8_roots_49 ⟨Nat.zero_le _, Nat.zero_le _⟩) hP hD hS hA rfl (fun H locs hP hD hS => ?_)
    exact W.vret hx hb hr (fun t ht hW => ⟨⟨none, wM y h q tw pn ki on ot ab be zA zB zC zD zF zT fo lw hg at_ tl th wo wl wh true (rtG 31 (jshl (sp_X8_most a 0) i) 0) (rtG 31 (jshl (sp_X8_most b 0) i) 0) di su an, rfl, ⟨rfl, by simp only [sp_X8_roots_hi_, if_pos c_36]⟩, rfl, by rw [ht]; exact hP⟩, by rw [← hAe]; exact hS.F ht⟩) (by rw [← hAe]; exact hS.2.2) dX8_roots_52
  · skip
    refine lv_lload hx hb dX8_roots_40 (lv_at hl 0 rfl) ?_
    refine lv_lconst (v := 1) hx hb dX8_roots_42 (by decide) ?_
    refine lv_ladd hx hb dX8_roots_43 ?_
    refine lv_goto (tgt := 49) hx hb dX8_roots_44 (by decide) ?_
    refine g_callAv (w0 := wM y h q tw pn ki on ot ab be zA zB zC zD zF zT fo lw hg at_ tl th wo wl wh true (rtG 31 (jshl (sp_X8_most a 0) i) 0) ((rtG 31 (jshl (sp_X8_most b 0) i) 0) + 1) di su an) (va_runV (As := [.long (rtG 31 (jshl (sp_X8_most a 0) i) 0), .long ((rtG 31 (jshl (sp_X8_most b 0) i) 0) + 1)]) (rest := []) ⟨hx, hb, hml, hown, hts⟩ (c_X8_sets l D y s.heap.size h q tw pn ki on ot ab be zA zB zC zD zF zT fo lw hg at_ tl th wo wl wh is_ lo_ hi_ di su an (rtG 31 (jshl (sp_X8_most a 0) i) 0) ((rtG 31 (jshl (sp_X8_most b 0) i) 0) + 1)) (cwV 2 hts gX8_roots_X8_sets rfl rfl rfl (by decide +kernel) ⟨Nat.le_of_ble_eq_true rfl, Nat.le_of_ble_eq_true rfl⟩) (gP_VA hP hD hK 0 rfl rfl) rfl rfl hl.1 rfl (lv_room (Nat.le_of_ble_eq_true rfl)) dX8_roots_49 ⟨Nat.zero_le _, Nat.zero_le _⟩) hP hD hS hA rfl (fun H locs hP hD hS => ?_)
    exact W.vret hx hb hr (fun t ht hW => ⟨⟨none, wM y h q tw pn ki on ot ab be zA zB zC zD zF zT fo lw hg at_ tl th wo wl wh true (rtG 31 (jshl (sp_X8_most a 0) i) 0) ((rtG 31 (jshl (sp_X8_most b 0) i) 0) + 1) di su an, rfl, ⟨rfl, by simp only [sp_X8_roots_hi_, if_neg c_36]⟩, rfl, by rw [ht]; exact hP⟩, by rw [← hAe]; exact hS.F ht⟩) (by rw [← hAe]; exact hS.2.2) dX8_roots_52
def exT (a b : Int64) (i : Int32) (k : Nat) (u : Int64 × Int64) : Int64 × Int64 := (sp_X8_cut (sp_X8_multiplies_lo_ a b u.1 u.2 i) (nI k).toInt64 + jshl 1 i, sp_X8_fill (sp_X8_multiplies_hi_ a b u.1 u.2 i) (nI k).toInt64 + jshl 1 i)
def exM (a b : Int64) (i : Int32) : Nat → Int64 × Int64 → Int64 × Int64
  | 0, u => u
  | n + 1, u => exM a b i n (exT a b i (n + 1) u)
def sp_X8_raises_is_ (a b : Int64) (i : Int32) : Bool := if a < -(jshl 1 i) then false else if jshl 1 i < b then false else true
def sp_X8_raises_lo_ (lo_ : Int64) (a b : Int64) (i : Int32) : Int64 := if a < -(jshl 1 i) then lo_ else if jshl 1 i < b then lo_ else (exM a b i 12 (jshl 1 i, jshl 1 i)).1 - 1
def sp_X8_raises_hi_ (hi_ : Int64) (a b : Int64) (i : Int32) : Int64 := if a < -(jshl 1 i) then hi_ else if jshl 1 i < b then hi_ else (exM a b i 12 (jshl 1 i, jshl 1 i)).2 + 1
theorem in_X8_raises_X8 : ∀ w ∈ wsX80, w ∈ wsX8_raises := fun _ h => List.mem_cons_of_mem _ (List.mem_append_right _ h)
set_option maxHeartbeats 4000000 in
set_option maxRecDepth 100000 in
theorem c_X8_raises (l : Launch) (D : va_G) (y : Nat → ClassId) (sz : Nat) (h : Nat) (q : Nat → Nat) (tw : Int32) (pn : Nat) (ki on ot ab be zA zB zC zD zF zT : Nat → Int32) (fo : Nat → Bool) (lw hg : Nat → Int64) (at_ : Nat → Bool) (tl th : Nat → Int64) (wo : Nat → Bool) (wl wh : Nat → Int64) (is_ : Bool) (lo_ hi_ : Int64) (di : Nat → Int32) (su : Nat → Int64) (an : Nat → Bool) (a b : Int64) (i : Int32) (hU : ¬ jshl 1 i = 0) : Met l yX8_raises wsX8_raises ({ frames := 2, cells := 0, slots := 0, locals := 62 } : Room) (gP D y [.ref h, .long a, .long b, .int i] (wM y h q tw pn ki on ot ab be zA zB zC zD zF zT fo lw hg at_ tl th wo wl wh is_ lo_ hi_ di su an) sz) (gQ D (wM y h q tw pn ki on ot ab be zA zB zC zD zF zT fo lw hg at_ tl th wo wl wh is_ lo_ hi_ di su an) (gF none (wM y h q tw pn ki on ot ab be zA zB zC zD zF zT fo lw hg at_ tl th wo wl wh (sp_X8_raises_is_ a b i) (sp_X8_raises_lo_ lo_ a b i) (sp_X8_raises_hi_ hi_ a b i) di su an))) 0 0 (va_A (wM y h q tw pn ki on ot ab be zA zB zC zD zF zT fo lw hg at_ tl th wo wl wh is_ lo_ hi_ di su an) sz) := by
  refine Met.ofW (cc := cX8_raises) (maxL := 9) (ret := none) (by decide) rfl ?_
  intro pg e s m args below meth c s₁ B hml hv
  obtain ⟨rfl, hsz, hP, hK, hD0⟩ := hv
  have hx := B.exec
  have hb := B.bytes
  have hr := B.returns
  have hts := atoms_spec (ws := wsX8_raises) B.pre
  have hown : s.vm.findClass RX8 = some m.cls := findClass_of_methodNamed B.named
  have hlocks := B.notSynchronized
  subst hsz
  obtain ⟨A, hAe⟩ : ∃ A : Nat → Prop, A = va_A (wM y h q tw pn ki on ot ab be zA zB zC zD zF zT fo lw hg at_ tl th wo wl wh is_ lo_ hi_ di su an) s.heap.size := ⟨_, rfl⟩
  have hD : va_D A (wM y h q tw pn ki on ot ab be zA zB zC zD zF zT fo lw hg at_ tl th wo wl wh is_ lo_ hi_ di su an) := by rw [hAe]; exact hD0.self (sz := s.heap.size)
  have hA : ∀ q : Nat, s.heap.size ≤ q → A q := fun q h => by rw [hAe]; exact Or.inr h
  have hS : va_S A s.heap s.heap [] := va_S.rf
  have hl := lv_entry ([.ref h, .long a, .long b, .int i]) (n := 9) (Nat.le_of_ble_eq_true rfl)
  rw [lg_entry_eq]
  generalize (lg_sl ([.ref h, .long a, .long b, .int i]) ++ List.replicate (9 - (lg_sl ([.ref h, .long a, .long b, .int i])).length) Slot.unset).toArray = ls at hl ⊢
  have hl : lv_has ls 9 [(0, .ref h), (1, .long a), (3, .long b), (5, .int i)] := hl
  refine lv_lconst (v := 1) hx hb dX8_raises_0 (by decide) ?_
  refine lv_iload hx hb dX8_raises_1 (lv_at hl 3 rfl) ?_
  refine lv_lshl (v := jshl 1 i) hx hb dX8_raises_3 rfl ?_
  refine lv_lstore (lv' := [(6, .long (jshl 1 i)), (0, .ref h), (1, .long a), (3, .long b), (5, .int i)]) hx hb dX8_raises_4 hl (by decide) rfl (fun ls hl => ?_)
  refine lv_aload_n hx hb dX8_raises_6 rfl (lv_at hl 1 rfl) ?_
  refine lv_lload_n hx hb dX8_raises_7 rfl (lv_at hl 2 rfl) ?_
  refine lv_lload hx hb dX8_raises_8 (lv_at hl 0 rfl) ?_
  refine lv_lneg hx hb dX8_raises_10 ?_
  refine g_lt (tgt := 26) hx hb dX8_raises_11 dX8_raises_12 (by decide) (fun c_11 => ?_) (fun c_11 => ?_)
  · skip
    refine lv_iconst (v := 0) hx hb dX8_raises_26 (by decide) ?_
    refine va_put (D := D) (ci := 6) (v := .int (gB false)) (ty := .boolean) (C := RX8) (T := TX8) (N := 28) hx hb hts in_X8_raises_X8 tyX8 tyX8_ok nmX8 hown hK.1 hP hD hS 0 rfl rfl 22 (by decide) (hts (.fieldLink RX8 92 "NestlimitModel" "is" "Z") (List.mem_of_getElem? (i := 1) rfl)) (fun _ h9 => h9) rfl (by decide +kernel) (gB_n _) (gB_f _) (Nat.le_of_ble_eq_true rfl) dX8_raises_27 (fun H locs hP hD hS => ?_)
    have hP : va_P D vwCl (wM y h q tw pn ki on ot ab be zA zB zC zD zF zT fo lw hg at_ tl th wo wl wh false lo_ hi_ di su an) H := hP
    have hD : va_D A (wM y h q tw pn ki on ot ab be zA zB zC zD zF zT fo lw hg at_ tl th wo wl wh false lo_ hi_ di su an) := hD
    refine lv_aload_n hx hb dX8_raises_30 rfl (lv_at hl 1 rfl) ?_
    refine va_get (D := D) (ci := 6) (v := .int (gB false)) (C := RX8) (T := TX8) (N := 28) hx hb hts in_X8_raises_X8 hown hK.1 hP 0 rfl rfl 22 (by decide) (hts (.fieldLink RX8 92 "NestlimitModel" "is" "Z") (List.mem_of_getElem? (i := 1) rfl)) (fun _ h9 => h9) rfl dX8_raises_31 ?_
    refine g_bne (tgt := 38) hx hb dX8_raises_34 (by decide) (fun c_34 => absurd c_34 (by decide)) (fun c_34 => ?_)
    exact W.vret hx hb hr (fun t ht hW => ⟨⟨none, wM y h q tw pn ki on ot ab be zA zB zC zD zF zT fo lw hg at_ tl th wo wl wh false lo_ hi_ di su an, rfl, ⟨rfl, by simp only [sp_X8_raises_is_, sp_X8_raises_lo_, sp_X8_raises_hi_, if_pos c_11]⟩, rfl, by rw [ht]; exact hP⟩, by rw [← hAe]; exact hS.F ht⟩) (by rw [← hAe]; exact hS.2.2) dX8_raises_37
  · skip
    refine lv_lload_n hx hb dX8_raises_15 rfl (lv_at hl 3 rfl) ?_
    refine lv_lload hx hb dX8_raises_16 (lv_at hl 0 rfl) ?_
    refine g_gt (tgt := 26) hx hb dX8_raises_18 dX8_raises_19 (by decide) (fun c_18 => ?_) (fun c_18 => ?_)
    · skip
      refine lv_iconst (v := 0) hx hb dX8_raises_26 (by decide) ?_
      refine va_put (D := D) (ci := 6) (v := .int (gB false)) (ty := .boolean) (C := RX8) (T := TX8) (N := 28) hx hb hts in_X8_raises_X8 tyX8 tyX8_ok nmX8 hown hK.1 hP hD hS 0 rfl rfl 22 (by decide) (hts (.fieldLink RX8 92 "NestlimitModel" "is" "Z") (List.mem_of_getElem? (i := 1) rfl)) (fun _ h9 => h9) rfl (by decide +kernel) (gB_n _) (gB_f _) (Nat.le_of_ble_eq_true rfl) dX8_raises_27 (fun H locs hP hD hS => ?_)
      have hP : va_P D vwCl (wM y h q tw pn ki on ot ab be zA zB zC zD zF zT fo lw hg at_ tl th wo wl wh false lo_ hi_ di su an) H := hP
      have hD : va_D A (wM y h q tw pn ki on ot ab be zA zB zC zD zF zT fo lw hg at_ tl th wo wl wh false lo_ hi_ di su an) := hD
      refine lv_aload_n hx hb dX8_raises_30 rfl (lv_at hl 1 rfl) ?_
      refine va_get (D := D) (ci := 6) (v := .int (gB false)) (C := RX8) (T := TX8) (N := 28) hx hb hts in_X8_raises_X8 hown hK.1 hP 0 rfl rfl 22 (by decide) (hts (.fieldLink RX8 92 "NestlimitModel" "is" "Z") (List.mem_of_getElem? (i := 1) rfl)) (fun _ h9 => h9) rfl dX8_raises_31 ?_
      refine g_bne (tgt := 38) hx hb dX8_raises_34 (by decide) (fun c_34 => absurd c_34 (by decide)) (fun c_34 => ?_)
      exact W.vret hx hb hr (fun t ht hW => ⟨⟨none, wM y h q tw pn ki on ot ab be zA zB zC zD zF zT fo lw hg at_ tl th wo wl wh false lo_ hi_ di su an, rfl, ⟨rfl, by simp only [sp_X8_raises_is_, sp_X8_raises_lo_, sp_X8_raises_hi_, if_neg c_11, if_pos c_18]⟩, rfl, by rw [ht]; exact hP⟩, by rw [← hAe]; exact hS.F ht⟩) (by rw [← hAe]; exact hS.2.2) dX8_raises_37
    · skip
      refine lv_iconst (v := 1) hx hb dX8_raises_22 (by decide) ?_
      refine lv_goto (tgt := 27) hx hb dX8_raises_23 (by decide) ?_
      refine va_put (D := D) (ci := 6) (v := .int (gB true)) (ty := .boolean) (C := RX8) (T := TX8) (N := 28) hx hb hts in_X8_raises_X8 tyX8 tyX8_ok nmX8 hown hK.1 hP hD hS 0 rfl rfl 22 (by decide) (hts (.fieldLink RX8 92 "NestlimitModel" "is" "Z") (List.mem_of_getElem? (i := 1) rfl)) (fun _ h9 => h9) rfl (by decide +kernel) (gB_n _) (gB_f _) (Nat.le_of_ble_eq_true rfl) dX8_raises_27 (fun H locs hP hD hS => ?_)
      have hP : va_P D vwCl (wM y h q tw pn ki on ot ab be zA zB zC zD zF zT fo lw hg at_ tl th wo wl wh true lo_ hi_ di su an) H := hP
      have hD : va_D A (wM y h q tw pn ki on ot ab be zA zB zC zD zF zT fo lw hg at_ tl th wo wl wh true lo_ hi_ di su an) := hD
      refine lv_aload_n hx hb dX8_raises_30 rfl (lv_at hl 1 rfl) ?_
      refine va_get (D := D) (ci := 6) (v := .int (gB true)) (C := RX8) (T := TX8) (N := 28) hx hb hts in_X8_raises_X8 hown hK.1 hP 0 rfl rfl 22 (by decide) (hts (.fieldLink RX8 92 "NestlimitModel" "is" "Z") (List.mem_of_getElem? (i := 1) rfl)) (fun _ h9 => h9) rfl dX8_raises_31 ?_
      refine g_bne (tgt := 38) hx hb dX8_raises_34 (by decide) (fun c_34 => ?_) (fun c_34 => absurd c_34 (by decide))
      refine lv_aload_n hx hb dX8_raises_38 rfl (lv_at hl 1 rfl) ?_
      refine lv_lload hx hb dX8_raises_39 (lv_at hl 0 rfl) ?_
      refine lv_lload hx hb dX8_raises_41 (lv_at hl 0 rfl) ?_
      refine g_callAv (w0 := wM y h q tw pn ki on ot ab be zA zB zC zD zF zT fo lw hg at_ tl th wo wl wh true (jshl 1 i) (jshl 1 i) di su an) (va_runV (As := [.long (jshl 1 i), .long (jshl 1 i)]) (rest := []) ⟨hx, hb, hml, hown, hts⟩ (c_X8_sets l D y H.size h q tw pn ki on ot ab be zA zB zC zD zF zT fo lw hg at_ tl th wo wl wh true lo_ hi_ di su an (jshl 1 i) (jshl 1 i)) (cwV 2 hts gX8_raises_X8_sets rfl rfl rfl (by decide +kernel) ⟨Nat.le_of_ble_eq_true rfl, Nat.le_of_ble_eq_true rfl⟩) (gP_VA hP hD hK 0 rfl rfl) rfl rfl hl.1 rfl (lv_room (Nat.le_of_ble_eq_true rfl)) dX8_raises_43 ⟨Nat.zero_le _, Nat.zero_le _⟩) hP hD hS hA rfl (fun H locs hP hD hS => ?_)
      refine lv_bipush (v := 12) hx hb dX8_raises_46 (by decide) ?_
      refine lv_istore (lv' := [(8, .int 12), (6, .long (jshl 1 i)), (0, .ref h), (1, .long a), (3, .long b), (5, .int i)]) hx hb dX8_raises_48 hl (by decide) rfl (fun ls hl => ?_)
      have LOOP50 : ∀ (n : Nat) (el : Int64) (eh : Int64), (n ≤ 12) → (exM a b i n (el, eh) = exM a b i 12 (jshl 1 i, jshl 1 i)) → ∀ (H : Heap) (locs : List Loc), va_P D vwCl (wM y h q tw pn ki on ot ab be zA zB zC zD zF zT fo lw hg at_ tl th wo wl wh true el eh di su an) H → va_D A (wM y h q tw pn ki on ot ab be zA zB zC zD zF zT fo lw hg at_ tl th wo wl wh true el eh di su an) → va_S A s.heap H locs → ∀ (ls : Array Slot), lv_has ls 9 [(0, .ref h), (1, .long a), (3, .long b), (5, .int i), (6, .long (jshl 1 i)), (8, .int (nI n))] → W pg l e (headSpec wsX8_raises ({ frames := 2, cells := 0, slots := 0, locals := 62 } : Room)).room s m (([.ref h, .long a, .long b, .int i] : List Value).toArray) below meth c H locs 0 0 (MQ below (gQ D (wM y h q tw pn ki on ot ab be zA zB zC zD zF zT fo lw hg at_ tl th wo wl wh is_ lo_ hi_ di su an) (gF none (wM y h q tw pn ki on ot ab be zA zB zC zD zF zT fo lw hg at_ tl th wo wl wh (sp_X8_raises_is_ a b i) (sp_X8_raises_lo_ lo_ a b i) (sp_X8_raises_hi_ hi_ a b i) di su an))) (([.ref h, .long a, .long b, .int i] : List Value).toArray) s 0 0 (va_A (wM y h q tw pn ki on ot ab be zA zB zC zD zF zT fo lw hg at_ tl th wo wl wh is_ lo_ hi_ di su an) s.heap.size)) (F0 m 50 ls []) := by
        intro n
        induction n with
        | zero =>
          intro el eh hn hF H locs hP hD hS ls hl
          refine lv_iload hx hb dX8_raises_50 (lv_at hl 5 rfl) ?_
          refine lv_if_le (tgt := 107) hx hb dX8_raises_52 (by decide) (fun c_52 => ?_) (fun c_52 => absurd (by decide) c_52)
          refine lv_aload_n hx hb dX8_raises_107 rfl (lv_at hl 0 rfl) ?_
          refine lv_aload_n hx hb dX8_raises_108 rfl (lv_at hl 0 rfl) ?_
          refine va_get (D := D) (ci := 6) (v := .long el) (C := RX8) (T := TX8) (N := 28) hx hb hts in_X8_raises_X8 hown hK.1 hP 0 rfl rfl 23 (by decide) (hts (.fieldLink RX8 96 "NestlimitModel" "low" "J") (List.mem_of_getElem? (i := 2) rfl)) (fun _ h9 => h9) rfl dX8_raises_109 ?_
          refine lv_lconst (v := 1) hx hb dX8_raises_112 (by decide) ?_
          refine lv_lsub hx hb dX8_raises_113 ?_
          refine lv_aload_n hx hb dX8_raises_114 rfl (lv_at hl 0 rfl) ?_
          refine va_get (D := D) (ci := 6) (v := .long eh) (C := RX8) (T := TX8) (N := 28) hx hb hts in_X8_raises_X8 hown hK.1 hP 0 rfl rfl 24 (by decide) (hts (.fieldLink RX8 100 "NestlimitModel" "high" "J") (List.mem_of_getElem? (i := 3) rfl)) (fun _ h9 => h9) rfl dX8_raises_115 ?_
          refine lv_lconst (v := 1) hx hb dX8_raises_118 (by decide) ?_
          refine lv_ladd hx hb dX8_raises_119 ?_
          refine g_callAv (w0 := wM y h q tw pn ki on ot ab be zA zB zC zD zF zT fo lw hg at_ tl th wo wl wh true (el - 1) (eh + 1) di su an) (va_runV (As := [.long (el - 1), .long (eh + 1)]) (rest := []) ⟨hx, hb, hml, hown, hts⟩ (c_X8_sets l D y H.size h q tw pn ki on ot ab be zA zB zC zD zF zT fo lw hg at_ tl th wo wl wh true el eh di su an (el - 1) (eh + 1)) (cwV 2 hts gX8_raises_X8_sets rfl rfl rfl (by decide +kernel) ⟨Nat.le_of_ble_eq_true rfl, Nat.le_of_ble_eq_true rfl⟩) (gP_VA hP hD hK 0 rfl rfl) rfl rfl hl.1 rfl (lv_room (Nat.le_of_ble_eq_true rfl)) dX8_raises_120 ⟨Nat.zero_le _, Nat.zero_le _⟩) hP hD hS hA rfl (fun H locs hP hD hS => ?_)
          exact W.vret hx hb hr (fun t ht hW => ⟨⟨none, wM y h q tw pn ki on ot ab be zA zB zC zD zF zT fo lw hg at_ tl th wo wl wh true (el - 1) (eh + 1) di su an, rfl, ⟨rfl, by simp only [sp_X8_raises_is_, sp_X8_raises_lo_, sp_X8_raises_hi_, if_neg c_11, if_neg c_18, ← hF]; rfl⟩, rfl, by rw [ht]; exact hP⟩, by rw [← hAe]; exact hS.F ht⟩) (by rw [← hAe]; exact hS.2.2) dX8_raises_123
        | succ n ih50 =>
          intro el eh hn hF H locs hP hD hS ls hl
          refine lv_iload hx hb dX8_raises_50 (lv_at hl 5 rfl) ?_
          refine lv_if_le (tgt := 107) hx hb dX8_raises_52 (by decide) (fun c_52 => absurd c_52 (nI_nle (n := n + 1) (by omega) (by omega))) (fun c_52 => ?_)
          refine lv_aload_n hx hb dX8_raises_55 rfl (lv_at hl 0 rfl) ?_
          refine lv_lload_n hx hb dX8_raises_56 rfl (lv_at hl 1 rfl) ?_
          refine lv_lload_n hx hb dX8_raises_57 rfl (lv_at hl 2 rfl) ?_
          refine lv_aload_n hx hb dX8_raises_58 rfl (lv_at hl 0 rfl) ?_
          refine va_get (D := D) (ci := 6) (v := .long el) (C := RX8) (T := TX8) (N := 28) hx hb hts in_X8_raises_X8 hown hK.1 hP 0 rfl rfl 23 (by decide) (hts (.fieldLink RX8 96 "NestlimitModel" "low" "J") (List.mem_of_getElem? (i := 2) rfl)) (fun _ h9 => h9) rfl dX8_raises_59 ?_
          refine lv_aload_n hx hb dX8_raises_62 rfl (lv_at hl 0 rfl) ?_
          refine va_get (D := D) (ci := 6) (v := .long eh) (C := RX8) (T := TX8) (N := 28) hx hb hts in_X8_raises_X8 hown hK.1 hP 0 rfl rfl 24 (by decide) (hts (.fieldLink RX8 100 "NestlimitModel" "high" "J") (List.mem_of_getElem? (i := 3) rfl)) (fun _ h9 => h9) rfl dX8_raises_63 ?_
          refine lv_iload hx hb dX8_raises_66 (lv_at hl 3 rfl) ?_
          refine g_callAv (w0 := wM y h q tw pn ki on ot ab be zA zB zC zD zF zT fo lw hg at_ tl th wo wl wh true (sp_X8_multiplies_lo_ a b el eh i) (sp_X8_multiplies_hi_ a b el eh i) di su an) (va_runV (As := [.long a, .long b, .long el, .long eh, .int i]) (rest := []) ⟨hx, hb, hml, hown, hts⟩ (c_X8_multiplies l D y H.size h q tw pn ki on ot ab be zA zB zC zD zF zT fo lw hg at_ tl th wo wl wh true el eh di su an a b el eh i hU) (cwV 5 hts gX8_raises_X8_multiplies rfl rfl rfl (by decide +kernel) ⟨Nat.le_of_ble_eq_true rfl, Nat.le_of_ble_eq_true rfl⟩) (gP_VA hP hD hK 0 rfl rfl) rfl rfl hl.1 rfl (lv_room (Nat.le_of_ble_eq_true rfl)) dX8_raises_68 ⟨Nat.zero_le _, Nat.zero_le _⟩) hP hD hS hA rfl (fun H locs hP hD hS => ?_)
          refine lv_aload_n hx hb dX8_raises_71 rfl (lv_at hl 0 rfl) ?_
          refine lv_aload_n hx hb dX8_raises_72 rfl (lv_at hl 0 rfl) ?_
          refine va_get (D := D) (ci := 6) (v := .long (sp_X8_multiplies_lo_ a b el eh i)) (C := RX8) (T := TX8) (N := 28) hx hb hts in_X8_raises_X8 hown hK.1 hP 0 rfl rfl 23 (by decide) (hts (.fieldLink RX8 96 "NestlimitModel" "low" "J") (List.mem_of_getElem? (i := 2) rfl)) (fun _ h9 => h9) rfl dX8_raises_73 ?_
          refine lv_iload hx hb dX8_raises_76 (lv_at hl 5 rfl) ?_
          refine lv_i2l (v := (nI (n + 1)).toInt64) hx hb dX8_raises_78 rfl ?_
          refine g_callR (v0 := .long (sp_X8_cut (sp_X8_multiplies_lo_ a b el eh i) ((nI (n + 1)).toInt64))) (va_runS (As := [.long (sp_X8_multiplies_lo_ a b el eh i), .long ((nI (n + 1)).toInt64)]) (rest := [.ref h]) ⟨hx, hb, hml, hown, hts⟩ (c_X8_cut l D y H.size (sp_X8_multiplies_lo_ a b el eh i) ((nI (n + 1)).toInt64) (g_k0 (by omega))) (va_cwS 2 hts gX8_raises_X8_cut rfl rfl rfl (by decide +kernel) ⟨Nat.le_of_ble_eq_true rfl, Nat.le_of_ble_eq_true rfl⟩) (gP_S hP hD hK [] (by decide) rfl) rfl rfl hl.1 rfl (lv_room (Nat.le_of_ble_eq_true rfl)) dX8_raises_79 ⟨Nat.zero_le _, Nat.zero_le _⟩) ?_
          refine lv_lload hx hb dX8_raises_82 (lv_at hl 4 rfl) ?_
          refine lv_ladd hx hb dX8_raises_84 ?_
          refine lv_aload_n hx hb dX8_raises_85 rfl (lv_at hl 0 rfl) ?_
          refine va_get (D := D) (ci := 6) (v := .long (sp_X8_multiplies_hi_ a b el eh i)) (C := RX8) (T := TX8) (N := 28) hx hb hts in_X8_raises_X8 hown hK.1 hP 0 rfl rfl 24 (by decide) (hts (.fieldLink RX8 100 "NestlimitModel" "high" "J") (List.mem_of_getElem? (i := 3) rfl)) (fun _ h9 => h9) rfl dX8_raises_86 ?_
          refine lv_iload hx hb dX8_raises_89 (lv_at hl 5 rfl) ?_
          refine lv_i2l (v := (nI (n + 1)).toInt64) hx hb dX8_raises_91 rfl ?_
          refine g_callR (v0 := .long (sp_X8_fill (sp_X8_multiplies_hi_ a b el eh i) ((nI (n + 1)).toInt64))) (va_runS (As := [.long (sp_X8_multiplies_hi_ a b el eh i), .long ((nI (n + 1)).toInt64)]) (rest := [.long ((sp_X8_cut (sp_X8_multiplies_lo_ a b el eh i) ((nI (n + 1)).toInt64)) + (jshl 1 i)), .ref h]) ⟨hx, hb, hml, hown, hts⟩ (c_X8_fill l D y H.size (sp_X8_multiplies_hi_ a b el eh i) ((nI (n + 1)).toInt64) (g_k0 (by omega))) (va_cwS 2 hts gX8_raises_X8_fill rfl rfl rfl (by decide +kernel) ⟨Nat.le_of_ble_eq_true rfl, Nat.le_of_ble_eq_true rfl⟩) (gP_S hP hD hK [] (by decide) rfl) rfl rfl hl.1 rfl (lv_room (Nat.le_of_ble_eq_true rfl)) dX8_raises_92 ⟨Nat.zero_le _, Nat.zero_le _⟩) ?_
          refine lv_lload hx hb dX8_raises_95 (lv_at hl 4 rfl) ?_
          refine lv_ladd hx hb dX8_raises_97 ?_
          refine g_callAv (w0 := wM y h q tw pn ki on ot ab be zA zB zC zD zF zT fo lw hg at_ tl th wo wl wh true ((sp_X8_cut (sp_X8_multiplies_lo_ a b el eh i) ((nI (n + 1)).toInt64)) + (jshl 1 i)) ((sp_X8_fill (sp_X8_multiplies_hi_ a b el eh i) ((nI (n + 1)).toInt64)) + (jshl 1 i)) di su an) (va_runV (As := [.long ((sp_X8_cut (sp_X8_multiplies_lo_ a b el eh i) ((nI (n + 1)).toInt64)) + (jshl 1 i)), .long ((sp_X8_fill (sp_X8_multiplies_hi_ a b el eh i) ((nI (n + 1)).toInt64)) + (jshl 1 i))]) (rest := []) ⟨hx, hb, hml, hown, hts⟩ (c_X8_sets l D y H.size h q tw pn ki on ot ab be zA zB zC zD zF zT fo lw hg at_ tl th wo wl wh true (sp_X8_multiplies_lo_ a b el eh i) (sp_X8_multiplies_hi_ a b el eh i) di su an ((sp_X8_cut (sp_X8_multiplies_lo_ a b el eh i) ((nI (n + 1)).toInt64)) + (jshl 1 i)) ((sp_X8_fill (sp_X8_multiplies_hi_ a b el eh i) ((nI (n + 1)).toInt64)) + (jshl 1 i))) (cwV 2 hts gX8_raises_X8_sets rfl rfl rfl (by decide +kernel) ⟨Nat.le_of_ble_eq_true rfl, Nat.le_of_ble_eq_true rfl⟩) (gP_VA hP hD hK 0 rfl rfl) rfl rfl hl.1 rfl (lv_room (Nat.le_of_ble_eq_true rfl)) dX8_raises_98 ⟨Nat.zero_le _, Nat.zero_le _⟩) hP hD hS hA rfl (fun H locs hP hD hS => ?_)
          refine lv_iinc (v := nI n) (lv' := [(8, .int (nI n)), (0, .ref h), (1, .long a), (3, .long b), (5, .int i), (6, .long (jshl 1 i))]) hx hb dX8_raises_101 hl (k := 5) rfl (pk_m1 n) (by decide) rfl (fun ls hl => ?_)
          refine lv_goto (tgt := 50) hx hb dX8_raises_104 (by decide) ?_
          exact ih50 ((sp_X8_cut (sp_X8_multiplies_lo_ a b el eh i) ((nI (n + 1)).toInt64)) + (jshl 1 i)) ((sp_X8_fill (sp_X8_multiplies_hi_ a b el eh i) ((nI (n + 1)).toInt64)) + (jshl 1 i)) (by omega) (hF) _ _ hP hD hS ls (lv_sub hl [1, 2, 3, 4, 5, 0] rfl)
      exact LOOP50 12 (jshl 1 i) (jshl 1 i) (Nat.le_refl _) (rfl) _ _ hP hD hS ls (lv_sub hl [2, 3, 4, 5, 1, 0] rfl)
theorem in_X8_valueOf_X8 : ∀ w ∈ wsX80, w ∈ wsX8_valueOf := fun _ h => List.mem_cons_of_mem _ (List.mem_append_right _ h)
def sp_X8_valueOf (zA zB zC zD : Nat → Int32) (k : Nat) (x : Int64) (i : Int32) : Int64 := (((((((zD k).toInt64) * x) + (((zC k).toInt64) * (jshl 1 i))) * x) + ((((zB k).toInt64) * (jshl 1 i)) * (jshl 1 i))) * x) + (((((zA k).toInt64) * (jshl 1 i)) * (jshl 1 i)) * (jshl 1 i))
set_option maxHeartbeats 4000000 in
set_option maxRecDepth 100000 in
theorem c_X8_valueOf (l : Launch) (D : va_G) (y : Nat → ClassId) (sz : Nat) (h : Nat) (q : Nat → Nat) (tw : Int32) (pn : Nat) (ki on ot ab be zA zB zC zD zF zT : Nat → Int32) (fo : Nat → Bool) (lw hg : Nat → Int64) (at_ : Nat → Bool) (tl th : Nat → Int64) (wo : Nat → Bool) (wl wh : Nat → Int64) (is_ : Bool) (lo_ hi_ : Int64) (di : Nat → Int32) (su : Nat → Int64) (an : Nat → Bool) (k : Nat) (x : Int64) (i : Int32) (hk : k < 40) : Met l yX8_valueOf wsX8_valueOf ({ frames := 0, cells := 0, slots := 0, locals := 0 } : Room) (gP D y [.ref h, .int (nI k), .long x, .int i] (wM y h q tw pn ki on ot ab be zA zB zC zD zF zT fo lw hg at_ tl th wo wl wh is_ lo_ hi_ di su an) sz) (gR (.long (sp_X8_valueOf zA zB zC zD k x i))) 0 0 (fun _ => False) := by
  refine Met.ofW (cc := cX8_valueOf) (maxL := 9) (ret := (some .long)) (by decide) rfl ?_
  intro pg e s m args below meth c s₁ B hml hv
  obtain ⟨rfl, hsz, hP, hK, hD0⟩ := hv
  have hx := B.exec
  have hb := B.bytes
  have hr := B.returns
  have hts := atoms_spec (ws := wsX8_valueOf) B.pre
  have hown : s.vm.findClass RX8 = some m.cls := findClass_of_methodNamed B.named
  have hlocks := B.notSynchronized
  subst hsz
  obtain ⟨A, hAe⟩ : ∃ A : Nat → Prop, A = va_A (wM y h q tw pn ki on ot ab be zA zB zC zD zF zT fo lw hg at_ tl th wo wl wh is_ lo_ hi_ di su an) s.heap.size := ⟨_, rfl⟩
  have hD : va_D A (wM y h q tw pn ki on ot ab be zA zB zC zD zF zT fo lw hg at_ tl th wo wl wh is_ lo_ hi_ di su an) := by rw [hAe]; exact hD0.self (sz := s.heap.size)
  have hA : ∀ q : Nat, s.heap.size ≤ q → A q := fun q h => by rw [hAe]; exact Or.inr h
  have hS : va_S A s.heap s.heap [] := va_S.rf
  have hl := lv_entry ([.ref h, .int (nI k), .long x, .int i]) (n := 9) (Nat.le_of_ble_eq_true rfl)
  rw [lg_entry_eq]
  generalize (lg_sl ([.ref h, .int (nI k), .long x, .int i]) ++ List.replicate (9 - (lg_sl ([.ref h, .int (nI k), .long x, .int i])).length) Slot.unset).toArray = ls at hl ⊢
  have hl : lv_has ls 9 [(0, .ref h), (1, .int (nI k)), (2, .long x), (4, .int i)] := hl
  refine lv_lconst (v := 1) hx hb dX8_valueOf_0 (by decide) ?_
  refine lv_iload hx hb dX8_valueOf_1 (lv_at hl 3 rfl) ?_
  refine lv_lshl (v := jshl 1 i) hx hb dX8_valueOf_3 rfl ?_
  refine lv_lstore (lv' := [(5, .long (jshl 1 i)), (0, .ref h), (1, .int (nI k)), (2, .long x), (4, .int i)]) hx hb dX8_valueOf_4 hl (by decide) rfl (fun ls hl => ?_)
  refine lv_aload_n hx hb dX8_valueOf_6 rfl (lv_at hl 1 rfl) ?_
  refine va_get (D := D) (ci := 6) (v := .ref (q 10)) (C := RX8) (T := TX8) (N := 28) hx hb hts in_X8_valueOf_X8 hown hK.1 hP 0 rfl rfl 10 (by decide) (hts (.fieldLink RX8 34 "NestlimitModel" "zeroD" "[I") (List.mem_of_getElem? (i := 1) rfl)) (fun _ h9 => h9) rfl dX8_valueOf_7 ?_
  refine lv_iload_n hx hb dX8_valueOf_10 rfl (lv_at hl 2 rfl) ?_
  refine g_iald (k := k) hx hb hK.1 hP 9 0 rfl rfl (hk) (by decide) dX8_valueOf_11 ?_
  refine lv_i2l (v := (zD k).toInt64) hx hb dX8_valueOf_12 rfl ?_
  refine lv_lload_n hx hb dX8_valueOf_13 rfl (lv_at hl 3 rfl) ?_
  refine lv_lmul hx hb dX8_valueOf_14 ?_
  refine lv_aload_n hx hb dX8_valueOf_15 rfl (lv_at hl 1 rfl) ?_
  refine va_get (D := D) (ci := 6) (v := .ref (q 9)) (C := RX8) (T := TX8) (N := 28) hx hb hts in_X8_valueOf_X8 hown hK.1 hP 0 rfl rfl 9 (by decide) (hts (.fieldLink RX8 31 "NestlimitModel" "zeroC" "[I") (List.mem_of_getElem? (i := 2) rfl)) (fun _ h9 => h9) rfl dX8_valueOf_16 ?_
  refine lv_iload_n hx hb dX8_valueOf_19 rfl (lv_at hl 2 rfl) ?_
  refine g_iald (k := k) hx hb hK.1 hP 8 0 rfl rfl (hk) (by decide) dX8_valueOf_20 ?_
  refine lv_i2l (v := (zC k).toInt64) hx hb dX8_valueOf_21 rfl ?_
  refine lv_lload hx hb dX8_valueOf_22 (lv_at hl 0 rfl) ?_
  refine lv_lmul hx hb dX8_valueOf_24 ?_
  refine lv_ladd hx hb dX8_valueOf_25 ?_
  refine lv_lstore (lv' := [(7, .long ((((zD k).toInt64) * x) + (((zC k).toInt64) * (jshl 1 i)))), (5, .long (jshl 1 i)), (0, .ref h), (1, .int (nI k)), (2, .long x), (4, .int i)]) hx hb dX8_valueOf_26 hl (by decide) rfl (fun ls hl => ?_)
  refine lv_lload hx hb dX8_valueOf_28 (lv_at hl 0 rfl) ?_
  refine lv_lload_n hx hb dX8_valueOf_30 rfl (lv_at hl 4 rfl) ?_
  refine lv_lmul hx hb dX8_valueOf_31 ?_
  refine lv_aload_n hx hb dX8_valueOf_32 rfl (lv_at hl 2 rfl) ?_
  refine va_get (D := D) (ci := 6) (v := .ref (q 8)) (C := RX8) (T := TX8) (N := 28) hx hb hts in_X8_valueOf_X8 hown hK.1 hP 0 rfl rfl 8 (by decide) (hts (.fieldLink RX8 28 "NestlimitModel" "zeroB" "[I") (List.mem_of_getElem? (i := 3) rfl)) (fun _ h9 => h9) rfl dX8_valueOf_33 ?_
  refine lv_iload_n hx hb dX8_valueOf_36 rfl (lv_at hl 3 rfl) ?_
  refine g_iald (k := k) hx hb hK.1 hP 7 0 rfl rfl (hk) (by decide) dX8_valueOf_37 ?_
  refine lv_i2l (v := (zB k).toInt64) hx hb dX8_valueOf_38 rfl ?_
  refine lv_lload hx hb dX8_valueOf_39 (lv_at hl 1 rfl) ?_
  refine lv_lmul hx hb dX8_valueOf_41 ?_
  refine lv_lload hx hb dX8_valueOf_42 (lv_at hl 1 rfl) ?_
  refine lv_lmul hx hb dX8_valueOf_44 ?_
  refine lv_ladd hx hb dX8_valueOf_45 ?_
  refine lv_lstore (lv' := [(7, .long ((((((zD k).toInt64) * x) + (((zC k).toInt64) * (jshl 1 i))) * x) + ((((zB k).toInt64) * (jshl 1 i)) * (jshl 1 i)))), (5, .long (jshl 1 i)), (0, .ref h), (1, .int (nI k)), (2, .long x), (4, .int i)]) hx hb dX8_valueOf_46 hl (by decide) rfl (fun ls hl => ?_)
  refine lv_lload hx hb dX8_valueOf_48 (lv_at hl 0 rfl) ?_
  refine lv_lload_n hx hb dX8_valueOf_50 rfl (lv_at hl 4 rfl) ?_
  refine lv_lmul hx hb dX8_valueOf_51 ?_
  refine lv_aload_n hx hb dX8_valueOf_52 rfl (lv_at hl 2 rfl) ?_
  refine va_get (D := D) (ci := 6) (v := .ref (q 7)) (C := RX8) (T := TX8) (N := 28) hx hb hts in_X8_valueOf_X8 hown hK.1 hP 0 rfl rfl 7 (by decide) (hts (.fieldLink RX8 25 "NestlimitModel" "zeroA" "[I") (List.mem_of_getElem? (i := 4) rfl)) (fun _ h9 => h9) rfl dX8_valueOf_53 ?_
  refine lv_iload_n hx hb dX8_valueOf_56 rfl (lv_at hl 3 rfl) ?_
  refine g_iald (k := k) hx hb hK.1 hP 6 0 rfl rfl (hk) (by decide) dX8_valueOf_57 ?_
  refine lv_i2l (v := (zA k).toInt64) hx hb dX8_valueOf_58 rfl ?_
  refine lv_lload hx hb dX8_valueOf_59 (lv_at hl 1 rfl) ?_
  refine lv_lmul hx hb dX8_valueOf_61 ?_
  refine lv_lload hx hb dX8_valueOf_62 (lv_at hl 1 rfl) ?_
  refine lv_lmul hx hb dX8_valueOf_64 ?_
  refine lv_lload hx hb dX8_valueOf_65 (lv_at hl 1 rfl) ?_
  refine lv_lmul hx hb dX8_valueOf_67 ?_
  refine lv_ladd hx hb dX8_valueOf_68 ?_
  exact W.lret (v := (((((((zD k).toInt64) * x) + (((zC k).toInt64) * (jshl 1 i))) * x) + ((((zB k).toInt64) * (jshl 1 i)) * (jshl 1 i))) * x) + (((((zA k).toInt64) * (jshl 1 i)) * (jshl 1 i)) * (jshl 1 i))) hx hb hr (fun t ht hW => ⟨congrArg (fun z => Outcome.returned (some (Value.long z))) (rfl), ht⟩) (fun q h => by cases h) dX8_valueOf_69
def skM (f : Int64 → Int64) (s0 : Int64) : Nat → Int64 → Int64 → Int64 × Int64
  | 0, a, b => (a, b)
  | n + 1, a, b => if b - a ≤ 1 then (a, b) else skM f s0 n (if f (a + (b - a) / 2) = 0 then a + (b - a) / 2 else if f (a + (b - a) / 2) = s0 then a + (b - a) / 2 else a) (if f (a + (b - a) / 2) = 0 then a + (b - a) / 2 else if f (a + (b - a) / 2) = s0 then b else a + (b - a) / 2)
theorem skM_step {f : Int64 → Int64} {s0 a b mid at0 : Int64} {n : Nat} (h : ¬ b - a ≤ 1) (e1 : mid = a + (b - a) / 2) (e2 : at0 = f mid) : skM f s0 (n + 1) a b = skM f s0 n (if at0 = 0 then mid else if at0 = s0 then mid else a) (if at0 = 0 then mid else if at0 = s0 then b else mid) := by
  subst e2 e1
  rw [skM, if_neg h]
/-- the ends lie in range, and n halvings make them meet -/
def skI (n : Nat) (a b : Int64) : Prop := -1099511627776 ≤ a.toInt ∧ a.toInt ≤ b.toInt ∧ b.toInt ≤ 1099511627776 ∧ b.toInt - a.toInt ≤ 2 ^ n
theorem g64_sub {a b : Int64} (h1 : -1099511627776 ≤ a.toInt) (h2 : a.toInt ≤ b.toInt) (h3 : b.toInt ≤ 1099511627776) : (b - a).toInt = b.toInt - a.toInt := by
  rw [Int64.toInt_sub]
  apply Int.bmod_eq_of_le <;> omega
theorem skI_mid {n : Nat} {a b mid : Int64} (h : skI n a b) (e : mid = a + (b - a) / 2) : mid.toInt = a.toInt + (b.toInt - a.toInt) / 2 := by
  obtain ⟨h1, h2, h3, h4⟩ := h
  have e1 := g64_sub h1 h2 h3
  have e2 : ((b - a) / 2).toInt = (b.toInt - a.toInt) / 2 := by
    rw [Int64.toInt_div, e1, show (2 : Int64).toInt = 2 from by decide, Int.tdiv_eq_ediv_of_nonneg (by omega)]
    apply Int.bmod_eq_of_le <;> omega
  rw [e, Int64.toInt_add, e2]
  apply Int.bmod_eq_of_le <;> omega
theorem skI_c {n : Nat} {a b : Int64} (h : skI n a b) (c : ¬ b - a ≤ 1) : 2 ≤ b.toInt - a.toInt := by
  obtain ⟨h1, h2, h3, h4⟩ := h
  rw [g64_le, g64_sub h1 h2 h3, show (1 : Int64).toInt = 1 from by decide] at c
  omega
theorem skI_step {n : Nat} {a b mid : Int64} (h : skI (n + 1) a b) (c : ¬ b - a ≤ 1) (e : mid = a + (b - a) / 2) : skI n a mid ∧ skI n mid b ∧ skI n mid mid := by
  have hm := skI_mid h e
  have hc := skI_c h c
  obtain ⟨h1, h2, h3, h4⟩ := h
  have hp : (2 : Int) ^ (n + 1) = 2 * 2 ^ n := by rw [Int.pow_succ]; omega
  have hq : (0 : Int) < 2 ^ n := Int.pow_pos (by decide)
  rw [hp] at h4
  refine ⟨⟨h1, ?_, ?_, ?_⟩, ⟨?_, ?_, h3, ?_⟩, ⟨?_, ?_, ?_, ?_⟩⟩ <;> rw [hm] <;> omega
theorem skI_zero {a b : Int64} (h : skI 0 a b) : b - a ≤ 1 := by
  obtain ⟨h1, h2, h3, h4⟩ := h
  rw [g64_le, g64_sub h1 h2 h3, show (1 : Int64).toInt = 1 from by decide]
  have : (2 : Int) ^ 0 = 1 := by decide
  omega
def skQ (zA zB zC zD zF zT : Nat → Int32) (k : Nat) (its : Int32) : Int64 × Int64 := skM (fun x => sp_X8_sign (sp_X8_valueOf zA zB zC zD k x its)) (sp_X8_sign (sp_X8_valueOf zA zB zC zD k (jshl (zF k).toInt64 its) its)) 18 (jshl (zF k).toInt64 its) (jshl (zT k).toInt64 its)
def sp_X8_seeks_lo_ (zA zB zC zD zF zT : Nat → Int32) (k p : Nat) : Int64 := if nI p ≤ 16 then jshl (skQ zA zB zC zD zF zT k (nI p)).1 (nI p - nI p) else jshl (skQ zA zB zC zD zF zT k 16).1 (nI p - 16)
def sp_X8_seeks_hi_ (zA zB zC zD zF zT : Nat → Int32) (k p : Nat) : Int64 := if nI p ≤ 16 then jshl (skQ zA zB zC zD zF zT k (nI p)).2 (nI p - nI p) else jshl (skQ zA zB zC zD zF zT k 16).2 (nI p - 16)
theorem g_le16 {p : Nat} (h : nI p ≤ 16) (hp : p < 25 := by assumption) : p ≤ 16 := by
  have h2 := (nI_leI (a := p) (b := 16) (by omega) (by omega)).mp h
  exact h2
theorem in_X8_seeks_X8 : ∀ w ∈ wsX80, w ∈ wsX8_seeks := fun _ h => List.mem_cons_of_mem _ (List.mem_append_right _ h)
set_option maxHeartbeats 4000000 in
set_option maxRecDepth 100000 in
theorem c_X8_seeks (l : Launch) (D : va_G) (y : Nat → ClassId) (sz : Nat) (h : Nat) (q : Nat → Nat) (tw : Int32) (pn : Nat) (ki on ot ab be zA zB zC zD zF zT : Nat → Int32) (fo : Nat → Bool) (lw hg : Nat → Int64) (at_ : Nat → Bool) (tl th : Nat → Int64) (wo : Nat → Bool) (wl wh : Nat → Int64) (is_ : Bool) (lo_ hi_ : Int64) (di : Nat → Int32) (su : Nat → Int64) (an : Nat → Bool) (k p : Nat) (hk : k < 40) (hp : p < 25) (hs : ∀ m, m ≤ 16 → skI 18 (jshl (zF k).toInt64 (nI m)) (jshl (zT k).toInt64 (nI m))) : Met l yX8_seeks wsX8_seeks ({ frames := 1, cells := 0, slots := 0, locals := 28 } : Room) (gP D y [.ref h, .int (nI k), .int (nI p)] (wM y h q tw pn ki on ot ab be zA zB zC zD zF zT fo lw hg at_ tl th wo wl wh is_ lo_ hi_ di su an) sz) (gQ D (wM y h q tw pn ki on ot ab be zA zB zC zD zF zT fo lw hg at_ tl th wo wl wh is_ lo_ hi_ di su an) (gF none (wM y h q tw pn ki on ot ab be zA zB zC zD zF zT fo lw hg at_ tl th wo wl wh true (sp_X8_seeks_lo_ zA zB zC zD zF zT k p) (sp_X8_seeks_hi_ zA zB zC zD zF zT k p) di su an))) 0 0 (va_A (wM y h q tw pn ki on ot ab be zA zB zC zD zF zT fo lw hg at_ tl th wo wl wh is_ lo_ hi_ di su an) sz) := by
  refine Met.ofW (cc := cX8_seeks) (maxL := 14) (ret := none) (by decide) rfl ?_
  intro pg e s m args below meth c s₁ B hml hv
  obtain ⟨rfl, hsz, hP, hK, hD0⟩ := hv
  have hx := B.exec
  have hb := B.bytes
  have hr := B.returns
  have hts := atoms_spec (ws := wsX8_seeks) B.pre
  have hown : s.vm.findClass RX8 = some m.cls := findClass_of_methodNamed B.named
  have hlocks := B.notSynchronized
  subst hsz
  obtain ⟨A, hAe⟩ : ∃ A : Nat → Prop, A = va_A (wM y h q tw pn ki on ot ab be zA zB zC zD zF zT fo lw hg at_ tl th wo wl wh is_ lo_ hi_ di su an) s.heap.size := ⟨_, rfl⟩
  have hD : va_D A (wM y h q tw pn ki on ot ab be zA zB zC zD zF zT fo lw hg at_ tl th wo wl wh is_ lo_ hi_ di su an) := by rw [hAe]; exact hD0.self (sz := s.heap.size)
  have hA : ∀ q : Nat, s.heap.size ≤ q → A q := fun q h => by rw [hAe]; exact Or.inr h
  have hS : va_S A s.heap s.heap [] := va_S.rf
  have hl := lv_entry ([.ref h, .int (nI k), .int (nI p)]) (n := 14) (Nat.le_of_ble_eq_true rfl)
  rw [lg_entry_eq]
  generalize (lg_sl ([.ref h, .int (nI k), .int (nI p)]) ++ List.replicate (14 - (lg_sl ([.ref h, .int (nI k), .int (nI p)])).length) Slot.unset).toArray = ls at hl ⊢
  have hl : lv_has ls 14 [(0, .ref h), (1, .int (nI k)), (2, .int (nI p))] := hl
  refine lv_iload_n hx hb dX8_seeks_0 rfl (lv_at hl 2 rfl) ?_
  refine lv_bipush (v := 16) hx hb dX8_seeks_1 (by decide) ?_
  refine lv_icmp_le (tgt := 11) hx hb dX8_seeks_3 (by decide) (fun c_3 => ?_) (fun c_3 => ?_)
  · skip
    refine lv_iload_n hx hb dX8_seeks_11 rfl (lv_at hl 2 rfl) ?_
    refine lv_istore_n (lv' := [(3, .int (nI p)), (0, .ref h), (1, .int (nI k)), (2, .int (nI p))]) hx hb dX8_seeks_12 rfl hl (by decide) rfl (fun ls hl => ?_)
    refine lv_aload_n hx hb dX8_seeks_13 rfl (lv_at hl 1 rfl) ?_
    refine va_get (D := D) (ci := 6) (v := .ref (q 11)) (C := RX8) (T := TX8) (N := 28) hx hb hts in_X8_seeks_X8 hown hK.1 hP 0 rfl rfl 11 (by decide) (hts (.fieldLink RX8 37 "NestlimitModel" "zeroFrom" "[I") (List.mem_of_getElem? (i := 1) rfl)) (fun _ h9 => h9) rfl dX8_seeks_14 ?_
    refine lv_iload_n hx hb dX8_seeks_17 rfl (lv_at hl 2 rfl) ?_
    refine g_iald (k := k) hx hb hK.1 hP 10 0 rfl rfl (hk) (by decide) dX8_seeks_18 ?_
    refine lv_i2l (v := (zF k).toInt64) hx hb dX8_seeks_19 rfl ?_
    refine lv_iload_n hx hb dX8_seeks_20 rfl (lv_at hl 0 rfl) ?_
    refine lv_lshl (v := jshl ((zF k).toInt64) (nI p)) hx hb dX8_seeks_21 rfl ?_
    refine lv_lstore (lv' := [(4, .long (jshl ((zF k).toInt64) (nI p))), (3, .int (nI p)), (0, .ref h), (1, .int (nI k)), (2, .int (nI p))]) hx hb dX8_seeks_22 hl (by decide) rfl (fun ls hl => ?_)
    refine lv_aload_n hx hb dX8_seeks_24 rfl (lv_at hl 2 rfl) ?_
    refine va_get (D := D) (ci := 6) (v := .ref (q 12)) (C := RX8) (T := TX8) (N := 28) hx hb hts in_X8_seeks_X8 hown hK.1 hP 0 rfl rfl 12 (by decide) (hts (.fieldLink RX8 40 "NestlimitModel" "zeroTo" "[I") (List.mem_of_getElem? (i := 2) rfl)) (fun _ h9 => h9) rfl dX8_seeks_25 ?_
    refine lv_iload_n hx hb dX8_seeks_28 rfl (lv_at hl 3 rfl) ?_
    refine g_iald (k := k) hx hb hK.1 hP 11 0 rfl rfl (hk) (by decide) dX8_seeks_29 ?_
    refine lv_i2l (v := (zT k).toInt64) hx hb dX8_seeks_30 rfl ?_
    refine lv_iload_n hx hb dX8_seeks_31 rfl (lv_at hl 1 rfl) ?_
    refine lv_lshl (v := jshl ((zT k).toInt64) (nI p)) hx hb dX8_seeks_32 rfl ?_
    refine lv_lstore (lv' := [(6, .long (jshl ((zT k).toInt64) (nI p))), (4, .long (jshl ((zF k).toInt64) (nI p))), (3, .int (nI p)), (0, .ref h), (1, .int (nI k)), (2, .int (nI p))]) hx hb dX8_seeks_33 hl (by decide) rfl (fun ls hl => ?_)
    refine lv_aload_n hx hb dX8_seeks_35 rfl (lv_at hl 3 rfl) ?_
    refine lv_iload_n hx hb dX8_seeks_36 rfl (lv_at hl 4 rfl) ?_
    refine lv_lload hx hb dX8_seeks_37 (lv_at hl 1 rfl) ?_
    refine lv_iload_n hx hb dX8_seeks_39 rfl (lv_at hl 2 rfl) ?_
    refine g_callR (v0 := .long (sp_X8_valueOf zA zB zC zD k (jshl ((zF k).toInt64) (nI p)) (nI p))) (va_runV (As := [.int (nI k), .long (jshl ((zF k).toInt64) (nI p)), .int (nI p)]) (rest := []) ⟨hx, hb, hml, hown, hts⟩ (c_X8_valueOf l D y s.heap.size h q tw pn ki on ot ab be zA zB zC zD zF zT fo lw hg at_ tl th wo wl wh is_ lo_ hi_ di su an k (jshl ((zF k).toInt64) (nI p)) (nI p) hk) (cwV 3 hts gX8_seeks_X8_valueOf rfl rfl rfl (by decide +kernel) ⟨Nat.le_of_ble_eq_true rfl, Nat.le_of_ble_eq_true rfl⟩) (gP_VA hP hD hK 0 rfl rfl) rfl rfl hl.1 rfl (lv_room (Nat.le_of_ble_eq_true rfl)) dX8_seeks_40 ⟨Nat.zero_le _, Nat.zero_le _⟩) ?_
    refine g_callR (v0 := .long (sp_X8_sign (sp_X8_valueOf zA zB zC zD k (jshl ((zF k).toInt64) (nI p)) (nI p)))) (va_runS (As := [.long (sp_X8_valueOf zA zB zC zD k (jshl ((zF k).toInt64) (nI p)) (nI p))]) (rest := []) ⟨hx, hb, hml, hown, hts⟩ (c_X8_sign l D y s.heap.size (sp_X8_valueOf zA zB zC zD k (jshl ((zF k).toInt64) (nI p)) (nI p))) (va_cwS 1 hts gX8_seeks_X8_sign rfl rfl rfl (by decide +kernel) ⟨Nat.le_of_ble_eq_true rfl, Nat.le_of_ble_eq_true rfl⟩) (gP_S hP hD hK [] (by decide) rfl) rfl rfl hl.1 rfl (lv_room (Nat.le_of_ble_eq_true rfl)) dX8_seeks_43 ⟨Nat.zero_le _, Nat.zero_le _⟩) ?_
    refine lv_lstore (lv' := [(8, .long (sp_X8_sign (sp_X8_valueOf zA zB zC zD k (jshl ((zF k).toInt64) (nI p)) (nI p)))), (6, .long (jshl ((zT k).toInt64) (nI p))), (4, .long (jshl ((zF k).toInt64) (nI p))), (3, .int (nI p)), (0, .ref h), (1, .int (nI k)), (2, .int (nI p))]) hx hb dX8_seeks_46 hl (by decide) rfl (fun ls hl => ?_)
    have LOOP48 : ∀ (n : Nat) (ea : Int64) (eb : Int64), (skI n ea eb) → (skM (fun x => sp_X8_sign (sp_X8_valueOf zA zB zC zD k x (nI p))) (sp_X8_sign (sp_X8_valueOf zA zB zC zD k (jshl (zF k).toInt64 (nI p)) (nI p))) n ea eb = skQ zA zB zC zD zF zT k (nI p)) → ∀ (H : Heap) (locs : List Loc), va_P D vwCl (wM y h q tw pn ki on ot ab be zA zB zC zD zF zT fo lw hg at_ tl th wo wl wh is_ lo_ hi_ di su an) H → va_D A (wM y h q tw pn ki on ot ab be zA zB zC zD zF zT fo lw hg at_ tl th wo wl wh is_ lo_ hi_ di su an) → va_S A s.heap H locs → ∀ (ls : Array Slot), lv_has ls 14 [(0, .ref h), (1, .int (nI k)), (2, .int (nI p)), (3, .int (nI p)), (4, .long ea), (6, .long eb), (8, .long (sp_X8_sign (sp_X8_valueOf zA zB zC zD k (jshl (zF k).toInt64 (nI p)) (nI p))))] → W pg l e (headSpec wsX8_seeks ({ frames := 1, cells := 0, slots := 0, locals := 28 } : Room)).room s m (([.ref h, .int (nI k), .int (nI p)] : List Value).toArray) below meth c H locs 0 0 (MQ below (gQ D (wM y h q tw pn ki on ot ab be zA zB zC zD zF zT fo lw hg at_ tl th wo wl wh is_ lo_ hi_ di su an) (gF none (wM y h q tw pn ki on ot ab be zA zB zC zD zF zT fo lw hg at_ tl th wo wl wh true (sp_X8_seeks_lo_ zA zB zC zD zF zT k p) (sp_X8_seeks_hi_ zA zB zC zD zF zT k p) di su an))) (([.ref h, .int (nI k), .int (nI p)] : List Value).toArray) s 0 0 (va_A (wM y h q tw pn ki on ot ab be zA zB zC zD zF zT fo lw hg at_ tl th wo wl wh is_ lo_ hi_ di su an) s.heap.size)) (F0 m 48 ls []) := by
      intro n
      induction n with
      | zero =>
        intro ea eb hm hF H locs hP hD hS ls hl
        refine lv_lload hx hb dX8_seeks_48 (lv_at hl 5 rfl) ?_
        refine lv_lload hx hb dX8_seeks_50 (lv_at hl 4 rfl) ?_
        refine lv_lsub hx hb dX8_seeks_52 ?_
        refine lv_lconst (v := 1) hx hb dX8_seeks_53 (by decide) ?_
        refine g_le (tgt := 136) hx hb dX8_seeks_54 dX8_seeks_55 (by decide) (fun c_54 => ?_) (fun c_54 => absurd (skI_zero hm) c_54)
        refine lv_aload_n hx hb dX8_seeks_136 rfl (lv_at hl 0 rfl) ?_
        refine lv_lload hx hb dX8_seeks_137 (lv_at hl 4 rfl) ?_
        refine lv_iload_n hx hb dX8_seeks_139 rfl (lv_at hl 2 rfl) ?_
        refine lv_iload_n hx hb dX8_seeks_140 rfl (lv_at hl 3 rfl) ?_
        refine lv_isub hx hb dX8_seeks_141 ?_
        refine lv_lshl (v := jshl ea ((nI p) - (nI p))) hx hb dX8_seeks_142 rfl ?_
        refine lv_lload hx hb dX8_seeks_143 (lv_at hl 5 rfl) ?_
        refine lv_iload_n hx hb dX8_seeks_145 rfl (lv_at hl 2 rfl) ?_
        refine lv_iload_n hx hb dX8_seeks_146 rfl (lv_at hl 3 rfl) ?_
        refine lv_isub hx hb dX8_seeks_147 ?_
        refine lv_lshl (v := jshl eb ((nI p) - (nI p))) hx hb dX8_seeks_148 rfl ?_
        refine g_callAv (w0 := wM y h q tw pn ki on ot ab be zA zB zC zD zF zT fo lw hg at_ tl th wo wl wh true (jshl ea ((nI p) - (nI p))) (jshl eb ((nI p) - (nI p))) di su an) (va_runV (As := [.long (jshl ea ((nI p) - (nI p))), .long (jshl eb ((nI p) - (nI p)))]) (rest := []) ⟨hx, hb, hml, hown, hts⟩ (c_X8_sets l D y H.size h q tw pn ki on ot ab be zA zB zC zD zF zT fo lw hg at_ tl th wo wl wh is_ lo_ hi_ di su an (jshl ea ((nI p) - (nI p))) (jshl eb ((nI p) - (nI p)))) (cwV 2 hts gX8_seeks_X8_sets rfl rfl rfl (by decide +kernel) ⟨Nat.le_of_ble_eq_true rfl, Nat.le_of_ble_eq_true rfl⟩) (gP_VA hP hD hK 0 rfl rfl) rfl rfl hl.1 rfl (lv_room (Nat.le_of_ble_eq_true rfl)) dX8_seeks_149 ⟨Nat.zero_le _, Nat.zero_le _⟩) hP hD hS hA rfl (fun H locs hP hD hS => ?_)
        exact W.vret hx hb hr (fun t ht hW => ⟨⟨none, wM y h q tw pn ki on ot ab be zA zB zC zD zF zT fo lw hg at_ tl th wo wl wh true (jshl ea ((nI p) - (nI p))) (jshl eb ((nI p) - (nI p))) di su an, rfl, ⟨rfl, by simp only [sp_X8_seeks_lo_, sp_X8_seeks_hi_, if_pos c_3]; rw [← hF]; rfl⟩, rfl, by rw [ht]; exact hP⟩, by rw [← hAe]; exact hS.F ht⟩) (by rw [← hAe]; exact hS.2.2) dX8_seeks_152
      | succ n ih48 =>
        intro ea eb hm hF H locs hP hD hS ls hl
        refine lv_lload hx hb dX8_seeks_48 (lv_at hl 5 rfl) ?_
        refine lv_lload hx hb dX8_seeks_50 (lv_at hl 4 rfl) ?_
        refine lv_lsub hx hb dX8_seeks_52 ?_
        refine lv_lconst (v := 1) hx hb dX8_seeks_53 (by decide) ?_
        refine g_le (tgt := 136) hx hb dX8_seeks_54 dX8_seeks_55 (by decide) (fun c_54 => ?_) (fun c_54 => ?_)
        · skip
          refine lv_aload_n hx hb dX8_seeks_136 rfl (lv_at hl 0 rfl) ?_
          refine lv_lload hx hb dX8_seeks_137 (lv_at hl 4 rfl) ?_
          refine lv_iload_n hx hb dX8_seeks_139 rfl (lv_at hl 2 rfl) ?_
          refine lv_iload_n hx hb dX8_seeks_140 rfl (lv_at hl 3 rfl) ?_
          refine lv_isub hx hb dX8_seeks_141 ?_
          refine lv_lshl (v := jshl ea ((nI p) - (nI p))) hx hb dX8_seeks_142 rfl ?_
          refine lv_lload hx hb dX8_seeks_143 (lv_at hl 5 rfl) ?_
          refine lv_iload_n hx hb dX8_seeks_145 rfl (lv_at hl 2 rfl) ?_
          refine lv_iload_n hx hb dX8_seeks_146 rfl (lv_at hl 3 rfl) ?_
          refine lv_isub hx hb dX8_seeks_147 ?_
          refine lv_lshl (v := jshl eb ((nI p) - (nI p))) hx hb dX8_seeks_148 rfl ?_
          refine g_callAv (w0 := wM y h q tw pn ki on ot ab be zA zB zC zD zF zT fo lw hg at_ tl th wo wl wh true (jshl ea ((nI p) - (nI p))) (jshl eb ((nI p) - (nI p))) di su an) (va_runV (As := [.long (jshl ea ((nI p) - (nI p))), .long (jshl eb ((nI p) - (nI p)))]) (rest := []) ⟨hx, hb, hml, hown, hts⟩ (c_X8_sets l D y H.size h q tw pn ki on ot ab be zA zB zC zD zF zT fo lw hg at_ tl th wo wl wh is_ lo_ hi_ di su an (jshl ea ((nI p) - (nI p))) (jshl eb ((nI p) - (nI p)))) (cwV 2 hts gX8_seeks_X8_sets rfl rfl rfl (by decide +kernel) ⟨Nat.le_of_ble_eq_true rfl, Nat.le_of_ble_eq_true rfl⟩) (gP_VA hP hD hK 0 rfl rfl) rfl rfl hl.1 rfl (lv_room (Nat.le_of_ble_eq_true rfl)) dX8_seeks_149 ⟨Nat.zero_le _, Nat.zero_le _⟩) hP hD hS hA rfl (fun H locs hP hD hS => ?_)
          exact W.vret hx hb hr (fun t ht hW => ⟨⟨none, wM y h q tw pn ki on ot ab be zA zB zC zD zF zT fo lw hg at_ tl th wo wl wh true (jshl ea ((nI p) - (nI p))) (jshl eb ((nI p) - (nI p))) di su an, rfl, ⟨rfl, by simp only [sp_X8_seeks_lo_, sp_X8_seeks_hi_, if_pos c_3]; rw [← hF, skM, if_pos c_54]⟩, rfl, by rw [ht]; exact hP⟩, by rw [← hAe]; exact hS.F ht⟩) (by rw [← hAe]; exact hS.2.2) dX8_seeks_152
        · skip
          refine lv_lload hx hb dX8_seeks_58 (lv_at hl 4 rfl) ?_
          refine lv_lload hx hb dX8_seeks_60 (lv_at hl 5 rfl) ?_
          refine lv_lload hx hb dX8_seeks_62 (lv_at hl 4 rfl) ?_
          refine lv_lsub hx hb dX8_seeks_64 ?_
          refine lv_ldc2 (v := 2) hx hb hown (hts (.constantLong RX8 137 (2)) (List.mem_of_getElem? (i := 3) rfl)) dX8_seeks_65 ?_
          refine lv_ldiv hx hb dX8_seeks_68 (by decide) ?_
          refine lv_ladd hx hb dX8_seeks_69 ?_
          refine lv_topl (fun mid emid => ?_)
          refine lv_lstore (lv' := [(10, .long mid), (0, .ref h), (1, .int (nI k)), (2, .int (nI p)), (3, .int (nI p)), (4, .long ea), (6, .long eb), (8, .long (sp_X8_sign (sp_X8_valueOf zA zB zC zD k (jshl (zF k).toInt64 (nI p)) (nI p))))]) hx hb dX8_seeks_70 hl (by decide) rfl (fun ls hl => ?_)
          refine lv_aload_n hx hb dX8_seeks_72 rfl (lv_at hl 1 rfl) ?_
          refine lv_iload_n hx hb dX8_seeks_73 rfl (lv_at hl 2 rfl) ?_
          refine lv_lload hx hb dX8_seeks_74 (lv_at hl 0 rfl) ?_
          refine lv_iload_n hx hb dX8_seeks_76 rfl (lv_at hl 4 rfl) ?_
          refine g_callR (v0 := .long (sp_X8_valueOf zA zB zC zD k mid (nI p))) (va_runV (As := [.int (nI k), .long mid, .int (nI p)]) (rest := []) ⟨hx, hb, hml, hown, hts⟩ (c_X8_valueOf l D y H.size h q tw pn ki on ot ab be zA zB zC zD zF zT fo lw hg at_ tl th wo wl wh is_ lo_ hi_ di su an k mid (nI p) hk) (cwV 3 hts gX8_seeks_X8_valueOf rfl rfl rfl (by decide +kernel) ⟨Nat.le_of_ble_eq_true rfl, Nat.le_of_ble_eq_true rfl⟩) (gP_VA hP hD hK 0 rfl rfl) rfl rfl hl.1 rfl (lv_room (Nat.le_of_ble_eq_true rfl)) dX8_seeks_77 ⟨Nat.zero_le _, Nat.zero_le _⟩) ?_
          refine g_callR (v0 := .long (sp_X8_sign (sp_X8_valueOf zA zB zC zD k mid (nI p)))) (va_runS (As := [.long (sp_X8_valueOf zA zB zC zD k mid (nI p))]) (rest := []) ⟨hx, hb, hml, hown, hts⟩ (c_X8_sign l D y H.size (sp_X8_valueOf zA zB zC zD k mid (nI p))) (va_cwS 1 hts gX8_seeks_X8_sign rfl rfl rfl (by decide +kernel) ⟨Nat.le_of_ble_eq_true rfl, Nat.le_of_ble_eq_true rfl⟩) (gP_S hP hD hK [] (by decide) rfl) rfl rfl hl.1 rfl (lv_room (Nat.le_of_ble_eq_true rfl)) dX8_seeks_80 ⟨Nat.zero_le _, Nat.zero_le _⟩) ?_
          refine lv_topl (fun at0 eat => ?_)
          refine lv_lstore (lv' := [(12, .long at0), (10, .long mid), (0, .ref h), (1, .int (nI k)), (2, .int (nI p)), (3, .int (nI p)), (4, .long ea), (6, .long eb), (8, .long (sp_X8_sign (sp_X8_valueOf zA zB zC zD k (jshl (zF k).toInt64 (nI p)) (nI p))))]) hx hb dX8_seeks_83 hl (by decide) rfl (fun ls hl => ?_)
          refine lv_lload hx hb dX8_seeks_85 (lv_at hl 0 rfl) ?_
          refine lv_lconst (v := 0) hx hb dX8_seeks_87 (by decide) ?_
          refine g_eq (tgt := 100) hx hb dX8_seeks_88 dX8_seeks_89 (by decide) (fun c_88 => ?_) (fun c_88 => ?_)
          · skip
            refine lv_lload hx hb dX8_seeks_100 (lv_at hl 1 rfl) ?_
            refine lv_goto (tgt := 107) hx hb dX8_seeks_102 (by decide) ?_
            refine lv_lstore (lv' := [(4, .long mid), (12, .long at0), (10, .long mid), (0, .ref h), (1, .int (nI k)), (2, .int (nI p)), (3, .int (nI p)), (6, .long eb), (8, .long (sp_X8_sign (sp_X8_valueOf zA zB zC zD k (jshl (zF k).toInt64 (nI p)) (nI p))))]) hx hb dX8_seeks_107 hl (by decide) rfl (fun ls hl => ?_)
            refine lv_lload hx hb dX8_seeks_109 (lv_at hl 1 rfl) ?_
            refine lv_lconst (v := 0) hx hb dX8_seeks_111 (by decide) ?_
            refine g_eq (tgt := 124) hx hb dX8_seeks_112 dX8_seeks_113 (by decide) (fun c_112 => ?_) (fun c_112 => absurd c_88 c_112)
            refine lv_lload hx hb dX8_seeks_124 (lv_at hl 2 rfl) ?_
            refine lv_goto (tgt := 131) hx hb dX8_seeks_126 (by decide) ?_
            refine lv_lstore (lv' := [(6, .long mid), (4, .long mid), (12, .long at0), (10, .long mid), (0, .ref h), (1, .int (nI k)), (2, .int (nI p)), (3, .int (nI p)), (8, .long (sp_X8_sign (sp_X8_valueOf zA zB zC zD k (jshl (zF k).toInt64 (nI p)) (nI p))))]) hx hb dX8_seeks_131 hl (by decide) rfl (fun ls hl => ?_)
            refine lv_goto (tgt := 48) hx hb dX8_seeks_133 (by decide) ?_
            exact ih48 mid mid ((skI_step hm c_54 emid).2.2) (by rw [← hF, skM_step c_54 emid eat]; simp only [if_pos c_88]) _ _ hP hD hS ls (lv_sub hl [4, 5, 6, 7, 1, 0, 8] rfl)
          · skip
            refine lv_lload hx hb dX8_seeks_92 (lv_at hl 0 rfl) ?_
            refine lv_lload hx hb dX8_seeks_94 (lv_at hl 8 rfl) ?_
            refine g_ne (tgt := 105) hx hb dX8_seeks_96 dX8_seeks_97 (by decide) (fun c_96 => ?_) (fun c_96 => ?_)
            · skip
              refine lv_lload hx hb dX8_seeks_105 (lv_at hl 6 rfl) ?_
              refine lv_lstore (lv' := [(4, .long ea), (12, .long at0), (10, .long mid), (0, .ref h), (1, .int (nI k)), (2, .int (nI p)), (3, .int (nI p)), (6, .long eb), (8, .long (sp_X8_sign (sp_X8_valueOf zA zB zC zD k (jshl (zF k).toInt64 (nI p)) (nI p))))]) hx hb dX8_seeks_107 hl (by decide) rfl (fun ls hl => ?_)
              refine lv_lload hx hb dX8_seeks_109 (lv_at hl 1 rfl) ?_
              refine lv_lconst (v := 0) hx hb dX8_seeks_111 (by decide) ?_
              refine g_eq (tgt := 124) hx hb dX8_seeks_112 dX8_seeks_113 (by decide) (fun c_112 => absurd c_112 c_88) (fun c_112 => ?_)
              refine lv_lload hx hb dX8_seeks_116 (lv_at hl 1 rfl) ?_
              refine lv_lload hx hb dX8_seeks_118 (lv_at hl 8 rfl) ?_
              refine g_eq (tgt := 129) hx hb dX8_seeks_120 dX8_seeks_121 (by decide) (fun c_120 => absurd c_120 c_96) (fun c_120 => ?_)
              refine lv_lload hx hb dX8_seeks_124 (lv_at hl 2 rfl) ?_
              refine lv_goto (tgt := 131) hx hb dX8_seeks_126 (by decide) ?_
              refine lv_lstore (lv' := [(6, .long mid), (4, .long ea), (12, .long at0), (10, .long mid), (0, .ref h), (1, .int (nI k)), (2, .int (nI p)), (3, .int (nI p)), (8, .long (sp_X8_sign (sp_X8_valueOf zA zB zC zD k (jshl (zF k).toInt64 (nI p)) (nI p))))]) hx hb dX8_seeks_131 hl (by decide) rfl (fun ls hl => ?_)
              refine lv_goto (tgt := 48) hx hb dX8_seeks_133 (by decide) ?_
              exact ih48 ea mid ((skI_step hm c_54 emid).1) (by rw [← hF, skM_step c_54 emid eat]; simp only [if_neg c_88, if_neg c_96]) _ _ hP hD hS ls (lv_sub hl [4, 5, 6, 7, 1, 0, 8] rfl)
            · skip
              refine lv_lload hx hb dX8_seeks_100 (lv_at hl 1 rfl) ?_
              refine lv_goto (tgt := 107) hx hb dX8_seeks_102 (by decide) ?_
              refine lv_lstore (lv' := [(4, .long mid), (12, .long at0), (10, .long mid), (0, .ref h), (1, .int (nI k)), (2, .int (nI p)), (3, .int (nI p)), (6, .long eb), (8, .long (sp_X8_sign (sp_X8_valueOf zA zB zC zD k (jshl (zF k).toInt64 (nI p)) (nI p))))]) hx hb dX8_seeks_107 hl (by decide) rfl (fun ls hl => ?_)
              refine lv_lload hx hb dX8_seeks_109 (lv_at hl 1 rfl) ?_
              refine lv_lconst (v := 0) hx hb dX8_seeks_111 (by decide) ?_
              refine g_eq (tgt := 124) hx hb dX8_seeks_112 dX8_seeks_113 (by decide) (fun c_112 => absurd c_112 c_88) (fun c_112 => ?_)
              refine lv_lload hx hb dX8_seeks_116 (lv_at hl 1 rfl) ?_
              refine lv_lload hx hb dX8_seeks_118 (lv_at hl 8 rfl) ?_
              refine g_eq (tgt := 129) hx hb dX8_seeks_120 dX8_seeks_121 (by decide) (fun c_120 => ?_) (fun c_120 => absurd c_96 c_120)
              refine lv_lload hx hb dX8_seeks_129 (lv_at hl 7 rfl) ?_
              refine lv_lstore (lv' := [(6, .long eb), (4, .long mid), (12, .long at0), (10, .long mid), (0, .ref h), (1, .int (nI k)), (2, .int (nI p)), (3, .int (nI p)), (8, .long (sp_X8_sign (sp_X8_valueOf zA zB zC zD k (jshl (zF k).toInt64 (nI p)) (nI p))))]) hx hb dX8_seeks_131 hl (by decide) rfl (fun ls hl => ?_)
              refine lv_goto (tgt := 48) hx hb dX8_seeks_133 (by decide) ?_
              exact ih48 mid eb ((skI_step hm c_54 emid).2.1) (by rw [← hF, skM_step c_54 emid eat]; simp only [if_neg c_88, if_pos c_96]) _ _ hP hD hS ls (lv_sub hl [4, 5, 6, 7, 1, 0, 8] rfl)
    exact LOOP48 18 (jshl ((zF k).toInt64) (nI p)) (jshl ((zT k).toInt64) (nI p)) (hs _ (g_le16 c_3)) (rfl) _ _ hP hD hS ls (lv_sub hl [4, 5, 6, 3, 2, 1, 0] rfl)
  · skip
    refine lv_bipush (v := 16) hx hb dX8_seeks_6 (by decide) ?_
    refine lv_goto (tgt := 12) hx hb dX8_seeks_8 (by decide) ?_
    refine lv_istore_n (lv' := [(3, .int 16), (0, .ref h), (1, .int (nI k)), (2, .int (nI p))]) hx hb dX8_seeks_12 rfl hl (by decide) rfl (fun ls hl => ?_)
    refine lv_aload_n hx hb dX8_seeks_13 rfl (lv_at hl 1 rfl) ?_
    refine va_get (D := D) (ci := 6) (v := .ref (q 11)) (C := RX8) (T := TX8) (N := 28) hx hb hts in_X8_seeks_X8 hown hK.1 hP 0 rfl rfl 11 (by decide) (hts (.fieldLink RX8 37 "NestlimitModel" "zeroFrom" "[I") (List.mem_of_getElem? (i := 1) rfl)) (fun _ h9 => h9) rfl dX8_seeks_14 ?_
    refine lv_iload_n hx hb dX8_seeks_17 rfl (lv_at hl 2 rfl) ?_
    refine g_iald (k := k) hx hb hK.1 hP 10 0 rfl rfl (hk) (by decide) dX8_seeks_18 ?_
    refine lv_i2l (v := (zF k).toInt64) hx hb dX8_seeks_19 rfl ?_
    refine lv_iload_n hx hb dX8_seeks_20 rfl (lv_at hl 0 rfl) ?_
    refine lv_lshl (v := jshl ((zF k).toInt64) 16) hx hb dX8_seeks_21 rfl ?_
    refine lv_lstore (lv' := [(4, .long (jshl ((zF k).toInt64) 16)), (3, .int 16), (0, .ref h), (1, .int (nI k)), (2, .int (nI p))]) hx hb dX8_seeks_22 hl (by decide) rfl (fun ls hl => ?_)
    refine lv_aload_n hx hb dX8_seeks_24 rfl (lv_at hl 2 rfl) ?_
    refine va_get (D := D) (ci := 6) (v := .ref (q 12)) (C := RX8) (T := TX8) (N := 28) hx hb hts in_X8_seeks_X8 hown hK.1 hP 0 rfl rfl 12 (by decide) (hts (.fieldLink RX8 40 "NestlimitModel" "zeroTo" "[I") (List.mem_of_getElem? (i := 2) rfl)) (fun _ h9 => h9) rfl dX8_seeks_25 ?_
    refine lv_iload_n hx hb dX8_seeks_28 rfl (lv_at hl 3 rfl) ?_
    refine g_iald (k := k) hx hb hK.1 hP 11 0 rfl rfl (hk) (by decide) dX8_seeks_29 ?_
    refine lv_i2l (v := (zT k).toInt64) hx hb dX8_seeks_30 rfl ?_
    refine lv_iload_n hx hb dX8_seeks_31 rfl (lv_at hl 1 rfl) ?_
    refine lv_lshl (v := jshl ((zT k).toInt64) 16) hx hb dX8_seeks_32 rfl ?_
    refine lv_lstore (lv' := [(6, .long (jshl ((zT k).toInt64) 16)), (4, .long (jshl ((zF k).toInt64) 16)), (3, .int 16), (0, .ref h), (1, .int (nI k)), (2, .int (nI p))]) hx hb dX8_seeks_33 hl (by decide) rfl (fun ls hl => ?_)
    refine lv_aload_n hx hb dX8_seeks_35 rfl (lv_at hl 3 rfl) ?_
    refine lv_iload_n hx hb dX8_seeks_36 rfl (lv_at hl 4 rfl) ?_
    refine lv_lload hx hb dX8_seeks_37 (lv_at hl 1 rfl) ?_
    refine lv_iload_n hx hb dX8_seeks_39 rfl (lv_at hl 2 rfl) ?_
    refine g_callR (v0 := .long (sp_X8_valueOf zA zB zC zD k (jshl ((zF k).toInt64) 16) 16)) (va_runV (As := [.int (nI k), .long (jshl ((zF k).toInt64) 16), .int 16]) (rest := []) ⟨hx, hb, hml, hown, hts⟩ (c_X8_valueOf l D y s.heap.size h q tw pn ki on ot ab be zA zB zC zD zF zT fo lw hg at_ tl th wo wl wh is_ lo_ hi_ di su an k (jshl ((zF k).toInt64) 16) 16 hk) (cwV 3 hts gX8_seeks_X8_valueOf rfl rfl rfl (by decide +kernel) ⟨Nat.le_of_ble_eq_true rfl, Nat.le_of_ble_eq_true rfl⟩) (gP_VA hP hD hK 0 rfl rfl) rfl rfl hl.1 rfl (lv_room (Nat.le_of_ble_eq_true rfl)) dX8_seeks_40 ⟨Nat.zero_le _, Nat.zero_le _⟩) ?_
    refine g_callR (v0 := .long (sp_X8_sign (sp_X8_valueOf zA zB zC zD k (jshl ((zF k).toInt64) 16) 16))) (va_runS (As := [.long (sp_X8_valueOf zA zB zC zD k (jshl ((zF k).toInt64) 16) 16)]) (rest := []) ⟨hx, hb, hml, hown, hts⟩ (c_X8_sign l D y s.heap.size (sp_X8_valueOf zA zB zC zD k (jshl ((zF k).toInt64) 16) 16)) (va_cwS 1 hts gX8_seeks_X8_sign rfl rfl rfl (by decide +kernel) ⟨Nat.le_of_ble_eq_true rfl, Nat.le_of_ble_eq_true rfl⟩) (gP_S hP hD hK [] (by decide) rfl) rfl rfl hl.1 rfl (lv_room (Nat.le_of_ble_eq_true rfl)) dX8_seeks_43 ⟨Nat.zero_le _, Nat.zero_le _⟩) ?_
    refine lv_lstore (lv' := [(8, .long (sp_X8_sign (sp_X8_valueOf zA zB zC zD k (jshl ((zF k).toInt64) 16) 16))), (6, .long (jshl ((zT k).toInt64) 16)), (4, .long (jshl ((zF k).toInt64) 16)), (3, .int 16), (0, .ref h), (1, .int (nI k)), (2, .int (nI p))]) hx hb dX8_seeks_46 hl (by decide) rfl (fun ls hl => ?_)
    have LOOP48 : ∀ (n : Nat) (ea : Int64) (eb : Int64), (skI n ea eb) → (skM (fun x => sp_X8_sign (sp_X8_valueOf zA zB zC zD k x 16)) (sp_X8_sign (sp_X8_valueOf zA zB zC zD k (jshl (zF k).toInt64 16) 16)) n ea eb = skQ zA zB zC zD zF zT k 16) → ∀ (H : Heap) (locs : List Loc), va_P D vwCl (wM y h q tw pn ki on ot ab be zA zB zC zD zF zT fo lw hg at_ tl th wo wl wh is_ lo_ hi_ di su an) H → va_D A (wM y h q tw pn ki on ot ab be zA zB zC zD zF zT fo lw hg at_ tl th wo wl wh is_ lo_ hi_ di su an) → va_S A s.heap H locs → ∀ (ls : Array Slot), lv_has ls 14 [(0, .ref h), (1, .int (nI k)), (2, .int (nI p)), (3, .int 16), (4, .long ea), (6, .long eb), (8, .long (sp_X8_sign (sp_X8_valueOf zA zB zC zD k (jshl (zF k).toInt64 16) 16)))] → W pg l e (headSpec wsX8_seeks ({ frames := 1, cells := 0, slots := 0, locals := 28 } : Room)).room s m (([.ref h, .int (nI k), .int (nI p)] : List Value).toArray) below meth c H locs 0 0 (MQ below (gQ D (wM y h q tw pn ki on ot ab be zA zB zC zD zF zT fo lw hg at_ tl th wo wl wh is_ lo_ hi_ di su an) (gF none (wM y h q tw pn ki on ot ab be zA zB zC zD zF zT fo lw hg at_ tl th wo wl wh true (sp_X8_seeks_lo_ zA zB zC zD zF zT k p) (sp_X8_seeks_hi_ zA zB zC zD zF zT k p) di su an))) (([.ref h, .int (nI k), .int (nI p)] : List Value).toArray) s 0 0 (va_A (wM y h q tw pn ki on ot ab be zA zB zC zD zF zT fo lw hg at_ tl th wo wl wh is_ lo_ hi_ di su an) s.heap.size)) (F0 m 48 ls []) := by
      intro n
      induction n with
      | zero =>
        intro ea eb hm hF H locs hP hD hS ls hl
        refine lv_lload hx hb dX8_seeks_48 (lv_at hl 5 rfl) ?_
        refine lv_lload hx hb dX8_seeks_50 (lv_at hl 4 rfl) ?_
        refine lv_lsub hx hb dX8_seeks_52 ?_
        refine lv_lconst (v := 1) hx hb dX8_seeks_53 (by decide) ?_
        refine g_le (tgt := 136) hx hb dX8_seeks_54 dX8_seeks_55 (by decide) (fun c_54 => ?_) (fun c_54 => absurd (skI_zero hm) c_54)
        refine lv_aload_n hx hb dX8_seeks_136 rfl (lv_at hl 0 rfl) ?_
        refine lv_lload hx hb dX8_seeks_137 (lv_at hl 4 rfl) ?_
        refine lv_iload_n hx hb dX8_seeks_139 rfl (lv_at hl 2 rfl) ?_
        refine lv_iload_n hx hb dX8_seeks_140 rfl (lv_at hl 3 rfl) ?_
        refine lv_isub hx hb dX8_seeks_141 ?_
        refine lv_lshl (v := jshl ea ((nI p) - 16)) hx hb dX8_seeks_142 rfl ?_
        refine lv_lload hx hb dX8_seeks_143 (lv_at hl 5 rfl) ?_
        refine lv_iload_n hx hb dX8_seeks_145 rfl (lv_at hl 2 rfl) ?_
        refine lv_iload_n hx hb dX8_seeks_146 rfl (lv_at hl 3 rfl) ?_
        refine lv_isub hx hb dX8_seeks_147 ?_
        refine lv_lshl (v := jshl eb ((nI p) - 16)) hx hb dX8_seeks_148 rfl ?_
        refine g_callAv (w0 := wM y h q tw pn ki on ot ab be zA zB zC zD zF zT fo lw hg at_ tl th wo wl wh true (jshl ea ((nI p) - 16)) (jshl eb ((nI p) - 16)) di su an) (va_runV (As := [.long (jshl ea ((nI p) - 16)), .long (jshl eb ((nI p) - 16))]) (rest := []) ⟨hx, hb, hml, hown, hts⟩ (c_X8_sets l D y H.size h q tw pn ki on ot ab be zA zB zC zD zF zT fo lw hg at_ tl th wo wl wh is_ lo_ hi_ di su an (jshl ea ((nI p) - 16)) (jshl eb ((nI p) - 16))) (cwV 2 hts gX8_seeks_X8_sets rfl rfl rfl (by decide +kernel) ⟨Nat.le_of_ble_eq_true rfl, Nat.le_of_ble_eq_true rfl⟩) (gP_VA hP hD hK 0 rfl rfl) rfl rfl hl.1 rfl (lv_room (Nat.le_of_ble_eq_true rfl)) dX8_seeks_149 ⟨Nat.zero_le _, Nat.zero_le _⟩) hP hD hS hA rfl (fun H locs hP hD hS => ?_)
        exact W.vret hx hb hr (fun t ht hW => ⟨⟨none, wM y h q tw pn ki on ot ab be zA zB zC zD zF zT fo lw hg at_ tl th wo wl wh true (jshl ea ((nI p) - 16)) (jshl eb ((nI p) - 16)) di su an, rfl, ⟨rfl, by simp only [sp_X8_seeks_lo_, sp_X8_seeks_hi_, if_neg c_3]; rw [← hF]; rfl⟩, rfl, by rw [ht]; exact hP⟩, by rw [← hAe]; exact hS.F ht⟩) (by rw [← hAe]; exact hS.2.2) dX8_seeks_152
      | succ n ih48 =>
        intro ea eb hm hF H locs hP hD hS ls hl
        refine lv_lload hx hb dX8_seeks_48 (lv_at hl 5 rfl) ?_
        refine lv_lload hx hb dX8_seeks_50 (lv_at hl 4 rfl) ?_
        refine lv_lsub hx hb dX8_seeks_52 ?_
        refine lv_lconst (v := 1) hx hb dX8_seeks_53 (by decide) ?_
        refine g_le (tgt := 136) hx hb dX8_seeks_54 dX8_seeks_55 (by decide) (fun c_54 => ?_) (fun c_54 => ?_)
        · skip
          refine lv_aload_n hx hb dX8_seeks_136 rfl (lv_at hl 0 rfl) ?_
          refine lv_lload hx hb dX8_seeks_137 (lv_at hl 4 rfl) ?_
          refine lv_iload_n hx hb dX8_seeks_139 rfl (lv_at hl 2 rfl) ?_
          refine lv_iload_n hx hb dX8_seeks_140 rfl (lv_at hl 3 rfl) ?_
          refine lv_isub hx hb dX8_seeks_141 ?_
          refine lv_lshl (v := jshl ea ((nI p) - 16)) hx hb dX8_seeks_142 rfl ?_
          refine lv_lload hx hb dX8_seeks_143 (lv_at hl 5 rfl) ?_
          refine lv_iload_n hx hb dX8_seeks_145 rfl (lv_at hl 2 rfl) ?_
          refine lv_iload_n hx hb dX8_seeks_146 rfl (lv_at hl 3 rfl) ?_
          refine lv_isub hx hb dX8_seeks_147 ?_
          refine lv_lshl (v := jshl eb ((nI p) - 16)) hx hb dX8_seeks_148 rfl ?_
          refine g_callAv (w0 := wM y h q tw pn ki on ot ab be zA zB zC zD zF zT fo lw hg at_ tl th wo wl wh true (jshl ea ((nI p) - 16)) (jshl eb ((nI p) - 16)) di su an) (va_runV (As := [.long (jshl ea ((nI p) - 16)), .long (jshl eb ((nI p) - 16))]) (rest := []) ⟨hx, hb, hml, hown, hts⟩ (c_X8_sets l D y H.size h q tw pn ki on ot ab be zA zB zC zD zF zT fo lw hg at_ tl th wo wl wh is_ lo_ hi_ di su an (jshl ea ((nI p) - 16)) (jshl eb ((nI p) - 16))) (cwV 2 hts gX8_seeks_X8_sets rfl rfl rfl (by decide +kernel) ⟨Nat.le_of_ble_eq_true rfl, Nat.le_of_ble_eq_true rfl⟩) (gP_VA hP hD hK 0 rfl rfl) rfl rfl hl.1 rfl (lv_room (Nat.le_of_ble_eq_true rfl)) dX8_seeks_149 ⟨Nat.zero_le _, Nat.zero_le _⟩) hP hD hS hA rfl (fun H locs hP hD hS => ?_)
          exact W.vret hx hb hr (fun t ht hW => ⟨⟨none, wM y h q tw pn ki on ot ab be zA zB zC zD zF zT fo lw hg at_ tl th wo wl wh true (jshl ea ((nI p) - 16)) (jshl eb ((nI p) - 16)) di su an, rfl, ⟨rfl, by simp only [sp_X8_seeks_lo_, sp_X8_seeks_hi_, if_neg c_3]; rw [← hF, skM, if_pos c_54]⟩, rfl, by rw [ht]; exact hP⟩, by rw [← hAe]; exact hS.F ht⟩) (by rw [← hAe]; exact hS.2.2) dX8_seeks_152
        · skip
          refine lv_lload hx hb dX8_seeks_58 (lv_at hl 4 rfl) ?_
          refine lv_lload hx hb dX8_seeks_60 (lv_at hl 5 rfl) ?_
          refine lv_lload hx hb dX8_seeks_62 (lv_at hl 4 rfl) ?_
          refine lv_lsub hx hb dX8_seeks_64 ?_
          refine lv_ldc2 (v := 2) hx hb hown (hts (.constantLong RX8 137 (2)) (List.mem_of_getElem? (i := 3) rfl)) dX8_seeks_65 ?_
          refine lv_ldiv hx hb dX8_seeks_68 (by decide) ?_
          refine lv_ladd hx hb dX8_seeks_69 ?_
          refine lv_topl (fun mid emid => ?_)
          refine lv_lstore (lv' := [(10, .long mid), (0, .ref h), (1, .int (nI k)), (2, .int (nI p)), (3, .int 16), (4, .long ea), (6, .long eb), (8, .long (sp_X8_sign (sp_X8_valueOf zA zB zC zD k (jshl (zF k).toInt64 16) 16)))]) hx hb dX8_seeks_70 hl (by decide) rfl (fun ls hl => ?_)
          refine lv_aload_n hx hb dX8_seeks_72 rfl (lv_at hl 1 rfl) ?_
          refine lv_iload_n hx hb dX8_seeks_73 rfl (lv_at hl 2 rfl) ?_
          refine lv_lload hx hb dX8_seeks_74 (lv_at hl 0 rfl) ?_
          refine lv_iload_n hx hb dX8_seeks_76 rfl (lv_at hl 4 rfl) ?_
          refine g_callR (v0 := .long (sp_X8_valueOf zA zB zC zD k mid 16)) (va_runV (As := [.int (nI k), .long mid, .int 16]) (rest := []) ⟨hx, hb, hml, hown, hts⟩ (c_X8_valueOf l D y H.size h q tw pn ki on ot ab be zA zB zC zD zF zT fo lw hg at_ tl th wo wl wh is_ lo_ hi_ di su an k mid 16 hk) (cwV 3 hts gX8_seeks_X8_valueOf rfl rfl rfl (by decide +kernel) ⟨Nat.le_of_ble_eq_true rfl, Nat.le_of_ble_eq_true rfl⟩) (gP_VA hP hD hK 0 rfl rfl) rfl rfl hl.1 rfl (lv_room (Nat.le_of_ble_eq_true rfl)) dX8_seeks_77 ⟨Nat.zero_le _, Nat.zero_le _⟩) ?_
          refine g_callR (v0 := .long (sp_X8_sign (sp_X8_valueOf zA zB zC zD k mid 16))) (va_runS (As := [.long (sp_X8_valueOf zA zB zC zD k mid 16)]) (rest := []) ⟨hx, hb, hml, hown, hts⟩ (c_X8_sign l D y H.size (sp_X8_valueOf zA zB zC zD k mid 16)) (va_cwS 1 hts gX8_seeks_X8_sign rfl rfl rfl (by decide +kernel) ⟨Nat.le_of_ble_eq_true rfl, Nat.le_of_ble_eq_true rfl⟩) (gP_S hP hD hK [] (by decide) rfl) rfl rfl hl.1 rfl (lv_room (Nat.le_of_ble_eq_true rfl)) dX8_seeks_80 ⟨Nat.zero_le _, Nat.zero_le _⟩) ?_
          refine lv_topl (fun at0 eat => ?_)
          refine lv_lstore (lv' := [(12, .long at0), (10, .long mid), (0, .ref h), (1, .int (nI k)), (2, .int (nI p)), (3, .int 16), (4, .long ea), (6, .long eb), (8, .long (sp_X8_sign (sp_X8_valueOf zA zB zC zD k (jshl (zF k).toInt64 16) 16)))]) hx hb dX8_seeks_83 hl (by decide) rfl (fun ls hl => ?_)
          refine lv_lload hx hb dX8_seeks_85 (lv_at hl 0 rfl) ?_
          refine lv_lconst (v := 0) hx hb dX8_seeks_87 (by decide) ?_
          refine g_eq (tgt := 100) hx hb dX8_seeks_88 dX8_seeks_89 (by decide) (fun c_88 => ?_) (fun c_88 => ?_)
          · skip
            refine lv_lload hx hb dX8_seeks_100 (lv_at hl 1 rfl) ?_
            refine lv_goto (tgt := 107) hx hb dX8_seeks_102 (by decide) ?_
            refine lv_lstore (lv' := [(4, .long mid), (12, .long at0), (10, .long mid), (0, .ref h), (1, .int (nI k)), (2, .int (nI p)), (3, .int 16), (6, .long eb), (8, .long (sp_X8_sign (sp_X8_valueOf zA zB zC zD k (jshl (zF k).toInt64 16) 16)))]) hx hb dX8_seeks_107 hl (by decide) rfl (fun ls hl => ?_)
            refine lv_lload hx hb dX8_seeks_109 (lv_at hl 1 rfl) ?_
            refine lv_lconst (v := 0) hx hb dX8_seeks_111 (by decide) ?_
            refine g_eq (tgt := 124) hx hb dX8_seeks_112 dX8_seeks_113 (by decide) (fun c_112 => ?_) (fun c_112 => absurd c_88 c_112)
            refine lv_lload hx hb dX8_seeks_124 (lv_at hl 2 rfl) ?_
            refine lv_goto (tgt := 131) hx hb dX8_seeks_126 (by decide) ?_
            refine lv_lstore (lv' := [(6, .long mid), (4, .long mid), (12, .long at0), (10, .long mid), (0, .ref h), (1, .int (nI k)), (2, .int (nI p)), (3, .int 16), (8, .long (sp_X8_sign (sp_X8_valueOf zA zB zC zD k (jshl (zF k).toInt64 16) 16)))]) hx hb dX8_seeks_131 hl (by decide) rfl (fun ls hl => ?_)
            refine lv_goto (tgt := 48) hx hb dX8_seeks_133 (by decide) ?_
            exact ih48 mid mid ((skI_step hm c_54 emid).2.2) (by rw [← hF, skM_step c_54 emid eat]; simp only [if_pos c_88]) _ _ hP hD hS ls (lv_sub hl [4, 5, 6, 7, 1, 0, 8] rfl)
          · skip
            refine lv_lload hx hb dX8_seeks_92 (lv_at hl 0 rfl) ?_
            refine lv_lload hx hb dX8_seeks_94 (lv_at hl 8 rfl) ?_
            refine g_ne (tgt := 105) hx hb dX8_seeks_96 dX8_seeks_97 (by decide) (fun c_96 => ?_) (fun c_96 => ?_)
            · skip
              refine lv_lload hx hb dX8_seeks_105 (lv_at hl 6 rfl) ?_
              refine lv_lstore (lv' := [(4, .long ea), (12, .long at0), (10, .long mid), (0, .ref h), (1, .int (nI k)), (2, .int (nI p)), (3, .int 16), (6, .long eb), (8, .long (sp_X8_sign (sp_X8_valueOf zA zB zC zD k (jshl (zF k).toInt64 16) 16)))]) hx hb dX8_seeks_107 hl (by decide) rfl (fun ls hl => ?_)
              refine lv_lload hx hb dX8_seeks_109 (lv_at hl 1 rfl) ?_
              refine lv_lconst (v := 0) hx hb dX8_seeks_111 (by decide) ?_
              refine g_eq (tgt := 124) hx hb dX8_seeks_112 dX8_seeks_113 (by decide) (fun c_112 => absurd c_112 c_88) (fun c_112 => ?_)
              refine lv_lload hx hb dX8_seeks_116 (lv_at hl 1 rfl) ?_
              refine lv_lload hx hb dX8_seeks_118 (lv_at hl 8 rfl) ?_
              refine g_eq (tgt := 129) hx hb dX8_seeks_120 dX8_seeks_121 (by decide) (fun c_120 => absurd c_120 c_96) (fun c_120 => ?_)
              refine lv_lload hx hb dX8_seeks_124 (lv_at hl 2 rfl) ?_
              refine lv_goto (tgt := 131) hx hb dX8_seeks_126 (by decide) ?_
              refine lv_lstore (lv' := [(6, .long mid), (4, .long ea), (12, .long at0), (10, .long mid), (0, .ref h), (1, .int (nI k)), (2, .int (nI p)), (3, .int 16), (8, .long (sp_X8_sign (sp_X8_valueOf zA zB zC zD k (jshl (zF k).toInt64 16) 16)))]) hx hb dX8_seeks_131 hl (by decide) rfl (fun ls hl => ?_)
              refine lv_goto (tgt := 48) hx hb dX8_seeks_133 (by decide) ?_
              exact ih48 ea mid ((skI_step hm c_54 emid).1) (by rw [← hF, skM_step c_54 emid eat]; simp only [if_neg c_88, if_neg c_96]) _ _ hP hD hS ls (lv_sub hl [4, 5, 6, 7, 1, 0, 8] rfl)
            · skip
              refine lv_lload hx hb dX8_seeks_100 (lv_at hl 1 rfl) ?_
              refine lv_goto (tgt := 107) hx hb dX8_seeks_102 (by decide) ?_
              refine lv_lstore (lv' := [(4, .long mid), (12, .long at0), (10, .long mid), (0, .ref h), (1, .int (nI k)), (2, .int (nI p)), (3, .int 16), (6, .long eb), (8, .long (sp_X8_sign (sp_X8_valueOf zA zB zC zD k (jshl (zF k).toInt64 16) 16)))]) hx hb dX8_seeks_107 hl (by decide) rfl (fun ls hl => ?_)
              refine lv_lload hx hb dX8_seeks_109 (lv_at hl 1 rfl) ?_
              refine lv_lconst (v := 0) hx hb dX8_seeks_111 (by decide) ?_
              refine g_eq (tgt := 124) hx hb dX8_seeks_112 dX8_seeks_113 (by decide) (fun c_112 => absurd c_112 c_88) (fun c_112 => ?_)
              refine lv_lload hx hb dX8_seeks_116 (lv_at hl 1 rfl) ?_
              refine lv_lload hx hb dX8_seeks_118 (lv_at hl 8 rfl) ?_
              refine g_eq (tgt := 129) hx hb dX8_seeks_120 dX8_seeks_121 (by decide) (fun c_120 => ?_) (fun c_120 => absurd c_96 c_120)
              refine lv_lload hx hb dX8_seeks_129 (lv_at hl 7 rfl) ?_
              refine lv_lstore (lv' := [(6, .long eb), (4, .long mid), (12, .long at0), (10, .long mid), (0, .ref h), (1, .int (nI k)), (2, .int (nI p)), (3, .int 16), (8, .long (sp_X8_sign (sp_X8_valueOf zA zB zC zD k (jshl (zF k).toInt64 16) 16)))]) hx hb dX8_seeks_131 hl (by decide) rfl (fun ls hl => ?_)
              refine lv_goto (tgt := 48) hx hb dX8_seeks_133 (by decide) ?_
              exact ih48 mid eb ((skI_step hm c_54 emid).2.1) (by rw [← hF, skM_step c_54 emid eat]; simp only [if_neg c_88, if_pos c_96]) _ _ hP hD hS ls (lv_sub hl [4, 5, 6, 7, 1, 0, 8] rfl)
    exact LOOP48 18 (jshl ((zF k).toInt64) 16) (jshl ((zT k).toInt64) 16) (hs _ (Nat.le_refl 16)) (rfl) _ _ hP hD hS ls (lv_sub hl [4, 5, 6, 3, 2, 1, 0] rfl)
theorem gU_ne {p : Nat} (hp : p < 63) : ¬ jshl 1 (nI p) = 0 := by
  have h : ∀ p : Fin 63, ¬ jshl 1 (nI p.val) = 0 := by decide +kernel
  exact h ⟨p, hp⟩
def sp_X8_makes_0_is_ (ab : Nat → Int32) (be : Nat → Int32) (k : Nat) (p : Nat) : Bool := if (sp_X8_cut (jshl ((ab k).toInt64) (nI p)) ((be k).toInt64)) < (-(jshl 64 (nI p))) then false else if (jshl 64 (nI p)) < (sp_X8_fill (jshl ((ab k).toInt64) (nI p)) ((be k).toInt64)) then false else if (jshl 64 (nI p)) < (sp_X8_cut (jshl ((ab k).toInt64) (nI p)) ((be k).toInt64)) then false else if (sp_X8_fill (jshl ((ab k).toInt64) (nI p)) ((be k).toInt64)) < (-(jshl 64 (nI p))) then false else true
theorem in_X8_makes_X8 : ∀ w ∈ wsX80, w ∈ wsX8_makes := fun _ h => List.mem_cons_of_mem _ (List.mem_append_right _ h)
set_option maxHeartbeats 4000000 in
set_option maxRecDepth 100000 in
theorem c_X8_makes_0 (l : Launch) (D : va_G) (y : Nat → ClassId) (sz : Nat) (h : Nat) (q : Nat → Nat) (tw : Int32) (pn : Nat) (ki on ot ab be zA zB zC zD zF zT : Nat → Int32) (fo : Nat → Bool) (lw hg : Nat → Int64) (at_ : Nat → Bool) (tl th : Nat → Int64) (wo : Nat → Bool) (wl wh : Nat → Int64) (is_ : Bool) (lo_ hi_ : Int64) (di : Nat → Int32) (su : Nat → Int64) (an : Nat → Bool) (k p : Nat) (al ah bl bh : Int64) (hk : k < 40) (hp : p < 25) (hki : ki k = 0) (hne : ¬ (be k).toInt64 = 0) : Met l yX8_makes wsX8_makes ({ frames := 3, cells := 0, slots := 0, locals := 90 } : Room) (gP D y [.ref h, .int (nI k), .int (nI p), .long al, .long ah, .long bl, .long bh] (wM y h q tw pn ki on ot ab be zA zB zC zD zF zT fo lw hg at_ tl th wo wl wh is_ lo_ hi_ di su an) sz) (gQ D (wM y h q tw pn ki on ot ab be zA zB zC zD zF zT fo lw hg at_ tl th wo wl wh is_ lo_ hi_ di su an) (gF none (wM y h q tw pn ki on ot ab be zA zB zC zD zF zT fo lw hg at_ tl th wo wl wh (sp_X8_makes_0_is_ ab be k p) (sp_X8_cut (jshl ((ab k).toInt64) (nI p)) ((be k).toInt64)) (sp_X8_fill (jshl ((ab k).toInt64) (nI p)) ((be k).toInt64)) di su an))) 0 0 (va_A (wM y h q tw pn ki on ot ab be zA zB zC zD zF zT fo lw hg at_ tl th wo wl wh is_ lo_ hi_ di su an) sz) := by
  refine Met.ofW (cc := cX8_makes) (maxL := 13) (ret := none) (by decide) rfl ?_
  intro pg e s m args below meth c s₁ B hml hv
  obtain ⟨rfl, hsz, hP, hK, hD0⟩ := hv
  have hx := B.exec
  have hb := B.bytes
  have hr := B.returns
  have hts := atoms_spec (ws := wsX8_makes) B.pre
  have hown : s.vm.findClass RX8 = some m.cls := findClass_of_methodNamed B.named
  have hlocks := B.notSynchronized
  subst hsz
  obtain ⟨A, hAe⟩ : ∃ A : Nat → Prop, A = va_A (wM y h q tw pn ki on ot ab be zA zB zC zD zF zT fo lw hg at_ tl th wo wl wh is_ lo_ hi_ di su an) s.heap.size := ⟨_, rfl⟩
  have hD : va_D A (wM y h q tw pn ki on ot ab be zA zB zC zD zF zT fo lw hg at_ tl th wo wl wh is_ lo_ hi_ di su an) := by rw [hAe]; exact hD0.self (sz := s.heap.size)
  have hA : ∀ q : Nat, s.heap.size ≤ q → A q := fun q h => by rw [hAe]; exact Or.inr h
  have hS : va_S A s.heap s.heap [] := va_S.rf
  have hl := lv_entry ([.ref h, .int (nI k), .int (nI p), .long al, .long ah, .long bl, .long bh]) (n := 13) (Nat.le_of_ble_eq_true rfl)
  rw [lg_entry_eq]
  generalize (lg_sl ([.ref h, .int (nI k), .int (nI p), .long al, .long ah, .long bl, .long bh]) ++ List.replicate (13 - (lg_sl ([.ref h, .int (nI k), .int (nI p), .long al, .long ah, .long bl, .long bh])).length) Slot.unset).toArray = ls at hl ⊢
  have hl : lv_has ls 13 [(0, .ref h), (1, .int (nI k)), (2, .int (nI p)), (3, .long al), (5, .long ah), (7, .long bl), (9, .long bh)] := hl
  refine lv_aload_n hx hb dX8_makes_0 rfl (lv_at hl 0 rfl) ?_
  refine va_get (D := D) (ci := 6) (v := .ref (q 2)) (C := RX8) (T := TX8) (N := 28) hx hb hts in_X8_makes_X8 hown hK.1 hP 0 rfl rfl 2 (by decide) (hts (.fieldLink RX8 7 "NestlimitModel" "kinds" "[I") (List.mem_of_getElem? (i := 1) rfl)) (fun _ h9 => h9) rfl dX8_makes_1 ?_
  refine lv_iload_n hx hb dX8_makes_4 rfl (lv_at hl 1 rfl) ?_
  refine g_iald (k := k) hx hb hK.1 hP 1 0 rfl rfl (hk) (by decide) dX8_makes_5 ?_
  refine g_topi (y := 0) (hki) ?_
  refine lv_tableIn (off := 46) (tgt := 52) hx hb dX8_makes_6 (by decide) (by decide) rfl (by decide) ?_
  refine lv_aload_n hx hb dX8_makes_52 rfl (lv_at hl 0 rfl) ?_
  refine lv_aload_n hx hb dX8_makes_53 rfl (lv_at hl 0 rfl) ?_
  refine va_get (D := D) (ci := 6) (v := .ref (q 5)) (C := RX8) (T := TX8) (N := 28) hx hb hts in_X8_makes_X8 hown hK.1 hP 0 rfl rfl 5 (by decide) (hts (.fieldLink RX8 19 "NestlimitModel" "above" "[I") (List.mem_of_getElem? (i := 2) rfl)) (fun _ h9 => h9) rfl dX8_makes_54 ?_
  refine lv_iload_n hx hb dX8_makes_57 rfl (lv_at hl 1 rfl) ?_
  refine g_iald (k := k) hx hb hK.1 hP 4 0 rfl rfl (hk) (by decide) dX8_makes_58 ?_
  refine lv_i2l (v := (ab k).toInt64) hx hb dX8_makes_59 rfl ?_
  refine lv_iload_n hx hb dX8_makes_60 rfl (lv_at hl 2 rfl) ?_
  refine lv_lshl (v := jshl ((ab k).toInt64) (nI p)) hx hb dX8_makes_61 rfl ?_
  refine lv_aload_n hx hb dX8_makes_62 rfl (lv_at hl 0 rfl) ?_
  refine va_get (D := D) (ci := 6) (v := .ref (q 6)) (C := RX8) (T := TX8) (N := 28) hx hb hts in_X8_makes_X8 hown hK.1 hP 0 rfl rfl 6 (by decide) (hts (.fieldLink RX8 22 "NestlimitModel" "below" "[I") (List.mem_of_getElem? (i := 3) rfl)) (fun _ h9 => h9) rfl dX8_makes_63 ?_
  refine lv_iload_n hx hb dX8_makes_66 rfl (lv_at hl 1 rfl) ?_
  refine g_iald (k := k) hx hb hK.1 hP 5 0 rfl rfl (hk) (by decide) dX8_makes_67 ?_
  refine lv_i2l (v := (be k).toInt64) hx hb dX8_makes_68 rfl ?_
  refine g_callR (v0 := .long (sp_X8_cut (jshl ((ab k).toInt64) (nI p)) ((be k).toInt64))) (va_runS (As := [.long (jshl ((ab k).toInt64) (nI p)), .long ((be k).toInt64)]) (rest := [.ref h]) ⟨hx, hb, hml, hown, hts⟩ (c_X8_cut l D y s.heap.size (jshl ((ab k).toInt64) (nI p)) ((be k).toInt64) hne) (va_cwS 2 hts gX8_makes_X8_cut rfl rfl rfl (by decide +kernel) ⟨Nat.le_of_ble_eq_true rfl, Nat.le_of_ble_eq_true rfl⟩) (gP_S hP hD hK [] (by decide) rfl) rfl rfl hl.1 rfl (lv_room (Nat.le_of_ble_eq_true rfl)) dX8_makes_69 ⟨Nat.zero_le _, Nat.zero_le _⟩) ?_
  refine lv_aload_n hx hb dX8_makes_72 rfl (lv_at hl 0 rfl) ?_
  refine va_get (D := D) (ci := 6) (v := .ref (q 5)) (C := RX8) (T := TX8) (N := 28) hx hb hts in_X8_makes_X8 hown hK.1 hP 0 rfl rfl 5 (by decide) (hts (.fieldLink RX8 19 "NestlimitModel" "above" "[I") (List.mem_of_getElem? (i := 2) rfl)) (fun _ h9 => h9) rfl dX8_makes_73 ?_
  refine lv_iload_n hx hb dX8_makes_76 rfl (lv_at hl 1 rfl) ?_
  refine g_iald (k := k) hx hb hK.1 hP 4 0 rfl rfl (hk) (by decide) dX8_makes_77 ?_
  refine lv_i2l (v := (ab k).toInt64) hx hb dX8_makes_78 rfl ?_
  refine lv_iload_n hx hb dX8_makes_79 rfl (lv_at hl 2 rfl) ?_
  refine lv_lshl (v := jshl ((ab k).toInt64) (nI p)) hx hb dX8_makes_80 rfl ?_
  refine lv_aload_n hx hb dX8_makes_81 rfl (lv_at hl 0 rfl) ?_
  refine va_get (D := D) (ci := 6) (v := .ref (q 6)) (C := RX8) (T := TX8) (N := 28) hx hb hts in_X8_makes_X8 hown hK.1 hP 0 rfl rfl 6 (by decide) (hts (.fieldLink RX8 22 "NestlimitModel" "below" "[I") (List.mem_of_getElem? (i := 3) rfl)) (fun _ h9 => h9) rfl dX8_makes_82 ?_
  refine lv_iload_n hx hb dX8_makes_85 rfl (lv_at hl 1 rfl) ?_
  refine g_iald (k := k) hx hb hK.1 hP 5 0 rfl rfl (hk) (by decide) dX8_makes_86 ?_
  refine lv_i2l (v := (be k).toInt64) hx hb dX8_makes_87 rfl ?_
  refine g_callR (v0 := .long (sp_X8_fill (jshl ((ab k).toInt64) (nI p)) ((be k).toInt64))) (va_runS (As := [.long (jshl ((ab k).toInt64) (nI p)), .long ((be k).toInt64)]) (rest := [.long (sp_X8_cut (jshl ((ab k).toInt64) (nI p)) ((be k).toInt64)), .ref h]) ⟨hx, hb, hml, hown, hts⟩ (c_X8_fill l D y s.heap.size (jshl ((ab k).toInt64) (nI p)) ((be k).toInt64) hne) (va_cwS 2 hts gX8_makes_X8_fill rfl rfl rfl (by decide +kernel) ⟨Nat.le_of_ble_eq_true rfl, Nat.le_of_ble_eq_true rfl⟩) (gP_S hP hD hK [] (by decide) rfl) rfl rfl hl.1 rfl (lv_room (Nat.le_of_ble_eq_true rfl)) dX8_makes_88 ⟨Nat.zero_le _, Nat.zero_le _⟩) ?_
  refine g_callAv (w0 := wM y h q tw pn ki on ot ab be zA zB zC zD zF zT fo lw hg at_ tl th wo wl wh true (sp_X8_cut (jshl ((ab k).toInt64) (nI p)) ((be k).toInt64)) (sp_X8_fill (jshl ((ab k).toInt64) (nI p)) ((be k).toInt64)) di su an) (va_runV (As := [.long (sp_X8_cut (jshl ((ab k).toInt64) (nI p)) ((be k).toInt64)), .long (sp_X8_fill (jshl ((ab k).toInt64) (nI p)) ((be k).toInt64))]) (rest := []) ⟨hx, hb, hml, hown, hts⟩ (c_X8_sets l D y s.heap.size h q tw pn ki on ot ab be zA zB zC zD zF zT fo lw hg at_ tl th wo wl wh is_ lo_ hi_ di su an (sp_X8_cut (jshl ((ab k).toInt64) (nI p)) ((be k).toInt64)) (sp_X8_fill (jshl ((ab k).toInt64) (nI p)) ((be k).toInt64))) (cwV 2 hts gX8_makes_X8_sets rfl rfl rfl (by decide +kernel) ⟨Nat.le_of_ble_eq_true rfl, Nat.le_of_ble_eq_true rfl⟩) (gP_VA hP hD hK 0 rfl rfl) rfl rfl hl.1 rfl (lv_room (Nat.le_of_ble_eq_true rfl)) dX8_makes_91 ⟨Nat.zero_le _, Nat.zero_le _⟩) hP hD hS hA rfl (fun H locs hP hD hS => ?_)
  refine lv_goto (tgt := 203) hx hb dX8_makes_94 (by decide) ?_
  refine lv_ldc2 (v := 64) hx hb hown (hts (.constantLong RX8 153 (64)) (List.mem_of_getElem? (i := 4) rfl)) dX8_makes_203 ?_
  refine lv_iload_n hx hb dX8_makes_206 rfl (lv_at hl 2 rfl) ?_
  refine lv_lshl (v := jshl 64 (nI p)) hx hb dX8_makes_207 rfl ?_
  refine lv_lstore (lv' := [(11, .long (jshl 64 (nI p))), (0, .ref h), (1, .int (nI k)), (2, .int (nI p)), (3, .long al), (5, .long ah), (7, .long bl), (9, .long bh)]) hx hb dX8_makes_208 hl (by decide) rfl (fun ls hl => ?_)
  refine lv_aload_n hx hb dX8_makes_210 rfl (lv_at hl 1 rfl) ?_
  refine lv_aload_n hx hb dX8_makes_211 rfl (lv_at hl 1 rfl) ?_
  refine va_get (D := D) (ci := 6) (v := .int (gB true)) (C := RX8) (T := TX8) (N := 28) hx hb hts in_X8_makes_X8 hown hK.1 hP 0 rfl rfl 22 (by decide) (hts (.fieldLink RX8 92 "NestlimitModel" "is" "Z") (List.mem_of_getElem? (i := 5) rfl)) (fun _ h9 => h9) rfl dX8_makes_212 ?_
  refine g_beq (tgt := 264) hx hb dX8_makes_215 (by decide) (fun c_215 => absurd c_215 (by decide)) (fun c_215 => ?_)
  refine lv_aload_n hx hb dX8_makes_218 rfl (lv_at hl 1 rfl) ?_
  refine va_get (D := D) (ci := 6) (v := .long (sp_X8_cut (jshl ((ab k).toInt64) (nI p)) ((be k).toInt64))) (C := RX8) (T := TX8) (N := 28) hx hb hts in_X8_makes_X8 hown hK.1 hP 0 rfl rfl 23 (by decide) (hts (.fieldLink RX8 96 "NestlimitModel" "low" "J") (List.mem_of_getElem? (i := 6) rfl)) (fun _ h9 => h9) rfl dX8_makes_219 ?_
  refine lv_lload hx hb dX8_makes_222 (lv_at hl 0 rfl) ?_
  refine lv_lneg hx hb dX8_makes_224 ?_
  refine g_lt (tgt := 264) hx hb dX8_makes_225 dX8_makes_226 (by decide) (fun c_225 => ?_) (fun c_225 => ?_)
  · skip
    refine lv_iconst (v := 0) hx hb dX8_makes_264 (by decide) ?_
    refine va_put (D := D) (ci := 6) (v := .int (gB false)) (ty := .boolean) (C := RX8) (T := TX8) (N := 28) hx hb hts in_X8_makes_X8 tyX8 tyX8_ok nmX8 hown hK.1 hP hD hS 0 rfl rfl 22 (by decide) (hts (.fieldLink RX8 92 "NestlimitModel" "is" "Z") (List.mem_of_getElem? (i := 5) rfl)) (fun _ h9 => h9) rfl (by decide +kernel) (gB_n _) (gB_f _) (Nat.le_of_ble_eq_true rfl) dX8_makes_265 (fun H locs hP hD hS => ?_)
    have hP : va_P D vwCl (wM y h q tw pn ki on ot ab be zA zB zC zD zF zT fo lw hg at_ tl th wo wl wh false (sp_X8_cut (jshl ((ab k).toInt64) (nI p)) ((be k).toInt64)) (sp_X8_fill (jshl ((ab k).toInt64) (nI p)) ((be k).toInt64)) di su an) H := hP
    have hD : va_D A (wM y h q tw pn ki on ot ab be zA zB zC zD zF zT fo lw hg at_ tl th wo wl wh false (sp_X8_cut (jshl ((ab k).toInt64) (nI p)) ((be k).toInt64)) (sp_X8_fill (jshl ((ab k).toInt64) (nI p)) ((be k).toInt64)) di su an) := hD
    exact W.vret hx hb hr (fun t ht hW => ⟨⟨none, wM y h q tw pn ki on ot ab be zA zB zC zD zF zT fo lw hg at_ tl th wo wl wh false (sp_X8_cut (jshl ((ab k).toInt64) (nI p)) ((be k).toInt64)) (sp_X8_fill (jshl ((ab k).toInt64) (nI p)) ((be k).toInt64)) di su an, rfl, ⟨rfl, by simp only [sp_X8_makes_0_is_, if_pos c_225]⟩, rfl, by rw [ht]; exact hP⟩, by rw [← hAe]; exact hS.F ht⟩) (by rw [← hAe]; exact hS.2.2) dX8_makes_268
  · skip
    refine lv_aload_n hx hb dX8_makes_229 rfl (lv_at hl 1 rfl) ?_
    refine va_get (D := D) (ci := 6) (v := .long (sp_X8_fill (jshl ((ab k).toInt64) (nI p)) ((be k).toInt64))) (C := RX8) (T := TX8) (N := 28) hx hb hts in_X8_makes_X8 hown hK.1 hP 0 rfl rfl 24 (by decide) (hts (.fieldLink RX8 100 "NestlimitModel" "high" "J") (List.mem_of_getElem? (i := 7) rfl)) (fun _ h9 => h9) rfl dX8_makes_230 ?_
    refine lv_lload hx hb dX8_makes_233 (lv_at hl 0 rfl) ?_
    refine g_gt (tgt := 264) hx hb dX8_makes_235 dX8_makes_236 (by decide) (fun c_235 => ?_) (fun c_235 => ?_)
    · skip
      refine lv_iconst (v := 0) hx hb dX8_makes_264 (by decide) ?_
      refine va_put (D := D) (ci := 6) (v := .int (gB false)) (ty := .boolean) (C := RX8) (T := TX8) (N := 28) hx hb hts in_X8_makes_X8 tyX8 tyX8_ok nmX8 hown hK.1 hP hD hS 0 rfl rfl 22 (by decide) (hts (.fieldLink RX8 92 "NestlimitModel" "is" "Z") (List.mem_of_getElem? (i := 5) rfl)) (fun _ h9 => h9) rfl (by decide +kernel) (gB_n _) (gB_f _) (Nat.le_of_ble_eq_true rfl) dX8_makes_265 (fun H locs hP hD hS => ?_)
      have hP : va_P D vwCl (wM y h q tw pn ki on ot ab be zA zB zC zD zF zT fo lw hg at_ tl th wo wl wh false (sp_X8_cut (jshl ((ab k).toInt64) (nI p)) ((be k).toInt64)) (sp_X8_fill (jshl ((ab k).toInt64) (nI p)) ((be k).toInt64)) di su an) H := hP
      have hD : va_D A (wM y h q tw pn ki on ot ab be zA zB zC zD zF zT fo lw hg at_ tl th wo wl wh false (sp_X8_cut (jshl ((ab k).toInt64) (nI p)) ((be k).toInt64)) (sp_X8_fill (jshl ((ab k).toInt64) (nI p)) ((be k).toInt64)) di su an) := hD
      exact W.vret hx hb hr (fun t ht hW => ⟨⟨none, wM y h q tw pn ki on ot ab be zA zB zC zD zF zT fo lw hg at_ tl th wo wl wh false (sp_X8_cut (jshl ((ab k).toInt64) (nI p)) ((be k).toInt64)) (sp_X8_fill (jshl ((ab k).toInt64) (nI p)) ((be k).toInt64)) di su an, rfl, ⟨rfl, by simp only [sp_X8_makes_0_is_, if_neg c_225, if_pos c_235]⟩, rfl, by rw [ht]; exact hP⟩, by rw [← hAe]; exact hS.F ht⟩) (by rw [← hAe]; exact hS.2.2) dX8_makes_268
    · skip
      refine lv_aload_n hx hb dX8_makes_239 rfl (lv_at hl 1 rfl) ?_
      refine va_get (D := D) (ci := 6) (v := .long (sp_X8_cut (jshl ((ab k).toInt64) (nI p)) ((be k).toInt64))) (C := RX8) (T := TX8) (N := 28) hx hb hts in_X8_makes_X8 hown hK.1 hP 0 rfl rfl 23 (by decide) (hts (.fieldLink RX8 96 "NestlimitModel" "low" "J") (List.mem_of_getElem? (i := 6) rfl)) (fun _ h9 => h9) rfl dX8_makes_240 ?_
      refine lv_lload hx hb dX8_makes_243 (lv_at hl 0 rfl) ?_
      refine g_gt (tgt := 264) hx hb dX8_makes_245 dX8_makes_246 (by decide) (fun c_245 => ?_) (fun c_245 => ?_)
      · skip
        refine lv_iconst (v := 0) hx hb dX8_makes_264 (by decide) ?_
        refine va_put (D := D) (ci := 6) (v := .int (gB false)) (ty := .boolean) (C := RX8) (T := TX8) (N := 28) hx hb hts in_X8_makes_X8 tyX8 tyX8_ok nmX8 hown hK.1 hP hD hS 0 rfl rfl 22 (by decide) (hts (.fieldLink RX8 92 "NestlimitModel" "is" "Z") (List.mem_of_getElem? (i := 5) rfl)) (fun _ h9 => h9) rfl (by decide +kernel) (gB_n _) (gB_f _) (Nat.le_of_ble_eq_true rfl) dX8_makes_265 (fun H locs hP hD hS => ?_)
        have hP : va_P D vwCl (wM y h q tw pn ki on ot ab be zA zB zC zD zF zT fo lw hg at_ tl th wo wl wh false (sp_X8_cut (jshl ((ab k).toInt64) (nI p)) ((be k).toInt64)) (sp_X8_fill (jshl ((ab k).toInt64) (nI p)) ((be k).toInt64)) di su an) H := hP
        have hD : va_D A (wM y h q tw pn ki on ot ab be zA zB zC zD zF zT fo lw hg at_ tl th wo wl wh false (sp_X8_cut (jshl ((ab k).toInt64) (nI p)) ((be k).toInt64)) (sp_X8_fill (jshl ((ab k).toInt64) (nI p)) ((be k).toInt64)) di su an) := hD
        exact W.vret hx hb hr (fun t ht hW => ⟨⟨none, wM y h q tw pn ki on ot ab be zA zB zC zD zF zT fo lw hg at_ tl th wo wl wh false (sp_X8_cut (jshl ((ab k).toInt64) (nI p)) ((be k).toInt64)) (sp_X8_fill (jshl ((ab k).toInt64) (nI p)) ((be k).toInt64)) di su an, rfl, ⟨rfl, by simp only [sp_X8_makes_0_is_, if_neg c_225, if_neg c_235, if_pos c_245]⟩, rfl, by rw [ht]; exact hP⟩, by rw [← hAe]; exact hS.F ht⟩) (by rw [← hAe]; exact hS.2.2) dX8_makes_268
      · skip
        refine lv_aload_n hx hb dX8_makes_249 rfl (lv_at hl 1 rfl) ?_
        refine va_get (D := D) (ci := 6) (v := .long (sp_X8_fill (jshl ((ab k).toInt64) (nI p)) ((be k).toInt64))) (C := RX8) (T := TX8) (N := 28) hx hb hts in_X8_makes_X8 hown hK.1 hP 0 rfl rfl 24 (by decide) (hts (.fieldLink RX8 100 "NestlimitModel" "high" "J") (List.mem_of_getElem? (i := 7) rfl)) (fun _ h9 => h9) rfl dX8_makes_250 ?_
        refine lv_lload hx hb dX8_makes_253 (lv_at hl 0 rfl) ?_
        refine lv_lneg hx hb dX8_makes_255 ?_
        refine g_lt (tgt := 264) hx hb dX8_makes_256 dX8_makes_257 (by decide) (fun c_256 => ?_) (fun c_256 => ?_)
        · skip
          refine lv_iconst (v := 0) hx hb dX8_makes_264 (by decide) ?_
          refine va_put (D := D) (ci := 6) (v := .int (gB false)) (ty := .boolean) (C := RX8) (T := TX8) (N := 28) hx hb hts in_X8_makes_X8 tyX8 tyX8_ok nmX8 hown hK.1 hP hD hS 0 rfl rfl 22 (by decide) (hts (.fieldLink RX8 92 "NestlimitModel" "is" "Z") (List.mem_of_getElem? (i := 5) rfl)) (fun _ h9 => h9) rfl (by decide +kernel) (gB_n _) (gB_f _) (Nat.le_of_ble_eq_true rfl) dX8_makes_265 (fun H locs hP hD hS => ?_)
          have hP : va_P D vwCl (wM y h q tw pn ki on ot ab be zA zB zC zD zF zT fo lw hg at_ tl th wo wl wh false (sp_X8_cut (jshl ((ab k).toInt64) (nI p)) ((be k).toInt64)) (sp_X8_fill (jshl ((ab k).toInt64) (nI p)) ((be k).toInt64)) di su an) H := hP
          have hD : va_D A (wM y h q tw pn ki on ot ab be zA zB zC zD zF zT fo lw hg at_ tl th wo wl wh false (sp_X8_cut (jshl ((ab k).toInt64) (nI p)) ((be k).toInt64)) (sp_X8_fill (jshl ((ab k).toInt64) (nI p)) ((be k).toInt64)) di su an) := hD
          exact W.vret hx hb hr (fun t ht hW => ⟨⟨none, wM y h q tw pn ki on ot ab be zA zB zC zD zF zT fo lw hg at_ tl th wo wl wh false (sp_X8_cut (jshl ((ab k).toInt64) (nI p)) ((be k).toInt64)) (sp_X8_fill (jshl ((ab k).toInt64) (nI p)) ((be k).toInt64)) di su an, rfl, ⟨rfl, by simp only [sp_X8_makes_0_is_, if_neg c_225, if_neg c_235, if_neg c_245, if_pos c_256]⟩, rfl, by rw [ht]; exact hP⟩, by rw [← hAe]; exact hS.F ht⟩) (by rw [← hAe]; exact hS.2.2) dX8_makes_268
        · skip
          refine lv_iconst (v := 1) hx hb dX8_makes_260 (by decide) ?_
          refine lv_goto (tgt := 265) hx hb dX8_makes_261 (by decide) ?_
          refine va_put (D := D) (ci := 6) (v := .int (gB true)) (ty := .boolean) (C := RX8) (T := TX8) (N := 28) hx hb hts in_X8_makes_X8 tyX8 tyX8_ok nmX8 hown hK.1 hP hD hS 0 rfl rfl 22 (by decide) (hts (.fieldLink RX8 92 "NestlimitModel" "is" "Z") (List.mem_of_getElem? (i := 5) rfl)) (fun _ h9 => h9) rfl (by decide +kernel) (gB_n _) (gB_f _) (Nat.le_of_ble_eq_true rfl) dX8_makes_265 (fun H locs hP hD hS => ?_)
          have hP : va_P D vwCl (wM y h q tw pn ki on ot ab be zA zB zC zD zF zT fo lw hg at_ tl th wo wl wh true (sp_X8_cut (jshl ((ab k).toInt64) (nI p)) ((be k).toInt64)) (sp_X8_fill (jshl ((ab k).toInt64) (nI p)) ((be k).toInt64)) di su an) H := hP
          have hD : va_D A (wM y h q tw pn ki on ot ab be zA zB zC zD zF zT fo lw hg at_ tl th wo wl wh true (sp_X8_cut (jshl ((ab k).toInt64) (nI p)) ((be k).toInt64)) (sp_X8_fill (jshl ((ab k).toInt64) (nI p)) ((be k).toInt64)) di su an) := hD
          exact W.vret hx hb hr (fun t ht hW => ⟨⟨none, wM y h q tw pn ki on ot ab be zA zB zC zD zF zT fo lw hg at_ tl th wo wl wh true (sp_X8_cut (jshl ((ab k).toInt64) (nI p)) ((be k).toInt64)) (sp_X8_fill (jshl ((ab k).toInt64) (nI p)) ((be k).toInt64)) di su an, rfl, ⟨rfl, by simp only [sp_X8_makes_0_is_, if_neg c_225, if_neg c_235, if_neg c_245, if_neg c_256]⟩, rfl, by rw [ht]; exact hP⟩, by rw [← hAe]; exact hS.F ht⟩) (by rw [← hAe]; exact hS.2.2) dX8_makes_268
def sp_X8_makes_1_is_ (p : Nat) (al : Int64) (ah : Int64) (bl : Int64) (bh : Int64) : Bool := if (al + bl) < (-(jshl 64 (nI p))) then false else if (jshl 64 (nI p)) < (ah + bh) then false else if (jshl 64 (nI p)) < (al + bl) then false else if (ah + bh) < (-(jshl 64 (nI p))) then false else true
set_option maxHeartbeats 4000000 in
set_option maxRecDepth 100000 in
theorem c_X8_makes_1 (l : Launch) (D : va_G) (y : Nat → ClassId) (sz : Nat) (h : Nat) (q : Nat → Nat) (tw : Int32) (pn : Nat) (ki on ot ab be zA zB zC zD zF zT : Nat → Int32) (fo : Nat → Bool) (lw hg : Nat → Int64) (at_ : Nat → Bool) (tl th : Nat → Int64) (wo : Nat → Bool) (wl wh : Nat → Int64) (is_ : Bool) (lo_ hi_ : Int64) (di : Nat → Int32) (su : Nat → Int64) (an : Nat → Bool) (k p : Nat) (al ah bl bh : Int64) (hk : k < 40) (hp : p < 25) (hki : ki k = 1) : Met l yX8_makes wsX8_makes ({ frames := 3, cells := 0, slots := 0, locals := 90 } : Room) (gP D y [.ref h, .int (nI k), .int (nI p), .long al, .long ah, .long bl, .long bh] (wM y h q tw pn ki on ot ab be zA zB zC zD zF zT fo lw hg at_ tl th wo wl wh is_ lo_ hi_ di su an) sz) (gQ D (wM y h q tw pn ki on ot ab be zA zB zC zD zF zT fo lw hg at_ tl th wo wl wh is_ lo_ hi_ di su an) (gF none (wM y h q tw pn ki on ot ab be zA zB zC zD zF zT fo lw hg at_ tl th wo wl wh (sp_X8_makes_1_is_ p al ah bl bh) (al + bl) (ah + bh) di su an))) 0 0 (va_A (wM y h q tw pn ki on ot ab be zA zB zC zD zF zT fo lw hg at_ tl th wo wl wh is_ lo_ hi_ di su an) sz) := by
  refine Met.ofW (cc := cX8_makes) (maxL := 13) (ret := none) (by decide) rfl ?_
  intro pg e s m args below meth c s₁ B hml hv
  obtain ⟨rfl, hsz, hP, hK, hD0⟩ := hv
  have hx := B.exec
  have hb := B.bytes
  have hr := B.returns
  have hts := atoms_spec (ws := wsX8_makes) B.pre
  have hown : s.vm.findClass RX8 = some m.cls := findClass_of_methodNamed B.named
  have hlocks := B.notSynchronized
  subst hsz
  obtain ⟨A, hAe⟩ : ∃ A : Nat → Prop, A = va_A (wM y h q tw pn ki on ot ab be zA zB zC zD zF zT fo lw hg at_ tl th wo wl wh is_ lo_ hi_ di su an) s.heap.size := ⟨_, rfl⟩
  have hD : va_D A (wM y h q tw pn ki on ot ab be zA zB zC zD zF zT fo lw hg at_ tl th wo wl wh is_ lo_ hi_ di su an) := by rw [hAe]; exact hD0.self (sz := s.heap.size)
  have hA : ∀ q : Nat, s.heap.size ≤ q → A q := fun q h => by rw [hAe]; exact Or.inr h
  have hS : va_S A s.heap s.heap [] := va_S.rf
  have hl := lv_entry ([.ref h, .int (nI k), .int (nI p), .long al, .long ah, .long bl, .long bh]) (n := 13) (Nat.le_of_ble_eq_true rfl)
  rw [lg_entry_eq]
  generalize (lg_sl ([.ref h, .int (nI k), .int (nI p), .long al, .long ah, .long bl, .long bh]) ++ List.replicate (13 - (lg_sl ([.ref h, .int (nI k), .int (nI p), .long al, .long ah, .long bl, .long bh])).length) Slot.unset).toArray = ls at hl ⊢
  have hl : lv_has ls 13 [(0, .ref h), (1, .int (nI k)), (2, .int (nI p)), (3, .long al), (5, .long ah), (7, .long bl), (9, .long bh)] := hl
  refine lv_aload_n hx hb dX8_makes_0 rfl (lv_at hl 0 rfl) ?_
  refine va_get (D := D) (ci := 6) (v := .ref (q 2)) (C := RX8) (T := TX8) (N := 28) hx hb hts in_X8_makes_X8 hown hK.1 hP 0 rfl rfl 2 (by decide) (hts (.fieldLink RX8 7 "NestlimitModel" "kinds" "[I") (List.mem_of_getElem? (i := 1) rfl)) (fun _ h9 => h9) rfl dX8_makes_1 ?_
  refine lv_iload_n hx hb dX8_makes_4 rfl (lv_at hl 1 rfl) ?_
  refine g_iald (k := k) hx hb hK.1 hP 1 0 rfl rfl (hk) (by decide) dX8_makes_5 ?_
  refine g_topi (y := 1) (hki) ?_
  refine lv_tableIn (off := 91) (tgt := 97) hx hb dX8_makes_6 (by decide) (by decide) rfl (by decide) ?_
  refine lv_aload_n hx hb dX8_makes_97 rfl (lv_at hl 0 rfl) ?_
  refine lv_lload_n hx hb dX8_makes_98 rfl (lv_at hl 3 rfl) ?_
  refine lv_lload hx hb dX8_makes_99 (lv_at hl 5 rfl) ?_
  refine lv_ladd hx hb dX8_makes_101 ?_
  refine lv_lload hx hb dX8_makes_102 (lv_at hl 4 rfl) ?_
  refine lv_lload hx hb dX8_makes_104 (lv_at hl 6 rfl) ?_
  refine lv_ladd hx hb dX8_makes_106 ?_
  refine g_callAv (w0 := wM y h q tw pn ki on ot ab be zA zB zC zD zF zT fo lw hg at_ tl th wo wl wh true (al + bl) (ah + bh) di su an) (va_runV (As := [.long (al + bl), .long (ah + bh)]) (rest := []) ⟨hx, hb, hml, hown, hts⟩ (c_X8_sets l D y s.heap.size h q tw pn ki on ot ab be zA zB zC zD zF zT fo lw hg at_ tl th wo wl wh is_ lo_ hi_ di su an (al + bl) (ah + bh)) (cwV 2 hts gX8_makes_X8_sets rfl rfl rfl (by decide +kernel) ⟨Nat.le_of_ble_eq_true rfl, Nat.le_of_ble_eq_true rfl⟩) (gP_VA hP hD hK 0 rfl rfl) rfl rfl hl.1 rfl (lv_room (Nat.le_of_ble_eq_true rfl)) dX8_makes_107 ⟨Nat.zero_le _, Nat.zero_le _⟩) hP hD hS hA rfl (fun H locs hP hD hS => ?_)
  refine lv_goto (tgt := 203) hx hb dX8_makes_110 (by decide) ?_
  refine lv_ldc2 (v := 64) hx hb hown (hts (.constantLong RX8 153 (64)) (List.mem_of_getElem? (i := 4) rfl)) dX8_makes_203 ?_
  refine lv_iload_n hx hb dX8_makes_206 rfl (lv_at hl 2 rfl) ?_
  refine lv_lshl (v := jshl 64 (nI p)) hx hb dX8_makes_207 rfl ?_
  refine lv_lstore (lv' := [(11, .long (jshl 64 (nI p))), (0, .ref h), (1, .int (nI k)), (2, .int (nI p)), (3, .long al), (5, .long ah), (7, .long bl), (9, .long bh)]) hx hb dX8_makes_208 hl (by decide) rfl (fun ls hl => ?_)
  refine lv_aload_n hx hb dX8_makes_210 rfl (lv_at hl 1 rfl) ?_
  refine lv_aload_n hx hb dX8_makes_211 rfl (lv_at hl 1 rfl) ?_
  refine va_get (D := D) (ci := 6) (v := .int (gB true)) (C := RX8) (T := TX8) (N := 28) hx hb hts in_X8_makes_X8 hown hK.1 hP 0 rfl rfl 22 (by decide) (hts (.fieldLink RX8 92 "NestlimitModel" "is" "Z") (List.mem_of_getElem? (i := 5) rfl)) (fun _ h9 => h9) rfl dX8_makes_212 ?_
  refine g_beq (tgt := 264) hx hb dX8_makes_215 (by decide) (fun c_215 => absurd c_215 (by decide)) (fun c_215 => ?_)
  refine lv_aload_n hx hb dX8_makes_218 rfl (lv_at hl 1 rfl) ?_
  refine va_get (D := D) (ci := 6) (v := .long (al + bl)) (C := RX8) (T := TX8) (N := 28) hx hb hts in_X8_makes_X8 hown hK.1 hP 0 rfl rfl 23 (by decide) (hts (.fieldLink RX8 96 "NestlimitModel" "low" "J") (List.mem_of_getElem? (i := 6) rfl)) (fun _ h9 => h9) rfl dX8_makes_219 ?_
  refine lv_lload hx hb dX8_makes_222 (lv_at hl 0 rfl) ?_
  refine lv_lneg hx hb dX8_makes_224 ?_
  refine g_lt (tgt := 264) hx hb dX8_makes_225 dX8_makes_226 (by decide) (fun c_225 => ?_) (fun c_225 => ?_)
  · skip
    refine lv_iconst (v := 0) hx hb dX8_makes_264 (by decide) ?_
    refine va_put (D := D) (ci := 6) (v := .int (gB false)) (ty := .boolean) (C := RX8) (T := TX8) (N := 28) hx hb hts in_X8_makes_X8 tyX8 tyX8_ok nmX8 hown hK.1 hP hD hS 0 rfl rfl 22 (by decide) (hts (.fieldLink RX8 92 "NestlimitModel" "is" "Z") (List.mem_of_getElem? (i := 5) rfl)) (fun _ h9 => h9) rfl (by decide +kernel) (gB_n _) (gB_f _) (Nat.le_of_ble_eq_true rfl) dX8_makes_265 (fun H locs hP hD hS => ?_)
    have hP : va_P D vwCl (wM y h q tw pn ki on ot ab be zA zB zC zD zF zT fo lw hg at_ tl th wo wl wh false (al + bl) (ah + bh) di su an) H := hP
    have hD : va_D A (wM y h q tw pn ki on ot ab be zA zB zC zD zF zT fo lw hg at_ tl th wo wl wh false (al + bl) (ah + bh) di su an) := hD
    exact W.vret hx hb hr (fun t ht hW => ⟨⟨none, wM y h q tw pn ki on ot ab be zA zB zC zD zF zT fo lw hg at_ tl th wo wl wh false (al + bl) (ah + bh) di su an, rfl, ⟨rfl, by simp only [sp_X8_makes_1_is_, if_pos c_225]⟩, rfl, by rw [ht]; exact hP⟩, by rw [← hAe]; exact hS.F ht⟩) (by rw [← hAe]; exact hS.2.2) dX8_makes_268
  · skip
    refine lv_aload_n hx hb dX8_makes_229 rfl (lv_at hl 1 rfl) ?_
    refine va_get (D := D) (ci := 6) (v := .long (ah + bh)) (C := RX8) (T := TX8) (N := 28) hx hb hts in_X8_makes_X8 hown hK.1 hP 0 rfl rfl 24 (by decide) (hts (.fieldLink RX8 100 "NestlimitModel" "high" "J") (List.mem_of_getElem? (i := 7) rfl)) (fun _ h9 => h9) rfl dX8_makes_230 ?_
    refine lv_lload hx hb dX8_makes_233 (lv_at hl 0 rfl) ?_
    refine g_gt (tgt := 264) hx hb dX8_makes_235 dX8_makes_236 (by decide) (fun c_235 => ?_) (fun c_235 => ?_)
    · skip
      refine lv_iconst (v := 0) hx hb dX8_makes_264 (by decide) ?_
      refine va_put (D := D) (ci := 6) (v := .int (gB false)) (ty := .boolean) (C := RX8) (T := TX8) (N := 28) hx hb hts in_X8_makes_X8 tyX8 tyX8_ok nmX8 hown hK.1 hP hD hS 0 rfl rfl 22 (by decide) (hts (.fieldLink RX8 92 "NestlimitModel" "is" "Z") (List.mem_of_getElem? (i := 5) rfl)) (fun _ h9 => h9) rfl (by decide +kernel) (gB_n _) (gB_f _) (Nat.le_of_ble_eq_true rfl) dX8_makes_265 (fun H locs hP hD hS => ?_)
      have hP : va_P D vwCl (wM y h q tw pn ki on ot ab be zA zB zC zD zF zT fo lw hg at_ tl th wo wl wh false (al + bl) (ah + bh) di su an) H := hP
      have hD : va_D A (wM y h q tw pn ki on ot ab be zA zB zC zD zF zT fo lw hg at_ tl th wo wl wh false (al + bl) (ah + bh) di su an) := hD
      exact W.vret hx hb hr (fun t ht hW => ⟨⟨none, wM y h q tw pn ki on ot ab be zA zB zC zD zF zT fo lw hg at_ tl th wo wl wh false (al + bl) (ah + bh) di su an, rfl, ⟨rfl, by simp only [sp_X8_makes_1_is_, if_neg c_225, if_pos c_235]⟩, rfl, by rw [ht]; exact hP⟩, by rw [← hAe]; exact hS.F ht⟩) (by rw [← hAe]; exact hS.2.2) dX8_makes_268
    · skip
      refine lv_aload_n hx hb dX8_makes_239 rfl (lv_at hl 1 rfl) ?_
      refine va_get (D := D) (ci := 6) (v := .long (al + bl)) (C := RX8) (T := TX8) (N := 28) hx hb hts in_X8_makes_X8 hown hK.1 hP 0 rfl rfl 23 (by decide) (hts (.fieldLink RX8 96 "NestlimitModel" "low" "J") (List.mem_of_getElem? (i := 6) rfl)) (fun _ h9 => h9) rfl dX8_makes_240 ?_
      refine lv_lload hx hb dX8_makes_243 (lv_at hl 0 rfl) ?_
      refine g_gt (tgt := 264) hx hb dX8_makes_245 dX8_makes_246 (by decide) (fun c_245 => ?_) (fun c_245 => ?_)
      · skip
        refine lv_iconst (v := 0) hx hb dX8_makes_264 (by decide) ?_
        refine va_put (D := D) (ci := 6) (v := .int (gB false)) (ty := .boolean) (C := RX8) (T := TX8) (N := 28) hx hb hts in_X8_makes_X8 tyX8 tyX8_ok nmX8 hown hK.1 hP hD hS 0 rfl rfl 22 (by decide) (hts (.fieldLink RX8 92 "NestlimitModel" "is" "Z") (List.mem_of_getElem? (i := 5) rfl)) (fun _ h9 => h9) rfl (by decide +kernel) (gB_n _) (gB_f _) (Nat.le_of_ble_eq_true rfl) dX8_makes_265 (fun H locs hP hD hS => ?_)
        have hP : va_P D vwCl (wM y h q tw pn ki on ot ab be zA zB zC zD zF zT fo lw hg at_ tl th wo wl wh false (al + bl) (ah + bh) di su an) H := hP
        have hD : va_D A (wM y h q tw pn ki on ot ab be zA zB zC zD zF zT fo lw hg at_ tl th wo wl wh false (al + bl) (ah + bh) di su an) := hD
        exact W.vret hx hb hr (fun t ht hW => ⟨⟨none, wM y h q tw pn ki on ot ab be zA zB zC zD zF zT fo lw hg at_ tl th wo wl wh false (al + bl) (ah + bh) di su an, rfl, ⟨rfl, by simp only [sp_X8_makes_1_is_, if_neg c_225, if_neg c_235, if_pos c_245]⟩, rfl, by rw [ht]; exact hP⟩, by rw [← hAe]; exact hS.F ht⟩) (by rw [← hAe]; exact hS.2.2) dX8_makes_268
      · skip
        refine lv_aload_n hx hb dX8_makes_249 rfl (lv_at hl 1 rfl) ?_
        refine va_get (D := D) (ci := 6) (v := .long (ah + bh)) (C := RX8) (T := TX8) (N := 28) hx hb hts in_X8_makes_X8 hown hK.1 hP 0 rfl rfl 24 (by decide) (hts (.fieldLink RX8 100 "NestlimitModel" "high" "J") (List.mem_of_getElem? (i := 7) rfl)) (fun _ h9 => h9) rfl dX8_makes_250 ?_
        refine lv_lload hx hb dX8_makes_253 (lv_at hl 0 rfl) ?_
        refine lv_lneg hx hb dX8_makes_255 ?_
        refine g_lt (tgt := 264) hx hb dX8_makes_256 dX8_makes_257 (by decide) (fun c_256 => ?_) (fun c_256 => ?_)
        · skip
          refine lv_iconst (v := 0) hx hb dX8_makes_264 (by decide) ?_
          refine va_put (D := D) (ci := 6) (v := .int (gB false)) (ty := .boolean) (C := RX8) (T := TX8) (N := 28) hx hb hts in_X8_makes_X8 tyX8 tyX8_ok nmX8 hown hK.1 hP hD hS 0 rfl rfl 22 (by decide) (hts (.fieldLink RX8 92 "NestlimitModel" "is" "Z") (List.mem_of_getElem? (i := 5) rfl)) (fun _ h9 => h9) rfl (by decide +kernel) (gB_n _) (gB_f _) (Nat.le_of_ble_eq_true rfl) dX8_makes_265 (fun H locs hP hD hS => ?_)
          have hP : va_P D vwCl (wM y h q tw pn ki on ot ab be zA zB zC zD zF zT fo lw hg at_ tl th wo wl wh false (al + bl) (ah + bh) di su an) H := hP
          have hD : va_D A (wM y h q tw pn ki on ot ab be zA zB zC zD zF zT fo lw hg at_ tl th wo wl wh false (al + bl) (ah + bh) di su an) := hD
          exact W.vret hx hb hr (fun t ht hW => ⟨⟨none, wM y h q tw pn ki on ot ab be zA zB zC zD zF zT fo lw hg at_ tl th wo wl wh false (al + bl) (ah + bh) di su an, rfl, ⟨rfl, by simp only [sp_X8_makes_1_is_, if_neg c_225, if_neg c_235, if_neg c_245, if_pos c_256]⟩, rfl, by rw [ht]; exact hP⟩, by rw [← hAe]; exact hS.F ht⟩) (by rw [← hAe]; exact hS.2.2) dX8_makes_268
        · skip
          refine lv_iconst (v := 1) hx hb dX8_makes_260 (by decide) ?_
          refine lv_goto (tgt := 265) hx hb dX8_makes_261 (by decide) ?_
          refine va_put (D := D) (ci := 6) (v := .int (gB true)) (ty := .boolean) (C := RX8) (T := TX8) (N := 28) hx hb hts in_X8_makes_X8 tyX8 tyX8_ok nmX8 hown hK.1 hP hD hS 0 rfl rfl 22 (by decide) (hts (.fieldLink RX8 92 "NestlimitModel" "is" "Z") (List.mem_of_getElem? (i := 5) rfl)) (fun _ h9 => h9) rfl (by decide +kernel) (gB_n _) (gB_f _) (Nat.le_of_ble_eq_true rfl) dX8_makes_265 (fun H locs hP hD hS => ?_)
          have hP : va_P D vwCl (wM y h q tw pn ki on ot ab be zA zB zC zD zF zT fo lw hg at_ tl th wo wl wh true (al + bl) (ah + bh) di su an) H := hP
          have hD : va_D A (wM y h q tw pn ki on ot ab be zA zB zC zD zF zT fo lw hg at_ tl th wo wl wh true (al + bl) (ah + bh) di su an) := hD
          exact W.vret hx hb hr (fun t ht hW => ⟨⟨none, wM y h q tw pn ki on ot ab be zA zB zC zD zF zT fo lw hg at_ tl th wo wl wh true (al + bl) (ah + bh) di su an, rfl, ⟨rfl, by simp only [sp_X8_makes_1_is_, if_neg c_225, if_neg c_235, if_neg c_245, if_neg c_256]⟩, rfl, by rw [ht]; exact hP⟩, by rw [← hAe]; exact hS.F ht⟩) (by rw [← hAe]; exact hS.2.2) dX8_makes_268
def sp_X8_makes_2_is_ (p : Nat) (al : Int64) (ah : Int64) (bl : Int64) (bh : Int64) : Bool := if (al - bh) < (-(jshl 64 (nI p))) then false else if (jshl 64 (nI p)) < (ah - bl) then false else if (jshl 64 (nI p)) < (al - bh) then false else if (ah - bl) < (-(jshl 64 (nI p))) then false else true
set_option maxHeartbeats 4000000 in
set_option maxRecDepth 100000 in
theorem c_X8_makes_2 (l : Launch) (D : va_G) (y : Nat → ClassId) (sz : Nat) (h : Nat) (q : Nat → Nat) (tw : Int32) (pn : Nat) (ki on ot ab be zA zB zC zD zF zT : Nat → Int32) (fo : Nat → Bool) (lw hg : Nat → Int64) (at_ : Nat → Bool) (tl th : Nat → Int64) (wo : Nat → Bool) (wl wh : Nat → Int64) (is_ : Bool) (lo_ hi_ : Int64) (di : Nat → Int32) (su : Nat → Int64) (an : Nat → Bool) (k p : Nat) (al ah bl bh : Int64) (hk : k < 40) (hp : p < 25) (hki : ki k = 2) : Met l yX8_makes wsX8_makes ({ frames := 3, cells := 0, slots := 0, locals := 90 } : Room) (gP D y [.ref h, .int (nI k), .int (nI p), .long al, .long ah, .long bl, .long bh] (wM y h q tw pn ki on ot ab be zA zB zC zD zF zT fo lw hg at_ tl th wo wl wh is_ lo_ hi_ di su an) sz) (gQ D (wM y h q tw pn ki on ot ab be zA zB zC zD zF zT fo lw hg at_ tl th wo wl wh is_ lo_ hi_ di su an) (gF none (wM y h q tw pn ki on ot ab be zA zB zC zD zF zT fo lw hg at_ tl th wo wl wh (sp_X8_makes_2_is_ p al ah bl bh) (al - bh) (ah - bl) di su an))) 0 0 (va_A (wM y h q tw pn ki on ot ab be zA zB zC zD zF zT fo lw hg at_ tl th wo wl wh is_ lo_ hi_ di su an) sz) := by
  refine Met.ofW (cc := cX8_makes) (maxL := 13) (ret := none) (by decide) rfl ?_
  intro pg e s m args below meth c s₁ B hml hv
  obtain ⟨rfl, hsz, hP, hK, hD0⟩ := hv
  have hx := B.exec
  have hb := B.bytes
  have hr := B.returns
  have hts := atoms_spec (ws := wsX8_makes) B.pre
  have hown : s.vm.findClass RX8 = some m.cls := findClass_of_methodNamed B.named
  have hlocks := B.notSynchronized
  subst hsz
  obtain ⟨A, hAe⟩ : ∃ A : Nat → Prop, A = va_A (wM y h q tw pn ki on ot ab be zA zB zC zD zF zT fo lw hg at_ tl th wo wl wh is_ lo_ hi_ di su an) s.heap.size := ⟨_, rfl⟩
  have hD : va_D A (wM y h q tw pn ki on ot ab be zA zB zC zD zF zT fo lw hg at_ tl th wo wl wh is_ lo_ hi_ di su an) := by rw [hAe]; exact hD0.self (sz := s.heap.size)
  have hA : ∀ q : Nat, s.heap.size ≤ q → A q := fun q h => by rw [hAe]; exact Or.inr h
  have hS : va_S A s.heap s.heap [] := va_S.rf
  have hl := lv_entry ([.ref h, .int (nI k), .int (nI p), .long al, .long ah, .long bl, .long bh]) (n := 13) (Nat.le_of_ble_eq_true rfl)
  rw [lg_entry_eq]
  generalize (lg_sl ([.ref h, .int (nI k), .int (nI p), .long al, .long ah, .long bl, .long bh]) ++ List.replicate (13 - (lg_sl ([.ref h, .int (nI k), .int (nI p), .long al, .long ah, .long bl, .long bh])).length) Slot.unset).toArray = ls at hl ⊢
  have hl : lv_has ls 13 [(0, .ref h), (1, .int (nI k)), (2, .int (nI p)), (3, .long al), (5, .long ah), (7, .long bl), (9, .long bh)] := hl
  refine lv_aload_n hx hb dX8_makes_0 rfl (lv_at hl 0 rfl) ?_
  refine va_get (D := D) (ci := 6) (v := .ref (q 2)) (C := RX8) (T := TX8) (N := 28) hx hb hts in_X8_makes_X8 hown hK.1 hP 0 rfl rfl 2 (by decide) (hts (.fieldLink RX8 7 "NestlimitModel" "kinds" "[I") (List.mem_of_getElem? (i := 1) rfl)) (fun _ h9 => h9) rfl dX8_makes_1 ?_
  refine lv_iload_n hx hb dX8_makes_4 rfl (lv_at hl 1 rfl) ?_
  refine g_iald (k := k) hx hb hK.1 hP 1 0 rfl rfl (hk) (by decide) dX8_makes_5 ?_
  refine g_topi (y := 2) (hki) ?_
  refine lv_tableIn (off := 107) (tgt := 113) hx hb dX8_makes_6 (by decide) (by decide) rfl (by decide) ?_
  refine lv_aload_n hx hb dX8_makes_113 rfl (lv_at hl 0 rfl) ?_
  refine lv_lload_n hx hb dX8_makes_114 rfl (lv_at hl 3 rfl) ?_
  refine lv_lload hx hb dX8_makes_115 (lv_at hl 6 rfl) ?_
  refine lv_lsub hx hb dX8_makes_117 ?_
  refine lv_lload hx hb dX8_makes_118 (lv_at hl 4 rfl) ?_
  refine lv_lload hx hb dX8_makes_120 (lv_at hl 5 rfl) ?_
  refine lv_lsub hx hb dX8_makes_122 ?_
  refine g_callAv (w0 := wM y h q tw pn ki on ot ab be zA zB zC zD zF zT fo lw hg at_ tl th wo wl wh true (al - bh) (ah - bl) di su an) (va_runV (As := [.long (al - bh), .long (ah - bl)]) (rest := []) ⟨hx, hb, hml, hown, hts⟩ (c_X8_sets l D y s.heap.size h q tw pn ki on ot ab be zA zB zC zD zF zT fo lw hg at_ tl th wo wl wh is_ lo_ hi_ di su an (al - bh) (ah - bl)) (cwV 2 hts gX8_makes_X8_sets rfl rfl rfl (by decide +kernel) ⟨Nat.le_of_ble_eq_true rfl, Nat.le_of_ble_eq_true rfl⟩) (gP_VA hP hD hK 0 rfl rfl) rfl rfl hl.1 rfl (lv_room (Nat.le_of_ble_eq_true rfl)) dX8_makes_123 ⟨Nat.zero_le _, Nat.zero_le _⟩) hP hD hS hA rfl (fun H locs hP hD hS => ?_)
  refine lv_goto (tgt := 203) hx hb dX8_makes_126 (by decide) ?_
  refine lv_ldc2 (v := 64) hx hb hown (hts (.constantLong RX8 153 (64)) (List.mem_of_getElem? (i := 4) rfl)) dX8_makes_203 ?_
  refine lv_iload_n hx hb dX8_makes_206 rfl (lv_at hl 2 rfl) ?_
  refine lv_lshl (v := jshl 64 (nI p)) hx hb dX8_makes_207 rfl ?_
  refine lv_lstore (lv' := [(11, .long (jshl 64 (nI p))), (0, .ref h), (1, .int (nI k)), (2, .int (nI p)), (3, .long al), (5, .long ah), (7, .long bl), (9, .long bh)]) hx hb dX8_makes_208 hl (by decide) rfl (fun ls hl => ?_)
  refine lv_aload_n hx hb dX8_makes_210 rfl (lv_at hl 1 rfl) ?_
  refine lv_aload_n hx hb dX8_makes_211 rfl (lv_at hl 1 rfl) ?_
  refine va_get (D := D) (ci := 6) (v := .int (gB true)) (C := RX8) (T := TX8) (N := 28) hx hb hts in_X8_makes_X8 hown hK.1 hP 0 rfl rfl 22 (by decide) (hts (.fieldLink RX8 92 "NestlimitModel" "is" "Z") (List.mem_of_getElem? (i := 5) rfl)) (fun _ h9 => h9) rfl dX8_makes_212 ?_
  refine g_beq (tgt := 264) hx hb dX8_makes_215 (by decide) (fun c_215 => absurd c_215 (by decide)) (fun c_215 => ?_)
  refine lv_aload_n hx hb dX8_makes_218 rfl (lv_at hl 1 rfl) ?_
  refine va_get (D := D) (ci := 6) (v := .long (al - bh)) (C := RX8) (T := TX8) (N := 28) hx hb hts in_X8_makes_X8 hown hK.1 hP 0 rfl rfl 23 (by decide) (hts (.fieldLink RX8 96 "NestlimitModel" "low" "J") (List.mem_of_getElem? (i := 6) rfl)) (fun _ h9 => h9) rfl dX8_makes_219 ?_
  refine lv_lload hx hb dX8_makes_222 (lv_at hl 0 rfl) ?_
  refine lv_lneg hx hb dX8_makes_224 ?_
  refine g_lt (tgt := 264) hx hb dX8_makes_225 dX8_makes_226 (by decide) (fun c_225 => ?_) (fun c_225 => ?_)
  · skip
    refine lv_iconst (v := 0) hx hb dX8_makes_264 (by decide) ?_
    refine va_put (D := D) (ci := 6) (v := .int (gB false)) (ty := .boolean) (C := RX8) (T := TX8) (N := 28) hx hb hts in_X8_makes_X8 tyX8 tyX8_ok nmX8 hown hK.1 hP hD hS 0 rfl rfl 22 (by decide) (hts (.fieldLink RX8 92 "NestlimitModel" "is" "Z") (List.mem_of_getElem? (i := 5) rfl)) (fun _ h9 => h9) rfl (by decide +kernel) (gB_n _) (gB_f _) (Nat.le_of_ble_eq_true rfl) dX8_makes_265 (fun H locs hP hD hS => ?_)
    have hP : va_P D vwCl (wM y h q tw pn ki on ot ab be zA zB zC zD zF zT fo lw hg at_ tl th wo wl wh false (al - bh) (ah - bl) di su an) H := hP
    have hD : va_D A (wM y h q tw pn ki on ot ab be zA zB zC zD zF zT fo lw hg at_ tl th wo wl wh false (al - bh) (ah - bl) di su an) := hD
    exact W.vret hx hb hr (fun t ht hW => ⟨⟨none, wM y h q tw pn ki on ot ab be zA zB zC zD zF zT fo lw hg at_ tl th wo wl wh false (al - bh) (ah - bl) di su an, rfl, ⟨rfl, by simp only [sp_X8_makes_2_is_, if_pos c_225]⟩, rfl, by rw [ht]; exact hP⟩, by rw [← hAe]; exact hS.F ht⟩) (by rw [← hAe]; exact hS.2.2) dX8_makes_268
  · skip
    refine lv_aload_n hx hb dX8_makes_229 rfl (lv_at hl 1 rfl) ?_
    refine va_get (D := D) (ci := 6) (v := .long (ah - bl)) (C := RX8) (T := TX8) (N := 28) hx hb hts in_X8_makes_X8 hown hK.1 hP 0 rfl rfl 24 (by decide) (hts (.fieldLink RX8 100 "NestlimitModel" "high" "J") (List.mem_of_getElem? (i := 7) rfl)) (fun _ h9 => h9) rfl dX8_makes_230 ?_
    refine lv_lload hx hb dX8_makes_233 (lv_at hl 0 rfl) ?_
    refine g_gt (tgt := 264) hx hb dX8_makes_235 dX8_makes_236 (by decide) (fun c_235 => ?_) (fun c_235 => ?_)
    · skip
      refine lv_iconst (v := 0) hx hb dX8_makes_264 (by decide) ?_
      refine va_put (D := D) (ci := 6) (v := .int (gB false)) (ty := .boolean) (C := RX8) (T := TX8) (N := 28) hx hb hts in_X8_makes_X8 tyX8 tyX8_ok nmX8 hown hK.1 hP hD hS 0 rfl rfl 22 (by decide) (hts (.fieldLink RX8 92 "NestlimitModel" "is" "Z") (List.mem_of_getElem? (i := 5) rfl)) (fun _ h9 => h9) rfl (by decide +kernel) (gB_n _) (gB_f _) (Nat.le_of_ble_eq_true rfl) dX8_makes_265 (fun H locs hP hD hS => ?_)
      have hP : va_P D vwCl (wM y h q tw pn ki on ot ab be zA zB zC zD zF zT fo lw hg at_ tl th wo wl wh false (al - bh) (ah - bl) di su an) H := hP
      have hD : va_D A (wM y h q tw pn ki on ot ab be zA zB zC zD zF zT fo lw hg at_ tl th wo wl wh false (al - bh) (ah - bl) di su an) := hD
      exact W.vret hx hb hr (fun t ht hW => ⟨⟨none, wM y h q tw pn ki on ot ab be zA zB zC zD zF zT fo lw hg at_ tl th wo wl wh false (al - bh) (ah - bl) di su an, rfl, ⟨rfl, by simp only [sp_X8_makes_2_is_, if_neg c_225, if_pos c_235]⟩, rfl, by rw [ht]; exact hP⟩, by rw [← hAe]; exact hS.F ht⟩) (by rw [← hAe]; exact hS.2.2) dX8_makes_268
    · skip
      refine lv_aload_n hx hb dX8_makes_239 rfl (lv_at hl 1 rfl) ?_
      refine va_get (D := D) (ci := 6) (v := .long (al - bh)) (C := RX8) (T := TX8) (N := 28) hx hb hts in_X8_makes_X8 hown hK.1 hP 0 rfl rfl 23 (by decide) (hts (.fieldLink RX8 96 "NestlimitModel" "low" "J") (List.mem_of_getElem? (i := 6) rfl)) (fun _ h9 => h9) rfl dX8_makes_240 ?_
      refine lv_lload hx hb dX8_makes_243 (lv_at hl 0 rfl) ?_
      refine g_gt (tgt := 264) hx hb dX8_makes_245 dX8_makes_246 (by decide) (fun c_245 => ?_) (fun c_245 => ?_)
      · skip
        refine lv_iconst (v := 0) hx hb dX8_makes_264 (by decide) ?_
        refine va_put (D := D) (ci := 6) (v := .int (gB false)) (ty := .boolean) (C := RX8) (T := TX8) (N := 28) hx hb hts in_X8_makes_X8 tyX8 tyX8_ok nmX8 hown hK.1 hP hD hS 0 rfl rfl 22 (by decide) (hts (.fieldLink RX8 92 "NestlimitModel" "is" "Z") (List.mem_of_getElem? (i := 5) rfl)) (fun _ h9 => h9) rfl (by decide +kernel) (gB_n _) (gB_f _) (Nat.le_of_ble_eq_true rfl) dX8_makes_265 (fun H locs hP hD hS => ?_)
        have hP : va_P D vwCl (wM y h q tw pn ki on ot ab be zA zB zC zD zF zT fo lw hg at_ tl th wo wl wh false (al - bh) (ah - bl) di su an) H := hP
        have hD : va_D A (wM y h q tw pn ki on ot ab be zA zB zC zD zF zT fo lw hg at_ tl th wo wl wh false (al - bh) (ah - bl) di su an) := hD
        exact W.vret hx hb hr (fun t ht hW => ⟨⟨none, wM y h q tw pn ki on ot ab be zA zB zC zD zF zT fo lw hg at_ tl th wo wl wh false (al - bh) (ah - bl) di su an, rfl, ⟨rfl, by simp only [sp_X8_makes_2_is_, if_neg c_225, if_neg c_235, if_pos c_245]⟩, rfl, by rw [ht]; exact hP⟩, by rw [← hAe]; exact hS.F ht⟩) (by rw [← hAe]; exact hS.2.2) dX8_makes_268
      · skip
        refine lv_aload_n hx hb dX8_makes_249 rfl (lv_at hl 1 rfl) ?_
        refine va_get (D := D) (ci := 6) (v := .long (ah - bl)) (C := RX8) (T := TX8) (N := 28) hx hb hts in_X8_makes_X8 hown hK.1 hP 0 rfl rfl 24 (by decide) (hts (.fieldLink RX8 100 "NestlimitModel" "high" "J") (List.mem_of_getElem? (i := 7) rfl)) (fun _ h9 => h9) rfl dX8_makes_250 ?_
        refine lv_lload hx hb dX8_makes_253 (lv_at hl 0 rfl) ?_
        refine lv_lneg hx hb dX8_makes_255 ?_
        refine g_lt (tgt := 264) hx hb dX8_makes_256 dX8_makes_257 (by decide) (fun c_256 => ?_) (fun c_256 => ?_)
        · skip
          refine lv_iconst (v := 0) hx hb dX8_makes_264 (by decide) ?_
          refine va_put (D := D) (ci := 6) (v := .int (gB false)) (ty := .boolean) (C := RX8) (T := TX8) (N := 28) hx hb hts in_X8_makes_X8 tyX8 tyX8_ok nmX8 hown hK.1 hP hD hS 0 rfl rfl 22 (by decide) (hts (.fieldLink RX8 92 "NestlimitModel" "is" "Z") (List.mem_of_getElem? (i := 5) rfl)) (fun _ h9 => h9) rfl (by decide +kernel) (gB_n _) (gB_f _) (Nat.le_of_ble_eq_true rfl) dX8_makes_265 (fun H locs hP hD hS => ?_)
          have hP : va_P D vwCl (wM y h q tw pn ki on ot ab be zA zB zC zD zF zT fo lw hg at_ tl th wo wl wh false (al - bh) (ah - bl) di su an) H := hP
          have hD : va_D A (wM y h q tw pn ki on ot ab be zA zB zC zD zF zT fo lw hg at_ tl th wo wl wh false (al - bh) (ah - bl) di su an) := hD
          exact W.vret hx hb hr (fun t ht hW => ⟨⟨none, wM y h q tw pn ki on ot ab be zA zB zC zD zF zT fo lw hg at_ tl th wo wl wh false (al - bh) (ah - bl) di su an, rfl, ⟨rfl, by simp only [sp_X8_makes_2_is_, if_neg c_225, if_neg c_235, if_neg c_245, if_pos c_256]⟩, rfl, by rw [ht]; exact hP⟩, by rw [← hAe]; exact hS.F ht⟩) (by rw [← hAe]; exact hS.2.2) dX8_makes_268
        · skip
          refine lv_iconst (v := 1) hx hb dX8_makes_260 (by decide) ?_
          refine lv_goto (tgt := 265) hx hb dX8_makes_261 (by decide) ?_
          refine va_put (D := D) (ci := 6) (v := .int (gB true)) (ty := .boolean) (C := RX8) (T := TX8) (N := 28) hx hb hts in_X8_makes_X8 tyX8 tyX8_ok nmX8 hown hK.1 hP hD hS 0 rfl rfl 22 (by decide) (hts (.fieldLink RX8 92 "NestlimitModel" "is" "Z") (List.mem_of_getElem? (i := 5) rfl)) (fun _ h9 => h9) rfl (by decide +kernel) (gB_n _) (gB_f _) (Nat.le_of_ble_eq_true rfl) dX8_makes_265 (fun H locs hP hD hS => ?_)
          have hP : va_P D vwCl (wM y h q tw pn ki on ot ab be zA zB zC zD zF zT fo lw hg at_ tl th wo wl wh true (al - bh) (ah - bl) di su an) H := hP
          have hD : va_D A (wM y h q tw pn ki on ot ab be zA zB zC zD zF zT fo lw hg at_ tl th wo wl wh true (al - bh) (ah - bl) di su an) := hD
          exact W.vret hx hb hr (fun t ht hW => ⟨⟨none, wM y h q tw pn ki on ot ab be zA zB zC zD zF zT fo lw hg at_ tl th wo wl wh true (al - bh) (ah - bl) di su an, rfl, ⟨rfl, by simp only [sp_X8_makes_2_is_, if_neg c_225, if_neg c_235, if_neg c_245, if_neg c_256]⟩, rfl, by rw [ht]; exact hP⟩, by rw [← hAe]; exact hS.F ht⟩) (by rw [← hAe]; exact hS.2.2) dX8_makes_268
def sp_X8_makes_3_is_ (p : Nat) (al : Int64) (ah : Int64) (bl : Int64) (bh : Int64) : Bool := if (sp_X8_multiplies_lo_ al ah bl bh (nI p)) < (-(jshl 64 (nI p))) then false else if (jshl 64 (nI p)) < (sp_X8_multiplies_hi_ al ah bl bh (nI p)) then false else if (jshl 64 (nI p)) < (sp_X8_multiplies_lo_ al ah bl bh (nI p)) then false else if (sp_X8_multiplies_hi_ al ah bl bh (nI p)) < (-(jshl 64 (nI p))) then false else true
set_option maxHeartbeats 4000000 in
set_option maxRecDepth 100000 in
theorem c_X8_makes_3 (l : Launch) (D : va_G) (y : Nat → ClassId) (sz : Nat) (h : Nat) (q : Nat → Nat) (tw : Int32) (pn : Nat) (ki on ot ab be zA zB zC zD zF zT : Nat → Int32) (fo : Nat → Bool) (lw hg : Nat → Int64) (at_ : Nat → Bool) (tl th : Nat → Int64) (wo : Nat → Bool) (wl wh : Nat → Int64) (is_ : Bool) (lo_ hi_ : Int64) (di : Nat → Int32) (su : Nat → Int64) (an : Nat → Bool) (k p : Nat) (al ah bl bh : Int64) (hk : k < 40) (hp : p < 25) (hki : ki k = 3) : Met l yX8_makes wsX8_makes ({ frames := 3, cells := 0, slots := 0, locals := 90 } : Room) (gP D y [.ref h, .int (nI k), .int (nI p), .long al, .long ah, .long bl, .long bh] (wM y h q tw pn ki on ot ab be zA zB zC zD zF zT fo lw hg at_ tl th wo wl wh is_ lo_ hi_ di su an) sz) (gQ D (wM y h q tw pn ki on ot ab be zA zB zC zD zF zT fo lw hg at_ tl th wo wl wh is_ lo_ hi_ di su an) (gF none (wM y h q tw pn ki on ot ab be zA zB zC zD zF zT fo lw hg at_ tl th wo wl wh (sp_X8_makes_3_is_ p al ah bl bh) (sp_X8_multiplies_lo_ al ah bl bh (nI p)) (sp_X8_multiplies_hi_ al ah bl bh (nI p)) di su an))) 0 0 (va_A (wM y h q tw pn ki on ot ab be zA zB zC zD zF zT fo lw hg at_ tl th wo wl wh is_ lo_ hi_ di su an) sz) := by
  refine Met.ofW (cc := cX8_makes) (maxL := 13) (ret := none) (by decide) rfl ?_
  intro pg e s m args below meth c s₁ B hml hv
  obtain ⟨rfl, hsz, hP, hK, hD0⟩ := hv
  have hx := B.exec
  have hb := B.bytes
  have hr := B.returns
  have hts := atoms_spec (ws := wsX8_makes) B.pre
  have hown : s.vm.findClass RX8 = some m.cls := findClass_of_methodNamed B.named
  have hlocks := B.notSynchronized
  subst hsz
  obtain ⟨A, hAe⟩ : ∃ A : Nat → Prop, A = va_A (wM y h q tw pn ki on ot ab be zA zB zC zD zF zT fo lw hg at_ tl th wo wl wh is_ lo_ hi_ di su an) s.heap.size := ⟨_, rfl⟩
  have hD : va_D A (wM y h q tw pn ki on ot ab be zA zB zC zD zF zT fo lw hg at_ tl th wo wl wh is_ lo_ hi_ di su an) := by rw [hAe]; exact hD0.self (sz := s.heap.size)
  have hA : ∀ q : Nat, s.heap.size ≤ q → A q := fun q h => by rw [hAe]; exact Or.inr h
  have hS : va_S A s.heap s.heap [] := va_S.rf
  have hl := lv_entry ([.ref h, .int (nI k), .int (nI p), .long al, .long ah, .long bl, .long bh]) (n := 13) (Nat.le_of_ble_eq_true rfl)
  rw [lg_entry_eq]
  generalize (lg_sl ([.ref h, .int (nI k), .int (nI p), .long al, .long ah, .long bl, .long bh]) ++ List.replicate (13 - (lg_sl ([.ref h, .int (nI k), .int (nI p), .long al, .long ah, .long bl, .long bh])).length) Slot.unset).toArray = ls at hl ⊢
  have hl : lv_has ls 13 [(0, .ref h), (1, .int (nI k)), (2, .int (nI p)), (3, .long al), (5, .long ah), (7, .long bl), (9, .long bh)] := hl
  refine lv_aload_n hx hb dX8_makes_0 rfl (lv_at hl 0 rfl) ?_
  refine va_get (D := D) (ci := 6) (v := .ref (q 2)) (C := RX8) (T := TX8) (N := 28) hx hb hts in_X8_makes_X8 hown hK.1 hP 0 rfl rfl 2 (by decide) (hts (.fieldLink RX8 7 "NestlimitModel" "kinds" "[I") (List.mem_of_getElem? (i := 1) rfl)) (fun _ h9 => h9) rfl dX8_makes_1 ?_
  refine lv_iload_n hx hb dX8_makes_4 rfl (lv_at hl 1 rfl) ?_
  refine g_iald (k := k) hx hb hK.1 hP 1 0 rfl rfl (hk) (by decide) dX8_makes_5 ?_
  refine g_topi (y := 3) (hki) ?_
  refine lv_tableIn (off := 123) (tgt := 129) hx hb dX8_makes_6 (by decide) (by decide) rfl (by decide) ?_
  refine lv_aload_n hx hb dX8_makes_129 rfl (lv_at hl 0 rfl) ?_
  refine lv_lload_n hx hb dX8_makes_130 rfl (lv_at hl 3 rfl) ?_
  refine lv_lload hx hb dX8_makes_131 (lv_at hl 4 rfl) ?_
  refine lv_lload hx hb dX8_makes_133 (lv_at hl 5 rfl) ?_
  refine lv_lload hx hb dX8_makes_135 (lv_at hl 6 rfl) ?_
  refine lv_iload_n hx hb dX8_makes_137 rfl (lv_at hl 2 rfl) ?_
  refine g_callAv (w0 := wM y h q tw pn ki on ot ab be zA zB zC zD zF zT fo lw hg at_ tl th wo wl wh true (sp_X8_multiplies_lo_ al ah bl bh (nI p)) (sp_X8_multiplies_hi_ al ah bl bh (nI p)) di su an) (va_runV (As := [.long al, .long ah, .long bl, .long bh, .int (nI p)]) (rest := []) ⟨hx, hb, hml, hown, hts⟩ (c_X8_multiplies l D y s.heap.size h q tw pn ki on ot ab be zA zB zC zD zF zT fo lw hg at_ tl th wo wl wh is_ lo_ hi_ di su an al ah bl bh (nI p) (gU_ne (by omega))) (cwV 5 hts gX8_makes_X8_multiplies rfl rfl rfl (by decide +kernel) ⟨Nat.le_of_ble_eq_true rfl, Nat.le_of_ble_eq_true rfl⟩) (gP_VA hP hD hK 0 rfl rfl) rfl rfl hl.1 rfl (lv_room (Nat.le_of_ble_eq_true rfl)) dX8_makes_138 ⟨Nat.zero_le _, Nat.zero_le _⟩) hP hD hS hA rfl (fun H locs hP hD hS => ?_)
  refine lv_goto (tgt := 203) hx hb dX8_makes_141 (by decide) ?_
  refine lv_ldc2 (v := 64) hx hb hown (hts (.constantLong RX8 153 (64)) (List.mem_of_getElem? (i := 4) rfl)) dX8_makes_203 ?_
  refine lv_iload_n hx hb dX8_makes_206 rfl (lv_at hl 2 rfl) ?_
  refine lv_lshl (v := jshl 64 (nI p)) hx hb dX8_makes_207 rfl ?_
  refine lv_lstore (lv' := [(11, .long (jshl 64 (nI p))), (0, .ref h), (1, .int (nI k)), (2, .int (nI p)), (3, .long al), (5, .long ah), (7, .long bl), (9, .long bh)]) hx hb dX8_makes_208 hl (by decide) rfl (fun ls hl => ?_)
  refine lv_aload_n hx hb dX8_makes_210 rfl (lv_at hl 1 rfl) ?_
  refine lv_aload_n hx hb dX8_makes_211 rfl (lv_at hl 1 rfl) ?_
  refine va_get (D := D) (ci := 6) (v := .int (gB true)) (C := RX8) (T := TX8) (N := 28) hx hb hts in_X8_makes_X8 hown hK.1 hP 0 rfl rfl 22 (by decide) (hts (.fieldLink RX8 92 "NestlimitModel" "is" "Z") (List.mem_of_getElem? (i := 5) rfl)) (fun _ h9 => h9) rfl dX8_makes_212 ?_
  refine g_beq (tgt := 264) hx hb dX8_makes_215 (by decide) (fun c_215 => absurd c_215 (by decide)) (fun c_215 => ?_)
  refine lv_aload_n hx hb dX8_makes_218 rfl (lv_at hl 1 rfl) ?_
  refine va_get (D := D) (ci := 6) (v := .long (sp_X8_multiplies_lo_ al ah bl bh (nI p))) (C := RX8) (T := TX8) (N := 28) hx hb hts in_X8_makes_X8 hown hK.1 hP 0 rfl rfl 23 (by decide) (hts (.fieldLink RX8 96 "NestlimitModel" "low" "J") (List.mem_of_getElem? (i := 6) rfl)) (fun _ h9 => h9) rfl dX8_makes_219 ?_
  refine lv_lload hx hb dX8_makes_222 (lv_at hl 0 rfl) ?_
  refine lv_lneg hx hb dX8_makes_224 ?_
  refine g_lt (tgt := 264) hx hb dX8_makes_225 dX8_makes_226 (by decide) (fun c_225 => ?_) (fun c_225 => ?_)
  · skip
    refine lv_iconst (v := 0) hx hb dX8_makes_264 (by decide) ?_
    refine va_put (D := D) (ci := 6) (v := .int (gB false)) (ty := .boolean) (C := RX8) (T := TX8) (N := 28) hx hb hts in_X8_makes_X8 tyX8 tyX8_ok nmX8 hown hK.1 hP hD hS 0 rfl rfl 22 (by decide) (hts (.fieldLink RX8 92 "NestlimitModel" "is" "Z") (List.mem_of_getElem? (i := 5) rfl)) (fun _ h9 => h9) rfl (by decide +kernel) (gB_n _) (gB_f _) (Nat.le_of_ble_eq_true rfl) dX8_makes_265 (fun H locs hP hD hS => ?_)
    have hP : va_P D vwCl (wM y h q tw pn ki on ot ab be zA zB zC zD zF zT fo lw hg at_ tl th wo wl wh false (sp_X8_multiplies_lo_ al ah bl bh (nI p)) (sp_X8_multiplies_hi_ al ah bl bh (nI p)) di su an) H := hP
    have hD : va_D A (wM y h q tw pn ki on ot ab be zA zB zC zD zF zT fo lw hg at_ tl th wo wl wh false (sp_X8_multiplies_lo_ al ah bl bh (nI p)) (sp_X8_multiplies_hi_ al ah bl bh (nI p)) di su an) := hD
    exact W.vret hx hb hr (fun t ht hW => ⟨⟨none, wM y h q tw pn ki on ot ab be zA zB zC zD zF zT fo lw hg at_ tl th wo wl wh false (sp_X8_multiplies_lo_ al ah bl bh (nI p)) (sp_X8_multiplies_hi_ al ah bl bh (nI p)) di su an, rfl, ⟨rfl, by simp only [sp_X8_makes_3_is_, if_pos c_225]⟩, rfl, by rw [ht]; exact hP⟩, by rw [← hAe]; exact hS.F ht⟩) (by rw [← hAe]; exact hS.2.2) dX8_makes_268
  · skip
    refine lv_aload_n hx hb dX8_makes_229 rfl (lv_at hl 1 rfl) ?_
    refine va_get (D := D) (ci := 6) (v := .long (sp_X8_multiplies_hi_ al ah bl bh (nI p))) (C := RX8) (T := TX8) (N := 28) hx hb hts in_X8_makes_X8 hown hK.1 hP 0 rfl rfl 24 (by decide) (hts (.fieldLink RX8 100 "NestlimitModel" "high" "J") (List.mem_of_getElem? (i := 7) rfl)) (fun _ h9 => h9) rfl dX8_makes_230 ?_
    refine lv_lload hx hb dX8_makes_233 (lv_at hl 0 rfl) ?_
    refine g_gt (tgt := 264) hx hb dX8_makes_235 dX8_makes_236 (by decide) (fun c_235 => ?_) (fun c_235 => ?_)
    · skip
      refine lv_iconst (v := 0) hx hb dX8_makes_264 (by decide) ?_
      refine va_put (D := D) (ci := 6) (v := .int (gB false)) (ty := .boolean) (C := RX8) (T := TX8) (N := 28) hx hb hts in_X8_makes_X8 tyX8 tyX8_ok nmX8 hown hK.1 hP hD hS 0 rfl rfl 22 (by decide) (hts (.fieldLink RX8 92 "NestlimitModel" "is" "Z") (List.mem_of_getElem? (i := 5) rfl)) (fun _ h9 => h9) rfl (by decide +kernel) (gB_n _) (gB_f _) (Nat.le_of_ble_eq_true rfl) dX8_makes_265 (fun H locs hP hD hS => ?_)
      have hP : va_P D vwCl (wM y h q tw pn ki on ot ab be zA zB zC zD zF zT fo lw hg at_ tl th wo wl wh false (sp_X8_multiplies_lo_ al ah bl bh (nI p)) (sp_X8_multiplies_hi_ al ah bl bh (nI p)) di su an) H := hP
      have hD : va_D A (wM y h q tw pn ki on ot ab be zA zB zC zD zF zT fo lw hg at_ tl th wo wl wh false (sp_X8_multiplies_lo_ al ah bl bh (nI p)) (sp_X8_multiplies_hi_ al ah bl bh (nI p)) di su an) := hD
      exact W.vret hx hb hr (fun t ht hW => ⟨⟨none, wM y h q tw pn ki on ot ab be zA zB zC zD zF zT fo lw hg at_ tl th wo wl wh false (sp_X8_multiplies_lo_ al ah bl bh (nI p)) (sp_X8_multiplies_hi_ al ah bl bh (nI p)) di su an, rfl, ⟨rfl, by simp only [sp_X8_makes_3_is_, if_neg c_225, if_pos c_235]⟩, rfl, by rw [ht]; exact hP⟩, by rw [← hAe]; exact hS.F ht⟩) (by rw [← hAe]; exact hS.2.2) dX8_makes_268
    · skip
      refine lv_aload_n hx hb dX8_makes_239 rfl (lv_at hl 1 rfl) ?_
      refine va_get (D := D) (ci := 6) (v := .long (sp_X8_multiplies_lo_ al ah bl bh (nI p))) (C := RX8) (T := TX8) (N := 28) hx hb hts in_X8_makes_X8 hown hK.1 hP 0 rfl rfl 23 (by decide) (hts (.fieldLink RX8 96 "NestlimitModel" "low" "J") (List.mem_of_getElem? (i := 6) rfl)) (fun _ h9 => h9) rfl dX8_makes_240 ?_
      refine lv_lload hx hb dX8_makes_243 (lv_at hl 0 rfl) ?_
      refine g_gt (tgt := 264) hx hb dX8_makes_245 dX8_makes_246 (by decide) (fun c_245 => ?_) (fun c_245 => ?_)
      · skip
        refine lv_iconst (v := 0) hx hb dX8_makes_264 (by decide) ?_
        refine va_put (D := D) (ci := 6) (v := .int (gB false)) (ty := .boolean) (C := RX8) (T := TX8) (N := 28) hx hb hts in_X8_makes_X8 tyX8 tyX8_ok nmX8 hown hK.1 hP hD hS 0 rfl rfl 22 (by decide) (hts (.fieldLink RX8 92 "NestlimitModel" "is" "Z") (List.mem_of_getElem? (i := 5) rfl)) (fun _ h9 => h9) rfl (by decide +kernel) (gB_n _) (gB_f _) (Nat.le_of_ble_eq_true rfl) dX8_makes_265 (fun H locs hP hD hS => ?_)
        have hP : va_P D vwCl (wM y h q tw pn ki on ot ab be zA zB zC zD zF zT fo lw hg at_ tl th wo wl wh false (sp_X8_multiplies_lo_ al ah bl bh (nI p)) (sp_X8_multiplies_hi_ al ah bl bh (nI p)) di su an) H := hP
        have hD : va_D A (wM y h q tw pn ki on ot ab be zA zB zC zD zF zT fo lw hg at_ tl th wo wl wh false (sp_X8_multiplies_lo_ al ah bl bh (nI p)) (sp_X8_multiplies_hi_ al ah bl bh (nI p)) di su an) := hD
        exact W.vret hx hb hr (fun t ht hW => ⟨⟨none, wM y h q tw pn ki on ot ab be zA zB zC zD zF zT fo lw hg at_ tl th wo wl wh false (sp_X8_multiplies_lo_ al ah bl bh (nI p)) (sp_X8_multiplies_hi_ al ah bl bh (nI p)) di su an, rfl, ⟨rfl, by simp only [sp_X8_makes_3_is_, if_neg c_225, if_neg c_235, if_pos c_245]⟩, rfl, by rw [ht]; exact hP⟩, by rw [← hAe]; exact hS.F ht⟩) (by rw [← hAe]; exact hS.2.2) dX8_makes_268
      · skip
        refine lv_aload_n hx hb dX8_makes_249 rfl (lv_at hl 1 rfl) ?_
        refine va_get (D := D) (ci := 6) (v := .long (sp_X8_multiplies_hi_ al ah bl bh (nI p))) (C := RX8) (T := TX8) (N := 28) hx hb hts in_X8_makes_X8 hown hK.1 hP 0 rfl rfl 24 (by decide) (hts (.fieldLink RX8 100 "NestlimitModel" "high" "J") (List.mem_of_getElem? (i := 7) rfl)) (fun _ h9 => h9) rfl dX8_makes_250 ?_
        refine lv_lload hx hb dX8_makes_253 (lv_at hl 0 rfl) ?_
        refine lv_lneg hx hb dX8_makes_255 ?_
        refine g_lt (tgt := 264) hx hb dX8_makes_256 dX8_makes_257 (by decide) (fun c_256 => ?_) (fun c_256 => ?_)
        · skip
          refine lv_iconst (v := 0) hx hb dX8_makes_264 (by decide) ?_
          refine va_put (D := D) (ci := 6) (v := .int (gB false)) (ty := .boolean) (C := RX8) (T := TX8) (N := 28) hx hb hts in_X8_makes_X8 tyX8 tyX8_ok nmX8 hown hK.1 hP hD hS 0 rfl rfl 22 (by decide) (hts (.fieldLink RX8 92 "NestlimitModel" "is" "Z") (List.mem_of_getElem? (i := 5) rfl)) (fun _ h9 => h9) rfl (by decide +kernel) (gB_n _) (gB_f _) (Nat.le_of_ble_eq_true rfl) dX8_makes_265 (fun H locs hP hD hS => ?_)
          have hP : va_P D vwCl (wM y h q tw pn ki on ot ab be zA zB zC zD zF zT fo lw hg at_ tl th wo wl wh false (sp_X8_multiplies_lo_ al ah bl bh (nI p)) (sp_X8_multiplies_hi_ al ah bl bh (nI p)) di su an) H := hP
          have hD : va_D A (wM y h q tw pn ki on ot ab be zA zB zC zD zF zT fo lw hg at_ tl th wo wl wh false (sp_X8_multiplies_lo_ al ah bl bh (nI p)) (sp_X8_multiplies_hi_ al ah bl bh (nI p)) di su an) := hD
          exact W.vret hx hb hr (fun t ht hW => ⟨⟨none, wM y h q tw pn ki on ot ab be zA zB zC zD zF zT fo lw hg at_ tl th wo wl wh false (sp_X8_multiplies_lo_ al ah bl bh (nI p)) (sp_X8_multiplies_hi_ al ah bl bh (nI p)) di su an, rfl, ⟨rfl, by simp only [sp_X8_makes_3_is_, if_neg c_225, if_neg c_235, if_neg c_245, if_pos c_256]⟩, rfl, by rw [ht]; exact hP⟩, by rw [← hAe]; exact hS.F ht⟩) (by rw [← hAe]; exact hS.2.2) dX8_makes_268
        · skip
          refine lv_iconst (v := 1) hx hb dX8_makes_260 (by decide) ?_
          refine lv_goto (tgt := 265) hx hb dX8_makes_261 (by decide) ?_
          refine va_put (D := D) (ci := 6) (v := .int (gB true)) (ty := .boolean) (C := RX8) (T := TX8) (N := 28) hx hb hts in_X8_makes_X8 tyX8 tyX8_ok nmX8 hown hK.1 hP hD hS 0 rfl rfl 22 (by decide) (hts (.fieldLink RX8 92 "NestlimitModel" "is" "Z") (List.mem_of_getElem? (i := 5) rfl)) (fun _ h9 => h9) rfl (by decide +kernel) (gB_n _) (gB_f _) (Nat.le_of_ble_eq_true rfl) dX8_makes_265 (fun H locs hP hD hS => ?_)
          have hP : va_P D vwCl (wM y h q tw pn ki on ot ab be zA zB zC zD zF zT fo lw hg at_ tl th wo wl wh true (sp_X8_multiplies_lo_ al ah bl bh (nI p)) (sp_X8_multiplies_hi_ al ah bl bh (nI p)) di su an) H := hP
          have hD : va_D A (wM y h q tw pn ki on ot ab be zA zB zC zD zF zT fo lw hg at_ tl th wo wl wh true (sp_X8_multiplies_lo_ al ah bl bh (nI p)) (sp_X8_multiplies_hi_ al ah bl bh (nI p)) di su an) := hD
          exact W.vret hx hb hr (fun t ht hW => ⟨⟨none, wM y h q tw pn ki on ot ab be zA zB zC zD zF zT fo lw hg at_ tl th wo wl wh true (sp_X8_multiplies_lo_ al ah bl bh (nI p)) (sp_X8_multiplies_hi_ al ah bl bh (nI p)) di su an, rfl, ⟨rfl, by simp only [sp_X8_makes_3_is_, if_neg c_225, if_neg c_235, if_neg c_245, if_neg c_256]⟩, rfl, by rw [ht]; exact hP⟩, by rw [← hAe]; exact hS.F ht⟩) (by rw [← hAe]; exact hS.2.2) dX8_makes_268
def sp_X8_makes_4_is_ (p : Nat) (al : Int64) (ah : Int64) (bl : Int64) (bh : Int64) : Bool := if (sp_X8_most al bl) < (-(jshl 64 (nI p))) then false else if (jshl 64 (nI p)) < (sp_X8_most ah bh) then false else if (jshl 64 (nI p)) < (sp_X8_most al bl) then false else if (sp_X8_most ah bh) < (-(jshl 64 (nI p))) then false else true
set_option maxHeartbeats 4000000 in
set_option maxRecDepth 100000 in
theorem c_X8_makes_4 (l : Launch) (D : va_G) (y : Nat → ClassId) (sz : Nat) (h : Nat) (q : Nat → Nat) (tw : Int32) (pn : Nat) (ki on ot ab be zA zB zC zD zF zT : Nat → Int32) (fo : Nat → Bool) (lw hg : Nat → Int64) (at_ : Nat → Bool) (tl th : Nat → Int64) (wo : Nat → Bool) (wl wh : Nat → Int64) (is_ : Bool) (lo_ hi_ : Int64) (di : Nat → Int32) (su : Nat → Int64) (an : Nat → Bool) (k p : Nat) (al ah bl bh : Int64) (hk : k < 40) (hp : p < 25) (hki : ki k = 4) : Met l yX8_makes wsX8_makes ({ frames := 3, cells := 0, slots := 0, locals := 90 } : Room) (gP D y [.ref h, .int (nI k), .int (nI p), .long al, .long ah, .long bl, .long bh] (wM y h q tw pn ki on ot ab be zA zB zC zD zF zT fo lw hg at_ tl th wo wl wh is_ lo_ hi_ di su an) sz) (gQ D (wM y h q tw pn ki on ot ab be zA zB zC zD zF zT fo lw hg at_ tl th wo wl wh is_ lo_ hi_ di su an) (gF none (wM y h q tw pn ki on ot ab be zA zB zC zD zF zT fo lw hg at_ tl th wo wl wh (sp_X8_makes_4_is_ p al ah bl bh) (sp_X8_most al bl) (sp_X8_most ah bh) di su an))) 0 0 (va_A (wM y h q tw pn ki on ot ab be zA zB zC zD zF zT fo lw hg at_ tl th wo wl wh is_ lo_ hi_ di su an) sz) := by
  refine Met.ofW (cc := cX8_makes) (maxL := 13) (ret := none) (by decide) rfl ?_
  intro pg e s m args below meth c s₁ B hml hv
  obtain ⟨rfl, hsz, hP, hK, hD0⟩ := hv
  have hx := B.exec
  have hb := B.bytes
  have hr := B.returns
  have hts := atoms_spec (ws := wsX8_makes) B.pre
  have hown : s.vm.findClass RX8 = some m.cls := findClass_of_methodNamed B.named
  have hlocks := B.notSynchronized
  subst hsz
  obtain ⟨A, hAe⟩ : ∃ A : Nat → Prop, A = va_A (wM y h q tw pn ki on ot ab be zA zB zC zD zF zT fo lw hg at_ tl th wo wl wh is_ lo_ hi_ di su an) s.heap.size := ⟨_, rfl⟩
  have hD : va_D A (wM y h q tw pn ki on ot ab be zA zB zC zD zF zT fo lw hg at_ tl th wo wl wh is_ lo_ hi_ di su an) := by rw [hAe]; exact hD0.self (sz := s.heap.size)
  have hA : ∀ q : Nat, s.heap.size ≤ q → A q := fun q h => by rw [hAe]; exact Or.inr h
  have hS : va_S A s.heap s.heap [] := va_S.rf
  have hl := lv_entry ([.ref h, .int (nI k), .int (nI p), .long al, .long ah, .long bl, .long bh]) (n := 13) (Nat.le_of_ble_eq_true rfl)
  rw [lg_entry_eq]
  generalize (lg_sl ([.ref h, .int (nI k), .int (nI p), .long al, .long ah, .long bl, .long bh]) ++ List.replicate (13 - (lg_sl ([.ref h, .int (nI k), .int (nI p), .long al, .long ah, .long bl, .long bh])).length) Slot.unset).toArray = ls at hl ⊢
  have hl : lv_has ls 13 [(0, .ref h), (1, .int (nI k)), (2, .int (nI p)), (3, .long al), (5, .long ah), (7, .long bl), (9, .long bh)] := hl
  refine lv_aload_n hx hb dX8_makes_0 rfl (lv_at hl 0 rfl) ?_
  refine va_get (D := D) (ci := 6) (v := .ref (q 2)) (C := RX8) (T := TX8) (N := 28) hx hb hts in_X8_makes_X8 hown hK.1 hP 0 rfl rfl 2 (by decide) (hts (.fieldLink RX8 7 "NestlimitModel" "kinds" "[I") (List.mem_of_getElem? (i := 1) rfl)) (fun _ h9 => h9) rfl dX8_makes_1 ?_
  refine lv_iload_n hx hb dX8_makes_4 rfl (lv_at hl 1 rfl) ?_
  refine g_iald (k := k) hx hb hK.1 hP 1 0 rfl rfl (hk) (by decide) dX8_makes_5 ?_
  refine g_topi (y := 4) (hki) ?_
  refine lv_tableIn (off := 138) (tgt := 144) hx hb dX8_makes_6 (by decide) (by decide) rfl (by decide) ?_
  refine lv_aload_n hx hb dX8_makes_144 rfl (lv_at hl 0 rfl) ?_
  refine lv_lload_n hx hb dX8_makes_145 rfl (lv_at hl 3 rfl) ?_
  refine lv_lload hx hb dX8_makes_146 (lv_at hl 5 rfl) ?_
  refine g_callR (v0 := .long (sp_X8_most al bl)) (va_runS (As := [.long al, .long bl]) (rest := [.ref h]) ⟨hx, hb, hml, hown, hts⟩ (c_X8_most l D y s.heap.size al bl) (va_cwS 2 hts gX8_makes_X8_most rfl rfl rfl (by decide +kernel) ⟨Nat.le_of_ble_eq_true rfl, Nat.le_of_ble_eq_true rfl⟩) (gP_S hP hD hK [] (by decide) rfl) rfl rfl hl.1 rfl (lv_room (Nat.le_of_ble_eq_true rfl)) dX8_makes_148 ⟨Nat.zero_le _, Nat.zero_le _⟩) ?_
  refine lv_lload hx hb dX8_makes_151 (lv_at hl 4 rfl) ?_
  refine lv_lload hx hb dX8_makes_153 (lv_at hl 6 rfl) ?_
  refine g_callR (v0 := .long (sp_X8_most ah bh)) (va_runS (As := [.long ah, .long bh]) (rest := [.long (sp_X8_most al bl), .ref h]) ⟨hx, hb, hml, hown, hts⟩ (c_X8_most l D y s.heap.size ah bh) (va_cwS 2 hts gX8_makes_X8_most rfl rfl rfl (by decide +kernel) ⟨Nat.le_of_ble_eq_true rfl, Nat.le_of_ble_eq_true rfl⟩) (gP_S hP hD hK [] (by decide) rfl) rfl rfl hl.1 rfl (lv_room (Nat.le_of_ble_eq_true rfl)) dX8_makes_155 ⟨Nat.zero_le _, Nat.zero_le _⟩) ?_
  refine g_callAv (w0 := wM y h q tw pn ki on ot ab be zA zB zC zD zF zT fo lw hg at_ tl th wo wl wh true (sp_X8_most al bl) (sp_X8_most ah bh) di su an) (va_runV (As := [.long (sp_X8_most al bl), .long (sp_X8_most ah bh)]) (rest := []) ⟨hx, hb, hml, hown, hts⟩ (c_X8_sets l D y s.heap.size h q tw pn ki on ot ab be zA zB zC zD zF zT fo lw hg at_ tl th wo wl wh is_ lo_ hi_ di su an (sp_X8_most al bl) (sp_X8_most ah bh)) (cwV 2 hts gX8_makes_X8_sets rfl rfl rfl (by decide +kernel) ⟨Nat.le_of_ble_eq_true rfl, Nat.le_of_ble_eq_true rfl⟩) (gP_VA hP hD hK 0 rfl rfl) rfl rfl hl.1 rfl (lv_room (Nat.le_of_ble_eq_true rfl)) dX8_makes_158 ⟨Nat.zero_le _, Nat.zero_le _⟩) hP hD hS hA rfl (fun H locs hP hD hS => ?_)
  refine lv_goto (tgt := 203) hx hb dX8_makes_161 (by decide) ?_
  refine lv_ldc2 (v := 64) hx hb hown (hts (.constantLong RX8 153 (64)) (List.mem_of_getElem? (i := 4) rfl)) dX8_makes_203 ?_
  refine lv_iload_n hx hb dX8_makes_206 rfl (lv_at hl 2 rfl) ?_
  refine lv_lshl (v := jshl 64 (nI p)) hx hb dX8_makes_207 rfl ?_
  refine lv_lstore (lv' := [(11, .long (jshl 64 (nI p))), (0, .ref h), (1, .int (nI k)), (2, .int (nI p)), (3, .long al), (5, .long ah), (7, .long bl), (9, .long bh)]) hx hb dX8_makes_208 hl (by decide) rfl (fun ls hl => ?_)
  refine lv_aload_n hx hb dX8_makes_210 rfl (lv_at hl 1 rfl) ?_
  refine lv_aload_n hx hb dX8_makes_211 rfl (lv_at hl 1 rfl) ?_
  refine va_get (D := D) (ci := 6) (v := .int (gB true)) (C := RX8) (T := TX8) (N := 28) hx hb hts in_X8_makes_X8 hown hK.1 hP 0 rfl rfl 22 (by decide) (hts (.fieldLink RX8 92 "NestlimitModel" "is" "Z") (List.mem_of_getElem? (i := 5) rfl)) (fun _ h9 => h9) rfl dX8_makes_212 ?_
  refine g_beq (tgt := 264) hx hb dX8_makes_215 (by decide) (fun c_215 => absurd c_215 (by decide)) (fun c_215 => ?_)
  refine lv_aload_n hx hb dX8_makes_218 rfl (lv_at hl 1 rfl) ?_
  refine va_get (D := D) (ci := 6) (v := .long (sp_X8_most al bl)) (C := RX8) (T := TX8) (N := 28) hx hb hts in_X8_makes_X8 hown hK.1 hP 0 rfl rfl 23 (by decide) (hts (.fieldLink RX8 96 "NestlimitModel" "low" "J") (List.mem_of_getElem? (i := 6) rfl)) (fun _ h9 => h9) rfl dX8_makes_219 ?_
  refine lv_lload hx hb dX8_makes_222 (lv_at hl 0 rfl) ?_
  refine lv_lneg hx hb dX8_makes_224 ?_
  refine g_lt (tgt := 264) hx hb dX8_makes_225 dX8_makes_226 (by decide) (fun c_225 => ?_) (fun c_225 => ?_)
  · skip
    refine lv_iconst (v := 0) hx hb dX8_makes_264 (by decide) ?_
    refine va_put (D := D) (ci := 6) (v := .int (gB false)) (ty := .boolean) (C := RX8) (T := TX8) (N := 28) hx hb hts in_X8_makes_X8 tyX8 tyX8_ok nmX8 hown hK.1 hP hD hS 0 rfl rfl 22 (by decide) (hts (.fieldLink RX8 92 "NestlimitModel" "is" "Z") (List.mem_of_getElem? (i := 5) rfl)) (fun _ h9 => h9) rfl (by decide +kernel) (gB_n _) (gB_f _) (Nat.le_of_ble_eq_true rfl) dX8_makes_265 (fun H locs hP hD hS => ?_)
    have hP : va_P D vwCl (wM y h q tw pn ki on ot ab be zA zB zC zD zF zT fo lw hg at_ tl th wo wl wh false (sp_X8_most al bl) (sp_X8_most ah bh) di su an) H := hP
    have hD : va_D A (wM y h q tw pn ki on ot ab be zA zB zC zD zF zT fo lw hg at_ tl th wo wl wh false (sp_X8_most al bl) (sp_X8_most ah bh) di su an) := hD
    exact W.vret hx hb hr (fun t ht hW => ⟨⟨none, wM y h q tw pn ki on ot ab be zA zB zC zD zF zT fo lw hg at_ tl th wo wl wh false (sp_X8_most al bl) (sp_X8_most ah bh) di su an, rfl, ⟨rfl, by simp only [sp_X8_makes_4_is_, if_pos c_225]⟩, rfl, by rw [ht]; exact hP⟩, by rw [← hAe]; exact hS.F ht⟩) (by rw [← hAe]; exact hS.2.2) dX8_makes_268
  · skip
    refine lv_aload_n hx hb dX8_makes_229 rfl (lv_at hl 1 rfl) ?_
    refine va_get (D := D) (ci := 6) (v := .long (sp_X8_most ah bh)) (C := RX8) (T := TX8) (N := 28) hx hb hts in_X8_makes_X8 hown hK.1 hP 0 rfl rfl 24 (by decide) (hts (.fieldLink RX8 100 "NestlimitModel" "high" "J") (List.mem_of_getElem? (i := 7) rfl)) (fun _ h9 => h9) rfl dX8_makes_230 ?_
    refine lv_lload hx hb dX8_makes_233 (lv_at hl 0 rfl) ?_
    refine g_gt (tgt := 264) hx hb dX8_makes_235 dX8_makes_236 (by decide) (fun c_235 => ?_) (fun c_235 => ?_)
    · skip
      refine lv_iconst (v := 0) hx hb dX8_makes_264 (by decide) ?_
      refine va_put (D := D) (ci := 6) (v := .int (gB false)) (ty := .boolean) (C := RX8) (T := TX8) (N := 28) hx hb hts in_X8_makes_X8 tyX8 tyX8_ok nmX8 hown hK.1 hP hD hS 0 rfl rfl 22 (by decide) (hts (.fieldLink RX8 92 "NestlimitModel" "is" "Z") (List.mem_of_getElem? (i := 5) rfl)) (fun _ h9 => h9) rfl (by decide +kernel) (gB_n _) (gB_f _) (Nat.le_of_ble_eq_true rfl) dX8_makes_265 (fun H locs hP hD hS => ?_)
      have hP : va_P D vwCl (wM y h q tw pn ki on ot ab be zA zB zC zD zF zT fo lw hg at_ tl th wo wl wh false (sp_X8_most al bl) (sp_X8_most ah bh) di su an) H := hP
      have hD : va_D A (wM y h q tw pn ki on ot ab be zA zB zC zD zF zT fo lw hg at_ tl th wo wl wh false (sp_X8_most al bl) (sp_X8_most ah bh) di su an) := hD
      exact W.vret hx hb hr (fun t ht hW => ⟨⟨none, wM y h q tw pn ki on ot ab be zA zB zC zD zF zT fo lw hg at_ tl th wo wl wh false (sp_X8_most al bl) (sp_X8_most ah bh) di su an, rfl, ⟨rfl, by simp only [sp_X8_makes_4_is_, if_neg c_225, if_pos c_235]⟩, rfl, by rw [ht]; exact hP⟩, by rw [← hAe]; exact hS.F ht⟩) (by rw [← hAe]; exact hS.2.2) dX8_makes_268
    · skip
      refine lv_aload_n hx hb dX8_makes_239 rfl (lv_at hl 1 rfl) ?_
      refine va_get (D := D) (ci := 6) (v := .long (sp_X8_most al bl)) (C := RX8) (T := TX8) (N := 28) hx hb hts in_X8_makes_X8 hown hK.1 hP 0 rfl rfl 23 (by decide) (hts (.fieldLink RX8 96 "NestlimitModel" "low" "J") (List.mem_of_getElem? (i := 6) rfl)) (fun _ h9 => h9) rfl dX8_makes_240 ?_
      refine lv_lload hx hb dX8_makes_243 (lv_at hl 0 rfl) ?_
      refine g_gt (tgt := 264) hx hb dX8_makes_245 dX8_makes_246 (by decide) (fun c_245 => ?_) (fun c_245 => ?_)
      · skip
        refine lv_iconst (v := 0) hx hb dX8_makes_264 (by decide) ?_
        refine va_put (D := D) (ci := 6) (v := .int (gB false)) (ty := .boolean) (C := RX8) (T := TX8) (N := 28) hx hb hts in_X8_makes_X8 tyX8 tyX8_ok nmX8 hown hK.1 hP hD hS 0 rfl rfl 22 (by decide) (hts (.fieldLink RX8 92 "NestlimitModel" "is" "Z") (List.mem_of_getElem? (i := 5) rfl)) (fun _ h9 => h9) rfl (by decide +kernel) (gB_n _) (gB_f _) (Nat.le_of_ble_eq_true rfl) dX8_makes_265 (fun H locs hP hD hS => ?_)
        have hP : va_P D vwCl (wM y h q tw pn ki on ot ab be zA zB zC zD zF zT fo lw hg at_ tl th wo wl wh false (sp_X8_most al bl) (sp_X8_most ah bh) di su an) H := hP
        have hD : va_D A (wM y h q tw pn ki on ot ab be zA zB zC zD zF zT fo lw hg at_ tl th wo wl wh false (sp_X8_most al bl) (sp_X8_most ah bh) di su an) := hD
        exact W.vret hx hb hr (fun t ht hW => ⟨⟨none, wM y h q tw pn ki on ot ab be zA zB zC zD zF zT fo lw hg at_ tl th wo wl wh false (sp_X8_most al bl) (sp_X8_most ah bh) di su an, rfl, ⟨rfl, by simp only [sp_X8_makes_4_is_, if_neg c_225, if_neg c_235, if_pos c_245]⟩, rfl, by rw [ht]; exact hP⟩, by rw [← hAe]; exact hS.F ht⟩) (by rw [← hAe]; exact hS.2.2) dX8_makes_268
      · skip
        refine lv_aload_n hx hb dX8_makes_249 rfl (lv_at hl 1 rfl) ?_
        refine va_get (D := D) (ci := 6) (v := .long (sp_X8_most ah bh)) (C := RX8) (T := TX8) (N := 28) hx hb hts in_X8_makes_X8 hown hK.1 hP 0 rfl rfl 24 (by decide) (hts (.fieldLink RX8 100 "NestlimitModel" "high" "J") (List.mem_of_getElem? (i := 7) rfl)) (fun _ h9 => h9) rfl dX8_makes_250 ?_
        refine lv_lload hx hb dX8_makes_253 (lv_at hl 0 rfl) ?_
        refine lv_lneg hx hb dX8_makes_255 ?_
        refine g_lt (tgt := 264) hx hb dX8_makes_256 dX8_makes_257 (by decide) (fun c_256 => ?_) (fun c_256 => ?_)
        · skip
          refine lv_iconst (v := 0) hx hb dX8_makes_264 (by decide) ?_
          refine va_put (D := D) (ci := 6) (v := .int (gB false)) (ty := .boolean) (C := RX8) (T := TX8) (N := 28) hx hb hts in_X8_makes_X8 tyX8 tyX8_ok nmX8 hown hK.1 hP hD hS 0 rfl rfl 22 (by decide) (hts (.fieldLink RX8 92 "NestlimitModel" "is" "Z") (List.mem_of_getElem? (i := 5) rfl)) (fun _ h9 => h9) rfl (by decide +kernel) (gB_n _) (gB_f _) (Nat.le_of_ble_eq_true rfl) dX8_makes_265 (fun H locs hP hD hS => ?_)
          have hP : va_P D vwCl (wM y h q tw pn ki on ot ab be zA zB zC zD zF zT fo lw hg at_ tl th wo wl wh false (sp_X8_most al bl) (sp_X8_most ah bh) di su an) H := hP
          have hD : va_D A (wM y h q tw pn ki on ot ab be zA zB zC zD zF zT fo lw hg at_ tl th wo wl wh false (sp_X8_most al bl) (sp_X8_most ah bh) di su an) := hD
          exact W.vret hx hb hr (fun t ht hW => ⟨⟨none, wM y h q tw pn ki on ot ab be zA zB zC zD zF zT fo lw hg at_ tl th wo wl wh false (sp_X8_most al bl) (sp_X8_most ah bh) di su an, rfl, ⟨rfl, by simp only [sp_X8_makes_4_is_, if_neg c_225, if_neg c_235, if_neg c_245, if_pos c_256]⟩, rfl, by rw [ht]; exact hP⟩, by rw [← hAe]; exact hS.F ht⟩) (by rw [← hAe]; exact hS.2.2) dX8_makes_268
        · skip
          refine lv_iconst (v := 1) hx hb dX8_makes_260 (by decide) ?_
          refine lv_goto (tgt := 265) hx hb dX8_makes_261 (by decide) ?_
          refine va_put (D := D) (ci := 6) (v := .int (gB true)) (ty := .boolean) (C := RX8) (T := TX8) (N := 28) hx hb hts in_X8_makes_X8 tyX8 tyX8_ok nmX8 hown hK.1 hP hD hS 0 rfl rfl 22 (by decide) (hts (.fieldLink RX8 92 "NestlimitModel" "is" "Z") (List.mem_of_getElem? (i := 5) rfl)) (fun _ h9 => h9) rfl (by decide +kernel) (gB_n _) (gB_f _) (Nat.le_of_ble_eq_true rfl) dX8_makes_265 (fun H locs hP hD hS => ?_)
          have hP : va_P D vwCl (wM y h q tw pn ki on ot ab be zA zB zC zD zF zT fo lw hg at_ tl th wo wl wh true (sp_X8_most al bl) (sp_X8_most ah bh) di su an) H := hP
          have hD : va_D A (wM y h q tw pn ki on ot ab be zA zB zC zD zF zT fo lw hg at_ tl th wo wl wh true (sp_X8_most al bl) (sp_X8_most ah bh) di su an) := hD
          exact W.vret hx hb hr (fun t ht hW => ⟨⟨none, wM y h q tw pn ki on ot ab be zA zB zC zD zF zT fo lw hg at_ tl th wo wl wh true (sp_X8_most al bl) (sp_X8_most ah bh) di su an, rfl, ⟨rfl, by simp only [sp_X8_makes_4_is_, if_neg c_225, if_neg c_235, if_neg c_245, if_neg c_256]⟩, rfl, by rw [ht]; exact hP⟩, by rw [← hAe]; exact hS.F ht⟩) (by rw [← hAe]; exact hS.2.2) dX8_makes_268
def sp_X8_makes_5_is_ (lo_ : Int64) (hi_ : Int64) (p : Nat) (al : Int64) (ah : Int64) : Bool := if (sp_X8_inverts_is_ al ah) = true then if (sp_X8_inverts_lo_ lo_ al ah (nI p)) < (-(jshl 64 (nI p))) then false else if (jshl 64 (nI p)) < (sp_X8_inverts_hi_ hi_ al ah (nI p)) then false else if (jshl 64 (nI p)) < (sp_X8_inverts_lo_ lo_ al ah (nI p)) then false else if (sp_X8_inverts_hi_ hi_ al ah (nI p)) < (-(jshl 64 (nI p))) then false else true else false
set_option maxHeartbeats 4000000 in
set_option maxRecDepth 100000 in
theorem c_X8_makes_5 (l : Launch) (D : va_G) (y : Nat → ClassId) (sz : Nat) (h : Nat) (q : Nat → Nat) (tw : Int32) (pn : Nat) (ki on ot ab be zA zB zC zD zF zT : Nat → Int32) (fo : Nat → Bool) (lw hg : Nat → Int64) (at_ : Nat → Bool) (tl th : Nat → Int64) (wo : Nat → Bool) (wl wh : Nat → Int64) (is_ : Bool) (lo_ hi_ : Int64) (di : Nat → Int32) (su : Nat → Int64) (an : Nat → Bool) (k p : Nat) (al ah bl bh : Int64) (hk : k < 40) (hp : p < 25) (hki : ki k = 5) (hab : al ≤ ah) : Met l yX8_makes wsX8_makes ({ frames := 3, cells := 0, slots := 0, locals := 90 } : Room) (gP D y [.ref h, .int (nI k), .int (nI p), .long al, .long ah, .long bl, .long bh] (wM y h q tw pn ki on ot ab be zA zB zC zD zF zT fo lw hg at_ tl th wo wl wh is_ lo_ hi_ di su an) sz) (gQ D (wM y h q tw pn ki on ot ab be zA zB zC zD zF zT fo lw hg at_ tl th wo wl wh is_ lo_ hi_ di su an) (gF none (wM y h q tw pn ki on ot ab be zA zB zC zD zF zT fo lw hg at_ tl th wo wl wh (sp_X8_makes_5_is_ lo_ hi_ p al ah) (sp_X8_inverts_lo_ lo_ al ah (nI p)) (sp_X8_inverts_hi_ hi_ al ah (nI p)) di su an))) 0 0 (va_A (wM y h q tw pn ki on ot ab be zA zB zC zD zF zT fo lw hg at_ tl th wo wl wh is_ lo_ hi_ di su an) sz) := by
  refine Met.ofW (cc := cX8_makes) (maxL := 13) (ret := none) (by decide) rfl ?_
  intro pg e s m args below meth c s₁ B hml hv
  obtain ⟨rfl, hsz, hP, hK, hD0⟩ := hv
  have hx := B.exec
  have hb := B.bytes
  have hr := B.returns
  have hts := atoms_spec (ws := wsX8_makes) B.pre
  have hown : s.vm.findClass RX8 = some m.cls := findClass_of_methodNamed B.named
  have hlocks := B.notSynchronized
  subst hsz
  obtain ⟨A, hAe⟩ : ∃ A : Nat → Prop, A = va_A (wM y h q tw pn ki on ot ab be zA zB zC zD zF zT fo lw hg at_ tl th wo wl wh is_ lo_ hi_ di su an) s.heap.size := ⟨_, rfl⟩
  have hD : va_D A (wM y h q tw pn ki on ot ab be zA zB zC zD zF zT fo lw hg at_ tl th wo wl wh is_ lo_ hi_ di su an) := by rw [hAe]; exact hD0.self (sz := s.heap.size)
  have hA : ∀ q : Nat, s.heap.size ≤ q → A q := fun q h => by rw [hAe]; exact Or.inr h
  have hS : va_S A s.heap s.heap [] := va_S.rf
  have hl := lv_entry ([.ref h, .int (nI k), .int (nI p), .long al, .long ah, .long bl, .long bh]) (n := 13) (Nat.le_of_ble_eq_true rfl)
  rw [lg_entry_eq]
  generalize (lg_sl ([.ref h, .int (nI k), .int (nI p), .long al, .long ah, .long bl, .long bh]) ++ List.replicate (13 - (lg_sl ([.ref h, .int (nI k), .int (nI p), .long al, .long ah, .long bl, .long bh])).length) Slot.unset).toArray = ls at hl ⊢
  have hl : lv_has ls 13 [(0, .ref h), (1, .int (nI k)), (2, .int (nI p)), (3, .long al), (5, .long ah), (7, .long bl), (9, .long bh)] := hl
  refine lv_aload_n hx hb dX8_makes_0 rfl (lv_at hl 0 rfl) ?_
  refine va_get (D := D) (ci := 6) (v := .ref (q 2)) (C := RX8) (T := TX8) (N := 28) hx hb hts in_X8_makes_X8 hown hK.1 hP 0 rfl rfl 2 (by decide) (hts (.fieldLink RX8 7 "NestlimitModel" "kinds" "[I") (List.mem_of_getElem? (i := 1) rfl)) (fun _ h9 => h9) rfl dX8_makes_1 ?_
  refine lv_iload_n hx hb dX8_makes_4 rfl (lv_at hl 1 rfl) ?_
  refine g_iald (k := k) hx hb hK.1 hP 1 0 rfl rfl (hk) (by decide) dX8_makes_5 ?_
  refine g_topi (y := 5) (hki) ?_
  refine lv_tableIn (off := 158) (tgt := 164) hx hb dX8_makes_6 (by decide) (by decide) rfl (by decide) ?_
  refine lv_aload_n hx hb dX8_makes_164 rfl (lv_at hl 0 rfl) ?_
  refine lv_lload_n hx hb dX8_makes_165 rfl (lv_at hl 3 rfl) ?_
  refine lv_lload hx hb dX8_makes_166 (lv_at hl 4 rfl) ?_
  refine lv_iload_n hx hb dX8_makes_168 rfl (lv_at hl 2 rfl) ?_
  refine g_callAv (w0 := wM y h q tw pn ki on ot ab be zA zB zC zD zF zT fo lw hg at_ tl th wo wl wh (sp_X8_inverts_is_ al ah) (sp_X8_inverts_lo_ lo_ al ah (nI p)) (sp_X8_inverts_hi_ hi_ al ah (nI p)) di su an) (va_runV (As := [.long al, .long ah, .int (nI p)]) (rest := []) ⟨hx, hb, hml, hown, hts⟩ (c_X8_inverts l D y s.heap.size h q tw pn ki on ot ab be zA zB zC zD zF zT fo lw hg at_ tl th wo wl wh is_ lo_ hi_ di su an al ah (nI p) hab) (cwV 3 hts gX8_makes_X8_inverts rfl rfl rfl (by decide +kernel) ⟨Nat.le_of_ble_eq_true rfl, Nat.le_of_ble_eq_true rfl⟩) (gP_VA hP hD hK 0 rfl rfl) rfl rfl hl.1 rfl (lv_room (Nat.le_of_ble_eq_true rfl)) dX8_makes_169 ⟨Nat.zero_le _, Nat.zero_le _⟩) hP hD hS hA rfl (fun H locs hP hD hS => ?_)
  refine lv_goto (tgt := 203) hx hb dX8_makes_172 (by decide) ?_
  refine lv_ldc2 (v := 64) hx hb hown (hts (.constantLong RX8 153 (64)) (List.mem_of_getElem? (i := 4) rfl)) dX8_makes_203 ?_
  refine lv_iload_n hx hb dX8_makes_206 rfl (lv_at hl 2 rfl) ?_
  refine lv_lshl (v := jshl 64 (nI p)) hx hb dX8_makes_207 rfl ?_
  refine lv_lstore (lv' := [(11, .long (jshl 64 (nI p))), (0, .ref h), (1, .int (nI k)), (2, .int (nI p)), (3, .long al), (5, .long ah), (7, .long bl), (9, .long bh)]) hx hb dX8_makes_208 hl (by decide) rfl (fun ls hl => ?_)
  refine lv_aload_n hx hb dX8_makes_210 rfl (lv_at hl 1 rfl) ?_
  refine lv_aload_n hx hb dX8_makes_211 rfl (lv_at hl 1 rfl) ?_
  refine va_get (D := D) (ci := 6) (v := .int (gB (sp_X8_inverts_is_ al ah))) (C := RX8) (T := TX8) (N := 28) hx hb hts in_X8_makes_X8 hown hK.1 hP 0 rfl rfl 22 (by decide) (hts (.fieldLink RX8 92 "NestlimitModel" "is" "Z") (List.mem_of_getElem? (i := 5) rfl)) (fun _ h9 => h9) rfl dX8_makes_212 ?_
  refine g_beq (tgt := 264) hx hb dX8_makes_215 (by decide) (fun c_215 => ?_) (fun c_215 => ?_)
  · skip
    refine lv_iconst (v := 0) hx hb dX8_makes_264 (by decide) ?_
    refine va_put (D := D) (ci := 6) (v := .int (gB false)) (ty := .boolean) (C := RX8) (T := TX8) (N := 28) hx hb hts in_X8_makes_X8 tyX8 tyX8_ok nmX8 hown hK.1 hP hD hS 0 rfl rfl 22 (by decide) (hts (.fieldLink RX8 92 "NestlimitModel" "is" "Z") (List.mem_of_getElem? (i := 5) rfl)) (fun _ h9 => h9) rfl (by decide +kernel) (gB_n _) (gB_f _) (Nat.le_of_ble_eq_true rfl) dX8_makes_265 (fun H locs hP hD hS => ?_)
    have hP : va_P D vwCl (wM y h q tw pn ki on ot ab be zA zB zC zD zF zT fo lw hg at_ tl th wo wl wh false (sp_X8_inverts_lo_ lo_ al ah (nI p)) (sp_X8_inverts_hi_ hi_ al ah (nI p)) di su an) H := hP
    have hD : va_D A (wM y h q tw pn ki on ot ab be zA zB zC zD zF zT fo lw hg at_ tl th wo wl wh false (sp_X8_inverts_lo_ lo_ al ah (nI p)) (sp_X8_inverts_hi_ hi_ al ah (nI p)) di su an) := hD
    exact W.vret hx hb hr (fun t ht hW => ⟨⟨none, wM y h q tw pn ki on ot ab be zA zB zC zD zF zT fo lw hg at_ tl th wo wl wh false (sp_X8_inverts_lo_ lo_ al ah (nI p)) (sp_X8_inverts_hi_ hi_ al ah (nI p)) di su an, rfl, ⟨rfl, by simp only [sp_X8_makes_5_is_, if_neg c_215]⟩, rfl, by rw [ht]; exact hP⟩, by rw [← hAe]; exact hS.F ht⟩) (by rw [← hAe]; exact hS.2.2) dX8_makes_268
  · skip
    refine lv_aload_n hx hb dX8_makes_218 rfl (lv_at hl 1 rfl) ?_
    refine va_get (D := D) (ci := 6) (v := .long (sp_X8_inverts_lo_ lo_ al ah (nI p))) (C := RX8) (T := TX8) (N := 28) hx hb hts in_X8_makes_X8 hown hK.1 hP 0 rfl rfl 23 (by decide) (hts (.fieldLink RX8 96 "NestlimitModel" "low" "J") (List.mem_of_getElem? (i := 6) rfl)) (fun _ h9 => h9) rfl dX8_makes_219 ?_
    refine lv_lload hx hb dX8_makes_222 (lv_at hl 0 rfl) ?_
    refine lv_lneg hx hb dX8_makes_224 ?_
    refine g_lt (tgt := 264) hx hb dX8_makes_225 dX8_makes_226 (by decide) (fun c_225 => ?_) (fun c_225 => ?_)
    · skip
      refine lv_iconst (v := 0) hx hb dX8_makes_264 (by decide) ?_
      refine va_put (D := D) (ci := 6) (v := .int (gB false)) (ty := .boolean) (C := RX8) (T := TX8) (N := 28) hx hb hts in_X8_makes_X8 tyX8 tyX8_ok nmX8 hown hK.1 hP hD hS 0 rfl rfl 22 (by decide) (hts (.fieldLink RX8 92 "NestlimitModel" "is" "Z") (List.mem_of_getElem? (i := 5) rfl)) (fun _ h9 => h9) rfl (by decide +kernel) (gB_n _) (gB_f _) (Nat.le_of_ble_eq_true rfl) dX8_makes_265 (fun H locs hP hD hS => ?_)
      have hP : va_P D vwCl (wM y h q tw pn ki on ot ab be zA zB zC zD zF zT fo lw hg at_ tl th wo wl wh false (sp_X8_inverts_lo_ lo_ al ah (nI p)) (sp_X8_inverts_hi_ hi_ al ah (nI p)) di su an) H := hP
      have hD : va_D A (wM y h q tw pn ki on ot ab be zA zB zC zD zF zT fo lw hg at_ tl th wo wl wh false (sp_X8_inverts_lo_ lo_ al ah (nI p)) (sp_X8_inverts_hi_ hi_ al ah (nI p)) di su an) := hD
      exact W.vret hx hb hr (fun t ht hW => ⟨⟨none, wM y h q tw pn ki on ot ab be zA zB zC zD zF zT fo lw hg at_ tl th wo wl wh false (sp_X8_inverts_lo_ lo_ al ah (nI p)) (sp_X8_inverts_hi_ hi_ al ah (nI p)) di su an, rfl, ⟨rfl, by simp only [sp_X8_makes_5_is_, if_pos c_215, if_pos c_225]⟩, rfl, by rw [ht]; exact hP⟩, by rw [← hAe]; exact hS.F ht⟩) (by rw [← hAe]; exact hS.2.2) dX8_makes_268
    · skip
      refine lv_aload_n hx hb dX8_makes_229 rfl (lv_at hl 1 rfl) ?_
      refine va_get (D := D) (ci := 6) (v := .long (sp_X8_inverts_hi_ hi_ al ah (nI p))) (C := RX8) (T := TX8) (N := 28) hx hb hts in_X8_makes_X8 hown hK.1 hP 0 rfl rfl 24 (by decide) (hts (.fieldLink RX8 100 "NestlimitModel" "high" "J") (List.mem_of_getElem? (i := 7) rfl)) (fun _ h9 => h9) rfl dX8_makes_230 ?_
      refine lv_lload hx hb dX8_makes_233 (lv_at hl 0 rfl) ?_
      refine g_gt (tgt := 264) hx hb dX8_makes_235 dX8_makes_236 (by decide) (fun c_235 => ?_) (fun c_235 => ?_)
      · skip
        refine lv_iconst (v := 0) hx hb dX8_makes_264 (by decide) ?_
        refine va_put (D := D) (ci := 6) (v := .int (gB false)) (ty := .boolean) (C := RX8) (T := TX8) (N := 28) hx hb hts in_X8_makes_X8 tyX8 tyX8_ok nmX8 hown hK.1 hP hD hS 0 rfl rfl 22 (by decide) (hts (.fieldLink RX8 92 "NestlimitModel" "is" "Z") (List.mem_of_getElem? (i := 5) rfl)) (fun _ h9 => h9) rfl (by decide +kernel) (gB_n _) (gB_f _) (Nat.le_of_ble_eq_true rfl) dX8_makes_265 (fun H locs hP hD hS => ?_)
        have hP : va_P D vwCl (wM y h q tw pn ki on ot ab be zA zB zC zD zF zT fo lw hg at_ tl th wo wl wh false (sp_X8_inverts_lo_ lo_ al ah (nI p)) (sp_X8_inverts_hi_ hi_ al ah (nI p)) di su an) H := hP
        have hD : va_D A (wM y h q tw pn ki on ot ab be zA zB zC zD zF zT fo lw hg at_ tl th wo wl wh false (sp_X8_inverts_lo_ lo_ al ah (nI p)) (sp_X8_inverts_hi_ hi_ al ah (nI p)) di su an) := hD
        exact W.vret hx hb hr (fun t ht hW => ⟨⟨none, wM y h q tw pn ki on ot ab be zA zB zC zD zF zT fo lw hg at_ tl th wo wl wh false (sp_X8_inverts_lo_ lo_ al ah (nI p)) (sp_X8_inverts_hi_ hi_ al ah (nI p)) di su an, rfl, ⟨rfl, by simp only [sp_X8_makes_5_is_, if_pos c_215, if_neg c_225, if_pos c_235]⟩, rfl, by rw [ht]; exact hP⟩, by rw [← hAe]; exact hS.F ht⟩) (by rw [← hAe]; exact hS.2.2) dX8_makes_268
      · skip
        refine lv_aload_n hx hb dX8_makes_239 rfl (lv_at hl 1 rfl) ?_
        refine va_get (D := D) (ci := 6) (v := .long (sp_X8_inverts_lo_ lo_ al ah (nI p))) (C := RX8) (T := TX8) (N := 28) hx hb hts in_X8_makes_X8 hown hK.1 hP 0 rfl rfl 23 (by decide) (hts (.fieldLink RX8 96 "NestlimitModel" "low" "J") (List.mem_of_getElem? (i := 6) rfl)) (fun _ h9 => h9) rfl dX8_makes_240 ?_
        refine lv_lload hx hb dX8_makes_243 (lv_at hl 0 rfl) ?_
        refine g_gt (tgt := 264) hx hb dX8_makes_245 dX8_makes_246 (by decide) (fun c_245 => ?_) (fun c_245 => ?_)
        · skip
          refine lv_iconst (v := 0) hx hb dX8_makes_264 (by decide) ?_
          refine va_put (D := D) (ci := 6) (v := .int (gB false)) (ty := .boolean) (C := RX8) (T := TX8) (N := 28) hx hb hts in_X8_makes_X8 tyX8 tyX8_ok nmX8 hown hK.1 hP hD hS 0 rfl rfl 22 (by decide) (hts (.fieldLink RX8 92 "NestlimitModel" "is" "Z") (List.mem_of_getElem? (i := 5) rfl)) (fun _ h9 => h9) rfl (by decide +kernel) (gB_n _) (gB_f _) (Nat.le_of_ble_eq_true rfl) dX8_makes_265 (fun H locs hP hD hS => ?_)
          have hP : va_P D vwCl (wM y h q tw pn ki on ot ab be zA zB zC zD zF zT fo lw hg at_ tl th wo wl wh false (sp_X8_inverts_lo_ lo_ al ah (nI p)) (sp_X8_inverts_hi_ hi_ al ah (nI p)) di su an) H := hP
          have hD : va_D A (wM y h q tw pn ki on ot ab be zA zB zC zD zF zT fo lw hg at_ tl th wo wl wh false (sp_X8_inverts_lo_ lo_ al ah (nI p)) (sp_X8_inverts_hi_ hi_ al ah (nI p)) di su an) := hD
          exact W.vret hx hb hr (fun t ht hW => ⟨⟨none, wM y h q tw pn ki on ot ab be zA zB zC zD zF zT fo lw hg at_ tl th wo wl wh false (sp_X8_inverts_lo_ lo_ al ah (nI p)) (sp_X8_inverts_hi_ hi_ al ah (nI p)) di su an, rfl, ⟨rfl, by simp only [sp_X8_makes_5_is_, if_pos c_215, if_neg c_225, if_neg c_235, if_pos c_245]⟩, rfl, by rw [ht]; exact hP⟩, by rw [← hAe]; exact hS.F ht⟩) (by rw [← hAe]; exact hS.2.2) dX8_makes_268
        · skip
          refine lv_aload_n hx hb dX8_makes_249 rfl (lv_at hl 1 rfl) ?_
          refine va_get (D := D) (ci := 6) (v := .long (sp_X8_inverts_hi_ hi_ al ah (nI p))) (C := RX8) (T := TX8) (N := 28) hx hb hts in_X8_makes_X8 hown hK.1 hP 0 rfl rfl 24 (by decide) (hts (.fieldLink RX8 100 "NestlimitModel" "high" "J") (List.mem_of_getElem? (i := 7) rfl)) (fun _ h9 => h9) rfl dX8_makes_250 ?_
          refine lv_lload hx hb dX8_makes_253 (lv_at hl 0 rfl) ?_
          refine lv_lneg hx hb dX8_makes_255 ?_
          refine g_lt (tgt := 264) hx hb dX8_makes_256 dX8_makes_257 (by decide) (fun c_256 => ?_) (fun c_256 => ?_)
          · skip
            refine lv_iconst (v := 0) hx hb dX8_makes_264 (by decide) ?_
            refine va_put (D := D) (ci := 6) (v := .int (gB false)) (ty := .boolean) (C := RX8) (T := TX8) (N := 28) hx hb hts in_X8_makes_X8 tyX8 tyX8_ok nmX8 hown hK.1 hP hD hS 0 rfl rfl 22 (by decide) (hts (.fieldLink RX8 92 "NestlimitModel" "is" "Z") (List.mem_of_getElem? (i := 5) rfl)) (fun _ h9 => h9) rfl (by decide +kernel) (gB_n _) (gB_f _) (Nat.le_of_ble_eq_true rfl) dX8_makes_265 (fun H locs hP hD hS => ?_)
            have hP : va_P D vwCl (wM y h q tw pn ki on ot ab be zA zB zC zD zF zT fo lw hg at_ tl th wo wl wh false (sp_X8_inverts_lo_ lo_ al ah (nI p)) (sp_X8_inverts_hi_ hi_ al ah (nI p)) di su an) H := hP
            have hD : va_D A (wM y h q tw pn ki on ot ab be zA zB zC zD zF zT fo lw hg at_ tl th wo wl wh false (sp_X8_inverts_lo_ lo_ al ah (nI p)) (sp_X8_inverts_hi_ hi_ al ah (nI p)) di su an) := hD
            exact W.vret hx hb hr (fun t ht hW => ⟨⟨none, wM y h q tw pn ki on ot ab be zA zB zC zD zF zT fo lw hg at_ tl th wo wl wh false (sp_X8_inverts_lo_ lo_ al ah (nI p)) (sp_X8_inverts_hi_ hi_ al ah (nI p)) di su an, rfl, ⟨rfl, by simp only [sp_X8_makes_5_is_, if_pos c_215, if_neg c_225, if_neg c_235, if_neg c_245, if_pos c_256]⟩, rfl, by rw [ht]; exact hP⟩, by rw [← hAe]; exact hS.F ht⟩) (by rw [← hAe]; exact hS.2.2) dX8_makes_268
          · skip
            refine lv_iconst (v := 1) hx hb dX8_makes_260 (by decide) ?_
            refine lv_goto (tgt := 265) hx hb dX8_makes_261 (by decide) ?_
            refine va_put (D := D) (ci := 6) (v := .int (gB true)) (ty := .boolean) (C := RX8) (T := TX8) (N := 28) hx hb hts in_X8_makes_X8 tyX8 tyX8_ok nmX8 hown hK.1 hP hD hS 0 rfl rfl 22 (by decide) (hts (.fieldLink RX8 92 "NestlimitModel" "is" "Z") (List.mem_of_getElem? (i := 5) rfl)) (fun _ h9 => h9) rfl (by decide +kernel) (gB_n _) (gB_f _) (Nat.le_of_ble_eq_true rfl) dX8_makes_265 (fun H locs hP hD hS => ?_)
            have hP : va_P D vwCl (wM y h q tw pn ki on ot ab be zA zB zC zD zF zT fo lw hg at_ tl th wo wl wh true (sp_X8_inverts_lo_ lo_ al ah (nI p)) (sp_X8_inverts_hi_ hi_ al ah (nI p)) di su an) H := hP
            have hD : va_D A (wM y h q tw pn ki on ot ab be zA zB zC zD zF zT fo lw hg at_ tl th wo wl wh true (sp_X8_inverts_lo_ lo_ al ah (nI p)) (sp_X8_inverts_hi_ hi_ al ah (nI p)) di su an) := hD
            exact W.vret hx hb hr (fun t ht hW => ⟨⟨none, wM y h q tw pn ki on ot ab be zA zB zC zD zF zT fo lw hg at_ tl th wo wl wh true (sp_X8_inverts_lo_ lo_ al ah (nI p)) (sp_X8_inverts_hi_ hi_ al ah (nI p)) di su an, rfl, ⟨rfl, by simp only [sp_X8_makes_5_is_, if_pos c_215, if_neg c_225, if_neg c_235, if_neg c_245, if_neg c_256]⟩, rfl, by rw [ht]; exact hP⟩, by rw [← hAe]; exact hS.F ht⟩) (by rw [← hAe]; exact hS.2.2) dX8_makes_268
def sp_X8_makes_6_is_ (p : Nat) (al : Int64) (ah : Int64) : Bool := if (rtG 31 (jshl (sp_X8_most al 0) (nI p)) 0) < (-(jshl 64 (nI p))) then false else if (jshl 64 (nI p)) < (sp_X8_roots_hi_ ah (nI p)) then false else if (jshl 64 (nI p)) < (rtG 31 (jshl (sp_X8_most al 0) (nI p)) 0) then false else if (sp_X8_roots_hi_ ah (nI p)) < (-(jshl 64 (nI p))) then false else true
set_option maxHeartbeats 4000000 in
set_option maxRecDepth 100000 in
theorem c_X8_makes_6 (l : Launch) (D : va_G) (y : Nat → ClassId) (sz : Nat) (h : Nat) (q : Nat → Nat) (tw : Int32) (pn : Nat) (ki on ot ab be zA zB zC zD zF zT : Nat → Int32) (fo : Nat → Bool) (lw hg : Nat → Int64) (at_ : Nat → Bool) (tl th : Nat → Int64) (wo : Nat → Bool) (wl wh : Nat → Int64) (is_ : Bool) (lo_ hi_ : Int64) (di : Nat → Int32) (su : Nat → Int64) (an : Nat → Bool) (k p : Nat) (al ah bl bh : Int64) (hk : k < 40) (hp : p < 25) (hki : ki k = 6) : Met l yX8_makes wsX8_makes ({ frames := 3, cells := 0, slots := 0, locals := 90 } : Room) (gP D y [.ref h, .int (nI k), .int (nI p), .long al, .long ah, .long bl, .long bh] (wM y h q tw pn ki on ot ab be zA zB zC zD zF zT fo lw hg at_ tl th wo wl wh is_ lo_ hi_ di su an) sz) (gQ D (wM y h q tw pn ki on ot ab be zA zB zC zD zF zT fo lw hg at_ tl th wo wl wh is_ lo_ hi_ di su an) (gF none (wM y h q tw pn ki on ot ab be zA zB zC zD zF zT fo lw hg at_ tl th wo wl wh (sp_X8_makes_6_is_ p al ah) (rtG 31 (jshl (sp_X8_most al 0) (nI p)) 0) (sp_X8_roots_hi_ ah (nI p)) di su an))) 0 0 (va_A (wM y h q tw pn ki on ot ab be zA zB zC zD zF zT fo lw hg at_ tl th wo wl wh is_ lo_ hi_ di su an) sz) := by
  refine Met.ofW (cc := cX8_makes) (maxL := 13) (ret := none) (by decide) rfl ?_
  intro pg e s m args below meth c s₁ B hml hv
  obtain ⟨rfl, hsz, hP, hK, hD0⟩ := hv
  have hx := B.exec
  have hb := B.bytes
  have hr := B.returns
  have hts := atoms_spec (ws := wsX8_makes) B.pre
  have hown : s.vm.findClass RX8 = some m.cls := findClass_of_methodNamed B.named
  have hlocks := B.notSynchronized
  subst hsz
  obtain ⟨A, hAe⟩ : ∃ A : Nat → Prop, A = va_A (wM y h q tw pn ki on ot ab be zA zB zC zD zF zT fo lw hg at_ tl th wo wl wh is_ lo_ hi_ di su an) s.heap.size := ⟨_, rfl⟩
  have hD : va_D A (wM y h q tw pn ki on ot ab be zA zB zC zD zF zT fo lw hg at_ tl th wo wl wh is_ lo_ hi_ di su an) := by rw [hAe]; exact hD0.self (sz := s.heap.size)
  have hA : ∀ q : Nat, s.heap.size ≤ q → A q := fun q h => by rw [hAe]; exact Or.inr h
  have hS : va_S A s.heap s.heap [] := va_S.rf
  have hl := lv_entry ([.ref h, .int (nI k), .int (nI p), .long al, .long ah, .long bl, .long bh]) (n := 13) (Nat.le_of_ble_eq_true rfl)
  rw [lg_entry_eq]
  generalize (lg_sl ([.ref h, .int (nI k), .int (nI p), .long al, .long ah, .long bl, .long bh]) ++ List.replicate (13 - (lg_sl ([.ref h, .int (nI k), .int (nI p), .long al, .long ah, .long bl, .long bh])).length) Slot.unset).toArray = ls at hl ⊢
  have hl : lv_has ls 13 [(0, .ref h), (1, .int (nI k)), (2, .int (nI p)), (3, .long al), (5, .long ah), (7, .long bl), (9, .long bh)] := hl
  refine lv_aload_n hx hb dX8_makes_0 rfl (lv_at hl 0 rfl) ?_
  refine va_get (D := D) (ci := 6) (v := .ref (q 2)) (C := RX8) (T := TX8) (N := 28) hx hb hts in_X8_makes_X8 hown hK.1 hP 0 rfl rfl 2 (by decide) (hts (.fieldLink RX8 7 "NestlimitModel" "kinds" "[I") (List.mem_of_getElem? (i := 1) rfl)) (fun _ h9 => h9) rfl dX8_makes_1 ?_
  refine lv_iload_n hx hb dX8_makes_4 rfl (lv_at hl 1 rfl) ?_
  refine g_iald (k := k) hx hb hK.1 hP 1 0 rfl rfl (hk) (by decide) dX8_makes_5 ?_
  refine g_topi (y := 6) (hki) ?_
  refine lv_tableIn (off := 169) (tgt := 175) hx hb dX8_makes_6 (by decide) (by decide) rfl (by decide) ?_
  refine lv_aload_n hx hb dX8_makes_175 rfl (lv_at hl 0 rfl) ?_
  refine lv_lload_n hx hb dX8_makes_176 rfl (lv_at hl 3 rfl) ?_
  refine lv_lload hx hb dX8_makes_177 (lv_at hl 4 rfl) ?_
  refine lv_iload_n hx hb dX8_makes_179 rfl (lv_at hl 2 rfl) ?_
  refine g_callAv (w0 := wM y h q tw pn ki on ot ab be zA zB zC zD zF zT fo lw hg at_ tl th wo wl wh true (rtG 31 (jshl (sp_X8_most al 0) (nI p)) 0) (sp_X8_roots_hi_ ah (nI p)) di su an) (va_runV (As := [.long al, .long ah, .int (nI p)]) (rest := []) ⟨hx, hb, hml, hown, hts⟩ (c_X8_roots l D y s.heap.size h q tw pn ki on ot ab be zA zB zC zD zF zT fo lw hg at_ tl th wo wl wh is_ lo_ hi_ di su an al ah (nI p)) (cwV 3 hts gX8_makes_X8_roots rfl rfl rfl (by decide +kernel) ⟨Nat.le_of_ble_eq_true rfl, Nat.le_of_ble_eq_true rfl⟩) (gP_VA hP hD hK 0 rfl rfl) rfl rfl hl.1 rfl (lv_room (Nat.le_of_ble_eq_true rfl)) dX8_makes_180 ⟨Nat.zero_le _, Nat.zero_le _⟩) hP hD hS hA rfl (fun H locs hP hD hS => ?_)
  refine lv_goto (tgt := 203) hx hb dX8_makes_183 (by decide) ?_
  refine lv_ldc2 (v := 64) hx hb hown (hts (.constantLong RX8 153 (64)) (List.mem_of_getElem? (i := 4) rfl)) dX8_makes_203 ?_
  refine lv_iload_n hx hb dX8_makes_206 rfl (lv_at hl 2 rfl) ?_
  refine lv_lshl (v := jshl 64 (nI p)) hx hb dX8_makes_207 rfl ?_
  refine lv_lstore (lv' := [(11, .long (jshl 64 (nI p))), (0, .ref h), (1, .int (nI k)), (2, .int (nI p)), (3, .long al), (5, .long ah), (7, .long bl), (9, .long bh)]) hx hb dX8_makes_208 hl (by decide) rfl (fun ls hl => ?_)
  refine lv_aload_n hx hb dX8_makes_210 rfl (lv_at hl 1 rfl) ?_
  refine lv_aload_n hx hb dX8_makes_211 rfl (lv_at hl 1 rfl) ?_
  refine va_get (D := D) (ci := 6) (v := .int (gB true)) (C := RX8) (T := TX8) (N := 28) hx hb hts in_X8_makes_X8 hown hK.1 hP 0 rfl rfl 22 (by decide) (hts (.fieldLink RX8 92 "NestlimitModel" "is" "Z") (List.mem_of_getElem? (i := 5) rfl)) (fun _ h9 => h9) rfl dX8_makes_212 ?_
  refine g_beq (tgt := 264) hx hb dX8_makes_215 (by decide) (fun c_215 => absurd c_215 (by decide)) (fun c_215 => ?_)
  refine lv_aload_n hx hb dX8_makes_218 rfl (lv_at hl 1 rfl) ?_
  refine va_get (D := D) (ci := 6) (v := .long (rtG 31 (jshl (sp_X8_most al 0) (nI p)) 0)) (C := RX8) (T := TX8) (N := 28) hx hb hts in_X8_makes_X8 hown hK.1 hP 0 rfl rfl 23 (by decide) (hts (.fieldLink RX8 96 "NestlimitModel" "low" "J") (List.mem_of_getElem? (i := 6) rfl)) (fun _ h9 => h9) rfl dX8_makes_219 ?_
  refine lv_lload hx hb dX8_makes_222 (lv_at hl 0 rfl) ?_
  refine lv_lneg hx hb dX8_makes_224 ?_
  refine g_lt (tgt := 264) hx hb dX8_makes_225 dX8_makes_226 (by decide) (fun c_225 => ?_) (fun c_225 => ?_)
  · skip
    refine lv_iconst (v := 0) hx hb dX8_makes_264 (by decide) ?_
    refine va_put (D := D) (ci := 6) (v := .int (gB false)) (ty := .boolean) (C := RX8) (T := TX8) (N := 28) hx hb hts in_X8_makes_X8 tyX8 tyX8_ok nmX8 hown hK.1 hP hD hS 0 rfl rfl 22 (by decide) (hts (.fieldLink RX8 92 "NestlimitModel" "is" "Z") (List.mem_of_getElem? (i := 5) rfl)) (fun _ h9 => h9) rfl (by decide +kernel) (gB_n _) (gB_f _) (Nat.le_of_ble_eq_true rfl) dX8_makes_265 (fun H locs hP hD hS => ?_)
    have hP : va_P D vwCl (wM y h q tw pn ki on ot ab be zA zB zC zD zF zT fo lw hg at_ tl th wo wl wh false (rtG 31 (jshl (sp_X8_most al 0) (nI p)) 0) (sp_X8_roots_hi_ ah (nI p)) di su an) H := hP
    have hD : va_D A (wM y h q tw pn ki on ot ab be zA zB zC zD zF zT fo lw hg at_ tl th wo wl wh false (rtG 31 (jshl (sp_X8_most al 0) (nI p)) 0) (sp_X8_roots_hi_ ah (nI p)) di su an) := hD
    exact W.vret hx hb hr (fun t ht hW => ⟨⟨none, wM y h q tw pn ki on ot ab be zA zB zC zD zF zT fo lw hg at_ tl th wo wl wh false (rtG 31 (jshl (sp_X8_most al 0) (nI p)) 0) (sp_X8_roots_hi_ ah (nI p)) di su an, rfl, ⟨rfl, by simp only [sp_X8_makes_6_is_, if_pos c_225]⟩, rfl, by rw [ht]; exact hP⟩, by rw [← hAe]; exact hS.F ht⟩) (by rw [← hAe]; exact hS.2.2) dX8_makes_268
  · skip
    refine lv_aload_n hx hb dX8_makes_229 rfl (lv_at hl 1 rfl) ?_
    refine va_get (D := D) (ci := 6) (v := .long (sp_X8_roots_hi_ ah (nI p))) (C := RX8) (T := TX8) (N := 28) hx hb hts in_X8_makes_X8 hown hK.1 hP 0 rfl rfl 24 (by decide) (hts (.fieldLink RX8 100 "NestlimitModel" "high" "J") (List.mem_of_getElem? (i := 7) rfl)) (fun _ h9 => h9) rfl dX8_makes_230 ?_
    refine lv_lload hx hb dX8_makes_233 (lv_at hl 0 rfl) ?_
    refine g_gt (tgt := 264) hx hb dX8_makes_235 dX8_makes_236 (by decide) (fun c_235 => ?_) (fun c_235 => ?_)
    · skip
      refine lv_iconst (v := 0) hx hb dX8_makes_264 (by decide) ?_
      refine va_put (D := D) (ci := 6) (v := .int (gB false)) (ty := .boolean) (C := RX8) (T := TX8) (N := 28) hx hb hts in_X8_makes_X8 tyX8 tyX8_ok nmX8 hown hK.1 hP hD hS 0 rfl rfl 22 (by decide) (hts (.fieldLink RX8 92 "NestlimitModel" "is" "Z") (List.mem_of_getElem? (i := 5) rfl)) (fun _ h9 => h9) rfl (by decide +kernel) (gB_n _) (gB_f _) (Nat.le_of_ble_eq_true rfl) dX8_makes_265 (fun H locs hP hD hS => ?_)
      have hP : va_P D vwCl (wM y h q tw pn ki on ot ab be zA zB zC zD zF zT fo lw hg at_ tl th wo wl wh false (rtG 31 (jshl (sp_X8_most al 0) (nI p)) 0) (sp_X8_roots_hi_ ah (nI p)) di su an) H := hP
      have hD : va_D A (wM y h q tw pn ki on ot ab be zA zB zC zD zF zT fo lw hg at_ tl th wo wl wh false (rtG 31 (jshl (sp_X8_most al 0) (nI p)) 0) (sp_X8_roots_hi_ ah (nI p)) di su an) := hD
      exact W.vret hx hb hr (fun t ht hW => ⟨⟨none, wM y h q tw pn ki on ot ab be zA zB zC zD zF zT fo lw hg at_ tl th wo wl wh false (rtG 31 (jshl (sp_X8_most al 0) (nI p)) 0) (sp_X8_roots_hi_ ah (nI p)) di su an, rfl, ⟨rfl, by simp only [sp_X8_makes_6_is_, if_neg c_225, if_pos c_235]⟩, rfl, by rw [ht]; exact hP⟩, by rw [← hAe]; exact hS.F ht⟩) (by rw [← hAe]; exact hS.2.2) dX8_makes_268
    · skip
      refine lv_aload_n hx hb dX8_makes_239 rfl (lv_at hl 1 rfl) ?_
      refine va_get (D := D) (ci := 6) (v := .long (rtG 31 (jshl (sp_X8_most al 0) (nI p)) 0)) (C := RX8) (T := TX8) (N := 28) hx hb hts in_X8_makes_X8 hown hK.1 hP 0 rfl rfl 23 (by decide) (hts (.fieldLink RX8 96 "NestlimitModel" "low" "J") (List.mem_of_getElem? (i := 6) rfl)) (fun _ h9 => h9) rfl dX8_makes_240 ?_
      refine lv_lload hx hb dX8_makes_243 (lv_at hl 0 rfl) ?_
      refine g_gt (tgt := 264) hx hb dX8_makes_245 dX8_makes_246 (by decide) (fun c_245 => ?_) (fun c_245 => ?_)
      · skip
        refine lv_iconst (v := 0) hx hb dX8_makes_264 (by decide) ?_
        refine va_put (D := D) (ci := 6) (v := .int (gB false)) (ty := .boolean) (C := RX8) (T := TX8) (N := 28) hx hb hts in_X8_makes_X8 tyX8 tyX8_ok nmX8 hown hK.1 hP hD hS 0 rfl rfl 22 (by decide) (hts (.fieldLink RX8 92 "NestlimitModel" "is" "Z") (List.mem_of_getElem? (i := 5) rfl)) (fun _ h9 => h9) rfl (by decide +kernel) (gB_n _) (gB_f _) (Nat.le_of_ble_eq_true rfl) dX8_makes_265 (fun H locs hP hD hS => ?_)
        have hP : va_P D vwCl (wM y h q tw pn ki on ot ab be zA zB zC zD zF zT fo lw hg at_ tl th wo wl wh false (rtG 31 (jshl (sp_X8_most al 0) (nI p)) 0) (sp_X8_roots_hi_ ah (nI p)) di su an) H := hP
        have hD : va_D A (wM y h q tw pn ki on ot ab be zA zB zC zD zF zT fo lw hg at_ tl th wo wl wh false (rtG 31 (jshl (sp_X8_most al 0) (nI p)) 0) (sp_X8_roots_hi_ ah (nI p)) di su an) := hD
        exact W.vret hx hb hr (fun t ht hW => ⟨⟨none, wM y h q tw pn ki on ot ab be zA zB zC zD zF zT fo lw hg at_ tl th wo wl wh false (rtG 31 (jshl (sp_X8_most al 0) (nI p)) 0) (sp_X8_roots_hi_ ah (nI p)) di su an, rfl, ⟨rfl, by simp only [sp_X8_makes_6_is_, if_neg c_225, if_neg c_235, if_pos c_245]⟩, rfl, by rw [ht]; exact hP⟩, by rw [← hAe]; exact hS.F ht⟩) (by rw [← hAe]; exact hS.2.2) dX8_makes_268
      · skip
        refine lv_aload_n hx hb dX8_makes_249 rfl (lv_at hl 1 rfl) ?_
        refine va_get (D := D) (ci := 6) (v := .long (sp_X8_roots_hi_ ah (nI p))) (C := RX8) (T := TX8) (N := 28) hx hb hts in_X8_makes_X8 hown hK.1 hP 0 rfl rfl 24 (by decide) (hts (.fieldLink RX8 100 "NestlimitModel" "high" "J") (List.mem_of_getElem? (i := 7) rfl)) (fun _ h9 => h9) rfl dX8_makes_250 ?_
        refine lv_lload hx hb dX8_makes_253 (lv_at hl 0 rfl) ?_
        refine lv_lneg hx hb dX8_makes_255 ?_
        refine g_lt (tgt := 264) hx hb dX8_makes_256 dX8_makes_257 (by decide) (fun c_256 => ?_) (fun c_256 => ?_)
        · skip
          refine lv_iconst (v := 0) hx hb dX8_makes_264 (by decide) ?_
          refine va_put (D := D) (ci := 6) (v := .int (gB false)) (ty := .boolean) (C := RX8) (T := TX8) (N := 28) hx hb hts in_X8_makes_X8 tyX8 tyX8_ok nmX8 hown hK.1 hP hD hS 0 rfl rfl 22 (by decide) (hts (.fieldLink RX8 92 "NestlimitModel" "is" "Z") (List.mem_of_getElem? (i := 5) rfl)) (fun _ h9 => h9) rfl (by decide +kernel) (gB_n _) (gB_f _) (Nat.le_of_ble_eq_true rfl) dX8_makes_265 (fun H locs hP hD hS => ?_)
          have hP : va_P D vwCl (wM y h q tw pn ki on ot ab be zA zB zC zD zF zT fo lw hg at_ tl th wo wl wh false (rtG 31 (jshl (sp_X8_most al 0) (nI p)) 0) (sp_X8_roots_hi_ ah (nI p)) di su an) H := hP
          have hD : va_D A (wM y h q tw pn ki on ot ab be zA zB zC zD zF zT fo lw hg at_ tl th wo wl wh false (rtG 31 (jshl (sp_X8_most al 0) (nI p)) 0) (sp_X8_roots_hi_ ah (nI p)) di su an) := hD
          exact W.vret hx hb hr (fun t ht hW => ⟨⟨none, wM y h q tw pn ki on ot ab be zA zB zC zD zF zT fo lw hg at_ tl th wo wl wh false (rtG 31 (jshl (sp_X8_most al 0) (nI p)) 0) (sp_X8_roots_hi_ ah (nI p)) di su an, rfl, ⟨rfl, by simp only [sp_X8_makes_6_is_, if_neg c_225, if_neg c_235, if_neg c_245, if_pos c_256]⟩, rfl, by rw [ht]; exact hP⟩, by rw [← hAe]; exact hS.F ht⟩) (by rw [← hAe]; exact hS.2.2) dX8_makes_268
        · skip
          refine lv_iconst (v := 1) hx hb dX8_makes_260 (by decide) ?_
          refine lv_goto (tgt := 265) hx hb dX8_makes_261 (by decide) ?_
          refine va_put (D := D) (ci := 6) (v := .int (gB true)) (ty := .boolean) (C := RX8) (T := TX8) (N := 28) hx hb hts in_X8_makes_X8 tyX8 tyX8_ok nmX8 hown hK.1 hP hD hS 0 rfl rfl 22 (by decide) (hts (.fieldLink RX8 92 "NestlimitModel" "is" "Z") (List.mem_of_getElem? (i := 5) rfl)) (fun _ h9 => h9) rfl (by decide +kernel) (gB_n _) (gB_f _) (Nat.le_of_ble_eq_true rfl) dX8_makes_265 (fun H locs hP hD hS => ?_)
          have hP : va_P D vwCl (wM y h q tw pn ki on ot ab be zA zB zC zD zF zT fo lw hg at_ tl th wo wl wh true (rtG 31 (jshl (sp_X8_most al 0) (nI p)) 0) (sp_X8_roots_hi_ ah (nI p)) di su an) H := hP
          have hD : va_D A (wM y h q tw pn ki on ot ab be zA zB zC zD zF zT fo lw hg at_ tl th wo wl wh true (rtG 31 (jshl (sp_X8_most al 0) (nI p)) 0) (sp_X8_roots_hi_ ah (nI p)) di su an) := hD
          exact W.vret hx hb hr (fun t ht hW => ⟨⟨none, wM y h q tw pn ki on ot ab be zA zB zC zD zF zT fo lw hg at_ tl th wo wl wh true (rtG 31 (jshl (sp_X8_most al 0) (nI p)) 0) (sp_X8_roots_hi_ ah (nI p)) di su an, rfl, ⟨rfl, by simp only [sp_X8_makes_6_is_, if_neg c_225, if_neg c_235, if_neg c_245, if_neg c_256]⟩, rfl, by rw [ht]; exact hP⟩, by rw [← hAe]; exact hS.F ht⟩) (by rw [← hAe]; exact hS.2.2) dX8_makes_268
def sp_X8_makes_7_is_ (lo_ : Int64) (hi_ : Int64) (p : Nat) (al : Int64) (ah : Int64) : Bool := if (sp_X8_raises_is_ al ah (nI p)) = true then if (sp_X8_raises_lo_ lo_ al ah (nI p)) < (-(jshl 64 (nI p))) then false else if (jshl 64 (nI p)) < (sp_X8_raises_hi_ hi_ al ah (nI p)) then false else if (jshl 64 (nI p)) < (sp_X8_raises_lo_ lo_ al ah (nI p)) then false else if (sp_X8_raises_hi_ hi_ al ah (nI p)) < (-(jshl 64 (nI p))) then false else true else false
set_option maxHeartbeats 4000000 in
set_option maxRecDepth 100000 in
theorem c_X8_makes_7 (l : Launch) (D : va_G) (y : Nat → ClassId) (sz : Nat) (h : Nat) (q : Nat → Nat) (tw : Int32) (pn : Nat) (ki on ot ab be zA zB zC zD zF zT : Nat → Int32) (fo : Nat → Bool) (lw hg : Nat → Int64) (at_ : Nat → Bool) (tl th : Nat → Int64) (wo : Nat → Bool) (wl wh : Nat → Int64) (is_ : Bool) (lo_ hi_ : Int64) (di : Nat → Int32) (su : Nat → Int64) (an : Nat → Bool) (k p : Nat) (al ah bl bh : Int64) (hk : k < 40) (hp : p < 25) (hki : ki k = 7) : Met l yX8_makes wsX8_makes ({ frames := 3, cells := 0, slots := 0, locals := 90 } : Room) (gP D y [.ref h, .int (nI k), .int (nI p), .long al, .long ah, .long bl, .long bh] (wM y h q tw pn ki on ot ab be zA zB zC zD zF zT fo lw hg at_ tl th wo wl wh is_ lo_ hi_ di su an) sz) (gQ D (wM y h q tw pn ki on ot ab be zA zB zC zD zF zT fo lw hg at_ tl th wo wl wh is_ lo_ hi_ di su an) (gF none (wM y h q tw pn ki on ot ab be zA zB zC zD zF zT fo lw hg at_ tl th wo wl wh (sp_X8_makes_7_is_ lo_ hi_ p al ah) (sp_X8_raises_lo_ lo_ al ah (nI p)) (sp_X8_raises_hi_ hi_ al ah (nI p)) di su an))) 0 0 (va_A (wM y h q tw pn ki on ot ab be zA zB zC zD zF zT fo lw hg at_ tl th wo wl wh is_ lo_ hi_ di su an) sz) := by
  refine Met.ofW (cc := cX8_makes) (maxL := 13) (ret := none) (by decide) rfl ?_
  intro pg e s m args below meth c s₁ B hml hv
  obtain ⟨rfl, hsz, hP, hK, hD0⟩ := hv
  have hx := B.exec
  have hb := B.bytes
  have hr := B.returns
  have hts := atoms_spec (ws := wsX8_makes) B.pre
  have hown : s.vm.findClass RX8 = some m.cls := findClass_of_methodNamed B.named
  have hlocks := B.notSynchronized
  subst hsz
  obtain ⟨A, hAe⟩ : ∃ A : Nat → Prop, A = va_A (wM y h q tw pn ki on ot ab be zA zB zC zD zF zT fo lw hg at_ tl th wo wl wh is_ lo_ hi_ di su an) s.heap.size := ⟨_, rfl⟩
  have hD : va_D A (wM y h q tw pn ki on ot ab be zA zB zC zD zF zT fo lw hg at_ tl th wo wl wh is_ lo_ hi_ di su an) := by rw [hAe]; exact hD0.self (sz := s.heap.size)
  have hA : ∀ q : Nat, s.heap.size ≤ q → A q := fun q h => by rw [hAe]; exact Or.inr h
  have hS : va_S A s.heap s.heap [] := va_S.rf
  have hl := lv_entry ([.ref h, .int (nI k), .int (nI p), .long al, .long ah, .long bl, .long bh]) (n := 13) (Nat.le_of_ble_eq_true rfl)
  rw [lg_entry_eq]
  generalize (lg_sl ([.ref h, .int (nI k), .int (nI p), .long al, .long ah, .long bl, .long bh]) ++ List.replicate (13 - (lg_sl ([.ref h, .int (nI k), .int (nI p), .long al, .long ah, .long bl, .long bh])).length) Slot.unset).toArray = ls at hl ⊢
  have hl : lv_has ls 13 [(0, .ref h), (1, .int (nI k)), (2, .int (nI p)), (3, .long al), (5, .long ah), (7, .long bl), (9, .long bh)] := hl
  refine lv_aload_n hx hb dX8_makes_0 rfl (lv_at hl 0 rfl) ?_
  refine va_get (D := D) (ci := 6) (v := .ref (q 2)) (C := RX8) (T := TX8) (N := 28) hx hb hts in_X8_makes_X8 hown hK.1 hP 0 rfl rfl 2 (by decide) (hts (.fieldLink RX8 7 "NestlimitModel" "kinds" "[I") (List.mem_of_getElem? (i := 1) rfl)) (fun _ h9 => h9) rfl dX8_makes_1 ?_
  refine lv_iload_n hx hb dX8_makes_4 rfl (lv_at hl 1 rfl) ?_
  refine g_iald (k := k) hx hb hK.1 hP 1 0 rfl rfl (hk) (by decide) dX8_makes_5 ?_
  refine g_topi (y := 7) (hki) ?_
  refine lv_tableIn (off := 180) (tgt := 186) hx hb dX8_makes_6 (by decide) (by decide) rfl (by decide) ?_
  refine lv_aload_n hx hb dX8_makes_186 rfl (lv_at hl 0 rfl) ?_
  refine lv_lload_n hx hb dX8_makes_187 rfl (lv_at hl 3 rfl) ?_
  refine lv_lload hx hb dX8_makes_188 (lv_at hl 4 rfl) ?_
  refine lv_iload_n hx hb dX8_makes_190 rfl (lv_at hl 2 rfl) ?_
  refine g_callAv (w0 := wM y h q tw pn ki on ot ab be zA zB zC zD zF zT fo lw hg at_ tl th wo wl wh (sp_X8_raises_is_ al ah (nI p)) (sp_X8_raises_lo_ lo_ al ah (nI p)) (sp_X8_raises_hi_ hi_ al ah (nI p)) di su an) (va_runV (As := [.long al, .long ah, .int (nI p)]) (rest := []) ⟨hx, hb, hml, hown, hts⟩ (c_X8_raises l D y s.heap.size h q tw pn ki on ot ab be zA zB zC zD zF zT fo lw hg at_ tl th wo wl wh is_ lo_ hi_ di su an al ah (nI p) (gU_ne (by omega))) (cwV 3 hts gX8_makes_X8_raises rfl rfl rfl (by decide +kernel) ⟨Nat.le_of_ble_eq_true rfl, Nat.le_of_ble_eq_true rfl⟩) (gP_VA hP hD hK 0 rfl rfl) rfl rfl hl.1 rfl (lv_room (Nat.le_of_ble_eq_true rfl)) dX8_makes_191 ⟨Nat.zero_le _, Nat.zero_le _⟩) hP hD hS hA rfl (fun H locs hP hD hS => ?_)
  refine lv_goto (tgt := 203) hx hb dX8_makes_194 (by decide) ?_
  refine lv_ldc2 (v := 64) hx hb hown (hts (.constantLong RX8 153 (64)) (List.mem_of_getElem? (i := 4) rfl)) dX8_makes_203 ?_
  refine lv_iload_n hx hb dX8_makes_206 rfl (lv_at hl 2 rfl) ?_
  refine lv_lshl (v := jshl 64 (nI p)) hx hb dX8_makes_207 rfl ?_
  refine lv_lstore (lv' := [(11, .long (jshl 64 (nI p))), (0, .ref h), (1, .int (nI k)), (2, .int (nI p)), (3, .long al), (5, .long ah), (7, .long bl), (9, .long bh)]) hx hb dX8_makes_208 hl (by decide) rfl (fun ls hl => ?_)
  refine lv_aload_n hx hb dX8_makes_210 rfl (lv_at hl 1 rfl) ?_
  refine lv_aload_n hx hb dX8_makes_211 rfl (lv_at hl 1 rfl) ?_
  refine va_get (D := D) (ci := 6) (v := .int (gB (sp_X8_raises_is_ al ah (nI p)))) (C := RX8) (T := TX8) (N := 28) hx hb hts in_X8_makes_X8 hown hK.1 hP 0 rfl rfl 22 (by decide) (hts (.fieldLink RX8 92 "NestlimitModel" "is" "Z") (List.mem_of_getElem? (i := 5) rfl)) (fun _ h9 => h9) rfl dX8_makes_212 ?_
  refine g_beq (tgt := 264) hx hb dX8_makes_215 (by decide) (fun c_215 => ?_) (fun c_215 => ?_)
  · skip
    refine lv_iconst (v := 0) hx hb dX8_makes_264 (by decide) ?_
    refine va_put (D := D) (ci := 6) (v := .int (gB false)) (ty := .boolean) (C := RX8) (T := TX8) (N := 28) hx hb hts in_X8_makes_X8 tyX8 tyX8_ok nmX8 hown hK.1 hP hD hS 0 rfl rfl 22 (by decide) (hts (.fieldLink RX8 92 "NestlimitModel" "is" "Z") (List.mem_of_getElem? (i := 5) rfl)) (fun _ h9 => h9) rfl (by decide +kernel) (gB_n _) (gB_f _) (Nat.le_of_ble_eq_true rfl) dX8_makes_265 (fun H locs hP hD hS => ?_)
    have hP : va_P D vwCl (wM y h q tw pn ki on ot ab be zA zB zC zD zF zT fo lw hg at_ tl th wo wl wh false (sp_X8_raises_lo_ lo_ al ah (nI p)) (sp_X8_raises_hi_ hi_ al ah (nI p)) di su an) H := hP
    have hD : va_D A (wM y h q tw pn ki on ot ab be zA zB zC zD zF zT fo lw hg at_ tl th wo wl wh false (sp_X8_raises_lo_ lo_ al ah (nI p)) (sp_X8_raises_hi_ hi_ al ah (nI p)) di su an) := hD
    exact W.vret hx hb hr (fun t ht hW => ⟨⟨none, wM y h q tw pn ki on ot ab be zA zB zC zD zF zT fo lw hg at_ tl th wo wl wh false (sp_X8_raises_lo_ lo_ al ah (nI p)) (sp_X8_raises_hi_ hi_ al ah (nI p)) di su an, rfl, ⟨rfl, by simp only [sp_X8_makes_7_is_, if_neg c_215]⟩, rfl, by rw [ht]; exact hP⟩, by rw [← hAe]; exact hS.F ht⟩) (by rw [← hAe]; exact hS.2.2) dX8_makes_268
  · skip
    refine lv_aload_n hx hb dX8_makes_218 rfl (lv_at hl 1 rfl) ?_
    refine va_get (D := D) (ci := 6) (v := .long (sp_X8_raises_lo_ lo_ al ah (nI p))) (C := RX8) (T := TX8) (N := 28) hx hb hts in_X8_makes_X8 hown hK.1 hP 0 rfl rfl 23 (by decide) (hts (.fieldLink RX8 96 "NestlimitModel" "low" "J") (List.mem_of_getElem? (i := 6) rfl)) (fun _ h9 => h9) rfl dX8_makes_219 ?_
    refine lv_lload hx hb dX8_makes_222 (lv_at hl 0 rfl) ?_
    refine lv_lneg hx hb dX8_makes_224 ?_
    refine g_lt (tgt := 264) hx hb dX8_makes_225 dX8_makes_226 (by decide) (fun c_225 => ?_) (fun c_225 => ?_)
    · skip
      refine lv_iconst (v := 0) hx hb dX8_makes_264 (by decide) ?_
      refine va_put (D := D) (ci := 6) (v := .int (gB false)) (ty := .boolean) (C := RX8) (T := TX8) (N := 28) hx hb hts in_X8_makes_X8 tyX8 tyX8_ok nmX8 hown hK.1 hP hD hS 0 rfl rfl 22 (by decide) (hts (.fieldLink RX8 92 "NestlimitModel" "is" "Z") (List.mem_of_getElem? (i := 5) rfl)) (fun _ h9 => h9) rfl (by decide +kernel) (gB_n _) (gB_f _) (Nat.le_of_ble_eq_true rfl) dX8_makes_265 (fun H locs hP hD hS => ?_)
      have hP : va_P D vwCl (wM y h q tw pn ki on ot ab be zA zB zC zD zF zT fo lw hg at_ tl th wo wl wh false (sp_X8_raises_lo_ lo_ al ah (nI p)) (sp_X8_raises_hi_ hi_ al ah (nI p)) di su an) H := hP
      have hD : va_D A (wM y h q tw pn ki on ot ab be zA zB zC zD zF zT fo lw hg at_ tl th wo wl wh false (sp_X8_raises_lo_ lo_ al ah (nI p)) (sp_X8_raises_hi_ hi_ al ah (nI p)) di su an) := hD
      exact W.vret hx hb hr (fun t ht hW => ⟨⟨none, wM y h q tw pn ki on ot ab be zA zB zC zD zF zT fo lw hg at_ tl th wo wl wh false (sp_X8_raises_lo_ lo_ al ah (nI p)) (sp_X8_raises_hi_ hi_ al ah (nI p)) di su an, rfl, ⟨rfl, by simp only [sp_X8_makes_7_is_, if_pos c_215, if_pos c_225]⟩, rfl, by rw [ht]; exact hP⟩, by rw [← hAe]; exact hS.F ht⟩) (by rw [← hAe]; exact hS.2.2) dX8_makes_268
    · skip
      refine lv_aload_n hx hb dX8_makes_229 rfl (lv_at hl 1 rfl) ?_
      refine va_get (D := D) (ci := 6) (v := .long (sp_X8_raises_hi_ hi_ al ah (nI p))) (C := RX8) (T := TX8) (N := 28) hx hb hts in_X8_makes_X8 hown hK.1 hP 0 rfl rfl 24 (by decide) (hts (.fieldLink RX8 100 "NestlimitModel" "high" "J") (List.mem_of_getElem? (i := 7) rfl)) (fun _ h9 => h9) rfl dX8_makes_230 ?_
      refine lv_lload hx hb dX8_makes_233 (lv_at hl 0 rfl) ?_
      refine g_gt (tgt := 264) hx hb dX8_makes_235 dX8_makes_236 (by decide) (fun c_235 => ?_) (fun c_235 => ?_)
      · skip
        refine lv_iconst (v := 0) hx hb dX8_makes_264 (by decide) ?_
        refine va_put (D := D) (ci := 6) (v := .int (gB false)) (ty := .boolean) (C := RX8) (T := TX8) (N := 28) hx hb hts in_X8_makes_X8 tyX8 tyX8_ok nmX8 hown hK.1 hP hD hS 0 rfl rfl 22 (by decide) (hts (.fieldLink RX8 92 "NestlimitModel" "is" "Z") (List.mem_of_getElem? (i := 5) rfl)) (fun _ h9 => h9) rfl (by decide +kernel) (gB_n _) (gB_f _) (Nat.le_of_ble_eq_true rfl) dX8_makes_265 (fun H locs hP hD hS => ?_)
        have hP : va_P D vwCl (wM y h q tw pn ki on ot ab be zA zB zC zD zF zT fo lw hg at_ tl th wo wl wh false (sp_X8_raises_lo_ lo_ al ah (nI p)) (sp_X8_raises_hi_ hi_ al ah (nI p)) di su an) H := hP
        have hD : va_D A (wM y h q tw pn ki on ot ab be zA zB zC zD zF zT fo lw hg at_ tl th wo wl wh false (sp_X8_raises_lo_ lo_ al ah (nI p)) (sp_X8_raises_hi_ hi_ al ah (nI p)) di su an) := hD
        exact W.vret hx hb hr (fun t ht hW => ⟨⟨none, wM y h q tw pn ki on ot ab be zA zB zC zD zF zT fo lw hg at_ tl th wo wl wh false (sp_X8_raises_lo_ lo_ al ah (nI p)) (sp_X8_raises_hi_ hi_ al ah (nI p)) di su an, rfl, ⟨rfl, by simp only [sp_X8_makes_7_is_, if_pos c_215, if_neg c_225, if_pos c_235]⟩, rfl, by rw [ht]; exact hP⟩, by rw [← hAe]; exact hS.F ht⟩) (by rw [← hAe]; exact hS.2.2) dX8_makes_268
      · skip
        refine lv_aload_n hx hb dX8_makes_239 rfl (lv_at hl 1 rfl) ?_
        refine va_get (D := D) (ci := 6) (v := .long (sp_X8_raises_lo_ lo_ al ah (nI p))) (C := RX8) (T := TX8) (N := 28) hx hb hts in_X8_makes_X8 hown hK.1 hP 0 rfl rfl 23 (by decide) (hts (.fieldLink RX8 96 "NestlimitModel" "low" "J") (List.mem_of_getElem? (i := 6) rfl)) (fun _ h9 => h9) rfl dX8_makes_240 ?_
        refine lv_lload hx hb dX8_makes_243 (lv_at hl 0 rfl) ?_
        refine g_gt (tgt := 264) hx hb dX8_makes_245 dX8_makes_246 (by decide) (fun c_245 => ?_) (fun c_245 => ?_)
        · skip
          refine lv_iconst (v := 0) hx hb dX8_makes_264 (by decide) ?_
          refine va_put (D := D) (ci := 6) (v := .int (gB false)) (ty := .boolean) (C := RX8) (T := TX8) (N := 28) hx hb hts in_X8_makes_X8 tyX8 tyX8_ok nmX8 hown hK.1 hP hD hS 0 rfl rfl 22 (by decide) (hts (.fieldLink RX8 92 "NestlimitModel" "is" "Z") (List.mem_of_getElem? (i := 5) rfl)) (fun _ h9 => h9) rfl (by decide +kernel) (gB_n _) (gB_f _) (Nat.le_of_ble_eq_true rfl) dX8_makes_265 (fun H locs hP hD hS => ?_)
          have hP : va_P D vwCl (wM y h q tw pn ki on ot ab be zA zB zC zD zF zT fo lw hg at_ tl th wo wl wh false (sp_X8_raises_lo_ lo_ al ah (nI p)) (sp_X8_raises_hi_ hi_ al ah (nI p)) di su an) H := hP
          have hD : va_D A (wM y h q tw pn ki on ot ab be zA zB zC zD zF zT fo lw hg at_ tl th wo wl wh false (sp_X8_raises_lo_ lo_ al ah (nI p)) (sp_X8_raises_hi_ hi_ al ah (nI p)) di su an) := hD
          exact W.vret hx hb hr (fun t ht hW => ⟨⟨none, wM y h q tw pn ki on ot ab be zA zB zC zD zF zT fo lw hg at_ tl th wo wl wh false (sp_X8_raises_lo_ lo_ al ah (nI p)) (sp_X8_raises_hi_ hi_ al ah (nI p)) di su an, rfl, ⟨rfl, by simp only [sp_X8_makes_7_is_, if_pos c_215, if_neg c_225, if_neg c_235, if_pos c_245]⟩, rfl, by rw [ht]; exact hP⟩, by rw [← hAe]; exact hS.F ht⟩) (by rw [← hAe]; exact hS.2.2) dX8_makes_268
        · skip
          refine lv_aload_n hx hb dX8_makes_249 rfl (lv_at hl 1 rfl) ?_
          refine va_get (D := D) (ci := 6) (v := .long (sp_X8_raises_hi_ hi_ al ah (nI p))) (C := RX8) (T := TX8) (N := 28) hx hb hts in_X8_makes_X8 hown hK.1 hP 0 rfl rfl 24 (by decide) (hts (.fieldLink RX8 100 "NestlimitModel" "high" "J") (List.mem_of_getElem? (i := 7) rfl)) (fun _ h9 => h9) rfl dX8_makes_250 ?_
          refine lv_lload hx hb dX8_makes_253 (lv_at hl 0 rfl) ?_
          refine lv_lneg hx hb dX8_makes_255 ?_
          refine g_lt (tgt := 264) hx hb dX8_makes_256 dX8_makes_257 (by decide) (fun c_256 => ?_) (fun c_256 => ?_)
          · skip
            refine lv_iconst (v := 0) hx hb dX8_makes_264 (by decide) ?_
            refine va_put (D := D) (ci := 6) (v := .int (gB false)) (ty := .boolean) (C := RX8) (T := TX8) (N := 28) hx hb hts in_X8_makes_X8 tyX8 tyX8_ok nmX8 hown hK.1 hP hD hS 0 rfl rfl 22 (by decide) (hts (.fieldLink RX8 92 "NestlimitModel" "is" "Z") (List.mem_of_getElem? (i := 5) rfl)) (fun _ h9 => h9) rfl (by decide +kernel) (gB_n _) (gB_f _) (Nat.le_of_ble_eq_true rfl) dX8_makes_265 (fun H locs hP hD hS => ?_)
            have hP : va_P D vwCl (wM y h q tw pn ki on ot ab be zA zB zC zD zF zT fo lw hg at_ tl th wo wl wh false (sp_X8_raises_lo_ lo_ al ah (nI p)) (sp_X8_raises_hi_ hi_ al ah (nI p)) di su an) H := hP
            have hD : va_D A (wM y h q tw pn ki on ot ab be zA zB zC zD zF zT fo lw hg at_ tl th wo wl wh false (sp_X8_raises_lo_ lo_ al ah (nI p)) (sp_X8_raises_hi_ hi_ al ah (nI p)) di su an) := hD
            exact W.vret hx hb hr (fun t ht hW => ⟨⟨none, wM y h q tw pn ki on ot ab be zA zB zC zD zF zT fo lw hg at_ tl th wo wl wh false (sp_X8_raises_lo_ lo_ al ah (nI p)) (sp_X8_raises_hi_ hi_ al ah (nI p)) di su an, rfl, ⟨rfl, by simp only [sp_X8_makes_7_is_, if_pos c_215, if_neg c_225, if_neg c_235, if_neg c_245, if_pos c_256]⟩, rfl, by rw [ht]; exact hP⟩, by rw [← hAe]; exact hS.F ht⟩) (by rw [← hAe]; exact hS.2.2) dX8_makes_268
          · skip
            refine lv_iconst (v := 1) hx hb dX8_makes_260 (by decide) ?_
            refine lv_goto (tgt := 265) hx hb dX8_makes_261 (by decide) ?_
            refine va_put (D := D) (ci := 6) (v := .int (gB true)) (ty := .boolean) (C := RX8) (T := TX8) (N := 28) hx hb hts in_X8_makes_X8 tyX8 tyX8_ok nmX8 hown hK.1 hP hD hS 0 rfl rfl 22 (by decide) (hts (.fieldLink RX8 92 "NestlimitModel" "is" "Z") (List.mem_of_getElem? (i := 5) rfl)) (fun _ h9 => h9) rfl (by decide +kernel) (gB_n _) (gB_f _) (Nat.le_of_ble_eq_true rfl) dX8_makes_265 (fun H locs hP hD hS => ?_)
            have hP : va_P D vwCl (wM y h q tw pn ki on ot ab be zA zB zC zD zF zT fo lw hg at_ tl th wo wl wh true (sp_X8_raises_lo_ lo_ al ah (nI p)) (sp_X8_raises_hi_ hi_ al ah (nI p)) di su an) H := hP
            have hD : va_D A (wM y h q tw pn ki on ot ab be zA zB zC zD zF zT fo lw hg at_ tl th wo wl wh true (sp_X8_raises_lo_ lo_ al ah (nI p)) (sp_X8_raises_hi_ hi_ al ah (nI p)) di su an) := hD
            exact W.vret hx hb hr (fun t ht hW => ⟨⟨none, wM y h q tw pn ki on ot ab be zA zB zC zD zF zT fo lw hg at_ tl th wo wl wh true (sp_X8_raises_lo_ lo_ al ah (nI p)) (sp_X8_raises_hi_ hi_ al ah (nI p)) di su an, rfl, ⟨rfl, by simp only [sp_X8_makes_7_is_, if_pos c_215, if_neg c_225, if_neg c_235, if_neg c_245, if_neg c_256]⟩, rfl, by rw [ht]; exact hP⟩, by rw [← hAe]; exact hS.F ht⟩) (by rw [← hAe]; exact hS.2.2) dX8_makes_268
def sp_X8_makes_8_is_ (zA : Nat → Int32) (zB : Nat → Int32) (zC : Nat → Int32) (zD : Nat → Int32) (zF : Nat → Int32) (zT : Nat → Int32) (k : Nat) (p : Nat) : Bool := if (sp_X8_seeks_lo_ zA zB zC zD zF zT k p) < (-(jshl 64 (nI p))) then false else if (jshl 64 (nI p)) < (sp_X8_seeks_hi_ zA zB zC zD zF zT k p) then false else if (jshl 64 (nI p)) < (sp_X8_seeks_lo_ zA zB zC zD zF zT k p) then false else if (sp_X8_seeks_hi_ zA zB zC zD zF zT k p) < (-(jshl 64 (nI p))) then false else true
set_option maxHeartbeats 4000000 in
set_option maxRecDepth 100000 in
theorem c_X8_makes_8 (l : Launch) (D : va_G) (y : Nat → ClassId) (sz : Nat) (h : Nat) (q : Nat → Nat) (tw : Int32) (pn : Nat) (ki on ot ab be zA zB zC zD zF zT : Nat → Int32) (fo : Nat → Bool) (lw hg : Nat → Int64) (at_ : Nat → Bool) (tl th : Nat → Int64) (wo : Nat → Bool) (wl wh : Nat → Int64) (is_ : Bool) (lo_ hi_ : Int64) (di : Nat → Int32) (su : Nat → Int64) (an : Nat → Bool) (k p : Nat) (al ah bl bh : Int64) (hk : k < 40) (hp : p < 25) (hki : ki k = 8) (hs : ∀ m, m ≤ 16 → skI 18 (jshl (zF k).toInt64 (nI m)) (jshl (zT k).toInt64 (nI m))) : Met l yX8_makes wsX8_makes ({ frames := 3, cells := 0, slots := 0, locals := 90 } : Room) (gP D y [.ref h, .int (nI k), .int (nI p), .long al, .long ah, .long bl, .long bh] (wM y h q tw pn ki on ot ab be zA zB zC zD zF zT fo lw hg at_ tl th wo wl wh is_ lo_ hi_ di su an) sz) (gQ D (wM y h q tw pn ki on ot ab be zA zB zC zD zF zT fo lw hg at_ tl th wo wl wh is_ lo_ hi_ di su an) (gF none (wM y h q tw pn ki on ot ab be zA zB zC zD zF zT fo lw hg at_ tl th wo wl wh (sp_X8_makes_8_is_ zA zB zC zD zF zT k p) (sp_X8_seeks_lo_ zA zB zC zD zF zT k p) (sp_X8_seeks_hi_ zA zB zC zD zF zT k p) di su an))) 0 0 (va_A (wM y h q tw pn ki on ot ab be zA zB zC zD zF zT fo lw hg at_ tl th wo wl wh is_ lo_ hi_ di su an) sz) := by
  refine Met.ofW (cc := cX8_makes) (maxL := 13) (ret := none) (by decide) rfl ?_
  intro pg e s m args below meth c s₁ B hml hv
  obtain ⟨rfl, hsz, hP, hK, hD0⟩ := hv
  have hx := B.exec
  have hb := B.bytes
  have hr := B.returns
  have hts := atoms_spec (ws := wsX8_makes) B.pre
  have hown : s.vm.findClass RX8 = some m.cls := findClass_of_methodNamed B.named
  have hlocks := B.notSynchronized
  subst hsz
  obtain ⟨A, hAe⟩ : ∃ A : Nat → Prop, A = va_A (wM y h q tw pn ki on ot ab be zA zB zC zD zF zT fo lw hg at_ tl th wo wl wh is_ lo_ hi_ di su an) s.heap.size := ⟨_, rfl⟩
  have hD : va_D A (wM y h q tw pn ki on ot ab be zA zB zC zD zF zT fo lw hg at_ tl th wo wl wh is_ lo_ hi_ di su an) := by rw [hAe]; exact hD0.self (sz := s.heap.size)
  have hA : ∀ q : Nat, s.heap.size ≤ q → A q := fun q h => by rw [hAe]; exact Or.inr h
  have hS : va_S A s.heap s.heap [] := va_S.rf
  have hl := lv_entry ([.ref h, .int (nI k), .int (nI p), .long al, .long ah, .long bl, .long bh]) (n := 13) (Nat.le_of_ble_eq_true rfl)
  rw [lg_entry_eq]
  generalize (lg_sl ([.ref h, .int (nI k), .int (nI p), .long al, .long ah, .long bl, .long bh]) ++ List.replicate (13 - (lg_sl ([.ref h, .int (nI k), .int (nI p), .long al, .long ah, .long bl, .long bh])).length) Slot.unset).toArray = ls at hl ⊢
  have hl : lv_has ls 13 [(0, .ref h), (1, .int (nI k)), (2, .int (nI p)), (3, .long al), (5, .long ah), (7, .long bl), (9, .long bh)] := hl
  refine lv_aload_n hx hb dX8_makes_0 rfl (lv_at hl 0 rfl) ?_
  refine va_get (D := D) (ci := 6) (v := .ref (q 2)) (C := RX8) (T := TX8) (N := 28) hx hb hts in_X8_makes_X8 hown hK.1 hP 0 rfl rfl 2 (by decide) (hts (.fieldLink RX8 7 "NestlimitModel" "kinds" "[I") (List.mem_of_getElem? (i := 1) rfl)) (fun _ h9 => h9) rfl dX8_makes_1 ?_
  refine lv_iload_n hx hb dX8_makes_4 rfl (lv_at hl 1 rfl) ?_
  refine g_iald (k := k) hx hb hK.1 hP 1 0 rfl rfl (hk) (by decide) dX8_makes_5 ?_
  refine g_topi (y := 8) (hki) ?_
  refine lv_tableOut (tgt := 197) hx hb dX8_makes_6 (by decide) (by decide) ?_
  refine lv_aload_n hx hb dX8_makes_197 rfl (lv_at hl 0 rfl) ?_
  refine lv_iload_n hx hb dX8_makes_198 rfl (lv_at hl 1 rfl) ?_
  refine lv_iload_n hx hb dX8_makes_199 rfl (lv_at hl 2 rfl) ?_
  refine g_callAv (w0 := wM y h q tw pn ki on ot ab be zA zB zC zD zF zT fo lw hg at_ tl th wo wl wh true (sp_X8_seeks_lo_ zA zB zC zD zF zT k p) (sp_X8_seeks_hi_ zA zB zC zD zF zT k p) di su an) (va_runV (As := [.int (nI k), .int (nI p)]) (rest := []) ⟨hx, hb, hml, hown, hts⟩ (c_X8_seeks l D y s.heap.size h q tw pn ki on ot ab be zA zB zC zD zF zT fo lw hg at_ tl th wo wl wh is_ lo_ hi_ di su an k p hk hp hs) (cwV 2 hts gX8_makes_X8_seeks rfl rfl rfl (by decide +kernel) ⟨Nat.le_of_ble_eq_true rfl, Nat.le_of_ble_eq_true rfl⟩) (gP_VA hP hD hK 0 rfl rfl) rfl rfl hl.1 rfl (lv_room (Nat.le_of_ble_eq_true rfl)) dX8_makes_200 ⟨Nat.zero_le _, Nat.zero_le _⟩) hP hD hS hA rfl (fun H locs hP hD hS => ?_)
  refine lv_ldc2 (v := 64) hx hb hown (hts (.constantLong RX8 153 (64)) (List.mem_of_getElem? (i := 4) rfl)) dX8_makes_203 ?_
  refine lv_iload_n hx hb dX8_makes_206 rfl (lv_at hl 2 rfl) ?_
  refine lv_lshl (v := jshl 64 (nI p)) hx hb dX8_makes_207 rfl ?_
  refine lv_lstore (lv' := [(11, .long (jshl 64 (nI p))), (0, .ref h), (1, .int (nI k)), (2, .int (nI p)), (3, .long al), (5, .long ah), (7, .long bl), (9, .long bh)]) hx hb dX8_makes_208 hl (by decide) rfl (fun ls hl => ?_)
  refine lv_aload_n hx hb dX8_makes_210 rfl (lv_at hl 1 rfl) ?_
  refine lv_aload_n hx hb dX8_makes_211 rfl (lv_at hl 1 rfl) ?_
  refine va_get (D := D) (ci := 6) (v := .int (gB true)) (C := RX8) (T := TX8) (N := 28) hx hb hts in_X8_makes_X8 hown hK.1 hP 0 rfl rfl 22 (by decide) (hts (.fieldLink RX8 92 "NestlimitModel" "is" "Z") (List.mem_of_getElem? (i := 5) rfl)) (fun _ h9 => h9) rfl dX8_makes_212 ?_
  refine g_beq (tgt := 264) hx hb dX8_makes_215 (by decide) (fun c_215 => absurd c_215 (by decide)) (fun c_215 => ?_)
  refine lv_aload_n hx hb dX8_makes_218 rfl (lv_at hl 1 rfl) ?_
  refine va_get (D := D) (ci := 6) (v := .long (sp_X8_seeks_lo_ zA zB zC zD zF zT k p)) (C := RX8) (T := TX8) (N := 28) hx hb hts in_X8_makes_X8 hown hK.1 hP 0 rfl rfl 23 (by decide) (hts (.fieldLink RX8 96 "NestlimitModel" "low" "J") (List.mem_of_getElem? (i := 6) rfl)) (fun _ h9 => h9) rfl dX8_makes_219 ?_
  refine lv_lload hx hb dX8_makes_222 (lv_at hl 0 rfl) ?_
  refine lv_lneg hx hb dX8_makes_224 ?_
  refine g_lt (tgt := 264) hx hb dX8_makes_225 dX8_makes_226 (by decide) (fun c_225 => ?_) (fun c_225 => ?_)
  · skip
    refine lv_iconst (v := 0) hx hb dX8_makes_264 (by decide) ?_
    refine va_put (D := D) (ci := 6) (v := .int (gB false)) (ty := .boolean) (C := RX8) (T := TX8) (N := 28) hx hb hts in_X8_makes_X8 tyX8 tyX8_ok nmX8 hown hK.1 hP hD hS 0 rfl rfl 22 (by decide) (hts (.fieldLink RX8 92 "NestlimitModel" "is" "Z") (List.mem_of_getElem? (i := 5) rfl)) (fun _ h9 => h9) rfl (by decide +kernel) (gB_n _) (gB_f _) (Nat.le_of_ble_eq_true rfl) dX8_makes_265 (fun H locs hP hD hS => ?_)
    have hP : va_P D vwCl (wM y h q tw pn ki on ot ab be zA zB zC zD zF zT fo lw hg at_ tl th wo wl wh false (sp_X8_seeks_lo_ zA zB zC zD zF zT k p) (sp_X8_seeks_hi_ zA zB zC zD zF zT k p) di su an) H := hP
    have hD : va_D A (wM y h q tw pn ki on ot ab be zA zB zC zD zF zT fo lw hg at_ tl th wo wl wh false (sp_X8_seeks_lo_ zA zB zC zD zF zT k p) (sp_X8_seeks_hi_ zA zB zC zD zF zT k p) di su an) := hD
    exact W.vret hx hb hr (fun t ht hW => ⟨⟨none, wM y h q tw pn ki on ot ab be zA zB zC zD zF zT fo lw hg at_ tl th wo wl wh false (sp_X8_seeks_lo_ zA zB zC zD zF zT k p) (sp_X8_seeks_hi_ zA zB zC zD zF zT k p) di su an, rfl, ⟨rfl, by simp only [sp_X8_makes_8_is_, if_pos c_225]⟩, rfl, by rw [ht]; exact hP⟩, by rw [← hAe]; exact hS.F ht⟩) (by rw [← hAe]; exact hS.2.2) dX8_makes_268
  · skip
    refine lv_aload_n hx hb dX8_makes_229 rfl (lv_at hl 1 rfl) ?_
    refine va_get (D := D) (ci := 6) (v := .long (sp_X8_seeks_hi_ zA zB zC zD zF zT k p)) (C := RX8) (T := TX8) (N := 28) hx hb hts in_X8_makes_X8 hown hK.1 hP 0 rfl rfl 24 (by decide) (hts (.fieldLink RX8 100 "NestlimitModel" "high" "J") (List.mem_of_getElem? (i := 7) rfl)) (fun _ h9 => h9) rfl dX8_makes_230 ?_
    refine lv_lload hx hb dX8_makes_233 (lv_at hl 0 rfl) ?_
    refine g_gt (tgt := 264) hx hb dX8_makes_235 dX8_makes_236 (by decide) (fun c_235 => ?_) (fun c_235 => ?_)
    · skip
      refine lv_iconst (v := 0) hx hb dX8_makes_264 (by decide) ?_
      refine va_put (D := D) (ci := 6) (v := .int (gB false)) (ty := .boolean) (C := RX8) (T := TX8) (N := 28) hx hb hts in_X8_makes_X8 tyX8 tyX8_ok nmX8 hown hK.1 hP hD hS 0 rfl rfl 22 (by decide) (hts (.fieldLink RX8 92 "NestlimitModel" "is" "Z") (List.mem_of_getElem? (i := 5) rfl)) (fun _ h9 => h9) rfl (by decide +kernel) (gB_n _) (gB_f _) (Nat.le_of_ble_eq_true rfl) dX8_makes_265 (fun H locs hP hD hS => ?_)
      have hP : va_P D vwCl (wM y h q tw pn ki on ot ab be zA zB zC zD zF zT fo lw hg at_ tl th wo wl wh false (sp_X8_seeks_lo_ zA zB zC zD zF zT k p) (sp_X8_seeks_hi_ zA zB zC zD zF zT k p) di su an) H := hP
      have hD : va_D A (wM y h q tw pn ki on ot ab be zA zB zC zD zF zT fo lw hg at_ tl th wo wl wh false (sp_X8_seeks_lo_ zA zB zC zD zF zT k p) (sp_X8_seeks_hi_ zA zB zC zD zF zT k p) di su an) := hD
      exact W.vret hx hb hr (fun t ht hW => ⟨⟨none, wM y h q tw pn ki on ot ab be zA zB zC zD zF zT fo lw hg at_ tl th wo wl wh false (sp_X8_seeks_lo_ zA zB zC zD zF zT k p) (sp_X8_seeks_hi_ zA zB zC zD zF zT k p) di su an, rfl, ⟨rfl, by simp only [sp_X8_makes_8_is_, if_neg c_225, if_pos c_235]⟩, rfl, by rw [ht]; exact hP⟩, by rw [← hAe]; exact hS.F ht⟩) (by rw [← hAe]; exact hS.2.2) dX8_makes_268
    · skip
      refine lv_aload_n hx hb dX8_makes_239 rfl (lv_at hl 1 rfl) ?_
      refine va_get (D := D) (ci := 6) (v := .long (sp_X8_seeks_lo_ zA zB zC zD zF zT k p)) (C := RX8) (T := TX8) (N := 28) hx hb hts in_X8_makes_X8 hown hK.1 hP 0 rfl rfl 23 (by decide) (hts (.fieldLink RX8 96 "NestlimitModel" "low" "J") (List.mem_of_getElem? (i := 6) rfl)) (fun _ h9 => h9) rfl dX8_makes_240 ?_
      refine lv_lload hx hb dX8_makes_243 (lv_at hl 0 rfl) ?_
      refine g_gt (tgt := 264) hx hb dX8_makes_245 dX8_makes_246 (by decide) (fun c_245 => ?_) (fun c_245 => ?_)
      · skip
        refine lv_iconst (v := 0) hx hb dX8_makes_264 (by decide) ?_
        refine va_put (D := D) (ci := 6) (v := .int (gB false)) (ty := .boolean) (C := RX8) (T := TX8) (N := 28) hx hb hts in_X8_makes_X8 tyX8 tyX8_ok nmX8 hown hK.1 hP hD hS 0 rfl rfl 22 (by decide) (hts (.fieldLink RX8 92 "NestlimitModel" "is" "Z") (List.mem_of_getElem? (i := 5) rfl)) (fun _ h9 => h9) rfl (by decide +kernel) (gB_n _) (gB_f _) (Nat.le_of_ble_eq_true rfl) dX8_makes_265 (fun H locs hP hD hS => ?_)
        have hP : va_P D vwCl (wM y h q tw pn ki on ot ab be zA zB zC zD zF zT fo lw hg at_ tl th wo wl wh false (sp_X8_seeks_lo_ zA zB zC zD zF zT k p) (sp_X8_seeks_hi_ zA zB zC zD zF zT k p) di su an) H := hP
        have hD : va_D A (wM y h q tw pn ki on ot ab be zA zB zC zD zF zT fo lw hg at_ tl th wo wl wh false (sp_X8_seeks_lo_ zA zB zC zD zF zT k p) (sp_X8_seeks_hi_ zA zB zC zD zF zT k p) di su an) := hD
        exact W.vret hx hb hr (fun t ht hW => ⟨⟨none, wM y h q tw pn ki on ot ab be zA zB zC zD zF zT fo lw hg at_ tl th wo wl wh false (sp_X8_seeks_lo_ zA zB zC zD zF zT k p) (sp_X8_seeks_hi_ zA zB zC zD zF zT k p) di su an, rfl, ⟨rfl, by simp only [sp_X8_makes_8_is_, if_neg c_225, if_neg c_235, if_pos c_245]⟩, rfl, by rw [ht]; exact hP⟩, by rw [← hAe]; exact hS.F ht⟩) (by rw [← hAe]; exact hS.2.2) dX8_makes_268
      · skip
        refine lv_aload_n hx hb dX8_makes_249 rfl (lv_at hl 1 rfl) ?_
        refine va_get (D := D) (ci := 6) (v := .long (sp_X8_seeks_hi_ zA zB zC zD zF zT k p)) (C := RX8) (T := TX8) (N := 28) hx hb hts in_X8_makes_X8 hown hK.1 hP 0 rfl rfl 24 (by decide) (hts (.fieldLink RX8 100 "NestlimitModel" "high" "J") (List.mem_of_getElem? (i := 7) rfl)) (fun _ h9 => h9) rfl dX8_makes_250 ?_
        refine lv_lload hx hb dX8_makes_253 (lv_at hl 0 rfl) ?_
        refine lv_lneg hx hb dX8_makes_255 ?_
        refine g_lt (tgt := 264) hx hb dX8_makes_256 dX8_makes_257 (by decide) (fun c_256 => ?_) (fun c_256 => ?_)
        · skip
          refine lv_iconst (v := 0) hx hb dX8_makes_264 (by decide) ?_
          refine va_put (D := D) (ci := 6) (v := .int (gB false)) (ty := .boolean) (C := RX8) (T := TX8) (N := 28) hx hb hts in_X8_makes_X8 tyX8 tyX8_ok nmX8 hown hK.1 hP hD hS 0 rfl rfl 22 (by decide) (hts (.fieldLink RX8 92 "NestlimitModel" "is" "Z") (List.mem_of_getElem? (i := 5) rfl)) (fun _ h9 => h9) rfl (by decide +kernel) (gB_n _) (gB_f _) (Nat.le_of_ble_eq_true rfl) dX8_makes_265 (fun H locs hP hD hS => ?_)
          have hP : va_P D vwCl (wM y h q tw pn ki on ot ab be zA zB zC zD zF zT fo lw hg at_ tl th wo wl wh false (sp_X8_seeks_lo_ zA zB zC zD zF zT k p) (sp_X8_seeks_hi_ zA zB zC zD zF zT k p) di su an) H := hP
          have hD : va_D A (wM y h q tw pn ki on ot ab be zA zB zC zD zF zT fo lw hg at_ tl th wo wl wh false (sp_X8_seeks_lo_ zA zB zC zD zF zT k p) (sp_X8_seeks_hi_ zA zB zC zD zF zT k p) di su an) := hD
          exact W.vret hx hb hr (fun t ht hW => ⟨⟨none, wM y h q tw pn ki on ot ab be zA zB zC zD zF zT fo lw hg at_ tl th wo wl wh false (sp_X8_seeks_lo_ zA zB zC zD zF zT k p) (sp_X8_seeks_hi_ zA zB zC zD zF zT k p) di su an, rfl, ⟨rfl, by simp only [sp_X8_makes_8_is_, if_neg c_225, if_neg c_235, if_neg c_245, if_pos c_256]⟩, rfl, by rw [ht]; exact hP⟩, by rw [← hAe]; exact hS.F ht⟩) (by rw [← hAe]; exact hS.2.2) dX8_makes_268
        · skip
          refine lv_iconst (v := 1) hx hb dX8_makes_260 (by decide) ?_
          refine lv_goto (tgt := 265) hx hb dX8_makes_261 (by decide) ?_
          refine va_put (D := D) (ci := 6) (v := .int (gB true)) (ty := .boolean) (C := RX8) (T := TX8) (N := 28) hx hb hts in_X8_makes_X8 tyX8 tyX8_ok nmX8 hown hK.1 hP hD hS 0 rfl rfl 22 (by decide) (hts (.fieldLink RX8 92 "NestlimitModel" "is" "Z") (List.mem_of_getElem? (i := 5) rfl)) (fun _ h9 => h9) rfl (by decide +kernel) (gB_n _) (gB_f _) (Nat.le_of_ble_eq_true rfl) dX8_makes_265 (fun H locs hP hD hS => ?_)
          have hP : va_P D vwCl (wM y h q tw pn ki on ot ab be zA zB zC zD zF zT fo lw hg at_ tl th wo wl wh true (sp_X8_seeks_lo_ zA zB zC zD zF zT k p) (sp_X8_seeks_hi_ zA zB zC zD zF zT k p) di su an) H := hP
          have hD : va_D A (wM y h q tw pn ki on ot ab be zA zB zC zD zF zT fo lw hg at_ tl th wo wl wh true (sp_X8_seeks_lo_ zA zB zC zD zF zT k p) (sp_X8_seeks_hi_ zA zB zC zD zF zT k p) di su an) := hD
          exact W.vret hx hb hr (fun t ht hW => ⟨⟨none, wM y h q tw pn ki on ot ab be zA zB zC zD zF zT fo lw hg at_ tl th wo wl wh true (sp_X8_seeks_lo_ zA zB zC zD zF zT k p) (sp_X8_seeks_hi_ zA zB zC zD zF zT k p) di su an, rfl, ⟨rfl, by simp only [sp_X8_makes_8_is_, if_neg c_225, if_neg c_235, if_neg c_245, if_neg c_256]⟩, rfl, by rw [ht]; exact hP⟩, by rw [← hAe]; exact hS.F ht⟩) (by rw [← hAe]; exact hS.2.2) dX8_makes_268
def mk_is (kd : Nat) (ab be zA zB zC zD zF zT : Nat → Int32) (lo_ hi_ : Int64) (k p : Nat) (al ah bl bh : Int64) : Bool := match kd with
  | 0 => sp_X8_makes_0_is_ ab be k p
  | 1 => sp_X8_makes_1_is_ p al ah bl bh
  | 2 => sp_X8_makes_2_is_ p al ah bl bh
  | 3 => sp_X8_makes_3_is_ p al ah bl bh
  | 4 => sp_X8_makes_4_is_ p al ah bl bh
  | 5 => sp_X8_makes_5_is_ lo_ hi_ p al ah
  | 6 => sp_X8_makes_6_is_ p al ah
  | 7 => sp_X8_makes_7_is_ lo_ hi_ p al ah
  | _ => sp_X8_makes_8_is_ zA zB zC zD zF zT k p
def mk_lo (kd : Nat) (ab be zA zB zC zD zF zT : Nat → Int32) (lo_ hi_ : Int64) (k p : Nat) (al ah bl bh : Int64) : Int64 := match kd with
  | 0 => sp_X8_cut (jshl ((ab k).toInt64) (nI p)) ((be k).toInt64)
  | 1 => al + bl
  | 2 => al - bh
  | 3 => sp_X8_multiplies_lo_ al ah bl bh (nI p)
  | 4 => sp_X8_most al bl
  | 5 => sp_X8_inverts_lo_ lo_ al ah (nI p)
  | 6 => rtG 31 (jshl (sp_X8_most al 0) (nI p)) 0
  | 7 => sp_X8_raises_lo_ lo_ al ah (nI p)
  | _ => sp_X8_seeks_lo_ zA zB zC zD zF zT k p
def mk_hi (kd : Nat) (ab be zA zB zC zD zF zT : Nat → Int32) (lo_ hi_ : Int64) (k p : Nat) (al ah bl bh : Int64) : Int64 := match kd with
  | 0 => sp_X8_fill (jshl ((ab k).toInt64) (nI p)) ((be k).toInt64)
  | 1 => ah + bh
  | 2 => ah - bl
  | 3 => sp_X8_multiplies_hi_ al ah bl bh (nI p)
  | 4 => sp_X8_most ah bh
  | 5 => sp_X8_inverts_hi_ hi_ al ah (nI p)
  | 6 => sp_X8_roots_hi_ ah (nI p)
  | 7 => sp_X8_raises_hi_ hi_ al ah (nI p)
  | _ => sp_X8_seeks_hi_ zA zB zC zD zF zT k p
def mkOK (kd : Nat) (be zF zT : Nat → Int32) (k : Nat) (al ah : Int64) : Prop := match kd with
  | 0 => (be k).toInt64 ≠ 0
  | 5 => al ≤ ah
  | 8 => ∀ m, m ≤ 16 → skI 18 (jshl (zF k).toInt64 (nI m)) (jshl (zT k).toInt64 (nI m))
  | _ => True
theorem c_X8_makes (l : Launch) (D : va_G) (y : Nat → ClassId) (sz : Nat) (h : Nat) (q : Nat → Nat) (tw : Int32) (pn : Nat) (ki on ot ab be zA zB zC zD zF zT : Nat → Int32) (fo : Nat → Bool) (lw hg : Nat → Int64) (at_ : Nat → Bool) (tl th : Nat → Int64) (wo : Nat → Bool) (wl wh : Nat → Int64) (is_ : Bool) (lo_ hi_ : Int64) (di : Nat → Int32) (su : Nat → Int64) (an : Nat → Bool) (kd : Nat) (k p : Nat) (al ah bl bh : Int64) (hk : k < 40) (hp : p < 25) (hkd : kd ≤ 8) (hki : ki k = nI kd) (hok : mkOK kd be zF zT k al ah) : Met l yX8_makes wsX8_makes ({ frames := 3, cells := 0, slots := 0, locals := 90 } : Room) (gP D y [.ref h, .int (nI k), .int (nI p), .long al, .long ah, .long bl, .long bh] (wM y h q tw pn ki on ot ab be zA zB zC zD zF zT fo lw hg at_ tl th wo wl wh is_ lo_ hi_ di su an) sz) (gQ D (wM y h q tw pn ki on ot ab be zA zB zC zD zF zT fo lw hg at_ tl th wo wl wh is_ lo_ hi_ di su an) (gF none (wM y h q tw pn ki on ot ab be zA zB zC zD zF zT fo lw hg at_ tl th wo wl wh (mk_is kd ab be zA zB zC zD zF zT lo_ hi_ k p al ah bl bh) (mk_lo kd ab be zA zB zC zD zF zT lo_ hi_ k p al ah bl bh) (mk_hi kd ab be zA zB zC zD zF zT lo_ hi_ k p al ah bl bh) di su an))) 0 0 (va_A (wM y h q tw pn ki on ot ab be zA zB zC zD zF zT fo lw hg at_ tl th wo wl wh is_ lo_ hi_ di su an) sz) := by
  rcases (show kd = 0 ∨ kd = 1 ∨ kd = 2 ∨ kd = 3 ∨ kd = 4 ∨ kd = 5 ∨ kd = 6 ∨ kd = 7 ∨ kd = 8 by omega) with rfl | rfl | rfl | rfl | rfl | rfl | rfl | rfl | rfl
  · exact c_X8_makes_0 l D y sz h q tw pn ki on ot ab be zA zB zC zD zF zT fo lw hg at_ tl th wo wl wh is_ lo_ hi_ di su an k p al ah bl bh hk hp hki hok
  · exact c_X8_makes_1 l D y sz h q tw pn ki on ot ab be zA zB zC zD zF zT fo lw hg at_ tl th wo wl wh is_ lo_ hi_ di su an k p al ah bl bh hk hp hki
  · exact c_X8_makes_2 l D y sz h q tw pn ki on ot ab be zA zB zC zD zF zT fo lw hg at_ tl th wo wl wh is_ lo_ hi_ di su an k p al ah bl bh hk hp hki
  · exact c_X8_makes_3 l D y sz h q tw pn ki on ot ab be zA zB zC zD zF zT fo lw hg at_ tl th wo wl wh is_ lo_ hi_ di su an k p al ah bl bh hk hp hki
  · exact c_X8_makes_4 l D y sz h q tw pn ki on ot ab be zA zB zC zD zF zT fo lw hg at_ tl th wo wl wh is_ lo_ hi_ di su an k p al ah bl bh hk hp hki
  · exact c_X8_makes_5 l D y sz h q tw pn ki on ot ab be zA zB zC zD zF zT fo lw hg at_ tl th wo wl wh is_ lo_ hi_ di su an k p al ah bl bh hk hp hki hok
  · exact c_X8_makes_6 l D y sz h q tw pn ki on ot ab be zA zB zC zD zF zT fo lw hg at_ tl th wo wl wh is_ lo_ hi_ di su an k p al ah bl bh hk hp hki
  · exact c_X8_makes_7 l D y sz h q tw pn ki on ot ab be zA zB zC zD zF zT fo lw hg at_ tl th wo wl wh is_ lo_ hi_ di su an k p al ah bl bh hk hp hki
  · exact c_X8_makes_8 l D y sz h q tw pn ki on ot ab be zA zB zC zD zF zT fo lw hg at_ tl th wo wl wh is_ lo_ hi_ di su an k p al ah bl bh hk hp hki hok
