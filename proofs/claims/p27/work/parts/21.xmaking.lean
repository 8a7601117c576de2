section GO
variable {p : Program} {l : Launch} {e : Env} {R : Room} {s : State} {m : MethodId} {args : Array Value} {below : List Frame} {meth : Method} {c : Code} {H : Heap} {locs : List Loc} {A : Nat → Prop}
theorem gPX_O {C : String} {b : Nat} {D : va_G} {y : Nat → ClassId} {ad : Nat → Nat} {As : List Value} (hK : gK D y s) (hE : gE ad A s s.heap) (hS : va_S A s.heap H locs) (hA : ∀ q, s.heap.size ≤ q → A q) (hO : va_O C b A s s.heap) : PreV s H C b (gPX D y ad (.ref b :: As) [] H.size) As := by
  obtain ⟨cell, h1, h2, h3, h4⟩ := hO.kept hS.2.1
  exact ⟨gPX_blind, ⟨cell, h1, h2, h3⟩, fun U hU hW => ⟨rfl, by rw [hU], (fun k q h => by simp at h), hK.warm hW, ⟨fun i j p q h => by simp at h, fun k q h => by simp at h⟩, gE_at hE ⟨fun i j p q h => by simp at h, fun k q h => by simp at h⟩ hS hA hU hW⟩⟩
end GO
theorem g_sin {k : Nat} (h : k < 9) : vp_in (nI k) 9 := by
  have h2 : ∀ d : Fin 9, ¬ (nI d.val < 0 ∨ 9 ≤ (nI d.val).toNatClampNeg) := by decide
  exact h2 ⟨k, h⟩
theorem in_X5_isMadeOf_X5 : ∀ w ∈ wsX50, w ∈ wsX5_isMadeOf := fun _ h => List.mem_cons_of_mem _ (List.mem_append_right _ h)
def sp_X5_isMadeOf (pt1 : Int64) (a : Int32) : Bool := if ((jshr pt1 a) &&& 1) = 1 then true else false
set_option maxHeartbeats 4000000 in
set_option maxRecDepth 100000 in
theorem c_X5_isMadeOf (l : Launch) (D : va_G) (y : Nat → ClassId) (sz : Nat) (h0 kk : Nat) (on1 ot1 : Int32) (pt1 : Int64) (r1 r2 : Nat) (dg1 : Int32) (ds1 : Int64) (a : Int32) : Met l yX5_isMadeOf wsX5_isMadeOf ({ frames := 0, cells := 0, slots := 0, locals := 0 } : Room) (gP D y [.ref h0, .int a] [(h0, .inr (3, [.ref kk, .int on1, .int ot1, .long pt1, .ref r1, .ref r2, .int dg1, .long ds1]))] sz) (gR (.int (gB (sp_X5_isMadeOf pt1 a)))) 0 0 (fun _ => False) := by
  refine Met.ofW (cc := cX5_isMadeOf) (maxL := 2) (ret := (some .boolean)) (by decide) rfl ?_
  intro pg e s m args below meth c s₁ B hml hv
  obtain ⟨rfl, hsz, hP, hK, hD0⟩ := hv
  have hx := B.exec
  have hb := B.bytes
  have hr := B.returns
  have hts := atoms_spec (ws := wsX5_isMadeOf) B.pre
  have hown : s.vm.findClass RX5 = some m.cls := findClass_of_methodNamed B.named
  have hlocks := B.notSynchronized
  subst hsz
  obtain ⟨A, hAe⟩ : ∃ A : Nat → Prop, A = va_A [(h0, .inr (3, [.ref kk, .int on1, .int ot1, .long pt1, .ref r1, .ref r2, .int dg1, .long ds1]))] s.heap.size := ⟨_, rfl⟩
  have hD : va_D A [(h0, .inr (3, [.ref kk, .int on1, .int ot1, .long pt1, .ref r1, .ref r2, .int dg1, .long ds1]))] := by rw [hAe]; exact hD0.self (sz := s.heap.size)
  have hA : ∀ q : Nat, s.heap.size ≤ q → A q := fun q h => by rw [hAe]; exact Or.inr h
  have hS : va_S A s.heap s.heap [] := va_S.rf
  have hl := lv_entry ([.ref h0, .int a]) (n := 2) (Nat.le_of_ble_eq_true rfl)
  rw [lg_entry_eq]
  generalize (lg_sl ([.ref h0, .int a]) ++ List.replicate (2 - (lg_sl ([.ref h0, .int a])).length) Slot.unset).toArray = ls at hl ⊢
  have hl : lv_has ls 2 [(0, .ref h0), (1, .int a)] := hl
  refine lv_aload_n hx hb dX5_isMadeOf_0 rfl (lv_at hl 0 rfl) ?_
  refine va_get (D := D) (ci := 3) (v := .long pt1) (C := RX5) (T := TX5) (N := 8) hx hb hts in_X5_isMadeOf_X5 hown hK.1 hP 0 rfl rfl 3 (by decide) (hts (.fieldLink RX5 22 "Nestlimit$Program" "parts" "J") (List.mem_of_getElem? (i := 1) rfl)) (fun _ h9 => h9) rfl dX5_isMadeOf_1 ?_
  refine lv_iload_n hx hb dX5_isMadeOf_4 rfl (lv_at hl 1 rfl) ?_
  refine lv_lshr (v := jshr pt1 a) hx hb dX5_isMadeOf_5 rfl ?_
  refine lv_lconst (v := 1) hx hb dX5_isMadeOf_6 (by decide) ?_
  refine lv_land hx hb dX5_isMadeOf_7 ?_
  refine lv_lconst (v := 1) hx hb dX5_isMadeOf_8 (by decide) ?_
  refine g_ne (tgt := 17) hx hb dX5_isMadeOf_9 dX5_isMadeOf_10 (by decide) (fun c_9 => ?_) (fun c_9 => ?_)
  · skip
    refine lv_iconst (v := 0) hx hb dX5_isMadeOf_17 (by decide) ?_
    exact W.zret (v := 0) hx hb hr (by decide) (fun t ht hW => ⟨congrArg (fun z => Outcome.returned (some (Value.int z))) (by simp only [sp_X5_isMadeOf, if_neg c_9] <;> rfl), ht⟩) (fun q h => by cases h) dX5_isMadeOf_18
  · skip
    refine lv_iconst (v := 1) hx hb dX5_isMadeOf_13 (by decide) ?_
    refine lv_goto (tgt := 18) hx hb dX5_isMadeOf_14 (by decide) ?_
    exact W.zret (v := 1) hx hb hr (by decide) (fun t ht hW => ⟨congrArg (fun z => Outcome.returned (some (Value.int z))) (by simp only [sp_X5_isMadeOf, if_pos c_9] <;> rfl), ht⟩) (fun q h => by cases h) dX5_isMadeOf_18
set_option maxHeartbeats 4000000 in
set_option maxRecDepth 100000 in
theorem c_ordinal (l : Launch) (hfl : l.stackTraces = false) (D : va_G) (y : Nat → ClassId) (ad : Nat → Nat) (sz : Nat) (d : Nat) (hd : d < 9) : Met l yJx29ce0_ordinal_8abf5 wsJx29ce0_ordinal_8abf5 ({ frames := 0, cells := 0, slots := 0, locals := 0 } : Room) (gPX D y ad [.ref (ad d)] [] sz) (gR (.int (nI d))) 0 0 (fun _ => False) := by
  refine va_MetF (cc := cJx29ce0_ordinal_8abf5) (maxL := 1) (ret := (some .int)) (by decide +kernel) rfl ?_
  intro pg e s m args below meth c s₁ B hml hv
  obtain ⟨rfl, hsz, hP, hK, hD0, hE0⟩ := hv
  have hx := B.exec
  have hb := B.bytes
  have hr := B.returns
  have hts := atoms_spec (ws := wsJx29ce0_ordinal_8abf5) B.pre
  have hown : s.vm.findClass RJx29ce0 = some m.cls := findClass_of_methodNamed B.named
  have hlocks := B.notSynchronized
  subst hsz
  obtain ⟨A, hAe⟩ : ∃ A : Nat → Prop, A = va_A [] s.heap.size := ⟨_, rfl⟩
  have hE : gE ad A s s.heap := by rw [hAe]; exact hE0
  have hD : va_D A [] := by rw [hAe]; exact hD0.self (sz := s.heap.size)
  have hA : ∀ q : Nat, s.heap.size ≤ q → A q := fun q h => by rw [hAe]; exact Or.inr h
  have hS : va_S A s.heap s.heap [] := va_S.rf
  have hl := lv_entry ([.ref (ad d)]) (n := 1) (Nat.le_of_ble_eq_true rfl)
  rw [lg_entry_eq]
  generalize (lg_sl ([.ref (ad d)]) ++ List.replicate (1 - (lg_sl ([.ref (ad d)])).length) Slot.unset).toArray = ls at hl ⊢
  have hl : lv_has ls 1 [(0, .ref (ad d))] := hl
  refine lv_aload_n hx hb dJx29ce0_ordinal_8abf5_0 rfl (lv_at hl 0 rfl) ?_
  refine vk_getf (v := .int (nI d)) hx hb ((hE.2.2.2.2.2 d hd).2.2) hS hown (hts (.fieldLink RJx29ce0 7 "java/lang/Enum" "ordinal" "I") (List.mem_of_getElem? (i := 1) rfl)) (fun _ h9 => h9) dJx29ce0_ordinal_8abf5_1 ?_
  exact W.iret (v := nI d) hx hb hr (fun t ht hW => ⟨congrArg (fun z => Outcome.returned (some (Value.int z))) (rfl), ht⟩) (fun q h => by cases h) dJx29ce0_ordinal_8abf5_4
theorem in_X7_combine_X2 : ∀ w ∈ wsX20, w ∈ wsX7_combine := fun _ h => List.mem_cons_of_mem _ (List.mem_append_right _ h)
theorem in_X7_combine_X7 : ∀ w ∈ wsX70, w ∈ wsX7_combine := fun _ h => List.mem_cons_of_mem _ (List.mem_append_left _ (List.mem_append_right _ h))
set_option maxHeartbeats 4000000 in
set_option maxRecDepth 100000 in
theorem c_X7_combine_n2 (l : Launch) (hfl : l.stackTraces = false) (D : va_G) (y : Nat → ClassId) (ad : Nat → Nat) (sz : Nat) (h : Nat) (q : Nat → Nat) (n : Nat) (b1 : Bool) (l1 r1 : Int64) (b2 : Bool) (l2 r2 : Int64) (b3 : Bool) (l3 r3 : Int64) (uz : Nat → Bool) (ul uh : Nat → Int64) (f1 g1 f2 g2 : Int64) (pa : Nat → Nat → Nat) (kd : Nat → Nat) (on ot : Nat → Int32) (pt : Nat → Int64) (fb : Nat → Nat → Bool) (fl fh : Nat → Nat → Int64) (tb : Nat → Nat → Bool) (tl th : Nat → Nat → Int64) (dg : Nat → Int32) (ds : Nat → Int64) (kk : Nat) (i : Int32) (h2 : ¬ b2 = true) : Met l yX7_combine wsX7_combine ({ frames := 6, cells := 0, slots := 0, locals := 200 } : Room) (gPX D y ad [.ref h, .ref kk, .int i] (wXp y ad h q n b1 l1 r1 b2 l2 r2 b3 l3 r3 uz ul uh f1 g1 f2 g2 pa kd on ot pt fb fl fh tb tl th dg ds) sz) (gQ D (wXp y ad h q n b1 l1 r1 b2 l2 r2 b3 l3 r3 uz ul uh f1 g1 f2 g2 pa kd on ot pt fb fl fh tb tl th dg ds) (gF none (wXp y ad h q n false 0 0 b2 l2 r2 b3 l3 r3 uz ul uh f1 g1 f2 g2 pa kd on ot pt fb fl fh tb tl th dg ds))) 0 0 (va_A (wXp y ad h q n b1 l1 r1 b2 l2 r2 b3 l3 r3 uz ul uh f1 g1 f2 g2 pa kd on ot pt fb fl fh tb tl th dg ds) sz) := by
  refine Met.ofW (cc := cX7_combine) (maxL := 3) (ret := none) (by decide) rfl ?_
  intro pg e s m args below meth c s₁ B hml hv
  obtain ⟨rfl, hsz, hP, hK, hD0, hE0⟩ := hv
  have hx := B.exec
  have hb := B.bytes
  have hr := B.returns
  have hts := atoms_spec (ws := wsX7_combine) B.pre
  have hown : s.vm.findClass RX7 = some m.cls := findClass_of_methodNamed B.named
  have hlocks := B.notSynchronized
  subst hsz
  obtain ⟨A, hAe⟩ : ∃ A : Nat → Prop, A = va_A (wXp y ad h q n b1 l1 r1 b2 l2 r2 b3 l3 r3 uz ul uh f1 g1 f2 g2 pa kd on ot pt fb fl fh tb tl th dg ds) s.heap.size := ⟨_, rfl⟩
  have hE : gE ad A s s.heap := by rw [hAe]; exact hE0
  have hD : va_D A (wXp y ad h q n b1 l1 r1 b2 l2 r2 b3 l3 r3 uz ul uh f1 g1 f2 g2 pa kd on ot pt fb fl fh tb tl th dg ds) := by rw [hAe]; exact hD0.self (sz := s.heap.size)
  have hA : ∀ q : Nat, s.heap.size ≤ q → A q := fun q h => by rw [hAe]; exact Or.inr h
  have hS : va_S A s.heap s.heap [] := va_S.rf
  have hl := lv_entry ([.ref h, .ref kk, .int i]) (n := 3) (Nat.le_of_ble_eq_true rfl)
  rw [lg_entry_eq]
  generalize (lg_sl ([.ref h, .ref kk, .int i]) ++ List.replicate (3 - (lg_sl ([.ref h, .ref kk, .int i])).length) Slot.unset).toArray = ls at hl ⊢
  have hl : lv_has ls 3 [(0, .ref h), (1, .ref kk), (2, .int i)] := hl
  refine lv_aload_n hx hb dX7_combine_0 rfl (lv_at hl 0 rfl) ?_
  refine va_get (D := D) (ci := 5) (v := .ref (q 2)) (C := RX7) (T := TX7) (N := 8) hx hb hts in_X7_combine_X7 hown hK.1 hP 0 rfl rfl 3 (by decide) (hts (.fieldLink RX7 26 "Nestlimit" "first" "LNestlimit$Interval;") (List.mem_of_getElem? (i := 1) rfl)) (fun _ h9 => h9) rfl dX7_combine_1 ?_
  refine va_get (D := D) (ci := 1) (v := .int (gB b2)) (C := RX2) (T := TX2) (N := 3) hx hb hts in_X7_combine_X2 hown hK.1 hP 3 rfl rfl 0 (by decide) (hts (.fieldLink RX7 173 "Nestlimit$Interval" "isThere" "Z") (List.mem_of_getElem? (i := 2) rfl)) (fun _ h9 => h9) rfl dX7_combine_4 ?_
  refine g_beq (tgt := 20) hx hb dX7_combine_7 (by decide) (fun c_7 => ?_) (fun c_7 => absurd c_7 h2)
  refine lv_aload_n hx hb dX7_combine_20 rfl (lv_at hl 0 rfl) ?_
  refine va_get (D := D) (ci := 5) (v := .ref (q 1)) (C := RX7) (T := TX7) (N := 8) hx hb hts in_X7_combine_X7 hown hK.1 hP 0 rfl rfl 2 (by decide) (hts (.fieldLink RX7 22 "Nestlimit" "answer" "LNestlimit$Interval;") (List.mem_of_getElem? (i := 4) rfl)) (fun _ h9 => h9) rfl dX7_combine_21 ?_
  refine g_callv (va_runV (As := []) (rest := []) ⟨hx, hb, hml, hown, hts⟩ (c_X2_clear l D y s.heap.size (q 1) b1 l1 r1) (cwV 0 hts gX7_combine_X2_clear rfl rfl rfl (by decide +kernel) ⟨Nat.le_of_ble_eq_true rfl, Nat.le_of_ble_eq_true rfl⟩) (gP_V hP hD hK [2] (by decide) rfl 2 rfl rfl) rfl rfl hl.1 rfl (lv_room (Nat.le_of_ble_eq_true rfl)) dX7_combine_24 ⟨Nat.zero_le _, Nat.zero_le _⟩) hP hD hS hA [2] rfl (fun H locs hP hD hS => ?_)
  have hP : va_P D vwCl (wXp y ad h q n false 0 0 b2 l2 r2 b3 l3 r3 uz ul uh f1 g1 f2 g2 pa kd on ot pt fb fl fh tb tl th dg ds) H := hP
  have hD : va_D A (wXp y ad h q n false 0 0 b2 l2 r2 b3 l3 r3 uz ul uh f1 g1 f2 g2 pa kd on ot pt fb fl fh tb tl th dg ds) := hD
  exact W.vret hx hb hr (fun t ht hW => ⟨⟨none, wXp y ad h q n false 0 0 b2 l2 r2 b3 l3 r3 uz ul uh f1 g1 f2 g2 pa kd on ot pt fb fl fh tb tl th dg ds, rfl, ⟨rfl, rfl⟩, rfl, by rw [ht]; exact hP⟩, by rw [← hAe]; exact hS.F ht⟩) (by rw [← hAe]; exact hS.2.2) dX7_combine_27
set_option maxHeartbeats 4000000 in
set_option maxRecDepth 100000 in
theorem c_X7_combine_n3 (l : Launch) (hfl : l.stackTraces = false) (D : va_G) (y : Nat → ClassId) (ad : Nat → Nat) (sz : Nat) (h : Nat) (q : Nat → Nat) (n : Nat) (b1 : Bool) (l1 r1 : Int64) (b2 : Bool) (l2 r2 : Int64) (b3 : Bool) (l3 r3 : Int64) (uz : Nat → Bool) (ul uh : Nat → Int64) (f1 g1 f2 g2 : Int64) (pa : Nat → Nat → Nat) (kd : Nat → Nat) (on ot : Nat → Int32) (pt : Nat → Int64) (fb : Nat → Nat → Bool) (fl fh : Nat → Nat → Int64) (tb : Nat → Nat → Bool) (tl th : Nat → Nat → Int64) (dg : Nat → Int32) (ds : Nat → Int64) (kk : Nat) (i : Int32) (h2 : b2 = true) (h3 : ¬ b3 = true) : Met l yX7_combine wsX7_combine ({ frames := 6, cells := 0, slots := 0, locals := 200 } : Room) (gPX D y ad [.ref h, .ref kk, .int i] (wXp y ad h q n b1 l1 r1 b2 l2 r2 b3 l3 r3 uz ul uh f1 g1 f2 g2 pa kd on ot pt fb fl fh tb tl th dg ds) sz) (gQ D (wXp y ad h q n b1 l1 r1 b2 l2 r2 b3 l3 r3 uz ul uh f1 g1 f2 g2 pa kd on ot pt fb fl fh tb tl th dg ds) (gF none (wXp y ad h q n false 0 0 b2 l2 r2 b3 l3 r3 uz ul uh f1 g1 f2 g2 pa kd on ot pt fb fl fh tb tl th dg ds))) 0 0 (va_A (wXp y ad h q n b1 l1 r1 b2 l2 r2 b3 l3 r3 uz ul uh f1 g1 f2 g2 pa kd on ot pt fb fl fh tb tl th dg ds) sz) := by
  refine Met.ofW (cc := cX7_combine) (maxL := 3) (ret := none) (by decide) rfl ?_
  intro pg e s m args below meth c s₁ B hml hv
  obtain ⟨rfl, hsz, hP, hK, hD0, hE0⟩ := hv
  have hx := B.exec
  have hb := B.bytes
  have hr := B.returns
  have hts := atoms_spec (ws := wsX7_combine) B.pre
  have hown : s.vm.findClass RX7 = some m.cls := findClass_of_methodNamed B.named
  have hlocks := B.notSynchronized
  subst hsz
  obtain ⟨A, hAe⟩ : ∃ A : Nat → Prop, A = va_A (wXp y ad h q n b1 l1 r1 b2 l2 r2 b3 l3 r3 uz ul uh f1 g1 f2 g2 pa kd on ot pt fb fl fh tb tl th dg ds) s.heap.size := ⟨_, rfl⟩
  have hE : gE ad A s s.heap := by rw [hAe]; exact hE0
  have hD : va_D A (wXp y ad h q n b1 l1 r1 b2 l2 r2 b3 l3 r3 uz ul uh f1 g1 f2 g2 pa kd on ot pt fb fl fh tb tl th dg ds) := by rw [hAe]; exact hD0.self (sz := s.heap.size)
  have hA : ∀ q : Nat, s.heap.size ≤ q → A q := fun q h => by rw [hAe]; exact Or.inr h
  have hS : va_S A s.heap s.heap [] := va_S.rf
  have hl := lv_entry ([.ref h, .ref kk, .int i]) (n := 3) (Nat.le_of_ble_eq_true rfl)
  rw [lg_entry_eq]
  generalize (lg_sl ([.ref h, .ref kk, .int i]) ++ List.replicate (3 - (lg_sl ([.ref h, .ref kk, .int i])).length) Slot.unset).toArray = ls at hl ⊢
  have hl : lv_has ls 3 [(0, .ref h), (1, .ref kk), (2, .int i)] := hl
  refine lv_aload_n hx hb dX7_combine_0 rfl (lv_at hl 0 rfl) ?_
  refine va_get (D := D) (ci := 5) (v := .ref (q 2)) (C := RX7) (T := TX7) (N := 8) hx hb hts in_X7_combine_X7 hown hK.1 hP 0 rfl rfl 3 (by decide) (hts (.fieldLink RX7 26 "Nestlimit" "first" "LNestlimit$Interval;") (List.mem_of_getElem? (i := 1) rfl)) (fun _ h9 => h9) rfl dX7_combine_1 ?_
  refine va_get (D := D) (ci := 1) (v := .int (gB b2)) (C := RX2) (T := TX2) (N := 3) hx hb hts in_X7_combine_X2 hown hK.1 hP 3 rfl rfl 0 (by decide) (hts (.fieldLink RX7 173 "Nestlimit$Interval" "isThere" "Z") (List.mem_of_getElem? (i := 2) rfl)) (fun _ h9 => h9) rfl dX7_combine_4 ?_
  refine g_beq (tgt := 20) hx hb dX7_combine_7 (by decide) (fun c_7 => absurd h2 c_7) (fun c_7 => ?_)
  refine lv_aload_n hx hb dX7_combine_10 rfl (lv_at hl 0 rfl) ?_
  refine va_get (D := D) (ci := 5) (v := .ref (q 3)) (C := RX7) (T := TX7) (N := 8) hx hb hts in_X7_combine_X7 hown hK.1 hP 0 rfl rfl 4 (by decide) (hts (.fieldLink RX7 29 "Nestlimit" "second" "LNestlimit$Interval;") (List.mem_of_getElem? (i := 3) rfl)) (fun _ h9 => h9) rfl dX7_combine_11 ?_
  refine va_get (D := D) (ci := 1) (v := .int (gB b3)) (C := RX2) (T := TX2) (N := 3) hx hb hts in_X7_combine_X2 hown hK.1 hP 4 rfl rfl 0 (by decide) (hts (.fieldLink RX7 173 "Nestlimit$Interval" "isThere" "Z") (List.mem_of_getElem? (i := 2) rfl)) (fun _ h9 => h9) rfl dX7_combine_14 ?_
  refine g_bne (tgt := 28) hx hb dX7_combine_17 (by decide) (fun c_17 => absurd c_17 h3) (fun c_17 => ?_)
  refine lv_aload_n hx hb dX7_combine_20 rfl (lv_at hl 0 rfl) ?_
  refine va_get (D := D) (ci := 5) (v := .ref (q 1)) (C := RX7) (T := TX7) (N := 8) hx hb hts in_X7_combine_X7 hown hK.1 hP 0 rfl rfl 2 (by decide) (hts (.fieldLink RX7 22 "Nestlimit" "answer" "LNestlimit$Interval;") (List.mem_of_getElem? (i := 4) rfl)) (fun _ h9 => h9) rfl dX7_combine_21 ?_
  refine g_callv (va_runV (As := []) (rest := []) ⟨hx, hb, hml, hown, hts⟩ (c_X2_clear l D y s.heap.size (q 1) b1 l1 r1) (cwV 0 hts gX7_combine_X2_clear rfl rfl rfl (by decide +kernel) ⟨Nat.le_of_ble_eq_true rfl, Nat.le_of_ble_eq_true rfl⟩) (gP_V hP hD hK [2] (by decide) rfl 2 rfl rfl) rfl rfl hl.1 rfl (lv_room (Nat.le_of_ble_eq_true rfl)) dX7_combine_24 ⟨Nat.zero_le _, Nat.zero_le _⟩) hP hD hS hA [2] rfl (fun H locs hP hD hS => ?_)
  have hP : va_P D vwCl (wXp y ad h q n false 0 0 b2 l2 r2 b3 l3 r3 uz ul uh f1 g1 f2 g2 pa kd on ot pt fb fl fh tb tl th dg ds) H := hP
  have hD : va_D A (wXp y ad h q n false 0 0 b2 l2 r2 b3 l3 r3 uz ul uh f1 g1 f2 g2 pa kd on ot pt fb fl fh tb tl th dg ds) := hD
  exact W.vret hx hb hr (fun t ht hW => ⟨⟨none, wXp y ad h q n false 0 0 b2 l2 r2 b3 l3 r3 uz ul uh f1 g1 f2 g2 pa kd on ot pt fb fl fh tb tl th dg ds, rfl, ⟨rfl, rfl⟩, rfl, by rw [ht]; exact hP⟩, by rw [← hAe]; exact hS.F ht⟩) (by rw [← hAe]; exact hS.2.2) dX7_combine_27
def sp_X7_combine_1_b1 (l2 r2 l3 r3 : Int64) (i : Int32) : Bool := sp_X2_dropBeyondReach_b0 true (l2 + l3) (r2 + r3) i
def sp_X7_combine_1_l1 (l2 r2 l3 r3 : Int64) (i : Int32) : Int64 := sp_X2_dropBeyondReach_lo true (l2 + l3) (r2 + r3) i
def sp_X7_combine_1_r1 (l2 r2 l3 r3 : Int64) (i : Int32) : Int64 := sp_X2_dropBeyondReach_hi true (l2 + l3) (r2 + r3) i
set_option maxHeartbeats 4000000 in
set_option maxRecDepth 100000 in
theorem c_X7_combine_1 (l : Launch) (hfl : l.stackTraces = false) (D : va_G) (y : Nat → ClassId) (ad : Nat → Nat) (sz : Nat) (h : Nat) (q : Nat → Nat) (n : Nat) (b1 : Bool) (l1 r1 : Int64) (b2 : Bool) (l2 r2 : Int64) (b3 : Bool) (l3 r3 : Int64) (uz : Nat → Bool) (ul uh : Nat → Int64) (f1 g1 f2 g2 : Int64) (pa : Nat → Nat → Nat) (kd : Nat → Nat) (on ot : Nat → Int32) (pt : Nat → Int64) (fb : Nat → Nat → Bool) (fl fh : Nat → Nat → Int64) (tb : Nat → Nat → Bool) (tl th : Nat → Nat → Int64) (dg : Nat → Int32) (ds : Nat → Int64) (i : Int32) (h2 : b2 = true) (h3 : b3 = true) : Met l yX7_combine wsX7_combine ({ frames := 6, cells := 0, slots := 0, locals := 200 } : Room) (gPX D y ad [.ref h, .ref (ad 1), .int i] (wXp y ad h q n b1 l1 r1 b2 l2 r2 b3 l3 r3 uz ul uh f1 g1 f2 g2 pa kd on ot pt fb fl fh tb tl th dg ds) sz) (gQ D (wXp y ad h q n b1 l1 r1 b2 l2 r2 b3 l3 r3 uz ul uh f1 g1 f2 g2 pa kd on ot pt fb fl fh tb tl th dg ds) (gF none (wXp y ad h q n (sp_X7_combine_1_b1 l2 r2 l3 r3 i) (sp_X7_combine_1_l1 l2 r2 l3 r3 i) (sp_X7_combine_1_r1 l2 r2 l3 r3 i) b2 l2 r2 b3 l3 r3 uz ul uh f1 g1 f2 g2 pa kd on ot pt fb fl fh tb tl th dg ds))) 0 0 (va_A (wXp y ad h q n b1 l1 r1 b2 l2 r2 b3 l3 r3 uz ul uh f1 g1 f2 g2 pa kd on ot pt fb fl fh tb tl th dg ds) sz) := by
  refine Met.ofW (cc := cX7_combine) (maxL := 3) (ret := none) (by decide) rfl ?_
  intro pg e s m args below meth c s₁ B hml hv
  obtain ⟨rfl, hsz, hP, hK, hD0, hE0⟩ := hv
  have hx := B.exec
  have hb := B.bytes
  have hr := B.returns
  have hts := atoms_spec (ws := wsX7_combine) B.pre
  have hown : s.vm.findClass RX7 = some m.cls := findClass_of_methodNamed B.named
  have hlocks := B.notSynchronized
  subst hsz
  obtain ⟨A, hAe⟩ : ∃ A : Nat → Prop, A = va_A (wXp y ad h q n b1 l1 r1 b2 l2 r2 b3 l3 r3 uz ul uh f1 g1 f2 g2 pa kd on ot pt fb fl fh tb tl th dg ds) s.heap.size := ⟨_, rfl⟩
  have hE : gE ad A s s.heap := by rw [hAe]; exact hE0
  have hD : va_D A (wXp y ad h q n b1 l1 r1 b2 l2 r2 b3 l3 r3 uz ul uh f1 g1 f2 g2 pa kd on ot pt fb fl fh tb tl th dg ds) := by rw [hAe]; exact hD0.self (sz := s.heap.size)
  have hA : ∀ q : Nat, s.heap.size ≤ q → A q := fun q h => by rw [hAe]; exact Or.inr h
  have hS : va_S A s.heap s.heap [] := va_S.rf
  have hl := lv_entry ([.ref h, .ref (ad 1), .int i]) (n := 3) (Nat.le_of_ble_eq_true rfl)
  rw [lg_entry_eq]
  generalize (lg_sl ([.ref h, .ref (ad 1), .int i]) ++ List.replicate (3 - (lg_sl ([.ref h, .ref (ad 1), .int i])).length) Slot.unset).toArray = ls at hl ⊢
  have hl : lv_has ls 3 [(0, .ref h), (1, .ref (ad 1)), (2, .int i)] := hl
  refine lv_aload_n hx hb dX7_combine_0 rfl (lv_at hl 0 rfl) ?_
  refine va_get (D := D) (ci := 5) (v := .ref (q 2)) (C := RX7) (T := TX7) (N := 8) hx hb hts in_X7_combine_X7 hown hK.1 hP 0 rfl rfl 3 (by decide) (hts (.fieldLink RX7 26 "Nestlimit" "first" "LNestlimit$Interval;") (List.mem_of_getElem? (i := 1) rfl)) (fun _ h9 => h9) rfl dX7_combine_1 ?_
  refine va_get (D := D) (ci := 1) (v := .int (gB b2)) (C := RX2) (T := TX2) (N := 3) hx hb hts in_X7_combine_X2 hown hK.1 hP 3 rfl rfl 0 (by decide) (hts (.fieldLink RX7 173 "Nestlimit$Interval" "isThere" "Z") (List.mem_of_getElem? (i := 2) rfl)) (fun _ h9 => h9) rfl dX7_combine_4 ?_
  refine g_beq (tgt := 20) hx hb dX7_combine_7 (by decide) (fun c_7 => absurd h2 c_7) (fun c_7 => ?_)
  refine lv_aload_n hx hb dX7_combine_10 rfl (lv_at hl 0 rfl) ?_
  refine va_get (D := D) (ci := 5) (v := .ref (q 3)) (C := RX7) (T := TX7) (N := 8) hx hb hts in_X7_combine_X7 hown hK.1 hP 0 rfl rfl 4 (by decide) (hts (.fieldLink RX7 29 "Nestlimit" "second" "LNestlimit$Interval;") (List.mem_of_getElem? (i := 3) rfl)) (fun _ h9 => h9) rfl dX7_combine_11 ?_
  refine va_get (D := D) (ci := 1) (v := .int (gB b3)) (C := RX2) (T := TX2) (N := 3) hx hb hts in_X7_combine_X2 hown hK.1 hP 4 rfl rfl 0 (by decide) (hts (.fieldLink RX7 173 "Nestlimit$Interval" "isThere" "Z") (List.mem_of_getElem? (i := 2) rfl)) (fun _ h9 => h9) rfl dX7_combine_14 ?_
  refine g_bne (tgt := 28) hx hb dX7_combine_17 (by decide) (fun c_17 => ?_) (fun c_17 => absurd h3 c_17)
  refine va_gets hx hb (hE.2.2.2.2.1.1) hS hown (hts (.fieldLink RX7 270 "Nestlimit$1" "$SwitchMap$Nestlimit$Kind" "[I") (List.mem_of_getElem? (i := 5) rfl)) (fun _ h9 => h9) dX7_combine_28 ?_
  refine lv_aload_n hx hb dX7_combine_31 rfl (lv_at hl 1 rfl) ?_
  refine g_callR (v0 := .int (nI 1)) (va_runU (As := []) (rest := [.ref (ad 10)]) ⟨hx, hb, hml, hown, hts⟩ (c_ordinal l hfl D y ad s.heap.size 1 (by decide)) (va_cwU 0 hts gX7_combine_Jx29ce0_ordinal_8abf5_u276X3 rfl rfl rfl rfl (by decide +kernel) ⟨Nat.le_of_ble_eq_true rfl, Nat.le_of_ble_eq_true rfl⟩) (gPX_O (C := RX3) hK hE hS hA (hE.2.2.2.2.2 1 (by decide)).2.1) rfl rfl hl.1 rfl (lv_room (Nat.le_of_ble_eq_true rfl)) dX7_combine_32 ⟨Nat.zero_le _, Nat.zero_le _⟩) ?_
  refine va_ti (v := .int 1) hx hb (hE.2.2.2.2.1.2) hS (g_sin (k := 1) (by decide)) (by rfl) dX7_combine_35 ?_
  refine g_topi (y := 1) (rfl) ?_
  refine lv_tableIn (off := 44) (tgt := 80) hx hb dX7_combine_36 (by decide) (by decide) rfl (by decide) ?_
  refine lv_aload_n hx hb dX7_combine_80 rfl (lv_at hl 0 rfl) ?_
  refine va_get (D := D) (ci := 5) (v := .ref (q 1)) (C := RX7) (T := TX7) (N := 8) hx hb hts in_X7_combine_X7 hown hK.1 hP 0 rfl rfl 2 (by decide) (hts (.fieldLink RX7 22 "Nestlimit" "answer" "LNestlimit$Interval;") (List.mem_of_getElem? (i := 4) rfl)) (fun _ h9 => h9) rfl dX7_combine_81 ?_
  refine lv_aload_n hx hb dX7_combine_84 rfl (lv_at hl 0 rfl) ?_
  refine va_get (D := D) (ci := 5) (v := .ref (q 2)) (C := RX7) (T := TX7) (N := 8) hx hb hts in_X7_combine_X7 hown hK.1 hP 0 rfl rfl 3 (by decide) (hts (.fieldLink RX7 26 "Nestlimit" "first" "LNestlimit$Interval;") (List.mem_of_getElem? (i := 1) rfl)) (fun _ h9 => h9) rfl dX7_combine_85 ?_
  refine va_get (D := D) (ci := 1) (v := .long l2) (C := RX2) (T := TX2) (N := 3) hx hb hts in_X7_combine_X2 hown hK.1 hP 3 rfl rfl 1 (by decide) (hts (.fieldLink RX7 181 "Nestlimit$Interval" "low" "J") (List.mem_of_getElem? (i := 6) rfl)) (fun _ h9 => h9) rfl dX7_combine_88 ?_
  refine lv_aload_n hx hb dX7_combine_91 rfl (lv_at hl 0 rfl) ?_
  refine va_get (D := D) (ci := 5) (v := .ref (q 3)) (C := RX7) (T := TX7) (N := 8) hx hb hts in_X7_combine_X7 hown hK.1 hP 0 rfl rfl 4 (by decide) (hts (.fieldLink RX7 29 "Nestlimit" "second" "LNestlimit$Interval;") (List.mem_of_getElem? (i := 3) rfl)) (fun _ h9 => h9) rfl dX7_combine_92 ?_
  refine va_get (D := D) (ci := 1) (v := .long l3) (C := RX2) (T := TX2) (N := 3) hx hb hts in_X7_combine_X2 hown hK.1 hP 4 rfl rfl 1 (by decide) (hts (.fieldLink RX7 181 "Nestlimit$Interval" "low" "J") (List.mem_of_getElem? (i := 6) rfl)) (fun _ h9 => h9) rfl dX7_combine_95 ?_
  refine lv_ladd hx hb dX7_combine_98 ?_
  refine lv_aload_n hx hb dX7_combine_99 rfl (lv_at hl 0 rfl) ?_
  refine va_get (D := D) (ci := 5) (v := .ref (q 2)) (C := RX7) (T := TX7) (N := 8) hx hb hts in_X7_combine_X7 hown hK.1 hP 0 rfl rfl 3 (by decide) (hts (.fieldLink RX7 26 "Nestlimit" "first" "LNestlimit$Interval;") (List.mem_of_getElem? (i := 1) rfl)) (fun _ h9 => h9) rfl dX7_combine_100 ?_
  refine va_get (D := D) (ci := 1) (v := .long r2) (C := RX2) (T := TX2) (N := 3) hx hb hts in_X7_combine_X2 hown hK.1 hP 3 rfl rfl 2 (by decide) (hts (.fieldLink RX7 177 "Nestlimit$Interval" "high" "J") (List.mem_of_getElem? (i := 7) rfl)) (fun _ h9 => h9) rfl dX7_combine_103 ?_
  refine lv_aload_n hx hb dX7_combine_106 rfl (lv_at hl 0 rfl) ?_
  refine va_get (D := D) (ci := 5) (v := .ref (q 3)) (C := RX7) (T := TX7) (N := 8) hx hb hts in_X7_combine_X7 hown hK.1 hP 0 rfl rfl 4 (by decide) (hts (.fieldLink RX7 29 "Nestlimit" "second" "LNestlimit$Interval;") (List.mem_of_getElem? (i := 3) rfl)) (fun _ h9 => h9) rfl dX7_combine_107 ?_
  refine va_get (D := D) (ci := 1) (v := .long r3) (C := RX2) (T := TX2) (N := 3) hx hb hts in_X7_combine_X2 hown hK.1 hP 4 rfl rfl 2 (by decide) (hts (.fieldLink RX7 177 "Nestlimit$Interval" "high" "J") (List.mem_of_getElem? (i := 7) rfl)) (fun _ h9 => h9) rfl dX7_combine_110 ?_
  refine lv_ladd hx hb dX7_combine_113 ?_
  refine g_callv (va_runV (As := [.long (l2 + l3), .long (r2 + r3)]) (rest := []) ⟨hx, hb, hml, hown, hts⟩ (c_X2_assign l D y s.heap.size (q 1) b1 l1 r1 (l2 + l3) (r2 + r3)) (cwV 2 hts gX7_combine_X2_assign rfl rfl rfl (by decide +kernel) ⟨Nat.le_of_ble_eq_true rfl, Nat.le_of_ble_eq_true rfl⟩) (gP_V hP hD hK [2] (by decide) rfl 2 rfl rfl) rfl rfl hl.1 rfl (lv_room (Nat.le_of_ble_eq_true rfl)) dX7_combine_114 ⟨Nat.zero_le _, Nat.zero_le _⟩) hP hD hS hA [2] rfl (fun H locs hP hD hS => ?_)
  have hP : va_P D vwCl (wXp y ad h q n true (l2 + l3) (r2 + r3) b2 l2 r2 b3 l3 r3 uz ul uh f1 g1 f2 g2 pa kd on ot pt fb fl fh tb tl th dg ds) H := hP
  have hD : va_D A (wXp y ad h q n true (l2 + l3) (r2 + r3) b2 l2 r2 b3 l3 r3 uz ul uh f1 g1 f2 g2 pa kd on ot pt fb fl fh tb tl th dg ds) := hD
  refine lv_goto (tgt := 275) hx hb dX7_combine_117 (by decide) ?_
  refine lv_aload_n hx hb dX7_combine_275 rfl (lv_at hl 0 rfl) ?_
  refine va_get (D := D) (ci := 5) (v := .ref (q 1)) (C := RX7) (T := TX7) (N := 8) hx hb hts in_X7_combine_X7 hown hK.1 hP 0 rfl rfl 2 (by decide) (hts (.fieldLink RX7 22 "Nestlimit" "answer" "LNestlimit$Interval;") (List.mem_of_getElem? (i := 4) rfl)) (fun _ h9 => h9) rfl dX7_combine_276 ?_
  refine lv_iload_n hx hb dX7_combine_279 rfl (lv_at hl 2 rfl) ?_
  refine g_callv (va_runV (As := [.int i]) (rest := []) ⟨hx, hb, hml, hown, hts⟩ (c_X2_dropBeyondReach l D y H.size (q 1) true (l2 + l3) (r2 + r3) i) (cwV 1 hts gX7_combine_X2_dropBeyondReach rfl rfl rfl (by decide +kernel) ⟨Nat.le_of_ble_eq_true rfl, Nat.le_of_ble_eq_true rfl⟩) (gP_V hP hD hK [2] (by decide) rfl 2 rfl rfl) rfl rfl hl.1 rfl (lv_room (Nat.le_of_ble_eq_true rfl)) dX7_combine_280 ⟨Nat.zero_le _, Nat.zero_le _⟩) hP hD hS hA [2] rfl (fun H locs hP hD hS => ?_)
  have hP : va_P D vwCl (wXp y ad h q n (sp_X2_dropBeyondReach_b0 true (l2 + l3) (r2 + r3) i) (sp_X2_dropBeyondReach_lo true (l2 + l3) (r2 + r3) i) (sp_X2_dropBeyondReach_hi true (l2 + l3) (r2 + r3) i) b2 l2 r2 b3 l3 r3 uz ul uh f1 g1 f2 g2 pa kd on ot pt fb fl fh tb tl th dg ds) H := hP
  have hD : va_D A (wXp y ad h q n (sp_X2_dropBeyondReach_b0 true (l2 + l3) (r2 + r3) i) (sp_X2_dropBeyondReach_lo true (l2 + l3) (r2 + r3) i) (sp_X2_dropBeyondReach_hi true (l2 + l3) (r2 + r3) i) b2 l2 r2 b3 l3 r3 uz ul uh f1 g1 f2 g2 pa kd on ot pt fb fl fh tb tl th dg ds) := hD
  exact W.vret hx hb hr (fun t ht hW => ⟨⟨none, wXp y ad h q n (sp_X2_dropBeyondReach_b0 true (l2 + l3) (r2 + r3) i) (sp_X2_dropBeyondReach_lo true (l2 + l3) (r2 + r3) i) (sp_X2_dropBeyondReach_hi true (l2 + l3) (r2 + r3) i) b2 l2 r2 b3 l3 r3 uz ul uh f1 g1 f2 g2 pa kd on ot pt fb fl fh tb tl th dg ds, rfl, ⟨rfl, rfl⟩, rfl, by rw [ht]; exact hP⟩, by rw [← hAe]; exact hS.F ht⟩) (by rw [← hAe]; exact hS.2.2) dX7_combine_283
def sp_X7_combine_2_b1 (l2 r2 l3 r3 : Int64) (i : Int32) : Bool := sp_X2_dropBeyondReach_b0 true (l2 - r3) (r2 - l3) i
def sp_X7_combine_2_l1 (l2 r2 l3 r3 : Int64) (i : Int32) : Int64 := sp_X2_dropBeyondReach_lo true (l2 - r3) (r2 - l3) i
def sp_X7_combine_2_r1 (l2 r2 l3 r3 : Int64) (i : Int32) : Int64 := sp_X2_dropBeyondReach_hi true (l2 - r3) (r2 - l3) i
set_option maxHeartbeats 4000000 in
set_option maxRecDepth 100000 in
theorem c_X7_combine_2 (l : Launch) (hfl : l.stackTraces = false) (D : va_G) (y : Nat → ClassId) (ad : Nat → Nat) (sz : Nat) (h : Nat) (q : Nat → Nat) (n : Nat) (b1 : Bool) (l1 r1 : Int64) (b2 : Bool) (l2 r2 : Int64) (b3 : Bool) (l3 r3 : Int64) (uz : Nat → Bool) (ul uh : Nat → Int64) (f1 g1 f2 g2 : Int64) (pa : Nat → Nat → Nat) (kd : Nat → Nat) (on ot : Nat → Int32) (pt : Nat → Int64) (fb : Nat → Nat → Bool) (fl fh : Nat → Nat → Int64) (tb : Nat → Nat → Bool) (tl th : Nat → Nat → Int64) (dg : Nat → Int32) (ds : Nat → Int64) (i : Int32) (h2 : b2 = true) (h3 : b3 = true) : Met l yX7_combine wsX7_combine ({ frames := 6, cells := 0, slots := 0, locals := 200 } : Room) (gPX D y ad [.ref h, .ref (ad 2), .int i] (wXp y ad h q n b1 l1 r1 b2 l2 r2 b3 l3 r3 uz ul uh f1 g1 f2 g2 pa kd on ot pt fb fl fh tb tl th dg ds) sz) (gQ D (wXp y ad h q n b1 l1 r1 b2 l2 r2 b3 l3 r3 uz ul uh f1 g1 f2 g2 pa kd on ot pt fb fl fh tb tl th dg ds) (gF none (wXp y ad h q n (sp_X7_combine_2_b1 l2 r2 l3 r3 i) (sp_X7_combine_2_l1 l2 r2 l3 r3 i) (sp_X7_combine_2_r1 l2 r2 l3 r3 i) b2 l2 r2 b3 l3 r3 uz ul uh f1 g1 f2 g2 pa kd on ot pt fb fl fh tb tl th dg ds))) 0 0 (va_A (wXp y ad h q n b1 l1 r1 b2 l2 r2 b3 l3 r3 uz ul uh f1 g1 f2 g2 pa kd on ot pt fb fl fh tb tl th dg ds) sz) := by
  refine Met.ofW (cc := cX7_combine) (maxL := 3) (ret := none) (by decide) rfl ?_
  intro pg e s m args below meth c s₁ B hml hv
  obtain ⟨rfl, hsz, hP, hK, hD0, hE0⟩ := hv
  have hx := B.exec
  have hb := B.bytes
  have hr := B.returns
  have hts := atoms_spec (ws := wsX7_combine) B.pre
  have hown : s.vm.findClass RX7 = some m.cls := findClass_of_methodNamed B.named
  have hlocks := B.notSynchronized
  subst hsz
  obtain ⟨A, hAe⟩ : ∃ A : Nat → Prop, A = va_A (wXp y ad h q n b1 l1 r1 b2 l2 r2 b3 l3 r3 uz ul uh f1 g1 f2 g2 pa kd on ot pt fb fl fh tb tl th dg ds) s.heap.size := ⟨_, rfl⟩
  have hE : gE ad A s s.heap := by rw [hAe]; exact hE0
  have hD : va_D A (wXp y ad h q n b1 l1 r1 b2 l2 r2 b3 l3 r3 uz ul uh f1 g1 f2 g2 pa kd on ot pt fb fl fh tb tl th dg ds) := by rw [hAe]; exact hD0.self (sz := s.heap.size)
  have hA : ∀ q : Nat, s.heap.size ≤ q → A q := fun q h => by rw [hAe]; exact Or.inr h
  have hS : va_S A s.heap s.heap [] := va_S.rf
  have hl := lv_entry ([.ref h, .ref (ad 2), .int i]) (n := 3) (Nat.le_of_ble_eq_true rfl)
  rw [lg_entry_eq]
  generalize (lg_sl ([.ref h, .ref (ad 2), .int i]) ++ List.replicate (3 - (lg_sl ([.ref h, .ref (ad 2), .int i])).length) Slot.unset).toArray = ls at hl ⊢
  have hl : lv_has ls 3 [(0, .ref h), (1, .ref (ad 2)), (2, .int i)] := hl
  refine lv_aload_n hx hb dX7_combine_0 rfl (lv_at hl 0 rfl) ?_
  refine va_get (D := D) (ci := 5) (v := .ref (q 2)) (C := RX7) (T := TX7) (N := 8) hx hb hts in_X7_combine_X7 hown hK.1 hP 0 rfl rfl 3 (by decide) (hts (.fieldLink RX7 26 "Nestlimit" "first" "LNestlimit$Interval;") (List.mem_of_getElem? (i := 1) rfl)) (fun _ h9 => h9) rfl dX7_combine_1 ?_
  refine va_get (D := D) (ci := 1) (v := .int (gB b2)) (C := RX2) (T := TX2) (N := 3) hx hb hts in_X7_combine_X2 hown hK.1 hP 3 rfl rfl 0 (by decide) (hts (.fieldLink RX7 173 "Nestlimit$Interval" "isThere" "Z") (List.mem_of_getElem? (i := 2) rfl)) (fun _ h9 => h9) rfl dX7_combine_4 ?_
  refine g_beq (tgt := 20) hx hb dX7_combine_7 (by decide) (fun c_7 => absurd h2 c_7) (fun c_7 => ?_)
  refine lv_aload_n hx hb dX7_combine_10 rfl (lv_at hl 0 rfl) ?_
  refine va_get (D := D) (ci := 5) (v := .ref (q 3)) (C := RX7) (T := TX7) (N := 8) hx hb hts in_X7_combine_X7 hown hK.1 hP 0 rfl rfl 4 (by decide) (hts (.fieldLink RX7 29 "Nestlimit" "second" "LNestlimit$Interval;") (List.mem_of_getElem? (i := 3) rfl)) (fun _ h9 => h9) rfl dX7_combine_11 ?_
  refine va_get (D := D) (ci := 1) (v := .int (gB b3)) (C := RX2) (T := TX2) (N := 3) hx hb hts in_X7_combine_X2 hown hK.1 hP 4 rfl rfl 0 (by decide) (hts (.fieldLink RX7 173 "Nestlimit$Interval" "isThere" "Z") (List.mem_of_getElem? (i := 2) rfl)) (fun _ h9 => h9) rfl dX7_combine_14 ?_
  refine g_bne (tgt := 28) hx hb dX7_combine_17 (by decide) (fun c_17 => ?_) (fun c_17 => absurd h3 c_17)
  refine va_gets hx hb (hE.2.2.2.2.1.1) hS hown (hts (.fieldLink RX7 270 "Nestlimit$1" "$SwitchMap$Nestlimit$Kind" "[I") (List.mem_of_getElem? (i := 5) rfl)) (fun _ h9 => h9) dX7_combine_28 ?_
  refine lv_aload_n hx hb dX7_combine_31 rfl (lv_at hl 1 rfl) ?_
  refine g_callR (v0 := .int (nI 2)) (va_runU (As := []) (rest := [.ref (ad 10)]) ⟨hx, hb, hml, hown, hts⟩ (c_ordinal l hfl D y ad s.heap.size 2 (by decide)) (va_cwU 0 hts gX7_combine_Jx29ce0_ordinal_8abf5_u276X3 rfl rfl rfl rfl (by decide +kernel) ⟨Nat.le_of_ble_eq_true rfl, Nat.le_of_ble_eq_true rfl⟩) (gPX_O (C := RX3) hK hE hS hA (hE.2.2.2.2.2 2 (by decide)).2.1) rfl rfl hl.1 rfl (lv_room (Nat.le_of_ble_eq_true rfl)) dX7_combine_32 ⟨Nat.zero_le _, Nat.zero_le _⟩) ?_
  refine va_ti (v := .int 2) hx hb (hE.2.2.2.2.1.2) hS (g_sin (k := 2) (by decide)) (by rfl) dX7_combine_35 ?_
  refine g_topi (y := 2) (rfl) ?_
  refine lv_tableIn (off := 84) (tgt := 120) hx hb dX7_combine_36 (by decide) (by decide) rfl (by decide) ?_
  refine lv_aload_n hx hb dX7_combine_120 rfl (lv_at hl 0 rfl) ?_
  refine va_get (D := D) (ci := 5) (v := .ref (q 1)) (C := RX7) (T := TX7) (N := 8) hx hb hts in_X7_combine_X7 hown hK.1 hP 0 rfl rfl 2 (by decide) (hts (.fieldLink RX7 22 "Nestlimit" "answer" "LNestlimit$Interval;") (List.mem_of_getElem? (i := 4) rfl)) (fun _ h9 => h9) rfl dX7_combine_121 ?_
  refine lv_aload_n hx hb dX7_combine_124 rfl (lv_at hl 0 rfl) ?_
  refine va_get (D := D) (ci := 5) (v := .ref (q 2)) (C := RX7) (T := TX7) (N := 8) hx hb hts in_X7_combine_X7 hown hK.1 hP 0 rfl rfl 3 (by decide) (hts (.fieldLink RX7 26 "Nestlimit" "first" "LNestlimit$Interval;") (List.mem_of_getElem? (i := 1) rfl)) (fun _ h9 => h9) rfl dX7_combine_125 ?_
  refine va_get (D := D) (ci := 1) (v := .long l2) (C := RX2) (T := TX2) (N := 3) hx hb hts in_X7_combine_X2 hown hK.1 hP 3 rfl rfl 1 (by decide) (hts (.fieldLink RX7 181 "Nestlimit$Interval" "low" "J") (List.mem_of_getElem? (i := 6) rfl)) (fun _ h9 => h9) rfl dX7_combine_128 ?_
  refine lv_aload_n hx hb dX7_combine_131 rfl (lv_at hl 0 rfl) ?_
  refine va_get (D := D) (ci := 5) (v := .ref (q 3)) (C := RX7) (T := TX7) (N := 8) hx hb hts in_X7_combine_X7 hown hK.1 hP 0 rfl rfl 4 (by decide) (hts (.fieldLink RX7 29 "Nestlimit" "second" "LNestlimit$Interval;") (List.mem_of_getElem? (i := 3) rfl)) (fun _ h9 => h9) rfl dX7_combine_132 ?_
  refine va_get (D := D) (ci := 1) (v := .long r3) (C := RX2) (T := TX2) (N := 3) hx hb hts in_X7_combine_X2 hown hK.1 hP 4 rfl rfl 2 (by decide) (hts (.fieldLink RX7 177 "Nestlimit$Interval" "high" "J") (List.mem_of_getElem? (i := 7) rfl)) (fun _ h9 => h9) rfl dX7_combine_135 ?_
  refine lv_lsub hx hb dX7_combine_138 ?_
  refine lv_aload_n hx hb dX7_combine_139 rfl (lv_at hl 0 rfl) ?_
  refine va_get (D := D) (ci := 5) (v := .ref (q 2)) (C := RX7) (T := TX7) (N := 8) hx hb hts in_X7_combine_X7 hown hK.1 hP 0 rfl rfl 3 (by decide) (hts (.fieldLink RX7 26 "Nestlimit" "first" "LNestlimit$Interval;") (List.mem_of_getElem? (i := 1) rfl)) (fun _ h9 => h9) rfl dX7_combine_140 ?_
  refine va_get (D := D) (ci := 1) (v := .long r2) (C := RX2) (T := TX2) (N := 3) hx hb hts in_X7_combine_X2 hown hK.1 hP 3 rfl rfl 2 (by decide) (hts (.fieldLink RX7 177 "Nestlimit$Interval" "high" "J") (List.mem_of_getElem? (i := 7) rfl)) (fun _ h9 => h9) rfl dX7_combine_143 ?_
  refine lv_aload_n hx hb dX7_combine_146 rfl (lv_at hl 0 rfl) ?_
  refine va_get (D := D) (ci := 5) (v := .ref (q 3)) (C := RX7) (T := TX7) (N := 8) hx hb hts in_X7_combine_X7 hown hK.1 hP 0 rfl rfl 4 (by decide) (hts (.fieldLink RX7 29 "Nestlimit" "second" "LNestlimit$Interval;") (List.mem_of_getElem? (i := 3) rfl)) (fun _ h9 => h9) rfl dX7_combine_147 ?_
  refine va_get (D := D) (ci := 1) (v := .long l3) (C := RX2) (T := TX2) (N := 3) hx hb hts in_X7_combine_X2 hown hK.1 hP 4 rfl rfl 1 (by decide) (hts (.fieldLink RX7 181 "Nestlimit$Interval" "low" "J") (List.mem_of_getElem? (i := 6) rfl)) (fun _ h9 => h9) rfl dX7_combine_150 ?_
  refine lv_lsub hx hb dX7_combine_153 ?_
  refine g_callv (va_runV (As := [.long (l2 - r3), .long (r2 - l3)]) (rest := []) ⟨hx, hb, hml, hown, hts⟩ (c_X2_assign l D y s.heap.size (q 1) b1 l1 r1 (l2 - r3) (r2 - l3)) (cwV 2 hts gX7_combine_X2_assign rfl rfl rfl (by decide +kernel) ⟨Nat.le_of_ble_eq_true rfl, Nat.le_of_ble_eq_true rfl⟩) (gP_V hP hD hK [2] (by decide) rfl 2 rfl rfl) rfl rfl hl.1 rfl (lv_room (Nat.le_of_ble_eq_true rfl)) dX7_combine_154 ⟨Nat.zero_le _, Nat.zero_le _⟩) hP hD hS hA [2] rfl (fun H locs hP hD hS => ?_)
  have hP : va_P D vwCl (wXp y ad h q n true (l2 - r3) (r2 - l3) b2 l2 r2 b3 l3 r3 uz ul uh f1 g1 f2 g2 pa kd on ot pt fb fl fh tb tl th dg ds) H := hP
  have hD : va_D A (wXp y ad h q n true (l2 - r3) (r2 - l3) b2 l2 r2 b3 l3 r3 uz ul uh f1 g1 f2 g2 pa kd on ot pt fb fl fh tb tl th dg ds) := hD
  refine lv_goto (tgt := 275) hx hb dX7_combine_157 (by decide) ?_
  refine lv_aload_n hx hb dX7_combine_275 rfl (lv_at hl 0 rfl) ?_
  refine va_get (D := D) (ci := 5) (v := .ref (q 1)) (C := RX7) (T := TX7) (N := 8) hx hb hts in_X7_combine_X7 hown hK.1 hP 0 rfl rfl 2 (by decide) (hts (.fieldLink RX7 22 "Nestlimit" "answer" "LNestlimit$Interval;") (List.mem_of_getElem? (i := 4) rfl)) (fun _ h9 => h9) rfl dX7_combine_276 ?_
  refine lv_iload_n hx hb dX7_combine_279 rfl (lv_at hl 2 rfl) ?_
  refine g_callv (va_runV (As := [.int i]) (rest := []) ⟨hx, hb, hml, hown, hts⟩ (c_X2_dropBeyondReach l D y H.size (q 1) true (l2 - r3) (r2 - l3) i) (cwV 1 hts gX7_combine_X2_dropBeyondReach rfl rfl rfl (by decide +kernel) ⟨Nat.le_of_ble_eq_true rfl, Nat.le_of_ble_eq_true rfl⟩) (gP_V hP hD hK [2] (by decide) rfl 2 rfl rfl) rfl rfl hl.1 rfl (lv_room (Nat.le_of_ble_eq_true rfl)) dX7_combine_280 ⟨Nat.zero_le _, Nat.zero_le _⟩) hP hD hS hA [2] rfl (fun H locs hP hD hS => ?_)
  have hP : va_P D vwCl (wXp y ad h q n (sp_X2_dropBeyondReach_b0 true (l2 - r3) (r2 - l3) i) (sp_X2_dropBeyondReach_lo true (l2 - r3) (r2 - l3) i) (sp_X2_dropBeyondReach_hi true (l2 - r3) (r2 - l3) i) b2 l2 r2 b3 l3 r3 uz ul uh f1 g1 f2 g2 pa kd on ot pt fb fl fh tb tl th dg ds) H := hP
  have hD : va_D A (wXp y ad h q n (sp_X2_dropBeyondReach_b0 true (l2 - r3) (r2 - l3) i) (sp_X2_dropBeyondReach_lo true (l2 - r3) (r2 - l3) i) (sp_X2_dropBeyondReach_hi true (l2 - r3) (r2 - l3) i) b2 l2 r2 b3 l3 r3 uz ul uh f1 g1 f2 g2 pa kd on ot pt fb fl fh tb tl th dg ds) := hD
  exact W.vret hx hb hr (fun t ht hW => ⟨⟨none, wXp y ad h q n (sp_X2_dropBeyondReach_b0 true (l2 - r3) (r2 - l3) i) (sp_X2_dropBeyondReach_lo true (l2 - r3) (r2 - l3) i) (sp_X2_dropBeyondReach_hi true (l2 - r3) (r2 - l3) i) b2 l2 r2 b3 l3 r3 uz ul uh f1 g1 f2 g2 pa kd on ot pt fb fl fh tb tl th dg ds, rfl, ⟨rfl, rfl⟩, rfl, by rw [ht]; exact hP⟩, by rw [← hAe]; exact hS.F ht⟩) (by rw [← hAe]; exact hS.2.2) dX7_combine_283
def sp_X7_combine_3_b1 (l2 r2 l3 r3 : Int64) (i : Int32) : Bool := sp_X2_dropBeyondReach_b0 true (sp_X7_cut (jmin (jmin (l2 * l3) (l2 * r3)) (jmin (r2 * l3) (r2 * r3))) (sp_X7_unitsAt i)) (sp_X7_fill (jmax (jmax (l2 * l3) (l2 * r3)) (jmax (r2 * l3) (r2 * r3))) (sp_X7_unitsAt i)) i
def sp_X7_combine_3_l1 (l2 r2 l3 r3 : Int64) (i : Int32) : Int64 := sp_X2_dropBeyondReach_lo true (sp_X7_cut (jmin (jmin (l2 * l3) (l2 * r3)) (jmin (r2 * l3) (r2 * r3))) (sp_X7_unitsAt i)) (sp_X7_fill (jmax (jmax (l2 * l3) (l2 * r3)) (jmax (r2 * l3) (r2 * r3))) (sp_X7_unitsAt i)) i
def sp_X7_combine_3_r1 (l2 r2 l3 r3 : Int64) (i : Int32) : Int64 := sp_X2_dropBeyondReach_hi true (sp_X7_cut (jmin (jmin (l2 * l3) (l2 * r3)) (jmin (r2 * l3) (r2 * r3))) (sp_X7_unitsAt i)) (sp_X7_fill (jmax (jmax (l2 * l3) (l2 * r3)) (jmax (r2 * l3) (r2 * r3))) (sp_X7_unitsAt i)) i
set_option maxHeartbeats 4000000 in
set_option maxRecDepth 100000 in
theorem c_X7_combine_3 (l : Launch) (hfl : l.stackTraces = false) (D : va_G) (y : Nat → ClassId) (ad : Nat → Nat) (sz : Nat) (h : Nat) (q : Nat → Nat) (n : Nat) (b1 : Bool) (l1 r1 : Int64) (b2 : Bool) (l2 r2 : Int64) (b3 : Bool) (l3 r3 : Int64) (uz : Nat → Bool) (ul uh : Nat → Int64) (f1 g1 f2 g2 : Int64) (pa : Nat → Nat → Nat) (kd : Nat → Nat) (on ot : Nat → Int32) (pt : Nat → Int64) (fb : Nat → Nat → Bool) (fl fh : Nat → Nat → Int64) (tb : Nat → Nat → Bool) (tl th : Nat → Nat → Int64) (dg : Nat → Int32) (ds : Nat → Int64) (i : Int32) (h2 : b2 = true) (h3 : b3 = true) : Met l yX7_combine wsX7_combine ({ frames := 6, cells := 0, slots := 0, locals := 200 } : Room) (gPX D y ad [.ref h, .ref (ad 3), .int i] (wXp y ad h q n b1 l1 r1 b2 l2 r2 b3 l3 r3 uz ul uh f1 g1 f2 g2 pa kd on ot pt fb fl fh tb tl th dg ds) sz) (gQ D (wXp y ad h q n b1 l1 r1 b2 l2 r2 b3 l3 r3 uz ul uh f1 g1 f2 g2 pa kd on ot pt fb fl fh tb tl th dg ds) (gF none (wXp y ad h q n (sp_X7_combine_3_b1 l2 r2 l3 r3 i) (sp_X7_combine_3_l1 l2 r2 l3 r3 i) (sp_X7_combine_3_r1 l2 r2 l3 r3 i) b2 l2 r2 b3 l3 r3 uz ul uh f1 g1 f2 g2 pa kd on ot pt fb fl fh tb tl th dg ds))) 0 0 (va_A (wXp y ad h q n b1 l1 r1 b2 l2 r2 b3 l3 r3 uz ul uh f1 g1 f2 g2 pa kd on ot pt fb fl fh tb tl th dg ds) sz) := by
  refine Met.ofW (cc := cX7_combine) (maxL := 3) (ret := none) (by decide) rfl ?_
  intro pg e s m args below meth c s₁ B hml hv
  obtain ⟨rfl, hsz, hP, hK, hD0, hE0⟩ := hv
  have hx := B.exec
  have hb := B.bytes
  have hr := B.returns
  have hts := atoms_spec (ws := wsX7_combine) B.pre
  have hown : s.vm.findClass RX7 = some m.cls := findClass_of_methodNamed B.named
  have hlocks := B.notSynchronized
  subst hsz
  obtain ⟨A, hAe⟩ : ∃ A : Nat → Prop, A = va_A (wXp y ad h q n b1 l1 r1 b2 l2 r2 b3 l3 r3 uz ul uh f1 g1 f2 g2 pa kd on ot pt fb fl fh tb tl th dg ds) s.heap.size := ⟨_, rfl⟩
  have hE : gE ad A s s.heap := by rw [hAe]; exact hE0
  have hD : va_D A (wXp y ad h q n b1 l1 r1 b2 l2 r2 b3 l3 r3 uz ul uh f1 g1 f2 g2 pa kd on ot pt fb fl fh tb tl th dg ds) := by rw [hAe]; exact hD0.self (sz := s.heap.size)
  have hA : ∀ q : Nat, s.heap.size ≤ q → A q := fun q h => by rw [hAe]; exact Or.inr h
  have hS : va_S A s.heap s.heap [] := va_S.rf
  have hl := lv_entry ([.ref h, .ref (ad 3), .int i]) (n := 3) (Nat.le_of_ble_eq_true rfl)
  rw [lg_entry_eq]
  generalize (lg_sl ([.ref h, .ref (ad 3), .int i]) ++ List.replicate (3 - (lg_sl ([.ref h, .ref (ad 3), .int i])).length) Slot.unset).toArray = ls at hl ⊢
  have hl : lv_has ls 3 [(0, .ref h), (1, .ref (ad 3)), (2, .int i)] := hl
  refine lv_aload_n hx hb dX7_combine_0 rfl (lv_at hl 0 rfl) ?_
  refine va_get (D := D) (ci := 5) (v := .ref (q 2)) (C := RX7) (T := TX7) (N := 8) hx hb hts in_X7_combine_X7 hown hK.1 hP 0 rfl rfl 3 (by decide) (hts (.fieldLink RX7 26 "Nestlimit" "first" "LNestlimit$Interval;") (List.mem_of_getElem? (i := 1) rfl)) (fun _ h9 => h9) rfl dX7_combine_1 ?_
  refine va_get (D := D) (ci := 1) (v := .int (gB b2)) (C := RX2) (T := TX2) (N := 3) hx hb hts in_X7_combine_X2 hown hK.1 hP 3 rfl rfl 0 (by decide) (hts (.fieldLink RX7 173 "Nestlimit$Interval" "isThere" "Z") (List.mem_of_getElem? (i := 2) rfl)) (fun _ h9 => h9) rfl dX7_combine_4 ?_
  refine g_beq (tgt := 20) hx hb dX7_combine_7 (by decide) (fun c_7 => absurd h2 c_7) (fun c_7 => ?_)
  refine lv_aload_n hx hb dX7_combine_10 rfl (lv_at hl 0 rfl) ?_
  refine va_get (D := D) (ci := 5) (v := .ref (q 3)) (C := RX7) (T := TX7) (N := 8) hx hb hts in_X7_combine_X7 hown hK.1 hP 0 rfl rfl 4 (by decide) (hts (.fieldLink RX7 29 "Nestlimit" "second" "LNestlimit$Interval;") (List.mem_of_getElem? (i := 3) rfl)) (fun _ h9 => h9) rfl dX7_combine_11 ?_
  refine va_get (D := D) (ci := 1) (v := .int (gB b3)) (C := RX2) (T := TX2) (N := 3) hx hb hts in_X7_combine_X2 hown hK.1 hP 4 rfl rfl 0 (by decide) (hts (.fieldLink RX7 173 "Nestlimit$Interval" "isThere" "Z") (List.mem_of_getElem? (i := 2) rfl)) (fun _ h9 => h9) rfl dX7_combine_14 ?_
  refine g_bne (tgt := 28) hx hb dX7_combine_17 (by decide) (fun c_17 => ?_) (fun c_17 => absurd h3 c_17)
  refine va_gets hx hb (hE.2.2.2.2.1.1) hS hown (hts (.fieldLink RX7 270 "Nestlimit$1" "$SwitchMap$Nestlimit$Kind" "[I") (List.mem_of_getElem? (i := 5) rfl)) (fun _ h9 => h9) dX7_combine_28 ?_
  refine lv_aload_n hx hb dX7_combine_31 rfl (lv_at hl 1 rfl) ?_
  refine g_callR (v0 := .int (nI 3)) (va_runU (As := []) (rest := [.ref (ad 10)]) ⟨hx, hb, hml, hown, hts⟩ (c_ordinal l hfl D y ad s.heap.size 3 (by decide)) (va_cwU 0 hts gX7_combine_Jx29ce0_ordinal_8abf5_u276X3 rfl rfl rfl rfl (by decide +kernel) ⟨Nat.le_of_ble_eq_true rfl, Nat.le_of_ble_eq_true rfl⟩) (gPX_O (C := RX3) hK hE hS hA (hE.2.2.2.2.2 3 (by decide)).2.1) rfl rfl hl.1 rfl (lv_room (Nat.le_of_ble_eq_true rfl)) dX7_combine_32 ⟨Nat.zero_le _, Nat.zero_le _⟩) ?_
  refine va_ti (v := .int 3) hx hb (hE.2.2.2.2.1.2) hS (g_sin (k := 3) (by decide)) (by rfl) dX7_combine_35 ?_
  refine g_topi (y := 3) (rfl) ?_
  refine lv_tableIn (off := 124) (tgt := 160) hx hb dX7_combine_36 (by decide) (by decide) rfl (by decide) ?_
  refine lv_aload_n hx hb dX7_combine_160 rfl (lv_at hl 0 rfl) ?_
  refine va_get (D := D) (ci := 5) (v := .ref (q 1)) (C := RX7) (T := TX7) (N := 8) hx hb hts in_X7_combine_X7 hown hK.1 hP 0 rfl rfl 2 (by decide) (hts (.fieldLink RX7 22 "Nestlimit" "answer" "LNestlimit$Interval;") (List.mem_of_getElem? (i := 4) rfl)) (fun _ h9 => h9) rfl dX7_combine_161 ?_
  refine lv_aload_n hx hb dX7_combine_164 rfl (lv_at hl 0 rfl) ?_
  refine va_get (D := D) (ci := 5) (v := .ref (q 2)) (C := RX7) (T := TX7) (N := 8) hx hb hts in_X7_combine_X7 hown hK.1 hP 0 rfl rfl 3 (by decide) (hts (.fieldLink RX7 26 "Nestlimit" "first" "LNestlimit$Interval;") (List.mem_of_getElem? (i := 1) rfl)) (fun _ h9 => h9) rfl dX7_combine_165 ?_
  refine lv_aload_n hx hb dX7_combine_168 rfl (lv_at hl 0 rfl) ?_
  refine va_get (D := D) (ci := 5) (v := .ref (q 3)) (C := RX7) (T := TX7) (N := 8) hx hb hts in_X7_combine_X7 hown hK.1 hP 0 rfl rfl 4 (by decide) (hts (.fieldLink RX7 29 "Nestlimit" "second" "LNestlimit$Interval;") (List.mem_of_getElem? (i := 3) rfl)) (fun _ h9 => h9) rfl dX7_combine_169 ?_
  refine lv_iload_n hx hb dX7_combine_172 rfl (lv_at hl 2 rfl) ?_
  refine g_callv (va_runV (As := [.ref (q 2), .ref (q 3), .int i]) (rest := []) ⟨hx, hb, hml, hown, hts⟩ (c_X2_multiply l D y s.heap.size (q 1) b1 l1 r1 (q 2) b2 l2 r2 (q 3) b3 l3 r3 i) (cwV 3 hts gX7_combine_X2_multiply rfl rfl rfl (by decide +kernel) ⟨Nat.le_of_ble_eq_true rfl, Nat.le_of_ble_eq_true rfl⟩) (gP_V hP hD hK [2, 3, 4] (by decide) rfl 2 rfl rfl) rfl rfl hl.1 rfl (lv_room (Nat.le_of_ble_eq_true rfl)) dX7_combine_173 ⟨Nat.zero_le _, Nat.zero_le _⟩) hP hD hS hA [2, 3, 4] rfl (fun H locs hP hD hS => ?_)
  have hP : va_P D vwCl (wXp y ad h q n true (sp_X7_cut (jmin (jmin (l2 * l3) (l2 * r3)) (jmin (r2 * l3) (r2 * r3))) (sp_X7_unitsAt i)) (sp_X7_fill (jmax (jmax (l2 * l3) (l2 * r3)) (jmax (r2 * l3) (r2 * r3))) (sp_X7_unitsAt i)) b2 l2 r2 b3 l3 r3 uz ul uh f1 g1 f2 g2 pa kd on ot pt fb fl fh tb tl th dg ds) H := hP
  have hD : va_D A (wXp y ad h q n true (sp_X7_cut (jmin (jmin (l2 * l3) (l2 * r3)) (jmin (r2 * l3) (r2 * r3))) (sp_X7_unitsAt i)) (sp_X7_fill (jmax (jmax (l2 * l3) (l2 * r3)) (jmax (r2 * l3) (r2 * r3))) (sp_X7_unitsAt i)) b2 l2 r2 b3 l3 r3 uz ul uh f1 g1 f2 g2 pa kd on ot pt fb fl fh tb tl th dg ds) := hD
  refine lv_goto (tgt := 275) hx hb dX7_combine_176 (by decide) ?_
  refine lv_aload_n hx hb dX7_combine_275 rfl (lv_at hl 0 rfl) ?_
  refine va_get (D := D) (ci := 5) (v := .ref (q 1)) (C := RX7) (T := TX7) (N := 8) hx hb hts in_X7_combine_X7 hown hK.1 hP 0 rfl rfl 2 (by decide) (hts (.fieldLink RX7 22 "Nestlimit" "answer" "LNestlimit$Interval;") (List.mem_of_getElem? (i := 4) rfl)) (fun _ h9 => h9) rfl dX7_combine_276 ?_
  refine lv_iload_n hx hb dX7_combine_279 rfl (lv_at hl 2 rfl) ?_
  refine g_callv (va_runV (As := [.int i]) (rest := []) ⟨hx, hb, hml, hown, hts⟩ (c_X2_dropBeyondReach l D y H.size (q 1) true (sp_X7_cut (jmin (jmin (l2 * l3) (l2 * r3)) (jmin (r2 * l3) (r2 * r3))) (sp_X7_unitsAt i)) (sp_X7_fill (jmax (jmax (l2 * l3) (l2 * r3)) (jmax (r2 * l3) (r2 * r3))) (sp_X7_unitsAt i)) i) (cwV 1 hts gX7_combine_X2_dropBeyondReach rfl rfl rfl (by decide +kernel) ⟨Nat.le_of_ble_eq_true rfl, Nat.le_of_ble_eq_true rfl⟩) (gP_V hP hD hK [2] (by decide) rfl 2 rfl rfl) rfl rfl hl.1 rfl (lv_room (Nat.le_of_ble_eq_true rfl)) dX7_combine_280 ⟨Nat.zero_le _, Nat.zero_le _⟩) hP hD hS hA [2] rfl (fun H locs hP hD hS => ?_)
  have hP : va_P D vwCl (wXp y ad h q n (sp_X2_dropBeyondReach_b0 true (sp_X7_cut (jmin (jmin (l2 * l3) (l2 * r3)) (jmin (r2 * l3) (r2 * r3))) (sp_X7_unitsAt i)) (sp_X7_fill (jmax (jmax (l2 * l3) (l2 * r3)) (jmax (r2 * l3) (r2 * r3))) (sp_X7_unitsAt i)) i) (sp_X2_dropBeyondReach_lo true (sp_X7_cut (jmin (jmin (l2 * l3) (l2 * r3)) (jmin (r2 * l3) (r2 * r3))) (sp_X7_unitsAt i)) (sp_X7_fill (jmax (jmax (l2 * l3) (l2 * r3)) (jmax (r2 * l3) (r2 * r3))) (sp_X7_unitsAt i)) i) (sp_X2_dropBeyondReach_hi true (sp_X7_cut (jmin (jmin (l2 * l3) (l2 * r3)) (jmin (r2 * l3) (r2 * r3))) (sp_X7_unitsAt i)) (sp_X7_fill (jmax (jmax (l2 * l3) (l2 * r3)) (jmax (r2 * l3) (r2 * r3))) (sp_X7_unitsAt i)) i) b2 l2 r2 b3 l3 r3 uz ul uh f1 g1 f2 g2 pa kd on ot pt fb fl fh tb tl th dg ds) H := hP
  have hD : va_D A (wXp y ad h q n (sp_X2_dropBeyondReach_b0 true (sp_X7_cut (jmin (jmin (l2 * l3) (l2 * r3)) (jmin (r2 * l3) (r2 * r3))) (sp_X7_unitsAt i)) (sp_X7_fill (jmax (jmax (l2 * l3) (l2 * r3)) (jmax (r2 * l3) (r2 * r3))) (sp_X7_unitsAt i)) i) (sp_X2_dropBeyondReach_lo true (sp_X7_cut (jmin (jmin (l2 * l3) (l2 * r3)) (jmin (r2 * l3) (r2 * r3))) (sp_X7_unitsAt i)) (sp_X7_fill (jmax (jmax (l2 * l3) (l2 * r3)) (jmax (r2 * l3) (r2 * r3))) (sp_X7_unitsAt i)) i) (sp_X2_dropBeyondReach_hi true (sp_X7_cut (jmin (jmin (l2 * l3) (l2 * r3)) (jmin (r2 * l3) (r2 * r3))) (sp_X7_unitsAt i)) (sp_X7_fill (jmax (jmax (l2 * l3) (l2 * r3)) (jmax (r2 * l3) (r2 * r3))) (sp_X7_unitsAt i)) i) b2 l2 r2 b3 l3 r3 uz ul uh f1 g1 f2 g2 pa kd on ot pt fb fl fh tb tl th dg ds) := hD
  exact W.vret hx hb hr (fun t ht hW => ⟨⟨none, wXp y ad h q n (sp_X2_dropBeyondReach_b0 true (sp_X7_cut (jmin (jmin (l2 * l3) (l2 * r3)) (jmin (r2 * l3) (r2 * r3))) (sp_X7_unitsAt i)) (sp_X7_fill (jmax (jmax (l2 * l3) (l2 * r3)) (jmax (r2 * l3) (r2 * r3))) (sp_X7_unitsAt i)) i) (sp_X2_dropBeyondReach_lo true (sp_X7_cut (jmin (jmin (l2 * l3) (l2 * r3)) (jmin (r2 * l3) (r2 * r3))) (sp_X7_unitsAt i)) (sp_X7_fill (jmax (jmax (l2 * l3) (l2 * r3)) (jmax (r2 * l3) (r2 * r3))) (sp_X7_unitsAt i)) i) (sp_X2_dropBeyondReach_hi true (sp_X7_cut (jmin (jmin (l2 * l3) (l2 * r3)) (jmin (r2 * l3) (r2 * r3))) (sp_X7_unitsAt i)) (sp_X7_fill (jmax (jmax (l2 * l3) (l2 * r3)) (jmax (r2 * l3) (r2 * r3))) (sp_X7_unitsAt i)) i) b2 l2 r2 b3 l3 r3 uz ul uh f1 g1 f2 g2 pa kd on ot pt fb fl fh tb tl th dg ds, rfl, ⟨rfl, rfl⟩, rfl, by rw [ht]; exact hP⟩, by rw [← hAe]; exact hS.F ht⟩) (by rw [← hAe]; exact hS.2.2) dX7_combine_283
def sp_X7_combine_4_b1 (l2 r2 l3 r3 : Int64) (i : Int32) : Bool := sp_X2_dropBeyondReach_b0 true (jmax l2 l3) (jmax r2 r3) i
def sp_X7_combine_4_l1 (l2 r2 l3 r3 : Int64) (i : Int32) : Int64 := sp_X2_dropBeyondReach_lo true (jmax l2 l3) (jmax r2 r3) i
def sp_X7_combine_4_r1 (l2 r2 l3 r3 : Int64) (i : Int32) : Int64 := sp_X2_dropBeyondReach_hi true (jmax l2 l3) (jmax r2 r3) i
set_option maxHeartbeats 4000000 in
set_option maxRecDepth 100000 in
theorem c_X7_combine_4 (l : Launch) (hfl : l.stackTraces = false) (D : va_G) (y : Nat → ClassId) (ad : Nat → Nat) (sz : Nat) (h : Nat) (q : Nat → Nat) (n : Nat) (b1 : Bool) (l1 r1 : Int64) (b2 : Bool) (l2 r2 : Int64) (b3 : Bool) (l3 r3 : Int64) (uz : Nat → Bool) (ul uh : Nat → Int64) (f1 g1 f2 g2 : Int64) (pa : Nat → Nat → Nat) (kd : Nat → Nat) (on ot : Nat → Int32) (pt : Nat → Int64) (fb : Nat → Nat → Bool) (fl fh : Nat → Nat → Int64) (tb : Nat → Nat → Bool) (tl th : Nat → Nat → Int64) (dg : Nat → Int32) (ds : Nat → Int64) (i : Int32) (h2 : b2 = true) (h3 : b3 = true) : Met l yX7_combine wsX7_combine ({ frames := 6, cells := 0, slots := 0, locals := 200 } : Room) (gPX D y ad [.ref h, .ref (ad 4), .int i] (wXp y ad h q n b1 l1 r1 b2 l2 r2 b3 l3 r3 uz ul uh f1 g1 f2 g2 pa kd on ot pt fb fl fh tb tl th dg ds) sz) (gQ D (wXp y ad h q n b1 l1 r1 b2 l2 r2 b3 l3 r3 uz ul uh f1 g1 f2 g2 pa kd on ot pt fb fl fh tb tl th dg ds) (gF none (wXp y ad h q n (sp_X7_combine_4_b1 l2 r2 l3 r3 i) (sp_X7_combine_4_l1 l2 r2 l3 r3 i) (sp_X7_combine_4_r1 l2 r2 l3 r3 i) b2 l2 r2 b3 l3 r3 uz ul uh f1 g1 f2 g2 pa kd on ot pt fb fl fh tb tl th dg ds))) 0 0 (va_A (wXp y ad h q n b1 l1 r1 b2 l2 r2 b3 l3 r3 uz ul uh f1 g1 f2 g2 pa kd on ot pt fb fl fh tb tl th dg ds) sz) := by
  refine Met.ofW (cc := cX7_combine) (maxL := 3) (ret := none) (by decide) rfl ?_
  intro pg e s m args below meth c s₁ B hml hv
  obtain ⟨rfl, hsz, hP, hK, hD0, hE0⟩ := hv
  have hx := B.exec
  have hb := B.bytes
  have hr := B.returns
  have hts := atoms_spec (ws := wsX7_combine) B.pre
  have hown : s.vm.findClass RX7 = some m.cls := findClass_of_methodNamed B.named
  have hlocks := B.notSynchronized
  subst hsz
  obtain ⟨A, hAe⟩ : ∃ A : Nat → Prop, A = va_A (wXp y ad h q n b1 l1 r1 b2 l2 r2 b3 l3 r3 uz ul uh f1 g1 f2 g2 pa kd on ot pt fb fl fh tb tl th dg ds) s.heap.size := ⟨_, rfl⟩
  have hE : gE ad A s s.heap := by rw [hAe]; exact hE0
  have hD : va_D A (wXp y ad h q n b1 l1 r1 b2 l2 r2 b3 l3 r3 uz ul uh f1 g1 f2 g2 pa kd on ot pt fb fl fh tb tl th dg ds) := by rw [hAe]; exact hD0.self (sz := s.heap.size)
  have hA : ∀ q : Nat, s.heap.size ≤ q → A q := fun q h => by rw [hAe]; exact Or.inr h
  have hS : va_S A s.heap s.heap [] := va_S.rf
  have hl := lv_entry ([.ref h, .ref (ad 4), .int i]) (n := 3) (Nat.le_of_ble_eq_true rfl)
  rw [lg_entry_eq]
  generalize (lg_sl ([.ref h, .ref (ad 4), .int i]) ++ List.replicate (3 - (lg_sl ([.ref h, .ref (ad 4), .int i])).length) Slot.unset).toArray = ls at hl ⊢
  have hl : lv_has ls 3 [(0, .ref h), (1, .ref (ad 4)), (2, .int i)] := hl
  refine lv_aload_n hx hb dX7_combine_0 rfl (lv_at hl 0 rfl) ?_
  refine va_get (D := D) (ci := 5) (v := .ref (q 2)) (C := RX7) (T := TX7) (N := 8) hx hb hts in_X7_combine_X7 hown hK.1 hP 0 rfl rfl 3 (by decide) (hts (.fieldLink RX7 26 "Nestlimit" "first" "LNestlimit$Interval;") (List.mem_of_getElem? (i := 1) rfl)) (fun _ h9 => h9) rfl dX7_combine_1 ?_
  refine va_get (D := D) (ci := 1) (v := .int (gB b2)) (C := RX2) (T := TX2) (N := 3) hx hb hts in_X7_combine_X2 hown hK.1 hP 3 rfl rfl 0 (by decide) (hts (.fieldLink RX7 173 "Nestlimit$Interval" "isThere" "Z") (List.mem_of_getElem? (i := 2) rfl)) (fun _ h9 => h9) rfl dX7_combine_4 ?_
  refine g_beq (tgt := 20) hx hb dX7_combine_7 (by decide) (fun c_7 => absurd h2 c_7) (fun c_7 => ?_)
  refine lv_aload_n hx hb dX7_combine_10 rfl (lv_at hl 0 rfl) ?_
  refine va_get (D := D) (ci := 5) (v := .ref (q 3)) (C := RX7) (T := TX7) (N := 8) hx hb hts in_X7_combine_X7 hown hK.1 hP 0 rfl rfl 4 (by decide) (hts (.fieldLink RX7 29 "Nestlimit" "second" "LNestlimit$Interval;") (List.mem_of_getElem? (i := 3) rfl)) (fun _ h9 => h9) rfl dX7_combine_11 ?_
  refine va_get (D := D) (ci := 1) (v := .int (gB b3)) (C := RX2) (T := TX2) (N := 3) hx hb hts in_X7_combine_X2 hown hK.1 hP 4 rfl rfl 0 (by decide) (hts (.fieldLink RX7 173 "Nestlimit$Interval" "isThere" "Z") (List.mem_of_getElem? (i := 2) rfl)) (fun _ h9 => h9) rfl dX7_combine_14 ?_
  refine g_bne (tgt := 28) hx hb dX7_combine_17 (by decide) (fun c_17 => ?_) (fun c_17 => absurd h3 c_17)
  refine va_gets hx hb (hE.2.2.2.2.1.1) hS hown (hts (.fieldLink RX7 270 "Nestlimit$1" "$SwitchMap$Nestlimit$Kind" "[I") (List.mem_of_getElem? (i := 5) rfl)) (fun _ h9 => h9) dX7_combine_28 ?_
  refine lv_aload_n hx hb dX7_combine_31 rfl (lv_at hl 1 rfl) ?_
  refine g_callR (v0 := .int (nI 4)) (va_runU (As := []) (rest := [.ref (ad 10)]) ⟨hx, hb, hml, hown, hts⟩ (c_ordinal l hfl D y ad s.heap.size 4 (by decide)) (va_cwU 0 hts gX7_combine_Jx29ce0_ordinal_8abf5_u276X3 rfl rfl rfl rfl (by decide +kernel) ⟨Nat.le_of_ble_eq_true rfl, Nat.le_of_ble_eq_true rfl⟩) (gPX_O (C := RX3) hK hE hS hA (hE.2.2.2.2.2 4 (by decide)).2.1) rfl rfl hl.1 rfl (lv_room (Nat.le_of_ble_eq_true rfl)) dX7_combine_32 ⟨Nat.zero_le _, Nat.zero_le _⟩) ?_
  refine va_ti (v := .int 4) hx hb (hE.2.2.2.2.1.2) hS (g_sin (k := 4) (by decide)) (by rfl) dX7_combine_35 ?_
  refine g_topi (y := 4) (rfl) ?_
  refine lv_tableIn (off := 143) (tgt := 179) hx hb dX7_combine_36 (by decide) (by decide) rfl (by decide) ?_
  refine lv_aload_n hx hb dX7_combine_179 rfl (lv_at hl 0 rfl) ?_
  refine va_get (D := D) (ci := 5) (v := .ref (q 1)) (C := RX7) (T := TX7) (N := 8) hx hb hts in_X7_combine_X7 hown hK.1 hP 0 rfl rfl 2 (by decide) (hts (.fieldLink RX7 22 "Nestlimit" "answer" "LNestlimit$Interval;") (List.mem_of_getElem? (i := 4) rfl)) (fun _ h9 => h9) rfl dX7_combine_180 ?_
  refine lv_aload_n hx hb dX7_combine_183 rfl (lv_at hl 0 rfl) ?_
  refine va_get (D := D) (ci := 5) (v := .ref (q 2)) (C := RX7) (T := TX7) (N := 8) hx hb hts in_X7_combine_X7 hown hK.1 hP 0 rfl rfl 3 (by decide) (hts (.fieldLink RX7 26 "Nestlimit" "first" "LNestlimit$Interval;") (List.mem_of_getElem? (i := 1) rfl)) (fun _ h9 => h9) rfl dX7_combine_184 ?_
  refine va_get (D := D) (ci := 1) (v := .long l2) (C := RX2) (T := TX2) (N := 3) hx hb hts in_X7_combine_X2 hown hK.1 hP 3 rfl rfl 1 (by decide) (hts (.fieldLink RX7 181 "Nestlimit$Interval" "low" "J") (List.mem_of_getElem? (i := 6) rfl)) (fun _ h9 => h9) rfl dX7_combine_187 ?_
  refine lv_aload_n hx hb dX7_combine_190 rfl (lv_at hl 0 rfl) ?_
  refine va_get (D := D) (ci := 5) (v := .ref (q 3)) (C := RX7) (T := TX7) (N := 8) hx hb hts in_X7_combine_X7 hown hK.1 hP 0 rfl rfl 4 (by decide) (hts (.fieldLink RX7 29 "Nestlimit" "second" "LNestlimit$Interval;") (List.mem_of_getElem? (i := 3) rfl)) (fun _ h9 => h9) rfl dX7_combine_191 ?_
  refine va_get (D := D) (ci := 1) (v := .long l3) (C := RX2) (T := TX2) (N := 3) hx hb hts in_X7_combine_X2 hown hK.1 hP 4 rfl rfl 1 (by decide) (hts (.fieldLink RX7 181 "Nestlimit$Interval" "low" "J") (List.mem_of_getElem? (i := 6) rfl)) (fun _ h9 => h9) rfl dX7_combine_194 ?_
  refine va_mmax_long (rest := [.ref (q 1)]) hx hb (hml.trans hl.1.symm) hown (hts (.methodLink RX7 284 Lib.MathLoose.max_long.x) (List.mem_of_getElem? (i := 8) rfl)) (hts (.static Lib.MathLoose.max_long.x) (List.mem_of_getElem? (i := 9) rfl)) (hts (.initialized "java/lang/Math") (List.mem_of_getElem? (i := 10) rfl)) (hts (.code Lib.MathLoose.max_long.x Lib.MathLoose.max_long.code 4 (some .long)) (List.mem_of_getElem? (i := 11) rfl)) (Nat.le_of_ble_eq_true rfl) (Nat.le_of_ble_eq_true rfl) (Nat.zero_le _) (Nat.zero_le _) dX7_combine_197 ?_
  refine g_topl (y := jmax l2 l3) rfl ?_
  refine lv_aload_n hx hb dX7_combine_200 rfl (lv_at hl 0 rfl) ?_
  refine va_get (D := D) (ci := 5) (v := .ref (q 2)) (C := RX7) (T := TX7) (N := 8) hx hb hts in_X7_combine_X7 hown hK.1 hP 0 rfl rfl 3 (by decide) (hts (.fieldLink RX7 26 "Nestlimit" "first" "LNestlimit$Interval;") (List.mem_of_getElem? (i := 1) rfl)) (fun _ h9 => h9) rfl dX7_combine_201 ?_
  refine va_get (D := D) (ci := 1) (v := .long r2) (C := RX2) (T := TX2) (N := 3) hx hb hts in_X7_combine_X2 hown hK.1 hP 3 rfl rfl 2 (by decide) (hts (.fieldLink RX7 177 "Nestlimit$Interval" "high" "J") (List.mem_of_getElem? (i := 7) rfl)) (fun _ h9 => h9) rfl dX7_combine_204 ?_
  refine lv_aload_n hx hb dX7_combine_207 rfl (lv_at hl 0 rfl) ?_
  refine va_get (D := D) (ci := 5) (v := .ref (q 3)) (C := RX7) (T := TX7) (N := 8) hx hb hts in_X7_combine_X7 hown hK.1 hP 0 rfl rfl 4 (by decide) (hts (.fieldLink RX7 29 "Nestlimit" "second" "LNestlimit$Interval;") (List.mem_of_getElem? (i := 3) rfl)) (fun _ h9 => h9) rfl dX7_combine_208 ?_
  refine va_get (D := D) (ci := 1) (v := .long r3) (C := RX2) (T := TX2) (N := 3) hx hb hts in_X7_combine_X2 hown hK.1 hP 4 rfl rfl 2 (by decide) (hts (.fieldLink RX7 177 "Nestlimit$Interval" "high" "J") (List.mem_of_getElem? (i := 7) rfl)) (fun _ h9 => h9) rfl dX7_combine_211 ?_
  refine va_mmax_long (rest := [.long (jmax l2 l3), .ref (q 1)]) hx hb (hml.trans hl.1.symm) hown (hts (.methodLink RX7 284 Lib.MathLoose.max_long.x) (List.mem_of_getElem? (i := 8) rfl)) (hts (.static Lib.MathLoose.max_long.x) (List.mem_of_getElem? (i := 9) rfl)) (hts (.initialized "java/lang/Math") (List.mem_of_getElem? (i := 10) rfl)) (hts (.code Lib.MathLoose.max_long.x Lib.MathLoose.max_long.code 4 (some .long)) (List.mem_of_getElem? (i := 11) rfl)) (Nat.le_of_ble_eq_true rfl) (Nat.le_of_ble_eq_true rfl) (Nat.zero_le _) (Nat.zero_le _) dX7_combine_214 ?_
  refine g_topl (y := jmax r2 r3) rfl ?_
  refine g_callv (va_runV (As := [.long (jmax l2 l3), .long (jmax r2 r3)]) (rest := []) ⟨hx, hb, hml, hown, hts⟩ (c_X2_assign l D y s.heap.size (q 1) b1 l1 r1 (jmax l2 l3) (jmax r2 r3)) (cwV 2 hts gX7_combine_X2_assign rfl rfl rfl (by decide +kernel) ⟨Nat.le_of_ble_eq_true rfl, Nat.le_of_ble_eq_true rfl⟩) (gP_V hP hD hK [2] (by decide) rfl 2 rfl rfl) rfl rfl hl.1 rfl (lv_room (Nat.le_of_ble_eq_true rfl)) dX7_combine_217 ⟨Nat.zero_le _, Nat.zero_le _⟩) hP hD hS hA [2] rfl (fun H locs hP hD hS => ?_)
  have hP : va_P D vwCl (wXp y ad h q n true (jmax l2 l3) (jmax r2 r3) b2 l2 r2 b3 l3 r3 uz ul uh f1 g1 f2 g2 pa kd on ot pt fb fl fh tb tl th dg ds) H := hP
  have hD : va_D A (wXp y ad h q n true (jmax l2 l3) (jmax r2 r3) b2 l2 r2 b3 l3 r3 uz ul uh f1 g1 f2 g2 pa kd on ot pt fb fl fh tb tl th dg ds) := hD
  refine lv_goto (tgt := 275) hx hb dX7_combine_220 (by decide) ?_
  refine lv_aload_n hx hb dX7_combine_275 rfl (lv_at hl 0 rfl) ?_
  refine va_get (D := D) (ci := 5) (v := .ref (q 1)) (C := RX7) (T := TX7) (N := 8) hx hb hts in_X7_combine_X7 hown hK.1 hP 0 rfl rfl 2 (by decide) (hts (.fieldLink RX7 22 "Nestlimit" "answer" "LNestlimit$Interval;") (List.mem_of_getElem? (i := 4) rfl)) (fun _ h9 => h9) rfl dX7_combine_276 ?_
  refine lv_iload_n hx hb dX7_combine_279 rfl (lv_at hl 2 rfl) ?_
  refine g_callv (va_runV (As := [.int i]) (rest := []) ⟨hx, hb, hml, hown, hts⟩ (c_X2_dropBeyondReach l D y H.size (q 1) true (jmax l2 l3) (jmax r2 r3) i) (cwV 1 hts gX7_combine_X2_dropBeyondReach rfl rfl rfl (by decide +kernel) ⟨Nat.le_of_ble_eq_true rfl, Nat.le_of_ble_eq_true rfl⟩) (gP_V hP hD hK [2] (by decide) rfl 2 rfl rfl) rfl rfl hl.1 rfl (lv_room (Nat.le_of_ble_eq_true rfl)) dX7_combine_280 ⟨Nat.zero_le _, Nat.zero_le _⟩) hP hD hS hA [2] rfl (fun H locs hP hD hS => ?_)
  have hP : va_P D vwCl (wXp y ad h q n (sp_X2_dropBeyondReach_b0 true (jmax l2 l3) (jmax r2 r3) i) (sp_X2_dropBeyondReach_lo true (jmax l2 l3) (jmax r2 r3) i) (sp_X2_dropBeyondReach_hi true (jmax l2 l3) (jmax r2 r3) i) b2 l2 r2 b3 l3 r3 uz ul uh f1 g1 f2 g2 pa kd on ot pt fb fl fh tb tl th dg ds) H := hP
  have hD : va_D A (wXp y ad h q n (sp_X2_dropBeyondReach_b0 true (jmax l2 l3) (jmax r2 r3) i) (sp_X2_dropBeyondReach_lo true (jmax l2 l3) (jmax r2 r3) i) (sp_X2_dropBeyondReach_hi true (jmax l2 l3) (jmax r2 r3) i) b2 l2 r2 b3 l3 r3 uz ul uh f1 g1 f2 g2 pa kd on ot pt fb fl fh tb tl th dg ds) := hD
  exact W.vret hx hb hr (fun t ht hW => ⟨⟨none, wXp y ad h q n (sp_X2_dropBeyondReach_b0 true (jmax l2 l3) (jmax r2 r3) i) (sp_X2_dropBeyondReach_lo true (jmax l2 l3) (jmax r2 r3) i) (sp_X2_dropBeyondReach_hi true (jmax l2 l3) (jmax r2 r3) i) b2 l2 r2 b3 l3 r3 uz ul uh f1 g1 f2 g2 pa kd on ot pt fb fl fh tb tl th dg ds, rfl, ⟨rfl, rfl⟩, rfl, by rw [ht]; exact hP⟩, by rw [← hAe]; exact hS.F ht⟩) (by rw [← hAe]; exact hS.2.2) dX7_combine_283
def sp_X7_combine_5_b1 (l2 r2 l3 r3 : Int64) (i : Int32) : Bool := sp_X2_dropBeyondReach_b0 (sp_X2_invert_b0 l2 r2 i) (sp_X2_invert_lo l2 r2 i) (sp_X2_invert_hi l2 r2 i) i
def sp_X7_combine_5_l1 (l2 r2 l3 r3 : Int64) (i : Int32) : Int64 := sp_X2_dropBeyondReach_lo (sp_X2_invert_b0 l2 r2 i) (sp_X2_invert_lo l2 r2 i) (sp_X2_invert_hi l2 r2 i) i
def sp_X7_combine_5_r1 (l2 r2 l3 r3 : Int64) (i : Int32) : Int64 := sp_X2_dropBeyondReach_hi (sp_X2_invert_b0 l2 r2 i) (sp_X2_invert_lo l2 r2 i) (sp_X2_invert_hi l2 r2 i) i
set_option maxHeartbeats 4000000 in
set_option maxRecDepth 100000 in
theorem c_X7_combine_5 (l : Launch) (hfl : l.stackTraces = false) (D : va_G) (y : Nat → ClassId) (ad : Nat → Nat) (sz : Nat) (h : Nat) (q : Nat → Nat) (n : Nat) (b1 : Bool) (l1 r1 : Int64) (b2 : Bool) (l2 r2 : Int64) (b3 : Bool) (l3 r3 : Int64) (uz : Nat → Bool) (ul uh : Nat → Int64) (f1 g1 f2 g2 : Int64) (pa : Nat → Nat → Nat) (kd : Nat → Nat) (on ot : Nat → Int32) (pt : Nat → Int64) (fb : Nat → Nat → Bool) (fl fh : Nat → Nat → Int64) (tb : Nat → Nat → Bool) (tl th : Nat → Nat → Int64) (dg : Nat → Int32) (ds : Nat → Int64) (i : Int32) (h2 : b2 = true) (h3 : b3 = true) : Met l yX7_combine wsX7_combine ({ frames := 6, cells := 0, slots := 0, locals := 200 } : Room) (gPX D y ad [.ref h, .ref (ad 5), .int i] (wXp y ad h q n b1 l1 r1 b2 l2 r2 b3 l3 r3 uz ul uh f1 g1 f2 g2 pa kd on ot pt fb fl fh tb tl th dg ds) sz) (gQ D (wXp y ad h q n b1 l1 r1 b2 l2 r2 b3 l3 r3 uz ul uh f1 g1 f2 g2 pa kd on ot pt fb fl fh tb tl th dg ds) (gF none (wXp y ad h q n (sp_X7_combine_5_b1 l2 r2 l3 r3 i) (sp_X7_combine_5_l1 l2 r2 l3 r3 i) (sp_X7_combine_5_r1 l2 r2 l3 r3 i) b2 l2 r2 b3 l3 r3 uz ul uh f1 g1 f2 g2 pa kd on ot pt fb fl fh tb tl th dg ds))) 0 0 (va_A (wXp y ad h q n b1 l1 r1 b2 l2 r2 b3 l3 r3 uz ul uh f1 g1 f2 g2 pa kd on ot pt fb fl fh tb tl th dg ds) sz) := by
  refine Met.ofW (cc := cX7_combine) (maxL := 3) (ret := none) (by decide) rfl ?_
  intro pg e s m args below meth c s₁ B hml hv
  obtain ⟨rfl, hsz, hP, hK, hD0, hE0⟩ := hv
  have hx := B.exec
  have hb := B.bytes
  have hr := B.returns
  have hts := atoms_spec (ws := wsX7_combine) B.pre
  have hown : s.vm.findClass RX7 = some m.cls := findClass_of_methodNamed B.named
  have hlocks := B.notSynchronized
  subst hsz
  obtain ⟨A, hAe⟩ : ∃ A : Nat → Prop, A = va_A (wXp y ad h q n b1 l1 r1 b2 l2 r2 b3 l3 r3 uz ul uh f1 g1 f2 g2 pa kd on ot pt fb fl fh tb tl th dg ds) s.heap.size := ⟨_, rfl⟩
  have hE : gE ad A s s.heap := by rw [hAe]; exact hE0
  have hD : va_D A (wXp y ad h q n b1 l1 r1 b2 l2 r2 b3 l3 r3 uz ul uh f1 g1 f2 g2 pa kd on ot pt fb fl fh tb tl th dg ds) := by rw [hAe]; exact hD0.self (sz := s.heap.size)
  have hA : ∀ q : Nat, s.heap.size ≤ q → A q := fun q h => by rw [hAe]; exact Or.inr h
  have hS : va_S A s.heap s.heap [] := va_S.rf
  have hl := lv_entry ([.ref h, .ref (ad 5), .int i]) (n := 3) (Nat.le_of_ble_eq_true rfl)
  rw [lg_entry_eq]
  generalize (lg_sl ([.ref h, .ref (ad 5), .int i]) ++ List.replicate (3 - (lg_sl ([.ref h, .ref (ad 5), .int i])).length) Slot.unset).toArray = ls at hl ⊢
  have hl : lv_has ls 3 [(0, .ref h), (1, .ref (ad 5)), (2, .int i)] := hl
  refine lv_aload_n hx hb dX7_combine_0 rfl (lv_at hl 0 rfl) ?_
  refine va_get (D := D) (ci := 5) (v := .ref (q 2)) (C := RX7) (T := TX7) (N := 8) hx hb hts in_X7_combine_X7 hown hK.1 hP 0 rfl rfl 3 (by decide) (hts (.fieldLink RX7 26 "Nestlimit" "first" "LNestlimit$Interval;") (List.mem_of_getElem? (i := 1) rfl)) (fun _ h9 => h9) rfl dX7_combine_1 ?_
  refine va_get (D := D) (ci := 1) (v := .int (gB b2)) (C := RX2) (T := TX2) (N := 3) hx hb hts in_X7_combine_X2 hown hK.1 hP 3 rfl rfl 0 (by decide) (hts (.fieldLink RX7 173 "Nestlimit$Interval" "isThere" "Z") (List.mem_of_getElem? (i := 2) rfl)) (fun _ h9 => h9) rfl dX7_combine_4 ?_
  refine g_beq (tgt := 20) hx hb dX7_combine_7 (by decide) (fun c_7 => absurd h2 c_7) (fun c_7 => ?_)
  refine lv_aload_n hx hb dX7_combine_10 rfl (lv_at hl 0 rfl) ?_
  refine va_get (D := D) (ci := 5) (v := .ref (q 3)) (C := RX7) (T := TX7) (N := 8) hx hb hts in_X7_combine_X7 hown hK.1 hP 0 rfl rfl 4 (by decide) (hts (.fieldLink RX7 29 "Nestlimit" "second" "LNestlimit$Interval;") (List.mem_of_getElem? (i := 3) rfl)) (fun _ h9 => h9) rfl dX7_combine_11 ?_
  refine va_get (D := D) (ci := 1) (v := .int (gB b3)) (C := RX2) (T := TX2) (N := 3) hx hb hts in_X7_combine_X2 hown hK.1 hP 4 rfl rfl 0 (by decide) (hts (.fieldLink RX7 173 "Nestlimit$Interval" "isThere" "Z") (List.mem_of_getElem? (i := 2) rfl)) (fun _ h9 => h9) rfl dX7_combine_14 ?_
  refine g_bne (tgt := 28) hx hb dX7_combine_17 (by decide) (fun c_17 => ?_) (fun c_17 => absurd h3 c_17)
  refine va_gets hx hb (hE.2.2.2.2.1.1) hS hown (hts (.fieldLink RX7 270 "Nestlimit$1" "$SwitchMap$Nestlimit$Kind" "[I") (List.mem_of_getElem? (i := 5) rfl)) (fun _ h9 => h9) dX7_combine_28 ?_
  refine lv_aload_n hx hb dX7_combine_31 rfl (lv_at hl 1 rfl) ?_
  refine g_callR (v0 := .int (nI 5)) (va_runU (As := []) (rest := [.ref (ad 10)]) ⟨hx, hb, hml, hown, hts⟩ (c_ordinal l hfl D y ad s.heap.size 5 (by decide)) (va_cwU 0 hts gX7_combine_Jx29ce0_ordinal_8abf5_u276X3 rfl rfl rfl rfl (by decide +kernel) ⟨Nat.le_of_ble_eq_true rfl, Nat.le_of_ble_eq_true rfl⟩) (gPX_O (C := RX3) hK hE hS hA (hE.2.2.2.2.2 5 (by decide)).2.1) rfl rfl hl.1 rfl (lv_room (Nat.le_of_ble_eq_true rfl)) dX7_combine_32 ⟨Nat.zero_le _, Nat.zero_le _⟩) ?_
  refine va_ti (v := .int 5) hx hb (hE.2.2.2.2.1.2) hS (g_sin (k := 5) (by decide)) (by rfl) dX7_combine_35 ?_
  refine g_topi (y := 5) (rfl) ?_
  refine lv_tableIn (off := 187) (tgt := 223) hx hb dX7_combine_36 (by decide) (by decide) rfl (by decide) ?_
  refine lv_aload_n hx hb dX7_combine_223 rfl (lv_at hl 0 rfl) ?_
  refine va_get (D := D) (ci := 5) (v := .ref (q 1)) (C := RX7) (T := TX7) (N := 8) hx hb hts in_X7_combine_X7 hown hK.1 hP 0 rfl rfl 2 (by decide) (hts (.fieldLink RX7 22 "Nestlimit" "answer" "LNestlimit$Interval;") (List.mem_of_getElem? (i := 4) rfl)) (fun _ h9 => h9) rfl dX7_combine_224 ?_
  refine lv_aload_n hx hb dX7_combine_227 rfl (lv_at hl 0 rfl) ?_
  refine va_get (D := D) (ci := 5) (v := .ref (q 2)) (C := RX7) (T := TX7) (N := 8) hx hb hts in_X7_combine_X7 hown hK.1 hP 0 rfl rfl 3 (by decide) (hts (.fieldLink RX7 26 "Nestlimit" "first" "LNestlimit$Interval;") (List.mem_of_getElem? (i := 1) rfl)) (fun _ h9 => h9) rfl dX7_combine_228 ?_
  refine lv_iload_n hx hb dX7_combine_231 rfl (lv_at hl 2 rfl) ?_
  refine g_callv (va_runV (As := [.ref (q 2), .int i]) (rest := []) ⟨hx, hb, hml, hown, hts⟩ (c_X2_invert l D y s.heap.size (q 1) b1 l1 r1 (q 2) b2 l2 r2 i) (cwV 2 hts gX7_combine_X2_invert rfl rfl rfl (by decide +kernel) ⟨Nat.le_of_ble_eq_true rfl, Nat.le_of_ble_eq_true rfl⟩) (gP_V hP hD hK [2, 3] (by decide) rfl 2 rfl rfl) rfl rfl hl.1 rfl (lv_room (Nat.le_of_ble_eq_true rfl)) dX7_combine_232 ⟨Nat.zero_le _, Nat.zero_le _⟩) hP hD hS hA [2, 3] rfl (fun H locs hP hD hS => ?_)
  have hP : va_P D vwCl (wXp y ad h q n (sp_X2_invert_b0 l2 r2 i) (sp_X2_invert_lo l2 r2 i) (sp_X2_invert_hi l2 r2 i) b2 l2 r2 b3 l3 r3 uz ul uh f1 g1 f2 g2 pa kd on ot pt fb fl fh tb tl th dg ds) H := hP
  have hD : va_D A (wXp y ad h q n (sp_X2_invert_b0 l2 r2 i) (sp_X2_invert_lo l2 r2 i) (sp_X2_invert_hi l2 r2 i) b2 l2 r2 b3 l3 r3 uz ul uh f1 g1 f2 g2 pa kd on ot pt fb fl fh tb tl th dg ds) := hD
  refine lv_goto (tgt := 275) hx hb dX7_combine_235 (by decide) ?_
  refine lv_aload_n hx hb dX7_combine_275 rfl (lv_at hl 0 rfl) ?_
  refine va_get (D := D) (ci := 5) (v := .ref (q 1)) (C := RX7) (T := TX7) (N := 8) hx hb hts in_X7_combine_X7 hown hK.1 hP 0 rfl rfl 2 (by decide) (hts (.fieldLink RX7 22 "Nestlimit" "answer" "LNestlimit$Interval;") (List.mem_of_getElem? (i := 4) rfl)) (fun _ h9 => h9) rfl dX7_combine_276 ?_
  refine lv_iload_n hx hb dX7_combine_279 rfl (lv_at hl 2 rfl) ?_
  refine g_callv (va_runV (As := [.int i]) (rest := []) ⟨hx, hb, hml, hown, hts⟩ (c_X2_dropBeyondReach l D y H.size (q 1) (sp_X2_invert_b0 l2 r2 i) (sp_X2_invert_lo l2 r2 i) (sp_X2_invert_hi l2 r2 i) i) (cwV 1 hts gX7_combine_X2_dropBeyondReach rfl rfl rfl (by decide +kernel) ⟨Nat.le_of_ble_eq_true rfl, Nat.le_of_ble_eq_true rfl⟩) (gP_V hP hD hK [2] (by decide) rfl 2 rfl rfl) rfl rfl hl.1 rfl (lv_room (Nat.le_of_ble_eq_true rfl)) dX7_combine_280 ⟨Nat.zero_le _, Nat.zero_le _⟩) hP hD hS hA [2] rfl (fun H locs hP hD hS => ?_)
  have hP : va_P D vwCl (wXp y ad h q n (sp_X2_dropBeyondReach_b0 (sp_X2_invert_b0 l2 r2 i) (sp_X2_invert_lo l2 r2 i) (sp_X2_invert_hi l2 r2 i) i) (sp_X2_dropBeyondReach_lo (sp_X2_invert_b0 l2 r2 i) (sp_X2_invert_lo l2 r2 i) (sp_X2_invert_hi l2 r2 i) i) (sp_X2_dropBeyondReach_hi (sp_X2_invert_b0 l2 r2 i) (sp_X2_invert_lo l2 r2 i) (sp_X2_invert_hi l2 r2 i) i) b2 l2 r2 b3 l3 r3 uz ul uh f1 g1 f2 g2 pa kd on ot pt fb fl fh tb tl th dg ds) H := hP
  have hD : va_D A (wXp y ad h q n (sp_X2_dropBeyondReach_b0 (sp_X2_invert_b0 l2 r2 i) (sp_X2_invert_lo l2 r2 i) (sp_X2_invert_hi l2 r2 i) i) (sp_X2_dropBeyondReach_lo (sp_X2_invert_b0 l2 r2 i) (sp_X2_invert_lo l2 r2 i) (sp_X2_invert_hi l2 r2 i) i) (sp_X2_dropBeyondReach_hi (sp_X2_invert_b0 l2 r2 i) (sp_X2_invert_lo l2 r2 i) (sp_X2_invert_hi l2 r2 i) i) b2 l2 r2 b3 l3 r3 uz ul uh f1 g1 f2 g2 pa kd on ot pt fb fl fh tb tl th dg ds) := hD
  exact W.vret hx hb hr (fun t ht hW => ⟨⟨none, wXp y ad h q n (sp_X2_dropBeyondReach_b0 (sp_X2_invert_b0 l2 r2 i) (sp_X2_invert_lo l2 r2 i) (sp_X2_invert_hi l2 r2 i) i) (sp_X2_dropBeyondReach_lo (sp_X2_invert_b0 l2 r2 i) (sp_X2_invert_lo l2 r2 i) (sp_X2_invert_hi l2 r2 i) i) (sp_X2_dropBeyondReach_hi (sp_X2_invert_b0 l2 r2 i) (sp_X2_invert_lo l2 r2 i) (sp_X2_invert_hi l2 r2 i) i) b2 l2 r2 b3 l3 r3 uz ul uh f1 g1 f2 g2 pa kd on ot pt fb fl fh tb tl th dg ds, rfl, ⟨rfl, rfl⟩, rfl, by rw [ht]; exact hP⟩, by rw [← hAe]; exact hS.F ht⟩) (by rw [← hAe]; exact hS.2.2) dX7_combine_283
def sp_X7_combine_6_b1 (l2 r2 l3 r3 : Int64) (i : Int32) : Bool := sp_X2_dropBeyondReach_b0 true (rtF 31 ((jmax l2 0) * (sp_X7_unitsAt i)) 0) (sp_X7_fillRoot ((jmax r2 0) * (sp_X7_unitsAt i))) i
def sp_X7_combine_6_l1 (l2 r2 l3 r3 : Int64) (i : Int32) : Int64 := sp_X2_dropBeyondReach_lo true (rtF 31 ((jmax l2 0) * (sp_X7_unitsAt i)) 0) (sp_X7_fillRoot ((jmax r2 0) * (sp_X7_unitsAt i))) i
def sp_X7_combine_6_r1 (l2 r2 l3 r3 : Int64) (i : Int32) : Int64 := sp_X2_dropBeyondReach_hi true (rtF 31 ((jmax l2 0) * (sp_X7_unitsAt i)) 0) (sp_X7_fillRoot ((jmax r2 0) * (sp_X7_unitsAt i))) i
set_option maxHeartbeats 4000000 in
set_option maxRecDepth 100000 in
theorem c_X7_combine_6 (l : Launch) (hfl : l.stackTraces = false) (D : va_G) (y : Nat → ClassId) (ad : Nat → Nat) (sz : Nat) (h : Nat) (q : Nat → Nat) (n : Nat) (b1 : Bool) (l1 r1 : Int64) (b2 : Bool) (l2 r2 : Int64) (b3 : Bool) (l3 r3 : Int64) (uz : Nat → Bool) (ul uh : Nat → Int64) (f1 g1 f2 g2 : Int64) (pa : Nat → Nat → Nat) (kd : Nat → Nat) (on ot : Nat → Int32) (pt : Nat → Int64) (fb : Nat → Nat → Bool) (fl fh : Nat → Nat → Int64) (tb : Nat → Nat → Bool) (tl th : Nat → Nat → Int64) (dg : Nat → Int32) (ds : Nat → Int64) (i : Int32) (h2 : b2 = true) (h3 : b3 = true) : Met l yX7_combine wsX7_combine ({ frames := 6, cells := 0, slots := 0, locals := 200 } : Room) (gPX D y ad [.ref h, .ref (ad 6), .int i] (wXp y ad h q n b1 l1 r1 b2 l2 r2 b3 l3 r3 uz ul uh f1 g1 f2 g2 pa kd on ot pt fb fl fh tb tl th dg ds) sz) (gQ D (wXp y ad h q n b1 l1 r1 b2 l2 r2 b3 l3 r3 uz ul uh f1 g1 f2 g2 pa kd on ot pt fb fl fh tb tl th dg ds) (gF none (wXp y ad h q n (sp_X7_combine_6_b1 l2 r2 l3 r3 i) (sp_X7_combine_6_l1 l2 r2 l3 r3 i) (sp_X7_combine_6_r1 l2 r2 l3 r3 i) b2 l2 r2 b3 l3 r3 uz ul uh f1 g1 f2 g2 pa kd on ot pt fb fl fh tb tl th dg ds))) 0 0 (va_A (wXp y ad h q n b1 l1 r1 b2 l2 r2 b3 l3 r3 uz ul uh f1 g1 f2 g2 pa kd on ot pt fb fl fh tb tl th dg ds) sz) := by
  refine Met.ofW (cc := cX7_combine) (maxL := 3) (ret := none) (by decide) rfl ?_
  intro pg e s m args below meth c s₁ B hml hv
  obtain ⟨rfl, hsz, hP, hK, hD0, hE0⟩ := hv
  have hx := B.exec
  have hb := B.bytes
  have hr := B.returns
  have hts := atoms_spec (ws := wsX7_combine) B.pre
  have hown : s.vm.findClass RX7 = some m.cls := findClass_of_methodNamed B.named
  have hlocks := B.notSynchronized
  subst hsz
  obtain ⟨A, hAe⟩ : ∃ A : Nat → Prop, A = va_A (wXp y ad h q n b1 l1 r1 b2 l2 r2 b3 l3 r3 uz ul uh f1 g1 f2 g2 pa kd on ot pt fb fl fh tb tl th dg ds) s.heap.size := ⟨_, rfl⟩
  have hE : gE ad A s s.heap := by rw [hAe]; exact hE0
  have hD : va_D A (wXp y ad h q n b1 l1 r1 b2 l2 r2 b3 l3 r3 uz ul uh f1 g1 f2 g2 pa kd on ot pt fb fl fh tb tl th dg ds) := by rw [hAe]; exact hD0.self (sz := s.heap.size)
  have hA : ∀ q : Nat, s.heap.size ≤ q → A q := fun q h => by rw [hAe]; exact Or.inr h
  have hS : va_S A s.heap s.heap [] := va_S.rf
  have hl := lv_entry ([.ref h, .ref (ad 6), .int i]) (n := 3) (Nat.le_of_ble_eq_true rfl)
  rw [lg_entry_eq]
  generalize (lg_sl ([.ref h, .ref (ad 6), .int i]) ++ List.replicate (3 - (lg_sl ([.ref h, .ref (ad 6), .int i])).length) Slot.unset).toArray = ls at hl ⊢
  have hl : lv_has ls 3 [(0, .ref h), (1, .ref (ad 6)), (2, .int i)] := hl
  refine lv_aload_n hx hb dX7_combine_0 rfl (lv_at hl 0 rfl) ?_
  refine va_get (D := D) (ci := 5) (v := .ref (q 2)) (C := RX7) (T := TX7) (N := 8) hx hb hts in_X7_combine_X7 hown hK.1 hP 0 rfl rfl 3 (by decide) (hts (.fieldLink RX7 26 "Nestlimit" "first" "LNestlimit$Interval;") (List.mem_of_getElem? (i := 1) rfl)) (fun _ h9 => h9) rfl dX7_combine_1 ?_
  refine va_get (D := D) (ci := 1) (v := .int (gB b2)) (C := RX2) (T := TX2) (N := 3) hx hb hts in_X7_combine_X2 hown hK.1 hP 3 rfl rfl 0 (by decide) (hts (.fieldLink RX7 173 "Nestlimit$Interval" "isThere" "Z") (List.mem_of_getElem? (i := 2) rfl)) (fun _ h9 => h9) rfl dX7_combine_4 ?_
  refine g_beq (tgt := 20) hx hb dX7_combine_7 (by decide) (fun c_7 => absurd h2 c_7) (fun c_7 => ?_)
  refine lv_aload_n hx hb dX7_combine_10 rfl (lv_at hl 0 rfl) ?_
  refine va_get (D := D) (ci := 5) (v := .ref (q 3)) (C := RX7) (T := TX7) (N := 8) hx hb hts in_X7_combine_X7 hown hK.1 hP 0 rfl rfl 4 (by decide) (hts (.fieldLink RX7 29 "Nestlimit" "second" "LNestlimit$Interval;") (List.mem_of_getElem? (i := 3) rfl)) (fun _ h9 => h9) rfl dX7_combine_11 ?_
  refine va_get (D := D) (ci := 1) (v := .int (gB b3)) (C := RX2) (T := TX2) (N := 3) hx hb hts in_X7_combine_X2 hown hK.1 hP 4 rfl rfl 0 (by decide) (hts (.fieldLink RX7 173 "Nestlimit$Interval" "isThere" "Z") (List.mem_of_getElem? (i := 2) rfl)) (fun _ h9 => h9) rfl dX7_combine_14 ?_
  refine g_bne (tgt := 28) hx hb dX7_combine_17 (by decide) (fun c_17 => ?_) (fun c_17 => absurd h3 c_17)
  refine va_gets hx hb (hE.2.2.2.2.1.1) hS hown (hts (.fieldLink RX7 270 "Nestlimit$1" "$SwitchMap$Nestlimit$Kind" "[I") (List.mem_of_getElem? (i := 5) rfl)) (fun _ h9 => h9) dX7_combine_28 ?_
  refine lv_aload_n hx hb dX7_combine_31 rfl (lv_at hl 1 rfl) ?_
  refine g_callR (v0 := .int (nI 6)) (va_runU (As := []) (rest := [.ref (ad 10)]) ⟨hx, hb, hml, hown, hts⟩ (c_ordinal l hfl D y ad s.heap.size 6 (by decide)) (va_cwU 0 hts gX7_combine_Jx29ce0_ordinal_8abf5_u276X3 rfl rfl rfl rfl (by decide +kernel) ⟨Nat.le_of_ble_eq_true rfl, Nat.le_of_ble_eq_true rfl⟩) (gPX_O (C := RX3) hK hE hS hA (hE.2.2.2.2.2 6 (by decide)).2.1) rfl rfl hl.1 rfl (lv_room (Nat.le_of_ble_eq_true rfl)) dX7_combine_32 ⟨Nat.zero_le _, Nat.zero_le _⟩) ?_
  refine va_ti (v := .int 6) hx hb (hE.2.2.2.2.1.2) hS (g_sin (k := 6) (by decide)) (by rfl) dX7_combine_35 ?_
  refine g_topi (y := 6) (rfl) ?_
  refine lv_tableIn (off := 202) (tgt := 238) hx hb dX7_combine_36 (by decide) (by decide) rfl (by decide) ?_
  refine lv_aload_n hx hb dX7_combine_238 rfl (lv_at hl 0 rfl) ?_
  refine va_get (D := D) (ci := 5) (v := .ref (q 1)) (C := RX7) (T := TX7) (N := 8) hx hb hts in_X7_combine_X7 hown hK.1 hP 0 rfl rfl 2 (by decide) (hts (.fieldLink RX7 22 "Nestlimit" "answer" "LNestlimit$Interval;") (List.mem_of_getElem? (i := 4) rfl)) (fun _ h9 => h9) rfl dX7_combine_239 ?_
  refine lv_aload_n hx hb dX7_combine_242 rfl (lv_at hl 0 rfl) ?_
  refine va_get (D := D) (ci := 5) (v := .ref (q 2)) (C := RX7) (T := TX7) (N := 8) hx hb hts in_X7_combine_X7 hown hK.1 hP 0 rfl rfl 3 (by decide) (hts (.fieldLink RX7 26 "Nestlimit" "first" "LNestlimit$Interval;") (List.mem_of_getElem? (i := 1) rfl)) (fun _ h9 => h9) rfl dX7_combine_243 ?_
  refine lv_iload_n hx hb dX7_combine_246 rfl (lv_at hl 2 rfl) ?_
  refine g_callv (va_runV (As := [.ref (q 2), .int i]) (rest := []) ⟨hx, hb, hml, hown, hts⟩ (c_X2_takeRoot l D y s.heap.size (q 1) b1 l1 r1 (q 2) b2 l2 r2 i) (cwV 2 hts gX7_combine_X2_takeRoot rfl rfl rfl (by decide +kernel) ⟨Nat.le_of_ble_eq_true rfl, Nat.le_of_ble_eq_true rfl⟩) (gP_V hP hD hK [2, 3] (by decide) rfl 2 rfl rfl) rfl rfl hl.1 rfl (lv_room (Nat.le_of_ble_eq_true rfl)) dX7_combine_247 ⟨Nat.zero_le _, Nat.zero_le _⟩) hP hD hS hA [2, 3] rfl (fun H locs hP hD hS => ?_)
  have hP : va_P D vwCl (wXp y ad h q n true (rtF 31 ((jmax l2 0) * (sp_X7_unitsAt i)) 0) (sp_X7_fillRoot ((jmax r2 0) * (sp_X7_unitsAt i))) b2 l2 r2 b3 l3 r3 uz ul uh f1 g1 f2 g2 pa kd on ot pt fb fl fh tb tl th dg ds) H := hP
  have hD : va_D A (wXp y ad h q n true (rtF 31 ((jmax l2 0) * (sp_X7_unitsAt i)) 0) (sp_X7_fillRoot ((jmax r2 0) * (sp_X7_unitsAt i))) b2 l2 r2 b3 l3 r3 uz ul uh f1 g1 f2 g2 pa kd on ot pt fb fl fh tb tl th dg ds) := hD
  refine lv_goto (tgt := 275) hx hb dX7_combine_250 (by decide) ?_
  refine lv_aload_n hx hb dX7_combine_275 rfl (lv_at hl 0 rfl) ?_
  refine va_get (D := D) (ci := 5) (v := .ref (q 1)) (C := RX7) (T := TX7) (N := 8) hx hb hts in_X7_combine_X7 hown hK.1 hP 0 rfl rfl 2 (by decide) (hts (.fieldLink RX7 22 "Nestlimit" "answer" "LNestlimit$Interval;") (List.mem_of_getElem? (i := 4) rfl)) (fun _ h9 => h9) rfl dX7_combine_276 ?_
  refine lv_iload_n hx hb dX7_combine_279 rfl (lv_at hl 2 rfl) ?_
  refine g_callv (va_runV (As := [.int i]) (rest := []) ⟨hx, hb, hml, hown, hts⟩ (c_X2_dropBeyondReach l D y H.size (q 1) true (rtF 31 ((jmax l2 0) * (sp_X7_unitsAt i)) 0) (sp_X7_fillRoot ((jmax r2 0) * (sp_X7_unitsAt i))) i) (cwV 1 hts gX7_combine_X2_dropBeyondReach rfl rfl rfl (by decide +kernel) ⟨Nat.le_of_ble_eq_true rfl, Nat.le_of_ble_eq_true rfl⟩) (gP_V hP hD hK [2] (by decide) rfl 2 rfl rfl) rfl rfl hl.1 rfl (lv_room (Nat.le_of_ble_eq_true rfl)) dX7_combine_280 ⟨Nat.zero_le _, Nat.zero_le _⟩) hP hD hS hA [2] rfl (fun H locs hP hD hS => ?_)
  have hP : va_P D vwCl (wXp y ad h q n (sp_X2_dropBeyondReach_b0 true (rtF 31 ((jmax l2 0) * (sp_X7_unitsAt i)) 0) (sp_X7_fillRoot ((jmax r2 0) * (sp_X7_unitsAt i))) i) (sp_X2_dropBeyondReach_lo true (rtF 31 ((jmax l2 0) * (sp_X7_unitsAt i)) 0) (sp_X7_fillRoot ((jmax r2 0) * (sp_X7_unitsAt i))) i) (sp_X2_dropBeyondReach_hi true (rtF 31 ((jmax l2 0) * (sp_X7_unitsAt i)) 0) (sp_X7_fillRoot ((jmax r2 0) * (sp_X7_unitsAt i))) i) b2 l2 r2 b3 l3 r3 uz ul uh f1 g1 f2 g2 pa kd on ot pt fb fl fh tb tl th dg ds) H := hP
  have hD : va_D A (wXp y ad h q n (sp_X2_dropBeyondReach_b0 true (rtF 31 ((jmax l2 0) * (sp_X7_unitsAt i)) 0) (sp_X7_fillRoot ((jmax r2 0) * (sp_X7_unitsAt i))) i) (sp_X2_dropBeyondReach_lo true (rtF 31 ((jmax l2 0) * (sp_X7_unitsAt i)) 0) (sp_X7_fillRoot ((jmax r2 0) * (sp_X7_unitsAt i))) i) (sp_X2_dropBeyondReach_hi true (rtF 31 ((jmax l2 0) * (sp_X7_unitsAt i)) 0) (sp_X7_fillRoot ((jmax r2 0) * (sp_X7_unitsAt i))) i) b2 l2 r2 b3 l3 r3 uz ul uh f1 g1 f2 g2 pa kd on ot pt fb fl fh tb tl th dg ds) := hD
  exact W.vret hx hb hr (fun t ht hW => ⟨⟨none, wXp y ad h q n (sp_X2_dropBeyondReach_b0 true (rtF 31 ((jmax l2 0) * (sp_X7_unitsAt i)) 0) (sp_X7_fillRoot ((jmax r2 0) * (sp_X7_unitsAt i))) i) (sp_X2_dropBeyondReach_lo true (rtF 31 ((jmax l2 0) * (sp_X7_unitsAt i)) 0) (sp_X7_fillRoot ((jmax r2 0) * (sp_X7_unitsAt i))) i) (sp_X2_dropBeyondReach_hi true (rtF 31 ((jmax l2 0) * (sp_X7_unitsAt i)) 0) (sp_X7_fillRoot ((jmax r2 0) * (sp_X7_unitsAt i))) i) b2 l2 r2 b3 l3 r3 uz ul uh f1 g1 f2 g2 pa kd on ot pt fb fl fh tb tl th dg ds, rfl, ⟨rfl, rfl⟩, rfl, by rw [ht]; exact hP⟩, by rw [← hAe]; exact hS.F ht⟩) (by rw [← hAe]; exact hS.2.2) dX7_combine_283
def sp_X7_combine_7_b1 (l2 r2 l3 r3 : Int64) (i : Int32) : Bool := sp_X2_dropBeyondReach_b0 (sp_X2_takeExp_b0 l2 r2 i) (sp_X2_takeExp_lo l2 r2 i) (sp_X2_takeExp_hi l2 r2 i) i
def sp_X7_combine_7_l1 (l2 r2 l3 r3 : Int64) (i : Int32) : Int64 := sp_X2_dropBeyondReach_lo (sp_X2_takeExp_b0 l2 r2 i) (sp_X2_takeExp_lo l2 r2 i) (sp_X2_takeExp_hi l2 r2 i) i
def sp_X7_combine_7_r1 (l2 r2 l3 r3 : Int64) (i : Int32) : Int64 := sp_X2_dropBeyondReach_hi (sp_X2_takeExp_b0 l2 r2 i) (sp_X2_takeExp_lo l2 r2 i) (sp_X2_takeExp_hi l2 r2 i) i
set_option maxHeartbeats 4000000 in
set_option maxRecDepth 100000 in
theorem c_X7_combine_7 (l : Launch) (hfl : l.stackTraces = false) (D : va_G) (y : Nat → ClassId) (ad : Nat → Nat) (sz : Nat) (h : Nat) (q : Nat → Nat) (n : Nat) (b1 : Bool) (l1 r1 : Int64) (b2 : Bool) (l2 r2 : Int64) (b3 : Bool) (l3 r3 : Int64) (uz : Nat → Bool) (ul uh : Nat → Int64) (f1 g1 f2 g2 : Int64) (pa : Nat → Nat → Nat) (kd : Nat → Nat) (on ot : Nat → Int32) (pt : Nat → Int64) (fb : Nat → Nat → Bool) (fl fh : Nat → Nat → Int64) (tb : Nat → Nat → Bool) (tl th : Nat → Nat → Int64) (dg : Nat → Int32) (ds : Nat → Int64) (i : Int32) (h2 : b2 = true) (h3 : b3 = true) : Met l yX7_combine wsX7_combine ({ frames := 6, cells := 0, slots := 0, locals := 200 } : Room) (gPX D y ad [.ref h, .ref (ad 7), .int i] (wXp y ad h q n b1 l1 r1 b2 l2 r2 b3 l3 r3 uz ul uh f1 g1 f2 g2 pa kd on ot pt fb fl fh tb tl th dg ds) sz) (gQ D (wXp y ad h q n b1 l1 r1 b2 l2 r2 b3 l3 r3 uz ul uh f1 g1 f2 g2 pa kd on ot pt fb fl fh tb tl th dg ds) (gF none (wXp y ad h q n (sp_X7_combine_7_b1 l2 r2 l3 r3 i) (sp_X7_combine_7_l1 l2 r2 l3 r3 i) (sp_X7_combine_7_r1 l2 r2 l3 r3 i) b2 l2 r2 b3 l3 r3 uz ul uh f1 g1 f2 g2 pa kd on ot pt fb fl fh tb tl th dg ds))) 0 0 (va_A (wXp y ad h q n b1 l1 r1 b2 l2 r2 b3 l3 r3 uz ul uh f1 g1 f2 g2 pa kd on ot pt fb fl fh tb tl th dg ds) sz) := by
  refine Met.ofW (cc := cX7_combine) (maxL := 3) (ret := none) (by decide) rfl ?_
  intro pg e s m args below meth c s₁ B hml hv
  obtain ⟨rfl, hsz, hP, hK, hD0, hE0⟩ := hv
  have hx := B.exec
  have hb := B.bytes
  have hr := B.returns
  have hts := atoms_spec (ws := wsX7_combine) B.pre
  have hown : s.vm.findClass RX7 = some m.cls := findClass_of_methodNamed B.named
  have hlocks := B.notSynchronized
  subst hsz
  obtain ⟨A, hAe⟩ : ∃ A : Nat → Prop, A = va_A (wXp y ad h q n b1 l1 r1 b2 l2 r2 b3 l3 r3 uz ul uh f1 g1 f2 g2 pa kd on ot pt fb fl fh tb tl th dg ds) s.heap.size := ⟨_, rfl⟩
  have hE : gE ad A s s.heap := by rw [hAe]; exact hE0
  have hD : va_D A (wXp y ad h q n b1 l1 r1 b2 l2 r2 b3 l3 r3 uz ul uh f1 g1 f2 g2 pa kd on ot pt fb fl fh tb tl th dg ds) := by rw [hAe]; exact hD0.self (sz := s.heap.size)
  have hA : ∀ q : Nat, s.heap.size ≤ q → A q := fun q h => by rw [hAe]; exact Or.inr h
  have hS : va_S A s.heap s.heap [] := va_S.rf
  have hl := lv_entry ([.ref h, .ref (ad 7), .int i]) (n := 3) (Nat.le_of_ble_eq_true rfl)
  rw [lg_entry_eq]
  generalize (lg_sl ([.ref h, .ref (ad 7), .int i]) ++ List.replicate (3 - (lg_sl ([.ref h, .ref (ad 7), .int i])).length) Slot.unset).toArray = ls at hl ⊢
  have hl : lv_has ls 3 [(0, .ref h), (1, .ref (ad 7)), (2, .int i)] := hl
  refine lv_aload_n hx hb dX7_combine_0 rfl (lv_at hl 0 rfl) ?_
  refine va_get (D := D) (ci := 5) (v := .ref (q 2)) (C := RX7) (T := TX7) (N := 8) hx hb hts in_X7_combine_X7 hown hK.1 hP 0 rfl rfl 3 (by decide) (hts (.fieldLink RX7 26 "Nestlimit" "first" "LNestlimit$Interval;") (List.mem_of_getElem? (i := 1) rfl)) (fun _ h9 => h9) rfl dX7_combine_1 ?_
  refine va_get (D := D) (ci := 1) (v := .int (gB b2)) (C := RX2) (T := TX2) (N := 3) hx hb hts in_X7_combine_X2 hown hK.1 hP 3 rfl rfl 0 (by decide) (hts (.fieldLink RX7 173 "Nestlimit$Interval" "isThere" "Z") (List.mem_of_getElem? (i := 2) rfl)) (fun _ h9 => h9) rfl dX7_combine_4 ?_
  refine g_beq (tgt := 20) hx hb dX7_combine_7 (by decide) (fun c_7 => absurd h2 c_7) (fun c_7 => ?_)
  refine lv_aload_n hx hb dX7_combine_10 rfl (lv_at hl 0 rfl) ?_
  refine va_get (D := D) (ci := 5) (v := .ref (q 3)) (C := RX7) (T := TX7) (N := 8) hx hb hts in_X7_combine_X7 hown hK.1 hP 0 rfl rfl 4 (by decide) (hts (.fieldLink RX7 29 "Nestlimit" "second" "LNestlimit$Interval;") (List.mem_of_getElem? (i := 3) rfl)) (fun _ h9 => h9) rfl dX7_combine_11 ?_
  refine va_get (D := D) (ci := 1) (v := .int (gB b3)) (C := RX2) (T := TX2) (N := 3) hx hb hts in_X7_combine_X2 hown hK.1 hP 4 rfl rfl 0 (by decide) (hts (.fieldLink RX7 173 "Nestlimit$Interval" "isThere" "Z") (List.mem_of_getElem? (i := 2) rfl)) (fun _ h9 => h9) rfl dX7_combine_14 ?_
  refine g_bne (tgt := 28) hx hb dX7_combine_17 (by decide) (fun c_17 => ?_) (fun c_17 => absurd h3 c_17)
  refine va_gets hx hb (hE.2.2.2.2.1.1) hS hown (hts (.fieldLink RX7 270 "Nestlimit$1" "$SwitchMap$Nestlimit$Kind" "[I") (List.mem_of_getElem? (i := 5) rfl)) (fun _ h9 => h9) dX7_combine_28 ?_
  refine lv_aload_n hx hb dX7_combine_31 rfl (lv_at hl 1 rfl) ?_
  refine g_callR (v0 := .int (nI 7)) (va_runU (As := []) (rest := [.ref (ad 10)]) ⟨hx, hb, hml, hown, hts⟩ (c_ordinal l hfl D y ad s.heap.size 7 (by decide)) (va_cwU 0 hts gX7_combine_Jx29ce0_ordinal_8abf5_u276X3 rfl rfl rfl rfl (by decide +kernel) ⟨Nat.le_of_ble_eq_true rfl, Nat.le_of_ble_eq_true rfl⟩) (gPX_O (C := RX3) hK hE hS hA (hE.2.2.2.2.2 7 (by decide)).2.1) rfl rfl hl.1 rfl (lv_room (Nat.le_of_ble_eq_true rfl)) dX7_combine_32 ⟨Nat.zero_le _, Nat.zero_le _⟩) ?_
  refine va_ti (v := .int 7) hx hb (hE.2.2.2.2.1.2) hS (g_sin (k := 7) (by decide)) (by rfl) dX7_combine_35 ?_
  refine g_topi (y := 7) (rfl) ?_
  refine lv_tableIn (off := 217) (tgt := 253) hx hb dX7_combine_36 (by decide) (by decide) rfl (by decide) ?_
  refine lv_aload_n hx hb dX7_combine_253 rfl (lv_at hl 0 rfl) ?_
  refine va_get (D := D) (ci := 5) (v := .ref (q 1)) (C := RX7) (T := TX7) (N := 8) hx hb hts in_X7_combine_X7 hown hK.1 hP 0 rfl rfl 2 (by decide) (hts (.fieldLink RX7 22 "Nestlimit" "answer" "LNestlimit$Interval;") (List.mem_of_getElem? (i := 4) rfl)) (fun _ h9 => h9) rfl dX7_combine_254 ?_
  refine lv_aload_n hx hb dX7_combine_257 rfl (lv_at hl 0 rfl) ?_
  refine va_get (D := D) (ci := 5) (v := .ref (q 2)) (C := RX7) (T := TX7) (N := 8) hx hb hts in_X7_combine_X7 hown hK.1 hP 0 rfl rfl 3 (by decide) (hts (.fieldLink RX7 26 "Nestlimit" "first" "LNestlimit$Interval;") (List.mem_of_getElem? (i := 1) rfl)) (fun _ h9 => h9) rfl dX7_combine_258 ?_
  refine lv_iload_n hx hb dX7_combine_261 rfl (lv_at hl 2 rfl) ?_
  refine g_callv (va_runV (As := [.ref (q 2), .int i]) (rest := []) ⟨hx, hb, hml, hown, hts⟩ (c_X2_takeExp l D y s.heap.size (q 1) b1 l1 r1 (q 2) b2 l2 r2 i) (cwV 2 hts gX7_combine_X2_takeExp rfl rfl rfl (by decide +kernel) ⟨Nat.le_of_ble_eq_true rfl, Nat.le_of_ble_eq_true rfl⟩) (gP_V hP hD hK [2, 3] (by decide) rfl 2 rfl rfl) rfl rfl hl.1 rfl (lv_room (Nat.le_of_ble_eq_true rfl)) dX7_combine_262 ⟨Nat.zero_le _, Nat.zero_le _⟩) hP hD hS hA [2, 3] rfl (fun H locs hP hD hS => ?_)
  have hP : va_P D vwCl (wXp y ad h q n (sp_X2_takeExp_b0 l2 r2 i) (sp_X2_takeExp_lo l2 r2 i) (sp_X2_takeExp_hi l2 r2 i) b2 l2 r2 b3 l3 r3 uz ul uh f1 g1 f2 g2 pa kd on ot pt fb fl fh tb tl th dg ds) H := hP
  have hD : va_D A (wXp y ad h q n (sp_X2_takeExp_b0 l2 r2 i) (sp_X2_takeExp_lo l2 r2 i) (sp_X2_takeExp_hi l2 r2 i) b2 l2 r2 b3 l3 r3 uz ul uh f1 g1 f2 g2 pa kd on ot pt fb fl fh tb tl th dg ds) := hD
  refine lv_goto (tgt := 275) hx hb dX7_combine_265 (by decide) ?_
  refine lv_aload_n hx hb dX7_combine_275 rfl (lv_at hl 0 rfl) ?_
  refine va_get (D := D) (ci := 5) (v := .ref (q 1)) (C := RX7) (T := TX7) (N := 8) hx hb hts in_X7_combine_X7 hown hK.1 hP 0 rfl rfl 2 (by decide) (hts (.fieldLink RX7 22 "Nestlimit" "answer" "LNestlimit$Interval;") (List.mem_of_getElem? (i := 4) rfl)) (fun _ h9 => h9) rfl dX7_combine_276 ?_
  refine lv_iload_n hx hb dX7_combine_279 rfl (lv_at hl 2 rfl) ?_
  refine g_callv (va_runV (As := [.int i]) (rest := []) ⟨hx, hb, hml, hown, hts⟩ (c_X2_dropBeyondReach l D y H.size (q 1) (sp_X2_takeExp_b0 l2 r2 i) (sp_X2_takeExp_lo l2 r2 i) (sp_X2_takeExp_hi l2 r2 i) i) (cwV 1 hts gX7_combine_X2_dropBeyondReach rfl rfl rfl (by decide +kernel) ⟨Nat.le_of_ble_eq_true rfl, Nat.le_of_ble_eq_true rfl⟩) (gP_V hP hD hK [2] (by decide) rfl 2 rfl rfl) rfl rfl hl.1 rfl (lv_room (Nat.le_of_ble_eq_true rfl)) dX7_combine_280 ⟨Nat.zero_le _, Nat.zero_le _⟩) hP hD hS hA [2] rfl (fun H locs hP hD hS => ?_)
  have hP : va_P D vwCl (wXp y ad h q n (sp_X2_dropBeyondReach_b0 (sp_X2_takeExp_b0 l2 r2 i) (sp_X2_takeExp_lo l2 r2 i) (sp_X2_takeExp_hi l2 r2 i) i) (sp_X2_dropBeyondReach_lo (sp_X2_takeExp_b0 l2 r2 i) (sp_X2_takeExp_lo l2 r2 i) (sp_X2_takeExp_hi l2 r2 i) i) (sp_X2_dropBeyondReach_hi (sp_X2_takeExp_b0 l2 r2 i) (sp_X2_takeExp_lo l2 r2 i) (sp_X2_takeExp_hi l2 r2 i) i) b2 l2 r2 b3 l3 r3 uz ul uh f1 g1 f2 g2 pa kd on ot pt fb fl fh tb tl th dg ds) H := hP
  have hD : va_D A (wXp y ad h q n (sp_X2_dropBeyondReach_b0 (sp_X2_takeExp_b0 l2 r2 i) (sp_X2_takeExp_lo l2 r2 i) (sp_X2_takeExp_hi l2 r2 i) i) (sp_X2_dropBeyondReach_lo (sp_X2_takeExp_b0 l2 r2 i) (sp_X2_takeExp_lo l2 r2 i) (sp_X2_takeExp_hi l2 r2 i) i) (sp_X2_dropBeyondReach_hi (sp_X2_takeExp_b0 l2 r2 i) (sp_X2_takeExp_lo l2 r2 i) (sp_X2_takeExp_hi l2 r2 i) i) b2 l2 r2 b3 l3 r3 uz ul uh f1 g1 f2 g2 pa kd on ot pt fb fl fh tb tl th dg ds) := hD
  exact W.vret hx hb hr (fun t ht hW => ⟨⟨none, wXp y ad h q n (sp_X2_dropBeyondReach_b0 (sp_X2_takeExp_b0 l2 r2 i) (sp_X2_takeExp_lo l2 r2 i) (sp_X2_takeExp_hi l2 r2 i) i) (sp_X2_dropBeyondReach_lo (sp_X2_takeExp_b0 l2 r2 i) (sp_X2_takeExp_lo l2 r2 i) (sp_X2_takeExp_hi l2 r2 i) i) (sp_X2_dropBeyondReach_hi (sp_X2_takeExp_b0 l2 r2 i) (sp_X2_takeExp_lo l2 r2 i) (sp_X2_takeExp_hi l2 r2 i) i) b2 l2 r2 b3 l3 r3 uz ul uh f1 g1 f2 g2 pa kd on ot pt fb fl fh tb tl th dg ds, rfl, ⟨rfl, rfl⟩, rfl, by rw [ht]; exact hP⟩, by rw [← hAe]; exact hS.F ht⟩) (by rw [← hAe]; exact hS.2.2) dX7_combine_283
def cmB (d : Nat) (b2 : Bool) (l2 r2 : Int64) (b3 : Bool) (l3 r3 : Int64) (i : Int32) : Bool := if b2 = true then (if b3 = true then (match d with
  | 1 => sp_X7_combine_1_b1 l2 r2 l3 r3 i
  | 2 => sp_X7_combine_2_b1 l2 r2 l3 r3 i
  | 3 => sp_X7_combine_3_b1 l2 r2 l3 r3 i
  | 4 => sp_X7_combine_4_b1 l2 r2 l3 r3 i
  | 5 => sp_X7_combine_5_b1 l2 r2 l3 r3 i
  | 6 => sp_X7_combine_6_b1 l2 r2 l3 r3 i
  | _ => sp_X7_combine_7_b1 l2 r2 l3 r3 i) else false) else false
def cmL (d : Nat) (b2 : Bool) (l2 r2 : Int64) (b3 : Bool) (l3 r3 : Int64) (i : Int32) : Int64 := if b2 = true then (if b3 = true then (match d with
  | 1 => sp_X7_combine_1_l1 l2 r2 l3 r3 i
  | 2 => sp_X7_combine_2_l1 l2 r2 l3 r3 i
  | 3 => sp_X7_combine_3_l1 l2 r2 l3 r3 i
  | 4 => sp_X7_combine_4_l1 l2 r2 l3 r3 i
  | 5 => sp_X7_combine_5_l1 l2 r2 l3 r3 i
  | 6 => sp_X7_combine_6_l1 l2 r2 l3 r3 i
  | _ => sp_X7_combine_7_l1 l2 r2 l3 r3 i) else 0) else 0
def cmR (d : Nat) (b2 : Bool) (l2 r2 : Int64) (b3 : Bool) (l3 r3 : Int64) (i : Int32) : Int64 := if b2 = true then (if b3 = true then (match d with
  | 1 => sp_X7_combine_1_r1 l2 r2 l3 r3 i
  | 2 => sp_X7_combine_2_r1 l2 r2 l3 r3 i
  | 3 => sp_X7_combine_3_r1 l2 r2 l3 r3 i
  | 4 => sp_X7_combine_4_r1 l2 r2 l3 r3 i
  | 5 => sp_X7_combine_5_r1 l2 r2 l3 r3 i
  | 6 => sp_X7_combine_6_r1 l2 r2 l3 r3 i
  | _ => sp_X7_combine_7_r1 l2 r2 l3 r3 i) else 0) else 0
theorem c_X7_combine (l : Launch) (hfl : l.stackTraces = false) (D : va_G) (y : Nat → ClassId) (ad : Nat → Nat) (sz : Nat) (h : Nat) (q : Nat → Nat) (n : Nat) (b1 : Bool) (l1 r1 : Int64) (b2 : Bool) (l2 r2 : Int64) (b3 : Bool) (l3 r3 : Int64) (uz : Nat → Bool) (ul uh : Nat → Int64) (f1 g1 f2 g2 : Int64) (pa : Nat → Nat → Nat) (kd : Nat → Nat) (on ot : Nat → Int32) (pt : Nat → Int64) (fb : Nat → Nat → Bool) (fl fh : Nat → Nat → Int64) (tb : Nat → Nat → Bool) (tl th : Nat → Nat → Int64) (dg : Nat → Int32) (ds : Nat → Int64) (d : Nat) (i : Int32) (hd : 1 ≤ d) (hd7 : d ≤ 7) : Met l yX7_combine wsX7_combine ({ frames := 6, cells := 0, slots := 0, locals := 200 } : Room) (gPX D y ad [.ref h, .ref (ad d), .int i] (wXp y ad h q n b1 l1 r1 b2 l2 r2 b3 l3 r3 uz ul uh f1 g1 f2 g2 pa kd on ot pt fb fl fh tb tl th dg ds) sz) (gQ D (wXp y ad h q n b1 l1 r1 b2 l2 r2 b3 l3 r3 uz ul uh f1 g1 f2 g2 pa kd on ot pt fb fl fh tb tl th dg ds) (gF none (wXp y ad h q n (cmB d b2 l2 r2 b3 l3 r3 i) (cmL d b2 l2 r2 b3 l3 r3 i) (cmR d b2 l2 r2 b3 l3 r3 i) b2 l2 r2 b3 l3 r3 uz ul uh f1 g1 f2 g2 pa kd on ot pt fb fl fh tb tl th dg ds))) 0 0 (va_A (wXp y ad h q n b1 l1 r1 b2 l2 r2 b3 l3 r3 uz ul uh f1 g1 f2 g2 pa kd on ot pt fb fl fh tb tl th dg ds) sz) := by
  by_cases h2 : b2 = true
  · by_cases h3 : b3 = true
    · have hd0 : d = 1 ∨ d = 2 ∨ d = 3 ∨ d = 4 ∨ d = 5 ∨ d = 6 ∨ d = 7 := by omega
      rcases hd0 with rfl | rfl | rfl | rfl | rfl | rfl | rfl
      · have e1 : cmB 1 b2 l2 r2 b3 l3 r3 i = sp_X7_combine_1_b1 l2 r2 l3 r3 i := (if_pos h2).trans (if_pos h3)
        have e2 : cmL 1 b2 l2 r2 b3 l3 r3 i = sp_X7_combine_1_l1 l2 r2 l3 r3 i := (if_pos h2).trans (if_pos h3)
        have e3 : cmR 1 b2 l2 r2 b3 l3 r3 i = sp_X7_combine_1_r1 l2 r2 l3 r3 i := (if_pos h2).trans (if_pos h3)
        rw [e1, e2, e3]
        exact c_X7_combine_1 l hfl D y ad sz h q n b1 l1 r1 b2 l2 r2 b3 l3 r3 uz ul uh f1 g1 f2 g2 pa kd on ot pt fb fl fh tb tl th dg ds i h2 h3
      · have e1 : cmB 2 b2 l2 r2 b3 l3 r3 i = sp_X7_combine_2_b1 l2 r2 l3 r3 i := (if_pos h2).trans (if_pos h3)
        have e2 : cmL 2 b2 l2 r2 b3 l3 r3 i = sp_X7_combine_2_l1 l2 r2 l3 r3 i := (if_pos h2).trans (if_pos h3)
        have e3 : cmR 2 b2 l2 r2 b3 l3 r3 i = sp_X7_combine_2_r1 l2 r2 l3 r3 i := (if_pos h2).trans (if_pos h3)
        rw [e1, e2, e3]
        exact c_X7_combine_2 l hfl D y ad sz h q n b1 l1 r1 b2 l2 r2 b3 l3 r3 uz ul uh f1 g1 f2 g2 pa kd on ot pt fb fl fh tb tl th dg ds i h2 h3
      · have e1 : cmB 3 b2 l2 r2 b3 l3 r3 i = sp_X7_combine_3_b1 l2 r2 l3 r3 i := (if_pos h2).trans (if_pos h3)
        have e2 : cmL 3 b2 l2 r2 b3 l3 r3 i = sp_X7_combine_3_l1 l2 r2 l3 r3 i := (if_pos h2).trans (if_pos h3)
        have e3 : cmR 3 b2 l2 r2 b3 l3 r3 i = sp_X7_combine_3_r1 l2 r2 l3 r3 i := (if_pos h2).trans (if_pos h3)
        rw [e1, e2, e3]
        exact c_X7_combine_3 l hfl D y ad sz h q n b1 l1 r1 b2 l2 r2 b3 l3 r3 uz ul uh f1 g1 f2 g2 pa kd on ot pt fb fl fh tb tl th dg ds i h2 h3
      · have e1 : cmB 4 b2 l2 r2 b3 l3 r3 i = sp_X7_combine_4_b1 l2 r2 l3 r3 i := (if_pos h2).trans (if_pos h3)
        have e2 : cmL 4 b2 l2 r2 b3 l3 r3 i = sp_X7_combine_4_l1 l2 r2 l3 r3 i := (if_pos h2).trans (if_pos h3)
        have e3 : cmR 4 b2 l2 r2 b3 l3 r3 i = sp_X7_combine_4_r1 l2 r2 l3 r3 i := (if_pos h2).trans (if_pos h3)
        rw [e1, e2, e3]
        exact c_X7_combine_4 l hfl D y ad sz h q n b1 l1 r1 b2 l2 r2 b3 l3 r3 uz ul uh f1 g1 f2 g2 pa kd on ot pt fb fl fh tb tl th dg ds i h2 h3
      · have e1 : cmB 5 b2 l2 r2 b3 l3 r3 i = sp_X7_combine_5_b1 l2 r2 l3 r3 i := (if_pos h2).trans (if_pos h3)
        have e2 : cmL 5 b2 l2 r2 b3 l3 r3 i = sp_X7_combine_5_l1 l2 r2 l3 r3 i := (if_pos h2).trans (if_pos h3)
        have e3 : cmR 5 b2 l2 r2 b3 l3 r3 i = sp_X7_combine_5_r1 l2 r2 l3 r3 i := (if_pos h2).trans (if_pos h3)
        rw [e1, e2, e3]
        exact c_X7_combine_5 l hfl D y ad sz h q n b1 l1 r1 b2 l2 r2 b3 l3 r3 uz ul uh f1 g1 f2 g2 pa kd on ot pt fb fl fh tb tl th dg ds i h2 h3
      · have e1 : cmB 6 b2 l2 r2 b3 l3 r3 i = sp_X7_combine_6_b1 l2 r2 l3 r3 i := (if_pos h2).trans (if_pos h3)
        have e2 : cmL 6 b2 l2 r2 b3 l3 r3 i = sp_X7_combine_6_l1 l2 r2 l3 r3 i := (if_pos h2).trans (if_pos h3)
        have e3 : cmR 6 b2 l2 r2 b3 l3 r3 i = sp_X7_combine_6_r1 l2 r2 l3 r3 i := (if_pos h2).trans (if_pos h3)
        rw [e1, e2, e3]
        exact c_X7_combine_6 l hfl D y ad sz h q n b1 l1 r1 b2 l2 r2 b3 l3 r3 uz ul uh f1 g1 f2 g2 pa kd on ot pt fb fl fh tb tl th dg ds i h2 h3
      · have e1 : cmB 7 b2 l2 r2 b3 l3 r3 i = sp_X7_combine_7_b1 l2 r2 l3 r3 i := (if_pos h2).trans (if_pos h3)
        have e2 : cmL 7 b2 l2 r2 b3 l3 r3 i = sp_X7_combine_7_l1 l2 r2 l3 r3 i := (if_pos h2).trans (if_pos h3)
        have e3 : cmR 7 b2 l2 r2 b3 l3 r3 i = sp_X7_combine_7_r1 l2 r2 l3 r3 i := (if_pos h2).trans (if_pos h3)
        rw [e1, e2, e3]
        exact c_X7_combine_7 l hfl D y ad sz h q n b1 l1 r1 b2 l2 r2 b3 l3 r3 uz ul uh f1 g1 f2 g2 pa kd on ot pt fb fl fh tb tl th dg ds i h2 h3
    · have e1 : cmB d b2 l2 r2 b3 l3 r3 i = false := by unfold cmB; rw [if_pos h2, if_neg h3]
      have e2 : cmL d b2 l2 r2 b3 l3 r3 i = 0 := by unfold cmL; rw [if_pos h2, if_neg h3]
      have e3 : cmR d b2 l2 r2 b3 l3 r3 i = 0 := by unfold cmR; rw [if_pos h2, if_neg h3]
      rw [e1, e2, e3]
      exact c_X7_combine_n3 l hfl D y ad sz h q n b1 l1 r1 b2 l2 r2 b3 l3 r3 uz ul uh f1 g1 f2 g2 pa kd on ot pt fb fl fh tb tl th dg ds (ad d) i h2 h3
  · have e1 : cmB d b2 l2 r2 b3 l3 r3 i = false := by unfold cmB; rw [if_neg h2]
    have e2 : cmL d b2 l2 r2 b3 l3 r3 i = 0 := by unfold cmL; rw [if_neg h2]
    have e3 : cmR d b2 l2 r2 b3 l3 r3 i = 0 := by unfold cmR; rw [if_neg h2]
    rw [e1, e2, e3]
    exact c_X7_combine_n2 l hfl D y ad sz h q n b1 l1 r1 b2 l2 r2 b3 l3 r3 uz ul uh f1 g1 f2 g2 pa kd on ot pt fb fl fh tb tl th dg ds (ad d) i h2
theorem in_X7_loadSupposed_X7 : ∀ w ∈ wsX70, w ∈ wsX7_loadSupposed := fun _ h => List.mem_cons_of_mem _ (List.mem_append_left _ (List.mem_append_left _ (List.mem_append_left _ (List.mem_append_left _ (List.mem_append_right _ h)))))
set_option maxHeartbeats 4000000 in
set_option maxRecDepth 100000 in
theorem c_X7_loadSupposed_ay (l : Launch) (hfl : l.stackTraces = false) (D : va_G) (y : Nat → ClassId) (ad : Nat → Nat) (sz : Nat) (h : Nat) (q : Nat → Nat) (n : Nat) (b1 : Bool) (l1 r1 : Int64) (b2 : Bool) (l2 r2 : Int64) (b3 : Bool) (l3 r3 : Int64) (uz : Nat → Bool) (ul uh : Nat → Int64) (f1 g1 f2 g2 : Int64) (pa : Nat → Nat → Nat) (kd : Nat → Nat) (on ot : Nat → Int32) (pt : Nat → Int64) (fb : Nat → Nat → Bool) (fl fh : Nat → Nat → Int64) (tb : Nat → Nat → Bool) (tl th : Nat → Nat → Int64) (dg : Nat → Int32) (ds : Nat → Int64) (k g p : Nat) (hn : n ≤ 40) (hk : k < n) (hp : p < 25) (hmo : sp_X5_isMadeOf (pt k) (nI g) = true) : Met l yX7_loadSupposed wsX7_loadSupposed ({ frames := 6, cells := 0, slots := 0, locals := 100 } : Room) (gPX D y ad [.ref h, .int (nI k), .int (nI g), .int (nI p), .ref (q 1)] (wXp y ad h q n b1 l1 r1 b2 l2 r2 b3 l3 r3 uz ul uh f1 g1 f2 g2 pa kd on ot pt fb fl fh tb tl th dg ds) sz) (gQ D (wXp y ad h q n b1 l1 r1 b2 l2 r2 b3 l3 r3 uz ul uh f1 g1 f2 g2 pa kd on ot pt fb fl fh tb tl th dg ds) (gF none (wXp y ad h q n (sp_X6_load_b1 uz ul uh k) (sp_X6_load_lo1 uz ul uh k) (sp_X6_load_hi1 uz ul uh k) b2 l2 r2 b3 l3 r3 uz ul uh f1 g1 f2 g2 pa kd on ot pt fb fl fh tb tl th dg ds))) 0 0 (va_A (wXp y ad h q n b1 l1 r1 b2 l2 r2 b3 l3 r3 uz ul uh f1 g1 f2 g2 pa kd on ot pt fb fl fh tb tl th dg ds) sz) := by
  refine Met.ofW (cc := cX7_loadSupposed) (maxL := 6) (ret := none) (by decide) rfl ?_
  intro pg e s m args below meth c s₁ B hml hv
  obtain ⟨rfl, hsz, hP, hK, hD0, hE0⟩ := hv
  have hx := B.exec
  have hb := B.bytes
  have hr := B.returns
  have hts := atoms_spec (ws := wsX7_loadSupposed) B.pre
  have hown : s.vm.findClass RX7 = some m.cls := findClass_of_methodNamed B.named
  have hlocks := B.notSynchronized
  subst hsz
  obtain ⟨A, hAe⟩ : ∃ A : Nat → Prop, A = va_A (wXp y ad h q n b1 l1 r1 b2 l2 r2 b3 l3 r3 uz ul uh f1 g1 f2 g2 pa kd on ot pt fb fl fh tb tl th dg ds) s.heap.size := ⟨_, rfl⟩
  have hE : gE ad A s s.heap := by rw [hAe]; exact hE0
  have hD : va_D A (wXp y ad h q n b1 l1 r1 b2 l2 r2 b3 l3 r3 uz ul uh f1 g1 f2 g2 pa kd on ot pt fb fl fh tb tl th dg ds) := by rw [hAe]; exact hD0.self (sz := s.heap.size)
  have hA : ∀ q : Nat, s.heap.size ≤ q → A q := fun q h => by rw [hAe]; exact Or.inr h
  have hS : va_S A s.heap s.heap [] := va_S.rf
  have hl := lv_entry ([.ref h, .int (nI k), .int (nI g), .int (nI p), .ref (q 1)]) (n := 6) (Nat.le_of_ble_eq_true rfl)
  rw [lg_entry_eq]
  generalize (lg_sl ([.ref h, .int (nI k), .int (nI g), .int (nI p), .ref (q 1)]) ++ List.replicate (6 - (lg_sl ([.ref h, .int (nI k), .int (nI g), .int (nI p), .ref (q 1)])).length) Slot.unset).toArray = ls at hl ⊢
  have hl : lv_has ls 6 [(0, .ref h), (1, .int (nI k)), (2, .int (nI g)), (3, .int (nI p)), (4, .ref (q 1))] := hl
  refine lv_aload_n hx hb dX7_loadSupposed_0 rfl (lv_at hl 0 rfl) ?_
  refine lv_iload_n hx hb dX7_loadSupposed_1 rfl (lv_at hl 1 rfl) ?_
  refine g_callR (v0 := .ref (pa k 0)) (va_runV (As := [.int (nI k)]) (rest := []) ⟨hx, hb, hml, hown, hts⟩ (c_X7_existing_0 l hfl D y ad s.heap.size h q n b1 l1 r1 b2 l2 r2 b3 l3 r3 uz ul uh f1 g1 f2 g2 pa kd on ot pt fb fl fh tb tl th dg ds k hn hk) (cwV 1 hts gX7_loadSupposed_X7_existing rfl rfl rfl (by decide +kernel) ⟨Nat.le_of_ble_eq_true rfl, Nat.le_of_ble_eq_true rfl⟩) (gPX_VA hP hD hK hE hS hA 0 rfl rfl) rfl rfl hl.1 rfl (lv_room (Nat.le_of_ble_eq_true rfl)) dX7_loadSupposed_2 ⟨Nat.zero_le _, Nat.zero_le _⟩) ?_
  refine lv_astore (lv' := [(5, .ref (pa k 0)), (0, .ref h), (1, .int (nI k)), (2, .int (nI g)), (3, .int (nI p)), (4, .ref (q 1))]) hx hb dX7_loadSupposed_5 hl (by decide) rfl (fun ls hl => ?_)
  refine lv_aload hx hb dX7_loadSupposed_7 (lv_at hl 0 rfl) ?_
  refine lv_iload_n hx hb dX7_loadSupposed_9 rfl (lv_at hl 3 rfl) ?_
  refine g_callR (v0 := .int (gB (sp_X5_isMadeOf (pt k) (nI g)))) (va_runV (As := [.int (nI g)]) (rest := []) ⟨hx, hb, hml, hown, hts⟩ (c_X5_isMadeOf l D y s.heap.size (pa k 0) (ad (kd k)) (on k) (ot k) (pt k) (pa k 1) (pa k 5) (dg k) (ds k) (nI g)) (cwV 1 hts gX7_loadSupposed_X5_isMadeOf rfl rfl rfl (by decide +kernel) ⟨Nat.le_of_ble_eq_true rfl, Nat.le_of_ble_eq_true rfl⟩) (gP_VI hP hD hK [9 * k + 0 + 11] (by simp <;> omega) (by show [(gPL _ _)[9 * k + 0]?] = _; rw [gPL_at (j := 0) (fun _ => rfl) (by decide) hk]; rfl) 0 rfl rfl) rfl rfl hl.1 rfl (lv_room (Nat.le_of_ble_eq_true rfl)) dX7_loadSupposed_10 ⟨Nat.zero_le _, Nat.zero_le _⟩) ?_
  refine g_beq (tgt := 29) hx hb dX7_loadSupposed_13 (by decide) (fun c_13 => absurd hmo c_13) (fun c_13 => ?_)
  refine lv_aload_n hx hb dX7_loadSupposed_16 rfl (lv_at hl 1 rfl) ?_
  refine va_get (D := D) (ci := 5) (v := .ref (q 4)) (C := RX7) (T := TX7) (N := 8) hx hb hts in_X7_loadSupposed_X7 hown hK.1 hP 0 rfl rfl 5 (by decide) (hts (.fieldLink RX7 37 "Nestlimit" "supposed" "LNestlimit$Row;") (List.mem_of_getElem? (i := 1) rfl)) (fun _ h9 => h9) rfl dX7_loadSupposed_17 ?_
  refine lv_iload_n hx hb dX7_loadSupposed_20 rfl (lv_at hl 2 rfl) ?_
  refine lv_aload hx hb dX7_loadSupposed_21 (lv_at hl 5 rfl) ?_
  refine g_callv (va_runV (As := [.int (nI k), .ref (q 1)]) (rest := []) ⟨hx, hb, hml, hown, hts⟩ (c_X6_load l D y s.heap.size (q 4) (q 5) (q 6) (q 7) 40 uz ul uh (q 1) b1 l1 r1 k (by omega) (by decide)) (cwV 2 hts gX7_loadSupposed_X6_load rfl rfl rfl (by decide +kernel) ⟨Nat.le_of_ble_eq_true rfl, Nat.le_of_ble_eq_true rfl⟩) (gP_V hP hD hK [5, 6, 7, 8, 2] (by decide) rfl 5 rfl rfl) rfl rfl hl.1 rfl (lv_room (Nat.le_of_ble_eq_true rfl)) dX7_loadSupposed_23 ⟨Nat.zero_le _, Nat.zero_le _⟩) hP hD hS hA [5, 6, 7, 8, 2] rfl (fun H locs hP hD hS => ?_)
  have hP : va_P D vwCl (wXp y ad h q n (sp_X6_load_b1 uz ul uh k) (sp_X6_load_lo1 uz ul uh k) (sp_X6_load_hi1 uz ul uh k) b2 l2 r2 b3 l3 r3 uz ul uh f1 g1 f2 g2 pa kd on ot pt fb fl fh tb tl th dg ds) H := hP
  have hD : va_D A (wXp y ad h q n (sp_X6_load_b1 uz ul uh k) (sp_X6_load_lo1 uz ul uh k) (sp_X6_load_hi1 uz ul uh k) b2 l2 r2 b3 l3 r3 uz ul uh f1 g1 f2 g2 pa kd on ot pt fb fl fh tb tl th dg ds) := hD
  refine lv_goto (tgt := 40) hx hb dX7_loadSupposed_26 (by decide) ?_
  exact W.vret hx hb hr (fun t ht hW => ⟨⟨none, wXp y ad h q n (sp_X6_load_b1 uz ul uh k) (sp_X6_load_lo1 uz ul uh k) (sp_X6_load_hi1 uz ul uh k) b2 l2 r2 b3 l3 r3 uz ul uh f1 g1 f2 g2 pa kd on ot pt fb fl fh tb tl th dg ds, rfl, ⟨rfl, rfl⟩, rfl, by rw [ht]; exact hP⟩, by rw [← hAe]; exact hS.F ht⟩) (by rw [← hAe]; exact hS.2.2) dX7_loadSupposed_40
theorem in_X7_loadSupposed_X5 : ∀ w ∈ wsX50, w ∈ wsX7_loadSupposed := fun _ h => List.mem_cons_of_mem _ (List.mem_append_left _ (List.mem_append_left _ (List.mem_append_left _ (List.mem_append_right _ h))))
set_option maxHeartbeats 4000000 in
set_option maxRecDepth 100000 in
theorem c_X7_loadSupposed_an (l : Launch) (hfl : l.stackTraces = false) (D : va_G) (y : Nat → ClassId) (ad : Nat → Nat) (sz : Nat) (h : Nat) (q : Nat → Nat) (n : Nat) (b1 : Bool) (l1 r1 : Int64) (b2 : Bool) (l2 r2 : Int64) (b3 : Bool) (l3 r3 : Int64) (uz : Nat → Bool) (ul uh : Nat → Int64) (f1 g1 f2 g2 : Int64) (pa : Nat → Nat → Nat) (kd : Nat → Nat) (on ot : Nat → Int32) (pt : Nat → Int64) (fb : Nat → Nat → Bool) (fl fh : Nat → Nat → Int64) (tb : Nat → Nat → Bool) (tl th : Nat → Nat → Int64) (dg : Nat → Int32) (ds : Nat → Int64) (k g p : Nat) (hn : n ≤ 40) (hk : k < n) (hp : p < 25) (hmo : ¬ sp_X5_isMadeOf (pt k) (nI g) = true) : Met l yX7_loadSupposed wsX7_loadSupposed ({ frames := 6, cells := 0, slots := 0, locals := 100 } : Room) (gPX D y ad [.ref h, .int (nI k), .int (nI g), .int (nI p), .ref (q 1)] (wXp y ad h q n b1 l1 r1 b2 l2 r2 b3 l3 r3 uz ul uh f1 g1 f2 g2 pa kd on ot pt fb fl fh tb tl th dg ds) sz) (gQ D (wXp y ad h q n b1 l1 r1 b2 l2 r2 b3 l3 r3 uz ul uh f1 g1 f2 g2 pa kd on ot pt fb fl fh tb tl th dg ds) (gF none (wXp y ad h q n (sp_X6_load_b1 (fb k) (fl k) (fh k) p) (sp_X6_load_lo1 (fb k) (fl k) (fh k) p) (sp_X6_load_hi1 (fb k) (fl k) (fh k) p) b2 l2 r2 b3 l3 r3 uz ul uh f1 g1 f2 g2 pa kd on ot pt fb fl fh tb tl th dg ds))) 0 0 (va_A (wXp y ad h q n b1 l1 r1 b2 l2 r2 b3 l3 r3 uz ul uh f1 g1 f2 g2 pa kd on ot pt fb fl fh tb tl th dg ds) sz) := by
  refine Met.ofW (cc := cX7_loadSupposed) (maxL := 6) (ret := none) (by decide) rfl ?_
  intro pg e s m args below meth c s₁ B hml hv
  obtain ⟨rfl, hsz, hP, hK, hD0, hE0⟩ := hv
  have hx := B.exec
  have hb := B.bytes
  have hr := B.returns
  have hts := atoms_spec (ws := wsX7_loadSupposed) B.pre
  have hown : s.vm.findClass RX7 = some m.cls := findClass_of_methodNamed B.named
  have hlocks := B.notSynchronized
  subst hsz
  obtain ⟨A, hAe⟩ : ∃ A : Nat → Prop, A = va_A (wXp y ad h q n b1 l1 r1 b2 l2 r2 b3 l3 r3 uz ul uh f1 g1 f2 g2 pa kd on ot pt fb fl fh tb tl th dg ds) s.heap.size := ⟨_, rfl⟩
  have hE : gE ad A s s.heap := by rw [hAe]; exact hE0
  have hD : va_D A (wXp y ad h q n b1 l1 r1 b2 l2 r2 b3 l3 r3 uz ul uh f1 g1 f2 g2 pa kd on ot pt fb fl fh tb tl th dg ds) := by rw [hAe]; exact hD0.self (sz := s.heap.size)
  have hA : ∀ q : Nat, s.heap.size ≤ q → A q := fun q h => by rw [hAe]; exact Or.inr h
  have hS : va_S A s.heap s.heap [] := va_S.rf
  have hl := lv_entry ([.ref h, .int (nI k), .int (nI g), .int (nI p), .ref (q 1)]) (n := 6) (Nat.le_of_ble_eq_true rfl)
  rw [lg_entry_eq]
  generalize (lg_sl ([.ref h, .int (nI k), .int (nI g), .int (nI p), .ref (q 1)]) ++ List.replicate (6 - (lg_sl ([.ref h, .int (nI k), .int (nI g), .int (nI p), .ref (q 1)])).length) Slot.unset).toArray = ls at hl ⊢
  have hl : lv_has ls 6 [(0, .ref h), (1, .int (nI k)), (2, .int (nI g)), (3, .int (nI p)), (4, .ref (q 1))] := hl
  refine lv_aload_n hx hb dX7_loadSupposed_0 rfl (lv_at hl 0 rfl) ?_
  refine lv_iload_n hx hb dX7_loadSupposed_1 rfl (lv_at hl 1 rfl) ?_
  refine g_callR (v0 := .ref (pa k 0)) (va_runV (As := [.int (nI k)]) (rest := []) ⟨hx, hb, hml, hown, hts⟩ (c_X7_existing_0 l hfl D y ad s.heap.size h q n b1 l1 r1 b2 l2 r2 b3 l3 r3 uz ul uh f1 g1 f2 g2 pa kd on ot pt fb fl fh tb tl th dg ds k hn hk) (cwV 1 hts gX7_loadSupposed_X7_existing rfl rfl rfl (by decide +kernel) ⟨Nat.le_of_ble_eq_true rfl, Nat.le_of_ble_eq_true rfl⟩) (gPX_VA hP hD hK hE hS hA 0 rfl rfl) rfl rfl hl.1 rfl (lv_room (Nat.le_of_ble_eq_true rfl)) dX7_loadSupposed_2 ⟨Nat.zero_le _, Nat.zero_le _⟩) ?_
  refine lv_astore (lv' := [(5, .ref (pa k 0)), (0, .ref h), (1, .int (nI k)), (2, .int (nI g)), (3, .int (nI p)), (4, .ref (q 1))]) hx hb dX7_loadSupposed_5 hl (by decide) rfl (fun ls hl => ?_)
  refine lv_aload hx hb dX7_loadSupposed_7 (lv_at hl 0 rfl) ?_
  refine lv_iload_n hx hb dX7_loadSupposed_9 rfl (lv_at hl 3 rfl) ?_
  refine g_callR (v0 := .int (gB (sp_X5_isMadeOf (pt k) (nI g)))) (va_runV (As := [.int (nI g)]) (rest := []) ⟨hx, hb, hml, hown, hts⟩ (c_X5_isMadeOf l D y s.heap.size (pa k 0) (ad (kd k)) (on k) (ot k) (pt k) (pa k 1) (pa k 5) (dg k) (ds k) (nI g)) (cwV 1 hts gX7_loadSupposed_X5_isMadeOf rfl rfl rfl (by decide +kernel) ⟨Nat.le_of_ble_eq_true rfl, Nat.le_of_ble_eq_true rfl⟩) (gP_VI hP hD hK [9 * k + 0 + 11] (by simp <;> omega) (by show [(gPL _ _)[9 * k + 0]?] = _; rw [gPL_at (j := 0) (fun _ => rfl) (by decide) hk]; rfl) 0 rfl rfl) rfl rfl hl.1 rfl (lv_room (Nat.le_of_ble_eq_true rfl)) dX7_loadSupposed_10 ⟨Nat.zero_le _, Nat.zero_le _⟩) ?_
  refine g_beq (tgt := 29) hx hb dX7_loadSupposed_13 (by decide) (fun c_13 => ?_) (fun c_13 => absurd c_13 hmo)
  refine lv_aload hx hb dX7_loadSupposed_29 (lv_at hl 0 rfl) ?_
  refine va_get (D := D) (ci := 3) (v := .ref (pa k 1)) (C := RX5) (T := TX5) (N := 8) hx hb hts in_X7_loadSupposed_X5 hown hK.1 hP (9 * k + 0 + 11) (gPL_at (j := 0) (fun _ => rfl) (by decide) hk) rfl 4 (by decide) (hts (.fieldLink RX7 89 "Nestlimit$Program" "found" "LNestlimit$Row;") (List.mem_of_getElem? (i := 2) rfl)) (fun _ h9 => h9) rfl dX7_loadSupposed_31 ?_
  refine lv_iload_n hx hb dX7_loadSupposed_34 rfl (lv_at hl 4 rfl) ?_
  refine lv_aload hx hb dX7_loadSupposed_35 (lv_at hl 5 rfl) ?_
  refine g_callW (wc := [((pa k 1), .inr (4, [.ref (pa k 2), .ref (pa k 3), .ref (pa k 4)])), ((pa k 2), .inl (y 2, 25, .inl (gZ (fb k)))), ((pa k 3), .inl (y 1, 25, .inr (.inl (fl k)))), ((pa k 4), .inl (y 1, 25, .inr (.inl (fh k)))), ((q 1), .inr (1, [.int (gB b1), .long l1, .long r1]))]) (b := (q 1)) (e0 := .inr (1, [.int (gB b1), .long l1, .long r1])) (e1 := .inr (1, [.int (gB (sp_X6_load_b1 (fb k) (fl k) (fh k) p)), .long (sp_X6_load_lo1 (fb k) (fl k) (fh k) p), .long (sp_X6_load_hi1 (fb k) (fl k) (fh k) p)])) (v0 := none) (fun w0 hw0 => by subst hw0; exact (va_runV (As := [.int (nI p), .ref (q 1)]) (rest := []) ⟨hx, hb, hml, hown, hts⟩ (c_X6_load l D y s.heap.size (pa k 1) (pa k 2) (pa k 3) (pa k 4) 25 (fb k) (fl k) (fh k) (q 1) b1 l1 r1 p (by omega) (by decide)) (cwV 2 hts gX7_loadSupposed_X6_load rfl rfl rfl (by decide +kernel) ⟨Nat.le_of_ble_eq_true rfl, Nat.le_of_ble_eq_true rfl⟩) (gP_VI hP hD hK [9 * k + 1 + 11, 9 * k + 2 + 11, 9 * k + 3 + 11, 9 * k + 4 + 11, 2] (by simp <;> omega) (by show [(gPL _ _)[9 * k + 1]?, (gPL _ _)[9 * k + 2]?, (gPL _ _)[9 * k + 3]?, (gPL _ _)[9 * k + 4]?, some _] = _; rw [gPL_at (j := 1) (fun _ => rfl) (by decide) hk, gPL_at (j := 2) (fun _ => rfl) (by decide) hk, gPL_at (j := 3) (fun _ => rfl) (by decide) hk, gPL_at (j := 4) (fun _ => rfl) (by decide) hk]; rfl) 0 rfl rfl) rfl rfl hl.1 rfl (lv_room (Nat.le_of_ble_eq_true rfl)) dX7_loadSupposed_37 ⟨Nat.zero_le _, Nat.zero_le _⟩)) hP hD hS hA [9 * k + 1 + 11, 9 * k + 2 + 11, 9 * k + 3 + 11, 9 * k + 4 + 11, 2] (by show [(gPL _ _)[9 * k + 1]?, (gPL _ _)[9 * k + 2]?, (gPL _ _)[9 * k + 3]?, (gPL _ _)[9 * k + 4]?, some _] = _; rw [gPL_at (j := 1) (fun _ => rfl) (by decide) hk, gPL_at (j := 2) (fun _ => rfl) (by decide) hk, gPL_at (j := 3) (fun _ => rfl) (by decide) hk, gPL_at (j := 4) (fun _ => rfl) (by decide) hk]; rfl) 2 rfl ⟨[((pa k 1), .inr (4, [.ref (pa k 2), .ref (pa k 3), .ref (pa k 4)])), ((pa k 2), .inl (y 2, 25, .inl (gZ (fb k)))), ((pa k 3), .inl (y 1, 25, .inr (.inl (fl k)))), ((pa k 4), .inl (y 1, 25, .inr (.inl (fh k))))], rfl⟩ (fun H locs hP hD hS => ?_)
  have hP : va_P D vwCl (wXp y ad h q n (sp_X6_load_b1 (fb k) (fl k) (fh k) p) (sp_X6_load_lo1 (fb k) (fl k) (fh k) p) (sp_X6_load_hi1 (fb k) (fl k) (fh k) p) b2 l2 r2 b3 l3 r3 uz ul uh f1 g1 f2 g2 pa kd on ot pt fb fl fh tb tl th dg ds) H := hP
  have hD : va_D A (wXp y ad h q n (sp_X6_load_b1 (fb k) (fl k) (fh k) p) (sp_X6_load_lo1 (fb k) (fl k) (fh k) p) (sp_X6_load_hi1 (fb k) (fl k) (fh k) p) b2 l2 r2 b3 l3 r3 uz ul uh f1 g1 f2 g2 pa kd on ot pt fb fl fh tb tl th dg ds) := hD
  exact W.vret hx hb hr (fun t ht hW => ⟨⟨none, wXp y ad h q n (sp_X6_load_b1 (fb k) (fl k) (fh k) p) (sp_X6_load_lo1 (fb k) (fl k) (fh k) p) (sp_X6_load_hi1 (fb k) (fl k) (fh k) p) b2 l2 r2 b3 l3 r3 uz ul uh f1 g1 f2 g2 pa kd on ot pt fb fl fh tb tl th dg ds, rfl, ⟨rfl, rfl⟩, rfl, by rw [ht]; exact hP⟩, by rw [← hAe]; exact hS.F ht⟩) (by rw [← hAe]; exact hS.2.2) dX7_loadSupposed_40
set_option maxHeartbeats 4000000 in
set_option maxRecDepth 100000 in
theorem c_X7_loadSupposed_fy (l : Launch) (hfl : l.stackTraces = false) (D : va_G) (y : Nat → ClassId) (ad : Nat → Nat) (sz : Nat) (h : Nat) (q : Nat → Nat) (n : Nat) (b1 : Bool) (l1 r1 : Int64) (b2 : Bool) (l2 r2 : Int64) (b3 : Bool) (l3 r3 : Int64) (uz : Nat → Bool) (ul uh : Nat → Int64) (f1 g1 f2 g2 : Int64) (pa : Nat → Nat → Nat) (kd : Nat → Nat) (on ot : Nat → Int32) (pt : Nat → Int64) (fb : Nat → Nat → Bool) (fl fh : Nat → Nat → Int64) (tb : Nat → Nat → Bool) (tl th : Nat → Nat → Int64) (dg : Nat → Int32) (ds : Nat → Int64) (k g p : Nat) (hn : n ≤ 40) (hk : k < n) (hp : p < 25) (hmo : sp_X5_isMadeOf (pt k) (nI g) = true) : Met l yX7_loadSupposed wsX7_loadSupposed ({ frames := 6, cells := 0, slots := 0, locals := 100 } : Room) (gPX D y ad [.ref h, .int (nI k), .int (nI g), .int (nI p), .ref (q 2)] (wXp y ad h q n b1 l1 r1 b2 l2 r2 b3 l3 r3 uz ul uh f1 g1 f2 g2 pa kd on ot pt fb fl fh tb tl th dg ds) sz) (gQ D (wXp y ad h q n b1 l1 r1 b2 l2 r2 b3 l3 r3 uz ul uh f1 g1 f2 g2 pa kd on ot pt fb fl fh tb tl th dg ds) (gF none (wXp y ad h q n b1 l1 r1 (sp_X6_load_b1 uz ul uh k) (sp_X6_load_lo1 uz ul uh k) (sp_X6_load_hi1 uz ul uh k) b3 l3 r3 uz ul uh f1 g1 f2 g2 pa kd on ot pt fb fl fh tb tl th dg ds))) 0 0 (va_A (wXp y ad h q n b1 l1 r1 b2 l2 r2 b3 l3 r3 uz ul uh f1 g1 f2 g2 pa kd on ot pt fb fl fh tb tl th dg ds) sz) := by
  refine Met.ofW (cc := cX7_loadSupposed) (maxL := 6) (ret := none) (by decide) rfl ?_
  intro pg e s m args below meth c s₁ B hml hv
  obtain ⟨rfl, hsz, hP, hK, hD0, hE0⟩ := hv
  have hx := B.exec
  have hb := B.bytes
  have hr := B.returns
  have hts := atoms_spec (ws := wsX7_loadSupposed) B.pre
  have hown : s.vm.findClass RX7 = some m.cls := findClass_of_methodNamed B.named
  have hlocks := B.notSynchronized
  subst hsz
  obtain ⟨A, hAe⟩ : ∃ A : Nat → Prop, A = va_A (wXp y ad h q n b1 l1 r1 b2 l2 r2 b3 l3 r3 uz ul uh f1 g1 f2 g2 pa kd on ot pt fb fl fh tb tl th dg ds) s.heap.size := ⟨_, rfl⟩
  have hE : gE ad A s s.heap := by rw [hAe]; exact hE0
  have hD : va_D A (wXp y ad h q n b1 l1 r1 b2 l2 r2 b3 l3 r3 uz ul uh f1 g1 f2 g2 pa kd on ot pt fb fl fh tb tl th dg ds) := by rw [hAe]; exact hD0.self (sz := s.heap.size)
  have hA : ∀ q : Nat, s.heap.size ≤ q → A q := fun q h => by rw [hAe]; exact Or.inr h
  have hS : va_S A s.heap s.heap [] := va_S.rf
  have hl := lv_entry ([.ref h, .int (nI k), .int (nI g), .int (nI p), .ref (q 2)]) (n := 6) (Nat.le_of_ble_eq_true rfl)
  rw [lg_entry_eq]
  generalize (lg_sl ([.ref h, .int (nI k), .int (nI g), .int (nI p), .ref (q 2)]) ++ List.replicate (6 - (lg_sl ([.ref h, .int (nI k), .int (nI g), .int (nI p), .ref (q 2)])).length) Slot.unset).toArray = ls at hl ⊢
  have hl : lv_has ls 6 [(0, .ref h), (1, .int (nI k)), (2, .int (nI g)), (3, .int (nI p)), (4, .ref (q 2))] := hl
  refine lv_aload_n hx hb dX7_loadSupposed_0 rfl (lv_at hl 0 rfl) ?_
  refine lv_iload_n hx hb dX7_loadSupposed_1 rfl (lv_at hl 1 rfl) ?_
  refine g_callR (v0 := .ref (pa k 0)) (va_runV (As := [.int (nI k)]) (rest := []) ⟨hx, hb, hml, hown, hts⟩ (c_X7_existing_0 l hfl D y ad s.heap.size h q n b1 l1 r1 b2 l2 r2 b3 l3 r3 uz ul uh f1 g1 f2 g2 pa kd on ot pt fb fl fh tb tl th dg ds k hn hk) (cwV 1 hts gX7_loadSupposed_X7_existing rfl rfl rfl (by decide +kernel) ⟨Nat.le_of_ble_eq_true rfl, Nat.le_of_ble_eq_true rfl⟩) (gPX_VA hP hD hK hE hS hA 0 rfl rfl) rfl rfl hl.1 rfl (lv_room (Nat.le_of_ble_eq_true rfl)) dX7_loadSupposed_2 ⟨Nat.zero_le _, Nat.zero_le _⟩) ?_
  refine lv_astore (lv' := [(5, .ref (pa k 0)), (0, .ref h), (1, .int (nI k)), (2, .int (nI g)), (3, .int (nI p)), (4, .ref (q 2))]) hx hb dX7_loadSupposed_5 hl (by decide) rfl (fun ls hl => ?_)
  refine lv_aload hx hb dX7_loadSupposed_7 (lv_at hl 0 rfl) ?_
  refine lv_iload_n hx hb dX7_loadSupposed_9 rfl (lv_at hl 3 rfl) ?_
  refine g_callR (v0 := .int (gB (sp_X5_isMadeOf (pt k) (nI g)))) (va_runV (As := [.int (nI g)]) (rest := []) ⟨hx, hb, hml, hown, hts⟩ (c_X5_isMadeOf l D y s.heap.size (pa k 0) (ad (kd k)) (on k) (ot k) (pt k) (pa k 1) (pa k 5) (dg k) (ds k) (nI g)) (cwV 1 hts gX7_loadSupposed_X5_isMadeOf rfl rfl rfl (by decide +kernel) ⟨Nat.le_of_ble_eq_true rfl, Nat.le_of_ble_eq_true rfl⟩) (gP_VI hP hD hK [9 * k + 0 + 11] (by simp <;> omega) (by show [(gPL _ _)[9 * k + 0]?] = _; rw [gPL_at (j := 0) (fun _ => rfl) (by decide) hk]; rfl) 0 rfl rfl) rfl rfl hl.1 rfl (lv_room (Nat.le_of_ble_eq_true rfl)) dX7_loadSupposed_10 ⟨Nat.zero_le _, Nat.zero_le _⟩) ?_
  refine g_beq (tgt := 29) hx hb dX7_loadSupposed_13 (by decide) (fun c_13 => absurd hmo c_13) (fun c_13 => ?_)
  refine lv_aload_n hx hb dX7_loadSupposed_16 rfl (lv_at hl 1 rfl) ?_
  refine va_get (D := D) (ci := 5) (v := .ref (q 4)) (C := RX7) (T := TX7) (N := 8) hx hb hts in_X7_loadSupposed_X7 hown hK.1 hP 0 rfl rfl 5 (by decide) (hts (.fieldLink RX7 37 "Nestlimit" "supposed" "LNestlimit$Row;") (List.mem_of_getElem? (i := 1) rfl)) (fun _ h9 => h9) rfl dX7_loadSupposed_17 ?_
  refine lv_iload_n hx hb dX7_loadSupposed_20 rfl (lv_at hl 2 rfl) ?_
  refine lv_aload hx hb dX7_loadSupposed_21 (lv_at hl 5 rfl) ?_
  refine g_callv (va_runV (As := [.int (nI k), .ref (q 2)]) (rest := []) ⟨hx, hb, hml, hown, hts⟩ (c_X6_load l D y s.heap.size (q 4) (q 5) (q 6) (q 7) 40 uz ul uh (q 2) b2 l2 r2 k (by omega) (by decide)) (cwV 2 hts gX7_loadSupposed_X6_load rfl rfl rfl (by decide +kernel) ⟨Nat.le_of_ble_eq_true rfl, Nat.le_of_ble_eq_true rfl⟩) (gP_V hP hD hK [5, 6, 7, 8, 3] (by decide) rfl 5 rfl rfl) rfl rfl hl.1 rfl (lv_room (Nat.le_of_ble_eq_true rfl)) dX7_loadSupposed_23 ⟨Nat.zero_le _, Nat.zero_le _⟩) hP hD hS hA [5, 6, 7, 8, 3] rfl (fun H locs hP hD hS => ?_)
  have hP : va_P D vwCl (wXp y ad h q n b1 l1 r1 (sp_X6_load_b1 uz ul uh k) (sp_X6_load_lo1 uz ul uh k) (sp_X6_load_hi1 uz ul uh k) b3 l3 r3 uz ul uh f1 g1 f2 g2 pa kd on ot pt fb fl fh tb tl th dg ds) H := hP
  have hD : va_D A (wXp y ad h q n b1 l1 r1 (sp_X6_load_b1 uz ul uh k) (sp_X6_load_lo1 uz ul uh k) (sp_X6_load_hi1 uz ul uh k) b3 l3 r3 uz ul uh f1 g1 f2 g2 pa kd on ot pt fb fl fh tb tl th dg ds) := hD
  refine lv_goto (tgt := 40) hx hb dX7_loadSupposed_26 (by decide) ?_
  exact W.vret hx hb hr (fun t ht hW => ⟨⟨none, wXp y ad h q n b1 l1 r1 (sp_X6_load_b1 uz ul uh k) (sp_X6_load_lo1 uz ul uh k) (sp_X6_load_hi1 uz ul uh k) b3 l3 r3 uz ul uh f1 g1 f2 g2 pa kd on ot pt fb fl fh tb tl th dg ds, rfl, ⟨rfl, rfl⟩, rfl, by rw [ht]; exact hP⟩, by rw [← hAe]; exact hS.F ht⟩) (by rw [← hAe]; exact hS.2.2) dX7_loadSupposed_40
set_option maxHeartbeats 4000000 in
set_option maxRecDepth 100000 in
theorem c_X7_loadSupposed_fn (l : Launch) (hfl : l.stackTraces = false) (D : va_G) (y : Nat → ClassId) (ad : Nat → Nat) (sz : Nat) (h : Nat) (q : Nat → Nat) (n : Nat) (b1 : Bool) (l1 r1 : Int64) (b2 : Bool) (l2 r2 : Int64) (b3 : Bool) (l3 r3 : Int64) (uz : Nat → Bool) (ul uh : Nat → Int64) (f1 g1 f2 g2 : Int64) (pa : Nat → Nat → Nat) (kd : Nat → Nat) (on ot : Nat → Int32) (pt : Nat → Int64) (fb : Nat → Nat → Bool) (fl fh : Nat → Nat → Int64) (tb : Nat → Nat → Bool) (tl th : Nat → Nat → Int64) (dg : Nat → Int32) (ds : Nat → Int64) (k g p : Nat) (hn : n ≤ 40) (hk : k < n) (hp : p < 25) (hmo : ¬ sp_X5_isMadeOf (pt k) (nI g) = true) : Met l yX7_loadSupposed wsX7_loadSupposed ({ frames := 6, cells := 0, slots := 0, locals := 100 } : Room) (gPX D y ad [.ref h, .int (nI k), .int (nI g), .int (nI p), .ref (q 2)] (wXp y ad h q n b1 l1 r1 b2 l2 r2 b3 l3 r3 uz ul uh f1 g1 f2 g2 pa kd on ot pt fb fl fh tb tl th dg ds) sz) (gQ D (wXp y ad h q n b1 l1 r1 b2 l2 r2 b3 l3 r3 uz ul uh f1 g1 f2 g2 pa kd on ot pt fb fl fh tb tl th dg ds) (gF none (wXp y ad h q n b1 l1 r1 (sp_X6_load_b1 (fb k) (fl k) (fh k) p) (sp_X6_load_lo1 (fb k) (fl k) (fh k) p) (sp_X6_load_hi1 (fb k) (fl k) (fh k) p) b3 l3 r3 uz ul uh f1 g1 f2 g2 pa kd on ot pt fb fl fh tb tl th dg ds))) 0 0 (va_A (wXp y ad h q n b1 l1 r1 b2 l2 r2 b3 l3 r3 uz ul uh f1 g1 f2 g2 pa kd on ot pt fb fl fh tb tl th dg ds) sz) := by
  refine Met.ofW (cc := cX7_loadSupposed) (maxL := 6) (ret := none) (by decide) rfl ?_
  intro pg e s m args below meth c s₁ B hml hv
  obtain ⟨rfl, hsz, hP, hK, hD0, hE0⟩ := hv
  have hx := B.exec
  have hb := B.bytes
  have hr := B.returns
  have hts := atoms_spec (ws := wsX7_loadSupposed) B.pre
  have hown : s.vm.findClass RX7 = some m.cls := findClass_of_methodNamed B.named
  have hlocks := B.notSynchronized
  subst hsz
  obtain ⟨A, hAe⟩ : ∃ A : Nat → Prop, A = va_A (wXp y ad h q n b1 l1 r1 b2 l2 r2 b3 l3 r3 uz ul uh f1 g1 f2 g2 pa kd on ot pt fb fl fh tb tl th dg ds) s.heap.size := ⟨_, rfl⟩
  have hE : gE ad A s s.heap := by rw [hAe]; exact hE0
  have hD : va_D A (wXp y ad h q n b1 l1 r1 b2 l2 r2 b3 l3 r3 uz ul uh f1 g1 f2 g2 pa kd on ot pt fb fl fh tb tl th dg ds) := by rw [hAe]; exact hD0.self (sz := s.heap.size)
  have hA : ∀ q : Nat, s.heap.size ≤ q → A q := fun q h => by rw [hAe]; exact Or.inr h
  have hS : va_S A s.heap s.heap [] := va_S.rf
  have hl := lv_entry ([.ref h, .int (nI k), .int (nI g), .int (nI p), .ref (q 2)]) (n := 6) (Nat.le_of_ble_eq_true rfl)
  rw [lg_entry_eq]
  generalize (lg_sl ([.ref h, .int (nI k), .int (nI g), .int (nI p), .ref (q 2)]) ++ List.replicate (6 - (lg_sl ([.ref h, .int (nI k), .int (nI g), .int (nI p), .ref (q 2)])).length) Slot.unset).toArray = ls at hl ⊢
  have hl : lv_has ls 6 [(0, .ref h), (1, .int (nI k)), (2, .int (nI g)), (3, .int (nI p)), (4, .ref (q 2))] := hl
  refine lv_aload_n hx hb dX7_loadSupposed_0 rfl (lv_at hl 0 rfl) ?_
  refine lv_iload_n hx hb dX7_loadSupposed_1 rfl (lv_at hl 1 rfl) ?_
  refine g_callR (v0 := .ref (pa k 0)) (va_runV (As := [.int (nI k)]) (rest := []) ⟨hx, hb, hml, hown, hts⟩ (c_X7_existing_0 l hfl D y ad s.heap.size h q n b1 l1 r1 b2 l2 r2 b3 l3 r3 uz ul uh f1 g1 f2 g2 pa kd on ot pt fb fl fh tb tl th dg ds k hn hk) (cwV 1 hts gX7_loadSupposed_X7_existing rfl rfl rfl (by decide +kernel) ⟨Nat.le_of_ble_eq_true rfl, Nat.le_of_ble_eq_true rfl⟩) (gPX_VA hP hD hK hE hS hA 0 rfl rfl) rfl rfl hl.1 rfl (lv_room (Nat.le_of_ble_eq_true rfl)) dX7_loadSupposed_2 ⟨Nat.zero_le _, Nat.zero_le _⟩) ?_
  refine lv_astore (lv' := [(5, .ref (pa k 0)), (0, .ref h), (1, .int (nI k)), (2, .int (nI g)), (3, .int (nI p)), (4, .ref (q 2))]) hx hb dX7_loadSupposed_5 hl (by decide) rfl (fun ls hl => ?_)
  refine lv_aload hx hb dX7_loadSupposed_7 (lv_at hl 0 rfl) ?_
  refine lv_iload_n hx hb dX7_loadSupposed_9 rfl (lv_at hl 3 rfl) ?_
  refine g_callR (v0 := .int (gB (sp_X5_isMadeOf (pt k) (nI g)))) (va_runV (As := [.int (nI g)]) (rest := []) ⟨hx, hb, hml, hown, hts⟩ (c_X5_isMadeOf l D y s.heap.size (pa k 0) (ad (kd k)) (on k) (ot k) (pt k) (pa k 1) (pa k 5) (dg k) (ds k) (nI g)) (cwV 1 hts gX7_loadSupposed_X5_isMadeOf rfl rfl rfl (by decide +kernel) ⟨Nat.le_of_ble_eq_true rfl, Nat.le_of_ble_eq_true rfl⟩) (gP_VI hP hD hK [9 * k + 0 + 11] (by simp <;> omega) (by show [(gPL _ _)[9 * k + 0]?] = _; rw [gPL_at (j := 0) (fun _ => rfl) (by decide) hk]; rfl) 0 rfl rfl) rfl rfl hl.1 rfl (lv_room (Nat.le_of_ble_eq_true rfl)) dX7_loadSupposed_10 ⟨Nat.zero_le _, Nat.zero_le _⟩) ?_
  refine g_beq (tgt := 29) hx hb dX7_loadSupposed_13 (by decide) (fun c_13 => ?_) (fun c_13 => absurd c_13 hmo)
  refine lv_aload hx hb dX7_loadSupposed_29 (lv_at hl 0 rfl) ?_
  refine va_get (D := D) (ci := 3) (v := .ref (pa k 1)) (C := RX5) (T := TX5) (N := 8) hx hb hts in_X7_loadSupposed_X5 hown hK.1 hP (9 * k + 0 + 11) (gPL_at (j := 0) (fun _ => rfl) (by decide) hk) rfl 4 (by decide) (hts (.fieldLink RX7 89 "Nestlimit$Program" "found" "LNestlimit$Row;") (List.mem_of_getElem? (i := 2) rfl)) (fun _ h9 => h9) rfl dX7_loadSupposed_31 ?_
  refine lv_iload_n hx hb dX7_loadSupposed_34 rfl (lv_at hl 4 rfl) ?_
  refine lv_aload hx hb dX7_loadSupposed_35 (lv_at hl 5 rfl) ?_
  refine g_callW (wc := [((pa k 1), .inr (4, [.ref (pa k 2), .ref (pa k 3), .ref (pa k 4)])), ((pa k 2), .inl (y 2, 25, .inl (gZ (fb k)))), ((pa k 3), .inl (y 1, 25, .inr (.inl (fl k)))), ((pa k 4), .inl (y 1, 25, .inr (.inl (fh k)))), ((q 2), .inr (1, [.int (gB b2), .long l2, .long r2]))]) (b := (q 2)) (e0 := .inr (1, [.int (gB b2), .long l2, .long r2])) (e1 := .inr (1, [.int (gB (sp_X6_load_b1 (fb k) (fl k) (fh k) p)), .long (sp_X6_load_lo1 (fb k) (fl k) (fh k) p), .long (sp_X6_load_hi1 (fb k) (fl k) (fh k) p)])) (v0 := none) (fun w0 hw0 => by subst hw0; exact (va_runV (As := [.int (nI p), .ref (q 2)]) (rest := []) ⟨hx, hb, hml, hown, hts⟩ (c_X6_load l D y s.heap.size (pa k 1) (pa k 2) (pa k 3) (pa k 4) 25 (fb k) (fl k) (fh k) (q 2) b2 l2 r2 p (by omega) (by decide)) (cwV 2 hts gX7_loadSupposed_X6_load rfl rfl rfl (by decide +kernel) ⟨Nat.le_of_ble_eq_true rfl, Nat.le_of_ble_eq_true rfl⟩) (gP_VI hP hD hK [9 * k + 1 + 11, 9 * k + 2 + 11, 9 * k + 3 + 11, 9 * k + 4 + 11, 3] (by simp <;> omega) (by show [(gPL _ _)[9 * k + 1]?, (gPL _ _)[9 * k + 2]?, (gPL _ _)[9 * k + 3]?, (gPL _ _)[9 * k + 4]?, some _] = _; rw [gPL_at (j := 1) (fun _ => rfl) (by decide) hk, gPL_at (j := 2) (fun _ => rfl) (by decide) hk, gPL_at (j := 3) (fun _ => rfl) (by decide) hk, gPL_at (j := 4) (fun _ => rfl) (by decide) hk]; rfl) 0 rfl rfl) rfl rfl hl.1 rfl (lv_room (Nat.le_of_ble_eq_true rfl)) dX7_loadSupposed_37 ⟨Nat.zero_le _, Nat.zero_le _⟩)) hP hD hS hA [9 * k + 1 + 11, 9 * k + 2 + 11, 9 * k + 3 + 11, 9 * k + 4 + 11, 3] (by show [(gPL _ _)[9 * k + 1]?, (gPL _ _)[9 * k + 2]?, (gPL _ _)[9 * k + 3]?, (gPL _ _)[9 * k + 4]?, some _] = _; rw [gPL_at (j := 1) (fun _ => rfl) (by decide) hk, gPL_at (j := 2) (fun _ => rfl) (by decide) hk, gPL_at (j := 3) (fun _ => rfl) (by decide) hk, gPL_at (j := 4) (fun _ => rfl) (by decide) hk]; rfl) 3 rfl ⟨[((pa k 1), .inr (4, [.ref (pa k 2), .ref (pa k 3), .ref (pa k 4)])), ((pa k 2), .inl (y 2, 25, .inl (gZ (fb k)))), ((pa k 3), .inl (y 1, 25, .inr (.inl (fl k)))), ((pa k 4), .inl (y 1, 25, .inr (.inl (fh k))))], rfl⟩ (fun H locs hP hD hS => ?_)
  have hP : va_P D vwCl (wXp y ad h q n b1 l1 r1 (sp_X6_load_b1 (fb k) (fl k) (fh k) p) (sp_X6_load_lo1 (fb k) (fl k) (fh k) p) (sp_X6_load_hi1 (fb k) (fl k) (fh k) p) b3 l3 r3 uz ul uh f1 g1 f2 g2 pa kd on ot pt fb fl fh tb tl th dg ds) H := hP
  have hD : va_D A (wXp y ad h q n b1 l1 r1 (sp_X6_load_b1 (fb k) (fl k) (fh k) p) (sp_X6_load_lo1 (fb k) (fl k) (fh k) p) (sp_X6_load_hi1 (fb k) (fl k) (fh k) p) b3 l3 r3 uz ul uh f1 g1 f2 g2 pa kd on ot pt fb fl fh tb tl th dg ds) := hD
  exact W.vret hx hb hr (fun t ht hW => ⟨⟨none, wXp y ad h q n b1 l1 r1 (sp_X6_load_b1 (fb k) (fl k) (fh k) p) (sp_X6_load_lo1 (fb k) (fl k) (fh k) p) (sp_X6_load_hi1 (fb k) (fl k) (fh k) p) b3 l3 r3 uz ul uh f1 g1 f2 g2 pa kd on ot pt fb fl fh tb tl th dg ds, rfl, ⟨rfl, rfl⟩, rfl, by rw [ht]; exact hP⟩, by rw [← hAe]; exact hS.F ht⟩) (by rw [← hAe]; exact hS.2.2) dX7_loadSupposed_40
set_option maxHeartbeats 4000000 in
set_option maxRecDepth 100000 in
theorem c_X7_loadSupposed_sy (l : Launch) (hfl : l.stackTraces = false) (D : va_G) (y : Nat → ClassId) (ad : Nat → Nat) (sz : Nat) (h : Nat) (q : Nat → Nat) (n : Nat) (b1 : Bool) (l1 r1 : Int64) (b2 : Bool) (l2 r2 : Int64) (b3 : Bool) (l3 r3 : Int64) (uz : Nat → Bool) (ul uh : Nat → Int64) (f1 g1 f2 g2 : Int64) (pa : Nat → Nat → Nat) (kd : Nat → Nat) (on ot : Nat → Int32) (pt : Nat → Int64) (fb : Nat → Nat → Bool) (fl fh : Nat → Nat → Int64) (tb : Nat → Nat → Bool) (tl th : Nat → Nat → Int64) (dg : Nat → Int32) (ds : Nat → Int64) (k g p : Nat) (hn : n ≤ 40) (hk : k < n) (hp : p < 25) (hmo : sp_X5_isMadeOf (pt k) (nI g) = true) : Met l yX7_loadSupposed wsX7_loadSupposed ({ frames := 6, cells := 0, slots := 0, locals := 100 } : Room) (gPX D y ad [.ref h, .int (nI k), .int (nI g), .int (nI p), .ref (q 3)] (wXp y ad h q n b1 l1 r1 b2 l2 r2 b3 l3 r3 uz ul uh f1 g1 f2 g2 pa kd on ot pt fb fl fh tb tl th dg ds) sz) (gQ D (wXp y ad h q n b1 l1 r1 b2 l2 r2 b3 l3 r3 uz ul uh f1 g1 f2 g2 pa kd on ot pt fb fl fh tb tl th dg ds) (gF none (wXp y ad h q n b1 l1 r1 b2 l2 r2 (sp_X6_load_b1 uz ul uh k) (sp_X6_load_lo1 uz ul uh k) (sp_X6_load_hi1 uz ul uh k) uz ul uh f1 g1 f2 g2 pa kd on ot pt fb fl fh tb tl th dg ds))) 0 0 (va_A (wXp y ad h q n b1 l1 r1 b2 l2 r2 b3 l3 r3 uz ul uh f1 g1 f2 g2 pa kd on ot pt fb fl fh tb tl th dg ds) sz) := by
  refine Met.ofW (cc := cX7_loadSupposed) (maxL := 6) (ret := none) (by decide) rfl ?_
  intro pg e s m args below meth c s₁ B hml hv
  obtain ⟨rfl, hsz, hP, hK, hD0, hE0⟩ := hv
  have hx := B.exec
  have hb := B.bytes
  have hr := B.returns
  have hts := atoms_spec (ws := wsX7_loadSupposed) B.pre
  have hown : s.vm.findClass RX7 = some m.cls := findClass_of_methodNamed B.named
  have hlocks := B.notSynchronized
  subst hsz
  obtain ⟨A, hAe⟩ : ∃ A : Nat → Prop, A = va_A (wXp y ad h q n b1 l1 r1 b2 l2 r2 b3 l3 r3 uz ul uh f1 g1 f2 g2 pa kd on ot pt fb fl fh tb tl th dg ds) s.heap.size := ⟨_, rfl⟩
  have hE : gE ad A s s.heap := by rw [hAe]; exact hE0
  have hD : va_D A (wXp y ad h q n b1 l1 r1 b2 l2 r2 b3 l3 r3 uz ul uh f1 g1 f2 g2 pa kd on ot pt fb fl fh tb tl th dg ds) := by rw [hAe]; exact hD0.self (sz := s.heap.size)
  have hA : ∀ q : Nat, s.heap.size ≤ q → A q := fun q h => by rw [hAe]; exact Or.inr h
  have hS : va_S A s.heap s.heap [] := va_S.rf
  have hl := lv_entry ([.ref h, .int (nI k), .int (nI g), .int (nI p), .ref (q 3)]) (n := 6) (Nat.le_of_ble_eq_true rfl)
  rw [lg_entry_eq]
  generalize (lg_sl ([.ref h, .int (nI k), .int (nI g), .int (nI p), .ref (q 3)]) ++ List.replicate (6 - (lg_sl ([.ref h, .int (nI k), .int (nI g), .int (nI p), .ref (q 3)])).length) Slot.unset).toArray = ls at hl ⊢
  have hl : lv_has ls 6 [(0, .ref h), (1, .int (nI k)), (2, .int (nI g)), (3, .int (nI p)), (4, .ref (q 3))] := hl
  refine lv_aload_n hx hb dX7_loadSupposed_0 rfl (lv_at hl 0 rfl) ?_
  refine lv_iload_n hx hb dX7_loadSupposed_1 rfl (lv_at hl 1 rfl) ?_
  refine g_callR (v0 := .ref (pa k 0)) (va_runV (As := [.int (nI k)]) (rest := []) ⟨hx, hb, hml, hown, hts⟩ (c_X7_existing_0 l hfl D y ad s.heap.size h q n b1 l1 r1 b2 l2 r2 b3 l3 r3 uz ul uh f1 g1 f2 g2 pa kd on ot pt fb fl fh tb tl th dg ds k hn hk) (cwV 1 hts gX7_loadSupposed_X7_existing rfl rfl rfl (by decide +kernel) ⟨Nat.le_of_ble_eq_true rfl, Nat.le_of_ble_eq_true rfl⟩) (gPX_VA hP hD hK hE hS hA 0 rfl rfl) rfl rfl hl.1 rfl (lv_room (Nat.le_of_ble_eq_true rfl)) dX7_loadSupposed_2 ⟨Nat.zero_le _, Nat.zero_le _⟩) ?_
  refine lv_astore (lv' := [(5, .ref (pa k 0)), (0, .ref h), (1, .int (nI k)), (2, .int (nI g)), (3, .int (nI p)), (4, .ref (q 3))]) hx hb dX7_loadSupposed_5 hl (by decide) rfl (fun ls hl => ?_)
  refine lv_aload hx hb dX7_loadSupposed_7 (lv_at hl 0 rfl) ?_
  refine lv_iload_n hx hb dX7_loadSupposed_9 rfl (lv_at hl 3 rfl) ?_
  refine g_callR (v0 := .int (gB (sp_X5_isMadeOf (pt k) (nI g)))) (va_runV (As := [.int (nI g)]) (rest := []) ⟨hx, hb, hml, hown, hts⟩ (c_X5_isMadeOf l D y s.heap.size (pa k 0) (ad (kd k)) (on k) (ot k) (pt k) (pa k 1) (pa k 5) (dg k) (ds k) (nI g)) (cwV 1 hts gX7_loadSupposed_X5_isMadeOf rfl rfl rfl (by decide +kernel) ⟨Nat.le_of_ble_eq_true rfl, Nat.le_of_ble_eq_true rfl⟩) (gP_VI hP hD hK [9 * k + 0 + 11] (by simp <;> omega) (by show [(gPL _ _)[9 * k + 0]?] = _; rw [gPL_at (j := 0) (fun _ => rfl) (by decide) hk]; rfl) 0 rfl rfl) rfl rfl hl.1 rfl (lv_room (Nat.le_of_ble_eq_true rfl)) dX7_loadSupposed_10 ⟨Nat.zero_le _, Nat.zero_le _⟩) ?_
  refine g_beq (tgt := 29) hx hb dX7_loadSupposed_13 (by decide) (fun c_13 => absurd hmo c_13) (fun c_13 => ?_)
  refine lv_aload_n hx hb dX7_loadSupposed_16 rfl (lv_at hl 1 rfl) ?_
  refine va_get (D := D) (ci := 5) (v := .ref (q 4)) (C := RX7) (T := TX7) (N := 8) hx hb hts in_X7_loadSupposed_X7 hown hK.1 hP 0 rfl rfl 5 (by decide) (hts (.fieldLink RX7 37 "Nestlimit" "supposed" "LNestlimit$Row;") (List.mem_of_getElem? (i := 1) rfl)) (fun _ h9 => h9) rfl dX7_loadSupposed_17 ?_
  refine lv_iload_n hx hb dX7_loadSupposed_20 rfl (lv_at hl 2 rfl) ?_
  refine lv_aload hx hb dX7_loadSupposed_21 (lv_at hl 5 rfl) ?_
  refine g_callv (va_runV (As := [.int (nI k), .ref (q 3)]) (rest := []) ⟨hx, hb, hml, hown, hts⟩ (c_X6_load l D y s.heap.size (q 4) (q 5) (q 6) (q 7) 40 uz ul uh (q 3) b3 l3 r3 k (by omega) (by decide)) (cwV 2 hts gX7_loadSupposed_X6_load rfl rfl rfl (by decide +kernel) ⟨Nat.le_of_ble_eq_true rfl, Nat.le_of_ble_eq_true rfl⟩) (gP_V hP hD hK [5, 6, 7, 8, 4] (by decide) rfl 5 rfl rfl) rfl rfl hl.1 rfl (lv_room (Nat.le_of_ble_eq_true rfl)) dX7_loadSupposed_23 ⟨Nat.zero_le _, Nat.zero_le _⟩) hP hD hS hA [5, 6, 7, 8, 4] rfl (fun H locs hP hD hS => ?_)
  have hP : va_P D vwCl (wXp y ad h q n b1 l1 r1 b2 l2 r2 (sp_X6_load_b1 uz ul uh k) (sp_X6_load_lo1 uz ul uh k) (sp_X6_load_hi1 uz ul uh k) uz ul uh f1 g1 f2 g2 pa kd on ot pt fb fl fh tb tl th dg ds) H := hP
  have hD : va_D A (wXp y ad h q n b1 l1 r1 b2 l2 r2 (sp_X6_load_b1 uz ul uh k) (sp_X6_load_lo1 uz ul uh k) (sp_X6_load_hi1 uz ul uh k) uz ul uh f1 g1 f2 g2 pa kd on ot pt fb fl fh tb tl th dg ds) := hD
  refine lv_goto (tgt := 40) hx hb dX7_loadSupposed_26 (by decide) ?_
  exact W.vret hx hb hr (fun t ht hW => ⟨⟨none, wXp y ad h q n b1 l1 r1 b2 l2 r2 (sp_X6_load_b1 uz ul uh k) (sp_X6_load_lo1 uz ul uh k) (sp_X6_load_hi1 uz ul uh k) uz ul uh f1 g1 f2 g2 pa kd on ot pt fb fl fh tb tl th dg ds, rfl, ⟨rfl, rfl⟩, rfl, by rw [ht]; exact hP⟩, by rw [← hAe]; exact hS.F ht⟩) (by rw [← hAe]; exact hS.2.2) dX7_loadSupposed_40
set_option maxHeartbeats 4000000 in
set_option maxRecDepth 100000 in
theorem c_X7_loadSupposed_sn (l : Launch) (hfl : l.stackTraces = false) (D : va_G) (y : Nat → ClassId) (ad : Nat → Nat) (sz : Nat) (h : Nat) (q : Nat → Nat) (n : Nat) (b1 : Bool) (l1 r1 : Int64) (b2 : Bool) (l2 r2 : Int64) (b3 : Bool) (l3 r3 : Int64) (uz : Nat → Bool) (ul uh : Nat → Int64) (f1 g1 f2 g2 : Int64) (pa : Nat → Nat → Nat) (kd : Nat → Nat) (on ot : Nat → Int32) (pt : Nat → Int64) (fb : Nat → Nat → Bool) (fl fh : Nat → Nat → Int64) (tb : Nat → Nat → Bool) (tl th : Nat → Nat → Int64) (dg : Nat → Int32) (ds : Nat → Int64) (k g p : Nat) (hn : n ≤ 40) (hk : k < n) (hp : p < 25) (hmo : ¬ sp_X5_isMadeOf (pt k) (nI g) = true) : Met l yX7_loadSupposed wsX7_loadSupposed ({ frames := 6, cells := 0, slots := 0, locals := 100 } : Room) (gPX D y ad [.ref h, .int (nI k), .int (nI g), .int (nI p), .ref (q 3)] (wXp y ad h q n b1 l1 r1 b2 l2 r2 b3 l3 r3 uz ul uh f1 g1 f2 g2 pa kd on ot pt fb fl fh tb tl th dg ds) sz) (gQ D (wXp y ad h q n b1 l1 r1 b2 l2 r2 b3 l3 r3 uz ul uh f1 g1 f2 g2 pa kd on ot pt fb fl fh tb tl th dg ds) (gF none (wXp y ad h q n b1 l1 r1 b2 l2 r2 (sp_X6_load_b1 (fb k) (fl k) (fh k) p) (sp_X6_load_lo1 (fb k) (fl k) (fh k) p) (sp_X6_load_hi1 (fb k) (fl k) (fh k) p) uz ul uh f1 g1 f2 g2 pa kd on ot pt fb fl fh tb tl th dg ds))) 0 0 (va_A (wXp y ad h q n b1 l1 r1 b2 l2 r2 b3 l3 r3 uz ul uh f1 g1 f2 g2 pa kd on ot pt fb fl fh tb tl th dg ds) sz) := by
  refine Met.ofW (cc := cX7_loadSupposed) (maxL := 6) (ret := none) (by decide) rfl ?_
  intro pg e s m args below meth c s₁ B hml hv
  obtain ⟨rfl, hsz, hP, hK, hD0, hE0⟩ := hv
  have hx := B.exec
  have hb := B.bytes
  have hr := B.returns
  have hts := atoms_spec (ws := wsX7_loadSupposed) B.pre
  have hown : s.vm.findClass RX7 = some m.cls := findClass_of_methodNamed B.named
  have hlocks := B.notSynchronized
  subst hsz
  obtain ⟨A, hAe⟩ : ∃ A : Nat → Prop, A = va_A (wXp y ad h q n b1 l1 r1 b2 l2 r2 b3 l3 r3 uz ul uh f1 g1 f2 g2 pa kd on ot pt fb fl fh tb tl th dg ds) s.heap.size := ⟨_, rfl⟩
  have hE : gE ad A s s.heap := by rw [hAe]; exact hE0
  have hD : va_D A (wXp y ad h q n b1 l1 r1 b2 l2 r2 b3 l3 r3 uz ul uh f1 g1 f2 g2 pa kd on ot pt fb fl fh tb tl th dg ds) := by rw [hAe]; exact hD0.self (sz := s.heap.size)
  have hA : ∀ q : Nat, s.heap.size ≤ q → A q := fun q h => by rw [hAe]; exact Or.inr h
  have hS : va_S A s.heap s.heap [] := va_S.rf
  have hl := lv_entry ([.ref h, .int (nI k), .int (nI g), .int (nI p), .ref (q 3)]) (n := 6) (Nat.le_of_ble_eq_true rfl)
  rw [lg_entry_eq]
  generalize (lg_sl ([.ref h, .int (nI k), .int (nI g), .int (nI p), .ref (q 3)]) ++ List.replicate (6 - (lg_sl ([.ref h, .int (nI k), .int (nI g), .int (nI p), .ref (q 3)])).length) Slot.unset).toArray = ls at hl ⊢
  have hl : lv_has ls 6 [(0, .ref h), (1, .int (nI k)), (2, .int (nI g)), (3, .int (nI p)), (4, .ref (q 3))] := hl
  refine lv_aload_n hx hb dX7_loadSupposed_0 rfl (lv_at hl 0 rfl) ?_
  refine lv_iload_n hx hb dX7_loadSupposed_1 rfl (lv_at hl 1 rfl) ?_
  refine g_callR (v0 := .ref (pa k 0)) (va_runV (As := [.int (nI k)]) (rest := []) ⟨hx, hb, hml, hown, hts⟩ (c_X7_existing_0 l hfl D y ad s.heap.size h q n b1 l1 r1 b2 l2 r2 b3 l3 r3 uz ul uh f1 g1 f2 g2 pa kd on ot pt fb fl fh tb tl th dg ds k hn hk) (cwV 1 hts gX7_loadSupposed_X7_existing rfl rfl rfl (by decide +kernel) ⟨Nat.le_of_ble_eq_true rfl, Nat.le_of_ble_eq_true rfl⟩) (gPX_VA hP hD hK hE hS hA 0 rfl rfl) rfl rfl hl.1 rfl (lv_room (Nat.le_of_ble_eq_true rfl)) dX7_loadSupposed_2 ⟨Nat.zero_le _, Nat.zero_le _⟩) ?_
  refine lv_astore (lv' := [(5, .ref (pa k 0)), (0, .ref h), (1, .int (nI k)), (2, .int (nI g)), (3, .int (nI p)), (4, .ref (q 3))]) hx hb dX7_loadSupposed_5 hl (by decide) rfl (fun ls hl => ?_)
  refine lv_aload hx hb dX7_loadSupposed_7 (lv_at hl 0 rfl) ?_
  refine lv_iload_n hx hb dX7_loadSupposed_9 rfl (lv_at hl 3 rfl) ?_
  refine g_callR (v0 := .int (gB (sp_X5_isMadeOf (pt k) (nI g)))) (va_runV (As := [.int (nI g)]) (rest := []) ⟨hx, hb, hml, hown, hts⟩ (c_X5_isMadeOf l D y s.heap.size (pa k 0) (ad (kd k)) (on k) (ot k) (pt k) (pa k 1) (pa k 5) (dg k) (ds k) (nI g)) (cwV 1 hts gX7_loadSupposed_X5_isMadeOf rfl rfl rfl (by decide +kernel) ⟨Nat.le_of_ble_eq_true rfl, Nat.le_of_ble_eq_true rfl⟩) (gP_VI hP hD hK [9 * k + 0 + 11] (by simp <;> omega) (by show [(gPL _ _)[9 * k + 0]?] = _; rw [gPL_at (j := 0) (fun _ => rfl) (by decide) hk]; rfl) 0 rfl rfl) rfl rfl hl.1 rfl (lv_room (Nat.le_of_ble_eq_true rfl)) dX7_loadSupposed_10 ⟨Nat.zero_le _, Nat.zero_le _⟩) ?_
  refine g_beq (tgt := 29) hx hb dX7_loadSupposed_13 (by decide) (fun c_13 => ?_) (fun c_13 => absurd c_13 hmo)
  refine lv_aload hx hb dX7_loadSupposed_29 (lv_at hl 0 rfl) ?_
  refine va_get (D := D) (ci := 3) (v := .ref (pa k 1)) (C := RX5) (T := TX5) (N := 8) hx hb hts in_X7_loadSupposed_X5 hown hK.1 hP (9 * k + 0 + 11) (gPL_at (j := 0) (fun _ => rfl) (by decide) hk) rfl 4 (by decide) (hts (.fieldLink RX7 89 "Nestlimit$Program" "found" "LNestlimit$Row;") (List.mem_of_getElem? (i := 2) rfl)) (fun _ h9 => h9) rfl dX7_loadSupposed_31 ?_
  refine lv_iload_n hx hb dX7_loadSupposed_34 rfl (lv_at hl 4 rfl) ?_
  refine lv_aload hx hb dX7_loadSupposed_35 (lv_at hl 5 rfl) ?_
  refine g_callW (wc := [((pa k 1), .inr (4, [.ref (pa k 2), .ref (pa k 3), .ref (pa k 4)])), ((pa k 2), .inl (y 2, 25, .inl (gZ (fb k)))), ((pa k 3), .inl (y 1, 25, .inr (.inl (fl k)))), ((pa k 4), .inl (y 1, 25, .inr (.inl (fh k)))), ((q 3), .inr (1, [.int (gB b3), .long l3, .long r3]))]) (b := (q 3)) (e0 := .inr (1, [.int (gB b3), .long l3, .long r3])) (e1 := .inr (1, [.int (gB (sp_X6_load_b1 (fb k) (fl k) (fh k) p)), .long (sp_X6_load_lo1 (fb k) (fl k) (fh k) p), .long (sp_X6_load_hi1 (fb k) (fl k) (fh k) p)])) (v0 := none) (fun w0 hw0 => by subst hw0; exact (va_runV (As := [.int (nI p), .ref (q 3)]) (rest := []) ⟨hx, hb, hml, hown, hts⟩ (c_X6_load l D y s.heap.size (pa k 1) (pa k 2) (pa k 3) (pa k 4) 25 (fb k) (fl k) (fh k) (q 3) b3 l3 r3 p (by omega) (by decide)) (cwV 2 hts gX7_loadSupposed_X6_load rfl rfl rfl (by decide +kernel) ⟨Nat.le_of_ble_eq_true rfl, Nat.le_of_ble_eq_true rfl⟩) (gP_VI hP hD hK [9 * k + 1 + 11, 9 * k + 2 + 11, 9 * k + 3 + 11, 9 * k + 4 + 11, 4] (by simp <;> omega) (by show [(gPL _ _)[9 * k + 1]?, (gPL _ _)[9 * k + 2]?, (gPL _ _)[9 * k + 3]?, (gPL _ _)[9 * k + 4]?, some _] = _; rw [gPL_at (j := 1) (fun _ => rfl) (by decide) hk, gPL_at (j := 2) (fun _ => rfl) (by decide) hk, gPL_at (j := 3) (fun _ => rfl) (by decide) hk, gPL_at (j := 4) (fun _ => rfl) (by decide) hk]; rfl) 0 rfl rfl) rfl rfl hl.1 rfl (lv_room (Nat.le_of_ble_eq_true rfl)) dX7_loadSupposed_37 ⟨Nat.zero_le _, Nat.zero_le _⟩)) hP hD hS hA [9 * k + 1 + 11, 9 * k + 2 + 11, 9 * k + 3 + 11, 9 * k + 4 + 11, 4] (by show [(gPL _ _)[9 * k + 1]?, (gPL _ _)[9 * k + 2]?, (gPL _ _)[9 * k + 3]?, (gPL _ _)[9 * k + 4]?, some _] = _; rw [gPL_at (j := 1) (fun _ => rfl) (by decide) hk, gPL_at (j := 2) (fun _ => rfl) (by decide) hk, gPL_at (j := 3) (fun _ => rfl) (by decide) hk, gPL_at (j := 4) (fun _ => rfl) (by decide) hk]; rfl) 4 rfl ⟨[((pa k 1), .inr (4, [.ref (pa k 2), .ref (pa k 3), .ref (pa k 4)])), ((pa k 2), .inl (y 2, 25, .inl (gZ (fb k)))), ((pa k 3), .inl (y 1, 25, .inr (.inl (fl k)))), ((pa k 4), .inl (y 1, 25, .inr (.inl (fh k))))], rfl⟩ (fun H locs hP hD hS => ?_)
  have hP : va_P D vwCl (wXp y ad h q n b1 l1 r1 b2 l2 r2 (sp_X6_load_b1 (fb k) (fl k) (fh k) p) (sp_X6_load_lo1 (fb k) (fl k) (fh k) p) (sp_X6_load_hi1 (fb k) (fl k) (fh k) p) uz ul uh f1 g1 f2 g2 pa kd on ot pt fb fl fh tb tl th dg ds) H := hP
  have hD : va_D A (wXp y ad h q n b1 l1 r1 b2 l2 r2 (sp_X6_load_b1 (fb k) (fl k) (fh k) p) (sp_X6_load_lo1 (fb k) (fl k) (fh k) p) (sp_X6_load_hi1 (fb k) (fl k) (fh k) p) uz ul uh f1 g1 f2 g2 pa kd on ot pt fb fl fh tb tl th dg ds) := hD
  exact W.vret hx hb hr (fun t ht hW => ⟨⟨none, wXp y ad h q n b1 l1 r1 b2 l2 r2 (sp_X6_load_b1 (fb k) (fl k) (fh k) p) (sp_X6_load_lo1 (fb k) (fl k) (fh k) p) (sp_X6_load_hi1 (fb k) (fl k) (fh k) p) uz ul uh f1 g1 f2 g2 pa kd on ot pt fb fl fh tb tl th dg ds, rfl, ⟨rfl, rfl⟩, rfl, by rw [ht]; exact hP⟩, by rw [← hAe]; exact hS.F ht⟩) (by rw [← hAe]; exact hS.2.2) dX7_loadSupposed_40
def lsB (pt : Nat → Int64) (fb : Nat → Nat → Bool) (fl fh : Nat → Nat → Int64) (uz : Nat → Bool) (ul uh : Nat → Int64) (k g p : Nat) : Bool := if sp_X5_isMadeOf (pt k) (nI g) = true then sp_X6_load_b1 uz ul uh k else sp_X6_load_b1 (fb k) (fl k) (fh k) p
def lsL (pt : Nat → Int64) (fb : Nat → Nat → Bool) (fl fh : Nat → Nat → Int64) (uz : Nat → Bool) (ul uh : Nat → Int64) (k g p : Nat) : Int64 := if sp_X5_isMadeOf (pt k) (nI g) = true then sp_X6_load_lo1 uz ul uh k else sp_X6_load_lo1 (fb k) (fl k) (fh k) p
def lsR (pt : Nat → Int64) (fb : Nat → Nat → Bool) (fl fh : Nat → Nat → Int64) (uz : Nat → Bool) (ul uh : Nat → Int64) (k g p : Nat) : Int64 := if sp_X5_isMadeOf (pt k) (nI g) = true then sp_X6_load_hi1 uz ul uh k else sp_X6_load_hi1 (fb k) (fl k) (fh k) p
theorem c_X7_loadSupposed_a (l : Launch) (hfl : l.stackTraces = false) (D : va_G) (y : Nat → ClassId) (ad : Nat → Nat) (sz : Nat) (h : Nat) (q : Nat → Nat) (n : Nat) (b1 : Bool) (l1 r1 : Int64) (b2 : Bool) (l2 r2 : Int64) (b3 : Bool) (l3 r3 : Int64) (uz : Nat → Bool) (ul uh : Nat → Int64) (f1 g1 f2 g2 : Int64) (pa : Nat → Nat → Nat) (kd : Nat → Nat) (on ot : Nat → Int32) (pt : Nat → Int64) (fb : Nat → Nat → Bool) (fl fh : Nat → Nat → Int64) (tb : Nat → Nat → Bool) (tl th : Nat → Nat → Int64) (dg : Nat → Int32) (ds : Nat → Int64) (k g p : Nat) (hn : n ≤ 40) (hk : k < n) (hp : p < 25) : Met l yX7_loadSupposed wsX7_loadSupposed ({ frames := 6, cells := 0, slots := 0, locals := 100 } : Room) (gPX D y ad [.ref h, .int (nI k), .int (nI g), .int (nI p), .ref (q 1)] (wXp y ad h q n b1 l1 r1 b2 l2 r2 b3 l3 r3 uz ul uh f1 g1 f2 g2 pa kd on ot pt fb fl fh tb tl th dg ds) sz) (gQ D (wXp y ad h q n b1 l1 r1 b2 l2 r2 b3 l3 r3 uz ul uh f1 g1 f2 g2 pa kd on ot pt fb fl fh tb tl th dg ds) (gF none (wXp y ad h q n (lsB pt fb fl fh uz ul uh k g p) (lsL pt fb fl fh uz ul uh k g p) (lsR pt fb fl fh uz ul uh k g p) b2 l2 r2 b3 l3 r3 uz ul uh f1 g1 f2 g2 pa kd on ot pt fb fl fh tb tl th dg ds))) 0 0 (va_A (wXp y ad h q n b1 l1 r1 b2 l2 r2 b3 l3 r3 uz ul uh f1 g1 f2 g2 pa kd on ot pt fb fl fh tb tl th dg ds) sz) := by
  by_cases hmo : sp_X5_isMadeOf (pt k) (nI g) = true
  · have e1 : lsB pt fb fl fh uz ul uh k g p = _ := if_pos hmo
    have e2 : lsL pt fb fl fh uz ul uh k g p = _ := if_pos hmo
    have e3 : lsR pt fb fl fh uz ul uh k g p = _ := if_pos hmo
    rw [e1, e2, e3]
    exact c_X7_loadSupposed_ay l hfl D y ad sz h q n b1 l1 r1 b2 l2 r2 b3 l3 r3 uz ul uh f1 g1 f2 g2 pa kd on ot pt fb fl fh tb tl th dg ds k g p hn hk hp hmo
  · have e1 : lsB pt fb fl fh uz ul uh k g p = _ := if_neg hmo
    have e2 : lsL pt fb fl fh uz ul uh k g p = _ := if_neg hmo
    have e3 : lsR pt fb fl fh uz ul uh k g p = _ := if_neg hmo
    rw [e1, e2, e3]
    exact c_X7_loadSupposed_an l hfl D y ad sz h q n b1 l1 r1 b2 l2 r2 b3 l3 r3 uz ul uh f1 g1 f2 g2 pa kd on ot pt fb fl fh tb tl th dg ds k g p hn hk hp hmo
theorem c_X7_loadSupposed_f (l : Launch) (hfl : l.stackTraces = false) (D : va_G) (y : Nat → ClassId) (ad : Nat → Nat) (sz : Nat) (h : Nat) (q : Nat → Nat) (n : Nat) (b1 : Bool) (l1 r1 : Int64) (b2 : Bool) (l2 r2 : Int64) (b3 : Bool) (l3 r3 : Int64) (uz : Nat → Bool) (ul uh : Nat → Int64) (f1 g1 f2 g2 : Int64) (pa : Nat → Nat → Nat) (kd : Nat → Nat) (on ot : Nat → Int32) (pt : Nat → Int64) (fb : Nat → Nat → Bool) (fl fh : Nat → Nat → Int64) (tb : Nat → Nat → Bool) (tl th : Nat → Nat → Int64) (dg : Nat → Int32) (ds : Nat → Int64) (k g p : Nat) (hn : n ≤ 40) (hk : k < n) (hp : p < 25) : Met l yX7_loadSupposed wsX7_loadSupposed ({ frames := 6, cells := 0, slots := 0, locals := 100 } : Room) (gPX D y ad [.ref h, .int (nI k), .int (nI g), .int (nI p), .ref (q 2)] (wXp y ad h q n b1 l1 r1 b2 l2 r2 b3 l3 r3 uz ul uh f1 g1 f2 g2 pa kd on ot pt fb fl fh tb tl th dg ds) sz) (gQ D (wXp y ad h q n b1 l1 r1 b2 l2 r2 b3 l3 r3 uz ul uh f1 g1 f2 g2 pa kd on ot pt fb fl fh tb tl th dg ds) (gF none (wXp y ad h q n b1 l1 r1 (lsB pt fb fl fh uz ul uh k g p) (lsL pt fb fl fh uz ul uh k g p) (lsR pt fb fl fh uz ul uh k g p) b3 l3 r3 uz ul uh f1 g1 f2 g2 pa kd on ot pt fb fl fh tb tl th dg ds))) 0 0 (va_A (wXp y ad h q n b1 l1 r1 b2 l2 r2 b3 l3 r3 uz ul uh f1 g1 f2 g2 pa kd on ot pt fb fl fh tb tl th dg ds) sz) := by
  by_cases hmo : sp_X5_isMadeOf (pt k) (nI g) = true
  · have e1 : lsB pt fb fl fh uz ul uh k g p = _ := if_pos hmo
    have e2 : lsL pt fb fl fh uz ul uh k g p = _ := if_pos hmo
    have e3 : lsR pt fb fl fh uz ul uh k g p = _ := if_pos hmo
    rw [e1, e2, e3]
    exact c_X7_loadSupposed_fy l hfl D y ad sz h q n b1 l1 r1 b2 l2 r2 b3 l3 r3 uz ul uh f1 g1 f2 g2 pa kd on ot pt fb fl fh tb tl th dg ds k g p hn hk hp hmo
  · have e1 : lsB pt fb fl fh uz ul uh k g p = _ := if_neg hmo
    have e2 : lsL pt fb fl fh uz ul uh k g p = _ := if_neg hmo
    have e3 : lsR pt fb fl fh uz ul uh k g p = _ := if_neg hmo
    rw [e1, e2, e3]
    exact c_X7_loadSupposed_fn l hfl D y ad sz h q n b1 l1 r1 b2 l2 r2 b3 l3 r3 uz ul uh f1 g1 f2 g2 pa kd on ot pt fb fl fh tb tl th dg ds k g p hn hk hp hmo
theorem c_X7_loadSupposed_s (l : Launch) (hfl : l.stackTraces = false) (D : va_G) (y : Nat → ClassId) (ad : Nat → Nat) (sz : Nat) (h : Nat) (q : Nat → Nat) (n : Nat) (b1 : Bool) (l1 r1 : Int64) (b2 : Bool) (l2 r2 : Int64) (b3 : Bool) (l3 r3 : Int64) (uz : Nat → Bool) (ul uh : Nat → Int64) (f1 g1 f2 g2 : Int64) (pa : Nat → Nat → Nat) (kd : Nat → Nat) (on ot : Nat → Int32) (pt : Nat → Int64) (fb : Nat → Nat → Bool) (fl fh : Nat → Nat → Int64) (tb : Nat → Nat → Bool) (tl th : Nat → Nat → Int64) (dg : Nat → Int32) (ds : Nat → Int64) (k g p : Nat) (hn : n ≤ 40) (hk : k < n) (hp : p < 25) : Met l yX7_loadSupposed wsX7_loadSupposed ({ frames := 6, cells := 0, slots := 0, locals := 100 } : Room) (gPX D y ad [.ref h, .int (nI k), .int (nI g), .int (nI p), .ref (q 3)] (wXp y ad h q n b1 l1 r1 b2 l2 r2 b3 l3 r3 uz ul uh f1 g1 f2 g2 pa kd on ot pt fb fl fh tb tl th dg ds) sz) (gQ D (wXp y ad h q n b1 l1 r1 b2 l2 r2 b3 l3 r3 uz ul uh f1 g1 f2 g2 pa kd on ot pt fb fl fh tb tl th dg ds) (gF none (wXp y ad h q n b1 l1 r1 b2 l2 r2 (lsB pt fb fl fh uz ul uh k g p) (lsL pt fb fl fh uz ul uh k g p) (lsR pt fb fl fh uz ul uh k g p) uz ul uh f1 g1 f2 g2 pa kd on ot pt fb fl fh tb tl th dg ds))) 0 0 (va_A (wXp y ad h q n b1 l1 r1 b2 l2 r2 b3 l3 r3 uz ul uh f1 g1 f2 g2 pa kd on ot pt fb fl fh tb tl th dg ds) sz) := by
  by_cases hmo : sp_X5_isMadeOf (pt k) (nI g) = true
  · have e1 : lsB pt fb fl fh uz ul uh k g p = _ := if_pos hmo
    have e2 : lsL pt fb fl fh uz ul uh k g p = _ := if_pos hmo
    have e3 : lsR pt fb fl fh uz ul uh k g p = _ := if_pos hmo
    rw [e1, e2, e3]
    exact c_X7_loadSupposed_sy l hfl D y ad sz h q n b1 l1 r1 b2 l2 r2 b3 l3 r3 uz ul uh f1 g1 f2 g2 pa kd on ot pt fb fl fh tb tl th dg ds k g p hn hk hp hmo
  · have e1 : lsB pt fb fl fh uz ul uh k g p = _ := if_neg hmo
    have e2 : lsL pt fb fl fh uz ul uh k g p = _ := if_neg hmo
    have e3 : lsR pt fb fl fh uz ul uh k g p = _ := if_neg hmo
    rw [e1, e2, e3]
    exact c_X7_loadSupposed_sn l hfl D y ad sz h q n b1 l1 r1 b2 l2 r2 b3 l3 r3 uz ul uh f1 g1 f2 g2 pa kd on ot pt fb fl fh tb tl th dg ds k g p hn hk hp hmo
set_option maxHeartbeats 4000000 in
set_option maxRecDepth 100000 in
theorem c_X7_suppose_n (l : Launch) (hfl : l.stackTraces = false) (D : va_G) (y : Nat → ClassId) (ad : Nat → Nat) (sz : Nat) (h : Nat) (q : Nat → Nat) (n : Nat) (b1 : Bool) (l1 r1 : Int64) (b2 : Bool) (l2 r2 : Int64) (b3 : Bool) (l3 r3 : Int64) (uz : Nat → Bool) (ul uh : Nat → Int64) (f1 g1 f2 g2 : Int64) (pa : Nat → Nat → Nat) (kd : Nat → Nat) (on ot : Nat → Int32) (pt : Nat → Int64) (fb : Nat → Nat → Bool) (fl fh : Nat → Nat → Int64) (tb : Nat → Nat → Bool) (tl th : Nat → Nat → Int64) (dg : Nat → Int32) (ds : Nat → Int64) (k g p : Nat) (hn : n ≤ 40) (hk : k < n) (hp : p < 25) (hmo : ¬ sp_X5_isMadeOf (pt k) (nI g) = true) : Met l yX7_suppose wsX7_suppose ({ frames := 8, cells := 0, slots := 0, locals := 300 } : Room) (gPX D y ad [.ref h, .int (nI k), .int (nI g), .int (nI p)] (wXp y ad h q n b1 l1 r1 b2 l2 r2 b3 l3 r3 uz ul uh f1 g1 f2 g2 pa kd on ot pt fb fl fh tb tl th dg ds) sz) (gQ D (wXp y ad h q n b1 l1 r1 b2 l2 r2 b3 l3 r3 uz ul uh f1 g1 f2 g2 pa kd on ot pt fb fl fh tb tl th dg ds) (gF none (wXp y ad h q n b1 l1 r1 b2 l2 r2 b3 l3 r3 uz ul uh f1 g1 f2 g2 pa kd on ot pt fb fl fh tb tl th dg ds))) 0 0 (va_A (wXp y ad h q n b1 l1 r1 b2 l2 r2 b3 l3 r3 uz ul uh f1 g1 f2 g2 pa kd on ot pt fb fl fh tb tl th dg ds) sz) := by
  refine Met.ofW (cc := cX7_suppose) (maxL := 5) (ret := none) (by decide) rfl ?_
  intro pg e s m args below meth c s₁ B hml hv
  obtain ⟨rfl, hsz, hP, hK, hD0, hE0⟩ := hv
  have hx := B.exec
  have hb := B.bytes
  have hr := B.returns
  have hts := atoms_spec (ws := wsX7_suppose) B.pre
  have hown : s.vm.findClass RX7 = some m.cls := findClass_of_methodNamed B.named
  have hlocks := B.notSynchronized
  subst hsz
  obtain ⟨A, hAe⟩ : ∃ A : Nat → Prop, A = va_A (wXp y ad h q n b1 l1 r1 b2 l2 r2 b3 l3 r3 uz ul uh f1 g1 f2 g2 pa kd on ot pt fb fl fh tb tl th dg ds) s.heap.size := ⟨_, rfl⟩
  have hE : gE ad A s s.heap := by rw [hAe]; exact hE0
  have hD : va_D A (wXp y ad h q n b1 l1 r1 b2 l2 r2 b3 l3 r3 uz ul uh f1 g1 f2 g2 pa kd on ot pt fb fl fh tb tl th dg ds) := by rw [hAe]; exact hD0.self (sz := s.heap.size)
  have hA : ∀ q : Nat, s.heap.size ≤ q → A q := fun q h => by rw [hAe]; exact Or.inr h
  have hS : va_S A s.heap s.heap [] := va_S.rf
  have hl := lv_entry ([.ref h, .int (nI k), .int (nI g), .int (nI p)]) (n := 5) (Nat.le_of_ble_eq_true rfl)
  rw [lg_entry_eq]
  generalize (lg_sl ([.ref h, .int (nI k), .int (nI g), .int (nI p)]) ++ List.replicate (5 - (lg_sl ([.ref h, .int (nI k), .int (nI g), .int (nI p)])).length) Slot.unset).toArray = ls at hl ⊢
  have hl : lv_has ls 5 [(0, .ref h), (1, .int (nI k)), (2, .int (nI g)), (3, .int (nI p))] := hl
  refine lv_aload_n hx hb dX7_suppose_0 rfl (lv_at hl 0 rfl) ?_
  refine lv_iload_n hx hb dX7_suppose_1 rfl (lv_at hl 1 rfl) ?_
  refine g_callR (v0 := .ref (pa k 0)) (va_runV (As := [.int (nI k)]) (rest := []) ⟨hx, hb, hml, hown, hts⟩ (c_X7_existing_0 l hfl D y ad s.heap.size h q n b1 l1 r1 b2 l2 r2 b3 l3 r3 uz ul uh f1 g1 f2 g2 pa kd on ot pt fb fl fh tb tl th dg ds k hn hk) (cwV 1 hts gX7_suppose_X7_existing rfl rfl rfl (by decide +kernel) ⟨Nat.le_of_ble_eq_true rfl, Nat.le_of_ble_eq_true rfl⟩) (gPX_VA hP hD hK hE hS hA 0 rfl rfl) rfl rfl hl.1 rfl (lv_room (Nat.le_of_ble_eq_true rfl)) dX7_suppose_2 ⟨Nat.zero_le _, Nat.zero_le _⟩) ?_
  refine lv_astore (lv' := [(4, .ref (pa k 0)), (0, .ref h), (1, .int (nI k)), (2, .int (nI g)), (3, .int (nI p))]) hx hb dX7_suppose_5 hl (by decide) rfl (fun ls hl => ?_)
  refine lv_aload hx hb dX7_suppose_7 (lv_at hl 0 rfl) ?_
  refine lv_iload_n hx hb dX7_suppose_9 rfl (lv_at hl 3 rfl) ?_
  refine g_callR (v0 := .int (gB (sp_X5_isMadeOf (pt k) (nI g)))) (va_runV (As := [.int (nI g)]) (rest := []) ⟨hx, hb, hml, hown, hts⟩ (c_X5_isMadeOf l D y s.heap.size (pa k 0) (ad (kd k)) (on k) (ot k) (pt k) (pa k 1) (pa k 5) (dg k) (ds k) (nI g)) (cwV 1 hts gX7_suppose_X5_isMadeOf rfl rfl rfl (by decide +kernel) ⟨Nat.le_of_ble_eq_true rfl, Nat.le_of_ble_eq_true rfl⟩) (gP_VI hP hD hK [9 * k + 0 + 11] (by simp <;> omega) (by show [(gPL _ _)[9 * k + 0]?] = _; rw [gPL_at (j := 0) (fun _ => rfl) (by decide) hk]; rfl) 0 rfl rfl) rfl rfl hl.1 rfl (lv_room (Nat.le_of_ble_eq_true rfl)) dX7_suppose_10 ⟨Nat.zero_le _, Nat.zero_le _⟩) ?_
  refine g_beq (tgt := 68) hx hb dX7_suppose_13 (by decide) (fun c_13 => ?_) (fun c_13 => absurd c_13 hmo)
  exact W.vret hx hb hr (fun t ht hW => ⟨⟨none, wXp y ad h q n b1 l1 r1 b2 l2 r2 b3 l3 r3 uz ul uh f1 g1 f2 g2 pa kd on ot pt fb fl fh tb tl th dg ds, rfl, ⟨rfl, rfl⟩, rfl, by rw [ht]; exact hP⟩, by rw [← hAe]; exact hS.F ht⟩) (by rw [← hAe]; exact hS.2.2) dX7_suppose_68
def sp_X7_suppose_y_b1 (uz : Nat → Bool) (ul : Nat → Int64) (uh : Nat → Int64) (kd : Nat → Nat) (pt : Nat → Int64) (fb : Nat → Nat → Bool) (fl : Nat → Nat → Int64) (fh : Nat → Nat → Int64) (k : Nat) (g : Nat) (p : Nat) (o1 : Nat) (o2 : Nat) : Bool := cmB (kd k) (lsB pt fb fl fh uz ul uh o1 g p) (lsL pt fb fl fh uz ul uh o1 g p) (lsR pt fb fl fh uz ul uh o1 g p) (lsB pt fb fl fh uz ul uh o2 g p) (lsL pt fb fl fh uz ul uh o2 g p) (lsR pt fb fl fh uz ul uh o2 g p) (nI p)
def sp_X7_suppose_y_l1 (uz : Nat → Bool) (ul : Nat → Int64) (uh : Nat → Int64) (kd : Nat → Nat) (pt : Nat → Int64) (fb : Nat → Nat → Bool) (fl : Nat → Nat → Int64) (fh : Nat → Nat → Int64) (k : Nat) (g : Nat) (p : Nat) (o1 : Nat) (o2 : Nat) : Int64 := cmL (kd k) (lsB pt fb fl fh uz ul uh o1 g p) (lsL pt fb fl fh uz ul uh o1 g p) (lsR pt fb fl fh uz ul uh o1 g p) (lsB pt fb fl fh uz ul uh o2 g p) (lsL pt fb fl fh uz ul uh o2 g p) (lsR pt fb fl fh uz ul uh o2 g p) (nI p)
def sp_X7_suppose_y_r1 (uz : Nat → Bool) (ul : Nat → Int64) (uh : Nat → Int64) (kd : Nat → Nat) (pt : Nat → Int64) (fb : Nat → Nat → Bool) (fl : Nat → Nat → Int64) (fh : Nat → Nat → Int64) (k : Nat) (g : Nat) (p : Nat) (o1 : Nat) (o2 : Nat) : Int64 := cmR (kd k) (lsB pt fb fl fh uz ul uh o1 g p) (lsL pt fb fl fh uz ul uh o1 g p) (lsR pt fb fl fh uz ul uh o1 g p) (lsB pt fb fl fh uz ul uh o2 g p) (lsL pt fb fl fh uz ul uh o2 g p) (lsR pt fb fl fh uz ul uh o2 g p) (nI p)
def sp_X7_suppose_y_b2 (uz : Nat → Bool) (ul : Nat → Int64) (uh : Nat → Int64) (pt : Nat → Int64) (fb : Nat → Nat → Bool) (fl : Nat → Nat → Int64) (fh : Nat → Nat → Int64) (g : Nat) (p : Nat) (o1 : Nat) : Bool := lsB pt fb fl fh uz ul uh o1 g p
def sp_X7_suppose_y_l2 (uz : Nat → Bool) (ul : Nat → Int64) (uh : Nat → Int64) (pt : Nat → Int64) (fb : Nat → Nat → Bool) (fl : Nat → Nat → Int64) (fh : Nat → Nat → Int64) (g : Nat) (p : Nat) (o1 : Nat) : Int64 := lsL pt fb fl fh uz ul uh o1 g p
def sp_X7_suppose_y_r2 (uz : Nat → Bool) (ul : Nat → Int64) (uh : Nat → Int64) (pt : Nat → Int64) (fb : Nat → Nat → Bool) (fl : Nat → Nat → Int64) (fh : Nat → Nat → Int64) (g : Nat) (p : Nat) (o1 : Nat) : Int64 := lsR pt fb fl fh uz ul uh o1 g p
def sp_X7_suppose_y_b3 (uz : Nat → Bool) (ul : Nat → Int64) (uh : Nat → Int64) (pt : Nat → Int64) (fb : Nat → Nat → Bool) (fl : Nat → Nat → Int64) (fh : Nat → Nat → Int64) (g : Nat) (p : Nat) (o2 : Nat) : Bool := lsB pt fb fl fh uz ul uh o2 g p
def sp_X7_suppose_y_l3 (uz : Nat → Bool) (ul : Nat → Int64) (uh : Nat → Int64) (pt : Nat → Int64) (fb : Nat → Nat → Bool) (fl : Nat → Nat → Int64) (fh : Nat → Nat → Int64) (g : Nat) (p : Nat) (o2 : Nat) : Int64 := lsL pt fb fl fh uz ul uh o2 g p
def sp_X7_suppose_y_r3 (uz : Nat → Bool) (ul : Nat → Int64) (uh : Nat → Int64) (pt : Nat → Int64) (fb : Nat → Nat → Bool) (fl : Nat → Nat → Int64) (fh : Nat → Nat → Int64) (g : Nat) (p : Nat) (o2 : Nat) : Int64 := lsR pt fb fl fh uz ul uh o2 g p
def sp_X7_suppose_y_uz (uz : Nat → Bool) (ul : Nat → Int64) (uh : Nat → Int64) (kd : Nat → Nat) (pt : Nat → Int64) (fb : Nat → Nat → Bool) (fl : Nat → Nat → Int64) (fh : Nat → Nat → Int64) (k : Nat) (g : Nat) (p : Nat) (o1 : Nat) (o2 : Nat) : Nat → Bool := upZ uz k (cmB (kd k) (lsB pt fb fl fh uz ul uh o1 g p) (lsL pt fb fl fh uz ul uh o1 g p) (lsR pt fb fl fh uz ul uh o1 g p) (lsB pt fb fl fh uz ul uh o2 g p) (lsL pt fb fl fh uz ul uh o2 g p) (lsR pt fb fl fh uz ul uh o2 g p) (nI p))
def sp_X7_suppose_y_ul (uz : Nat → Bool) (ul : Nat → Int64) (uh : Nat → Int64) (kd : Nat → Nat) (pt : Nat → Int64) (fb : Nat → Nat → Bool) (fl : Nat → Nat → Int64) (fh : Nat → Nat → Int64) (k : Nat) (g : Nat) (p : Nat) (o1 : Nat) (o2 : Nat) : Nat → Int64 := vp_updL ul k (cmL (kd k) (lsB pt fb fl fh uz ul uh o1 g p) (lsL pt fb fl fh uz ul uh o1 g p) (lsR pt fb fl fh uz ul uh o1 g p) (lsB pt fb fl fh uz ul uh o2 g p) (lsL pt fb fl fh uz ul uh o2 g p) (lsR pt fb fl fh uz ul uh o2 g p) (nI p))
def sp_X7_suppose_y_uh (uz : Nat → Bool) (ul : Nat → Int64) (uh : Nat → Int64) (kd : Nat → Nat) (pt : Nat → Int64) (fb : Nat → Nat → Bool) (fl : Nat → Nat → Int64) (fh : Nat → Nat → Int64) (k : Nat) (g : Nat) (p : Nat) (o1 : Nat) (o2 : Nat) : Nat → Int64 := vp_updL uh k (cmR (kd k) (lsB pt fb fl fh uz ul uh o1 g p) (lsL pt fb fl fh uz ul uh o1 g p) (lsR pt fb fl fh uz ul uh o1 g p) (lsB pt fb fl fh uz ul uh o2 g p) (lsL pt fb fl fh uz ul uh o2 g p) (lsR pt fb fl fh uz ul uh o2 g p) (nI p))
theorem in_X7_suppose_X5 : ∀ w ∈ wsX50, w ∈ wsX7_suppose := fun _ h => List.mem_cons_of_mem _ (List.mem_append_left _ (List.mem_append_left _ (List.mem_append_left _ (List.mem_append_left _ (List.mem_append_right _ h)))))
theorem in_X7_suppose_X7 : ∀ w ∈ wsX70, w ∈ wsX7_suppose := fun _ h => List.mem_cons_of_mem _ (List.mem_append_left _ (List.mem_append_left _ (List.mem_append_left _ (List.mem_append_right _ h))))
set_option maxHeartbeats 4000000 in
set_option maxRecDepth 100000 in
theorem c_X7_suppose_y (l : Launch) (hfl : l.stackTraces = false) (D : va_G) (y : Nat → ClassId) (ad : Nat → Nat) (sz : Nat) (h : Nat) (q : Nat → Nat) (n : Nat) (b1 : Bool) (l1 r1 : Int64) (b2 : Bool) (l2 r2 : Int64) (b3 : Bool) (l3 r3 : Int64) (uz : Nat → Bool) (ul uh : Nat → Int64) (f1 g1 f2 g2 : Int64) (pa : Nat → Nat → Nat) (kd : Nat → Nat) (on ot : Nat → Int32) (pt : Nat → Int64) (fb : Nat → Nat → Bool) (fl fh : Nat → Nat → Int64) (tb : Nat → Nat → Bool) (tl th : Nat → Nat → Int64) (dg : Nat → Int32) (ds : Nat → Int64) (k g p o1 o2 : Nat) (hn : n ≤ 40) (hk : k < n) (hp : p < 25) (hmo : sp_X5_isMadeOf (pt k) (nI g) = true) (ho1 : o1 < k) (ho2 : o2 < k) (hon : on k = nI o1) (hot : ot k = nI o2) (hk1 : 1 ≤ kd k) (hk7 : kd k ≤ 7) : Met l yX7_suppose wsX7_suppose ({ frames := 8, cells := 0, slots := 0, locals := 300 } : Room) (gPX D y ad [.ref h, .int (nI k), .int (nI g), .int (nI p)] (wXp y ad h q n b1 l1 r1 b2 l2 r2 b3 l3 r3 uz ul uh f1 g1 f2 g2 pa kd on ot pt fb fl fh tb tl th dg ds) sz) (gQ D (wXp y ad h q n b1 l1 r1 b2 l2 r2 b3 l3 r3 uz ul uh f1 g1 f2 g2 pa kd on ot pt fb fl fh tb tl th dg ds) (gF none (wXp y ad h q n (sp_X7_suppose_y_b1 uz ul uh kd pt fb fl fh k g p o1 o2) (sp_X7_suppose_y_l1 uz ul uh kd pt fb fl fh k g p o1 o2) (sp_X7_suppose_y_r1 uz ul uh kd pt fb fl fh k g p o1 o2) (sp_X7_suppose_y_b2 uz ul uh pt fb fl fh g p o1) (sp_X7_suppose_y_l2 uz ul uh pt fb fl fh g p o1) (sp_X7_suppose_y_r2 uz ul uh pt fb fl fh g p o1) (sp_X7_suppose_y_b3 uz ul uh pt fb fl fh g p o2) (sp_X7_suppose_y_l3 uz ul uh pt fb fl fh g p o2) (sp_X7_suppose_y_r3 uz ul uh pt fb fl fh g p o2) (sp_X7_suppose_y_uz uz ul uh kd pt fb fl fh k g p o1 o2) (sp_X7_suppose_y_ul uz ul uh kd pt fb fl fh k g p o1 o2) (sp_X7_suppose_y_uh uz ul uh kd pt fb fl fh k g p o1 o2) f1 g1 f2 g2 pa kd on ot pt fb fl fh tb tl th dg ds))) 0 0 (va_A (wXp y ad h q n b1 l1 r1 b2 l2 r2 b3 l3 r3 uz ul uh f1 g1 f2 g2 pa kd on ot pt fb fl fh tb tl th dg ds) sz) := by
  refine Met.ofW (cc := cX7_suppose) (maxL := 5) (ret := none) (by decide) rfl ?_
  intro pg e s m args below meth c s₁ B hml hv
  obtain ⟨rfl, hsz, hP, hK, hD0, hE0⟩ := hv
  have hx := B.exec
  have hb := B.bytes
  have hr := B.returns
  have hts := atoms_spec (ws := wsX7_suppose) B.pre
  have hown : s.vm.findClass RX7 = some m.cls := findClass_of_methodNamed B.named
  have hlocks := B.notSynchronized
  subst hsz
  obtain ⟨A, hAe⟩ : ∃ A : Nat → Prop, A = va_A (wXp y ad h q n b1 l1 r1 b2 l2 r2 b3 l3 r3 uz ul uh f1 g1 f2 g2 pa kd on ot pt fb fl fh tb tl th dg ds) s.heap.size := ⟨_, rfl⟩
  have hE : gE ad A s s.heap := by rw [hAe]; exact hE0
  have hD : va_D A (wXp y ad h q n b1 l1 r1 b2 l2 r2 b3 l3 r3 uz ul uh f1 g1 f2 g2 pa kd on ot pt fb fl fh tb tl th dg ds) := by rw [hAe]; exact hD0.self (sz := s.heap.size)
  have hA : ∀ q : Nat, s.heap.size ≤ q → A q := fun q h => by rw [hAe]; exact Or.inr h
  have hS : va_S A s.heap s.heap [] := va_S.rf
  have hl := lv_entry ([.ref h, .int (nI k), .int (nI g), .int (nI p)]) (n := 5) (Nat.le_of_ble_eq_true rfl)
  rw [lg_entry_eq]
  generalize (lg_sl ([.ref h, .int (nI k), .int (nI g), .int (nI p)]) ++ List.replicate (5 - (lg_sl ([.ref h, .int (nI k), .int (nI g), .int (nI p)])).length) Slot.unset).toArray = ls at hl ⊢
  have hl : lv_has ls 5 [(0, .ref h), (1, .int (nI k)), (2, .int (nI g)), (3, .int (nI p))] := hl
  refine lv_aload_n hx hb dX7_suppose_0 rfl (lv_at hl 0 rfl) ?_
  refine lv_iload_n hx hb dX7_suppose_1 rfl (lv_at hl 1 rfl) ?_
  refine g_callR (v0 := .ref (pa k 0)) (va_runV (As := [.int (nI k)]) (rest := []) ⟨hx, hb, hml, hown, hts⟩ (c_X7_existing_0 l hfl D y ad s.heap.size h q n b1 l1 r1 b2 l2 r2 b3 l3 r3 uz ul uh f1 g1 f2 g2 pa kd on ot pt fb fl fh tb tl th dg ds k hn hk) (cwV 1 hts gX7_suppose_X7_existing rfl rfl rfl (by decide +kernel) ⟨Nat.le_of_ble_eq_true rfl, Nat.le_of_ble_eq_true rfl⟩) (gPX_VA hP hD hK hE hS hA 0 rfl rfl) rfl rfl hl.1 rfl (lv_room (Nat.le_of_ble_eq_true rfl)) dX7_suppose_2 ⟨Nat.zero_le _, Nat.zero_le _⟩) ?_
  refine lv_astore (lv' := [(4, .ref (pa k 0)), (0, .ref h), (1, .int (nI k)), (2, .int (nI g)), (3, .int (nI p))]) hx hb dX7_suppose_5 hl (by decide) rfl (fun ls hl => ?_)
  refine lv_aload hx hb dX7_suppose_7 (lv_at hl 0 rfl) ?_
  refine lv_iload_n hx hb dX7_suppose_9 rfl (lv_at hl 3 rfl) ?_
  refine g_callR (v0 := .int (gB (sp_X5_isMadeOf (pt k) (nI g)))) (va_runV (As := [.int (nI g)]) (rest := []) ⟨hx, hb, hml, hown, hts⟩ (c_X5_isMadeOf l D y s.heap.size (pa k 0) (ad (kd k)) (on k) (ot k) (pt k) (pa k 1) (pa k 5) (dg k) (ds k) (nI g)) (cwV 1 hts gX7_suppose_X5_isMadeOf rfl rfl rfl (by decide +kernel) ⟨Nat.le_of_ble_eq_true rfl, Nat.le_of_ble_eq_true rfl⟩) (gP_VI hP hD hK [9 * k + 0 + 11] (by simp <;> omega) (by show [(gPL _ _)[9 * k + 0]?] = _; rw [gPL_at (j := 0) (fun _ => rfl) (by decide) hk]; rfl) 0 rfl rfl) rfl rfl hl.1 rfl (lv_room (Nat.le_of_ble_eq_true rfl)) dX7_suppose_10 ⟨Nat.zero_le _, Nat.zero_le _⟩) ?_
  refine g_beq (tgt := 68) hx hb dX7_suppose_13 (by decide) (fun c_13 => absurd hmo c_13) (fun c_13 => ?_)
  refine lv_aload_n hx hb dX7_suppose_16 rfl (lv_at hl 1 rfl) ?_
  refine lv_aload hx hb dX7_suppose_17 (lv_at hl 0 rfl) ?_
  refine va_get (D := D) (ci := 3) (v := .int (on k)) (C := RX5) (T := TX5) (N := 8) hx hb hts in_X7_suppose_X5 hown hK.1 hP (9 * k + 0 + 11) (gPL_at (j := 0) (fun _ => rfl) (by decide) hk) rfl 1 (by decide) (hts (.fieldLink RX7 305 "Nestlimit$Program" "one" "I") (List.mem_of_getElem? (i := 1) rfl)) (fun _ h9 => h9) rfl dX7_suppose_19 ?_
  refine g_topi (y := nI o1) (hon) ?_
  refine lv_iload_n hx hb dX7_suppose_22 rfl (lv_at hl 3 rfl) ?_
  refine lv_iload_n hx hb dX7_suppose_23 rfl (lv_at hl 4 rfl) ?_
  refine lv_aload_n hx hb dX7_suppose_24 rfl (lv_at hl 1 rfl) ?_
  refine va_get (D := D) (ci := 5) (v := .ref (q 2)) (C := RX7) (T := TX7) (N := 8) hx hb hts in_X7_suppose_X7 hown hK.1 hP 0 rfl rfl 3 (by decide) (hts (.fieldLink RX7 26 "Nestlimit" "first" "LNestlimit$Interval;") (List.mem_of_getElem? (i := 2) rfl)) (fun _ h9 => h9) rfl dX7_suppose_25 ?_
  refine g_callAv (w0 := wXp y ad h q n b1 l1 r1 (lsB pt fb fl fh uz ul uh o1 g p) (lsL pt fb fl fh uz ul uh o1 g p) (lsR pt fb fl fh uz ul uh o1 g p) b3 l3 r3 uz ul uh f1 g1 f2 g2 pa kd on ot pt fb fl fh tb tl th dg ds) (va_runV (As := [.int (nI o1), .int (nI g), .int (nI p), .ref (q 2)]) (rest := []) ⟨hx, hb, hml, hown, hts⟩ (c_X7_loadSupposed_f l hfl D y ad s.heap.size h q n b1 l1 r1 b2 l2 r2 b3 l3 r3 uz ul uh f1 g1 f2 g2 pa kd on ot pt fb fl fh tb tl th dg ds o1 g p hn (by omega) hp) (cwV 4 hts gX7_suppose_X7_loadSupposed rfl rfl rfl (by decide +kernel) ⟨Nat.le_of_ble_eq_true rfl, Nat.le_of_ble_eq_true rfl⟩) (gPX_VA hP hD hK hE hS hA 0 rfl rfl) rfl rfl hl.1 rfl (lv_room (Nat.le_of_ble_eq_true rfl)) dX7_suppose_28 ⟨Nat.zero_le _, Nat.zero_le _⟩) hP hD hS hA rfl (fun H locs hP hD hS => ?_)
  refine lv_aload_n hx hb dX7_suppose_31 rfl (lv_at hl 1 rfl) ?_
  refine lv_aload hx hb dX7_suppose_32 (lv_at hl 0 rfl) ?_
  refine va_get (D := D) (ci := 3) (v := .int (ot k)) (C := RX5) (T := TX5) (N := 8) hx hb hts in_X7_suppose_X5 hown hK.1 hP (9 * k + 0 + 11) (gPL_at (j := 0) (fun _ => rfl) (by decide) hk) rfl 2 (by decide) (hts (.fieldLink RX7 308 "Nestlimit$Program" "other" "I") (List.mem_of_getElem? (i := 3) rfl)) (fun _ h9 => h9) rfl dX7_suppose_34 ?_
  refine g_topi (y := nI o2) (hot) ?_
  refine lv_iload_n hx hb dX7_suppose_37 rfl (lv_at hl 3 rfl) ?_
  refine lv_iload_n hx hb dX7_suppose_38 rfl (lv_at hl 4 rfl) ?_
  refine lv_aload_n hx hb dX7_suppose_39 rfl (lv_at hl 1 rfl) ?_
  refine va_get (D := D) (ci := 5) (v := .ref (q 3)) (C := RX7) (T := TX7) (N := 8) hx hb hts in_X7_suppose_X7 hown hK.1 hP 0 rfl rfl 4 (by decide) (hts (.fieldLink RX7 29 "Nestlimit" "second" "LNestlimit$Interval;") (List.mem_of_getElem? (i := 4) rfl)) (fun _ h9 => h9) rfl dX7_suppose_40 ?_
  refine g_callAv (w0 := wXp y ad h q n b1 l1 r1 (lsB pt fb fl fh uz ul uh o1 g p) (lsL pt fb fl fh uz ul uh o1 g p) (lsR pt fb fl fh uz ul uh o1 g p) (lsB pt fb fl fh uz ul uh o2 g p) (lsL pt fb fl fh uz ul uh o2 g p) (lsR pt fb fl fh uz ul uh o2 g p) uz ul uh f1 g1 f2 g2 pa kd on ot pt fb fl fh tb tl th dg ds) (va_runV (As := [.int (nI o2), .int (nI g), .int (nI p), .ref (q 3)]) (rest := []) ⟨hx, hb, hml, hown, hts⟩ (c_X7_loadSupposed_s l hfl D y ad H.size h q n b1 l1 r1 (lsB pt fb fl fh uz ul uh o1 g p) (lsL pt fb fl fh uz ul uh o1 g p) (lsR pt fb fl fh uz ul uh o1 g p) b3 l3 r3 uz ul uh f1 g1 f2 g2 pa kd on ot pt fb fl fh tb tl th dg ds o2 g p hn (by omega) hp) (cwV 4 hts gX7_suppose_X7_loadSupposed rfl rfl rfl (by decide +kernel) ⟨Nat.le_of_ble_eq_true rfl, Nat.le_of_ble_eq_true rfl⟩) (gPX_VA hP hD hK hE hS hA 0 rfl rfl) rfl rfl hl.1 rfl (lv_room (Nat.le_of_ble_eq_true rfl)) dX7_suppose_43 ⟨Nat.zero_le _, Nat.zero_le _⟩) hP hD hS hA rfl (fun H locs hP hD hS => ?_)
  refine lv_aload_n hx hb dX7_suppose_46 rfl (lv_at hl 1 rfl) ?_
  refine lv_aload hx hb dX7_suppose_47 (lv_at hl 0 rfl) ?_
  refine va_get (D := D) (ci := 3) (v := .ref (ad (kd k))) (C := RX5) (T := TX5) (N := 8) hx hb hts in_X7_suppose_X5 hown hK.1 hP (9 * k + 0 + 11) (gPL_at (j := 0) (fun _ => rfl) (by decide) hk) rfl 0 (by decide) (hts (.fieldLink RX7 311 "Nestlimit$Program" "kind" "LNestlimit$Kind;") (List.mem_of_getElem? (i := 5) rfl)) (fun _ h9 => h9) rfl dX7_suppose_49 ?_
  refine lv_iload_n hx hb dX7_suppose_52 rfl (lv_at hl 4 rfl) ?_
  refine g_callAv (w0 := wXp y ad h q n (cmB (kd k) (lsB pt fb fl fh uz ul uh o1 g p) (lsL pt fb fl fh uz ul uh o1 g p) (lsR pt fb fl fh uz ul uh o1 g p) (lsB pt fb fl fh uz ul uh o2 g p) (lsL pt fb fl fh uz ul uh o2 g p) (lsR pt fb fl fh uz ul uh o2 g p) (nI p)) (cmL (kd k) (lsB pt fb fl fh uz ul uh o1 g p) (lsL pt fb fl fh uz ul uh o1 g p) (lsR pt fb fl fh uz ul uh o1 g p) (lsB pt fb fl fh uz ul uh o2 g p) (lsL pt fb fl fh uz ul uh o2 g p) (lsR pt fb fl fh uz ul uh o2 g p) (nI p)) (cmR (kd k) (lsB pt fb fl fh uz ul uh o1 g p) (lsL pt fb fl fh uz ul uh o1 g p) (lsR pt fb fl fh uz ul uh o1 g p) (lsB pt fb fl fh uz ul uh o2 g p) (lsL pt fb fl fh uz ul uh o2 g p) (lsR pt fb fl fh uz ul uh o2 g p) (nI p)) (lsB pt fb fl fh uz ul uh o1 g p) (lsL pt fb fl fh uz ul uh o1 g p) (lsR pt fb fl fh uz ul uh o1 g p) (lsB pt fb fl fh uz ul uh o2 g p) (lsL pt fb fl fh uz ul uh o2 g p) (lsR pt fb fl fh uz ul uh o2 g p) uz ul uh f1 g1 f2 g2 pa kd on ot pt fb fl fh tb tl th dg ds) (va_runV (As := [.ref (ad (kd k)), .int (nI p)]) (rest := []) ⟨hx, hb, hml, hown, hts⟩ (c_X7_combine l hfl D y ad H.size h q n b1 l1 r1 (lsB pt fb fl fh uz ul uh o1 g p) (lsL pt fb fl fh uz ul uh o1 g p) (lsR pt fb fl fh uz ul uh o1 g p) (lsB pt fb fl fh uz ul uh o2 g p) (lsL pt fb fl fh uz ul uh o2 g p) (lsR pt fb fl fh uz ul uh o2 g p) uz ul uh f1 g1 f2 g2 pa kd on ot pt fb fl fh tb tl th dg ds (kd k) (nI p) hk1 hk7) (cwV 2 hts gX7_suppose_X7_combine rfl rfl rfl (by decide +kernel) ⟨Nat.le_of_ble_eq_true rfl, Nat.le_of_ble_eq_true rfl⟩) (gPX_VA hP hD hK hE hS hA 0 rfl rfl) rfl rfl hl.1 rfl (lv_room (Nat.le_of_ble_eq_true rfl)) dX7_suppose_53 ⟨Nat.zero_le _, Nat.zero_le _⟩) hP hD hS hA rfl (fun H locs hP hD hS => ?_)
  refine lv_aload_n hx hb dX7_suppose_56 rfl (lv_at hl 1 rfl) ?_
  refine va_get (D := D) (ci := 5) (v := .ref (q 4)) (C := RX7) (T := TX7) (N := 8) hx hb hts in_X7_suppose_X7 hown hK.1 hP 0 rfl rfl 5 (by decide) (hts (.fieldLink RX7 37 "Nestlimit" "supposed" "LNestlimit$Row;") (List.mem_of_getElem? (i := 6) rfl)) (fun _ h9 => h9) rfl dX7_suppose_57 ?_
  refine lv_iload_n hx hb dX7_suppose_60 rfl (lv_at hl 2 rfl) ?_
  refine lv_aload_n hx hb dX7_suppose_61 rfl (lv_at hl 1 rfl) ?_
  refine va_get (D := D) (ci := 5) (v := .ref (q 1)) (C := RX7) (T := TX7) (N := 8) hx hb hts in_X7_suppose_X7 hown hK.1 hP 0 rfl rfl 2 (by decide) (hts (.fieldLink RX7 22 "Nestlimit" "answer" "LNestlimit$Interval;") (List.mem_of_getElem? (i := 7) rfl)) (fun _ h9 => h9) rfl dX7_suppose_62 ?_
  refine g_callv (va_runV (As := [.int (nI k), .ref (q 1)]) (rest := []) ⟨hx, hb, hml, hown, hts⟩ (c_X6_put l D y H.size (q 4) (q 5) (q 6) (q 7) 40 uz ul uh (q 1) (cmB (kd k) (lsB pt fb fl fh uz ul uh o1 g p) (lsL pt fb fl fh uz ul uh o1 g p) (lsR pt fb fl fh uz ul uh o1 g p) (lsB pt fb fl fh uz ul uh o2 g p) (lsL pt fb fl fh uz ul uh o2 g p) (lsR pt fb fl fh uz ul uh o2 g p) (nI p)) (cmL (kd k) (lsB pt fb fl fh uz ul uh o1 g p) (lsL pt fb fl fh uz ul uh o1 g p) (lsR pt fb fl fh uz ul uh o1 g p) (lsB pt fb fl fh uz ul uh o2 g p) (lsL pt fb fl fh uz ul uh o2 g p) (lsR pt fb fl fh uz ul uh o2 g p) (nI p)) (cmR (kd k) (lsB pt fb fl fh uz ul uh o1 g p) (lsL pt fb fl fh uz ul uh o1 g p) (lsR pt fb fl fh uz ul uh o1 g p) (lsB pt fb fl fh uz ul uh o2 g p) (lsL pt fb fl fh uz ul uh o2 g p) (lsR pt fb fl fh uz ul uh o2 g p) (nI p)) k (by omega) (by decide)) (cwV 2 hts gX7_suppose_X6_put rfl rfl rfl (by decide +kernel) ⟨Nat.le_of_ble_eq_true rfl, Nat.le_of_ble_eq_true rfl⟩) (gP_V hP hD hK [5, 6, 7, 8, 2] (by decide) rfl 5 rfl rfl) rfl rfl hl.1 rfl (lv_room (Nat.le_of_ble_eq_true rfl)) dX7_suppose_65 ⟨Nat.zero_le _, Nat.zero_le _⟩) hP hD hS hA [5, 6, 7, 8, 2] rfl (fun H locs hP hD hS => ?_)
  have hP : va_P D vwCl (wXp y ad h q n (cmB (kd k) (lsB pt fb fl fh uz ul uh o1 g p) (lsL pt fb fl fh uz ul uh o1 g p) (lsR pt fb fl fh uz ul uh o1 g p) (lsB pt fb fl fh uz ul uh o2 g p) (lsL pt fb fl fh uz ul uh o2 g p) (lsR pt fb fl fh uz ul uh o2 g p) (nI p)) (cmL (kd k) (lsB pt fb fl fh uz ul uh o1 g p) (lsL pt fb fl fh uz ul uh o1 g p) (lsR pt fb fl fh uz ul uh o1 g p) (lsB pt fb fl fh uz ul uh o2 g p) (lsL pt fb fl fh uz ul uh o2 g p) (lsR pt fb fl fh uz ul uh o2 g p) (nI p)) (cmR (kd k) (lsB pt fb fl fh uz ul uh o1 g p) (lsL pt fb fl fh uz ul uh o1 g p) (lsR pt fb fl fh uz ul uh o1 g p) (lsB pt fb fl fh uz ul uh o2 g p) (lsL pt fb fl fh uz ul uh o2 g p) (lsR pt fb fl fh uz ul uh o2 g p) (nI p)) (lsB pt fb fl fh uz ul uh o1 g p) (lsL pt fb fl fh uz ul uh o1 g p) (lsR pt fb fl fh uz ul uh o1 g p) (lsB pt fb fl fh uz ul uh o2 g p) (lsL pt fb fl fh uz ul uh o2 g p) (lsR pt fb fl fh uz ul uh o2 g p) (upZ uz k (cmB (kd k) (lsB pt fb fl fh uz ul uh o1 g p) (lsL pt fb fl fh uz ul uh o1 g p) (lsR pt fb fl fh uz ul uh o1 g p) (lsB pt fb fl fh uz ul uh o2 g p) (lsL pt fb fl fh uz ul uh o2 g p) (lsR pt fb fl fh uz ul uh o2 g p) (nI p))) (vp_updL ul k (cmL (kd k) (lsB pt fb fl fh uz ul uh o1 g p) (lsL pt fb fl fh uz ul uh o1 g p) (lsR pt fb fl fh uz ul uh o1 g p) (lsB pt fb fl fh uz ul uh o2 g p) (lsL pt fb fl fh uz ul uh o2 g p) (lsR pt fb fl fh uz ul uh o2 g p) (nI p))) (vp_updL uh k (cmR (kd k) (lsB pt fb fl fh uz ul uh o1 g p) (lsL pt fb fl fh uz ul uh o1 g p) (lsR pt fb fl fh uz ul uh o1 g p) (lsB pt fb fl fh uz ul uh o2 g p) (lsL pt fb fl fh uz ul uh o2 g p) (lsR pt fb fl fh uz ul uh o2 g p) (nI p))) f1 g1 f2 g2 pa kd on ot pt fb fl fh tb tl th dg ds) H := hP
  have hD : va_D A (wXp y ad h q n (cmB (kd k) (lsB pt fb fl fh uz ul uh o1 g p) (lsL pt fb fl fh uz ul uh o1 g p) (lsR pt fb fl fh uz ul uh o1 g p) (lsB pt fb fl fh uz ul uh o2 g p) (lsL pt fb fl fh uz ul uh o2 g p) (lsR pt fb fl fh uz ul uh o2 g p) (nI p)) (cmL (kd k) (lsB pt fb fl fh uz ul uh o1 g p) (lsL pt fb fl fh uz ul uh o1 g p) (lsR pt fb fl fh uz ul uh o1 g p) (lsB pt fb fl fh uz ul uh o2 g p) (lsL pt fb fl fh uz ul uh o2 g p) (lsR pt fb fl fh uz ul uh o2 g p) (nI p)) (cmR (kd k) (lsB pt fb fl fh uz ul uh o1 g p) (lsL pt fb fl fh uz ul uh o1 g p) (lsR pt fb fl fh uz ul uh o1 g p) (lsB pt fb fl fh uz ul uh o2 g p) (lsL pt fb fl fh uz ul uh o2 g p) (lsR pt fb fl fh uz ul uh o2 g p) (nI p)) (lsB pt fb fl fh uz ul uh o1 g p) (lsL pt fb fl fh uz ul uh o1 g p) (lsR pt fb fl fh uz ul uh o1 g p) (lsB pt fb fl fh uz ul uh o2 g p) (lsL pt fb fl fh uz ul uh o2 g p) (lsR pt fb fl fh uz ul uh o2 g p) (upZ uz k (cmB (kd k) (lsB pt fb fl fh uz ul uh o1 g p) (lsL pt fb fl fh uz ul uh o1 g p) (lsR pt fb fl fh uz ul uh o1 g p) (lsB pt fb fl fh uz ul uh o2 g p) (lsL pt fb fl fh uz ul uh o2 g p) (lsR pt fb fl fh uz ul uh o2 g p) (nI p))) (vp_updL ul k (cmL (kd k) (lsB pt fb fl fh uz ul uh o1 g p) (lsL pt fb fl fh uz ul uh o1 g p) (lsR pt fb fl fh uz ul uh o1 g p) (lsB pt fb fl fh uz ul uh o2 g p) (lsL pt fb fl fh uz ul uh o2 g p) (lsR pt fb fl fh uz ul uh o2 g p) (nI p))) (vp_updL uh k (cmR (kd k) (lsB pt fb fl fh uz ul uh o1 g p) (lsL pt fb fl fh uz ul uh o1 g p) (lsR pt fb fl fh uz ul uh o1 g p) (lsB pt fb fl fh uz ul uh o2 g p) (lsL pt fb fl fh uz ul uh o2 g p) (lsR pt fb fl fh uz ul uh o2 g p) (nI p))) f1 g1 f2 g2 pa kd on ot pt fb fl fh tb tl th dg ds) := hD
  exact W.vret hx hb hr (fun t ht hW => ⟨⟨none, wXp y ad h q n (cmB (kd k) (lsB pt fb fl fh uz ul uh o1 g p) (lsL pt fb fl fh uz ul uh o1 g p) (lsR pt fb fl fh uz ul uh o1 g p) (lsB pt fb fl fh uz ul uh o2 g p) (lsL pt fb fl fh uz ul uh o2 g p) (lsR pt fb fl fh uz ul uh o2 g p) (nI p)) (cmL (kd k) (lsB pt fb fl fh uz ul uh o1 g p) (lsL pt fb fl fh uz ul uh o1 g p) (lsR pt fb fl fh uz ul uh o1 g p) (lsB pt fb fl fh uz ul uh o2 g p) (lsL pt fb fl fh uz ul uh o2 g p) (lsR pt fb fl fh uz ul uh o2 g p) (nI p)) (cmR (kd k) (lsB pt fb fl fh uz ul uh o1 g p) (lsL pt fb fl fh uz ul uh o1 g p) (lsR pt fb fl fh uz ul uh o1 g p) (lsB pt fb fl fh uz ul uh o2 g p) (lsL pt fb fl fh uz ul uh o2 g p) (lsR pt fb fl fh uz ul uh o2 g p) (nI p)) (lsB pt fb fl fh uz ul uh o1 g p) (lsL pt fb fl fh uz ul uh o1 g p) (lsR pt fb fl fh uz ul uh o1 g p) (lsB pt fb fl fh uz ul uh o2 g p) (lsL pt fb fl fh uz ul uh o2 g p) (lsR pt fb fl fh uz ul uh o2 g p) (upZ uz k (cmB (kd k) (lsB pt fb fl fh uz ul uh o1 g p) (lsL pt fb fl fh uz ul uh o1 g p) (lsR pt fb fl fh uz ul uh o1 g p) (lsB pt fb fl fh uz ul uh o2 g p) (lsL pt fb fl fh uz ul uh o2 g p) (lsR pt fb fl fh uz ul uh o2 g p) (nI p))) (vp_updL ul k (cmL (kd k) (lsB pt fb fl fh uz ul uh o1 g p) (lsL pt fb fl fh uz ul uh o1 g p) (lsR pt fb fl fh uz ul uh o1 g p) (lsB pt fb fl fh uz ul uh o2 g p) (lsL pt fb fl fh uz ul uh o2 g p) (lsR pt fb fl fh uz ul uh o2 g p) (nI p))) (vp_updL uh k (cmR (kd k) (lsB pt fb fl fh uz ul uh o1 g p) (lsL pt fb fl fh uz ul uh o1 g p) (lsR pt fb fl fh uz ul uh o1 g p) (lsB pt fb fl fh uz ul uh o2 g p) (lsL pt fb fl fh uz ul uh o2 g p) (lsR pt fb fl fh uz ul uh o2 g p) (nI p))) f1 g1 f2 g2 pa kd on ot pt fb fl fh tb tl th dg ds, rfl, ⟨rfl, rfl⟩, rfl, by rw [ht]; exact hP⟩, by rw [← hAe]; exact hS.F ht⟩) (by rw [← hAe]; exact hS.2.2) dX7_suppose_68
