def sp_X7_unitsAt (i : Int32) : Int64 := jshl 1 i
set_option maxHeartbeats 4000000 in
set_option maxRecDepth 100000 in
theorem c_X7_unitsAt (l : Launch) (D : va_G) (y : Nat → ClassId) (sz : Nat) (i : Int32) : Met l yX7_unitsAt wsX7_unitsAt ({ frames := 0, cells := 0, slots := 0, locals := 0 } : Room) (gP D y [.int i] [] sz) (gR (.long (sp_X7_unitsAt i))) 0 0 (fun _ => False) := by
  refine Met.ofW (cc := cX7_unitsAt) (maxL := 1) (ret := (some .long)) (by decide) rfl ?_
  intro p e s m args below meth c s₁ B hml hv
  obtain ⟨rfl, hsz, hP, hK, hD0⟩ := hv
  have hx := B.exec
  have hb := B.bytes
  have hr := B.returns
  have hts := atoms_spec (ws := wsX7_unitsAt) B.pre
  have hown : s.vm.findClass RX7 = some m.cls := findClass_of_methodNamed B.named
  have hlocks := B.notSynchronized
  subst hsz
  obtain ⟨A, hAe⟩ : ∃ A : Nat → Prop, A = va_A [] s.heap.size := ⟨_, rfl⟩
  have hD : va_D A [] := by rw [hAe]; exact hD0.self (sz := s.heap.size)
  have hA : ∀ q : Nat, s.heap.size ≤ q → A q := fun q h => by rw [hAe]; exact Or.inr h
  have hS : va_S A s.heap s.heap [] := va_S.rf
  have hl := lv_entry ([.int i]) (n := 1) (Nat.le_of_ble_eq_true rfl)
  rw [lg_entry_eq]
  generalize (lg_sl ([.int i]) ++ List.replicate (1 - (lg_sl ([.int i])).length) Slot.unset).toArray = ls at hl ⊢
  have hl : lv_has ls 1 [(0, .int i)] := hl
  refine lv_lconst (v := 1) hx hb dX7_unitsAt_0 (by decide) ?_
  refine lv_iload_n hx hb dX7_unitsAt_1 rfl (lv_at hl 0 rfl) ?_
  refine lv_lshl (v := jshl 1 i) hx hb dX7_unitsAt_2 rfl ?_
  exact W.lret (v := jshl 1 i) hx hb hr (fun t ht hW => ⟨congrArg (fun z => Outcome.returned (some (Value.long z))) (rfl), ht⟩) (fun q h => by cases h) dX7_unitsAt_3
def sp_J9_floorDiv_f86c9 (a b : Int64) : Int64 := if 0 ≤ (a ^^^ b) then a / b else if ((a / b) * b) = a then a / b else (a / b) - 1
set_option maxHeartbeats 4000000 in
set_option maxRecDepth 100000 in
theorem c_J9_floorDiv_f86c9 (l : Launch) (D : va_G) (y : Nat → ClassId) (sz : Nat) (a b : Int64) (hne : ¬ b = 0) : Met l yJ9_floorDiv_f86c9 wsJ9_floorDiv_f86c9 ({ frames := 0, cells := 0, slots := 0, locals := 0 } : Room) (gP D y [.long a, .long b] [] sz) (gR (.long (sp_J9_floorDiv_f86c9 a b))) 0 0 (fun _ => False) := by
  refine va_MetF (cc := cJ9_floorDiv_f86c9) (maxL := 6) (ret := (some .long)) (by decide +kernel) rfl ?_
  intro p e s m args below meth c s₁ B hml hv
  obtain ⟨rfl, hsz, hP, hK, hD0⟩ := hv
  have hx := B.exec
  have hb := B.bytes
  have hr := B.returns
  have hts := atoms_spec (ws := wsJ9_floorDiv_f86c9) B.pre
  have hown : s.vm.findClass RJ9 = some m.cls := findClass_of_methodNamed B.named
  have hlocks := B.notSynchronized
  subst hsz
  obtain ⟨A, hAe⟩ : ∃ A : Nat → Prop, A = va_A [] s.heap.size := ⟨_, rfl⟩
  have hD : va_D A [] := by rw [hAe]; exact hD0.self (sz := s.heap.size)
  have hA : ∀ q : Nat, s.heap.size ≤ q → A q := fun q h => by rw [hAe]; exact Or.inr h
  have hS : va_S A s.heap s.heap [] := va_S.rf
  have hl := lv_entry ([.long a, .long b]) (n := 6) (Nat.le_of_ble_eq_true rfl)
  rw [lg_entry_eq]
  generalize (lg_sl ([.long a, .long b]) ++ List.replicate (6 - (lg_sl ([.long a, .long b])).length) Slot.unset).toArray = ls at hl ⊢
  have hl : lv_has ls 6 [(0, .long a), (2, .long b)] := hl
  refine lv_lload_n hx hb dJ9_floorDiv_f86c9_0 rfl (lv_at hl 0 rfl) ?_
  refine lv_lload_n hx hb dJ9_floorDiv_f86c9_1 rfl (lv_at hl 1 rfl) ?_
  refine lv_ldiv hx hb dJ9_floorDiv_f86c9_2 (hne) ?_
  refine lv_lstore (lv' := [(4, .long (a / b)), (0, .long a), (2, .long b)]) hx hb dJ9_floorDiv_f86c9_3 hl (by decide) rfl (fun ls hl => ?_)
  refine lv_lload_n hx hb dJ9_floorDiv_f86c9_5 rfl (lv_at hl 1 rfl) ?_
  refine lv_lload_n hx hb dJ9_floorDiv_f86c9_6 rfl (lv_at hl 2 rfl) ?_
  refine lv_lxor hx hb dJ9_floorDiv_f86c9_7 ?_
  refine lv_lconst (v := 0) hx hb dJ9_floorDiv_f86c9_8 (by decide) ?_
  refine g_ge (tgt := 27) hx hb dJ9_floorDiv_f86c9_9 dJ9_floorDiv_f86c9_10 (by decide) (fun c_9 => ?_) (fun c_9 => ?_)
  · skip
    refine lv_lload hx hb dJ9_floorDiv_f86c9_27 (lv_at hl 0 rfl) ?_
    exact W.lret (v := a / b) hx hb hr (fun t ht hW => ⟨congrArg (fun z => Outcome.returned (some (Value.long z))) (by simp only [sp_J9_floorDiv_f86c9, if_pos c_9]), ht⟩) (fun q h => by cases h) dJ9_floorDiv_f86c9_29
  · skip
    refine lv_lload hx hb dJ9_floorDiv_f86c9_13 (lv_at hl 0 rfl) ?_
    refine lv_lload_n hx hb dJ9_floorDiv_f86c9_15 rfl (lv_at hl 2 rfl) ?_
    refine lv_lmul hx hb dJ9_floorDiv_f86c9_16 ?_
    refine lv_lload_n hx hb dJ9_floorDiv_f86c9_17 rfl (lv_at hl 1 rfl) ?_
    refine g_eq (tgt := 27) hx hb dJ9_floorDiv_f86c9_18 dJ9_floorDiv_f86c9_19 (by decide) (fun c_18 => ?_) (fun c_18 => ?_)
    · skip
      refine lv_lload hx hb dJ9_floorDiv_f86c9_27 (lv_at hl 0 rfl) ?_
      exact W.lret (v := a / b) hx hb hr (fun t ht hW => ⟨congrArg (fun z => Outcome.returned (some (Value.long z))) (by simp only [sp_J9_floorDiv_f86c9, if_neg c_9, if_pos c_18]), ht⟩) (fun q h => by cases h) dJ9_floorDiv_f86c9_29
    · skip
      refine lv_lload hx hb dJ9_floorDiv_f86c9_22 (lv_at hl 0 rfl) ?_
      refine lv_lconst (v := 1) hx hb dJ9_floorDiv_f86c9_24 (by decide) ?_
      refine lv_lsub hx hb dJ9_floorDiv_f86c9_25 ?_
      exact W.lret (v := (a / b) - 1) hx hb hr (fun t ht hW => ⟨congrArg (fun z => Outcome.returned (some (Value.long z))) (by simp only [sp_J9_floorDiv_f86c9, if_neg c_9, if_neg c_18]), ht⟩) (fun q h => by cases h) dJ9_floorDiv_f86c9_26
def sp_J9_floorMod_f86c9 (a b : Int64) : Int64 := if 0 ≤ (a ^^^ b) then a - a / b * b else if (a - a / b * b) = 0 then a - a / b * b else (a - a / b * b) + b
set_option maxHeartbeats 4000000 in
set_option maxRecDepth 100000 in
theorem c_J9_floorMod_f86c9 (l : Launch) (D : va_G) (y : Nat → ClassId) (sz : Nat) (a b : Int64) (hne : ¬ b = 0) : Met l yJ9_floorMod_f86c9 wsJ9_floorMod_f86c9 ({ frames := 0, cells := 0, slots := 0, locals := 0 } : Room) (gP D y [.long a, .long b] [] sz) (gR (.long (sp_J9_floorMod_f86c9 a b))) 0 0 (fun _ => False) := by
  refine va_MetF (cc := cJ9_floorMod_f86c9) (maxL := 6) (ret := (some .long)) (by decide +kernel) rfl ?_
  intro p e s m args below meth c s₁ B hml hv
  obtain ⟨rfl, hsz, hP, hK, hD0⟩ := hv
  have hx := B.exec
  have hb := B.bytes
  have hr := B.returns
  have hts := atoms_spec (ws := wsJ9_floorMod_f86c9) B.pre
  have hown : s.vm.findClass RJ9 = some m.cls := findClass_of_methodNamed B.named
  have hlocks := B.notSynchronized
  subst hsz
  obtain ⟨A, hAe⟩ : ∃ A : Nat → Prop, A = va_A [] s.heap.size := ⟨_, rfl⟩
  have hD : va_D A [] := by rw [hAe]; exact hD0.self (sz := s.heap.size)
  have hA : ∀ q : Nat, s.heap.size ≤ q → A q := fun q h => by rw [hAe]; exact Or.inr h
  have hS : va_S A s.heap s.heap [] := va_S.rf
  have hl := lv_entry ([.long a, .long b]) (n := 6) (Nat.le_of_ble_eq_true rfl)
  rw [lg_entry_eq]
  generalize (lg_sl ([.long a, .long b]) ++ List.replicate (6 - (lg_sl ([.long a, .long b])).length) Slot.unset).toArray = ls at hl ⊢
  have hl : lv_has ls 6 [(0, .long a), (2, .long b)] := hl
  refine lv_lload_n hx hb dJ9_floorMod_f86c9_0 rfl (lv_at hl 0 rfl) ?_
  refine lv_lload_n hx hb dJ9_floorMod_f86c9_1 rfl (lv_at hl 1 rfl) ?_
  refine lv_lrem hx hb dJ9_floorMod_f86c9_2 (hne) ?_
  refine lv_lstore (lv' := [(4, .long (a - a / b * b)), (0, .long a), (2, .long b)]) hx hb dJ9_floorMod_f86c9_3 hl (by decide) rfl (fun ls hl => ?_)
  refine lv_lload_n hx hb dJ9_floorMod_f86c9_5 rfl (lv_at hl 1 rfl) ?_
  refine lv_lload_n hx hb dJ9_floorMod_f86c9_6 rfl (lv_at hl 2 rfl) ?_
  refine lv_lxor hx hb dJ9_floorMod_f86c9_7 ?_
  refine lv_lconst (v := 0) hx hb dJ9_floorMod_f86c9_8 (by decide) ?_
  refine g_ge (tgt := 25) hx hb dJ9_floorMod_f86c9_9 dJ9_floorMod_f86c9_10 (by decide) (fun c_9 => ?_) (fun c_9 => ?_)
  · skip
    refine lv_lload hx hb dJ9_floorMod_f86c9_25 (lv_at hl 0 rfl) ?_
    exact W.lret (v := a - a / b * b) hx hb hr (fun t ht hW => ⟨congrArg (fun z => Outcome.returned (some (Value.long z))) (by simp only [sp_J9_floorMod_f86c9, if_pos c_9]), ht⟩) (fun q h => by cases h) dJ9_floorMod_f86c9_27
  · skip
    refine lv_lload hx hb dJ9_floorMod_f86c9_13 (lv_at hl 0 rfl) ?_
    refine lv_lconst (v := 0) hx hb dJ9_floorMod_f86c9_15 (by decide) ?_
    refine g_eq (tgt := 25) hx hb dJ9_floorMod_f86c9_16 dJ9_floorMod_f86c9_17 (by decide) (fun c_16 => ?_) (fun c_16 => ?_)
    · skip
      refine lv_lload hx hb dJ9_floorMod_f86c9_25 (lv_at hl 0 rfl) ?_
      exact W.lret (v := a - a / b * b) hx hb hr (fun t ht hW => ⟨congrArg (fun z => Outcome.returned (some (Value.long z))) (by simp only [sp_J9_floorMod_f86c9, if_neg c_9, if_pos c_16]), ht⟩) (fun q h => by cases h) dJ9_floorMod_f86c9_27
    · skip
      refine lv_lload hx hb dJ9_floorMod_f86c9_20 (lv_at hl 0 rfl) ?_
      refine lv_lload_n hx hb dJ9_floorMod_f86c9_22 rfl (lv_at hl 2 rfl) ?_
      refine lv_ladd hx hb dJ9_floorMod_f86c9_23 ?_
      exact W.lret (v := (a - a / b * b) + b) hx hb hr (fun t ht hW => ⟨congrArg (fun z => Outcome.returned (some (Value.long z))) (by simp only [sp_J9_floorMod_f86c9, if_neg c_9, if_neg c_16]), ht⟩) (fun q h => by cases h) dJ9_floorMod_f86c9_24
def sp_J13_signum_95d88 (a : Int64) : Int32 := ((jshr a 63) ||| (jushr (-a) 63)).toInt32
set_option maxHeartbeats 4000000 in
set_option maxRecDepth 100000 in
theorem c_J13_signum_95d88 (l : Launch) (D : va_G) (y : Nat → ClassId) (sz : Nat) (a : Int64) : Met l yJ13_signum_95d88 wsJ13_signum_95d88 ({ frames := 0, cells := 0, slots := 0, locals := 0 } : Room) (gP D y [.long a] [] sz) (gR (.int (sp_J13_signum_95d88 a))) 0 0 (fun _ => False) := by
  refine va_MetF (cc := cJ13_signum_95d88) (maxL := 2) (ret := (some .int)) (by decide +kernel) rfl ?_
  intro p e s m args below meth c s₁ B hml hv
  obtain ⟨rfl, hsz, hP, hK, hD0⟩ := hv
  have hx := B.exec
  have hb := B.bytes
  have hr := B.returns
  have hts := atoms_spec (ws := wsJ13_signum_95d88) B.pre
  have hown : s.vm.findClass RJ13 = some m.cls := findClass_of_methodNamed B.named
  have hlocks := B.notSynchronized
  subst hsz
  obtain ⟨A, hAe⟩ : ∃ A : Nat → Prop, A = va_A [] s.heap.size := ⟨_, rfl⟩
  have hD : va_D A [] := by rw [hAe]; exact hD0.self (sz := s.heap.size)
  have hA : ∀ q : Nat, s.heap.size ≤ q → A q := fun q h => by rw [hAe]; exact Or.inr h
  have hS : va_S A s.heap s.heap [] := va_S.rf
  have hl := lv_entry ([.long a]) (n := 2) (Nat.le_of_ble_eq_true rfl)
  rw [lg_entry_eq]
  generalize (lg_sl ([.long a]) ++ List.replicate (2 - (lg_sl ([.long a])).length) Slot.unset).toArray = ls at hl ⊢
  have hl : lv_has ls 2 [(0, .long a)] := hl
  refine lv_lload_n hx hb dJ13_signum_95d88_0 rfl (lv_at hl 0 rfl) ?_
  refine lv_bipush (v := 63) hx hb dJ13_signum_95d88_1 (by decide) ?_
  refine lv_lshr (v := jshr a 63) hx hb dJ13_signum_95d88_3 rfl ?_
  refine lv_lload_n hx hb dJ13_signum_95d88_4 rfl (lv_at hl 0 rfl) ?_
  refine lv_lneg hx hb dJ13_signum_95d88_5 ?_
  refine lv_bipush (v := 63) hx hb dJ13_signum_95d88_6 (by decide) ?_
  refine lv_lushr (v := jushr (-a) 63) hx hb dJ13_signum_95d88_8 rfl ?_
  refine lv_lor hx hb dJ13_signum_95d88_9 ?_
  refine lv_l2i (v := ((jshr a 63) ||| (jushr (-a) 63)).toInt32) hx hb dJ13_signum_95d88_10 rfl ?_
  exact W.iret (v := ((jshr a 63) ||| (jushr (-a) 63)).toInt32) hx hb hr (fun t ht hW => ⟨congrArg (fun z => Outcome.returned (some (Value.int z))) (rfl), ht⟩) (fun q h => by cases h) dJ13_signum_95d88_11
def bc1 (a : Int64) : Int64 := a - (jushr a 1 &&& 6148914691236517205)
def bc2 (a : Int64) : Int64 := (a &&& 3689348814741910323) + (jushr a 2 &&& 3689348814741910323)
def bc3 (a : Int64) : Int64 := (a + jushr a 4) &&& 1085102592571150095
def bc4 (a : Int64) : Int64 := a + jushr a 8
def bc5 (a : Int64) : Int64 := a + jushr a 16
def bc6 (a : Int64) : Int64 := a + jushr a 32
def sp_J13_bitCount_95d88 (a : Int64) : Int32 := ((bc6 (bc5 (bc4 (bc3 (bc2 (bc1 a)))))).toInt32) &&& 127
set_option maxHeartbeats 4000000 in
set_option maxRecDepth 100000 in
theorem c_J13_bitCount_95d88 (l : Launch) (D : va_G) (y : Nat → ClassId) (sz : Nat) (a : Int64) : Met l yJ13_bitCount_95d88 wsJ13_bitCount_95d88 ({ frames := 0, cells := 0, slots := 0, locals := 0 } : Room) (gP D y [.long a] [] sz) (gR (.int (sp_J13_bitCount_95d88 a))) 0 0 (fun _ => False) := by
  refine va_MetF (cc := cJ13_bitCount_95d88) (maxL := 2) (ret := (some .int)) (by decide +kernel) rfl ?_
  intro p e s m args below meth c s₁ B hml hv
  obtain ⟨rfl, hsz, hP, hK, hD0⟩ := hv
  have hx := B.exec
  have hb := B.bytes
  have hr := B.returns
  have hts := atoms_spec (ws := wsJ13_bitCount_95d88) B.pre
  have hown : s.vm.findClass RJ13 = some m.cls := findClass_of_methodNamed B.named
  have hlocks := B.notSynchronized
  subst hsz
  obtain ⟨A, hAe⟩ : ∃ A : Nat → Prop, A = va_A [] s.heap.size := ⟨_, rfl⟩
  have hD : va_D A [] := by rw [hAe]; exact hD0.self (sz := s.heap.size)
  have hA : ∀ q : Nat, s.heap.size ≤ q → A q := fun q h => by rw [hAe]; exact Or.inr h
  have hS : va_S A s.heap s.heap [] := va_S.rf
  have hl := lv_entry ([.long a]) (n := 2) (Nat.le_of_ble_eq_true rfl)
  rw [lg_entry_eq]
  generalize (lg_sl ([.long a]) ++ List.replicate (2 - (lg_sl ([.long a])).length) Slot.unset).toArray = ls at hl ⊢
  have hl : lv_has ls 2 [(0, .long a)] := hl
  refine lv_lload_n hx hb dJ13_bitCount_95d88_0 rfl (lv_at hl 0 rfl) ?_
  refine lv_lload_n hx hb dJ13_bitCount_95d88_1 rfl (lv_at hl 0 rfl) ?_
  refine lv_iconst (v := 1) hx hb dJ13_bitCount_95d88_2 (by decide) ?_
  refine lv_lushr (v := jushr a 1) hx hb dJ13_bitCount_95d88_3 rfl ?_
  refine lv_ldc2 (v := 6148914691236517205) hx hb hown (hts (.constantLong RJ13 314 (6148914691236517205)) (List.mem_of_getElem? (i := 1) rfl)) dJ13_bitCount_95d88_4 ?_
  refine lv_land hx hb dJ13_bitCount_95d88_7 ?_
  refine lv_lsub hx hb dJ13_bitCount_95d88_8 ?_
  refine g_topl (y := bc1 a) (rfl) ?_
  refine lv_lstore_n (lv' := [(0, .long (bc1 a))]) hx hb dJ13_bitCount_95d88_9 rfl hl (by decide) rfl (fun ls hl => ?_)
  refine lv_lload_n hx hb dJ13_bitCount_95d88_10 rfl (lv_at hl 0 rfl) ?_
  refine lv_ldc2 (v := 3689348814741910323) hx hb hown (hts (.constantLong RJ13 316 (3689348814741910323)) (List.mem_of_getElem? (i := 2) rfl)) dJ13_bitCount_95d88_11 ?_
  refine lv_land hx hb dJ13_bitCount_95d88_14 ?_
  refine lv_lload_n hx hb dJ13_bitCount_95d88_15 rfl (lv_at hl 0 rfl) ?_
  refine lv_iconst (v := 2) hx hb dJ13_bitCount_95d88_16 (by decide) ?_
  refine lv_lushr (v := jushr (bc1 a) 2) hx hb dJ13_bitCount_95d88_17 rfl ?_
  refine lv_ldc2 (v := 3689348814741910323) hx hb hown (hts (.constantLong RJ13 316 (3689348814741910323)) (List.mem_of_getElem? (i := 2) rfl)) dJ13_bitCount_95d88_18 ?_
  refine lv_land hx hb dJ13_bitCount_95d88_21 ?_
  refine lv_ladd hx hb dJ13_bitCount_95d88_22 ?_
  refine g_topl (y := bc2 (bc1 a)) (rfl) ?_
  refine lv_lstore_n (lv' := [(0, .long (bc2 (bc1 a)))]) hx hb dJ13_bitCount_95d88_23 rfl hl (by decide) rfl (fun ls hl => ?_)
  refine lv_lload_n hx hb dJ13_bitCount_95d88_24 rfl (lv_at hl 0 rfl) ?_
  refine lv_lload_n hx hb dJ13_bitCount_95d88_25 rfl (lv_at hl 0 rfl) ?_
  refine lv_iconst (v := 4) hx hb dJ13_bitCount_95d88_26 (by decide) ?_
  refine lv_lushr (v := jushr (bc2 (bc1 a)) 4) hx hb dJ13_bitCount_95d88_27 rfl ?_
  refine lv_ladd hx hb dJ13_bitCount_95d88_28 ?_
  refine lv_ldc2 (v := 1085102592571150095) hx hb hown (hts (.constantLong RJ13 318 (1085102592571150095)) (List.mem_of_getElem? (i := 3) rfl)) dJ13_bitCount_95d88_29 ?_
  refine lv_land hx hb dJ13_bitCount_95d88_32 ?_
  refine g_topl (y := bc3 (bc2 (bc1 a))) (rfl) ?_
  refine lv_lstore_n (lv' := [(0, .long (bc3 (bc2 (bc1 a))))]) hx hb dJ13_bitCount_95d88_33 rfl hl (by decide) rfl (fun ls hl => ?_)
  refine lv_lload_n hx hb dJ13_bitCount_95d88_34 rfl (lv_at hl 0 rfl) ?_
  refine lv_lload_n hx hb dJ13_bitCount_95d88_35 rfl (lv_at hl 0 rfl) ?_
  refine lv_bipush (v := 8) hx hb dJ13_bitCount_95d88_36 (by decide) ?_
  refine lv_lushr (v := jushr (bc3 (bc2 (bc1 a))) 8) hx hb dJ13_bitCount_95d88_38 rfl ?_
  refine lv_ladd hx hb dJ13_bitCount_95d88_39 ?_
  refine g_topl (y := bc4 (bc3 (bc2 (bc1 a)))) (rfl) ?_
  refine lv_lstore_n (lv' := [(0, .long (bc4 (bc3 (bc2 (bc1 a)))))]) hx hb dJ13_bitCount_95d88_40 rfl hl (by decide) rfl (fun ls hl => ?_)
  refine lv_lload_n hx hb dJ13_bitCount_95d88_41 rfl (lv_at hl 0 rfl) ?_
  refine lv_lload_n hx hb dJ13_bitCount_95d88_42 rfl (lv_at hl 0 rfl) ?_
  refine lv_bipush (v := 16) hx hb dJ13_bitCount_95d88_43 (by decide) ?_
  refine lv_lushr (v := jushr (bc4 (bc3 (bc2 (bc1 a)))) 16) hx hb dJ13_bitCount_95d88_45 rfl ?_
  refine lv_ladd hx hb dJ13_bitCount_95d88_46 ?_
  refine g_topl (y := bc5 (bc4 (bc3 (bc2 (bc1 a))))) (rfl) ?_
  refine lv_lstore_n (lv' := [(0, .long (bc5 (bc4 (bc3 (bc2 (bc1 a))))))]) hx hb dJ13_bitCount_95d88_47 rfl hl (by decide) rfl (fun ls hl => ?_)
  refine lv_lload_n hx hb dJ13_bitCount_95d88_48 rfl (lv_at hl 0 rfl) ?_
  refine lv_lload_n hx hb dJ13_bitCount_95d88_49 rfl (lv_at hl 0 rfl) ?_
  refine lv_bipush (v := 32) hx hb dJ13_bitCount_95d88_50 (by decide) ?_
  refine lv_lushr (v := jushr (bc5 (bc4 (bc3 (bc2 (bc1 a))))) 32) hx hb dJ13_bitCount_95d88_52 rfl ?_
  refine lv_ladd hx hb dJ13_bitCount_95d88_53 ?_
  refine g_topl (y := bc6 (bc5 (bc4 (bc3 (bc2 (bc1 a)))))) (rfl) ?_
  refine lv_lstore_n (lv' := [(0, .long (bc6 (bc5 (bc4 (bc3 (bc2 (bc1 a)))))))]) hx hb dJ13_bitCount_95d88_54 rfl hl (by decide) rfl (fun ls hl => ?_)
  refine lv_lload_n hx hb dJ13_bitCount_95d88_55 rfl (lv_at hl 0 rfl) ?_
  refine lv_l2i (v := (bc6 (bc5 (bc4 (bc3 (bc2 (bc1 a)))))).toInt32) hx hb dJ13_bitCount_95d88_56 rfl ?_
  refine lv_bipush (v := 127) hx hb dJ13_bitCount_95d88_57 (by decide) ?_
  refine lv_iand hx hb dJ13_bitCount_95d88_59 ?_
  exact W.iret (v := ((bc6 (bc5 (bc4 (bc3 (bc2 (bc1 a)))))).toInt32) &&& 127) hx hb hr (fun t ht hW => ⟨congrArg (fun z => Outcome.returned (some (Value.int z))) (rfl), ht⟩) (fun q h => by cases h) dJ13_bitCount_95d88_60
def sp_X7_cut (a b : Int64) : Int64 := if b = 0 then 0 else sp_J9_floorDiv_f86c9 a b
set_option maxHeartbeats 4000000 in
set_option maxRecDepth 100000 in
theorem c_X7_cut (l : Launch) (D : va_G) (y : Nat → ClassId) (sz : Nat) (a b : Int64) : Met l yX7_cut wsX7_cut ({ frames := 1, cells := 0, slots := 0, locals := 25 } : Room) (gP D y [.long a, .long b] [] sz) (gR (.long (sp_X7_cut a b))) 0 0 (fun _ => False) := by
  refine Met.ofW (cc := cX7_cut) (maxL := 4) (ret := (some .long)) (by decide) rfl ?_
  intro p e s m args below meth c s₁ B hml hv
  obtain ⟨rfl, hsz, hP, hK, hD0⟩ := hv
  have hx := B.exec
  have hb := B.bytes
  have hr := B.returns
  have hts := atoms_spec (ws := wsX7_cut) B.pre
  have hown : s.vm.findClass RX7 = some m.cls := findClass_of_methodNamed B.named
  have hlocks := B.notSynchronized
  subst hsz
  obtain ⟨A, hAe⟩ : ∃ A : Nat → Prop, A = va_A [] s.heap.size := ⟨_, rfl⟩
  have hD : va_D A [] := by rw [hAe]; exact hD0.self (sz := s.heap.size)
  have hA : ∀ q : Nat, s.heap.size ≤ q → A q := fun q h => by rw [hAe]; exact Or.inr h
  have hS : va_S A s.heap s.heap [] := va_S.rf
  have hl := lv_entry ([.long a, .long b]) (n := 4) (Nat.le_of_ble_eq_true rfl)
  rw [lg_entry_eq]
  generalize (lg_sl ([.long a, .long b]) ++ List.replicate (4 - (lg_sl ([.long a, .long b])).length) Slot.unset).toArray = ls at hl ⊢
  have hl : lv_has ls 4 [(0, .long a), (2, .long b)] := hl
  refine lv_lload_n hx hb dX7_cut_0 rfl (lv_at hl 1 rfl) ?_
  refine lv_lconst (v := 0) hx hb dX7_cut_1 (by decide) ?_
  refine g_ne (tgt := 10) hx hb dX7_cut_2 dX7_cut_3 (by decide) (fun c_2 => ?_) (fun c_2 => ?_)
  · skip
    refine lv_lload_n hx hb dX7_cut_10 rfl (lv_at hl 0 rfl) ?_
    refine lv_lload_n hx hb dX7_cut_11 rfl (lv_at hl 1 rfl) ?_
    refine g_callR (v0 := .long (sp_J9_floorDiv_f86c9 a b)) (va_runS (As := [.long a, .long b]) (rest := []) ⟨hx, hb, hml, hown, hts⟩ (c_J9_floorDiv_f86c9 l D y s.heap.size a b c_2) (va_cwS 2 hts gX7_cut_J9_floorDiv_f86c9 rfl rfl rfl (by decide +kernel) ⟨Nat.le_of_ble_eq_true rfl, Nat.le_of_ble_eq_true rfl⟩) (gP_S hP hD hK [] (by decide) rfl) rfl rfl hl.1 rfl (lv_room (Nat.le_of_ble_eq_true rfl)) dX7_cut_12 ⟨Nat.zero_le _, Nat.zero_le _⟩) ?_
    exact W.lret (v := sp_J9_floorDiv_f86c9 a b) hx hb hr (fun t ht hW => ⟨congrArg (fun z => Outcome.returned (some (Value.long z))) (by simp only [sp_X7_cut, if_neg c_2]), ht⟩) (fun q h => by cases h) dX7_cut_15
  · skip
    refine lv_lconst (v := 0) hx hb dX7_cut_6 (by decide) ?_
    refine lv_goto (tgt := 15) hx hb dX7_cut_7 (by decide) ?_
    exact W.lret (v := 0) hx hb hr (fun t ht hW => ⟨congrArg (fun z => Outcome.returned (some (Value.long z))) (by simp only [sp_X7_cut, if_pos c_2]), ht⟩) (fun q h => by cases h) dX7_cut_15
def sp_X7_fill (a b : Int64) : Int64 := if b = 0 then 0 else -(sp_J9_floorDiv_f86c9 (-a) b)
set_option maxHeartbeats 4000000 in
set_option maxRecDepth 100000 in
theorem c_X7_fill (l : Launch) (D : va_G) (y : Nat → ClassId) (sz : Nat) (a b : Int64) : Met l yX7_fill wsX7_fill ({ frames := 1, cells := 0, slots := 0, locals := 25 } : Room) (gP D y [.long a, .long b] [] sz) (gR (.long (sp_X7_fill a b))) 0 0 (fun _ => False) := by
  refine Met.ofW (cc := cX7_fill) (maxL := 4) (ret := (some .long)) (by decide) rfl ?_
  intro p e s m args below meth c s₁ B hml hv
  obtain ⟨rfl, hsz, hP, hK, hD0⟩ := hv
  have hx := B.exec
  have hb := B.bytes
  have hr := B.returns
  have hts := atoms_spec (ws := wsX7_fill) B.pre
  have hown : s.vm.findClass RX7 = some m.cls := findClass_of_methodNamed B.named
  have hlocks := B.notSynchronized
  subst hsz
  obtain ⟨A, hAe⟩ : ∃ A : Nat → Prop, A = va_A [] s.heap.size := ⟨_, rfl⟩
  have hD : va_D A [] := by rw [hAe]; exact hD0.self (sz := s.heap.size)
  have hA : ∀ q : Nat, s.heap.size ≤ q → A q := fun q h => by rw [hAe]; exact Or.inr h
  have hS : va_S A s.heap s.heap [] := va_S.rf
  have hl := lv_entry ([.long a, .long b]) (n := 4) (Nat.le_of_ble_eq_true rfl)
  rw [lg_entry_eq]
  generalize (lg_sl ([.long a, .long b]) ++ List.replicate (4 - (lg_sl ([.long a, .long b])).length) Slot.unset).toArray = ls at hl ⊢
  have hl : lv_has ls 4 [(0, .long a), (2, .long b)] := hl
  refine lv_lload_n hx hb dX7_fill_0 rfl (lv_at hl 1 rfl) ?_
  refine lv_lconst (v := 0) hx hb dX7_fill_1 (by decide) ?_
  refine g_ne (tgt := 10) hx hb dX7_fill_2 dX7_fill_3 (by decide) (fun c_2 => ?_) (fun c_2 => ?_)
  · skip
    refine lv_lload_n hx hb dX7_fill_10 rfl (lv_at hl 0 rfl) ?_
    refine lv_lneg hx hb dX7_fill_11 ?_
    refine lv_lload_n hx hb dX7_fill_12 rfl (lv_at hl 1 rfl) ?_
    refine g_callR (v0 := .long (sp_J9_floorDiv_f86c9 (-a) b)) (va_runS (As := [.long (-a), .long b]) (rest := []) ⟨hx, hb, hml, hown, hts⟩ (c_J9_floorDiv_f86c9 l D y s.heap.size (-a) b c_2) (va_cwS 2 hts gX7_fill_J9_floorDiv_f86c9 rfl rfl rfl (by decide +kernel) ⟨Nat.le_of_ble_eq_true rfl, Nat.le_of_ble_eq_true rfl⟩) (gP_S hP hD hK [] (by decide) rfl) rfl rfl hl.1 rfl (lv_room (Nat.le_of_ble_eq_true rfl)) dX7_fill_13 ⟨Nat.zero_le _, Nat.zero_le _⟩) ?_
    refine lv_lneg hx hb dX7_fill_16 ?_
    exact W.lret (v := -(sp_J9_floorDiv_f86c9 (-a) b)) hx hb hr (fun t ht hW => ⟨congrArg (fun z => Outcome.returned (some (Value.long z))) (by simp only [sp_X7_fill, if_neg c_2]), ht⟩) (fun q h => by cases h) dX7_fill_17
  · skip
    refine lv_lconst (v := 0) hx hb dX7_fill_6 (by decide) ?_
    refine lv_goto (tgt := 17) hx hb dX7_fill_7 (by decide) ?_
    exact W.lret (v := 0) hx hb hr (fun t ht hW => ⟨congrArg (fun z => Outcome.returned (some (Value.long z))) (by simp only [sp_X7_fill, if_pos c_2]), ht⟩) (fun q h => by cases h) dX7_fill_17
def sp_X8_in (a b c0 : Int32) : Bool := if a < b then false else if c0 < a then false else true
def sp_X8_isPlace (a : Int32) : Bool := sp_X8_in a 0 24
def sp_X8_cut (a b : Int64) : Int64 := if ((a / b) * b) = a then a / b else if 0 ≤ a then if 0 ≤ b then a / b else (a / b) - 1 else if 0 ≤ b then (a / b) - 1 else a / b
def sp_X8_fill (a b : Int64) : Int64 := if ((a / b) * b) = a then a / b else if 0 ≤ a then if 0 ≤ b then (a / b) + 1 else a / b else if 0 ≤ b then a / b else (a / b) + 1
def sp_X8_least (a b : Int64) : Int64 := if b ≤ a then b else a
def sp_X8_most (a b : Int64) : Int64 := if a ≤ b then b else a
def sp_X8_sign (a : Int64) : Int64 := if a ≤ 0 then if 0 ≤ a then 0 else -1 else 1
def sp_X8_plain (a b c0 d0 x : Int32) : Int32 := ((a + (b * x)) + ((c0 * x) * x)) + (((d0 * x) * x) * x)
theorem in_X2_clear_X2 : ∀ w ∈ wsX20, w ∈ wsX2_clear := fun _ h => List.mem_cons_of_mem _ (List.mem_append_right _ h)
set_option maxHeartbeats 4000000 in
set_option maxRecDepth 100000 in
theorem c_X2_clear (l : Launch) (D : va_G) (y : Nat → ClassId) (sz : Nat) (h0 : Nat) (b0 : Bool) (lo hi : Int64) : Met l yX2_clear wsX2_clear ({ frames := 0, cells := 0, slots := 0, locals := 0 } : Room) (gP D y [.ref h0] [(h0, .inr (1, [.int (gB b0), .long lo, .long hi]))] sz) (gQ D [(h0, .inr (1, [.int (gB b0), .long lo, .long hi]))] (gF none [(h0, .inr (1, [.int (gB false), .long 0, .long 0]))])) 0 0 (va_A [(h0, .inr (1, [.int (gB b0), .long lo, .long hi]))] sz) := by
  refine Met.ofW (cc := cX2_clear) (maxL := 1) (ret := none) (by decide) rfl ?_
  intro p e s m args below meth c s₁ B hml hv
  obtain ⟨rfl, hsz, hP, hK, hD0⟩ := hv
  have hx := B.exec
  have hb := B.bytes
  have hr := B.returns
  have hts := atoms_spec (ws := wsX2_clear) B.pre
  have hown : s.vm.findClass RX2 = some m.cls := findClass_of_methodNamed B.named
  have hlocks := B.notSynchronized
  subst hsz
  obtain ⟨A, hAe⟩ : ∃ A : Nat → Prop, A = va_A [(h0, .inr (1, [.int (gB b0), .long lo, .long hi]))] s.heap.size := ⟨_, rfl⟩
  have hD : va_D A [(h0, .inr (1, [.int (gB b0), .long lo, .long hi]))] := by rw [hAe]; exact hD0.self (sz := s.heap.size)
  have hA : ∀ q : Nat, s.heap.size ≤ q → A q := fun q h => by rw [hAe]; exact Or.inr h
  have hS : va_S A s.heap s.heap [] := va_S.rf
  have hl := lv_entry ([.ref h0]) (n := 1) (Nat.le_of_ble_eq_true rfl)
  rw [lg_entry_eq]
  generalize (lg_sl ([.ref h0]) ++ List.replicate (1 - (lg_sl ([.ref h0])).length) Slot.unset).toArray = ls at hl ⊢
  have hl : lv_has ls 1 [(0, .ref h0)] := hl
  refine lv_aload_n hx hb dX2_clear_0 rfl (lv_at hl 0 rfl) ?_
  refine lv_iconst (v := 0) hx hb dX2_clear_1 (by decide) ?_
  refine va_put (D := D) (ci := 1) (v := .int (gB false)) (ty := .boolean) (C := RX2) (T := TX2) (N := 3) hx hb hts in_X2_clear_X2 tyX2 tyX2_ok nmX2 hown hK.1 hP hD hS 0 rfl rfl 0 (by decide) (hts (.fieldLink RX2 9 "Nestlimit$Interval" "isThere" "Z") (List.mem_of_getElem? (i := 1) rfl)) (fun _ h9 => h9) rfl (by decide +kernel) (gB_n _) (gB_f _) (Nat.le_of_ble_eq_true rfl) dX2_clear_2 (fun H locs hP hD hS => ?_)
  have hP : va_P D vwCl [(h0, .inr (1, [.int (gB false), .long lo, .long hi]))] H := hP
  have hD : va_D A [(h0, .inr (1, [.int (gB false), .long lo, .long hi]))] := hD
  refine lv_aload_n hx hb dX2_clear_5 rfl (lv_at hl 0 rfl) ?_
  refine lv_lconst (v := 0) hx hb dX2_clear_6 (by decide) ?_
  refine va_put (D := D) (ci := 1) (v := .long 0) (ty := .long) (C := RX2) (T := TX2) (N := 3) hx hb hts in_X2_clear_X2 tyX2 tyX2_ok nmX2 hown hK.1 hP hD hS 0 rfl rfl 1 (by decide) (hts (.fieldLink RX2 15 "Nestlimit$Interval" "low" "J") (List.mem_of_getElem? (i := 2) rfl)) (fun _ h9 => h9) rfl (by decide +kernel) (rfl) (rfl) (Nat.le_of_ble_eq_true rfl) dX2_clear_7 (fun H locs hP hD hS => ?_)
  have hP : va_P D vwCl [(h0, .inr (1, [.int (gB false), .long 0, .long hi]))] H := hP
  have hD : va_D A [(h0, .inr (1, [.int (gB false), .long 0, .long hi]))] := hD
  refine lv_aload_n hx hb dX2_clear_10 rfl (lv_at hl 0 rfl) ?_
  refine lv_lconst (v := 0) hx hb dX2_clear_11 (by decide) ?_
  refine va_put (D := D) (ci := 1) (v := .long 0) (ty := .long) (C := RX2) (T := TX2) (N := 3) hx hb hts in_X2_clear_X2 tyX2 tyX2_ok nmX2 hown hK.1 hP hD hS 0 rfl rfl 2 (by decide) (hts (.fieldLink RX2 19 "Nestlimit$Interval" "high" "J") (List.mem_of_getElem? (i := 3) rfl)) (fun _ h9 => h9) rfl (by decide +kernel) (rfl) (rfl) (Nat.le_of_ble_eq_true rfl) dX2_clear_12 (fun H locs hP hD hS => ?_)
  have hP : va_P D vwCl [(h0, .inr (1, [.int (gB false), .long 0, .long 0]))] H := hP
  have hD : va_D A [(h0, .inr (1, [.int (gB false), .long 0, .long 0]))] := hD
  exact W.vret hx hb hr (fun t ht hW => ⟨⟨none, [(h0, .inr (1, [.int (gB false), .long 0, .long 0]))], rfl, ⟨rfl, rfl⟩, rfl, by rw [ht]; exact hP⟩, by rw [← hAe]; exact hS.F ht⟩) (by rw [← hAe]; exact hS.2.2) dX2_clear_15
theorem in_X2_assign_X2 : ∀ w ∈ wsX20, w ∈ wsX2_assign := fun _ h => List.mem_cons_of_mem _ (List.mem_append_right _ h)
set_option maxHeartbeats 4000000 in
set_option maxRecDepth 100000 in
theorem c_X2_assign (l : Launch) (D : va_G) (y : Nat → ClassId) (sz : Nat) (h0 : Nat) (b0 : Bool) (lo hi : Int64) (a b : Int64) : Met l yX2_assign wsX2_assign ({ frames := 0, cells := 0, slots := 0, locals := 0 } : Room) (gP D y [.ref h0, .long a, .long b] [(h0, .inr (1, [.int (gB b0), .long lo, .long hi]))] sz) (gQ D [(h0, .inr (1, [.int (gB b0), .long lo, .long hi]))] (gF none [(h0, .inr (1, [.int (gB true), .long a, .long b]))])) 0 0 (va_A [(h0, .inr (1, [.int (gB b0), .long lo, .long hi]))] sz) := by
  refine Met.ofW (cc := cX2_assign) (maxL := 5) (ret := none) (by decide) rfl ?_
  intro p e s m args below meth c s₁ B hml hv
  obtain ⟨rfl, hsz, hP, hK, hD0⟩ := hv
  have hx := B.exec
  have hb := B.bytes
  have hr := B.returns
  have hts := atoms_spec (ws := wsX2_assign) B.pre
  have hown : s.vm.findClass RX2 = some m.cls := findClass_of_methodNamed B.named
  have hlocks := B.notSynchronized
  subst hsz
  obtain ⟨A, hAe⟩ : ∃ A : Nat → Prop, A = va_A [(h0, .inr (1, [.int (gB b0), .long lo, .long hi]))] s.heap.size := ⟨_, rfl⟩
  have hD : va_D A [(h0, .inr (1, [.int (gB b0), .long lo, .long hi]))] := by rw [hAe]; exact hD0.self (sz := s.heap.size)
  have hA : ∀ q : Nat, s.heap.size ≤ q → A q := fun q h => by rw [hAe]; exact Or.inr h
  have hS : va_S A s.heap s.heap [] := va_S.rf
  have hl := lv_entry ([.ref h0, .long a, .long b]) (n := 5) (Nat.le_of_ble_eq_true rfl)
  rw [lg_entry_eq]
  generalize (lg_sl ([.ref h0, .long a, .long b]) ++ List.replicate (5 - (lg_sl ([.ref h0, .long a, .long b])).length) Slot.unset).toArray = ls at hl ⊢
  have hl : lv_has ls 5 [(0, .ref h0), (1, .long a), (3, .long b)] := hl
  refine lv_aload_n hx hb dX2_assign_0 rfl (lv_at hl 0 rfl) ?_
  refine lv_iconst (v := 1) hx hb dX2_assign_1 (by decide) ?_
  refine va_put (D := D) (ci := 1) (v := .int (gB true)) (ty := .boolean) (C := RX2) (T := TX2) (N := 3) hx hb hts in_X2_assign_X2 tyX2 tyX2_ok nmX2 hown hK.1 hP hD hS 0 rfl rfl 0 (by decide) (hts (.fieldLink RX2 9 "Nestlimit$Interval" "isThere" "Z") (List.mem_of_getElem? (i := 1) rfl)) (fun _ h9 => h9) rfl (by decide +kernel) (gB_n _) (gB_f _) (Nat.le_of_ble_eq_true rfl) dX2_assign_2 (fun H locs hP hD hS => ?_)
  have hP : va_P D vwCl [(h0, .inr (1, [.int (gB true), .long lo, .long hi]))] H := hP
  have hD : va_D A [(h0, .inr (1, [.int (gB true), .long lo, .long hi]))] := hD
  refine lv_aload_n hx hb dX2_assign_5 rfl (lv_at hl 0 rfl) ?_
  refine lv_lload_n hx hb dX2_assign_6 rfl (lv_at hl 1 rfl) ?_
  refine va_put (D := D) (ci := 1) (v := .long a) (ty := .long) (C := RX2) (T := TX2) (N := 3) hx hb hts in_X2_assign_X2 tyX2 tyX2_ok nmX2 hown hK.1 hP hD hS 0 rfl rfl 1 (by decide) (hts (.fieldLink RX2 15 "Nestlimit$Interval" "low" "J") (List.mem_of_getElem? (i := 2) rfl)) (fun _ h9 => h9) rfl (by decide +kernel) (rfl) (rfl) (Nat.le_of_ble_eq_true rfl) dX2_assign_7 (fun H locs hP hD hS => ?_)
  have hP : va_P D vwCl [(h0, .inr (1, [.int (gB true), .long a, .long hi]))] H := hP
  have hD : va_D A [(h0, .inr (1, [.int (gB true), .long a, .long hi]))] := hD
  refine lv_aload_n hx hb dX2_assign_10 rfl (lv_at hl 0 rfl) ?_
  refine lv_lload_n hx hb dX2_assign_11 rfl (lv_at hl 2 rfl) ?_
  refine va_put (D := D) (ci := 1) (v := .long b) (ty := .long) (C := RX2) (T := TX2) (N := 3) hx hb hts in_X2_assign_X2 tyX2 tyX2_ok nmX2 hown hK.1 hP hD hS 0 rfl rfl 2 (by decide) (hts (.fieldLink RX2 19 "Nestlimit$Interval" "high" "J") (List.mem_of_getElem? (i := 3) rfl)) (fun _ h9 => h9) rfl (by decide +kernel) (rfl) (rfl) (Nat.le_of_ble_eq_true rfl) dX2_assign_12 (fun H locs hP hD hS => ?_)
  have hP : va_P D vwCl [(h0, .inr (1, [.int (gB true), .long a, .long b]))] H := hP
  have hD : va_D A [(h0, .inr (1, [.int (gB true), .long a, .long b]))] := hD
  exact W.vret hx hb hr (fun t ht hW => ⟨⟨none, [(h0, .inr (1, [.int (gB true), .long a, .long b]))], rfl, ⟨rfl, rfl⟩, rfl, by rw [ht]; exact hP⟩, by rw [← hAe]; exact hS.F ht⟩) (by rw [← hAe]; exact hS.2.2) dX2_assign_15
def sp_X2_dropBeyondReach_b0 (b0 : Bool) (lo hi : Int64) (i : Int32) : Bool := if lo < (-(64 * (sp_X7_unitsAt i))) then false else if hi ≤ (64 * (sp_X7_unitsAt i)) then b0 else false
def sp_X2_dropBeyondReach_lo (b0 : Bool) (lo hi : Int64) (i : Int32) : Int64 := if lo < (-(64 * (sp_X7_unitsAt i))) then 0 else if hi ≤ (64 * (sp_X7_unitsAt i)) then lo else 0
def sp_X2_dropBeyondReach_hi (b0 : Bool) (lo hi : Int64) (i : Int32) : Int64 := if lo < (-(64 * (sp_X7_unitsAt i))) then 0 else if hi ≤ (64 * (sp_X7_unitsAt i)) then hi else 0
theorem in_X2_dropBeyondReach_X2 : ∀ w ∈ wsX20, w ∈ wsX2_dropBeyondReach := fun _ h => List.mem_cons_of_mem _ (List.mem_append_right _ h)
set_option maxHeartbeats 4000000 in
set_option maxRecDepth 100000 in
theorem c_X2_dropBeyondReach (l : Launch) (D : va_G) (y : Nat → ClassId) (sz : Nat) (h0 : Nat) (b0 : Bool) (lo hi : Int64) (i : Int32) : Met l yX2_dropBeyondReach wsX2_dropBeyondReach ({ frames := 1, cells := 0, slots := 0, locals := 20 } : Room) (gP D y [.ref h0, .int i] [(h0, .inr (1, [.int (gB b0), .long lo, .long hi]))] sz) (gQ D [(h0, .inr (1, [.int (gB b0), .long lo, .long hi]))] (gF none [(h0, .inr (1, [.int (gB (sp_X2_dropBeyondReach_b0 b0 lo hi i)), .long (sp_X2_dropBeyondReach_lo b0 lo hi i), .long (sp_X2_dropBeyondReach_hi b0 lo hi i)]))])) 0 0 (va_A [(h0, .inr (1, [.int (gB b0), .long lo, .long hi]))] sz) := by
  refine Met.ofW (cc := cX2_dropBeyondReach) (maxL := 4) (ret := none) (by decide) rfl ?_
  intro p e s m args below meth c s₁ B hml hv
  obtain ⟨rfl, hsz, hP, hK, hD0⟩ := hv
  have hx := B.exec
  have hb := B.bytes
  have hr := B.returns
  have hts := atoms_spec (ws := wsX2_dropBeyondReach) B.pre
  have hown : s.vm.findClass RX2 = some m.cls := findClass_of_methodNamed B.named
  have hlocks := B.notSynchronized
  subst hsz
  obtain ⟨A, hAe⟩ : ∃ A : Nat → Prop, A = va_A [(h0, .inr (1, [.int (gB b0), .long lo, .long hi]))] s.heap.size := ⟨_, rfl⟩
  have hD : va_D A [(h0, .inr (1, [.int (gB b0), .long lo, .long hi]))] := by rw [hAe]; exact hD0.self (sz := s.heap.size)
  have hA : ∀ q : Nat, s.heap.size ≤ q → A q := fun q h => by rw [hAe]; exact Or.inr h
  have hS : va_S A s.heap s.heap [] := va_S.rf
  have hl := lv_entry ([.ref h0, .int i]) (n := 4) (Nat.le_of_ble_eq_true rfl)
  rw [lg_entry_eq]
  generalize (lg_sl ([.ref h0, .int i]) ++ List.replicate (4 - (lg_sl ([.ref h0, .int i])).length) Slot.unset).toArray = ls at hl ⊢
  have hl : lv_has ls 4 [(0, .ref h0), (1, .int i)] := hl
  refine lv_ldc2 (v := 64) hx hb hown (hts (.constantLong RX2 22 (64)) (List.mem_of_getElem? (i := 1) rfl)) dX2_dropBeyondReach_0 ?_
  refine lv_iload_n hx hb dX2_dropBeyondReach_3 rfl (lv_at hl 1 rfl) ?_
  refine g_callR (v0 := .long (sp_X7_unitsAt i)) (va_runSN (As := [.int i]) (rest := [.long 64]) ⟨hx, hb, hml, hown, hts⟩ (c_X7_unitsAt l D y s.heap.size i) ⟨va_cnB 1 hts gX2_dropBeyondReach_X7_unitsAt_n24 rfl rfl rfl (hK.2.at 2 rfl) (hts (.initialized RX7) (List.mem_of_getElem? (i := 5) rfl)) (by decide +kernel) ⟨Nat.le_of_ble_eq_true rfl, Nat.le_of_ble_eq_true rfl⟩, (hts (.static yX7_unitsAt) (List.mem_of_getElem? (i := 4) rfl)), trivial⟩ (gP_S hP hD hK [] (by decide) rfl) rfl rfl hl.1 rfl (lv_room (Nat.le_of_ble_eq_true rfl)) dX2_dropBeyondReach_4 ⟨Nat.zero_le _, Nat.zero_le _⟩) ?_
  refine lv_lmul hx hb dX2_dropBeyondReach_7 ?_
  refine lv_lstore_n (lv' := [(2, .long (64 * (sp_X7_unitsAt i))), (0, .ref h0), (1, .int i)]) hx hb dX2_dropBeyondReach_8 rfl hl (by decide) rfl (fun ls hl => ?_)
  refine lv_aload_n hx hb dX2_dropBeyondReach_9 rfl (lv_at hl 1 rfl) ?_
  refine va_get (D := D) (ci := 1) (v := .long lo) (C := RX2) (T := TX2) (N := 3) hx hb hts in_X2_dropBeyondReach_X2 hown hK.1 hP 0 rfl rfl 1 (by decide) (hts (.fieldLink RX2 15 "Nestlimit$Interval" "low" "J") (List.mem_of_getElem? (i := 2) rfl)) (fun _ h9 => h9) rfl dX2_dropBeyondReach_10 ?_
  refine lv_lload_n hx hb dX2_dropBeyondReach_13 rfl (lv_at hl 0 rfl) ?_
  refine lv_lneg hx hb dX2_dropBeyondReach_14 ?_
  refine g_lt (tgt := 28) hx hb dX2_dropBeyondReach_15 dX2_dropBeyondReach_16 (by decide) (fun c_15 => ?_) (fun c_15 => ?_)
  · skip
    refine lv_aload_n hx hb dX2_dropBeyondReach_28 rfl (lv_at hl 1 rfl) ?_
    refine g_callv (va_runV (As := []) (rest := []) ⟨hx, hb, hml, hown, hts⟩ (c_X2_clear l D y s.heap.size h0 b0 lo hi) (cwV 0 hts gX2_dropBeyondReach_X2_clear rfl rfl rfl (by decide +kernel) ⟨Nat.le_of_ble_eq_true rfl, Nat.le_of_ble_eq_true rfl⟩) (gP_V hP hD hK [0] (by decide) rfl 0 rfl rfl) rfl rfl hl.1 rfl (lv_room (Nat.le_of_ble_eq_true rfl)) dX2_dropBeyondReach_29 ⟨Nat.zero_le _, Nat.zero_le _⟩) hP hD hS hA [0] rfl (fun H locs hP hD hS => ?_)
    have hP : va_P D vwCl [(h0, .inr (1, [.int (gB false), .long 0, .long 0]))] H := hP
    have hD : va_D A [(h0, .inr (1, [.int (gB false), .long 0, .long 0]))] := hD
    exact W.vret hx hb hr (fun t ht hW => ⟨⟨none, [(h0, .inr (1, [.int (gB false), .long 0, .long 0]))], rfl, ⟨rfl, by simp only [sp_X2_dropBeyondReach_b0, sp_X2_dropBeyondReach_lo, sp_X2_dropBeyondReach_hi, if_pos c_15]⟩, rfl, by rw [ht]; exact hP⟩, by rw [← hAe]; exact hS.F ht⟩) (by rw [← hAe]; exact hS.2.2) dX2_dropBeyondReach_32
  · skip
    refine lv_aload_n hx hb dX2_dropBeyondReach_19 rfl (lv_at hl 1 rfl) ?_
    refine va_get (D := D) (ci := 1) (v := .long hi) (C := RX2) (T := TX2) (N := 3) hx hb hts in_X2_dropBeyondReach_X2 hown hK.1 hP 0 rfl rfl 2 (by decide) (hts (.fieldLink RX2 19 "Nestlimit$Interval" "high" "J") (List.mem_of_getElem? (i := 3) rfl)) (fun _ h9 => h9) rfl dX2_dropBeyondReach_20 ?_
    refine lv_lload_n hx hb dX2_dropBeyondReach_23 rfl (lv_at hl 0 rfl) ?_
    refine g_le (tgt := 32) hx hb dX2_dropBeyondReach_24 dX2_dropBeyondReach_25 (by decide) (fun c_24 => ?_) (fun c_24 => ?_)
    · skip
      exact W.vret hx hb hr (fun t ht hW => ⟨⟨none, [(h0, .inr (1, [.int (gB b0), .long lo, .long hi]))], rfl, ⟨rfl, by simp only [sp_X2_dropBeyondReach_b0, sp_X2_dropBeyondReach_lo, sp_X2_dropBeyondReach_hi, if_neg c_15, if_pos c_24]⟩, rfl, by rw [ht]; exact hP⟩, by rw [← hAe]; exact hS.F ht⟩) (by rw [← hAe]; exact hS.2.2) dX2_dropBeyondReach_32
    · skip
      refine lv_aload_n hx hb dX2_dropBeyondReach_28 rfl (lv_at hl 1 rfl) ?_
      refine g_callv (va_runV (As := []) (rest := []) ⟨hx, hb, hml, hown, hts⟩ (c_X2_clear l D y s.heap.size h0 b0 lo hi) (cwV 0 hts gX2_dropBeyondReach_X2_clear rfl rfl rfl (by decide +kernel) ⟨Nat.le_of_ble_eq_true rfl, Nat.le_of_ble_eq_true rfl⟩) (gP_V hP hD hK [0] (by decide) rfl 0 rfl rfl) rfl rfl hl.1 rfl (lv_room (Nat.le_of_ble_eq_true rfl)) dX2_dropBeyondReach_29 ⟨Nat.zero_le _, Nat.zero_le _⟩) hP hD hS hA [0] rfl (fun H locs hP hD hS => ?_)
      have hP : va_P D vwCl [(h0, .inr (1, [.int (gB false), .long 0, .long 0]))] H := hP
      have hD : va_D A [(h0, .inr (1, [.int (gB false), .long 0, .long 0]))] := hD
      exact W.vret hx hb hr (fun t ht hW => ⟨⟨none, [(h0, .inr (1, [.int (gB false), .long 0, .long 0]))], rfl, ⟨rfl, by simp only [sp_X2_dropBeyondReach_b0, sp_X2_dropBeyondReach_lo, sp_X2_dropBeyondReach_hi, if_neg c_15, if_neg c_24]⟩, rfl, by rw [ht]; exact hP⟩, by rw [← hAe]; exact hS.F ht⟩) (by rw [← hAe]; exact hS.2.2) dX2_dropBeyondReach_32
def sp_X2_narrow_b0 (b0 : Bool) (lo hi : Int64) (b1 : Bool) (lo1 hi1 : Int64) : Bool := if b0 = true then if b1 = true then true else true else if b1 = true then true else b0
def sp_X2_narrow_lo (b0 : Bool) (lo hi : Int64) (b1 : Bool) (lo1 hi1 : Int64) : Int64 := if b0 = true then if b1 = true then jmax (2 * lo) lo1 else 2 * lo else if b1 = true then lo1 else lo
def sp_X2_narrow_hi (b0 : Bool) (lo hi : Int64) (b1 : Bool) (lo1 hi1 : Int64) : Int64 := if b0 = true then if b1 = true then jmin (2 * hi) hi1 else 2 * hi else if b1 = true then hi1 else hi
theorem in_X2_narrow_X2 : ∀ w ∈ wsX20, w ∈ wsX2_narrow := fun _ h => List.mem_cons_of_mem _ (List.mem_append_right _ h)
set_option maxHeartbeats 4000000 in
set_option maxRecDepth 100000 in
theorem c_X2_narrow (l : Launch) (D : va_G) (y : Nat → ClassId) (sz : Nat) (h0 : Nat) (b0 : Bool) (lo hi : Int64) (h1 : Nat) (b1 : Bool) (lo1 hi1 : Int64) : Met l yX2_narrow wsX2_narrow ({ frames := 1, cells := 0, slots := 0, locals := 24 } : Room) (gP D y [.ref h0, .ref h1] [(h0, .inr (1, [.int (gB b0), .long lo, .long hi])), (h1, .inr (1, [.int (gB b1), .long lo1, .long hi1]))] sz) (gQ D [(h0, .inr (1, [.int (gB b0), .long lo, .long hi])), (h1, .inr (1, [.int (gB b1), .long lo1, .long hi1]))] (gF none [(h0, .inr (1, [.int (gB (sp_X2_narrow_b0 b0 lo hi b1 lo1 hi1)), .long (sp_X2_narrow_lo b0 lo hi b1 lo1 hi1), .long (sp_X2_narrow_hi b0 lo hi b1 lo1 hi1)])), (h1, .inr (1, [.int (gB b1), .long lo1, .long hi1]))])) 0 0 (va_A [(h0, .inr (1, [.int (gB b0), .long lo, .long hi])), (h1, .inr (1, [.int (gB b1), .long lo1, .long hi1]))] sz) := by
  refine Met.ofW (cc := cX2_narrow) (maxL := 2) (ret := none) (by decide) rfl ?_
  intro p e s m args below meth c s₁ B hml hv
  obtain ⟨rfl, hsz, hP, hK, hD0⟩ := hv
  have hx := B.exec
  have hb := B.bytes
  have hr := B.returns
  have hts := atoms_spec (ws := wsX2_narrow) B.pre
  have hown : s.vm.findClass RX2 = some m.cls := findClass_of_methodNamed B.named
  have hlocks := B.notSynchronized
  subst hsz
  obtain ⟨A, hAe⟩ : ∃ A : Nat → Prop, A = va_A [(h0, .inr (1, [.int (gB b0), .long lo, .long hi])), (h1, .inr (1, [.int (gB b1), .long lo1, .long hi1]))] s.heap.size := ⟨_, rfl⟩
  have hD : va_D A [(h0, .inr (1, [.int (gB b0), .long lo, .long hi])), (h1, .inr (1, [.int (gB b1), .long lo1, .long hi1]))] := by rw [hAe]; exact hD0.self (sz := s.heap.size)
  have hA : ∀ q : Nat, s.heap.size ≤ q → A q := fun q h => by rw [hAe]; exact Or.inr h
  have hS : va_S A s.heap s.heap [] := va_S.rf
  have hl := lv_entry ([.ref h0, .ref h1]) (n := 2) (Nat.le_of_ble_eq_true rfl)
  rw [lg_entry_eq]
  generalize (lg_sl ([.ref h0, .ref h1]) ++ List.replicate (2 - (lg_sl ([.ref h0, .ref h1])).length) Slot.unset).toArray = ls at hl ⊢
  have hl : lv_has ls 2 [(0, .ref h0), (1, .ref h1)] := hl
  refine lv_aload_n hx hb dX2_narrow_0 rfl (lv_at hl 0 rfl) ?_
  refine va_get (D := D) (ci := 1) (v := .int (gB b0)) (C := RX2) (T := TX2) (N := 3) hx hb hts in_X2_narrow_X2 hown hK.1 hP 0 rfl rfl 0 (by decide) (hts (.fieldLink RX2 9 "Nestlimit$Interval" "isThere" "Z") (List.mem_of_getElem? (i := 1) rfl)) (fun _ h9 => h9) rfl dX2_narrow_1 ?_
  refine g_bne (tgt := 27) hx hb dX2_narrow_4 (by decide) (fun c_4 => ?_) (fun c_4 => ?_)
  · skip
    refine lv_aload_n hx hb dX2_narrow_27 rfl (lv_at hl 0 rfl) ?_
    refine lv_ldc2 (v := 2) hx hb hown (hts (.constantLong RX2 35 (2)) (List.mem_of_getElem? (i := 4) rfl)) dX2_narrow_28 ?_
    refine lv_aload_n hx hb dX2_narrow_31 rfl (lv_at hl 0 rfl) ?_
    refine va_get (D := D) (ci := 1) (v := .long lo) (C := RX2) (T := TX2) (N := 3) hx hb hts in_X2_narrow_X2 hown hK.1 hP 0 rfl rfl 1 (by decide) (hts (.fieldLink RX2 15 "Nestlimit$Interval" "low" "J") (List.mem_of_getElem? (i := 2) rfl)) (fun _ h9 => h9) rfl dX2_narrow_32 ?_
    refine lv_lmul hx hb dX2_narrow_35 ?_
    refine lv_ldc2 (v := 2) hx hb hown (hts (.constantLong RX2 35 (2)) (List.mem_of_getElem? (i := 4) rfl)) dX2_narrow_36 ?_
    refine lv_aload_n hx hb dX2_narrow_39 rfl (lv_at hl 0 rfl) ?_
    refine va_get (D := D) (ci := 1) (v := .long hi) (C := RX2) (T := TX2) (N := 3) hx hb hts in_X2_narrow_X2 hown hK.1 hP 0 rfl rfl 2 (by decide) (hts (.fieldLink RX2 19 "Nestlimit$Interval" "high" "J") (List.mem_of_getElem? (i := 3) rfl)) (fun _ h9 => h9) rfl dX2_narrow_40 ?_
    refine lv_lmul hx hb dX2_narrow_43 ?_
    refine g_callv (va_runV (As := [.long (2 * lo), .long (2 * hi)]) (rest := []) ⟨hx, hb, hml, hown, hts⟩ (c_X2_assign l D y s.heap.size h0 b0 lo hi (2 * lo) (2 * hi)) (cwV 2 hts gX2_narrow_X2_assign rfl rfl rfl (by decide +kernel) ⟨Nat.le_of_ble_eq_true rfl, Nat.le_of_ble_eq_true rfl⟩) (gP_V hP hD hK [0] (by decide) rfl 0 rfl rfl) rfl rfl hl.1 rfl (lv_room (Nat.le_of_ble_eq_true rfl)) dX2_narrow_44 ⟨Nat.zero_le _, Nat.zero_le _⟩) hP hD hS hA [0] rfl (fun H locs hP hD hS => ?_)
    have hP : va_P D vwCl [(h0, .inr (1, [.int (gB true), .long (2 * lo), .long (2 * hi)])), (h1, .inr (1, [.int (gB b1), .long lo1, .long hi1]))] H := hP
    have hD : va_D A [(h0, .inr (1, [.int (gB true), .long (2 * lo), .long (2 * hi)])), (h1, .inr (1, [.int (gB b1), .long lo1, .long hi1]))] := hD
    refine lv_aload_n hx hb dX2_narrow_47 rfl (lv_at hl 1 rfl) ?_
    refine va_get (D := D) (ci := 1) (v := .int (gB b1)) (C := RX2) (T := TX2) (N := 3) hx hb hts in_X2_narrow_X2 hown hK.1 hP 1 rfl rfl 0 (by decide) (hts (.fieldLink RX2 9 "Nestlimit$Interval" "isThere" "Z") (List.mem_of_getElem? (i := 1) rfl)) (fun _ h9 => h9) rfl dX2_narrow_48 ?_
    refine g_beq (tgt := 80) hx hb dX2_narrow_51 (by decide) (fun c_51 => ?_) (fun c_51 => ?_)
    · skip
      exact W.vret hx hb hr (fun t ht hW => ⟨⟨none, [(h0, .inr (1, [.int (gB true), .long (2 * lo), .long (2 * hi)])), (h1, .inr (1, [.int (gB b1), .long lo1, .long hi1]))], rfl, ⟨rfl, by simp only [sp_X2_narrow_b0, sp_X2_narrow_lo, sp_X2_narrow_hi, if_pos c_4, if_neg c_51]⟩, rfl, by rw [ht]; exact hP⟩, by rw [← hAe]; exact hS.F ht⟩) (by rw [← hAe]; exact hS.2.2) dX2_narrow_80
    · skip
      refine lv_aload_n hx hb dX2_narrow_54 rfl (lv_at hl 0 rfl) ?_
      refine lv_aload_n hx hb dX2_narrow_55 rfl (lv_at hl 0 rfl) ?_
      refine va_get (D := D) (ci := 1) (v := .long (2 * lo)) (C := RX2) (T := TX2) (N := 3) hx hb hts in_X2_narrow_X2 hown hK.1 hP 0 rfl rfl 1 (by decide) (hts (.fieldLink RX2 15 "Nestlimit$Interval" "low" "J") (List.mem_of_getElem? (i := 2) rfl)) (fun _ h9 => h9) rfl dX2_narrow_56 ?_
      refine lv_aload_n hx hb dX2_narrow_59 rfl (lv_at hl 1 rfl) ?_
      refine va_get (D := D) (ci := 1) (v := .long lo1) (C := RX2) (T := TX2) (N := 3) hx hb hts in_X2_narrow_X2 hown hK.1 hP 1 rfl rfl 1 (by decide) (hts (.fieldLink RX2 15 "Nestlimit$Interval" "low" "J") (List.mem_of_getElem? (i := 2) rfl)) (fun _ h9 => h9) rfl dX2_narrow_60 ?_
      refine va_mmax_long (rest := [.ref h0]) hx hb (hml.trans hl.1.symm) hown (hts (.methodLink RX2 37 Lib.MathLoose.max_long.x) (List.mem_of_getElem? (i := 5) rfl)) (hts (.static Lib.MathLoose.max_long.x) (List.mem_of_getElem? (i := 6) rfl)) (hts (.initialized "java/lang/Math") (List.mem_of_getElem? (i := 7) rfl)) (hts (.code Lib.MathLoose.max_long.x Lib.MathLoose.max_long.code 4 (some .long)) (List.mem_of_getElem? (i := 8) rfl)) (Nat.le_of_ble_eq_true rfl) (Nat.le_of_ble_eq_true rfl) (Nat.zero_le _) (Nat.zero_le _) dX2_narrow_63 ?_
      refine g_topl (y := jmax (2 * lo) lo1) rfl ?_
      refine lv_aload_n hx hb dX2_narrow_66 rfl (lv_at hl 0 rfl) ?_
      refine va_get (D := D) (ci := 1) (v := .long (2 * hi)) (C := RX2) (T := TX2) (N := 3) hx hb hts in_X2_narrow_X2 hown hK.1 hP 0 rfl rfl 2 (by decide) (hts (.fieldLink RX2 19 "Nestlimit$Interval" "high" "J") (List.mem_of_getElem? (i := 3) rfl)) (fun _ h9 => h9) rfl dX2_narrow_67 ?_
      refine lv_aload_n hx hb dX2_narrow_70 rfl (lv_at hl 1 rfl) ?_
      refine va_get (D := D) (ci := 1) (v := .long hi1) (C := RX2) (T := TX2) (N := 3) hx hb hts in_X2_narrow_X2 hown hK.1 hP 1 rfl rfl 2 (by decide) (hts (.fieldLink RX2 19 "Nestlimit$Interval" "high" "J") (List.mem_of_getElem? (i := 3) rfl)) (fun _ h9 => h9) rfl dX2_narrow_71 ?_
      refine va_mmin_long (rest := [.long (jmax (2 * lo) lo1), .ref h0]) hx hb (hml.trans hl.1.symm) hown (hts (.methodLink RX2 43 Lib.MathLoose.min_long.x) (List.mem_of_getElem? (i := 9) rfl)) (hts (.static Lib.MathLoose.min_long.x) (List.mem_of_getElem? (i := 10) rfl)) (hts (.initialized "java/lang/Math") (List.mem_of_getElem? (i := 7) rfl)) (hts (.code Lib.MathLoose.min_long.x Lib.MathLoose.min_long.code 4 (some .long)) (List.mem_of_getElem? (i := 11) rfl)) (Nat.le_of_ble_eq_true rfl) (Nat.le_of_ble_eq_true rfl) (Nat.zero_le _) (Nat.zero_le _) dX2_narrow_74 ?_
      refine g_topl (y := jmin (2 * hi) hi1) rfl ?_
      refine g_callv (va_runV (As := [.long (jmax (2 * lo) lo1), .long (jmin (2 * hi) hi1)]) (rest := []) ⟨hx, hb, hml, hown, hts⟩ (c_X2_assign l D y H.size h0 true (2 * lo) (2 * hi) (jmax (2 * lo) lo1) (jmin (2 * hi) hi1)) (cwV 2 hts gX2_narrow_X2_assign rfl rfl rfl (by decide +kernel) ⟨Nat.le_of_ble_eq_true rfl, Nat.le_of_ble_eq_true rfl⟩) (gP_V hP hD hK [0] (by decide) rfl 0 rfl rfl) rfl rfl hl.1 rfl (lv_room (Nat.le_of_ble_eq_true rfl)) dX2_narrow_77 ⟨Nat.zero_le _, Nat.zero_le _⟩) hP hD hS hA [0] rfl (fun H locs hP hD hS => ?_)
      have hP : va_P D vwCl [(h0, .inr (1, [.int (gB true), .long (jmax (2 * lo) lo1), .long (jmin (2 * hi) hi1)])), (h1, .inr (1, [.int (gB b1), .long lo1, .long hi1]))] H := hP
      have hD : va_D A [(h0, .inr (1, [.int (gB true), .long (jmax (2 * lo) lo1), .long (jmin (2 * hi) hi1)])), (h1, .inr (1, [.int (gB b1), .long lo1, .long hi1]))] := hD
      exact W.vret hx hb hr (fun t ht hW => ⟨⟨none, [(h0, .inr (1, [.int (gB true), .long (jmax (2 * lo) lo1), .long (jmin (2 * hi) hi1)])), (h1, .inr (1, [.int (gB b1), .long lo1, .long hi1]))], rfl, ⟨rfl, by simp only [sp_X2_narrow_b0, sp_X2_narrow_lo, sp_X2_narrow_hi, if_pos c_4, if_pos c_51]⟩, rfl, by rw [ht]; exact hP⟩, by rw [← hAe]; exact hS.F ht⟩) (by rw [← hAe]; exact hS.2.2) dX2_narrow_80
  · skip
    refine lv_aload_n hx hb dX2_narrow_7 rfl (lv_at hl 1 rfl) ?_
    refine va_get (D := D) (ci := 1) (v := .int (gB b1)) (C := RX2) (T := TX2) (N := 3) hx hb hts in_X2_narrow_X2 hown hK.1 hP 1 rfl rfl 0 (by decide) (hts (.fieldLink RX2 9 "Nestlimit$Interval" "isThere" "Z") (List.mem_of_getElem? (i := 1) rfl)) (fun _ h9 => h9) rfl dX2_narrow_8 ?_
    refine g_beq (tgt := 26) hx hb dX2_narrow_11 (by decide) (fun c_11 => ?_) (fun c_11 => ?_)
    · skip
      exact W.vret hx hb hr (fun t ht hW => ⟨⟨none, [(h0, .inr (1, [.int (gB b0), .long lo, .long hi])), (h1, .inr (1, [.int (gB b1), .long lo1, .long hi1]))], rfl, ⟨rfl, by simp only [sp_X2_narrow_b0, sp_X2_narrow_lo, sp_X2_narrow_hi, if_neg c_4, if_neg c_11]⟩, rfl, by rw [ht]; exact hP⟩, by rw [← hAe]; exact hS.F ht⟩) (by rw [← hAe]; exact hS.2.2) dX2_narrow_26
    · skip
      refine lv_aload_n hx hb dX2_narrow_14 rfl (lv_at hl 0 rfl) ?_
      refine lv_aload_n hx hb dX2_narrow_15 rfl (lv_at hl 1 rfl) ?_
      refine va_get (D := D) (ci := 1) (v := .long lo1) (C := RX2) (T := TX2) (N := 3) hx hb hts in_X2_narrow_X2 hown hK.1 hP 1 rfl rfl 1 (by decide) (hts (.fieldLink RX2 15 "Nestlimit$Interval" "low" "J") (List.mem_of_getElem? (i := 2) rfl)) (fun _ h9 => h9) rfl dX2_narrow_16 ?_
      refine lv_aload_n hx hb dX2_narrow_19 rfl (lv_at hl 1 rfl) ?_
      refine va_get (D := D) (ci := 1) (v := .long hi1) (C := RX2) (T := TX2) (N := 3) hx hb hts in_X2_narrow_X2 hown hK.1 hP 1 rfl rfl 2 (by decide) (hts (.fieldLink RX2 19 "Nestlimit$Interval" "high" "J") (List.mem_of_getElem? (i := 3) rfl)) (fun _ h9 => h9) rfl dX2_narrow_20 ?_
      refine g_callv (va_runV (As := [.long lo1, .long hi1]) (rest := []) ⟨hx, hb, hml, hown, hts⟩ (c_X2_assign l D y s.heap.size h0 b0 lo hi lo1 hi1) (cwV 2 hts gX2_narrow_X2_assign rfl rfl rfl (by decide +kernel) ⟨Nat.le_of_ble_eq_true rfl, Nat.le_of_ble_eq_true rfl⟩) (gP_V hP hD hK [0] (by decide) rfl 0 rfl rfl) rfl rfl hl.1 rfl (lv_room (Nat.le_of_ble_eq_true rfl)) dX2_narrow_23 ⟨Nat.zero_le _, Nat.zero_le _⟩) hP hD hS hA [0] rfl (fun H locs hP hD hS => ?_)
      have hP : va_P D vwCl [(h0, .inr (1, [.int (gB true), .long lo1, .long hi1])), (h1, .inr (1, [.int (gB b1), .long lo1, .long hi1]))] H := hP
      have hD : va_D A [(h0, .inr (1, [.int (gB true), .long lo1, .long hi1])), (h1, .inr (1, [.int (gB b1), .long lo1, .long hi1]))] := hD
      exact W.vret hx hb hr (fun t ht hW => ⟨⟨none, [(h0, .inr (1, [.int (gB true), .long lo1, .long hi1])), (h1, .inr (1, [.int (gB b1), .long lo1, .long hi1]))], rfl, ⟨rfl, by simp only [sp_X2_narrow_b0, sp_X2_narrow_lo, sp_X2_narrow_hi, if_neg c_4, if_pos c_11]⟩, rfl, by rw [ht]; exact hP⟩, by rw [← hAe]; exact hS.F ht⟩) (by rw [← hAe]; exact hS.2.2) dX2_narrow_26
def sp_X2_multiply_lo (lo1 hi1 lo2 hi2 : Int64) (i : Int32) : Int64 := sp_X7_cut (jmin (jmin (lo1 * lo2) (lo1 * hi2)) (jmin (hi1 * lo2) (hi1 * hi2))) (sp_X7_unitsAt i)
def sp_X2_multiply_hi (lo1 hi1 lo2 hi2 : Int64) (i : Int32) : Int64 := sp_X7_fill (jmax (jmax (lo1 * lo2) (lo1 * hi2)) (jmax (hi1 * lo2) (hi1 * hi2))) (sp_X7_unitsAt i)
theorem in_X2_multiply_X2 : ∀ w ∈ wsX20, w ∈ wsX2_multiply := fun _ h => List.mem_cons_of_mem _ (List.mem_append_right _ h)
set_option maxHeartbeats 4000000 in
set_option maxRecDepth 100000 in
theorem c_X2_multiply (l : Launch) (D : va_G) (y : Nat → ClassId) (sz : Nat) (h0 : Nat) (b0 : Bool) (lo hi : Int64) (h1 : Nat) (b1 : Bool) (lo1 hi1 : Int64) (h2 : Nat) (b2 : Bool) (lo2 hi2 : Int64) (i : Int32) : Met l yX2_multiply wsX2_multiply ({ frames := 2, cells := 0, slots := 0, locals := 48 } : Room) (gP D y [.ref h0, .ref h1, .ref h2, .int i] [(h0, .inr (1, [.int (gB b0), .long lo, .long hi])), (h1, .inr (1, [.int (gB b1), .long lo1, .long hi1])), (h2, .inr (1, [.int (gB b2), .long lo2, .long hi2]))] sz) (gQ D [(h0, .inr (1, [.int (gB b0), .long lo, .long hi])), (h1, .inr (1, [.int (gB b1), .long lo1, .long hi1])), (h2, .inr (1, [.int (gB b2), .long lo2, .long hi2]))] (gF none [(h0, .inr (1, [.int (gB true), .long (sp_X2_multiply_lo lo1 hi1 lo2 hi2 i), .long (sp_X2_multiply_hi lo1 hi1 lo2 hi2 i)])), (h1, .inr (1, [.int (gB b1), .long lo1, .long hi1])), (h2, .inr (1, [.int (gB b2), .long lo2, .long hi2]))])) 0 0 (va_A [(h0, .inr (1, [.int (gB b0), .long lo, .long hi])), (h1, .inr (1, [.int (gB b1), .long lo1, .long hi1])), (h2, .inr (1, [.int (gB b2), .long lo2, .long hi2]))] sz) := by
  refine Met.ofW (cc := cX2_multiply) (maxL := 16) (ret := none) (by decide) rfl ?_
  intro p e s m args below meth c s₁ B hml hv
  obtain ⟨rfl, hsz, hP, hK, hD0⟩ := hv
  have hx := B.exec
  have hb := B.bytes
  have hr := B.returns
  have hts := atoms_spec (ws := wsX2_multiply) B.pre
  have hown : s.vm.findClass RX2 = some m.cls := findClass_of_methodNamed B.named
  have hlocks := B.notSynchronized
  subst hsz
  obtain ⟨A, hAe⟩ : ∃ A : Nat → Prop, A = va_A [(h0, .inr (1, [.int (gB b0), .long lo, .long hi])), (h1, .inr (1, [.int (gB b1), .long lo1, .long hi1])), (h2, .inr (1, [.int (gB b2), .long lo2, .long hi2]))] s.heap.size := ⟨_, rfl⟩
  have hD : va_D A [(h0, .inr (1, [.int (gB b0), .long lo, .long hi])), (h1, .inr (1, [.int (gB b1), .long lo1, .long hi1])), (h2, .inr (1, [.int (gB b2), .long lo2, .long hi2]))] := by rw [hAe]; exact hD0.self (sz := s.heap.size)
  have hA : ∀ q : Nat, s.heap.size ≤ q → A q := fun q h => by rw [hAe]; exact Or.inr h
  have hS : va_S A s.heap s.heap [] := va_S.rf
  have hl := lv_entry ([.ref h0, .ref h1, .ref h2, .int i]) (n := 16) (Nat.le_of_ble_eq_true rfl)
  rw [lg_entry_eq]
  generalize (lg_sl ([.ref h0, .ref h1, .ref h2, .int i]) ++ List.replicate (16 - (lg_sl ([.ref h0, .ref h1, .ref h2, .int i])).length) Slot.unset).toArray = ls at hl ⊢
  have hl : lv_has ls 16 [(0, .ref h0), (1, .ref h1), (2, .ref h2), (3, .int i)] := hl
  refine lv_aload_n hx hb dX2_multiply_0 rfl (lv_at hl 1 rfl) ?_
  refine va_get (D := D) (ci := 1) (v := .long lo1) (C := RX2) (T := TX2) (N := 3) hx hb hts in_X2_multiply_X2 hown hK.1 hP 1 rfl rfl 1 (by decide) (hts (.fieldLink RX2 15 "Nestlimit$Interval" "low" "J") (List.mem_of_getElem? (i := 1) rfl)) (fun _ h9 => h9) rfl dX2_multiply_1 ?_
  refine lv_aload_n hx hb dX2_multiply_4 rfl (lv_at hl 2 rfl) ?_
  refine va_get (D := D) (ci := 1) (v := .long lo2) (C := RX2) (T := TX2) (N := 3) hx hb hts in_X2_multiply_X2 hown hK.1 hP 2 rfl rfl 1 (by decide) (hts (.fieldLink RX2 15 "Nestlimit$Interval" "low" "J") (List.mem_of_getElem? (i := 1) rfl)) (fun _ h9 => h9) rfl dX2_multiply_5 ?_
  refine lv_lmul hx hb dX2_multiply_8 ?_
  refine lv_lstore (lv' := [(4, .long (lo1 * lo2)), (0, .ref h0), (1, .ref h1), (2, .ref h2), (3, .int i)]) hx hb dX2_multiply_9 hl (by decide) rfl (fun ls hl => ?_)
  refine lv_aload_n hx hb dX2_multiply_11 rfl (lv_at hl 2 rfl) ?_
  refine va_get (D := D) (ci := 1) (v := .long lo1) (C := RX2) (T := TX2) (N := 3) hx hb hts in_X2_multiply_X2 hown hK.1 hP 1 rfl rfl 1 (by decide) (hts (.fieldLink RX2 15 "Nestlimit$Interval" "low" "J") (List.mem_of_getElem? (i := 1) rfl)) (fun _ h9 => h9) rfl dX2_multiply_12 ?_
  refine lv_aload_n hx hb dX2_multiply_15 rfl (lv_at hl 3 rfl) ?_
  refine va_get (D := D) (ci := 1) (v := .long hi2) (C := RX2) (T := TX2) (N := 3) hx hb hts in_X2_multiply_X2 hown hK.1 hP 2 rfl rfl 2 (by decide) (hts (.fieldLink RX2 19 "Nestlimit$Interval" "high" "J") (List.mem_of_getElem? (i := 2) rfl)) (fun _ h9 => h9) rfl dX2_multiply_16 ?_
  refine lv_lmul hx hb dX2_multiply_19 ?_
  refine lv_lstore (lv' := [(6, .long (lo1 * hi2)), (4, .long (lo1 * lo2)), (0, .ref h0), (1, .ref h1), (2, .ref h2), (3, .int i)]) hx hb dX2_multiply_20 hl (by decide) rfl (fun ls hl => ?_)
  refine lv_aload_n hx hb dX2_multiply_22 rfl (lv_at hl 3 rfl) ?_
  refine va_get (D := D) (ci := 1) (v := .long hi1) (C := RX2) (T := TX2) (N := 3) hx hb hts in_X2_multiply_X2 hown hK.1 hP 1 rfl rfl 2 (by decide) (hts (.fieldLink RX2 19 "Nestlimit$Interval" "high" "J") (List.mem_of_getElem? (i := 2) rfl)) (fun _ h9 => h9) rfl dX2_multiply_23 ?_
  refine lv_aload_n hx hb dX2_multiply_26 rfl (lv_at hl 4 rfl) ?_
  refine va_get (D := D) (ci := 1) (v := .long lo2) (C := RX2) (T := TX2) (N := 3) hx hb hts in_X2_multiply_X2 hown hK.1 hP 2 rfl rfl 1 (by decide) (hts (.fieldLink RX2 15 "Nestlimit$Interval" "low" "J") (List.mem_of_getElem? (i := 1) rfl)) (fun _ h9 => h9) rfl dX2_multiply_27 ?_
  refine lv_lmul hx hb dX2_multiply_30 ?_
  refine lv_lstore (lv' := [(8, .long (hi1 * lo2)), (6, .long (lo1 * hi2)), (4, .long (lo1 * lo2)), (0, .ref h0), (1, .ref h1), (2, .ref h2), (3, .int i)]) hx hb dX2_multiply_31 hl (by decide) rfl (fun ls hl => ?_)
  refine lv_aload_n hx hb dX2_multiply_33 rfl (lv_at hl 4 rfl) ?_
  refine va_get (D := D) (ci := 1) (v := .long hi1) (C := RX2) (T := TX2) (N := 3) hx hb hts in_X2_multiply_X2 hown hK.1 hP 1 rfl rfl 2 (by decide) (hts (.fieldLink RX2 19 "Nestlimit$Interval" "high" "J") (List.mem_of_getElem? (i := 2) rfl)) (fun _ h9 => h9) rfl dX2_multiply_34 ?_
  refine lv_aload_n hx hb dX2_multiply_37 rfl (lv_at hl 5 rfl) ?_
  refine va_get (D := D) (ci := 1) (v := .long hi2) (C := RX2) (T := TX2) (N := 3) hx hb hts in_X2_multiply_X2 hown hK.1 hP 2 rfl rfl 2 (by decide) (hts (.fieldLink RX2 19 "Nestlimit$Interval" "high" "J") (List.mem_of_getElem? (i := 2) rfl)) (fun _ h9 => h9) rfl dX2_multiply_38 ?_
  refine lv_lmul hx hb dX2_multiply_41 ?_
  refine lv_lstore (lv' := [(10, .long (hi1 * hi2)), (8, .long (hi1 * lo2)), (6, .long (lo1 * hi2)), (4, .long (lo1 * lo2)), (0, .ref h0), (1, .ref h1), (2, .ref h2), (3, .int i)]) hx hb dX2_multiply_42 hl (by decide) rfl (fun ls hl => ?_)
  refine lv_lload hx hb dX2_multiply_44 (lv_at hl 3 rfl) ?_
  refine lv_lload hx hb dX2_multiply_46 (lv_at hl 2 rfl) ?_
  refine va_mmin_long (rest := []) hx hb (hml.trans hl.1.symm) hown (hts (.methodLink RX2 43 Lib.MathLoose.min_long.x) (List.mem_of_getElem? (i := 3) rfl)) (hts (.static Lib.MathLoose.min_long.x) (List.mem_of_getElem? (i := 4) rfl)) (hts (.initialized "java/lang/Math") (List.mem_of_getElem? (i := 5) rfl)) (hts (.code Lib.MathLoose.min_long.x Lib.MathLoose.min_long.code 4 (some .long)) (List.mem_of_getElem? (i := 6) rfl)) (Nat.le_of_ble_eq_true rfl) (Nat.le_of_ble_eq_true rfl) (Nat.zero_le _) (Nat.zero_le _) dX2_multiply_48 ?_
  refine g_topl (y := jmin (lo1 * lo2) (lo1 * hi2)) rfl ?_
  refine lv_lload hx hb dX2_multiply_51 (lv_at hl 1 rfl) ?_
  refine lv_lload hx hb dX2_multiply_53 (lv_at hl 0 rfl) ?_
  refine va_mmin_long (rest := [.long (jmin (lo1 * lo2) (lo1 * hi2))]) hx hb (hml.trans hl.1.symm) hown (hts (.methodLink RX2 43 Lib.MathLoose.min_long.x) (List.mem_of_getElem? (i := 3) rfl)) (hts (.static Lib.MathLoose.min_long.x) (List.mem_of_getElem? (i := 4) rfl)) (hts (.initialized "java/lang/Math") (List.mem_of_getElem? (i := 5) rfl)) (hts (.code Lib.MathLoose.min_long.x Lib.MathLoose.min_long.code 4 (some .long)) (List.mem_of_getElem? (i := 6) rfl)) (Nat.le_of_ble_eq_true rfl) (Nat.le_of_ble_eq_true rfl) (Nat.zero_le _) (Nat.zero_le _) dX2_multiply_55 ?_
  refine g_topl (y := jmin (hi1 * lo2) (hi1 * hi2)) rfl ?_
  refine va_mmin_long (rest := []) hx hb (hml.trans hl.1.symm) hown (hts (.methodLink RX2 43 Lib.MathLoose.min_long.x) (List.mem_of_getElem? (i := 3) rfl)) (hts (.static Lib.MathLoose.min_long.x) (List.mem_of_getElem? (i := 4) rfl)) (hts (.initialized "java/lang/Math") (List.mem_of_getElem? (i := 5) rfl)) (hts (.code Lib.MathLoose.min_long.x Lib.MathLoose.min_long.code 4 (some .long)) (List.mem_of_getElem? (i := 6) rfl)) (Nat.le_of_ble_eq_true rfl) (Nat.le_of_ble_eq_true rfl) (Nat.zero_le _) (Nat.zero_le _) dX2_multiply_58 ?_
  refine g_topl (y := jmin (jmin (lo1 * lo2) (lo1 * hi2)) (jmin (hi1 * lo2) (hi1 * hi2))) rfl ?_
  refine lv_lstore (lv' := [(12, .long (jmin (jmin (lo1 * lo2) (lo1 * hi2)) (jmin (hi1 * lo2) (hi1 * hi2)))), (10, .long (hi1 * hi2)), (8, .long (hi1 * lo2)), (6, .long (lo1 * hi2)), (4, .long (lo1 * lo2)), (0, .ref h0), (1, .ref h1), (2, .ref h2), (3, .int i)]) hx hb dX2_multiply_61 hl (by decide) rfl (fun ls hl => ?_)
  refine lv_lload hx hb dX2_multiply_63 (lv_at hl 4 rfl) ?_
  refine lv_lload hx hb dX2_multiply_65 (lv_at hl 3 rfl) ?_
  refine va_mmax_long (rest := []) hx hb (hml.trans hl.1.symm) hown (hts (.methodLink RX2 37 Lib.MathLoose.max_long.x) (List.mem_of_getElem? (i := 7) rfl)) (hts (.static Lib.MathLoose.max_long.x) (List.mem_of_getElem? (i := 8) rfl)) (hts (.initialized "java/lang/Math") (List.mem_of_getElem? (i := 5) rfl)) (hts (.code Lib.MathLoose.max_long.x Lib.MathLoose.max_long.code 4 (some .long)) (List.mem_of_getElem? (i := 9) rfl)) (Nat.le_of_ble_eq_true rfl) (Nat.le_of_ble_eq_true rfl) (Nat.zero_le _) (Nat.zero_le _) dX2_multiply_67 ?_
  refine g_topl (y := jmax (lo1 * lo2) (lo1 * hi2)) rfl ?_
  refine lv_lload hx hb dX2_multiply_70 (lv_at hl 2 rfl) ?_
  refine lv_lload hx hb dX2_multiply_72 (lv_at hl 1 rfl) ?_
  refine va_mmax_long (rest := [.long (jmax (lo1 * lo2) (lo1 * hi2))]) hx hb (hml.trans hl.1.symm) hown (hts (.methodLink RX2 37 Lib.MathLoose.max_long.x) (List.mem_of_getElem? (i := 7) rfl)) (hts (.static Lib.MathLoose.max_long.x) (List.mem_of_getElem? (i := 8) rfl)) (hts (.initialized "java/lang/Math") (List.mem_of_getElem? (i := 5) rfl)) (hts (.code Lib.MathLoose.max_long.x Lib.MathLoose.max_long.code 4 (some .long)) (List.mem_of_getElem? (i := 9) rfl)) (Nat.le_of_ble_eq_true rfl) (Nat.le_of_ble_eq_true rfl) (Nat.zero_le _) (Nat.zero_le _) dX2_multiply_74 ?_
  refine g_topl (y := jmax (hi1 * lo2) (hi1 * hi2)) rfl ?_
  refine va_mmax_long (rest := []) hx hb (hml.trans hl.1.symm) hown (hts (.methodLink RX2 37 Lib.MathLoose.max_long.x) (List.mem_of_getElem? (i := 7) rfl)) (hts (.static Lib.MathLoose.max_long.x) (List.mem_of_getElem? (i := 8) rfl)) (hts (.initialized "java/lang/Math") (List.mem_of_getElem? (i := 5) rfl)) (hts (.code Lib.MathLoose.max_long.x Lib.MathLoose.max_long.code 4 (some .long)) (List.mem_of_getElem? (i := 9) rfl)) (Nat.le_of_ble_eq_true rfl) (Nat.le_of_ble_eq_true rfl) (Nat.zero_le _) (Nat.zero_le _) dX2_multiply_77 ?_
  refine g_topl (y := jmax (jmax (lo1 * lo2) (lo1 * hi2)) (jmax (hi1 * lo2) (hi1 * hi2))) rfl ?_
  refine lv_lstore (lv' := [(14, .long (jmax (jmax (lo1 * lo2) (lo1 * hi2)) (jmax (hi1 * lo2) (hi1 * hi2)))), (12, .long (jmin (jmin (lo1 * lo2) (lo1 * hi2)) (jmin (hi1 * lo2) (hi1 * hi2)))), (10, .long (hi1 * hi2)), (8, .long (hi1 * lo2)), (6, .long (lo1 * hi2)), (4, .long (lo1 * lo2)), (0, .ref h0), (1, .ref h1), (2, .ref h2), (3, .int i)]) hx hb dX2_multiply_80 hl (by decide) rfl (fun ls hl => ?_)
  refine lv_aload_n hx hb dX2_multiply_82 rfl (lv_at hl 6 rfl) ?_
  refine lv_lload hx hb dX2_multiply_83 (lv_at hl 1 rfl) ?_
  refine lv_iload_n hx hb dX2_multiply_85 rfl (lv_at hl 9 rfl) ?_
  refine g_callR (v0 := .long (sp_X7_unitsAt i)) (va_runSN (As := [.int i]) (rest := [.long (jmin (jmin (lo1 * lo2) (lo1 * hi2)) (jmin (hi1 * lo2) (hi1 * hi2))), .ref h0]) ⟨hx, hb, hml, hown, hts⟩ (c_X7_unitsAt l D y s.heap.size i) ⟨va_cnB 1 hts gX2_multiply_X7_unitsAt_n24 rfl rfl rfl (hK.2.at 2 rfl) (hts (.initialized RX7) (List.mem_of_getElem? (i := 11) rfl)) (by decide +kernel) ⟨Nat.le_of_ble_eq_true rfl, Nat.le_of_ble_eq_true rfl⟩, (hts (.static yX7_unitsAt) (List.mem_of_getElem? (i := 10) rfl)), trivial⟩ (gP_S hP hD hK [] (by decide) rfl) rfl rfl hl.1 rfl (lv_room (Nat.le_of_ble_eq_true rfl)) dX2_multiply_86 ⟨Nat.zero_le _, Nat.zero_le _⟩) ?_
  refine g_callR (v0 := .long (sp_X7_cut (jmin (jmin (lo1 * lo2) (lo1 * hi2)) (jmin (hi1 * lo2) (hi1 * hi2))) (sp_X7_unitsAt i))) (va_runSN (As := [.long (jmin (jmin (lo1 * lo2) (lo1 * hi2)) (jmin (hi1 * lo2) (hi1 * hi2))), .long (sp_X7_unitsAt i)]) (rest := [.ref h0]) ⟨hx, hb, hml, hown, hts⟩ (c_X7_cut l D y s.heap.size (jmin (jmin (lo1 * lo2) (lo1 * hi2)) (jmin (hi1 * lo2) (hi1 * hi2))) (sp_X7_unitsAt i)) ⟨va_cnB 2 hts gX2_multiply_X7_cut_n46 rfl rfl rfl (hK.2.at 3 rfl) (hts (.initialized RX7) (List.mem_of_getElem? (i := 11) rfl)) (by decide +kernel) ⟨Nat.le_of_ble_eq_true rfl, Nat.le_of_ble_eq_true rfl⟩, (hts (.static yX7_cut) (List.mem_of_getElem? (i := 13) rfl)), trivial⟩ (gP_S hP hD hK [] (by decide) rfl) rfl rfl hl.1 rfl (lv_room (Nat.le_of_ble_eq_true rfl)) dX2_multiply_89 ⟨Nat.zero_le _, Nat.zero_le _⟩) ?_
  refine lv_lload hx hb dX2_multiply_92 (lv_at hl 0 rfl) ?_
  refine lv_iload_n hx hb dX2_multiply_94 rfl (lv_at hl 9 rfl) ?_
  refine g_callR (v0 := .long (sp_X7_unitsAt i)) (va_runSN (As := [.int i]) (rest := [.long (jmax (jmax (lo1 * lo2) (lo1 * hi2)) (jmax (hi1 * lo2) (hi1 * hi2))), .long (sp_X7_cut (jmin (jmin (lo1 * lo2) (lo1 * hi2)) (jmin (hi1 * lo2) (hi1 * hi2))) (sp_X7_unitsAt i)), .ref h0]) ⟨hx, hb, hml, hown, hts⟩ (c_X7_unitsAt l D y s.heap.size i) ⟨va_cnB 1 hts gX2_multiply_X7_unitsAt_n24 rfl rfl rfl (hK.2.at 2 rfl) (hts (.initialized RX7) (List.mem_of_getElem? (i := 11) rfl)) (by decide +kernel) ⟨Nat.le_of_ble_eq_true rfl, Nat.le_of_ble_eq_true rfl⟩, (hts (.static yX7_unitsAt) (List.mem_of_getElem? (i := 10) rfl)), trivial⟩ (gP_S hP hD hK [] (by decide) rfl) rfl rfl hl.1 rfl (lv_room (Nat.le_of_ble_eq_true rfl)) dX2_multiply_95 ⟨Nat.zero_le _, Nat.zero_le _⟩) ?_
  refine g_callR (v0 := .long (sp_X7_fill (jmax (jmax (lo1 * lo2) (lo1 * hi2)) (jmax (hi1 * lo2) (hi1 * hi2))) (sp_X7_unitsAt i))) (va_runSN (As := [.long (jmax (jmax (lo1 * lo2) (lo1 * hi2)) (jmax (hi1 * lo2) (hi1 * hi2))), .long (sp_X7_unitsAt i)]) (rest := [.long (sp_X7_cut (jmin (jmin (lo1 * lo2) (lo1 * hi2)) (jmin (hi1 * lo2) (hi1 * hi2))) (sp_X7_unitsAt i)), .ref h0]) ⟨hx, hb, hml, hown, hts⟩ (c_X7_fill l D y s.heap.size (jmax (jmax (lo1 * lo2) (lo1 * hi2)) (jmax (hi1 * lo2) (hi1 * hi2))) (sp_X7_unitsAt i)) ⟨va_cnB 2 hts gX2_multiply_X7_fill_n49 rfl rfl rfl (hK.2.at 4 rfl) (hts (.initialized RX7) (List.mem_of_getElem? (i := 11) rfl)) (by decide +kernel) ⟨Nat.le_of_ble_eq_true rfl, Nat.le_of_ble_eq_true rfl⟩, (hts (.static yX7_fill) (List.mem_of_getElem? (i := 19) rfl)), trivial⟩ (gP_S hP hD hK [] (by decide) rfl) rfl rfl hl.1 rfl (lv_room (Nat.le_of_ble_eq_true rfl)) dX2_multiply_98 ⟨Nat.zero_le _, Nat.zero_le _⟩) ?_
  refine g_callv (va_runV (As := [.long (sp_X7_cut (jmin (jmin (lo1 * lo2) (lo1 * hi2)) (jmin (hi1 * lo2) (hi1 * hi2))) (sp_X7_unitsAt i)), .long (sp_X7_fill (jmax (jmax (lo1 * lo2) (lo1 * hi2)) (jmax (hi1 * lo2) (hi1 * hi2))) (sp_X7_unitsAt i))]) (rest := []) ⟨hx, hb, hml, hown, hts⟩ (c_X2_assign l D y s.heap.size h0 b0 lo hi (sp_X7_cut (jmin (jmin (lo1 * lo2) (lo1 * hi2)) (jmin (hi1 * lo2) (hi1 * hi2))) (sp_X7_unitsAt i)) (sp_X7_fill (jmax (jmax (lo1 * lo2) (lo1 * hi2)) (jmax (hi1 * lo2) (hi1 * hi2))) (sp_X7_unitsAt i))) (cwV 2 hts gX2_multiply_X2_assign rfl rfl rfl (by decide +kernel) ⟨Nat.le_of_ble_eq_true rfl, Nat.le_of_ble_eq_true rfl⟩) (gP_V hP hD hK [0] (by decide) rfl 0 rfl rfl) rfl rfl hl.1 rfl (lv_room (Nat.le_of_ble_eq_true rfl)) dX2_multiply_101 ⟨Nat.zero_le _, Nat.zero_le _⟩) hP hD hS hA [0] rfl (fun H locs hP hD hS => ?_)
  have hP : va_P D vwCl [(h0, .inr (1, [.int (gB true), .long (sp_X7_cut (jmin (jmin (lo1 * lo2) (lo1 * hi2)) (jmin (hi1 * lo2) (hi1 * hi2))) (sp_X7_unitsAt i)), .long (sp_X7_fill (jmax (jmax (lo1 * lo2) (lo1 * hi2)) (jmax (hi1 * lo2) (hi1 * hi2))) (sp_X7_unitsAt i))])), (h1, .inr (1, [.int (gB b1), .long lo1, .long hi1])), (h2, .inr (1, [.int (gB b2), .long lo2, .long hi2]))] H := hP
  have hD : va_D A [(h0, .inr (1, [.int (gB true), .long (sp_X7_cut (jmin (jmin (lo1 * lo2) (lo1 * hi2)) (jmin (hi1 * lo2) (hi1 * hi2))) (sp_X7_unitsAt i)), .long (sp_X7_fill (jmax (jmax (lo1 * lo2) (lo1 * hi2)) (jmax (hi1 * lo2) (hi1 * hi2))) (sp_X7_unitsAt i))])), (h1, .inr (1, [.int (gB b1), .long lo1, .long hi1])), (h2, .inr (1, [.int (gB b2), .long lo2, .long hi2]))] := hD
  exact W.vret hx hb hr (fun t ht hW => ⟨⟨none, [(h0, .inr (1, [.int (gB true), .long (sp_X7_cut (jmin (jmin (lo1 * lo2) (lo1 * hi2)) (jmin (hi1 * lo2) (hi1 * hi2))) (sp_X7_unitsAt i)), .long (sp_X7_fill (jmax (jmax (lo1 * lo2) (lo1 * hi2)) (jmax (hi1 * lo2) (hi1 * hi2))) (sp_X7_unitsAt i))])), (h1, .inr (1, [.int (gB b1), .long lo1, .long hi1])), (h2, .inr (1, [.int (gB b2), .long lo2, .long hi2]))], rfl, ⟨rfl, rfl⟩, rfl, by rw [ht]; exact hP⟩, by rw [← hAe]; exact hS.F ht⟩) (by rw [← hAe]; exact hS.2.2) dX2_multiply_104
set_option maxHeartbeats 4000000 in
set_option maxRecDepth 100000 in
theorem c_X2_multiply_self (l : Launch) (D : va_G) (y : Nat → ClassId) (sz : Nat) (h0 : Nat) (b0 : Bool) (lo hi : Int64) (h1 : Nat) (b1 : Bool) (lo1 hi1 : Int64) (i : Int32) : Met l yX2_multiply wsX2_multiply ({ frames := 2, cells := 0, slots := 0, locals := 48 } : Room) (gP D y [.ref h0, .ref h1, .ref h0, .int i] [(h0, .inr (1, [.int (gB b0), .long lo, .long hi])), (h1, .inr (1, [.int (gB b1), .long lo1, .long hi1]))] sz) (gQ D [(h0, .inr (1, [.int (gB b0), .long lo, .long hi])), (h1, .inr (1, [.int (gB b1), .long lo1, .long hi1]))] (gF none [(h0, .inr (1, [.int (gB true), .long (sp_X2_multiply_lo lo1 hi1 lo hi i), .long (sp_X2_multiply_hi lo1 hi1 lo hi i)])), (h1, .inr (1, [.int (gB b1), .long lo1, .long hi1]))])) 0 0 (va_A [(h0, .inr (1, [.int (gB b0), .long lo, .long hi])), (h1, .inr (1, [.int (gB b1), .long lo1, .long hi1]))] sz) := by
  refine Met.ofW (cc := cX2_multiply) (maxL := 16) (ret := none) (by decide) rfl ?_
  intro p e s m args below meth c s₁ B hml hv
  obtain ⟨rfl, hsz, hP, hK, hD0⟩ := hv
  have hx := B.exec
  have hb := B.bytes
  have hr := B.returns
  have hts := atoms_spec (ws := wsX2_multiply) B.pre
  have hown : s.vm.findClass RX2 = some m.cls := findClass_of_methodNamed B.named
  have hlocks := B.notSynchronized
  subst hsz
  obtain ⟨A, hAe⟩ : ∃ A : Nat → Prop, A = va_A [(h0, .inr (1, [.int (gB b0), .long lo, .long hi])), (h1, .inr (1, [.int (gB b1), .long lo1, .long hi1]))] s.heap.size := ⟨_, rfl⟩
  have hD : va_D A [(h0, .inr (1, [.int (gB b0), .long lo, .long hi])), (h1, .inr (1, [.int (gB b1), .long lo1, .long hi1]))] := by rw [hAe]; exact hD0.self (sz := s.heap.size)
  have hA : ∀ q : Nat, s.heap.size ≤ q → A q := fun q h => by rw [hAe]; exact Or.inr h
  have hS : va_S A s.heap s.heap [] := va_S.rf
  have hl := lv_entry ([.ref h0, .ref h1, .ref h0, .int i]) (n := 16) (Nat.le_of_ble_eq_true rfl)
  rw [lg_entry_eq]
  generalize (lg_sl ([.ref h0, .ref h1, .ref h0, .int i]) ++ List.replicate (16 - (lg_sl ([.ref h0, .ref h1, .ref h0, .int i])).length) Slot.unset).toArray = ls at hl ⊢
  have hl : lv_has ls 16 [(0, .ref h0), (1, .ref h1), (2, .ref h0), (3, .int i)] := hl
  refine lv_aload_n hx hb dX2_multiply_0 rfl (lv_at hl 1 rfl) ?_
  refine va_get (D := D) (ci := 1) (v := .long lo1) (C := RX2) (T := TX2) (N := 3) hx hb hts in_X2_multiply_X2 hown hK.1 hP 1 rfl rfl 1 (by decide) (hts (.fieldLink RX2 15 "Nestlimit$Interval" "low" "J") (List.mem_of_getElem? (i := 1) rfl)) (fun _ h9 => h9) rfl dX2_multiply_1 ?_
  refine lv_aload_n hx hb dX2_multiply_4 rfl (lv_at hl 2 rfl) ?_
  refine va_get (D := D) (ci := 1) (v := .long lo) (C := RX2) (T := TX2) (N := 3) hx hb hts in_X2_multiply_X2 hown hK.1 hP 0 rfl rfl 1 (by decide) (hts (.fieldLink RX2 15 "Nestlimit$Interval" "low" "J") (List.mem_of_getElem? (i := 1) rfl)) (fun _ h9 => h9) rfl dX2_multiply_5 ?_
  refine lv_lmul hx hb dX2_multiply_8 ?_
  refine lv_lstore (lv' := [(4, .long (lo1 * lo)), (0, .ref h0), (1, .ref h1), (2, .ref h0), (3, .int i)]) hx hb dX2_multiply_9 hl (by decide) rfl (fun ls hl => ?_)
  refine lv_aload_n hx hb dX2_multiply_11 rfl (lv_at hl 2 rfl) ?_
  refine va_get (D := D) (ci := 1) (v := .long lo1) (C := RX2) (T := TX2) (N := 3) hx hb hts in_X2_multiply_X2 hown hK.1 hP 1 rfl rfl 1 (by decide) (hts (.fieldLink RX2 15 "Nestlimit$Interval" "low" "J") (List.mem_of_getElem? (i := 1) rfl)) (fun _ h9 => h9) rfl dX2_multiply_12 ?_
  refine lv_aload_n hx hb dX2_multiply_15 rfl (lv_at hl 3 rfl) ?_
  refine va_get (D := D) (ci := 1) (v := .long hi) (C := RX2) (T := TX2) (N := 3) hx hb hts in_X2_multiply_X2 hown hK.1 hP 0 rfl rfl 2 (by decide) (hts (.fieldLink RX2 19 "Nestlimit$Interval" "high" "J") (List.mem_of_getElem? (i := 2) rfl)) (fun _ h9 => h9) rfl dX2_multiply_16 ?_
  refine lv_lmul hx hb dX2_multiply_19 ?_
  refine lv_lstore (lv' := [(6, .long (lo1 * hi)), (4, .long (lo1 * lo)), (0, .ref h0), (1, .ref h1), (2, .ref h0), (3, .int i)]) hx hb dX2_multiply_20 hl (by decide) rfl (fun ls hl => ?_)
  refine lv_aload_n hx hb dX2_multiply_22 rfl (lv_at hl 3 rfl) ?_
  refine va_get (D := D) (ci := 1) (v := .long hi1) (C := RX2) (T := TX2) (N := 3) hx hb hts in_X2_multiply_X2 hown hK.1 hP 1 rfl rfl 2 (by decide) (hts (.fieldLink RX2 19 "Nestlimit$Interval" "high" "J") (List.mem_of_getElem? (i := 2) rfl)) (fun _ h9 => h9) rfl dX2_multiply_23 ?_
  refine lv_aload_n hx hb dX2_multiply_26 rfl (lv_at hl 4 rfl) ?_
  refine va_get (D := D) (ci := 1) (v := .long lo) (C := RX2) (T := TX2) (N := 3) hx hb hts in_X2_multiply_X2 hown hK.1 hP 0 rfl rfl 1 (by decide) (hts (.fieldLink RX2 15 "Nestlimit$Interval" "low" "J") (List.mem_of_getElem? (i := 1) rfl)) (fun _ h9 => h9) rfl dX2_multiply_27 ?_
  refine lv_lmul hx hb dX2_multiply_30 ?_
  refine lv_lstore (lv' := [(8, .long (hi1 * lo)), (6, .long (lo1 * hi)), (4, .long (lo1 * lo)), (0, .ref h0), (1, .ref h1), (2, .ref h0), (3, .int i)]) hx hb dX2_multiply_31 hl (by decide) rfl (fun ls hl => ?_)
  refine lv_aload_n hx hb dX2_multiply_33 rfl (lv_at hl 4 rfl) ?_
  refine va_get (D := D) (ci := 1) (v := .long hi1) (C := RX2) (T := TX2) (N := 3) hx hb hts in_X2_multiply_X2 hown hK.1 hP 1 rfl rfl 2 (by decide) (hts (.fieldLink RX2 19 "Nestlimit$Interval" "high" "J") (List.mem_of_getElem? (i := 2) rfl)) (fun _ h9 => h9) rfl dX2_multiply_34 ?_
  refine lv_aload_n hx hb dX2_multiply_37 rfl (lv_at hl 5 rfl) ?_
  refine va_get (D := D) (ci := 1) (v := .long hi) (C := RX2) (T := TX2) (N := 3) hx hb hts in_X2_multiply_X2 hown hK.1 hP 0 rfl rfl 2 (by decide) (hts (.fieldLink RX2 19 "Nestlimit$Interval" "high" "J") (List.mem_of_getElem? (i := 2) rfl)) (fun _ h9 => h9) rfl dX2_multiply_38 ?_
  refine lv_lmul hx hb dX2_multiply_41 ?_
  refine lv_lstore (lv' := [(10, .long (hi1 * hi)), (8, .long (hi1 * lo)), (6, .long (lo1 * hi)), (4, .long (lo1 * lo)), (0, .ref h0), (1, .ref h1), (2, .ref h0), (3, .int i)]) hx hb dX2_multiply_42 hl (by decide) rfl (fun ls hl => ?_)
  refine lv_lload hx hb dX2_multiply_44 (lv_at hl 3 rfl) ?_
  refine lv_lload hx hb dX2_multiply_46 (lv_at hl 2 rfl) ?_
  refine va_mmin_long (rest := []) hx hb (hml.trans hl.1.symm) hown (hts (.methodLink RX2 43 Lib.MathLoose.min_long.x) (List.mem_of_getElem? (i := 3) rfl)) (hts (.static Lib.MathLoose.min_long.x) (List.mem_of_getElem? (i := 4) rfl)) (hts (.initialized "java/lang/Math") (List.mem_of_getElem? (i := 5) rfl)) (hts (.code Lib.MathLoose.min_long.x Lib.MathLoose.min_long.code 4 (some .long)) (List.mem_of_getElem? (i := 6) rfl)) (Nat.le_of_ble_eq_true rfl) (Nat.le_of_ble_eq_true rfl) (Nat.zero_le _) (Nat.zero_le _) dX2_multiply_48 ?_
  refine g_topl (y := jmin (lo1 * lo) (lo1 * hi)) rfl ?_
  refine lv_lload hx hb dX2_multiply_51 (lv_at hl 1 rfl) ?_
  refine lv_lload hx hb dX2_multiply_53 (lv_at hl 0 rfl) ?_
  refine va_mmin_long (rest := [.long (jmin (lo1 * lo) (lo1 * hi))]) hx hb (hml.trans hl.1.symm) hown (hts (.methodLink RX2 43 Lib.MathLoose.min_long.x) (List.mem_of_getElem? (i := 3) rfl)) (hts (.static Lib.MathLoose.min_long.x) (List.mem_of_getElem? (i := 4) rfl)) (hts (.initialized "java/lang/Math") (List.mem_of_getElem? (i := 5) rfl)) (hts (.code Lib.MathLoose.min_long.x Lib.MathLoose.min_long.code 4 (some .long)) (List.mem_of_getElem? (i := 6) rfl)) (Nat.le_of_ble_eq_true rfl) (Nat.le_of_ble_eq_true rfl) (Nat.zero_le _) (Nat.zero_le _) dX2_multiply_55 ?_
  refine g_topl (y := jmin (hi1 * lo) (hi1 * hi)) rfl ?_
  refine va_mmin_long (rest := []) hx hb (hml.trans hl.1.symm) hown (hts (.methodLink RX2 43 Lib.MathLoose.min_long.x) (List.mem_of_getElem? (i := 3) rfl)) (hts (.static Lib.MathLoose.min_long.x) (List.mem_of_getElem? (i := 4) rfl)) (hts (.initialized "java/lang/Math") (List.mem_of_getElem? (i := 5) rfl)) (hts (.code Lib.MathLoose.min_long.x Lib.MathLoose.min_long.code 4 (some .long)) (List.mem_of_getElem? (i := 6) rfl)) (Nat.le_of_ble_eq_true rfl) (Nat.le_of_ble_eq_true rfl) (Nat.zero_le _) (Nat.zero_le _) dX2_multiply_58 ?_
  refine g_topl (y := jmin (jmin (lo1 * lo) (lo1 * hi)) (jmin (hi1 * lo) (hi1 * hi))) rfl ?_
  refine lv_lstore (lv' := [(12, .long (jmin (jmin (lo1 * lo) (lo1 * hi)) (jmin (hi1 * lo) (hi1 * hi)))), (10, .long (hi1 * hi)), (8, .long (hi1 * lo)), (6, .long (lo1 * hi)), (4, .long (lo1 * lo)), (0, .ref h0), (1, .ref h1), (2, .ref h0), (3, .int i)]) hx hb dX2_multiply_61 hl (by decide) rfl (fun ls hl => ?_)
  refine lv_lload hx hb dX2_multiply_63 (lv_at hl 4 rfl) ?_
  refine lv_lload hx hb dX2_multiply_65 (lv_at hl 3 rfl) ?_
  refine va_mmax_long (rest := []) hx hb (hml.trans hl.1.symm) hown (hts (.methodLink RX2 37 Lib.MathLoose.max_long.x) (List.mem_of_getElem? (i := 7) rfl)) (hts (.static Lib.MathLoose.max_long.x) (List.mem_of_getElem? (i := 8) rfl)) (hts (.initialized "java/lang/Math") (List.mem_of_getElem? (i := 5) rfl)) (hts (.code Lib.MathLoose.max_long.x Lib.MathLoose.max_long.code 4 (some .long)) (List.mem_of_getElem? (i := 9) rfl)) (Nat.le_of_ble_eq_true rfl) (Nat.le_of_ble_eq_true rfl) (Nat.zero_le _) (Nat.zero_le _) dX2_multiply_67 ?_
  refine g_topl (y := jmax (lo1 * lo) (lo1 * hi)) rfl ?_
  refine lv_lload hx hb dX2_multiply_70 (lv_at hl 2 rfl) ?_
  refine lv_lload hx hb dX2_multiply_72 (lv_at hl 1 rfl) ?_
  refine va_mmax_long (rest := [.long (jmax (lo1 * lo) (lo1 * hi))]) hx hb (hml.trans hl.1.symm) hown (hts (.methodLink RX2 37 Lib.MathLoose.max_long.x) (List.mem_of_getElem? (i := 7) rfl)) (hts (.static Lib.MathLoose.max_long.x) (List.mem_of_getElem? (i := 8) rfl)) (hts (.initialized "java/lang/Math") (List.mem_of_getElem? (i := 5) rfl)) (hts (.code Lib.MathLoose.max_long.x Lib.MathLoose.max_long.code 4 (some .long)) (List.mem_of_getElem? (i := 9) rfl)) (Nat.le_of_ble_eq_true rfl) (Nat.le_of_ble_eq_true rfl) (Nat.zero_le _) (Nat.zero_le _) dX2_multiply_74 ?_
  refine g_topl (y := jmax (hi1 * lo) (hi1 * hi)) rfl ?_
  refine va_mmax_long (rest := []) hx hb (hml.trans hl.1.symm) hown (hts (.methodLink RX2 37 Lib.MathLoose.max_long.x) (List.mem_of_getElem? (i := 7) rfl)) (hts (.static Lib.MathLoose.max_long.x) (List.mem_of_getElem? (i := 8) rfl)) (hts (.initialized "java/lang/Math") (List.mem_of_getElem? (i := 5) rfl)) (hts (.code Lib.MathLoose.max_long.x Lib.MathLoose.max_long.code 4 (some .long)) (List.mem_of_getElem? (i := 9) rfl)) (Nat.le_of_ble_eq_true rfl) (Nat.le_of_ble_eq_true rfl) (Nat.zero_le _) (Nat.zero_le _) dX2_multiply_77 ?_
  refine g_topl (y := jmax (jmax (lo1 * lo) (lo1 * hi)) (jmax (hi1 * lo) (hi1 * hi))) rfl ?_
  refine lv_lstore (lv' := [(14, .long (jmax (jmax (lo1 * lo) (lo1 * hi)) (jmax (hi1 * lo) (hi1 * hi)))), (12, .long (jmin (jmin (lo1 * lo) (lo1 * hi)) (jmin (hi1 * lo) (hi1 * hi)))), (10, .long (hi1 * hi)), (8, .long (hi1 * lo)), (6, .long (lo1 * hi)), (4, .long (lo1 * lo)), (0, .ref h0), (1, .ref h1), (2, .ref h0), (3, .int i)]) hx hb dX2_multiply_80 hl (by decide) rfl (fun ls hl => ?_)
  refine lv_aload_n hx hb dX2_multiply_82 rfl (lv_at hl 6 rfl) ?_
  refine lv_lload hx hb dX2_multiply_83 (lv_at hl 1 rfl) ?_
  refine lv_iload_n hx hb dX2_multiply_85 rfl (lv_at hl 9 rfl) ?_
  refine g_callR (v0 := .long (sp_X7_unitsAt i)) (va_runSN (As := [.int i]) (rest := [.long (jmin (jmin (lo1 * lo) (lo1 * hi)) (jmin (hi1 * lo) (hi1 * hi))), .ref h0]) ⟨hx, hb, hml, hown, hts⟩ (c_X7_unitsAt l D y s.heap.size i) ⟨va_cnB 1 hts gX2_multiply_X7_unitsAt_n24 rfl rfl rfl (hK.2.at 2 rfl) (hts (.initialized RX7) (List.mem_of_getElem? (i := 11) rfl)) (by decide +kernel) ⟨Nat.le_of_ble_eq_true rfl, Nat.le_of_ble_eq_true rfl⟩, (hts (.static yX7_unitsAt) (List.mem_of_getElem? (i := 10) rfl)), trivial⟩ (gP_S hP hD hK [] (by decide) rfl) rfl rfl hl.1 rfl (lv_room (Nat.le_of_ble_eq_true rfl)) dX2_multiply_86 ⟨Nat.zero_le _, Nat.zero_le _⟩) ?_
  refine g_callR (v0 := .long (sp_X7_cut (jmin (jmin (lo1 * lo) (lo1 * hi)) (jmin (hi1 * lo) (hi1 * hi))) (sp_X7_unitsAt i))) (va_runSN (As := [.long (jmin (jmin (lo1 * lo) (lo1 * hi)) (jmin (hi1 * lo) (hi1 * hi))), .long (sp_X7_unitsAt i)]) (rest := [.ref h0]) ⟨hx, hb, hml, hown, hts⟩ (c_X7_cut l D y s.heap.size (jmin (jmin (lo1 * lo) (lo1 * hi)) (jmin (hi1 * lo) (hi1 * hi))) (sp_X7_unitsAt i)) ⟨va_cnB 2 hts gX2_multiply_X7_cut_n46 rfl rfl rfl (hK.2.at 3 rfl) (hts (.initialized RX7) (List.mem_of_getElem? (i := 11) rfl)) (by decide +kernel) ⟨Nat.le_of_ble_eq_true rfl, Nat.le_of_ble_eq_true rfl⟩, (hts (.static yX7_cut) (List.mem_of_getElem? (i := 13) rfl)), trivial⟩ (gP_S hP hD hK [] (by decide) rfl) rfl rfl hl.1 rfl (lv_room (Nat.le_of_ble_eq_true rfl)) dX2_multiply_89 ⟨Nat.zero_le _, Nat.zero_le _⟩) ?_
  refine lv_lload hx hb dX2_multiply_92 (lv_at hl 0 rfl) ?_
  refine lv_iload_n hx hb dX2_multiply_94 rfl (lv_at hl 9 rfl) ?_
  refine g_callR (v0 := .long (sp_X7_unitsAt i)) (va_runSN (As := [.int i]) (rest := [.long (jmax (jmax (lo1 * lo) (lo1 * hi)) (jmax (hi1 * lo) (hi1 * hi))), .long (sp_X7_cut (jmin (jmin (lo1 * lo) (lo1 * hi)) (jmin (hi1 * lo) (hi1 * hi))) (sp_X7_unitsAt i)), .ref h0]) ⟨hx, hb, hml, hown, hts⟩ (c_X7_unitsAt l D y s.heap.size i) ⟨va_cnB 1 hts gX2_multiply_X7_unitsAt_n24 rfl rfl rfl (hK.2.at 2 rfl) (hts (.initialized RX7) (List.mem_of_getElem? (i := 11) rfl)) (by decide +kernel) ⟨Nat.le_of_ble_eq_true rfl, Nat.le_of_ble_eq_true rfl⟩, (hts (.static yX7_unitsAt) (List.mem_of_getElem? (i := 10) rfl)), trivial⟩ (gP_S hP hD hK [] (by decide) rfl) rfl rfl hl.1 rfl (lv_room (Nat.le_of_ble_eq_true rfl)) dX2_multiply_95 ⟨Nat.zero_le _, Nat.zero_le _⟩) ?_
  refine g_callR (v0 := .long (sp_X7_fill (jmax (jmax (lo1 * lo) (lo1 * hi)) (jmax (hi1 * lo) (hi1 * hi))) (sp_X7_unitsAt i))) (va_runSN (As := [.long (jmax (jmax (lo1 * lo) (lo1 * hi)) (jmax (hi1 * lo) (hi1 * hi))), .long (sp_X7_unitsAt i)]) (rest := [.long (sp_X7_cut (jmin (jmin (lo1 * lo) (lo1 * hi)) (jmin (hi1 * lo) (hi1 * hi))) (sp_X7_unitsAt i)), .ref h0]) ⟨hx, hb, hml, hown, hts⟩ (c_X7_fill l D y s.heap.size (jmax (jmax (lo1 * lo) (lo1 * hi)) (jmax (hi1 * lo) (hi1 * hi))) (sp_X7_unitsAt i)) ⟨va_cnB 2 hts gX2_multiply_X7_fill_n49 rfl rfl rfl (hK.2.at 4 rfl) (hts (.initialized RX7) (List.mem_of_getElem? (i := 11) rfl)) (by decide +kernel) ⟨Nat.le_of_ble_eq_true rfl, Nat.le_of_ble_eq_true rfl⟩, (hts (.static yX7_fill) (List.mem_of_getElem? (i := 19) rfl)), trivial⟩ (gP_S hP hD hK [] (by decide) rfl) rfl rfl hl.1 rfl (lv_room (Nat.le_of_ble_eq_true rfl)) dX2_multiply_98 ⟨Nat.zero_le _, Nat.zero_le _⟩) ?_
  refine g_callv (va_runV (As := [.long (sp_X7_cut (jmin (jmin (lo1 * lo) (lo1 * hi)) (jmin (hi1 * lo) (hi1 * hi))) (sp_X7_unitsAt i)), .long (sp_X7_fill (jmax (jmax (lo1 * lo) (lo1 * hi)) (jmax (hi1 * lo) (hi1 * hi))) (sp_X7_unitsAt i))]) (rest := []) ⟨hx, hb, hml, hown, hts⟩ (c_X2_assign l D y s.heap.size h0 b0 lo hi (sp_X7_cut (jmin (jmin (lo1 * lo) (lo1 * hi)) (jmin (hi1 * lo) (hi1 * hi))) (sp_X7_unitsAt i)) (sp_X7_fill (jmax (jmax (lo1 * lo) (lo1 * hi)) (jmax (hi1 * lo) (hi1 * hi))) (sp_X7_unitsAt i))) (cwV 2 hts gX2_multiply_X2_assign rfl rfl rfl (by decide +kernel) ⟨Nat.le_of_ble_eq_true rfl, Nat.le_of_ble_eq_true rfl⟩) (gP_V hP hD hK [0] (by decide) rfl 0 rfl rfl) rfl rfl hl.1 rfl (lv_room (Nat.le_of_ble_eq_true rfl)) dX2_multiply_101 ⟨Nat.zero_le _, Nat.zero_le _⟩) hP hD hS hA [0] rfl (fun H locs hP hD hS => ?_)
  have hP : va_P D vwCl [(h0, .inr (1, [.int (gB true), .long (sp_X7_cut (jmin (jmin (lo1 * lo) (lo1 * hi)) (jmin (hi1 * lo) (hi1 * hi))) (sp_X7_unitsAt i)), .long (sp_X7_fill (jmax (jmax (lo1 * lo) (lo1 * hi)) (jmax (hi1 * lo) (hi1 * hi))) (sp_X7_unitsAt i))])), (h1, .inr (1, [.int (gB b1), .long lo1, .long hi1]))] H := hP
  have hD : va_D A [(h0, .inr (1, [.int (gB true), .long (sp_X7_cut (jmin (jmin (lo1 * lo) (lo1 * hi)) (jmin (hi1 * lo) (hi1 * hi))) (sp_X7_unitsAt i)), .long (sp_X7_fill (jmax (jmax (lo1 * lo) (lo1 * hi)) (jmax (hi1 * lo) (hi1 * hi))) (sp_X7_unitsAt i))])), (h1, .inr (1, [.int (gB b1), .long lo1, .long hi1]))] := hD
  exact W.vret hx hb hr (fun t ht hW => ⟨⟨none, [(h0, .inr (1, [.int (gB true), .long (sp_X7_cut (jmin (jmin (lo1 * lo) (lo1 * hi)) (jmin (hi1 * lo) (hi1 * hi))) (sp_X7_unitsAt i)), .long (sp_X7_fill (jmax (jmax (lo1 * lo) (lo1 * hi)) (jmax (hi1 * lo) (hi1 * hi))) (sp_X7_unitsAt i))])), (h1, .inr (1, [.int (gB b1), .long lo1, .long hi1]))], rfl, ⟨rfl, rfl⟩, rfl, by rw [ht]; exact hP⟩, by rw [← hAe]; exact hS.F ht⟩) (by rw [← hAe]; exact hS.2.2) dX2_multiply_104
def sp_X2_invert_b0 (lo1 hi1 : Int64) (i : Int32) : Bool := if 0 < lo1 then true else if hi1 < 0 then true else false
def sp_X2_invert_lo (lo1 hi1 : Int64) (i : Int32) : Int64 := if 0 < lo1 then sp_X7_cut (sp_X7_unitsAt (2 * i)) hi1 else if hi1 < 0 then sp_X7_cut (sp_X7_unitsAt (2 * i)) hi1 else 0
def sp_X2_invert_hi (lo1 hi1 : Int64) (i : Int32) : Int64 := if 0 < lo1 then sp_X7_fill (sp_X7_unitsAt (2 * i)) lo1 else if hi1 < 0 then sp_X7_fill (sp_X7_unitsAt (2 * i)) lo1 else 0
theorem in_X2_invert_X2 : ∀ w ∈ wsX20, w ∈ wsX2_invert := fun _ h => List.mem_cons_of_mem _ (List.mem_append_right _ h)
set_option maxHeartbeats 4000000 in
set_option maxRecDepth 100000 in
theorem c_X2_invert (l : Launch) (D : va_G) (y : Nat → ClassId) (sz : Nat) (h0 : Nat) (b0 : Bool) (lo hi : Int64) (h1 : Nat) (b1 : Bool) (lo1 hi1 : Int64) (i : Int32) : Met l yX2_invert wsX2_invert ({ frames := 2, cells := 0, slots := 0, locals := 48 } : Room) (gP D y [.ref h0, .ref h1, .int i] [(h0, .inr (1, [.int (gB b0), .long lo, .long hi])), (h1, .inr (1, [.int (gB b1), .long lo1, .long hi1]))] sz) (gQ D [(h0, .inr (1, [.int (gB b0), .long lo, .long hi])), (h1, .inr (1, [.int (gB b1), .long lo1, .long hi1]))] (gF none [(h0, .inr (1, [.int (gB (sp_X2_invert_b0 lo1 hi1 i)), .long (sp_X2_invert_lo lo1 hi1 i), .long (sp_X2_invert_hi lo1 hi1 i)])), (h1, .inr (1, [.int (gB b1), .long lo1, .long hi1]))])) 0 0 (va_A [(h0, .inr (1, [.int (gB b0), .long lo, .long hi])), (h1, .inr (1, [.int (gB b1), .long lo1, .long hi1]))] sz) := by
  refine Met.ofW (cc := cX2_invert) (maxL := 5) (ret := none) (by decide) rfl ?_
  intro p e s m args below meth c s₁ B hml hv
  obtain ⟨rfl, hsz, hP, hK, hD0⟩ := hv
  have hx := B.exec
  have hb := B.bytes
  have hr := B.returns
  have hts := atoms_spec (ws := wsX2_invert) B.pre
  have hown : s.vm.findClass RX2 = some m.cls := findClass_of_methodNamed B.named
  have hlocks := B.notSynchronized
  subst hsz
  obtain ⟨A, hAe⟩ : ∃ A : Nat → Prop, A = va_A [(h0, .inr (1, [.int (gB b0), .long lo, .long hi])), (h1, .inr (1, [.int (gB b1), .long lo1, .long hi1]))] s.heap.size := ⟨_, rfl⟩
  have hD : va_D A [(h0, .inr (1, [.int (gB b0), .long lo, .long hi])), (h1, .inr (1, [.int (gB b1), .long lo1, .long hi1]))] := by rw [hAe]; exact hD0.self (sz := s.heap.size)
  have hA : ∀ q : Nat, s.heap.size ≤ q → A q := fun q h => by rw [hAe]; exact Or.inr h
  have hS : va_S A s.heap s.heap [] := va_S.rf
  have hl := lv_entry ([.ref h0, .ref h1, .int i]) (n := 5) (Nat.le_of_ble_eq_true rfl)
  rw [lg_entry_eq]
  generalize (lg_sl ([.ref h0, .ref h1, .int i]) ++ List.replicate (5 - (lg_sl ([.ref h0, .ref h1, .int i])).length) Slot.unset).toArray = ls at hl ⊢
  have hl : lv_has ls 5 [(0, .ref h0), (1, .ref h1), (2, .int i)] := hl
  refine lv_aload_n hx hb dX2_invert_0 rfl (lv_at hl 1 rfl) ?_
  refine va_get (D := D) (ci := 1) (v := .long lo1) (C := RX2) (T := TX2) (N := 3) hx hb hts in_X2_invert_X2 hown hK.1 hP 1 rfl rfl 1 (by decide) (hts (.fieldLink RX2 15 "Nestlimit$Interval" "low" "J") (List.mem_of_getElem? (i := 1) rfl)) (fun _ h9 => h9) rfl dX2_invert_1 ?_
  refine lv_lconst (v := 0) hx hb dX2_invert_4 (by decide) ?_
  refine g_gt (tgt := 23) hx hb dX2_invert_5 dX2_invert_6 (by decide) (fun c_5 => ?_) (fun c_5 => ?_)
  · skip
    refine lv_iconst (v := 2) hx hb dX2_invert_23 (by decide) ?_
    refine lv_iload_n hx hb dX2_invert_24 rfl (lv_at hl 2 rfl) ?_
    refine lv_imul hx hb dX2_invert_25 ?_
    refine g_callR (v0 := .long (sp_X7_unitsAt (2 * i))) (va_runSN (As := [.int (2 * i)]) (rest := []) ⟨hx, hb, hml, hown, hts⟩ (c_X7_unitsAt l D y s.heap.size (2 * i)) ⟨va_cnB 1 hts gX2_invert_X7_unitsAt_n24 rfl rfl rfl (hK.2.at 2 rfl) (hts (.initialized RX7) (List.mem_of_getElem? (i := 10) rfl)) (by decide +kernel) ⟨Nat.le_of_ble_eq_true rfl, Nat.le_of_ble_eq_true rfl⟩, (hts (.static yX7_unitsAt) (List.mem_of_getElem? (i := 9) rfl)), trivial⟩ (gP_S hP hD hK [] (by decide) rfl) rfl rfl hl.1 rfl (lv_room (Nat.le_of_ble_eq_true rfl)) dX2_invert_26 ⟨Nat.zero_le _, Nat.zero_le _⟩) ?_
    refine lv_lstore_n (lv' := [(3, .long (sp_X7_unitsAt (2 * i))), (0, .ref h0), (1, .ref h1), (2, .int i)]) hx hb dX2_invert_29 rfl hl (by decide) rfl (fun ls hl => ?_)
    refine lv_aload_n hx hb dX2_invert_30 rfl (lv_at hl 1 rfl) ?_
    refine lv_lload_n hx hb dX2_invert_31 rfl (lv_at hl 0 rfl) ?_
    refine lv_aload_n hx hb dX2_invert_32 rfl (lv_at hl 2 rfl) ?_
    refine va_get (D := D) (ci := 1) (v := .long hi1) (C := RX2) (T := TX2) (N := 3) hx hb hts in_X2_invert_X2 hown hK.1 hP 1 rfl rfl 2 (by decide) (hts (.fieldLink RX2 19 "Nestlimit$Interval" "high" "J") (List.mem_of_getElem? (i := 2) rfl)) (fun _ h9 => h9) rfl dX2_invert_33 ?_
    refine g_callR (v0 := .long (sp_X7_cut (sp_X7_unitsAt (2 * i)) hi1)) (va_runSN (As := [.long (sp_X7_unitsAt (2 * i)), .long hi1]) (rest := [.ref h0]) ⟨hx, hb, hml, hown, hts⟩ (c_X7_cut l D y s.heap.size (sp_X7_unitsAt (2 * i)) hi1) ⟨va_cnB 2 hts gX2_invert_X7_cut_n46 rfl rfl rfl (hK.2.at 3 rfl) (hts (.initialized RX7) (List.mem_of_getElem? (i := 10) rfl)) (by decide +kernel) ⟨Nat.le_of_ble_eq_true rfl, Nat.le_of_ble_eq_true rfl⟩, (hts (.static yX7_cut) (List.mem_of_getElem? (i := 12) rfl)), trivial⟩ (gP_S hP hD hK [] (by decide) rfl) rfl rfl hl.1 rfl (lv_room (Nat.le_of_ble_eq_true rfl)) dX2_invert_36 ⟨Nat.zero_le _, Nat.zero_le _⟩) ?_
    refine lv_lload_n hx hb dX2_invert_39 rfl (lv_at hl 0 rfl) ?_
    refine lv_aload_n hx hb dX2_invert_40 rfl (lv_at hl 2 rfl) ?_
    refine va_get (D := D) (ci := 1) (v := .long lo1) (C := RX2) (T := TX2) (N := 3) hx hb hts in_X2_invert_X2 hown hK.1 hP 1 rfl rfl 1 (by decide) (hts (.fieldLink RX2 15 "Nestlimit$Interval" "low" "J") (List.mem_of_getElem? (i := 1) rfl)) (fun _ h9 => h9) rfl dX2_invert_41 ?_
    refine g_callR (v0 := .long (sp_X7_fill (sp_X7_unitsAt (2 * i)) lo1)) (va_runSN (As := [.long (sp_X7_unitsAt (2 * i)), .long lo1]) (rest := [.long (sp_X7_cut (sp_X7_unitsAt (2 * i)) hi1), .ref h0]) ⟨hx, hb, hml, hown, hts⟩ (c_X7_fill l D y s.heap.size (sp_X7_unitsAt (2 * i)) lo1) ⟨va_cnB 2 hts gX2_invert_X7_fill_n49 rfl rfl rfl (hK.2.at 4 rfl) (hts (.initialized RX7) (List.mem_of_getElem? (i := 10) rfl)) (by decide +kernel) ⟨Nat.le_of_ble_eq_true rfl, Nat.le_of_ble_eq_true rfl⟩, (hts (.static yX7_fill) (List.mem_of_getElem? (i := 18) rfl)), trivial⟩ (gP_S hP hD hK [] (by decide) rfl) rfl rfl hl.1 rfl (lv_room (Nat.le_of_ble_eq_true rfl)) dX2_invert_44 ⟨Nat.zero_le _, Nat.zero_le _⟩) ?_
    refine g_callv (va_runV (As := [.long (sp_X7_cut (sp_X7_unitsAt (2 * i)) hi1), .long (sp_X7_fill (sp_X7_unitsAt (2 * i)) lo1)]) (rest := []) ⟨hx, hb, hml, hown, hts⟩ (c_X2_assign l D y s.heap.size h0 b0 lo hi (sp_X7_cut (sp_X7_unitsAt (2 * i)) hi1) (sp_X7_fill (sp_X7_unitsAt (2 * i)) lo1)) (cwV 2 hts gX2_invert_X2_assign rfl rfl rfl (by decide +kernel) ⟨Nat.le_of_ble_eq_true rfl, Nat.le_of_ble_eq_true rfl⟩) (gP_V hP hD hK [0] (by decide) rfl 0 rfl rfl) rfl rfl hl.1 rfl (lv_room (Nat.le_of_ble_eq_true rfl)) dX2_invert_47 ⟨Nat.zero_le _, Nat.zero_le _⟩) hP hD hS hA [0] rfl (fun H locs hP hD hS => ?_)
    have hP : va_P D vwCl [(h0, .inr (1, [.int (gB true), .long (sp_X7_cut (sp_X7_unitsAt (2 * i)) hi1), .long (sp_X7_fill (sp_X7_unitsAt (2 * i)) lo1)])), (h1, .inr (1, [.int (gB b1), .long lo1, .long hi1]))] H := hP
    have hD : va_D A [(h0, .inr (1, [.int (gB true), .long (sp_X7_cut (sp_X7_unitsAt (2 * i)) hi1), .long (sp_X7_fill (sp_X7_unitsAt (2 * i)) lo1)])), (h1, .inr (1, [.int (gB b1), .long lo1, .long hi1]))] := hD
    exact W.vret hx hb hr (fun t ht hW => ⟨⟨none, [(h0, .inr (1, [.int (gB true), .long (sp_X7_cut (sp_X7_unitsAt (2 * i)) hi1), .long (sp_X7_fill (sp_X7_unitsAt (2 * i)) lo1)])), (h1, .inr (1, [.int (gB b1), .long lo1, .long hi1]))], rfl, ⟨rfl, by simp only [sp_X2_invert_b0, sp_X2_invert_lo, sp_X2_invert_hi, if_pos c_5]⟩, rfl, by rw [ht]; exact hP⟩, by rw [← hAe]; exact hS.F ht⟩) (by rw [← hAe]; exact hS.2.2) dX2_invert_50
  · skip
    refine lv_aload_n hx hb dX2_invert_9 rfl (lv_at hl 1 rfl) ?_
    refine va_get (D := D) (ci := 1) (v := .long hi1) (C := RX2) (T := TX2) (N := 3) hx hb hts in_X2_invert_X2 hown hK.1 hP 1 rfl rfl 2 (by decide) (hts (.fieldLink RX2 19 "Nestlimit$Interval" "high" "J") (List.mem_of_getElem? (i := 2) rfl)) (fun _ h9 => h9) rfl dX2_invert_10 ?_
    refine lv_lconst (v := 0) hx hb dX2_invert_13 (by decide) ?_
    refine g_lt (tgt := 23) hx hb dX2_invert_14 dX2_invert_15 (by decide) (fun c_14 => ?_) (fun c_14 => ?_)
    · skip
      refine lv_iconst (v := 2) hx hb dX2_invert_23 (by decide) ?_
      refine lv_iload_n hx hb dX2_invert_24 rfl (lv_at hl 2 rfl) ?_
      refine lv_imul hx hb dX2_invert_25 ?_
      refine g_callR (v0 := .long (sp_X7_unitsAt (2 * i))) (va_runSN (As := [.int (2 * i)]) (rest := []) ⟨hx, hb, hml, hown, hts⟩ (c_X7_unitsAt l D y s.heap.size (2 * i)) ⟨va_cnB 1 hts gX2_invert_X7_unitsAt_n24 rfl rfl rfl (hK.2.at 2 rfl) (hts (.initialized RX7) (List.mem_of_getElem? (i := 10) rfl)) (by decide +kernel) ⟨Nat.le_of_ble_eq_true rfl, Nat.le_of_ble_eq_true rfl⟩, (hts (.static yX7_unitsAt) (List.mem_of_getElem? (i := 9) rfl)), trivial⟩ (gP_S hP hD hK [] (by decide) rfl) rfl rfl hl.1 rfl (lv_room (Nat.le_of_ble_eq_true rfl)) dX2_invert_26 ⟨Nat.zero_le _, Nat.zero_le _⟩) ?_
      refine lv_lstore_n (lv' := [(3, .long (sp_X7_unitsAt (2 * i))), (0, .ref h0), (1, .ref h1), (2, .int i)]) hx hb dX2_invert_29 rfl hl (by decide) rfl (fun ls hl => ?_)
      refine lv_aload_n hx hb dX2_invert_30 rfl (lv_at hl 1 rfl) ?_
      refine lv_lload_n hx hb dX2_invert_31 rfl (lv_at hl 0 rfl) ?_
      refine lv_aload_n hx hb dX2_invert_32 rfl (lv_at hl 2 rfl) ?_
      refine va_get (D := D) (ci := 1) (v := .long hi1) (C := RX2) (T := TX2) (N := 3) hx hb hts in_X2_invert_X2 hown hK.1 hP 1 rfl rfl 2 (by decide) (hts (.fieldLink RX2 19 "Nestlimit$Interval" "high" "J") (List.mem_of_getElem? (i := 2) rfl)) (fun _ h9 => h9) rfl dX2_invert_33 ?_
      refine g_callR (v0 := .long (sp_X7_cut (sp_X7_unitsAt (2 * i)) hi1)) (va_runSN (As := [.long (sp_X7_unitsAt (2 * i)), .long hi1]) (rest := [.ref h0]) ⟨hx, hb, hml, hown, hts⟩ (c_X7_cut l D y s.heap.size (sp_X7_unitsAt (2 * i)) hi1) ⟨va_cnB 2 hts gX2_invert_X7_cut_n46 rfl rfl rfl (hK.2.at 3 rfl) (hts (.initialized RX7) (List.mem_of_getElem? (i := 10) rfl)) (by decide +kernel) ⟨Nat.le_of_ble_eq_true rfl, Nat.le_of_ble_eq_true rfl⟩, (hts (.static yX7_cut) (List.mem_of_getElem? (i := 12) rfl)), trivial⟩ (gP_S hP hD hK [] (by decide) rfl) rfl rfl hl.1 rfl (lv_room (Nat.le_of_ble_eq_true rfl)) dX2_invert_36 ⟨Nat.zero_le _, Nat.zero_le _⟩) ?_
      refine lv_lload_n hx hb dX2_invert_39 rfl (lv_at hl 0 rfl) ?_
      refine lv_aload_n hx hb dX2_invert_40 rfl (lv_at hl 2 rfl) ?_
      refine va_get (D := D) (ci := 1) (v := .long lo1) (C := RX2) (T := TX2) (N := 3) hx hb hts in_X2_invert_X2 hown hK.1 hP 1 rfl rfl 1 (by decide) (hts (.fieldLink RX2 15 "Nestlimit$Interval" "low" "J") (List.mem_of_getElem? (i := 1) rfl)) (fun _ h9 => h9) rfl dX2_invert_41 ?_
      refine g_callR (v0 := .long (sp_X7_fill (sp_X7_unitsAt (2 * i)) lo1)) (va_runSN (As := [.long (sp_X7_unitsAt (2 * i)), .long lo1]) (rest := [.long (sp_X7_cut (sp_X7_unitsAt (2 * i)) hi1), .ref h0]) ⟨hx, hb, hml, hown, hts⟩ (c_X7_fill l D y s.heap.size (sp_X7_unitsAt (2 * i)) lo1) ⟨va_cnB 2 hts gX2_invert_X7_fill_n49 rfl rfl rfl (hK.2.at 4 rfl) (hts (.initialized RX7) (List.mem_of_getElem? (i := 10) rfl)) (by decide +kernel) ⟨Nat.le_of_ble_eq_true rfl, Nat.le_of_ble_eq_true rfl⟩, (hts (.static yX7_fill) (List.mem_of_getElem? (i := 18) rfl)), trivial⟩ (gP_S hP hD hK [] (by decide) rfl) rfl rfl hl.1 rfl (lv_room (Nat.le_of_ble_eq_true rfl)) dX2_invert_44 ⟨Nat.zero_le _, Nat.zero_le _⟩) ?_
      refine g_callv (va_runV (As := [.long (sp_X7_cut (sp_X7_unitsAt (2 * i)) hi1), .long (sp_X7_fill (sp_X7_unitsAt (2 * i)) lo1)]) (rest := []) ⟨hx, hb, hml, hown, hts⟩ (c_X2_assign l D y s.heap.size h0 b0 lo hi (sp_X7_cut (sp_X7_unitsAt (2 * i)) hi1) (sp_X7_fill (sp_X7_unitsAt (2 * i)) lo1)) (cwV 2 hts gX2_invert_X2_assign rfl rfl rfl (by decide +kernel) ⟨Nat.le_of_ble_eq_true rfl, Nat.le_of_ble_eq_true rfl⟩) (gP_V hP hD hK [0] (by decide) rfl 0 rfl rfl) rfl rfl hl.1 rfl (lv_room (Nat.le_of_ble_eq_true rfl)) dX2_invert_47 ⟨Nat.zero_le _, Nat.zero_le _⟩) hP hD hS hA [0] rfl (fun H locs hP hD hS => ?_)
      have hP : va_P D vwCl [(h0, .inr (1, [.int (gB true), .long (sp_X7_cut (sp_X7_unitsAt (2 * i)) hi1), .long (sp_X7_fill (sp_X7_unitsAt (2 * i)) lo1)])), (h1, .inr (1, [.int (gB b1), .long lo1, .long hi1]))] H := hP
      have hD : va_D A [(h0, .inr (1, [.int (gB true), .long (sp_X7_cut (sp_X7_unitsAt (2 * i)) hi1), .long (sp_X7_fill (sp_X7_unitsAt (2 * i)) lo1)])), (h1, .inr (1, [.int (gB b1), .long lo1, .long hi1]))] := hD
      exact W.vret hx hb hr (fun t ht hW => ⟨⟨none, [(h0, .inr (1, [.int (gB true), .long (sp_X7_cut (sp_X7_unitsAt (2 * i)) hi1), .long (sp_X7_fill (sp_X7_unitsAt (2 * i)) lo1)])), (h1, .inr (1, [.int (gB b1), .long lo1, .long hi1]))], rfl, ⟨rfl, by simp only [sp_X2_invert_b0, sp_X2_invert_lo, sp_X2_invert_hi, if_neg c_5, if_pos c_14]⟩, rfl, by rw [ht]; exact hP⟩, by rw [← hAe]; exact hS.F ht⟩) (by rw [← hAe]; exact hS.2.2) dX2_invert_50
    · skip
      refine lv_aload_n hx hb dX2_invert_18 rfl (lv_at hl 0 rfl) ?_
      refine g_callv (va_runV (As := []) (rest := []) ⟨hx, hb, hml, hown, hts⟩ (c_X2_clear l D y s.heap.size h0 b0 lo hi) (cwV 0 hts gX2_invert_X2_clear rfl rfl rfl (by decide +kernel) ⟨Nat.le_of_ble_eq_true rfl, Nat.le_of_ble_eq_true rfl⟩) (gP_V hP hD hK [0] (by decide) rfl 0 rfl rfl) rfl rfl hl.1 rfl (lv_room (Nat.le_of_ble_eq_true rfl)) dX2_invert_19 ⟨Nat.zero_le _, Nat.zero_le _⟩) hP hD hS hA [0] rfl (fun H locs hP hD hS => ?_)
      have hP : va_P D vwCl [(h0, .inr (1, [.int (gB false), .long 0, .long 0])), (h1, .inr (1, [.int (gB b1), .long lo1, .long hi1]))] H := hP
      have hD : va_D A [(h0, .inr (1, [.int (gB false), .long 0, .long 0])), (h1, .inr (1, [.int (gB b1), .long lo1, .long hi1]))] := hD
      exact W.vret hx hb hr (fun t ht hW => ⟨⟨none, [(h0, .inr (1, [.int (gB false), .long 0, .long 0])), (h1, .inr (1, [.int (gB b1), .long lo1, .long hi1]))], rfl, ⟨rfl, by simp only [sp_X2_invert_b0, sp_X2_invert_lo, sp_X2_invert_hi, if_neg c_5, if_neg c_14]⟩, rfl, by rw [ht]; exact hP⟩, by rw [← hAe]; exact hS.F ht⟩) (by rw [← hAe]; exact hS.2.2) dX2_invert_22
theorem gi_dec (n : Nat) : nI (n + 1) - 1 + Int32.ofInt (-1) = nI n - 1 := by
  rw [nI_pred, show Int32.ofInt (-1) = -1 from by decide, Int32.sub_eq_add_neg]
theorem gi_d0 : nI 0 - 1 < 0 := by decide
theorem gi_d1 (n : Nat) (h : n < 2 ^ 31) : ¬ nI (n + 1) - 1 < 0 := by rw [nI_pred]; exact nI_pos h
def rtF : Nat → Int64 → Int64 → Int64
  | 0, _, r => r
  | n + 1, v, r => rtF n v (if v < (r + jshl 1 (nI (n + 1) - 1)) * (r + jshl 1 (nI (n + 1) - 1)) then r else r + jshl 1 (nI (n + 1) - 1))
def rtG : Nat → Int64 → Int64 → Int64
  | 0, _, r => r
  | n + 1, v, r => rtG n v (if v < (r ||| jshl 1 (nI (n + 1) - 1)) * (r ||| jshl 1 (nI (n + 1) - 1)) then r else r ||| jshl 1 (nI (n + 1) - 1))
def tenF : Nat → Int64 → Int64
  | 0, x => x
  | n + 1, x => tenF n (x * 10)
set_option maxHeartbeats 4000000 in
set_option maxRecDepth 100000 in
theorem c_X7_cutRoot (l : Launch) (D : va_G) (y : Nat → ClassId) (sz : Nat) (a : Int64) : Met l yX7_cutRoot wsX7_cutRoot ({ frames := 0, cells := 0, slots := 0, locals := 0 } : Room) (gP D y [.long a] [] sz) (gR (.long (rtF 31 a 0))) 0 0 (fun _ => False) := by
  refine Met.ofW (cc := cX7_cutRoot) (maxL := 7) (ret := (some .long)) (by decide) rfl ?_
  intro p e s m args below meth c s₁ B hml hv
  obtain ⟨rfl, hsz, hP, hK, hD0⟩ := hv
  have hx := B.exec
  have hb := B.bytes
  have hr := B.returns
  have hts := atoms_spec (ws := wsX7_cutRoot) B.pre
  have hown : s.vm.findClass RX7 = some m.cls := findClass_of_methodNamed B.named
  have hlocks := B.notSynchronized
  subst hsz
  obtain ⟨A, hAe⟩ : ∃ A : Nat → Prop, A = va_A [] s.heap.size := ⟨_, rfl⟩
  have hD : va_D A [] := by rw [hAe]; exact hD0.self (sz := s.heap.size)
  have hA : ∀ q : Nat, s.heap.size ≤ q → A q := fun q h => by rw [hAe]; exact Or.inr h
  have hS : va_S A s.heap s.heap [] := va_S.rf
  have hl := lv_entry ([.long a]) (n := 7) (Nat.le_of_ble_eq_true rfl)
  rw [lg_entry_eq]
  generalize (lg_sl ([.long a]) ++ List.replicate (7 - (lg_sl ([.long a])).length) Slot.unset).toArray = ls at hl ⊢
  have hl : lv_has ls 7 [(0, .long a)] := hl
  refine lv_lconst (v := 0) hx hb dX7_cutRoot_0 (by decide) ?_
  refine lv_lstore_n (lv' := [(2, .long 0), (0, .long a)]) hx hb dX7_cutRoot_1 rfl hl (by decide) rfl (fun ls hl => ?_)
  refine lv_bipush (v := 30) hx hb dX7_cutRoot_2 (by decide) ?_
  refine g_topi (y := nI 31 - 1) (by decide) ?_
  refine lv_istore (lv' := [(4, .int (nI 31 - 1)), (2, .long 0), (0, .long a)]) hx hb dX7_cutRoot_4 hl (by decide) rfl (fun ls hl => ?_)
  have LOOP6 : ∀ (n : Nat) (r : Int64), (n ≤ 31) → (rtF n a r = rtF 31 a 0) → ∀ (ls : Array Slot), lv_has ls 7 [(0, .long a), (2, .long r), (4, .int (nI n - 1))] → W p l e (headSpec wsX7_cutRoot ({ frames := 0, cells := 0, slots := 0, locals := 0 } : Room)).room s m (([.long a] : List Value).toArray) below meth c s.heap [] 0 0 (MQ below (gR (.long (rtF 31 a 0))) (([.long a] : List Value).toArray) s 0 0 (fun _ => False)) (F0 m 6 ls []) := by
    intro n
    induction n with
    | zero =>
      intro r hn hF ls hl
      refine lv_iload hx hb dX7_cutRoot_6 (lv_at hl 2 rfl) ?_
      refine lv_if_lt (tgt := 38) hx hb dX7_cutRoot_8 (by decide) (fun c_8 => ?_) (fun c_8 => absurd (gi_d0) c_8)
      refine lv_lload_n hx hb dX7_cutRoot_38 rfl (lv_at hl 1 rfl) ?_
      exact W.lret (v := r) hx hb hr (fun t ht hW => ⟨congrArg (fun z => Outcome.returned (some (Value.long z))) (hF), ht⟩) (fun q h => by cases h) dX7_cutRoot_39
    | succ n ih6 =>
      intro r hn hF ls hl
      refine lv_iload hx hb dX7_cutRoot_6 (lv_at hl 2 rfl) ?_
      refine lv_if_lt (tgt := 38) hx hb dX7_cutRoot_8 (by decide) (fun c_8 => absurd c_8 (gi_d1 n (by omega))) (fun c_8 => ?_)
      refine lv_lload_n hx hb dX7_cutRoot_11 rfl (lv_at hl 1 rfl) ?_
      refine lv_lconst (v := 1) hx hb dX7_cutRoot_12 (by decide) ?_
      refine lv_iload hx hb dX7_cutRoot_13 (lv_at hl 2 rfl) ?_
      refine lv_lshl (v := jshl 1 (nI (n + 1) - 1)) hx hb dX7_cutRoot_15 rfl ?_
      refine lv_ladd hx hb dX7_cutRoot_16 ?_
      refine lv_lstore (lv' := [(5, .long (r + (jshl 1 (nI (n + 1) - 1)))), (0, .long a), (2, .long r), (4, .int (nI (n + 1) - 1))]) hx hb dX7_cutRoot_17 hl (by decide) rfl (fun ls hl => ?_)
      refine lv_lload hx hb dX7_cutRoot_19 (lv_at hl 0 rfl) ?_
      refine lv_lload hx hb dX7_cutRoot_21 (lv_at hl 0 rfl) ?_
      refine lv_lmul hx hb dX7_cutRoot_23 ?_
      refine lv_lload_n hx hb dX7_cutRoot_24 rfl (lv_at hl 1 rfl) ?_
      refine g_gt (tgt := 32) hx hb dX7_cutRoot_25 dX7_cutRoot_26 (by decide) (fun c_25 => ?_) (fun c_25 => ?_)
      · skip
        refine lv_iinc (v := nI n - 1) (lv' := [(4, .int (nI n - 1)), (5, .long (r + (jshl 1 (nI (n + 1) - 1)))), (0, .long a), (2, .long r)]) hx hb dX7_cutRoot_32 hl (k := 3) rfl (gi_dec n) (by decide) rfl (fun ls hl => ?_)
        refine lv_goto (tgt := 6) hx hb dX7_cutRoot_35 (by decide) ?_
        exact ih6 r (by omega) (by rw [← hF]; show _ = rtF n a (if _ then _ else _); rw [if_pos c_25]) ls (lv_sub hl [2, 3, 0] rfl)
      · skip
        refine lv_lload hx hb dX7_cutRoot_29 (lv_at hl 0 rfl) ?_
        refine lv_lstore_n (lv' := [(2, .long (r + (jshl 1 (nI (n + 1) - 1)))), (5, .long (r + (jshl 1 (nI (n + 1) - 1)))), (0, .long a), (4, .int (nI (n + 1) - 1))]) hx hb dX7_cutRoot_31 rfl hl (by decide) rfl (fun ls hl => ?_)
        refine lv_iinc (v := nI n - 1) (lv' := [(4, .int (nI n - 1)), (2, .long (r + (jshl 1 (nI (n + 1) - 1)))), (5, .long (r + (jshl 1 (nI (n + 1) - 1)))), (0, .long a)]) hx hb dX7_cutRoot_32 hl (k := 3) rfl (gi_dec n) (by decide) rfl (fun ls hl => ?_)
        refine lv_goto (tgt := 6) hx hb dX7_cutRoot_35 (by decide) ?_
        exact ih6 (r + (jshl 1 (nI (n + 1) - 1))) (by omega) (by rw [← hF]; show _ = rtF n a (if _ then _ else _); rw [if_neg c_25]) ls (lv_sub hl [3, 1, 0] rfl)
  exact LOOP6 31 0 (Nat.le_refl _) (rfl) ls (lv_sub hl [2, 1, 0] rfl)
def sp_X7_fillRoot (a : Int64) : Int64 := if a ≤ ((rtF 31 a 0) * (rtF 31 a 0)) then rtF 31 a 0 else (rtF 31 a 0) + 1
set_option maxHeartbeats 4000000 in
set_option maxRecDepth 100000 in
theorem c_X7_fillRoot (l : Launch) (D : va_G) (y : Nat → ClassId) (sz : Nat) (a : Int64) : Met l yX7_fillRoot wsX7_fillRoot ({ frames := 1, cells := 0, slots := 0, locals := 26 } : Room) (gP D y [.long a] [] sz) (gR (.long (sp_X7_fillRoot a))) 0 0 (fun _ => False) := by
  refine Met.ofW (cc := cX7_fillRoot) (maxL := 4) (ret := (some .long)) (by decide) rfl ?_
  intro p e s m args below meth c s₁ B hml hv
  obtain ⟨rfl, hsz, hP, hK, hD0⟩ := hv
  have hx := B.exec
  have hb := B.bytes
  have hr := B.returns
  have hts := atoms_spec (ws := wsX7_fillRoot) B.pre
  have hown : s.vm.findClass RX7 = some m.cls := findClass_of_methodNamed B.named
  have hlocks := B.notSynchronized
  subst hsz
  obtain ⟨A, hAe⟩ : ∃ A : Nat → Prop, A = va_A [] s.heap.size := ⟨_, rfl⟩
  have hD : va_D A [] := by rw [hAe]; exact hD0.self (sz := s.heap.size)
  have hA : ∀ q : Nat, s.heap.size ≤ q → A q := fun q h => by rw [hAe]; exact Or.inr h
  have hS : va_S A s.heap s.heap [] := va_S.rf
  have hl := lv_entry ([.long a]) (n := 4) (Nat.le_of_ble_eq_true rfl)
  rw [lg_entry_eq]
  generalize (lg_sl ([.long a]) ++ List.replicate (4 - (lg_sl ([.long a])).length) Slot.unset).toArray = ls at hl ⊢
  have hl : lv_has ls 4 [(0, .long a)] := hl
  refine lv_lload_n hx hb dX7_fillRoot_0 rfl (lv_at hl 0 rfl) ?_
  refine g_callR (v0 := .long (rtF 31 a 0)) (va_runS (As := [.long a]) (rest := []) ⟨hx, hb, hml, hown, hts⟩ (c_X7_cutRoot l D y s.heap.size a) (va_cwS 1 hts gX7_fillRoot_X7_cutRoot rfl rfl rfl (by decide +kernel) ⟨Nat.le_of_ble_eq_true rfl, Nat.le_of_ble_eq_true rfl⟩) (gP_S hP hD hK [] (by decide) rfl) rfl rfl hl.1 rfl (lv_room (Nat.le_of_ble_eq_true rfl)) dX7_fillRoot_1 ⟨Nat.zero_le _, Nat.zero_le _⟩) ?_
  refine lv_lstore_n (lv' := [(2, .long (rtF 31 a 0)), (0, .long a)]) hx hb dX7_fillRoot_4 rfl hl (by decide) rfl (fun ls hl => ?_)
  refine lv_lload_n hx hb dX7_fillRoot_5 rfl (lv_at hl 0 rfl) ?_
  refine lv_lload_n hx hb dX7_fillRoot_6 rfl (lv_at hl 0 rfl) ?_
  refine lv_lmul hx hb dX7_fillRoot_7 ?_
  refine lv_lload_n hx hb dX7_fillRoot_8 rfl (lv_at hl 1 rfl) ?_
  refine g_ge (tgt := 19) hx hb dX7_fillRoot_9 dX7_fillRoot_10 (by decide) (fun c_9 => ?_) (fun c_9 => ?_)
  · skip
    refine lv_lload_n hx hb dX7_fillRoot_19 rfl (lv_at hl 0 rfl) ?_
    exact W.lret (v := rtF 31 a 0) hx hb hr (fun t ht hW => ⟨congrArg (fun z => Outcome.returned (some (Value.long z))) (by simp only [sp_X7_fillRoot, if_pos c_9]), ht⟩) (fun q h => by cases h) dX7_fillRoot_20
  · skip
    refine lv_lload_n hx hb dX7_fillRoot_13 rfl (lv_at hl 0 rfl) ?_
    refine lv_lconst (v := 1) hx hb dX7_fillRoot_14 (by decide) ?_
    refine lv_ladd hx hb dX7_fillRoot_15 ?_
    refine lv_goto (tgt := 20) hx hb dX7_fillRoot_16 (by decide) ?_
    exact W.lret (v := (rtF 31 a 0) + 1) hx hb hr (fun t ht hW => ⟨congrArg (fun z => Outcome.returned (some (Value.long z))) (by simp only [sp_X7_fillRoot, if_neg c_9]), ht⟩) (fun q h => by cases h) dX7_fillRoot_20
theorem in_X2_takeRoot_X2 : ∀ w ∈ wsX20, w ∈ wsX2_takeRoot := fun _ h => List.mem_cons_of_mem _ (List.mem_append_right _ h)
set_option maxHeartbeats 4000000 in
set_option maxRecDepth 100000 in
theorem c_X2_takeRoot (l : Launch) (D : va_G) (y : Nat → ClassId) (sz : Nat) (h0 : Nat) (b0 : Bool) (lo hi : Int64) (h1 : Nat) (b1 : Bool) (lo1 hi1 : Int64) (i : Int32) : Met l yX2_takeRoot wsX2_takeRoot ({ frames := 2, cells := 0, slots := 0, locals := 49 } : Room) (gP D y [.ref h0, .ref h1, .int i] [(h0, .inr (1, [.int (gB b0), .long lo, .long hi])), (h1, .inr (1, [.int (gB b1), .long lo1, .long hi1]))] sz) (gQ D [(h0, .inr (1, [.int (gB b0), .long lo, .long hi])), (h1, .inr (1, [.int (gB b1), .long lo1, .long hi1]))] (gF none [(h0, .inr (1, [.int (gB true), .long (rtF 31 ((jmax lo1 0) * (sp_X7_unitsAt i)) 0), .long (sp_X7_fillRoot ((jmax hi1 0) * (sp_X7_unitsAt i)))])), (h1, .inr (1, [.int (gB b1), .long lo1, .long hi1]))])) 0 0 (va_A [(h0, .inr (1, [.int (gB b0), .long lo, .long hi])), (h1, .inr (1, [.int (gB b1), .long lo1, .long hi1]))] sz) := by
  refine Met.ofW (cc := cX2_takeRoot) (maxL := 7) (ret := none) (by decide) rfl ?_
  intro p e s m args below meth c s₁ B hml hv
  obtain ⟨rfl, hsz, hP, hK, hD0⟩ := hv
  have hx := B.exec
  have hb := B.bytes
  have hr := B.returns
  have hts := atoms_spec (ws := wsX2_takeRoot) B.pre
  have hown : s.vm.findClass RX2 = some m.cls := findClass_of_methodNamed B.named
  have hlocks := B.notSynchronized
  subst hsz
  obtain ⟨A, hAe⟩ : ∃ A : Nat → Prop, A = va_A [(h0, .inr (1, [.int (gB b0), .long lo, .long hi])), (h1, .inr (1, [.int (gB b1), .long lo1, .long hi1]))] s.heap.size := ⟨_, rfl⟩
  have hD : va_D A [(h0, .inr (1, [.int (gB b0), .long lo, .long hi])), (h1, .inr (1, [.int (gB b1), .long lo1, .long hi1]))] := by rw [hAe]; exact hD0.self (sz := s.heap.size)
  have hA : ∀ q : Nat, s.heap.size ≤ q → A q := fun q h => by rw [hAe]; exact Or.inr h
  have hS : va_S A s.heap s.heap [] := va_S.rf
  have hl := lv_entry ([.ref h0, .ref h1, .int i]) (n := 7) (Nat.le_of_ble_eq_true rfl)
  rw [lg_entry_eq]
  generalize (lg_sl ([.ref h0, .ref h1, .int i]) ++ List.replicate (7 - (lg_sl ([.ref h0, .ref h1, .int i])).length) Slot.unset).toArray = ls at hl ⊢
  have hl : lv_has ls 7 [(0, .ref h0), (1, .ref h1), (2, .int i)] := hl
  refine lv_aload_n hx hb dX2_takeRoot_0 rfl (lv_at hl 1 rfl) ?_
  refine va_get (D := D) (ci := 1) (v := .long lo1) (C := RX2) (T := TX2) (N := 3) hx hb hts in_X2_takeRoot_X2 hown hK.1 hP 1 rfl rfl 1 (by decide) (hts (.fieldLink RX2 15 "Nestlimit$Interval" "low" "J") (List.mem_of_getElem? (i := 1) rfl)) (fun _ h9 => h9) rfl dX2_takeRoot_1 ?_
  refine lv_lconst (v := 0) hx hb dX2_takeRoot_4 (by decide) ?_
  refine va_mmax_long (rest := []) hx hb (hml.trans hl.1.symm) hown (hts (.methodLink RX2 37 Lib.MathLoose.max_long.x) (List.mem_of_getElem? (i := 2) rfl)) (hts (.static Lib.MathLoose.max_long.x) (List.mem_of_getElem? (i := 3) rfl)) (hts (.initialized "java/lang/Math") (List.mem_of_getElem? (i := 4) rfl)) (hts (.code Lib.MathLoose.max_long.x Lib.MathLoose.max_long.code 4 (some .long)) (List.mem_of_getElem? (i := 5) rfl)) (Nat.le_of_ble_eq_true rfl) (Nat.le_of_ble_eq_true rfl) (Nat.zero_le _) (Nat.zero_le _) dX2_takeRoot_5 ?_
  refine g_topl (y := jmax lo1 0) rfl ?_
  refine lv_iload_n hx hb dX2_takeRoot_8 rfl (lv_at hl 2 rfl) ?_
  refine g_callR (v0 := .long (sp_X7_unitsAt i)) (va_runSN (As := [.int i]) (rest := [.long (jmax lo1 0)]) ⟨hx, hb, hml, hown, hts⟩ (c_X7_unitsAt l D y s.heap.size i) ⟨va_cnB 1 hts gX2_takeRoot_X7_unitsAt_n24 rfl rfl rfl (hK.2.at 2 rfl) (hts (.initialized RX7) (List.mem_of_getElem? (i := 8) rfl)) (by decide +kernel) ⟨Nat.le_of_ble_eq_true rfl, Nat.le_of_ble_eq_true rfl⟩, (hts (.static yX7_unitsAt) (List.mem_of_getElem? (i := 7) rfl)), trivial⟩ (gP_S hP hD hK [] (by decide) rfl) rfl rfl hl.1 rfl (lv_room (Nat.le_of_ble_eq_true rfl)) dX2_takeRoot_9 ⟨Nat.zero_le _, Nat.zero_le _⟩) ?_
  refine lv_lmul hx hb dX2_takeRoot_12 ?_
  refine lv_lstore_n (lv' := [(3, .long ((jmax lo1 0) * (sp_X7_unitsAt i))), (0, .ref h0), (1, .ref h1), (2, .int i)]) hx hb dX2_takeRoot_13 rfl hl (by decide) rfl (fun ls hl => ?_)
  refine lv_aload_n hx hb dX2_takeRoot_14 rfl (lv_at hl 2 rfl) ?_
  refine va_get (D := D) (ci := 1) (v := .long hi1) (C := RX2) (T := TX2) (N := 3) hx hb hts in_X2_takeRoot_X2 hown hK.1 hP 1 rfl rfl 2 (by decide) (hts (.fieldLink RX2 19 "Nestlimit$Interval" "high" "J") (List.mem_of_getElem? (i := 6) rfl)) (fun _ h9 => h9) rfl dX2_takeRoot_15 ?_
  refine lv_lconst (v := 0) hx hb dX2_takeRoot_18 (by decide) ?_
  refine va_mmax_long (rest := []) hx hb (hml.trans hl.1.symm) hown (hts (.methodLink RX2 37 Lib.MathLoose.max_long.x) (List.mem_of_getElem? (i := 2) rfl)) (hts (.static Lib.MathLoose.max_long.x) (List.mem_of_getElem? (i := 3) rfl)) (hts (.initialized "java/lang/Math") (List.mem_of_getElem? (i := 4) rfl)) (hts (.code Lib.MathLoose.max_long.x Lib.MathLoose.max_long.code 4 (some .long)) (List.mem_of_getElem? (i := 5) rfl)) (Nat.le_of_ble_eq_true rfl) (Nat.le_of_ble_eq_true rfl) (Nat.zero_le _) (Nat.zero_le _) dX2_takeRoot_19 ?_
  refine g_topl (y := jmax hi1 0) rfl ?_
  refine lv_iload_n hx hb dX2_takeRoot_22 rfl (lv_at hl 3 rfl) ?_
  refine g_callR (v0 := .long (sp_X7_unitsAt i)) (va_runSN (As := [.int i]) (rest := [.long (jmax hi1 0)]) ⟨hx, hb, hml, hown, hts⟩ (c_X7_unitsAt l D y s.heap.size i) ⟨va_cnB 1 hts gX2_takeRoot_X7_unitsAt_n24 rfl rfl rfl (hK.2.at 2 rfl) (hts (.initialized RX7) (List.mem_of_getElem? (i := 8) rfl)) (by decide +kernel) ⟨Nat.le_of_ble_eq_true rfl, Nat.le_of_ble_eq_true rfl⟩, (hts (.static yX7_unitsAt) (List.mem_of_getElem? (i := 7) rfl)), trivial⟩ (gP_S hP hD hK [] (by decide) rfl) rfl rfl hl.1 rfl (lv_room (Nat.le_of_ble_eq_true rfl)) dX2_takeRoot_23 ⟨Nat.zero_le _, Nat.zero_le _⟩) ?_
  refine lv_lmul hx hb dX2_takeRoot_26 ?_
  refine lv_lstore (lv' := [(5, .long ((jmax hi1 0) * (sp_X7_unitsAt i))), (3, .long ((jmax lo1 0) * (sp_X7_unitsAt i))), (0, .ref h0), (1, .ref h1), (2, .int i)]) hx hb dX2_takeRoot_27 hl (by decide) rfl (fun ls hl => ?_)
  refine lv_aload_n hx hb dX2_takeRoot_29 rfl (lv_at hl 2 rfl) ?_
  refine lv_lload_n hx hb dX2_takeRoot_30 rfl (lv_at hl 1 rfl) ?_
  refine g_callR (v0 := .long (rtF 31 ((jmax lo1 0) * (sp_X7_unitsAt i)) 0)) (va_runSN (As := [.long ((jmax lo1 0) * (sp_X7_unitsAt i))]) (rest := [.ref h0]) ⟨hx, hb, hml, hown, hts⟩ (c_X7_cutRoot l D y s.heap.size ((jmax lo1 0) * (sp_X7_unitsAt i))) ⟨va_cnB 1 hts gX2_takeRoot_X7_cutRoot_n52 rfl rfl rfl (hK.2.at 5 rfl) (hts (.initialized RX7) (List.mem_of_getElem? (i := 8) rfl)) (by decide +kernel) ⟨Nat.le_of_ble_eq_true rfl, Nat.le_of_ble_eq_true rfl⟩, (hts (.static yX7_cutRoot) (List.mem_of_getElem? (i := 10) rfl)), trivial⟩ (gP_S hP hD hK [] (by decide) rfl) rfl rfl hl.1 rfl (lv_room (Nat.le_of_ble_eq_true rfl)) dX2_takeRoot_31 ⟨Nat.zero_le _, Nat.zero_le _⟩) ?_
  refine lv_lload hx hb dX2_takeRoot_34 (lv_at hl 0 rfl) ?_
  refine g_callR (v0 := .long (sp_X7_fillRoot ((jmax hi1 0) * (sp_X7_unitsAt i)))) (va_runSN (As := [.long ((jmax hi1 0) * (sp_X7_unitsAt i))]) (rest := [.long (rtF 31 ((jmax lo1 0) * (sp_X7_unitsAt i)) 0), .ref h0]) ⟨hx, hb, hml, hown, hts⟩ (c_X7_fillRoot l D y s.heap.size ((jmax hi1 0) * (sp_X7_unitsAt i))) ⟨va_cnB 1 hts gX2_takeRoot_X7_fillRoot_n56 rfl rfl rfl (hK.2.at 6 rfl) (hts (.initialized RX7) (List.mem_of_getElem? (i := 8) rfl)) (by decide +kernel) ⟨Nat.le_of_ble_eq_true rfl, Nat.le_of_ble_eq_true rfl⟩, (hts (.static yX7_fillRoot) (List.mem_of_getElem? (i := 12) rfl)), trivial⟩ (gP_S hP hD hK [] (by decide) rfl) rfl rfl hl.1 rfl (lv_room (Nat.le_of_ble_eq_true rfl)) dX2_takeRoot_36 ⟨Nat.zero_le _, Nat.zero_le _⟩) ?_
  refine g_callv (va_runV (As := [.long (rtF 31 ((jmax lo1 0) * (sp_X7_unitsAt i)) 0), .long (sp_X7_fillRoot ((jmax hi1 0) * (sp_X7_unitsAt i)))]) (rest := []) ⟨hx, hb, hml, hown, hts⟩ (c_X2_assign l D y s.heap.size h0 b0 lo hi (rtF 31 ((jmax lo1 0) * (sp_X7_unitsAt i)) 0) (sp_X7_fillRoot ((jmax hi1 0) * (sp_X7_unitsAt i)))) (cwV 2 hts gX2_takeRoot_X2_assign rfl rfl rfl (by decide +kernel) ⟨Nat.le_of_ble_eq_true rfl, Nat.le_of_ble_eq_true rfl⟩) (gP_V hP hD hK [0] (by decide) rfl 0 rfl rfl) rfl rfl hl.1 rfl (lv_room (Nat.le_of_ble_eq_true rfl)) dX2_takeRoot_39 ⟨Nat.zero_le _, Nat.zero_le _⟩) hP hD hS hA [0] rfl (fun H locs hP hD hS => ?_)
  have hP : va_P D vwCl [(h0, .inr (1, [.int (gB true), .long (rtF 31 ((jmax lo1 0) * (sp_X7_unitsAt i)) 0), .long (sp_X7_fillRoot ((jmax hi1 0) * (sp_X7_unitsAt i)))])), (h1, .inr (1, [.int (gB b1), .long lo1, .long hi1]))] H := hP
  have hD : va_D A [(h0, .inr (1, [.int (gB true), .long (rtF 31 ((jmax lo1 0) * (sp_X7_unitsAt i)) 0), .long (sp_X7_fillRoot ((jmax hi1 0) * (sp_X7_unitsAt i)))])), (h1, .inr (1, [.int (gB b1), .long lo1, .long hi1]))] := hD
  exact W.vret hx hb hr (fun t ht hW => ⟨⟨none, [(h0, .inr (1, [.int (gB true), .long (rtF 31 ((jmax lo1 0) * (sp_X7_unitsAt i)) 0), .long (sp_X7_fillRoot ((jmax hi1 0) * (sp_X7_unitsAt i)))])), (h1, .inr (1, [.int (gB b1), .long lo1, .long hi1]))], rfl, ⟨rfl, rfl⟩, rfl, by rw [ht]; exact hP⟩, by rw [← hAe]; exact hS.F ht⟩) (by rw [← hAe]; exact hS.2.2) dX2_takeRoot_42
def exS (ol oh : Int64) (i : Int32) (k : Nat) (q : Int64 × Int64) : Int64 × Int64 := (sp_X7_cut (sp_X2_multiply_lo ol oh q.1 q.2 i) (nI k).toInt64 + sp_X7_unitsAt i, sp_X7_fill (sp_X2_multiply_hi ol oh q.1 q.2 i) (nI k).toInt64 + sp_X7_unitsAt i)
def exF (ol oh : Int64) (i : Int32) : Nat → Int64 × Int64 → Int64 × Int64
  | 0, q => q
  | n + 1, q => exF ol oh i n (exS ol oh i (n + 1) q)
def sp_X2_takeExp_b0 (lo1 hi1 : Int64) (i : Int32) : Bool := if lo1 < -(sp_X7_unitsAt i) then false else if hi1 ≤ sp_X7_unitsAt i then true else false
def sp_X2_takeExp_lo (lo1 hi1 : Int64) (i : Int32) : Int64 := if lo1 < -(sp_X7_unitsAt i) then 0 else if hi1 ≤ sp_X7_unitsAt i then (exF lo1 hi1 i 12 (sp_X7_unitsAt i, sp_X7_unitsAt i)).1 - 1 else 0
def sp_X2_takeExp_hi (lo1 hi1 : Int64) (i : Int32) : Int64 := if lo1 < -(sp_X7_unitsAt i) then 0 else if hi1 ≤ sp_X7_unitsAt i then (exF lo1 hi1 i 12 (sp_X7_unitsAt i, sp_X7_unitsAt i)).2 + 1 else 0
theorem in_X2_takeExp_X2 : ∀ w ∈ wsX20, w ∈ wsX2_takeExp := fun _ h => List.mem_cons_of_mem _ (List.mem_append_right _ h)
set_option maxHeartbeats 4000000 in
set_option maxRecDepth 100000 in
theorem c_X2_takeExp (l : Launch) (D : va_G) (y : Nat → ClassId) (sz : Nat) (h0 : Nat) (b0 : Bool) (lo hi : Int64) (h1 : Nat) (b1 : Bool) (lo1 hi1 : Int64) (i : Int32) : Met l yX2_takeExp wsX2_takeExp ({ frames := 3, cells := 0, slots := 0, locals := 83 } : Room) (gP D y [.ref h0, .ref h1, .int i] [(h0, .inr (1, [.int (gB b0), .long lo, .long hi])), (h1, .inr (1, [.int (gB b1), .long lo1, .long hi1]))] sz) (gQ D [(h0, .inr (1, [.int (gB b0), .long lo, .long hi])), (h1, .inr (1, [.int (gB b1), .long lo1, .long hi1]))] (gF none [(h0, .inr (1, [.int (gB (sp_X2_takeExp_b0 lo1 hi1 i)), .long (sp_X2_takeExp_lo lo1 hi1 i), .long (sp_X2_takeExp_hi lo1 hi1 i)])), (h1, .inr (1, [.int (gB b1), .long lo1, .long hi1]))])) 0 0 (va_A [(h0, .inr (1, [.int (gB b0), .long lo, .long hi])), (h1, .inr (1, [.int (gB b1), .long lo1, .long hi1]))] sz) := by
  refine Met.ofW (cc := cX2_takeExp) (maxL := 6) (ret := none) (by decide) rfl ?_
  intro p e s m args below meth c s₁ B hml hv
  obtain ⟨rfl, hsz, hP, hK, hD0⟩ := hv
  have hx := B.exec
  have hb := B.bytes
  have hr := B.returns
  have hts := atoms_spec (ws := wsX2_takeExp) B.pre
  have hown : s.vm.findClass RX2 = some m.cls := findClass_of_methodNamed B.named
  have hlocks := B.notSynchronized
  subst hsz
  obtain ⟨A, hAe⟩ : ∃ A : Nat → Prop, A = va_A [(h0, .inr (1, [.int (gB b0), .long lo, .long hi])), (h1, .inr (1, [.int (gB b1), .long lo1, .long hi1]))] s.heap.size := ⟨_, rfl⟩
  have hD : va_D A [(h0, .inr (1, [.int (gB b0), .long lo, .long hi])), (h1, .inr (1, [.int (gB b1), .long lo1, .long hi1]))] := by rw [hAe]; exact hD0.self (sz := s.heap.size)
  have hA : ∀ q : Nat, s.heap.size ≤ q → A q := fun q h => by rw [hAe]; exact Or.inr h
  have hS : va_S A s.heap s.heap [] := va_S.rf
  have hl := lv_entry ([.ref h0, .ref h1, .int i]) (n := 6) (Nat.le_of_ble_eq_true rfl)
  rw [lg_entry_eq]
  generalize (lg_sl ([.ref h0, .ref h1, .int i]) ++ List.replicate (6 - (lg_sl ([.ref h0, .ref h1, .int i])).length) Slot.unset).toArray = ls at hl ⊢
  have hl : lv_has ls 6 [(0, .ref h0), (1, .ref h1), (2, .int i)] := hl
  refine lv_iload_n hx hb dX2_takeExp_0 rfl (lv_at hl 2 rfl) ?_
  refine g_callR (v0 := .long (sp_X7_unitsAt i)) (va_runSN (As := [.int i]) (rest := []) ⟨hx, hb, hml, hown, hts⟩ (c_X7_unitsAt l D y s.heap.size i) ⟨va_cnB 1 hts gX2_takeExp_X7_unitsAt_n24 rfl rfl rfl (hK.2.at 2 rfl) (hts (.initialized RX7) (List.mem_of_getElem? (i := 4) rfl)) (by decide +kernel) ⟨Nat.le_of_ble_eq_true rfl, Nat.le_of_ble_eq_true rfl⟩, (hts (.static yX7_unitsAt) (List.mem_of_getElem? (i := 3) rfl)), trivial⟩ (gP_S hP hD hK [] (by decide) rfl) rfl rfl hl.1 rfl (lv_room (Nat.le_of_ble_eq_true rfl)) dX2_takeExp_1 ⟨Nat.zero_le _, Nat.zero_le _⟩) ?_
  refine lv_lstore_n (lv' := [(3, .long (sp_X7_unitsAt i)), (0, .ref h0), (1, .ref h1), (2, .int i)]) hx hb dX2_takeExp_4 rfl hl (by decide) rfl (fun ls hl => ?_)
  refine lv_aload_n hx hb dX2_takeExp_5 rfl (lv_at hl 2 rfl) ?_
  refine va_get (D := D) (ci := 1) (v := .long lo1) (C := RX2) (T := TX2) (N := 3) hx hb hts in_X2_takeExp_X2 hown hK.1 hP 1 rfl rfl 1 (by decide) (hts (.fieldLink RX2 15 "Nestlimit$Interval" "low" "J") (List.mem_of_getElem? (i := 1) rfl)) (fun _ h9 => h9) rfl dX2_takeExp_6 ?_
  refine lv_lload_n hx hb dX2_takeExp_9 rfl (lv_at hl 0 rfl) ?_
  refine lv_lneg hx hb dX2_takeExp_10 ?_
  refine g_lt (tgt := 24) hx hb dX2_takeExp_11 dX2_takeExp_12 (by decide) (fun c_11 => ?_) (fun c_11 => ?_)
  · skip
    refine lv_aload_n hx hb dX2_takeExp_24 rfl (lv_at hl 1 rfl) ?_
    refine g_callv (va_runV (As := []) (rest := []) ⟨hx, hb, hml, hown, hts⟩ (c_X2_clear l D y s.heap.size h0 b0 lo hi) (cwV 0 hts gX2_takeExp_X2_clear rfl rfl rfl (by decide +kernel) ⟨Nat.le_of_ble_eq_true rfl, Nat.le_of_ble_eq_true rfl⟩) (gP_V hP hD hK [0] (by decide) rfl 0 rfl rfl) rfl rfl hl.1 rfl (lv_room (Nat.le_of_ble_eq_true rfl)) dX2_takeExp_25 ⟨Nat.zero_le _, Nat.zero_le _⟩) hP hD hS hA [0] rfl (fun H locs hP hD hS => ?_)
    have hP : va_P D vwCl [(h0, .inr (1, [.int (gB false), .long 0, .long 0])), (h1, .inr (1, [.int (gB b1), .long lo1, .long hi1]))] H := hP
    have hD : va_D A [(h0, .inr (1, [.int (gB false), .long 0, .long 0])), (h1, .inr (1, [.int (gB b1), .long lo1, .long hi1]))] := hD
    exact W.vret hx hb hr (fun t ht hW => ⟨⟨none, [(h0, .inr (1, [.int (gB false), .long 0, .long 0])), (h1, .inr (1, [.int (gB b1), .long lo1, .long hi1]))], rfl, ⟨rfl, by simp only [sp_X2_takeExp_b0, sp_X2_takeExp_lo, sp_X2_takeExp_hi, if_pos c_11]⟩, rfl, by rw [ht]; exact hP⟩, by rw [← hAe]; exact hS.F ht⟩) (by rw [← hAe]; exact hS.2.2) dX2_takeExp_28
  · skip
    refine lv_aload_n hx hb dX2_takeExp_15 rfl (lv_at hl 2 rfl) ?_
    refine va_get (D := D) (ci := 1) (v := .long hi1) (C := RX2) (T := TX2) (N := 3) hx hb hts in_X2_takeExp_X2 hown hK.1 hP 1 rfl rfl 2 (by decide) (hts (.fieldLink RX2 19 "Nestlimit$Interval" "high" "J") (List.mem_of_getElem? (i := 2) rfl)) (fun _ h9 => h9) rfl dX2_takeExp_16 ?_
    refine lv_lload_n hx hb dX2_takeExp_19 rfl (lv_at hl 0 rfl) ?_
    refine g_le (tgt := 29) hx hb dX2_takeExp_20 dX2_takeExp_21 (by decide) (fun c_20 => ?_) (fun c_20 => ?_)
    · skip
      refine lv_aload_n hx hb dX2_takeExp_29 rfl (lv_at hl 1 rfl) ?_
      refine lv_lload_n hx hb dX2_takeExp_30 rfl (lv_at hl 0 rfl) ?_
      refine lv_lload_n hx hb dX2_takeExp_31 rfl (lv_at hl 0 rfl) ?_
      refine g_callv (va_runV (As := [.long (sp_X7_unitsAt i), .long (sp_X7_unitsAt i)]) (rest := []) ⟨hx, hb, hml, hown, hts⟩ (c_X2_assign l D y s.heap.size h0 b0 lo hi (sp_X7_unitsAt i) (sp_X7_unitsAt i)) (cwV 2 hts gX2_takeExp_X2_assign rfl rfl rfl (by decide +kernel) ⟨Nat.le_of_ble_eq_true rfl, Nat.le_of_ble_eq_true rfl⟩) (gP_V hP hD hK [0] (by decide) rfl 0 rfl rfl) rfl rfl hl.1 rfl (lv_room (Nat.le_of_ble_eq_true rfl)) dX2_takeExp_32 ⟨Nat.zero_le _, Nat.zero_le _⟩) hP hD hS hA [0] rfl (fun H locs hP hD hS => ?_)
      have hP : va_P D vwCl [(h0, .inr (1, [.int (gB true), .long (sp_X7_unitsAt i), .long (sp_X7_unitsAt i)])), (h1, .inr (1, [.int (gB b1), .long lo1, .long hi1]))] H := hP
      have hD : va_D A [(h0, .inr (1, [.int (gB true), .long (sp_X7_unitsAt i), .long (sp_X7_unitsAt i)])), (h1, .inr (1, [.int (gB b1), .long lo1, .long hi1]))] := hD
      refine lv_bipush (v := 12) hx hb dX2_takeExp_35 (by decide) ?_
      refine lv_istore (lv' := [(5, .int 12), (3, .long (sp_X7_unitsAt i)), (0, .ref h0), (1, .ref h1), (2, .int i)]) hx hb dX2_takeExp_37 hl (by decide) rfl (fun ls hl => ?_)
      have LOOP39 : ∀ (n : Nat) (el : Int64) (eh : Int64), (n ≤ 12) → (exF lo1 hi1 i n (el, eh) = exF lo1 hi1 i 12 (sp_X7_unitsAt i, sp_X7_unitsAt i)) → ∀ (H : Heap) (locs : List Loc), va_P D vwCl [(h0, .inr (1, [.int (gB true), .long el, .long eh])), (h1, .inr (1, [.int (gB b1), .long lo1, .long hi1]))] H → va_D A [(h0, .inr (1, [.int (gB true), .long el, .long eh])), (h1, .inr (1, [.int (gB b1), .long lo1, .long hi1]))] → va_S A s.heap H locs → ∀ (ls : Array Slot), lv_has ls 6 [(0, .ref h0), (1, .ref h1), (2, .int i), (3, .long (sp_X7_unitsAt i)), (5, .int (nI n))] → W p l e (headSpec wsX2_takeExp ({ frames := 3, cells := 0, slots := 0, locals := 83 } : Room)).room s m (([.ref h0, .ref h1, .int i] : List Value).toArray) below meth c H locs 0 0 (MQ below (gQ D [(h0, .inr (1, [.int (gB b0), .long lo, .long hi])), (h1, .inr (1, [.int (gB b1), .long lo1, .long hi1]))] (gF none [(h0, .inr (1, [.int (gB (sp_X2_takeExp_b0 lo1 hi1 i)), .long (sp_X2_takeExp_lo lo1 hi1 i), .long (sp_X2_takeExp_hi lo1 hi1 i)])), (h1, .inr (1, [.int (gB b1), .long lo1, .long hi1]))])) (([.ref h0, .ref h1, .int i] : List Value).toArray) s 0 0 (va_A [(h0, .inr (1, [.int (gB b0), .long lo, .long hi])), (h1, .inr (1, [.int (gB b1), .long lo1, .long hi1]))] s.heap.size)) (F0 m 39 ls []) := by
        intro n
        induction n with
        | zero =>
          intro el eh hn hF H locs hP hD hS ls hl
          refine lv_iload hx hb dX2_takeExp_39 (lv_at hl 4 rfl) ?_
          refine lv_iconst (v := 1) hx hb dX2_takeExp_41 (by decide) ?_
          refine lv_icmp_lt (tgt := 86) hx hb dX2_takeExp_42 (by decide) (fun c_42 => ?_) (fun c_42 => absurd (by decide) c_42)
          refine lv_aload_n hx hb dX2_takeExp_86 rfl (lv_at hl 0 rfl) ?_
          refine lv_aload_n hx hb dX2_takeExp_87 rfl (lv_at hl 0 rfl) ?_
          refine va_get (D := D) (ci := 1) (v := .long el) (C := RX2) (T := TX2) (N := 3) hx hb hts in_X2_takeExp_X2 hown hK.1 hP 0 rfl rfl 1 (by decide) (hts (.fieldLink RX2 15 "Nestlimit$Interval" "low" "J") (List.mem_of_getElem? (i := 1) rfl)) (fun _ h9 => h9) rfl dX2_takeExp_88 ?_
          refine lv_lconst (v := 1) hx hb dX2_takeExp_91 (by decide) ?_
          refine lv_lsub hx hb dX2_takeExp_92 ?_
          refine lv_aload_n hx hb dX2_takeExp_93 rfl (lv_at hl 0 rfl) ?_
          refine va_get (D := D) (ci := 1) (v := .long eh) (C := RX2) (T := TX2) (N := 3) hx hb hts in_X2_takeExp_X2 hown hK.1 hP 0 rfl rfl 2 (by decide) (hts (.fieldLink RX2 19 "Nestlimit$Interval" "high" "J") (List.mem_of_getElem? (i := 2) rfl)) (fun _ h9 => h9) rfl dX2_takeExp_94 ?_
          refine lv_lconst (v := 1) hx hb dX2_takeExp_97 (by decide) ?_
          refine lv_ladd hx hb dX2_takeExp_98 ?_
          refine g_callv (va_runV (As := [.long (el - 1), .long (eh + 1)]) (rest := []) ⟨hx, hb, hml, hown, hts⟩ (c_X2_assign l D y H.size h0 true el eh (el - 1) (eh + 1)) (cwV 2 hts gX2_takeExp_X2_assign rfl rfl rfl (by decide +kernel) ⟨Nat.le_of_ble_eq_true rfl, Nat.le_of_ble_eq_true rfl⟩) (gP_V hP hD hK [0] (by decide) rfl 0 rfl rfl) rfl rfl hl.1 rfl (lv_room (Nat.le_of_ble_eq_true rfl)) dX2_takeExp_99 ⟨Nat.zero_le _, Nat.zero_le _⟩) hP hD hS hA [0] rfl (fun H locs hP hD hS => ?_)
          have hP : va_P D vwCl [(h0, .inr (1, [.int (gB true), .long (el - 1), .long (eh + 1)])), (h1, .inr (1, [.int (gB b1), .long lo1, .long hi1]))] H := hP
          have hD : va_D A [(h0, .inr (1, [.int (gB true), .long (el - 1), .long (eh + 1)])), (h1, .inr (1, [.int (gB b1), .long lo1, .long hi1]))] := hD
          exact W.vret hx hb hr (fun t ht hW => ⟨⟨none, [(h0, .inr (1, [.int (gB true), .long (el - 1), .long (eh + 1)])), (h1, .inr (1, [.int (gB b1), .long lo1, .long hi1]))], rfl, ⟨rfl, by simp only [sp_X2_takeExp_b0, sp_X2_takeExp_lo, sp_X2_takeExp_hi, if_neg c_11, if_pos c_20, ← hF]; rfl⟩, rfl, by rw [ht]; exact hP⟩, by rw [← hAe]; exact hS.F ht⟩) (by rw [← hAe]; exact hS.2.2) dX2_takeExp_102
        | succ n ih39 =>
          intro el eh hn hF H locs hP hD hS ls hl
          refine lv_iload hx hb dX2_takeExp_39 (lv_at hl 4 rfl) ?_
          refine lv_iconst (v := 1) hx hb dX2_takeExp_41 (by decide) ?_
          refine lv_icmp_lt (tgt := 86) hx hb dX2_takeExp_42 (by decide) (fun c_42 => absurd c_42 (nI_nlt (a := n + 1) (b := 1) (by omega) (by omega))) (fun c_42 => ?_)
          refine lv_aload_n hx hb dX2_takeExp_45 rfl (lv_at hl 0 rfl) ?_
          refine lv_aload_n hx hb dX2_takeExp_46 rfl (lv_at hl 1 rfl) ?_
          refine lv_aload_n hx hb dX2_takeExp_47 rfl (lv_at hl 0 rfl) ?_
          refine lv_iload_n hx hb dX2_takeExp_48 rfl (lv_at hl 2 rfl) ?_
          refine g_callv (va_runV (As := [.ref h1, .ref h0, .int i]) (rest := []) ⟨hx, hb, hml, hown, hts⟩ (c_X2_multiply_self l D y H.size h0 true el eh h1 b1 lo1 hi1 i) (cwV 3 hts gX2_takeExp_X2_multiply rfl rfl rfl (by decide +kernel) ⟨Nat.le_of_ble_eq_true rfl, Nat.le_of_ble_eq_true rfl⟩) (gP_V hP hD hK [0, 1] (by decide) rfl 0 rfl rfl) rfl rfl hl.1 rfl (lv_room (Nat.le_of_ble_eq_true rfl)) dX2_takeExp_49 ⟨Nat.zero_le _, Nat.zero_le _⟩) hP hD hS hA [0, 1] rfl (fun H locs hP hD hS => ?_)
          have hP : va_P D vwCl [(h0, .inr (1, [.int (gB true), .long (sp_X2_multiply_lo lo1 hi1 el eh i), .long (sp_X2_multiply_hi lo1 hi1 el eh i)])), (h1, .inr (1, [.int (gB b1), .long lo1, .long hi1]))] H := hP
          have hD : va_D A [(h0, .inr (1, [.int (gB true), .long (sp_X2_multiply_lo lo1 hi1 el eh i), .long (sp_X2_multiply_hi lo1 hi1 el eh i)])), (h1, .inr (1, [.int (gB b1), .long lo1, .long hi1]))] := hD
          refine lv_aload_n hx hb dX2_takeExp_52 rfl (lv_at hl 0 rfl) ?_
          refine lv_aload_n hx hb dX2_takeExp_53 rfl (lv_at hl 0 rfl) ?_
          refine va_get (D := D) (ci := 1) (v := .long (sp_X2_multiply_lo lo1 hi1 el eh i)) (C := RX2) (T := TX2) (N := 3) hx hb hts in_X2_takeExp_X2 hown hK.1 hP 0 rfl rfl 1 (by decide) (hts (.fieldLink RX2 15 "Nestlimit$Interval" "low" "J") (List.mem_of_getElem? (i := 1) rfl)) (fun _ h9 => h9) rfl dX2_takeExp_54 ?_
          refine lv_iload hx hb dX2_takeExp_57 (lv_at hl 4 rfl) ?_
          refine lv_i2l (v := (nI (n + 1)).toInt64) hx hb dX2_takeExp_59 rfl ?_
          refine g_callR (v0 := .long (sp_X7_cut (sp_X2_multiply_lo lo1 hi1 el eh i) ((nI (n + 1)).toInt64))) (va_runSN (As := [.long (sp_X2_multiply_lo lo1 hi1 el eh i), .long ((nI (n + 1)).toInt64)]) (rest := [.ref h0]) ⟨hx, hb, hml, hown, hts⟩ (c_X7_cut l D y H.size (sp_X2_multiply_lo lo1 hi1 el eh i) ((nI (n + 1)).toInt64)) ⟨va_cnB 2 hts gX2_takeExp_X7_cut_n46 rfl rfl rfl (hK.2.at 3 rfl) (hts (.initialized RX7) (List.mem_of_getElem? (i := 4) rfl)) (by decide +kernel) ⟨Nat.le_of_ble_eq_true rfl, Nat.le_of_ble_eq_true rfl⟩, (hts (.static yX7_cut) (List.mem_of_getElem? (i := 27) rfl)), trivial⟩ (gP_S hP hD hK [] (by decide) rfl) rfl rfl hl.1 rfl (lv_room (Nat.le_of_ble_eq_true rfl)) dX2_takeExp_60 ⟨Nat.zero_le _, Nat.zero_le _⟩) ?_
          refine lv_lload_n hx hb dX2_takeExp_63 rfl (lv_at hl 3 rfl) ?_
          refine lv_ladd hx hb dX2_takeExp_64 ?_
          refine lv_aload_n hx hb dX2_takeExp_65 rfl (lv_at hl 0 rfl) ?_
          refine va_get (D := D) (ci := 1) (v := .long (sp_X2_multiply_hi lo1 hi1 el eh i)) (C := RX2) (T := TX2) (N := 3) hx hb hts in_X2_takeExp_X2 hown hK.1 hP 0 rfl rfl 2 (by decide) (hts (.fieldLink RX2 19 "Nestlimit$Interval" "high" "J") (List.mem_of_getElem? (i := 2) rfl)) (fun _ h9 => h9) rfl dX2_takeExp_66 ?_
          refine lv_iload hx hb dX2_takeExp_69 (lv_at hl 4 rfl) ?_
          refine lv_i2l (v := (nI (n + 1)).toInt64) hx hb dX2_takeExp_71 rfl ?_
          refine g_callR (v0 := .long (sp_X7_fill (sp_X2_multiply_hi lo1 hi1 el eh i) ((nI (n + 1)).toInt64))) (va_runSN (As := [.long (sp_X2_multiply_hi lo1 hi1 el eh i), .long ((nI (n + 1)).toInt64)]) (rest := [.long ((sp_X7_cut (sp_X2_multiply_lo lo1 hi1 el eh i) ((nI (n + 1)).toInt64)) + (sp_X7_unitsAt i)), .ref h0]) ⟨hx, hb, hml, hown, hts⟩ (c_X7_fill l D y H.size (sp_X2_multiply_hi lo1 hi1 el eh i) ((nI (n + 1)).toInt64)) ⟨va_cnB 2 hts gX2_takeExp_X7_fill_n49 rfl rfl rfl (hK.2.at 4 rfl) (hts (.initialized RX7) (List.mem_of_getElem? (i := 4) rfl)) (by decide +kernel) ⟨Nat.le_of_ble_eq_true rfl, Nat.le_of_ble_eq_true rfl⟩, (hts (.static yX7_fill) (List.mem_of_getElem? (i := 33) rfl)), trivial⟩ (gP_S hP hD hK [] (by decide) rfl) rfl rfl hl.1 rfl (lv_room (Nat.le_of_ble_eq_true rfl)) dX2_takeExp_72 ⟨Nat.zero_le _, Nat.zero_le _⟩) ?_
          refine lv_lload_n hx hb dX2_takeExp_75 rfl (lv_at hl 3 rfl) ?_
          refine lv_ladd hx hb dX2_takeExp_76 ?_
          refine g_callv (va_runV (As := [.long ((sp_X7_cut (sp_X2_multiply_lo lo1 hi1 el eh i) ((nI (n + 1)).toInt64)) + (sp_X7_unitsAt i)), .long ((sp_X7_fill (sp_X2_multiply_hi lo1 hi1 el eh i) ((nI (n + 1)).toInt64)) + (sp_X7_unitsAt i))]) (rest := []) ⟨hx, hb, hml, hown, hts⟩ (c_X2_assign l D y H.size h0 true (sp_X2_multiply_lo lo1 hi1 el eh i) (sp_X2_multiply_hi lo1 hi1 el eh i) ((sp_X7_cut (sp_X2_multiply_lo lo1 hi1 el eh i) ((nI (n + 1)).toInt64)) + (sp_X7_unitsAt i)) ((sp_X7_fill (sp_X2_multiply_hi lo1 hi1 el eh i) ((nI (n + 1)).toInt64)) + (sp_X7_unitsAt i))) (cwV 2 hts gX2_takeExp_X2_assign rfl rfl rfl (by decide +kernel) ⟨Nat.le_of_ble_eq_true rfl, Nat.le_of_ble_eq_true rfl⟩) (gP_V hP hD hK [0] (by decide) rfl 0 rfl rfl) rfl rfl hl.1 rfl (lv_room (Nat.le_of_ble_eq_true rfl)) dX2_takeExp_77 ⟨Nat.zero_le _, Nat.zero_le _⟩) hP hD hS hA [0] rfl (fun H locs hP hD hS => ?_)
          have hP : va_P D vwCl [(h0, .inr (1, [.int (gB true), .long ((sp_X7_cut (sp_X2_multiply_lo lo1 hi1 el eh i) ((nI (n + 1)).toInt64)) + (sp_X7_unitsAt i)), .long ((sp_X7_fill (sp_X2_multiply_hi lo1 hi1 el eh i) ((nI (n + 1)).toInt64)) + (sp_X7_unitsAt i))])), (h1, .inr (1, [.int (gB b1), .long lo1, .long hi1]))] H := hP
          have hD : va_D A [(h0, .inr (1, [.int (gB true), .long ((sp_X7_cut (sp_X2_multiply_lo lo1 hi1 el eh i) ((nI (n + 1)).toInt64)) + (sp_X7_unitsAt i)), .long ((sp_X7_fill (sp_X2_multiply_hi lo1 hi1 el eh i) ((nI (n + 1)).toInt64)) + (sp_X7_unitsAt i))])), (h1, .inr (1, [.int (gB b1), .long lo1, .long hi1]))] := hD
          refine lv_iinc (v := nI n) (lv' := [(5, .int (nI n)), (0, .ref h0), (1, .ref h1), (2, .int i), (3, .long (sp_X7_unitsAt i))]) hx hb dX2_takeExp_80 hl (k := 4) rfl (pk_m1 n) (by decide) rfl (fun ls hl => ?_)
          refine lv_goto (tgt := 39) hx hb dX2_takeExp_83 (by decide) ?_
          exact ih39 ((sp_X7_cut (sp_X2_multiply_lo lo1 hi1 el eh i) ((nI (n + 1)).toInt64)) + (sp_X7_unitsAt i)) ((sp_X7_fill (sp_X2_multiply_hi lo1 hi1 el eh i) ((nI (n + 1)).toInt64)) + (sp_X7_unitsAt i)) (by omega) (hF) _ _ hP hD hS ls (lv_sub hl [1, 2, 3, 4, 0] rfl)
      exact LOOP39 12 (sp_X7_unitsAt i) (sp_X7_unitsAt i) (Nat.le_refl _) (rfl) _ _ hP hD hS ls (lv_sub hl [2, 3, 4, 1, 0] rfl)
    · skip
      refine lv_aload_n hx hb dX2_takeExp_24 rfl (lv_at hl 1 rfl) ?_
      refine g_callv (va_runV (As := []) (rest := []) ⟨hx, hb, hml, hown, hts⟩ (c_X2_clear l D y s.heap.size h0 b0 lo hi) (cwV 0 hts gX2_takeExp_X2_clear rfl rfl rfl (by decide +kernel) ⟨Nat.le_of_ble_eq_true rfl, Nat.le_of_ble_eq_true rfl⟩) (gP_V hP hD hK [0] (by decide) rfl 0 rfl rfl) rfl rfl hl.1 rfl (lv_room (Nat.le_of_ble_eq_true rfl)) dX2_takeExp_25 ⟨Nat.zero_le _, Nat.zero_le _⟩) hP hD hS hA [0] rfl (fun H locs hP hD hS => ?_)
      have hP : va_P D vwCl [(h0, .inr (1, [.int (gB false), .long 0, .long 0])), (h1, .inr (1, [.int (gB b1), .long lo1, .long hi1]))] H := hP
      have hD : va_D A [(h0, .inr (1, [.int (gB false), .long 0, .long 0])), (h1, .inr (1, [.int (gB b1), .long lo1, .long hi1]))] := hD
      exact W.vret hx hb hr (fun t ht hW => ⟨⟨none, [(h0, .inr (1, [.int (gB false), .long 0, .long 0])), (h1, .inr (1, [.int (gB b1), .long lo1, .long hi1]))], rfl, ⟨rfl, by simp only [sp_X2_takeExp_b0, sp_X2_takeExp_lo, sp_X2_takeExp_hi, if_neg c_11, if_neg c_20]⟩, rfl, by rw [ht]; exact hP⟩, by rw [← hAe]; exact hS.F ht⟩) (by rw [← hAe]; exact hS.2.2) dX2_takeExp_28
theorem in_X6_put_X2 : ∀ w ∈ wsX20, w ∈ wsX6_put := fun _ h => List.mem_cons_of_mem _ (List.mem_append_right _ h)
theorem in_X6_put_X6 : ∀ w ∈ wsX60, w ∈ wsX6_put := fun _ h => List.mem_cons_of_mem _ (List.mem_append_left _ (List.mem_append_right _ h))
set_option maxHeartbeats 4000000 in
set_option maxRecDepth 100000 in
theorem c_X6_put (l : Launch) (D : va_G) (y : Nat → ClassId) (sz : Nat) (h0 q0 q1 q2 n : Nat) (fb : Nat → Bool) (fl fh : Nat → Int64) (h1 : Nat) (b1 : Bool) (lo1 hi1 : Int64) (k : Nat) (hk : k < n) (hn : n < 2 ^ 31) : Met l yX6_put wsX6_put ({ frames := 0, cells := 0, slots := 0, locals := 0 } : Room) (gP D y [.ref h0, .int (nI k), .ref h1] [(h0, .inr (4, [.ref q0, .ref q1, .ref q2])), (q0, .inl (y 2, n, .inl (gZ fb))), (q1, .inl (y 1, n, .inr (.inl fl))), (q2, .inl (y 1, n, .inr (.inl fh))), (h1, .inr (1, [.int (gB b1), .long lo1, .long hi1]))] sz) (gQ D [(h0, .inr (4, [.ref q0, .ref q1, .ref q2])), (q0, .inl (y 2, n, .inl (gZ fb))), (q1, .inl (y 1, n, .inr (.inl fl))), (q2, .inl (y 1, n, .inr (.inl fh))), (h1, .inr (1, [.int (gB b1), .long lo1, .long hi1]))] (gF none [(h0, .inr (4, [.ref q0, .ref q1, .ref q2])), (q0, .inl (y 2, n, .inl (gZ (upZ fb k b1)))), (q1, .inl (y 1, n, .inr (.inl (vp_updL fl k lo1)))), (q2, .inl (y 1, n, .inr (.inl (vp_updL fh k hi1)))), (h1, .inr (1, [.int (gB b1), .long lo1, .long hi1]))])) 0 0 (va_A [(h0, .inr (4, [.ref q0, .ref q1, .ref q2])), (q0, .inl (y 2, n, .inl (gZ fb))), (q1, .inl (y 1, n, .inr (.inl fl))), (q2, .inl (y 1, n, .inr (.inl fh))), (h1, .inr (1, [.int (gB b1), .long lo1, .long hi1]))] sz) := by
  refine Met.ofW (cc := cX6_put) (maxL := 3) (ret := none) (by decide) rfl ?_
  intro p e s m args below meth c s₁ B hml hv
  obtain ⟨rfl, hsz, hP, hK, hD0⟩ := hv
  have hx := B.exec
  have hb := B.bytes
  have hr := B.returns
  have hts := atoms_spec (ws := wsX6_put) B.pre
  have hown : s.vm.findClass RX6 = some m.cls := findClass_of_methodNamed B.named
  have hlocks := B.notSynchronized
  subst hsz
  obtain ⟨A, hAe⟩ : ∃ A : Nat → Prop, A = va_A [(h0, .inr (4, [.ref q0, .ref q1, .ref q2])), (q0, .inl (y 2, n, .inl (gZ fb))), (q1, .inl (y 1, n, .inr (.inl fl))), (q2, .inl (y 1, n, .inr (.inl fh))), (h1, .inr (1, [.int (gB b1), .long lo1, .long hi1]))] s.heap.size := ⟨_, rfl⟩
  have hD : va_D A [(h0, .inr (4, [.ref q0, .ref q1, .ref q2])), (q0, .inl (y 2, n, .inl (gZ fb))), (q1, .inl (y 1, n, .inr (.inl fl))), (q2, .inl (y 1, n, .inr (.inl fh))), (h1, .inr (1, [.int (gB b1), .long lo1, .long hi1]))] := by rw [hAe]; exact hD0.self (sz := s.heap.size)
  have hA : ∀ q : Nat, s.heap.size ≤ q → A q := fun q h => by rw [hAe]; exact Or.inr h
  have hS : va_S A s.heap s.heap [] := va_S.rf
  have hl := lv_entry ([.ref h0, .int (nI k), .ref h1]) (n := 3) (Nat.le_of_ble_eq_true rfl)
  rw [lg_entry_eq]
  generalize (lg_sl ([.ref h0, .int (nI k), .ref h1]) ++ List.replicate (3 - (lg_sl ([.ref h0, .int (nI k), .ref h1])).length) Slot.unset).toArray = ls at hl ⊢
  have hl : lv_has ls 3 [(0, .ref h0), (1, .int (nI k)), (2, .ref h1)] := hl
  refine lv_iload_n hx hb dX6_put_0 rfl (lv_at hl 1 rfl) ?_
  refine lv_if_lt (tgt := 43) hx hb dX6_put_1 (by decide) (fun c_1 => absurd c_1 (nI_pos (by omega))) (fun c_1 => ?_)
  refine lv_iload_n hx hb dX6_put_4 rfl (lv_at hl 1 rfl) ?_
  refine lv_aload_n hx hb dX6_put_5 rfl (lv_at hl 0 rfl) ?_
  refine va_get (D := D) (ci := 4) (v := .ref q1) (C := RX6) (T := TX6) (N := 3) hx hb hts in_X6_put_X6 hown hK.1 hP 0 rfl rfl 1 (by decide) (hts (.fieldLink RX6 13 "Nestlimit$Row" "low" "[J") (List.mem_of_getElem? (i := 1) rfl)) (fun _ h9 => h9) rfl dX6_put_6 ?_
  refine va_alen (v := nI n) hx hb hK.1 hP 2 1 rfl rfl rfl dX6_put_9 ?_
  refine lv_icmp_ge (tgt := 43) hx hb dX6_put_10 (by decide) (fun c_10 => absurd c_10 (nI_ge hk hn)) (fun c_10 => ?_)
  refine lv_aload_n hx hb dX6_put_13 rfl (lv_at hl 0 rfl) ?_
  refine va_get (D := D) (ci := 4) (v := .ref q0) (C := RX6) (T := TX6) (N := 3) hx hb hts in_X6_put_X6 hown hK.1 hP 0 rfl rfl 0 (by decide) (hts (.fieldLink RX6 7 "Nestlimit$Row" "isThere" "[Z") (List.mem_of_getElem? (i := 2) rfl)) (fun _ h9 => h9) rfl dX6_put_14 ?_
  refine lv_iload_n hx hb dX6_put_17 rfl (lv_at hl 1 rfl) ?_
  refine lv_aload_n hx hb dX6_put_18 rfl (lv_at hl 2 rfl) ?_
  refine va_get (D := D) (ci := 1) (v := .int (gB b1)) (C := RX2) (T := TX2) (N := 3) hx hb hts in_X6_put_X2 hown hK.1 hP 4 rfl rfl 0 (by decide) (hts (.fieldLink RX6 20 "Nestlimit$Interval" "isThere" "Z") (List.mem_of_getElem? (i := 3) rfl)) (fun _ h9 => h9) rfl dX6_put_19 ?_
  refine g_zast (k := k) (x := b1) hx hb hK.1 hP hD hS 1 2 rfl rfl (hk) (hn) dX6_put_22 (fun H locs hP hD hS => ?_)
  have hP : va_P D vwCl [(h0, .inr (4, [.ref q0, .ref q1, .ref q2])), (q0, .inl (y 2, n, .inl (gZ (upZ fb k b1)))), (q1, .inl (y 1, n, .inr (.inl fl))), (q2, .inl (y 1, n, .inr (.inl fh))), (h1, .inr (1, [.int (gB b1), .long lo1, .long hi1]))] H := hP
  have hD : va_D A [(h0, .inr (4, [.ref q0, .ref q1, .ref q2])), (q0, .inl (y 2, n, .inl (gZ (upZ fb k b1)))), (q1, .inl (y 1, n, .inr (.inl fl))), (q2, .inl (y 1, n, .inr (.inl fh))), (h1, .inr (1, [.int (gB b1), .long lo1, .long hi1]))] := hD
  refine lv_aload_n hx hb dX6_put_23 rfl (lv_at hl 0 rfl) ?_
  refine va_get (D := D) (ci := 4) (v := .ref q1) (C := RX6) (T := TX6) (N := 3) hx hb hts in_X6_put_X6 hown hK.1 hP 0 rfl rfl 1 (by decide) (hts (.fieldLink RX6 13 "Nestlimit$Row" "low" "[J") (List.mem_of_getElem? (i := 1) rfl)) (fun _ h9 => h9) rfl dX6_put_24 ?_
  refine lv_iload_n hx hb dX6_put_27 rfl (lv_at hl 1 rfl) ?_
  refine lv_aload_n hx hb dX6_put_28 rfl (lv_at hl 2 rfl) ?_
  refine va_get (D := D) (ci := 1) (v := .long lo1) (C := RX2) (T := TX2) (N := 3) hx hb hts in_X6_put_X2 hown hK.1 hP 4 rfl rfl 1 (by decide) (hts (.fieldLink RX6 25 "Nestlimit$Interval" "low" "J") (List.mem_of_getElem? (i := 4) rfl)) (fun _ h9 => h9) rfl dX6_put_29 ?_
  refine g_last (k := k) (x := lo1) hx hb hK.1 hP hD hS 2 1 rfl rfl (hk) (hn) dX6_put_32 (fun H locs hP hD hS => ?_)
  have hP : va_P D vwCl [(h0, .inr (4, [.ref q0, .ref q1, .ref q2])), (q0, .inl (y 2, n, .inl (gZ (upZ fb k b1)))), (q1, .inl (y 1, n, .inr (.inl (vp_updL fl k lo1)))), (q2, .inl (y 1, n, .inr (.inl fh))), (h1, .inr (1, [.int (gB b1), .long lo1, .long hi1]))] H := hP
  have hD : va_D A [(h0, .inr (4, [.ref q0, .ref q1, .ref q2])), (q0, .inl (y 2, n, .inl (gZ (upZ fb k b1)))), (q1, .inl (y 1, n, .inr (.inl (vp_updL fl k lo1)))), (q2, .inl (y 1, n, .inr (.inl fh))), (h1, .inr (1, [.int (gB b1), .long lo1, .long hi1]))] := hD
  refine lv_aload_n hx hb dX6_put_33 rfl (lv_at hl 0 rfl) ?_
  refine va_get (D := D) (ci := 4) (v := .ref q2) (C := RX6) (T := TX6) (N := 3) hx hb hts in_X6_put_X6 hown hK.1 hP 0 rfl rfl 2 (by decide) (hts (.fieldLink RX6 17 "Nestlimit$Row" "high" "[J") (List.mem_of_getElem? (i := 5) rfl)) (fun _ h9 => h9) rfl dX6_put_34 ?_
  refine lv_iload_n hx hb dX6_put_37 rfl (lv_at hl 1 rfl) ?_
  refine lv_aload_n hx hb dX6_put_38 rfl (lv_at hl 2 rfl) ?_
  refine va_get (D := D) (ci := 1) (v := .long hi1) (C := RX2) (T := TX2) (N := 3) hx hb hts in_X6_put_X2 hown hK.1 hP 4 rfl rfl 2 (by decide) (hts (.fieldLink RX6 28 "Nestlimit$Interval" "high" "J") (List.mem_of_getElem? (i := 6) rfl)) (fun _ h9 => h9) rfl dX6_put_39 ?_
  refine g_last (k := k) (x := hi1) hx hb hK.1 hP hD hS 3 1 rfl rfl (hk) (hn) dX6_put_42 (fun H locs hP hD hS => ?_)
  have hP : va_P D vwCl [(h0, .inr (4, [.ref q0, .ref q1, .ref q2])), (q0, .inl (y 2, n, .inl (gZ (upZ fb k b1)))), (q1, .inl (y 1, n, .inr (.inl (vp_updL fl k lo1)))), (q2, .inl (y 1, n, .inr (.inl (vp_updL fh k hi1)))), (h1, .inr (1, [.int (gB b1), .long lo1, .long hi1]))] H := hP
  have hD : va_D A [(h0, .inr (4, [.ref q0, .ref q1, .ref q2])), (q0, .inl (y 2, n, .inl (gZ (upZ fb k b1)))), (q1, .inl (y 1, n, .inr (.inl (vp_updL fl k lo1)))), (q2, .inl (y 1, n, .inr (.inl (vp_updL fh k hi1)))), (h1, .inr (1, [.int (gB b1), .long lo1, .long hi1]))] := hD
  exact W.vret hx hb hr (fun t ht hW => ⟨⟨none, [(h0, .inr (4, [.ref q0, .ref q1, .ref q2])), (q0, .inl (y 2, n, .inl (gZ (upZ fb k b1)))), (q1, .inl (y 1, n, .inr (.inl (vp_updL fl k lo1)))), (q2, .inl (y 1, n, .inr (.inl (vp_updL fh k hi1)))), (h1, .inr (1, [.int (gB b1), .long lo1, .long hi1]))], rfl, ⟨rfl, rfl⟩, rfl, by rw [ht]; exact hP⟩, by rw [← hAe]; exact hS.F ht⟩) (by rw [← hAe]; exact hS.2.2) dX6_put_43
def sp_X6_load_b1 (fb : Nat → Bool) (fl fh : Nat → Int64) (k : Nat) : Bool := if (fb k) = true then true else false
def sp_X6_load_lo1 (fb : Nat → Bool) (fl fh : Nat → Int64) (k : Nat) : Int64 := if (fb k) = true then fl k else 0
def sp_X6_load_hi1 (fb : Nat → Bool) (fl fh : Nat → Int64) (k : Nat) : Int64 := if (fb k) = true then fh k else 0
theorem in_X6_load_X6 : ∀ w ∈ wsX60, w ∈ wsX6_load := fun _ h => List.mem_cons_of_mem _ (List.mem_append_left _ (List.mem_append_right _ h))
set_option maxHeartbeats 4000000 in
set_option maxRecDepth 100000 in
theorem c_X6_load (l : Launch) (D : va_G) (y : Nat → ClassId) (sz : Nat) (h0 q0 q1 q2 n : Nat) (fb : Nat → Bool) (fl fh : Nat → Int64) (h1 : Nat) (b1 : Bool) (lo1 hi1 : Int64) (k : Nat) (hk : k < n) (hn : n < 2 ^ 31) : Met l yX6_load wsX6_load ({ frames := 1, cells := 0, slots := 0, locals := 24 } : Room) (gP D y [.ref h0, .int (nI k), .ref h1] [(h0, .inr (4, [.ref q0, .ref q1, .ref q2])), (q0, .inl (y 2, n, .inl (gZ fb))), (q1, .inl (y 1, n, .inr (.inl fl))), (q2, .inl (y 1, n, .inr (.inl fh))), (h1, .inr (1, [.int (gB b1), .long lo1, .long hi1]))] sz) (gQ D [(h0, .inr (4, [.ref q0, .ref q1, .ref q2])), (q0, .inl (y 2, n, .inl (gZ fb))), (q1, .inl (y 1, n, .inr (.inl fl))), (q2, .inl (y 1, n, .inr (.inl fh))), (h1, .inr (1, [.int (gB b1), .long lo1, .long hi1]))] (gF none [(h0, .inr (4, [.ref q0, .ref q1, .ref q2])), (q0, .inl (y 2, n, .inl (gZ fb))), (q1, .inl (y 1, n, .inr (.inl fl))), (q2, .inl (y 1, n, .inr (.inl fh))), (h1, .inr (1, [.int (gB (sp_X6_load_b1 fb fl fh k)), .long (sp_X6_load_lo1 fb fl fh k), .long (sp_X6_load_hi1 fb fl fh k)]))])) 0 0 (va_A [(h0, .inr (4, [.ref q0, .ref q1, .ref q2])), (q0, .inl (y 2, n, .inl (gZ fb))), (q1, .inl (y 1, n, .inr (.inl fl))), (q2, .inl (y 1, n, .inr (.inl fh))), (h1, .inr (1, [.int (gB b1), .long lo1, .long hi1]))] sz) := by
  refine Met.ofW (cc := cX6_load) (maxL := 3) (ret := none) (by decide) rfl ?_
  intro p e s m args below meth c s₁ B hml hv
  obtain ⟨rfl, hsz, hP, hK, hD0⟩ := hv
  have hx := B.exec
  have hb := B.bytes
  have hr := B.returns
  have hts := atoms_spec (ws := wsX6_load) B.pre
  have hown : s.vm.findClass RX6 = some m.cls := findClass_of_methodNamed B.named
  have hlocks := B.notSynchronized
  subst hsz
  obtain ⟨A, hAe⟩ : ∃ A : Nat → Prop, A = va_A [(h0, .inr (4, [.ref q0, .ref q1, .ref q2])), (q0, .inl (y 2, n, .inl (gZ fb))), (q1, .inl (y 1, n, .inr (.inl fl))), (q2, .inl (y 1, n, .inr (.inl fh))), (h1, .inr (1, [.int (gB b1), .long lo1, .long hi1]))] s.heap.size := ⟨_, rfl⟩
  have hD : va_D A [(h0, .inr (4, [.ref q0, .ref q1, .ref q2])), (q0, .inl (y 2, n, .inl (gZ fb))), (q1, .inl (y 1, n, .inr (.inl fl))), (q2, .inl (y 1, n, .inr (.inl fh))), (h1, .inr (1, [.int (gB b1), .long lo1, .long hi1]))] := by rw [hAe]; exact hD0.self (sz := s.heap.size)
  have hA : ∀ q : Nat, s.heap.size ≤ q → A q := fun q h => by rw [hAe]; exact Or.inr h
  have hS : va_S A s.heap s.heap [] := va_S.rf
  have hl := lv_entry ([.ref h0, .int (nI k), .ref h1]) (n := 3) (Nat.le_of_ble_eq_true rfl)
  rw [lg_entry_eq]
  generalize (lg_sl ([.ref h0, .int (nI k), .ref h1]) ++ List.replicate (3 - (lg_sl ([.ref h0, .int (nI k), .ref h1])).length) Slot.unset).toArray = ls at hl ⊢
  have hl : lv_has ls 3 [(0, .ref h0), (1, .int (nI k)), (2, .ref h1)] := hl
  refine lv_aload_n hx hb dX6_load_0 rfl (lv_at hl 2 rfl) ?_
  refine g_callv (va_runV (As := []) (rest := []) ⟨hx, hb, hml, hown, hts⟩ (c_X2_clear l D y s.heap.size h1 b1 lo1 hi1) (cwV 0 hts gX6_load_X2_clear rfl rfl rfl (by decide +kernel) ⟨Nat.le_of_ble_eq_true rfl, Nat.le_of_ble_eq_true rfl⟩) (gP_V hP hD hK [4] (by decide) rfl 4 rfl rfl) rfl rfl hl.1 rfl (lv_room (Nat.le_of_ble_eq_true rfl)) dX6_load_1 ⟨Nat.zero_le _, Nat.zero_le _⟩) hP hD hS hA [4] rfl (fun H locs hP hD hS => ?_)
  have hP : va_P D vwCl [(h0, .inr (4, [.ref q0, .ref q1, .ref q2])), (q0, .inl (y 2, n, .inl (gZ fb))), (q1, .inl (y 1, n, .inr (.inl fl))), (q2, .inl (y 1, n, .inr (.inl fh))), (h1, .inr (1, [.int (gB false), .long 0, .long 0]))] H := hP
  have hD : va_D A [(h0, .inr (4, [.ref q0, .ref q1, .ref q2])), (q0, .inl (y 2, n, .inl (gZ fb))), (q1, .inl (y 1, n, .inr (.inl fl))), (q2, .inl (y 1, n, .inr (.inl fh))), (h1, .inr (1, [.int (gB false), .long 0, .long 0]))] := hD
  refine lv_iload_n hx hb dX6_load_4 rfl (lv_at hl 1 rfl) ?_
  refine lv_if_lt (tgt := 42) hx hb dX6_load_5 (by decide) (fun c_5 => absurd c_5 (nI_pos (by omega))) (fun c_5 => ?_)
  refine lv_iload_n hx hb dX6_load_8 rfl (lv_at hl 1 rfl) ?_
  refine lv_aload_n hx hb dX6_load_9 rfl (lv_at hl 0 rfl) ?_
  refine va_get (D := D) (ci := 4) (v := .ref q1) (C := RX6) (T := TX6) (N := 3) hx hb hts in_X6_load_X6 hown hK.1 hP 0 rfl rfl 1 (by decide) (hts (.fieldLink RX6 13 "Nestlimit$Row" "low" "[J") (List.mem_of_getElem? (i := 1) rfl)) (fun _ h9 => h9) rfl dX6_load_10 ?_
  refine va_alen (v := nI n) hx hb hK.1 hP 2 1 rfl rfl rfl dX6_load_13 ?_
  refine lv_icmp_ge (tgt := 42) hx hb dX6_load_14 (by decide) (fun c_14 => absurd c_14 (nI_ge hk hn)) (fun c_14 => ?_)
  refine lv_aload_n hx hb dX6_load_17 rfl (lv_at hl 0 rfl) ?_
  refine va_get (D := D) (ci := 4) (v := .ref q0) (C := RX6) (T := TX6) (N := 3) hx hb hts in_X6_load_X6 hown hK.1 hP 0 rfl rfl 0 (by decide) (hts (.fieldLink RX6 7 "Nestlimit$Row" "isThere" "[Z") (List.mem_of_getElem? (i := 2) rfl)) (fun _ h9 => h9) rfl dX6_load_18 ?_
  refine lv_iload_n hx hb dX6_load_21 rfl (lv_at hl 1 rfl) ?_
  refine g_zald (k := k) hx hb hK.1 hP 1 2 rfl rfl (hk) (hn) dX6_load_22 ?_
  refine g_beq (tgt := 42) hx hb dX6_load_23 (by decide) (fun c_23 => ?_) (fun c_23 => ?_)
  · skip
    exact W.vret hx hb hr (fun t ht hW => ⟨⟨none, [(h0, .inr (4, [.ref q0, .ref q1, .ref q2])), (q0, .inl (y 2, n, .inl (gZ fb))), (q1, .inl (y 1, n, .inr (.inl fl))), (q2, .inl (y 1, n, .inr (.inl fh))), (h1, .inr (1, [.int (gB false), .long 0, .long 0]))], rfl, ⟨rfl, by simp only [sp_X6_load_b1, sp_X6_load_lo1, sp_X6_load_hi1, if_neg c_23]⟩, rfl, by rw [ht]; exact hP⟩, by rw [← hAe]; exact hS.F ht⟩) (by rw [← hAe]; exact hS.2.2) dX6_load_42
  · skip
    refine lv_aload_n hx hb dX6_load_26 rfl (lv_at hl 2 rfl) ?_
    refine lv_aload_n hx hb dX6_load_27 rfl (lv_at hl 0 rfl) ?_
    refine va_get (D := D) (ci := 4) (v := .ref q1) (C := RX6) (T := TX6) (N := 3) hx hb hts in_X6_load_X6 hown hK.1 hP 0 rfl rfl 1 (by decide) (hts (.fieldLink RX6 13 "Nestlimit$Row" "low" "[J") (List.mem_of_getElem? (i := 1) rfl)) (fun _ h9 => h9) rfl dX6_load_28 ?_
    refine lv_iload_n hx hb dX6_load_31 rfl (lv_at hl 1 rfl) ?_
    refine g_lald (k := k) hx hb hK.1 hP 2 1 rfl rfl (hk) (hn) dX6_load_32 ?_
    refine lv_aload_n hx hb dX6_load_33 rfl (lv_at hl 0 rfl) ?_
    refine va_get (D := D) (ci := 4) (v := .ref q2) (C := RX6) (T := TX6) (N := 3) hx hb hts in_X6_load_X6 hown hK.1 hP 0 rfl rfl 2 (by decide) (hts (.fieldLink RX6 17 "Nestlimit$Row" "high" "[J") (List.mem_of_getElem? (i := 3) rfl)) (fun _ h9 => h9) rfl dX6_load_34 ?_
    refine lv_iload_n hx hb dX6_load_37 rfl (lv_at hl 1 rfl) ?_
    refine g_lald (k := k) hx hb hK.1 hP 3 1 rfl rfl (hk) (hn) dX6_load_38 ?_
    refine g_callv (va_runV (As := [.long (fl k), .long (fh k)]) (rest := []) ⟨hx, hb, hml, hown, hts⟩ (c_X2_assign l D y H.size h1 false 0 0 (fl k) (fh k)) (cwV 2 hts gX6_load_X2_assign rfl rfl rfl (by decide +kernel) ⟨Nat.le_of_ble_eq_true rfl, Nat.le_of_ble_eq_true rfl⟩) (gP_V hP hD hK [4] (by decide) rfl 4 rfl rfl) rfl rfl hl.1 rfl (lv_room (Nat.le_of_ble_eq_true rfl)) dX6_load_39 ⟨Nat.zero_le _, Nat.zero_le _⟩) hP hD hS hA [4] rfl (fun H locs hP hD hS => ?_)
    have hP : va_P D vwCl [(h0, .inr (4, [.ref q0, .ref q1, .ref q2])), (q0, .inl (y 2, n, .inl (gZ fb))), (q1, .inl (y 1, n, .inr (.inl fl))), (q2, .inl (y 1, n, .inr (.inl fh))), (h1, .inr (1, [.int (gB true), .long (fl k), .long (fh k)]))] H := hP
    have hD : va_D A [(h0, .inr (4, [.ref q0, .ref q1, .ref q2])), (q0, .inl (y 2, n, .inl (gZ fb))), (q1, .inl (y 1, n, .inr (.inl fl))), (q2, .inl (y 1, n, .inr (.inl fh))), (h1, .inr (1, [.int (gB true), .long (fl k), .long (fh k)]))] := hD
    exact W.vret hx hb hr (fun t ht hW => ⟨⟨none, [(h0, .inr (4, [.ref q0, .ref q1, .ref q2])), (q0, .inl (y 2, n, .inl (gZ fb))), (q1, .inl (y 1, n, .inr (.inl fl))), (q2, .inl (y 1, n, .inr (.inl fh))), (h1, .inr (1, [.int (gB true), .long (fl k), .long (fh k)]))], rfl, ⟨rfl, by simp only [sp_X6_load_b1, sp_X6_load_lo1, sp_X6_load_hi1, if_pos c_23]⟩, rfl, by rw [ht]; exact hP⟩, by rw [← hAe]; exact hS.F ht⟩) (by rw [← hAe]; exact hS.2.2) dX6_load_42
theorem in_X1_assign_X1 : ∀ w ∈ wsX10, w ∈ wsX1_assign := fun _ h => List.mem_cons_of_mem _ (List.mem_append_right _ h)
set_option maxHeartbeats 4000000 in
set_option maxRecDepth 100000 in
theorem c_X1_assign (l : Launch) (D : va_G) (y : Nat → ClassId) (sz : Nat) (h0 : Nat) (ft fo : Int64) (a b : Int64) : Met l yX1_assign wsX1_assign ({ frames := 0, cells := 0, slots := 0, locals := 0 } : Room) (gP D y [.ref h0, .long a, .long b] [(h0, .inr (0, [.long ft, .long fo]))] sz) (gQ D [(h0, .inr (0, [.long ft, .long fo]))] (gF none [(h0, .inr (0, [.long a, .long b]))])) 0 0 (va_A [(h0, .inr (0, [.long ft, .long fo]))] sz) := by
  refine Met.ofW (cc := cX1_assign) (maxL := 5) (ret := none) (by decide) rfl ?_
  intro p e s m args below meth c s₁ B hml hv
  obtain ⟨rfl, hsz, hP, hK, hD0⟩ := hv
  have hx := B.exec
  have hb := B.bytes
  have hr := B.returns
  have hts := atoms_spec (ws := wsX1_assign) B.pre
  have hown : s.vm.findClass RX1 = some m.cls := findClass_of_methodNamed B.named
  have hlocks := B.notSynchronized
  subst hsz
  obtain ⟨A, hAe⟩ : ∃ A : Nat → Prop, A = va_A [(h0, .inr (0, [.long ft, .long fo]))] s.heap.size := ⟨_, rfl⟩
  have hD : va_D A [(h0, .inr (0, [.long ft, .long fo]))] := by rw [hAe]; exact hD0.self (sz := s.heap.size)
  have hA : ∀ q : Nat, s.heap.size ≤ q → A q := fun q h => by rw [hAe]; exact Or.inr h
  have hS : va_S A s.heap s.heap [] := va_S.rf
  have hl := lv_entry ([.ref h0, .long a, .long b]) (n := 5) (Nat.le_of_ble_eq_true rfl)
  rw [lg_entry_eq]
  generalize (lg_sl ([.ref h0, .long a, .long b]) ++ List.replicate (5 - (lg_sl ([.ref h0, .long a, .long b])).length) Slot.unset).toArray = ls at hl ⊢
  have hl : lv_has ls 5 [(0, .ref h0), (1, .long a), (3, .long b)] := hl
  refine lv_aload_n hx hb dX1_assign_0 rfl (lv_at hl 0 rfl) ?_
  refine lv_lload_n hx hb dX1_assign_1 rfl (lv_at hl 1 rfl) ?_
  refine va_put (D := D) (ci := 0) (v := .long a) (ty := .long) (C := RX1) (T := TX1) (N := 2) hx hb hts in_X1_assign_X1 tyX1 tyX1_ok nmX1 hown hK.1 hP hD hS 0 rfl rfl 0 (by decide) (hts (.fieldLink RX1 7 "Nestlimit$Fraction" "top" "J") (List.mem_of_getElem? (i := 1) rfl)) (fun _ h9 => h9) rfl (by decide +kernel) (rfl) (rfl) (Nat.le_of_ble_eq_true rfl) dX1_assign_2 (fun H locs hP hD hS => ?_)
  have hP : va_P D vwCl [(h0, .inr (0, [.long a, .long fo]))] H := hP
  have hD : va_D A [(h0, .inr (0, [.long a, .long fo]))] := hD
  refine lv_aload_n hx hb dX1_assign_5 rfl (lv_at hl 0 rfl) ?_
  refine lv_lload_n hx hb dX1_assign_6 rfl (lv_at hl 2 rfl) ?_
  refine va_put (D := D) (ci := 0) (v := .long b) (ty := .long) (C := RX1) (T := TX1) (N := 2) hx hb hts in_X1_assign_X1 tyX1 tyX1_ok nmX1 hown hK.1 hP hD hS 0 rfl rfl 1 (by decide) (hts (.fieldLink RX1 13 "Nestlimit$Fraction" "bottom" "J") (List.mem_of_getElem? (i := 2) rfl)) (fun _ h9 => h9) rfl (by decide +kernel) (rfl) (rfl) (Nat.le_of_ble_eq_true rfl) dX1_assign_7 (fun H locs hP hD hS => ?_)
  have hP : va_P D vwCl [(h0, .inr (0, [.long a, .long b]))] H := hP
  have hD : va_D A [(h0, .inr (0, [.long a, .long b]))] := hD
  exact W.vret hx hb hr (fun t ht hW => ⟨⟨none, [(h0, .inr (0, [.long a, .long b]))], rfl, ⟨rfl, rfl⟩, rfl, by rw [ht]; exact hP⟩, by rw [← hAe]; exact hS.F ht⟩) (by rw [← hAe]; exact hS.2.2) dX1_assign_10
theorem in_X1_whole_X1 : ∀ w ∈ wsX10, w ∈ wsX1_whole := fun _ h => List.mem_cons_of_mem _ (List.mem_append_right _ h)
def sp_X1_whole (ft fo : Int64) : Int64 := sp_X7_cut ft fo
set_option maxHeartbeats 4000000 in
set_option maxRecDepth 100000 in
theorem c_X1_whole (l : Launch) (D : va_G) (y : Nat → ClassId) (sz : Nat) (h0 : Nat) (ft fo : Int64) : Met l yX1_whole wsX1_whole ({ frames := 2, cells := 0, slots := 0, locals := 48 } : Room) (gP D y [.ref h0] [(h0, .inr (0, [.long ft, .long fo]))] sz) (gR (.long (sp_X1_whole ft fo))) 0 0 (fun _ => False) := by
  refine Met.ofW (cc := cX1_whole) (maxL := 1) (ret := (some .long)) (by decide) rfl ?_
  intro p e s m args below meth c s₁ B hml hv
  obtain ⟨rfl, hsz, hP, hK, hD0⟩ := hv
  have hx := B.exec
  have hb := B.bytes
  have hr := B.returns
  have hts := atoms_spec (ws := wsX1_whole) B.pre
  have hown : s.vm.findClass RX1 = some m.cls := findClass_of_methodNamed B.named
  have hlocks := B.notSynchronized
  subst hsz
  obtain ⟨A, hAe⟩ : ∃ A : Nat → Prop, A = va_A [(h0, .inr (0, [.long ft, .long fo]))] s.heap.size := ⟨_, rfl⟩
  have hD : va_D A [(h0, .inr (0, [.long ft, .long fo]))] := by rw [hAe]; exact hD0.self (sz := s.heap.size)
  have hA : ∀ q : Nat, s.heap.size ≤ q → A q := fun q h => by rw [hAe]; exact Or.inr h
  have hS : va_S A s.heap s.heap [] := va_S.rf
  have hl := lv_entry ([.ref h0]) (n := 1) (Nat.le_of_ble_eq_true rfl)
  rw [lg_entry_eq]
  generalize (lg_sl ([.ref h0]) ++ List.replicate (1 - (lg_sl ([.ref h0])).length) Slot.unset).toArray = ls at hl ⊢
  have hl : lv_has ls 1 [(0, .ref h0)] := hl
  refine lv_aload_n hx hb dX1_whole_0 rfl (lv_at hl 0 rfl) ?_
  refine va_get (D := D) (ci := 0) (v := .long ft) (C := RX1) (T := TX1) (N := 2) hx hb hts in_X1_whole_X1 hown hK.1 hP 0 rfl rfl 0 (by decide) (hts (.fieldLink RX1 7 "Nestlimit$Fraction" "top" "J") (List.mem_of_getElem? (i := 1) rfl)) (fun _ h9 => h9) rfl dX1_whole_1 ?_
  refine lv_aload_n hx hb dX1_whole_4 rfl (lv_at hl 0 rfl) ?_
  refine va_get (D := D) (ci := 0) (v := .long fo) (C := RX1) (T := TX1) (N := 2) hx hb hts in_X1_whole_X1 hown hK.1 hP 0 rfl rfl 1 (by decide) (hts (.fieldLink RX1 13 "Nestlimit$Fraction" "bottom" "J") (List.mem_of_getElem? (i := 2) rfl)) (fun _ h9 => h9) rfl dX1_whole_5 ?_
  refine g_callR (v0 := .long (sp_X7_cut ft fo)) (va_runSN (As := [.long ft, .long fo]) (rest := []) ⟨hx, hb, hml, hown, hts⟩ (c_X7_cut l D y s.heap.size ft fo) ⟨va_cnB 2 hts gX1_whole_X7_cut_n16 rfl rfl rfl (hK.2.at 8 rfl) (hts (.initialized RX7) (List.mem_of_getElem? (i := 4) rfl)) (by decide +kernel) ⟨Nat.le_of_ble_eq_true rfl, Nat.le_of_ble_eq_true rfl⟩, (hts (.static yX7_cut) (List.mem_of_getElem? (i := 3) rfl)), trivial⟩ (gP_S hP hD hK [] (by decide) rfl) rfl rfl hl.1 rfl (lv_room (Nat.le_of_ble_eq_true rfl)) dX1_whole_8 ⟨Nat.zero_le _, Nat.zero_le _⟩) ?_
  exact W.lret (v := sp_X7_cut ft fo) hx hb hr (fun t ht hW => ⟨congrArg (fun z => Outcome.returned (some (Value.long z))) (rfl), ht⟩) (fun q h => by cases h) dX1_whole_11
theorem in_X1_turnOver_X1 : ∀ w ∈ wsX10, w ∈ wsX1_turnOver := fun _ h => List.mem_cons_of_mem _ (List.mem_append_right _ h)
set_option maxHeartbeats 4000000 in
set_option maxRecDepth 100000 in
theorem c_X1_turnOver (l : Launch) (D : va_G) (y : Nat → ClassId) (sz : Nat) (h0 : Nat) (ft fo : Int64) : Met l yX1_turnOver wsX1_turnOver ({ frames := 3, cells := 0, slots := 0, locals := 68 } : Room) (gP D y [.ref h0] [(h0, .inr (0, [.long ft, .long fo]))] sz) (gQ D [(h0, .inr (0, [.long ft, .long fo]))] (gF none [(h0, .inr (0, [.long fo, .long (ft - ((sp_X1_whole ft fo) * fo))]))])) 0 0 (va_A [(h0, .inr (0, [.long ft, .long fo]))] sz) := by
  refine Met.ofW (cc := cX1_turnOver) (maxL := 3) (ret := none) (by decide) rfl ?_
  intro p e s m args below meth c s₁ B hml hv
  obtain ⟨rfl, hsz, hP, hK, hD0⟩ := hv
  have hx := B.exec
  have hb := B.bytes
  have hr := B.returns
  have hts := atoms_spec (ws := wsX1_turnOver) B.pre
  have hown : s.vm.findClass RX1 = some m.cls := findClass_of_methodNamed B.named
  have hlocks := B.notSynchronized
  subst hsz
  obtain ⟨A, hAe⟩ : ∃ A : Nat → Prop, A = va_A [(h0, .inr (0, [.long ft, .long fo]))] s.heap.size := ⟨_, rfl⟩
  have hD : va_D A [(h0, .inr (0, [.long ft, .long fo]))] := by rw [hAe]; exact hD0.self (sz := s.heap.size)
  have hA : ∀ q : Nat, s.heap.size ≤ q → A q := fun q h => by rw [hAe]; exact Or.inr h
  have hS : va_S A s.heap s.heap [] := va_S.rf
  have hl := lv_entry ([.ref h0]) (n := 3) (Nat.le_of_ble_eq_true rfl)
  rw [lg_entry_eq]
  generalize (lg_sl ([.ref h0]) ++ List.replicate (3 - (lg_sl ([.ref h0])).length) Slot.unset).toArray = ls at hl ⊢
  have hl : lv_has ls 3 [(0, .ref h0)] := hl
  refine lv_aload_n hx hb dX1_turnOver_0 rfl (lv_at hl 0 rfl) ?_
  refine va_get (D := D) (ci := 0) (v := .long ft) (C := RX1) (T := TX1) (N := 2) hx hb hts in_X1_turnOver_X1 hown hK.1 hP 0 rfl rfl 0 (by decide) (hts (.fieldLink RX1 7 "Nestlimit$Fraction" "top" "J") (List.mem_of_getElem? (i := 1) rfl)) (fun _ h9 => h9) rfl dX1_turnOver_1 ?_
  refine lv_aload_n hx hb dX1_turnOver_4 rfl (lv_at hl 0 rfl) ?_
  refine g_callR (v0 := .long (sp_X1_whole ft fo)) (va_runV (As := []) (rest := [.long ft]) ⟨hx, hb, hml, hown, hts⟩ (c_X1_whole l D y s.heap.size h0 ft fo) (cwV 0 hts gX1_turnOver_X1_whole rfl rfl rfl (by decide +kernel) ⟨Nat.le_of_ble_eq_true rfl, Nat.le_of_ble_eq_true rfl⟩) (gP_V hP hD hK [0] (by decide) rfl 0 rfl rfl) rfl rfl hl.1 rfl (lv_room (Nat.le_of_ble_eq_true rfl)) dX1_turnOver_5 ⟨Nat.zero_le _, Nat.zero_le _⟩) ?_
  refine lv_aload_n hx hb dX1_turnOver_8 rfl (lv_at hl 0 rfl) ?_
  refine va_get (D := D) (ci := 0) (v := .long fo) (C := RX1) (T := TX1) (N := 2) hx hb hts in_X1_turnOver_X1 hown hK.1 hP 0 rfl rfl 1 (by decide) (hts (.fieldLink RX1 13 "Nestlimit$Fraction" "bottom" "J") (List.mem_of_getElem? (i := 2) rfl)) (fun _ h9 => h9) rfl dX1_turnOver_9 ?_
  refine lv_lmul hx hb dX1_turnOver_12 ?_
  refine lv_lsub hx hb dX1_turnOver_13 ?_
  refine lv_lstore_n (lv' := [(1, .long (ft - ((sp_X1_whole ft fo) * fo))), (0, .ref h0)]) hx hb dX1_turnOver_14 rfl hl (by decide) rfl (fun ls hl => ?_)
  refine lv_aload_n hx hb dX1_turnOver_15 rfl (lv_at hl 1 rfl) ?_
  refine lv_aload_n hx hb dX1_turnOver_16 rfl (lv_at hl 1 rfl) ?_
  refine va_get (D := D) (ci := 0) (v := .long fo) (C := RX1) (T := TX1) (N := 2) hx hb hts in_X1_turnOver_X1 hown hK.1 hP 0 rfl rfl 1 (by decide) (hts (.fieldLink RX1 13 "Nestlimit$Fraction" "bottom" "J") (List.mem_of_getElem? (i := 2) rfl)) (fun _ h9 => h9) rfl dX1_turnOver_17 ?_
  refine va_put (D := D) (ci := 0) (v := .long fo) (ty := .long) (C := RX1) (T := TX1) (N := 2) hx hb hts in_X1_turnOver_X1 tyX1 tyX1_ok nmX1 hown hK.1 hP hD hS 0 rfl rfl 0 (by decide) (hts (.fieldLink RX1 7 "Nestlimit$Fraction" "top" "J") (List.mem_of_getElem? (i := 1) rfl)) (fun _ h9 => h9) rfl (by decide +kernel) (rfl) (rfl) (Nat.le_of_ble_eq_true rfl) dX1_turnOver_20 (fun H locs hP hD hS => ?_)
  have hP : va_P D vwCl [(h0, .inr (0, [.long fo, .long fo]))] H := hP
  have hD : va_D A [(h0, .inr (0, [.long fo, .long fo]))] := hD
  refine lv_aload_n hx hb dX1_turnOver_23 rfl (lv_at hl 1 rfl) ?_
  refine lv_lload_n hx hb dX1_turnOver_24 rfl (lv_at hl 0 rfl) ?_
  refine va_put (D := D) (ci := 0) (v := .long (ft - ((sp_X1_whole ft fo) * fo))) (ty := .long) (C := RX1) (T := TX1) (N := 2) hx hb hts in_X1_turnOver_X1 tyX1 tyX1_ok nmX1 hown hK.1 hP hD hS 0 rfl rfl 1 (by decide) (hts (.fieldLink RX1 13 "Nestlimit$Fraction" "bottom" "J") (List.mem_of_getElem? (i := 2) rfl)) (fun _ h9 => h9) rfl (by decide +kernel) (rfl) (rfl) (Nat.le_of_ble_eq_true rfl) dX1_turnOver_25 (fun H locs hP hD hS => ?_)
  have hP : va_P D vwCl [(h0, .inr (0, [.long fo, .long (ft - ((sp_X1_whole ft fo) * fo))]))] H := hP
  have hD : va_D A [(h0, .inr (0, [.long fo, .long (ft - ((sp_X1_whole ft fo) * fo))]))] := hD
  exact W.vret hx hb hr (fun t ht hW => ⟨⟨none, [(h0, .inr (0, [.long fo, .long (ft - ((sp_X1_whole ft fo) * fo))]))], rfl, ⟨rfl, rfl⟩, rfl, by rw [ht]; exact hP⟩, by rw [← hAe]; exact hS.F ht⟩) (by rw [← hAe]; exact hS.2.2) dX1_turnOver_28
theorem in_X4_signAt_X4 : ∀ w ∈ wsX40, w ∈ wsX4_signAt := fun _ h => List.mem_cons_of_mem _ (List.mem_append_right _ h)
def sp_X4_signAt (pa pb pc0 pd x : Int64) (i : Int32) : Int32 := sp_J13_signum_95d88 ((((((pd * x) + (pc0 * (sp_X7_unitsAt i))) * x) + ((pb * (sp_X7_unitsAt i)) * (sp_X7_unitsAt i))) * x) + (((pa * (sp_X7_unitsAt i)) * (sp_X7_unitsAt i)) * (sp_X7_unitsAt i)))
set_option maxHeartbeats 4000000 in
set_option maxRecDepth 100000 in
theorem c_X4_signAt (l : Launch) (D : va_G) (y : Nat → ClassId) (sz : Nat) (h0 : Nat) (pa pb pc0 pd : Int64) (x : Int64) (i : Int32) : Met l yX4_signAt wsX4_signAt ({ frames := 1, cells := 0, slots := 0, locals := 21 } : Room) (gP D y [.ref h0, .long x, .int i] [(h0, .inr (2, [.long pa, .long pb, .long pc0, .long pd]))] sz) (gR (.int (sp_X4_signAt pa pb pc0 pd x i))) 0 0 (fun _ => False) := by
  refine Met.ofW (cc := cX4_signAt) (maxL := 8) (ret := (some .int)) (by decide) rfl ?_
  intro p e s m args below meth c s₁ B hml hv
  obtain ⟨rfl, hsz, hP, hK, hD0⟩ := hv
  have hx := B.exec
  have hb := B.bytes
  have hr := B.returns
  have hts := atoms_spec (ws := wsX4_signAt) B.pre
  have hown : s.vm.findClass RX4 = some m.cls := findClass_of_methodNamed B.named
  have hlocks := B.notSynchronized
  subst hsz
  obtain ⟨A, hAe⟩ : ∃ A : Nat → Prop, A = va_A [(h0, .inr (2, [.long pa, .long pb, .long pc0, .long pd]))] s.heap.size := ⟨_, rfl⟩
  have hD : va_D A [(h0, .inr (2, [.long pa, .long pb, .long pc0, .long pd]))] := by rw [hAe]; exact hD0.self (sz := s.heap.size)
  have hA : ∀ q : Nat, s.heap.size ≤ q → A q := fun q h => by rw [hAe]; exact Or.inr h
  have hS : va_S A s.heap s.heap [] := va_S.rf
  have hl := lv_entry ([.ref h0, .long x, .int i]) (n := 8) (Nat.le_of_ble_eq_true rfl)
  rw [lg_entry_eq]
  generalize (lg_sl ([.ref h0, .long x, .int i]) ++ List.replicate (8 - (lg_sl ([.ref h0, .long x, .int i])).length) Slot.unset).toArray = ls at hl ⊢
  have hl : lv_has ls 8 [(0, .ref h0), (1, .long x), (3, .int i)] := hl
  refine lv_iload_n hx hb dX4_signAt_0 rfl (lv_at hl 2 rfl) ?_
  refine g_callR (v0 := .long (sp_X7_unitsAt i)) (va_runSN (As := [.int i]) (rest := []) ⟨hx, hb, hml, hown, hts⟩ (c_X7_unitsAt l D y s.heap.size i) ⟨va_cnB 1 hts gX4_signAt_X7_unitsAt_n22 rfl rfl rfl (hK.2.at 7 rfl) (hts (.initialized RX7) (List.mem_of_getElem? (i := 6) rfl)) (by decide +kernel) ⟨Nat.le_of_ble_eq_true rfl, Nat.le_of_ble_eq_true rfl⟩, (hts (.static yX7_unitsAt) (List.mem_of_getElem? (i := 5) rfl)), trivial⟩ (gP_S hP hD hK [] (by decide) rfl) rfl rfl hl.1 rfl (lv_room (Nat.le_of_ble_eq_true rfl)) dX4_signAt_1 ⟨Nat.zero_le _, Nat.zero_le _⟩) ?_
  refine lv_lstore (lv' := [(4, .long (sp_X7_unitsAt i)), (0, .ref h0), (1, .long x), (3, .int i)]) hx hb dX4_signAt_4 hl (by decide) rfl (fun ls hl => ?_)
  refine lv_aload_n hx hb dX4_signAt_6 rfl (lv_at hl 1 rfl) ?_
  refine va_get (D := D) (ci := 2) (v := .long pd) (C := RX4) (T := TX4) (N := 4) hx hb hts in_X4_signAt_X4 hown hK.1 hP 0 rfl rfl 3 (by decide) (hts (.fieldLink RX4 19 "Nestlimit$Polynomial" "d" "J") (List.mem_of_getElem? (i := 1) rfl)) (fun _ h9 => h9) rfl dX4_signAt_7 ?_
  refine lv_lload_n hx hb dX4_signAt_10 rfl (lv_at hl 2 rfl) ?_
  refine lv_lmul hx hb dX4_signAt_11 ?_
  refine lv_aload_n hx hb dX4_signAt_12 rfl (lv_at hl 1 rfl) ?_
  refine va_get (D := D) (ci := 2) (v := .long pc0) (C := RX4) (T := TX4) (N := 4) hx hb hts in_X4_signAt_X4 hown hK.1 hP 0 rfl rfl 2 (by decide) (hts (.fieldLink RX4 16 "Nestlimit$Polynomial" "c" "J") (List.mem_of_getElem? (i := 2) rfl)) (fun _ h9 => h9) rfl dX4_signAt_13 ?_
  refine lv_lload hx hb dX4_signAt_16 (lv_at hl 0 rfl) ?_
  refine lv_lmul hx hb dX4_signAt_18 ?_
  refine lv_ladd hx hb dX4_signAt_19 ?_
  refine lv_lload_n hx hb dX4_signAt_20 rfl (lv_at hl 2 rfl) ?_
  refine lv_lmul hx hb dX4_signAt_21 ?_
  refine lv_aload_n hx hb dX4_signAt_22 rfl (lv_at hl 1 rfl) ?_
  refine va_get (D := D) (ci := 2) (v := .long pb) (C := RX4) (T := TX4) (N := 4) hx hb hts in_X4_signAt_X4 hown hK.1 hP 0 rfl rfl 1 (by decide) (hts (.fieldLink RX4 13 "Nestlimit$Polynomial" "b" "J") (List.mem_of_getElem? (i := 3) rfl)) (fun _ h9 => h9) rfl dX4_signAt_23 ?_
  refine lv_lload hx hb dX4_signAt_26 (lv_at hl 0 rfl) ?_
  refine lv_lmul hx hb dX4_signAt_28 ?_
  refine lv_lload hx hb dX4_signAt_29 (lv_at hl 0 rfl) ?_
  refine lv_lmul hx hb dX4_signAt_31 ?_
  refine lv_ladd hx hb dX4_signAt_32 ?_
  refine lv_lload_n hx hb dX4_signAt_33 rfl (lv_at hl 2 rfl) ?_
  refine lv_lmul hx hb dX4_signAt_34 ?_
  refine lv_aload_n hx hb dX4_signAt_35 rfl (lv_at hl 1 rfl) ?_
  refine va_get (D := D) (ci := 2) (v := .long pa) (C := RX4) (T := TX4) (N := 4) hx hb hts in_X4_signAt_X4 hown hK.1 hP 0 rfl rfl 0 (by decide) (hts (.fieldLink RX4 7 "Nestlimit$Polynomial" "a" "J") (List.mem_of_getElem? (i := 4) rfl)) (fun _ h9 => h9) rfl dX4_signAt_36 ?_
  refine lv_lload hx hb dX4_signAt_39 (lv_at hl 0 rfl) ?_
  refine lv_lmul hx hb dX4_signAt_41 ?_
  refine lv_lload hx hb dX4_signAt_42 (lv_at hl 0 rfl) ?_
  refine lv_lmul hx hb dX4_signAt_44 ?_
  refine lv_lload hx hb dX4_signAt_45 (lv_at hl 0 rfl) ?_
  refine lv_lmul hx hb dX4_signAt_47 ?_
  refine lv_ladd hx hb dX4_signAt_48 ?_
  refine lv_lstore (lv' := [(6, .long ((((((pd * x) + (pc0 * (sp_X7_unitsAt i))) * x) + ((pb * (sp_X7_unitsAt i)) * (sp_X7_unitsAt i))) * x) + (((pa * (sp_X7_unitsAt i)) * (sp_X7_unitsAt i)) * (sp_X7_unitsAt i)))), (4, .long (sp_X7_unitsAt i)), (0, .ref h0), (1, .long x), (3, .int i)]) hx hb dX4_signAt_49 hl (by decide) rfl (fun ls hl => ?_)
  refine lv_lload hx hb dX4_signAt_51 (lv_at hl 0 rfl) ?_
  refine g_callR (v0 := .int (sp_J13_signum_95d88 ((((((pd * x) + (pc0 * (sp_X7_unitsAt i))) * x) + ((pb * (sp_X7_unitsAt i)) * (sp_X7_unitsAt i))) * x) + (((pa * (sp_X7_unitsAt i)) * (sp_X7_unitsAt i)) * (sp_X7_unitsAt i))))) (va_runS (As := [.long ((((((pd * x) + (pc0 * (sp_X7_unitsAt i))) * x) + ((pb * (sp_X7_unitsAt i)) * (sp_X7_unitsAt i))) * x) + (((pa * (sp_X7_unitsAt i)) * (sp_X7_unitsAt i)) * (sp_X7_unitsAt i)))]) (rest := []) ⟨hx, hb, hml, hown, hts⟩ (c_J13_signum_95d88 l D y s.heap.size ((((((pd * x) + (pc0 * (sp_X7_unitsAt i))) * x) + ((pb * (sp_X7_unitsAt i)) * (sp_X7_unitsAt i))) * x) + (((pa * (sp_X7_unitsAt i)) * (sp_X7_unitsAt i)) * (sp_X7_unitsAt i)))) (va_cwS 1 hts gX4_signAt_J13_signum_95d88 rfl rfl rfl (by decide +kernel) ⟨Nat.le_of_ble_eq_true rfl, Nat.le_of_ble_eq_true rfl⟩) (gP_S hP hD hK [] (by decide) rfl) rfl rfl hl.1 rfl (lv_room (Nat.le_of_ble_eq_true rfl)) dX4_signAt_53 ⟨Nat.zero_le _, Nat.zero_le _⟩) ?_
  exact W.iret (v := sp_J13_signum_95d88 ((((((pd * x) + (pc0 * (sp_X7_unitsAt i))) * x) + ((pb * (sp_X7_unitsAt i)) * (sp_X7_unitsAt i))) * x) + (((pa * (sp_X7_unitsAt i)) * (sp_X7_unitsAt i)) * (sp_X7_unitsAt i)))) hx hb hr (fun t ht hW => ⟨congrArg (fun z => Outcome.returned (some (Value.int z))) (rfl), ht⟩) (fun q h => by cases h) dX4_signAt_56
