section GNEW
variable {p : Program} {l : Launch} {e : Env} {R : Room} {s : State} {m : MethodId} {args : Array Value} {below : List Frame} {meth : Method} {c : Code} {H : Heap} {locs : List Loc} {cells slots : Nat} {Q : State → Prop}
variable {cc : ByteArray} {pc : Nat} {ls : Array Slot} {rest st0 : List Value} {a : Array Value} {A : Nat → Prop} {H0 : Heap} {D : va_G} {y : Nat → ClassId} {ws wc : va_W}
theorem g_objInit (hexec : p.tables.exec = Jvm.exec) (hb : c.code = cc) {own : String} (hown : s.vm.findClass own = some m.cls) {idx : Nat} (hlink : (Cond.methodLink own idx Lib.objectInit).before args s = true) (hinst : (Cond.instanceMethod Lib.objectInit).before args s = true) (hcode : (Cond.code Lib.objectInit ⟨#[0xb1]⟩ 1 none).before args s = true)
    (hsize : ls.size = c.maxLocals) {a : Addr} (hd : decode cc pc = .ok (.invokespecial idx, 3)) (hframes : 1 ≤ R.frames) (hlocals : 2 * (F0 m pc ls (.ref a :: rest)).monitorRoom + (rest.map fun v => v.category).sum + 12 ≤ R.locals)
    (kk : W p l e R s m args below meth c H locs cells slots Q (F0 m (pc + 3) ls rest)) : W p l e R s m args below meth c H locs cells slots Q (F0 m pc ls (.ref a :: rest)) :=
  W.objInit hexec hb hown hlink hinst hcode rfl hsize rfl hd hframes hlocals kk
/-- .. of a method that makes cells: what it leaves are its own cells and new ones -/
def gQn (D : va_G) (wc : va_W) (f : Option Value → va_W → Prop) : Array Value → State → Outcome → State → Prop := fun _ st oc t => (∃ (v : Option Value) (w1 : va_W), oc = .returned v ∧ f v w1 ∧ va_D (va_A wc st.heap.size) w1 ∧ va_P D vwCl w1 t.heap) ∧ va_F (va_A wc st.heap.size) st t
theorem g_callN {f : Option Value → va_W → Prop} {mc ms : Nat} (hr : va_Run p l e R s m args below meth c H locs cells slots mc ms (F0 m pc ls st0) rest (gQn D wc f a) (va_A wc H.size)) (hP : va_P D vwCl (ws ++ wc) H) (hD : va_D A (ws ++ wc)) (hS : va_S A H0 H locs) (hA : ∀ q, H0.size ≤ q → A q)
    (kk : ∀ (v : Option Value) (w1 : va_W) (H1 : Heap) (locs1 : List Loc), f v w1 → va_P D vwCl (ws ++ w1) H1 → va_D A (ws ++ w1) → va_S A H0 H1 locs1 → W p l e R s m args below meth c H1 locs1 (cells + mc) (slots + ms) Q (F0 m (pc + 3) ls (v.toList ++ rest))) : W p l e R s m args below meth c H locs cells slots Q (F0 m pc ls st0) := by
  intro T hT X
  obtain ⟨v, st₀, t, T', L, h0, X', hL, e1, e2, ⟨⟨v1, w1, hv, hf, hd1, hp1⟩, hz, hk⟩, st⟩ := hr T hT X
  cases hv
  rw [h0] at hz hk hd1
  have hfree : ∀ q, va_A wc H.size q → A q := fun q h => by
    rcases h with ⟨k, e, h⟩ | h
    · exact hD.2 (ws.length + k) (q, e) (by rw [List.getElem?_append_right (by omega), show ws.length + k - ws.length = k by omega]; exact h)
    · exact hA q (Nat.le_trans hS.1 h)
  have hl : ∀ (k : Nat) (q : Nat × va_E), ws[k]? = some q → (ws ++ wc)[k]? = some q := fun k q h => by rw [List.getElem?_append_left (List.getElem?_eq_some_iff.mp h).1]; exact h
  have hap : ∀ (k : Nat) (q : Nat × va_E), ws[k]? = some q → q.1 < H.size ∧ ¬ va_A wc H.size q.1 := by
    intro k q h
    have h1 := (hP k q (hl k q h)).lt
    refine ⟨h1, fun z => ?_⟩
    rcases z with ⟨j, e, z⟩ | z
    · have h2 := hD.1 k (ws.length + j) q (q.1, e) (hl k q h) (by rw [List.getElem?_append_right (by omega), show ws.length + j - ws.length = j by omega]; exact z) rfl
      have h3 := (List.getElem?_eq_some_iff.mp h).1
      omega
    · omega
  have hPl : va_P D vwCl ws T'.heap := fun k q h => by
    rw [e1]
    exact (hP k q (hl k q h)).kept (hk q.1 (hap k q h).1 (hap k q h).2)
  have hDl : va_D A ws := ⟨fun i j x z hi hj => hD.1 i j x z (hl i x hi) (hl j z hj), fun k q h => hD.2 k q (hl k q h)⟩
  obtain ⟨t2, a1, b1⟩ := kk v w1 T'.heap (locs ++ L) hf (va_P.app hPl (by rw [e1]; exact hp1)) (va_D.app hDl (hd1.weaken (fun _ q _ h => hfree q.1 h)) (fun i j x z hx hz2 hxz => (hap i x hx).2 (by rw [hxz]; exact hd1.2 j z hz2)))
    ⟨Nat.le_trans hS.1 (by rw [e1]; exact hz), fun q h1 h2 => by rw [e1, hk q (Nat.lt_of_lt_of_le h1 hS.1) (fun z => h2 (hfree q z))]; exact hS.2.1 q h1 h2, fun q hq => by
      rcases List.mem_append.mp hq with h | h
      · exact hS.2.2 q h
      · exact hfree _ (hL q h)⟩ T' rfl X'
  exact ⟨t2, st t2 a1, b1⟩
def gPA (D : va_G) (y : Nat → ClassId) (av : List Value) (wc : va_W) (sz : Nat) : Array Value → State → Prop := va_Pc av (fun U => U.heap.size = sz ∧ va_P D vwCl wc U.heap ∧ gK D y U ∧ va_D (fun _ => True) wc ∧ va_AO "Nestlimit$Program" U)
theorem g_newP {N' : Nat} (hexec : p.tables.exec = Jvm.exec) (hb : c.code = cc) {own : String} {index : Nat} (hown : s.vm.findClass own = some m.cls) (hclink : (Cond.classLink own index "Nestlimit$Program").before args s = true) (hover : va_AO "Nestlimit$Program" s) (hK : gK D y s) (hP : va_P D vwCl ws H) (hD : va_D A ws) (hS : va_S A H0 H locs) (hA : ∀ q, H0.size ≤ q → A q)
    {n : Int32} (hn : ¬ n < 0) (hN : n.toNatClampNeg = N') (hbytes : N' * 4 ≤ 536870912) (hcells : cells + 1 ≤ R.cells) (hslots : slots + N' ≤ R.slots) (hdg : decode cc pc = .ok (.anewarray index, 3))
    (kk : ∀ (q : Nat) (H1 : Heap), va_P D vwCl (ws ++ [(q, .inl (y 3, N', .inr (.inr (.inr (.inr (fun _ => none))))))]) H1 → va_D A (ws ++ [(q, .inl (y 3, N', .inr (.inr (.inr (.inr (fun _ => none))))))]) → va_S A H0 H1 locs → W p l e R s m args below meth c H1 locs (cells + 1) (slots + N') Q (F0 m (pc + 3) ls (.ref q :: rest))) : W p l e R s m args below meth c H locs cells slots Q (F0 m pc ls (.int n :: rest)) := by
  refine va_newq (C := "Nestlimit$Program") hexec hb hown hclink hover hK.1 hP hD hS hA hn hN hbytes hcells hslots hdg (fun q cA H1 hK1 hP1 hD1 hS1 => ?_)
  obtain ⟨kA, comp, h1, h2, h3, h4⟩ := (hK1.2 4 _ rfl).2
  obtain ⟨kA2, comp2, g1, g2, g3, g4⟩ := (hK.1.2 3 _ rfl).2
  have h5 : cA = y 3 := Option.some.inj (h4.symm.trans g4)
  subst h5
  exact kk q H1 hP1 hD1 hS1
theorem g_newZ {N' : Nat} (hexec : p.tables.exec = Jvm.exec) (hb : c.code = cc) (harr : (Cond.arrayClass .boolean).before args s = true) (hK : gK D y s) (hP : va_P D vwCl ws H) (hD : va_D A ws) (hS : va_S A H0 H locs) (hA : ∀ q, H0.size ≤ q → A q)
    {n : Int32} (hn : ¬ n < 0) (hN : n.toNatClampNeg = N') (hbytes : N' * componentBytes .boolean ≤ 536870912) (hcells : cells + 1 ≤ R.cells) (hslots : slots + N' ≤ R.slots) (hdg : decode cc pc = .ok (.newarray .boolean, 2))
    (kk : ∀ (q : Nat) (H1 : Heap), va_P D vwCl (ws ++ [(q, .inl (y 2, N', .inl (gZ (fun _ => false))))]) H1 → va_D A (ws ++ [(q, .inl (y 2, N', .inl (gZ (fun _ => false))))]) → va_S A H0 H1 locs → W p l e R s m args below meth c H1 locs (cells + 1) (slots + N') Q (F0 m (pc + 2) ls (.ref q :: rest))) : W p l e R s m args below meth c H locs cells slots Q (F0 m pc ls (.int n :: rest)) := by
  refine va_newa (atype := .boolean) (ty := .boolean) (a0 := (N', .inl (gZ (fun _ => false)))) hexec hb harr rfl hK.1 hP hD hS hA (fun cA => rfl) hn hN hbytes hcells hslots hdg (fun q cA H1 hK1 hP1 hD1 hS1 => ?_)
  have h1 : va_RA s cA .boolean := (hK1.2 4 _ rfl).2
  have h2 : va_RA s (y 2) .boolean := (hK.1.2 2 _ rfl).2
  have h3 : cA = y 2 := Option.some.inj (h1.symm.trans h2)
  subst h3
  exact kk q H1 hP1 hD1 hS1
theorem g_newJ {N' : Nat} (hexec : p.tables.exec = Jvm.exec) (hb : c.code = cc) (harr : (Cond.arrayClass .long).before args s = true) (hK : gK D y s) (hP : va_P D vwCl ws H) (hD : va_D A ws) (hS : va_S A H0 H locs) (hA : ∀ q, H0.size ≤ q → A q)
    {n : Int32} (hn : ¬ n < 0) (hN : n.toNatClampNeg = N') (hbytes : N' * componentBytes .long ≤ 536870912) (hcells : cells + 1 ≤ R.cells) (hslots : slots + N' ≤ R.slots) (hdg : decode cc pc = .ok (.newarray .long, 2))
    (kk : ∀ (q : Nat) (H1 : Heap), va_P D vwCl (ws ++ [(q, .inl (y 1, N', .inr (.inl (fun _ => 0))))]) H1 → va_D A (ws ++ [(q, .inl (y 1, N', .inr (.inl (fun _ => 0))))]) → va_S A H0 H1 locs → W p l e R s m args below meth c H1 locs (cells + 1) (slots + N') Q (F0 m (pc + 2) ls (.ref q :: rest))) : W p l e R s m args below meth c H locs cells slots Q (F0 m pc ls (.int n :: rest)) := by
  refine va_newa (atype := .long) (ty := .long) (a0 := (N', .inr (.inl (fun _ => 0)))) hexec hb harr rfl hK.1 hP hD hS hA (fun cA => rfl) hn hN hbytes hcells hslots hdg (fun q cA H1 hK1 hP1 hD1 hS1 => ?_)
  have h1 : va_RA s cA .long := (hK1.2 4 _ rfl).2
  have h2 : va_RA s (y 1) .long := (hK.1.2 1 _ rfl).2
  have h3 : cA = y 1 := Option.some.inj (h1.symm.trans h2)
  subst h3
  exact kk q H1 hP1 hD1 hS1
theorem g_newI {N' : Nat} (hexec : p.tables.exec = Jvm.exec) (hb : c.code = cc) (harr : (Cond.arrayClass .int).before args s = true) (hK : gK D y s) (hP : va_P D vwCl ws H) (hD : va_D A ws) (hS : va_S A H0 H locs) (hA : ∀ q, H0.size ≤ q → A q)
    {n : Int32} (hn : ¬ n < 0) (hN : n.toNatClampNeg = N') (hbytes : N' * componentBytes .int ≤ 536870912) (hcells : cells + 1 ≤ R.cells) (hslots : slots + N' ≤ R.slots) (hdg : decode cc pc = .ok (.newarray .int, 2))
    (kk : ∀ (q : Nat) (H1 : Heap), va_P D vwCl (ws ++ [(q, .inl (y 0, N', .inl (fun _ => 0)))]) H1 → va_D A (ws ++ [(q, .inl (y 0, N', .inl (fun _ => 0)))]) → va_S A H0 H1 locs → W p l e R s m args below meth c H1 locs (cells + 1) (slots + N') Q (F0 m (pc + 2) ls (.ref q :: rest))) : W p l e R s m args below meth c H locs cells slots Q (F0 m pc ls (.int n :: rest)) := by
  refine va_newa (atype := .int) (ty := .int) (a0 := (N', .inl (fun _ => 0))) hexec hb harr rfl hK.1 hP hD hS hA (fun cA => rfl) hn hN hbytes hcells hslots hdg (fun q cA H1 hK1 hP1 hD1 hS1 => ?_)
  have h1 : va_RA s cA .int := (hK1.2 4 _ rfl).2
  have h2 : va_RA s (y 0) .int := (hK.1.2 0 _ rfl).2
  have h3 : cA = y 0 := Option.some.inj (h1.symm.trans h2)
  subst h3
  exact kk q H1 hP1 hD1 hS1
end GNEW
set_option maxHeartbeats 4000000 in
set_option maxRecDepth 100000 in
theorem c_X2_init (l : Launch) (D : va_G) (y : Nat → ClassId) (sz : Nat) (h0 : Nat) (b0 : Bool) (lo hi : Int64) : Met l yX2_init wsX2_init ({ frames := 1, cells := 0, slots := 0, locals := 24 } : Room) (gP D y [.ref h0] [(h0, .inr (1, [.int (gB b0), .long lo, .long hi]))] sz) (gQ D [(h0, .inr (1, [.int (gB b0), .long lo, .long hi]))] (gF none [(h0, .inr (1, [.int (gB b0), .long lo, .long hi]))])) 0 0 (va_A [(h0, .inr (1, [.int (gB b0), .long lo, .long hi]))] sz) := by
  refine Met.ofW (cc := cX2_init) (maxL := 1) (ret := none) (by decide) rfl ?_
  intro pg e s m args below meth c s₁ B hml hv
  obtain ⟨rfl, hsz, hP, hK, hD0⟩ := hv
  have hx := B.exec
  have hb := B.bytes
  have hr := B.returns
  have hts := atoms_spec (ws := wsX2_init) B.pre
  have hown : s.vm.findClass RX2 = some m.cls := findClass_of_methodNamed B.named
  have hin : meth.name = "<init>" := (name_of_methodNamed B.named B.method).1
  have hlocks := B.notSynchronized
  subst hsz
  obtain ⟨A, hAe⟩ : ∃ A : Nat → Prop, A = va_A [(h0, .inr (1, [.int (gB b0), .long lo, .long hi]))] s.heap.size := ⟨_, rfl⟩
  have hD : va_D A [(h0, .inr (1, [.int (gB b0), .long lo, .long hi]))] := by rw [hAe]; exact hD0.self (sz := s.heap.size)
  have hA : ∀ q : Nat, s.heap.size ≤ q → A q := fun q h => by rw [hAe]; exact Or.inr h
  have hS : va_S A s.heap s.heap [] := va_S.rf
  have hl := lv_entry ([.ref h0]) (n := 1) (Nat.le_of_ble_eq_true rfl)
  rw [lg_entry_eq]
  generalize (lg_sl ([.ref h0]) ++ List.replicate (1 - (lg_sl ([.ref h0])).length) Slot.unset).toArray = ls at hl ⊢
  have hl : lv_has ls 1 [(0, .ref h0)] := hl
  refine lv_aload_n hx hb dX2_init_0 rfl (lv_at hl 0 rfl) ?_
  refine g_objInit hx hb hown (hts (.methodLink RX2 3 objectInit) (List.mem_of_getElem? (i := 1) rfl)) (hts (.instanceMethod objectInit) (List.mem_of_getElem? (i := 2) rfl)) (hts (.code objectInit ⟨#[0xb1]⟩ 1 none) (List.mem_of_getElem? (i := 3) rfl)) (by rw [hml]; exact hl.1) dX2_init_1 (Nat.le_of_ble_eq_true rfl) (Nat.le_of_ble_eq_true rfl) ?_
  exact W.vret hx hb hr (fun t ht hW => ⟨⟨none, [(h0, .inr (1, [.int (gB b0), .long lo, .long hi]))], rfl, ⟨rfl, rfl⟩, rfl, by rw [ht]; exact hP⟩, by rw [← hAe]; exact hS.F ht⟩) (by rw [← hAe]; exact hS.2.2) dX2_init_4
set_option maxHeartbeats 4000000 in
set_option maxRecDepth 100000 in
theorem c_X1_init (l : Launch) (D : va_G) (y : Nat → ClassId) (sz : Nat) (h0 : Nat) (ft fo : Int64) : Met l yX1_init wsX1_init ({ frames := 1, cells := 0, slots := 0, locals := 24 } : Room) (gP D y [.ref h0] [(h0, .inr (0, [.long ft, .long fo]))] sz) (gQ D [(h0, .inr (0, [.long ft, .long fo]))] (gF none [(h0, .inr (0, [.long ft, .long fo]))])) 0 0 (va_A [(h0, .inr (0, [.long ft, .long fo]))] sz) := by
  refine Met.ofW (cc := cX1_init) (maxL := 1) (ret := none) (by decide) rfl ?_
  intro pg e s m args below meth c s₁ B hml hv
  obtain ⟨rfl, hsz, hP, hK, hD0⟩ := hv
  have hx := B.exec
  have hb := B.bytes
  have hr := B.returns
  have hts := atoms_spec (ws := wsX1_init) B.pre
  have hown : s.vm.findClass RX1 = some m.cls := findClass_of_methodNamed B.named
  have hin : meth.name = "<init>" := (name_of_methodNamed B.named B.method).1
  have hlocks := B.notSynchronized
  subst hsz
  obtain ⟨A, hAe⟩ : ∃ A : Nat → Prop, A = va_A [(h0, .inr (0, [.long ft, .long fo]))] s.heap.size := ⟨_, rfl⟩
  have hD : va_D A [(h0, .inr (0, [.long ft, .long fo]))] := by rw [hAe]; exact hD0.self (sz := s.heap.size)
  have hA : ∀ q : Nat, s.heap.size ≤ q → A q := fun q h => by rw [hAe]; exact Or.inr h
  have hS : va_S A s.heap s.heap [] := va_S.rf
  have hl := lv_entry ([.ref h0]) (n := 1) (Nat.le_of_ble_eq_true rfl)
  rw [lg_entry_eq]
  generalize (lg_sl ([.ref h0]) ++ List.replicate (1 - (lg_sl ([.ref h0])).length) Slot.unset).toArray = ls at hl ⊢
  have hl : lv_has ls 1 [(0, .ref h0)] := hl
  refine lv_aload_n hx hb dX1_init_0 rfl (lv_at hl 0 rfl) ?_
  refine g_objInit hx hb hown (hts (.methodLink RX1 1 objectInit) (List.mem_of_getElem? (i := 1) rfl)) (hts (.instanceMethod objectInit) (List.mem_of_getElem? (i := 2) rfl)) (hts (.code objectInit ⟨#[0xb1]⟩ 1 none) (List.mem_of_getElem? (i := 3) rfl)) (by rw [hml]; exact hl.1) dX1_init_1 (Nat.le_of_ble_eq_true rfl) (Nat.le_of_ble_eq_true rfl) ?_
  exact W.vret hx hb hr (fun t ht hW => ⟨⟨none, [(h0, .inr (0, [.long ft, .long fo]))], rfl, ⟨rfl, rfl⟩, rfl, by rw [ht]; exact hP⟩, by rw [← hAe]; exact hS.F ht⟩) (by rw [← hAe]; exact hS.2.2) dX1_init_4
theorem in_X4_init_X4 : ∀ w ∈ wsX40, w ∈ wsX4_init := fun _ h => List.mem_cons_of_mem _ (List.mem_append_right _ h)
set_option maxHeartbeats 4000000 in
set_option maxRecDepth 100000 in
theorem c_X4_init (l : Launch) (D : va_G) (y : Nat → ClassId) (sz : Nat) (h0 : Nat) (pa pb pc0 pd : Int64) (a b c0 d0 : Int32) : Met l yX4_init wsX4_init ({ frames := 1, cells := 0, slots := 0, locals := 24 } : Room) (gP D y [.ref h0, .int a, .int b, .int c0, .int d0] [(h0, .inr (2, [.long pa, .long pb, .long pc0, .long pd]))] sz) (gQ D [(h0, .inr (2, [.long pa, .long pb, .long pc0, .long pd]))] (gF none [(h0, .inr (2, [.long a.toInt64, .long b.toInt64, .long c0.toInt64, .long d0.toInt64]))])) 0 0 (va_A [(h0, .inr (2, [.long pa, .long pb, .long pc0, .long pd]))] sz) := by
  refine Met.ofW (cc := cX4_init) (maxL := 5) (ret := none) (by decide) rfl ?_
  intro pg e s m args below meth c s₁ B hml hv
  obtain ⟨rfl, hsz, hP, hK, hD0⟩ := hv
  have hx := B.exec
  have hb := B.bytes
  have hr := B.returns
  have hts := atoms_spec (ws := wsX4_init) B.pre
  have hown : s.vm.findClass RX4 = some m.cls := findClass_of_methodNamed B.named
  have hin : meth.name = "<init>" := (name_of_methodNamed B.named B.method).1
  have hlocks := B.notSynchronized
  subst hsz
  obtain ⟨A, hAe⟩ : ∃ A : Nat → Prop, A = va_A [(h0, .inr (2, [.long pa, .long pb, .long pc0, .long pd]))] s.heap.size := ⟨_, rfl⟩
  have hD : va_D A [(h0, .inr (2, [.long pa, .long pb, .long pc0, .long pd]))] := by rw [hAe]; exact hD0.self (sz := s.heap.size)
  have hA : ∀ q : Nat, s.heap.size ≤ q → A q := fun q h => by rw [hAe]; exact Or.inr h
  have hS : va_S A s.heap s.heap [] := va_S.rf
  have hl := lv_entry ([.ref h0, .int a, .int b, .int c0, .int d0]) (n := 5) (Nat.le_of_ble_eq_true rfl)
  rw [lg_entry_eq]
  generalize (lg_sl ([.ref h0, .int a, .int b, .int c0, .int d0]) ++ List.replicate (5 - (lg_sl ([.ref h0, .int a, .int b, .int c0, .int d0])).length) Slot.unset).toArray = ls at hl ⊢
  have hl : lv_has ls 5 [(0, .ref h0), (1, .int a), (2, .int b), (3, .int c0), (4, .int d0)] := hl
  refine lv_aload_n hx hb dX4_init_0 rfl (lv_at hl 0 rfl) ?_
  refine g_objInit hx hb hown (hts (.methodLink RX4 1 objectInit) (List.mem_of_getElem? (i := 1) rfl)) (hts (.instanceMethod objectInit) (List.mem_of_getElem? (i := 2) rfl)) (hts (.code objectInit ⟨#[0xb1]⟩ 1 none) (List.mem_of_getElem? (i := 3) rfl)) (by rw [hml]; exact hl.1) dX4_init_1 (Nat.le_of_ble_eq_true rfl) (Nat.le_of_ble_eq_true rfl) ?_
  refine lv_aload_n hx hb dX4_init_4 rfl (lv_at hl 0 rfl) ?_
  refine lv_iload_n hx hb dX4_init_5 rfl (lv_at hl 1 rfl) ?_
  refine lv_i2l (v := a.toInt64) hx hb dX4_init_6 rfl ?_
  refine va_putF (D := D) (ci := 2) (v := .long a.toInt64) (ty := .long) (C := RX4) (T := TX4) (N := 4) hx hb hts in_X4_init_X4 tyX4 tyX4_ok nmX4 hown hK.1 hP hD hS 0 rfl rfl 0 (by decide) (hts (.fieldLink RX4 7 "Nestlimit$Polynomial" "a" "J") (List.mem_of_getElem? (i := 4) rfl)) (fun _ h9 => h9) rfl hin rfl (by decide +kernel) (rfl) (rfl) (Nat.le_of_ble_eq_true rfl) dX4_init_7 (fun H locs hP hD hS => ?_)
  have hP : va_P D vwCl [(h0, .inr (2, [.long a.toInt64, .long pb, .long pc0, .long pd]))] H := hP
  have hD : va_D A [(h0, .inr (2, [.long a.toInt64, .long pb, .long pc0, .long pd]))] := hD
  refine lv_aload_n hx hb dX4_init_10 rfl (lv_at hl 0 rfl) ?_
  refine lv_iload_n hx hb dX4_init_11 rfl (lv_at hl 2 rfl) ?_
  refine lv_i2l (v := b.toInt64) hx hb dX4_init_12 rfl ?_
  refine va_putF (D := D) (ci := 2) (v := .long b.toInt64) (ty := .long) (C := RX4) (T := TX4) (N := 4) hx hb hts in_X4_init_X4 tyX4 tyX4_ok nmX4 hown hK.1 hP hD hS 0 rfl rfl 1 (by decide) (hts (.fieldLink RX4 13 "Nestlimit$Polynomial" "b" "J") (List.mem_of_getElem? (i := 5) rfl)) (fun _ h9 => h9) rfl hin rfl (by decide +kernel) (rfl) (rfl) (Nat.le_of_ble_eq_true rfl) dX4_init_13 (fun H locs hP hD hS => ?_)
  have hP : va_P D vwCl [(h0, .inr (2, [.long a.toInt64, .long b.toInt64, .long pc0, .long pd]))] H := hP
  have hD : va_D A [(h0, .inr (2, [.long a.toInt64, .long b.toInt64, .long pc0, .long pd]))] := hD
  refine lv_aload_n hx hb dX4_init_16 rfl (lv_at hl 0 rfl) ?_
  refine lv_iload_n hx hb dX4_init_17 rfl (lv_at hl 3 rfl) ?_
  refine lv_i2l (v := c0.toInt64) hx hb dX4_init_18 rfl ?_
  refine va_putF (D := D) (ci := 2) (v := .long c0.toInt64) (ty := .long) (C := RX4) (T := TX4) (N := 4) hx hb hts in_X4_init_X4 tyX4 tyX4_ok nmX4 hown hK.1 hP hD hS 0 rfl rfl 2 (by decide) (hts (.fieldLink RX4 16 "Nestlimit$Polynomial" "c" "J") (List.mem_of_getElem? (i := 6) rfl)) (fun _ h9 => h9) rfl hin rfl (by decide +kernel) (rfl) (rfl) (Nat.le_of_ble_eq_true rfl) dX4_init_19 (fun H locs hP hD hS => ?_)
  have hP : va_P D vwCl [(h0, .inr (2, [.long a.toInt64, .long b.toInt64, .long c0.toInt64, .long pd]))] H := hP
  have hD : va_D A [(h0, .inr (2, [.long a.toInt64, .long b.toInt64, .long c0.toInt64, .long pd]))] := hD
  refine lv_aload_n hx hb dX4_init_22 rfl (lv_at hl 0 rfl) ?_
  refine lv_iload hx hb dX4_init_23 (lv_at hl 4 rfl) ?_
  refine lv_i2l (v := d0.toInt64) hx hb dX4_init_25 rfl ?_
  refine va_putF (D := D) (ci := 2) (v := .long d0.toInt64) (ty := .long) (C := RX4) (T := TX4) (N := 4) hx hb hts in_X4_init_X4 tyX4 tyX4_ok nmX4 hown hK.1 hP hD hS 0 rfl rfl 3 (by decide) (hts (.fieldLink RX4 19 "Nestlimit$Polynomial" "d" "J") (List.mem_of_getElem? (i := 7) rfl)) (fun _ h9 => h9) rfl hin rfl (by decide +kernel) (rfl) (rfl) (Nat.le_of_ble_eq_true rfl) dX4_init_26 (fun H locs hP hD hS => ?_)
  have hP : va_P D vwCl [(h0, .inr (2, [.long a.toInt64, .long b.toInt64, .long c0.toInt64, .long d0.toInt64]))] H := hP
  have hD : va_D A [(h0, .inr (2, [.long a.toInt64, .long b.toInt64, .long c0.toInt64, .long d0.toInt64]))] := hD
  exact W.vret hx hb hr (fun t ht hW => ⟨⟨none, [(h0, .inr (2, [.long a.toInt64, .long b.toInt64, .long c0.toInt64, .long d0.toInt64]))], rfl, ⟨rfl, rfl⟩, rfl, by rw [ht]; exact hP⟩, by rw [← hAe]; exact hS.F ht⟩) (by rw [← hAe]; exact hS.2.2) dX4_init_29
theorem in_X6_init_X6 : ∀ w ∈ wsX60, w ∈ wsX6_init := fun _ h => List.mem_cons_of_mem _ (List.mem_append_right _ h)
set_option maxHeartbeats 4000000 in
set_option maxRecDepth 100000 in
theorem c_X6_init_25 (l : Launch) (D : va_G) (y : Nat → ClassId) (sz : Nat) (h0 : Nat) : Met l yX6_init wsX6_init ({ frames := 1, cells := 3, slots := 75, locals := 24 } : Room) (gP D y [.ref h0, .int 25] [(h0, .inr (4, [.null, .null, .null]))] sz) (gQn D [(h0, .inr (4, [.null, .null, .null]))] (fun v w => ∃ (u1 : Nat) (u2 : Nat) (u3 : Nat), v = none ∧ w = [(h0, .inr (4, [.ref u1, .ref u2, .ref u3])), (u1, .inl (y 2, 25, .inl (gZ (fun _ => false)))), (u2, .inl (y 1, 25, .inr (.inl (fun _ => 0)))), (u3, .inl (y 1, 25, .inr (.inl (fun _ => 0))))])) 3 75 (va_A [(h0, .inr (4, [.null, .null, .null]))] sz) := by
  refine Met.ofW (cc := cX6_init) (maxL := 3) (ret := none) (by decide) rfl ?_
  intro pg e s m args below meth c s₁ B hml hv
  obtain ⟨rfl, hsz, hP, hK, hD0⟩ := hv
  have hx := B.exec
  have hb := B.bytes
  have hr := B.returns
  have hts := atoms_spec (ws := wsX6_init) B.pre
  have hown : s.vm.findClass RX6 = some m.cls := findClass_of_methodNamed B.named
  have hin : meth.name = "<init>" := (name_of_methodNamed B.named B.method).1
  have hlocks := B.notSynchronized
  subst hsz
  obtain ⟨A, hAe⟩ : ∃ A : Nat → Prop, A = va_A [(h0, .inr (4, [.null, .null, .null]))] s.heap.size := ⟨_, rfl⟩
  have hD : va_D A [(h0, .inr (4, [.null, .null, .null]))] := by rw [hAe]; exact hD0.self (sz := s.heap.size)
  have hA : ∀ q : Nat, s.heap.size ≤ q → A q := fun q h => by rw [hAe]; exact Or.inr h
  have hS : va_S A s.heap s.heap [] := va_S.rf
  have hl := lv_entry ([.ref h0, .int 25]) (n := 3) (Nat.le_of_ble_eq_true rfl)
  rw [lg_entry_eq]
  generalize (lg_sl ([.ref h0, .int 25]) ++ List.replicate (3 - (lg_sl ([.ref h0, .int 25])).length) Slot.unset).toArray = ls at hl ⊢
  have hl : lv_has ls 3 [(0, .ref h0), (1, .int 25)] := hl
  refine lv_aload_n hx hb dX6_init_0 rfl (lv_at hl 0 rfl) ?_
  refine g_objInit hx hb hown (hts (.methodLink RX6 1 objectInit) (List.mem_of_getElem? (i := 1) rfl)) (hts (.instanceMethod objectInit) (List.mem_of_getElem? (i := 2) rfl)) (hts (.code objectInit ⟨#[0xb1]⟩ 1 none) (List.mem_of_getElem? (i := 3) rfl)) (by rw [hml]; exact hl.1) dX6_init_1 (Nat.le_of_ble_eq_true rfl) (Nat.le_of_ble_eq_true rfl) ?_
  refine lv_iload_n hx hb dX6_init_4 rfl (lv_at hl 1 rfl) ?_
  refine lv_if_ge (tgt := 12) hx hb dX6_init_5 (by decide) (fun c_5 => ?_) (fun c_5 => absurd c_5 (by decide))
  refine lv_iload_n hx hb dX6_init_12 rfl (lv_at hl 1 rfl) ?_
  refine lv_istore_n (lv' := [(2, .int 25), (0, .ref h0), (1, .int 25)]) hx hb dX6_init_13 rfl hl (by decide) rfl (fun ls hl => ?_)
  refine lv_aload_n hx hb dX6_init_14 rfl (lv_at hl 1 rfl) ?_
  refine lv_iload_n hx hb dX6_init_15 rfl (lv_at hl 0 rfl) ?_
  refine g_newZ (N' := 25) hx hb (hts (.arrayClass .boolean) (List.mem_of_getElem? (i := 4) rfl)) hK hP hD hS hA (by decide) (by decide) (Nat.le_of_ble_eq_true rfl) (Nat.le_of_ble_eq_true rfl) (Nat.le_of_ble_eq_true rfl) dX6_init_16 (fun q16 H hP hD hS => ?_)
  have hP : va_P D vwCl [(h0, .inr (4, [.null, .null, .null])), (q16, .inl (y 2, 25, .inl (gZ (fun _ => false))))] H := hP
  have hD : va_D A [(h0, .inr (4, [.null, .null, .null])), (q16, .inl (y 2, 25, .inl (gZ (fun _ => false))))] := hD
  refine va_putF (D := D) (ci := 4) (v := .ref q16) (ty := (.array .boolean)) (C := RX6) (T := TX6) (N := 3) hx hb hts in_X6_init_X6 tyX6 tyX6_ok nmX6 hown hK.1 hP hD hS 0 rfl rfl 0 (by decide) (hts (.fieldLink RX6 7 "Nestlimit$Row" "isThere" "[Z") (List.mem_of_getElem? (i := 5) rfl)) (fun _ h9 => h9) rfl hin rfl (by decide +kernel) (rfl) (rfl) (Nat.le_of_ble_eq_true rfl) dX6_init_18 (fun H locs hP hD hS => ?_)
  have hP : va_P D vwCl [(h0, .inr (4, [.ref q16, .null, .null])), (q16, .inl (y 2, 25, .inl (gZ (fun _ => false))))] H := hP
  have hD : va_D A [(h0, .inr (4, [.ref q16, .null, .null])), (q16, .inl (y 2, 25, .inl (gZ (fun _ => false))))] := hD
  refine lv_aload_n hx hb dX6_init_21 rfl (lv_at hl 1 rfl) ?_
  refine lv_iload_n hx hb dX6_init_22 rfl (lv_at hl 0 rfl) ?_
  refine g_newJ (N' := 25) hx hb (hts (.arrayClass .long) (List.mem_of_getElem? (i := 6) rfl)) hK hP hD hS hA (by decide) (by decide) (Nat.le_of_ble_eq_true rfl) (Nat.le_of_ble_eq_true rfl) (Nat.le_of_ble_eq_true rfl) dX6_init_23 (fun q23 H hP hD hS => ?_)
  have hP : va_P D vwCl [(h0, .inr (4, [.ref q16, .null, .null])), (q16, .inl (y 2, 25, .inl (gZ (fun _ => false)))), (q23, .inl (y 1, 25, .inr (.inl (fun _ => 0))))] H := hP
  have hD : va_D A [(h0, .inr (4, [.ref q16, .null, .null])), (q16, .inl (y 2, 25, .inl (gZ (fun _ => false)))), (q23, .inl (y 1, 25, .inr (.inl (fun _ => 0))))] := hD
  refine va_putF (D := D) (ci := 4) (v := .ref q23) (ty := (.array .long)) (C := RX6) (T := TX6) (N := 3) hx hb hts in_X6_init_X6 tyX6 tyX6_ok nmX6 hown hK.1 hP hD hS 0 rfl rfl 1 (by decide) (hts (.fieldLink RX6 13 "Nestlimit$Row" "low" "[J") (List.mem_of_getElem? (i := 7) rfl)) (fun _ h9 => h9) rfl hin rfl (by decide +kernel) (rfl) (rfl) (Nat.le_of_ble_eq_true rfl) dX6_init_25 (fun H locs hP hD hS => ?_)
  have hP : va_P D vwCl [(h0, .inr (4, [.ref q16, .ref q23, .null])), (q16, .inl (y 2, 25, .inl (gZ (fun _ => false)))), (q23, .inl (y 1, 25, .inr (.inl (fun _ => 0))))] H := hP
  have hD : va_D A [(h0, .inr (4, [.ref q16, .ref q23, .null])), (q16, .inl (y 2, 25, .inl (gZ (fun _ => false)))), (q23, .inl (y 1, 25, .inr (.inl (fun _ => 0))))] := hD
  refine lv_aload_n hx hb dX6_init_28 rfl (lv_at hl 1 rfl) ?_
  refine lv_iload_n hx hb dX6_init_29 rfl (lv_at hl 0 rfl) ?_
  refine g_newJ (N' := 25) hx hb (hts (.arrayClass .long) (List.mem_of_getElem? (i := 6) rfl)) hK hP hD hS hA (by decide) (by decide) (Nat.le_of_ble_eq_true rfl) (Nat.le_of_ble_eq_true rfl) (Nat.le_of_ble_eq_true rfl) dX6_init_30 (fun q30 H hP hD hS => ?_)
  have hP : va_P D vwCl [(h0, .inr (4, [.ref q16, .ref q23, .null])), (q16, .inl (y 2, 25, .inl (gZ (fun _ => false)))), (q23, .inl (y 1, 25, .inr (.inl (fun _ => 0)))), (q30, .inl (y 1, 25, .inr (.inl (fun _ => 0))))] H := hP
  have hD : va_D A [(h0, .inr (4, [.ref q16, .ref q23, .null])), (q16, .inl (y 2, 25, .inl (gZ (fun _ => false)))), (q23, .inl (y 1, 25, .inr (.inl (fun _ => 0)))), (q30, .inl (y 1, 25, .inr (.inl (fun _ => 0))))] := hD
  refine va_putF (D := D) (ci := 4) (v := .ref q30) (ty := (.array .long)) (C := RX6) (T := TX6) (N := 3) hx hb hts in_X6_init_X6 tyX6 tyX6_ok nmX6 hown hK.1 hP hD hS 0 rfl rfl 2 (by decide) (hts (.fieldLink RX6 17 "Nestlimit$Row" "high" "[J") (List.mem_of_getElem? (i := 8) rfl)) (fun _ h9 => h9) rfl hin rfl (by decide +kernel) (rfl) (rfl) (Nat.le_of_ble_eq_true rfl) dX6_init_32 (fun H locs hP hD hS => ?_)
  have hP : va_P D vwCl [(h0, .inr (4, [.ref q16, .ref q23, .ref q30])), (q16, .inl (y 2, 25, .inl (gZ (fun _ => false)))), (q23, .inl (y 1, 25, .inr (.inl (fun _ => 0)))), (q30, .inl (y 1, 25, .inr (.inl (fun _ => 0))))] H := hP
  have hD : va_D A [(h0, .inr (4, [.ref q16, .ref q23, .ref q30])), (q16, .inl (y 2, 25, .inl (gZ (fun _ => false)))), (q23, .inl (y 1, 25, .inr (.inl (fun _ => 0)))), (q30, .inl (y 1, 25, .inr (.inl (fun _ => 0))))] := hD
  exact W.vret hx hb hr (fun t ht hW => ⟨⟨none, [(h0, .inr (4, [.ref q16, .ref q23, .ref q30])), (q16, .inl (y 2, 25, .inl (gZ (fun _ => false)))), (q23, .inl (y 1, 25, .inr (.inl (fun _ => 0)))), (q30, .inl (y 1, 25, .inr (.inl (fun _ => 0))))], rfl, ⟨q16, q23, q30, rfl, rfl⟩, by rw [← hAe]; exact hD, by rw [ht]; exact hP⟩, by rw [← hAe]; exact hS.F ht⟩) (by rw [← hAe]; exact hS.2.2) dX6_init_35
set_option maxHeartbeats 4000000 in
set_option maxRecDepth 100000 in
theorem c_X6_init_40 (l : Launch) (D : va_G) (y : Nat → ClassId) (sz : Nat) (h0 : Nat) : Met l yX6_init wsX6_init ({ frames := 1, cells := 3, slots := 120, locals := 24 } : Room) (gP D y [.ref h0, .int 40] [(h0, .inr (4, [.null, .null, .null]))] sz) (gQn D [(h0, .inr (4, [.null, .null, .null]))] (fun v w => ∃ (u1 : Nat) (u2 : Nat) (u3 : Nat), v = none ∧ w = [(h0, .inr (4, [.ref u1, .ref u2, .ref u3])), (u1, .inl (y 2, 40, .inl (gZ (fun _ => false)))), (u2, .inl (y 1, 40, .inr (.inl (fun _ => 0)))), (u3, .inl (y 1, 40, .inr (.inl (fun _ => 0))))])) 3 120 (va_A [(h0, .inr (4, [.null, .null, .null]))] sz) := by
  refine Met.ofW (cc := cX6_init) (maxL := 3) (ret := none) (by decide) rfl ?_
  intro pg e s m args below meth c s₁ B hml hv
  obtain ⟨rfl, hsz, hP, hK, hD0⟩ := hv
  have hx := B.exec
  have hb := B.bytes
  have hr := B.returns
  have hts := atoms_spec (ws := wsX6_init) B.pre
  have hown : s.vm.findClass RX6 = some m.cls := findClass_of_methodNamed B.named
  have hin : meth.name = "<init>" := (name_of_methodNamed B.named B.method).1
  have hlocks := B.notSynchronized
  subst hsz
  obtain ⟨A, hAe⟩ : ∃ A : Nat → Prop, A = va_A [(h0, .inr (4, [.null, .null, .null]))] s.heap.size := ⟨_, rfl⟩
  have hD : va_D A [(h0, .inr (4, [.null, .null, .null]))] := by rw [hAe]; exact hD0.self (sz := s.heap.size)
  have hA : ∀ q : Nat, s.heap.size ≤ q → A q := fun q h => by rw [hAe]; exact Or.inr h
  have hS : va_S A s.heap s.heap [] := va_S.rf
  have hl := lv_entry ([.ref h0, .int 40]) (n := 3) (Nat.le_of_ble_eq_true rfl)
  rw [lg_entry_eq]
  generalize (lg_sl ([.ref h0, .int 40]) ++ List.replicate (3 - (lg_sl ([.ref h0, .int 40])).length) Slot.unset).toArray = ls at hl ⊢
  have hl : lv_has ls 3 [(0, .ref h0), (1, .int 40)] := hl
  refine lv_aload_n hx hb dX6_init_0 rfl (lv_at hl 0 rfl) ?_
  refine g_objInit hx hb hown (hts (.methodLink RX6 1 objectInit) (List.mem_of_getElem? (i := 1) rfl)) (hts (.instanceMethod objectInit) (List.mem_of_getElem? (i := 2) rfl)) (hts (.code objectInit ⟨#[0xb1]⟩ 1 none) (List.mem_of_getElem? (i := 3) rfl)) (by rw [hml]; exact hl.1) dX6_init_1 (Nat.le_of_ble_eq_true rfl) (Nat.le_of_ble_eq_true rfl) ?_
  refine lv_iload_n hx hb dX6_init_4 rfl (lv_at hl 1 rfl) ?_
  refine lv_if_ge (tgt := 12) hx hb dX6_init_5 (by decide) (fun c_5 => ?_) (fun c_5 => absurd c_5 (by decide))
  refine lv_iload_n hx hb dX6_init_12 rfl (lv_at hl 1 rfl) ?_
  refine lv_istore_n (lv' := [(2, .int 40), (0, .ref h0), (1, .int 40)]) hx hb dX6_init_13 rfl hl (by decide) rfl (fun ls hl => ?_)
  refine lv_aload_n hx hb dX6_init_14 rfl (lv_at hl 1 rfl) ?_
  refine lv_iload_n hx hb dX6_init_15 rfl (lv_at hl 0 rfl) ?_
  refine g_newZ (N' := 40) hx hb (hts (.arrayClass .boolean) (List.mem_of_getElem? (i := 4) rfl)) hK hP hD hS hA (by decide) (by decide) (Nat.le_of_ble_eq_true rfl) (Nat.le_of_ble_eq_true rfl) (Nat.le_of_ble_eq_true rfl) dX6_init_16 (fun q16 H hP hD hS => ?_)
  have hP : va_P D vwCl [(h0, .inr (4, [.null, .null, .null])), (q16, .inl (y 2, 40, .inl (gZ (fun _ => false))))] H := hP
  have hD : va_D A [(h0, .inr (4, [.null, .null, .null])), (q16, .inl (y 2, 40, .inl (gZ (fun _ => false))))] := hD
  refine va_putF (D := D) (ci := 4) (v := .ref q16) (ty := (.array .boolean)) (C := RX6) (T := TX6) (N := 3) hx hb hts in_X6_init_X6 tyX6 tyX6_ok nmX6 hown hK.1 hP hD hS 0 rfl rfl 0 (by decide) (hts (.fieldLink RX6 7 "Nestlimit$Row" "isThere" "[Z") (List.mem_of_getElem? (i := 5) rfl)) (fun _ h9 => h9) rfl hin rfl (by decide +kernel) (rfl) (rfl) (Nat.le_of_ble_eq_true rfl) dX6_init_18 (fun H locs hP hD hS => ?_)
  have hP : va_P D vwCl [(h0, .inr (4, [.ref q16, .null, .null])), (q16, .inl (y 2, 40, .inl (gZ (fun _ => false))))] H := hP
  have hD : va_D A [(h0, .inr (4, [.ref q16, .null, .null])), (q16, .inl (y 2, 40, .inl (gZ (fun _ => false))))] := hD
  refine lv_aload_n hx hb dX6_init_21 rfl (lv_at hl 1 rfl) ?_
  refine lv_iload_n hx hb dX6_init_22 rfl (lv_at hl 0 rfl) ?_
  refine g_newJ (N' := 40) hx hb (hts (.arrayClass .long) (List.mem_of_getElem? (i := 6) rfl)) hK hP hD hS hA (by decide) (by decide) (Nat.le_of_ble_eq_true rfl) (Nat.le_of_ble_eq_true rfl) (Nat.le_of_ble_eq_true rfl) dX6_init_23 (fun q23 H hP hD hS => ?_)
  have hP : va_P D vwCl [(h0, .inr (4, [.ref q16, .null, .null])), (q16, .inl (y 2, 40, .inl (gZ (fun _ => false)))), (q23, .inl (y 1, 40, .inr (.inl (fun _ => 0))))] H := hP
  have hD : va_D A [(h0, .inr (4, [.ref q16, .null, .null])), (q16, .inl (y 2, 40, .inl (gZ (fun _ => false)))), (q23, .inl (y 1, 40, .inr (.inl (fun _ => 0))))] := hD
  refine va_putF (D := D) (ci := 4) (v := .ref q23) (ty := (.array .long)) (C := RX6) (T := TX6) (N := 3) hx hb hts in_X6_init_X6 tyX6 tyX6_ok nmX6 hown hK.1 hP hD hS 0 rfl rfl 1 (by decide) (hts (.fieldLink RX6 13 "Nestlimit$Row" "low" "[J") (List.mem_of_getElem? (i := 7) rfl)) (fun _ h9 => h9) rfl hin rfl (by decide +kernel) (rfl) (rfl) (Nat.le_of_ble_eq_true rfl) dX6_init_25 (fun H locs hP hD hS => ?_)
  have hP : va_P D vwCl [(h0, .inr (4, [.ref q16, .ref q23, .null])), (q16, .inl (y 2, 40, .inl (gZ (fun _ => false)))), (q23, .inl (y 1, 40, .inr (.inl (fun _ => 0))))] H := hP
  have hD : va_D A [(h0, .inr (4, [.ref q16, .ref q23, .null])), (q16, .inl (y 2, 40, .inl (gZ (fun _ => false)))), (q23, .inl (y 1, 40, .inr (.inl (fun _ => 0))))] := hD
  refine lv_aload_n hx hb dX6_init_28 rfl (lv_at hl 1 rfl) ?_
  refine lv_iload_n hx hb dX6_init_29 rfl (lv_at hl 0 rfl) ?_
  refine g_newJ (N' := 40) hx hb (hts (.arrayClass .long) (List.mem_of_getElem? (i := 6) rfl)) hK hP hD hS hA (by decide) (by decide) (Nat.le_of_ble_eq_true rfl) (Nat.le_of_ble_eq_true rfl) (Nat.le_of_ble_eq_true rfl) dX6_init_30 (fun q30 H hP hD hS => ?_)
  have hP : va_P D vwCl [(h0, .inr (4, [.ref q16, .ref q23, .null])), (q16, .inl (y 2, 40, .inl (gZ (fun _ => false)))), (q23, .inl (y 1, 40, .inr (.inl (fun _ => 0)))), (q30, .inl (y 1, 40, .inr (.inl (fun _ => 0))))] H := hP
  have hD : va_D A [(h0, .inr (4, [.ref q16, .ref q23, .null])), (q16, .inl (y 2, 40, .inl (gZ (fun _ => false)))), (q23, .inl (y 1, 40, .inr (.inl (fun _ => 0)))), (q30, .inl (y 1, 40, .inr (.inl (fun _ => 0))))] := hD
  refine va_putF (D := D) (ci := 4) (v := .ref q30) (ty := (.array .long)) (C := RX6) (T := TX6) (N := 3) hx hb hts in_X6_init_X6 tyX6 tyX6_ok nmX6 hown hK.1 hP hD hS 0 rfl rfl 2 (by decide) (hts (.fieldLink RX6 17 "Nestlimit$Row" "high" "[J") (List.mem_of_getElem? (i := 8) rfl)) (fun _ h9 => h9) rfl hin rfl (by decide +kernel) (rfl) (rfl) (Nat.le_of_ble_eq_true rfl) dX6_init_32 (fun H locs hP hD hS => ?_)
  have hP : va_P D vwCl [(h0, .inr (4, [.ref q16, .ref q23, .ref q30])), (q16, .inl (y 2, 40, .inl (gZ (fun _ => false)))), (q23, .inl (y 1, 40, .inr (.inl (fun _ => 0)))), (q30, .inl (y 1, 40, .inr (.inl (fun _ => 0))))] H := hP
  have hD : va_D A [(h0, .inr (4, [.ref q16, .ref q23, .ref q30])), (q16, .inl (y 2, 40, .inl (gZ (fun _ => false)))), (q23, .inl (y 1, 40, .inr (.inl (fun _ => 0)))), (q30, .inl (y 1, 40, .inr (.inl (fun _ => 0))))] := hD
  exact W.vret hx hb hr (fun t ht hW => ⟨⟨none, [(h0, .inr (4, [.ref q16, .ref q23, .ref q30])), (q16, .inl (y 2, 40, .inl (gZ (fun _ => false)))), (q23, .inl (y 1, 40, .inr (.inl (fun _ => 0)))), (q30, .inl (y 1, 40, .inr (.inl (fun _ => 0))))], rfl, ⟨q16, q23, q30, rfl, rfl⟩, by rw [← hAe]; exact hD, by rw [ht]; exact hP⟩, by rw [← hAe]; exact hS.F ht⟩) (by rw [← hAe]; exact hS.2.2) dX6_init_35
theorem in_X5_init_X5 : ∀ w ∈ wsX50, w ∈ wsX5_init := fun _ h => List.mem_cons_of_mem _ (List.mem_append_left _ (List.mem_append_right _ h))
theorem in_X5_init_X6 : ∀ w ∈ wsX60, w ∈ wsX5_init := fun _ h => List.mem_cons_of_mem _ (List.mem_append_right _ h)
set_option maxHeartbeats 4000000 in
set_option maxRecDepth 100000 in
theorem c_X5_init (l : Launch) (D : va_G) (y : Nat → ClassId) (sz : Nat) (h0 kk : Nat) (a b : Int32) (z : Int64) : Met l yX5_init wsX5_init ({ frames := 2, cells := 8, slots := 156, locals := 46 } : Room) (gP D y [.ref h0, .ref kk, .int a, .int b, .long z] [(h0, .inr (3, [.null, .int 0, .int 0, .long 0, .null, .null, .int 0, .long 0]))] sz) (gQn D [(h0, .inr (3, [.null, .int 0, .int 0, .long 0, .null, .null, .int 0, .long 0]))] (fun v w => ∃ (u1 : Nat) (u2 : Nat) (u3 : Nat) (u4 : Nat) (u5 : Nat) (u6 : Nat) (u7 : Nat) (u8 : Nat), v = none ∧ w = [(h0, .inr (3, [.ref kk, .int a, .int b, .long z, .ref u1, .ref u5, .int 0, .long 0])), (u1, .inr (4, [.ref u2, .ref u3, .ref u4])), (u2, .inl (y 2, 25, .inl (gZ (fun _ => false)))), (u3, .inl (y 1, 25, .inr (.inl (fun _ => 0)))), (u4, .inl (y 1, 25, .inr (.inl (fun _ => 0)))), (u5, .inr (4, [.ref u6, .ref u7, .ref u8])), (u6, .inl (y 2, 25, .inl (gZ (fun _ => false)))), (u7, .inl (y 1, 25, .inr (.inl (fun _ => 0)))), (u8, .inl (y 1, 25, .inr (.inl (fun _ => 0))))])) 8 156 (va_A [(h0, .inr (3, [.null, .int 0, .int 0, .long 0, .null, .null, .int 0, .long 0]))] sz) := by
  refine Met.ofW (cc := cX5_init) (maxL := 6) (ret := none) (by decide) rfl ?_
  intro pg e s m args below meth c s₁ B hml hv
  obtain ⟨rfl, hsz, hP, hK, hD0⟩ := hv
  have hx := B.exec
  have hb := B.bytes
  have hr := B.returns
  have hts := atoms_spec (ws := wsX5_init) B.pre
  have hown : s.vm.findClass RX5 = some m.cls := findClass_of_methodNamed B.named
  have hin : meth.name = "<init>" := (name_of_methodNamed B.named B.method).1
  have hlocks := B.notSynchronized
  subst hsz
  obtain ⟨A, hAe⟩ : ∃ A : Nat → Prop, A = va_A [(h0, .inr (3, [.null, .int 0, .int 0, .long 0, .null, .null, .int 0, .long 0]))] s.heap.size := ⟨_, rfl⟩
  have hD : va_D A [(h0, .inr (3, [.null, .int 0, .int 0, .long 0, .null, .null, .int 0, .long 0]))] := by rw [hAe]; exact hD0.self (sz := s.heap.size)
  have hA : ∀ q : Nat, s.heap.size ≤ q → A q := fun q h => by rw [hAe]; exact Or.inr h
  have hS : va_S A s.heap s.heap [] := va_S.rf
  have hl := lv_entry ([.ref h0, .ref kk, .int a, .int b, .long z]) (n := 6) (Nat.le_of_ble_eq_true rfl)
  rw [lg_entry_eq]
  generalize (lg_sl ([.ref h0, .ref kk, .int a, .int b, .long z]) ++ List.replicate (6 - (lg_sl ([.ref h0, .ref kk, .int a, .int b, .long z])).length) Slot.unset).toArray = ls at hl ⊢
  have hl : lv_has ls 6 [(0, .ref h0), (1, .ref kk), (2, .int a), (3, .int b), (4, .long z)] := hl
  refine lv_aload_n hx hb dX5_init_0 rfl (lv_at hl 0 rfl) ?_
  refine g_objInit hx hb hown (hts (.methodLink RX5 3 objectInit) (List.mem_of_getElem? (i := 1) rfl)) (hts (.instanceMethod objectInit) (List.mem_of_getElem? (i := 2) rfl)) (hts (.code objectInit ⟨#[0xb1]⟩ 1 none) (List.mem_of_getElem? (i := 3) rfl)) (by rw [hml]; exact hl.1) dX5_init_1 (Nat.le_of_ble_eq_true rfl) (Nat.le_of_ble_eq_true rfl) ?_
  refine lv_aload_n hx hb dX5_init_4 rfl (lv_at hl 0 rfl) ?_
  refine lv_aload_n hx hb dX5_init_5 rfl (lv_at hl 1 rfl) ?_
  refine va_putF (D := D) (ci := 3) (v := .ref kk) (ty := (.object "Nestlimit$Kind")) (C := RX5) (T := TX5) (N := 8) hx hb hts in_X5_init_X5 tyX5 tyX5_ok nmX5 hown hK.1 hP hD hS 0 rfl rfl 0 (by decide) (hts (.fieldLink RX5 9 "Nestlimit$Program" "kind" "LNestlimit$Kind;") (List.mem_of_getElem? (i := 4) rfl)) (fun _ h9 => h9) rfl hin rfl (by decide +kernel) (rfl) (rfl) (Nat.le_of_ble_eq_true rfl) dX5_init_6 (fun H locs hP hD hS => ?_)
  have hP : va_P D vwCl [(h0, .inr (3, [.ref kk, .int 0, .int 0, .long 0, .null, .null, .int 0, .long 0]))] H := hP
  have hD : va_D A [(h0, .inr (3, [.ref kk, .int 0, .int 0, .long 0, .null, .null, .int 0, .long 0]))] := hD
  refine lv_aload_n hx hb dX5_init_9 rfl (lv_at hl 0 rfl) ?_
  refine lv_iload_n hx hb dX5_init_10 rfl (lv_at hl 2 rfl) ?_
  refine va_putF (D := D) (ci := 3) (v := .int a) (ty := .int) (C := RX5) (T := TX5) (N := 8) hx hb hts in_X5_init_X5 tyX5 tyX5_ok nmX5 hown hK.1 hP hD hS 0 rfl rfl 1 (by decide) (hts (.fieldLink RX5 15 "Nestlimit$Program" "one" "I") (List.mem_of_getElem? (i := 5) rfl)) (fun _ h9 => h9) rfl hin rfl (by decide +kernel) (rfl) (rfl) (Nat.le_of_ble_eq_true rfl) dX5_init_11 (fun H locs hP hD hS => ?_)
  have hP : va_P D vwCl [(h0, .inr (3, [.ref kk, .int a, .int 0, .long 0, .null, .null, .int 0, .long 0]))] H := hP
  have hD : va_D A [(h0, .inr (3, [.ref kk, .int a, .int 0, .long 0, .null, .null, .int 0, .long 0]))] := hD
  refine lv_aload_n hx hb dX5_init_14 rfl (lv_at hl 0 rfl) ?_
  refine lv_iload_n hx hb dX5_init_15 rfl (lv_at hl 3 rfl) ?_
  refine va_putF (D := D) (ci := 3) (v := .int b) (ty := .int) (C := RX5) (T := TX5) (N := 8) hx hb hts in_X5_init_X5 tyX5 tyX5_ok nmX5 hown hK.1 hP hD hS 0 rfl rfl 2 (by decide) (hts (.fieldLink RX5 19 "Nestlimit$Program" "other" "I") (List.mem_of_getElem? (i := 6) rfl)) (fun _ h9 => h9) rfl hin rfl (by decide +kernel) (rfl) (rfl) (Nat.le_of_ble_eq_true rfl) dX5_init_16 (fun H locs hP hD hS => ?_)
  have hP : va_P D vwCl [(h0, .inr (3, [.ref kk, .int a, .int b, .long 0, .null, .null, .int 0, .long 0]))] H := hP
  have hD : va_D A [(h0, .inr (3, [.ref kk, .int a, .int b, .long 0, .null, .null, .int 0, .long 0]))] := hD
  refine lv_aload_n hx hb dX5_init_19 rfl (lv_at hl 0 rfl) ?_
  refine lv_lload hx hb dX5_init_20 (lv_at hl 4 rfl) ?_
  refine va_putF (D := D) (ci := 3) (v := .long z) (ty := .long) (C := RX5) (T := TX5) (N := 8) hx hb hts in_X5_init_X5 tyX5 tyX5_ok nmX5 hown hK.1 hP hD hS 0 rfl rfl 3 (by decide) (hts (.fieldLink RX5 22 "Nestlimit$Program" "parts" "J") (List.mem_of_getElem? (i := 7) rfl)) (fun _ h9 => h9) rfl hin rfl (by decide +kernel) (rfl) (rfl) (Nat.le_of_ble_eq_true rfl) dX5_init_22 (fun H locs hP hD hS => ?_)
  have hP : va_P D vwCl [(h0, .inr (3, [.ref kk, .int a, .int b, .long z, .null, .null, .int 0, .long 0]))] H := hP
  have hD : va_D A [(h0, .inr (3, [.ref kk, .int a, .int b, .long z, .null, .null, .int 0, .long 0]))] := hD
  refine lv_aload_n hx hb dX5_init_25 rfl (lv_at hl 0 rfl) ?_
  refine va_new (ci := 4) (fs := [.null, .null, .null]) (C := RX6) (T := TX6) (N := 3) hx hb hts in_X5_init_X6 tyX6 tyX6_ok hown (hts (.classLink RX5 26 RX6) (List.mem_of_getElem? (i := 8) rfl)) (hts (.instantiable RX6 3) (List.mem_of_getElem? (i := 9) rfl)) (hts (.initialized RX6) (List.mem_of_getElem? (i := 10) rfl)) hK.1 hP hD hS hA rfl (fun j hj => by have h8 : ∀ j : Fin 3, defaultValue (tyX6 j.val) = vp_V [.null, .null, .null] j.val := (by decide); exact h8 ⟨j, hj⟩) (Nat.le_of_ble_eq_true rfl) (Nat.le_of_ble_eq_true rfl) dX5_init_26 (fun q26 H hP hD hS => ?_)
  have hP : va_P D vwCl [(h0, .inr (3, [.ref kk, .int a, .int b, .long z, .null, .null, .int 0, .long 0])), (q26, .inr (4, [.null, .null, .null]))] H := hP
  have hD : va_D A [(h0, .inr (3, [.ref kk, .int a, .int b, .long z, .null, .null, .int 0, .long 0])), (q26, .inr (4, [.null, .null, .null]))] := hD
  refine lv_dup hx hb dX5_init_29 rfl ?_
  refine lv_bipush (v := 25) hx hb dX5_init_30 (by decide) ?_
  refine g_callN (ws := [(h0, .inr (3, [.ref kk, .int a, .int b, .long z, .null, .null, .int 0, .long 0]))]) (wc := [(q26, .inr (4, [.null, .null, .null]))]) (va_runI (As := [.int 25]) (rest := [.ref q26, .ref h0]) ⟨hx, hb, hml, hown, hts⟩ (c_X6_init_25 l D y H.size q26) (cwI 1 hts gX5_init_X6_init rfl rfl rfl (hts (.initialized RX6) (List.mem_of_getElem? (i := 10) rfl)) (hts (.methodLink RX5 28 yX6_init) (List.mem_of_getElem? (i := 15) rfl)) (hts (.instanceMethod yX6_init) (List.mem_of_getElem? (i := 16) rfl)) rfl (by decide +kernel) ⟨Nat.le_of_ble_eq_true rfl, Nat.le_of_ble_eq_true rfl⟩) (gP_S hP hD hK [1] (by decide) rfl) rfl rfl hl.1 rfl (lv_room (Nat.le_of_ble_eq_true rfl)) dX5_init_32 ⟨Nat.le_of_ble_eq_true rfl, Nat.le_of_ble_eq_true rfl⟩) hP hD hS hA (fun v w1 H locs hf hP hD hS => ?_)
  obtain ⟨u1_32, u2_32, u3_32, rfl, rfl⟩ := hf
  have hP : va_P D vwCl [(h0, .inr (3, [.ref kk, .int a, .int b, .long z, .null, .null, .int 0, .long 0])), (q26, .inr (4, [.ref u1_32, .ref u2_32, .ref u3_32])), (u1_32, .inl (y 2, 25, .inl (gZ (fun _ => false)))), (u2_32, .inl (y 1, 25, .inr (.inl (fun _ => 0)))), (u3_32, .inl (y 1, 25, .inr (.inl (fun _ => 0))))] H := hP
  have hD : va_D A [(h0, .inr (3, [.ref kk, .int a, .int b, .long z, .null, .null, .int 0, .long 0])), (q26, .inr (4, [.ref u1_32, .ref u2_32, .ref u3_32])), (u1_32, .inl (y 2, 25, .inl (gZ (fun _ => false)))), (u2_32, .inl (y 1, 25, .inr (.inl (fun _ => 0)))), (u3_32, .inl (y 1, 25, .inr (.inl (fun _ => 0))))] := hD
  refine va_putF (D := D) (ci := 3) (v := .ref q26) (ty := (.object "Nestlimit$Row")) (C := RX5) (T := TX5) (N := 8) hx hb hts in_X5_init_X5 tyX5 tyX5_ok nmX5 hown hK.1 hP hD hS 0 rfl rfl 4 (by decide) (hts (.fieldLink RX5 31 "Nestlimit$Program" "found" "LNestlimit$Row;") (List.mem_of_getElem? (i := 11) rfl)) (fun _ h9 => h9) rfl hin rfl (by decide +kernel) (rfl) (rfl) (Nat.le_of_ble_eq_true rfl) dX5_init_35 (fun H locs hP hD hS => ?_)
  have hP : va_P D vwCl [(h0, .inr (3, [.ref kk, .int a, .int b, .long z, .ref q26, .null, .int 0, .long 0])), (q26, .inr (4, [.ref u1_32, .ref u2_32, .ref u3_32])), (u1_32, .inl (y 2, 25, .inl (gZ (fun _ => false)))), (u2_32, .inl (y 1, 25, .inr (.inl (fun _ => 0)))), (u3_32, .inl (y 1, 25, .inr (.inl (fun _ => 0))))] H := hP
  have hD : va_D A [(h0, .inr (3, [.ref kk, .int a, .int b, .long z, .ref q26, .null, .int 0, .long 0])), (q26, .inr (4, [.ref u1_32, .ref u2_32, .ref u3_32])), (u1_32, .inl (y 2, 25, .inl (gZ (fun _ => false)))), (u2_32, .inl (y 1, 25, .inr (.inl (fun _ => 0)))), (u3_32, .inl (y 1, 25, .inr (.inl (fun _ => 0))))] := hD
  refine lv_aload_n hx hb dX5_init_38 rfl (lv_at hl 0 rfl) ?_
  refine va_new (ci := 4) (fs := [.null, .null, .null]) (C := RX6) (T := TX6) (N := 3) hx hb hts in_X5_init_X6 tyX6 tyX6_ok hown (hts (.classLink RX5 26 RX6) (List.mem_of_getElem? (i := 8) rfl)) (hts (.instantiable RX6 3) (List.mem_of_getElem? (i := 9) rfl)) (hts (.initialized RX6) (List.mem_of_getElem? (i := 10) rfl)) hK.1 hP hD hS hA rfl (fun j hj => by have h8 : ∀ j : Fin 3, defaultValue (tyX6 j.val) = vp_V [.null, .null, .null] j.val := (by decide); exact h8 ⟨j, hj⟩) (Nat.le_of_ble_eq_true rfl) (Nat.le_of_ble_eq_true rfl) dX5_init_39 (fun q39 H hP hD hS => ?_)
  have hP : va_P D vwCl [(h0, .inr (3, [.ref kk, .int a, .int b, .long z, .ref q26, .null, .int 0, .long 0])), (q26, .inr (4, [.ref u1_32, .ref u2_32, .ref u3_32])), (u1_32, .inl (y 2, 25, .inl (gZ (fun _ => false)))), (u2_32, .inl (y 1, 25, .inr (.inl (fun _ => 0)))), (u3_32, .inl (y 1, 25, .inr (.inl (fun _ => 0)))), (q39, .inr (4, [.null, .null, .null]))] H := hP
  have hD : va_D A [(h0, .inr (3, [.ref kk, .int a, .int b, .long z, .ref q26, .null, .int 0, .long 0])), (q26, .inr (4, [.ref u1_32, .ref u2_32, .ref u3_32])), (u1_32, .inl (y 2, 25, .inl (gZ (fun _ => false)))), (u2_32, .inl (y 1, 25, .inr (.inl (fun _ => 0)))), (u3_32, .inl (y 1, 25, .inr (.inl (fun _ => 0)))), (q39, .inr (4, [.null, .null, .null]))] := hD
  refine lv_dup hx hb dX5_init_42 rfl ?_
  refine lv_bipush (v := 25) hx hb dX5_init_43 (by decide) ?_
  refine g_callN (ws := [(h0, .inr (3, [.ref kk, .int a, .int b, .long z, .ref q26, .null, .int 0, .long 0])), (q26, .inr (4, [.ref u1_32, .ref u2_32, .ref u3_32])), (u1_32, .inl (y 2, 25, .inl (gZ (fun _ => false)))), (u2_32, .inl (y 1, 25, .inr (.inl (fun _ => 0)))), (u3_32, .inl (y 1, 25, .inr (.inl (fun _ => 0))))]) (wc := [(q39, .inr (4, [.null, .null, .null]))]) (va_runI (As := [.int 25]) (rest := [.ref q39, .ref h0]) ⟨hx, hb, hml, hown, hts⟩ (c_X6_init_25 l D y H.size q39) (cwI 1 hts gX5_init_X6_init rfl rfl rfl (hts (.initialized RX6) (List.mem_of_getElem? (i := 10) rfl)) (hts (.methodLink RX5 28 yX6_init) (List.mem_of_getElem? (i := 15) rfl)) (hts (.instanceMethod yX6_init) (List.mem_of_getElem? (i := 16) rfl)) rfl (by decide +kernel) ⟨Nat.le_of_ble_eq_true rfl, Nat.le_of_ble_eq_true rfl⟩) (gP_S hP hD hK [5] (by decide) rfl) rfl rfl hl.1 rfl (lv_room (Nat.le_of_ble_eq_true rfl)) dX5_init_45 ⟨Nat.le_of_ble_eq_true rfl, Nat.le_of_ble_eq_true rfl⟩) hP hD hS hA (fun v w1 H locs hf hP hD hS => ?_)
  obtain ⟨u1_45, u2_45, u3_45, rfl, rfl⟩ := hf
  have hP : va_P D vwCl [(h0, .inr (3, [.ref kk, .int a, .int b, .long z, .ref q26, .null, .int 0, .long 0])), (q26, .inr (4, [.ref u1_32, .ref u2_32, .ref u3_32])), (u1_32, .inl (y 2, 25, .inl (gZ (fun _ => false)))), (u2_32, .inl (y 1, 25, .inr (.inl (fun _ => 0)))), (u3_32, .inl (y 1, 25, .inr (.inl (fun _ => 0)))), (q39, .inr (4, [.ref u1_45, .ref u2_45, .ref u3_45])), (u1_45, .inl (y 2, 25, .inl (gZ (fun _ => false)))), (u2_45, .inl (y 1, 25, .inr (.inl (fun _ => 0)))), (u3_45, .inl (y 1, 25, .inr (.inl (fun _ => 0))))] H := hP
  have hD : va_D A [(h0, .inr (3, [.ref kk, .int a, .int b, .long z, .ref q26, .null, .int 0, .long 0])), (q26, .inr (4, [.ref u1_32, .ref u2_32, .ref u3_32])), (u1_32, .inl (y 2, 25, .inl (gZ (fun _ => false)))), (u2_32, .inl (y 1, 25, .inr (.inl (fun _ => 0)))), (u3_32, .inl (y 1, 25, .inr (.inl (fun _ => 0)))), (q39, .inr (4, [.ref u1_45, .ref u2_45, .ref u3_45])), (u1_45, .inl (y 2, 25, .inl (gZ (fun _ => false)))), (u2_45, .inl (y 1, 25, .inr (.inl (fun _ => 0)))), (u3_45, .inl (y 1, 25, .inr (.inl (fun _ => 0))))] := hD
  refine va_putF (D := D) (ci := 3) (v := .ref q39) (ty := (.object "Nestlimit$Row")) (C := RX5) (T := TX5) (N := 8) hx hb hts in_X5_init_X5 tyX5 tyX5_ok nmX5 hown hK.1 hP hD hS 0 rfl rfl 5 (by decide) (hts (.fieldLink RX5 35 "Nestlimit$Program" "told" "LNestlimit$Row;") (List.mem_of_getElem? (i := 12) rfl)) (fun _ h9 => h9) rfl hin rfl (by decide +kernel) (rfl) (rfl) (Nat.le_of_ble_eq_true rfl) dX5_init_48 (fun H locs hP hD hS => ?_)
  have hP : va_P D vwCl [(h0, .inr (3, [.ref kk, .int a, .int b, .long z, .ref q26, .ref q39, .int 0, .long 0])), (q26, .inr (4, [.ref u1_32, .ref u2_32, .ref u3_32])), (u1_32, .inl (y 2, 25, .inl (gZ (fun _ => false)))), (u2_32, .inl (y 1, 25, .inr (.inl (fun _ => 0)))), (u3_32, .inl (y 1, 25, .inr (.inl (fun _ => 0)))), (q39, .inr (4, [.ref u1_45, .ref u2_45, .ref u3_45])), (u1_45, .inl (y 2, 25, .inl (gZ (fun _ => false)))), (u2_45, .inl (y 1, 25, .inr (.inl (fun _ => 0)))), (u3_45, .inl (y 1, 25, .inr (.inl (fun _ => 0))))] H := hP
  have hD : va_D A [(h0, .inr (3, [.ref kk, .int a, .int b, .long z, .ref q26, .ref q39, .int 0, .long 0])), (q26, .inr (4, [.ref u1_32, .ref u2_32, .ref u3_32])), (u1_32, .inl (y 2, 25, .inl (gZ (fun _ => false)))), (u2_32, .inl (y 1, 25, .inr (.inl (fun _ => 0)))), (u3_32, .inl (y 1, 25, .inr (.inl (fun _ => 0)))), (q39, .inr (4, [.ref u1_45, .ref u2_45, .ref u3_45])), (u1_45, .inl (y 2, 25, .inl (gZ (fun _ => false)))), (u2_45, .inl (y 1, 25, .inr (.inl (fun _ => 0)))), (u3_45, .inl (y 1, 25, .inr (.inl (fun _ => 0))))] := hD
  refine lv_aload_n hx hb dX5_init_51 rfl (lv_at hl 0 rfl) ?_
  refine lv_iconst (v := 0) hx hb dX5_init_52 (by decide) ?_
  refine va_put (D := D) (ci := 3) (v := .int 0) (ty := .int) (C := RX5) (T := TX5) (N := 8) hx hb hts in_X5_init_X5 tyX5 tyX5_ok nmX5 hown hK.1 hP hD hS 0 rfl rfl 6 (by decide) (hts (.fieldLink RX5 38 "Nestlimit$Program" "digits" "I") (List.mem_of_getElem? (i := 13) rfl)) (fun _ h9 => h9) rfl (by decide +kernel) (rfl) (rfl) (Nat.le_of_ble_eq_true rfl) dX5_init_53 (fun H locs hP hD hS => ?_)
  have hP : va_P D vwCl [(h0, .inr (3, [.ref kk, .int a, .int b, .long z, .ref q26, .ref q39, .int 0, .long 0])), (q26, .inr (4, [.ref u1_32, .ref u2_32, .ref u3_32])), (u1_32, .inl (y 2, 25, .inl (gZ (fun _ => false)))), (u2_32, .inl (y 1, 25, .inr (.inl (fun _ => 0)))), (u3_32, .inl (y 1, 25, .inr (.inl (fun _ => 0)))), (q39, .inr (4, [.ref u1_45, .ref u2_45, .ref u3_45])), (u1_45, .inl (y 2, 25, .inl (gZ (fun _ => false)))), (u2_45, .inl (y 1, 25, .inr (.inl (fun _ => 0)))), (u3_45, .inl (y 1, 25, .inr (.inl (fun _ => 0))))] H := hP
  have hD : va_D A [(h0, .inr (3, [.ref kk, .int a, .int b, .long z, .ref q26, .ref q39, .int 0, .long 0])), (q26, .inr (4, [.ref u1_32, .ref u2_32, .ref u3_32])), (u1_32, .inl (y 2, 25, .inl (gZ (fun _ => false)))), (u2_32, .inl (y 1, 25, .inr (.inl (fun _ => 0)))), (u3_32, .inl (y 1, 25, .inr (.inl (fun _ => 0)))), (q39, .inr (4, [.ref u1_45, .ref u2_45, .ref u3_45])), (u1_45, .inl (y 2, 25, .inl (gZ (fun _ => false)))), (u2_45, .inl (y 1, 25, .inr (.inl (fun _ => 0)))), (u3_45, .inl (y 1, 25, .inr (.inl (fun _ => 0))))] := hD
  refine lv_aload_n hx hb dX5_init_56 rfl (lv_at hl 0 rfl) ?_
  refine lv_lconst (v := 0) hx hb dX5_init_57 (by decide) ?_
  refine va_put (D := D) (ci := 3) (v := .long 0) (ty := .long) (C := RX5) (T := TX5) (N := 8) hx hb hts in_X5_init_X5 tyX5 tyX5_ok nmX5 hown hK.1 hP hD hS 0 rfl rfl 7 (by decide) (hts (.fieldLink RX5 41 "Nestlimit$Program" "digitSum" "J") (List.mem_of_getElem? (i := 14) rfl)) (fun _ h9 => h9) rfl (by decide +kernel) (rfl) (rfl) (Nat.le_of_ble_eq_true rfl) dX5_init_58 (fun H locs hP hD hS => ?_)
  have hP : va_P D vwCl [(h0, .inr (3, [.ref kk, .int a, .int b, .long z, .ref q26, .ref q39, .int 0, .long 0])), (q26, .inr (4, [.ref u1_32, .ref u2_32, .ref u3_32])), (u1_32, .inl (y 2, 25, .inl (gZ (fun _ => false)))), (u2_32, .inl (y 1, 25, .inr (.inl (fun _ => 0)))), (u3_32, .inl (y 1, 25, .inr (.inl (fun _ => 0)))), (q39, .inr (4, [.ref u1_45, .ref u2_45, .ref u3_45])), (u1_45, .inl (y 2, 25, .inl (gZ (fun _ => false)))), (u2_45, .inl (y 1, 25, .inr (.inl (fun _ => 0)))), (u3_45, .inl (y 1, 25, .inr (.inl (fun _ => 0))))] H := hP
  have hD : va_D A [(h0, .inr (3, [.ref kk, .int a, .int b, .long z, .ref q26, .ref q39, .int 0, .long 0])), (q26, .inr (4, [.ref u1_32, .ref u2_32, .ref u3_32])), (u1_32, .inl (y 2, 25, .inl (gZ (fun _ => false)))), (u2_32, .inl (y 1, 25, .inr (.inl (fun _ => 0)))), (u3_32, .inl (y 1, 25, .inr (.inl (fun _ => 0)))), (q39, .inr (4, [.ref u1_45, .ref u2_45, .ref u3_45])), (u1_45, .inl (y 2, 25, .inl (gZ (fun _ => false)))), (u2_45, .inl (y 1, 25, .inr (.inl (fun _ => 0)))), (u3_45, .inl (y 1, 25, .inr (.inl (fun _ => 0))))] := hD
  exact W.vret hx hb hr (fun t ht hW => ⟨⟨none, [(h0, .inr (3, [.ref kk, .int a, .int b, .long z, .ref q26, .ref q39, .int 0, .long 0])), (q26, .inr (4, [.ref u1_32, .ref u2_32, .ref u3_32])), (u1_32, .inl (y 2, 25, .inl (gZ (fun _ => false)))), (u2_32, .inl (y 1, 25, .inr (.inl (fun _ => 0)))), (u3_32, .inl (y 1, 25, .inr (.inl (fun _ => 0)))), (q39, .inr (4, [.ref u1_45, .ref u2_45, .ref u3_45])), (u1_45, .inl (y 2, 25, .inl (gZ (fun _ => false)))), (u2_45, .inl (y 1, 25, .inr (.inl (fun _ => 0)))), (u3_45, .inl (y 1, 25, .inr (.inl (fun _ => 0))))], rfl, ⟨q26, u1_32, u2_32, u3_32, q39, u1_45, u2_45, u3_45, rfl, rfl⟩, by rw [← hAe]; exact hD, by rw [ht]; exact hP⟩, by rw [← hAe]; exact hS.F ht⟩) (by rw [← hAe]; exact hS.2.2) dX5_init_61
theorem in_X7_init_X1 : ∀ w ∈ wsX10, w ∈ wsX7_init := fun _ h => List.mem_cons_of_mem _ (List.mem_append_right _ h)
theorem in_X7_init_X2 : ∀ w ∈ wsX20, w ∈ wsX7_init := fun _ h => List.mem_cons_of_mem _ (List.mem_append_left _ (List.mem_append_left _ (List.mem_append_right _ h)))
theorem in_X7_init_X6 : ∀ w ∈ wsX60, w ∈ wsX7_init := fun _ h => List.mem_cons_of_mem _ (List.mem_append_left _ (List.mem_append_right _ h))
theorem in_X7_init_X7 : ∀ w ∈ wsX70, w ∈ wsX7_init := fun _ h => List.mem_cons_of_mem _ (List.mem_append_left _ (List.mem_append_left _ (List.mem_append_left _ (List.mem_append_right _ h))))
set_option maxHeartbeats 4000000 in
set_option maxRecDepth 100000 in
theorem c_X7_init (l : Launch) (D : va_G) (y : Nat → ClassId) (sz : Nat) (h0 : Nat) : Met l yX7_init wsX7_init ({ frames := 2, cells := 10, slots := 176, locals := 46 } : Room) (gPA D y [.ref h0] [(h0, .inr (5, [.null, .int 0, .null, .null, .null, .null, .null, .null]))] sz) (gQn D [(h0, .inr (5, [.null, .int 0, .null, .null, .null, .null, .null, .null]))] (fun v w => ∃ (u0 : Nat) (u1 : Nat) (u2 : Nat) (u3 : Nat) (u4 : Nat) (u5 : Nat) (u6 : Nat) (u7 : Nat) (u8 : Nat) (u9 : Nat), v = none ∧ w = [(h0, .inr (5, [.ref u0, .int 0, .ref u1, .ref u2, .ref u3, .ref u4, .ref u8, .ref u9])), (u0, .inl (y 3, 40, .inr (.inr (.inr (.inr (fun _ => none)))))), (u1, .inr (1, [.int (gB false), .long 0, .long 0])), (u2, .inr (1, [.int (gB false), .long 0, .long 0])), (u3, .inr (1, [.int (gB false), .long 0, .long 0])), (u4, .inr (4, [.ref u5, .ref u6, .ref u7])), (u5, .inl (y 2, 40, .inl (gZ (fun _ => false)))), (u6, .inl (y 1, 40, .inr (.inl (fun _ => 0)))), (u7, .inl (y 1, 40, .inr (.inl (fun _ => 0)))), (u8, .inr (0, [.long 0, .long 0])), (u9, .inr (0, [.long 0, .long 0]))])) 10 176 (va_A [(h0, .inr (5, [.null, .int 0, .null, .null, .null, .null, .null, .null]))] sz) := by
  refine Met.ofW (cc := cX7_init) (maxL := 1) (ret := none) (by decide) rfl ?_
  intro pg e s m args below meth c s₁ B hml hv
  obtain ⟨rfl, hsz, hP, hK, hD0, hAO⟩ := hv
  have hx := B.exec
  have hb := B.bytes
  have hr := B.returns
  have hts := atoms_spec (ws := wsX7_init) B.pre
  have hown : s.vm.findClass RX7 = some m.cls := findClass_of_methodNamed B.named
  have hin : meth.name = "<init>" := (name_of_methodNamed B.named B.method).1
  have hlocks := B.notSynchronized
  subst hsz
  obtain ⟨A, hAe⟩ : ∃ A : Nat → Prop, A = va_A [(h0, .inr (5, [.null, .int 0, .null, .null, .null, .null, .null, .null]))] s.heap.size := ⟨_, rfl⟩
  have hD : va_D A [(h0, .inr (5, [.null, .int 0, .null, .null, .null, .null, .null, .null]))] := by rw [hAe]; exact hD0.self (sz := s.heap.size)
  have hA : ∀ q : Nat, s.heap.size ≤ q → A q := fun q h => by rw [hAe]; exact Or.inr h
  have hS : va_S A s.heap s.heap [] := va_S.rf
  have hl := lv_entry ([.ref h0]) (n := 1) (Nat.le_of_ble_eq_true rfl)
  rw [lg_entry_eq]
  generalize (lg_sl ([.ref h0]) ++ List.replicate (1 - (lg_sl ([.ref h0])).length) Slot.unset).toArray = ls at hl ⊢
  have hl : lv_has ls 1 [(0, .ref h0)] := hl
  refine lv_aload_n hx hb dX7_init_0 rfl (lv_at hl 0 rfl) ?_
  refine g_objInit hx hb hown (hts (.methodLink RX7 1 objectInit) (List.mem_of_getElem? (i := 1) rfl)) (hts (.instanceMethod objectInit) (List.mem_of_getElem? (i := 2) rfl)) (hts (.code objectInit ⟨#[0xb1]⟩ 1 none) (List.mem_of_getElem? (i := 3) rfl)) (by rw [hml]; exact hl.1) dX7_init_1 (Nat.le_of_ble_eq_true rfl) (Nat.le_of_ble_eq_true rfl) ?_
  refine lv_aload_n hx hb dX7_init_4 rfl (lv_at hl 0 rfl) ?_
  refine lv_bipush (v := 40) hx hb dX7_init_5 (by decide) ?_
  refine g_newP (N' := 40) hx hb hown (hts (.classLink RX7 9 RX5) (List.mem_of_getElem? (i := 4) rfl)) hAO hK hP hD hS hA (by decide) (by decide) (Nat.le_of_ble_eq_true rfl) (Nat.le_of_ble_eq_true rfl) (Nat.le_of_ble_eq_true rfl) dX7_init_7 (fun q7 H hP hD hS => ?_)
  have hP : va_P D vwCl [(h0, .inr (5, [.null, .int 0, .null, .null, .null, .null, .null, .null])), (q7, .inl (y 3, 40, .inr (.inr (.inr (.inr (fun _ => none))))))] H := hP
  have hD : va_D A [(h0, .inr (5, [.null, .int 0, .null, .null, .null, .null, .null, .null])), (q7, .inl (y 3, 40, .inr (.inr (.inr (.inr (fun _ => none))))))] := hD
  refine va_putF (D := D) (ci := 5) (v := .ref q7) (ty := (.array ((.object "Nestlimit$Program")))) (C := RX7) (T := TX7) (N := 8) hx hb hts in_X7_init_X7 tyX7 tyX7_ok nmX7 hown hK.1 hP hD hS 0 rfl rfl 0 (by decide) (hts (.fieldLink RX7 11 "Nestlimit" "programs" "[LNestlimit$Program;") (List.mem_of_getElem? (i := 5) rfl)) (fun _ h9 => h9) rfl hin rfl (by decide +kernel) (rfl) (rfl) (Nat.le_of_ble_eq_true rfl) dX7_init_10 (fun H locs hP hD hS => ?_)
  have hP : va_P D vwCl [(h0, .inr (5, [.ref q7, .int 0, .null, .null, .null, .null, .null, .null])), (q7, .inl (y 3, 40, .inr (.inr (.inr (.inr (fun _ => none))))))] H := hP
  have hD : va_D A [(h0, .inr (5, [.ref q7, .int 0, .null, .null, .null, .null, .null, .null])), (q7, .inl (y 3, 40, .inr (.inr (.inr (.inr (fun _ => none))))))] := hD
  refine lv_aload_n hx hb dX7_init_13 rfl (lv_at hl 0 rfl) ?_
  refine lv_iconst (v := 0) hx hb dX7_init_14 (by decide) ?_
  refine va_put (D := D) (ci := 5) (v := .int 0) (ty := .int) (C := RX7) (T := TX7) (N := 8) hx hb hts in_X7_init_X7 tyX7 tyX7_ok nmX7 hown hK.1 hP hD hS 0 rfl rfl 1 (by decide) (hts (.fieldLink RX7 15 "Nestlimit" "made" "I") (List.mem_of_getElem? (i := 6) rfl)) (fun _ h9 => h9) rfl (by decide +kernel) (rfl) (rfl) (Nat.le_of_ble_eq_true rfl) dX7_init_15 (fun H locs hP hD hS => ?_)
  have hP : va_P D vwCl [(h0, .inr (5, [.ref q7, .int 0, .null, .null, .null, .null, .null, .null])), (q7, .inl (y 3, 40, .inr (.inr (.inr (.inr (fun _ => none))))))] H := hP
  have hD : va_D A [(h0, .inr (5, [.ref q7, .int 0, .null, .null, .null, .null, .null, .null])), (q7, .inl (y 3, 40, .inr (.inr (.inr (.inr (fun _ => none))))))] := hD
  refine lv_aload_n hx hb dX7_init_18 rfl (lv_at hl 0 rfl) ?_
  refine va_new (ci := 1) (fs := [.int (gB false), .long 0, .long 0]) (C := RX2) (T := TX2) (N := 3) hx hb hts in_X7_init_X2 tyX2 tyX2_ok hown (hts (.classLink RX7 19 RX2) (List.mem_of_getElem? (i := 7) rfl)) (hts (.instantiable RX2 3) (List.mem_of_getElem? (i := 8) rfl)) (hts (.initialized RX2) (List.mem_of_getElem? (i := 9) rfl)) hK.1 hP hD hS hA rfl (fun j hj => by have h8 : ∀ j : Fin 3, defaultValue (tyX2 j.val) = vp_V [.int (gB false), .long 0, .long 0] j.val := (by decide); exact h8 ⟨j, hj⟩) (Nat.le_of_ble_eq_true rfl) (Nat.le_of_ble_eq_true rfl) dX7_init_19 (fun q19 H hP hD hS => ?_)
  have hP : va_P D vwCl [(h0, .inr (5, [.ref q7, .int 0, .null, .null, .null, .null, .null, .null])), (q7, .inl (y 3, 40, .inr (.inr (.inr (.inr (fun _ => none)))))), (q19, .inr (1, [.int (gB false), .long 0, .long 0]))] H := hP
  have hD : va_D A [(h0, .inr (5, [.ref q7, .int 0, .null, .null, .null, .null, .null, .null])), (q7, .inl (y 3, 40, .inr (.inr (.inr (.inr (fun _ => none)))))), (q19, .inr (1, [.int (gB false), .long 0, .long 0]))] := hD
  refine lv_dup hx hb dX7_init_22 rfl ?_
  refine g_callv (va_runIN (As := []) (rest := [.ref q19, .ref h0]) ⟨hx, hb, hml, hown, hts⟩ (c_X2_init l D y H.size q19 false 0 0) ⟨va_cnB 0 hts gX7_init_X2_init_n21 rfl rfl rfl (hK.2.at 0 rfl) (hts (.initialized RX2) (List.mem_of_getElem? (i := 9) rfl)) (by decide +kernel) ⟨Nat.le_of_ble_eq_true rfl, Nat.le_of_ble_eq_true rfl⟩, rfl, (hts (.instanceMethod yX2_init) (List.mem_of_getElem? (i := 22) rfl))⟩ (gP_S hP hD hK [2] (by decide) rfl) rfl rfl hl.1 rfl (lv_room (Nat.le_of_ble_eq_true rfl)) dX7_init_23 ⟨Nat.le_of_ble_eq_true rfl, Nat.le_of_ble_eq_true rfl⟩) hP hD hS hA [2] rfl (fun H locs hP hD hS => ?_)
  have hP : va_P D vwCl [(h0, .inr (5, [.ref q7, .int 0, .null, .null, .null, .null, .null, .null])), (q7, .inl (y 3, 40, .inr (.inr (.inr (.inr (fun _ => none)))))), (q19, .inr (1, [.int (gB false), .long 0, .long 0]))] H := hP
  have hD : va_D A [(h0, .inr (5, [.ref q7, .int 0, .null, .null, .null, .null, .null, .null])), (q7, .inl (y 3, 40, .inr (.inr (.inr (.inr (fun _ => none)))))), (q19, .inr (1, [.int (gB false), .long 0, .long 0]))] := hD
  refine va_putF (D := D) (ci := 5) (v := .ref q19) (ty := (.object "Nestlimit$Interval")) (C := RX7) (T := TX7) (N := 8) hx hb hts in_X7_init_X7 tyX7 tyX7_ok nmX7 hown hK.1 hP hD hS 0 rfl rfl 2 (by decide) (hts (.fieldLink RX7 22 "Nestlimit" "answer" "LNestlimit$Interval;") (List.mem_of_getElem? (i := 10) rfl)) (fun _ h9 => h9) rfl hin rfl (by decide +kernel) (rfl) (rfl) (Nat.le_of_ble_eq_true rfl) dX7_init_26 (fun H locs hP hD hS => ?_)
  have hP : va_P D vwCl [(h0, .inr (5, [.ref q7, .int 0, .ref q19, .null, .null, .null, .null, .null])), (q7, .inl (y 3, 40, .inr (.inr (.inr (.inr (fun _ => none)))))), (q19, .inr (1, [.int (gB false), .long 0, .long 0]))] H := hP
  have hD : va_D A [(h0, .inr (5, [.ref q7, .int 0, .ref q19, .null, .null, .null, .null, .null])), (q7, .inl (y 3, 40, .inr (.inr (.inr (.inr (fun _ => none)))))), (q19, .inr (1, [.int (gB false), .long 0, .long 0]))] := hD
  refine lv_aload_n hx hb dX7_init_29 rfl (lv_at hl 0 rfl) ?_
  refine va_new (ci := 1) (fs := [.int (gB false), .long 0, .long 0]) (C := RX2) (T := TX2) (N := 3) hx hb hts in_X7_init_X2 tyX2 tyX2_ok hown (hts (.classLink RX7 19 RX2) (List.mem_of_getElem? (i := 7) rfl)) (hts (.instantiable RX2 3) (List.mem_of_getElem? (i := 8) rfl)) (hts (.initialized RX2) (List.mem_of_getElem? (i := 9) rfl)) hK.1 hP hD hS hA rfl (fun j hj => by have h8 : ∀ j : Fin 3, defaultValue (tyX2 j.val) = vp_V [.int (gB false), .long 0, .long 0] j.val := (by decide); exact h8 ⟨j, hj⟩) (Nat.le_of_ble_eq_true rfl) (Nat.le_of_ble_eq_true rfl) dX7_init_30 (fun q30 H hP hD hS => ?_)
  have hP : va_P D vwCl [(h0, .inr (5, [.ref q7, .int 0, .ref q19, .null, .null, .null, .null, .null])), (q7, .inl (y 3, 40, .inr (.inr (.inr (.inr (fun _ => none)))))), (q19, .inr (1, [.int (gB false), .long 0, .long 0])), (q30, .inr (1, [.int (gB false), .long 0, .long 0]))] H := hP
  have hD : va_D A [(h0, .inr (5, [.ref q7, .int 0, .ref q19, .null, .null, .null, .null, .null])), (q7, .inl (y 3, 40, .inr (.inr (.inr (.inr (fun _ => none)))))), (q19, .inr (1, [.int (gB false), .long 0, .long 0])), (q30, .inr (1, [.int (gB false), .long 0, .long 0]))] := hD
  refine lv_dup hx hb dX7_init_33 rfl ?_
  refine g_callv (va_runIN (As := []) (rest := [.ref q30, .ref h0]) ⟨hx, hb, hml, hown, hts⟩ (c_X2_init l D y H.size q30 false 0 0) ⟨va_cnB 0 hts gX7_init_X2_init_n21 rfl rfl rfl (hK.2.at 0 rfl) (hts (.initialized RX2) (List.mem_of_getElem? (i := 9) rfl)) (by decide +kernel) ⟨Nat.le_of_ble_eq_true rfl, Nat.le_of_ble_eq_true rfl⟩, rfl, (hts (.instanceMethod yX2_init) (List.mem_of_getElem? (i := 22) rfl))⟩ (gP_S hP hD hK [3] (by decide) rfl) rfl rfl hl.1 rfl (lv_room (Nat.le_of_ble_eq_true rfl)) dX7_init_34 ⟨Nat.le_of_ble_eq_true rfl, Nat.le_of_ble_eq_true rfl⟩) hP hD hS hA [3] rfl (fun H locs hP hD hS => ?_)
  have hP : va_P D vwCl [(h0, .inr (5, [.ref q7, .int 0, .ref q19, .null, .null, .null, .null, .null])), (q7, .inl (y 3, 40, .inr (.inr (.inr (.inr (fun _ => none)))))), (q19, .inr (1, [.int (gB false), .long 0, .long 0])), (q30, .inr (1, [.int (gB false), .long 0, .long 0]))] H := hP
  have hD : va_D A [(h0, .inr (5, [.ref q7, .int 0, .ref q19, .null, .null, .null, .null, .null])), (q7, .inl (y 3, 40, .inr (.inr (.inr (.inr (fun _ => none)))))), (q19, .inr (1, [.int (gB false), .long 0, .long 0])), (q30, .inr (1, [.int (gB false), .long 0, .long 0]))] := hD
  refine va_putF (D := D) (ci := 5) (v := .ref q30) (ty := (.object "Nestlimit$Interval")) (C := RX7) (T := TX7) (N := 8) hx hb hts in_X7_init_X7 tyX7 tyX7_ok nmX7 hown hK.1 hP hD hS 0 rfl rfl 3 (by decide) (hts (.fieldLink RX7 26 "Nestlimit" "first" "LNestlimit$Interval;") (List.mem_of_getElem? (i := 11) rfl)) (fun _ h9 => h9) rfl hin rfl (by decide +kernel) (rfl) (rfl) (Nat.le_of_ble_eq_true rfl) dX7_init_37 (fun H locs hP hD hS => ?_)
  have hP : va_P D vwCl [(h0, .inr (5, [.ref q7, .int 0, .ref q19, .ref q30, .null, .null, .null, .null])), (q7, .inl (y 3, 40, .inr (.inr (.inr (.inr (fun _ => none)))))), (q19, .inr (1, [.int (gB false), .long 0, .long 0])), (q30, .inr (1, [.int (gB false), .long 0, .long 0]))] H := hP
  have hD : va_D A [(h0, .inr (5, [.ref q7, .int 0, .ref q19, .ref q30, .null, .null, .null, .null])), (q7, .inl (y 3, 40, .inr (.inr (.inr (.inr (fun _ => none)))))), (q19, .inr (1, [.int (gB false), .long 0, .long 0])), (q30, .inr (1, [.int (gB false), .long 0, .long 0]))] := hD
  refine lv_aload_n hx hb dX7_init_40 rfl (lv_at hl 0 rfl) ?_
  refine va_new (ci := 1) (fs := [.int (gB false), .long 0, .long 0]) (C := RX2) (T := TX2) (N := 3) hx hb hts in_X7_init_X2 tyX2 tyX2_ok hown (hts (.classLink RX7 19 RX2) (List.mem_of_getElem? (i := 7) rfl)) (hts (.instantiable RX2 3) (List.mem_of_getElem? (i := 8) rfl)) (hts (.initialized RX2) (List.mem_of_getElem? (i := 9) rfl)) hK.1 hP hD hS hA rfl (fun j hj => by have h8 : ∀ j : Fin 3, defaultValue (tyX2 j.val) = vp_V [.int (gB false), .long 0, .long 0] j.val := (by decide); exact h8 ⟨j, hj⟩) (Nat.le_of_ble_eq_true rfl) (Nat.le_of_ble_eq_true rfl) dX7_init_41 (fun q41 H hP hD hS => ?_)
  have hP : va_P D vwCl [(h0, .inr (5, [.ref q7, .int 0, .ref q19, .ref q30, .null, .null, .null, .null])), (q7, .inl (y 3, 40, .inr (.inr (.inr (.inr (fun _ => none)))))), (q19, .inr (1, [.int (gB false), .long 0, .long 0])), (q30, .inr (1, [.int (gB false), .long 0, .long 0])), (q41, .inr (1, [.int (gB false), .long 0, .long 0]))] H := hP
  have hD : va_D A [(h0, .inr (5, [.ref q7, .int 0, .ref q19, .ref q30, .null, .null, .null, .null])), (q7, .inl (y 3, 40, .inr (.inr (.inr (.inr (fun _ => none)))))), (q19, .inr (1, [.int (gB false), .long 0, .long 0])), (q30, .inr (1, [.int (gB false), .long 0, .long 0])), (q41, .inr (1, [.int (gB false), .long 0, .long 0]))] := hD
  refine lv_dup hx hb dX7_init_44 rfl ?_
  refine g_callv (va_runIN (As := []) (rest := [.ref q41, .ref h0]) ⟨hx, hb, hml, hown, hts⟩ (c_X2_init l D y H.size q41 false 0 0) ⟨va_cnB 0 hts gX7_init_X2_init_n21 rfl rfl rfl (hK.2.at 0 rfl) (hts (.initialized RX2) (List.mem_of_getElem? (i := 9) rfl)) (by decide +kernel) ⟨Nat.le_of_ble_eq_true rfl, Nat.le_of_ble_eq_true rfl⟩, rfl, (hts (.instanceMethod yX2_init) (List.mem_of_getElem? (i := 22) rfl))⟩ (gP_S hP hD hK [4] (by decide) rfl) rfl rfl hl.1 rfl (lv_room (Nat.le_of_ble_eq_true rfl)) dX7_init_45 ⟨Nat.le_of_ble_eq_true rfl, Nat.le_of_ble_eq_true rfl⟩) hP hD hS hA [4] rfl (fun H locs hP hD hS => ?_)
  have hP : va_P D vwCl [(h0, .inr (5, [.ref q7, .int 0, .ref q19, .ref q30, .null, .null, .null, .null])), (q7, .inl (y 3, 40, .inr (.inr (.inr (.inr (fun _ => none)))))), (q19, .inr (1, [.int (gB false), .long 0, .long 0])), (q30, .inr (1, [.int (gB false), .long 0, .long 0])), (q41, .inr (1, [.int (gB false), .long 0, .long 0]))] H := hP
  have hD : va_D A [(h0, .inr (5, [.ref q7, .int 0, .ref q19, .ref q30, .null, .null, .null, .null])), (q7, .inl (y 3, 40, .inr (.inr (.inr (.inr (fun _ => none)))))), (q19, .inr (1, [.int (gB false), .long 0, .long 0])), (q30, .inr (1, [.int (gB false), .long 0, .long 0])), (q41, .inr (1, [.int (gB false), .long 0, .long 0]))] := hD
  refine va_putF (D := D) (ci := 5) (v := .ref q41) (ty := (.object "Nestlimit$Interval")) (C := RX7) (T := TX7) (N := 8) hx hb hts in_X7_init_X7 tyX7 tyX7_ok nmX7 hown hK.1 hP hD hS 0 rfl rfl 4 (by decide) (hts (.fieldLink RX7 29 "Nestlimit" "second" "LNestlimit$Interval;") (List.mem_of_getElem? (i := 12) rfl)) (fun _ h9 => h9) rfl hin rfl (by decide +kernel) (rfl) (rfl) (Nat.le_of_ble_eq_true rfl) dX7_init_48 (fun H locs hP hD hS => ?_)
  have hP : va_P D vwCl [(h0, .inr (5, [.ref q7, .int 0, .ref q19, .ref q30, .ref q41, .null, .null, .null])), (q7, .inl (y 3, 40, .inr (.inr (.inr (.inr (fun _ => none)))))), (q19, .inr (1, [.int (gB false), .long 0, .long 0])), (q30, .inr (1, [.int (gB false), .long 0, .long 0])), (q41, .inr (1, [.int (gB false), .long 0, .long 0]))] H := hP
  have hD : va_D A [(h0, .inr (5, [.ref q7, .int 0, .ref q19, .ref q30, .ref q41, .null, .null, .null])), (q7, .inl (y 3, 40, .inr (.inr (.inr (.inr (fun _ => none)))))), (q19, .inr (1, [.int (gB false), .long 0, .long 0])), (q30, .inr (1, [.int (gB false), .long 0, .long 0])), (q41, .inr (1, [.int (gB false), .long 0, .long 0]))] := hD
  refine lv_aload_n hx hb dX7_init_51 rfl (lv_at hl 0 rfl) ?_
  refine va_new (ci := 4) (fs := [.null, .null, .null]) (C := RX6) (T := TX6) (N := 3) hx hb hts in_X7_init_X6 tyX6 tyX6_ok hown (hts (.classLink RX7 32 RX6) (List.mem_of_getElem? (i := 13) rfl)) (hts (.instantiable RX6 3) (List.mem_of_getElem? (i := 14) rfl)) (hts (.initialized RX6) (List.mem_of_getElem? (i := 15) rfl)) hK.1 hP hD hS hA rfl (fun j hj => by have h8 : ∀ j : Fin 3, defaultValue (tyX6 j.val) = vp_V [.null, .null, .null] j.val := (by decide); exact h8 ⟨j, hj⟩) (Nat.le_of_ble_eq_true rfl) (Nat.le_of_ble_eq_true rfl) dX7_init_52 (fun q52 H hP hD hS => ?_)
  have hP : va_P D vwCl [(h0, .inr (5, [.ref q7, .int 0, .ref q19, .ref q30, .ref q41, .null, .null, .null])), (q7, .inl (y 3, 40, .inr (.inr (.inr (.inr (fun _ => none)))))), (q19, .inr (1, [.int (gB false), .long 0, .long 0])), (q30, .inr (1, [.int (gB false), .long 0, .long 0])), (q41, .inr (1, [.int (gB false), .long 0, .long 0])), (q52, .inr (4, [.null, .null, .null]))] H := hP
  have hD : va_D A [(h0, .inr (5, [.ref q7, .int 0, .ref q19, .ref q30, .ref q41, .null, .null, .null])), (q7, .inl (y 3, 40, .inr (.inr (.inr (.inr (fun _ => none)))))), (q19, .inr (1, [.int (gB false), .long 0, .long 0])), (q30, .inr (1, [.int (gB false), .long 0, .long 0])), (q41, .inr (1, [.int (gB false), .long 0, .long 0])), (q52, .inr (4, [.null, .null, .null]))] := hD
  refine lv_dup hx hb dX7_init_55 rfl ?_
  refine lv_bipush (v := 40) hx hb dX7_init_56 (by decide) ?_
  refine g_callN (ws := [(h0, .inr (5, [.ref q7, .int 0, .ref q19, .ref q30, .ref q41, .null, .null, .null])), (q7, .inl (y 3, 40, .inr (.inr (.inr (.inr (fun _ => none)))))), (q19, .inr (1, [.int (gB false), .long 0, .long 0])), (q30, .inr (1, [.int (gB false), .long 0, .long 0])), (q41, .inr (1, [.int (gB false), .long 0, .long 0]))]) (wc := [(q52, .inr (4, [.null, .null, .null]))]) (va_runI (As := [.int 40]) (rest := [.ref q52, .ref h0]) ⟨hx, hb, hml, hown, hts⟩ (c_X6_init_40 l D y H.size q52) (cwI 1 hts gX7_init_X6_init rfl rfl rfl (hts (.initialized RX6) (List.mem_of_getElem? (i := 15) rfl)) (hts (.methodLink RX7 34 yX6_init) (List.mem_of_getElem? (i := 25) rfl)) (hts (.instanceMethod yX6_init) (List.mem_of_getElem? (i := 26) rfl)) rfl (by decide +kernel) ⟨Nat.le_of_ble_eq_true rfl, Nat.le_of_ble_eq_true rfl⟩) (gP_S hP hD hK [5] (by decide) rfl) rfl rfl hl.1 rfl (lv_room (Nat.le_of_ble_eq_true rfl)) dX7_init_58 ⟨Nat.le_of_ble_eq_true rfl, Nat.le_of_ble_eq_true rfl⟩) hP hD hS hA (fun v w1 H locs hf hP hD hS => ?_)
  obtain ⟨u1_58, u2_58, u3_58, rfl, rfl⟩ := hf
  have hP : va_P D vwCl [(h0, .inr (5, [.ref q7, .int 0, .ref q19, .ref q30, .ref q41, .null, .null, .null])), (q7, .inl (y 3, 40, .inr (.inr (.inr (.inr (fun _ => none)))))), (q19, .inr (1, [.int (gB false), .long 0, .long 0])), (q30, .inr (1, [.int (gB false), .long 0, .long 0])), (q41, .inr (1, [.int (gB false), .long 0, .long 0])), (q52, .inr (4, [.ref u1_58, .ref u2_58, .ref u3_58])), (u1_58, .inl (y 2, 40, .inl (gZ (fun _ => false)))), (u2_58, .inl (y 1, 40, .inr (.inl (fun _ => 0)))), (u3_58, .inl (y 1, 40, .inr (.inl (fun _ => 0))))] H := hP
  have hD : va_D A [(h0, .inr (5, [.ref q7, .int 0, .ref q19, .ref q30, .ref q41, .null, .null, .null])), (q7, .inl (y 3, 40, .inr (.inr (.inr (.inr (fun _ => none)))))), (q19, .inr (1, [.int (gB false), .long 0, .long 0])), (q30, .inr (1, [.int (gB false), .long 0, .long 0])), (q41, .inr (1, [.int (gB false), .long 0, .long 0])), (q52, .inr (4, [.ref u1_58, .ref u2_58, .ref u3_58])), (u1_58, .inl (y 2, 40, .inl (gZ (fun _ => false)))), (u2_58, .inl (y 1, 40, .inr (.inl (fun _ => 0)))), (u3_58, .inl (y 1, 40, .inr (.inl (fun _ => 0))))] := hD
  refine va_putF (D := D) (ci := 5) (v := .ref q52) (ty := (.object "Nestlimit$Row")) (C := RX7) (T := TX7) (N := 8) hx hb hts in_X7_init_X7 tyX7 tyX7_ok nmX7 hown hK.1 hP hD hS 0 rfl rfl 5 (by decide) (hts (.fieldLink RX7 37 "Nestlimit" "supposed" "LNestlimit$Row;") (List.mem_of_getElem? (i := 16) rfl)) (fun _ h9 => h9) rfl hin rfl (by decide +kernel) (rfl) (rfl) (Nat.le_of_ble_eq_true rfl) dX7_init_61 (fun H locs hP hD hS => ?_)
  have hP : va_P D vwCl [(h0, .inr (5, [.ref q7, .int 0, .ref q19, .ref q30, .ref q41, .ref q52, .null, .null])), (q7, .inl (y 3, 40, .inr (.inr (.inr (.inr (fun _ => none)))))), (q19, .inr (1, [.int (gB false), .long 0, .long 0])), (q30, .inr (1, [.int (gB false), .long 0, .long 0])), (q41, .inr (1, [.int (gB false), .long 0, .long 0])), (q52, .inr (4, [.ref u1_58, .ref u2_58, .ref u3_58])), (u1_58, .inl (y 2, 40, .inl (gZ (fun _ => false)))), (u2_58, .inl (y 1, 40, .inr (.inl (fun _ => 0)))), (u3_58, .inl (y 1, 40, .inr (.inl (fun _ => 0))))] H := hP
  have hD : va_D A [(h0, .inr (5, [.ref q7, .int 0, .ref q19, .ref q30, .ref q41, .ref q52, .null, .null])), (q7, .inl (y 3, 40, .inr (.inr (.inr (.inr (fun _ => none)))))), (q19, .inr (1, [.int (gB false), .long 0, .long 0])), (q30, .inr (1, [.int (gB false), .long 0, .long 0])), (q41, .inr (1, [.int (gB false), .long 0, .long 0])), (q52, .inr (4, [.ref u1_58, .ref u2_58, .ref u3_58])), (u1_58, .inl (y 2, 40, .inl (gZ (fun _ => false)))), (u2_58, .inl (y 1, 40, .inr (.inl (fun _ => 0)))), (u3_58, .inl (y 1, 40, .inr (.inl (fun _ => 0))))] := hD
  refine lv_aload_n hx hb dX7_init_64 rfl (lv_at hl 0 rfl) ?_
  refine va_new (ci := 0) (fs := [.long 0, .long 0]) (C := RX1) (T := TX1) (N := 2) hx hb hts in_X7_init_X1 tyX1 tyX1_ok hown (hts (.classLink RX7 41 RX1) (List.mem_of_getElem? (i := 17) rfl)) (hts (.instantiable RX1 2) (List.mem_of_getElem? (i := 18) rfl)) (hts (.initialized RX1) (List.mem_of_getElem? (i := 19) rfl)) hK.1 hP hD hS hA rfl (fun j hj => by have h8 : ∀ j : Fin 2, defaultValue (tyX1 j.val) = vp_V [.long 0, .long 0] j.val := (by decide); exact h8 ⟨j, hj⟩) (Nat.le_of_ble_eq_true rfl) (Nat.le_of_ble_eq_true rfl) dX7_init_65 (fun q65 H hP hD hS => ?_)
  have hP : va_P D vwCl [(h0, .inr (5, [.ref q7, .int 0, .ref q19, .ref q30, .ref q41, .ref q52, .null, .null])), (q7, .inl (y 3, 40, .inr (.inr (.inr (.inr (fun _ => none)))))), (q19, .inr (1, [.int (gB false), .long 0, .long 0])), (q30, .inr (1, [.int (gB false), .long 0, .long 0])), (q41, .inr (1, [.int (gB false), .long 0, .long 0])), (q52, .inr (4, [.ref u1_58, .ref u2_58, .ref u3_58])), (u1_58, .inl (y 2, 40, .inl (gZ (fun _ => false)))), (u2_58, .inl (y 1, 40, .inr (.inl (fun _ => 0)))), (u3_58, .inl (y 1, 40, .inr (.inl (fun _ => 0)))), (q65, .inr (0, [.long 0, .long 0]))] H := hP
  have hD : va_D A [(h0, .inr (5, [.ref q7, .int 0, .ref q19, .ref q30, .ref q41, .ref q52, .null, .null])), (q7, .inl (y 3, 40, .inr (.inr (.inr (.inr (fun _ => none)))))), (q19, .inr (1, [.int (gB false), .long 0, .long 0])), (q30, .inr (1, [.int (gB false), .long 0, .long 0])), (q41, .inr (1, [.int (gB false), .long 0, .long 0])), (q52, .inr (4, [.ref u1_58, .ref u2_58, .ref u3_58])), (u1_58, .inl (y 2, 40, .inl (gZ (fun _ => false)))), (u2_58, .inl (y 1, 40, .inr (.inl (fun _ => 0)))), (u3_58, .inl (y 1, 40, .inr (.inl (fun _ => 0)))), (q65, .inr (0, [.long 0, .long 0]))] := hD
  refine lv_dup hx hb dX7_init_68 rfl ?_
  refine g_callv (va_runIN (As := []) (rest := [.ref q65, .ref h0]) ⟨hx, hb, hml, hown, hts⟩ (c_X1_init l D y H.size q65 0 0) ⟨va_cnB 0 hts gX7_init_X1_init_n43 rfl rfl rfl (hK.2.at 1 rfl) (hts (.initialized RX1) (List.mem_of_getElem? (i := 19) rfl)) (by decide +kernel) ⟨Nat.le_of_ble_eq_true rfl, Nat.le_of_ble_eq_true rfl⟩, rfl, (hts (.instanceMethod yX1_init) (List.mem_of_getElem? (i := 34) rfl))⟩ (gP_S hP hD hK [9] (by decide) rfl) rfl rfl hl.1 rfl (lv_room (Nat.le_of_ble_eq_true rfl)) dX7_init_69 ⟨Nat.le_of_ble_eq_true rfl, Nat.le_of_ble_eq_true rfl⟩) hP hD hS hA [9] rfl (fun H locs hP hD hS => ?_)
  have hP : va_P D vwCl [(h0, .inr (5, [.ref q7, .int 0, .ref q19, .ref q30, .ref q41, .ref q52, .null, .null])), (q7, .inl (y 3, 40, .inr (.inr (.inr (.inr (fun _ => none)))))), (q19, .inr (1, [.int (gB false), .long 0, .long 0])), (q30, .inr (1, [.int (gB false), .long 0, .long 0])), (q41, .inr (1, [.int (gB false), .long 0, .long 0])), (q52, .inr (4, [.ref u1_58, .ref u2_58, .ref u3_58])), (u1_58, .inl (y 2, 40, .inl (gZ (fun _ => false)))), (u2_58, .inl (y 1, 40, .inr (.inl (fun _ => 0)))), (u3_58, .inl (y 1, 40, .inr (.inl (fun _ => 0)))), (q65, .inr (0, [.long 0, .long 0]))] H := hP
  have hD : va_D A [(h0, .inr (5, [.ref q7, .int 0, .ref q19, .ref q30, .ref q41, .ref q52, .null, .null])), (q7, .inl (y 3, 40, .inr (.inr (.inr (.inr (fun _ => none)))))), (q19, .inr (1, [.int (gB false), .long 0, .long 0])), (q30, .inr (1, [.int (gB false), .long 0, .long 0])), (q41, .inr (1, [.int (gB false), .long 0, .long 0])), (q52, .inr (4, [.ref u1_58, .ref u2_58, .ref u3_58])), (u1_58, .inl (y 2, 40, .inl (gZ (fun _ => false)))), (u2_58, .inl (y 1, 40, .inr (.inl (fun _ => 0)))), (u3_58, .inl (y 1, 40, .inr (.inl (fun _ => 0)))), (q65, .inr (0, [.long 0, .long 0]))] := hD
  refine va_putF (D := D) (ci := 5) (v := .ref q65) (ty := (.object "Nestlimit$Fraction")) (C := RX7) (T := TX7) (N := 8) hx hb hts in_X7_init_X7 tyX7 tyX7_ok nmX7 hown hK.1 hP hD hS 0 rfl rfl 6 (by decide) (hts (.fieldLink RX7 44 "Nestlimit" "lowEnd" "LNestlimit$Fraction;") (List.mem_of_getElem? (i := 20) rfl)) (fun _ h9 => h9) rfl hin rfl (by decide +kernel) (rfl) (rfl) (Nat.le_of_ble_eq_true rfl) dX7_init_72 (fun H locs hP hD hS => ?_)
  have hP : va_P D vwCl [(h0, .inr (5, [.ref q7, .int 0, .ref q19, .ref q30, .ref q41, .ref q52, .ref q65, .null])), (q7, .inl (y 3, 40, .inr (.inr (.inr (.inr (fun _ => none)))))), (q19, .inr (1, [.int (gB false), .long 0, .long 0])), (q30, .inr (1, [.int (gB false), .long 0, .long 0])), (q41, .inr (1, [.int (gB false), .long 0, .long 0])), (q52, .inr (4, [.ref u1_58, .ref u2_58, .ref u3_58])), (u1_58, .inl (y 2, 40, .inl (gZ (fun _ => false)))), (u2_58, .inl (y 1, 40, .inr (.inl (fun _ => 0)))), (u3_58, .inl (y 1, 40, .inr (.inl (fun _ => 0)))), (q65, .inr (0, [.long 0, .long 0]))] H := hP
  have hD : va_D A [(h0, .inr (5, [.ref q7, .int 0, .ref q19, .ref q30, .ref q41, .ref q52, .ref q65, .null])), (q7, .inl (y 3, 40, .inr (.inr (.inr (.inr (fun _ => none)))))), (q19, .inr (1, [.int (gB false), .long 0, .long 0])), (q30, .inr (1, [.int (gB false), .long 0, .long 0])), (q41, .inr (1, [.int (gB false), .long 0, .long 0])), (q52, .inr (4, [.ref u1_58, .ref u2_58, .ref u3_58])), (u1_58, .inl (y 2, 40, .inl (gZ (fun _ => false)))), (u2_58, .inl (y 1, 40, .inr (.inl (fun _ => 0)))), (u3_58, .inl (y 1, 40, .inr (.inl (fun _ => 0)))), (q65, .inr (0, [.long 0, .long 0]))] := hD
  refine lv_aload_n hx hb dX7_init_75 rfl (lv_at hl 0 rfl) ?_
  refine va_new (ci := 0) (fs := [.long 0, .long 0]) (C := RX1) (T := TX1) (N := 2) hx hb hts in_X7_init_X1 tyX1 tyX1_ok hown (hts (.classLink RX7 41 RX1) (List.mem_of_getElem? (i := 17) rfl)) (hts (.instantiable RX1 2) (List.mem_of_getElem? (i := 18) rfl)) (hts (.initialized RX1) (List.mem_of_getElem? (i := 19) rfl)) hK.1 hP hD hS hA rfl (fun j hj => by have h8 : ∀ j : Fin 2, defaultValue (tyX1 j.val) = vp_V [.long 0, .long 0] j.val := (by decide); exact h8 ⟨j, hj⟩) (Nat.le_of_ble_eq_true rfl) (Nat.le_of_ble_eq_true rfl) dX7_init_76 (fun q76 H hP hD hS => ?_)
  have hP : va_P D vwCl [(h0, .inr (5, [.ref q7, .int 0, .ref q19, .ref q30, .ref q41, .ref q52, .ref q65, .null])), (q7, .inl (y 3, 40, .inr (.inr (.inr (.inr (fun _ => none)))))), (q19, .inr (1, [.int (gB false), .long 0, .long 0])), (q30, .inr (1, [.int (gB false), .long 0, .long 0])), (q41, .inr (1, [.int (gB false), .long 0, .long 0])), (q52, .inr (4, [.ref u1_58, .ref u2_58, .ref u3_58])), (u1_58, .inl (y 2, 40, .inl (gZ (fun _ => false)))), (u2_58, .inl (y 1, 40, .inr (.inl (fun _ => 0)))), (u3_58, .inl (y 1, 40, .inr (.inl (fun _ => 0)))), (q65, .inr (0, [.long 0, .long 0])), (q76, .inr (0, [.long 0, .long 0]))] H := hP
  have hD : va_D A [(h0, .inr (5, [.ref q7, .int 0, .ref q19, .ref q30, .ref q41, .ref q52, .ref q65, .null])), (q7, .inl (y 3, 40, .inr (.inr (.inr (.inr (fun _ => none)))))), (q19, .inr (1, [.int (gB false), .long 0, .long 0])), (q30, .inr (1, [.int (gB false), .long 0, .long 0])), (q41, .inr (1, [.int (gB false), .long 0, .long 0])), (q52, .inr (4, [.ref u1_58, .ref u2_58, .ref u3_58])), (u1_58, .inl (y 2, 40, .inl (gZ (fun _ => false)))), (u2_58, .inl (y 1, 40, .inr (.inl (fun _ => 0)))), (u3_58, .inl (y 1, 40, .inr (.inl (fun _ => 0)))), (q65, .inr (0, [.long 0, .long 0])), (q76, .inr (0, [.long 0, .long 0]))] := hD
  refine lv_dup hx hb dX7_init_79 rfl ?_
  refine g_callv (va_runIN (As := []) (rest := [.ref q76, .ref h0]) ⟨hx, hb, hml, hown, hts⟩ (c_X1_init l D y H.size q76 0 0) ⟨va_cnB 0 hts gX7_init_X1_init_n43 rfl rfl rfl (hK.2.at 1 rfl) (hts (.initialized RX1) (List.mem_of_getElem? (i := 19) rfl)) (by decide +kernel) ⟨Nat.le_of_ble_eq_true rfl, Nat.le_of_ble_eq_true rfl⟩, rfl, (hts (.instanceMethod yX1_init) (List.mem_of_getElem? (i := 34) rfl))⟩ (gP_S hP hD hK [10] (by decide) rfl) rfl rfl hl.1 rfl (lv_room (Nat.le_of_ble_eq_true rfl)) dX7_init_80 ⟨Nat.le_of_ble_eq_true rfl, Nat.le_of_ble_eq_true rfl⟩) hP hD hS hA [10] rfl (fun H locs hP hD hS => ?_)
  have hP : va_P D vwCl [(h0, .inr (5, [.ref q7, .int 0, .ref q19, .ref q30, .ref q41, .ref q52, .ref q65, .null])), (q7, .inl (y 3, 40, .inr (.inr (.inr (.inr (fun _ => none)))))), (q19, .inr (1, [.int (gB false), .long 0, .long 0])), (q30, .inr (1, [.int (gB false), .long 0, .long 0])), (q41, .inr (1, [.int (gB false), .long 0, .long 0])), (q52, .inr (4, [.ref u1_58, .ref u2_58, .ref u3_58])), (u1_58, .inl (y 2, 40, .inl (gZ (fun _ => false)))), (u2_58, .inl (y 1, 40, .inr (.inl (fun _ => 0)))), (u3_58, .inl (y 1, 40, .inr (.inl (fun _ => 0)))), (q65, .inr (0, [.long 0, .long 0])), (q76, .inr (0, [.long 0, .long 0]))] H := hP
  have hD : va_D A [(h0, .inr (5, [.ref q7, .int 0, .ref q19, .ref q30, .ref q41, .ref q52, .ref q65, .null])), (q7, .inl (y 3, 40, .inr (.inr (.inr (.inr (fun _ => none)))))), (q19, .inr (1, [.int (gB false), .long 0, .long 0])), (q30, .inr (1, [.int (gB false), .long 0, .long 0])), (q41, .inr (1, [.int (gB false), .long 0, .long 0])), (q52, .inr (4, [.ref u1_58, .ref u2_58, .ref u3_58])), (u1_58, .inl (y 2, 40, .inl (gZ (fun _ => false)))), (u2_58, .inl (y 1, 40, .inr (.inl (fun _ => 0)))), (u3_58, .inl (y 1, 40, .inr (.inl (fun _ => 0)))), (q65, .inr (0, [.long 0, .long 0])), (q76, .inr (0, [.long 0, .long 0]))] := hD
  refine va_putF (D := D) (ci := 5) (v := .ref q76) (ty := (.object "Nestlimit$Fraction")) (C := RX7) (T := TX7) (N := 8) hx hb hts in_X7_init_X7 tyX7 tyX7_ok nmX7 hown hK.1 hP hD hS 0 rfl rfl 7 (by decide) (hts (.fieldLink RX7 48 "Nestlimit" "highEnd" "LNestlimit$Fraction;") (List.mem_of_getElem? (i := 21) rfl)) (fun _ h9 => h9) rfl hin rfl (by decide +kernel) (rfl) (rfl) (Nat.le_of_ble_eq_true rfl) dX7_init_83 (fun H locs hP hD hS => ?_)
  have hP : va_P D vwCl [(h0, .inr (5, [.ref q7, .int 0, .ref q19, .ref q30, .ref q41, .ref q52, .ref q65, .ref q76])), (q7, .inl (y 3, 40, .inr (.inr (.inr (.inr (fun _ => none)))))), (q19, .inr (1, [.int (gB false), .long 0, .long 0])), (q30, .inr (1, [.int (gB false), .long 0, .long 0])), (q41, .inr (1, [.int (gB false), .long 0, .long 0])), (q52, .inr (4, [.ref u1_58, .ref u2_58, .ref u3_58])), (u1_58, .inl (y 2, 40, .inl (gZ (fun _ => false)))), (u2_58, .inl (y 1, 40, .inr (.inl (fun _ => 0)))), (u3_58, .inl (y 1, 40, .inr (.inl (fun _ => 0)))), (q65, .inr (0, [.long 0, .long 0])), (q76, .inr (0, [.long 0, .long 0]))] H := hP
  have hD : va_D A [(h0, .inr (5, [.ref q7, .int 0, .ref q19, .ref q30, .ref q41, .ref q52, .ref q65, .ref q76])), (q7, .inl (y 3, 40, .inr (.inr (.inr (.inr (fun _ => none)))))), (q19, .inr (1, [.int (gB false), .long 0, .long 0])), (q30, .inr (1, [.int (gB false), .long 0, .long 0])), (q41, .inr (1, [.int (gB false), .long 0, .long 0])), (q52, .inr (4, [.ref u1_58, .ref u2_58, .ref u3_58])), (u1_58, .inl (y 2, 40, .inl (gZ (fun _ => false)))), (u2_58, .inl (y 1, 40, .inr (.inl (fun _ => 0)))), (u3_58, .inl (y 1, 40, .inr (.inl (fun _ => 0)))), (q65, .inr (0, [.long 0, .long 0])), (q76, .inr (0, [.long 0, .long 0]))] := hD
  exact W.vret hx hb hr (fun t ht hW => ⟨⟨none, [(h0, .inr (5, [.ref q7, .int 0, .ref q19, .ref q30, .ref q41, .ref q52, .ref q65, .ref q76])), (q7, .inl (y 3, 40, .inr (.inr (.inr (.inr (fun _ => none)))))), (q19, .inr (1, [.int (gB false), .long 0, .long 0])), (q30, .inr (1, [.int (gB false), .long 0, .long 0])), (q41, .inr (1, [.int (gB false), .long 0, .long 0])), (q52, .inr (4, [.ref u1_58, .ref u2_58, .ref u3_58])), (u1_58, .inl (y 2, 40, .inl (gZ (fun _ => false)))), (u2_58, .inl (y 1, 40, .inr (.inl (fun _ => 0)))), (u3_58, .inl (y 1, 40, .inr (.inl (fun _ => 0)))), (q65, .inr (0, [.long 0, .long 0])), (q76, .inr (0, [.long 0, .long 0]))], rfl, ⟨q7, q19, q30, q41, q52, u1_58, u2_58, u3_58, q65, q76, rfl, rfl⟩, by rw [← hAe]; exact hD, by rw [ht]; exact hP⟩, by rw [← hAe]; exact hS.F ht⟩) (by rw [← hAe]; exact hS.2.2) dX7_init_86