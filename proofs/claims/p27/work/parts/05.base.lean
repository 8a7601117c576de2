section GB
def jshl (x : Int64) (y : Int32) : Int64 := x <<< (y.toInt64 &&& 63)
def jshr (x : Int64) (y : Int32) : Int64 := x >>> (y.toInt64 &&& 63)
def jushr (x : Int64) (y : Int32) : Int64 := (x.toUInt64 >>> (y.toInt64.toUInt64 &&& Int64.toUInt64 63)).toInt64
def jmax (x y : Int64) : Int64 := if y < x then x else y
def jmin (x y : Int64) : Int64 := if y < x then y else x
def gB (b : Bool) : Int32 := match b with
  | true => 1
  | false => 0
theorem gB_n (b : Bool) : narrow .boolean (.int (gB b)) = .int (gB b) := by cases b <;> rfl
theorem gB_f (b : Bool) : fits .boolean (.int (gB b)) = true := by cases b <;> rfl
theorem gB_t {b : Bool} (h : ¬ gB b = 0) : b = true := by
  cases b
  · exact absurd rfl h
  · rfl
theorem gB_z {b : Bool} (h : gB b = 0) : ¬ b = true := by
  cases b
  · decide
  · exact absurd h (by decide)
/-- the links among nest mates: each names a private method of its mate -/
def gNl : List Cond := [.methodLinkNest RX7 21 yX2_init RX7, .methodLinkNest RX7 43 yX1_init RX7, .methodLinkNest RX2 24 yX7_unitsAt RX7, .methodLinkNest RX2 46 yX7_cut RX7, .methodLinkNest RX2 49 yX7_fill RX7, .methodLinkNest RX2 52 yX7_cutRoot RX7, .methodLinkNest RX2 56 yX7_fillRoot RX7, .methodLinkNest RX4 22 yX7_unitsAt RX7, .methodLinkNest RX1 16 yX7_cut RX7]
def gN (U : State) : Prop := ∀ w ∈ gNl, va_Nw w U
theorem gN.warm {s U : State} (hW : s.WarmedH U.vm) (h : gN s) : gN U := by
  intro w hw
  have h2 := h w hw
  simp only [gNl, List.mem_cons, List.not_mem_nil, or_false] at hw
  rcases hw with rfl | rfl | rfl | rfl | rfl | rfl | rfl | rfl | rfl <;> exact va_Nw.warmM hW h2
theorem gN.vm {u U : State} (h : u.vm = U.vm) (hZ : gN u) : gN U := by
  intro w hw
  have h2 := hZ w hw
  simp only [gNl, List.mem_cons, List.not_mem_nil, or_false] at hw
  rcases hw with rfl | rfl | rfl | rfl | rfl | rfl | rfl | rfl | rfl <;> exact va_Nw.same rfl h h2
theorem gN.at {U : State} (h : gN U) (k : Nat) {w : Cond} (hw : gNl[k]? = some w) : va_Nw w U := h w (List.mem_of_getElem? hw)
/-- the classes of the arrays -/
def gT (y : Nat → ClassId) : List (ClassId × FieldType) := [(y 0, .int), (y 1, .long), (y 2, .boolean), (y 3, .object "Nestlimit$Program")]
def gK (D : va_G) (y : Nat → ClassId) (U : State) : Prop := va_K D vwCl (gT y) U ∧ gN U
theorem gK.warm {D : va_G} {y : Nat → ClassId} {s U : State} (hW : s.WarmedH U.vm) (h : gK D y s) : gK D y U := ⟨va_K.moved hW.alike h.1, h.2.warm hW⟩
theorem gK.calling {D : va_G} {y : Nat → ClassId} {U : State} (g : JFrame) (mk : MethodId) (a : Array Value) (h : gK D y U) : gK D y (U.calling g mk a) := ⟨va_K.moved (u := U) (U := U.calling g mk a) (Vm.Alike.refl U.vm) h.1, gN.vm (u := U) (U := U.calling g mk a) rfl h.2⟩
/-- some cells of a world written anew, by their places -/
def gS : va_W → List Nat → va_W → va_W
  | ws, i :: is, x :: w1 => gS (ws.set i x) is w1
  | ws, _, _ => ws
theorem gS_get : ∀ (is : List Nat) (w1 ws : va_W) (k : Nat) (q : Nat × va_E), is.length = w1.length → (gS ws is w1)[k]? = some q → (q ∈ w1 ∧ k ∈ is) ∨ (ws[k]? = some q ∧ k ∉ is)
  | [], w1, ws, k, q, _, h => by
    right
    refine ⟨?_, List.not_mem_nil⟩
    cases w1 <;> exact h
  | i :: is, [], ws, k, q, hl, h => by simp at hl
  | i :: is, x :: w1, ws, k, q, hl, h => by
    have hl2 : is.length = w1.length := by simpa using hl
    rcases gS_get is w1 (ws.set i x) k q hl2 h with ⟨h1, h2⟩ | ⟨h1, h2⟩
    · exact Or.inl ⟨List.mem_cons_of_mem _ h1, List.mem_cons_of_mem _ h2⟩
    · by_cases hk : i = k
      · subst hk
        have hlt : i < ws.length := by
          have := (List.getElem?_eq_some_iff.mp h1).1
          simpa using this
        rw [List.getElem?_set_self hlt] at h1
        cases h1
        exact Or.inl ⟨List.mem_cons_self, List.mem_cons_self⟩
      · rw [List.getElem?_set_ne hk] at h1
        refine Or.inr ⟨h1, fun z => ?_⟩
        rcases List.mem_cons.mp z with z | z
        · exact hk z.symm
        · exact h2 z
theorem gS_fst : ∀ (is : List Nat) (w1 ws : va_W), is.map (fun i => (ws.map Prod.fst)[i]?) = (w1.map Prod.fst).map some → (gS ws is w1).map Prod.fst = ws.map Prod.fst
  | [], w1, ws, _ => by cases w1 <;> rfl
  | i :: is, [], ws, h => rfl
  | i :: is, x :: w1, ws, h => by
    simp only [List.map_cons, List.cons.injEq] at h
    obtain ⟨h1, h2⟩ := h
    have e : (ws.set i x).map Prod.fst = ws.map Prod.fst := by
      rw [List.map_set]
      apply List.ext_getElem?
      intro j
      by_cases hj : i = j
      · subst hj
        have hlt : i < (ws.map Prod.fst).length := (List.getElem?_eq_some_iff.mp h1).1
        rw [List.getElem?_set_self hlt, h1]
      · rw [List.getElem?_set_ne hj]
    show (gS (ws.set i x) is w1).map Prod.fst = _
    rw [gS_fst is w1 (ws.set i x) (by rw [e]; exact h2), e]
theorem gPick {ws wc : va_W} {is : List Nat} (hC : is.map (fun i => ws[i]?) = wc.map some) {k : Nat} {q : Nat × va_E} (hk : wc[k]? = some q) : ∃ i, is[k]? = some i ∧ ws[i]? = some q := by
  have h1 : (is.map (fun i => ws[i]?))[k]? = some (some q) := by rw [hC, List.getElem?_map, hk]; rfl
  rw [List.getElem?_map] at h1
  cases hi : is[k]? with
  | none => rw [hi] at h1; cases h1
  | some i => rw [hi] at h1; exact ⟨i, rfl, Option.some.inj h1⟩
theorem gP_sub {D : va_G} {ws wc : va_W} {H : Heap} (hP : va_P D vwCl ws H) (is : List Nat) (hC : is.map (fun i => ws[i]?) = wc.map some) : va_P D vwCl wc H := by
  intro k q hk
  obtain ⟨i, -, h⟩ := gPick hC hk
  exact hP i q h
theorem gJoin {A0 : Nat → Prop} {D : va_G} {ws wc w1 : va_W} {H H1 : Heap} (hP : va_P D vwCl ws H) (hD : va_D A0 ws) (is : List Nat) (hC : is.map (fun i => ws[i]?) = wc.map some)
    (hk : ∀ q : Nat, q < H.size → ¬ va_A wc H.size q → H1[q]? = H[q]?) (hP1 : va_P D vwCl w1 H1) (ha : w1.map Prod.fst = wc.map Prod.fst) : va_P D vwCl (gS ws is w1) H1 ∧ va_D A0 (gS ws is w1) := by
  have hlen : is.length = w1.length := by
    have h1 := congrArg List.length hC
    have h2 := congrArg List.length ha
    simp only [List.length_map] at h1 h2
    omega
  have hfst : (gS ws is w1).map Prod.fst = ws.map Prod.fst := by
    refine gS_fst is w1 ws ?_
    rw [ha]
    apply List.ext_getElem?
    intro j
    have h3 := congrArg (fun z : List (Option (Nat × va_E)) => z[j]?) hC
    simp only [List.getElem?_map] at h3 ⊢
    cases hi : is[j]? with
    | none =>
      rw [hi] at h3
      cases hw : wc[j]? with
      | none => rfl
      | some q => rw [hw] at h3; simp at h3
    | some i =>
      rw [hi] at h3
      cases hw : wc[j]? with
      | none => rw [hw] at h3; simp at h3
      | some q =>
        rw [hw] at h3
        simp only [Option.map_some, Option.some.injEq] at h3
        simp [h3]
  refine ⟨fun k q hq => ?_, fun i j a b hi hj hab => ?_, fun k q hq => ?_⟩
  · rcases gS_get is w1 ws k q hlen hq with ⟨h1, -⟩ | ⟨h1, h2⟩
    · obtain ⟨j, hj⟩ := List.getElem?_of_mem h1
      exact hP1 j q hj
    · have hlt := (hP k q h1).lt
      refine (hP k q h1).kept (hk q.1 hlt (fun z => ?_))
      rcases z with ⟨k2, e, z⟩ | z
      · obtain ⟨j, h3, h4⟩ := gPick hC z
        have h5 := hD.1 k j q (q.1, e) h1 h4 rfl
        subst h5
        exact h2 (List.mem_of_getElem? h3)
      · omega
  · have key : ∀ (k : Nat) (q : Nat × va_E), (gS ws is w1)[k]? = some q → ∃ q0, ws[k]? = some q0 ∧ q0.1 = q.1 := by
      intro k q hq
      have h1 : ((gS ws is w1).map Prod.fst)[k]? = some q.1 := by rw [List.getElem?_map, hq]; rfl
      rw [hfst, List.getElem?_map] at h1
      cases hw : ws[k]? with
      | none => rw [hw] at h1; cases h1
      | some q0 => rw [hw] at h1; exact ⟨q0, rfl, Option.some.inj h1⟩
    obtain ⟨a0, h1, h2⟩ := key i a hi
    obtain ⟨b0, h3, h4⟩ := key j b hj
    exact hD.1 i j a0 b0 h1 h3 (h2.trans (hab.trans h4.symm))
  · have h1 : ((gS ws is w1).map Prod.fst)[k]? = some q.1 := by rw [List.getElem?_map, hq]; rfl
    rw [hfst, List.getElem?_map] at h1
    cases hw : ws[k]? with
    | none => rw [hw] at h1; cases h1
    | some q0 =>
      rw [hw] at h1
      have := hD.2 k q0 hw
      rwa [Option.some.inj h1] at this
/-- a method's start: its world, its arguments -/
def gP (D : va_G) (y : Nat → ClassId) (av : List Value) (wc : va_W) (sz : Nat) : Array Value → State → Prop := va_Pc av (fun U => U.heap.size = sz ∧ va_P D vwCl wc U.heap ∧ gK D y U ∧ va_D (fun _ => True) wc)
theorem gP_blind {D : va_G} {y : Nat → ClassId} {av : List Value} {wc : va_W} {sz : Nat} : FrameBlind (gP D y av wc sz) := fun a _ g mk q => ⟨q.1, q.2.1, q.2.2.1, gK.calling g mk a q.2.2.2.1, q.2.2.2.2⟩
/-- a method's end: it answers v, its cells are w, no other cell has changed -/
def gQ (D : va_G) (wc : va_W) (f : Option Value → va_W → Prop) : Array Value → State → Outcome → State → Prop := fun _ st oc t => (∃ (v : Option Value) (w1 : va_W), oc = .returned v ∧ f v w1 ∧ w1.map Prod.fst = wc.map Prod.fst ∧ va_P D vwCl w1 t.heap) ∧ va_F (va_A wc st.heap.size) st t
def gF (v0 : Option Value) (w0 : va_W) : Option Value → va_W → Prop := fun v w => v = v0 ∧ w = w0
/-- it only reads -/
def gR (v0 : Value) : Array Value → State → Outcome → State → Prop := fun _ st oc t => oc = .returned (some v0) ∧ t.heap = st.heap
def gRp (f : Value → Prop) : Array Value → State → Outcome → State → Prop := fun _ st oc t => (∃ v, oc = .returned (some v) ∧ f v) ∧ t.heap = st.heap
theorem gP_S {D : va_G} {y : Nat → ClassId} {A : Nat → Prop} {s : State} {H : Heap} {ws wc : va_W} {As : List Value} (hP : va_P D vwCl ws H) (hD : va_D A ws) (hK : gK D y s) (is : List Nat) (hn : va_nd is = true) (hC : is.map (fun i => ws[i]?) = wc.map some) : PreS s H (gP D y As wc H.size) As :=
  ⟨gP_blind, fun U hU hW => ⟨rfl, by rw [hU], by rw [hU]; exact gP_sub hP is hC, hK.warm hW, (hD.sub is hn hC).weaken (fun _ _ _ _ => trivial)⟩⟩
theorem gP_V {D : va_G} {y : Nat → ClassId} {A : Nat → Prop} {s : State} {H : Heap} {ws wc : va_W} {As : List Value} {b : Nat} {C : String} (hP : va_P D vwCl ws H) (hD : va_D A ws) (hK : gK D y s) (is : List Nat) (hn : va_nd is = true) (hC : is.map (fun i => ws[i]?) = wc.map some)
    (q0 : Nat) {ci : Nat} {fs : List Value} {T : u_T} {N : Nat} (he : ws[q0]? = some (b, .inr (ci, fs))) (hc : vwCl[ci]? = some (C, T, N)) : PreV s H C b (gP D y (.ref b :: As) wc H.size) As :=
  ⟨gP_blind, va_recv hK.1 hP (ci := ci) (q0 := q0) hc he, fun U hU hW => ⟨rfl, by rw [hU], by rw [hU]; exact gP_sub hP is hC, hK.warm hW, (hD.sub is hn hC).weaken (fun _ _ _ _ => trivial)⟩⟩
variable {p : Program} {l : Launch} {e : Env} {R : Room} {s : State} {m : MethodId} {args : Array Value} {below : List Frame} {meth : Method} {c : Code} {H : Heap} {locs : List Loc} {cells slots : Nat} {Q : State → Prop}
variable {pc : Nat} {ls : Array Slot} {rest st0 : List Value} {a : Array Value} {A0 : Nat → Prop} {H0 : Heap} {mc ms : Nat}
theorem g_call {D : va_G} {ws wc : va_W} {f : Option Value → va_W → Prop} (hr : va_Run p l e R s m args below meth c H locs cells slots mc ms (F0 m pc ls st0) rest (gQ D wc f a) (va_A wc H.size)) (hP : va_P D vwCl ws H) (hD : va_D A0 ws) (hS : va_S A0 H0 H locs) (hA : ∀ q, H0.size ≤ q → A0 q) (is : List Nat) (hC : is.map (fun i => ws[i]?) = wc.map some)
    (kk : ∀ (v : Option Value) (w1 : va_W) (H1 : Heap) (locs1 : List Loc), f v w1 → va_P D vwCl (gS ws is w1) H1 → va_D A0 (gS ws is w1) → va_S A0 H0 H1 locs1 → W p l e R s m args below meth c H1 locs1 (cells + mc) (slots + ms) Q (F0 m (pc + 3) ls (v.toList ++ rest))) : W p l e R s m args below meth c H locs cells slots Q (F0 m pc ls st0) := by
  intro T hT X
  obtain ⟨v, st₀, t, T', L, h0, X', hL, e1, e2, ⟨⟨v1, w1, hv, hf, ha, hb⟩, hz, hk⟩, st⟩ := hr T hT X
  cases hv
  rw [h0] at hz hk
  have hfree : ∀ q, va_A wc H.size q → A0 q := va_free hD hS hA is hC
  have hJ := gJoin (H1 := T'.heap) hP hD is hC (fun q h1 h2 => by rw [e1]; exact hk q h1 h2) (by rw [e1]; exact hb) ha
  obtain ⟨t2, a1, b1⟩ := kk v w1 T'.heap (locs ++ L) hf hJ.1 hJ.2
    ⟨Nat.le_trans hS.1 (by rw [e1]; exact hz), fun q h1 h2 => by rw [e1, hk q (Nat.lt_of_lt_of_le h1 hS.1) (fun z => h2 (hfree q z))]; exact hS.2.1 q h1 h2, fun q hq => by
      rcases List.mem_append.mp hq with h | h
      · exact hS.2.2 q h
      · exact hfree _ (hL q h)⟩ T' rfl X'
  exact ⟨t2, st t2 a1, b1⟩
theorem g_call1 {D : va_G} {ws wc w0 : va_W} {v0 : Value} (hr : va_Run p l e R s m args below meth c H locs cells slots 0 0 (F0 m pc ls st0) rest (gQ D wc (gF (some v0) w0) a) (va_A wc H.size)) (hP : va_P D vwCl ws H) (hD : va_D A0 ws) (hS : va_S A0 H0 H locs) (hA : ∀ q, H0.size ≤ q → A0 q) (is : List Nat) (hC : is.map (fun i => ws[i]?) = wc.map some)
    (kk : ∀ (H1 : Heap) (locs1 : List Loc), va_P D vwCl (gS ws is w0) H1 → va_D A0 (gS ws is w0) → va_S A0 H0 H1 locs1 → W p l e R s m args below meth c H1 locs1 cells slots Q (F0 m (pc + 3) ls (v0 :: rest))) : W p l e R s m args below meth c H locs cells slots Q (F0 m pc ls st0) := by
  refine g_call hr hP hD hS hA is hC (fun v w1 H1 locs1 hf h1 h2 h3 => ?_)
  obtain ⟨rfl, rfl⟩ := hf
  exact kk H1 locs1 h1 h2 h3
theorem g_callv {D : va_G} {ws wc w0 : va_W} (hr : va_Run p l e R s m args below meth c H locs cells slots 0 0 (F0 m pc ls st0) rest (gQ D wc (gF none w0) a) (va_A wc H.size)) (hP : va_P D vwCl ws H) (hD : va_D A0 ws) (hS : va_S A0 H0 H locs) (hA : ∀ q, H0.size ≤ q → A0 q) (is : List Nat) (hC : is.map (fun i => ws[i]?) = wc.map some)
    (kk : ∀ (H1 : Heap) (locs1 : List Loc), va_P D vwCl (gS ws is w0) H1 → va_D A0 (gS ws is w0) → va_S A0 H0 H1 locs1 → W p l e R s m args below meth c H1 locs1 cells slots Q (F0 m (pc + 3) ls rest)) : W p l e R s m args below meth c H locs cells slots Q (F0 m pc ls st0) := by
  refine g_call hr hP hD hS hA is hC (fun v w1 H1 locs1 hf h1 h2 h3 => ?_)
  obtain ⟨rfl, rfl⟩ := hf
  exact kk H1 locs1 h1 h2 h3
theorem g_callR {v0 : Value} (hr : va_Run p l e R s m args below meth c H locs cells slots 0 0 (F0 m pc ls st0) rest (gR v0 a) (fun _ => False))
    (kk : W p l e R s m args below meth c H locs cells slots Q (F0 m (pc + 3) ls (v0 :: rest))) : W p l e R s m args below meth c H locs cells slots Q (F0 m pc ls st0) := by
  intro T hT X
  obtain ⟨v, st₀, t, T', L, h0, X', hL, e1, e2, ⟨hv, hh⟩, st⟩ := hr T hT X
  cases hv
  obtain ⟨t2, a1, b1⟩ := kk T' (by rw [e1, hh, h0]) (Stand.forget X' (fun q h => (hL q h).elim))
  exact ⟨t2, st t2 a1, b1⟩
theorem g_callRp {f : Value → Prop} (hr : va_Run p l e R s m args below meth c H locs cells slots 0 0 (F0 m pc ls st0) rest (gRp f a) (fun _ => False))
    (kk : ∀ v, f v → W p l e R s m args below meth c H locs cells slots Q (F0 m (pc + 3) ls (v :: rest))) : W p l e R s m args below meth c H locs cells slots Q (F0 m pc ls st0) := by
  intro T hT X
  obtain ⟨v, st₀, t, T', L, h0, X', hL, e1, e2, ⟨⟨v1, hv, hf⟩, hh⟩, st⟩ := hr T hT X
  cases hv
  obtain ⟨t2, a1, b1⟩ := kk v1 hf T' (by rw [e1, hh, h0]) (Stand.forget X' (fun q h => (hL q h).elim))
  exact ⟨t2, st t2 a1, b1⟩
theorem g_topi {x y : Int32} (h : x = y) (k : W p l e R s m args below meth c H locs cells slots Q (F0 m pc ls (.int y :: rest))) : W p l e R s m args below meth c H locs cells slots Q (F0 m pc ls (.int x :: rest)) := h ▸ k
theorem g_topl {x y : Int64} (h : x = y) (k : W p l e R s m args below meth c H locs cells slots Q (F0 m pc ls (.long y :: rest))) : W p l e R s m args below meth c H locs cells slots Q (F0 m pc ls (.long x :: rest)) := h ▸ k
theorem g_beq {cc : ByteArray} (hx : p.tables.exec = Jvm.exec) (hb : c.code = cc) {b : Bool} {off : Int} {tgt : Nat} (hd : decode cc pc = .ok (.ifCond .eq off, 3)) (ht : (pc : Int) + off = (tgt : Int))
    (kt : ¬ b = true → W p l e R s m args below meth c H locs cells slots Q (F0 m tgt ls rest)) (kf : b = true → W p l e R s m args below meth c H locs cells slots Q (F0 m (pc + 3) ls rest)) : W p l e R s m args below meth c H locs cells slots Q (F0 m pc ls (.int (gB b) :: rest)) :=
  lv_if_eq hx hb hd ht (fun h => kt (gB_z h)) (fun h => kf (gB_t h))
theorem g_bne {cc : ByteArray} (hx : p.tables.exec = Jvm.exec) (hb : c.code = cc) {b : Bool} {off : Int} {tgt : Nat} (hd : decode cc pc = .ok (.ifCond .ne off, 3)) (ht : (pc : Int) + off = (tgt : Int))
    (kt : b = true → W p l e R s m args below meth c H locs cells slots Q (F0 m tgt ls rest)) (kf : ¬ b = true → W p l e R s m args below meth c H locs cells slots Q (F0 m (pc + 3) ls rest)) : W p l e R s m args below meth c H locs cells slots Q (F0 m pc ls (.int (gB b) :: rest)) :=
  lv_if_ne hx hb hd ht (fun h => kt (gB_t h)) (fun h => kf (gB_z h))
-- comparisons of longs and the branch behind them
theorem g_lt {cc : ByteArray} (hx : p.tables.exec = Jvm.exec) (hb : c.code = cc) {x y : Int64} {off : Int} {tgt : Nat} (h1 : decode cc pc = .ok (.lcmp, 1)) (h2 : decode cc (pc + 1) = .ok (.ifCond .lt off, 3)) (ht : ((pc + 1 : Nat) : Int) + off = (tgt : Int))
    (kt : x < y → W p l e R s m args below meth c H locs cells slots Q (F0 m tgt ls rest)) (kf : ¬ x < y → W p l e R s m args below meth c H locs cells slots Q (F0 m (pc + 4) ls rest)) : W p l e R s m args below meth c H locs cells slots Q (F0 m pc ls (.long y :: .long x :: rest)) :=
  W.lcmp hx hb h1 (lv_if_lt hx hb h2 ht (fun h => kt ((lg_cmp_lt x y).mp h)) (fun h => kf (fun z => h ((lg_cmp_lt x y).mpr z))))
theorem g_ge {cc : ByteArray} (hx : p.tables.exec = Jvm.exec) (hb : c.code = cc) {x y : Int64} {off : Int} {tgt : Nat} (h1 : decode cc pc = .ok (.lcmp, 1)) (h2 : decode cc (pc + 1) = .ok (.ifCond .ge off, 3)) (ht : ((pc + 1 : Nat) : Int) + off = (tgt : Int))
    (kt : y ≤ x → W p l e R s m args below meth c H locs cells slots Q (F0 m tgt ls rest)) (kf : ¬ y ≤ x → W p l e R s m args below meth c H locs cells slots Q (F0 m (pc + 4) ls rest)) : W p l e R s m args below meth c H locs cells slots Q (F0 m pc ls (.long y :: .long x :: rest)) :=
  W.lcmp hx hb h1 (lv_if_ge hx hb h2 ht (fun h => kt ((lg_cmp_ge x y).mp h)) (fun h => kf (fun z => h ((lg_cmp_ge x y).mpr z))))
theorem g_gt {cc : ByteArray} (hx : p.tables.exec = Jvm.exec) (hb : c.code = cc) {x y : Int64} {off : Int} {tgt : Nat} (h1 : decode cc pc = .ok (.lcmp, 1)) (h2 : decode cc (pc + 1) = .ok (.ifCond .gt off, 3)) (ht : ((pc + 1 : Nat) : Int) + off = (tgt : Int))
    (kt : y < x → W p l e R s m args below meth c H locs cells slots Q (F0 m tgt ls rest)) (kf : ¬ y < x → W p l e R s m args below meth c H locs cells slots Q (F0 m (pc + 4) ls rest)) : W p l e R s m args below meth c H locs cells slots Q (F0 m pc ls (.long y :: .long x :: rest)) :=
  W.lcmp hx hb h1 (lv_if_gt hx hb h2 ht (fun h => kt ((lg_cmp_gt x y).mp h)) (fun h => kf (fun z => h ((lg_cmp_gt x y).mpr z))))
theorem g_le {cc : ByteArray} (hx : p.tables.exec = Jvm.exec) (hb : c.code = cc) {x y : Int64} {off : Int} {tgt : Nat} (h1 : decode cc pc = .ok (.lcmp, 1)) (h2 : decode cc (pc + 1) = .ok (.ifCond .le off, 3)) (ht : ((pc + 1 : Nat) : Int) + off = (tgt : Int))
    (kt : x ≤ y → W p l e R s m args below meth c H locs cells slots Q (F0 m tgt ls rest)) (kf : ¬ x ≤ y → W p l e R s m args below meth c H locs cells slots Q (F0 m (pc + 4) ls rest)) : W p l e R s m args below meth c H locs cells slots Q (F0 m pc ls (.long y :: .long x :: rest)) :=
  W.lcmp hx hb h1 (lv_if_le hx hb h2 ht (fun h => kt ((lg_cmp_le x y).mp h)) (fun h => kf (fun z => h ((lg_cmp_le x y).mpr z))))
theorem g_eq {cc : ByteArray} (hx : p.tables.exec = Jvm.exec) (hb : c.code = cc) {x y : Int64} {off : Int} {tgt : Nat} (h1 : decode cc pc = .ok (.lcmp, 1)) (h2 : decode cc (pc + 1) = .ok (.ifCond .eq off, 3)) (ht : ((pc + 1 : Nat) : Int) + off = (tgt : Int))
    (kt : x = y → W p l e R s m args below meth c H locs cells slots Q (F0 m tgt ls rest)) (kf : ¬ x = y → W p l e R s m args below meth c H locs cells slots Q (F0 m (pc + 4) ls rest)) : W p l e R s m args below meth c H locs cells slots Q (F0 m pc ls (.long y :: .long x :: rest)) :=
  W.lcmp hx hb h1 (lv_if_eq hx hb h2 ht (fun h => kt ((lg_cmp_eq x y).mp h)) (fun h => kf (fun z => h ((lg_cmp_eq x y).mpr z))))
theorem g_ne {cc : ByteArray} (hx : p.tables.exec = Jvm.exec) (hb : c.code = cc) {x y : Int64} {off : Int} {tgt : Nat} (h1 : decode cc pc = .ok (.lcmp, 1)) (h2 : decode cc (pc + 1) = .ok (.ifCond .ne off, 3)) (ht : ((pc + 1 : Nat) : Int) + off = (tgt : Int))
    (kt : ¬ x = y → W p l e R s m args below meth c H locs cells slots Q (F0 m tgt ls rest)) (kf : x = y → W p l e R s m args below meth c H locs cells slots Q (F0 m (pc + 4) ls rest)) : W p l e R s m args below meth c H locs cells slots Q (F0 m pc ls (.long y :: .long x :: rest)) :=
  W.lcmp hx hb h1 (lv_if_ne hx hb h2 ht (fun h => kt (fun z => h ((lg_cmp_eq x y).mpr z))) (fun h => kf ((lg_cmp_eq x y).mp h)))
end GB
