section GX
def gIAE : String := "java/lang/IllegalArgumentException"
def gISE : String := "java/lang/IllegalStateException"
def gIOB : String := "java/lang/IndexOutOfBoundsException"
def gNm : List String := ["java/lang/RuntimeException", "java/lang/Exception"]
def gXs : List (Nat × String) := [(136, "the signs at both are not unlike"), (192, "the decimal is not sure"), (205, "nothing is told"), (215, "the quotient is not sure"), (223, "all digits are emitted"), (234, "no digit is sure at any place"), (247, "an argument is out of its range"), (250, "there are 40 programs"), (254, "there is no such program"), (257, "there is no interval")]
def gTens (j : Nat) : Value := .long (match j with
  | 0 => 1
  | 1 => 10
  | 2 => 100
  | 3 => 1000
  | 4 => 10000
  | 5 => 100000
  | 6 => 1000000
  | _ => 10000000)
def gSw (j : Nat) : Value := .int (match j with
  | 1 => 1
  | 2 => 2
  | 3 => 3
  | 4 => 4
  | 5 => 5
  | 6 => 6
  | 7 => 7
  | _ => 0)
def gKn (i : Nat) : String := match i with
  | 0 => "RATIO"
  | 1 => "SUM"
  | 2 => "DIFFERENCE"
  | 3 => "PRODUCT"
  | 4 => "GREATER"
  | 5 => "INVERSE"
  | 6 => "ROOT"
  | 7 => "EXP"
  | _ => "ZERO"
/-- the words of a throw that a warmed machine keeps for reasons of their own -/
def gXB : List Cond := [.declares (Bundle.initS "java/lang/RuntimeException"), .declares (Bundle.initS "java/lang/Exception"), .declares (Bundle.initS Bundle.tN), .castable gIAE gIAE, .castable gISE gISE, .castable gIOB gIOB]
theorem gXB_warm {s U : State} (hW : s.WarmedH U.vm) (h : ∀ w ∈ gXB, va_Nw w s) : ∀ w ∈ gXB, va_Nw w U := by
  intro w hw
  have h2 := h w hw
  simp only [gXB, List.mem_cons, List.not_mem_nil, or_false] at hw
  rcases hw with rfl | rfl | rfl | rfl | rfl | rfl
  · exact va_Nw.warmD hW h2
  · exact va_Nw.warmD hW h2
  · exact va_Nw.warmD hW h2
  · exact va_Nw.warmC hW h2
  · exact va_Nw.warmC hW h2
  · exact va_Nw.warmC hW h2
theorem gXB_tabs : ∀ w ∈ gXB, w.onTables = true := by
  intro w hw
  simp only [gXB, List.mem_cons, List.not_mem_nil, or_false] at hw
  rcases hw with rfl | rfl | rfl | rfl | rfl | rfl <;> rfl
/-- what the start gives of statics: none of it lies in A -/
def gE (ad : Nat → Nat) (A : Nat → Prop) (U : State) (H : Heap) : Prop :=
  (vx_Zq Bundle.tN "UNASSIGNED_STACK" Bundle.steD A U H ∧ vx_Zq Bundle.tN "SUPPRESSED_SENTINEL" Bundle.listD A U H) ∧
  (∀ w ∈ gXB, va_Nw w U) ∧
  (∀ w ∈ gXs, ∃ a : Nat, vk_R RX7 w.1 w.2 a U) ∧
  (va_Z "Nestlimit" "TENS" "[J" (.ref (ad 9)) A U H ∧ va_T .long (ad 9) 8 gTens A U H) ∧
  (va_Z "Nestlimit$1" "$SwitchMap$Nestlimit$Kind" "[I" (.ref (ad 10)) A U H ∧ va_T .int (ad 10) 9 gSw A U H) ∧
  ∀ i : Nat, i < 9 → va_Z "Nestlimit$Kind" (gKn i) "LNestlimit$Kind;" (.ref (ad i)) A U H ∧ va_O "Nestlimit$Kind" (ad i) A U H ∧ va_OF "java/lang/Enum" "ordinal" "I" (.int (nI i)) (ad i) A U H
theorem gE.kept {ad : Nat → Nat} {A : Nat → Prop} {U : State} {H H1 : Heap} (h : gE ad A U H) (hq : ∀ a : Nat, a < H.size → ¬ A a → H1[a]? = H[a]?) : gE ad A U H1 := by
  obtain ⟨⟨a1, a2⟩, b, c, ⟨d1, d2⟩, ⟨e1, e2⟩, f⟩ := h
  exact ⟨⟨a1.kept hq, a2.kept hq⟩, b, c, ⟨d1.kept hq, d2.kept hq⟩, ⟨e1.kept hq, e2.kept hq⟩, fun i hi => ⟨(f i hi).1.kept hq, (f i hi).2.1.kept hq, (f i hi).2.2.kept hq⟩⟩
theorem gE.narrow {ad : Nat → Nat} {A B : Nat → Prop} {U : State} {H : Heap} (h : gE ad A U H) (hAB : ∀ q, B q → A q) : gE ad B U H := by
  obtain ⟨⟨a1, a2⟩, b, c, ⟨d1, d2⟩, ⟨e1, e2⟩, f⟩ := h
  exact ⟨⟨a1.narrow hAB, a2.narrow hAB⟩, b, c, ⟨d1.narrow hAB, d2.narrow hAB⟩, ⟨e1.narrow hAB, e2.narrow hAB⟩, fun i hi => ⟨(f i hi).1.narrow hAB, (f i hi).2.1.narrow hAB, (f i hi).2.2.narrow hAB⟩⟩
theorem gE.warm {ad : Nat → Nat} {A : Nat → Prop} {s U : State} {H : Heap} (hW : s.WarmedH U.vm) (h : gE ad A s H) : gE ad A U H := by
  obtain ⟨⟨a1, a2⟩, b, c, ⟨d1, d2⟩, ⟨e1, e2⟩, f⟩ := h
  refine ⟨⟨a1.moved hW.alike, a2.moved hW.alike⟩, gXB_warm hW b, fun w hw => ?_, ⟨d1.moved hW.alike, d2.moved hW.alike⟩, ⟨e1.moved hW.alike, e2.moved hW.alike⟩, fun i hi => ⟨(f i hi).1.moved hW.alike, (f i hi).2.1.moved hW.alike, (f i hi).2.2.moved hW.alike⟩⟩
  obtain ⟨a, ha⟩ := c w hw
  exact ⟨a, vk_R.warm hW ha⟩
theorem gE.calling {ad : Nat → Nat} {A : Nat → Prop} {U : State} (g : JFrame) (mk : MethodId) (a : Array Value) (h : gE ad A U U.heap) : gE ad A (U.calling g mk a) (U.calling g mk a).heap := by
  obtain ⟨⟨a1, a2⟩, b, c, ⟨d1, d2⟩, ⟨e1, e2⟩, f⟩ := h
  have hal : U.vm.Alike (U.calling g mk a).vm := Vm.Alike.refl U.vm
  refine ⟨⟨a1.moved hal, a2.moved hal⟩, fun w hw => va_Nw.same (u := U) (U := U.calling g mk a) (gXB_tabs w hw) rfl (b w hw), fun w hw => ?_, ⟨d1.moved hal, d2.moved hal⟩, ⟨e1.moved hal, e2.moved hal⟩, fun i hi => ⟨(f i hi).1.moved hal, (f i hi).2.1.moved hal, (f i hi).2.2.moved hal⟩⟩
  obtain ⟨z, hz⟩ := c w hw
  exact ⟨z, vk_R.same (u := U) (U := U.calling g mk a) rfl hz⟩
/-- a start of a method of the class itself -/
def gPX (D : va_G) (y : Nat → ClassId) (ad : Nat → Nat) (av : List Value) (wc : va_W) (sz : Nat) : Array Value → State → Prop := va_Pc av (fun U => U.heap.size = sz ∧ va_P D vwCl wc U.heap ∧ gK D y U ∧ va_D (fun _ => True) wc ∧ gE ad (va_A wc sz) U U.heap)
theorem gPX_blind {D : va_G} {y : Nat → ClassId} {ad : Nat → Nat} {av : List Value} {wc : va_W} {sz : Nat} : FrameBlind (gPX D y ad av wc sz) := fun a _ g mk q => ⟨q.1, q.2.1, q.2.2.1, gK.calling g mk a q.2.2.2.1, q.2.2.2.2.1, gE.calling g mk a q.2.2.2.2.2⟩
theorem gE_at {ad : Nat → Nat} {A : Nat → Prop} {s U : State} {H : Heap} {locs : List Loc} {ws : va_W} (hE : gE ad A s s.heap) (hD : va_D A ws) (hS : va_S A s.heap H locs) (hA : ∀ q, s.heap.size ≤ q → A q) (hU : U.heap = H) (hW : s.WarmedH U.vm) : gE ad (va_A ws H.size) U U.heap := by
  rw [hU]
  refine ((hE.kept hS.2.1).narrow (fun q h => ?_)).warm hW
  rcases h with ⟨k, e, h⟩ | h
  · exact hD.2 k (q, e) h
  · exact hA q (Nat.le_trans hS.1 h)
/-- a throw: the class by its name, the world -/
def gXC (D : va_G) (ws : va_W) (E : String) (f : va_W → Prop) : String → State → State → Prop := fun E' st t => E' = E ∧ (∃ w1 : va_W, f w1 ∧ w1.map Prod.fst = ws.map Prod.fst ∧ va_P D vwCl w1 t.heap) ∧ va_F (va_A ws st.heap.size) st t
def gNo : Array Value → State → Outcome → State → Prop := fun _ _ _ _ => False
theorem gAt_iae : ∀ w ∈ (vx_atS RX7 249 gIAE gNm).filter (fun w => !goodWord w), w ∈ gXB := by decide +kernel
theorem gAt_ise : ∀ w ∈ (vx_atS RX7 138 gISE gNm).filter (fun w => !goodWord w), w ∈ gXB := by decide +kernel
theorem gAt_iob : ∀ w ∈ (vx_atS RX7 256 gIOB gNm).filter (fun w => !goodWord w), w ∈ gXB := by decide +kernel
theorem gOt_iae : ∀ w ∈ Cond.classLink RX7 245 gIAE :: Cond.initialized gIAE :: vx_atS RX7 249 gIAE gNm, vx_ot w = true := by decide +kernel
theorem gOt_ise : ∀ w ∈ Cond.classLink RX7 134 gISE :: Cond.initialized gISE :: vx_atS RX7 138 gISE gNm, vx_ot w = true := by decide +kernel
theorem gOt_iob : ∀ w ∈ Cond.classLink RX7 252 gIOB :: Cond.initialized gIOB :: vx_atS RX7 256 gIOB gNm, vx_ot w = true := by decide +kernel
variable {p : Program} {l : Launch} {e : Env} {R : Room} {s : State} {m : MethodId} {args : Array Value} {below : List Frame} {meth : Method} {c : Code} {H : Heap} {locs : List Loc} {cells slots : Nat} {Q : State → Prop}
variable {pc : Nat} {ls : Array Slot} {rest st0 : List Value} {a : Array Value} {A : Nat → Prop}
theorem gPX_SA {D : va_G} {y : Nat → ClassId} {ad : Nat → Nat} {ws : va_W} {As : List Value} (hP : va_P D vwCl ws H) (hD : va_D A ws) (hK : gK D y s) (hE : gE ad A s s.heap) (hS : va_S A s.heap H locs) (hA : ∀ q, s.heap.size ≤ q → A q) : PreS s H (gPX D y ad As ws H.size) As :=
  ⟨gPX_blind, fun U hU hW => ⟨rfl, by rw [hU], by rw [hU]; exact hP, hK.warm hW, hD.weaken (fun _ _ _ _ => trivial), gE_at hE hD hS hA hU hW⟩⟩
theorem gPX_S0 {D : va_G} {y : Nat → ClassId} {ad : Nat → Nat} {As : List Value} (hK : gK D y s) (hE : gE ad A s s.heap) (hS : va_S A s.heap H locs) (hA : ∀ q, s.heap.size ≤ q → A q) : PreS s H (gPX D y ad As [] H.size) As :=
  ⟨gPX_blind, fun U hU hW => ⟨rfl, by rw [hU], (fun k q h => by simp at h), hK.warm hW, ⟨fun i j p q h => by simp at h, fun k q h => by simp at h⟩, gE_at hE ⟨fun i j p q h => by simp at h, fun k q h => by simp at h⟩ hS hA hU hW⟩⟩
theorem gPX_VA {D : va_G} {y : Nat → ClassId} {ad : Nat → Nat} {ws : va_W} {As : List Value} {b : Nat} {C : String} (hP : va_P D vwCl ws H) (hD : va_D A ws) (hK : gK D y s) (hE : gE ad A s s.heap) (hS : va_S A s.heap H locs) (hA : ∀ q, s.heap.size ≤ q → A q)
    (q0 : Nat) {ci : Nat} {fs : List Value} {T : u_T} {N : Nat} (he : ws[q0]? = some (b, .inr (ci, fs))) (hc : vwCl[ci]? = some (C, T, N)) : PreV s H C b (gPX D y ad (.ref b :: As) ws H.size) As :=
  ⟨gPX_blind, va_recv hK.1 hP (ci := ci) (q0 := q0) hc he, fun U hU hW => ⟨rfl, by rw [hU], by rw [hU]; exact hP, hK.warm hW, hD.weaken (fun _ _ _ _ => trivial), gE_at hE hD hS hA hU hW⟩⟩
theorem g_xc {D : va_G} {ws0 w : va_W} {E : String} {f : va_W → Prop} (hAe : A = va_A ws0 s.heap.size) (hP : va_P D vwCl w H) (hS : va_S A s.heap H locs) (hf : f w) (hfst : w.map Prod.fst = ws0.map Prod.fst) : ∀ t : State, s.vm.Alike t.vm → H.size ≤ t.heap.size → (∀ q : Nat, q < H.size → t.heap[q]? = H[q]?) → gXC D ws0 E f E s t := by
  intro t _ h1 h2
  refine ⟨rfl, ⟨w, hf, hfst, hP.kept (fun k q hk => h2 q.1 (hP k q hk).lt)⟩, Nat.le_trans hS.1 h1, fun q hq hnA => ?_⟩
  rw [h2 q (Nat.lt_of_lt_of_le hq hS.1)]
  exact hS.2.1 q hq (by rw [hAe]; exact hnA)
theorem gE.str {ad : Nat → Nat} {U : State} (h : gE ad A U H) (k : Nat) {i : Nat} {t : String} (hk : gXs[k]? = some (i, t)) : ∃ a : Nat, vk_R RX7 i t a U := h.2.2.1 (i, t) (List.mem_of_getElem? hk)
theorem gE.cw {ad : Nat → Nat} {U : State} {args : Array Value} (h : gE ad A U H) : ∀ w ∈ gXB, w.before args U = true := fun w hw => va_Nw.use (gXB_tabs w hw) (h.2.1 w hw)
/-- behind a call that threw: out of this method too -/
theorem g_outX {D : va_G} {ws ws0 : va_W} {E : String} {f f0 : va_W → Prop} {Qc : Array Value → State → Outcome → State → Prop} (hr : vx_Run p l e R s m args below meth c H locs cells slots 1 6 (F0 m pc ls st0) rest (gNo a) (gXC D ws E f) (va_A ws H.size)) (hAe : A = va_A ws0 s.heap.size) (hD : va_D A ws) (hS : va_S A s.heap H locs) (hA : ∀ q, s.heap.size ≤ q → A q)
    (hE2 : ∀ w1, f w1 → f0 w1) (hfst : ws.map Prod.fst = ws0.map Prod.fst) (hout : ∀ x ∈ c.exceptionTable.toList, False) (hlocks : meth.locks = false) (hc : cells + 1 ≤ 1) (hs : slots + 6 ≤ 6) :
    W p l e R s m args below meth c H locs cells slots (vx_MQ below Qc (gXC D ws0 E f0) args s 1 6 (va_A ws0 s.heap.size)) (F0 m pc ls st0) := by
  intro T hT X
  have hfree : ∀ q, va_A ws H.size q → A q := fun q h => by
    rcases h with ⟨k, e, h⟩ | h
    · exact hD.2 k (q, e) h
    · exact hA q (Nat.le_trans hS.1 h)
  rcases hr T hT X with ⟨v, st₀, t, T', L, h0, X', hL, e1, e2, hf, st⟩ | ⟨q, st₀, t, T', L, E', ce, h0, X', hL, e1, e2, hx, hce, hcv, hcl, st⟩
  · exact hf.elim
  · obtain ⟨rfl, ⟨w1, hw1, ha, hp1⟩, hz, hk⟩ := hx
    rw [h0] at hz hk
    have hS1 : va_S A s.heap T'.heap (locs ++ L) := ⟨Nat.le_trans hS.1 (by rw [e1]; exact hz), fun q h1 h2 => by rw [e1, hk q (Nat.lt_of_lt_of_le h1 hS.1) (fun z => h2 (hfree q z))]; exact hS.2.1 q h1 h2, fun q hq => by
      rcases List.mem_append.mp hq with h | h
      · exact hS.2.2 q h
      · exact hfree _ (hL q h)⟩
    have K : vx_W p l e R s m args below meth c T'.heap (locs ++ L) (cells + 1) (slots + 6) (vx_MQ below Qc (gXC D ws0 E' f0) args s 1 6 (va_A ws0 s.heap.size)) (F0 m pc ls rest) q :=
      vx_out (fun x hx => (hout x hx).elim) hlocks (by rw [e1]; exact hce) hcv hcl (fun t2 ht2 _ => ⟨rfl, ⟨w1, hE2 w1 hw1, ha.trans hfst, by rw [ht2, e1]; exact hp1⟩, by rw [ht2]; exact hS1.1, fun q hq hnA => by rw [ht2]; exact hS1.2.1 q hq (by rw [hAe]; exact hnA)⟩) (fun z hz => by rw [← hAe]; exact hS1.2.2 z hz) hc hs
    obtain ⟨t2, a1, b1⟩ := K T' rfl X'
    exact ⟨t2, st.trans a1, b1⟩
/-- .. of a method that has no world -/
theorem g_outS {D : va_G} {ws ws0 : va_W} {E : String} {f0 : va_W → Prop} {Qc : Array Value → State → Outcome → State → Prop} (hr : vx_Run p l e R s m args below meth c H locs cells slots 1 6 (F0 m pc ls st0) rest (gNo a) (gXC D [] E (fun w => w = [])) (va_A [] H.size)) (hAe : A = va_A ws0 s.heap.size) (hP : va_P D vwCl ws H) (hS : va_S A s.heap H locs) (hA : ∀ q, s.heap.size ≤ q → A q)
    (hE2 : f0 ws) (hfst : ws.map Prod.fst = ws0.map Prod.fst) (hout : ∀ x ∈ c.exceptionTable.toList, False) (hlocks : meth.locks = false) (hc : cells + 1 ≤ 1) (hs : slots + 6 ≤ 6) :
    W p l e R s m args below meth c H locs cells slots (vx_MQ below Qc (gXC D ws0 E f0) args s 1 6 (va_A ws0 s.heap.size)) (F0 m pc ls st0) := by
  intro T hT X
  have hfree : ∀ q, va_A [] H.size q → A q := fun q h => by
    rcases h with ⟨k, e, h⟩ | h
    · simp at h
    · exact hA q (Nat.le_trans hS.1 h)
  rcases hr T hT X with ⟨v, st₀, t, T', L, h0, X', hL, e1, e2, hf, st⟩ | ⟨q, st₀, t, T', L, E', ce, h0, X', hL, e1, e2, hx, hce, hcv, hcl, st⟩
  · exact hf.elim
  · obtain ⟨rfl, ⟨w1, hw1, ha, hp1⟩, hz, hk⟩ := hx
    rw [h0] at hz hk
    have hS1 : va_S A s.heap T'.heap (locs ++ L) := ⟨Nat.le_trans hS.1 (by rw [e1]; exact hz), fun q h1 h2 => by rw [e1, hk q (Nat.lt_of_lt_of_le h1 hS.1) (fun z => h2 (hfree q z))]; exact hS.2.1 q h1 h2, fun q hq => by
      rcases List.mem_append.mp hq with h | h
      · exact hS.2.2 q h
      · exact hfree _ (hL q h)⟩
    have hP1 : va_P D vwCl ws T'.heap := hP.kept (fun k q hq => by
      rw [e1]
      refine hk q.1 (hP k q hq).lt (fun z => ?_)
      rcases z with ⟨k2, e, z⟩ | z
      · simp at z
      · exact absurd (hP k q hq).lt (Nat.not_lt.mpr z))
    have K : vx_W p l e R s m args below meth c T'.heap (locs ++ L) (cells + 1) (slots + 6) (vx_MQ below Qc (gXC D ws0 E' f0) args s 1 6 (va_A ws0 s.heap.size)) (F0 m pc ls rest) q :=
      vx_out (fun x hx => (hout x hx).elim) hlocks (by rw [e1]; exact hce) hcv hcl (fun t2 ht2 _ => ⟨rfl, ⟨ws, hE2, hfst, by rw [ht2]; exact hP1⟩, by rw [ht2]; exact hS1.1, fun q hq hnA => by rw [ht2]; exact hS1.2.1 q hq (by rw [hAe]; exact hnA)⟩) (fun z hz => by rw [← hAe]; exact hS1.2.2 z hz) hc hs
    obtain ⟨t2, a1, b1⟩ := K T' rfl X'
    exact ⟨t2, st.trans a1, b1⟩
end GX
