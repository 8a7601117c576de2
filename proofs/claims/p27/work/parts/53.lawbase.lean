section GLW
def gNc (U : State) : Prop := va_Nc gIAE gIOB U ∧ va_Nc gISE gIOB U ∧ va_Nc gISE gIAE U
theorem gNc.moved {u U : State} (hvm : u.vm.Alike U.vm) (h : gNc u) : gNc U := ⟨h.1.moved hvm, h.2.1.moved hvm, h.2.2.moved hvm⟩
def gPN (D : va_G) (y : Nat → ClassId) (ad : Nat → Nat) (av : List Value) (wc : va_W) (sz : Nat) : Array Value → State → Prop := va_Pc av (fun U => (U.heap.size = sz ∧ va_P D vwCl wc U.heap ∧ gK D y U ∧ va_D (fun _ => True) wc ∧ gE ad (va_A wc sz) U U.heap) ∧ gNc U)
theorem gPN_blind {D : va_G} {y : Nat → ClassId} {ad : Nat → Nat} {av : List Value} {wc : va_W} {sz : Nat} : FrameBlind (gPN D y ad av wc sz) := fun a U g mk q => ⟨q.1, ⟨q.2.1.1, q.2.1.2.1, gK.calling g mk a q.2.1.2.2.1, q.2.1.2.2.2.1, gE.calling g mk a q.2.1.2.2.2.2⟩, gNc.moved (u := U) (U := U.calling g mk a) (Vm.Alike.refl U.vm) q.2.2⟩
variable {p : Program} {l : Launch} {e : Env} {R : Room} {s : State} {m : MethodId} {args : Array Value} {below : List Frame} {meth : Method} {c : Code} {H : Heap} {locs : List Loc} {cells slots : Nat} {Q : State → Prop}
variable {cc : ByteArray} {pc : Nat} {ls : Array Slot} {rest st0 : List Value} {a : Array Value} {A : Nat → Prop} {H0 : Heap} {D : va_G} {y : Nat → ClassId} {ws wc : va_W}
theorem gPN_SA {ad : Nat → Nat} {As : List Value} (hP : va_P D vwCl ws H) (hD : va_D A ws) (hK : gK D y s) (hE : gE ad A s s.heap) (hN : gNc s) (hS : va_S A s.heap H locs) (hA : ∀ q, s.heap.size ≤ q → A q) : PreS s H (gPN D y ad As ws H.size) As :=
  ⟨gPN_blind, fun U hU hW => ⟨rfl, ⟨by rw [hU], by rw [hU]; exact hP, hK.warm hW, hD.weaken (fun _ _ _ _ => trivial), gE_at hE hD hS hA hU hW⟩, hN.moved hW.alike⟩⟩
theorem gMet_ofWH {y : MethodName} {ws ws' : List Cond} {rm : Room} {Pc : Array Value → State → Prop} {Qc : Array Value → State → Outcome → State → Prop} {mc ms : Nat} {free : Addr → Prop} {cc : ByteArray} {maxL : Nat} {ret : Option FieldType} {hh : List (Nat × Nat × Nat × Nat)}
    (hy : plainName y.cls = true) (hw : ws = Cond.codeWith y cc maxL ret hh :: ws')
    (body : ∀ p e s m args below meth c s₁, BodyLoose p l y (headSpec ws rm) cc maxL ret e s m args below meth c s₁ → c.maxLocals = maxL → Pc args s →
      W p l e (headSpec ws rm).room s m args below meth c s.heap [] 0 0 (MQ below Qc args s mc ms free) (entryFrame m args maxL)) : Met l y ws rm Pc Qc mc ms free := by
  refine MetFree.of_bodyS (code := cc) (maxLocals := maxL) (ret := ret) hy ?_ ?_
  · intro args s m h hn
    obtain ⟨m9, meth, c, hn9, h1, h2, h3, h4, -, h5, h6, -⟩ := Cond.codeWith_spec (atoms_spec (ws := ws) h _ (by rw [hw]; exact List.mem_cons_self))
    cases hn.symm.trans hn9
    exact ⟨meth, c, h1, h2, h3, h4, h5, h6⟩
  · intro p e s m args below meth c s₁ B hml hP _
    have hh0 : s₁.heap = s.heap := by rw [B.state]; rfl
    obtain ⟨t, a1, o, b1, b2, b3⟩ := body p e s m args below meth c s₁ B hml hP s₁ hh0 (Stand.of_body B)
    exact ⟨t, o, a1, b1, b2, ⟨b3.1, b3.2⟩⟩
theorem g_catch {f : va_W → Prop} {mc ms : Nat} {E own name : String} (hr : vx_Run p l e R s m args below meth c H locs cells slots mc ms (F0 m pc ls st0) rest (gNo a) (gXC D wc E f) (va_A wc H.size)) (hP : va_P D vwCl (ws ++ wc) H) (hD : va_D A (ws ++ wc)) (hS : va_S A H0 H locs) (hA : ∀ q, H0.size ≤ q → A q)
    (hown : s.vm.findClass own = some m.cls) (pre : List ExceptionTableEntry) (x : ExceptionTableEntry) (suf : List ExceptionTableEntry) (hsplit : c.exceptionTable.toList = pre ++ x :: suf)
    (hpass : ∀ z ∈ pre, covers z pc = false ∨ (z.catchType ≠ 0 ∧ ∃ nm : String, (Cond.classLink own z.catchType nm).before args s = true ∧ va_Nc E nm s)) (hx : covers x pc = true) (h0 : x.catchType ≠ 0)
    (hlink : (Cond.classLink own x.catchType name).before args s = true) (hcast : (Cond.castable E name).before args s = true)
    (kk : ∀ (q : Nat) (w1 : va_W) (H1 : Heap) (locs1 : List Loc), f w1 → va_P D vwCl (ws ++ w1) H1 → va_D A (ws ++ w1) → va_S A H0 H1 locs1 → W p l e R s m args below meth c H1 locs1 (cells + mc) (slots + ms) Q (F0 m x.handlerPc ls [.ref q])) : W p l e R s m args below meth c H locs cells slots Q (F0 m pc ls st0) := by
  intro T hT X
  rcases hr T hT X with ⟨v, st₀, t, T', L, h0', X', hL, e1, e2, hf, st⟩ | ⟨q, st₀, t, T', L, E', ce, h0', X', hL, e1, e2, hxc, hce, hcv, hcl, st⟩
  · exact hf.elim
  · obtain ⟨rfl, ⟨w1, hw1, ha, hp1⟩, hz, hk⟩ := hxc
    rw [h0'] at hz hk
    have hfree : ∀ q, va_A wc H.size q → A q := fun q h => by
      rcases h with ⟨k, e, h⟩ | h
      · exact hD.2 (ws.length + k) (q, e) (by rw [List.getElem?_append_right (by omega), show ws.length + k - ws.length = k by omega]; exact h)
      · exact hA q (Nat.le_trans hS.1 h)
    have hl : ∀ (k : Nat) (q : Nat × va_E), ws[k]? = some q → (ws ++ wc)[k]? = some q := fun k q h => by rw [List.getElem?_append_left (List.getElem?_eq_some_iff.mp h).1]; exact h
    have hap : ∀ (k : Nat) (q : Nat × va_E), ws[k]? = some q → q.1 < H.size ∧ ¬ va_A wc H.size q.1 := by
      intro k q h
      have h1 := (hP k q (hl k q h)).lt
      refine ⟨h1, fun z => ?_⟩
      rcases z with ⟨j, e, z⟩ | z
      · have h2 := hD.1 k (ws.length + j) q (q.1, e) (hl k q h) (by rw [List.getElem?_append_right (by omega), show ws.length + j - ws.length = j by omega]; exact z) rfl
        have h3 := (List.getElem?_eq_some_iff.mp h).1
        omega
      · omega
    have hPl : va_P D vwCl ws T'.heap := fun k q h => by
      rw [e1]
      exact (hP k q (hl k q h)).kept (hk q.1 (hap k q h).1 (hap k q h).2)
    have hDl : va_D A ws := ⟨fun i j x z hi hj => hD.1 i j x z (hl i x hi) (hl j z hj), fun k q h => hD.2 k q (hl k q h)⟩
    have hd1 : va_D (va_A wc H.size) w1 := gAll_D ((va_D_r hD).self) ha
    have hS1 : va_S A H0 T'.heap (locs ++ L) := ⟨Nat.le_trans hS.1 (by rw [e1]; exact hz), fun q h1 h2 => by rw [e1, hk q (Nat.lt_of_lt_of_le h1 hS.1) (fun z => h2 (hfree q z))]; exact hS.2.1 q h1 h2, fun q hq => by
        rcases List.mem_append.mp hq with h | h
        · exact hS.2.2 q h
        · exact hfree _ (hL q h)⟩
    have K : vx_W p l e R s m args below meth c T'.heap (locs ++ L) (cells + mc) (slots + ms) Q (F0 m pc ls rest) q :=
      vx_catch hown pre x suf hsplit hpass hx h0 hlink hcast (by rw [e1]; exact hce) hcv hcl (kk q w1 T'.heap (locs ++ L) hw1 (va_P.app hPl (by rw [e1]; exact hp1)) (va_D.app hDl (hd1.weaken (fun _ q _ h => hfree q.1 h)) (fun i j x z hx hz2 hxz => (hap i x hx).2 (by rw [hxz]; exact hd1.2 j z hz2))) hS1)
    obtain ⟨t2, a1, b1⟩ := K T' rfl X'
    exact ⟨t2, st.trans a1, b1⟩
end GLW
