abbrev wXo (oa : Nat) (of : Nat → Int64) (y : Nat → ClassId) (ad : Nat → Nat) (h : Nat) (q : Nat → Nat) (mn : Nat) (pg : Nat → Option Nat) (n : Nat) (b1 : Bool) (l1 r1 : Int64) (b2 : Bool) (l2 r2 : Int64) (b3 : Bool) (l3 r3 : Int64) (uz : Nat → Bool) (ul uh : Nat → Int64) (f1 g1 f2 g2 : Int64) (pa : Nat → Nat → Nat) (kd : Nat → Nat) (on ot : Nat → Int32) (pt : Nat → Int64) (fb : Nat → Nat → Bool) (fl fh : Nat → Nat → Int64) (tb : Nat → Nat → Bool) (tl th : Nat → Nat → Int64) (dg : Nat → Int32) (ds : Nat → Int64) : va_W := [(oa, .inl (y 1, 1, .inr (.inl of)))] ++ wX y h q mn pg b1 l1 r1 b2 l2 r2 b3 l3 r3 uz ul uh f1 g1 f2 g2 (gPL (pcX y ad pa kd on ot pt fb fl fh tb tl th dg ds) n)
section GLW
def gNc (U : State) : Prop := va_Nc gIAE gIOB U ∧ va_Nc gISE gIOB U ∧ va_Nc gISE gIAE U
theorem gNc.moved {u U : State} (hvm : u.vm.Alike U.vm) (h : gNc u) : gNc U := ⟨h.1.moved hvm, h.2.1.moved hvm, h.2.2.moved hvm⟩
def gPN (D : va_G) (y : Nat → ClassId) (ad : Nat → Nat) (av : List Value) (wc : va_W) (sz : Nat) : Array Value → State → Prop := va_Pc av (fun U => (U.heap.size = sz ∧ va_P D vwCl wc U.heap ∧ gK D y U ∧ va_D (fun _ => True) wc ∧ gE ad (va_A wc sz) U U.heap) ∧ gNc U)
theorem gPN_blind {D : va_G} {y : Nat → ClassId} {ad : Nat → Nat} {av : List Value} {wc : va_W} {sz : Nat} : FrameBlind (gPN D y ad av wc sz) := fun a U g mk q => ⟨q.1, ⟨q.2.1.1, q.2.1.2.1, gK.calling g mk a q.2.1.2.2.1, q.2.1.2.2.2.1, gE.calling g mk a q.2.1.2.2.2.2⟩, gNc.moved (u := U) (U := U.calling g mk a) (Vm.Alike.refl U.vm) q.2.2⟩
variable {p : Program} {l : Launch} {e : Env} {R : Room} {s : State} {m : MethodId} {args : Array Value} {below : List Frame} {meth : Method} {c : Code} {H : Heap} {locs : List Loc} {cells slots : Nat} {Q : State → Prop}
variable {cc : ByteArray} {pc : Nat} {ls : Array Slot} {rest st0 : List Value} {a : Array Value} {A : Nat → Prop} {H0 : Heap} {D : va_G} {y : Nat → ClassId} {ws wc : va_W}
theorem gPN_SA {ad : Nat → Nat} {As : List Value} (hP : va_P D vwCl ws H) (hD : va_D A ws) (hK : gK D y s) (hE : gE ad A s s.heap) (hN : gNc s) (hS : va_S A s.heap H locs) (hA : ∀ q, s.heap.size ≤ q → A q) : PreS s H (gPN D y ad As ws H.size) As :=
  ⟨gPN_blind, fun U hU hW => ⟨rfl, ⟨by rw [hU], by rw [hU]; exact hP, hK.warm hW, hD.weaken (fun _ _ _ _ => trivial), gE_at hE hD hS hA hU hW⟩, hN.moved hW.alike⟩⟩
theorem gMet_ofWH {y : MethodName} {ws ws' : List Cond} {rm : Room} {Pc : Array Value → State → Prop} {Qc : Array Value → State → Outcome → State → Prop} {mc ms : Nat} {free : Addr → Prop} {cc : ByteArray} {maxL : Nat} {ret : Option FieldType} {hh : List (Nat × Nat × Nat × Nat)}
    (hy : plainName y.cls = true) (hw : ws = Cond.codeWith y cc maxL ret hh :: ws')
    (body : ∀ p e s m args below meth c s₁, BodyLoose p l y (headSpec ws rm) cc maxL ret e s m args below meth c s₁ → c.maxLocals = maxL → Pc args s →
      W p l e (headSpec ws rm).room s m args below meth c s.heap [] 0 0 (MQ below Qc args s mc ms free) (entryFrame m args maxL)) : Met l y ws rm Pc Qc mc ms free := by
  refine MetFree.of_bodyS (code := cc) (maxLocals := maxL) (ret := ret) hy ?_ ?_
  · intro args s m h hn
    obtain ⟨m9, meth, c, hn9, h1, h2, h3, h4, -, h5, h6, -⟩ := Cond.codeWith_spec (atoms_spec (ws := ws) h _ (by rw [hw]; exact List.mem_cons_self))
    cases hn.symm.trans hn9
    exact ⟨meth, c, h1, h2, h3, h4, h5, h6⟩
  · intro p e s m args below meth c s₁ B hml hP _
    have hh0 : s₁.heap = s.heap := by rw [B.state]; rfl
    obtain ⟨t, a1, o, b1, b2, b3⟩ := body p e s m args below meth c s₁ B hml hP s₁ hh0 (Stand.of_body B)
    exact ⟨t, o, a1, b1, b2, ⟨b3.1, b3.2⟩⟩
theorem g_catch {f : va_W → Prop} {mc ms : Nat} {E own name : String} (hr : vx_Run p l e R s m args below meth c H locs cells slots mc ms (F0 m pc ls st0) rest (gNo a) (gXC D wc E f) (va_A wc H.size)) (hP : va_P D vwCl (ws ++ wc) H) (hD : va_D A (ws ++ wc)) (hS : va_S A H0 H locs) (hA : ∀ q, H0.size ≤ q → A q)
    (hown : s.vm.findClass own = some m.cls) (pre : List ExceptionTableEntry) (x : ExceptionTableEntry) (suf : List ExceptionTableEntry) (hsplit : c.exceptionTable.toList = pre ++ x :: suf)
    (hpass : ∀ z ∈ pre, covers z pc = false ∨ (z.catchType ≠ 0 ∧ ∃ nm : String, (Cond.classLink own z.catchType nm).before args s = true ∧ va_Nc E nm s)) (hx : covers x pc = true) (h0 : x.catchType ≠ 0)
    (hlink : (Cond.classLink own x.catchType name).before args s = true) (hcast : (Cond.castable E name).before args s = true)
    (kk : ∀ (q : Nat) (w1 : va_W) (H1 : Heap) (locs1 : List Loc), f w1 → va_P D vwCl (ws ++ w1) H1 → va_D A (ws ++ w1) → va_S A H0 H1 locs1 → W p l e R s m args below meth c H1 locs1 (cells + mc) (slots + ms) Q (F0 m x.handlerPc ls [.ref q])) : W p l e R s m args below meth c H locs cells slots Q (F0 m pc ls st0) := by
  intro T hT X
  rcases hr T hT X with ⟨v, st₀, t, T', L, h0', X', hL, e1, e2, hf, st⟩ | ⟨q, st₀, t, T', L, E', ce, h0', X', hL, e1, e2, hxc, hce, hcv, hcl, st⟩
  · exact hf.elim
  · obtain ⟨rfl, ⟨w1, hw1, ha, hp1⟩, hz, hk⟩ := hxc
    rw [h0'] at hz hk
    have hfree : ∀ q, va_A wc H.size q → A q := fun q h => by
      rcases h with ⟨k, e, h⟩ | h
      · exact hD.2 (ws.length + k) (q, e) (by rw [List.getElem?_append_right (by omega), show ws.length + k - ws.length = k by omega]; exact h)
      · exact hA q (Nat.le_trans hS.1 h)
    have hl : ∀ (k : Nat) (q : Nat × va_E), ws[k]? = some q → (ws ++ wc)[k]? = some q := fun k q h => by rw [List.getElem?_append_left (List.getElem?_eq_some_iff.mp h).1]; exact h
    have hap : ∀ (k : Nat) (q : Nat × va_E), ws[k]? = some q → q.1 < H.size ∧ ¬ va_A wc H.size q.1 := by
      intro k q h
      have h1 := (hP k q (hl k q h)).lt
      refine ⟨h1, fun z => ?_⟩
      rcases z with ⟨j, e, z⟩ | z
      · have h2 := hD.1 k (ws.length + j) q (q.1, e) (hl k q h) (by rw [List.getElem?_append_right (by omega), show ws.length + j - ws.length = j by omega]; exact z) rfl
        have h3 := (List.getElem?_eq_some_iff.mp h).1
        omega
      · omega
    have hPl : va_P D vwCl ws T'.heap := fun k q h => by
      rw [e1]
      exact (hP k q (hl k q h)).kept (hk q.1 (hap k q h).1 (hap k q h).2)
    have hDl : va_D A ws := ⟨fun i j x z hi hj => hD.1 i j x z (hl i x hi) (hl j z hj), fun k q h => hD.2 k q (hl k q h)⟩
    have hd1 : va_D (va_A wc H.size) w1 := gAll_D ((va_D_r hD).self) ha
    have hS1 : va_S A H0 T'.heap (locs ++ L) := ⟨Nat.le_trans hS.1 (by rw [e1]; exact hz), fun q h1 h2 => by rw [e1, hk q (Nat.lt_of_lt_of_le h1 hS.1) (fun z => h2 (hfree q z))]; exact hS.2.1 q h1 h2, fun q hq => by
        rcases List.mem_append.mp hq with h | h
        · exact hS.2.2 q h
        · exact hfree _ (hL q h)⟩
    have K : vx_W p l e R s m args below meth c T'.heap (locs ++ L) (cells + mc) (slots + ms) Q (F0 m pc ls rest) q :=
      vx_catch hown pre x suf hsplit hpass hx h0 hlink hcast (by rw [e1]; exact hce) hcv hcl (kk q w1 T'.heap (locs ++ L) hw1 (va_P.app hPl (by rw [e1]; exact hp1)) (va_D.app hDl (hd1.weaken (fun _ q _ h => hfree q.1 h)) (fun i j x z hx hz2 hxz => (hap i x hx).2 (by rw [hxz]; exact hd1.2 j z hz2))) hS1)
    obtain ⟨t2, a1, b1⟩ := K T' rfl X'
    exact ⟨t2, st.trans a1, b1⟩
end GLW
set_option maxHeartbeats 4000000 in
set_option maxRecDepth 100000 in
theorem c_L_ratio_X1a (l : Launch) (hfl : l.stackTraces = false) (D : va_G) (y : Nat → ClassId) (ad : Nat → Nat) (sz : Nat) (h : Nat) (q : Nat → Nat) (n : Nat) (b1 : Bool) (l1 r1 : Int64) (b2 : Bool) (l2 r2 : Int64) (b3 : Bool) (l3 r3 : Int64) (uz : Nat → Bool) (ul uh : Nat → Int64) (f1 g1 f2 g2 : Int64) (pa : Nat → Nat → Nat) (kd : Nat → Nat) (on ot : Nat → Int32) (pt : Nat → Int64) (fb : Nat → Nat → Bool) (fl fh : Nat → Nat → Int64) (tb : Nat → Nat → Bool) (tl th : Nat → Nat → Int64) (dg : Nat → Int32) (ds : Nat → Int64) (a b : Int32) (oa : Nat) (of : Nat → Int64) (hbad : a < -1000 ∨ ¬ a ≤ 1000) : Met l yL_ratio wsL_ratio ({ frames := 8, cells := 1, slots := 6, locals := 140 } : Room) (gPN D y ad [.ref h, .int a, .int b, .ref oa] (wXo oa of y ad h q n (gPg pa n) n b1 l1 r1 b2 l2 r2 b3 l3 r3 uz ul uh f1 g1 f2 g2 pa kd on ot pt fb fl fh tb tl th dg ds) sz) (gQn D (wXo oa of y ad h q n (gPg pa n) n b1 l1 r1 b2 l2 r2 b3 l3 r3 uz ul uh f1 g1 f2 g2 pa kd on ot pt fb fl fh tb tl th dg ds) (fun v w => v = some (.int 1) ∧ w = (wXo oa of y ad h q n (gPg pa n) n b1 l1 r1 b2 l2 r2 b3 l3 r3 uz ul uh f1 g1 f2 g2 pa kd on ot pt fb fl fh tb tl th dg ds))) 1 6 (va_A (wXo oa of y ad h q n (gPg pa n) n b1 l1 r1 b2 l2 r2 b3 l3 r3 uz ul uh f1 g1 f2 g2 pa kd on ot pt fb fl fh tb tl th dg ds) sz) := by
  refine gMet_ofWH (cc := cL_ratio) (maxL := 5) (ret := (some .int)) (hh := [(0, 10, 13, 13), (0, 10, 17, 15)]) (by decide) rfl ?_
  intro pg e s m args below meth c s₁ B hml hv
  obtain ⟨rfl, ⟨hsz, hP, hK, hD0, hE0⟩, hN⟩ := hv
  have hx := B.exec
  have hb := B.bytes
  have hr := B.returns
  have hts := atoms_spec (ws := wsL_ratio) B.pre
  have hown : s.vm.findClass RL = some m.cls := findClass_of_methodNamed B.named
  have htab : c.exceptionTable.toList = tableOf [(0, 10, 13, 13), (0, 10, 17, 15)] := vx_table (x := yL_ratio) B (hts _ List.mem_cons_self)
  have hlocks := B.notSynchronized
  subst hsz
  obtain ⟨A, hAe⟩ : ∃ A : Nat → Prop, A = va_A (wXo oa of y ad h q n (gPg pa n) n b1 l1 r1 b2 l2 r2 b3 l3 r3 uz ul uh f1 g1 f2 g2 pa kd on ot pt fb fl fh tb tl th dg ds) s.heap.size := ⟨_, rfl⟩
  have hE : gE ad A s s.heap := by rw [hAe]; exact hE0
  have hD : va_D A (wXo oa of y ad h q n (gPg pa n) n b1 l1 r1 b2 l2 r2 b3 l3 r3 uz ul uh f1 g1 f2 g2 pa kd on ot pt fb fl fh tb tl th dg ds) := by rw [hAe]; exact hD0.self (sz := s.heap.size)
  have hA : ∀ q : Nat, s.heap.size ≤ q → A q := fun q h => by rw [hAe]; exact Or.inr h
  have hS : va_S A s.heap s.heap [] := va_S.rf
  have hl := lv_entry ([.ref h, .int a, .int b, .ref oa]) (n := 5) (Nat.le_of_ble_eq_true rfl)
  rw [lg_entry_eq]
  generalize (lg_sl ([.ref h, .int a, .int b, .ref oa]) ++ List.replicate (5 - (lg_sl ([.ref h, .int a, .int b, .ref oa])).length) Slot.unset).toArray = ls at hl ⊢
  have hl : lv_has ls 5 [(0, .ref h), (1, .int a), (2, .int b), (3, .ref oa)] := hl
  refine lv_aload_n hx hb dL_ratio_0 rfl (lv_at hl 3 rfl) ?_
  refine lv_iconst (v := 0) hx hb dL_ratio_1 (by decide) ?_
  refine lv_aload_n hx hb dL_ratio_2 rfl (lv_at hl 0 rfl) ?_
  refine lv_iload_n hx hb dL_ratio_3 rfl (lv_at hl 1 rfl) ?_
  refine lv_iload_n hx hb dL_ratio_4 rfl (lv_at hl 2 rfl) ?_
  refine g_catch (name := gIAE) (ws := [(oa, .inl (y 1, 1, .inr (.inl of)))]) (vx_runV (As := [.int a, .int b]) (rest := [.int 0, .ref oa]) ⟨hx, hb, hml, hown, hts⟩ (c_X7_ratio_X1a l hfl D y ad s.heap.size h q n b1 l1 r1 b2 l2 r2 b3 l3 r3 uz ul uh f1 g1 f2 g2 pa kd on ot pt fb fl fh tb tl th dg ds a b hbad) (cwV 2 hts gL_ratio_X7_ratio rfl rfl rfl (by decide +kernel) ⟨Nat.le_of_ble_eq_true rfl, Nat.le_of_ble_eq_true rfl⟩) (gPX_VA (va_P_r (ws := [(oa, .inl (y 1, 1, .inr (.inl of)))]) hP) (va_D_r (ws := [(oa, .inl (y 1, 1, .inr (.inl of)))]) hD) hK hE hS hA 0 rfl rfl) rfl rfl hl.1 rfl (lv_room (Nat.le_of_ble_eq_true rfl)) dL_ratio_5 ⟨Nat.le_of_ble_eq_true rfl, Nat.le_of_ble_eq_true rfl⟩) hP hD hS hA hown [] ⟨0, 10, 13, 13⟩ [⟨0, 10, 17, 15⟩] (by rw [htab]; rfl) (fun z hz => absurd hz List.not_mem_nil) (by decide) (by decide) (hts (.classLink RL 13 "java/lang/IllegalArgumentException") (List.mem_of_getElem? (i := 1) rfl)) (hE.cw (Cond.castable gIAE gIAE) (List.mem_of_getElem? (i := 3) rfl)) (fun q9 w1 H locs hf hP hD hS => ?_)
  obtain rfl : w1 = wXp y ad h q n b1 l1 r1 b2 l2 r2 b3 l3 r3 uz ul uh f1 g1 f2 g2 pa kd on ot pt fb fl fh tb tl th dg ds := hf
  have hP : va_P D vwCl (wXo oa of y ad h q n (gPg pa n) n b1 l1 r1 b2 l2 r2 b3 l3 r3 uz ul uh f1 g1 f2 g2 pa kd on ot pt fb fl fh tb tl th dg ds) H := hP
  have hD : va_D A (wXo oa of y ad h q n (gPg pa n) n b1 l1 r1 b2 l2 r2 b3 l3 r3 uz ul uh f1 g1 f2 g2 pa kd on ot pt fb fl fh tb tl th dg ds) := hD
  refine lv_astore (lv' := [(4, .ref q9), (0, .ref h), (1, .int a), (2, .int b), (3, .ref oa)]) hx hb dL_ratio_13 hl (by decide) rfl (fun ls hl => ?_)
  refine lv_iconst (v := 1) hx hb dL_ratio_15 (by decide) ?_
  have hP9 := hP
  have hD9 := hD
  exact W.iret (v := 1) hx hb hr (fun t ht hW => ⟨⟨some (.int (1)), wXo oa of y ad h q n (gPg pa n) n b1 l1 r1 b2 l2 r2 b3 l3 r3 uz ul uh f1 g1 f2 g2 pa kd on ot pt fb fl fh tb tl th dg ds, rfl, ⟨rfl, rfl⟩, by rw [← hAe]; exact hD9, by rw [ht]; exact hP9⟩, by rw [← hAe]; exact hS.F ht⟩) (by rw [← hAe]; exact hS.2.2) dL_ratio_16
set_option maxHeartbeats 4000000 in
set_option maxRecDepth 100000 in
theorem c_L_ratio_X1b (l : Launch) (hfl : l.stackTraces = false) (D : va_G) (y : Nat → ClassId) (ad : Nat → Nat) (sz : Nat) (h : Nat) (q : Nat → Nat) (n : Nat) (b1 : Bool) (l1 r1 : Int64) (b2 : Bool) (l2 r2 : Int64) (b3 : Bool) (l3 r3 : Int64) (uz : Nat → Bool) (ul uh : Nat → Int64) (f1 g1 f2 g2 : Int64) (pa : Nat → Nat → Nat) (kd : Nat → Nat) (on ot : Nat → Int32) (pt : Nat → Int64) (fb : Nat → Nat → Bool) (fl fh : Nat → Nat → Int64) (tb : Nat → Nat → Bool) (tl th : Nat → Nat → Int64) (dg : Nat → Int32) (ds : Nat → Int64) (a b : Int32) (oa : Nat) (of : Nat → Int64) (ha1 : ¬ a < -1000) (ha2 : a ≤ 1000) (hbad : b < 1 ∨ ¬ b ≤ 1000) : Met l yL_ratio wsL_ratio ({ frames := 8, cells := 1, slots := 6, locals := 140 } : Room) (gPN D y ad [.ref h, .int a, .int b, .ref oa] (wXo oa of y ad h q n (gPg pa n) n b1 l1 r1 b2 l2 r2 b3 l3 r3 uz ul uh f1 g1 f2 g2 pa kd on ot pt fb fl fh tb tl th dg ds) sz) (gQn D (wXo oa of y ad h q n (gPg pa n) n b1 l1 r1 b2 l2 r2 b3 l3 r3 uz ul uh f1 g1 f2 g2 pa kd on ot pt fb fl fh tb tl th dg ds) (fun v w => v = some (.int 1) ∧ w = (wXo oa of y ad h q n (gPg pa n) n b1 l1 r1 b2 l2 r2 b3 l3 r3 uz ul uh f1 g1 f2 g2 pa kd on ot pt fb fl fh tb tl th dg ds))) 1 6 (va_A (wXo oa of y ad h q n (gPg pa n) n b1 l1 r1 b2 l2 r2 b3 l3 r3 uz ul uh f1 g1 f2 g2 pa kd on ot pt fb fl fh tb tl th dg ds) sz) := by
  refine gMet_ofWH (cc := cL_ratio) (maxL := 5) (ret := (some .int)) (hh := [(0, 10, 13, 13), (0, 10, 17, 15)]) (by decide) rfl ?_
  intro pg e s m args below meth c s₁ B hml hv
  obtain ⟨rfl, ⟨hsz, hP, hK, hD0, hE0⟩, hN⟩ := hv
  have hx := B.exec
  have hb := B.bytes
  have hr := B.returns
  have hts := atoms_spec (ws := wsL_ratio) B.pre
  have hown : s.vm.findClass RL = some m.cls := findClass_of_methodNamed B.named
  have htab : c.exceptionTable.toList = tableOf [(0, 10, 13, 13), (0, 10, 17, 15)] := vx_table (x := yL_ratio) B (hts _ List.mem_cons_self)
  have hlocks := B.notSynchronized
  subst hsz
  obtain ⟨A, hAe⟩ : ∃ A : Nat → Prop, A = va_A (wXo oa of y ad h q n (gPg pa n) n b1 l1 r1 b2 l2 r2 b3 l3 r3 uz ul uh f1 g1 f2 g2 pa kd on ot pt fb fl fh tb tl th dg ds) s.heap.size := ⟨_, rfl⟩
  have hE : gE ad A s s.heap := by rw [hAe]; exact hE0
  have hD : va_D A (wXo oa of y ad h q n (gPg pa n) n b1 l1 r1 b2 l2 r2 b3 l3 r3 uz ul uh f1 g1 f2 g2 pa kd on ot pt fb fl fh tb tl th dg ds) := by rw [hAe]; exact hD0.self (sz := s.heap.size)
  have hA : ∀ q : Nat, s.heap.size ≤ q → A q := fun q h => by rw [hAe]; exact Or.inr h
  have hS : va_S A s.heap s.heap [] := va_S.rf
  have hl := lv_entry ([.ref h, .int a, .int b, .ref oa]) (n := 5) (Nat.le_of_ble_eq_true rfl)
  rw [lg_entry_eq]
  generalize (lg_sl ([.ref h, .int a, .int b, .ref oa]) ++ List.replicate (5 - (lg_sl ([.ref h, .int a, .int b, .ref oa])).length) Slot.unset).toArray = ls at hl ⊢
  have hl : lv_has ls 5 [(0, .ref h), (1, .int a), (2, .int b), (3, .ref oa)] := hl
  refine lv_aload_n hx hb dL_ratio_0 rfl (lv_at hl 3 rfl) ?_
  refine lv_iconst (v := 0) hx hb dL_ratio_1 (by decide) ?_
  refine lv_aload_n hx hb dL_ratio_2 rfl (lv_at hl 0 rfl) ?_
  refine lv_iload_n hx hb dL_ratio_3 rfl (lv_at hl 1 rfl) ?_
  refine lv_iload_n hx hb dL_ratio_4 rfl (lv_at hl 2 rfl) ?_
  refine g_catch (name := gIAE) (ws := [(oa, .inl (y 1, 1, .inr (.inl of)))]) (vx_runV (As := [.int a, .int b]) (rest := [.int 0, .ref oa]) ⟨hx, hb, hml, hown, hts⟩ (c_X7_ratio_X1b l hfl D y ad s.heap.size h q n b1 l1 r1 b2 l2 r2 b3 l3 r3 uz ul uh f1 g1 f2 g2 pa kd on ot pt fb fl fh tb tl th dg ds a b ha1 ha2 hbad) (cwV 2 hts gL_ratio_X7_ratio rfl rfl rfl (by decide +kernel) ⟨Nat.le_of_ble_eq_true rfl, Nat.le_of_ble_eq_true rfl⟩) (gPX_VA (va_P_r (ws := [(oa, .inl (y 1, 1, .inr (.inl of)))]) hP) (va_D_r (ws := [(oa, .inl (y 1, 1, .inr (.inl of)))]) hD) hK hE hS hA 0 rfl rfl) rfl rfl hl.1 rfl (lv_room (Nat.le_of_ble_eq_true rfl)) dL_ratio_5 ⟨Nat.le_of_ble_eq_true rfl, Nat.le_of_ble_eq_true rfl⟩) hP hD hS hA hown [] ⟨0, 10, 13, 13⟩ [⟨0, 10, 17, 15⟩] (by rw [htab]; rfl) (fun z hz => absurd hz List.not_mem_nil) (by decide) (by decide) (hts (.classLink RL 13 "java/lang/IllegalArgumentException") (List.mem_of_getElem? (i := 1) rfl)) (hE.cw (Cond.castable gIAE gIAE) (List.mem_of_getElem? (i := 3) rfl)) (fun q9 w1 H locs hf hP hD hS => ?_)
  obtain rfl : w1 = wXp y ad h q n b1 l1 r1 b2 l2 r2 b3 l3 r3 uz ul uh f1 g1 f2 g2 pa kd on ot pt fb fl fh tb tl th dg ds := hf
  have hP : va_P D vwCl (wXo oa of y ad h q n (gPg pa n) n b1 l1 r1 b2 l2 r2 b3 l3 r3 uz ul uh f1 g1 f2 g2 pa kd on ot pt fb fl fh tb tl th dg ds) H := hP
  have hD : va_D A (wXo oa of y ad h q n (gPg pa n) n b1 l1 r1 b2 l2 r2 b3 l3 r3 uz ul uh f1 g1 f2 g2 pa kd on ot pt fb fl fh tb tl th dg ds) := hD
  refine lv_astore (lv' := [(4, .ref q9), (0, .ref h), (1, .int a), (2, .int b), (3, .ref oa)]) hx hb dL_ratio_13 hl (by decide) rfl (fun ls hl => ?_)
  refine lv_iconst (v := 1) hx hb dL_ratio_15 (by decide) ?_
  have hP9 := hP
  have hD9 := hD
  exact W.iret (v := 1) hx hb hr (fun t ht hW => ⟨⟨some (.int (1)), wXo oa of y ad h q n (gPg pa n) n b1 l1 r1 b2 l2 r2 b3 l3 r3 uz ul uh f1 g1 f2 g2 pa kd on ot pt fb fl fh tb tl th dg ds, rfl, ⟨rfl, rfl⟩, by rw [← hAe]; exact hD9, by rw [ht]; exact hP9⟩, by rw [← hAe]; exact hS.F ht⟩) (by rw [← hAe]; exact hS.2.2) dL_ratio_16
set_option maxHeartbeats 4000000 in
set_option maxRecDepth 100000 in
theorem c_L_ratio_X2 (l : Launch) (hfl : l.stackTraces = false) (D : va_G) (y : Nat → ClassId) (ad : Nat → Nat) (sz : Nat) (h : Nat) (q : Nat → Nat) (n : Nat) (b1 : Bool) (l1 r1 : Int64) (b2 : Bool) (l2 r2 : Int64) (b3 : Bool) (l3 r3 : Int64) (uz : Nat → Bool) (ul uh : Nat → Int64) (f1 g1 f2 g2 : Int64) (pa : Nat → Nat → Nat) (kd : Nat → Nat) (on ot : Nat → Int32) (pt : Nat → Int64) (fb : Nat → Nat → Bool) (fl fh : Nat → Nat → Int64) (tb : Nat → Nat → Bool) (tl th : Nat → Nat → Int64) (dg : Nat → Int32) (ds : Nat → Int64) (a b : Int32) (oa : Nat) (of : Nat → Int64) (ha1 : ¬ a < -1000) (ha2 : a ≤ 1000) (hb1 : ¬ b < 1) (hb2 : b ≤ 1000) (hn : ¬ n < 40) (hn2 : n ≤ 40) : Met l yL_ratio wsL_ratio ({ frames := 8, cells := 1, slots := 6, locals := 138 } : Room) (gPN D y ad [.ref h, .int a, .int b, .ref oa] (wXo oa of y ad h q n (gPg pa n) n b1 l1 r1 b2 l2 r2 b3 l3 r3 uz ul uh f1 g1 f2 g2 pa kd on ot pt fb fl fh tb tl th dg ds) sz) (gQn D (wXo oa of y ad h q n (gPg pa n) n b1 l1 r1 b2 l2 r2 b3 l3 r3 uz ul uh f1 g1 f2 g2 pa kd on ot pt fb fl fh tb tl th dg ds) (fun v w => v = some (.int 2) ∧ w = (wXo oa of y ad h q n (gPg pa n) n b1 l1 r1 b2 l2 r2 b3 l3 r3 uz ul uh f1 g1 f2 g2 pa kd on ot pt fb fl fh tb tl th dg ds))) 1 6 (va_A (wXo oa of y ad h q n (gPg pa n) n b1 l1 r1 b2 l2 r2 b3 l3 r3 uz ul uh f1 g1 f2 g2 pa kd on ot pt fb fl fh tb tl th dg ds) sz) := by
  refine gMet_ofWH (cc := cL_ratio) (maxL := 5) (ret := (some .int)) (hh := [(0, 10, 13, 13), (0, 10, 17, 15)]) (by decide) rfl ?_
  intro pg e s m args below meth c s₁ B hml hv
  obtain ⟨rfl, ⟨hsz, hP, hK, hD0, hE0⟩, hN⟩ := hv
  have hx := B.exec
  have hb := B.bytes
  have hr := B.returns
  have hts := atoms_spec (ws := wsL_ratio) B.pre
  have hown : s.vm.findClass RL = some m.cls := findClass_of_methodNamed B.named
  have htab : c.exceptionTable.toList = tableOf [(0, 10, 13, 13), (0, 10, 17, 15)] := vx_table (x := yL_ratio) B (hts _ List.mem_cons_self)
  have hlocks := B.notSynchronized
  subst hsz
  obtain ⟨A, hAe⟩ : ∃ A : Nat → Prop, A = va_A (wXo oa of y ad h q n (gPg pa n) n b1 l1 r1 b2 l2 r2 b3 l3 r3 uz ul uh f1 g1 f2 g2 pa kd on ot pt fb fl fh tb tl th dg ds) s.heap.size := ⟨_, rfl⟩
  have hE : gE ad A s s.heap := by rw [hAe]; exact hE0
  have hD : va_D A (wXo oa of y ad h q n (gPg pa n) n b1 l1 r1 b2 l2 r2 b3 l3 r3 uz ul uh f1 g1 f2 g2 pa kd on ot pt fb fl fh tb tl th dg ds) := by rw [hAe]; exact hD0.self (sz := s.heap.size)
  have hA : ∀ q : Nat, s.heap.size ≤ q → A q := fun q h => by rw [hAe]; exact Or.inr h
  have hS : va_S A s.heap s.heap [] := va_S.rf
  have hl := lv_entry ([.ref h, .int a, .int b, .ref oa]) (n := 5) (Nat.le_of_ble_eq_true rfl)
  rw [lg_entry_eq]
  generalize (lg_sl ([.ref h, .int a, .int b, .ref oa]) ++ List.replicate (5 - (lg_sl ([.ref h, .int a, .int b, .ref oa])).length) Slot.unset).toArray = ls at hl ⊢
  have hl : lv_has ls 5 [(0, .ref h), (1, .int a), (2, .int b), (3, .ref oa)] := hl
  refine lv_aload_n hx hb dL_ratio_0 rfl (lv_at hl 3 rfl) ?_
  refine lv_iconst (v := 0) hx hb dL_ratio_1 (by decide) ?_
  refine lv_aload_n hx hb dL_ratio_2 rfl (lv_at hl 0 rfl) ?_
  refine lv_iload_n hx hb dL_ratio_3 rfl (lv_at hl 1 rfl) ?_
  refine lv_iload_n hx hb dL_ratio_4 rfl (lv_at hl 2 rfl) ?_
  refine g_catch (name := gISE) (ws := [(oa, .inl (y 1, 1, .inr (.inl of)))]) (vx_runV (As := [.int a, .int b]) (rest := [.int 0, .ref oa]) ⟨hx, hb, hml, hown, hts⟩ (c_X7_ratio_X2 l hfl D y ad s.heap.size h q n b1 l1 r1 b2 l2 r2 b3 l3 r3 uz ul uh f1 g1 f2 g2 pa kd on ot pt fb fl fh tb tl th dg ds a b ha1 ha2 hb1 hb2 hn hn2) (cwV 2 hts gL_ratio_X7_ratio rfl rfl rfl (by decide +kernel) ⟨Nat.le_of_ble_eq_true rfl, Nat.le_of_ble_eq_true rfl⟩) (gPX_VA (va_P_r (ws := [(oa, .inl (y 1, 1, .inr (.inl of)))]) hP) (va_D_r (ws := [(oa, .inl (y 1, 1, .inr (.inl of)))]) hD) hK hE hS hA 0 rfl rfl) rfl rfl hl.1 rfl (lv_room (Nat.le_of_ble_eq_true rfl)) dL_ratio_5 ⟨Nat.le_of_ble_eq_true rfl, Nat.le_of_ble_eq_true rfl⟩) hP hD hS hA hown [⟨0, 10, 13, 13⟩] ⟨0, 10, 17, 15⟩ [] (by rw [htab]; rfl) (fun z hz => by rcases List.mem_singleton.mp hz with rfl; exact Or.inr ⟨by decide, _, (hts (.classLink RL 13 "java/lang/IllegalArgumentException") (List.mem_of_getElem? (i := 1) rfl)), hN.2.2⟩) (by decide) (by decide) (hts (.classLink RL 15 "java/lang/IllegalStateException") (List.mem_of_getElem? (i := 2) rfl)) (hE.cw (Cond.castable gISE gISE) (List.mem_of_getElem? (i := 4) rfl)) (fun q9 w1 H locs hf hP hD hS => ?_)
  obtain rfl : w1 = wXp y ad h q n b1 l1 r1 b2 l2 r2 b3 l3 r3 uz ul uh f1 g1 f2 g2 pa kd on ot pt fb fl fh tb tl th dg ds := hf
  have hP : va_P D vwCl (wXo oa of y ad h q n (gPg pa n) n b1 l1 r1 b2 l2 r2 b3 l3 r3 uz ul uh f1 g1 f2 g2 pa kd on ot pt fb fl fh tb tl th dg ds) H := hP
  have hD : va_D A (wXo oa of y ad h q n (gPg pa n) n b1 l1 r1 b2 l2 r2 b3 l3 r3 uz ul uh f1 g1 f2 g2 pa kd on ot pt fb fl fh tb tl th dg ds) := hD
  refine lv_astore (lv' := [(4, .ref q9), (0, .ref h), (1, .int a), (2, .int b), (3, .ref oa)]) hx hb dL_ratio_17 hl (by decide) rfl (fun ls hl => ?_)
  refine lv_iconst (v := 2) hx hb dL_ratio_19 (by decide) ?_
  have hP9 := hP
  have hD9 := hD
  exact W.iret (v := 2) hx hb hr (fun t ht hW => ⟨⟨some (.int (2)), wXo oa of y ad h q n (gPg pa n) n b1 l1 r1 b2 l2 r2 b3 l3 r3 uz ul uh f1 g1 f2 g2 pa kd on ot pt fb fl fh tb tl th dg ds, rfl, ⟨rfl, rfl⟩, by rw [← hAe]; exact hD9, by rw [ht]; exact hP9⟩, by rw [← hAe]; exact hS.F ht⟩) (by rw [← hAe]; exact hS.2.2) dL_ratio_20
set_option maxHeartbeats 4000000 in
set_option maxRecDepth 100000 in
theorem c_L_ratio_0 (l : Launch) (hfl : l.stackTraces = false) (D : va_G) (y : Nat → ClassId) (ad : Nat → Nat) (sz : Nat) (h : Nat) (q : Nat → Nat) (n : Nat) (b1 : Bool) (l1 r1 : Int64) (b2 : Bool) (l2 r2 : Int64) (b3 : Bool) (l3 r3 : Int64) (uz : Nat → Bool) (ul uh : Nat → Int64) (f1 g1 f2 g2 : Int64) (pa : Nat → Nat → Nat) (kd : Nat → Nat) (on ot : Nat → Int32) (pt : Nat → Int64) (fb : Nat → Nat → Bool) (fl fh : Nat → Nat → Int64) (tb : Nat → Nat → Bool) (tl th : Nat → Nat → Int64) (dg : Nat → Int32) (ds : Nat → Int64) (a b : Int32) (oa : Nat) (of : Nat → Int64) (ha1 : ¬ a < -1000) (ha2 : a ≤ 1000) (hb1 : ¬ b < 1) (hb2 : b ≤ 1000) (hn : n < 40) : Met l yL_ratio wsL_ratio ({ frames := 4, cells := 9, slots := 164, locals := 97 } : Room) (gPN D y ad [.ref h, .int a, .int b, .ref oa] (wXo oa of y ad h q n (gPg pa n) n b1 l1 r1 b2 l2 r2 b3 l3 r3 uz ul uh f1 g1 f2 g2 pa kd on ot pt fb fl fh tb tl th dg ds) sz) (gQn D (wXo oa of y ad h q n (gPg pa n) n b1 l1 r1 b2 l2 r2 b3 l3 r3 uz ul uh f1 g1 f2 g2 pa kd on ot pt fb fl fh tb tl th dg ds) (fun v w => ∃ (yb1 : Bool) (yl1 : Int64) (yr1 : Int64) (yb2 : Bool) (yl2 : Int64) (yr2 : Int64) (yb3 : Bool) (yl3 : Int64) (yr3 : Int64) (yuz : Nat → Bool) (yul : Nat → Int64) (yuh : Nat → Int64) (yf1 : Int64) (yg1 : Int64) (yf2 : Int64) (yg2 : Int64) (nan : Nat → Nat) (fbn : Nat → Bool) (fln : Nat → Int64) (fhn : Nat → Int64) (tbn : Nat → Bool) (tln : Nat → Int64) (thn : Nat → Int64), v = some (.int 0) ∧ w = (wXo oa (vp_updL of 0 ((nI n).toInt64)) y ad h q (n + 1) (gPg (pst pa n nan) (n + 1)) (n + 1) yb1 yl1 yr1 yb2 yl2 yr2 yb3 yl3 yr3 yuz yul yuh yf1 yg1 yf2 yg2 (pst pa n nan) (pst kd n 0) (pst on n (-1)) (pst ot n (-1)) (pst pt n (jshl 1 (nI n))) (pst fb n fbn) (pst fl n fln) (pst fh n fhn) (pst tb n tbn) (pst tl n tln) (pst th n thn) (pst dg n 0) (pst ds n 0)) ∧ (∀ i9, i9 < 25 → (fbn i9, fln i9, fhn i9) = rtX a b i9) ∧ (∀ i9, i9 < 25 → (tbn i9, tln i9, thn i9) = nwA fbn fln fhn (i9 + 1)))) 9 164 (va_A (wXo oa of y ad h q n (gPg pa n) n b1 l1 r1 b2 l2 r2 b3 l3 r3 uz ul uh f1 g1 f2 g2 pa kd on ot pt fb fl fh tb tl th dg ds) sz) := by
  refine gMet_ofWH (cc := cL_ratio) (maxL := 5) (ret := (some .int)) (hh := [(0, 10, 13, 13), (0, 10, 17, 15)]) (by decide) rfl ?_
  intro pg e s m args below meth c s₁ B hml hv
  obtain ⟨rfl, ⟨hsz, hP, hK, hD0, hE0⟩, hN⟩ := hv
  have hx := B.exec
  have hb := B.bytes
  have hr := B.returns
  have hts := atoms_spec (ws := wsL_ratio) B.pre
  have hown : s.vm.findClass RL = some m.cls := findClass_of_methodNamed B.named
  have htab : c.exceptionTable.toList = tableOf [(0, 10, 13, 13), (0, 10, 17, 15)] := vx_table (x := yL_ratio) B (hts _ List.mem_cons_self)
  have hlocks := B.notSynchronized
  subst hsz
  obtain ⟨A, hAe⟩ : ∃ A : Nat → Prop, A = va_A (wXo oa of y ad h q n (gPg pa n) n b1 l1 r1 b2 l2 r2 b3 l3 r3 uz ul uh f1 g1 f2 g2 pa kd on ot pt fb fl fh tb tl th dg ds) s.heap.size := ⟨_, rfl⟩
  have hE : gE ad A s s.heap := by rw [hAe]; exact hE0
  have hD : va_D A (wXo oa of y ad h q n (gPg pa n) n b1 l1 r1 b2 l2 r2 b3 l3 r3 uz ul uh f1 g1 f2 g2 pa kd on ot pt fb fl fh tb tl th dg ds) := by rw [hAe]; exact hD0.self (sz := s.heap.size)
  have hA : ∀ q : Nat, s.heap.size ≤ q → A q := fun q h => by rw [hAe]; exact Or.inr h
  have hS : va_S A s.heap s.heap [] := va_S.rf
  have hl := lv_entry ([.ref h, .int a, .int b, .ref oa]) (n := 5) (Nat.le_of_ble_eq_true rfl)
  rw [lg_entry_eq]
  generalize (lg_sl ([.ref h, .int a, .int b, .ref oa]) ++ List.replicate (5 - (lg_sl ([.ref h, .int a, .int b, .ref oa])).length) Slot.unset).toArray = ls at hl ⊢
  have hl : lv_has ls 5 [(0, .ref h), (1, .int a), (2, .int b), (3, .ref oa)] := hl
  refine lv_aload_n hx hb dL_ratio_0 rfl (lv_at hl 3 rfl) ?_
  refine lv_iconst (v := 0) hx hb dL_ratio_1 (by decide) ?_
  refine lv_aload_n hx hb dL_ratio_2 rfl (lv_at hl 0 rfl) ?_
  refine lv_iload_n hx hb dL_ratio_3 rfl (lv_at hl 1 rfl) ?_
  refine lv_iload_n hx hb dL_ratio_4 rfl (lv_at hl 2 rfl) ?_
  refine g_callN (ws := [(oa, .inl (y 1, 1, .inr (.inl of)))]) (wc := wXp y ad h q n b1 l1 r1 b2 l2 r2 b3 l3 r3 uz ul uh f1 g1 f2 g2 pa kd on ot pt fb fl fh tb tl th dg ds) (va_runV (As := [.int a, .int b]) (rest := [.int 0, .ref oa]) ⟨hx, hb, hml, hown, hts⟩ (c_X7_ratio_0 l hfl D y ad s.heap.size h q n b1 l1 r1 b2 l2 r2 b3 l3 r3 uz ul uh f1 g1 f2 g2 pa kd on ot pt fb fl fh tb tl th dg ds a b ha1 ha2 hb1 hb2 hn) (cwV 2 hts gL_ratio_X7_ratio rfl rfl rfl (by decide +kernel) ⟨Nat.le_of_ble_eq_true rfl, Nat.le_of_ble_eq_true rfl⟩) (gPX_VA (va_P_r (ws := [(oa, .inl (y 1, 1, .inr (.inl of)))]) hP) (va_D_r (ws := [(oa, .inl (y 1, 1, .inr (.inl of)))]) hD) hK hE hS hA 0 rfl rfl) rfl rfl hl.1 rfl (lv_room (Nat.le_of_ble_eq_true rfl)) dL_ratio_5 ⟨Nat.le_of_ble_eq_true rfl, Nat.le_of_ble_eq_true rfl⟩) hP hD hS hA (fun v w1 H locs hf hP hD hS => ?_)
  obtain ⟨yb1_5, yl1_5, yr1_5, yb2_5, yl2_5, yr2_5, yb3_5, yl3_5, yr3_5, yuz_5, yul_5, yuh_5, yf1_5, yg1_5, yf2_5, yg2_5, nan_5, fbn_5, fln_5, fhn_5, tbn_5, tln_5, thn_5, rfl, rfl, h5_0, h5_1⟩ := hf
  have hP : va_P D vwCl (wXo oa of y ad h q (n + 1) (gPg (pst pa n nan_5) (n + 1)) (n + 1) yb1_5 yl1_5 yr1_5 yb2_5 yl2_5 yr2_5 yb3_5 yl3_5 yr3_5 yuz_5 yul_5 yuh_5 yf1_5 yg1_5 yf2_5 yg2_5 (pst pa n nan_5) (pst kd n 0) (pst on n (-1)) (pst ot n (-1)) (pst pt n (jshl 1 (nI n))) (pst fb n fbn_5) (pst fl n fln_5) (pst fh n fhn_5) (pst tb n tbn_5) (pst tl n tln_5) (pst th n thn_5) (pst dg n 0) (pst ds n 0)) H := hP
  have hD : va_D A (wXo oa of y ad h q (n + 1) (gPg (pst pa n nan_5) (n + 1)) (n + 1) yb1_5 yl1_5 yr1_5 yb2_5 yl2_5 yr2_5 yb3_5 yl3_5 yr3_5 yuz_5 yul_5 yuh_5 yf1_5 yg1_5 yf2_5 yg2_5 (pst pa n nan_5) (pst kd n 0) (pst on n (-1)) (pst ot n (-1)) (pst pt n (jshl 1 (nI n))) (pst fb n fbn_5) (pst fl n fln_5) (pst fh n fhn_5) (pst tb n tbn_5) (pst tl n tln_5) (pst th n thn_5) (pst dg n 0) (pst ds n 0)) := hD
  refine lv_i2l (v := (nI n).toInt64) hx hb dL_ratio_8 rfl ?_
  refine g_last (k := 0) (x := (nI n).toInt64) hx hb hK.1 hP hD hS 0 1 rfl rfl (by omega) (by decide) dL_ratio_9 (fun H locs hP hD hS => ?_)
  have hP : va_P D vwCl (wXo oa (vp_updL of 0 ((nI n).toInt64)) y ad h q (n + 1) (gPg (pst pa n nan_5) (n + 1)) (n + 1) yb1_5 yl1_5 yr1_5 yb2_5 yl2_5 yr2_5 yb3_5 yl3_5 yr3_5 yuz_5 yul_5 yuh_5 yf1_5 yg1_5 yf2_5 yg2_5 (pst pa n nan_5) (pst kd n 0) (pst on n (-1)) (pst ot n (-1)) (pst pt n (jshl 1 (nI n))) (pst fb n fbn_5) (pst fl n fln_5) (pst fh n fhn_5) (pst tb n tbn_5) (pst tl n tln_5) (pst th n thn_5) (pst dg n 0) (pst ds n 0)) H := hP
  have hD : va_D A (wXo oa (vp_updL of 0 ((nI n).toInt64)) y ad h q (n + 1) (gPg (pst pa n nan_5) (n + 1)) (n + 1) yb1_5 yl1_5 yr1_5 yb2_5 yl2_5 yr2_5 yb3_5 yl3_5 yr3_5 yuz_5 yul_5 yuh_5 yf1_5 yg1_5 yf2_5 yg2_5 (pst pa n nan_5) (pst kd n 0) (pst on n (-1)) (pst ot n (-1)) (pst pt n (jshl 1 (nI n))) (pst fb n fbn_5) (pst fl n fln_5) (pst fh n fhn_5) (pst tb n tbn_5) (pst tl n tln_5) (pst th n thn_5) (pst dg n 0) (pst ds n 0)) := hD
  refine lv_goto (tgt := 21) hx hb dL_ratio_10 (by decide) ?_
  refine lv_iconst (v := 0) hx hb dL_ratio_21 (by decide) ?_
  have hP9 := hP
  have hD9 := hD
  exact W.iret (v := 0) hx hb hr (fun t ht hW => ⟨⟨some (.int (0)), wXo oa (vp_updL of 0 ((nI n).toInt64)) y ad h q (n + 1) (gPg (pst pa n nan_5) (n + 1)) (n + 1) yb1_5 yl1_5 yr1_5 yb2_5 yl2_5 yr2_5 yb3_5 yl3_5 yr3_5 yuz_5 yul_5 yuh_5 yf1_5 yg1_5 yf2_5 yg2_5 (pst pa n nan_5) (pst kd n 0) (pst on n (-1)) (pst ot n (-1)) (pst pt n (jshl 1 (nI n))) (pst fb n fbn_5) (pst fl n fln_5) (pst fh n fhn_5) (pst tb n tbn_5) (pst tl n tln_5) (pst th n thn_5) (pst dg n 0) (pst ds n 0), rfl, ⟨yb1_5, yl1_5, yr1_5, yb2_5, yl2_5, yr2_5, yb3_5, yl3_5, yr3_5, yuz_5, yul_5, yuh_5, yf1_5, yg1_5, yf2_5, yg2_5, nan_5, fbn_5, fln_5, fhn_5, tbn_5, tln_5, thn_5, rfl, rfl, h5_0, h5_1⟩, by rw [← hAe]; exact hD9, by rw [ht]; exact hP9⟩, by rw [← hAe]; exact hS.F ht⟩) (by rw [← hAe]; exact hS.2.2) dL_ratio_22
set_option maxHeartbeats 4000000 in
set_option maxRecDepth 100000 in
theorem c_L_sum_X1a (l : Launch) (hfl : l.stackTraces = false) (D : va_G) (y : Nat → ClassId) (ad : Nat → Nat) (sz : Nat) (h : Nat) (q : Nat → Nat) (n : Nat) (b1 : Bool) (l1 r1 : Int64) (b2 : Bool) (l2 r2 : Int64) (b3 : Bool) (l3 r3 : Int64) (uz : Nat → Bool) (ul uh : Nat → Int64) (f1 g1 f2 g2 : Int64) (pa : Nat → Nat → Nat) (kd : Nat → Nat) (on ot : Nat → Int32) (pt : Nat → Int64) (fb : Nat → Nat → Bool) (fl fh : Nat → Nat → Int64) (tb : Nat → Nat → Bool) (tl th : Nat → Nat → Int64) (dg : Nat → Int32) (ds : Nat → Int64) (a b : Int32) (oa : Nat) (of : Nat → Int64) (hbad : a < 0 ∨ nI n ≤ a) : Met l yL_sum wsL_sum ({ frames := 9, cells := 1, slots := 6, locals := 163 } : Room) (gPN D y ad [.ref h, .int a, .int b, .ref oa] (wXo oa of y ad h q n (gPg pa n) n b1 l1 r1 b2 l2 r2 b3 l3 r3 uz ul uh f1 g1 f2 g2 pa kd on ot pt fb fl fh tb tl th dg ds) sz) (gQn D (wXo oa of y ad h q n (gPg pa n) n b1 l1 r1 b2 l2 r2 b3 l3 r3 uz ul uh f1 g1 f2 g2 pa kd on ot pt fb fl fh tb tl th dg ds) (fun v w => v = some (.int 1) ∧ w = (wXo oa of y ad h q n (gPg pa n) n b1 l1 r1 b2 l2 r2 b3 l3 r3 uz ul uh f1 g1 f2 g2 pa kd on ot pt fb fl fh tb tl th dg ds))) 1 6 (va_A (wXo oa of y ad h q n (gPg pa n) n b1 l1 r1 b2 l2 r2 b3 l3 r3 uz ul uh f1 g1 f2 g2 pa kd on ot pt fb fl fh tb tl th dg ds) sz) := by
  refine gMet_ofWH (cc := cL_sum) (maxL := 5) (ret := (some .int)) (hh := [(0, 10, 13, 20), (0, 10, 17, 15)]) (by decide) rfl ?_
  intro pg e s m args below meth c s₁ B hml hv
  obtain ⟨rfl, ⟨hsz, hP, hK, hD0, hE0⟩, hN⟩ := hv
  have hx := B.exec
  have hb := B.bytes
  have hr := B.returns
  have hts := atoms_spec (ws := wsL_sum) B.pre
  have hown : s.vm.findClass RL = some m.cls := findClass_of_methodNamed B.named
  have htab : c.exceptionTable.toList = tableOf [(0, 10, 13, 20), (0, 10, 17, 15)] := vx_table (x := yL_sum) B (hts _ List.mem_cons_self)
  have hlocks := B.notSynchronized
  subst hsz
  obtain ⟨A, hAe⟩ : ∃ A : Nat → Prop, A = va_A (wXo oa of y ad h q n (gPg pa n) n b1 l1 r1 b2 l2 r2 b3 l3 r3 uz ul uh f1 g1 f2 g2 pa kd on ot pt fb fl fh tb tl th dg ds) s.heap.size := ⟨_, rfl⟩
  have hE : gE ad A s s.heap := by rw [hAe]; exact hE0
  have hD : va_D A (wXo oa of y ad h q n (gPg pa n) n b1 l1 r1 b2 l2 r2 b3 l3 r3 uz ul uh f1 g1 f2 g2 pa kd on ot pt fb fl fh tb tl th dg ds) := by rw [hAe]; exact hD0.self (sz := s.heap.size)
  have hA : ∀ q : Nat, s.heap.size ≤ q → A q := fun q h => by rw [hAe]; exact Or.inr h
  have hS : va_S A s.heap s.heap [] := va_S.rf
  have hl := lv_entry ([.ref h, .int a, .int b, .ref oa]) (n := 5) (Nat.le_of_ble_eq_true rfl)
  rw [lg_entry_eq]
  generalize (lg_sl ([.ref h, .int a, .int b, .ref oa]) ++ List.replicate (5 - (lg_sl ([.ref h, .int a, .int b, .ref oa])).length) Slot.unset).toArray = ls at hl ⊢
  have hl : lv_has ls 5 [(0, .ref h), (1, .int a), (2, .int b), (3, .ref oa)] := hl
  refine lv_aload_n hx hb dL_sum_0 rfl (lv_at hl 3 rfl) ?_
  refine lv_iconst (v := 0) hx hb dL_sum_1 (by decide) ?_
  refine lv_aload_n hx hb dL_sum_2 rfl (lv_at hl 0 rfl) ?_
  refine lv_iload_n hx hb dL_sum_3 rfl (lv_at hl 1 rfl) ?_
  refine lv_iload_n hx hb dL_sum_4 rfl (lv_at hl 2 rfl) ?_
  refine g_catch (name := gIOB) (ws := [(oa, .inl (y 1, 1, .inr (.inl of)))]) (vx_runV (As := [.int a, .int b]) (rest := [.int 0, .ref oa]) ⟨hx, hb, hml, hown, hts⟩ (c_X7_sum_X1a l hfl D y ad s.heap.size h q n b1 l1 r1 b2 l2 r2 b3 l3 r3 uz ul uh f1 g1 f2 g2 pa kd on ot pt fb fl fh tb tl th dg ds a b hbad) (cwV 2 hts gL_sum_X7_sum rfl rfl rfl (by decide +kernel) ⟨Nat.le_of_ble_eq_true rfl, Nat.le_of_ble_eq_true rfl⟩) (gPX_VA (va_P_r (ws := [(oa, .inl (y 1, 1, .inr (.inl of)))]) hP) (va_D_r (ws := [(oa, .inl (y 1, 1, .inr (.inl of)))]) hD) hK hE hS hA 0 rfl rfl) rfl rfl hl.1 rfl (lv_room (Nat.le_of_ble_eq_true rfl)) dL_sum_5 ⟨Nat.le_of_ble_eq_true rfl, Nat.le_of_ble_eq_true rfl⟩) hP hD hS hA hown [] ⟨0, 10, 13, 20⟩ [⟨0, 10, 17, 15⟩] (by rw [htab]; rfl) (fun z hz => absurd hz List.not_mem_nil) (by decide) (by decide) (hts (.classLink RL 20 "java/lang/IndexOutOfBoundsException") (List.mem_of_getElem? (i := 1) rfl)) (hE.cw (Cond.castable gIOB gIOB) (List.mem_of_getElem? (i := 5) rfl)) (fun q9 w1 H locs hf hP hD hS => ?_)
  obtain rfl : w1 = wXp y ad h q n b1 l1 r1 b2 l2 r2 b3 l3 r3 uz ul uh f1 g1 f2 g2 pa kd on ot pt fb fl fh tb tl th dg ds := hf
  have hP : va_P D vwCl (wXo oa of y ad h q n (gPg pa n) n b1 l1 r1 b2 l2 r2 b3 l3 r3 uz ul uh f1 g1 f2 g2 pa kd on ot pt fb fl fh tb tl th dg ds) H := hP
  have hD : va_D A (wXo oa of y ad h q n (gPg pa n) n b1 l1 r1 b2 l2 r2 b3 l3 r3 uz ul uh f1 g1 f2 g2 pa kd on ot pt fb fl fh tb tl th dg ds) := hD
  refine lv_astore (lv' := [(4, .ref q9), (0, .ref h), (1, .int a), (2, .int b), (3, .ref oa)]) hx hb dL_sum_13 hl (by decide) rfl (fun ls hl => ?_)
  refine lv_iconst (v := 1) hx hb dL_sum_15 (by decide) ?_
  have hP9 := hP
  have hD9 := hD
  exact W.iret (v := 1) hx hb hr (fun t ht hW => ⟨⟨some (.int (1)), wXo oa of y ad h q n (gPg pa n) n b1 l1 r1 b2 l2 r2 b3 l3 r3 uz ul uh f1 g1 f2 g2 pa kd on ot pt fb fl fh tb tl th dg ds, rfl, ⟨rfl, rfl⟩, by rw [← hAe]; exact hD9, by rw [ht]; exact hP9⟩, by rw [← hAe]; exact hS.F ht⟩) (by rw [← hAe]; exact hS.2.2) dL_sum_16
set_option maxHeartbeats 4000000 in
set_option maxRecDepth 100000 in
theorem c_L_sum_X1b (l : Launch) (hfl : l.stackTraces = false) (D : va_G) (y : Nat → ClassId) (ad : Nat → Nat) (sz : Nat) (h : Nat) (q : Nat → Nat) (n : Nat) (b1 : Bool) (l1 r1 : Int64) (b2 : Bool) (l2 r2 : Int64) (b3 : Bool) (l3 r3 : Int64) (uz : Nat → Bool) (ul uh : Nat → Int64) (f1 g1 f2 g2 : Int64) (pa : Nat → Nat → Nat) (kd : Nat → Nat) (on ot : Nat → Int32) (pt : Nat → Int64) (fb : Nat → Nat → Bool) (fl fh : Nat → Nat → Int64) (tb : Nat → Nat → Bool) (tl th : Nat → Nat → Int64) (dg : Nat → Int32) (ds : Nat → Int64) (k : Nat) (b : Int32) (oa : Nat) (of : Nat → Int64) (hn : n ≤ 40) (hk : k < n) (hbad : b < 0 ∨ nI n ≤ b) : Met l yL_sum wsL_sum ({ frames := 9, cells := 1, slots := 6, locals := 163 } : Room) (gPN D y ad [.ref h, .int (nI k), .int b, .ref oa] (wXo oa of y ad h q n (gPg pa n) n b1 l1 r1 b2 l2 r2 b3 l3 r3 uz ul uh f1 g1 f2 g2 pa kd on ot pt fb fl fh tb tl th dg ds) sz) (gQn D (wXo oa of y ad h q n (gPg pa n) n b1 l1 r1 b2 l2 r2 b3 l3 r3 uz ul uh f1 g1 f2 g2 pa kd on ot pt fb fl fh tb tl th dg ds) (fun v w => v = some (.int 1) ∧ w = (wXo oa of y ad h q n (gPg pa n) n b1 l1 r1 b2 l2 r2 b3 l3 r3 uz ul uh f1 g1 f2 g2 pa kd on ot pt fb fl fh tb tl th dg ds))) 1 6 (va_A (wXo oa of y ad h q n (gPg pa n) n b1 l1 r1 b2 l2 r2 b3 l3 r3 uz ul uh f1 g1 f2 g2 pa kd on ot pt fb fl fh tb tl th dg ds) sz) := by
  refine gMet_ofWH (cc := cL_sum) (maxL := 5) (ret := (some .int)) (hh := [(0, 10, 13, 20), (0, 10, 17, 15)]) (by decide) rfl ?_
  intro pg e s m args below meth c s₁ B hml hv
  obtain ⟨rfl, ⟨hsz, hP, hK, hD0, hE0⟩, hN⟩ := hv
  have hx := B.exec
  have hb := B.bytes
  have hr := B.returns
  have hts := atoms_spec (ws := wsL_sum) B.pre
  have hown : s.vm.findClass RL = some m.cls := findClass_of_methodNamed B.named
  have htab : c.exceptionTable.toList = tableOf [(0, 10, 13, 20), (0, 10, 17, 15)] := vx_table (x := yL_sum) B (hts _ List.mem_cons_self)
  have hlocks := B.notSynchronized
  subst hsz
  obtain ⟨A, hAe⟩ : ∃ A : Nat → Prop, A = va_A (wXo oa of y ad h q n (gPg pa n) n b1 l1 r1 b2 l2 r2 b3 l3 r3 uz ul uh f1 g1 f2 g2 pa kd on ot pt fb fl fh tb tl th dg ds) s.heap.size := ⟨_, rfl⟩
  have hE : gE ad A s s.heap := by rw [hAe]; exact hE0
  have hD : va_D A (wXo oa of y ad h q n (gPg pa n) n b1 l1 r1 b2 l2 r2 b3 l3 r3 uz ul uh f1 g1 f2 g2 pa kd on ot pt fb fl fh tb tl th dg ds) := by rw [hAe]; exact hD0.self (sz := s.heap.size)
  have hA : ∀ q : Nat, s.heap.size ≤ q → A q := fun q h => by rw [hAe]; exact Or.inr h
  have hS : va_S A s.heap s.heap [] := va_S.rf
  have hl := lv_entry ([.ref h, .int (nI k), .int b, .ref oa]) (n := 5) (Nat.le_of_ble_eq_true rfl)
  rw [lg_entry_eq]
  generalize (lg_sl ([.ref h, .int (nI k), .int b, .ref oa]) ++ List.replicate (5 - (lg_sl ([.ref h, .int (nI k), .int b, .ref oa])).length) Slot.unset).toArray = ls at hl ⊢
  have hl : lv_has ls 5 [(0, .ref h), (1, .int (nI k)), (2, .int b), (3, .ref oa)] := hl
  refine lv_aload_n hx hb dL_sum_0 rfl (lv_at hl 3 rfl) ?_
  refine lv_iconst (v := 0) hx hb dL_sum_1 (by decide) ?_
  refine lv_aload_n hx hb dL_sum_2 rfl (lv_at hl 0 rfl) ?_
  refine lv_iload_n hx hb dL_sum_3 rfl (lv_at hl 1 rfl) ?_
  refine lv_iload_n hx hb dL_sum_4 rfl (lv_at hl 2 rfl) ?_
  refine g_catch (name := gIOB) (ws := [(oa, .inl (y 1, 1, .inr (.inl of)))]) (vx_runV (As := [.int (nI k), .int b]) (rest := [.int 0, .ref oa]) ⟨hx, hb, hml, hown, hts⟩ (c_X7_sum_X1b l hfl D y ad s.heap.size h q n b1 l1 r1 b2 l2 r2 b3 l3 r3 uz ul uh f1 g1 f2 g2 pa kd on ot pt fb fl fh tb tl th dg ds k b hn hk hbad) (cwV 2 hts gL_sum_X7_sum rfl rfl rfl (by decide +kernel) ⟨Nat.le_of_ble_eq_true rfl, Nat.le_of_ble_eq_true rfl⟩) (gPX_VA (va_P_r (ws := [(oa, .inl (y 1, 1, .inr (.inl of)))]) hP) (va_D_r (ws := [(oa, .inl (y 1, 1, .inr (.inl of)))]) hD) hK hE hS hA 0 rfl rfl) rfl rfl hl.1 rfl (lv_room (Nat.le_of_ble_eq_true rfl)) dL_sum_5 ⟨Nat.le_of_ble_eq_true rfl, Nat.le_of_ble_eq_true rfl⟩) hP hD hS hA hown [] ⟨0, 10, 13, 20⟩ [⟨0, 10, 17, 15⟩] (by rw [htab]; rfl) (fun z hz => absurd hz List.not_mem_nil) (by decide) (by decide) (hts (.classLink RL 20 "java/lang/IndexOutOfBoundsException") (List.mem_of_getElem? (i := 1) rfl)) (hE.cw (Cond.castable gIOB gIOB) (List.mem_of_getElem? (i := 5) rfl)) (fun q9 w1 H locs hf hP hD hS => ?_)
  obtain rfl : w1 = wXp y ad h q n b1 l1 r1 b2 l2 r2 b3 l3 r3 uz ul uh f1 g1 f2 g2 pa kd on ot pt fb fl fh tb tl th dg ds := hf
  have hP : va_P D vwCl (wXo oa of y ad h q n (gPg pa n) n b1 l1 r1 b2 l2 r2 b3 l3 r3 uz ul uh f1 g1 f2 g2 pa kd on ot pt fb fl fh tb tl th dg ds) H := hP
  have hD : va_D A (wXo oa of y ad h q n (gPg pa n) n b1 l1 r1 b2 l2 r2 b3 l3 r3 uz ul uh f1 g1 f2 g2 pa kd on ot pt fb fl fh tb tl th dg ds) := hD
  refine lv_astore (lv' := [(4, .ref q9), (0, .ref h), (1, .int (nI k)), (2, .int b), (3, .ref oa)]) hx hb dL_sum_13 hl (by decide) rfl (fun ls hl => ?_)
  refine lv_iconst (v := 1) hx hb dL_sum_15 (by decide) ?_
  have hP9 := hP
  have hD9 := hD
  exact W.iret (v := 1) hx hb hr (fun t ht hW => ⟨⟨some (.int (1)), wXo oa of y ad h q n (gPg pa n) n b1 l1 r1 b2 l2 r2 b3 l3 r3 uz ul uh f1 g1 f2 g2 pa kd on ot pt fb fl fh tb tl th dg ds, rfl, ⟨rfl, rfl⟩, by rw [← hAe]; exact hD9, by rw [ht]; exact hP9⟩, by rw [← hAe]; exact hS.F ht⟩) (by rw [← hAe]; exact hS.2.2) dL_sum_16
set_option maxHeartbeats 4000000 in
set_option maxRecDepth 100000 in
theorem c_L_sum_X2 (l : Launch) (hfl : l.stackTraces = false) (D : va_G) (y : Nat → ClassId) (ad : Nat → Nat) (sz : Nat) (h : Nat) (q : Nat → Nat) (n : Nat) (b1 : Bool) (l1 r1 : Int64) (b2 : Bool) (l2 r2 : Int64) (b3 : Bool) (l3 r3 : Int64) (uz : Nat → Bool) (ul uh : Nat → Int64) (f1 g1 f2 g2 : Int64) (pa : Nat → Nat → Nat) (kd : Nat → Nat) (on ot : Nat → Int32) (pt : Nat → Int64) (fb : Nat → Nat → Bool) (fl fh : Nat → Nat → Int64) (tb : Nat → Nat → Bool) (tl th : Nat → Nat → Int64) (dg : Nat → Int32) (ds : Nat → Int64) (k j : Nat) (oa : Nat) (of : Nat → Int64) (hn : n ≤ 40) (hk : k < n) (hj : j < n) (hn2 : ¬ n < 40) : Met l yL_sum wsL_sum ({ frames := 9, cells := 1, slots := 6, locals := 161 } : Room) (gPN D y ad [.ref h, .int (nI k), .int (nI j), .ref oa] (wXo oa of y ad h q n (gPg pa n) n b1 l1 r1 b2 l2 r2 b3 l3 r3 uz ul uh f1 g1 f2 g2 pa kd on ot pt fb fl fh tb tl th dg ds) sz) (gQn D (wXo oa of y ad h q n (gPg pa n) n b1 l1 r1 b2 l2 r2 b3 l3 r3 uz ul uh f1 g1 f2 g2 pa kd on ot pt fb fl fh tb tl th dg ds) (fun v w => v = some (.int 2) ∧ w = (wXo oa of y ad h q n (gPg pa n) n b1 l1 r1 b2 l2 r2 b3 l3 r3 uz ul uh f1 g1 f2 g2 pa kd on ot pt fb fl fh tb tl th dg ds))) 1 6 (va_A (wXo oa of y ad h q n (gPg pa n) n b1 l1 r1 b2 l2 r2 b3 l3 r3 uz ul uh f1 g1 f2 g2 pa kd on ot pt fb fl fh tb tl th dg ds) sz) := by
  refine gMet_ofWH (cc := cL_sum) (maxL := 5) (ret := (some .int)) (hh := [(0, 10, 13, 20), (0, 10, 17, 15)]) (by decide) rfl ?_
  intro pg e s m args below meth c s₁ B hml hv
  obtain ⟨rfl, ⟨hsz, hP, hK, hD0, hE0⟩, hN⟩ := hv
  have hx := B.exec
  have hb := B.bytes
  have hr := B.returns
  have hts := atoms_spec (ws := wsL_sum) B.pre
  have hown : s.vm.findClass RL = some m.cls := findClass_of_methodNamed B.named
  have htab : c.exceptionTable.toList = tableOf [(0, 10, 13, 20), (0, 10, 17, 15)] := vx_table (x := yL_sum) B (hts _ List.mem_cons_self)
  have hlocks := B.notSynchronized
  subst hsz
  obtain ⟨A, hAe⟩ : ∃ A : Nat → Prop, A = va_A (wXo oa of y ad h q n (gPg pa n) n b1 l1 r1 b2 l2 r2 b3 l3 r3 uz ul uh f1 g1 f2 g2 pa kd on ot pt fb fl fh tb tl th dg ds) s.heap.size := ⟨_, rfl⟩
  have hE : gE ad A s s.heap := by rw [hAe]; exact hE0
  have hD : va_D A (wXo oa of y ad h q n (gPg pa n) n b1 l1 r1 b2 l2 r2 b3 l3 r3 uz ul uh f1 g1 f2 g2 pa kd on ot pt fb fl fh tb tl th dg ds) := by rw [hAe]; exact hD0.self (sz := s.heap.size)
  have hA : ∀ q : Nat, s.heap.size ≤ q → A q := fun q h => by rw [hAe]; exact Or.inr h
  have hS : va_S A s.heap s.heap [] := va_S.rf
  have hl := lv_entry ([.ref h, .int (nI k), .int (nI j), .ref oa]) (n := 5) (Nat.le_of_ble_eq_true rfl)
  rw [lg_entry_eq]
  generalize (lg_sl ([.ref h, .int (nI k), .int (nI j), .ref oa]) ++ List.replicate (5 - (lg_sl ([.ref h, .int (nI k), .int (nI j), .ref oa])).length) Slot.unset).toArray = ls at hl ⊢
  have hl : lv_has ls 5 [(0, .ref h), (1, .int (nI k)), (2, .int (nI j)), (3, .ref oa)] := hl
  refine lv_aload_n hx hb dL_sum_0 rfl (lv_at hl 3 rfl) ?_
  refine lv_iconst (v := 0) hx hb dL_sum_1 (by decide) ?_
  refine lv_aload_n hx hb dL_sum_2 rfl (lv_at hl 0 rfl) ?_
  refine lv_iload_n hx hb dL_sum_3 rfl (lv_at hl 1 rfl) ?_
  refine lv_iload_n hx hb dL_sum_4 rfl (lv_at hl 2 rfl) ?_
  refine g_catch (name := gISE) (ws := [(oa, .inl (y 1, 1, .inr (.inl of)))]) (vx_runV (As := [.int (nI k), .int (nI j)]) (rest := [.int 0, .ref oa]) ⟨hx, hb, hml, hown, hts⟩ (c_X7_sum_X2 l hfl D y ad s.heap.size h q n b1 l1 r1 b2 l2 r2 b3 l3 r3 uz ul uh f1 g1 f2 g2 pa kd on ot pt fb fl fh tb tl th dg ds k j hn hk hj hn2) (cwV 2 hts gL_sum_X7_sum rfl rfl rfl (by decide +kernel) ⟨Nat.le_of_ble_eq_true rfl, Nat.le_of_ble_eq_true rfl⟩) (gPX_VA (va_P_r (ws := [(oa, .inl (y 1, 1, .inr (.inl of)))]) hP) (va_D_r (ws := [(oa, .inl (y 1, 1, .inr (.inl of)))]) hD) hK hE hS hA 0 rfl rfl) rfl rfl hl.1 rfl (lv_room (Nat.le_of_ble_eq_true rfl)) dL_sum_5 ⟨Nat.le_of_ble_eq_true rfl, Nat.le_of_ble_eq_true rfl⟩) hP hD hS hA hown [⟨0, 10, 13, 20⟩] ⟨0, 10, 17, 15⟩ [] (by rw [htab]; rfl) (fun z hz => by rcases List.mem_singleton.mp hz with rfl; exact Or.inr ⟨by decide, _, (hts (.classLink RL 20 "java/lang/IndexOutOfBoundsException") (List.mem_of_getElem? (i := 1) rfl)), hN.2.1⟩) (by decide) (by decide) (hts (.classLink RL 15 "java/lang/IllegalStateException") (List.mem_of_getElem? (i := 2) rfl)) (hE.cw (Cond.castable gISE gISE) (List.mem_of_getElem? (i := 4) rfl)) (fun q9 w1 H locs hf hP hD hS => ?_)
  obtain rfl : w1 = wXp y ad h q n b1 l1 r1 b2 l2 r2 b3 l3 r3 uz ul uh f1 g1 f2 g2 pa kd on ot pt fb fl fh tb tl th dg ds := hf
  have hP : va_P D vwCl (wXo oa of y ad h q n (gPg pa n) n b1 l1 r1 b2 l2 r2 b3 l3 r3 uz ul uh f1 g1 f2 g2 pa kd on ot pt fb fl fh tb tl th dg ds) H := hP
  have hD : va_D A (wXo oa of y ad h q n (gPg pa n) n b1 l1 r1 b2 l2 r2 b3 l3 r3 uz ul uh f1 g1 f2 g2 pa kd on ot pt fb fl fh tb tl th dg ds) := hD
  refine lv_astore (lv' := [(4, .ref q9), (0, .ref h), (1, .int (nI k)), (2, .int (nI j)), (3, .ref oa)]) hx hb dL_sum_17 hl (by decide) rfl (fun ls hl => ?_)
  refine lv_iconst (v := 2) hx hb dL_sum_19 (by decide) ?_
  have hP9 := hP
  have hD9 := hD
  exact W.iret (v := 2) hx hb hr (fun t ht hW => ⟨⟨some (.int (2)), wXo oa of y ad h q n (gPg pa n) n b1 l1 r1 b2 l2 r2 b3 l3 r3 uz ul uh f1 g1 f2 g2 pa kd on ot pt fb fl fh tb tl th dg ds, rfl, ⟨rfl, rfl⟩, by rw [← hAe]; exact hD9, by rw [ht]; exact hP9⟩, by rw [← hAe]; exact hS.F ht⟩) (by rw [← hAe]; exact hS.2.2) dL_sum_20
set_option maxHeartbeats 4000000 in
set_option maxRecDepth 100000 in
theorem c_L_sum_0 (l : Launch) (hfl : l.stackTraces = false) (D : va_G) (y : Nat → ClassId) (ad : Nat → Nat) (sz : Nat) (h : Nat) (q : Nat → Nat) (n : Nat) (b1 : Bool) (l1 r1 : Int64) (b2 : Bool) (l2 r2 : Int64) (b3 : Bool) (l3 r3 : Int64) (uz : Nat → Bool) (ul uh : Nat → Int64) (f1 g1 f2 g2 : Int64) (pa : Nat → Nat → Nat) (kd : Nat → Nat) (on ot : Nat → Int32) (pt : Nat → Int64) (fb : Nat → Nat → Bool) (fl fh : Nat → Nat → Int64) (tb : Nat → Nat → Bool) (tl th : Nat → Nat → Int64) (dg : Nat → Int32) (ds : Nat → Int64) (k j : Nat) (oa : Nat) (of : Nat → Int64) (hn4 : n < 40) (hk : k < n) (hj : j < n) : Met l yL_sum wsL_sum ({ frames := 9, cells := 9, slots := 164, locals := 271 } : Room) (gPN D y ad [.ref h, .int (nI k), .int (nI j), .ref oa] (wXo oa of y ad h q n (gPg pa n) n b1 l1 r1 b2 l2 r2 b3 l3 r3 uz ul uh f1 g1 f2 g2 pa kd on ot pt fb fl fh tb tl th dg ds) sz) (gQn D (wXo oa of y ad h q n (gPg pa n) n b1 l1 r1 b2 l2 r2 b3 l3 r3 uz ul uh f1 g1 f2 g2 pa kd on ot pt fb fl fh tb tl th dg ds) (fun v w => ∃ (yb1 : Bool) (yl1 : Int64) (yr1 : Int64) (yb2 : Bool) (yl2 : Int64) (yr2 : Int64) (yb3 : Bool) (yl3 : Int64) (yr3 : Int64) (yuz : Nat → Bool) (yul : Nat → Int64) (yuh : Nat → Int64) (yf1 : Int64) (yg1 : Int64) (yf2 : Int64) (yg2 : Int64) (nan : Nat → Nat) (fbn : Nat → Bool) (fln : Nat → Int64) (fhn : Nat → Int64) (tbn : Nat → Bool) (tln : Nat → Int64) (thn : Nat → Int64), v = some (.int 0) ∧ w = (wXo oa (vp_updL of 0 ((nI n).toInt64)) y ad h q (n + 1) (gPg (pst pa n nan) (n + 1)) (n + 1) yb1 yl1 yr1 yb2 yl2 yr2 yb3 yl3 yr3 yuz yul yuh yf1 yg1 yf2 yg2 (pst pa n nan) (pst kd n 1) (pst on n (nI k)) (pst ot n (nI j)) (pst pt n ((pt k ||| pt j) ||| jshl 1 (nI n))) (pst fb n fbn) (pst fl n fln) (pst fh n fhn) (pst tb n tbn) (pst tl n tln) (pst th n thn) (pst dg n 0) (pst ds n 0)) ∧ (∀ i9, i9 < 25 → (fbn i9, fln i9, fhn i9) = mkX fb fl fh 1 k j i9) ∧ (∀ i9, i9 < 25 → (tbn i9, tln i9, thn i9) = nwA fbn fln fhn (i9 + 1)))) 9 164 (va_A (wXo oa of y ad h q n (gPg pa n) n b1 l1 r1 b2 l2 r2 b3 l3 r3 uz ul uh f1 g1 f2 g2 pa kd on ot pt fb fl fh tb tl th dg ds) sz) := by
  refine gMet_ofWH (cc := cL_sum) (maxL := 5) (ret := (some .int)) (hh := [(0, 10, 13, 20), (0, 10, 17, 15)]) (by decide) rfl ?_
  intro pg e s m args below meth c s₁ B hml hv
  obtain ⟨rfl, ⟨hsz, hP, hK, hD0, hE0⟩, hN⟩ := hv
  have hx := B.exec
  have hb := B.bytes
  have hr := B.returns
  have hts := atoms_spec (ws := wsL_sum) B.pre
  have hown : s.vm.findClass RL = some m.cls := findClass_of_methodNamed B.named
  have htab : c.exceptionTable.toList = tableOf [(0, 10, 13, 20), (0, 10, 17, 15)] := vx_table (x := yL_sum) B (hts _ List.mem_cons_self)
  have hlocks := B.notSynchronized
  subst hsz
  obtain ⟨A, hAe⟩ : ∃ A : Nat → Prop, A = va_A (wXo oa of y ad h q n (gPg pa n) n b1 l1 r1 b2 l2 r2 b3 l3 r3 uz ul uh f1 g1 f2 g2 pa kd on ot pt fb fl fh tb tl th dg ds) s.heap.size := ⟨_, rfl⟩
  have hE : gE ad A s s.heap := by rw [hAe]; exact hE0
  have hD : va_D A (wXo oa of y ad h q n (gPg pa n) n b1 l1 r1 b2 l2 r2 b3 l3 r3 uz ul uh f1 g1 f2 g2 pa kd on ot pt fb fl fh tb tl th dg ds) := by rw [hAe]; exact hD0.self (sz := s.heap.size)
  have hA : ∀ q : Nat, s.heap.size ≤ q → A q := fun q h => by rw [hAe]; exact Or.inr h
  have hS : va_S A s.heap s.heap [] := va_S.rf
  have hl := lv_entry ([.ref h, .int (nI k), .int (nI j), .ref oa]) (n := 5) (Nat.le_of_ble_eq_true rfl)
  rw [lg_entry_eq]
  generalize (lg_sl ([.ref h, .int (nI k), .int (nI j), .ref oa]) ++ List.replicate (5 - (lg_sl ([.ref h, .int (nI k), .int (nI j), .ref oa])).length) Slot.unset).toArray = ls at hl ⊢
  have hl : lv_has ls 5 [(0, .ref h), (1, .int (nI k)), (2, .int (nI j)), (3, .ref oa)] := hl
  refine lv_aload_n hx hb dL_sum_0 rfl (lv_at hl 3 rfl) ?_
  refine lv_iconst (v := 0) hx hb dL_sum_1 (by decide) ?_
  refine lv_aload_n hx hb dL_sum_2 rfl (lv_at hl 0 rfl) ?_
  refine lv_iload_n hx hb dL_sum_3 rfl (lv_at hl 1 rfl) ?_
  refine lv_iload_n hx hb dL_sum_4 rfl (lv_at hl 2 rfl) ?_
  refine g_callN (ws := [(oa, .inl (y 1, 1, .inr (.inl of)))]) (wc := wXp y ad h q n b1 l1 r1 b2 l2 r2 b3 l3 r3 uz ul uh f1 g1 f2 g2 pa kd on ot pt fb fl fh tb tl th dg ds) (va_runV (As := [.int (nI k), .int (nI j)]) (rest := [.int 0, .ref oa]) ⟨hx, hb, hml, hown, hts⟩ (c_X7_sum_0 l hfl D y ad s.heap.size h q n b1 l1 r1 b2 l2 r2 b3 l3 r3 uz ul uh f1 g1 f2 g2 pa kd on ot pt fb fl fh tb tl th dg ds k j hn4 hk hj) (cwV 2 hts gL_sum_X7_sum rfl rfl rfl (by decide +kernel) ⟨Nat.le_of_ble_eq_true rfl, Nat.le_of_ble_eq_true rfl⟩) (gPX_VA (va_P_r (ws := [(oa, .inl (y 1, 1, .inr (.inl of)))]) hP) (va_D_r (ws := [(oa, .inl (y 1, 1, .inr (.inl of)))]) hD) hK hE hS hA 0 rfl rfl) rfl rfl hl.1 rfl (lv_room (Nat.le_of_ble_eq_true rfl)) dL_sum_5 ⟨Nat.le_of_ble_eq_true rfl, Nat.le_of_ble_eq_true rfl⟩) hP hD hS hA (fun v w1 H locs hf hP hD hS => ?_)
  obtain ⟨yb1_5, yl1_5, yr1_5, yb2_5, yl2_5, yr2_5, yb3_5, yl3_5, yr3_5, yuz_5, yul_5, yuh_5, yf1_5, yg1_5, yf2_5, yg2_5, nan_5, fbn_5, fln_5, fhn_5, tbn_5, tln_5, thn_5, rfl, rfl, h5_0, h5_1⟩ := hf
  have hP : va_P D vwCl (wXo oa of y ad h q (n + 1) (gPg (pst pa n nan_5) (n + 1)) (n + 1) yb1_5 yl1_5 yr1_5 yb2_5 yl2_5 yr2_5 yb3_5 yl3_5 yr3_5 yuz_5 yul_5 yuh_5 yf1_5 yg1_5 yf2_5 yg2_5 (pst pa n nan_5) (pst kd n 1) (pst on n (nI k)) (pst ot n (nI j)) (pst pt n ((pt k ||| pt j) ||| jshl 1 (nI n))) (pst fb n fbn_5) (pst fl n fln_5) (pst fh n fhn_5) (pst tb n tbn_5) (pst tl n tln_5) (pst th n thn_5) (pst dg n 0) (pst ds n 0)) H := hP
  have hD : va_D A (wXo oa of y ad h q (n + 1) (gPg (pst pa n nan_5) (n + 1)) (n + 1) yb1_5 yl1_5 yr1_5 yb2_5 yl2_5 yr2_5 yb3_5 yl3_5 yr3_5 yuz_5 yul_5 yuh_5 yf1_5 yg1_5 yf2_5 yg2_5 (pst pa n nan_5) (pst kd n 1) (pst on n (nI k)) (pst ot n (nI j)) (pst pt n ((pt k ||| pt j) ||| jshl 1 (nI n))) (pst fb n fbn_5) (pst fl n fln_5) (pst fh n fhn_5) (pst tb n tbn_5) (pst tl n tln_5) (pst th n thn_5) (pst dg n 0) (pst ds n 0)) := hD
  refine lv_i2l (v := (nI n).toInt64) hx hb dL_sum_8 rfl ?_
  refine g_last (k := 0) (x := (nI n).toInt64) hx hb hK.1 hP hD hS 0 1 rfl rfl (by omega) (by decide) dL_sum_9 (fun H locs hP hD hS => ?_)
  have hP : va_P D vwCl (wXo oa (vp_updL of 0 ((nI n).toInt64)) y ad h q (n + 1) (gPg (pst pa n nan_5) (n + 1)) (n + 1) yb1_5 yl1_5 yr1_5 yb2_5 yl2_5 yr2_5 yb3_5 yl3_5 yr3_5 yuz_5 yul_5 yuh_5 yf1_5 yg1_5 yf2_5 yg2_5 (pst pa n nan_5) (pst kd n 1) (pst on n (nI k)) (pst ot n (nI j)) (pst pt n ((pt k ||| pt j) ||| jshl 1 (nI n))) (pst fb n fbn_5) (pst fl n fln_5) (pst fh n fhn_5) (pst tb n tbn_5) (pst tl n tln_5) (pst th n thn_5) (pst dg n 0) (pst ds n 0)) H := hP
  have hD : va_D A (wXo oa (vp_updL of 0 ((nI n).toInt64)) y ad h q (n + 1) (gPg (pst pa n nan_5) (n + 1)) (n + 1) yb1_5 yl1_5 yr1_5 yb2_5 yl2_5 yr2_5 yb3_5 yl3_5 yr3_5 yuz_5 yul_5 yuh_5 yf1_5 yg1_5 yf2_5 yg2_5 (pst pa n nan_5) (pst kd n 1) (pst on n (nI k)) (pst ot n (nI j)) (pst pt n ((pt k ||| pt j) ||| jshl 1 (nI n))) (pst fb n fbn_5) (pst fl n fln_5) (pst fh n fhn_5) (pst tb n tbn_5) (pst tl n tln_5) (pst th n thn_5) (pst dg n 0) (pst ds n 0)) := hD
  refine lv_goto (tgt := 21) hx hb dL_sum_10 (by decide) ?_
  refine lv_iconst (v := 0) hx hb dL_sum_21 (by decide) ?_
  have hP9 := hP
  have hD9 := hD
  exact W.iret (v := 0) hx hb hr (fun t ht hW => ⟨⟨some (.int (0)), wXo oa (vp_updL of 0 ((nI n).toInt64)) y ad h q (n + 1) (gPg (pst pa n nan_5) (n + 1)) (n + 1) yb1_5 yl1_5 yr1_5 yb2_5 yl2_5 yr2_5 yb3_5 yl3_5 yr3_5 yuz_5 yul_5 yuh_5 yf1_5 yg1_5 yf2_5 yg2_5 (pst pa n nan_5) (pst kd n 1) (pst on n (nI k)) (pst ot n (nI j)) (pst pt n ((pt k ||| pt j) ||| jshl 1 (nI n))) (pst fb n fbn_5) (pst fl n fln_5) (pst fh n fhn_5) (pst tb n tbn_5) (pst tl n tln_5) (pst th n thn_5) (pst dg n 0) (pst ds n 0), rfl, ⟨yb1_5, yl1_5, yr1_5, yb2_5, yl2_5, yr2_5, yb3_5, yl3_5, yr3_5, yuz_5, yul_5, yuh_5, yf1_5, yg1_5, yf2_5, yg2_5, nan_5, fbn_5, fln_5, fhn_5, tbn_5, tln_5, thn_5, rfl, rfl, h5_0, h5_1⟩, by rw [← hAe]; exact hD9, by rw [ht]; exact hP9⟩, by rw [← hAe]; exact hS.F ht⟩) (by rw [← hAe]; exact hS.2.2) dL_sum_22
set_option maxHeartbeats 4000000 in
set_option maxRecDepth 100000 in
theorem c_L_difference_X1a (l : Launch) (hfl : l.stackTraces = false) (D : va_G) (y : Nat → ClassId) (ad : Nat → Nat) (sz : Nat) (h : Nat) (q : Nat → Nat) (n : Nat) (b1 : Bool) (l1 r1 : Int64) (b2 : Bool) (l2 r2 : Int64) (b3 : Bool) (l3 r3 : Int64) (uz : Nat → Bool) (ul uh : Nat → Int64) (f1 g1 f2 g2 : Int64) (pa : Nat → Nat → Nat) (kd : Nat → Nat) (on ot : Nat → Int32) (pt : Nat → Int64) (fb : Nat → Nat → Bool) (fl fh : Nat → Nat → Int64) (tb : Nat → Nat → Bool) (tl th : Nat → Nat → Int64) (dg : Nat → Int32) (ds : Nat → Int64) (a b : Int32) (oa : Nat) (of : Nat → Int64) (hbad : a < 0 ∨ nI n ≤ a) : Met l yL_difference wsL_difference ({ frames := 9, cells := 1, slots := 6, locals := 163 } : Room) (gPN D y ad [.ref h, .int a, .int b, .ref oa] (wXo oa of y ad h q n (gPg pa n) n b1 l1 r1 b2 l2 r2 b3 l3 r3 uz ul uh f1 g1 f2 g2 pa kd on ot pt fb fl fh tb tl th dg ds) sz) (gQn D (wXo oa of y ad h q n (gPg pa n) n b1 l1 r1 b2 l2 r2 b3 l3 r3 uz ul uh f1 g1 f2 g2 pa kd on ot pt fb fl fh tb tl th dg ds) (fun v w => v = some (.int 1) ∧ w = (wXo oa of y ad h q n (gPg pa n) n b1 l1 r1 b2 l2 r2 b3 l3 r3 uz ul uh f1 g1 f2 g2 pa kd on ot pt fb fl fh tb tl th dg ds))) 1 6 (va_A (wXo oa of y ad h q n (gPg pa n) n b1 l1 r1 b2 l2 r2 b3 l3 r3 uz ul uh f1 g1 f2 g2 pa kd on ot pt fb fl fh tb tl th dg ds) sz) := by
  refine gMet_ofWH (cc := cL_difference) (maxL := 5) (ret := (some .int)) (hh := [(0, 10, 13, 20), (0, 10, 17, 15)]) (by decide) rfl ?_
  intro pg e s m args below meth c s₁ B hml hv
  obtain ⟨rfl, ⟨hsz, hP, hK, hD0, hE0⟩, hN⟩ := hv
  have hx := B.exec
  have hb := B.bytes
  have hr := B.returns
  have hts := atoms_spec (ws := wsL_difference) B.pre
  have hown : s.vm.findClass RL = some m.cls := findClass_of_methodNamed B.named
  have htab : c.exceptionTable.toList = tableOf [(0, 10, 13, 20), (0, 10, 17, 15)] := vx_table (x := yL_difference) B (hts _ List.mem_cons_self)
  have hlocks := B.notSynchronized
  subst hsz
  obtain ⟨A, hAe⟩ : ∃ A : Nat → Prop, A = va_A (wXo oa of y ad h q n (gPg pa n) n b1 l1 r1 b2 l2 r2 b3 l3 r3 uz ul uh f1 g1 f2 g2 pa kd on ot pt fb fl fh tb tl th dg ds) s.heap.size := ⟨_, rfl⟩
  have hE : gE ad A s s.heap := by rw [hAe]; exact hE0
  have hD : va_D A (wXo oa of y ad h q n (gPg pa n) n b1 l1 r1 b2 l2 r2 b3 l3 r3 uz ul uh f1 g1 f2 g2 pa kd on ot pt fb fl fh tb tl th dg ds) := by rw [hAe]; exact hD0.self (sz := s.heap.size)
  have hA : ∀ q : Nat, s.heap.size ≤ q → A q := fun q h => by rw [hAe]; exact Or.inr h
  have hS : va_S A s.heap s.heap [] := va_S.rf
  have hl := lv_entry ([.ref h, .int a, .int b, .ref oa]) (n := 5) (Nat.le_of_ble_eq_true rfl)
  rw [lg_entry_eq]
  generalize (lg_sl ([.ref h, .int a, .int b, .ref oa]) ++ List.replicate (5 - (lg_sl ([.ref h, .int a, .int b, .ref oa])).length) Slot.unset).toArray = ls at hl ⊢
  have hl : lv_has ls 5 [(0, .ref h), (1, .int a), (2, .int b), (3, .ref oa)] := hl
  refine lv_aload_n hx hb dL_difference_0 rfl (lv_at hl 3 rfl) ?_
  refine lv_iconst (v := 0) hx hb dL_difference_1 (by decide) ?_
  refine lv_aload_n hx hb dL_difference_2 rfl (lv_at hl 0 rfl) ?_
  refine lv_iload_n hx hb dL_difference_3 rfl (lv_at hl 1 rfl) ?_
  refine lv_iload_n hx hb dL_difference_4 rfl (lv_at hl 2 rfl) ?_
  refine g_catch (name := gIOB) (ws := [(oa, .inl (y 1, 1, .inr (.inl of)))]) (vx_runV (As := [.int a, .int b]) (rest := [.int 0, .ref oa]) ⟨hx, hb, hml, hown, hts⟩ (c_X7_difference_X1a l hfl D y ad s.heap.size h q n b1 l1 r1 b2 l2 r2 b3 l3 r3 uz ul uh f1 g1 f2 g2 pa kd on ot pt fb fl fh tb tl th dg ds a b hbad) (cwV 2 hts gL_difference_X7_difference rfl rfl rfl (by decide +kernel) ⟨Nat.le_of_ble_eq_true rfl, Nat.le_of_ble_eq_true rfl⟩) (gPX_VA (va_P_r (ws := [(oa, .inl (y 1, 1, .inr (.inl of)))]) hP) (va_D_r (ws := [(oa, .inl (y 1, 1, .inr (.inl of)))]) hD) hK hE hS hA 0 rfl rfl) rfl rfl hl.1 rfl (lv_room (Nat.le_of_ble_eq_true rfl)) dL_difference_5 ⟨Nat.le_of_ble_eq_true rfl, Nat.le_of_ble_eq_true rfl⟩) hP hD hS hA hown [] ⟨0, 10, 13, 20⟩ [⟨0, 10, 17, 15⟩] (by rw [htab]; rfl) (fun z hz => absurd hz List.not_mem_nil) (by decide) (by decide) (hts (.classLink RL 20 "java/lang/IndexOutOfBoundsException") (List.mem_of_getElem? (i := 1) rfl)) (hE.cw (Cond.castable gIOB gIOB) (List.mem_of_getElem? (i := 5) rfl)) (fun q9 w1 H locs hf hP hD hS => ?_)
  obtain rfl : w1 = wXp y ad h q n b1 l1 r1 b2 l2 r2 b3 l3 r3 uz ul uh f1 g1 f2 g2 pa kd on ot pt fb fl fh tb tl th dg ds := hf
  have hP : va_P D vwCl (wXo oa of y ad h q n (gPg pa n) n b1 l1 r1 b2 l2 r2 b3 l3 r3 uz ul uh f1 g1 f2 g2 pa kd on ot pt fb fl fh tb tl th dg ds) H := hP
  have hD : va_D A (wXo oa of y ad h q n (gPg pa n) n b1 l1 r1 b2 l2 r2 b3 l3 r3 uz ul uh f1 g1 f2 g2 pa kd on ot pt fb fl fh tb tl th dg ds) := hD
  refine lv_astore (lv' := [(4, .ref q9), (0, .ref h), (1, .int a), (2, .int b), (3, .ref oa)]) hx hb dL_difference_13 hl (by decide) rfl (fun ls hl => ?_)
  refine lv_iconst (v := 1) hx hb dL_difference_15 (by decide) ?_
  have hP9 := hP
  have hD9 := hD
  exact W.iret (v := 1) hx hb hr (fun t ht hW => ⟨⟨some (.int (1)), wXo oa of y ad h q n (gPg pa n) n b1 l1 r1 b2 l2 r2 b3 l3 r3 uz ul uh f1 g1 f2 g2 pa kd on ot pt fb fl fh tb tl th dg ds, rfl, ⟨rfl, rfl⟩, by rw [← hAe]; exact hD9, by rw [ht]; exact hP9⟩, by rw [← hAe]; exact hS.F ht⟩) (by rw [← hAe]; exact hS.2.2) dL_difference_16
set_option maxHeartbeats 4000000 in
set_option maxRecDepth 100000 in
theorem c_L_difference_X1b (l : Launch) (hfl : l.stackTraces = false) (D : va_G) (y : Nat → ClassId) (ad : Nat → Nat) (sz : Nat) (h : Nat) (q : Nat → Nat) (n : Nat) (b1 : Bool) (l1 r1 : Int64) (b2 : Bool) (l2 r2 : Int64) (b3 : Bool) (l3 r3 : Int64) (uz : Nat → Bool) (ul uh : Nat → Int64) (f1 g1 f2 g2 : Int64) (pa : Nat → Nat → Nat) (kd : Nat → Nat) (on ot : Nat → Int32) (pt : Nat → Int64) (fb : Nat → Nat → Bool) (fl fh : Nat → Nat → Int64) (tb : Nat → Nat → Bool) (tl th : Nat → Nat → Int64) (dg : Nat → Int32) (ds : Nat → Int64) (k : Nat) (b : Int32) (oa : Nat) (of : Nat → Int64) (hn : n ≤ 40) (hk : k < n) (hbad : b < 0 ∨ nI n ≤ b) : Met l yL_difference wsL_difference ({ frames := 9, cells := 1, slots := 6, locals := 163 } : Room) (gPN D y ad [.ref h, .int (nI k), .int b, .ref oa] (wXo oa of y ad h q n (gPg pa n) n b1 l1 r1 b2 l2 r2 b3 l3 r3 uz ul uh f1 g1 f2 g2 pa kd on ot pt fb fl fh tb tl th dg ds) sz) (gQn D (wXo oa of y ad h q n (gPg pa n) n b1 l1 r1 b2 l2 r2 b3 l3 r3 uz ul uh f1 g1 f2 g2 pa kd on ot pt fb fl fh tb tl th dg ds) (fun v w => v = some (.int 1) ∧ w = (wXo oa of y ad h q n (gPg pa n) n b1 l1 r1 b2 l2 r2 b3 l3 r3 uz ul uh f1 g1 f2 g2 pa kd on ot pt fb fl fh tb tl th dg ds))) 1 6 (va_A (wXo oa of y ad h q n (gPg pa n) n b1 l1 r1 b2 l2 r2 b3 l3 r3 uz ul uh f1 g1 f2 g2 pa kd on ot pt fb fl fh tb tl th dg ds) sz) := by
  refine gMet_ofWH (cc := cL_difference) (maxL := 5) (ret := (some .int)) (hh := [(0, 10, 13, 20), (0, 10, 17, 15)]) (by decide) rfl ?_
  intro pg e s m args below meth c s₁ B hml hv
  obtain ⟨rfl, ⟨hsz, hP, hK, hD0, hE0⟩, hN⟩ := hv
  have hx := B.exec
  have hb := B.bytes
  have hr := B.returns
  have hts := atoms_spec (ws := wsL_difference) B.pre
  have hown : s.vm.findClass RL = some m.cls := findClass_of_methodNamed B.named
  have htab : c.exceptionTable.toList = tableOf [(0, 10, 13, 20), (0, 10, 17, 15)] := vx_table (x := yL_difference) B (hts _ List.mem_cons_self)
  have hlocks := B.notSynchronized
  subst hsz
  obtain ⟨A, hAe⟩ : ∃ A : Nat → Prop, A = va_A (wXo oa of y ad h q n (gPg pa n) n b1 l1 r1 b2 l2 r2 b3 l3 r3 uz ul uh f1 g1 f2 g2 pa kd on ot pt fb fl fh tb tl th dg ds) s.heap.size := ⟨_, rfl⟩
  have hE : gE ad A s s.heap := by rw [hAe]; exact hE0
  have hD : va_D A (wXo oa of y ad h q n (gPg pa n) n b1 l1 r1 b2 l2 r2 b3 l3 r3 uz ul uh f1 g1 f2 g2 pa kd on ot pt fb fl fh tb tl th dg ds) := by rw [hAe]; exact hD0.self (sz := s.heap.size)
  have hA : ∀ q : Nat, s.heap.size ≤ q → A q := fun q h => by rw [hAe]; exact Or.inr h
  have hS : va_S A s.heap s.heap [] := va_S.rf
  have hl := lv_entry ([.ref h, .int (nI k), .int b, .ref oa]) (n := 5) (Nat.le_of_ble_eq_true rfl)
  rw [lg_entry_eq]
  generalize (lg_sl ([.ref h, .int (nI k), .int b, .ref oa]) ++ List.replicate (5 - (lg_sl ([.ref h, .int (nI k), .int b, .ref oa])).length) Slot.unset).toArray = ls at hl ⊢
  have hl : lv_has ls 5 [(0, .ref h), (1, .int (nI k)), (2, .int b), (3, .ref oa)] := hl
  refine lv_aload_n hx hb dL_difference_0 rfl (lv_at hl 3 rfl) ?_
  refine lv_iconst (v := 0) hx hb dL_difference_1 (by decide) ?_
  refine lv_aload_n hx hb dL_difference_2 rfl (lv_at hl 0 rfl) ?_
  refine lv_iload_n hx hb dL_difference_3 rfl (lv_at hl 1 rfl) ?_
  refine lv_iload_n hx hb dL_difference_4 rfl (lv_at hl 2 rfl) ?_
  refine g_catch (name := gIOB) (ws := [(oa, .inl (y 1, 1, .inr (.inl of)))]) (vx_runV (As := [.int (nI k), .int b]) (rest := [.int 0, .ref oa]) ⟨hx, hb, hml, hown, hts⟩ (c_X7_difference_X1b l hfl D y ad s.heap.size h q n b1 l1 r1 b2 l2 r2 b3 l3 r3 uz ul uh f1 g1 f2 g2 pa kd on ot pt fb fl fh tb tl th dg ds k b hn hk hbad) (cwV 2 hts gL_difference_X7_difference rfl rfl rfl (by decide +kernel) ⟨Nat.le_of_ble_eq_true rfl, Nat.le_of_ble_eq_true rfl⟩) (gPX_VA (va_P_r (ws := [(oa, .inl (y 1, 1, .inr (.inl of)))]) hP) (va_D_r (ws := [(oa, .inl (y 1, 1, .inr (.inl of)))]) hD) hK hE hS hA 0 rfl rfl) rfl rfl hl.1 rfl (lv_room (Nat.le_of_ble_eq_true rfl)) dL_difference_5 ⟨Nat.le_of_ble_eq_true rfl, Nat.le_of_ble_eq_true rfl⟩) hP hD hS hA hown [] ⟨0, 10, 13, 20⟩ [⟨0, 10, 17, 15⟩] (by rw [htab]; rfl) (fun z hz => absurd hz List.not_mem_nil) (by decide) (by decide) (hts (.classLink RL 20 "java/lang/IndexOutOfBoundsException") (List.mem_of_getElem? (i := 1) rfl)) (hE.cw (Cond.castable gIOB gIOB) (List.mem_of_getElem? (i := 5) rfl)) (fun q9 w1 H locs hf hP hD hS => ?_)
  obtain rfl : w1 = wXp y ad h q n b1 l1 r1 b2 l2 r2 b3 l3 r3 uz ul uh f1 g1 f2 g2 pa kd on ot pt fb fl fh tb tl th dg ds := hf
  have hP : va_P D vwCl (wXo oa of y ad h q n (gPg pa n) n b1 l1 r1 b2 l2 r2 b3 l3 r3 uz ul uh f1 g1 f2 g2 pa kd on ot pt fb fl fh tb tl th dg ds) H := hP
  have hD : va_D A (wXo oa of y ad h q n (gPg pa n) n b1 l1 r1 b2 l2 r2 b3 l3 r3 uz ul uh f1 g1 f2 g2 pa kd on ot pt fb fl fh tb tl th dg ds) := hD
  refine lv_astore (lv' := [(4, .ref q9), (0, .ref h), (1, .int (nI k)), (2, .int b), (3, .ref oa)]) hx hb dL_difference_13 hl (by decide) rfl (fun ls hl => ?_)
  refine lv_iconst (v := 1) hx hb dL_difference_15 (by decide) ?_
  have hP9 := hP
  have hD9 := hD
  exact W.iret (v := 1) hx hb hr (fun t ht hW => ⟨⟨some (.int (1)), wXo oa of y ad h q n (gPg pa n) n b1 l1 r1 b2 l2 r2 b3 l3 r3 uz ul uh f1 g1 f2 g2 pa kd on ot pt fb fl fh tb tl th dg ds, rfl, ⟨rfl, rfl⟩, by rw [← hAe]; exact hD9, by rw [ht]; exact hP9⟩, by rw [← hAe]; exact hS.F ht⟩) (by rw [← hAe]; exact hS.2.2) dL_difference_16
set_option maxHeartbeats 4000000 in
set_option maxRecDepth 100000 in
theorem c_L_difference_X2 (l : Launch) (hfl : l.stackTraces = false) (D : va_G) (y : Nat → ClassId) (ad : Nat → Nat) (sz : Nat) (h : Nat) (q : Nat → Nat) (n : Nat) (b1 : Bool) (l1 r1 : Int64) (b2 : Bool) (l2 r2 : Int64) (b3 : Bool) (l3 r3 : Int64) (uz : Nat → Bool) (ul uh : Nat → Int64) (f1 g1 f2 g2 : Int64) (pa : Nat → Nat → Nat) (kd : Nat → Nat) (on ot : Nat → Int32) (pt : Nat → Int64) (fb : Nat → Nat → Bool) (fl fh : Nat → Nat → Int64) (tb : Nat → Nat → Bool) (tl th : Nat → Nat → Int64) (dg : Nat → Int32) (ds : Nat → Int64) (k j : Nat) (oa : Nat) (of : Nat → Int64) (hn : n ≤ 40) (hk : k < n) (hj : j < n) (hn2 : ¬ n < 40) : Met l yL_difference wsL_difference ({ frames := 9, cells := 1, slots := 6, locals := 161 } : Room) (gPN D y ad [.ref h, .int (nI k), .int (nI j), .ref oa] (wXo oa of y ad h q n (gPg pa n) n b1 l1 r1 b2 l2 r2 b3 l3 r3 uz ul uh f1 g1 f2 g2 pa kd on ot pt fb fl fh tb tl th dg ds) sz) (gQn D (wXo oa of y ad h q n (gPg pa n) n b1 l1 r1 b2 l2 r2 b3 l3 r3 uz ul uh f1 g1 f2 g2 pa kd on ot pt fb fl fh tb tl th dg ds) (fun v w => v = some (.int 2) ∧ w = (wXo oa of y ad h q n (gPg pa n) n b1 l1 r1 b2 l2 r2 b3 l3 r3 uz ul uh f1 g1 f2 g2 pa kd on ot pt fb fl fh tb tl th dg ds))) 1 6 (va_A (wXo oa of y ad h q n (gPg pa n) n b1 l1 r1 b2 l2 r2 b3 l3 r3 uz ul uh f1 g1 f2 g2 pa kd on ot pt fb fl fh tb tl th dg ds) sz) := by
  refine gMet_ofWH (cc := cL_difference) (maxL := 5) (ret := (some .int)) (hh := [(0, 10, 13, 20), (0, 10, 17, 15)]) (by decide) rfl ?_
  intro pg e s m args below meth c s₁ B hml hv
  obtain ⟨rfl, ⟨hsz, hP, hK, hD0, hE0⟩, hN⟩ := hv
  have hx := B.exec
  have hb := B.bytes
  have hr := B.returns
  have hts := atoms_spec (ws := wsL_difference) B.pre
  have hown : s.vm.findClass RL = some m.cls := findClass_of_methodNamed B.named
  have htab : c.exceptionTable.toList = tableOf [(0, 10, 13, 20), (0, 10, 17, 15)] := vx_table (x := yL_difference) B (hts _ List.mem_cons_self)
  have hlocks := B.notSynchronized
  subst hsz
  obtain ⟨A, hAe⟩ : ∃ A : Nat → Prop, A = va_A (wXo oa of y ad h q n (gPg pa n) n b1 l1 r1 b2 l2 r2 b3 l3 r3 uz ul uh f1 g1 f2 g2 pa kd on ot pt fb fl fh tb tl th dg ds) s.heap.size := ⟨_, rfl⟩
  have hE : gE ad A s s.heap := by rw [hAe]; exact hE0
  have hD : va_D A (wXo oa of y ad h q n (gPg pa n) n b1 l1 r1 b2 l2 r2 b3 l3 r3 uz ul uh f1 g1 f2 g2 pa kd on ot pt fb fl fh tb tl th dg ds) := by rw [hAe]; exact hD0.self (sz := s.heap.size)
  have hA : ∀ q : Nat, s.heap.size ≤ q → A q := fun q h => by rw [hAe]; exact Or.inr h
  have hS : va_S A s.heap s.heap [] := va_S.rf
  have hl := lv_entry ([.ref h, .int (nI k), .int (nI j), .ref oa]) (n := 5) (Nat.le_of_ble_eq_true rfl)
  rw [lg_entry_eq]
  generalize (lg_sl ([.ref h, .int (nI k), .int (nI j), .ref oa]) ++ List.replicate (5 - (lg_sl ([.ref h, .int (nI k), .int (nI j), .ref oa])).length) Slot.unset).toArray = ls at hl ⊢
  have hl : lv_has ls 5 [(0, .ref h), (1, .int (nI k)), (2, .int (nI j)), (3, .ref oa)] := hl
  refine lv_aload_n hx hb dL_difference_0 rfl (lv_at hl 3 rfl) ?_
  refine lv_iconst (v := 0) hx hb dL_difference_1 (by decide) ?_
  refine lv_aload_n hx hb dL_difference_2 rfl (lv_at hl 0 rfl) ?_
  refine lv_iload_n hx hb dL_difference_3 rfl (lv_at hl 1 rfl) ?_
  refine lv_iload_n hx hb dL_difference_4 rfl (lv_at hl 2 rfl) ?_
  refine g_catch (name := gISE) (ws := [(oa, .inl (y 1, 1, .inr (.inl of)))]) (vx_runV (As := [.int (nI k), .int (nI j)]) (rest := [.int 0, .ref oa]) ⟨hx, hb, hml, hown, hts⟩ (c_X7_difference_X2 l hfl D y ad s.heap.size h q n b1 l1 r1 b2 l2 r2 b3 l3 r3 uz ul uh f1 g1 f2 g2 pa kd on ot pt fb fl fh tb tl th dg ds k j hn hk hj hn2) (cwV 2 hts gL_difference_X7_difference rfl rfl rfl (by decide +kernel) ⟨Nat.le_of_ble_eq_true rfl, Nat.le_of_ble_eq_true rfl⟩) (gPX_VA (va_P_r (ws := [(oa, .inl (y 1, 1, .inr (.inl of)))]) hP) (va_D_r (ws := [(oa, .inl (y 1, 1, .inr (.inl of)))]) hD) hK hE hS hA 0 rfl rfl) rfl rfl hl.1 rfl (lv_room (Nat.le_of_ble_eq_true rfl)) dL_difference_5 ⟨Nat.le_of_ble_eq_true rfl, Nat.le_of_ble_eq_true rfl⟩) hP hD hS hA hown [⟨0, 10, 13, 20⟩] ⟨0, 10, 17, 15⟩ [] (by rw [htab]; rfl) (fun z hz => by rcases List.mem_singleton.mp hz with rfl; exact Or.inr ⟨by decide, _, (hts (.classLink RL 20 "java/lang/IndexOutOfBoundsException") (List.mem_of_getElem? (i := 1) rfl)), hN.2.1⟩) (by decide) (by decide) (hts (.classLink RL 15 "java/lang/IllegalStateException") (List.mem_of_getElem? (i := 2) rfl)) (hE.cw (Cond.castable gISE gISE) (List.mem_of_getElem? (i := 4) rfl)) (fun q9 w1 H locs hf hP hD hS => ?_)
  obtain rfl : w1 = wXp y ad h q n b1 l1 r1 b2 l2 r2 b3 l3 r3 uz ul uh f1 g1 f2 g2 pa kd on ot pt fb fl fh tb tl th dg ds := hf
  have hP : va_P D vwCl (wXo oa of y ad h q n (gPg pa n) n b1 l1 r1 b2 l2 r2 b3 l3 r3 uz ul uh f1 g1 f2 g2 pa kd on ot pt fb fl fh tb tl th dg ds) H := hP
  have hD : va_D A (wXo oa of y ad h q n (gPg pa n) n b1 l1 r1 b2 l2 r2 b3 l3 r3 uz ul uh f1 g1 f2 g2 pa kd on ot pt fb fl fh tb tl th dg ds) := hD
  refine lv_astore (lv' := [(4, .ref q9), (0, .ref h), (1, .int (nI k)), (2, .int (nI j)), (3, .ref oa)]) hx hb dL_difference_17 hl (by decide) rfl (fun ls hl => ?_)
  refine lv_iconst (v := 2) hx hb dL_difference_19 (by decide) ?_
  have hP9 := hP
  have hD9 := hD
  exact W.iret (v := 2) hx hb hr (fun t ht hW => ⟨⟨some (.int (2)), wXo oa of y ad h q n (gPg pa n) n b1 l1 r1 b2 l2 r2 b3 l3 r3 uz ul uh f1 g1 f2 g2 pa kd on ot pt fb fl fh tb tl th dg ds, rfl, ⟨rfl, rfl⟩, by rw [← hAe]; exact hD9, by rw [ht]; exact hP9⟩, by rw [← hAe]; exact hS.F ht⟩) (by rw [← hAe]; exact hS.2.2) dL_difference_20
set_option maxHeartbeats 4000000 in
set_option maxRecDepth 100000 in
theorem c_L_difference_0 (l : Launch) (hfl : l.stackTraces = false) (D : va_G) (y : Nat → ClassId) (ad : Nat → Nat) (sz : Nat) (h : Nat) (q : Nat → Nat) (n : Nat) (b1 : Bool) (l1 r1 : Int64) (b2 : Bool) (l2 r2 : Int64) (b3 : Bool) (l3 r3 : Int64) (uz : Nat → Bool) (ul uh : Nat → Int64) (f1 g1 f2 g2 : Int64) (pa : Nat → Nat → Nat) (kd : Nat → Nat) (on ot : Nat → Int32) (pt : Nat → Int64) (fb : Nat → Nat → Bool) (fl fh : Nat → Nat → Int64) (tb : Nat → Nat → Bool) (tl th : Nat → Nat → Int64) (dg : Nat → Int32) (ds : Nat → Int64) (k j : Nat) (oa : Nat) (of : Nat → Int64) (hn4 : n < 40) (hk : k < n) (hj : j < n) : Met l yL_difference wsL_difference ({ frames := 9, cells := 9, slots := 164, locals := 271 } : Room) (gPN D y ad [.ref h, .int (nI k), .int (nI j), .ref oa] (wXo oa of y ad h q n (gPg pa n) n b1 l1 r1 b2 l2 r2 b3 l3 r3 uz ul uh f1 g1 f2 g2 pa kd on ot pt fb fl fh tb tl th dg ds) sz) (gQn D (wXo oa of y ad h q n (gPg pa n) n b1 l1 r1 b2 l2 r2 b3 l3 r3 uz ul uh f1 g1 f2 g2 pa kd on ot pt fb fl fh tb tl th dg ds) (fun v w => ∃ (yb1 : Bool) (yl1 : Int64) (yr1 : Int64) (yb2 : Bool) (yl2 : Int64) (yr2 : Int64) (yb3 : Bool) (yl3 : Int64) (yr3 : Int64) (yuz : Nat → Bool) (yul : Nat → Int64) (yuh : Nat → Int64) (yf1 : Int64) (yg1 : Int64) (yf2 : Int64) (yg2 : Int64) (nan : Nat → Nat) (fbn : Nat → Bool) (fln : Nat → Int64) (fhn : Nat → Int64) (tbn : Nat → Bool) (tln : Nat → Int64) (thn : Nat → Int64), v = some (.int 0) ∧ w = (wXo oa (vp_updL of 0 ((nI n).toInt64)) y ad h q (n + 1) (gPg (pst pa n nan) (n + 1)) (n + 1) yb1 yl1 yr1 yb2 yl2 yr2 yb3 yl3 yr3 yuz yul yuh yf1 yg1 yf2 yg2 (pst pa n nan) (pst kd n 2) (pst on n (nI k)) (pst ot n (nI j)) (pst pt n ((pt k ||| pt j) ||| jshl 1 (nI n))) (pst fb n fbn) (pst fl n fln) (pst fh n fhn) (pst tb n tbn) (pst tl n tln) (pst th n thn) (pst dg n 0) (pst ds n 0)) ∧ (∀ i9, i9 < 25 → (fbn i9, fln i9, fhn i9) = mkX fb fl fh 2 k j i9) ∧ (∀ i9, i9 < 25 → (tbn i9, tln i9, thn i9) = nwA fbn fln fhn (i9 + 1)))) 9 164 (va_A (wXo oa of y ad h q n (gPg pa n) n b1 l1 r1 b2 l2 r2 b3 l3 r3 uz ul uh f1 g1 f2 g2 pa kd on ot pt fb fl fh tb tl th dg ds) sz) := by
  refine gMet_ofWH (cc := cL_difference) (maxL := 5) (ret := (some .int)) (hh := [(0, 10, 13, 20), (0, 10, 17, 15)]) (by decide) rfl ?_
  intro pg e s m args below meth c s₁ B hml hv
  obtain ⟨rfl, ⟨hsz, hP, hK, hD0, hE0⟩, hN⟩ := hv
  have hx := B.exec
  have hb := B.bytes
  have hr := B.returns
  have hts := atoms_spec (ws := wsL_difference) B.pre
  have hown : s.vm.findClass RL = some m.cls := findClass_of_methodNamed B.named
  have htab : c.exceptionTable.toList = tableOf [(0, 10, 13, 20), (0, 10, 17, 15)] := vx_table (x := yL_difference) B (hts _ List.mem_cons_self)
  have hlocks := B.notSynchronized
  subst hsz
  obtain ⟨A, hAe⟩ : ∃ A : Nat → Prop, A = va_A (wXo oa of y ad h q n (gPg pa n) n b1 l1 r1 b2 l2 r2 b3 l3 r3 uz ul uh f1 g1 f2 g2 pa kd on ot pt fb fl fh tb tl th dg ds) s.heap.size := ⟨_, rfl⟩
  have hE : gE ad A s s.heap := by rw [hAe]; exact hE0
  have hD : va_D A (wXo oa of y ad h q n (gPg pa n) n b1 l1 r1 b2 l2 r2 b3 l3 r3 uz ul uh f1 g1 f2 g2 pa kd on ot pt fb fl fh tb tl th dg ds) := by rw [hAe]; exact hD0.self (sz := s.heap.size)
  have hA : ∀ q : Nat, s.heap.size ≤ q → A q := fun q h => by rw [hAe]; exact Or.inr h
  have hS : va_S A s.heap s.heap [] := va_S.rf
  have hl := lv_entry ([.ref h, .int (nI k), .int (nI j), .ref oa]) (n := 5) (Nat.le_of_ble_eq_true rfl)
  rw [lg_entry_eq]
  generalize (lg_sl ([.ref h, .int (nI k), .int (nI j), .ref oa]) ++ List.replicate (5 - (lg_sl ([.ref h, .int (nI k), .int (nI j), .ref oa])).length) Slot.unset).toArray = ls at hl ⊢
  have hl : lv_has ls 5 [(0, .ref h), (1, .int (nI k)), (2, .int (nI j)), (3, .ref oa)] := hl
  refine lv_aload_n hx hb dL_difference_0 rfl (lv_at hl 3 rfl) ?_
  refine lv_iconst (v := 0) hx hb dL_difference_1 (by decide) ?_
  refine lv_aload_n hx hb dL_difference_2 rfl (lv_at hl 0 rfl) ?_
  refine lv_iload_n hx hb dL_difference_3 rfl (lv_at hl 1 rfl) ?_
  refine lv_iload_n hx hb dL_difference_4 rfl (lv_at hl 2 rfl) ?_
  refine g_callN (ws := [(oa, .inl (y 1, 1, .inr (.inl of)))]) (wc := wXp y ad h q n b1 l1 r1 b2 l2 r2 b3 l3 r3 uz ul uh f1 g1 f2 g2 pa kd on ot pt fb fl fh tb tl th dg ds) (va_runV (As := [.int (nI k), .int (nI j)]) (rest := [.int 0, .ref oa]) ⟨hx, hb, hml, hown, hts⟩ (c_X7_difference_0 l hfl D y ad s.heap.size h q n b1 l1 r1 b2 l2 r2 b3 l3 r3 uz ul uh f1 g1 f2 g2 pa kd on ot pt fb fl fh tb tl th dg ds k j hn4 hk hj) (cwV 2 hts gL_difference_X7_difference rfl rfl rfl (by decide +kernel) ⟨Nat.le_of_ble_eq_true rfl, Nat.le_of_ble_eq_true rfl⟩) (gPX_VA (va_P_r (ws := [(oa, .inl (y 1, 1, .inr (.inl of)))]) hP) (va_D_r (ws := [(oa, .inl (y 1, 1, .inr (.inl of)))]) hD) hK hE hS hA 0 rfl rfl) rfl rfl hl.1 rfl (lv_room (Nat.le_of_ble_eq_true rfl)) dL_difference_5 ⟨Nat.le_of_ble_eq_true rfl, Nat.le_of_ble_eq_true rfl⟩) hP hD hS hA (fun v w1 H locs hf hP hD hS => ?_)
  obtain ⟨yb1_5, yl1_5, yr1_5, yb2_5, yl2_5, yr2_5, yb3_5, yl3_5, yr3_5, yuz_5, yul_5, yuh_5, yf1_5, yg1_5, yf2_5, yg2_5, nan_5, fbn_5, fln_5, fhn_5, tbn_5, tln_5, thn_5, rfl, rfl, h5_0, h5_1⟩ := hf
  have hP : va_P D vwCl (wXo oa of y ad h q (n + 1) (gPg (pst pa n nan_5) (n + 1)) (n + 1) yb1_5 yl1_5 yr1_5 yb2_5 yl2_5 yr2_5 yb3_5 yl3_5 yr3_5 yuz_5 yul_5 yuh_5 yf1_5 yg1_5 yf2_5 yg2_5 (pst pa n nan_5) (pst kd n 2) (pst on n (nI k)) (pst ot n (nI j)) (pst pt n ((pt k ||| pt j) ||| jshl 1 (nI n))) (pst fb n fbn_5) (pst fl n fln_5) (pst fh n fhn_5) (pst tb n tbn_5) (pst tl n tln_5) (pst th n thn_5) (pst dg n 0) (pst ds n 0)) H := hP
  have hD : va_D A (wXo oa of y ad h q (n + 1) (gPg (pst pa n nan_5) (n + 1)) (n + 1) yb1_5 yl1_5 yr1_5 yb2_5 yl2_5 yr2_5 yb3_5 yl3_5 yr3_5 yuz_5 yul_5 yuh_5 yf1_5 yg1_5 yf2_5 yg2_5 (pst pa n nan_5) (pst kd n 2) (pst on n (nI k)) (pst ot n (nI j)) (pst pt n ((pt k ||| pt j) ||| jshl 1 (nI n))) (pst fb n fbn_5) (pst fl n fln_5) (pst fh n fhn_5) (pst tb n tbn_5) (pst tl n tln_5) (pst th n thn_5) (pst dg n 0) (pst ds n 0)) := hD
  refine lv_i2l (v := (nI n).toInt64) hx hb dL_difference_8 rfl ?_
  refine g_last (k := 0) (x := (nI n).toInt64) hx hb hK.1 hP hD hS 0 1 rfl rfl (by omega) (by decide) dL_difference_9 (fun H locs hP hD hS => ?_)
  have hP : va_P D vwCl (wXo oa (vp_updL of 0 ((nI n).toInt64)) y ad h q (n + 1) (gPg (pst pa n nan_5) (n + 1)) (n + 1) yb1_5 yl1_5 yr1_5 yb2_5 yl2_5 yr2_5 yb3_5 yl3_5 yr3_5 yuz_5 yul_5 yuh_5 yf1_5 yg1_5 yf2_5 yg2_5 (pst pa n nan_5) (pst kd n 2) (pst on n (nI k)) (pst ot n (nI j)) (pst pt n ((pt k ||| pt j) ||| jshl 1 (nI n))) (pst fb n fbn_5) (pst fl n fln_5) (pst fh n fhn_5) (pst tb n tbn_5) (pst tl n tln_5) (pst th n thn_5) (pst dg n 0) (pst ds n 0)) H := hP
  have hD : va_D A (wXo oa (vp_updL of 0 ((nI n).toInt64)) y ad h q (n + 1) (gPg (pst pa n nan_5) (n + 1)) (n + 1) yb1_5 yl1_5 yr1_5 yb2_5 yl2_5 yr2_5 yb3_5 yl3_5 yr3_5 yuz_5 yul_5 yuh_5 yf1_5 yg1_5 yf2_5 yg2_5 (pst pa n nan_5) (pst kd n 2) (pst on n (nI k)) (pst ot n (nI j)) (pst pt n ((pt k ||| pt j) ||| jshl 1 (nI n))) (pst fb n fbn_5) (pst fl n fln_5) (pst fh n fhn_5) (pst tb n tbn_5) (pst tl n tln_5) (pst th n thn_5) (pst dg n 0) (pst ds n 0)) := hD
  refine lv_goto (tgt := 21) hx hb dL_difference_10 (by decide) ?_
  refine lv_iconst (v := 0) hx hb dL_difference_21 (by decide) ?_
  have hP9 := hP
  have hD9 := hD
  exact W.iret (v := 0) hx hb hr (fun t ht hW => ⟨⟨some (.int (0)), wXo oa (vp_updL of 0 ((nI n).toInt64)) y ad h q (n + 1) (gPg (pst pa n nan_5) (n + 1)) (n + 1) yb1_5 yl1_5 yr1_5 yb2_5 yl2_5 yr2_5 yb3_5 yl3_5 yr3_5 yuz_5 yul_5 yuh_5 yf1_5 yg1_5 yf2_5 yg2_5 (pst pa n nan_5) (pst kd n 2) (pst on n (nI k)) (pst ot n (nI j)) (pst pt n ((pt k ||| pt j) ||| jshl 1 (nI n))) (pst fb n fbn_5) (pst fl n fln_5) (pst fh n fhn_5) (pst tb n tbn_5) (pst tl n tln_5) (pst th n thn_5) (pst dg n 0) (pst ds n 0), rfl, ⟨yb1_5, yl1_5, yr1_5, yb2_5, yl2_5, yr2_5, yb3_5, yl3_5, yr3_5, yuz_5, yul_5, yuh_5, yf1_5, yg1_5, yf2_5, yg2_5, nan_5, fbn_5, fln_5, fhn_5, tbn_5, tln_5, thn_5, rfl, rfl, h5_0, h5_1⟩, by rw [← hAe]; exact hD9, by rw [ht]; exact hP9⟩, by rw [← hAe]; exact hS.F ht⟩) (by rw [← hAe]; exact hS.2.2) dL_difference_22
set_option maxHeartbeats 4000000 in
set_option maxRecDepth 100000 in
theorem c_L_product_X1a (l : Launch) (hfl : l.stackTraces = false) (D : va_G) (y : Nat → ClassId) (ad : Nat → Nat) (sz : Nat) (h : Nat) (q : Nat → Nat) (n : Nat) (b1 : Bool) (l1 r1 : Int64) (b2 : Bool) (l2 r2 : Int64) (b3 : Bool) (l3 r3 : Int64) (uz : Nat → Bool) (ul uh : Nat → Int64) (f1 g1 f2 g2 : Int64) (pa : Nat → Nat → Nat) (kd : Nat → Nat) (on ot : Nat → Int32) (pt : Nat → Int64) (fb : Nat → Nat → Bool) (fl fh : Nat → Nat → Int64) (tb : Nat → Nat → Bool) (tl th : Nat → Nat → Int64) (dg : Nat → Int32) (ds : Nat → Int64) (a b : Int32) (oa : Nat) (of : Nat → Int64) (hbad : a < 0 ∨ nI n ≤ a) : Met l yL_product wsL_product ({ frames := 9, cells := 1, slots := 6, locals := 163 } : Room) (gPN D y ad [.ref h, .int a, .int b, .ref oa] (wXo oa of y ad h q n (gPg pa n) n b1 l1 r1 b2 l2 r2 b3 l3 r3 uz ul uh f1 g1 f2 g2 pa kd on ot pt fb fl fh tb tl th dg ds) sz) (gQn D (wXo oa of y ad h q n (gPg pa n) n b1 l1 r1 b2 l2 r2 b3 l3 r3 uz ul uh f1 g1 f2 g2 pa kd on ot pt fb fl fh tb tl th dg ds) (fun v w => v = some (.int 1) ∧ w = (wXo oa of y ad h q n (gPg pa n) n b1 l1 r1 b2 l2 r2 b3 l3 r3 uz ul uh f1 g1 f2 g2 pa kd on ot pt fb fl fh tb tl th dg ds))) 1 6 (va_A (wXo oa of y ad h q n (gPg pa n) n b1 l1 r1 b2 l2 r2 b3 l3 r3 uz ul uh f1 g1 f2 g2 pa kd on ot pt fb fl fh tb tl th dg ds) sz) := by
  refine gMet_ofWH (cc := cL_product) (maxL := 5) (ret := (some .int)) (hh := [(0, 10, 13, 20), (0, 10, 17, 15)]) (by decide) rfl ?_
  intro pg e s m args below meth c s₁ B hml hv
  obtain ⟨rfl, ⟨hsz, hP, hK, hD0, hE0⟩, hN⟩ := hv
  have hx := B.exec
  have hb := B.bytes
  have hr := B.returns
  have hts := atoms_spec (ws := wsL_product) B.pre
  have hown : s.vm.findClass RL = some m.cls := findClass_of_methodNamed B.named
  have htab : c.exceptionTable.toList = tableOf [(0, 10, 13, 20), (0, 10, 17, 15)] := vx_table (x := yL_product) B (hts _ List.mem_cons_self)
  have hlocks := B.notSynchronized
  subst hsz
  obtain ⟨A, hAe⟩ : ∃ A : Nat → Prop, A = va_A (wXo oa of y ad h q n (gPg pa n) n b1 l1 r1 b2 l2 r2 b3 l3 r3 uz ul uh f1 g1 f2 g2 pa kd on ot pt fb fl fh tb tl th dg ds) s.heap.size := ⟨_, rfl⟩
  have hE : gE ad A s s.heap := by rw [hAe]; exact hE0
  have hD : va_D A (wXo oa of y ad h q n (gPg pa n) n b1 l1 r1 b2 l2 r2 b3 l3 r3 uz ul uh f1 g1 f2 g2 pa kd on ot pt fb fl fh tb tl th dg ds) := by rw [hAe]; exact hD0.self (sz := s.heap.size)
  have hA : ∀ q : Nat, s.heap.size ≤ q → A q := fun q h => by rw [hAe]; exact Or.inr h
  have hS : va_S A s.heap s.heap [] := va_S.rf
  have hl := lv_entry ([.ref h, .int a, .int b, .ref oa]) (n := 5) (Nat.le_of_ble_eq_true rfl)
  rw [lg_entry_eq]
  generalize (lg_sl ([.ref h, .int a, .int b, .ref oa]) ++ List.replicate (5 - (lg_sl ([.ref h, .int a, .int b, .ref oa])).length) Slot.unset).toArray = ls at hl ⊢
  have hl : lv_has ls 5 [(0, .ref h), (1, .int a), (2, .int b), (3, .ref oa)] := hl
  refine lv_aload_n hx hb dL_product_0 rfl (lv_at hl 3 rfl) ?_
  refine lv_iconst (v := 0) hx hb dL_product_1 (by decide) ?_
  refine lv_aload_n hx hb dL_product_2 rfl (lv_at hl 0 rfl) ?_
  refine lv_iload_n hx hb dL_product_3 rfl (lv_at hl 1 rfl) ?_
  refine lv_iload_n hx hb dL_product_4 rfl (lv_at hl 2 rfl) ?_
  refine g_catch (name := gIOB) (ws := [(oa, .inl (y 1, 1, .inr (.inl of)))]) (vx_runV (As := [.int a, .int b]) (rest := [.int 0, .ref oa]) ⟨hx, hb, hml, hown, hts⟩ (c_X7_product_X1a l hfl D y ad s.heap.size h q n b1 l1 r1 b2 l2 r2 b3 l3 r3 uz ul uh f1 g1 f2 g2 pa kd on ot pt fb fl fh tb tl th dg ds a b hbad) (cwV 2 hts gL_product_X7_product rfl rfl rfl (by decide +kernel) ⟨Nat.le_of_ble_eq_true rfl, Nat.le_of_ble_eq_true rfl⟩) (gPX_VA (va_P_r (ws := [(oa, .inl (y 1, 1, .inr (.inl of)))]) hP) (va_D_r (ws := [(oa, .inl (y 1, 1, .inr (.inl of)))]) hD) hK hE hS hA 0 rfl rfl) rfl rfl hl.1 rfl (lv_room (Nat.le_of_ble_eq_true rfl)) dL_product_5 ⟨Nat.le_of_ble_eq_true rfl, Nat.le_of_ble_eq_true rfl⟩) hP hD hS hA hown [] ⟨0, 10, 13, 20⟩ [⟨0, 10, 17, 15⟩] (by rw [htab]; rfl) (fun z hz => absurd hz List.not_mem_nil) (by decide) (by decide) (hts (.classLink RL 20 "java/lang/IndexOutOfBoundsException") (List.mem_of_getElem? (i := 1) rfl)) (hE.cw (Cond.castable gIOB gIOB) (List.mem_of_getElem? (i := 5) rfl)) (fun q9 w1 H locs hf hP hD hS => ?_)
  obtain rfl : w1 = wXp y ad h q n b1 l1 r1 b2 l2 r2 b3 l3 r3 uz ul uh f1 g1 f2 g2 pa kd on ot pt fb fl fh tb tl th dg ds := hf
  have hP : va_P D vwCl (wXo oa of y ad h q n (gPg pa n) n b1 l1 r1 b2 l2 r2 b3 l3 r3 uz ul uh f1 g1 f2 g2 pa kd on ot pt fb fl fh tb tl th dg ds) H := hP
  have hD : va_D A (wXo oa of y ad h q n (gPg pa n) n b1 l1 r1 b2 l2 r2 b3 l3 r3 uz ul uh f1 g1 f2 g2 pa kd on ot pt fb fl fh tb tl th dg ds) := hD
  refine lv_astore (lv' := [(4, .ref q9), (0, .ref h), (1, .int a), (2, .int b), (3, .ref oa)]) hx hb dL_product_13 hl (by decide) rfl (fun ls hl => ?_)
  refine lv_iconst (v := 1) hx hb dL_product_15 (by decide) ?_
  have hP9 := hP
  have hD9 := hD
  exact W.iret (v := 1) hx hb hr (fun t ht hW => ⟨⟨some (.int (1)), wXo oa of y ad h q n (gPg pa n) n b1 l1 r1 b2 l2 r2 b3 l3 r3 uz ul uh f1 g1 f2 g2 pa kd on ot pt fb fl fh tb tl th dg ds, rfl, ⟨rfl, rfl⟩, by rw [← hAe]; exact hD9, by rw [ht]; exact hP9⟩, by rw [← hAe]; exact hS.F ht⟩) (by rw [← hAe]; exact hS.2.2) dL_product_16
set_option maxHeartbeats 4000000 in
set_option maxRecDepth 100000 in
theorem c_L_product_X1b (l : Launch) (hfl : l.stackTraces = false) (D : va_G) (y : Nat → ClassId) (ad : Nat → Nat) (sz : Nat) (h : Nat) (q : Nat → Nat) (n : Nat) (b1 : Bool) (l1 r1 : Int64) (b2 : Bool) (l2 r2 : Int64) (b3 : Bool) (l3 r3 : Int64) (uz : Nat → Bool) (ul uh : Nat → Int64) (f1 g1 f2 g2 : Int64) (pa : Nat → Nat → Nat) (kd : Nat → Nat) (on ot : Nat → Int32) (pt : Nat → Int64) (fb : Nat → Nat → Bool) (fl fh : Nat → Nat → Int64) (tb : Nat → Nat → Bool) (tl th : Nat → Nat → Int64) (dg : Nat → Int32) (ds : Nat → Int64) (k : Nat) (b : Int32) (oa : Nat) (of : Nat → Int64) (hn : n ≤ 40) (hk : k < n) (hbad : b < 0 ∨ nI n ≤ b) : Met l yL_product wsL_product ({ frames := 9, cells := 1, slots := 6, locals := 163 } : Room) (gPN D y ad [.ref h, .int (nI k), .int b, .ref oa] (wXo oa of y ad h q n (gPg pa n) n b1 l1 r1 b2 l2 r2 b3 l3 r3 uz ul uh f1 g1 f2 g2 pa kd on ot pt fb fl fh tb tl th dg ds) sz) (gQn D (wXo oa of y ad h q n (gPg pa n) n b1 l1 r1 b2 l2 r2 b3 l3 r3 uz ul uh f1 g1 f2 g2 pa kd on ot pt fb fl fh tb tl th dg ds) (fun v w => v = some (.int 1) ∧ w = (wXo oa of y ad h q n (gPg pa n) n b1 l1 r1 b2 l2 r2 b3 l3 r3 uz ul uh f1 g1 f2 g2 pa kd on ot pt fb fl fh tb tl th dg ds))) 1 6 (va_A (wXo oa of y ad h q n (gPg pa n) n b1 l1 r1 b2 l2 r2 b3 l3 r3 uz ul uh f1 g1 f2 g2 pa kd on ot pt fb fl fh tb tl th dg ds) sz) := by
  refine gMet_ofWH (cc := cL_product) (maxL := 5) (ret := (some .int)) (hh := [(0, 10, 13, 20), (0, 10, 17, 15)]) (by decide) rfl ?_
  intro pg e s m args below meth c s₁ B hml hv
  obtain ⟨rfl, ⟨hsz, hP, hK, hD0, hE0⟩, hN⟩ := hv
  have hx := B.exec
  have hb := B.bytes
  have hr := B.returns
  have hts := atoms_spec (ws := wsL_product) B.pre
  have hown : s.vm.findClass RL = some m.cls := findClass_of_methodNamed B.named
  have htab : c.exceptionTable.toList = tableOf [(0, 10, 13, 20), (0, 10, 17, 15)] := vx_table (x := yL_product) B (hts _ List.mem_cons_self)
  have hlocks := B.notSynchronized
  subst hsz
  obtain ⟨A, hAe⟩ : ∃ A : Nat → Prop, A = va_A (wXo oa of y ad h q n (gPg pa n) n b1 l1 r1 b2 l2 r2 b3 l3 r3 uz ul uh f1 g1 f2 g2 pa kd on ot pt fb fl fh tb tl th dg ds) s.heap.size := ⟨_, rfl⟩
  have hE : gE ad A s s.heap := by rw [hAe]; exact hE0
  have hD : va_D A (wXo oa of y ad h q n (gPg pa n) n b1 l1 r1 b2 l2 r2 b3 l3 r3 uz ul uh f1 g1 f2 g2 pa kd on ot pt fb fl fh tb tl th dg ds) := by rw [hAe]; exact hD0.self (sz := s.heap.size)
  have hA : ∀ q : Nat, s.heap.size ≤ q → A q := fun q h => by rw [hAe]; exact Or.inr h
  have hS : va_S A s.heap s.heap [] := va_S.rf
  have hl := lv_entry ([.ref h, .int (nI k), .int b, .ref oa]) (n := 5) (Nat.le_of_ble_eq_true rfl)
  rw [lg_entry_eq]
  generalize (lg_sl ([.ref h, .int (nI k), .int b, .ref oa]) ++ List.replicate (5 - (lg_sl ([.ref h, .int (nI k), .int b, .ref oa])).length) Slot.unset).toArray = ls at hl ⊢
  have hl : lv_has ls 5 [(0, .ref h), (1, .int (nI k)), (2, .int b), (3, .ref oa)] := hl
  refine lv_aload_n hx hb dL_product_0 rfl (lv_at hl 3 rfl) ?_
  refine lv_iconst (v := 0) hx hb dL_product_1 (by decide) ?_
  refine lv_aload_n hx hb dL_product_2 rfl (lv_at hl 0 rfl) ?_
  refine lv_iload_n hx hb dL_product_3 rfl (lv_at hl 1 rfl) ?_
  refine lv_iload_n hx hb dL_product_4 rfl (lv_at hl 2 rfl) ?_
  refine g_catch (name := gIOB) (ws := [(oa, .inl (y 1, 1, .inr (.inl of)))]) (vx_runV (As := [.int (nI k), .int b]) (rest := [.int 0, .ref oa]) ⟨hx, hb, hml, hown, hts⟩ (c_X7_product_X1b l hfl D y ad s.heap.size h q n b1 l1 r1 b2 l2 r2 b3 l3 r3 uz ul uh f1 g1 f2 g2 pa kd on ot pt fb fl fh tb tl th dg ds k b hn hk hbad) (cwV 2 hts gL_product_X7_product rfl rfl rfl (by decide +kernel) ⟨Nat.le_of_ble_eq_true rfl, Nat.le_of_ble_eq_true rfl⟩) (gPX_VA (va_P_r (ws := [(oa, .inl (y 1, 1, .inr (.inl of)))]) hP) (va_D_r (ws := [(oa, .inl (y 1, 1, .inr (.inl of)))]) hD) hK hE hS hA 0 rfl rfl) rfl rfl hl.1 rfl (lv_room (Nat.le_of_ble_eq_true rfl)) dL_product_5 ⟨Nat.le_of_ble_eq_true rfl, Nat.le_of_ble_eq_true rfl⟩) hP hD hS hA hown [] ⟨0, 10, 13, 20⟩ [⟨0, 10, 17, 15⟩] (by rw [htab]; rfl) (fun z hz => absurd hz List.not_mem_nil) (by decide) (by decide) (hts (.classLink RL 20 "java/lang/IndexOutOfBoundsException") (List.mem_of_getElem? (i := 1) rfl)) (hE.cw (Cond.castable gIOB gIOB) (List.mem_of_getElem? (i := 5) rfl)) (fun q9 w1 H locs hf hP hD hS => ?_)
  obtain rfl : w1 = wXp y ad h q n b1 l1 r1 b2 l2 r2 b3 l3 r3 uz ul uh f1 g1 f2 g2 pa kd on ot pt fb fl fh tb tl th dg ds := hf
  have hP : va_P D vwCl (wXo oa of y ad h q n (gPg pa n) n b1 l1 r1 b2 l2 r2 b3 l3 r3 uz ul uh f1 g1 f2 g2 pa kd on ot pt fb fl fh tb tl th dg ds) H := hP
  have hD : va_D A (wXo oa of y ad h q n (gPg pa n) n b1 l1 r1 b2 l2 r2 b3 l3 r3 uz ul uh f1 g1 f2 g2 pa kd on ot pt fb fl fh tb tl th dg ds) := hD
  refine lv_astore (lv' := [(4, .ref q9), (0, .ref h), (1, .int (nI k)), (2, .int b), (3, .ref oa)]) hx hb dL_product_13 hl (by decide) rfl (fun ls hl => ?_)
  refine lv_iconst (v := 1) hx hb dL_product_15 (by decide) ?_
  have hP9 := hP
  have hD9 := hD
  exact W.iret (v := 1) hx hb hr (fun t ht hW => ⟨⟨some (.int (1)), wXo oa of y ad h q n (gPg pa n) n b1 l1 r1 b2 l2 r2 b3 l3 r3 uz ul uh f1 g1 f2 g2 pa kd on ot pt fb fl fh tb tl th dg ds, rfl, ⟨rfl, rfl⟩, by rw [← hAe]; exact hD9, by rw [ht]; exact hP9⟩, by rw [← hAe]; exact hS.F ht⟩) (by rw [← hAe]; exact hS.2.2) dL_product_16
set_option maxHeartbeats 4000000 in
set_option maxRecDepth 100000 in
theorem c_L_product_X2 (l : Launch) (hfl : l.stackTraces = false) (D : va_G) (y : Nat → ClassId) (ad : Nat → Nat) (sz : Nat) (h : Nat) (q : Nat → Nat) (n : Nat) (b1 : Bool) (l1 r1 : Int64) (b2 : Bool) (l2 r2 : Int64) (b3 : Bool) (l3 r3 : Int64) (uz : Nat → Bool) (ul uh : Nat → Int64) (f1 g1 f2 g2 : Int64) (pa : Nat → Nat → Nat) (kd : Nat → Nat) (on ot : Nat → Int32) (pt : Nat → Int64) (fb : Nat → Nat → Bool) (fl fh : Nat → Nat → Int64) (tb : Nat → Nat → Bool) (tl th : Nat → Nat → Int64) (dg : Nat → Int32) (ds : Nat → Int64) (k j : Nat) (oa : Nat) (of : Nat → Int64) (hn : n ≤ 40) (hk : k < n) (hj : j < n) (hn2 : ¬ n < 40) : Met l yL_product wsL_product ({ frames := 9, cells := 1, slots := 6, locals := 161 } : Room) (gPN D y ad [.ref h, .int (nI k), .int (nI j), .ref oa] (wXo oa of y ad h q n (gPg pa n) n b1 l1 r1 b2 l2 r2 b3 l3 r3 uz ul uh f1 g1 f2 g2 pa kd on ot pt fb fl fh tb tl th dg ds) sz) (gQn D (wXo oa of y ad h q n (gPg pa n) n b1 l1 r1 b2 l2 r2 b3 l3 r3 uz ul uh f1 g1 f2 g2 pa kd on ot pt fb fl fh tb tl th dg ds) (fun v w => v = some (.int 2) ∧ w = (wXo oa of y ad h q n (gPg pa n) n b1 l1 r1 b2 l2 r2 b3 l3 r3 uz ul uh f1 g1 f2 g2 pa kd on ot pt fb fl fh tb tl th dg ds))) 1 6 (va_A (wXo oa of y ad h q n (gPg pa n) n b1 l1 r1 b2 l2 r2 b3 l3 r3 uz ul uh f1 g1 f2 g2 pa kd on ot pt fb fl fh tb tl th dg ds) sz) := by
  refine gMet_ofWH (cc := cL_product) (maxL := 5) (ret := (some .int)) (hh := [(0, 10, 13, 20), (0, 10, 17, 15)]) (by decide) rfl ?_
  intro pg e s m args below meth c s₁ B hml hv
  obtain ⟨rfl, ⟨hsz, hP, hK, hD0, hE0⟩, hN⟩ := hv
  have hx := B.exec
  have hb := B.bytes
  have hr := B.returns
  have hts := atoms_spec (ws := wsL_product) B.pre
  have hown : s.vm.findClass RL = some m.cls := findClass_of_methodNamed B.named
  have htab : c.exceptionTable.toList = tableOf [(0, 10, 13, 20), (0, 10, 17, 15)] := vx_table (x := yL_product) B (hts _ List.mem_cons_self)
  have hlocks := B.notSynchronized
  subst hsz
  obtain ⟨A, hAe⟩ : ∃ A : Nat → Prop, A = va_A (wXo oa of y ad h q n (gPg pa n) n b1 l1 r1 b2 l2 r2 b3 l3 r3 uz ul uh f1 g1 f2 g2 pa kd on ot pt fb fl fh tb tl th dg ds) s.heap.size := ⟨_, rfl⟩
  have hE : gE ad A s s.heap := by rw [hAe]; exact hE0
  have hD : va_D A (wXo oa of y ad h q n (gPg pa n) n b1 l1 r1 b2 l2 r2 b3 l3 r3 uz ul uh f1 g1 f2 g2 pa kd on ot pt fb fl fh tb tl th dg ds) := by rw [hAe]; exact hD0.self (sz := s.heap.size)
  have hA : ∀ q : Nat, s.heap.size ≤ q → A q := fun q h => by rw [hAe]; exact Or.inr h
  have hS : va_S A s.heap s.heap [] := va_S.rf
  have hl := lv_entry ([.ref h, .int (nI k), .int (nI j), .ref oa]) (n := 5) (Nat.le_of_ble_eq_true rfl)
  rw [lg_entry_eq]
  generalize (lg_sl ([.ref h, .int (nI k), .int (nI j), .ref oa]) ++ List.replicate (5 - (lg_sl ([.ref h, .int (nI k), .int (nI j), .ref oa])).length) Slot.unset).toArray = ls at hl ⊢
  have hl : lv_has ls 5 [(0, .ref h), (1, .int (nI k)), (2, .int (nI j)), (3, .ref oa)] := hl
  refine lv_aload_n hx hb dL_product_0 rfl (lv_at hl 3 rfl) ?_
  refine lv_iconst (v := 0) hx hb dL_product_1 (by decide) ?_
  refine lv_aload_n hx hb dL_product_2 rfl (lv_at hl 0 rfl) ?_
  refine lv_iload_n hx hb dL_product_3 rfl (lv_at hl 1 rfl) ?_
  refine lv_iload_n hx hb dL_product_4 rfl (lv_at hl 2 rfl) ?_
  refine g_catch (name := gISE) (ws := [(oa, .inl (y 1, 1, .inr (.inl of)))]) (vx_runV (As := [.int (nI k), .int (nI j)]) (rest := [.int 0, .ref oa]) ⟨hx, hb, hml, hown, hts⟩ (c_X7_product_X2 l hfl D y ad s.heap.size h q n b1 l1 r1 b2 l2 r2 b3 l3 r3 uz ul uh f1 g1 f2 g2 pa kd on ot pt fb fl fh tb tl th dg ds k j hn hk hj hn2) (cwV 2 hts gL_product_X7_product rfl rfl rfl (by decide +kernel) ⟨Nat.le_of_ble_eq_true rfl, Nat.le_of_ble_eq_true rfl⟩) (gPX_VA (va_P_r (ws := [(oa, .inl (y 1, 1, .inr (.inl of)))]) hP) (va_D_r (ws := [(oa, .inl (y 1, 1, .inr (.inl of)))]) hD) hK hE hS hA 0 rfl rfl) rfl rfl hl.1 rfl (lv_room (Nat.le_of_ble_eq_true rfl)) dL_product_5 ⟨Nat.le_of_ble_eq_true rfl, Nat.le_of_ble_eq_true rfl⟩) hP hD hS hA hown [⟨0, 10, 13, 20⟩] ⟨0, 10, 17, 15⟩ [] (by rw [htab]; rfl) (fun z hz => by rcases List.mem_singleton.mp hz with rfl; exact Or.inr ⟨by decide, _, (hts (.classLink RL 20 "java/lang/IndexOutOfBoundsException") (List.mem_of_getElem? (i := 1) rfl)), hN.2.1⟩) (by decide) (by decide) (hts (.classLink RL 15 "java/lang/IllegalStateException") (List.mem_of_getElem? (i := 2) rfl)) (hE.cw (Cond.castable gISE gISE) (List.mem_of_getElem? (i := 4) rfl)) (fun q9 w1 H locs hf hP hD hS => ?_)
  obtain rfl : w1 = wXp y ad h q n b1 l1 r1 b2 l2 r2 b3 l3 r3 uz ul uh f1 g1 f2 g2 pa kd on ot pt fb fl fh tb tl th dg ds := hf
  have hP : va_P D vwCl (wXo oa of y ad h q n (gPg pa n) n b1 l1 r1 b2 l2 r2 b3 l3 r3 uz ul uh f1 g1 f2 g2 pa kd on ot pt fb fl fh tb tl th dg ds) H := hP
  have hD : va_D A (wXo oa of y ad h q n (gPg pa n) n b1 l1 r1 b2 l2 r2 b3 l3 r3 uz ul uh f1 g1 f2 g2 pa kd on ot pt fb fl fh tb tl th dg ds) := hD
  refine lv_astore (lv' := [(4, .ref q9), (0, .ref h), (1, .int (nI k)), (2, .int (nI j)), (3, .ref oa)]) hx hb dL_product_17 hl (by decide) rfl (fun ls hl => ?_)
  refine lv_iconst (v := 2) hx hb dL_product_19 (by decide) ?_
  have hP9 := hP
  have hD9 := hD
  exact W.iret (v := 2) hx hb hr (fun t ht hW => ⟨⟨some (.int (2)), wXo oa of y ad h q n (gPg pa n) n b1 l1 r1 b2 l2 r2 b3 l3 r3 uz ul uh f1 g1 f2 g2 pa kd on ot pt fb fl fh tb tl th dg ds, rfl, ⟨rfl, rfl⟩, by rw [← hAe]; exact hD9, by rw [ht]; exact hP9⟩, by rw [← hAe]; exact hS.F ht⟩) (by rw [← hAe]; exact hS.2.2) dL_product_20
set_option maxHeartbeats 4000000 in
set_option maxRecDepth 100000 in
theorem c_L_product_0 (l : Launch) (hfl : l.stackTraces = false) (D : va_G) (y : Nat → ClassId) (ad : Nat → Nat) (sz : Nat) (h : Nat) (q : Nat → Nat) (n : Nat) (b1 : Bool) (l1 r1 : Int64) (b2 : Bool) (l2 r2 : Int64) (b3 : Bool) (l3 r3 : Int64) (uz : Nat → Bool) (ul uh : Nat → Int64) (f1 g1 f2 g2 : Int64) (pa : Nat → Nat → Nat) (kd : Nat → Nat) (on ot : Nat → Int32) (pt : Nat → Int64) (fb : Nat → Nat → Bool) (fl fh : Nat → Nat → Int64) (tb : Nat → Nat → Bool) (tl th : Nat → Nat → Int64) (dg : Nat → Int32) (ds : Nat → Int64) (k j : Nat) (oa : Nat) (of : Nat → Int64) (hn4 : n < 40) (hk : k < n) (hj : j < n) : Met l yL_product wsL_product ({ frames := 9, cells := 9, slots := 164, locals := 271 } : Room) (gPN D y ad [.ref h, .int (nI k), .int (nI j), .ref oa] (wXo oa of y ad h q n (gPg pa n) n b1 l1 r1 b2 l2 r2 b3 l3 r3 uz ul uh f1 g1 f2 g2 pa kd on ot pt fb fl fh tb tl th dg ds) sz) (gQn D (wXo oa of y ad h q n (gPg pa n) n b1 l1 r1 b2 l2 r2 b3 l3 r3 uz ul uh f1 g1 f2 g2 pa kd on ot pt fb fl fh tb tl th dg ds) (fun v w => ∃ (yb1 : Bool) (yl1 : Int64) (yr1 : Int64) (yb2 : Bool) (yl2 : Int64) (yr2 : Int64) (yb3 : Bool) (yl3 : Int64) (yr3 : Int64) (yuz : Nat → Bool) (yul : Nat → Int64) (yuh : Nat → Int64) (yf1 : Int64) (yg1 : Int64) (yf2 : Int64) (yg2 : Int64) (nan : Nat → Nat) (fbn : Nat → Bool) (fln : Nat → Int64) (fhn : Nat → Int64) (tbn : Nat → Bool) (tln : Nat → Int64) (thn : Nat → Int64), v = some (.int 0) ∧ w = (wXo oa (vp_updL of 0 ((nI n).toInt64)) y ad h q (n + 1) (gPg (pst pa n nan) (n + 1)) (n + 1) yb1 yl1 yr1 yb2 yl2 yr2 yb3 yl3 yr3 yuz yul yuh yf1 yg1 yf2 yg2 (pst pa n nan) (pst kd n 3) (pst on n (nI k)) (pst ot n (nI j)) (pst pt n ((pt k ||| pt j) ||| jshl 1 (nI n))) (pst fb n fbn) (pst fl n fln) (pst fh n fhn) (pst tb n tbn) (pst tl n tln) (pst th n thn) (pst dg n 0) (pst ds n 0)) ∧ (∀ i9, i9 < 25 → (fbn i9, fln i9, fhn i9) = mkX fb fl fh 3 k j i9) ∧ (∀ i9, i9 < 25 → (tbn i9, tln i9, thn i9) = nwA fbn fln fhn (i9 + 1)))) 9 164 (va_A (wXo oa of y ad h q n (gPg pa n) n b1 l1 r1 b2 l2 r2 b3 l3 r3 uz ul uh f1 g1 f2 g2 pa kd on ot pt fb fl fh tb tl th dg ds) sz) := by
  refine gMet_ofWH (cc := cL_product) (maxL := 5) (ret := (some .int)) (hh := [(0, 10, 13, 20), (0, 10, 17, 15)]) (by decide) rfl ?_
  intro pg e s m args below meth c s₁ B hml hv
  obtain ⟨rfl, ⟨hsz, hP, hK, hD0, hE0⟩, hN⟩ := hv
  have hx := B.exec
  have hb := B.bytes
  have hr := B.returns
  have hts := atoms_spec (ws := wsL_product) B.pre
  have hown : s.vm.findClass RL = some m.cls := findClass_of_methodNamed B.named
  have htab : c.exceptionTable.toList = tableOf [(0, 10, 13, 20), (0, 10, 17, 15)] := vx_table (x := yL_product) B (hts _ List.mem_cons_self)
  have hlocks := B.notSynchronized
  subst hsz
  obtain ⟨A, hAe⟩ : ∃ A : Nat → Prop, A = va_A (wXo oa of y ad h q n (gPg pa n) n b1 l1 r1 b2 l2 r2 b3 l3 r3 uz ul uh f1 g1 f2 g2 pa kd on ot pt fb fl fh tb tl th dg ds) s.heap.size := ⟨_, rfl⟩
  have hE : gE ad A s s.heap := by rw [hAe]; exact hE0
  have hD : va_D A (wXo oa of y ad h q n (gPg pa n) n b1 l1 r1 b2 l2 r2 b3 l3 r3 uz ul uh f1 g1 f2 g2 pa kd on ot pt fb fl fh tb tl th dg ds) := by rw [hAe]; exact hD0.self (sz := s.heap.size)
  have hA : ∀ q : Nat, s.heap.size ≤ q → A q := fun q h => by rw [hAe]; exact Or.inr h
  have hS : va_S A s.heap s.heap [] := va_S.rf
  have hl := lv_entry ([.ref h, .int (nI k), .int (nI j), .ref oa]) (n := 5) (Nat.le_of_ble_eq_true rfl)
  rw [lg_entry_eq]
  generalize (lg_sl ([.ref h, .int (nI k), .int (nI j), .ref oa]) ++ List.replicate (5 - (lg_sl ([.ref h, .int (nI k), .int (nI j), .ref oa])).length) Slot.unset).toArray = ls at hl ⊢
  have hl : lv_has ls 5 [(0, .ref h), (1, .int (nI k)), (2, .int (nI j)), (3, .ref oa)] := hl
  refine lv_aload_n hx hb dL_product_0 rfl (lv_at hl 3 rfl) ?_
  refine lv_iconst (v := 0) hx hb dL_product_1 (by decide) ?_
  refine lv_aload_n hx hb dL_product_2 rfl (lv_at hl 0 rfl) ?_
  refine lv_iload_n hx hb dL_product_3 rfl (lv_at hl 1 rfl) ?_
  refine lv_iload_n hx hb dL_product_4 rfl (lv_at hl 2 rfl) ?_
  refine g_callN (ws := [(oa, .inl (y 1, 1, .inr (.inl of)))]) (wc := wXp y ad h q n b1 l1 r1 b2 l2 r2 b3 l3 r3 uz ul uh f1 g1 f2 g2 pa kd on ot pt fb fl fh tb tl th dg ds) (va_runV (As := [.int (nI k), .int (nI j)]) (rest := [.int 0, .ref oa]) ⟨hx, hb, hml, hown, hts⟩ (c_X7_product_0 l hfl D y ad s.heap.size h q n b1 l1 r1 b2 l2 r2 b3 l3 r3 uz ul uh f1 g1 f2 g2 pa kd on ot pt fb fl fh tb tl th dg ds k j hn4 hk hj) (cwV 2 hts gL_product_X7_product rfl rfl rfl (by decide +kernel) ⟨Nat.le_of_ble_eq_true rfl, Nat.le_of_ble_eq_true rfl⟩) (gPX_VA (va_P_r (ws := [(oa, .inl (y 1, 1, .inr (.inl of)))]) hP) (va_D_r (ws := [(oa, .inl (y 1, 1, .inr (.inl of)))]) hD) hK hE hS hA 0 rfl rfl) rfl rfl hl.1 rfl (lv_room (Nat.le_of_ble_eq_true rfl)) dL_product_5 ⟨Nat.le_of_ble_eq_true rfl, Nat.le_of_ble_eq_true rfl⟩) hP hD hS hA (fun v w1 H locs hf hP hD hS => ?_)
  obtain ⟨yb1_5, yl1_5, yr1_5, yb2_5, yl2_5, yr2_5, yb3_5, yl3_5, yr3_5, yuz_5, yul_5, yuh_5, yf1_5, yg1_5, yf2_5, yg2_5, nan_5, fbn_5, fln_5, fhn_5, tbn_5, tln_5, thn_5, rfl, rfl, h5_0, h5_1⟩ := hf
  have hP : va_P D vwCl (wXo oa of y ad h q (n + 1) (gPg (pst pa n nan_5) (n + 1)) (n + 1) yb1_5 yl1_5 yr1_5 yb2_5 yl2_5 yr2_5 yb3_5 yl3_5 yr3_5 yuz_5 yul_5 yuh_5 yf1_5 yg1_5 yf2_5 yg2_5 (pst pa n nan_5) (pst kd n 3) (pst on n (nI k)) (pst ot n (nI j)) (pst pt n ((pt k ||| pt j) ||| jshl 1 (nI n))) (pst fb n fbn_5) (pst fl n fln_5) (pst fh n fhn_5) (pst tb n tbn_5) (pst tl n tln_5) (pst th n thn_5) (pst dg n 0) (pst ds n 0)) H := hP
  have hD : va_D A (wXo oa of y ad h q (n + 1) (gPg (pst pa n nan_5) (n + 1)) (n + 1) yb1_5 yl1_5 yr1_5 yb2_5 yl2_5 yr2_5 yb3_5 yl3_5 yr3_5 yuz_5 yul_5 yuh_5 yf1_5 yg1_5 yf2_5 yg2_5 (pst pa n nan_5) (pst kd n 3) (pst on n (nI k)) (pst ot n (nI j)) (pst pt n ((pt k ||| pt j) ||| jshl 1 (nI n))) (pst fb n fbn_5) (pst fl n fln_5) (pst fh n fhn_5) (pst tb n tbn_5) (pst tl n tln_5) (pst th n thn_5) (pst dg n 0) (pst ds n 0)) := hD
  refine lv_i2l (v := (nI n).toInt64) hx hb dL_product_8 rfl ?_
  refine g_last (k := 0) (x := (nI n).toInt64) hx hb hK.1 hP hD hS 0 1 rfl rfl (by omega) (by decide) dL_product_9 (fun H locs hP hD hS => ?_)
  have hP : va_P D vwCl (wXo oa (vp_updL of 0 ((nI n).toInt64)) y ad h q (n + 1) (gPg (pst pa n nan_5) (n + 1)) (n + 1) yb1_5 yl1_5 yr1_5 yb2_5 yl2_5 yr2_5 yb3_5 yl3_5 yr3_5 yuz_5 yul_5 yuh_5 yf1_5 yg1_5 yf2_5 yg2_5 (pst pa n nan_5) (pst kd n 3) (pst on n (nI k)) (pst ot n (nI j)) (pst pt n ((pt k ||| pt j) ||| jshl 1 (nI n))) (pst fb n fbn_5) (pst fl n fln_5) (pst fh n fhn_5) (pst tb n tbn_5) (pst tl n tln_5) (pst th n thn_5) (pst dg n 0) (pst ds n 0)) H := hP
  have hD : va_D A (wXo oa (vp_updL of 0 ((nI n).toInt64)) y ad h q (n + 1) (gPg (pst pa n nan_5) (n + 1)) (n + 1) yb1_5 yl1_5 yr1_5 yb2_5 yl2_5 yr2_5 yb3_5 yl3_5 yr3_5 yuz_5 yul_5 yuh_5 yf1_5 yg1_5 yf2_5 yg2_5 (pst pa n nan_5) (pst kd n 3) (pst on n (nI k)) (pst ot n (nI j)) (pst pt n ((pt k ||| pt j) ||| jshl 1 (nI n))) (pst fb n fbn_5) (pst fl n fln_5) (pst fh n fhn_5) (pst tb n tbn_5) (pst tl n tln_5) (pst th n thn_5) (pst dg n 0) (pst ds n 0)) := hD
  refine lv_goto (tgt := 21) hx hb dL_product_10 (by decide) ?_
  refine lv_iconst (v := 0) hx hb dL_product_21 (by decide) ?_
  have hP9 := hP
  have hD9 := hD
  exact W.iret (v := 0) hx hb hr (fun t ht hW => ⟨⟨some (.int (0)), wXo oa (vp_updL of 0 ((nI n).toInt64)) y ad h q (n + 1) (gPg (pst pa n nan_5) (n + 1)) (n + 1) yb1_5 yl1_5 yr1_5 yb2_5 yl2_5 yr2_5 yb3_5 yl3_5 yr3_5 yuz_5 yul_5 yuh_5 yf1_5 yg1_5 yf2_5 yg2_5 (pst pa n nan_5) (pst kd n 3) (pst on n (nI k)) (pst ot n (nI j)) (pst pt n ((pt k ||| pt j) ||| jshl 1 (nI n))) (pst fb n fbn_5) (pst fl n fln_5) (pst fh n fhn_5) (pst tb n tbn_5) (pst tl n tln_5) (pst th n thn_5) (pst dg n 0) (pst ds n 0), rfl, ⟨yb1_5, yl1_5, yr1_5, yb2_5, yl2_5, yr2_5, yb3_5, yl3_5, yr3_5, yuz_5, yul_5, yuh_5, yf1_5, yg1_5, yf2_5, yg2_5, nan_5, fbn_5, fln_5, fhn_5, tbn_5, tln_5, thn_5, rfl, rfl, h5_0, h5_1⟩, by rw [← hAe]; exact hD9, by rw [ht]; exact hP9⟩, by rw [← hAe]; exact hS.F ht⟩) (by rw [← hAe]; exact hS.2.2) dL_product_22
set_option maxHeartbeats 4000000 in
set_option maxRecDepth 100000 in
theorem c_L_greater_X1a (l : Launch) (hfl : l.stackTraces = false) (D : va_G) (y : Nat → ClassId) (ad : Nat → Nat) (sz : Nat) (h : Nat) (q : Nat → Nat) (n : Nat) (b1 : Bool) (l1 r1 : Int64) (b2 : Bool) (l2 r2 : Int64) (b3 : Bool) (l3 r3 : Int64) (uz : Nat → Bool) (ul uh : Nat → Int64) (f1 g1 f2 g2 : Int64) (pa : Nat → Nat → Nat) (kd : Nat → Nat) (on ot : Nat → Int32) (pt : Nat → Int64) (fb : Nat → Nat → Bool) (fl fh : Nat → Nat → Int64) (tb : Nat → Nat → Bool) (tl th : Nat → Nat → Int64) (dg : Nat → Int32) (ds : Nat → Int64) (a b : Int32) (oa : Nat) (of : Nat → Int64) (hbad : a < 0 ∨ nI n ≤ a) : Met l yL_greater wsL_greater ({ frames := 9, cells := 1, slots := 6, locals := 163 } : Room) (gPN D y ad [.ref h, .int a, .int b, .ref oa] (wXo oa of y ad h q n (gPg pa n) n b1 l1 r1 b2 l2 r2 b3 l3 r3 uz ul uh f1 g1 f2 g2 pa kd on ot pt fb fl fh tb tl th dg ds) sz) (gQn D (wXo oa of y ad h q n (gPg pa n) n b1 l1 r1 b2 l2 r2 b3 l3 r3 uz ul uh f1 g1 f2 g2 pa kd on ot pt fb fl fh tb tl th dg ds) (fun v w => v = some (.int 1) ∧ w = (wXo oa of y ad h q n (gPg pa n) n b1 l1 r1 b2 l2 r2 b3 l3 r3 uz ul uh f1 g1 f2 g2 pa kd on ot pt fb fl fh tb tl th dg ds))) 1 6 (va_A (wXo oa of y ad h q n (gPg pa n) n b1 l1 r1 b2 l2 r2 b3 l3 r3 uz ul uh f1 g1 f2 g2 pa kd on ot pt fb fl fh tb tl th dg ds) sz) := by
  refine gMet_ofWH (cc := cL_greater) (maxL := 5) (ret := (some .int)) (hh := [(0, 10, 13, 20), (0, 10, 17, 15)]) (by decide) rfl ?_
  intro pg e s m args below meth c s₁ B hml hv
  obtain ⟨rfl, ⟨hsz, hP, hK, hD0, hE0⟩, hN⟩ := hv
  have hx := B.exec
  have hb := B.bytes
  have hr := B.returns
  have hts := atoms_spec (ws := wsL_greater) B.pre
  have hown : s.vm.findClass RL = some m.cls := findClass_of_methodNamed B.named
  have htab : c.exceptionTable.toList = tableOf [(0, 10, 13, 20), (0, 10, 17, 15)] := vx_table (x := yL_greater) B (hts _ List.mem_cons_self)
  have hlocks := B.notSynchronized
  subst hsz
  obtain ⟨A, hAe⟩ : ∃ A : Nat → Prop, A = va_A (wXo oa of y ad h q n (gPg pa n) n b1 l1 r1 b2 l2 r2 b3 l3 r3 uz ul uh f1 g1 f2 g2 pa kd on ot pt fb fl fh tb tl th dg ds) s.heap.size := ⟨_, rfl⟩
  have hE : gE ad A s s.heap := by rw [hAe]; exact hE0
  have hD : va_D A (wXo oa of y ad h q n (gPg pa n) n b1 l1 r1 b2 l2 r2 b3 l3 r3 uz ul uh f1 g1 f2 g2 pa kd on ot pt fb fl fh tb tl th dg ds) := by rw [hAe]; exact hD0.self (sz := s.heap.size)
  have hA : ∀ q : Nat, s.heap.size ≤ q → A q := fun q h => by rw [hAe]; exact Or.inr h
  have hS : va_S A s.heap s.heap [] := va_S.rf
  have hl := lv_entry ([.ref h, .int a, .int b, .ref oa]) (n := 5) (Nat.le_of_ble_eq_true rfl)
  rw [lg_entry_eq]
  generalize (lg_sl ([.ref h, .int a, .int b, .ref oa]) ++ List.replicate (5 - (lg_sl ([.ref h, .int a, .int b, .ref oa])).length) Slot.unset).toArray = ls at hl ⊢
  have hl : lv_has ls 5 [(0, .ref h), (1, .int a), (2, .int b), (3, .ref oa)] := hl
  refine lv_aload_n hx hb dL_greater_0 rfl (lv_at hl 3 rfl) ?_
  refine lv_iconst (v := 0) hx hb dL_greater_1 (by decide) ?_
  refine lv_aload_n hx hb dL_greater_2 rfl (lv_at hl 0 rfl) ?_
  refine lv_iload_n hx hb dL_greater_3 rfl (lv_at hl 1 rfl) ?_
  refine lv_iload_n hx hb dL_greater_4 rfl (lv_at hl 2 rfl) ?_
  refine g_catch (name := gIOB) (ws := [(oa, .inl (y 1, 1, .inr (.inl of)))]) (vx_runV (As := [.int a, .int b]) (rest := [.int 0, .ref oa]) ⟨hx, hb, hml, hown, hts⟩ (c_X7_greater_X1a l hfl D y ad s.heap.size h q n b1 l1 r1 b2 l2 r2 b3 l3 r3 uz ul uh f1 g1 f2 g2 pa kd on ot pt fb fl fh tb tl th dg ds a b hbad) (cwV 2 hts gL_greater_X7_greater rfl rfl rfl (by decide +kernel) ⟨Nat.le_of_ble_eq_true rfl, Nat.le_of_ble_eq_true rfl⟩) (gPX_VA (va_P_r (ws := [(oa, .inl (y 1, 1, .inr (.inl of)))]) hP) (va_D_r (ws := [(oa, .inl (y 1, 1, .inr (.inl of)))]) hD) hK hE hS hA 0 rfl rfl) rfl rfl hl.1 rfl (lv_room (Nat.le_of_ble_eq_true rfl)) dL_greater_5 ⟨Nat.le_of_ble_eq_true rfl, Nat.le_of_ble_eq_true rfl⟩) hP hD hS hA hown [] ⟨0, 10, 13, 20⟩ [⟨0, 10, 17, 15⟩] (by rw [htab]; rfl) (fun z hz => absurd hz List.not_mem_nil) (by decide) (by decide) (hts (.classLink RL 20 "java/lang/IndexOutOfBoundsException") (List.mem_of_getElem? (i := 1) rfl)) (hE.cw (Cond.castable gIOB gIOB) (List.mem_of_getElem? (i := 5) rfl)) (fun q9 w1 H locs hf hP hD hS => ?_)
  obtain rfl : w1 = wXp y ad h q n b1 l1 r1 b2 l2 r2 b3 l3 r3 uz ul uh f1 g1 f2 g2 pa kd on ot pt fb fl fh tb tl th dg ds := hf
  have hP : va_P D vwCl (wXo oa of y ad h q n (gPg pa n) n b1 l1 r1 b2 l2 r2 b3 l3 r3 uz ul uh f1 g1 f2 g2 pa kd on ot pt fb fl fh tb tl th dg ds) H := hP
  have hD : va_D A (wXo oa of y ad h q n (gPg pa n) n b1 l1 r1 b2 l2 r2 b3 l3 r3 uz ul uh f1 g1 f2 g2 pa kd on ot pt fb fl fh tb tl th dg ds) := hD
  refine lv_astore (lv' := [(4, .ref q9), (0, .ref h), (1, .int a), (2, .int b), (3, .ref oa)]) hx hb dL_greater_13 hl (by decide) rfl (fun ls hl => ?_)
  refine lv_iconst (v := 1) hx hb dL_greater_15 (by decide) ?_
  have hP9 := hP
  have hD9 := hD
  exact W.iret (v := 1) hx hb hr (fun t ht hW => ⟨⟨some (.int (1)), wXo oa of y ad h q n (gPg pa n) n b1 l1 r1 b2 l2 r2 b3 l3 r3 uz ul uh f1 g1 f2 g2 pa kd on ot pt fb fl fh tb tl th dg ds, rfl, ⟨rfl, rfl⟩, by rw [← hAe]; exact hD9, by rw [ht]; exact hP9⟩, by rw [← hAe]; exact hS.F ht⟩) (by rw [← hAe]; exact hS.2.2) dL_greater_16
set_option maxHeartbeats 4000000 in
set_option maxRecDepth 100000 in
theorem c_L_greater_X1b (l : Launch) (hfl : l.stackTraces = false) (D : va_G) (y : Nat → ClassId) (ad : Nat → Nat) (sz : Nat) (h : Nat) (q : Nat → Nat) (n : Nat) (b1 : Bool) (l1 r1 : Int64) (b2 : Bool) (l2 r2 : Int64) (b3 : Bool) (l3 r3 : Int64) (uz : Nat → Bool) (ul uh : Nat → Int64) (f1 g1 f2 g2 : Int64) (pa : Nat → Nat → Nat) (kd : Nat → Nat) (on ot : Nat → Int32) (pt : Nat → Int64) (fb : Nat → Nat → Bool) (fl fh : Nat → Nat → Int64) (tb : Nat → Nat → Bool) (tl th : Nat → Nat → Int64) (dg : Nat → Int32) (ds : Nat → Int64) (k : Nat) (b : Int32) (oa : Nat) (of : Nat → Int64) (hn : n ≤ 40) (hk : k < n) (hbad : b < 0 ∨ nI n ≤ b) : Met l yL_greater wsL_greater ({ frames := 9, cells := 1, slots := 6, locals := 163 } : Room) (gPN D y ad [.ref h, .int (nI k), .int b, .ref oa] (wXo oa of y ad h q n (gPg pa n) n b1 l1 r1 b2 l2 r2 b3 l3 r3 uz ul uh f1 g1 f2 g2 pa kd on ot pt fb fl fh tb tl th dg ds) sz) (gQn D (wXo oa of y ad h q n (gPg pa n) n b1 l1 r1 b2 l2 r2 b3 l3 r3 uz ul uh f1 g1 f2 g2 pa kd on ot pt fb fl fh tb tl th dg ds) (fun v w => v = some (.int 1) ∧ w = (wXo oa of y ad h q n (gPg pa n) n b1 l1 r1 b2 l2 r2 b3 l3 r3 uz ul uh f1 g1 f2 g2 pa kd on ot pt fb fl fh tb tl th dg ds))) 1 6 (va_A (wXo oa of y ad h q n (gPg pa n) n b1 l1 r1 b2 l2 r2 b3 l3 r3 uz ul uh f1 g1 f2 g2 pa kd on ot pt fb fl fh tb tl th dg ds) sz) := by
  refine gMet_ofWH (cc := cL_greater) (maxL := 5) (ret := (some .int)) (hh := [(0, 10, 13, 20), (0, 10, 17, 15)]) (by decide) rfl ?_
  intro pg e s m args below meth c s₁ B hml hv
  obtain ⟨rfl, ⟨hsz, hP, hK, hD0, hE0⟩, hN⟩ := hv
  have hx := B.exec
  have hb := B.bytes
  have hr := B.returns
  have hts := atoms_spec (ws := wsL_greater) B.pre
  have hown : s.vm.findClass RL = some m.cls := findClass_of_methodNamed B.named
  have htab : c.exceptionTable.toList = tableOf [(0, 10, 13, 20), (0, 10, 17, 15)] := vx_table (x := yL_greater) B (hts _ List.mem_cons_self)
  have hlocks := B.notSynchronized
  subst hsz
  obtain ⟨A, hAe⟩ : ∃ A : Nat → Prop, A = va_A (wXo oa of y ad h q n (gPg pa n) n b1 l1 r1 b2 l2 r2 b3 l3 r3 uz ul uh f1 g1 f2 g2 pa kd on ot pt fb fl fh tb tl th dg ds) s.heap.size := ⟨_, rfl⟩
  have hE : gE ad A s s.heap := by rw [hAe]; exact hE0
  have hD : va_D A (wXo oa of y ad h q n (gPg pa n) n b1 l1 r1 b2 l2 r2 b3 l3 r3 uz ul uh f1 g1 f2 g2 pa kd on ot pt fb fl fh tb tl th dg ds) := by rw [hAe]; exact hD0.self (sz := s.heap.size)
  have hA : ∀ q : Nat, s.heap.size ≤ q → A q := fun q h => by rw [hAe]; exact Or.inr h
  have hS : va_S A s.heap s.heap [] := va_S.rf
  have hl := lv_entry ([.ref h, .int (nI k), .int b, .ref oa]) (n := 5) (Nat.le_of_ble_eq_true rfl)
  rw [lg_entry_eq]
  generalize (lg_sl ([.ref h, .int (nI k), .int b, .ref oa]) ++ List.replicate (5 - (lg_sl ([.ref h, .int (nI k), .int b, .ref oa])).length) Slot.unset).toArray = ls at hl ⊢
  have hl : lv_has ls 5 [(0, .ref h), (1, .int (nI k)), (2, .int b), (3, .ref oa)] := hl
  refine lv_aload_n hx hb dL_greater_0 rfl (lv_at hl 3 rfl) ?_
  refine lv_iconst (v := 0) hx hb dL_greater_1 (by decide) ?_
  refine lv_aload_n hx hb dL_greater_2 rfl (lv_at hl 0 rfl) ?_
  refine lv_iload_n hx hb dL_greater_3 rfl (lv_at hl 1 rfl) ?_
  refine lv_iload_n hx hb dL_greater_4 rfl (lv_at hl 2 rfl) ?_
  refine g_catch (name := gIOB) (ws := [(oa, .inl (y 1, 1, .inr (.inl of)))]) (vx_runV (As := [.int (nI k), .int b]) (rest := [.int 0, .ref oa]) ⟨hx, hb, hml, hown, hts⟩ (c_X7_greater_X1b l hfl D y ad s.heap.size h q n b1 l1 r1 b2 l2 r2 b3 l3 r3 uz ul uh f1 g1 f2 g2 pa kd on ot pt fb fl fh tb tl th dg ds k b hn hk hbad) (cwV 2 hts gL_greater_X7_greater rfl rfl rfl (by decide +kernel) ⟨Nat.le_of_ble_eq_true rfl, Nat.le_of_ble_eq_true rfl⟩) (gPX_VA (va_P_r (ws := [(oa, .inl (y 1, 1, .inr (.inl of)))]) hP) (va_D_r (ws := [(oa, .inl (y 1, 1, .inr (.inl of)))]) hD) hK hE hS hA 0 rfl rfl) rfl rfl hl.1 rfl (lv_room (Nat.le_of_ble_eq_true rfl)) dL_greater_5 ⟨Nat.le_of_ble_eq_true rfl, Nat.le_of_ble_eq_true rfl⟩) hP hD hS hA hown [] ⟨0, 10, 13, 20⟩ [⟨0, 10, 17, 15⟩] (by rw [htab]; rfl) (fun z hz => absurd hz List.not_mem_nil) (by decide) (by decide) (hts (.classLink RL 20 "java/lang/IndexOutOfBoundsException") (List.mem_of_getElem? (i := 1) rfl)) (hE.cw (Cond.castable gIOB gIOB) (List.mem_of_getElem? (i := 5) rfl)) (fun q9 w1 H locs hf hP hD hS => ?_)
  obtain rfl : w1 = wXp y ad h q n b1 l1 r1 b2 l2 r2 b3 l3 r3 uz ul uh f1 g1 f2 g2 pa kd on ot pt fb fl fh tb tl th dg ds := hf
  have hP : va_P D vwCl (wXo oa of y ad h q n (gPg pa n) n b1 l1 r1 b2 l2 r2 b3 l3 r3 uz ul uh f1 g1 f2 g2 pa kd on ot pt fb fl fh tb tl th dg ds) H := hP
  have hD : va_D A (wXo oa of y ad h q n (gPg pa n) n b1 l1 r1 b2 l2 r2 b3 l3 r3 uz ul uh f1 g1 f2 g2 pa kd on ot pt fb fl fh tb tl th dg ds) := hD
  refine lv_astore (lv' := [(4, .ref q9), (0, .ref h), (1, .int (nI k)), (2, .int b), (3, .ref oa)]) hx hb dL_greater_13 hl (by decide) rfl (fun ls hl => ?_)
  refine lv_iconst (v := 1) hx hb dL_greater_15 (by decide) ?_
  have hP9 := hP
  have hD9 := hD
  exact W.iret (v := 1) hx hb hr (fun t ht hW => ⟨⟨some (.int (1)), wXo oa of y ad h q n (gPg pa n) n b1 l1 r1 b2 l2 r2 b3 l3 r3 uz ul uh f1 g1 f2 g2 pa kd on ot pt fb fl fh tb tl th dg ds, rfl, ⟨rfl, rfl⟩, by rw [← hAe]; exact hD9, by rw [ht]; exact hP9⟩, by rw [← hAe]; exact hS.F ht⟩) (by rw [← hAe]; exact hS.2.2) dL_greater_16
set_option maxHeartbeats 4000000 in
set_option maxRecDepth 100000 in
theorem c_L_greater_X2 (l : Launch) (hfl : l.stackTraces = false) (D : va_G) (y : Nat → ClassId) (ad : Nat → Nat) (sz : Nat) (h : Nat) (q : Nat → Nat) (n : Nat) (b1 : Bool) (l1 r1 : Int64) (b2 : Bool) (l2 r2 : Int64) (b3 : Bool) (l3 r3 : Int64) (uz : Nat → Bool) (ul uh : Nat → Int64) (f1 g1 f2 g2 : Int64) (pa : Nat → Nat → Nat) (kd : Nat → Nat) (on ot : Nat → Int32) (pt : Nat → Int64) (fb : Nat → Nat → Bool) (fl fh : Nat → Nat → Int64) (tb : Nat → Nat → Bool) (tl th : Nat → Nat → Int64) (dg : Nat → Int32) (ds : Nat → Int64) (k j : Nat) (oa : Nat) (of : Nat → Int64) (hn : n ≤ 40) (hk : k < n) (hj : j < n) (hn2 : ¬ n < 40) : Met l yL_greater wsL_greater ({ frames := 9, cells := 1, slots := 6, locals := 161 } : Room) (gPN D y ad [.ref h, .int (nI k), .int (nI j), .ref oa] (wXo oa of y ad h q n (gPg pa n) n b1 l1 r1 b2 l2 r2 b3 l3 r3 uz ul uh f1 g1 f2 g2 pa kd on ot pt fb fl fh tb tl th dg ds) sz) (gQn D (wXo oa of y ad h q n (gPg pa n) n b1 l1 r1 b2 l2 r2 b3 l3 r3 uz ul uh f1 g1 f2 g2 pa kd on ot pt fb fl fh tb tl th dg ds) (fun v w => v = some (.int 2) ∧ w = (wXo oa of y ad h q n (gPg pa n) n b1 l1 r1 b2 l2 r2 b3 l3 r3 uz ul uh f1 g1 f2 g2 pa kd on ot pt fb fl fh tb tl th dg ds))) 1 6 (va_A (wXo oa of y ad h q n (gPg pa n) n b1 l1 r1 b2 l2 r2 b3 l3 r3 uz ul uh f1 g1 f2 g2 pa kd on ot pt fb fl fh tb tl th dg ds) sz) := by
  refine gMet_ofWH (cc := cL_greater) (maxL := 5) (ret := (some .int)) (hh := [(0, 10, 13, 20), (0, 10, 17, 15)]) (by decide) rfl ?_
  intro pg e s m args below meth c s₁ B hml hv
  obtain ⟨rfl, ⟨hsz, hP, hK, hD0, hE0⟩, hN⟩ := hv
  have hx := B.exec
  have hb := B.bytes
  have hr := B.returns
  have hts := atoms_spec (ws := wsL_greater) B.pre
  have hown : s.vm.findClass RL = some m.cls := findClass_of_methodNamed B.named
  have htab : c.exceptionTable.toList = tableOf [(0, 10, 13, 20), (0, 10, 17, 15)] := vx_table (x := yL_greater) B (hts _ List.mem_cons_self)
  have hlocks := B.notSynchronized
  subst hsz
  obtain ⟨A, hAe⟩ : ∃ A : Nat → Prop, A = va_A (wXo oa of y ad h q n (gPg pa n) n b1 l1 r1 b2 l2 r2 b3 l3 r3 uz ul uh f1 g1 f2 g2 pa kd on ot pt fb fl fh tb tl th dg ds) s.heap.size := ⟨_, rfl⟩
  have hE : gE ad A s s.heap := by rw [hAe]; exact hE0
  have hD : va_D A (wXo oa of y ad h q n (gPg pa n) n b1 l1 r1 b2 l2 r2 b3 l3 r3 uz ul uh f1 g1 f2 g2 pa kd on ot pt fb fl fh tb tl th dg ds) := by rw [hAe]; exact hD0.self (sz := s.heap.size)
  have hA : ∀ q : Nat, s.heap.size ≤ q → A q := fun q h => by rw [hAe]; exact Or.inr h
  have hS : va_S A s.heap s.heap [] := va_S.rf
  have hl := lv_entry ([.ref h, .int (nI k), .int (nI j), .ref oa]) (n := 5) (Nat.le_of_ble_eq_true rfl)
  rw [lg_entry_eq]
  generalize (lg_sl ([.ref h, .int (nI k), .int (nI j), .ref oa]) ++ List.replicate (5 - (lg_sl ([.ref h, .int (nI k), .int (nI j), .ref oa])).length) Slot.unset).toArray = ls at hl ⊢
  have hl : lv_has ls 5 [(0, .ref h), (1, .int (nI k)), (2, .int (nI j)), (3, .ref oa)] := hl
  refine lv_aload_n hx hb dL_greater_0 rfl (lv_at hl 3 rfl) ?_
  refine lv_iconst (v := 0) hx hb dL_greater_1 (by decide) ?_
  refine lv_aload_n hx hb dL_greater_2 rfl (lv_at hl 0 rfl) ?_
  refine lv_iload_n hx hb dL_greater_3 rfl (lv_at hl 1 rfl) ?_
  refine lv_iload_n hx hb dL_greater_4 rfl (lv_at hl 2 rfl) ?_
  refine g_catch (name := gISE) (ws := [(oa, .inl (y 1, 1, .inr (.inl of)))]) (vx_runV (As := [.int (nI k), .int (nI j)]) (rest := [.int 0, .ref oa]) ⟨hx, hb, hml, hown, hts⟩ (c_X7_greater_X2 l hfl D y ad s.heap.size h q n b1 l1 r1 b2 l2 r2 b3 l3 r3 uz ul uh f1 g1 f2 g2 pa kd on ot pt fb fl fh tb tl th dg ds k j hn hk hj hn2) (cwV 2 hts gL_greater_X7_greater rfl rfl rfl (by decide +kernel) ⟨Nat.le_of_ble_eq_true rfl, Nat.le_of_ble_eq_true rfl⟩) (gPX_VA (va_P_r (ws := [(oa, .inl (y 1, 1, .inr (.inl of)))]) hP) (va_D_r (ws := [(oa, .inl (y 1, 1, .inr (.inl of)))]) hD) hK hE hS hA 0 rfl rfl) rfl rfl hl.1 rfl (lv_room (Nat.le_of_ble_eq_true rfl)) dL_greater_5 ⟨Nat.le_of_ble_eq_true rfl, Nat.le_of_ble_eq_true rfl⟩) hP hD hS hA hown [⟨0, 10, 13, 20⟩] ⟨0, 10, 17, 15⟩ [] (by rw [htab]; rfl) (fun z hz => by rcases List.mem_singleton.mp hz with rfl; exact Or.inr ⟨by decide, _, (hts (.classLink RL 20 "java/lang/IndexOutOfBoundsException") (List.mem_of_getElem? (i := 1) rfl)), hN.2.1⟩) (by decide) (by decide) (hts (.classLink RL 15 "java/lang/IllegalStateException") (List.mem_of_getElem? (i := 2) rfl)) (hE.cw (Cond.castable gISE gISE) (List.mem_of_getElem? (i := 4) rfl)) (fun q9 w1 H locs hf hP hD hS => ?_)
  obtain rfl : w1 = wXp y ad h q n b1 l1 r1 b2 l2 r2 b3 l3 r3 uz ul uh f1 g1 f2 g2 pa kd on ot pt fb fl fh tb tl th dg ds := hf
  have hP : va_P D vwCl (wXo oa of y ad h q n (gPg pa n) n b1 l1 r1 b2 l2 r2 b3 l3 r3 uz ul uh f1 g1 f2 g2 pa kd on ot pt fb fl fh tb tl th dg ds) H := hP
  have hD : va_D A (wXo oa of y ad h q n (gPg pa n) n b1 l1 r1 b2 l2 r2 b3 l3 r3 uz ul uh f1 g1 f2 g2 pa kd on ot pt fb fl fh tb tl th dg ds) := hD
  refine lv_astore (lv' := [(4, .ref q9), (0, .ref h), (1, .int (nI k)), (2, .int (nI j)), (3, .ref oa)]) hx hb dL_greater_17 hl (by decide) rfl (fun ls hl => ?_)
  refine lv_iconst (v := 2) hx hb dL_greater_19 (by decide) ?_
  have hP9 := hP
  have hD9 := hD
  exact W.iret (v := 2) hx hb hr (fun t ht hW => ⟨⟨some (.int (2)), wXo oa of y ad h q n (gPg pa n) n b1 l1 r1 b2 l2 r2 b3 l3 r3 uz ul uh f1 g1 f2 g2 pa kd on ot pt fb fl fh tb tl th dg ds, rfl, ⟨rfl, rfl⟩, by rw [← hAe]; exact hD9, by rw [ht]; exact hP9⟩, by rw [← hAe]; exact hS.F ht⟩) (by rw [← hAe]; exact hS.2.2) dL_greater_20
set_option maxHeartbeats 4000000 in
set_option maxRecDepth 100000 in
theorem c_L_greater_0 (l : Launch) (hfl : l.stackTraces = false) (D : va_G) (y : Nat → ClassId) (ad : Nat → Nat) (sz : Nat) (h : Nat) (q : Nat → Nat) (n : Nat) (b1 : Bool) (l1 r1 : Int64) (b2 : Bool) (l2 r2 : Int64) (b3 : Bool) (l3 r3 : Int64) (uz : Nat → Bool) (ul uh : Nat → Int64) (f1 g1 f2 g2 : Int64) (pa : Nat → Nat → Nat) (kd : Nat → Nat) (on ot : Nat → Int32) (pt : Nat → Int64) (fb : Nat → Nat → Bool) (fl fh : Nat → Nat → Int64) (tb : Nat → Nat → Bool) (tl th : Nat → Nat → Int64) (dg : Nat → Int32) (ds : Nat → Int64) (k j : Nat) (oa : Nat) (of : Nat → Int64) (hn4 : n < 40) (hk : k < n) (hj : j < n) : Met l yL_greater wsL_greater ({ frames := 9, cells := 9, slots := 164, locals := 271 } : Room) (gPN D y ad [.ref h, .int (nI k), .int (nI j), .ref oa] (wXo oa of y ad h q n (gPg pa n) n b1 l1 r1 b2 l2 r2 b3 l3 r3 uz ul uh f1 g1 f2 g2 pa kd on ot pt fb fl fh tb tl th dg ds) sz) (gQn D (wXo oa of y ad h q n (gPg pa n) n b1 l1 r1 b2 l2 r2 b3 l3 r3 uz ul uh f1 g1 f2 g2 pa kd on ot pt fb fl fh tb tl th dg ds) (fun v w => ∃ (yb1 : Bool) (yl1 : Int64) (yr1 : Int64) (yb2 : Bool) (yl2 : Int64) (yr2 : Int64) (yb3 : Bool) (yl3 : Int64) (yr3 : Int64) (yuz : Nat → Bool) (yul : Nat → Int64) (yuh : Nat → Int64) (yf1 : Int64) (yg1 : Int64) (yf2 : Int64) (yg2 : Int64) (nan : Nat → Nat) (fbn : Nat → Bool) (fln : Nat → Int64) (fhn : Nat → Int64) (tbn : Nat → Bool) (tln : Nat → Int64) (thn : Nat → Int64), v = some (.int 0) ∧ w = (wXo oa (vp_updL of 0 ((nI n).toInt64)) y ad h q (n + 1) (gPg (pst pa n nan) (n + 1)) (n + 1) yb1 yl1 yr1 yb2 yl2 yr2 yb3 yl3 yr3 yuz yul yuh yf1 yg1 yf2 yg2 (pst pa n nan) (pst kd n 4) (pst on n (nI k)) (pst ot n (nI j)) (pst pt n ((pt k ||| pt j) ||| jshl 1 (nI n))) (pst fb n fbn) (pst fl n fln) (pst fh n fhn) (pst tb n tbn) (pst tl n tln) (pst th n thn) (pst dg n 0) (pst ds n 0)) ∧ (∀ i9, i9 < 25 → (fbn i9, fln i9, fhn i9) = mkX fb fl fh 4 k j i9) ∧ (∀ i9, i9 < 25 → (tbn i9, tln i9, thn i9) = nwA fbn fln fhn (i9 + 1)))) 9 164 (va_A (wXo oa of y ad h q n (gPg pa n) n b1 l1 r1 b2 l2 r2 b3 l3 r3 uz ul uh f1 g1 f2 g2 pa kd on ot pt fb fl fh tb tl th dg ds) sz) := by
  refine gMet_ofWH (cc := cL_greater) (maxL := 5) (ret := (some .int)) (hh := [(0, 10, 13, 20), (0, 10, 17, 15)]) (by decide) rfl ?_
  intro pg e s m args below meth c s₁ B hml hv
  obtain ⟨rfl, ⟨hsz, hP, hK, hD0, hE0⟩, hN⟩ := hv
  have hx := B.exec
  have hb := B.bytes
  have hr := B.returns
  have hts := atoms_spec (ws := wsL_greater) B.pre
  have hown : s.vm.findClass RL = some m.cls := findClass_of_methodNamed B.named
  have htab : c.exceptionTable.toList = tableOf [(0, 10, 13, 20), (0, 10, 17, 15)] := vx_table (x := yL_greater) B (hts _ List.mem_cons_self)
  have hlocks := B.notSynchronized
  subst hsz
  obtain ⟨A, hAe⟩ : ∃ A : Nat → Prop, A = va_A (wXo oa of y ad h q n (gPg pa n) n b1 l1 r1 b2 l2 r2 b3 l3 r3 uz ul uh f1 g1 f2 g2 pa kd on ot pt fb fl fh tb tl th dg ds) s.heap.size := ⟨_, rfl⟩
  have hE : gE ad A s s.heap := by rw [hAe]; exact hE0
  have hD : va_D A (wXo oa of y ad h q n (gPg pa n) n b1 l1 r1 b2 l2 r2 b3 l3 r3 uz ul uh f1 g1 f2 g2 pa kd on ot pt fb fl fh tb tl th dg ds) := by rw [hAe]; exact hD0.self (sz := s.heap.size)
  have hA : ∀ q : Nat, s.heap.size ≤ q → A q := fun q h => by rw [hAe]; exact Or.inr h
  have hS : va_S A s.heap s.heap [] := va_S.rf
  have hl := lv_entry ([.ref h, .int (nI k), .int (nI j), .ref oa]) (n := 5) (Nat.le_of_ble_eq_true rfl)
  rw [lg_entry_eq]
  generalize (lg_sl ([.ref h, .int (nI k), .int (nI j), .ref oa]) ++ List.replicate (5 - (lg_sl ([.ref h, .int (nI k), .int (nI j), .ref oa])).length) Slot.unset).toArray = ls at hl ⊢
  have hl : lv_has ls 5 [(0, .ref h), (1, .int (nI k)), (2, .int (nI j)), (3, .ref oa)] := hl
  refine lv_aload_n hx hb dL_greater_0 rfl (lv_at hl 3 rfl) ?_
  refine lv_iconst (v := 0) hx hb dL_greater_1 (by decide) ?_
  refine lv_aload_n hx hb dL_greater_2 rfl (lv_at hl 0 rfl) ?_
  refine lv_iload_n hx hb dL_greater_3 rfl (lv_at hl 1 rfl) ?_
  refine lv_iload_n hx hb dL_greater_4 rfl (lv_at hl 2 rfl) ?_
  refine g_callN (ws := [(oa, .inl (y 1, 1, .inr (.inl of)))]) (wc := wXp y ad h q n b1 l1 r1 b2 l2 r2 b3 l3 r3 uz ul uh f1 g1 f2 g2 pa kd on ot pt fb fl fh tb tl th dg ds) (va_runV (As := [.int (nI k), .int (nI j)]) (rest := [.int 0, .ref oa]) ⟨hx, hb, hml, hown, hts⟩ (c_X7_greater_0 l hfl D y ad s.heap.size h q n b1 l1 r1 b2 l2 r2 b3 l3 r3 uz ul uh f1 g1 f2 g2 pa kd on ot pt fb fl fh tb tl th dg ds k j hn4 hk hj) (cwV 2 hts gL_greater_X7_greater rfl rfl rfl (by decide +kernel) ⟨Nat.le_of_ble_eq_true rfl, Nat.le_of_ble_eq_true rfl⟩) (gPX_VA (va_P_r (ws := [(oa, .inl (y 1, 1, .inr (.inl of)))]) hP) (va_D_r (ws := [(oa, .inl (y 1, 1, .inr (.inl of)))]) hD) hK hE hS hA 0 rfl rfl) rfl rfl hl.1 rfl (lv_room (Nat.le_of_ble_eq_true rfl)) dL_greater_5 ⟨Nat.le_of_ble_eq_true rfl, Nat.le_of_ble_eq_true rfl⟩) hP hD hS hA (fun v w1 H locs hf hP hD hS => ?_)
  obtain ⟨yb1_5, yl1_5, yr1_5, yb2_5, yl2_5, yr2_5, yb3_5, yl3_5, yr3_5, yuz_5, yul_5, yuh_5, yf1_5, yg1_5, yf2_5, yg2_5, nan_5, fbn_5, fln_5, fhn_5, tbn_5, tln_5, thn_5, rfl, rfl, h5_0, h5_1⟩ := hf
  have hP : va_P D vwCl (wXo oa of y ad h q (n + 1) (gPg (pst pa n nan_5) (n + 1)) (n + 1) yb1_5 yl1_5 yr1_5 yb2_5 yl2_5 yr2_5 yb3_5 yl3_5 yr3_5 yuz_5 yul_5 yuh_5 yf1_5 yg1_5 yf2_5 yg2_5 (pst pa n nan_5) (pst kd n 4) (pst on n (nI k)) (pst ot n (nI j)) (pst pt n ((pt k ||| pt j) ||| jshl 1 (nI n))) (pst fb n fbn_5) (pst fl n fln_5) (pst fh n fhn_5) (pst tb n tbn_5) (pst tl n tln_5) (pst th n thn_5) (pst dg n 0) (pst ds n 0)) H := hP
  have hD : va_D A (wXo oa of y ad h q (n + 1) (gPg (pst pa n nan_5) (n + 1)) (n + 1) yb1_5 yl1_5 yr1_5 yb2_5 yl2_5 yr2_5 yb3_5 yl3_5 yr3_5 yuz_5 yul_5 yuh_5 yf1_5 yg1_5 yf2_5 yg2_5 (pst pa n nan_5) (pst kd n 4) (pst on n (nI k)) (pst ot n (nI j)) (pst pt n ((pt k ||| pt j) ||| jshl 1 (nI n))) (pst fb n fbn_5) (pst fl n fln_5) (pst fh n fhn_5) (pst tb n tbn_5) (pst tl n tln_5) (pst th n thn_5) (pst dg n 0) (pst ds n 0)) := hD
  refine lv_i2l (v := (nI n).toInt64) hx hb dL_greater_8 rfl ?_
  refine g_last (k := 0) (x := (nI n).toInt64) hx hb hK.1 hP hD hS 0 1 rfl rfl (by omega) (by decide) dL_greater_9 (fun H locs hP hD hS => ?_)
  have hP : va_P D vwCl (wXo oa (vp_updL of 0 ((nI n).toInt64)) y ad h q (n + 1) (gPg (pst pa n nan_5) (n + 1)) (n + 1) yb1_5 yl1_5 yr1_5 yb2_5 yl2_5 yr2_5 yb3_5 yl3_5 yr3_5 yuz_5 yul_5 yuh_5 yf1_5 yg1_5 yf2_5 yg2_5 (pst pa n nan_5) (pst kd n 4) (pst on n (nI k)) (pst ot n (nI j)) (pst pt n ((pt k ||| pt j) ||| jshl 1 (nI n))) (pst fb n fbn_5) (pst fl n fln_5) (pst fh n fhn_5) (pst tb n tbn_5) (pst tl n tln_5) (pst th n thn_5) (pst dg n 0) (pst ds n 0)) H := hP
  have hD : va_D A (wXo oa (vp_updL of 0 ((nI n).toInt64)) y ad h q (n + 1) (gPg (pst pa n nan_5) (n + 1)) (n + 1) yb1_5 yl1_5 yr1_5 yb2_5 yl2_5 yr2_5 yb3_5 yl3_5 yr3_5 yuz_5 yul_5 yuh_5 yf1_5 yg1_5 yf2_5 yg2_5 (pst pa n nan_5) (pst kd n 4) (pst on n (nI k)) (pst ot n (nI j)) (pst pt n ((pt k ||| pt j) ||| jshl 1 (nI n))) (pst fb n fbn_5) (pst fl n fln_5) (pst fh n fhn_5) (pst tb n tbn_5) (pst tl n tln_5) (pst th n thn_5) (pst dg n 0) (pst ds n 0)) := hD
  refine lv_goto (tgt := 21) hx hb dL_greater_10 (by decide) ?_
  refine lv_iconst (v := 0) hx hb dL_greater_21 (by decide) ?_
  have hP9 := hP
  have hD9 := hD
  exact W.iret (v := 0) hx hb hr (fun t ht hW => ⟨⟨some (.int (0)), wXo oa (vp_updL of 0 ((nI n).toInt64)) y ad h q (n + 1) (gPg (pst pa n nan_5) (n + 1)) (n + 1) yb1_5 yl1_5 yr1_5 yb2_5 yl2_5 yr2_5 yb3_5 yl3_5 yr3_5 yuz_5 yul_5 yuh_5 yf1_5 yg1_5 yf2_5 yg2_5 (pst pa n nan_5) (pst kd n 4) (pst on n (nI k)) (pst ot n (nI j)) (pst pt n ((pt k ||| pt j) ||| jshl 1 (nI n))) (pst fb n fbn_5) (pst fl n fln_5) (pst fh n fhn_5) (pst tb n tbn_5) (pst tl n tln_5) (pst th n thn_5) (pst dg n 0) (pst ds n 0), rfl, ⟨yb1_5, yl1_5, yr1_5, yb2_5, yl2_5, yr2_5, yb3_5, yl3_5, yr3_5, yuz_5, yul_5, yuh_5, yf1_5, yg1_5, yf2_5, yg2_5, nan_5, fbn_5, fln_5, fhn_5, tbn_5, tln_5, thn_5, rfl, rfl, h5_0, h5_1⟩, by rw [← hAe]; exact hD9, by rw [ht]; exact hP9⟩, by rw [← hAe]; exact hS.F ht⟩) (by rw [← hAe]; exact hS.2.2) dL_greater_22
set_option maxHeartbeats 4000000 in
set_option maxRecDepth 100000 in
theorem c_L_inverse_X1a (l : Launch) (hfl : l.stackTraces = false) (D : va_G) (y : Nat → ClassId) (ad : Nat → Nat) (sz : Nat) (h : Nat) (q : Nat → Nat) (n : Nat) (b1 : Bool) (l1 r1 : Int64) (b2 : Bool) (l2 r2 : Int64) (b3 : Bool) (l3 r3 : Int64) (uz : Nat → Bool) (ul uh : Nat → Int64) (f1 g1 f2 g2 : Int64) (pa : Nat → Nat → Nat) (kd : Nat → Nat) (on ot : Nat → Int32) (pt : Nat → Int64) (fb : Nat → Nat → Bool) (fl fh : Nat → Nat → Int64) (tb : Nat → Nat → Bool) (tl th : Nat → Nat → Int64) (dg : Nat → Int32) (ds : Nat → Int64) (a : Int32) (oa : Nat) (of : Nat → Int64) (hbad : a < 0 ∨ nI n ≤ a) : Met l yL_inverse wsL_inverse ({ frames := 9, cells := 1, slots := 6, locals := 162 } : Room) (gPN D y ad [.ref h, .int a, .ref oa] (wXo oa of y ad h q n (gPg pa n) n b1 l1 r1 b2 l2 r2 b3 l3 r3 uz ul uh f1 g1 f2 g2 pa kd on ot pt fb fl fh tb tl th dg ds) sz) (gQn D (wXo oa of y ad h q n (gPg pa n) n b1 l1 r1 b2 l2 r2 b3 l3 r3 uz ul uh f1 g1 f2 g2 pa kd on ot pt fb fl fh tb tl th dg ds) (fun v w => v = some (.int 1) ∧ w = (wXo oa of y ad h q n (gPg pa n) n b1 l1 r1 b2 l2 r2 b3 l3 r3 uz ul uh f1 g1 f2 g2 pa kd on ot pt fb fl fh tb tl th dg ds))) 1 6 (va_A (wXo oa of y ad h q n (gPg pa n) n b1 l1 r1 b2 l2 r2 b3 l3 r3 uz ul uh f1 g1 f2 g2 pa kd on ot pt fb fl fh tb tl th dg ds) sz) := by
  refine gMet_ofWH (cc := cL_inverse) (maxL := 4) (ret := (some .int)) (hh := [(0, 9, 12, 20), (0, 9, 15, 15)]) (by decide) rfl ?_
  intro pg e s m args below meth c s₁ B hml hv
  obtain ⟨rfl, ⟨hsz, hP, hK, hD0, hE0⟩, hN⟩ := hv
  have hx := B.exec
  have hb := B.bytes
  have hr := B.returns
  have hts := atoms_spec (ws := wsL_inverse) B.pre
  have hown : s.vm.findClass RL = some m.cls := findClass_of_methodNamed B.named
  have htab : c.exceptionTable.toList = tableOf [(0, 9, 12, 20), (0, 9, 15, 15)] := vx_table (x := yL_inverse) B (hts _ List.mem_cons_self)
  have hlocks := B.notSynchronized
  subst hsz
  obtain ⟨A, hAe⟩ : ∃ A : Nat → Prop, A = va_A (wXo oa of y ad h q n (gPg pa n) n b1 l1 r1 b2 l2 r2 b3 l3 r3 uz ul uh f1 g1 f2 g2 pa kd on ot pt fb fl fh tb tl th dg ds) s.heap.size := ⟨_, rfl⟩
  have hE : gE ad A s s.heap := by rw [hAe]; exact hE0
  have hD : va_D A (wXo oa of y ad h q n (gPg pa n) n b1 l1 r1 b2 l2 r2 b3 l3 r3 uz ul uh f1 g1 f2 g2 pa kd on ot pt fb fl fh tb tl th dg ds) := by rw [hAe]; exact hD0.self (sz := s.heap.size)
  have hA : ∀ q : Nat, s.heap.size ≤ q → A q := fun q h => by rw [hAe]; exact Or.inr h
  have hS : va_S A s.heap s.heap [] := va_S.rf
  have hl := lv_entry ([.ref h, .int a, .ref oa]) (n := 4) (Nat.le_of_ble_eq_true rfl)
  rw [lg_entry_eq]
  generalize (lg_sl ([.ref h, .int a, .ref oa]) ++ List.replicate (4 - (lg_sl ([.ref h, .int a, .ref oa])).length) Slot.unset).toArray = ls at hl ⊢
  have hl : lv_has ls 4 [(0, .ref h), (1, .int a), (2, .ref oa)] := hl
  refine lv_aload_n hx hb dL_inverse_0 rfl (lv_at hl 2 rfl) ?_
  refine lv_iconst (v := 0) hx hb dL_inverse_1 (by decide) ?_
  refine lv_aload_n hx hb dL_inverse_2 rfl (lv_at hl 0 rfl) ?_
  refine lv_iload_n hx hb dL_inverse_3 rfl (lv_at hl 1 rfl) ?_
  refine g_catch (name := gIOB) (ws := [(oa, .inl (y 1, 1, .inr (.inl of)))]) (vx_runV (As := [.int a]) (rest := [.int 0, .ref oa]) ⟨hx, hb, hml, hown, hts⟩ (c_X7_inverse_X1a l hfl D y ad s.heap.size h q n b1 l1 r1 b2 l2 r2 b3 l3 r3 uz ul uh f1 g1 f2 g2 pa kd on ot pt fb fl fh tb tl th dg ds a hbad) (cwV 1 hts gL_inverse_X7_inverse rfl rfl rfl (by decide +kernel) ⟨Nat.le_of_ble_eq_true rfl, Nat.le_of_ble_eq_true rfl⟩) (gPX_VA (va_P_r (ws := [(oa, .inl (y 1, 1, .inr (.inl of)))]) hP) (va_D_r (ws := [(oa, .inl (y 1, 1, .inr (.inl of)))]) hD) hK hE hS hA 0 rfl rfl) rfl rfl hl.1 rfl (lv_room (Nat.le_of_ble_eq_true rfl)) dL_inverse_4 ⟨Nat.le_of_ble_eq_true rfl, Nat.le_of_ble_eq_true rfl⟩) hP hD hS hA hown [] ⟨0, 9, 12, 20⟩ [⟨0, 9, 15, 15⟩] (by rw [htab]; rfl) (fun z hz => absurd hz List.not_mem_nil) (by decide) (by decide) (hts (.classLink RL 20 "java/lang/IndexOutOfBoundsException") (List.mem_of_getElem? (i := 1) rfl)) (hE.cw (Cond.castable gIOB gIOB) (List.mem_of_getElem? (i := 5) rfl)) (fun q9 w1 H locs hf hP hD hS => ?_)
  obtain rfl : w1 = wXp y ad h q n b1 l1 r1 b2 l2 r2 b3 l3 r3 uz ul uh f1 g1 f2 g2 pa kd on ot pt fb fl fh tb tl th dg ds := hf
  have hP : va_P D vwCl (wXo oa of y ad h q n (gPg pa n) n b1 l1 r1 b2 l2 r2 b3 l3 r3 uz ul uh f1 g1 f2 g2 pa kd on ot pt fb fl fh tb tl th dg ds) H := hP
  have hD : va_D A (wXo oa of y ad h q n (gPg pa n) n b1 l1 r1 b2 l2 r2 b3 l3 r3 uz ul uh f1 g1 f2 g2 pa kd on ot pt fb fl fh tb tl th dg ds) := hD
  refine lv_astore_n (lv' := [(3, .ref q9), (0, .ref h), (1, .int a), (2, .ref oa)]) hx hb dL_inverse_12 rfl hl (by decide) rfl (fun ls hl => ?_)
  refine lv_iconst (v := 1) hx hb dL_inverse_13 (by decide) ?_
  have hP9 := hP
  have hD9 := hD
  exact W.iret (v := 1) hx hb hr (fun t ht hW => ⟨⟨some (.int (1)), wXo oa of y ad h q n (gPg pa n) n b1 l1 r1 b2 l2 r2 b3 l3 r3 uz ul uh f1 g1 f2 g2 pa kd on ot pt fb fl fh tb tl th dg ds, rfl, ⟨rfl, rfl⟩, by rw [← hAe]; exact hD9, by rw [ht]; exact hP9⟩, by rw [← hAe]; exact hS.F ht⟩) (by rw [← hAe]; exact hS.2.2) dL_inverse_14
set_option maxHeartbeats 4000000 in
set_option maxRecDepth 100000 in
theorem c_L_inverse_X2 (l : Launch) (hfl : l.stackTraces = false) (D : va_G) (y : Nat → ClassId) (ad : Nat → Nat) (sz : Nat) (h : Nat) (q : Nat → Nat) (n : Nat) (b1 : Bool) (l1 r1 : Int64) (b2 : Bool) (l2 r2 : Int64) (b3 : Bool) (l3 r3 : Int64) (uz : Nat → Bool) (ul uh : Nat → Int64) (f1 g1 f2 g2 : Int64) (pa : Nat → Nat → Nat) (kd : Nat → Nat) (on ot : Nat → Int32) (pt : Nat → Int64) (fb : Nat → Nat → Bool) (fl fh : Nat → Nat → Int64) (tb : Nat → Nat → Bool) (tl th : Nat → Nat → Int64) (dg : Nat → Int32) (ds : Nat → Int64) (k : Nat) (oa : Nat) (of : Nat → Int64) (hn : n ≤ 40) (hk : k < n) (hn2 : ¬ n < 40) : Met l yL_inverse wsL_inverse ({ frames := 9, cells := 1, slots := 6, locals := 160 } : Room) (gPN D y ad [.ref h, .int (nI k), .ref oa] (wXo oa of y ad h q n (gPg pa n) n b1 l1 r1 b2 l2 r2 b3 l3 r3 uz ul uh f1 g1 f2 g2 pa kd on ot pt fb fl fh tb tl th dg ds) sz) (gQn D (wXo oa of y ad h q n (gPg pa n) n b1 l1 r1 b2 l2 r2 b3 l3 r3 uz ul uh f1 g1 f2 g2 pa kd on ot pt fb fl fh tb tl th dg ds) (fun v w => v = some (.int 2) ∧ w = (wXo oa of y ad h q n (gPg pa n) n b1 l1 r1 b2 l2 r2 b3 l3 r3 uz ul uh f1 g1 f2 g2 pa kd on ot pt fb fl fh tb tl th dg ds))) 1 6 (va_A (wXo oa of y ad h q n (gPg pa n) n b1 l1 r1 b2 l2 r2 b3 l3 r3 uz ul uh f1 g1 f2 g2 pa kd on ot pt fb fl fh tb tl th dg ds) sz) := by
  refine gMet_ofWH (cc := cL_inverse) (maxL := 4) (ret := (some .int)) (hh := [(0, 9, 12, 20), (0, 9, 15, 15)]) (by decide) rfl ?_
  intro pg e s m args below meth c s₁ B hml hv
  obtain ⟨rfl, ⟨hsz, hP, hK, hD0, hE0⟩, hN⟩ := hv
  have hx := B.exec
  have hb := B.bytes
  have hr := B.returns
  have hts := atoms_spec (ws := wsL_inverse) B.pre
  have hown : s.vm.findClass RL = some m.cls := findClass_of_methodNamed B.named
  have htab : c.exceptionTable.toList = tableOf [(0, 9, 12, 20), (0, 9, 15, 15)] := vx_table (x := yL_inverse) B (hts _ List.mem_cons_self)
  have hlocks := B.notSynchronized
  subst hsz
  obtain ⟨A, hAe⟩ : ∃ A : Nat → Prop, A = va_A (wXo oa of y ad h q n (gPg pa n) n b1 l1 r1 b2 l2 r2 b3 l3 r3 uz ul uh f1 g1 f2 g2 pa kd on ot pt fb fl fh tb tl th dg ds) s.heap.size := ⟨_, rfl⟩
  have hE : gE ad A s s.heap := by rw [hAe]; exact hE0
  have hD : va_D A (wXo oa of y ad h q n (gPg pa n) n b1 l1 r1 b2 l2 r2 b3 l3 r3 uz ul uh f1 g1 f2 g2 pa kd on ot pt fb fl fh tb tl th dg ds) := by rw [hAe]; exact hD0.self (sz := s.heap.size)
  have hA : ∀ q : Nat, s.heap.size ≤ q → A q := fun q h => by rw [hAe]; exact Or.inr h
  have hS : va_S A s.heap s.heap [] := va_S.rf
  have hl := lv_entry ([.ref h, .int (nI k), .ref oa]) (n := 4) (Nat.le_of_ble_eq_true rfl)
  rw [lg_entry_eq]
  generalize (lg_sl ([.ref h, .int (nI k), .ref oa]) ++ List.replicate (4 - (lg_sl ([.ref h, .int (nI k), .ref oa])).length) Slot.unset).toArray = ls at hl ⊢
  have hl : lv_has ls 4 [(0, .ref h), (1, .int (nI k)), (2, .ref oa)] := hl
  refine lv_aload_n hx hb dL_inverse_0 rfl (lv_at hl 2 rfl) ?_
  refine lv_iconst (v := 0) hx hb dL_inverse_1 (by decide) ?_
  refine lv_aload_n hx hb dL_inverse_2 rfl (lv_at hl 0 rfl) ?_
  refine lv_iload_n hx hb dL_inverse_3 rfl (lv_at hl 1 rfl) ?_
  refine g_catch (name := gISE) (ws := [(oa, .inl (y 1, 1, .inr (.inl of)))]) (vx_runV (As := [.int (nI k)]) (rest := [.int 0, .ref oa]) ⟨hx, hb, hml, hown, hts⟩ (c_X7_inverse_X2 l hfl D y ad s.heap.size h q n b1 l1 r1 b2 l2 r2 b3 l3 r3 uz ul uh f1 g1 f2 g2 pa kd on ot pt fb fl fh tb tl th dg ds k hn hk hn2) (cwV 1 hts gL_inverse_X7_inverse rfl rfl rfl (by decide +kernel) ⟨Nat.le_of_ble_eq_true rfl, Nat.le_of_ble_eq_true rfl⟩) (gPX_VA (va_P_r (ws := [(oa, .inl (y 1, 1, .inr (.inl of)))]) hP) (va_D_r (ws := [(oa, .inl (y 1, 1, .inr (.inl of)))]) hD) hK hE hS hA 0 rfl rfl) rfl rfl hl.1 rfl (lv_room (Nat.le_of_ble_eq_true rfl)) dL_inverse_4 ⟨Nat.le_of_ble_eq_true rfl, Nat.le_of_ble_eq_true rfl⟩) hP hD hS hA hown [⟨0, 9, 12, 20⟩] ⟨0, 9, 15, 15⟩ [] (by rw [htab]; rfl) (fun z hz => by rcases List.mem_singleton.mp hz with rfl; exact Or.inr ⟨by decide, _, (hts (.classLink RL 20 "java/lang/IndexOutOfBoundsException") (List.mem_of_getElem? (i := 1) rfl)), hN.2.1⟩) (by decide) (by decide) (hts (.classLink RL 15 "java/lang/IllegalStateException") (List.mem_of_getElem? (i := 2) rfl)) (hE.cw (Cond.castable gISE gISE) (List.mem_of_getElem? (i := 4) rfl)) (fun q9 w1 H locs hf hP hD hS => ?_)
  obtain rfl : w1 = wXp y ad h q n b1 l1 r1 b2 l2 r2 b3 l3 r3 uz ul uh f1 g1 f2 g2 pa kd on ot pt fb fl fh tb tl th dg ds := hf
  have hP : va_P D vwCl (wXo oa of y ad h q n (gPg pa n) n b1 l1 r1 b2 l2 r2 b3 l3 r3 uz ul uh f1 g1 f2 g2 pa kd on ot pt fb fl fh tb tl th dg ds) H := hP
  have hD : va_D A (wXo oa of y ad h q n (gPg pa n) n b1 l1 r1 b2 l2 r2 b3 l3 r3 uz ul uh f1 g1 f2 g2 pa kd on ot pt fb fl fh tb tl th dg ds) := hD
  refine lv_astore_n (lv' := [(3, .ref q9), (0, .ref h), (1, .int (nI k)), (2, .ref oa)]) hx hb dL_inverse_15 rfl hl (by decide) rfl (fun ls hl => ?_)
  refine lv_iconst (v := 2) hx hb dL_inverse_16 (by decide) ?_
  have hP9 := hP
  have hD9 := hD
  exact W.iret (v := 2) hx hb hr (fun t ht hW => ⟨⟨some (.int (2)), wXo oa of y ad h q n (gPg pa n) n b1 l1 r1 b2 l2 r2 b3 l3 r3 uz ul uh f1 g1 f2 g2 pa kd on ot pt fb fl fh tb tl th dg ds, rfl, ⟨rfl, rfl⟩, by rw [← hAe]; exact hD9, by rw [ht]; exact hP9⟩, by rw [← hAe]; exact hS.F ht⟩) (by rw [← hAe]; exact hS.2.2) dL_inverse_17
set_option maxHeartbeats 4000000 in
set_option maxRecDepth 100000 in
theorem c_L_inverse_0 (l : Launch) (hfl : l.stackTraces = false) (D : va_G) (y : Nat → ClassId) (ad : Nat → Nat) (sz : Nat) (h : Nat) (q : Nat → Nat) (n : Nat) (b1 : Bool) (l1 r1 : Int64) (b2 : Bool) (l2 r2 : Int64) (b3 : Bool) (l3 r3 : Int64) (uz : Nat → Bool) (ul uh : Nat → Int64) (f1 g1 f2 g2 : Int64) (pa : Nat → Nat → Nat) (kd : Nat → Nat) (on ot : Nat → Int32) (pt : Nat → Int64) (fb : Nat → Nat → Bool) (fl fh : Nat → Nat → Int64) (tb : Nat → Nat → Bool) (tl th : Nat → Nat → Int64) (dg : Nat → Int32) (ds : Nat → Int64) (k : Nat) (oa : Nat) (of : Nat → Int64) (hn4 : n < 40) (hk : k < n) : Met l yL_inverse wsL_inverse ({ frames := 9, cells := 9, slots := 164, locals := 270 } : Room) (gPN D y ad [.ref h, .int (nI k), .ref oa] (wXo oa of y ad h q n (gPg pa n) n b1 l1 r1 b2 l2 r2 b3 l3 r3 uz ul uh f1 g1 f2 g2 pa kd on ot pt fb fl fh tb tl th dg ds) sz) (gQn D (wXo oa of y ad h q n (gPg pa n) n b1 l1 r1 b2 l2 r2 b3 l3 r3 uz ul uh f1 g1 f2 g2 pa kd on ot pt fb fl fh tb tl th dg ds) (fun v w => ∃ (yb1 : Bool) (yl1 : Int64) (yr1 : Int64) (yb2 : Bool) (yl2 : Int64) (yr2 : Int64) (yb3 : Bool) (yl3 : Int64) (yr3 : Int64) (yuz : Nat → Bool) (yul : Nat → Int64) (yuh : Nat → Int64) (yf1 : Int64) (yg1 : Int64) (yf2 : Int64) (yg2 : Int64) (nan : Nat → Nat) (fbn : Nat → Bool) (fln : Nat → Int64) (fhn : Nat → Int64) (tbn : Nat → Bool) (tln : Nat → Int64) (thn : Nat → Int64), v = some (.int 0) ∧ w = (wXo oa (vp_updL of 0 ((nI n).toInt64)) y ad h q (n + 1) (gPg (pst pa n nan) (n + 1)) (n + 1) yb1 yl1 yr1 yb2 yl2 yr2 yb3 yl3 yr3 yuz yul yuh yf1 yg1 yf2 yg2 (pst pa n nan) (pst kd n 5) (pst on n (nI k)) (pst ot n (nI k)) (pst pt n ((pt k ||| pt k) ||| jshl 1 (nI n))) (pst fb n fbn) (pst fl n fln) (pst fh n fhn) (pst tb n tbn) (pst tl n tln) (pst th n thn) (pst dg n 0) (pst ds n 0)) ∧ (∀ i9, i9 < 25 → (fbn i9, fln i9, fhn i9) = mkX fb fl fh 5 k k i9) ∧ (∀ i9, i9 < 25 → (tbn i9, tln i9, thn i9) = nwA fbn fln fhn (i9 + 1)))) 9 164 (va_A (wXo oa of y ad h q n (gPg pa n) n b1 l1 r1 b2 l2 r2 b3 l3 r3 uz ul uh f1 g1 f2 g2 pa kd on ot pt fb fl fh tb tl th dg ds) sz) := by
  refine gMet_ofWH (cc := cL_inverse) (maxL := 4) (ret := (some .int)) (hh := [(0, 9, 12, 20), (0, 9, 15, 15)]) (by decide) rfl ?_
  intro pg e s m args below meth c s₁ B hml hv
  obtain ⟨rfl, ⟨hsz, hP, hK, hD0, hE0⟩, hN⟩ := hv
  have hx := B.exec
  have hb := B.bytes
  have hr := B.returns
  have hts := atoms_spec (ws := wsL_inverse) B.pre
  have hown : s.vm.findClass RL = some m.cls := findClass_of_methodNamed B.named
  have htab : c.exceptionTable.toList = tableOf [(0, 9, 12, 20), (0, 9, 15, 15)] := vx_table (x := yL_inverse) B (hts _ List.mem_cons_self)
  have hlocks := B.notSynchronized
  subst hsz
  obtain ⟨A, hAe⟩ : ∃ A : Nat → Prop, A = va_A (wXo oa of y ad h q n (gPg pa n) n b1 l1 r1 b2 l2 r2 b3 l3 r3 uz ul uh f1 g1 f2 g2 pa kd on ot pt fb fl fh tb tl th dg ds) s.heap.size := ⟨_, rfl⟩
  have hE : gE ad A s s.heap := by rw [hAe]; exact hE0
  have hD : va_D A (wXo oa of y ad h q n (gPg pa n) n b1 l1 r1 b2 l2 r2 b3 l3 r3 uz ul uh f1 g1 f2 g2 pa kd on ot pt fb fl fh tb tl th dg ds) := by rw [hAe]; exact hD0.self (sz := s.heap.size)
  have hA : ∀ q : Nat, s.heap.size ≤ q → A q := fun q h => by rw [hAe]; exact Or.inr h
  have hS : va_S A s.heap s.heap [] := va_S.rf
  have hl := lv_entry ([.ref h, .int (nI k), .ref oa]) (n := 4) (Nat.le_of_ble_eq_true rfl)
  rw [lg_entry_eq]
  generalize (lg_sl ([.ref h, .int (nI k), .ref oa]) ++ List.replicate (4 - (lg_sl ([.ref h, .int (nI k), .ref oa])).length) Slot.unset).toArray = ls at hl ⊢
  have hl : lv_has ls 4 [(0, .ref h), (1, .int (nI k)), (2, .ref oa)] := hl
  refine lv_aload_n hx hb dL_inverse_0 rfl (lv_at hl 2 rfl) ?_
  refine lv_iconst (v := 0) hx hb dL_inverse_1 (by decide) ?_
  refine lv_aload_n hx hb dL_inverse_2 rfl (lv_at hl 0 rfl) ?_
  refine lv_iload_n hx hb dL_inverse_3 rfl (lv_at hl 1 rfl) ?_
  refine g_callN (ws := [(oa, .inl (y 1, 1, .inr (.inl of)))]) (wc := wXp y ad h q n b1 l1 r1 b2 l2 r2 b3 l3 r3 uz ul uh f1 g1 f2 g2 pa kd on ot pt fb fl fh tb tl th dg ds) (va_runV (As := [.int (nI k)]) (rest := [.int 0, .ref oa]) ⟨hx, hb, hml, hown, hts⟩ (c_X7_inverse_0 l hfl D y ad s.heap.size h q n b1 l1 r1 b2 l2 r2 b3 l3 r3 uz ul uh f1 g1 f2 g2 pa kd on ot pt fb fl fh tb tl th dg ds k hn4 hk) (cwV 1 hts gL_inverse_X7_inverse rfl rfl rfl (by decide +kernel) ⟨Nat.le_of_ble_eq_true rfl, Nat.le_of_ble_eq_true rfl⟩) (gPX_VA (va_P_r (ws := [(oa, .inl (y 1, 1, .inr (.inl of)))]) hP) (va_D_r (ws := [(oa, .inl (y 1, 1, .inr (.inl of)))]) hD) hK hE hS hA 0 rfl rfl) rfl rfl hl.1 rfl (lv_room (Nat.le_of_ble_eq_true rfl)) dL_inverse_4 ⟨Nat.le_of_ble_eq_true rfl, Nat.le_of_ble_eq_true rfl⟩) hP hD hS hA (fun v w1 H locs hf hP hD hS => ?_)
  obtain ⟨yb1_4, yl1_4, yr1_4, yb2_4, yl2_4, yr2_4, yb3_4, yl3_4, yr3_4, yuz_4, yul_4, yuh_4, yf1_4, yg1_4, yf2_4, yg2_4, nan_4, fbn_4, fln_4, fhn_4, tbn_4, tln_4, thn_4, rfl, rfl, h4_0, h4_1⟩ := hf
  have hP : va_P D vwCl (wXo oa of y ad h q (n + 1) (gPg (pst pa n nan_4) (n + 1)) (n + 1) yb1_4 yl1_4 yr1_4 yb2_4 yl2_4 yr2_4 yb3_4 yl3_4 yr3_4 yuz_4 yul_4 yuh_4 yf1_4 yg1_4 yf2_4 yg2_4 (pst pa n nan_4) (pst kd n 5) (pst on n (nI k)) (pst ot n (nI k)) (pst pt n ((pt k ||| pt k) ||| jshl 1 (nI n))) (pst fb n fbn_4) (pst fl n fln_4) (pst fh n fhn_4) (pst tb n tbn_4) (pst tl n tln_4) (pst th n thn_4) (pst dg n 0) (pst ds n 0)) H := hP
  have hD : va_D A (wXo oa of y ad h q (n + 1) (gPg (pst pa n nan_4) (n + 1)) (n + 1) yb1_4 yl1_4 yr1_4 yb2_4 yl2_4 yr2_4 yb3_4 yl3_4 yr3_4 yuz_4 yul_4 yuh_4 yf1_4 yg1_4 yf2_4 yg2_4 (pst pa n nan_4) (pst kd n 5) (pst on n (nI k)) (pst ot n (nI k)) (pst pt n ((pt k ||| pt k) ||| jshl 1 (nI n))) (pst fb n fbn_4) (pst fl n fln_4) (pst fh n fhn_4) (pst tb n tbn_4) (pst tl n tln_4) (pst th n thn_4) (pst dg n 0) (pst ds n 0)) := hD
  refine lv_i2l (v := (nI n).toInt64) hx hb dL_inverse_7 rfl ?_
  refine g_last (k := 0) (x := (nI n).toInt64) hx hb hK.1 hP hD hS 0 1 rfl rfl (by omega) (by decide) dL_inverse_8 (fun H locs hP hD hS => ?_)
  have hP : va_P D vwCl (wXo oa (vp_updL of 0 ((nI n).toInt64)) y ad h q (n + 1) (gPg (pst pa n nan_4) (n + 1)) (n + 1) yb1_4 yl1_4 yr1_4 yb2_4 yl2_4 yr2_4 yb3_4 yl3_4 yr3_4 yuz_4 yul_4 yuh_4 yf1_4 yg1_4 yf2_4 yg2_4 (pst pa n nan_4) (pst kd n 5) (pst on n (nI k)) (pst ot n (nI k)) (pst pt n ((pt k ||| pt k) ||| jshl 1 (nI n))) (pst fb n fbn_4) (pst fl n fln_4) (pst fh n fhn_4) (pst tb n tbn_4) (pst tl n tln_4) (pst th n thn_4) (pst dg n 0) (pst ds n 0)) H := hP
  have hD : va_D A (wXo oa (vp_updL of 0 ((nI n).toInt64)) y ad h q (n + 1) (gPg (pst pa n nan_4) (n + 1)) (n + 1) yb1_4 yl1_4 yr1_4 yb2_4 yl2_4 yr2_4 yb3_4 yl3_4 yr3_4 yuz_4 yul_4 yuh_4 yf1_4 yg1_4 yf2_4 yg2_4 (pst pa n nan_4) (pst kd n 5) (pst on n (nI k)) (pst ot n (nI k)) (pst pt n ((pt k ||| pt k) ||| jshl 1 (nI n))) (pst fb n fbn_4) (pst fl n fln_4) (pst fh n fhn_4) (pst tb n tbn_4) (pst tl n tln_4) (pst th n thn_4) (pst dg n 0) (pst ds n 0)) := hD
  refine lv_goto (tgt := 18) hx hb dL_inverse_9 (by decide) ?_
  refine lv_iconst (v := 0) hx hb dL_inverse_18 (by decide) ?_
  have hP9 := hP
  have hD9 := hD
  exact W.iret (v := 0) hx hb hr (fun t ht hW => ⟨⟨some (.int (0)), wXo oa (vp_updL of 0 ((nI n).toInt64)) y ad h q (n + 1) (gPg (pst pa n nan_4) (n + 1)) (n + 1) yb1_4 yl1_4 yr1_4 yb2_4 yl2_4 yr2_4 yb3_4 yl3_4 yr3_4 yuz_4 yul_4 yuh_4 yf1_4 yg1_4 yf2_4 yg2_4 (pst pa n nan_4) (pst kd n 5) (pst on n (nI k)) (pst ot n (nI k)) (pst pt n ((pt k ||| pt k) ||| jshl 1 (nI n))) (pst fb n fbn_4) (pst fl n fln_4) (pst fh n fhn_4) (pst tb n tbn_4) (pst tl n tln_4) (pst th n thn_4) (pst dg n 0) (pst ds n 0), rfl, ⟨yb1_4, yl1_4, yr1_4, yb2_4, yl2_4, yr2_4, yb3_4, yl3_4, yr3_4, yuz_4, yul_4, yuh_4, yf1_4, yg1_4, yf2_4, yg2_4, nan_4, fbn_4, fln_4, fhn_4, tbn_4, tln_4, thn_4, rfl, rfl, h4_0, h4_1⟩, by rw [← hAe]; exact hD9, by rw [ht]; exact hP9⟩, by rw [← hAe]; exact hS.F ht⟩) (by rw [← hAe]; exact hS.2.2) dL_inverse_19
set_option maxHeartbeats 4000000 in
set_option maxRecDepth 100000 in
theorem c_L_root_X1a (l : Launch) (hfl : l.stackTraces = false) (D : va_G) (y : Nat → ClassId) (ad : Nat → Nat) (sz : Nat) (h : Nat) (q : Nat → Nat) (n : Nat) (b1 : Bool) (l1 r1 : Int64) (b2 : Bool) (l2 r2 : Int64) (b3 : Bool) (l3 r3 : Int64) (uz : Nat → Bool) (ul uh : Nat → Int64) (f1 g1 f2 g2 : Int64) (pa : Nat → Nat → Nat) (kd : Nat → Nat) (on ot : Nat → Int32) (pt : Nat → Int64) (fb : Nat → Nat → Bool) (fl fh : Nat → Nat → Int64) (tb : Nat → Nat → Bool) (tl th : Nat → Nat → Int64) (dg : Nat → Int32) (ds : Nat → Int64) (a : Int32) (oa : Nat) (of : Nat → Int64) (hbad : a < 0 ∨ nI n ≤ a) : Met l yL_root wsL_root ({ frames := 9, cells := 1, slots := 6, locals := 162 } : Room) (gPN D y ad [.ref h, .int a, .ref oa] (wXo oa of y ad h q n (gPg pa n) n b1 l1 r1 b2 l2 r2 b3 l3 r3 uz ul uh f1 g1 f2 g2 pa kd on ot pt fb fl fh tb tl th dg ds) sz) (gQn D (wXo oa of y ad h q n (gPg pa n) n b1 l1 r1 b2 l2 r2 b3 l3 r3 uz ul uh f1 g1 f2 g2 pa kd on ot pt fb fl fh tb tl th dg ds) (fun v w => v = some (.int 1) ∧ w = (wXo oa of y ad h q n (gPg pa n) n b1 l1 r1 b2 l2 r2 b3 l3 r3 uz ul uh f1 g1 f2 g2 pa kd on ot pt fb fl fh tb tl th dg ds))) 1 6 (va_A (wXo oa of y ad h q n (gPg pa n) n b1 l1 r1 b2 l2 r2 b3 l3 r3 uz ul uh f1 g1 f2 g2 pa kd on ot pt fb fl fh tb tl th dg ds) sz) := by
  refine gMet_ofWH (cc := cL_root) (maxL := 4) (ret := (some .int)) (hh := [(0, 9, 12, 20), (0, 9, 15, 15)]) (by decide) rfl ?_
  intro pg e s m args below meth c s₁ B hml hv
  obtain ⟨rfl, ⟨hsz, hP, hK, hD0, hE0⟩, hN⟩ := hv
  have hx := B.exec
  have hb := B.bytes
  have hr := B.returns
  have hts := atoms_spec (ws := wsL_root) B.pre
  have hown : s.vm.findClass RL = some m.cls := findClass_of_methodNamed B.named
  have htab : c.exceptionTable.toList = tableOf [(0, 9, 12, 20), (0, 9, 15, 15)] := vx_table (x := yL_root) B (hts _ List.mem_cons_self)
  have hlocks := B.notSynchronized
  subst hsz
  obtain ⟨A, hAe⟩ : ∃ A : Nat → Prop, A = va_A (wXo oa of y ad h q n (gPg pa n) n b1 l1 r1 b2 l2 r2 b3 l3 r3 uz ul uh f1 g1 f2 g2 pa kd on ot pt fb fl fh tb tl th dg ds) s.heap.size := ⟨_, rfl⟩
  have hE : gE ad A s s.heap := by rw [hAe]; exact hE0
  have hD : va_D A (wXo oa of y ad h q n (gPg pa n) n b1 l1 r1 b2 l2 r2 b3 l3 r3 uz ul uh f1 g1 f2 g2 pa kd on ot pt fb fl fh tb tl th dg ds) := by rw [hAe]; exact hD0.self (sz := s.heap.size)
  have hA : ∀ q : Nat, s.heap.size ≤ q → A q := fun q h => by rw [hAe]; exact Or.inr h
  have hS : va_S A s.heap s.heap [] := va_S.rf
  have hl := lv_entry ([.ref h, .int a, .ref oa]) (n := 4) (Nat.le_of_ble_eq_true rfl)
  rw [lg_entry_eq]
  generalize (lg_sl ([.ref h, .int a, .ref oa]) ++ List.replicate (4 - (lg_sl ([.ref h, .int a, .ref oa])).length) Slot.unset).toArray = ls at hl ⊢
  have hl : lv_has ls 4 [(0, .ref h), (1, .int a), (2, .ref oa)] := hl
  refine lv_aload_n hx hb dL_root_0 rfl (lv_at hl 2 rfl) ?_
  refine lv_iconst (v := 0) hx hb dL_root_1 (by decide) ?_
  refine lv_aload_n hx hb dL_root_2 rfl (lv_at hl 0 rfl) ?_
  refine lv_iload_n hx hb dL_root_3 rfl (lv_at hl 1 rfl) ?_
  refine g_catch (name := gIOB) (ws := [(oa, .inl (y 1, 1, .inr (.inl of)))]) (vx_runV (As := [.int a]) (rest := [.int 0, .ref oa]) ⟨hx, hb, hml, hown, hts⟩ (c_X7_root_X1a l hfl D y ad s.heap.size h q n b1 l1 r1 b2 l2 r2 b3 l3 r3 uz ul uh f1 g1 f2 g2 pa kd on ot pt fb fl fh tb tl th dg ds a hbad) (cwV 1 hts gL_root_X7_root rfl rfl rfl (by decide +kernel) ⟨Nat.le_of_ble_eq_true rfl, Nat.le_of_ble_eq_true rfl⟩) (gPX_VA (va_P_r (ws := [(oa, .inl (y 1, 1, .inr (.inl of)))]) hP) (va_D_r (ws := [(oa, .inl (y 1, 1, .inr (.inl of)))]) hD) hK hE hS hA 0 rfl rfl) rfl rfl hl.1 rfl (lv_room (Nat.le_of_ble_eq_true rfl)) dL_root_4 ⟨Nat.le_of_ble_eq_true rfl, Nat.le_of_ble_eq_true rfl⟩) hP hD hS hA hown [] ⟨0, 9, 12, 20⟩ [⟨0, 9, 15, 15⟩] (by rw [htab]; rfl) (fun z hz => absurd hz List.not_mem_nil) (by decide) (by decide) (hts (.classLink RL 20 "java/lang/IndexOutOfBoundsException") (List.mem_of_getElem? (i := 1) rfl)) (hE.cw (Cond.castable gIOB gIOB) (List.mem_of_getElem? (i := 5) rfl)) (fun q9 w1 H locs hf hP hD hS => ?_)
  obtain rfl : w1 = wXp y ad h q n b1 l1 r1 b2 l2 r2 b3 l3 r3 uz ul uh f1 g1 f2 g2 pa kd on ot pt fb fl fh tb tl th dg ds := hf
  have hP : va_P D vwCl (wXo oa of y ad h q n (gPg pa n) n b1 l1 r1 b2 l2 r2 b3 l3 r3 uz ul uh f1 g1 f2 g2 pa kd on ot pt fb fl fh tb tl th dg ds) H := hP
  have hD : va_D A (wXo oa of y ad h q n (gPg pa n) n b1 l1 r1 b2 l2 r2 b3 l3 r3 uz ul uh f1 g1 f2 g2 pa kd on ot pt fb fl fh tb tl th dg ds) := hD
  refine lv_astore_n (lv' := [(3, .ref q9), (0, .ref h), (1, .int a), (2, .ref oa)]) hx hb dL_root_12 rfl hl (by decide) rfl (fun ls hl => ?_)
  refine lv_iconst (v := 1) hx hb dL_root_13 (by decide) ?_
  have hP9 := hP
  have hD9 := hD
  exact W.iret (v := 1) hx hb hr (fun t ht hW => ⟨⟨some (.int (1)), wXo oa of y ad h q n (gPg pa n) n b1 l1 r1 b2 l2 r2 b3 l3 r3 uz ul uh f1 g1 f2 g2 pa kd on ot pt fb fl fh tb tl th dg ds, rfl, ⟨rfl, rfl⟩, by rw [← hAe]; exact hD9, by rw [ht]; exact hP9⟩, by rw [← hAe]; exact hS.F ht⟩) (by rw [← hAe]; exact hS.2.2) dL_root_14
set_option maxHeartbeats 4000000 in
set_option maxRecDepth 100000 in
theorem c_L_root_X2 (l : Launch) (hfl : l.stackTraces = false) (D : va_G) (y : Nat → ClassId) (ad : Nat → Nat) (sz : Nat) (h : Nat) (q : Nat → Nat) (n : Nat) (b1 : Bool) (l1 r1 : Int64) (b2 : Bool) (l2 r2 : Int64) (b3 : Bool) (l3 r3 : Int64) (uz : Nat → Bool) (ul uh : Nat → Int64) (f1 g1 f2 g2 : Int64) (pa : Nat → Nat → Nat) (kd : Nat → Nat) (on ot : Nat → Int32) (pt : Nat → Int64) (fb : Nat → Nat → Bool) (fl fh : Nat → Nat → Int64) (tb : Nat → Nat → Bool) (tl th : Nat → Nat → Int64) (dg : Nat → Int32) (ds : Nat → Int64) (k : Nat) (oa : Nat) (of : Nat → Int64) (hn : n ≤ 40) (hk : k < n) (hn2 : ¬ n < 40) : Met l yL_root wsL_root ({ frames := 9, cells := 1, slots := 6, locals := 160 } : Room) (gPN D y ad [.ref h, .int (nI k), .ref oa] (wXo oa of y ad h q n (gPg pa n) n b1 l1 r1 b2 l2 r2 b3 l3 r3 uz ul uh f1 g1 f2 g2 pa kd on ot pt fb fl fh tb tl th dg ds) sz) (gQn D (wXo oa of y ad h q n (gPg pa n) n b1 l1 r1 b2 l2 r2 b3 l3 r3 uz ul uh f1 g1 f2 g2 pa kd on ot pt fb fl fh tb tl th dg ds) (fun v w => v = some (.int 2) ∧ w = (wXo oa of y ad h q n (gPg pa n) n b1 l1 r1 b2 l2 r2 b3 l3 r3 uz ul uh f1 g1 f2 g2 pa kd on ot pt fb fl fh tb tl th dg ds))) 1 6 (va_A (wXo oa of y ad h q n (gPg pa n) n b1 l1 r1 b2 l2 r2 b3 l3 r3 uz ul uh f1 g1 f2 g2 pa kd on ot pt fb fl fh tb tl th dg ds) sz) := by
  refine gMet_ofWH (cc := cL_root) (maxL := 4) (ret := (some .int)) (hh := [(0, 9, 12, 20), (0, 9, 15, 15)]) (by decide) rfl ?_
  intro pg e s m args below meth c s₁ B hml hv
  obtain ⟨rfl, ⟨hsz, hP, hK, hD0, hE0⟩, hN⟩ := hv
  have hx := B.exec
  have hb := B.bytes
  have hr := B.returns
  have hts := atoms_spec (ws := wsL_root) B.pre
  have hown : s.vm.findClass RL = some m.cls := findClass_of_methodNamed B.named
  have htab : c.exceptionTable.toList = tableOf [(0, 9, 12, 20), (0, 9, 15, 15)] := vx_table (x := yL_root) B (hts _ List.mem_cons_self)
  have hlocks := B.notSynchronized
  subst hsz
  obtain ⟨A, hAe⟩ : ∃ A : Nat → Prop, A = va_A (wXo oa of y ad h q n (gPg pa n) n b1 l1 r1 b2 l2 r2 b3 l3 r3 uz ul uh f1 g1 f2 g2 pa kd on ot pt fb fl fh tb tl th dg ds) s.heap.size := ⟨_, rfl⟩
  have hE : gE ad A s s.heap := by rw [hAe]; exact hE0
  have hD : va_D A (wXo oa of y ad h q n (gPg pa n) n b1 l1 r1 b2 l2 r2 b3 l3 r3 uz ul uh f1 g1 f2 g2 pa kd on ot pt fb fl fh tb tl th dg ds) := by rw [hAe]; exact hD0.self (sz := s.heap.size)
  have hA : ∀ q : Nat, s.heap.size ≤ q → A q := fun q h => by rw [hAe]; exact Or.inr h
  have hS : va_S A s.heap s.heap [] := va_S.rf
  have hl := lv_entry ([.ref h, .int (nI k), .ref oa]) (n := 4) (Nat.le_of_ble_eq_true rfl)
  rw [lg_entry_eq]
  generalize (lg_sl ([.ref h, .int (nI k), .ref oa]) ++ List.replicate (4 - (lg_sl ([.ref h, .int (nI k), .ref oa])).length) Slot.unset).toArray = ls at hl ⊢
  have hl : lv_has ls 4 [(0, .ref h), (1, .int (nI k)), (2, .ref oa)] := hl
  refine lv_aload_n hx hb dL_root_0 rfl (lv_at hl 2 rfl) ?_
  refine lv_iconst (v := 0) hx hb dL_root_1 (by decide) ?_
  refine lv_aload_n hx hb dL_root_2 rfl (lv_at hl 0 rfl) ?_
  refine lv_iload_n hx hb dL_root_3 rfl (lv_at hl 1 rfl) ?_
  refine g_catch (name := gISE) (ws := [(oa, .inl (y 1, 1, .inr (.inl of)))]) (vx_runV (As := [.int (nI k)]) (rest := [.int 0, .ref oa]) ⟨hx, hb, hml, hown, hts⟩ (c_X7_root_X2 l hfl D y ad s.heap.size h q n b1 l1 r1 b2 l2 r2 b3 l3 r3 uz ul uh f1 g1 f2 g2 pa kd on ot pt fb fl fh tb tl th dg ds k hn hk hn2) (cwV 1 hts gL_root_X7_root rfl rfl rfl (by decide +kernel) ⟨Nat.le_of_ble_eq_true rfl, Nat.le_of_ble_eq_true rfl⟩) (gPX_VA (va_P_r (ws := [(oa, .inl (y 1, 1, .inr (.inl of)))]) hP) (va_D_r (ws := [(oa, .inl (y 1, 1, .inr (.inl of)))]) hD) hK hE hS hA 0 rfl rfl) rfl rfl hl.1 rfl (lv_room (Nat.le_of_ble_eq_true rfl)) dL_root_4 ⟨Nat.le_of_ble_eq_true rfl, Nat.le_of_ble_eq_true rfl⟩) hP hD hS hA hown [⟨0, 9, 12, 20⟩] ⟨0, 9, 15, 15⟩ [] (by rw [htab]; rfl) (fun z hz => by rcases List.mem_singleton.mp hz with rfl; exact Or.inr ⟨by decide, _, (hts (.classLink RL 20 "java/lang/IndexOutOfBoundsException") (List.mem_of_getElem? (i := 1) rfl)), hN.2.1⟩) (by decide) (by decide) (hts (.classLink RL 15 "java/lang/IllegalStateException") (List.mem_of_getElem? (i := 2) rfl)) (hE.cw (Cond.castable gISE gISE) (List.mem_of_getElem? (i := 4) rfl)) (fun q9 w1 H locs hf hP hD hS => ?_)
  obtain rfl : w1 = wXp y ad h q n b1 l1 r1 b2 l2 r2 b3 l3 r3 uz ul uh f1 g1 f2 g2 pa kd on ot pt fb fl fh tb tl th dg ds := hf
  have hP : va_P D vwCl (wXo oa of y ad h q n (gPg pa n) n b1 l1 r1 b2 l2 r2 b3 l3 r3 uz ul uh f1 g1 f2 g2 pa kd on ot pt fb fl fh tb tl th dg ds) H := hP
  have hD : va_D A (wXo oa of y ad h q n (gPg pa n) n b1 l1 r1 b2 l2 r2 b3 l3 r3 uz ul uh f1 g1 f2 g2 pa kd on ot pt fb fl fh tb tl th dg ds) := hD
  refine lv_astore_n (lv' := [(3, .ref q9), (0, .ref h), (1, .int (nI k)), (2, .ref oa)]) hx hb dL_root_15 rfl hl (by decide) rfl (fun ls hl => ?_)
  refine lv_iconst (v := 2) hx hb dL_root_16 (by decide) ?_
  have hP9 := hP
  have hD9 := hD
  exact W.iret (v := 2) hx hb hr (fun t ht hW => ⟨⟨some (.int (2)), wXo oa of y ad h q n (gPg pa n) n b1 l1 r1 b2 l2 r2 b3 l3 r3 uz ul uh f1 g1 f2 g2 pa kd on ot pt fb fl fh tb tl th dg ds, rfl, ⟨rfl, rfl⟩, by rw [← hAe]; exact hD9, by rw [ht]; exact hP9⟩, by rw [← hAe]; exact hS.F ht⟩) (by rw [← hAe]; exact hS.2.2) dL_root_17
set_option maxHeartbeats 4000000 in
set_option maxRecDepth 100000 in
theorem c_L_root_0 (l : Launch) (hfl : l.stackTraces = false) (D : va_G) (y : Nat → ClassId) (ad : Nat → Nat) (sz : Nat) (h : Nat) (q : Nat → Nat) (n : Nat) (b1 : Bool) (l1 r1 : Int64) (b2 : Bool) (l2 r2 : Int64) (b3 : Bool) (l3 r3 : Int64) (uz : Nat → Bool) (ul uh : Nat → Int64) (f1 g1 f2 g2 : Int64) (pa : Nat → Nat → Nat) (kd : Nat → Nat) (on ot : Nat → Int32) (pt : Nat → Int64) (fb : Nat → Nat → Bool) (fl fh : Nat → Nat → Int64) (tb : Nat → Nat → Bool) (tl th : Nat → Nat → Int64) (dg : Nat → Int32) (ds : Nat → Int64) (k : Nat) (oa : Nat) (of : Nat → Int64) (hn4 : n < 40) (hk : k < n) : Met l yL_root wsL_root ({ frames := 9, cells := 9, slots := 164, locals := 270 } : Room) (gPN D y ad [.ref h, .int (nI k), .ref oa] (wXo oa of y ad h q n (gPg pa n) n b1 l1 r1 b2 l2 r2 b3 l3 r3 uz ul uh f1 g1 f2 g2 pa kd on ot pt fb fl fh tb tl th dg ds) sz) (gQn D (wXo oa of y ad h q n (gPg pa n) n b1 l1 r1 b2 l2 r2 b3 l3 r3 uz ul uh f1 g1 f2 g2 pa kd on ot pt fb fl fh tb tl th dg ds) (fun v w => ∃ (yb1 : Bool) (yl1 : Int64) (yr1 : Int64) (yb2 : Bool) (yl2 : Int64) (yr2 : Int64) (yb3 : Bool) (yl3 : Int64) (yr3 : Int64) (yuz : Nat → Bool) (yul : Nat → Int64) (yuh : Nat → Int64) (yf1 : Int64) (yg1 : Int64) (yf2 : Int64) (yg2 : Int64) (nan : Nat → Nat) (fbn : Nat → Bool) (fln : Nat → Int64) (fhn : Nat → Int64) (tbn : Nat → Bool) (tln : Nat → Int64) (thn : Nat → Int64), v = some (.int 0) ∧ w = (wXo oa (vp_updL of 0 ((nI n).toInt64)) y ad h q (n + 1) (gPg (pst pa n nan) (n + 1)) (n + 1) yb1 yl1 yr1 yb2 yl2 yr2 yb3 yl3 yr3 yuz yul yuh yf1 yg1 yf2 yg2 (pst pa n nan) (pst kd n 6) (pst on n (nI k)) (pst ot n (nI k)) (pst pt n ((pt k ||| pt k) ||| jshl 1 (nI n))) (pst fb n fbn) (pst fl n fln) (pst fh n fhn) (pst tb n tbn) (pst tl n tln) (pst th n thn) (pst dg n 0) (pst ds n 0)) ∧ (∀ i9, i9 < 25 → (fbn i9, fln i9, fhn i9) = mkX fb fl fh 6 k k i9) ∧ (∀ i9, i9 < 25 → (tbn i9, tln i9, thn i9) = nwA fbn fln fhn (i9 + 1)))) 9 164 (va_A (wXo oa of y ad h q n (gPg pa n) n b1 l1 r1 b2 l2 r2 b3 l3 r3 uz ul uh f1 g1 f2 g2 pa kd on ot pt fb fl fh tb tl th dg ds) sz) := by
  refine gMet_ofWH (cc := cL_root) (maxL := 4) (ret := (some .int)) (hh := [(0, 9, 12, 20), (0, 9, 15, 15)]) (by decide) rfl ?_
  intro pg e s m args below meth c s₁ B hml hv
  obtain ⟨rfl, ⟨hsz, hP, hK, hD0, hE0⟩, hN⟩ := hv
  have hx := B.exec
  have hb := B.bytes
  have hr := B.returns
  have hts := atoms_spec (ws := wsL_root) B.pre
  have hown : s.vm.findClass RL = some m.cls := findClass_of_methodNamed B.named
  have htab : c.exceptionTable.toList = tableOf [(0, 9, 12, 20), (0, 9, 15, 15)] := vx_table (x := yL_root) B (hts _ List.mem_cons_self)
  have hlocks := B.notSynchronized
  subst hsz
  obtain ⟨A, hAe⟩ : ∃ A : Nat → Prop, A = va_A (wXo oa of y ad h q n (gPg pa n) n b1 l1 r1 b2 l2 r2 b3 l3 r3 uz ul uh f1 g1 f2 g2 pa kd on ot pt fb fl fh tb tl th dg ds) s.heap.size := ⟨_, rfl⟩
  have hE : gE ad A s s.heap := by rw [hAe]; exact hE0
  have hD : va_D A (wXo oa of y ad h q n (gPg pa n) n b1 l1 r1 b2 l2 r2 b3 l3 r3 uz ul uh f1 g1 f2 g2 pa kd on ot pt fb fl fh tb tl th dg ds) := by rw [hAe]; exact hD0.self (sz := s.heap.size)
  have hA : ∀ q : Nat, s.heap.size ≤ q → A q := fun q h => by rw [hAe]; exact Or.inr h
  have hS : va_S A s.heap s.heap [] := va_S.rf
  have hl := lv_entry ([.ref h, .int (nI k), .ref oa]) (n := 4) (Nat.le_of_ble_eq_true rfl)
  rw [lg_entry_eq]
  generalize (lg_sl ([.ref h, .int (nI k), .ref oa]) ++ List.replicate (4 - (lg_sl ([.ref h, .int (nI k), .ref oa])).length) Slot.unset).toArray = ls at hl ⊢
  have hl : lv_has ls 4 [(0, .ref h), (1, .int (nI k)), (2, .ref oa)] := hl
  refine lv_aload_n hx hb dL_root_0 rfl (lv_at hl 2 rfl) ?_
  refine lv_iconst (v := 0) hx hb dL_root_1 (by decide) ?_
  refine lv_aload_n hx hb dL_root_2 rfl (lv_at hl 0 rfl) ?_
  refine lv_iload_n hx hb dL_root_3 rfl (lv_at hl 1 rfl) ?_
  refine g_callN (ws := [(oa, .inl (y 1, 1, .inr (.inl of)))]) (wc := wXp y ad h q n b1 l1 r1 b2 l2 r2 b3 l3 r3 uz ul uh f1 g1 f2 g2 pa kd on ot pt fb fl fh tb tl th dg ds) (va_runV (As := [.int (nI k)]) (rest := [.int 0, .ref oa]) ⟨hx, hb, hml, hown, hts⟩ (c_X7_root_0 l hfl D y ad s.heap.size h q n b1 l1 r1 b2 l2 r2 b3 l3 r3 uz ul uh f1 g1 f2 g2 pa kd on ot pt fb fl fh tb tl th dg ds k hn4 hk) (cwV 1 hts gL_root_X7_root rfl rfl rfl (by decide +kernel) ⟨Nat.le_of_ble_eq_true rfl, Nat.le_of_ble_eq_true rfl⟩) (gPX_VA (va_P_r (ws := [(oa, .inl (y 1, 1, .inr (.inl of)))]) hP) (va_D_r (ws := [(oa, .inl (y 1, 1, .inr (.inl of)))]) hD) hK hE hS hA 0 rfl rfl) rfl rfl hl.1 rfl (lv_room (Nat.le_of_ble_eq_true rfl)) dL_root_4 ⟨Nat.le_of_ble_eq_true rfl, Nat.le_of_ble_eq_true rfl⟩) hP hD hS hA (fun v w1 H locs hf hP hD hS => ?_)
  obtain ⟨yb1_4, yl1_4, yr1_4, yb2_4, yl2_4, yr2_4, yb3_4, yl3_4, yr3_4, yuz_4, yul_4, yuh_4, yf1_4, yg1_4, yf2_4, yg2_4, nan_4, fbn_4, fln_4, fhn_4, tbn_4, tln_4, thn_4, rfl, rfl, h4_0, h4_1⟩ := hf
  have hP : va_P D vwCl (wXo oa of y ad h q (n + 1) (gPg (pst pa n nan_4) (n + 1)) (n + 1) yb1_4 yl1_4 yr1_4 yb2_4 yl2_4 yr2_4 yb3_4 yl3_4 yr3_4 yuz_4 yul_4 yuh_4 yf1_4 yg1_4 yf2_4 yg2_4 (pst pa n nan_4) (pst kd n 6) (pst on n (nI k)) (pst ot n (nI k)) (pst pt n ((pt k ||| pt k) ||| jshl 1 (nI n))) (pst fb n fbn_4) (pst fl n fln_4) (pst fh n fhn_4) (pst tb n tbn_4) (pst tl n tln_4) (pst th n thn_4) (pst dg n 0) (pst ds n 0)) H := hP
  have hD : va_D A (wXo oa of y ad h q (n + 1) (gPg (pst pa n nan_4) (n + 1)) (n + 1) yb1_4 yl1_4 yr1_4 yb2_4 yl2_4 yr2_4 yb3_4 yl3_4 yr3_4 yuz_4 yul_4 yuh_4 yf1_4 yg1_4 yf2_4 yg2_4 (pst pa n nan_4) (pst kd n 6) (pst on n (nI k)) (pst ot n (nI k)) (pst pt n ((pt k ||| pt k) ||| jshl 1 (nI n))) (pst fb n fbn_4) (pst fl n fln_4) (pst fh n fhn_4) (pst tb n tbn_4) (pst tl n tln_4) (pst th n thn_4) (pst dg n 0) (pst ds n 0)) := hD
  refine lv_i2l (v := (nI n).toInt64) hx hb dL_root_7 rfl ?_
  refine g_last (k := 0) (x := (nI n).toInt64) hx hb hK.1 hP hD hS 0 1 rfl rfl (by omega) (by decide) dL_root_8 (fun H locs hP hD hS => ?_)
  have hP : va_P D vwCl (wXo oa (vp_updL of 0 ((nI n).toInt64)) y ad h q (n + 1) (gPg (pst pa n nan_4) (n + 1)) (n + 1) yb1_4 yl1_4 yr1_4 yb2_4 yl2_4 yr2_4 yb3_4 yl3_4 yr3_4 yuz_4 yul_4 yuh_4 yf1_4 yg1_4 yf2_4 yg2_4 (pst pa n nan_4) (pst kd n 6) (pst on n (nI k)) (pst ot n (nI k)) (pst pt n ((pt k ||| pt k) ||| jshl 1 (nI n))) (pst fb n fbn_4) (pst fl n fln_4) (pst fh n fhn_4) (pst tb n tbn_4) (pst tl n tln_4) (pst th n thn_4) (pst dg n 0) (pst ds n 0)) H := hP
  have hD : va_D A (wXo oa (vp_updL of 0 ((nI n).toInt64)) y ad h q (n + 1) (gPg (pst pa n nan_4) (n + 1)) (n + 1) yb1_4 yl1_4 yr1_4 yb2_4 yl2_4 yr2_4 yb3_4 yl3_4 yr3_4 yuz_4 yul_4 yuh_4 yf1_4 yg1_4 yf2_4 yg2_4 (pst pa n nan_4) (pst kd n 6) (pst on n (nI k)) (pst ot n (nI k)) (pst pt n ((pt k ||| pt k) ||| jshl 1 (nI n))) (pst fb n fbn_4) (pst fl n fln_4) (pst fh n fhn_4) (pst tb n tbn_4) (pst tl n tln_4) (pst th n thn_4) (pst dg n 0) (pst ds n 0)) := hD
  refine lv_goto (tgt := 18) hx hb dL_root_9 (by decide) ?_
  refine lv_iconst (v := 0) hx hb dL_root_18 (by decide) ?_
  have hP9 := hP
  have hD9 := hD
  exact W.iret (v := 0) hx hb hr (fun t ht hW => ⟨⟨some (.int (0)), wXo oa (vp_updL of 0 ((nI n).toInt64)) y ad h q (n + 1) (gPg (pst pa n nan_4) (n + 1)) (n + 1) yb1_4 yl1_4 yr1_4 yb2_4 yl2_4 yr2_4 yb3_4 yl3_4 yr3_4 yuz_4 yul_4 yuh_4 yf1_4 yg1_4 yf2_4 yg2_4 (pst pa n nan_4) (pst kd n 6) (pst on n (nI k)) (pst ot n (nI k)) (pst pt n ((pt k ||| pt k) ||| jshl 1 (nI n))) (pst fb n fbn_4) (pst fl n fln_4) (pst fh n fhn_4) (pst tb n tbn_4) (pst tl n tln_4) (pst th n thn_4) (pst dg n 0) (pst ds n 0), rfl, ⟨yb1_4, yl1_4, yr1_4, yb2_4, yl2_4, yr2_4, yb3_4, yl3_4, yr3_4, yuz_4, yul_4, yuh_4, yf1_4, yg1_4, yf2_4, yg2_4, nan_4, fbn_4, fln_4, fhn_4, tbn_4, tln_4, thn_4, rfl, rfl, h4_0, h4_1⟩, by rw [← hAe]; exact hD9, by rw [ht]; exact hP9⟩, by rw [← hAe]; exact hS.F ht⟩) (by rw [← hAe]; exact hS.2.2) dL_root_19
set_option maxHeartbeats 4000000 in
set_option maxRecDepth 100000 in
theorem c_L_exp_X1a (l : Launch) (hfl : l.stackTraces = false) (D : va_G) (y : Nat → ClassId) (ad : Nat → Nat) (sz : Nat) (h : Nat) (q : Nat → Nat) (n : Nat) (b1 : Bool) (l1 r1 : Int64) (b2 : Bool) (l2 r2 : Int64) (b3 : Bool) (l3 r3 : Int64) (uz : Nat → Bool) (ul uh : Nat → Int64) (f1 g1 f2 g2 : Int64) (pa : Nat → Nat → Nat) (kd : Nat → Nat) (on ot : Nat → Int32) (pt : Nat → Int64) (fb : Nat → Nat → Bool) (fl fh : Nat → Nat → Int64) (tb : Nat → Nat → Bool) (tl th : Nat → Nat → Int64) (dg : Nat → Int32) (ds : Nat → Int64) (a : Int32) (oa : Nat) (of : Nat → Int64) (hbad : a < 0 ∨ nI n ≤ a) : Met l yL_exp wsL_exp ({ frames := 9, cells := 1, slots := 6, locals := 162 } : Room) (gPN D y ad [.ref h, .int a, .ref oa] (wXo oa of y ad h q n (gPg pa n) n b1 l1 r1 b2 l2 r2 b3 l3 r3 uz ul uh f1 g1 f2 g2 pa kd on ot pt fb fl fh tb tl th dg ds) sz) (gQn D (wXo oa of y ad h q n (gPg pa n) n b1 l1 r1 b2 l2 r2 b3 l3 r3 uz ul uh f1 g1 f2 g2 pa kd on ot pt fb fl fh tb tl th dg ds) (fun v w => v = some (.int 1) ∧ w = (wXo oa of y ad h q n (gPg pa n) n b1 l1 r1 b2 l2 r2 b3 l3 r3 uz ul uh f1 g1 f2 g2 pa kd on ot pt fb fl fh tb tl th dg ds))) 1 6 (va_A (wXo oa of y ad h q n (gPg pa n) n b1 l1 r1 b2 l2 r2 b3 l3 r3 uz ul uh f1 g1 f2 g2 pa kd on ot pt fb fl fh tb tl th dg ds) sz) := by
  refine gMet_ofWH (cc := cL_exp) (maxL := 4) (ret := (some .int)) (hh := [(0, 9, 12, 20), (0, 9, 15, 15)]) (by decide) rfl ?_
  intro pg e s m args below meth c s₁ B hml hv
  obtain ⟨rfl, ⟨hsz, hP, hK, hD0, hE0⟩, hN⟩ := hv
  have hx := B.exec
  have hb := B.bytes
  have hr := B.returns
  have hts := atoms_spec (ws := wsL_exp) B.pre
  have hown : s.vm.findClass RL = some m.cls := findClass_of_methodNamed B.named
  have htab : c.exceptionTable.toList = tableOf [(0, 9, 12, 20), (0, 9, 15, 15)] := vx_table (x := yL_exp) B (hts _ List.mem_cons_self)
  have hlocks := B.notSynchronized
  subst hsz
  obtain ⟨A, hAe⟩ : ∃ A : Nat → Prop, A = va_A (wXo oa of y ad h q n (gPg pa n) n b1 l1 r1 b2 l2 r2 b3 l3 r3 uz ul uh f1 g1 f2 g2 pa kd on ot pt fb fl fh tb tl th dg ds) s.heap.size := ⟨_, rfl⟩
  have hE : gE ad A s s.heap := by rw [hAe]; exact hE0
  have hD : va_D A (wXo oa of y ad h q n (gPg pa n) n b1 l1 r1 b2 l2 r2 b3 l3 r3 uz ul uh f1 g1 f2 g2 pa kd on ot pt fb fl fh tb tl th dg ds) := by rw [hAe]; exact hD0.self (sz := s.heap.size)
  have hA : ∀ q : Nat, s.heap.size ≤ q → A q := fun q h => by rw [hAe]; exact Or.inr h
  have hS : va_S A s.heap s.heap [] := va_S.rf
  have hl := lv_entry ([.ref h, .int a, .ref oa]) (n := 4) (Nat.le_of_ble_eq_true rfl)
  rw [lg_entry_eq]
  generalize (lg_sl ([.ref h, .int a, .ref oa]) ++ List.replicate (4 - (lg_sl ([.ref h, .int a, .ref oa])).length) Slot.unset).toArray = ls at hl ⊢
  have hl : lv_has ls 4 [(0, .ref h), (1, .int a), (2, .ref oa)] := hl
  refine lv_aload_n hx hb dL_exp_0 rfl (lv_at hl 2 rfl) ?_
  refine lv_iconst (v := 0) hx hb dL_exp_1 (by decide) ?_
  refine lv_aload_n hx hb dL_exp_2 rfl (lv_at hl 0 rfl) ?_
  refine lv_iload_n hx hb dL_exp_3 rfl (lv_at hl 1 rfl) ?_
  refine g_catch (name := gIOB) (ws := [(oa, .inl (y 1, 1, .inr (.inl of)))]) (vx_runV (As := [.int a]) (rest := [.int 0, .ref oa]) ⟨hx, hb, hml, hown, hts⟩ (c_X7_exp_X1a l hfl D y ad s.heap.size h q n b1 l1 r1 b2 l2 r2 b3 l3 r3 uz ul uh f1 g1 f2 g2 pa kd on ot pt fb fl fh tb tl th dg ds a hbad) (cwV 1 hts gL_exp_X7_exp rfl rfl rfl (by decide +kernel) ⟨Nat.le_of_ble_eq_true rfl, Nat.le_of_ble_eq_true rfl⟩) (gPX_VA (va_P_r (ws := [(oa, .inl (y 1, 1, .inr (.inl of)))]) hP) (va_D_r (ws := [(oa, .inl (y 1, 1, .inr (.inl of)))]) hD) hK hE hS hA 0 rfl rfl) rfl rfl hl.1 rfl (lv_room (Nat.le_of_ble_eq_true rfl)) dL_exp_4 ⟨Nat.le_of_ble_eq_true rfl, Nat.le_of_ble_eq_true rfl⟩) hP hD hS hA hown [] ⟨0, 9, 12, 20⟩ [⟨0, 9, 15, 15⟩] (by rw [htab]; rfl) (fun z hz => absurd hz List.not_mem_nil) (by decide) (by decide) (hts (.classLink RL 20 "java/lang/IndexOutOfBoundsException") (List.mem_of_getElem? (i := 1) rfl)) (hE.cw (Cond.castable gIOB gIOB) (List.mem_of_getElem? (i := 5) rfl)) (fun q9 w1 H locs hf hP hD hS => ?_)
  obtain rfl : w1 = wXp y ad h q n b1 l1 r1 b2 l2 r2 b3 l3 r3 uz ul uh f1 g1 f2 g2 pa kd on ot pt fb fl fh tb tl th dg ds := hf
  have hP : va_P D vwCl (wXo oa of y ad h q n (gPg pa n) n b1 l1 r1 b2 l2 r2 b3 l3 r3 uz ul uh f1 g1 f2 g2 pa kd on ot pt fb fl fh tb tl th dg ds) H := hP
  have hD : va_D A (wXo oa of y ad h q n (gPg pa n) n b1 l1 r1 b2 l2 r2 b3 l3 r3 uz ul uh f1 g1 f2 g2 pa kd on ot pt fb fl fh tb tl th dg ds) := hD
  refine lv_astore_n (lv' := [(3, .ref q9), (0, .ref h), (1, .int a), (2, .ref oa)]) hx hb dL_exp_12 rfl hl (by decide) rfl (fun ls hl => ?_)
  refine lv_iconst (v := 1) hx hb dL_exp_13 (by decide) ?_
  have hP9 := hP
  have hD9 := hD
  exact W.iret (v := 1) hx hb hr (fun t ht hW => ⟨⟨some (.int (1)), wXo oa of y ad h q n (gPg pa n) n b1 l1 r1 b2 l2 r2 b3 l3 r3 uz ul uh f1 g1 f2 g2 pa kd on ot pt fb fl fh tb tl th dg ds, rfl, ⟨rfl, rfl⟩, by rw [← hAe]; exact hD9, by rw [ht]; exact hP9⟩, by rw [← hAe]; exact hS.F ht⟩) (by rw [← hAe]; exact hS.2.2) dL_exp_14
set_option maxHeartbeats 4000000 in
set_option maxRecDepth 100000 in
theorem c_L_exp_X2 (l : Launch) (hfl : l.stackTraces = false) (D : va_G) (y : Nat → ClassId) (ad : Nat → Nat) (sz : Nat) (h : Nat) (q : Nat → Nat) (n : Nat) (b1 : Bool) (l1 r1 : Int64) (b2 : Bool) (l2 r2 : Int64) (b3 : Bool) (l3 r3 : Int64) (uz : Nat → Bool) (ul uh : Nat → Int64) (f1 g1 f2 g2 : Int64) (pa : Nat → Nat → Nat) (kd : Nat → Nat) (on ot : Nat → Int32) (pt : Nat → Int64) (fb : Nat → Nat → Bool) (fl fh : Nat → Nat → Int64) (tb : Nat → Nat → Bool) (tl th : Nat → Nat → Int64) (dg : Nat → Int32) (ds : Nat → Int64) (k : Nat) (oa : Nat) (of : Nat → Int64) (hn : n ≤ 40) (hk : k < n) (hn2 : ¬ n < 40) : Met l yL_exp wsL_exp ({ frames := 9, cells := 1, slots := 6, locals := 160 } : Room) (gPN D y ad [.ref h, .int (nI k), .ref oa] (wXo oa of y ad h q n (gPg pa n) n b1 l1 r1 b2 l2 r2 b3 l3 r3 uz ul uh f1 g1 f2 g2 pa kd on ot pt fb fl fh tb tl th dg ds) sz) (gQn D (wXo oa of y ad h q n (gPg pa n) n b1 l1 r1 b2 l2 r2 b3 l3 r3 uz ul uh f1 g1 f2 g2 pa kd on ot pt fb fl fh tb tl th dg ds) (fun v w => v = some (.int 2) ∧ w = (wXo oa of y ad h q n (gPg pa n) n b1 l1 r1 b2 l2 r2 b3 l3 r3 uz ul uh f1 g1 f2 g2 pa kd on ot pt fb fl fh tb tl th dg ds))) 1 6 (va_A (wXo oa of y ad h q n (gPg pa n) n b1 l1 r1 b2 l2 r2 b3 l3 r3 uz ul uh f1 g1 f2 g2 pa kd on ot pt fb fl fh tb tl th dg ds) sz) := by
  refine gMet_ofWH (cc := cL_exp) (maxL := 4) (ret := (some .int)) (hh := [(0, 9, 12, 20), (0, 9, 15, 15)]) (by decide) rfl ?_
  intro pg e s m args below meth c s₁ B hml hv
  obtain ⟨rfl, ⟨hsz, hP, hK, hD0, hE0⟩, hN⟩ := hv
  have hx := B.exec
  have hb := B.bytes
  have hr := B.returns
  have hts := atoms_spec (ws := wsL_exp) B.pre
  have hown : s.vm.findClass RL = some m.cls := findClass_of_methodNamed B.named
  have htab : c.exceptionTable.toList = tableOf [(0, 9, 12, 20), (0, 9, 15, 15)] := vx_table (x := yL_exp) B (hts _ List.mem_cons_self)
  have hlocks := B.notSynchronized
  subst hsz
  obtain ⟨A, hAe⟩ : ∃ A : Nat → Prop, A = va_A (wXo oa of y ad h q n (gPg pa n) n b1 l1 r1 b2 l2 r2 b3 l3 r3 uz ul uh f1 g1 f2 g2 pa kd on ot pt fb fl fh tb tl th dg ds) s.heap.size := ⟨_, rfl⟩
  have hE : gE ad A s s.heap := by rw [hAe]; exact hE0
  have hD : va_D A (wXo oa of y ad h q n (gPg pa n) n b1 l1 r1 b2 l2 r2 b3 l3 r3 uz ul uh f1 g1 f2 g2 pa kd on ot pt fb fl fh tb tl th dg ds) := by rw [hAe]; exact hD0.self (sz := s.heap.size)
  have hA : ∀ q : Nat, s.heap.size ≤ q → A q := fun q h => by rw [hAe]; exact Or.inr h
  have hS : va_S A s.heap s.heap [] := va_S.rf
  have hl := lv_entry ([.ref h, .int (nI k), .ref oa]) (n := 4) (Nat.le_of_ble_eq_true rfl)
  rw [lg_entry_eq]
  generalize (lg_sl ([.ref h, .int (nI k), .ref oa]) ++ List.replicate (4 - (lg_sl ([.ref h, .int (nI k), .ref oa])).length) Slot.unset).toArray = ls at hl ⊢
  have hl : lv_has ls 4 [(0, .ref h), (1, .int (nI k)), (2, .ref oa)] := hl
  refine lv_aload_n hx hb dL_exp_0 rfl (lv_at hl 2 rfl) ?_
  refine lv_iconst (v := 0) hx hb dL_exp_1 (by decide) ?_
  refine lv_aload_n hx hb dL_exp_2 rfl (lv_at hl 0 rfl) ?_
  refine lv_iload_n hx hb dL_exp_3 rfl (lv_at hl 1 rfl) ?_
  refine g_catch (name := gISE) (ws := [(oa, .inl (y 1, 1, .inr (.inl of)))]) (vx_runV (As := [.int (nI k)]) (rest := [.int 0, .ref oa]) ⟨hx, hb, hml, hown, hts⟩ (c_X7_exp_X2 l hfl D y ad s.heap.size h q n b1 l1 r1 b2 l2 r2 b3 l3 r3 uz ul uh f1 g1 f2 g2 pa kd on ot pt fb fl fh tb tl th dg ds k hn hk hn2) (cwV 1 hts gL_exp_X7_exp rfl rfl rfl (by decide +kernel) ⟨Nat.le_of_ble_eq_true rfl, Nat.le_of_ble_eq_true rfl⟩) (gPX_VA (va_P_r (ws := [(oa, .inl (y 1, 1, .inr (.inl of)))]) hP) (va_D_r (ws := [(oa, .inl (y 1, 1, .inr (.inl of)))]) hD) hK hE hS hA 0 rfl rfl) rfl rfl hl.1 rfl (lv_room (Nat.le_of_ble_eq_true rfl)) dL_exp_4 ⟨Nat.le_of_ble_eq_true rfl, Nat.le_of_ble_eq_true rfl⟩) hP hD hS hA hown [⟨0, 9, 12, 20⟩] ⟨0, 9, 15, 15⟩ [] (by rw [htab]; rfl) (fun z hz => by rcases List.mem_singleton.mp hz with rfl; exact Or.inr ⟨by decide, _, (hts (.classLink RL 20 "java/lang/IndexOutOfBoundsException") (List.mem_of_getElem? (i := 1) rfl)), hN.2.1⟩) (by decide) (by decide) (hts (.classLink RL 15 "java/lang/IllegalStateException") (List.mem_of_getElem? (i := 2) rfl)) (hE.cw (Cond.castable gISE gISE) (List.mem_of_getElem? (i := 4) rfl)) (fun q9 w1 H locs hf hP hD hS => ?_)
  obtain rfl : w1 = wXp y ad h q n b1 l1 r1 b2 l2 r2 b3 l3 r3 uz ul uh f1 g1 f2 g2 pa kd on ot pt fb fl fh tb tl th dg ds := hf
  have hP : va_P D vwCl (wXo oa of y ad h q n (gPg pa n) n b1 l1 r1 b2 l2 r2 b3 l3 r3 uz ul uh f1 g1 f2 g2 pa kd on ot pt fb fl fh tb tl th dg ds) H := hP
  have hD : va_D A (wXo oa of y ad h q n (gPg pa n) n b1 l1 r1 b2 l2 r2 b3 l3 r3 uz ul uh f1 g1 f2 g2 pa kd on ot pt fb fl fh tb tl th dg ds) := hD
  refine lv_astore_n (lv' := [(3, .ref q9), (0, .ref h), (1, .int (nI k)), (2, .ref oa)]) hx hb dL_exp_15 rfl hl (by decide) rfl (fun ls hl => ?_)
  refine lv_iconst (v := 2) hx hb dL_exp_16 (by decide) ?_
  have hP9 := hP
  have hD9 := hD
  exact W.iret (v := 2) hx hb hr (fun t ht hW => ⟨⟨some (.int (2)), wXo oa of y ad h q n (gPg pa n) n b1 l1 r1 b2 l2 r2 b3 l3 r3 uz ul uh f1 g1 f2 g2 pa kd on ot pt fb fl fh tb tl th dg ds, rfl, ⟨rfl, rfl⟩, by rw [← hAe]; exact hD9, by rw [ht]; exact hP9⟩, by rw [← hAe]; exact hS.F ht⟩) (by rw [← hAe]; exact hS.2.2) dL_exp_17
set_option maxHeartbeats 4000000 in
set_option maxRecDepth 100000 in
theorem c_L_exp_0 (l : Launch) (hfl : l.stackTraces = false) (D : va_G) (y : Nat → ClassId) (ad : Nat → Nat) (sz : Nat) (h : Nat) (q : Nat → Nat) (n : Nat) (b1 : Bool) (l1 r1 : Int64) (b2 : Bool) (l2 r2 : Int64) (b3 : Bool) (l3 r3 : Int64) (uz : Nat → Bool) (ul uh : Nat → Int64) (f1 g1 f2 g2 : Int64) (pa : Nat → Nat → Nat) (kd : Nat → Nat) (on ot : Nat → Int32) (pt : Nat → Int64) (fb : Nat → Nat → Bool) (fl fh : Nat → Nat → Int64) (tb : Nat → Nat → Bool) (tl th : Nat → Nat → Int64) (dg : Nat → Int32) (ds : Nat → Int64) (k : Nat) (oa : Nat) (of : Nat → Int64) (hn4 : n < 40) (hk : k < n) : Met l yL_exp wsL_exp ({ frames := 9, cells := 9, slots := 164, locals := 270 } : Room) (gPN D y ad [.ref h, .int (nI k), .ref oa] (wXo oa of y ad h q n (gPg pa n) n b1 l1 r1 b2 l2 r2 b3 l3 r3 uz ul uh f1 g1 f2 g2 pa kd on ot pt fb fl fh tb tl th dg ds) sz) (gQn D (wXo oa of y ad h q n (gPg pa n) n b1 l1 r1 b2 l2 r2 b3 l3 r3 uz ul uh f1 g1 f2 g2 pa kd on ot pt fb fl fh tb tl th dg ds) (fun v w => ∃ (yb1 : Bool) (yl1 : Int64) (yr1 : Int64) (yb2 : Bool) (yl2 : Int64) (yr2 : Int64) (yb3 : Bool) (yl3 : Int64) (yr3 : Int64) (yuz : Nat → Bool) (yul : Nat → Int64) (yuh : Nat → Int64) (yf1 : Int64) (yg1 : Int64) (yf2 : Int64) (yg2 : Int64) (nan : Nat → Nat) (fbn : Nat → Bool) (fln : Nat → Int64) (fhn : Nat → Int64) (tbn : Nat → Bool) (tln : Nat → Int64) (thn : Nat → Int64), v = some (.int 0) ∧ w = (wXo oa (vp_updL of 0 ((nI n).toInt64)) y ad h q (n + 1) (gPg (pst pa n nan) (n + 1)) (n + 1) yb1 yl1 yr1 yb2 yl2 yr2 yb3 yl3 yr3 yuz yul yuh yf1 yg1 yf2 yg2 (pst pa n nan) (pst kd n 7) (pst on n (nI k)) (pst ot n (nI k)) (pst pt n ((pt k ||| pt k) ||| jshl 1 (nI n))) (pst fb n fbn) (pst fl n fln) (pst fh n fhn) (pst tb n tbn) (pst tl n tln) (pst th n thn) (pst dg n 0) (pst ds n 0)) ∧ (∀ i9, i9 < 25 → (fbn i9, fln i9, fhn i9) = mkX fb fl fh 7 k k i9) ∧ (∀ i9, i9 < 25 → (tbn i9, tln i9, thn i9) = nwA fbn fln fhn (i9 + 1)))) 9 164 (va_A (wXo oa of y ad h q n (gPg pa n) n b1 l1 r1 b2 l2 r2 b3 l3 r3 uz ul uh f1 g1 f2 g2 pa kd on ot pt fb fl fh tb tl th dg ds) sz) := by
  refine gMet_ofWH (cc := cL_exp) (maxL := 4) (ret := (some .int)) (hh := [(0, 9, 12, 20), (0, 9, 15, 15)]) (by decide) rfl ?_
  intro pg e s m args below meth c s₁ B hml hv
  obtain ⟨rfl, ⟨hsz, hP, hK, hD0, hE0⟩, hN⟩ := hv
  have hx := B.exec
  have hb := B.bytes
  have hr := B.returns
  have hts := atoms_spec (ws := wsL_exp) B.pre
  have hown : s.vm.findClass RL = some m.cls := findClass_of_methodNamed B.named
  have htab : c.exceptionTable.toList = tableOf [(0, 9, 12, 20), (0, 9, 15, 15)] := vx_table (x := yL_exp) B (hts _ List.mem_cons_self)
  have hlocks := B.notSynchronized
  subst hsz
  obtain ⟨A, hAe⟩ : ∃ A : Nat → Prop, A = va_A (wXo oa of y ad h q n (gPg pa n) n b1 l1 r1 b2 l2 r2 b3 l3 r3 uz ul uh f1 g1 f2 g2 pa kd on ot pt fb fl fh tb tl th dg ds) s.heap.size := ⟨_, rfl⟩
  have hE : gE ad A s s.heap := by rw [hAe]; exact hE0
  have hD : va_D A (wXo oa of y ad h q n (gPg pa n) n b1 l1 r1 b2 l2 r2 b3 l3 r3 uz ul uh f1 g1 f2 g2 pa kd on ot pt fb fl fh tb tl th dg ds) := by rw [hAe]; exact hD0.self (sz := s.heap.size)
  have hA : ∀ q : Nat, s.heap.size ≤ q → A q := fun q h => by rw [hAe]; exact Or.inr h
  have hS : va_S A s.heap s.heap [] := va_S.rf
  have hl := lv_entry ([.ref h, .int (nI k), .ref oa]) (n := 4) (Nat.le_of_ble_eq_true rfl)
  rw [lg_entry_eq]
  generalize (lg_sl ([.ref h, .int (nI k), .ref oa]) ++ List.replicate (4 - (lg_sl ([.ref h, .int (nI k), .ref oa])).length) Slot.unset).toArray = ls at hl ⊢
  have hl : lv_has ls 4 [(0, .ref h), (1, .int (nI k)), (2, .ref oa)] := hl
  refine lv_aload_n hx hb dL_exp_0 rfl (lv_at hl 2 rfl) ?_
  refine lv_iconst (v := 0) hx hb dL_exp_1 (by decide) ?_
  refine lv_aload_n hx hb dL_exp_2 rfl (lv_at hl 0 rfl) ?_
  refine lv_iload_n hx hb dL_exp_3 rfl (lv_at hl 1 rfl) ?_
  refine g_callN (ws := [(oa, .inl (y 1, 1, .inr (.inl of)))]) (wc := wXp y ad h q n b1 l1 r1 b2 l2 r2 b3 l3 r3 uz ul uh f1 g1 f2 g2 pa kd on ot pt fb fl fh tb tl th dg ds) (va_runV (As := [.int (nI k)]) (rest := [.int 0, .ref oa]) ⟨hx, hb, hml, hown, hts⟩ (c_X7_exp_0 l hfl D y ad s.heap.size h q n b1 l1 r1 b2 l2 r2 b3 l3 r3 uz ul uh f1 g1 f2 g2 pa kd on ot pt fb fl fh tb tl th dg ds k hn4 hk) (cwV 1 hts gL_exp_X7_exp rfl rfl rfl (by decide +kernel) ⟨Nat.le_of_ble_eq_true rfl, Nat.le_of_ble_eq_true rfl⟩) (gPX_VA (va_P_r (ws := [(oa, .inl (y 1, 1, .inr (.inl of)))]) hP) (va_D_r (ws := [(oa, .inl (y 1, 1, .inr (.inl of)))]) hD) hK hE hS hA 0 rfl rfl) rfl rfl hl.1 rfl (lv_room (Nat.le_of_ble_eq_true rfl)) dL_exp_4 ⟨Nat.le_of_ble_eq_true rfl, Nat.le_of_ble_eq_true rfl⟩) hP hD hS hA (fun v w1 H locs hf hP hD hS => ?_)
  obtain ⟨yb1_4, yl1_4, yr1_4, yb2_4, yl2_4, yr2_4, yb3_4, yl3_4, yr3_4, yuz_4, yul_4, yuh_4, yf1_4, yg1_4, yf2_4, yg2_4, nan_4, fbn_4, fln_4, fhn_4, tbn_4, tln_4, thn_4, rfl, rfl, h4_0, h4_1⟩ := hf
  have hP : va_P D vwCl (wXo oa of y ad h q (n + 1) (gPg (pst pa n nan_4) (n + 1)) (n + 1) yb1_4 yl1_4 yr1_4 yb2_4 yl2_4 yr2_4 yb3_4 yl3_4 yr3_4 yuz_4 yul_4 yuh_4 yf1_4 yg1_4 yf2_4 yg2_4 (pst pa n nan_4) (pst kd n 7) (pst on n (nI k)) (pst ot n (nI k)) (pst pt n ((pt k ||| pt k) ||| jshl 1 (nI n))) (pst fb n fbn_4) (pst fl n fln_4) (pst fh n fhn_4) (pst tb n tbn_4) (pst tl n tln_4) (pst th n thn_4) (pst dg n 0) (pst ds n 0)) H := hP
  have hD : va_D A (wXo oa of y ad h q (n + 1) (gPg (pst pa n nan_4) (n + 1)) (n + 1) yb1_4 yl1_4 yr1_4 yb2_4 yl2_4 yr2_4 yb3_4 yl3_4 yr3_4 yuz_4 yul_4 yuh_4 yf1_4 yg1_4 yf2_4 yg2_4 (pst pa n nan_4) (pst kd n 7) (pst on n (nI k)) (pst ot n (nI k)) (pst pt n ((pt k ||| pt k) ||| jshl 1 (nI n))) (pst fb n fbn_4) (pst fl n fln_4) (pst fh n fhn_4) (pst tb n tbn_4) (pst tl n tln_4) (pst th n thn_4) (pst dg n 0) (pst ds n 0)) := hD
  refine lv_i2l (v := (nI n).toInt64) hx hb dL_exp_7 rfl ?_
  refine g_last (k := 0) (x := (nI n).toInt64) hx hb hK.1 hP hD hS 0 1 rfl rfl (by omega) (by decide) dL_exp_8 (fun H locs hP hD hS => ?_)
  have hP : va_P D vwCl (wXo oa (vp_updL of 0 ((nI n).toInt64)) y ad h q (n + 1) (gPg (pst pa n nan_4) (n + 1)) (n + 1) yb1_4 yl1_4 yr1_4 yb2_4 yl2_4 yr2_4 yb3_4 yl3_4 yr3_4 yuz_4 yul_4 yuh_4 yf1_4 yg1_4 yf2_4 yg2_4 (pst pa n nan_4) (pst kd n 7) (pst on n (nI k)) (pst ot n (nI k)) (pst pt n ((pt k ||| pt k) ||| jshl 1 (nI n))) (pst fb n fbn_4) (pst fl n fln_4) (pst fh n fhn_4) (pst tb n tbn_4) (pst tl n tln_4) (pst th n thn_4) (pst dg n 0) (pst ds n 0)) H := hP
  have hD : va_D A (wXo oa (vp_updL of 0 ((nI n).toInt64)) y ad h q (n + 1) (gPg (pst pa n nan_4) (n + 1)) (n + 1) yb1_4 yl1_4 yr1_4 yb2_4 yl2_4 yr2_4 yb3_4 yl3_4 yr3_4 yuz_4 yul_4 yuh_4 yf1_4 yg1_4 yf2_4 yg2_4 (pst pa n nan_4) (pst kd n 7) (pst on n (nI k)) (pst ot n (nI k)) (pst pt n ((pt k ||| pt k) ||| jshl 1 (nI n))) (pst fb n fbn_4) (pst fl n fln_4) (pst fh n fhn_4) (pst tb n tbn_4) (pst tl n tln_4) (pst th n thn_4) (pst dg n 0) (pst ds n 0)) := hD
  refine lv_goto (tgt := 18) hx hb dL_exp_9 (by decide) ?_
  refine lv_iconst (v := 0) hx hb dL_exp_18 (by decide) ?_
  have hP9 := hP
  have hD9 := hD
  exact W.iret (v := 0) hx hb hr (fun t ht hW => ⟨⟨some (.int (0)), wXo oa (vp_updL of 0 ((nI n).toInt64)) y ad h q (n + 1) (gPg (pst pa n nan_4) (n + 1)) (n + 1) yb1_4 yl1_4 yr1_4 yb2_4 yl2_4 yr2_4 yb3_4 yl3_4 yr3_4 yuz_4 yul_4 yuh_4 yf1_4 yg1_4 yf2_4 yg2_4 (pst pa n nan_4) (pst kd n 7) (pst on n (nI k)) (pst ot n (nI k)) (pst pt n ((pt k ||| pt k) ||| jshl 1 (nI n))) (pst fb n fbn_4) (pst fl n fln_4) (pst fh n fhn_4) (pst tb n tbn_4) (pst tl n tln_4) (pst th n thn_4) (pst dg n 0) (pst ds n 0), rfl, ⟨yb1_4, yl1_4, yr1_4, yb2_4, yl2_4, yr2_4, yb3_4, yl3_4, yr3_4, yuz_4, yul_4, yuh_4, yf1_4, yg1_4, yf2_4, yg2_4, nan_4, fbn_4, fln_4, fhn_4, tbn_4, tln_4, thn_4, rfl, rfl, h4_0, h4_1⟩, by rw [← hAe]; exact hD9, by rw [ht]; exact hP9⟩, by rw [← hAe]; exact hS.F ht⟩) (by rw [← hAe]; exact hS.2.2) dL_exp_19
set_option maxHeartbeats 4000000 in
set_option maxRecDepth 100000 in
theorem c_L_zero_X1a (l : Launch) (hfl : l.stackTraces = false) (D : va_G) (y : Nat → ClassId) (ad : Nat → Nat) (sz : Nat) (h : Nat) (q : Nat → Nat) (n : Nat) (b1 : Bool) (l1 r1 : Int64) (b2 : Bool) (l2 r2 : Int64) (b3 : Bool) (l3 r3 : Int64) (uz : Nat → Bool) (ul uh : Nat → Int64) (f1 g1 f2 g2 : Int64) (pa : Nat → Nat → Nat) (kd : Nat → Nat) (on ot : Nat → Int32) (pt : Nat → Int64) (fb : Nat → Nat → Bool) (fl fh : Nat → Nat → Int64) (tb : Nat → Nat → Bool) (tl th : Nat → Nat → Int64) (dg : Nat → Int32) (ds : Nat → Int64) (a b c0 d0 fr hv : Int32) (oa : Nat) (of : Nat → Int64)  (hbad : a < -9 ∨ ¬ a ≤ 9) : Met l yL_zero wsL_zero ({ frames := 8, cells := 1, slots := 6, locals := 145 } : Room) (gPN D y ad [.ref h, .int a, .int b, .int c0, .int d0, .int fr, .int hv, .ref oa] (wXo oa of y ad h q n (gPg pa n) n b1 l1 r1 b2 l2 r2 b3 l3 r3 uz ul uh f1 g1 f2 g2 pa kd on ot pt fb fl fh tb tl th dg ds) sz) (gQn D (wXo oa of y ad h q n (gPg pa n) n b1 l1 r1 b2 l2 r2 b3 l3 r3 uz ul uh f1 g1 f2 g2 pa kd on ot pt fb fl fh tb tl th dg ds) (fun v w => v = some (.int 1) ∧ w = (wXo oa of y ad h q n (gPg pa n) n b1 l1 r1 b2 l2 r2 b3 l3 r3 uz ul uh f1 g1 f2 g2 pa kd on ot pt fb fl fh tb tl th dg ds))) 1 6 (va_A (wXo oa of y ad h q n (gPg pa n) n b1 l1 r1 b2 l2 r2 b3 l3 r3 uz ul uh f1 g1 f2 g2 pa kd on ot pt fb fl fh tb tl th dg ds) sz) := by
  refine gMet_ofWH (cc := cL_zero) (maxL := 9) (ret := (some .int)) (hh := [(0, 18, 21, 13), (0, 18, 25, 15)]) (by decide) rfl ?_
  intro pg e s m args below meth c s₁ B hml hv
  obtain ⟨rfl, ⟨hsz, hP, hK, hD0, hE0⟩, hN⟩ := hv
  have hx := B.exec
  have hb := B.bytes
  have hr := B.returns
  have hts := atoms_spec (ws := wsL_zero) B.pre
  have hown : s.vm.findClass RL = some m.cls := findClass_of_methodNamed B.named
  have htab : c.exceptionTable.toList = tableOf [(0, 18, 21, 13), (0, 18, 25, 15)] := vx_table (x := yL_zero) B (hts _ List.mem_cons_self)
  have hlocks := B.notSynchronized
  subst hsz
  obtain ⟨A, hAe⟩ : ∃ A : Nat → Prop, A = va_A (wXo oa of y ad h q n (gPg pa n) n b1 l1 r1 b2 l2 r2 b3 l3 r3 uz ul uh f1 g1 f2 g2 pa kd on ot pt fb fl fh tb tl th dg ds) s.heap.size := ⟨_, rfl⟩
  have hE : gE ad A s s.heap := by rw [hAe]; exact hE0
  have hD : va_D A (wXo oa of y ad h q n (gPg pa n) n b1 l1 r1 b2 l2 r2 b3 l3 r3 uz ul uh f1 g1 f2 g2 pa kd on ot pt fb fl fh tb tl th dg ds) := by rw [hAe]; exact hD0.self (sz := s.heap.size)
  have hA : ∀ q : Nat, s.heap.size ≤ q → A q := fun q h => by rw [hAe]; exact Or.inr h
  have hS : va_S A s.heap s.heap [] := va_S.rf
  have hl := lv_entry ([.ref h, .int a, .int b, .int c0, .int d0, .int fr, .int hv, .ref oa]) (n := 9) (Nat.le_of_ble_eq_true rfl)
  rw [lg_entry_eq]
  generalize (lg_sl ([.ref h, .int a, .int b, .int c0, .int d0, .int fr, .int hv, .ref oa]) ++ List.replicate (9 - (lg_sl ([.ref h, .int a, .int b, .int c0, .int d0, .int fr, .int hv, .ref oa])).length) Slot.unset).toArray = ls at hl ⊢
  have hl : lv_has ls 9 [(0, .ref h), (1, .int a), (2, .int b), (3, .int c0), (4, .int d0), (5, .int fr), (6, .int hv), (7, .ref oa)] := hl
  refine lv_aload hx hb dL_zero_0 (lv_at hl 7 rfl) ?_
  refine lv_iconst (v := 0) hx hb dL_zero_2 (by decide) ?_
  refine lv_aload_n hx hb dL_zero_3 rfl (lv_at hl 0 rfl) ?_
  refine lv_iload_n hx hb dL_zero_4 rfl (lv_at hl 1 rfl) ?_
  refine lv_iload_n hx hb dL_zero_5 rfl (lv_at hl 2 rfl) ?_
  refine lv_iload_n hx hb dL_zero_6 rfl (lv_at hl 3 rfl) ?_
  refine lv_iload hx hb dL_zero_7 (lv_at hl 4 rfl) ?_
  refine lv_iload hx hb dL_zero_9 (lv_at hl 5 rfl) ?_
  refine lv_iload hx hb dL_zero_11 (lv_at hl 6 rfl) ?_
  refine g_catch (name := gIAE) (ws := [(oa, .inl (y 1, 1, .inr (.inl of)))]) (vx_runV (As := [.int a, .int b, .int c0, .int d0, .int fr, .int hv]) (rest := [.int 0, .ref oa]) ⟨hx, hb, hml, hown, hts⟩ (c_X7_zero_X1a l hfl D y ad s.heap.size h q n b1 l1 r1 b2 l2 r2 b3 l3 r3 uz ul uh f1 g1 f2 g2 pa kd on ot pt fb fl fh tb tl th dg ds a b c0 d0 fr hv hbad) (cwV 6 hts gL_zero_X7_zero rfl rfl rfl (by decide +kernel) ⟨Nat.le_of_ble_eq_true rfl, Nat.le_of_ble_eq_true rfl⟩) (gPX_VA (va_P_r (ws := [(oa, .inl (y 1, 1, .inr (.inl of)))]) hP) (va_D_r (ws := [(oa, .inl (y 1, 1, .inr (.inl of)))]) hD) hK hE hS hA 0 rfl rfl) rfl rfl hl.1 rfl (lv_room (Nat.le_of_ble_eq_true rfl)) dL_zero_13 ⟨Nat.le_of_ble_eq_true rfl, Nat.le_of_ble_eq_true rfl⟩) hP hD hS hA hown [] ⟨0, 18, 21, 13⟩ [⟨0, 18, 25, 15⟩] (by rw [htab]; rfl) (fun z hz => absurd hz List.not_mem_nil) (by decide) (by decide) (hts (.classLink RL 13 "java/lang/IllegalArgumentException") (List.mem_of_getElem? (i := 1) rfl)) (hE.cw (Cond.castable gIAE gIAE) (List.mem_of_getElem? (i := 3) rfl)) (fun q9 w1 H locs hf hP hD hS => ?_)
  obtain rfl : w1 = wXp y ad h q n b1 l1 r1 b2 l2 r2 b3 l3 r3 uz ul uh f1 g1 f2 g2 pa kd on ot pt fb fl fh tb tl th dg ds := hf
  have hP : va_P D vwCl (wXo oa of y ad h q n (gPg pa n) n b1 l1 r1 b2 l2 r2 b3 l3 r3 uz ul uh f1 g1 f2 g2 pa kd on ot pt fb fl fh tb tl th dg ds) H := hP
  have hD : va_D A (wXo oa of y ad h q n (gPg pa n) n b1 l1 r1 b2 l2 r2 b3 l3 r3 uz ul uh f1 g1 f2 g2 pa kd on ot pt fb fl fh tb tl th dg ds) := hD
  refine lv_astore (lv' := [(8, .ref q9), (0, .ref h), (1, .int a), (2, .int b), (3, .int c0), (4, .int d0), (5, .int fr), (6, .int hv), (7, .ref oa)]) hx hb dL_zero_21 hl (by decide) rfl (fun ls hl => ?_)
  refine lv_iconst (v := 1) hx hb dL_zero_23 (by decide) ?_
  have hP9 := hP
  have hD9 := hD
  exact W.iret (v := 1) hx hb hr (fun t ht hW => ⟨⟨some (.int (1)), wXo oa of y ad h q n (gPg pa n) n b1 l1 r1 b2 l2 r2 b3 l3 r3 uz ul uh f1 g1 f2 g2 pa kd on ot pt fb fl fh tb tl th dg ds, rfl, ⟨rfl, rfl⟩, by rw [← hAe]; exact hD9, by rw [ht]; exact hP9⟩, by rw [← hAe]; exact hS.F ht⟩) (by rw [← hAe]; exact hS.2.2) dL_zero_24
set_option maxHeartbeats 4000000 in
set_option maxRecDepth 100000 in
theorem c_L_zero_X1b (l : Launch) (hfl : l.stackTraces = false) (D : va_G) (y : Nat → ClassId) (ad : Nat → Nat) (sz : Nat) (h : Nat) (q : Nat → Nat) (n : Nat) (b1 : Bool) (l1 r1 : Int64) (b2 : Bool) (l2 r2 : Int64) (b3 : Bool) (l3 r3 : Int64) (uz : Nat → Bool) (ul uh : Nat → Int64) (f1 g1 f2 g2 : Int64) (pa : Nat → Nat → Nat) (kd : Nat → Nat) (on ot : Nat → Int32) (pt : Nat → Int64) (fb : Nat → Nat → Bool) (fl fh : Nat → Nat → Int64) (tb : Nat → Nat → Bool) (tl th : Nat → Nat → Int64) (dg : Nat → Int32) (ds : Nat → Int64) (a b c0 d0 fr hv : Int32) (oa : Nat) (of : Nat → Int64)  (h1a : ¬ a < -9) (h2a : a ≤ 9) (hbad : b < -9 ∨ ¬ b ≤ 9) : Met l yL_zero wsL_zero ({ frames := 8, cells := 1, slots := 6, locals := 145 } : Room) (gPN D y ad [.ref h, .int a, .int b, .int c0, .int d0, .int fr, .int hv, .ref oa] (wXo oa of y ad h q n (gPg pa n) n b1 l1 r1 b2 l2 r2 b3 l3 r3 uz ul uh f1 g1 f2 g2 pa kd on ot pt fb fl fh tb tl th dg ds) sz) (gQn D (wXo oa of y ad h q n (gPg pa n) n b1 l1 r1 b2 l2 r2 b3 l3 r3 uz ul uh f1 g1 f2 g2 pa kd on ot pt fb fl fh tb tl th dg ds) (fun v w => v = some (.int 1) ∧ w = (wXo oa of y ad h q n (gPg pa n) n b1 l1 r1 b2 l2 r2 b3 l3 r3 uz ul uh f1 g1 f2 g2 pa kd on ot pt fb fl fh tb tl th dg ds))) 1 6 (va_A (wXo oa of y ad h q n (gPg pa n) n b1 l1 r1 b2 l2 r2 b3 l3 r3 uz ul uh f1 g1 f2 g2 pa kd on ot pt fb fl fh tb tl th dg ds) sz) := by
  refine gMet_ofWH (cc := cL_zero) (maxL := 9) (ret := (some .int)) (hh := [(0, 18, 21, 13), (0, 18, 25, 15)]) (by decide) rfl ?_
  intro pg e s m args below meth c s₁ B hml hv
  obtain ⟨rfl, ⟨hsz, hP, hK, hD0, hE0⟩, hN⟩ := hv
  have hx := B.exec
  have hb := B.bytes
  have hr := B.returns
  have hts := atoms_spec (ws := wsL_zero) B.pre
  have hown : s.vm.findClass RL = some m.cls := findClass_of_methodNamed B.named
  have htab : c.exceptionTable.toList = tableOf [(0, 18, 21, 13), (0, 18, 25, 15)] := vx_table (x := yL_zero) B (hts _ List.mem_cons_self)
  have hlocks := B.notSynchronized
  subst hsz
  obtain ⟨A, hAe⟩ : ∃ A : Nat → Prop, A = va_A (wXo oa of y ad h q n (gPg pa n) n b1 l1 r1 b2 l2 r2 b3 l3 r3 uz ul uh f1 g1 f2 g2 pa kd on ot pt fb fl fh tb tl th dg ds) s.heap.size := ⟨_, rfl⟩
  have hE : gE ad A s s.heap := by rw [hAe]; exact hE0
  have hD : va_D A (wXo oa of y ad h q n (gPg pa n) n b1 l1 r1 b2 l2 r2 b3 l3 r3 uz ul uh f1 g1 f2 g2 pa kd on ot pt fb fl fh tb tl th dg ds) := by rw [hAe]; exact hD0.self (sz := s.heap.size)
  have hA : ∀ q : Nat, s.heap.size ≤ q → A q := fun q h => by rw [hAe]; exact Or.inr h
  have hS : va_S A s.heap s.heap [] := va_S.rf
  have hl := lv_entry ([.ref h, .int a, .int b, .int c0, .int d0, .int fr, .int hv, .ref oa]) (n := 9) (Nat.le_of_ble_eq_true rfl)
  rw [lg_entry_eq]
  generalize (lg_sl ([.ref h, .int a, .int b, .int c0, .int d0, .int fr, .int hv, .ref oa]) ++ List.replicate (9 - (lg_sl ([.ref h, .int a, .int b, .int c0, .int d0, .int fr, .int hv, .ref oa])).length) Slot.unset).toArray = ls at hl ⊢
  have hl : lv_has ls 9 [(0, .ref h), (1, .int a), (2, .int b), (3, .int c0), (4, .int d0), (5, .int fr), (6, .int hv), (7, .ref oa)] := hl
  refine lv_aload hx hb dL_zero_0 (lv_at hl 7 rfl) ?_
  refine lv_iconst (v := 0) hx hb dL_zero_2 (by decide) ?_
  refine lv_aload_n hx hb dL_zero_3 rfl (lv_at hl 0 rfl) ?_
  refine lv_iload_n hx hb dL_zero_4 rfl (lv_at hl 1 rfl) ?_
  refine lv_iload_n hx hb dL_zero_5 rfl (lv_at hl 2 rfl) ?_
  refine lv_iload_n hx hb dL_zero_6 rfl (lv_at hl 3 rfl) ?_
  refine lv_iload hx hb dL_zero_7 (lv_at hl 4 rfl) ?_
  refine lv_iload hx hb dL_zero_9 (lv_at hl 5 rfl) ?_
  refine lv_iload hx hb dL_zero_11 (lv_at hl 6 rfl) ?_
  refine g_catch (name := gIAE) (ws := [(oa, .inl (y 1, 1, .inr (.inl of)))]) (vx_runV (As := [.int a, .int b, .int c0, .int d0, .int fr, .int hv]) (rest := [.int 0, .ref oa]) ⟨hx, hb, hml, hown, hts⟩ (c_X7_zero_X1b l hfl D y ad s.heap.size h q n b1 l1 r1 b2 l2 r2 b3 l3 r3 uz ul uh f1 g1 f2 g2 pa kd on ot pt fb fl fh tb tl th dg ds a b c0 d0 fr hv h1a h2a hbad) (cwV 6 hts gL_zero_X7_zero rfl rfl rfl (by decide +kernel) ⟨Nat.le_of_ble_eq_true rfl, Nat.le_of_ble_eq_true rfl⟩) (gPX_VA (va_P_r (ws := [(oa, .inl (y 1, 1, .inr (.inl of)))]) hP) (va_D_r (ws := [(oa, .inl (y 1, 1, .inr (.inl of)))]) hD) hK hE hS hA 0 rfl rfl) rfl rfl hl.1 rfl (lv_room (Nat.le_of_ble_eq_true rfl)) dL_zero_13 ⟨Nat.le_of_ble_eq_true rfl, Nat.le_of_ble_eq_true rfl⟩) hP hD hS hA hown [] ⟨0, 18, 21, 13⟩ [⟨0, 18, 25, 15⟩] (by rw [htab]; rfl) (fun z hz => absurd hz List.not_mem_nil) (by decide) (by decide) (hts (.classLink RL 13 "java/lang/IllegalArgumentException") (List.mem_of_getElem? (i := 1) rfl)) (hE.cw (Cond.castable gIAE gIAE) (List.mem_of_getElem? (i := 3) rfl)) (fun q9 w1 H locs hf hP hD hS => ?_)
  obtain rfl : w1 = wXp y ad h q n b1 l1 r1 b2 l2 r2 b3 l3 r3 uz ul uh f1 g1 f2 g2 pa kd on ot pt fb fl fh tb tl th dg ds := hf
  have hP : va_P D vwCl (wXo oa of y ad h q n (gPg pa n) n b1 l1 r1 b2 l2 r2 b3 l3 r3 uz ul uh f1 g1 f2 g2 pa kd on ot pt fb fl fh tb tl th dg ds) H := hP
  have hD : va_D A (wXo oa of y ad h q n (gPg pa n) n b1 l1 r1 b2 l2 r2 b3 l3 r3 uz ul uh f1 g1 f2 g2 pa kd on ot pt fb fl fh tb tl th dg ds) := hD
  refine lv_astore (lv' := [(8, .ref q9), (0, .ref h), (1, .int a), (2, .int b), (3, .int c0), (4, .int d0), (5, .int fr), (6, .int hv), (7, .ref oa)]) hx hb dL_zero_21 hl (by decide) rfl (fun ls hl => ?_)
  refine lv_iconst (v := 1) hx hb dL_zero_23 (by decide) ?_
  have hP9 := hP
  have hD9 := hD
  exact W.iret (v := 1) hx hb hr (fun t ht hW => ⟨⟨some (.int (1)), wXo oa of y ad h q n (gPg pa n) n b1 l1 r1 b2 l2 r2 b3 l3 r3 uz ul uh f1 g1 f2 g2 pa kd on ot pt fb fl fh tb tl th dg ds, rfl, ⟨rfl, rfl⟩, by rw [← hAe]; exact hD9, by rw [ht]; exact hP9⟩, by rw [← hAe]; exact hS.F ht⟩) (by rw [← hAe]; exact hS.2.2) dL_zero_24
set_option maxHeartbeats 4000000 in
set_option maxRecDepth 100000 in
theorem c_L_zero_X1c0 (l : Launch) (hfl : l.stackTraces = false) (D : va_G) (y : Nat → ClassId) (ad : Nat → Nat) (sz : Nat) (h : Nat) (q : Nat → Nat) (n : Nat) (b1 : Bool) (l1 r1 : Int64) (b2 : Bool) (l2 r2 : Int64) (b3 : Bool) (l3 r3 : Int64) (uz : Nat → Bool) (ul uh : Nat → Int64) (f1 g1 f2 g2 : Int64) (pa : Nat → Nat → Nat) (kd : Nat → Nat) (on ot : Nat → Int32) (pt : Nat → Int64) (fb : Nat → Nat → Bool) (fl fh : Nat → Nat → Int64) (tb : Nat → Nat → Bool) (tl th : Nat → Nat → Int64) (dg : Nat → Int32) (ds : Nat → Int64) (a b c0 d0 fr hv : Int32) (oa : Nat) (of : Nat → Int64)  (h1a : ¬ a < -9) (h2a : a ≤ 9) (h1b : ¬ b < -9) (h2b : b ≤ 9) (hbad : c0 < -9 ∨ ¬ c0 ≤ 9) : Met l yL_zero wsL_zero ({ frames := 8, cells := 1, slots := 6, locals := 145 } : Room) (gPN D y ad [.ref h, .int a, .int b, .int c0, .int d0, .int fr, .int hv, .ref oa] (wXo oa of y ad h q n (gPg pa n) n b1 l1 r1 b2 l2 r2 b3 l3 r3 uz ul uh f1 g1 f2 g2 pa kd on ot pt fb fl fh tb tl th dg ds) sz) (gQn D (wXo oa of y ad h q n (gPg pa n) n b1 l1 r1 b2 l2 r2 b3 l3 r3 uz ul uh f1 g1 f2 g2 pa kd on ot pt fb fl fh tb tl th dg ds) (fun v w => v = some (.int 1) ∧ w = (wXo oa of y ad h q n (gPg pa n) n b1 l1 r1 b2 l2 r2 b3 l3 r3 uz ul uh f1 g1 f2 g2 pa kd on ot pt fb fl fh tb tl th dg ds))) 1 6 (va_A (wXo oa of y ad h q n (gPg pa n) n b1 l1 r1 b2 l2 r2 b3 l3 r3 uz ul uh f1 g1 f2 g2 pa kd on ot pt fb fl fh tb tl th dg ds) sz) := by
  refine gMet_ofWH (cc := cL_zero) (maxL := 9) (ret := (some .int)) (hh := [(0, 18, 21, 13), (0, 18, 25, 15)]) (by decide) rfl ?_
  intro pg e s m args below meth c s₁ B hml hv
  obtain ⟨rfl, ⟨hsz, hP, hK, hD0, hE0⟩, hN⟩ := hv
  have hx := B.exec
  have hb := B.bytes
  have hr := B.returns
  have hts := atoms_spec (ws := wsL_zero) B.pre
  have hown : s.vm.findClass RL = some m.cls := findClass_of_methodNamed B.named
  have htab : c.exceptionTable.toList = tableOf [(0, 18, 21, 13), (0, 18, 25, 15)] := vx_table (x := yL_zero) B (hts _ List.mem_cons_self)
  have hlocks := B.notSynchronized
  subst hsz
  obtain ⟨A, hAe⟩ : ∃ A : Nat → Prop, A = va_A (wXo oa of y ad h q n (gPg pa n) n b1 l1 r1 b2 l2 r2 b3 l3 r3 uz ul uh f1 g1 f2 g2 pa kd on ot pt fb fl fh tb tl th dg ds) s.heap.size := ⟨_, rfl⟩
  have hE : gE ad A s s.heap := by rw [hAe]; exact hE0
  have hD : va_D A (wXo oa of y ad h q n (gPg pa n) n b1 l1 r1 b2 l2 r2 b3 l3 r3 uz ul uh f1 g1 f2 g2 pa kd on ot pt fb fl fh tb tl th dg ds) := by rw [hAe]; exact hD0.self (sz := s.heap.size)
  have hA : ∀ q : Nat, s.heap.size ≤ q → A q := fun q h => by rw [hAe]; exact Or.inr h
  have hS : va_S A s.heap s.heap [] := va_S.rf
  have hl := lv_entry ([.ref h, .int a, .int b, .int c0, .int d0, .int fr, .int hv, .ref oa]) (n := 9) (Nat.le_of_ble_eq_true rfl)
  rw [lg_entry_eq]
  generalize (lg_sl ([.ref h, .int a, .int b, .int c0, .int d0, .int fr, .int hv, .ref oa]) ++ List.replicate (9 - (lg_sl ([.ref h, .int a, .int b, .int c0, .int d0, .int fr, .int hv, .ref oa])).length) Slot.unset).toArray = ls at hl ⊢
  have hl : lv_has ls 9 [(0, .ref h), (1, .int a), (2, .int b), (3, .int c0), (4, .int d0), (5, .int fr), (6, .int hv), (7, .ref oa)] := hl
  refine lv_aload hx hb dL_zero_0 (lv_at hl 7 rfl) ?_
  refine lv_iconst (v := 0) hx hb dL_zero_2 (by decide) ?_
  refine lv_aload_n hx hb dL_zero_3 rfl (lv_at hl 0 rfl) ?_
  refine lv_iload_n hx hb dL_zero_4 rfl (lv_at hl 1 rfl) ?_
  refine lv_iload_n hx hb dL_zero_5 rfl (lv_at hl 2 rfl) ?_
  refine lv_iload_n hx hb dL_zero_6 rfl (lv_at hl 3 rfl) ?_
  refine lv_iload hx hb dL_zero_7 (lv_at hl 4 rfl) ?_
  refine lv_iload hx hb dL_zero_9 (lv_at hl 5 rfl) ?_
  refine lv_iload hx hb dL_zero_11 (lv_at hl 6 rfl) ?_
  refine g_catch (name := gIAE) (ws := [(oa, .inl (y 1, 1, .inr (.inl of)))]) (vx_runV (As := [.int a, .int b, .int c0, .int d0, .int fr, .int hv]) (rest := [.int 0, .ref oa]) ⟨hx, hb, hml, hown, hts⟩ (c_X7_zero_X1c0 l hfl D y ad s.heap.size h q n b1 l1 r1 b2 l2 r2 b3 l3 r3 uz ul uh f1 g1 f2 g2 pa kd on ot pt fb fl fh tb tl th dg ds a b c0 d0 fr hv h1a h2a h1b h2b hbad) (cwV 6 hts gL_zero_X7_zero rfl rfl rfl (by decide +kernel) ⟨Nat.le_of_ble_eq_true rfl, Nat.le_of_ble_eq_true rfl⟩) (gPX_VA (va_P_r (ws := [(oa, .inl (y 1, 1, .inr (.inl of)))]) hP) (va_D_r (ws := [(oa, .inl (y 1, 1, .inr (.inl of)))]) hD) hK hE hS hA 0 rfl rfl) rfl rfl hl.1 rfl (lv_room (Nat.le_of_ble_eq_true rfl)) dL_zero_13 ⟨Nat.le_of_ble_eq_true rfl, Nat.le_of_ble_eq_true rfl⟩) hP hD hS hA hown [] ⟨0, 18, 21, 13⟩ [⟨0, 18, 25, 15⟩] (by rw [htab]; rfl) (fun z hz => absurd hz List.not_mem_nil) (by decide) (by decide) (hts (.classLink RL 13 "java/lang/IllegalArgumentException") (List.mem_of_getElem? (i := 1) rfl)) (hE.cw (Cond.castable gIAE gIAE) (List.mem_of_getElem? (i := 3) rfl)) (fun q9 w1 H locs hf hP hD hS => ?_)
  obtain rfl : w1 = wXp y ad h q n b1 l1 r1 b2 l2 r2 b3 l3 r3 uz ul uh f1 g1 f2 g2 pa kd on ot pt fb fl fh tb tl th dg ds := hf
  have hP : va_P D vwCl (wXo oa of y ad h q n (gPg pa n) n b1 l1 r1 b2 l2 r2 b3 l3 r3 uz ul uh f1 g1 f2 g2 pa kd on ot pt fb fl fh tb tl th dg ds) H := hP
  have hD : va_D A (wXo oa of y ad h q n (gPg pa n) n b1 l1 r1 b2 l2 r2 b3 l3 r3 uz ul uh f1 g1 f2 g2 pa kd on ot pt fb fl fh tb tl th dg ds) := hD
  refine lv_astore (lv' := [(8, .ref q9), (0, .ref h), (1, .int a), (2, .int b), (3, .int c0), (4, .int d0), (5, .int fr), (6, .int hv), (7, .ref oa)]) hx hb dL_zero_21 hl (by decide) rfl (fun ls hl => ?_)
  refine lv_iconst (v := 1) hx hb dL_zero_23 (by decide) ?_
  have hP9 := hP
  have hD9 := hD
  exact W.iret (v := 1) hx hb hr (fun t ht hW => ⟨⟨some (.int (1)), wXo oa of y ad h q n (gPg pa n) n b1 l1 r1 b2 l2 r2 b3 l3 r3 uz ul uh f1 g1 f2 g2 pa kd on ot pt fb fl fh tb tl th dg ds, rfl, ⟨rfl, rfl⟩, by rw [← hAe]; exact hD9, by rw [ht]; exact hP9⟩, by rw [← hAe]; exact hS.F ht⟩) (by rw [← hAe]; exact hS.2.2) dL_zero_24
set_option maxHeartbeats 4000000 in
set_option maxRecDepth 100000 in
theorem c_L_zero_X1d0 (l : Launch) (hfl : l.stackTraces = false) (D : va_G) (y : Nat → ClassId) (ad : Nat → Nat) (sz : Nat) (h : Nat) (q : Nat → Nat) (n : Nat) (b1 : Bool) (l1 r1 : Int64) (b2 : Bool) (l2 r2 : Int64) (b3 : Bool) (l3 r3 : Int64) (uz : Nat → Bool) (ul uh : Nat → Int64) (f1 g1 f2 g2 : Int64) (pa : Nat → Nat → Nat) (kd : Nat → Nat) (on ot : Nat → Int32) (pt : Nat → Int64) (fb : Nat → Nat → Bool) (fl fh : Nat → Nat → Int64) (tb : Nat → Nat → Bool) (tl th : Nat → Nat → Int64) (dg : Nat → Int32) (ds : Nat → Int64) (a b c0 d0 fr hv : Int32) (oa : Nat) (of : Nat → Int64)  (h1a : ¬ a < -9) (h2a : a ≤ 9) (h1b : ¬ b < -9) (h2b : b ≤ 9) (h1c0 : ¬ c0 < -9) (h2c0 : c0 ≤ 9) (hbad : d0 < -9 ∨ ¬ d0 ≤ 9) : Met l yL_zero wsL_zero ({ frames := 8, cells := 1, slots := 6, locals := 145 } : Room) (gPN D y ad [.ref h, .int a, .int b, .int c0, .int d0, .int fr, .int hv, .ref oa] (wXo oa of y ad h q n (gPg pa n) n b1 l1 r1 b2 l2 r2 b3 l3 r3 uz ul uh f1 g1 f2 g2 pa kd on ot pt fb fl fh tb tl th dg ds) sz) (gQn D (wXo oa of y ad h q n (gPg pa n) n b1 l1 r1 b2 l2 r2 b3 l3 r3 uz ul uh f1 g1 f2 g2 pa kd on ot pt fb fl fh tb tl th dg ds) (fun v w => v = some (.int 1) ∧ w = (wXo oa of y ad h q n (gPg pa n) n b1 l1 r1 b2 l2 r2 b3 l3 r3 uz ul uh f1 g1 f2 g2 pa kd on ot pt fb fl fh tb tl th dg ds))) 1 6 (va_A (wXo oa of y ad h q n (gPg pa n) n b1 l1 r1 b2 l2 r2 b3 l3 r3 uz ul uh f1 g1 f2 g2 pa kd on ot pt fb fl fh tb tl th dg ds) sz) := by
  refine gMet_ofWH (cc := cL_zero) (maxL := 9) (ret := (some .int)) (hh := [(0, 18, 21, 13), (0, 18, 25, 15)]) (by decide) rfl ?_
  intro pg e s m args below meth c s₁ B hml hv
  obtain ⟨rfl, ⟨hsz, hP, hK, hD0, hE0⟩, hN⟩ := hv
  have hx := B.exec
  have hb := B.bytes
  have hr := B.returns
  have hts := atoms_spec (ws := wsL_zero) B.pre
  have hown : s.vm.findClass RL = some m.cls := findClass_of_methodNamed B.named
  have htab : c.exceptionTable.toList = tableOf [(0, 18, 21, 13), (0, 18, 25, 15)] := vx_table (x := yL_zero) B (hts _ List.mem_cons_self)
  have hlocks := B.notSynchronized
  subst hsz
  obtain ⟨A, hAe⟩ : ∃ A : Nat → Prop, A = va_A (wXo oa of y ad h q n (gPg pa n) n b1 l1 r1 b2 l2 r2 b3 l3 r3 uz ul uh f1 g1 f2 g2 pa kd on ot pt fb fl fh tb tl th dg ds) s.heap.size := ⟨_, rfl⟩
  have hE : gE ad A s s.heap := by rw [hAe]; exact hE0
  have hD : va_D A (wXo oa of y ad h q n (gPg pa n) n b1 l1 r1 b2 l2 r2 b3 l3 r3 uz ul uh f1 g1 f2 g2 pa kd on ot pt fb fl fh tb tl th dg ds) := by rw [hAe]; exact hD0.self (sz := s.heap.size)
  have hA : ∀ q : Nat, s.heap.size ≤ q → A q := fun q h => by rw [hAe]; exact Or.inr h
  have hS : va_S A s.heap s.heap [] := va_S.rf
  have hl := lv_entry ([.ref h, .int a, .int b, .int c0, .int d0, .int fr, .int hv, .ref oa]) (n := 9) (Nat.le_of_ble_eq_true rfl)
  rw [lg_entry_eq]
  generalize (lg_sl ([.ref h, .int a, .int b, .int c0, .int d0, .int fr, .int hv, .ref oa]) ++ List.replicate (9 - (lg_sl ([.ref h, .int a, .int b, .int c0, .int d0, .int fr, .int hv, .ref oa])).length) Slot.unset).toArray = ls at hl ⊢
  have hl : lv_has ls 9 [(0, .ref h), (1, .int a), (2, .int b), (3, .int c0), (4, .int d0), (5, .int fr), (6, .int hv), (7, .ref oa)] := hl
  refine lv_aload hx hb dL_zero_0 (lv_at hl 7 rfl) ?_
  refine lv_iconst (v := 0) hx hb dL_zero_2 (by decide) ?_
  refine lv_aload_n hx hb dL_zero_3 rfl (lv_at hl 0 rfl) ?_
  refine lv_iload_n hx hb dL_zero_4 rfl (lv_at hl 1 rfl) ?_
  refine lv_iload_n hx hb dL_zero_5 rfl (lv_at hl 2 rfl) ?_
  refine lv_iload_n hx hb dL_zero_6 rfl (lv_at hl 3 rfl) ?_
  refine lv_iload hx hb dL_zero_7 (lv_at hl 4 rfl) ?_
  refine lv_iload hx hb dL_zero_9 (lv_at hl 5 rfl) ?_
  refine lv_iload hx hb dL_zero_11 (lv_at hl 6 rfl) ?_
  refine g_catch (name := gIAE) (ws := [(oa, .inl (y 1, 1, .inr (.inl of)))]) (vx_runV (As := [.int a, .int b, .int c0, .int d0, .int fr, .int hv]) (rest := [.int 0, .ref oa]) ⟨hx, hb, hml, hown, hts⟩ (c_X7_zero_X1d0 l hfl D y ad s.heap.size h q n b1 l1 r1 b2 l2 r2 b3 l3 r3 uz ul uh f1 g1 f2 g2 pa kd on ot pt fb fl fh tb tl th dg ds a b c0 d0 fr hv h1a h2a h1b h2b h1c0 h2c0 hbad) (cwV 6 hts gL_zero_X7_zero rfl rfl rfl (by decide +kernel) ⟨Nat.le_of_ble_eq_true rfl, Nat.le_of_ble_eq_true rfl⟩) (gPX_VA (va_P_r (ws := [(oa, .inl (y 1, 1, .inr (.inl of)))]) hP) (va_D_r (ws := [(oa, .inl (y 1, 1, .inr (.inl of)))]) hD) hK hE hS hA 0 rfl rfl) rfl rfl hl.1 rfl (lv_room (Nat.le_of_ble_eq_true rfl)) dL_zero_13 ⟨Nat.le_of_ble_eq_true rfl, Nat.le_of_ble_eq_true rfl⟩) hP hD hS hA hown [] ⟨0, 18, 21, 13⟩ [⟨0, 18, 25, 15⟩] (by rw [htab]; rfl) (fun z hz => absurd hz List.not_mem_nil) (by decide) (by decide) (hts (.classLink RL 13 "java/lang/IllegalArgumentException") (List.mem_of_getElem? (i := 1) rfl)) (hE.cw (Cond.castable gIAE gIAE) (List.mem_of_getElem? (i := 3) rfl)) (fun q9 w1 H locs hf hP hD hS => ?_)
  obtain rfl : w1 = wXp y ad h q n b1 l1 r1 b2 l2 r2 b3 l3 r3 uz ul uh f1 g1 f2 g2 pa kd on ot pt fb fl fh tb tl th dg ds := hf
  have hP : va_P D vwCl (wXo oa of y ad h q n (gPg pa n) n b1 l1 r1 b2 l2 r2 b3 l3 r3 uz ul uh f1 g1 f2 g2 pa kd on ot pt fb fl fh tb tl th dg ds) H := hP
  have hD : va_D A (wXo oa of y ad h q n (gPg pa n) n b1 l1 r1 b2 l2 r2 b3 l3 r3 uz ul uh f1 g1 f2 g2 pa kd on ot pt fb fl fh tb tl th dg ds) := hD
  refine lv_astore (lv' := [(8, .ref q9), (0, .ref h), (1, .int a), (2, .int b), (3, .int c0), (4, .int d0), (5, .int fr), (6, .int hv), (7, .ref oa)]) hx hb dL_zero_21 hl (by decide) rfl (fun ls hl => ?_)
  refine lv_iconst (v := 1) hx hb dL_zero_23 (by decide) ?_
  have hP9 := hP
  have hD9 := hD
  exact W.iret (v := 1) hx hb hr (fun t ht hW => ⟨⟨some (.int (1)), wXo oa of y ad h q n (gPg pa n) n b1 l1 r1 b2 l2 r2 b3 l3 r3 uz ul uh f1 g1 f2 g2 pa kd on ot pt fb fl fh tb tl th dg ds, rfl, ⟨rfl, rfl⟩, by rw [← hAe]; exact hD9, by rw [ht]; exact hP9⟩, by rw [← hAe]; exact hS.F ht⟩) (by rw [← hAe]; exact hS.2.2) dL_zero_24
set_option maxHeartbeats 4000000 in
set_option maxRecDepth 100000 in
theorem c_L_zero_X1fr (l : Launch) (hfl : l.stackTraces = false) (D : va_G) (y : Nat → ClassId) (ad : Nat → Nat) (sz : Nat) (h : Nat) (q : Nat → Nat) (n : Nat) (b1 : Bool) (l1 r1 : Int64) (b2 : Bool) (l2 r2 : Int64) (b3 : Bool) (l3 r3 : Int64) (uz : Nat → Bool) (ul uh : Nat → Int64) (f1 g1 f2 g2 : Int64) (pa : Nat → Nat → Nat) (kd : Nat → Nat) (on ot : Nat → Int32) (pt : Nat → Int64) (fb : Nat → Nat → Bool) (fl fh : Nat → Nat → Int64) (tb : Nat → Nat → Bool) (tl th : Nat → Nat → Int64) (dg : Nat → Int32) (ds : Nat → Int64) (a b c0 d0 fr hv : Int32) (oa : Nat) (of : Nat → Int64)  (h1a : ¬ a < -9) (h2a : a ≤ 9) (h1b : ¬ b < -9) (h2b : b ≤ 9) (h1c0 : ¬ c0 < -9) (h2c0 : c0 ≤ 9) (h1d0 : ¬ d0 < -9) (h2d0 : d0 ≤ 9) (hbad : fr < -4 ∨ ¬ fr ≤ 3) : Met l yL_zero wsL_zero ({ frames := 8, cells := 1, slots := 6, locals := 145 } : Room) (gPN D y ad [.ref h, .int a, .int b, .int c0, .int d0, .int fr, .int hv, .ref oa] (wXo oa of y ad h q n (gPg pa n) n b1 l1 r1 b2 l2 r2 b3 l3 r3 uz ul uh f1 g1 f2 g2 pa kd on ot pt fb fl fh tb tl th dg ds) sz) (gQn D (wXo oa of y ad h q n (gPg pa n) n b1 l1 r1 b2 l2 r2 b3 l3 r3 uz ul uh f1 g1 f2 g2 pa kd on ot pt fb fl fh tb tl th dg ds) (fun v w => v = some (.int 1) ∧ w = (wXo oa of y ad h q n (gPg pa n) n b1 l1 r1 b2 l2 r2 b3 l3 r3 uz ul uh f1 g1 f2 g2 pa kd on ot pt fb fl fh tb tl th dg ds))) 1 6 (va_A (wXo oa of y ad h q n (gPg pa n) n b1 l1 r1 b2 l2 r2 b3 l3 r3 uz ul uh f1 g1 f2 g2 pa kd on ot pt fb fl fh tb tl th dg ds) sz) := by
  refine gMet_ofWH (cc := cL_zero) (maxL := 9) (ret := (some .int)) (hh := [(0, 18, 21, 13), (0, 18, 25, 15)]) (by decide) rfl ?_
  intro pg e s m args below meth c s₁ B hml hv
  obtain ⟨rfl, ⟨hsz, hP, hK, hD0, hE0⟩, hN⟩ := hv
  have hx := B.exec
  have hb := B.bytes
  have hr := B.returns
  have hts := atoms_spec (ws := wsL_zero) B.pre
  have hown : s.vm.findClass RL = some m.cls := findClass_of_methodNamed B.named
  have htab : c.exceptionTable.toList = tableOf [(0, 18, 21, 13), (0, 18, 25, 15)] := vx_table (x := yL_zero) B (hts _ List.mem_cons_self)
  have hlocks := B.notSynchronized
  subst hsz
  obtain ⟨A, hAe⟩ : ∃ A : Nat → Prop, A = va_A (wXo oa of y ad h q n (gPg pa n) n b1 l1 r1 b2 l2 r2 b3 l3 r3 uz ul uh f1 g1 f2 g2 pa kd on ot pt fb fl fh tb tl th dg ds) s.heap.size := ⟨_, rfl⟩
  have hE : gE ad A s s.heap := by rw [hAe]; exact hE0
  have hD : va_D A (wXo oa of y ad h q n (gPg pa n) n b1 l1 r1 b2 l2 r2 b3 l3 r3 uz ul uh f1 g1 f2 g2 pa kd on ot pt fb fl fh tb tl th dg ds) := by rw [hAe]; exact hD0.self (sz := s.heap.size)
  have hA : ∀ q : Nat, s.heap.size ≤ q → A q := fun q h => by rw [hAe]; exact Or.inr h
  have hS : va_S A s.heap s.heap [] := va_S.rf
  have hl := lv_entry ([.ref h, .int a, .int b, .int c0, .int d0, .int fr, .int hv, .ref oa]) (n := 9) (Nat.le_of_ble_eq_true rfl)
  rw [lg_entry_eq]
  generalize (lg_sl ([.ref h, .int a, .int b, .int c0, .int d0, .int fr, .int hv, .ref oa]) ++ List.replicate (9 - (lg_sl ([.ref h, .int a, .int b, .int c0, .int d0, .int fr, .int hv, .ref oa])).length) Slot.unset).toArray = ls at hl ⊢
  have hl : lv_has ls 9 [(0, .ref h), (1, .int a), (2, .int b), (3, .int c0), (4, .int d0), (5, .int fr), (6, .int hv), (7, .ref oa)] := hl
  refine lv_aload hx hb dL_zero_0 (lv_at hl 7 rfl) ?_
  refine lv_iconst (v := 0) hx hb dL_zero_2 (by decide) ?_
  refine lv_aload_n hx hb dL_zero_3 rfl (lv_at hl 0 rfl) ?_
  refine lv_iload_n hx hb dL_zero_4 rfl (lv_at hl 1 rfl) ?_
  refine lv_iload_n hx hb dL_zero_5 rfl (lv_at hl 2 rfl) ?_
  refine lv_iload_n hx hb dL_zero_6 rfl (lv_at hl 3 rfl) ?_
  refine lv_iload hx hb dL_zero_7 (lv_at hl 4 rfl) ?_
  refine lv_iload hx hb dL_zero_9 (lv_at hl 5 rfl) ?_
  refine lv_iload hx hb dL_zero_11 (lv_at hl 6 rfl) ?_
  refine g_catch (name := gIAE) (ws := [(oa, .inl (y 1, 1, .inr (.inl of)))]) (vx_runV (As := [.int a, .int b, .int c0, .int d0, .int fr, .int hv]) (rest := [.int 0, .ref oa]) ⟨hx, hb, hml, hown, hts⟩ (c_X7_zero_X1fr l hfl D y ad s.heap.size h q n b1 l1 r1 b2 l2 r2 b3 l3 r3 uz ul uh f1 g1 f2 g2 pa kd on ot pt fb fl fh tb tl th dg ds a b c0 d0 fr hv h1a h2a h1b h2b h1c0 h2c0 h1d0 h2d0 hbad) (cwV 6 hts gL_zero_X7_zero rfl rfl rfl (by decide +kernel) ⟨Nat.le_of_ble_eq_true rfl, Nat.le_of_ble_eq_true rfl⟩) (gPX_VA (va_P_r (ws := [(oa, .inl (y 1, 1, .inr (.inl of)))]) hP) (va_D_r (ws := [(oa, .inl (y 1, 1, .inr (.inl of)))]) hD) hK hE hS hA 0 rfl rfl) rfl rfl hl.1 rfl (lv_room (Nat.le_of_ble_eq_true rfl)) dL_zero_13 ⟨Nat.le_of_ble_eq_true rfl, Nat.le_of_ble_eq_true rfl⟩) hP hD hS hA hown [] ⟨0, 18, 21, 13⟩ [⟨0, 18, 25, 15⟩] (by rw [htab]; rfl) (fun z hz => absurd hz List.not_mem_nil) (by decide) (by decide) (hts (.classLink RL 13 "java/lang/IllegalArgumentException") (List.mem_of_getElem? (i := 1) rfl)) (hE.cw (Cond.castable gIAE gIAE) (List.mem_of_getElem? (i := 3) rfl)) (fun q9 w1 H locs hf hP hD hS => ?_)
  obtain rfl : w1 = wXp y ad h q n b1 l1 r1 b2 l2 r2 b3 l3 r3 uz ul uh f1 g1 f2 g2 pa kd on ot pt fb fl fh tb tl th dg ds := hf
  have hP : va_P D vwCl (wXo oa of y ad h q n (gPg pa n) n b1 l1 r1 b2 l2 r2 b3 l3 r3 uz ul uh f1 g1 f2 g2 pa kd on ot pt fb fl fh tb tl th dg ds) H := hP
  have hD : va_D A (wXo oa of y ad h q n (gPg pa n) n b1 l1 r1 b2 l2 r2 b3 l3 r3 uz ul uh f1 g1 f2 g2 pa kd on ot pt fb fl fh tb tl th dg ds) := hD
  refine lv_astore (lv' := [(8, .ref q9), (0, .ref h), (1, .int a), (2, .int b), (3, .int c0), (4, .int d0), (5, .int fr), (6, .int hv), (7, .ref oa)]) hx hb dL_zero_21 hl (by decide) rfl (fun ls hl => ?_)
  refine lv_iconst (v := 1) hx hb dL_zero_23 (by decide) ?_
  have hP9 := hP
  have hD9 := hD
  exact W.iret (v := 1) hx hb hr (fun t ht hW => ⟨⟨some (.int (1)), wXo oa of y ad h q n (gPg pa n) n b1 l1 r1 b2 l2 r2 b3 l3 r3 uz ul uh f1 g1 f2 g2 pa kd on ot pt fb fl fh tb tl th dg ds, rfl, ⟨rfl, rfl⟩, by rw [← hAe]; exact hD9, by rw [ht]; exact hP9⟩, by rw [← hAe]; exact hS.F ht⟩) (by rw [← hAe]; exact hS.2.2) dL_zero_24
set_option maxHeartbeats 4000000 in
set_option maxRecDepth 100000 in
theorem c_L_zero_X1hv (l : Launch) (hfl : l.stackTraces = false) (D : va_G) (y : Nat → ClassId) (ad : Nat → Nat) (sz : Nat) (h : Nat) (q : Nat → Nat) (n : Nat) (b1 : Bool) (l1 r1 : Int64) (b2 : Bool) (l2 r2 : Int64) (b3 : Bool) (l3 r3 : Int64) (uz : Nat → Bool) (ul uh : Nat → Int64) (f1 g1 f2 g2 : Int64) (pa : Nat → Nat → Nat) (kd : Nat → Nat) (on ot : Nat → Int32) (pt : Nat → Int64) (fb : Nat → Nat → Bool) (fl fh : Nat → Nat → Int64) (tb : Nat → Nat → Bool) (tl th : Nat → Nat → Int64) (dg : Nat → Int32) (ds : Nat → Int64) (a b c0 d0 fr hv : Int32) (oa : Nat) (of : Nat → Int64)  (h1a : ¬ a < -9) (h2a : a ≤ 9) (h1b : ¬ b < -9) (h2b : b ≤ 9) (h1c0 : ¬ c0 < -9) (h2c0 : c0 ≤ 9) (h1d0 : ¬ d0 < -9) (h2d0 : d0 ≤ 9) (h1fr : ¬ fr < -4) (h2fr : fr ≤ 3) (hbad : hv < 0 ∨ ¬ hv ≤ 2) : Met l yL_zero wsL_zero ({ frames := 8, cells := 1, slots := 6, locals := 145 } : Room) (gPN D y ad [.ref h, .int a, .int b, .int c0, .int d0, .int fr, .int hv, .ref oa] (wXo oa of y ad h q n (gPg pa n) n b1 l1 r1 b2 l2 r2 b3 l3 r3 uz ul uh f1 g1 f2 g2 pa kd on ot pt fb fl fh tb tl th dg ds) sz) (gQn D (wXo oa of y ad h q n (gPg pa n) n b1 l1 r1 b2 l2 r2 b3 l3 r3 uz ul uh f1 g1 f2 g2 pa kd on ot pt fb fl fh tb tl th dg ds) (fun v w => v = some (.int 1) ∧ w = (wXo oa of y ad h q n (gPg pa n) n b1 l1 r1 b2 l2 r2 b3 l3 r3 uz ul uh f1 g1 f2 g2 pa kd on ot pt fb fl fh tb tl th dg ds))) 1 6 (va_A (wXo oa of y ad h q n (gPg pa n) n b1 l1 r1 b2 l2 r2 b3 l3 r3 uz ul uh f1 g1 f2 g2 pa kd on ot pt fb fl fh tb tl th dg ds) sz) := by
  refine gMet_ofWH (cc := cL_zero) (maxL := 9) (ret := (some .int)) (hh := [(0, 18, 21, 13), (0, 18, 25, 15)]) (by decide) rfl ?_
  intro pg e s m args below meth c s₁ B hml hv
  obtain ⟨rfl, ⟨hsz, hP, hK, hD0, hE0⟩, hN⟩ := hv
  have hx := B.exec
  have hb := B.bytes
  have hr := B.returns
  have hts := atoms_spec (ws := wsL_zero) B.pre
  have hown : s.vm.findClass RL = some m.cls := findClass_of_methodNamed B.named
  have htab : c.exceptionTable.toList = tableOf [(0, 18, 21, 13), (0, 18, 25, 15)] := vx_table (x := yL_zero) B (hts _ List.mem_cons_self)
  have hlocks := B.notSynchronized
  subst hsz
  obtain ⟨A, hAe⟩ : ∃ A : Nat → Prop, A = va_A (wXo oa of y ad h q n (gPg pa n) n b1 l1 r1 b2 l2 r2 b3 l3 r3 uz ul uh f1 g1 f2 g2 pa kd on ot pt fb fl fh tb tl th dg ds) s.heap.size := ⟨_, rfl⟩
  have hE : gE ad A s s.heap := by rw [hAe]; exact hE0
  have hD : va_D A (wXo oa of y ad h q n (gPg pa n) n b1 l1 r1 b2 l2 r2 b3 l3 r3 uz ul uh f1 g1 f2 g2 pa kd on ot pt fb fl fh tb tl th dg ds) := by rw [hAe]; exact hD0.self (sz := s.heap.size)
  have hA : ∀ q : Nat, s.heap.size ≤ q → A q := fun q h => by rw [hAe]; exact Or.inr h
  have hS : va_S A s.heap s.heap [] := va_S.rf
  have hl := lv_entry ([.ref h, .int a, .int b, .int c0, .int d0, .int fr, .int hv, .ref oa]) (n := 9) (Nat.le_of_ble_eq_true rfl)
  rw [lg_entry_eq]
  generalize (lg_sl ([.ref h, .int a, .int b, .int c0, .int d0, .int fr, .int hv, .ref oa]) ++ List.replicate (9 - (lg_sl ([.ref h, .int a, .int b, .int c0, .int d0, .int fr, .int hv, .ref oa])).length) Slot.unset).toArray = ls at hl ⊢
  have hl : lv_has ls 9 [(0, .ref h), (1, .int a), (2, .int b), (3, .int c0), (4, .int d0), (5, .int fr), (6, .int hv), (7, .ref oa)] := hl
  refine lv_aload hx hb dL_zero_0 (lv_at hl 7 rfl) ?_
  refine lv_iconst (v := 0) hx hb dL_zero_2 (by decide) ?_
  refine lv_aload_n hx hb dL_zero_3 rfl (lv_at hl 0 rfl) ?_
  refine lv_iload_n hx hb dL_zero_4 rfl (lv_at hl 1 rfl) ?_
  refine lv_iload_n hx hb dL_zero_5 rfl (lv_at hl 2 rfl) ?_
  refine lv_iload_n hx hb dL_zero_6 rfl (lv_at hl 3 rfl) ?_
  refine lv_iload hx hb dL_zero_7 (lv_at hl 4 rfl) ?_
  refine lv_iload hx hb dL_zero_9 (lv_at hl 5 rfl) ?_
  refine lv_iload hx hb dL_zero_11 (lv_at hl 6 rfl) ?_
  refine g_catch (name := gIAE) (ws := [(oa, .inl (y 1, 1, .inr (.inl of)))]) (vx_runV (As := [.int a, .int b, .int c0, .int d0, .int fr, .int hv]) (rest := [.int 0, .ref oa]) ⟨hx, hb, hml, hown, hts⟩ (c_X7_zero_X1hv l hfl D y ad s.heap.size h q n b1 l1 r1 b2 l2 r2 b3 l3 r3 uz ul uh f1 g1 f2 g2 pa kd on ot pt fb fl fh tb tl th dg ds a b c0 d0 fr hv h1a h2a h1b h2b h1c0 h2c0 h1d0 h2d0 h1fr h2fr hbad) (cwV 6 hts gL_zero_X7_zero rfl rfl rfl (by decide +kernel) ⟨Nat.le_of_ble_eq_true rfl, Nat.le_of_ble_eq_true rfl⟩) (gPX_VA (va_P_r (ws := [(oa, .inl (y 1, 1, .inr (.inl of)))]) hP) (va_D_r (ws := [(oa, .inl (y 1, 1, .inr (.inl of)))]) hD) hK hE hS hA 0 rfl rfl) rfl rfl hl.1 rfl (lv_room (Nat.le_of_ble_eq_true rfl)) dL_zero_13 ⟨Nat.le_of_ble_eq_true rfl, Nat.le_of_ble_eq_true rfl⟩) hP hD hS hA hown [] ⟨0, 18, 21, 13⟩ [⟨0, 18, 25, 15⟩] (by rw [htab]; rfl) (fun z hz => absurd hz List.not_mem_nil) (by decide) (by decide) (hts (.classLink RL 13 "java/lang/IllegalArgumentException") (List.mem_of_getElem? (i := 1) rfl)) (hE.cw (Cond.castable gIAE gIAE) (List.mem_of_getElem? (i := 3) rfl)) (fun q9 w1 H locs hf hP hD hS => ?_)
  obtain rfl : w1 = wXp y ad h q n b1 l1 r1 b2 l2 r2 b3 l3 r3 uz ul uh f1 g1 f2 g2 pa kd on ot pt fb fl fh tb tl th dg ds := hf
  have hP : va_P D vwCl (wXo oa of y ad h q n (gPg pa n) n b1 l1 r1 b2 l2 r2 b3 l3 r3 uz ul uh f1 g1 f2 g2 pa kd on ot pt fb fl fh tb tl th dg ds) H := hP
  have hD : va_D A (wXo oa of y ad h q n (gPg pa n) n b1 l1 r1 b2 l2 r2 b3 l3 r3 uz ul uh f1 g1 f2 g2 pa kd on ot pt fb fl fh tb tl th dg ds) := hD
  refine lv_astore (lv' := [(8, .ref q9), (0, .ref h), (1, .int a), (2, .int b), (3, .int c0), (4, .int d0), (5, .int fr), (6, .int hv), (7, .ref oa)]) hx hb dL_zero_21 hl (by decide) rfl (fun ls hl => ?_)
  refine lv_iconst (v := 1) hx hb dL_zero_23 (by decide) ?_
  have hP9 := hP
  have hD9 := hD
  exact W.iret (v := 1) hx hb hr (fun t ht hW => ⟨⟨some (.int (1)), wXo oa of y ad h q n (gPg pa n) n b1 l1 r1 b2 l2 r2 b3 l3 r3 uz ul uh f1 g1 f2 g2 pa kd on ot pt fb fl fh tb tl th dg ds, rfl, ⟨rfl, rfl⟩, by rw [← hAe]; exact hD9, by rw [ht]; exact hP9⟩, by rw [← hAe]; exact hS.F ht⟩) (by rw [← hAe]; exact hS.2.2) dL_zero_24
set_option maxHeartbeats 4000000 in
set_option maxRecDepth 100000 in
theorem c_L_zero_X2 (l : Launch) (hfl : l.stackTraces = false) (D : va_G) (y : Nat → ClassId) (ad : Nat → Nat) (sz : Nat) (h : Nat) (q : Nat → Nat) (n : Nat) (b1 : Bool) (l1 r1 : Int64) (b2 : Bool) (l2 r2 : Int64) (b3 : Bool) (l3 r3 : Int64) (uz : Nat → Bool) (ul uh : Nat → Int64) (f1 g1 f2 g2 : Int64) (pa : Nat → Nat → Nat) (kd : Nat → Nat) (on ot : Nat → Int32) (pt : Nat → Int64) (fb : Nat → Nat → Bool) (fl fh : Nat → Nat → Int64) (tb : Nat → Nat → Bool) (tl th : Nat → Nat → Int64) (dg : Nat → Int32) (ds : Nat → Int64) (a b c0 d0 fr hv : Int32) (oa : Nat) (of : Nat → Int64)  (h1a : ¬ a < -9) (h2a : a ≤ 9) (h1b : ¬ b < -9) (h2b : b ≤ 9) (h1c0 : ¬ c0 < -9) (h2c0 : c0 ≤ 9) (h1d0 : ¬ d0 < -9) (h2d0 : d0 ≤ 9) (h1fr : ¬ fr < -4) (h2fr : fr ≤ 3) (h1hv : ¬ hv < 0) (h2hv : hv ≤ 2) (hn : ¬ n < 40) (hn2 : n ≤ 40) : Met l yL_zero wsL_zero ({ frames := 8, cells := 1, slots := 6, locals := 143 } : Room) (gPN D y ad [.ref h, .int a, .int b, .int c0, .int d0, .int fr, .int hv, .ref oa] (wXo oa of y ad h q n (gPg pa n) n b1 l1 r1 b2 l2 r2 b3 l3 r3 uz ul uh f1 g1 f2 g2 pa kd on ot pt fb fl fh tb tl th dg ds) sz) (gQn D (wXo oa of y ad h q n (gPg pa n) n b1 l1 r1 b2 l2 r2 b3 l3 r3 uz ul uh f1 g1 f2 g2 pa kd on ot pt fb fl fh tb tl th dg ds) (fun v w => v = some (.int 2) ∧ w = (wXo oa of y ad h q n (gPg pa n) n b1 l1 r1 b2 l2 r2 b3 l3 r3 uz ul uh f1 g1 f2 g2 pa kd on ot pt fb fl fh tb tl th dg ds))) 1 6 (va_A (wXo oa of y ad h q n (gPg pa n) n b1 l1 r1 b2 l2 r2 b3 l3 r3 uz ul uh f1 g1 f2 g2 pa kd on ot pt fb fl fh tb tl th dg ds) sz) := by
  refine gMet_ofWH (cc := cL_zero) (maxL := 9) (ret := (some .int)) (hh := [(0, 18, 21, 13), (0, 18, 25, 15)]) (by decide) rfl ?_
  intro pg e s m args below meth c s₁ B hml hv
  obtain ⟨rfl, ⟨hsz, hP, hK, hD0, hE0⟩, hN⟩ := hv
  have hx := B.exec
  have hb := B.bytes
  have hr := B.returns
  have hts := atoms_spec (ws := wsL_zero) B.pre
  have hown : s.vm.findClass RL = some m.cls := findClass_of_methodNamed B.named
  have htab : c.exceptionTable.toList = tableOf [(0, 18, 21, 13), (0, 18, 25, 15)] := vx_table (x := yL_zero) B (hts _ List.mem_cons_self)
  have hlocks := B.notSynchronized
  subst hsz
  obtain ⟨A, hAe⟩ : ∃ A : Nat → Prop, A = va_A (wXo oa of y ad h q n (gPg pa n) n b1 l1 r1 b2 l2 r2 b3 l3 r3 uz ul uh f1 g1 f2 g2 pa kd on ot pt fb fl fh tb tl th dg ds) s.heap.size := ⟨_, rfl⟩
  have hE : gE ad A s s.heap := by rw [hAe]; exact hE0
  have hD : va_D A (wXo oa of y ad h q n (gPg pa n) n b1 l1 r1 b2 l2 r2 b3 l3 r3 uz ul uh f1 g1 f2 g2 pa kd on ot pt fb fl fh tb tl th dg ds) := by rw [hAe]; exact hD0.self (sz := s.heap.size)
  have hA : ∀ q : Nat, s.heap.size ≤ q → A q := fun q h => by rw [hAe]; exact Or.inr h
  have hS : va_S A s.heap s.heap [] := va_S.rf
  have hl := lv_entry ([.ref h, .int a, .int b, .int c0, .int d0, .int fr, .int hv, .ref oa]) (n := 9) (Nat.le_of_ble_eq_true rfl)
  rw [lg_entry_eq]
  generalize (lg_sl ([.ref h, .int a, .int b, .int c0, .int d0, .int fr, .int hv, .ref oa]) ++ List.replicate (9 - (lg_sl ([.ref h, .int a, .int b, .int c0, .int d0, .int fr, .int hv, .ref oa])).length) Slot.unset).toArray = ls at hl ⊢
  have hl : lv_has ls 9 [(0, .ref h), (1, .int a), (2, .int b), (3, .int c0), (4, .int d0), (5, .int fr), (6, .int hv), (7, .ref oa)] := hl
  refine lv_aload hx hb dL_zero_0 (lv_at hl 7 rfl) ?_
  refine lv_iconst (v := 0) hx hb dL_zero_2 (by decide) ?_
  refine lv_aload_n hx hb dL_zero_3 rfl (lv_at hl 0 rfl) ?_
  refine lv_iload_n hx hb dL_zero_4 rfl (lv_at hl 1 rfl) ?_
  refine lv_iload_n hx hb dL_zero_5 rfl (lv_at hl 2 rfl) ?_
  refine lv_iload_n hx hb dL_zero_6 rfl (lv_at hl 3 rfl) ?_
  refine lv_iload hx hb dL_zero_7 (lv_at hl 4 rfl) ?_
  refine lv_iload hx hb dL_zero_9 (lv_at hl 5 rfl) ?_
  refine lv_iload hx hb dL_zero_11 (lv_at hl 6 rfl) ?_
  refine g_catch (name := gISE) (ws := [(oa, .inl (y 1, 1, .inr (.inl of)))]) (vx_runV (As := [.int a, .int b, .int c0, .int d0, .int fr, .int hv]) (rest := [.int 0, .ref oa]) ⟨hx, hb, hml, hown, hts⟩ (c_X7_zero_X2 l hfl D y ad s.heap.size h q n b1 l1 r1 b2 l2 r2 b3 l3 r3 uz ul uh f1 g1 f2 g2 pa kd on ot pt fb fl fh tb tl th dg ds a b c0 d0 fr hv h1a h2a h1b h2b h1c0 h2c0 h1d0 h2d0 h1fr h2fr h1hv h2hv hn hn2) (cwV 6 hts gL_zero_X7_zero rfl rfl rfl (by decide +kernel) ⟨Nat.le_of_ble_eq_true rfl, Nat.le_of_ble_eq_true rfl⟩) (gPX_VA (va_P_r (ws := [(oa, .inl (y 1, 1, .inr (.inl of)))]) hP) (va_D_r (ws := [(oa, .inl (y 1, 1, .inr (.inl of)))]) hD) hK hE hS hA 0 rfl rfl) rfl rfl hl.1 rfl (lv_room (Nat.le_of_ble_eq_true rfl)) dL_zero_13 ⟨Nat.le_of_ble_eq_true rfl, Nat.le_of_ble_eq_true rfl⟩) hP hD hS hA hown [⟨0, 18, 21, 13⟩] ⟨0, 18, 25, 15⟩ [] (by rw [htab]; rfl) (fun z hz => by rcases List.mem_singleton.mp hz with rfl; exact Or.inr ⟨by decide, _, (hts (.classLink RL 13 "java/lang/IllegalArgumentException") (List.mem_of_getElem? (i := 1) rfl)), hN.2.2⟩) (by decide) (by decide) (hts (.classLink RL 15 "java/lang/IllegalStateException") (List.mem_of_getElem? (i := 2) rfl)) (hE.cw (Cond.castable gISE gISE) (List.mem_of_getElem? (i := 4) rfl)) (fun q9 w1 H locs hf hP hD hS => ?_)
  obtain rfl : w1 = wXp y ad h q n b1 l1 r1 b2 l2 r2 b3 l3 r3 uz ul uh f1 g1 f2 g2 pa kd on ot pt fb fl fh tb tl th dg ds := hf
  have hP : va_P D vwCl (wXo oa of y ad h q n (gPg pa n) n b1 l1 r1 b2 l2 r2 b3 l3 r3 uz ul uh f1 g1 f2 g2 pa kd on ot pt fb fl fh tb tl th dg ds) H := hP
  have hD : va_D A (wXo oa of y ad h q n (gPg pa n) n b1 l1 r1 b2 l2 r2 b3 l3 r3 uz ul uh f1 g1 f2 g2 pa kd on ot pt fb fl fh tb tl th dg ds) := hD
  refine lv_astore (lv' := [(8, .ref q9), (0, .ref h), (1, .int a), (2, .int b), (3, .int c0), (4, .int d0), (5, .int fr), (6, .int hv), (7, .ref oa)]) hx hb dL_zero_25 hl (by decide) rfl (fun ls hl => ?_)
  refine lv_iconst (v := 2) hx hb dL_zero_27 (by decide) ?_
  have hP9 := hP
  have hD9 := hD
  exact W.iret (v := 2) hx hb hr (fun t ht hW => ⟨⟨some (.int (2)), wXo oa of y ad h q n (gPg pa n) n b1 l1 r1 b2 l2 r2 b3 l3 r3 uz ul uh f1 g1 f2 g2 pa kd on ot pt fb fl fh tb tl th dg ds, rfl, ⟨rfl, rfl⟩, by rw [← hAe]; exact hD9, by rw [ht]; exact hP9⟩, by rw [← hAe]; exact hS.F ht⟩) (by rw [← hAe]; exact hS.2.2) dL_zero_28
set_option maxHeartbeats 4000000 in
set_option maxRecDepth 100000 in
theorem c_L_zero_X3 (l : Launch) (hfl : l.stackTraces = false) (D : va_G) (y : Nat → ClassId) (ad : Nat → Nat) (sz : Nat) (h : Nat) (q : Nat → Nat) (n : Nat) (b1 : Bool) (l1 r1 : Int64) (b2 : Bool) (l2 r2 : Int64) (b3 : Bool) (l3 r3 : Int64) (uz : Nat → Bool) (ul uh : Nat → Int64) (f1 g1 f2 g2 : Int64) (pa : Nat → Nat → Nat) (kd : Nat → Nat) (on ot : Nat → Int32) (pt : Nat → Int64) (fb : Nat → Nat → Bool) (fl fh : Nat → Nat → Int64) (tb : Nat → Nat → Bool) (tl th : Nat → Nat → Int64) (dg : Nat → Int32) (ds : Nat → Int64) (a b c0 d0 fr hv : Int32) (oa : Nat) (of : Nat → Int64)  (h1a : ¬ a < -9) (h2a : a ≤ 9) (h1b : ¬ b < -9) (h2b : b ≤ 9) (h1c0 : ¬ c0 < -9) (h2c0 : c0 ≤ 9) (h1d0 : ¬ d0 < -9) (h2d0 : d0 ≤ 9) (h1fr : ¬ fr < -4) (h2fr : fr ≤ 3) (h1hv : ¬ hv < 0) (h2hv : hv ≤ 2) (hn : n < 40) (hs : ¬ (sp_X4_signAt a.toInt64 b.toInt64 c0.toInt64 d0.toInt64 fr.toInt64 0) * (sp_X4_signAt a.toInt64 b.toInt64 c0.toInt64 d0.toInt64 (fr + (1 <<< (hv &&& 31))).toInt64 0) < 0) : Met l yL_zero wsL_zero ({ frames := 7, cells := 2, slots := 10, locals := 123 } : Room) (gPN D y ad [.ref h, .int a, .int b, .int c0, .int d0, .int fr, .int hv, .ref oa] (wXo oa of y ad h q n (gPg pa n) n b1 l1 r1 b2 l2 r2 b3 l3 r3 uz ul uh f1 g1 f2 g2 pa kd on ot pt fb fl fh tb tl th dg ds) sz) (gQn D (wXo oa of y ad h q n (gPg pa n) n b1 l1 r1 b2 l2 r2 b3 l3 r3 uz ul uh f1 g1 f2 g2 pa kd on ot pt fb fl fh tb tl th dg ds) (fun v w => v = some (.int 2) ∧ w = (wXo oa of y ad h q n (gPg pa n) n b1 l1 r1 b2 l2 r2 b3 l3 r3 uz ul uh f1 g1 f2 g2 pa kd on ot pt fb fl fh tb tl th dg ds))) 2 10 (va_A (wXo oa of y ad h q n (gPg pa n) n b1 l1 r1 b2 l2 r2 b3 l3 r3 uz ul uh f1 g1 f2 g2 pa kd on ot pt fb fl fh tb tl th dg ds) sz) := by
  refine gMet_ofWH (cc := cL_zero) (maxL := 9) (ret := (some .int)) (hh := [(0, 18, 21, 13), (0, 18, 25, 15)]) (by decide) rfl ?_
  intro pg e s m args below meth c s₁ B hml hv
  obtain ⟨rfl, ⟨hsz, hP, hK, hD0, hE0⟩, hN⟩ := hv
  have hx := B.exec
  have hb := B.bytes
  have hr := B.returns
  have hts := atoms_spec (ws := wsL_zero) B.pre
  have hown : s.vm.findClass RL = some m.cls := findClass_of_methodNamed B.named
  have htab : c.exceptionTable.toList = tableOf [(0, 18, 21, 13), (0, 18, 25, 15)] := vx_table (x := yL_zero) B (hts _ List.mem_cons_self)
  have hlocks := B.notSynchronized
  subst hsz
  obtain ⟨A, hAe⟩ : ∃ A : Nat → Prop, A = va_A (wXo oa of y ad h q n (gPg pa n) n b1 l1 r1 b2 l2 r2 b3 l3 r3 uz ul uh f1 g1 f2 g2 pa kd on ot pt fb fl fh tb tl th dg ds) s.heap.size := ⟨_, rfl⟩
  have hE : gE ad A s s.heap := by rw [hAe]; exact hE0
  have hD : va_D A (wXo oa of y ad h q n (gPg pa n) n b1 l1 r1 b2 l2 r2 b3 l3 r3 uz ul uh f1 g1 f2 g2 pa kd on ot pt fb fl fh tb tl th dg ds) := by rw [hAe]; exact hD0.self (sz := s.heap.size)
  have hA : ∀ q : Nat, s.heap.size ≤ q → A q := fun q h => by rw [hAe]; exact Or.inr h
  have hS : va_S A s.heap s.heap [] := va_S.rf
  have hl := lv_entry ([.ref h, .int a, .int b, .int c0, .int d0, .int fr, .int hv, .ref oa]) (n := 9) (Nat.le_of_ble_eq_true rfl)
  rw [lg_entry_eq]
  generalize (lg_sl ([.ref h, .int a, .int b, .int c0, .int d0, .int fr, .int hv, .ref oa]) ++ List.replicate (9 - (lg_sl ([.ref h, .int a, .int b, .int c0, .int d0, .int fr, .int hv, .ref oa])).length) Slot.unset).toArray = ls at hl ⊢
  have hl : lv_has ls 9 [(0, .ref h), (1, .int a), (2, .int b), (3, .int c0), (4, .int d0), (5, .int fr), (6, .int hv), (7, .ref oa)] := hl
  refine lv_aload hx hb dL_zero_0 (lv_at hl 7 rfl) ?_
  refine lv_iconst (v := 0) hx hb dL_zero_2 (by decide) ?_
  refine lv_aload_n hx hb dL_zero_3 rfl (lv_at hl 0 rfl) ?_
  refine lv_iload_n hx hb dL_zero_4 rfl (lv_at hl 1 rfl) ?_
  refine lv_iload_n hx hb dL_zero_5 rfl (lv_at hl 2 rfl) ?_
  refine lv_iload_n hx hb dL_zero_6 rfl (lv_at hl 3 rfl) ?_
  refine lv_iload hx hb dL_zero_7 (lv_at hl 4 rfl) ?_
  refine lv_iload hx hb dL_zero_9 (lv_at hl 5 rfl) ?_
  refine lv_iload hx hb dL_zero_11 (lv_at hl 6 rfl) ?_
  refine g_catch (name := gISE) (ws := [(oa, .inl (y 1, 1, .inr (.inl of)))]) (vx_runV (As := [.int a, .int b, .int c0, .int d0, .int fr, .int hv]) (rest := [.int 0, .ref oa]) ⟨hx, hb, hml, hown, hts⟩ (c_X7_zero_X3 l hfl D y ad s.heap.size h q n b1 l1 r1 b2 l2 r2 b3 l3 r3 uz ul uh f1 g1 f2 g2 pa kd on ot pt fb fl fh tb tl th dg ds a b c0 d0 fr hv h1a h2a h1b h2b h1c0 h2c0 h1d0 h2d0 h1fr h2fr h1hv h2hv hn hs) (cwV 6 hts gL_zero_X7_zero rfl rfl rfl (by decide +kernel) ⟨Nat.le_of_ble_eq_true rfl, Nat.le_of_ble_eq_true rfl⟩) (gPX_VA (va_P_r (ws := [(oa, .inl (y 1, 1, .inr (.inl of)))]) hP) (va_D_r (ws := [(oa, .inl (y 1, 1, .inr (.inl of)))]) hD) hK hE hS hA 0 rfl rfl) rfl rfl hl.1 rfl (lv_room (Nat.le_of_ble_eq_true rfl)) dL_zero_13 ⟨Nat.le_of_ble_eq_true rfl, Nat.le_of_ble_eq_true rfl⟩) hP hD hS hA hown [⟨0, 18, 21, 13⟩] ⟨0, 18, 25, 15⟩ [] (by rw [htab]; rfl) (fun z hz => by rcases List.mem_singleton.mp hz with rfl; exact Or.inr ⟨by decide, _, (hts (.classLink RL 13 "java/lang/IllegalArgumentException") (List.mem_of_getElem? (i := 1) rfl)), hN.2.2⟩) (by decide) (by decide) (hts (.classLink RL 15 "java/lang/IllegalStateException") (List.mem_of_getElem? (i := 2) rfl)) (hE.cw (Cond.castable gISE gISE) (List.mem_of_getElem? (i := 4) rfl)) (fun q9 w1 H locs hf hP hD hS => ?_)
  obtain rfl : w1 = wXp y ad h q n b1 l1 r1 b2 l2 r2 b3 l3 r3 uz ul uh f1 g1 f2 g2 pa kd on ot pt fb fl fh tb tl th dg ds := hf
  have hP : va_P D vwCl (wXo oa of y ad h q n (gPg pa n) n b1 l1 r1 b2 l2 r2 b3 l3 r3 uz ul uh f1 g1 f2 g2 pa kd on ot pt fb fl fh tb tl th dg ds) H := hP
  have hD : va_D A (wXo oa of y ad h q n (gPg pa n) n b1 l1 r1 b2 l2 r2 b3 l3 r3 uz ul uh f1 g1 f2 g2 pa kd on ot pt fb fl fh tb tl th dg ds) := hD
  refine lv_astore (lv' := [(8, .ref q9), (0, .ref h), (1, .int a), (2, .int b), (3, .int c0), (4, .int d0), (5, .int fr), (6, .int hv), (7, .ref oa)]) hx hb dL_zero_25 hl (by decide) rfl (fun ls hl => ?_)
  refine lv_iconst (v := 2) hx hb dL_zero_27 (by decide) ?_
  have hP9 := hP
  have hD9 := hD
  exact W.iret (v := 2) hx hb hr (fun t ht hW => ⟨⟨some (.int (2)), wXo oa of y ad h q n (gPg pa n) n b1 l1 r1 b2 l2 r2 b3 l3 r3 uz ul uh f1 g1 f2 g2 pa kd on ot pt fb fl fh tb tl th dg ds, rfl, ⟨rfl, rfl⟩, by rw [← hAe]; exact hD9, by rw [ht]; exact hP9⟩, by rw [← hAe]; exact hS.F ht⟩) (by rw [← hAe]; exact hS.2.2) dL_zero_28
set_option maxHeartbeats 4000000 in
set_option maxRecDepth 100000 in
theorem c_L_zero_0 (l : Launch) (hfl : l.stackTraces = false) (D : va_G) (y : Nat → ClassId) (ad : Nat → Nat) (sz : Nat) (h : Nat) (q : Nat → Nat) (n : Nat) (b1 : Bool) (l1 r1 : Int64) (b2 : Bool) (l2 r2 : Int64) (b3 : Bool) (l3 r3 : Int64) (uz : Nat → Bool) (ul uh : Nat → Int64) (f1 g1 f2 g2 : Int64) (pa : Nat → Nat → Nat) (kd : Nat → Nat) (on ot : Nat → Int32) (pt : Nat → Int64) (fb : Nat → Nat → Bool) (fl fh : Nat → Nat → Int64) (tb : Nat → Nat → Bool) (tl th : Nat → Nat → Int64) (dg : Nat → Int32) (ds : Nat → Int64) (a b c0 d0 fr : Int32) (u : Nat) (oa : Nat) (of : Nat → Int64)  (h1a : ¬ a < -9) (h2a : a ≤ 9) (h1b : ¬ b < -9) (h2b : b ≤ 9) (h1c0 : ¬ c0 < -9) (h2c0 : c0 ≤ 9) (h1d0 : ¬ d0 < -9) (h2d0 : d0 ≤ 9) (h1fr : ¬ fr < -4) (h2fr : fr ≤ 3) (hu : u < 3) (hn : n < 40) (hs : (sp_X4_signAt a.toInt64 b.toInt64 c0.toInt64 d0.toInt64 fr.toInt64 0) * (sp_X4_signAt a.toInt64 b.toInt64 c0.toInt64 d0.toInt64 (fr + (1 <<< (nI u &&& 31))).toInt64 0) < 0) : Met l yL_zero wsL_zero ({ frames := 4, cells := 10, slots := 168, locals := 113 } : Room) (gPN D y ad [.ref h, .int a, .int b, .int c0, .int d0, .int fr, .int (nI u), .ref oa] (wXo oa of y ad h q n (gPg pa n) n b1 l1 r1 b2 l2 r2 b3 l3 r3 uz ul uh f1 g1 f2 g2 pa kd on ot pt fb fl fh tb tl th dg ds) sz) (gQn D (wXo oa of y ad h q n (gPg pa n) n b1 l1 r1 b2 l2 r2 b3 l3 r3 uz ul uh f1 g1 f2 g2 pa kd on ot pt fb fl fh tb tl th dg ds) (fun v w => ∃ (yb1 : Bool) (yl1 : Int64) (yr1 : Int64) (yb2 : Bool) (yl2 : Int64) (yr2 : Int64) (yb3 : Bool) (yl3 : Int64) (yr3 : Int64) (yuz : Nat → Bool) (yul : Nat → Int64) (yuh : Nat → Int64) (yf1 : Int64) (yg1 : Int64) (yf2 : Int64) (yg2 : Int64) (nan : Nat → Nat) (fbn : Nat → Bool) (fln : Nat → Int64) (fhn : Nat → Int64) (tbn : Nat → Bool) (tln : Nat → Int64) (thn : Nat → Int64), v = some (.int 0) ∧ w = (wXo oa (vp_updL of 0 ((nI n).toInt64)) y ad h q (n + 1) (gPg (pst pa n nan) (n + 1)) (n + 1) yb1 yl1 yr1 yb2 yl2 yr2 yb3 yl3 yr3 yuz yul yuh yf1 yg1 yf2 yg2 (pst pa n nan) (pst kd n 8) (pst on n (-1)) (pst ot n (-1)) (pst pt n (jshl 1 (nI n))) (pst fb n fbn) (pst fl n fln) (pst fh n fhn) (pst tb n tbn) (pst tl n tln) (pst th n thn) (pst dg n 0) (pst ds n 0)) ∧ (∀ i9, i9 < 25 → (fbn i9, fln i9, fhn i9) = fzX a.toInt64 b.toInt64 c0.toInt64 d0.toInt64 fr u i9) ∧ (∀ i9, i9 < 25 → (tbn i9, tln i9, thn i9) = nwA fbn fln fhn (i9 + 1)))) 10 168 (va_A (wXo oa of y ad h q n (gPg pa n) n b1 l1 r1 b2 l2 r2 b3 l3 r3 uz ul uh f1 g1 f2 g2 pa kd on ot pt fb fl fh tb tl th dg ds) sz) := by
  refine gMet_ofWH (cc := cL_zero) (maxL := 9) (ret := (some .int)) (hh := [(0, 18, 21, 13), (0, 18, 25, 15)]) (by decide) rfl ?_
  intro pg e s m args below meth c s₁ B hml hv
  obtain ⟨rfl, ⟨hsz, hP, hK, hD0, hE0⟩, hN⟩ := hv
  have hx := B.exec
  have hb := B.bytes
  have hr := B.returns
  have hts := atoms_spec (ws := wsL_zero) B.pre
  have hown : s.vm.findClass RL = some m.cls := findClass_of_methodNamed B.named
  have htab : c.exceptionTable.toList = tableOf [(0, 18, 21, 13), (0, 18, 25, 15)] := vx_table (x := yL_zero) B (hts _ List.mem_cons_self)
  have hlocks := B.notSynchronized
  subst hsz
  obtain ⟨A, hAe⟩ : ∃ A : Nat → Prop, A = va_A (wXo oa of y ad h q n (gPg pa n) n b1 l1 r1 b2 l2 r2 b3 l3 r3 uz ul uh f1 g1 f2 g2 pa kd on ot pt fb fl fh tb tl th dg ds) s.heap.size := ⟨_, rfl⟩
  have hE : gE ad A s s.heap := by rw [hAe]; exact hE0
  have hD : va_D A (wXo oa of y ad h q n (gPg pa n) n b1 l1 r1 b2 l2 r2 b3 l3 r3 uz ul uh f1 g1 f2 g2 pa kd on ot pt fb fl fh tb tl th dg ds) := by rw [hAe]; exact hD0.self (sz := s.heap.size)
  have hA : ∀ q : Nat, s.heap.size ≤ q → A q := fun q h => by rw [hAe]; exact Or.inr h
  have hS : va_S A s.heap s.heap [] := va_S.rf
  have hl := lv_entry ([.ref h, .int a, .int b, .int c0, .int d0, .int fr, .int (nI u), .ref oa]) (n := 9) (Nat.le_of_ble_eq_true rfl)
  rw [lg_entry_eq]
  generalize (lg_sl ([.ref h, .int a, .int b, .int c0, .int d0, .int fr, .int (nI u), .ref oa]) ++ List.replicate (9 - (lg_sl ([.ref h, .int a, .int b, .int c0, .int d0, .int fr, .int (nI u), .ref oa])).length) Slot.unset).toArray = ls at hl ⊢
  have hl : lv_has ls 9 [(0, .ref h), (1, .int a), (2, .int b), (3, .int c0), (4, .int d0), (5, .int fr), (6, .int (nI u)), (7, .ref oa)] := hl
  refine lv_aload hx hb dL_zero_0 (lv_at hl 7 rfl) ?_
  refine lv_iconst (v := 0) hx hb dL_zero_2 (by decide) ?_
  refine lv_aload_n hx hb dL_zero_3 rfl (lv_at hl 0 rfl) ?_
  refine lv_iload_n hx hb dL_zero_4 rfl (lv_at hl 1 rfl) ?_
  refine lv_iload_n hx hb dL_zero_5 rfl (lv_at hl 2 rfl) ?_
  refine lv_iload_n hx hb dL_zero_6 rfl (lv_at hl 3 rfl) ?_
  refine lv_iload hx hb dL_zero_7 (lv_at hl 4 rfl) ?_
  refine lv_iload hx hb dL_zero_9 (lv_at hl 5 rfl) ?_
  refine lv_iload hx hb dL_zero_11 (lv_at hl 6 rfl) ?_
  refine g_callN (ws := [(oa, .inl (y 1, 1, .inr (.inl of)))]) (wc := wXp y ad h q n b1 l1 r1 b2 l2 r2 b3 l3 r3 uz ul uh f1 g1 f2 g2 pa kd on ot pt fb fl fh tb tl th dg ds) (va_runV (As := [.int a, .int b, .int c0, .int d0, .int fr, .int (nI u)]) (rest := [.int 0, .ref oa]) ⟨hx, hb, hml, hown, hts⟩ (c_X7_zero_0 l hfl D y ad s.heap.size h q n b1 l1 r1 b2 l2 r2 b3 l3 r3 uz ul uh f1 g1 f2 g2 pa kd on ot pt fb fl fh tb tl th dg ds a b c0 d0 fr u h1a h2a h1b h2b h1c0 h2c0 h1d0 h2d0 h1fr h2fr hu hn hs) (cwV 6 hts gL_zero_X7_zero rfl rfl rfl (by decide +kernel) ⟨Nat.le_of_ble_eq_true rfl, Nat.le_of_ble_eq_true rfl⟩) (gPX_VA (va_P_r (ws := [(oa, .inl (y 1, 1, .inr (.inl of)))]) hP) (va_D_r (ws := [(oa, .inl (y 1, 1, .inr (.inl of)))]) hD) hK hE hS hA 0 rfl rfl) rfl rfl hl.1 rfl (lv_room (Nat.le_of_ble_eq_true rfl)) dL_zero_13 ⟨Nat.le_of_ble_eq_true rfl, Nat.le_of_ble_eq_true rfl⟩) hP hD hS hA (fun v w1 H locs hf hP hD hS => ?_)
  obtain ⟨yb1_13, yl1_13, yr1_13, yb2_13, yl2_13, yr2_13, yb3_13, yl3_13, yr3_13, yuz_13, yul_13, yuh_13, yf1_13, yg1_13, yf2_13, yg2_13, nan_13, fbn_13, fln_13, fhn_13, tbn_13, tln_13, thn_13, rfl, rfl, h13_0, h13_1⟩ := hf
  have hP : va_P D vwCl (wXo oa of y ad h q (n + 1) (gPg (pst pa n nan_13) (n + 1)) (n + 1) yb1_13 yl1_13 yr1_13 yb2_13 yl2_13 yr2_13 yb3_13 yl3_13 yr3_13 yuz_13 yul_13 yuh_13 yf1_13 yg1_13 yf2_13 yg2_13 (pst pa n nan_13) (pst kd n 8) (pst on n (-1)) (pst ot n (-1)) (pst pt n (jshl 1 (nI n))) (pst fb n fbn_13) (pst fl n fln_13) (pst fh n fhn_13) (pst tb n tbn_13) (pst tl n tln_13) (pst th n thn_13) (pst dg n 0) (pst ds n 0)) H := hP
  have hD : va_D A (wXo oa of y ad h q (n + 1) (gPg (pst pa n nan_13) (n + 1)) (n + 1) yb1_13 yl1_13 yr1_13 yb2_13 yl2_13 yr2_13 yb3_13 yl3_13 yr3_13 yuz_13 yul_13 yuh_13 yf1_13 yg1_13 yf2_13 yg2_13 (pst pa n nan_13) (pst kd n 8) (pst on n (-1)) (pst ot n (-1)) (pst pt n (jshl 1 (nI n))) (pst fb n fbn_13) (pst fl n fln_13) (pst fh n fhn_13) (pst tb n tbn_13) (pst tl n tln_13) (pst th n thn_13) (pst dg n 0) (pst ds n 0)) := hD
  refine lv_i2l (v := (nI n).toInt64) hx hb dL_zero_16 rfl ?_
  refine g_last (k := 0) (x := (nI n).toInt64) hx hb hK.1 hP hD hS 0 1 rfl rfl (by omega) (by decide) dL_zero_17 (fun H locs hP hD hS => ?_)
  have hP : va_P D vwCl (wXo oa (vp_updL of 0 ((nI n).toInt64)) y ad h q (n + 1) (gPg (pst pa n nan_13) (n + 1)) (n + 1) yb1_13 yl1_13 yr1_13 yb2_13 yl2_13 yr2_13 yb3_13 yl3_13 yr3_13 yuz_13 yul_13 yuh_13 yf1_13 yg1_13 yf2_13 yg2_13 (pst pa n nan_13) (pst kd n 8) (pst on n (-1)) (pst ot n (-1)) (pst pt n (jshl 1 (nI n))) (pst fb n fbn_13) (pst fl n fln_13) (pst fh n fhn_13) (pst tb n tbn_13) (pst tl n tln_13) (pst th n thn_13) (pst dg n 0) (pst ds n 0)) H := hP
  have hD : va_D A (wXo oa (vp_updL of 0 ((nI n).toInt64)) y ad h q (n + 1) (gPg (pst pa n nan_13) (n + 1)) (n + 1) yb1_13 yl1_13 yr1_13 yb2_13 yl2_13 yr2_13 yb3_13 yl3_13 yr3_13 yuz_13 yul_13 yuh_13 yf1_13 yg1_13 yf2_13 yg2_13 (pst pa n nan_13) (pst kd n 8) (pst on n (-1)) (pst ot n (-1)) (pst pt n (jshl 1 (nI n))) (pst fb n fbn_13) (pst fl n fln_13) (pst fh n fhn_13) (pst tb n tbn_13) (pst tl n tln_13) (pst th n thn_13) (pst dg n 0) (pst ds n 0)) := hD
  refine lv_goto (tgt := 29) hx hb dL_zero_18 (by decide) ?_
  refine lv_iconst (v := 0) hx hb dL_zero_29 (by decide) ?_
  have hP9 := hP
  have hD9 := hD
  exact W.iret (v := 0) hx hb hr (fun t ht hW => ⟨⟨some (.int (0)), wXo oa (vp_updL of 0 ((nI n).toInt64)) y ad h q (n + 1) (gPg (pst pa n nan_13) (n + 1)) (n + 1) yb1_13 yl1_13 yr1_13 yb2_13 yl2_13 yr2_13 yb3_13 yl3_13 yr3_13 yuz_13 yul_13 yuh_13 yf1_13 yg1_13 yf2_13 yg2_13 (pst pa n nan_13) (pst kd n 8) (pst on n (-1)) (pst ot n (-1)) (pst pt n (jshl 1 (nI n))) (pst fb n fbn_13) (pst fl n fln_13) (pst fh n fhn_13) (pst tb n tbn_13) (pst tl n tln_13) (pst th n thn_13) (pst dg n 0) (pst ds n 0), rfl, ⟨yb1_13, yl1_13, yr1_13, yb2_13, yl2_13, yr2_13, yb3_13, yl3_13, yr3_13, yuz_13, yul_13, yuh_13, yf1_13, yg1_13, yf2_13, yg2_13, nan_13, fbn_13, fln_13, fhn_13, tbn_13, tln_13, thn_13, rfl, rfl, h13_0, h13_1⟩, by rw [← hAe]; exact hD9, by rw [ht]; exact hP9⟩, by rw [← hAe]; exact hS.F ht⟩) (by rw [← hAe]; exact hS.2.2) dL_zero_30
set_option maxHeartbeats 4000000 in
set_option maxRecDepth 100000 in
theorem c_L_raw_X1 (l : Launch) (hfl : l.stackTraces = false) (D : va_G) (y : Nat → ClassId) (ad : Nat → Nat) (sz : Nat) (h : Nat) (q : Nat → Nat) (n : Nat) (b1 : Bool) (l1 r1 : Int64) (b2 : Bool) (l2 r2 : Int64) (b3 : Bool) (l3 r3 : Int64) (uz : Nat → Bool) (ul uh : Nat → Int64) (f1 g1 f2 g2 : Int64) (pa : Nat → Nat → Nat) (kd : Nat → Nat) (on ot : Nat → Int32) (pt : Nat → Int64) (fb : Nat → Nat → Bool) (fl fh : Nat → Nat → Int64) (tb : Nat → Nat → Bool) (tl th : Nat → Nat → Int64) (dg : Nat → Int32) (ds : Nat → Int64) (a b : Int32) (bb : Bool) (oa : Nat) (of : Nat → Int64) (hbad : a < 0 ∨ nI n ≤ a) : Met l yL_raw wsL_raw ({ frames := 8, cells := 1, slots := 6, locals := 138 } : Room) (gPN D y ad [.ref h, .int a, .int b, .int (gB bb), .ref oa] (wXo oa of y ad h q n (gPg pa n) n b1 l1 r1 b2 l2 r2 b3 l3 r3 uz ul uh f1 g1 f2 g2 pa kd on ot pt fb fl fh tb tl th dg ds) sz) (gQn D (wXo oa of y ad h q n (gPg pa n) n b1 l1 r1 b2 l2 r2 b3 l3 r3 uz ul uh f1 g1 f2 g2 pa kd on ot pt fb fl fh tb tl th dg ds) (fun v w => ∃ (yb1 : Bool) (yl1 : Int64) (yr1 : Int64) (yb2 : Bool) (yl2 : Int64) (yr2 : Int64) (yb3 : Bool) (yl3 : Int64) (yr3 : Int64) (yuz : Nat → Bool) (yul : Nat → Int64) (yuh : Nat → Int64) (yf1 : Int64) (yg1 : Int64) (yf2 : Int64) (yg2 : Int64), v = some (.int 1) ∧ w = (wXo oa of y ad h q n (gPg pa n) n yb1 yl1 yr1 yb2 yl2 yr2 yb3 yl3 yr3 yuz yul yuh yf1 yg1 yf2 yg2 pa kd on ot pt fb fl fh tb tl th dg ds))) 1 6 (va_A (wXo oa of y ad h q n (gPg pa n) n b1 l1 r1 b2 l2 r2 b3 l3 r3 uz ul uh f1 g1 f2 g2 pa kd on ot pt fb fl fh tb tl th dg ds) sz) := by
  refine gMet_ofWH (cc := cL_raw) (maxL := 6) (ret := (some .int)) (hh := [(0, 11, 14, 20), (0, 11, 18, 13), (0, 11, 22, 15)]) (by decide) rfl ?_
  intro pg e s m args below meth c s₁ B hml hv
  obtain ⟨rfl, ⟨hsz, hP, hK, hD0, hE0⟩, hN⟩ := hv
  have hx := B.exec
  have hb := B.bytes
  have hr := B.returns
  have hts := atoms_spec (ws := wsL_raw) B.pre
  have hown : s.vm.findClass RL = some m.cls := findClass_of_methodNamed B.named
  have htab : c.exceptionTable.toList = tableOf [(0, 11, 14, 20), (0, 11, 18, 13), (0, 11, 22, 15)] := vx_table (x := yL_raw) B (hts _ List.mem_cons_self)
  have hlocks := B.notSynchronized
  subst hsz
  obtain ⟨A, hAe⟩ : ∃ A : Nat → Prop, A = va_A (wXo oa of y ad h q n (gPg pa n) n b1 l1 r1 b2 l2 r2 b3 l3 r3 uz ul uh f1 g1 f2 g2 pa kd on ot pt fb fl fh tb tl th dg ds) s.heap.size := ⟨_, rfl⟩
  have hE : gE ad A s s.heap := by rw [hAe]; exact hE0
  have hD : va_D A (wXo oa of y ad h q n (gPg pa n) n b1 l1 r1 b2 l2 r2 b3 l3 r3 uz ul uh f1 g1 f2 g2 pa kd on ot pt fb fl fh tb tl th dg ds) := by rw [hAe]; exact hD0.self (sz := s.heap.size)
  have hA : ∀ q : Nat, s.heap.size ≤ q → A q := fun q h => by rw [hAe]; exact Or.inr h
  have hS : va_S A s.heap s.heap [] := va_S.rf
  have hl := lv_entry ([.ref h, .int a, .int b, .int (gB bb), .ref oa]) (n := 6) (Nat.le_of_ble_eq_true rfl)
  rw [lg_entry_eq]
  generalize (lg_sl ([.ref h, .int a, .int b, .int (gB bb), .ref oa]) ++ List.replicate (6 - (lg_sl ([.ref h, .int a, .int b, .int (gB bb), .ref oa])).length) Slot.unset).toArray = ls at hl ⊢
  have hl : lv_has ls 6 [(0, .ref h), (1, .int a), (2, .int b), (3, .int (gB bb)), (4, .ref oa)] := hl
  refine lv_aload hx hb dL_raw_0 (lv_at hl 4 rfl) ?_
  refine lv_iconst (v := 0) hx hb dL_raw_2 (by decide) ?_
  refine lv_aload_n hx hb dL_raw_3 rfl (lv_at hl 0 rfl) ?_
  refine lv_iload_n hx hb dL_raw_4 rfl (lv_at hl 1 rfl) ?_
  refine lv_iload_n hx hb dL_raw_5 rfl (lv_at hl 2 rfl) ?_
  refine lv_iload_n hx hb dL_raw_6 rfl (lv_at hl 3 rfl) ?_
  refine g_catch (name := gIOB) (ws := [(oa, .inl (y 1, 1, .inr (.inl of)))]) (vx_runV (As := [.int a, .int b, .int (gB bb)]) (rest := [.int 0, .ref oa]) ⟨hx, hb, hml, hown, hts⟩ (c_X7_raw_X1 l hfl D y ad s.heap.size h q n b1 l1 r1 b2 l2 r2 b3 l3 r3 uz ul uh f1 g1 f2 g2 pa kd on ot pt fb fl fh tb tl th dg ds a b bb hbad) (cwV 3 hts gL_raw_X7_raw rfl rfl rfl (by decide +kernel) ⟨Nat.le_of_ble_eq_true rfl, Nat.le_of_ble_eq_true rfl⟩) (gPX_VA (va_P_r (ws := [(oa, .inl (y 1, 1, .inr (.inl of)))]) hP) (va_D_r (ws := [(oa, .inl (y 1, 1, .inr (.inl of)))]) hD) hK hE hS hA 0 rfl rfl) rfl rfl hl.1 rfl (lv_room (Nat.le_of_ble_eq_true rfl)) dL_raw_7 ⟨Nat.le_of_ble_eq_true rfl, Nat.le_of_ble_eq_true rfl⟩) hP hD hS hA hown [] ⟨0, 11, 14, 20⟩ [⟨0, 11, 18, 13⟩, ⟨0, 11, 22, 15⟩] (by rw [htab]; rfl) (fun z hz => absurd hz List.not_mem_nil) (by decide) (by decide) (hts (.classLink RL 20 "java/lang/IndexOutOfBoundsException") (List.mem_of_getElem? (i := 1) rfl)) (hE.cw (Cond.castable gIOB gIOB) (List.mem_of_getElem? (i := 5) rfl)) (fun q9 w1 H locs hf hP hD hS => ?_)
  obtain ⟨b1_7, l1_7, r1_7, b2_7, l2_7, r2_7, b3_7, l3_7, r3_7, uz_7, ul_7, uh_7, f1_7, g1_7, f2_7, g2_7, rfl⟩ := hf
  have hP : va_P D vwCl (wXo oa of y ad h q n (gPg pa n) n b1_7 l1_7 r1_7 b2_7 l2_7 r2_7 b3_7 l3_7 r3_7 uz_7 ul_7 uh_7 f1_7 g1_7 f2_7 g2_7 pa kd on ot pt fb fl fh tb tl th dg ds) H := hP
  have hD : va_D A (wXo oa of y ad h q n (gPg pa n) n b1_7 l1_7 r1_7 b2_7 l2_7 r2_7 b3_7 l3_7 r3_7 uz_7 ul_7 uh_7 f1_7 g1_7 f2_7 g2_7 pa kd on ot pt fb fl fh tb tl th dg ds) := hD
  refine lv_astore (lv' := [(5, .ref q9), (0, .ref h), (1, .int a), (2, .int b), (3, .int (gB bb)), (4, .ref oa)]) hx hb dL_raw_14 hl (by decide) rfl (fun ls hl => ?_)
  refine lv_iconst (v := 1) hx hb dL_raw_16 (by decide) ?_
  have hP9 := hP
  have hD9 := hD
  exact W.iret (v := 1) hx hb hr (fun t ht hW => ⟨⟨some (.int (1)), wXo oa of y ad h q n (gPg pa n) n b1_7 l1_7 r1_7 b2_7 l2_7 r2_7 b3_7 l3_7 r3_7 uz_7 ul_7 uh_7 f1_7 g1_7 f2_7 g2_7 pa kd on ot pt fb fl fh tb tl th dg ds, rfl, ⟨b1_7, l1_7, r1_7, b2_7, l2_7, r2_7, b3_7, l3_7, r3_7, uz_7, ul_7, uh_7, f1_7, g1_7, f2_7, g2_7, rfl, rfl⟩, by rw [← hAe]; exact hD9, by rw [ht]; exact hP9⟩, by rw [← hAe]; exact hS.F ht⟩) (by rw [← hAe]; exact hS.2.2) dL_raw_17
set_option maxHeartbeats 4000000 in
set_option maxRecDepth 100000 in
theorem c_L_raw_X2 (l : Launch) (hfl : l.stackTraces = false) (D : va_G) (y : Nat → ClassId) (ad : Nat → Nat) (sz : Nat) (h : Nat) (q : Nat → Nat) (n : Nat) (b1 : Bool) (l1 r1 : Int64) (b2 : Bool) (l2 r2 : Int64) (b3 : Bool) (l3 r3 : Int64) (uz : Nat → Bool) (ul uh : Nat → Int64) (f1 g1 f2 g2 : Int64) (pa : Nat → Nat → Nat) (kd : Nat → Nat) (on ot : Nat → Int32) (pt : Nat → Int64) (fb : Nat → Nat → Bool) (fl fh : Nat → Nat → Int64) (tb : Nat → Nat → Bool) (tl th : Nat → Nat → Int64) (dg : Nat → Int32) (ds : Nat → Int64) (k : Nat) (b : Int32) (bb : Bool) (oa : Nat) (of : Nat → Int64) (hn : n ≤ 40) (hk : k < n) (hp : b < 0 ∨ ¬ b ≤ 24) : Met l yL_raw wsL_raw ({ frames := 8, cells := 1, slots := 6, locals := 138 } : Room) (gPN D y ad [.ref h, .int (nI k), .int b, .int (gB bb), .ref oa] (wXo oa of y ad h q n (gPg pa n) n b1 l1 r1 b2 l2 r2 b3 l3 r3 uz ul uh f1 g1 f2 g2 pa kd on ot pt fb fl fh tb tl th dg ds) sz) (gQn D (wXo oa of y ad h q n (gPg pa n) n b1 l1 r1 b2 l2 r2 b3 l3 r3 uz ul uh f1 g1 f2 g2 pa kd on ot pt fb fl fh tb tl th dg ds) (fun v w => ∃ (yb1 : Bool) (yl1 : Int64) (yr1 : Int64) (yb2 : Bool) (yl2 : Int64) (yr2 : Int64) (yb3 : Bool) (yl3 : Int64) (yr3 : Int64) (yuz : Nat → Bool) (yul : Nat → Int64) (yuh : Nat → Int64) (yf1 : Int64) (yg1 : Int64) (yf2 : Int64) (yg2 : Int64), v = some (.int 2) ∧ w = (wXo oa of y ad h q n (gPg pa n) n yb1 yl1 yr1 yb2 yl2 yr2 yb3 yl3 yr3 yuz yul yuh yf1 yg1 yf2 yg2 pa kd on ot pt fb fl fh tb tl th dg ds))) 1 6 (va_A (wXo oa of y ad h q n (gPg pa n) n b1 l1 r1 b2 l2 r2 b3 l3 r3 uz ul uh f1 g1 f2 g2 pa kd on ot pt fb fl fh tb tl th dg ds) sz) := by
  refine gMet_ofWH (cc := cL_raw) (maxL := 6) (ret := (some .int)) (hh := [(0, 11, 14, 20), (0, 11, 18, 13), (0, 11, 22, 15)]) (by decide) rfl ?_
  intro pg e s m args below meth c s₁ B hml hv
  obtain ⟨rfl, ⟨hsz, hP, hK, hD0, hE0⟩, hN⟩ := hv
  have hx := B.exec
  have hb := B.bytes
  have hr := B.returns
  have hts := atoms_spec (ws := wsL_raw) B.pre
  have hown : s.vm.findClass RL = some m.cls := findClass_of_methodNamed B.named
  have htab : c.exceptionTable.toList = tableOf [(0, 11, 14, 20), (0, 11, 18, 13), (0, 11, 22, 15)] := vx_table (x := yL_raw) B (hts _ List.mem_cons_self)
  have hlocks := B.notSynchronized
  subst hsz
  obtain ⟨A, hAe⟩ : ∃ A : Nat → Prop, A = va_A (wXo oa of y ad h q n (gPg pa n) n b1 l1 r1 b2 l2 r2 b3 l3 r3 uz ul uh f1 g1 f2 g2 pa kd on ot pt fb fl fh tb tl th dg ds) s.heap.size := ⟨_, rfl⟩
  have hE : gE ad A s s.heap := by rw [hAe]; exact hE0
  have hD : va_D A (wXo oa of y ad h q n (gPg pa n) n b1 l1 r1 b2 l2 r2 b3 l3 r3 uz ul uh f1 g1 f2 g2 pa kd on ot pt fb fl fh tb tl th dg ds) := by rw [hAe]; exact hD0.self (sz := s.heap.size)
  have hA : ∀ q : Nat, s.heap.size ≤ q → A q := fun q h => by rw [hAe]; exact Or.inr h
  have hS : va_S A s.heap s.heap [] := va_S.rf
  have hl := lv_entry ([.ref h, .int (nI k), .int b, .int (gB bb), .ref oa]) (n := 6) (Nat.le_of_ble_eq_true rfl)
  rw [lg_entry_eq]
  generalize (lg_sl ([.ref h, .int (nI k), .int b, .int (gB bb), .ref oa]) ++ List.replicate (6 - (lg_sl ([.ref h, .int (nI k), .int b, .int (gB bb), .ref oa])).length) Slot.unset).toArray = ls at hl ⊢
  have hl : lv_has ls 6 [(0, .ref h), (1, .int (nI k)), (2, .int b), (3, .int (gB bb)), (4, .ref oa)] := hl
  refine lv_aload hx hb dL_raw_0 (lv_at hl 4 rfl) ?_
  refine lv_iconst (v := 0) hx hb dL_raw_2 (by decide) ?_
  refine lv_aload_n hx hb dL_raw_3 rfl (lv_at hl 0 rfl) ?_
  refine lv_iload_n hx hb dL_raw_4 rfl (lv_at hl 1 rfl) ?_
  refine lv_iload_n hx hb dL_raw_5 rfl (lv_at hl 2 rfl) ?_
  refine lv_iload_n hx hb dL_raw_6 rfl (lv_at hl 3 rfl) ?_
  refine g_catch (name := gIAE) (ws := [(oa, .inl (y 1, 1, .inr (.inl of)))]) (vx_runV (As := [.int (nI k), .int b, .int (gB bb)]) (rest := [.int 0, .ref oa]) ⟨hx, hb, hml, hown, hts⟩ (c_X7_raw_X2 l hfl D y ad s.heap.size h q n b1 l1 r1 b2 l2 r2 b3 l3 r3 uz ul uh f1 g1 f2 g2 pa kd on ot pt fb fl fh tb tl th dg ds k b bb hn hk hp) (cwV 3 hts gL_raw_X7_raw rfl rfl rfl (by decide +kernel) ⟨Nat.le_of_ble_eq_true rfl, Nat.le_of_ble_eq_true rfl⟩) (gPX_VA (va_P_r (ws := [(oa, .inl (y 1, 1, .inr (.inl of)))]) hP) (va_D_r (ws := [(oa, .inl (y 1, 1, .inr (.inl of)))]) hD) hK hE hS hA 0 rfl rfl) rfl rfl hl.1 rfl (lv_room (Nat.le_of_ble_eq_true rfl)) dL_raw_7 ⟨Nat.le_of_ble_eq_true rfl, Nat.le_of_ble_eq_true rfl⟩) hP hD hS hA hown [⟨0, 11, 14, 20⟩] ⟨0, 11, 18, 13⟩ [⟨0, 11, 22, 15⟩] (by rw [htab]; rfl) (fun z hz => by rcases List.mem_singleton.mp hz with rfl; exact Or.inr ⟨by decide, _, (hts (.classLink RL 20 "java/lang/IndexOutOfBoundsException") (List.mem_of_getElem? (i := 1) rfl)), hN.1⟩) (by decide) (by decide) (hts (.classLink RL 13 "java/lang/IllegalArgumentException") (List.mem_of_getElem? (i := 2) rfl)) (hE.cw (Cond.castable gIAE gIAE) (List.mem_of_getElem? (i := 3) rfl)) (fun q9 w1 H locs hf hP hD hS => ?_)
  obtain ⟨b1_7, l1_7, r1_7, b2_7, l2_7, r2_7, b3_7, l3_7, r3_7, uz_7, ul_7, uh_7, f1_7, g1_7, f2_7, g2_7, rfl⟩ := hf
  have hP : va_P D vwCl (wXo oa of y ad h q n (gPg pa n) n b1_7 l1_7 r1_7 b2_7 l2_7 r2_7 b3_7 l3_7 r3_7 uz_7 ul_7 uh_7 f1_7 g1_7 f2_7 g2_7 pa kd on ot pt fb fl fh tb tl th dg ds) H := hP
  have hD : va_D A (wXo oa of y ad h q n (gPg pa n) n b1_7 l1_7 r1_7 b2_7 l2_7 r2_7 b3_7 l3_7 r3_7 uz_7 ul_7 uh_7 f1_7 g1_7 f2_7 g2_7 pa kd on ot pt fb fl fh tb tl th dg ds) := hD
  refine lv_astore (lv' := [(5, .ref q9), (0, .ref h), (1, .int (nI k)), (2, .int b), (3, .int (gB bb)), (4, .ref oa)]) hx hb dL_raw_18 hl (by decide) rfl (fun ls hl => ?_)
  refine lv_iconst (v := 2) hx hb dL_raw_20 (by decide) ?_
  have hP9 := hP
  have hD9 := hD
  exact W.iret (v := 2) hx hb hr (fun t ht hW => ⟨⟨some (.int (2)), wXo oa of y ad h q n (gPg pa n) n b1_7 l1_7 r1_7 b2_7 l2_7 r2_7 b3_7 l3_7 r3_7 uz_7 ul_7 uh_7 f1_7 g1_7 f2_7 g2_7 pa kd on ot pt fb fl fh tb tl th dg ds, rfl, ⟨b1_7, l1_7, r1_7, b2_7, l2_7, r2_7, b3_7, l3_7, r3_7, uz_7, ul_7, uh_7, f1_7, g1_7, f2_7, g2_7, rfl, rfl⟩, by rw [← hAe]; exact hD9, by rw [ht]; exact hP9⟩, by rw [← hAe]; exact hS.F ht⟩) (by rw [← hAe]; exact hS.2.2) dL_raw_21
set_option maxHeartbeats 4000000 in
set_option maxRecDepth 100000 in
theorem c_L_raw_X3 (l : Launch) (hfl : l.stackTraces = false) (D : va_G) (y : Nat → ClassId) (ad : Nat → Nat) (sz : Nat) (h : Nat) (q : Nat → Nat) (n : Nat) (b1 : Bool) (l1 r1 : Int64) (b2 : Bool) (l2 r2 : Int64) (b3 : Bool) (l3 r3 : Int64) (uz : Nat → Bool) (ul uh : Nat → Int64) (f1 g1 f2 g2 : Int64) (pa : Nat → Nat → Nat) (kd : Nat → Nat) (on ot : Nat → Int32) (pt : Nat → Int64) (fb : Nat → Nat → Bool) (fl fh : Nat → Nat → Int64) (tb : Nat → Nat → Bool) (tl th : Nat → Nat → Int64) (dg : Nat → Int32) (ds : Nat → Int64) (k p : Nat) (bb : Bool) (oa : Nat) (of : Nat → Int64) (hn : n ≤ 40) (hk : k < n) (hp : p < 25) (hf : ¬ sp_X6_load_b1 (fb k) (fl k) (fh k) p = true) : Met l yL_raw wsL_raw ({ frames := 8, cells := 1, slots := 6, locals := 137 } : Room) (gPN D y ad [.ref h, .int (nI k), .int (nI p), .int (gB bb), .ref oa] (wXo oa of y ad h q n (gPg pa n) n b1 l1 r1 b2 l2 r2 b3 l3 r3 uz ul uh f1 g1 f2 g2 pa kd on ot pt fb fl fh tb tl th dg ds) sz) (gQn D (wXo oa of y ad h q n (gPg pa n) n b1 l1 r1 b2 l2 r2 b3 l3 r3 uz ul uh f1 g1 f2 g2 pa kd on ot pt fb fl fh tb tl th dg ds) (fun v w => ∃ (yb1 : Bool) (yl1 : Int64) (yr1 : Int64) (yb2 : Bool) (yl2 : Int64) (yr2 : Int64) (yb3 : Bool) (yl3 : Int64) (yr3 : Int64) (yuz : Nat → Bool) (yul : Nat → Int64) (yuh : Nat → Int64) (yf1 : Int64) (yg1 : Int64) (yf2 : Int64) (yg2 : Int64), v = some (.int 3) ∧ w = (wXo oa of y ad h q n (gPg pa n) n yb1 yl1 yr1 yb2 yl2 yr2 yb3 yl3 yr3 yuz yul yuh yf1 yg1 yf2 yg2 pa kd on ot pt fb fl fh tb tl th dg ds))) 1 6 (va_A (wXo oa of y ad h q n (gPg pa n) n b1 l1 r1 b2 l2 r2 b3 l3 r3 uz ul uh f1 g1 f2 g2 pa kd on ot pt fb fl fh tb tl th dg ds) sz) := by
  refine gMet_ofWH (cc := cL_raw) (maxL := 6) (ret := (some .int)) (hh := [(0, 11, 14, 20), (0, 11, 18, 13), (0, 11, 22, 15)]) (by decide) rfl ?_
  intro pg e s m args below meth c s₁ B hml hv
  obtain ⟨rfl, ⟨hsz, hP, hK, hD0, hE0⟩, hN⟩ := hv
  have hx := B.exec
  have hb := B.bytes
  have hr := B.returns
  have hts := atoms_spec (ws := wsL_raw) B.pre
  have hown : s.vm.findClass RL = some m.cls := findClass_of_methodNamed B.named
  have htab : c.exceptionTable.toList = tableOf [(0, 11, 14, 20), (0, 11, 18, 13), (0, 11, 22, 15)] := vx_table (x := yL_raw) B (hts _ List.mem_cons_self)
  have hlocks := B.notSynchronized
  subst hsz
  obtain ⟨A, hAe⟩ : ∃ A : Nat → Prop, A = va_A (wXo oa of y ad h q n (gPg pa n) n b1 l1 r1 b2 l2 r2 b3 l3 r3 uz ul uh f1 g1 f2 g2 pa kd on ot pt fb fl fh tb tl th dg ds) s.heap.size := ⟨_, rfl⟩
  have hE : gE ad A s s.heap := by rw [hAe]; exact hE0
  have hD : va_D A (wXo oa of y ad h q n (gPg pa n) n b1 l1 r1 b2 l2 r2 b3 l3 r3 uz ul uh f1 g1 f2 g2 pa kd on ot pt fb fl fh tb tl th dg ds) := by rw [hAe]; exact hD0.self (sz := s.heap.size)
  have hA : ∀ q : Nat, s.heap.size ≤ q → A q := fun q h => by rw [hAe]; exact Or.inr h
  have hS : va_S A s.heap s.heap [] := va_S.rf
  have hl := lv_entry ([.ref h, .int (nI k), .int (nI p), .int (gB bb), .ref oa]) (n := 6) (Nat.le_of_ble_eq_true rfl)
  rw [lg_entry_eq]
  generalize (lg_sl ([.ref h, .int (nI k), .int (nI p), .int (gB bb), .ref oa]) ++ List.replicate (6 - (lg_sl ([.ref h, .int (nI k), .int (nI p), .int (gB bb), .ref oa])).length) Slot.unset).toArray = ls at hl ⊢
  have hl : lv_has ls 6 [(0, .ref h), (1, .int (nI k)), (2, .int (nI p)), (3, .int (gB bb)), (4, .ref oa)] := hl
  refine lv_aload hx hb dL_raw_0 (lv_at hl 4 rfl) ?_
  refine lv_iconst (v := 0) hx hb dL_raw_2 (by decide) ?_
  refine lv_aload_n hx hb dL_raw_3 rfl (lv_at hl 0 rfl) ?_
  refine lv_iload_n hx hb dL_raw_4 rfl (lv_at hl 1 rfl) ?_
  refine lv_iload_n hx hb dL_raw_5 rfl (lv_at hl 2 rfl) ?_
  refine lv_iload_n hx hb dL_raw_6 rfl (lv_at hl 3 rfl) ?_
  refine g_catch (name := gISE) (ws := [(oa, .inl (y 1, 1, .inr (.inl of)))]) (vx_runV (As := [.int (nI k), .int (nI p), .int (gB bb)]) (rest := [.int 0, .ref oa]) ⟨hx, hb, hml, hown, hts⟩ (c_X7_raw_X3 l hfl D y ad s.heap.size h q n b1 l1 r1 b2 l2 r2 b3 l3 r3 uz ul uh f1 g1 f2 g2 pa kd on ot pt fb fl fh tb tl th dg ds k p bb hn hk hp hf) (cwV 3 hts gL_raw_X7_raw rfl rfl rfl (by decide +kernel) ⟨Nat.le_of_ble_eq_true rfl, Nat.le_of_ble_eq_true rfl⟩) (gPX_VA (va_P_r (ws := [(oa, .inl (y 1, 1, .inr (.inl of)))]) hP) (va_D_r (ws := [(oa, .inl (y 1, 1, .inr (.inl of)))]) hD) hK hE hS hA 0 rfl rfl) rfl rfl hl.1 rfl (lv_room (Nat.le_of_ble_eq_true rfl)) dL_raw_7 ⟨Nat.le_of_ble_eq_true rfl, Nat.le_of_ble_eq_true rfl⟩) hP hD hS hA hown [⟨0, 11, 14, 20⟩, ⟨0, 11, 18, 13⟩] ⟨0, 11, 22, 15⟩ [] (by rw [htab]; rfl) (fun z hz => by rcases List.mem_cons.mp hz with rfl | hz; exact Or.inr ⟨by decide, _, (hts (.classLink RL 20 "java/lang/IndexOutOfBoundsException") (List.mem_of_getElem? (i := 1) rfl)), hN.2.1⟩; rcases List.mem_singleton.mp hz with rfl; exact Or.inr ⟨by decide, _, (hts (.classLink RL 13 "java/lang/IllegalArgumentException") (List.mem_of_getElem? (i := 2) rfl)), hN.2.2⟩) (by decide) (by decide) (hts (.classLink RL 15 "java/lang/IllegalStateException") (List.mem_of_getElem? (i := 3) rfl)) (hE.cw (Cond.castable gISE gISE) (List.mem_of_getElem? (i := 4) rfl)) (fun q9 w1 H locs hf hP hD hS => ?_)
  obtain ⟨b1_7, l1_7, r1_7, b2_7, l2_7, r2_7, b3_7, l3_7, r3_7, uz_7, ul_7, uh_7, f1_7, g1_7, f2_7, g2_7, rfl⟩ := hf
  have hP : va_P D vwCl (wXo oa of y ad h q n (gPg pa n) n b1_7 l1_7 r1_7 b2_7 l2_7 r2_7 b3_7 l3_7 r3_7 uz_7 ul_7 uh_7 f1_7 g1_7 f2_7 g2_7 pa kd on ot pt fb fl fh tb tl th dg ds) H := hP
  have hD : va_D A (wXo oa of y ad h q n (gPg pa n) n b1_7 l1_7 r1_7 b2_7 l2_7 r2_7 b3_7 l3_7 r3_7 uz_7 ul_7 uh_7 f1_7 g1_7 f2_7 g2_7 pa kd on ot pt fb fl fh tb tl th dg ds) := hD
  refine lv_astore (lv' := [(5, .ref q9), (0, .ref h), (1, .int (nI k)), (2, .int (nI p)), (3, .int (gB bb)), (4, .ref oa)]) hx hb dL_raw_22 hl (by decide) rfl (fun ls hl => ?_)
  refine lv_iconst (v := 3) hx hb dL_raw_24 (by decide) ?_
  have hP9 := hP
  have hD9 := hD
  exact W.iret (v := 3) hx hb hr (fun t ht hW => ⟨⟨some (.int (3)), wXo oa of y ad h q n (gPg pa n) n b1_7 l1_7 r1_7 b2_7 l2_7 r2_7 b3_7 l3_7 r3_7 uz_7 ul_7 uh_7 f1_7 g1_7 f2_7 g2_7 pa kd on ot pt fb fl fh tb tl th dg ds, rfl, ⟨b1_7, l1_7, r1_7, b2_7, l2_7, r2_7, b3_7, l3_7, r3_7, uz_7, ul_7, uh_7, f1_7, g1_7, f2_7, g2_7, rfl, rfl⟩, by rw [← hAe]; exact hD9, by rw [ht]; exact hP9⟩, by rw [← hAe]; exact hS.F ht⟩) (by rw [← hAe]; exact hS.2.2) dL_raw_25
set_option maxHeartbeats 4000000 in
set_option maxRecDepth 100000 in
theorem c_L_raw_0 (l : Launch) (hfl : l.stackTraces = false) (D : va_G) (y : Nat → ClassId) (ad : Nat → Nat) (sz : Nat) (h : Nat) (q : Nat → Nat) (n : Nat) (b1 : Bool) (l1 r1 : Int64) (b2 : Bool) (l2 r2 : Int64) (b3 : Bool) (l3 r3 : Int64) (uz : Nat → Bool) (ul uh : Nat → Int64) (f1 g1 f2 g2 : Int64) (pa : Nat → Nat → Nat) (kd : Nat → Nat) (on ot : Nat → Int32) (pt : Nat → Int64) (fb : Nat → Nat → Bool) (fl fh : Nat → Nat → Int64) (tb : Nat → Nat → Bool) (tl th : Nat → Nat → Int64) (dg : Nat → Int32) (ds : Nat → Int64) (k p : Nat) (bb : Bool) (oa : Nat) (of : Nat → Int64) (hn : n ≤ 40) (hk : k < n) (hp : p < 25) (hf : sp_X6_load_b1 (fb k) (fl k) (fh k) p = true) : Met l yL_raw wsL_raw ({ frames := 3, cells := 0, slots := 0, locals := 70 } : Room) (gPN D y ad [.ref h, .int (nI k), .int (nI p), .int (gB bb), .ref oa] (wXo oa of y ad h q n (gPg pa n) n b1 l1 r1 b2 l2 r2 b3 l3 r3 uz ul uh f1 g1 f2 g2 pa kd on ot pt fb fl fh tb tl th dg ds) sz) (gQn D (wXo oa of y ad h q n (gPg pa n) n b1 l1 r1 b2 l2 r2 b3 l3 r3 uz ul uh f1 g1 f2 g2 pa kd on ot pt fb fl fh tb tl th dg ds) (fun v w => ∃ (yb1 : Bool) (yl1 : Int64) (yr1 : Int64) (yb2 : Bool) (yl2 : Int64) (yr2 : Int64) (yb3 : Bool) (yl3 : Int64) (yr3 : Int64) (yuz : Nat → Bool) (yul : Nat → Int64) (yuh : Nat → Int64) (yf1 : Int64) (yg1 : Int64) (yf2 : Int64) (yg2 : Int64), v = some (.int 0) ∧ w = (wXo oa (vp_updL of 0 (gSl bb (sp_X6_load_hi1 (fb k) (fl k) (fh k) p) (sp_X6_load_lo1 (fb k) (fl k) (fh k) p))) y ad h q n (gPg pa n) n yb1 yl1 yr1 yb2 yl2 yr2 yb3 yl3 yr3 yuz yul yuh yf1 yg1 yf2 yg2 pa kd on ot pt fb fl fh tb tl th dg ds))) 0 0 (va_A (wXo oa of y ad h q n (gPg pa n) n b1 l1 r1 b2 l2 r2 b3 l3 r3 uz ul uh f1 g1 f2 g2 pa kd on ot pt fb fl fh tb tl th dg ds) sz) := by
  refine gMet_ofWH (cc := cL_raw) (maxL := 6) (ret := (some .int)) (hh := [(0, 11, 14, 20), (0, 11, 18, 13), (0, 11, 22, 15)]) (by decide) rfl ?_
  intro pg e s m args below meth c s₁ B hml hv
  obtain ⟨rfl, ⟨hsz, hP, hK, hD0, hE0⟩, hN⟩ := hv
  have hx := B.exec
  have hb := B.bytes
  have hr := B.returns
  have hts := atoms_spec (ws := wsL_raw) B.pre
  have hown : s.vm.findClass RL = some m.cls := findClass_of_methodNamed B.named
  have htab : c.exceptionTable.toList = tableOf [(0, 11, 14, 20), (0, 11, 18, 13), (0, 11, 22, 15)] := vx_table (x := yL_raw) B (hts _ List.mem_cons_self)
  have hlocks := B.notSynchronized
  subst hsz
  obtain ⟨A, hAe⟩ : ∃ A : Nat → Prop, A = va_A (wXo oa of y ad h q n (gPg pa n) n b1 l1 r1 b2 l2 r2 b3 l3 r3 uz ul uh f1 g1 f2 g2 pa kd on ot pt fb fl fh tb tl th dg ds) s.heap.size := ⟨_, rfl⟩
  have hE : gE ad A s s.heap := by rw [hAe]; exact hE0
  have hD : va_D A (wXo oa of y ad h q n (gPg pa n) n b1 l1 r1 b2 l2 r2 b3 l3 r3 uz ul uh f1 g1 f2 g2 pa kd on ot pt fb fl fh tb tl th dg ds) := by rw [hAe]; exact hD0.self (sz := s.heap.size)
  have hA : ∀ q : Nat, s.heap.size ≤ q → A q := fun q h => by rw [hAe]; exact Or.inr h
  have hS : va_S A s.heap s.heap [] := va_S.rf
  have hl := lv_entry ([.ref h, .int (nI k), .int (nI p), .int (gB bb), .ref oa]) (n := 6) (Nat.le_of_ble_eq_true rfl)
  rw [lg_entry_eq]
  generalize (lg_sl ([.ref h, .int (nI k), .int (nI p), .int (gB bb), .ref oa]) ++ List.replicate (6 - (lg_sl ([.ref h, .int (nI k), .int (nI p), .int (gB bb), .ref oa])).length) Slot.unset).toArray = ls at hl ⊢
  have hl : lv_has ls 6 [(0, .ref h), (1, .int (nI k)), (2, .int (nI p)), (3, .int (gB bb)), (4, .ref oa)] := hl
  refine lv_aload hx hb dL_raw_0 (lv_at hl 4 rfl) ?_
  refine lv_iconst (v := 0) hx hb dL_raw_2 (by decide) ?_
  refine lv_aload_n hx hb dL_raw_3 rfl (lv_at hl 0 rfl) ?_
  refine lv_iload_n hx hb dL_raw_4 rfl (lv_at hl 1 rfl) ?_
  refine lv_iload_n hx hb dL_raw_5 rfl (lv_at hl 2 rfl) ?_
  refine lv_iload_n hx hb dL_raw_6 rfl (lv_at hl 3 rfl) ?_
  refine g_callAr (ws := [(oa, .inl (y 1, 1, .inr (.inl of)))]) (va_runV (As := [.int (nI k), .int (nI p), .int (gB bb)]) (rest := [.int 0, .ref oa]) ⟨hx, hb, hml, hown, hts⟩ (c_X7_raw_0 l hfl D y ad s.heap.size h q n b1 l1 r1 b2 l2 r2 b3 l3 r3 uz ul uh f1 g1 f2 g2 pa kd on ot pt fb fl fh tb tl th dg ds k p bb hn hk hp hf) (cwV 3 hts gL_raw_X7_raw rfl rfl rfl (by decide +kernel) ⟨Nat.le_of_ble_eq_true rfl, Nat.le_of_ble_eq_true rfl⟩) (gPX_VA (va_P_r (ws := [(oa, .inl (y 1, 1, .inr (.inl of)))]) hP) (va_D_r (ws := [(oa, .inl (y 1, 1, .inr (.inl of)))]) hD) hK hE hS hA 0 rfl rfl) rfl rfl hl.1 rfl (lv_room (Nat.le_of_ble_eq_true rfl)) dL_raw_7 ⟨Nat.le_of_ble_eq_true rfl, Nat.le_of_ble_eq_true rfl⟩) hP hD hS hA (fun v w1 H locs hf hP hD hS => ?_)
  obtain ⟨rfl, b1_7, l1_7, r1_7, b2_7, l2_7, r2_7, b3_7, l3_7, r3_7, uz_7, ul_7, uh_7, f1_7, g1_7, f2_7, g2_7, rfl⟩ := hf
  have hP : va_P D vwCl (wXo oa of y ad h q n (gPg pa n) n b1_7 l1_7 r1_7 b2_7 l2_7 r2_7 b3_7 l3_7 r3_7 uz_7 ul_7 uh_7 f1_7 g1_7 f2_7 g2_7 pa kd on ot pt fb fl fh tb tl th dg ds) H := hP
  have hD : va_D A (wXo oa of y ad h q n (gPg pa n) n b1_7 l1_7 r1_7 b2_7 l2_7 r2_7 b3_7 l3_7 r3_7 uz_7 ul_7 uh_7 f1_7 g1_7 f2_7 g2_7 pa kd on ot pt fb fl fh tb tl th dg ds) := hD
  refine g_last (k := 0) (x := gSl bb (sp_X6_load_hi1 (fb k) (fl k) (fh k) p) (sp_X6_load_lo1 (fb k) (fl k) (fh k) p)) hx hb hK.1 hP hD hS 0 1 rfl rfl (by omega) (by decide) dL_raw_10 (fun H locs hP hD hS => ?_)
  have hP : va_P D vwCl (wXo oa (vp_updL of 0 (gSl bb (sp_X6_load_hi1 (fb k) (fl k) (fh k) p) (sp_X6_load_lo1 (fb k) (fl k) (fh k) p))) y ad h q n (gPg pa n) n b1_7 l1_7 r1_7 b2_7 l2_7 r2_7 b3_7 l3_7 r3_7 uz_7 ul_7 uh_7 f1_7 g1_7 f2_7 g2_7 pa kd on ot pt fb fl fh tb tl th dg ds) H := hP
  have hD : va_D A (wXo oa (vp_updL of 0 (gSl bb (sp_X6_load_hi1 (fb k) (fl k) (fh k) p) (sp_X6_load_lo1 (fb k) (fl k) (fh k) p))) y ad h q n (gPg pa n) n b1_7 l1_7 r1_7 b2_7 l2_7 r2_7 b3_7 l3_7 r3_7 uz_7 ul_7 uh_7 f1_7 g1_7 f2_7 g2_7 pa kd on ot pt fb fl fh tb tl th dg ds) := hD
  refine lv_goto (tgt := 26) hx hb dL_raw_11 (by decide) ?_
  refine lv_iconst (v := 0) hx hb dL_raw_26 (by decide) ?_
  have hP9 := hP
  have hD9 := hD
  exact W.iret (v := 0) hx hb hr (fun t ht hW => ⟨⟨some (.int (0)), wXo oa (vp_updL of 0 (gSl bb (sp_X6_load_hi1 (fb k) (fl k) (fh k) p) (sp_X6_load_lo1 (fb k) (fl k) (fh k) p))) y ad h q n (gPg pa n) n b1_7 l1_7 r1_7 b2_7 l2_7 r2_7 b3_7 l3_7 r3_7 uz_7 ul_7 uh_7 f1_7 g1_7 f2_7 g2_7 pa kd on ot pt fb fl fh tb tl th dg ds, rfl, ⟨b1_7, l1_7, r1_7, b2_7, l2_7, r2_7, b3_7, l3_7, r3_7, uz_7, ul_7, uh_7, f1_7, g1_7, f2_7, g2_7, rfl, rfl⟩, by rw [← hAe]; exact hD9, by rw [ht]; exact hP9⟩, by rw [← hAe]; exact hS.F ht⟩) (by rw [← hAe]; exact hS.2.2) dL_raw_27
set_option maxHeartbeats 4000000 in
set_option maxRecDepth 100000 in
theorem c_L_told_X1 (l : Launch) (hfl : l.stackTraces = false) (D : va_G) (y : Nat → ClassId) (ad : Nat → Nat) (sz : Nat) (h : Nat) (q : Nat → Nat) (n : Nat) (b1 : Bool) (l1 r1 : Int64) (b2 : Bool) (l2 r2 : Int64) (b3 : Bool) (l3 r3 : Int64) (uz : Nat → Bool) (ul uh : Nat → Int64) (f1 g1 f2 g2 : Int64) (pa : Nat → Nat → Nat) (kd : Nat → Nat) (on ot : Nat → Int32) (pt : Nat → Int64) (fb : Nat → Nat → Bool) (fl fh : Nat → Nat → Int64) (tb : Nat → Nat → Bool) (tl th : Nat → Nat → Int64) (dg : Nat → Int32) (ds : Nat → Int64) (a b : Int32) (bb : Bool) (oa : Nat) (of : Nat → Int64) (hbad : a < 0 ∨ nI n ≤ a) : Met l yL_told wsL_told ({ frames := 9, cells := 1, slots := 6, locals := 160 } : Room) (gPN D y ad [.ref h, .int a, .int b, .int (gB bb), .ref oa] (wXo oa of y ad h q n (gPg pa n) n b1 l1 r1 b2 l2 r2 b3 l3 r3 uz ul uh f1 g1 f2 g2 pa kd on ot pt fb fl fh tb tl th dg ds) sz) (gQn D (wXo oa of y ad h q n (gPg pa n) n b1 l1 r1 b2 l2 r2 b3 l3 r3 uz ul uh f1 g1 f2 g2 pa kd on ot pt fb fl fh tb tl th dg ds) (fun v w => ∃ (yb1 : Bool) (yl1 : Int64) (yr1 : Int64) (yb2 : Bool) (yl2 : Int64) (yr2 : Int64) (yb3 : Bool) (yl3 : Int64) (yr3 : Int64) (yuz : Nat → Bool) (yul : Nat → Int64) (yuh : Nat → Int64) (yf1 : Int64) (yg1 : Int64) (yf2 : Int64) (yg2 : Int64), v = some (.int 1) ∧ w = (wXo oa of y ad h q n (gPg pa n) n yb1 yl1 yr1 yb2 yl2 yr2 yb3 yl3 yr3 yuz yul yuh yf1 yg1 yf2 yg2 pa kd on ot pt fb fl fh tb tl th dg ds))) 1 6 (va_A (wXo oa of y ad h q n (gPg pa n) n b1 l1 r1 b2 l2 r2 b3 l3 r3 uz ul uh f1 g1 f2 g2 pa kd on ot pt fb fl fh tb tl th dg ds) sz) := by
  refine gMet_ofWH (cc := cL_told) (maxL := 6) (ret := (some .int)) (hh := [(0, 11, 14, 20), (0, 11, 18, 13), (0, 11, 22, 15)]) (by decide) rfl ?_
  intro pg e s m args below meth c s₁ B hml hv
  obtain ⟨rfl, ⟨hsz, hP, hK, hD0, hE0⟩, hN⟩ := hv
  have hx := B.exec
  have hb := B.bytes
  have hr := B.returns
  have hts := atoms_spec (ws := wsL_told) B.pre
  have hown : s.vm.findClass RL = some m.cls := findClass_of_methodNamed B.named
  have htab : c.exceptionTable.toList = tableOf [(0, 11, 14, 20), (0, 11, 18, 13), (0, 11, 22, 15)] := vx_table (x := yL_told) B (hts _ List.mem_cons_self)
  have hlocks := B.notSynchronized
  subst hsz
  obtain ⟨A, hAe⟩ : ∃ A : Nat → Prop, A = va_A (wXo oa of y ad h q n (gPg pa n) n b1 l1 r1 b2 l2 r2 b3 l3 r3 uz ul uh f1 g1 f2 g2 pa kd on ot pt fb fl fh tb tl th dg ds) s.heap.size := ⟨_, rfl⟩
  have hE : gE ad A s s.heap := by rw [hAe]; exact hE0
  have hD : va_D A (wXo oa of y ad h q n (gPg pa n) n b1 l1 r1 b2 l2 r2 b3 l3 r3 uz ul uh f1 g1 f2 g2 pa kd on ot pt fb fl fh tb tl th dg ds) := by rw [hAe]; exact hD0.self (sz := s.heap.size)
  have hA : ∀ q : Nat, s.heap.size ≤ q → A q := fun q h => by rw [hAe]; exact Or.inr h
  have hS : va_S A s.heap s.heap [] := va_S.rf
  have hl := lv_entry ([.ref h, .int a, .int b, .int (gB bb), .ref oa]) (n := 6) (Nat.le_of_ble_eq_true rfl)
  rw [lg_entry_eq]
  generalize (lg_sl ([.ref h, .int a, .int b, .int (gB bb), .ref oa]) ++ List.replicate (6 - (lg_sl ([.ref h, .int a, .int b, .int (gB bb), .ref oa])).length) Slot.unset).toArray = ls at hl ⊢
  have hl : lv_has ls 6 [(0, .ref h), (1, .int a), (2, .int b), (3, .int (gB bb)), (4, .ref oa)] := hl
  refine lv_aload hx hb dL_told_0 (lv_at hl 4 rfl) ?_
  refine lv_iconst (v := 0) hx hb dL_told_2 (by decide) ?_
  refine lv_aload_n hx hb dL_told_3 rfl (lv_at hl 0 rfl) ?_
  refine lv_iload_n hx hb dL_told_4 rfl (lv_at hl 1 rfl) ?_
  refine lv_iload_n hx hb dL_told_5 rfl (lv_at hl 2 rfl) ?_
  refine lv_iload_n hx hb dL_told_6 rfl (lv_at hl 3 rfl) ?_
  refine g_catch (name := gIOB) (ws := [(oa, .inl (y 1, 1, .inr (.inl of)))]) (vx_runV (As := [.int a, .int b, .int (gB bb)]) (rest := [.int 0, .ref oa]) ⟨hx, hb, hml, hown, hts⟩ (c_X7_told_X1 l hfl D y ad s.heap.size h q n b1 l1 r1 b2 l2 r2 b3 l3 r3 uz ul uh f1 g1 f2 g2 pa kd on ot pt fb fl fh tb tl th dg ds a b bb hbad) (cwV 3 hts gL_told_X7_told rfl rfl rfl (by decide +kernel) ⟨Nat.le_of_ble_eq_true rfl, Nat.le_of_ble_eq_true rfl⟩) (gPX_VA (va_P_r (ws := [(oa, .inl (y 1, 1, .inr (.inl of)))]) hP) (va_D_r (ws := [(oa, .inl (y 1, 1, .inr (.inl of)))]) hD) hK hE hS hA 0 rfl rfl) rfl rfl hl.1 rfl (lv_room (Nat.le_of_ble_eq_true rfl)) dL_told_7 ⟨Nat.le_of_ble_eq_true rfl, Nat.le_of_ble_eq_true rfl⟩) hP hD hS hA hown [] ⟨0, 11, 14, 20⟩ [⟨0, 11, 18, 13⟩, ⟨0, 11, 22, 15⟩] (by rw [htab]; rfl) (fun z hz => absurd hz List.not_mem_nil) (by decide) (by decide) (hts (.classLink RL 20 "java/lang/IndexOutOfBoundsException") (List.mem_of_getElem? (i := 1) rfl)) (hE.cw (Cond.castable gIOB gIOB) (List.mem_of_getElem? (i := 5) rfl)) (fun q9 w1 H locs hf hP hD hS => ?_)
  obtain ⟨b1_7, l1_7, r1_7, b2_7, l2_7, r2_7, b3_7, l3_7, r3_7, uz_7, ul_7, uh_7, f1_7, g1_7, f2_7, g2_7, rfl⟩ := hf
  have hP : va_P D vwCl (wXo oa of y ad h q n (gPg pa n) n b1_7 l1_7 r1_7 b2_7 l2_7 r2_7 b3_7 l3_7 r3_7 uz_7 ul_7 uh_7 f1_7 g1_7 f2_7 g2_7 pa kd on ot pt fb fl fh tb tl th dg ds) H := hP
  have hD : va_D A (wXo oa of y ad h q n (gPg pa n) n b1_7 l1_7 r1_7 b2_7 l2_7 r2_7 b3_7 l3_7 r3_7 uz_7 ul_7 uh_7 f1_7 g1_7 f2_7 g2_7 pa kd on ot pt fb fl fh tb tl th dg ds) := hD
  refine lv_astore (lv' := [(5, .ref q9), (0, .ref h), (1, .int a), (2, .int b), (3, .int (gB bb)), (4, .ref oa)]) hx hb dL_told_14 hl (by decide) rfl (fun ls hl => ?_)
  refine lv_iconst (v := 1) hx hb dL_told_16 (by decide) ?_
  have hP9 := hP
  have hD9 := hD
  exact W.iret (v := 1) hx hb hr (fun t ht hW => ⟨⟨some (.int (1)), wXo oa of y ad h q n (gPg pa n) n b1_7 l1_7 r1_7 b2_7 l2_7 r2_7 b3_7 l3_7 r3_7 uz_7 ul_7 uh_7 f1_7 g1_7 f2_7 g2_7 pa kd on ot pt fb fl fh tb tl th dg ds, rfl, ⟨b1_7, l1_7, r1_7, b2_7, l2_7, r2_7, b3_7, l3_7, r3_7, uz_7, ul_7, uh_7, f1_7, g1_7, f2_7, g2_7, rfl, rfl⟩, by rw [← hAe]; exact hD9, by rw [ht]; exact hP9⟩, by rw [← hAe]; exact hS.F ht⟩) (by rw [← hAe]; exact hS.2.2) dL_told_17
set_option maxHeartbeats 4000000 in
set_option maxRecDepth 100000 in
theorem c_L_told_X2 (l : Launch) (hfl : l.stackTraces = false) (D : va_G) (y : Nat → ClassId) (ad : Nat → Nat) (sz : Nat) (h : Nat) (q : Nat → Nat) (n : Nat) (b1 : Bool) (l1 r1 : Int64) (b2 : Bool) (l2 r2 : Int64) (b3 : Bool) (l3 r3 : Int64) (uz : Nat → Bool) (ul uh : Nat → Int64) (f1 g1 f2 g2 : Int64) (pa : Nat → Nat → Nat) (kd : Nat → Nat) (on ot : Nat → Int32) (pt : Nat → Int64) (fb : Nat → Nat → Bool) (fl fh : Nat → Nat → Int64) (tb : Nat → Nat → Bool) (tl th : Nat → Nat → Int64) (dg : Nat → Int32) (ds : Nat → Int64) (k : Nat) (b : Int32) (bb : Bool) (oa : Nat) (of : Nat → Int64) (hn : n ≤ 40) (hk : k < n) (hp : b < 0 ∨ ¬ b ≤ 24) : Met l yL_told wsL_told ({ frames := 9, cells := 1, slots := 6, locals := 160 } : Room) (gPN D y ad [.ref h, .int (nI k), .int b, .int (gB bb), .ref oa] (wXo oa of y ad h q n (gPg pa n) n b1 l1 r1 b2 l2 r2 b3 l3 r3 uz ul uh f1 g1 f2 g2 pa kd on ot pt fb fl fh tb tl th dg ds) sz) (gQn D (wXo oa of y ad h q n (gPg pa n) n b1 l1 r1 b2 l2 r2 b3 l3 r3 uz ul uh f1 g1 f2 g2 pa kd on ot pt fb fl fh tb tl th dg ds) (fun v w => ∃ (yb1 : Bool) (yl1 : Int64) (yr1 : Int64) (yb2 : Bool) (yl2 : Int64) (yr2 : Int64) (yb3 : Bool) (yl3 : Int64) (yr3 : Int64) (yuz : Nat → Bool) (yul : Nat → Int64) (yuh : Nat → Int64) (yf1 : Int64) (yg1 : Int64) (yf2 : Int64) (yg2 : Int64), v = some (.int 2) ∧ w = (wXo oa of y ad h q n (gPg pa n) n yb1 yl1 yr1 yb2 yl2 yr2 yb3 yl3 yr3 yuz yul yuh yf1 yg1 yf2 yg2 pa kd on ot pt fb fl fh tb tl th dg ds))) 1 6 (va_A (wXo oa of y ad h q n (gPg pa n) n b1 l1 r1 b2 l2 r2 b3 l3 r3 uz ul uh f1 g1 f2 g2 pa kd on ot pt fb fl fh tb tl th dg ds) sz) := by
  refine gMet_ofWH (cc := cL_told) (maxL := 6) (ret := (some .int)) (hh := [(0, 11, 14, 20), (0, 11, 18, 13), (0, 11, 22, 15)]) (by decide) rfl ?_
  intro pg e s m args below meth c s₁ B hml hv
  obtain ⟨rfl, ⟨hsz, hP, hK, hD0, hE0⟩, hN⟩ := hv
  have hx := B.exec
  have hb := B.bytes
  have hr := B.returns
  have hts := atoms_spec (ws := wsL_told) B.pre
  have hown : s.vm.findClass RL = some m.cls := findClass_of_methodNamed B.named
  have htab : c.exceptionTable.toList = tableOf [(0, 11, 14, 20), (0, 11, 18, 13), (0, 11, 22, 15)] := vx_table (x := yL_told) B (hts _ List.mem_cons_self)
  have hlocks := B.notSynchronized
  subst hsz
  obtain ⟨A, hAe⟩ : ∃ A : Nat → Prop, A = va_A (wXo oa of y ad h q n (gPg pa n) n b1 l1 r1 b2 l2 r2 b3 l3 r3 uz ul uh f1 g1 f2 g2 pa kd on ot pt fb fl fh tb tl th dg ds) s.heap.size := ⟨_, rfl⟩
  have hE : gE ad A s s.heap := by rw [hAe]; exact hE0
  have hD : va_D A (wXo oa of y ad h q n (gPg pa n) n b1 l1 r1 b2 l2 r2 b3 l3 r3 uz ul uh f1 g1 f2 g2 pa kd on ot pt fb fl fh tb tl th dg ds) := by rw [hAe]; exact hD0.self (sz := s.heap.size)
  have hA : ∀ q : Nat, s.heap.size ≤ q → A q := fun q h => by rw [hAe]; exact Or.inr h
  have hS : va_S A s.heap s.heap [] := va_S.rf
  have hl := lv_entry ([.ref h, .int (nI k), .int b, .int (gB bb), .ref oa]) (n := 6) (Nat.le_of_ble_eq_true rfl)
  rw [lg_entry_eq]
  generalize (lg_sl ([.ref h, .int (nI k), .int b, .int (gB bb), .ref oa]) ++ List.replicate (6 - (lg_sl ([.ref h, .int (nI k), .int b, .int (gB bb), .ref oa])).length) Slot.unset).toArray = ls at hl ⊢
  have hl : lv_has ls 6 [(0, .ref h), (1, .int (nI k)), (2, .int b), (3, .int (gB bb)), (4, .ref oa)] := hl
  refine lv_aload hx hb dL_told_0 (lv_at hl 4 rfl) ?_
  refine lv_iconst (v := 0) hx hb dL_told_2 (by decide) ?_
  refine lv_aload_n hx hb dL_told_3 rfl (lv_at hl 0 rfl) ?_
  refine lv_iload_n hx hb dL_told_4 rfl (lv_at hl 1 rfl) ?_
  refine lv_iload_n hx hb dL_told_5 rfl (lv_at hl 2 rfl) ?_
  refine lv_iload_n hx hb dL_told_6 rfl (lv_at hl 3 rfl) ?_
  refine g_catch (name := gIAE) (ws := [(oa, .inl (y 1, 1, .inr (.inl of)))]) (vx_runV (As := [.int (nI k), .int b, .int (gB bb)]) (rest := [.int 0, .ref oa]) ⟨hx, hb, hml, hown, hts⟩ (c_X7_told_X2 l hfl D y ad s.heap.size h q n b1 l1 r1 b2 l2 r2 b3 l3 r3 uz ul uh f1 g1 f2 g2 pa kd on ot pt fb fl fh tb tl th dg ds k b bb hn hk hp) (cwV 3 hts gL_told_X7_told rfl rfl rfl (by decide +kernel) ⟨Nat.le_of_ble_eq_true rfl, Nat.le_of_ble_eq_true rfl⟩) (gPX_VA (va_P_r (ws := [(oa, .inl (y 1, 1, .inr (.inl of)))]) hP) (va_D_r (ws := [(oa, .inl (y 1, 1, .inr (.inl of)))]) hD) hK hE hS hA 0 rfl rfl) rfl rfl hl.1 rfl (lv_room (Nat.le_of_ble_eq_true rfl)) dL_told_7 ⟨Nat.le_of_ble_eq_true rfl, Nat.le_of_ble_eq_true rfl⟩) hP hD hS hA hown [⟨0, 11, 14, 20⟩] ⟨0, 11, 18, 13⟩ [⟨0, 11, 22, 15⟩] (by rw [htab]; rfl) (fun z hz => by rcases List.mem_singleton.mp hz with rfl; exact Or.inr ⟨by decide, _, (hts (.classLink RL 20 "java/lang/IndexOutOfBoundsException") (List.mem_of_getElem? (i := 1) rfl)), hN.1⟩) (by decide) (by decide) (hts (.classLink RL 13 "java/lang/IllegalArgumentException") (List.mem_of_getElem? (i := 2) rfl)) (hE.cw (Cond.castable gIAE gIAE) (List.mem_of_getElem? (i := 3) rfl)) (fun q9 w1 H locs hf hP hD hS => ?_)
  obtain ⟨b1_7, l1_7, r1_7, b2_7, l2_7, r2_7, b3_7, l3_7, r3_7, uz_7, ul_7, uh_7, f1_7, g1_7, f2_7, g2_7, rfl⟩ := hf
  have hP : va_P D vwCl (wXo oa of y ad h q n (gPg pa n) n b1_7 l1_7 r1_7 b2_7 l2_7 r2_7 b3_7 l3_7 r3_7 uz_7 ul_7 uh_7 f1_7 g1_7 f2_7 g2_7 pa kd on ot pt fb fl fh tb tl th dg ds) H := hP
  have hD : va_D A (wXo oa of y ad h q n (gPg pa n) n b1_7 l1_7 r1_7 b2_7 l2_7 r2_7 b3_7 l3_7 r3_7 uz_7 ul_7 uh_7 f1_7 g1_7 f2_7 g2_7 pa kd on ot pt fb fl fh tb tl th dg ds) := hD
  refine lv_astore (lv' := [(5, .ref q9), (0, .ref h), (1, .int (nI k)), (2, .int b), (3, .int (gB bb)), (4, .ref oa)]) hx hb dL_told_18 hl (by decide) rfl (fun ls hl => ?_)
  refine lv_iconst (v := 2) hx hb dL_told_20 (by decide) ?_
  have hP9 := hP
  have hD9 := hD
  exact W.iret (v := 2) hx hb hr (fun t ht hW => ⟨⟨some (.int (2)), wXo oa of y ad h q n (gPg pa n) n b1_7 l1_7 r1_7 b2_7 l2_7 r2_7 b3_7 l3_7 r3_7 uz_7 ul_7 uh_7 f1_7 g1_7 f2_7 g2_7 pa kd on ot pt fb fl fh tb tl th dg ds, rfl, ⟨b1_7, l1_7, r1_7, b2_7, l2_7, r2_7, b3_7, l3_7, r3_7, uz_7, ul_7, uh_7, f1_7, g1_7, f2_7, g2_7, rfl, rfl⟩, by rw [← hAe]; exact hD9, by rw [ht]; exact hP9⟩, by rw [← hAe]; exact hS.F ht⟩) (by rw [← hAe]; exact hS.2.2) dL_told_21
set_option maxHeartbeats 4000000 in
set_option maxRecDepth 100000 in
theorem c_L_told_X3 (l : Launch) (hfl : l.stackTraces = false) (D : va_G) (y : Nat → ClassId) (ad : Nat → Nat) (sz : Nat) (h : Nat) (q : Nat → Nat) (n : Nat) (b1 : Bool) (l1 r1 : Int64) (b2 : Bool) (l2 r2 : Int64) (b3 : Bool) (l3 r3 : Int64) (uz : Nat → Bool) (ul uh : Nat → Int64) (f1 g1 f2 g2 : Int64) (pa : Nat → Nat → Nat) (kd : Nat → Nat) (on ot : Nat → Int32) (pt : Nat → Int64) (fb : Nat → Nat → Bool) (fl fh : Nat → Nat → Int64) (tb : Nat → Nat → Bool) (tl th : Nat → Nat → Int64) (dg : Nat → Int32) (ds : Nat → Int64) (k p : Nat) (bb : Bool) (oa : Nat) (of : Nat → Int64) (hn : n ≤ 40) (hk : k < n) (hp : p < 25) (hf : ¬ sp_X6_load_b1 (tb k) (tl k) (th k) p = true) : Met l yL_told wsL_told ({ frames := 8, cells := 1, slots := 6, locals := 136 } : Room) (gPN D y ad [.ref h, .int (nI k), .int (nI p), .int (gB bb), .ref oa] (wXo oa of y ad h q n (gPg pa n) n b1 l1 r1 b2 l2 r2 b3 l3 r3 uz ul uh f1 g1 f2 g2 pa kd on ot pt fb fl fh tb tl th dg ds) sz) (gQn D (wXo oa of y ad h q n (gPg pa n) n b1 l1 r1 b2 l2 r2 b3 l3 r3 uz ul uh f1 g1 f2 g2 pa kd on ot pt fb fl fh tb tl th dg ds) (fun v w => ∃ (yb1 : Bool) (yl1 : Int64) (yr1 : Int64) (yb2 : Bool) (yl2 : Int64) (yr2 : Int64) (yb3 : Bool) (yl3 : Int64) (yr3 : Int64) (yuz : Nat → Bool) (yul : Nat → Int64) (yuh : Nat → Int64) (yf1 : Int64) (yg1 : Int64) (yf2 : Int64) (yg2 : Int64), v = some (.int 3) ∧ w = (wXo oa of y ad h q n (gPg pa n) n yb1 yl1 yr1 yb2 yl2 yr2 yb3 yl3 yr3 yuz yul yuh yf1 yg1 yf2 yg2 pa kd on ot pt fb fl fh tb tl th dg ds))) 1 6 (va_A (wXo oa of y ad h q n (gPg pa n) n b1 l1 r1 b2 l2 r2 b3 l3 r3 uz ul uh f1 g1 f2 g2 pa kd on ot pt fb fl fh tb tl th dg ds) sz) := by
  refine gMet_ofWH (cc := cL_told) (maxL := 6) (ret := (some .int)) (hh := [(0, 11, 14, 20), (0, 11, 18, 13), (0, 11, 22, 15)]) (by decide) rfl ?_
  intro pg e s m args below meth c s₁ B hml hv
  obtain ⟨rfl, ⟨hsz, hP, hK, hD0, hE0⟩, hN⟩ := hv
  have hx := B.exec
  have hb := B.bytes
  have hr := B.returns
  have hts := atoms_spec (ws := wsL_told) B.pre
  have hown : s.vm.findClass RL = some m.cls := findClass_of_methodNamed B.named
  have htab : c.exceptionTable.toList = tableOf [(0, 11, 14, 20), (0, 11, 18, 13), (0, 11, 22, 15)] := vx_table (x := yL_told) B (hts _ List.mem_cons_self)
  have hlocks := B.notSynchronized
  subst hsz
  obtain ⟨A, hAe⟩ : ∃ A : Nat → Prop, A = va_A (wXo oa of y ad h q n (gPg pa n) n b1 l1 r1 b2 l2 r2 b3 l3 r3 uz ul uh f1 g1 f2 g2 pa kd on ot pt fb fl fh tb tl th dg ds) s.heap.size := ⟨_, rfl⟩
  have hE : gE ad A s s.heap := by rw [hAe]; exact hE0
  have hD : va_D A (wXo oa of y ad h q n (gPg pa n) n b1 l1 r1 b2 l2 r2 b3 l3 r3 uz ul uh f1 g1 f2 g2 pa kd on ot pt fb fl fh tb tl th dg ds) := by rw [hAe]; exact hD0.self (sz := s.heap.size)
  have hA : ∀ q : Nat, s.heap.size ≤ q → A q := fun q h => by rw [hAe]; exact Or.inr h
  have hS : va_S A s.heap s.heap [] := va_S.rf
  have hl := lv_entry ([.ref h, .int (nI k), .int (nI p), .int (gB bb), .ref oa]) (n := 6) (Nat.le_of_ble_eq_true rfl)
  rw [lg_entry_eq]
  generalize (lg_sl ([.ref h, .int (nI k), .int (nI p), .int (gB bb), .ref oa]) ++ List.replicate (6 - (lg_sl ([.ref h, .int (nI k), .int (nI p), .int (gB bb), .ref oa])).length) Slot.unset).toArray = ls at hl ⊢
  have hl : lv_has ls 6 [(0, .ref h), (1, .int (nI k)), (2, .int (nI p)), (3, .int (gB bb)), (4, .ref oa)] := hl
  refine lv_aload hx hb dL_told_0 (lv_at hl 4 rfl) ?_
  refine lv_iconst (v := 0) hx hb dL_told_2 (by decide) ?_
  refine lv_aload_n hx hb dL_told_3 rfl (lv_at hl 0 rfl) ?_
  refine lv_iload_n hx hb dL_told_4 rfl (lv_at hl 1 rfl) ?_
  refine lv_iload_n hx hb dL_told_5 rfl (lv_at hl 2 rfl) ?_
  refine lv_iload_n hx hb dL_told_6 rfl (lv_at hl 3 rfl) ?_
  refine g_catch (name := gISE) (ws := [(oa, .inl (y 1, 1, .inr (.inl of)))]) (vx_runV (As := [.int (nI k), .int (nI p), .int (gB bb)]) (rest := [.int 0, .ref oa]) ⟨hx, hb, hml, hown, hts⟩ (c_X7_told_X3 l hfl D y ad s.heap.size h q n b1 l1 r1 b2 l2 r2 b3 l3 r3 uz ul uh f1 g1 f2 g2 pa kd on ot pt fb fl fh tb tl th dg ds k p bb hn hk hp hf) (cwV 3 hts gL_told_X7_told rfl rfl rfl (by decide +kernel) ⟨Nat.le_of_ble_eq_true rfl, Nat.le_of_ble_eq_true rfl⟩) (gPX_VA (va_P_r (ws := [(oa, .inl (y 1, 1, .inr (.inl of)))]) hP) (va_D_r (ws := [(oa, .inl (y 1, 1, .inr (.inl of)))]) hD) hK hE hS hA 0 rfl rfl) rfl rfl hl.1 rfl (lv_room (Nat.le_of_ble_eq_true rfl)) dL_told_7 ⟨Nat.le_of_ble_eq_true rfl, Nat.le_of_ble_eq_true rfl⟩) hP hD hS hA hown [⟨0, 11, 14, 20⟩, ⟨0, 11, 18, 13⟩] ⟨0, 11, 22, 15⟩ [] (by rw [htab]; rfl) (fun z hz => by rcases List.mem_cons.mp hz with rfl | hz; exact Or.inr ⟨by decide, _, (hts (.classLink RL 20 "java/lang/IndexOutOfBoundsException") (List.mem_of_getElem? (i := 1) rfl)), hN.2.1⟩; rcases List.mem_singleton.mp hz with rfl; exact Or.inr ⟨by decide, _, (hts (.classLink RL 13 "java/lang/IllegalArgumentException") (List.mem_of_getElem? (i := 2) rfl)), hN.2.2⟩) (by decide) (by decide) (hts (.classLink RL 15 "java/lang/IllegalStateException") (List.mem_of_getElem? (i := 3) rfl)) (hE.cw (Cond.castable gISE gISE) (List.mem_of_getElem? (i := 4) rfl)) (fun q9 w1 H locs hf hP hD hS => ?_)
  obtain ⟨b1_7, l1_7, r1_7, b2_7, l2_7, r2_7, b3_7, l3_7, r3_7, uz_7, ul_7, uh_7, f1_7, g1_7, f2_7, g2_7, rfl⟩ := hf
  have hP : va_P D vwCl (wXo oa of y ad h q n (gPg pa n) n b1_7 l1_7 r1_7 b2_7 l2_7 r2_7 b3_7 l3_7 r3_7 uz_7 ul_7 uh_7 f1_7 g1_7 f2_7 g2_7 pa kd on ot pt fb fl fh tb tl th dg ds) H := hP
  have hD : va_D A (wXo oa of y ad h q n (gPg pa n) n b1_7 l1_7 r1_7 b2_7 l2_7 r2_7 b3_7 l3_7 r3_7 uz_7 ul_7 uh_7 f1_7 g1_7 f2_7 g2_7 pa kd on ot pt fb fl fh tb tl th dg ds) := hD
  refine lv_astore (lv' := [(5, .ref q9), (0, .ref h), (1, .int (nI k)), (2, .int (nI p)), (3, .int (gB bb)), (4, .ref oa)]) hx hb dL_told_22 hl (by decide) rfl (fun ls hl => ?_)
  refine lv_iconst (v := 3) hx hb dL_told_24 (by decide) ?_
  have hP9 := hP
  have hD9 := hD
  exact W.iret (v := 3) hx hb hr (fun t ht hW => ⟨⟨some (.int (3)), wXo oa of y ad h q n (gPg pa n) n b1_7 l1_7 r1_7 b2_7 l2_7 r2_7 b3_7 l3_7 r3_7 uz_7 ul_7 uh_7 f1_7 g1_7 f2_7 g2_7 pa kd on ot pt fb fl fh tb tl th dg ds, rfl, ⟨b1_7, l1_7, r1_7, b2_7, l2_7, r2_7, b3_7, l3_7, r3_7, uz_7, ul_7, uh_7, f1_7, g1_7, f2_7, g2_7, rfl, rfl⟩, by rw [← hAe]; exact hD9, by rw [ht]; exact hP9⟩, by rw [← hAe]; exact hS.F ht⟩) (by rw [← hAe]; exact hS.2.2) dL_told_25
set_option maxHeartbeats 4000000 in
set_option maxRecDepth 100000 in
theorem c_L_told_0 (l : Launch) (hfl : l.stackTraces = false) (D : va_G) (y : Nat → ClassId) (ad : Nat → Nat) (sz : Nat) (h : Nat) (q : Nat → Nat) (n : Nat) (b1 : Bool) (l1 r1 : Int64) (b2 : Bool) (l2 r2 : Int64) (b3 : Bool) (l3 r3 : Int64) (uz : Nat → Bool) (ul uh : Nat → Int64) (f1 g1 f2 g2 : Int64) (pa : Nat → Nat → Nat) (kd : Nat → Nat) (on ot : Nat → Int32) (pt : Nat → Int64) (fb : Nat → Nat → Bool) (fl fh : Nat → Nat → Int64) (tb : Nat → Nat → Bool) (tl th : Nat → Nat → Int64) (dg : Nat → Int32) (ds : Nat → Int64) (k p : Nat) (bb : Bool) (oa : Nat) (of : Nat → Int64) (hn : n ≤ 40) (hk : k < n) (hp : p < 25) (hf : sp_X6_load_b1 (tb k) (tl k) (th k) p = true) : Met l yL_told wsL_told ({ frames := 4, cells := 0, slots := 0, locals := 92 } : Room) (gPN D y ad [.ref h, .int (nI k), .int (nI p), .int (gB bb), .ref oa] (wXo oa of y ad h q n (gPg pa n) n b1 l1 r1 b2 l2 r2 b3 l3 r3 uz ul uh f1 g1 f2 g2 pa kd on ot pt fb fl fh tb tl th dg ds) sz) (gQn D (wXo oa of y ad h q n (gPg pa n) n b1 l1 r1 b2 l2 r2 b3 l3 r3 uz ul uh f1 g1 f2 g2 pa kd on ot pt fb fl fh tb tl th dg ds) (fun v w => ∃ (yb1 : Bool) (yl1 : Int64) (yr1 : Int64) (yb2 : Bool) (yl2 : Int64) (yr2 : Int64) (yb3 : Bool) (yl3 : Int64) (yr3 : Int64) (yuz : Nat → Bool) (yul : Nat → Int64) (yuh : Nat → Int64) (yf1 : Int64) (yg1 : Int64) (yf2 : Int64) (yg2 : Int64), v = some (.int 0) ∧ w = (wXo oa (vp_updL of 0 (gSl bb (sp_X6_load_hi1 (tb k) (tl k) (th k) p) (sp_X6_load_lo1 (tb k) (tl k) (th k) p))) y ad h q n (gPg pa n) n yb1 yl1 yr1 yb2 yl2 yr2 yb3 yl3 yr3 yuz yul yuh yf1 yg1 yf2 yg2 pa kd on ot pt fb fl fh tb tl th dg ds))) 0 0 (va_A (wXo oa of y ad h q n (gPg pa n) n b1 l1 r1 b2 l2 r2 b3 l3 r3 uz ul uh f1 g1 f2 g2 pa kd on ot pt fb fl fh tb tl th dg ds) sz) := by
  refine gMet_ofWH (cc := cL_told) (maxL := 6) (ret := (some .int)) (hh := [(0, 11, 14, 20), (0, 11, 18, 13), (0, 11, 22, 15)]) (by decide) rfl ?_
  intro pg e s m args below meth c s₁ B hml hv
  obtain ⟨rfl, ⟨hsz, hP, hK, hD0, hE0⟩, hN⟩ := hv
  have hx := B.exec
  have hb := B.bytes
  have hr := B.returns
  have hts := atoms_spec (ws := wsL_told) B.pre
  have hown : s.vm.findClass RL = some m.cls := findClass_of_methodNamed B.named
  have htab : c.exceptionTable.toList = tableOf [(0, 11, 14, 20), (0, 11, 18, 13), (0, 11, 22, 15)] := vx_table (x := yL_told) B (hts _ List.mem_cons_self)
  have hlocks := B.notSynchronized
  subst hsz
  obtain ⟨A, hAe⟩ : ∃ A : Nat → Prop, A = va_A (wXo oa of y ad h q n (gPg pa n) n b1 l1 r1 b2 l2 r2 b3 l3 r3 uz ul uh f1 g1 f2 g2 pa kd on ot pt fb fl fh tb tl th dg ds) s.heap.size := ⟨_, rfl⟩
  have hE : gE ad A s s.heap := by rw [hAe]; exact hE0
  have hD : va_D A (wXo oa of y ad h q n (gPg pa n) n b1 l1 r1 b2 l2 r2 b3 l3 r3 uz ul uh f1 g1 f2 g2 pa kd on ot pt fb fl fh tb tl th dg ds) := by rw [hAe]; exact hD0.self (sz := s.heap.size)
  have hA : ∀ q : Nat, s.heap.size ≤ q → A q := fun q h => by rw [hAe]; exact Or.inr h
  have hS : va_S A s.heap s.heap [] := va_S.rf
  have hl := lv_entry ([.ref h, .int (nI k), .int (nI p), .int (gB bb), .ref oa]) (n := 6) (Nat.le_of_ble_eq_true rfl)
  rw [lg_entry_eq]
  generalize (lg_sl ([.ref h, .int (nI k), .int (nI p), .int (gB bb), .ref oa]) ++ List.replicate (6 - (lg_sl ([.ref h, .int (nI k), .int (nI p), .int (gB bb), .ref oa])).length) Slot.unset).toArray = ls at hl ⊢
  have hl : lv_has ls 6 [(0, .ref h), (1, .int (nI k)), (2, .int (nI p)), (3, .int (gB bb)), (4, .ref oa)] := hl
  refine lv_aload hx hb dL_told_0 (lv_at hl 4 rfl) ?_
  refine lv_iconst (v := 0) hx hb dL_told_2 (by decide) ?_
  refine lv_aload_n hx hb dL_told_3 rfl (lv_at hl 0 rfl) ?_
  refine lv_iload_n hx hb dL_told_4 rfl (lv_at hl 1 rfl) ?_
  refine lv_iload_n hx hb dL_told_5 rfl (lv_at hl 2 rfl) ?_
  refine lv_iload_n hx hb dL_told_6 rfl (lv_at hl 3 rfl) ?_
  refine g_callAr (ws := [(oa, .inl (y 1, 1, .inr (.inl of)))]) (va_runV (As := [.int (nI k), .int (nI p), .int (gB bb)]) (rest := [.int 0, .ref oa]) ⟨hx, hb, hml, hown, hts⟩ (c_X7_told_0 l hfl D y ad s.heap.size h q n b1 l1 r1 b2 l2 r2 b3 l3 r3 uz ul uh f1 g1 f2 g2 pa kd on ot pt fb fl fh tb tl th dg ds k p bb hn hk hp hf) (cwV 3 hts gL_told_X7_told rfl rfl rfl (by decide +kernel) ⟨Nat.le_of_ble_eq_true rfl, Nat.le_of_ble_eq_true rfl⟩) (gPX_VA (va_P_r (ws := [(oa, .inl (y 1, 1, .inr (.inl of)))]) hP) (va_D_r (ws := [(oa, .inl (y 1, 1, .inr (.inl of)))]) hD) hK hE hS hA 0 rfl rfl) rfl rfl hl.1 rfl (lv_room (Nat.le_of_ble_eq_true rfl)) dL_told_7 ⟨Nat.le_of_ble_eq_true rfl, Nat.le_of_ble_eq_true rfl⟩) hP hD hS hA (fun v w1 H locs hf hP hD hS => ?_)
  obtain ⟨rfl, b1_7, l1_7, r1_7, b2_7, l2_7, r2_7, b3_7, l3_7, r3_7, uz_7, ul_7, uh_7, f1_7, g1_7, f2_7, g2_7, rfl⟩ := hf
  have hP : va_P D vwCl (wXo oa of y ad h q n (gPg pa n) n b1_7 l1_7 r1_7 b2_7 l2_7 r2_7 b3_7 l3_7 r3_7 uz_7 ul_7 uh_7 f1_7 g1_7 f2_7 g2_7 pa kd on ot pt fb fl fh tb tl th dg ds) H := hP
  have hD : va_D A (wXo oa of y ad h q n (gPg pa n) n b1_7 l1_7 r1_7 b2_7 l2_7 r2_7 b3_7 l3_7 r3_7 uz_7 ul_7 uh_7 f1_7 g1_7 f2_7 g2_7 pa kd on ot pt fb fl fh tb tl th dg ds) := hD
  refine g_last (k := 0) (x := gSl bb (sp_X6_load_hi1 (tb k) (tl k) (th k) p) (sp_X6_load_lo1 (tb k) (tl k) (th k) p)) hx hb hK.1 hP hD hS 0 1 rfl rfl (by omega) (by decide) dL_told_10 (fun H locs hP hD hS => ?_)
  have hP : va_P D vwCl (wXo oa (vp_updL of 0 (gSl bb (sp_X6_load_hi1 (tb k) (tl k) (th k) p) (sp_X6_load_lo1 (tb k) (tl k) (th k) p))) y ad h q n (gPg pa n) n b1_7 l1_7 r1_7 b2_7 l2_7 r2_7 b3_7 l3_7 r3_7 uz_7 ul_7 uh_7 f1_7 g1_7 f2_7 g2_7 pa kd on ot pt fb fl fh tb tl th dg ds) H := hP
  have hD : va_D A (wXo oa (vp_updL of 0 (gSl bb (sp_X6_load_hi1 (tb k) (tl k) (th k) p) (sp_X6_load_lo1 (tb k) (tl k) (th k) p))) y ad h q n (gPg pa n) n b1_7 l1_7 r1_7 b2_7 l2_7 r2_7 b3_7 l3_7 r3_7 uz_7 ul_7 uh_7 f1_7 g1_7 f2_7 g2_7 pa kd on ot pt fb fl fh tb tl th dg ds) := hD
  refine lv_goto (tgt := 26) hx hb dL_told_11 (by decide) ?_
  refine lv_iconst (v := 0) hx hb dL_told_26 (by decide) ?_
  have hP9 := hP
  have hD9 := hD
  exact W.iret (v := 0) hx hb hr (fun t ht hW => ⟨⟨some (.int (0)), wXo oa (vp_updL of 0 (gSl bb (sp_X6_load_hi1 (tb k) (tl k) (th k) p) (sp_X6_load_lo1 (tb k) (tl k) (th k) p))) y ad h q n (gPg pa n) n b1_7 l1_7 r1_7 b2_7 l2_7 r2_7 b3_7 l3_7 r3_7 uz_7 ul_7 uh_7 f1_7 g1_7 f2_7 g2_7 pa kd on ot pt fb fl fh tb tl th dg ds, rfl, ⟨b1_7, l1_7, r1_7, b2_7, l2_7, r2_7, b3_7, l3_7, r3_7, uz_7, ul_7, uh_7, f1_7, g1_7, f2_7, g2_7, rfl, rfl⟩, by rw [← hAe]; exact hD9, by rw [ht]; exact hP9⟩, by rw [← hAe]; exact hS.F ht⟩) (by rw [← hAe]; exact hS.2.2) dL_told_27
set_option maxHeartbeats 4000000 in
set_option maxRecDepth 100000 in
theorem c_L_instead_X1a (l : Launch) (hfl : l.stackTraces = false) (D : va_G) (y : Nat → ClassId) (ad : Nat → Nat) (sz : Nat) (h : Nat) (q : Nat → Nat) (n : Nat) (b1 : Bool) (l1 r1 : Int64) (b2 : Bool) (l2 r2 : Int64) (b3 : Bool) (l3 r3 : Int64) (uz : Nat → Bool) (ul uh : Nat → Int64) (f1 g1 f2 g2 : Int64) (pa : Nat → Nat → Nat) (kd : Nat → Nat) (on ot : Nat → Int32) (pt : Nat → Int64) (fb : Nat → Nat → Bool) (fl fh : Nat → Nat → Int64) (tb : Nat → Nat → Bool) (tl th : Nat → Nat → Int64) (dg : Nat → Int32) (ds : Nat → Int64) (a b c0 d0 : Int32) (bb : Bool) (oa : Nat) (of : Nat → Int64) (hbad : a < 0 ∨ nI n ≤ a) : Met l yL_instead wsL_instead ({ frames := 8, cells := 1, slots := 6, locals := 141 } : Room) (gPN D y ad [.ref h, .int a, .int b, .int c0, .int d0, .int (gB bb), .ref oa] (wXo oa of y ad h q n (gPg pa n) n b1 l1 r1 b2 l2 r2 b3 l3 r3 uz ul uh f1 g1 f2 g2 pa kd on ot pt fb fl fh tb tl th dg ds) sz) (gQn D (wXo oa of y ad h q n (gPg pa n) n b1 l1 r1 b2 l2 r2 b3 l3 r3 uz ul uh f1 g1 f2 g2 pa kd on ot pt fb fl fh tb tl th dg ds) (fun v w => v = some (.int 1) ∧ w = (wXo oa of y ad h q n (gPg pa n) n b1 l1 r1 b2 l2 r2 b3 l3 r3 uz ul uh f1 g1 f2 g2 pa kd on ot pt fb fl fh tb tl th dg ds))) 1 6 (va_A (wXo oa of y ad h q n (gPg pa n) n b1 l1 r1 b2 l2 r2 b3 l3 r3 uz ul uh f1 g1 f2 g2 pa kd on ot pt fb fl fh tb tl th dg ds) sz) := by
  refine gMet_ofWH (cc := cL_instead) (maxL := 8) (ret := (some .int)) (hh := [(0, 15, 18, 20), (0, 15, 22, 13), (0, 15, 26, 15)]) (by decide) rfl ?_
  intro pg e s m args below meth c s₁ B hml hv
  obtain ⟨rfl, ⟨hsz, hP, hK, hD0, hE0⟩, hN⟩ := hv
  have hx := B.exec
  have hb := B.bytes
  have hr := B.returns
  have hts := atoms_spec (ws := wsL_instead) B.pre
  have hown : s.vm.findClass RL = some m.cls := findClass_of_methodNamed B.named
  have htab : c.exceptionTable.toList = tableOf [(0, 15, 18, 20), (0, 15, 22, 13), (0, 15, 26, 15)] := vx_table (x := yL_instead) B (hts _ List.mem_cons_self)
  have hlocks := B.notSynchronized
  subst hsz
  obtain ⟨A, hAe⟩ : ∃ A : Nat → Prop, A = va_A (wXo oa of y ad h q n (gPg pa n) n b1 l1 r1 b2 l2 r2 b3 l3 r3 uz ul uh f1 g1 f2 g2 pa kd on ot pt fb fl fh tb tl th dg ds) s.heap.size := ⟨_, rfl⟩
  have hE : gE ad A s s.heap := by rw [hAe]; exact hE0
  have hD : va_D A (wXo oa of y ad h q n (gPg pa n) n b1 l1 r1 b2 l2 r2 b3 l3 r3 uz ul uh f1 g1 f2 g2 pa kd on ot pt fb fl fh tb tl th dg ds) := by rw [hAe]; exact hD0.self (sz := s.heap.size)
  have hA : ∀ q : Nat, s.heap.size ≤ q → A q := fun q h => by rw [hAe]; exact Or.inr h
  have hS : va_S A s.heap s.heap [] := va_S.rf
  have hl := lv_entry ([.ref h, .int a, .int b, .int c0, .int d0, .int (gB bb), .ref oa]) (n := 8) (Nat.le_of_ble_eq_true rfl)
  rw [lg_entry_eq]
  generalize (lg_sl ([.ref h, .int a, .int b, .int c0, .int d0, .int (gB bb), .ref oa]) ++ List.replicate (8 - (lg_sl ([.ref h, .int a, .int b, .int c0, .int d0, .int (gB bb), .ref oa])).length) Slot.unset).toArray = ls at hl ⊢
  have hl : lv_has ls 8 [(0, .ref h), (1, .int a), (2, .int b), (3, .int c0), (4, .int d0), (5, .int (gB bb)), (6, .ref oa)] := hl
  refine lv_aload hx hb dL_instead_0 (lv_at hl 6 rfl) ?_
  refine lv_iconst (v := 0) hx hb dL_instead_2 (by decide) ?_
  refine lv_aload_n hx hb dL_instead_3 rfl (lv_at hl 0 rfl) ?_
  refine lv_iload_n hx hb dL_instead_4 rfl (lv_at hl 1 rfl) ?_
  refine lv_iload_n hx hb dL_instead_5 rfl (lv_at hl 2 rfl) ?_
  refine lv_iload_n hx hb dL_instead_6 rfl (lv_at hl 3 rfl) ?_
  refine lv_iload hx hb dL_instead_7 (lv_at hl 4 rfl) ?_
  refine lv_iload hx hb dL_instead_9 (lv_at hl 5 rfl) ?_
  refine g_catch (name := gIOB) (ws := [(oa, .inl (y 1, 1, .inr (.inl of)))]) (vx_runV (As := [.int a, .int b, .int c0, .int d0, .int (gB bb)]) (rest := [.int 0, .ref oa]) ⟨hx, hb, hml, hown, hts⟩ (c_X7_instead_X1a l hfl D y ad s.heap.size h q n b1 l1 r1 b2 l2 r2 b3 l3 r3 uz ul uh f1 g1 f2 g2 pa kd on ot pt fb fl fh tb tl th dg ds a b c0 d0 bb hbad) (cwV 5 hts gL_instead_X7_instead rfl rfl rfl (by decide +kernel) ⟨Nat.le_of_ble_eq_true rfl, Nat.le_of_ble_eq_true rfl⟩) (gPX_VA (va_P_r (ws := [(oa, .inl (y 1, 1, .inr (.inl of)))]) hP) (va_D_r (ws := [(oa, .inl (y 1, 1, .inr (.inl of)))]) hD) hK hE hS hA 0 rfl rfl) rfl rfl hl.1 rfl (lv_room (Nat.le_of_ble_eq_true rfl)) dL_instead_11 ⟨Nat.le_of_ble_eq_true rfl, Nat.le_of_ble_eq_true rfl⟩) hP hD hS hA hown [] ⟨0, 15, 18, 20⟩ [⟨0, 15, 22, 13⟩, ⟨0, 15, 26, 15⟩] (by rw [htab]; rfl) (fun z hz => absurd hz List.not_mem_nil) (by decide) (by decide) (hts (.classLink RL 20 "java/lang/IndexOutOfBoundsException") (List.mem_of_getElem? (i := 1) rfl)) (hE.cw (Cond.castable gIOB gIOB) (List.mem_of_getElem? (i := 5) rfl)) (fun q9 w1 H locs hf hP hD hS => ?_)
  obtain rfl : w1 = wXp y ad h q n b1 l1 r1 b2 l2 r2 b3 l3 r3 uz ul uh f1 g1 f2 g2 pa kd on ot pt fb fl fh tb tl th dg ds := hf
  have hP : va_P D vwCl (wXo oa of y ad h q n (gPg pa n) n b1 l1 r1 b2 l2 r2 b3 l3 r3 uz ul uh f1 g1 f2 g2 pa kd on ot pt fb fl fh tb tl th dg ds) H := hP
  have hD : va_D A (wXo oa of y ad h q n (gPg pa n) n b1 l1 r1 b2 l2 r2 b3 l3 r3 uz ul uh f1 g1 f2 g2 pa kd on ot pt fb fl fh tb tl th dg ds) := hD
  refine lv_astore (lv' := [(7, .ref q9), (0, .ref h), (1, .int a), (2, .int b), (3, .int c0), (4, .int d0), (5, .int (gB bb)), (6, .ref oa)]) hx hb dL_instead_18 hl (by decide) rfl (fun ls hl => ?_)
  refine lv_iconst (v := 1) hx hb dL_instead_20 (by decide) ?_
  have hP9 := hP
  have hD9 := hD
  exact W.iret (v := 1) hx hb hr (fun t ht hW => ⟨⟨some (.int (1)), wXo oa of y ad h q n (gPg pa n) n b1 l1 r1 b2 l2 r2 b3 l3 r3 uz ul uh f1 g1 f2 g2 pa kd on ot pt fb fl fh tb tl th dg ds, rfl, ⟨rfl, rfl⟩, by rw [← hAe]; exact hD9, by rw [ht]; exact hP9⟩, by rw [← hAe]; exact hS.F ht⟩) (by rw [← hAe]; exact hS.2.2) dL_instead_21
set_option maxHeartbeats 4000000 in
set_option maxRecDepth 100000 in
theorem c_L_instead_X1b (l : Launch) (hfl : l.stackTraces = false) (D : va_G) (y : Nat → ClassId) (ad : Nat → Nat) (sz : Nat) (h : Nat) (q : Nat → Nat) (n : Nat) (b1 : Bool) (l1 r1 : Int64) (b2 : Bool) (l2 r2 : Int64) (b3 : Bool) (l3 r3 : Int64) (uz : Nat → Bool) (ul uh : Nat → Int64) (f1 g1 f2 g2 : Int64) (pa : Nat → Nat → Nat) (kd : Nat → Nat) (on ot : Nat → Int32) (pt : Nat → Int64) (fb : Nat → Nat → Bool) (fl fh : Nat → Nat → Int64) (tb : Nat → Nat → Bool) (tl th : Nat → Nat → Int64) (dg : Nat → Int32) (ds : Nat → Int64) (k : Nat) (b c0 d0 : Int32) (bb : Bool) (oa : Nat) (of : Nat → Int64) (hn : n ≤ 40) (hk : k < n) (hbad : b < 0 ∨ nI n ≤ b) : Met l yL_instead wsL_instead ({ frames := 8, cells := 1, slots := 6, locals := 141 } : Room) (gPN D y ad [.ref h, .int (nI k), .int b, .int c0, .int d0, .int (gB bb), .ref oa] (wXo oa of y ad h q n (gPg pa n) n b1 l1 r1 b2 l2 r2 b3 l3 r3 uz ul uh f1 g1 f2 g2 pa kd on ot pt fb fl fh tb tl th dg ds) sz) (gQn D (wXo oa of y ad h q n (gPg pa n) n b1 l1 r1 b2 l2 r2 b3 l3 r3 uz ul uh f1 g1 f2 g2 pa kd on ot pt fb fl fh tb tl th dg ds) (fun v w => v = some (.int 1) ∧ w = (wXo oa of y ad h q n (gPg pa n) n b1 l1 r1 b2 l2 r2 b3 l3 r3 uz ul uh f1 g1 f2 g2 pa kd on ot pt fb fl fh tb tl th dg ds))) 1 6 (va_A (wXo oa of y ad h q n (gPg pa n) n b1 l1 r1 b2 l2 r2 b3 l3 r3 uz ul uh f1 g1 f2 g2 pa kd on ot pt fb fl fh tb tl th dg ds) sz) := by
  refine gMet_ofWH (cc := cL_instead) (maxL := 8) (ret := (some .int)) (hh := [(0, 15, 18, 20), (0, 15, 22, 13), (0, 15, 26, 15)]) (by decide) rfl ?_
  intro pg e s m args below meth c s₁ B hml hv
  obtain ⟨rfl, ⟨hsz, hP, hK, hD0, hE0⟩, hN⟩ := hv
  have hx := B.exec
  have hb := B.bytes
  have hr := B.returns
  have hts := atoms_spec (ws := wsL_instead) B.pre
  have hown : s.vm.findClass RL = some m.cls := findClass_of_methodNamed B.named
  have htab : c.exceptionTable.toList = tableOf [(0, 15, 18, 20), (0, 15, 22, 13), (0, 15, 26, 15)] := vx_table (x := yL_instead) B (hts _ List.mem_cons_self)
  have hlocks := B.notSynchronized
  subst hsz
  obtain ⟨A, hAe⟩ : ∃ A : Nat → Prop, A = va_A (wXo oa of y ad h q n (gPg pa n) n b1 l1 r1 b2 l2 r2 b3 l3 r3 uz ul uh f1 g1 f2 g2 pa kd on ot pt fb fl fh tb tl th dg ds) s.heap.size := ⟨_, rfl⟩
  have hE : gE ad A s s.heap := by rw [hAe]; exact hE0
  have hD : va_D A (wXo oa of y ad h q n (gPg pa n) n b1 l1 r1 b2 l2 r2 b3 l3 r3 uz ul uh f1 g1 f2 g2 pa kd on ot pt fb fl fh tb tl th dg ds) := by rw [hAe]; exact hD0.self (sz := s.heap.size)
  have hA : ∀ q : Nat, s.heap.size ≤ q → A q := fun q h => by rw [hAe]; exact Or.inr h
  have hS : va_S A s.heap s.heap [] := va_S.rf
  have hl := lv_entry ([.ref h, .int (nI k), .int b, .int c0, .int d0, .int (gB bb), .ref oa]) (n := 8) (Nat.le_of_ble_eq_true rfl)
  rw [lg_entry_eq]
  generalize (lg_sl ([.ref h, .int (nI k), .int b, .int c0, .int d0, .int (gB bb), .ref oa]) ++ List.replicate (8 - (lg_sl ([.ref h, .int (nI k), .int b, .int c0, .int d0, .int (gB bb), .ref oa])).length) Slot.unset).toArray = ls at hl ⊢
  have hl : lv_has ls 8 [(0, .ref h), (1, .int (nI k)), (2, .int b), (3, .int c0), (4, .int d0), (5, .int (gB bb)), (6, .ref oa)] := hl
  refine lv_aload hx hb dL_instead_0 (lv_at hl 6 rfl) ?_
  refine lv_iconst (v := 0) hx hb dL_instead_2 (by decide) ?_
  refine lv_aload_n hx hb dL_instead_3 rfl (lv_at hl 0 rfl) ?_
  refine lv_iload_n hx hb dL_instead_4 rfl (lv_at hl 1 rfl) ?_
  refine lv_iload_n hx hb dL_instead_5 rfl (lv_at hl 2 rfl) ?_
  refine lv_iload_n hx hb dL_instead_6 rfl (lv_at hl 3 rfl) ?_
  refine lv_iload hx hb dL_instead_7 (lv_at hl 4 rfl) ?_
  refine lv_iload hx hb dL_instead_9 (lv_at hl 5 rfl) ?_
  refine g_catch (name := gIOB) (ws := [(oa, .inl (y 1, 1, .inr (.inl of)))]) (vx_runV (As := [.int (nI k), .int b, .int c0, .int d0, .int (gB bb)]) (rest := [.int 0, .ref oa]) ⟨hx, hb, hml, hown, hts⟩ (c_X7_instead_X1b l hfl D y ad s.heap.size h q n b1 l1 r1 b2 l2 r2 b3 l3 r3 uz ul uh f1 g1 f2 g2 pa kd on ot pt fb fl fh tb tl th dg ds k b c0 d0 bb hn hk hbad) (cwV 5 hts gL_instead_X7_instead rfl rfl rfl (by decide +kernel) ⟨Nat.le_of_ble_eq_true rfl, Nat.le_of_ble_eq_true rfl⟩) (gPX_VA (va_P_r (ws := [(oa, .inl (y 1, 1, .inr (.inl of)))]) hP) (va_D_r (ws := [(oa, .inl (y 1, 1, .inr (.inl of)))]) hD) hK hE hS hA 0 rfl rfl) rfl rfl hl.1 rfl (lv_room (Nat.le_of_ble_eq_true rfl)) dL_instead_11 ⟨Nat.le_of_ble_eq_true rfl, Nat.le_of_ble_eq_true rfl⟩) hP hD hS hA hown [] ⟨0, 15, 18, 20⟩ [⟨0, 15, 22, 13⟩, ⟨0, 15, 26, 15⟩] (by rw [htab]; rfl) (fun z hz => absurd hz List.not_mem_nil) (by decide) (by decide) (hts (.classLink RL 20 "java/lang/IndexOutOfBoundsException") (List.mem_of_getElem? (i := 1) rfl)) (hE.cw (Cond.castable gIOB gIOB) (List.mem_of_getElem? (i := 5) rfl)) (fun q9 w1 H locs hf hP hD hS => ?_)
  obtain rfl : w1 = wXp y ad h q n b1 l1 r1 b2 l2 r2 b3 l3 r3 uz ul uh f1 g1 f2 g2 pa kd on ot pt fb fl fh tb tl th dg ds := hf
  have hP : va_P D vwCl (wXo oa of y ad h q n (gPg pa n) n b1 l1 r1 b2 l2 r2 b3 l3 r3 uz ul uh f1 g1 f2 g2 pa kd on ot pt fb fl fh tb tl th dg ds) H := hP
  have hD : va_D A (wXo oa of y ad h q n (gPg pa n) n b1 l1 r1 b2 l2 r2 b3 l3 r3 uz ul uh f1 g1 f2 g2 pa kd on ot pt fb fl fh tb tl th dg ds) := hD
  refine lv_astore (lv' := [(7, .ref q9), (0, .ref h), (1, .int (nI k)), (2, .int b), (3, .int c0), (4, .int d0), (5, .int (gB bb)), (6, .ref oa)]) hx hb dL_instead_18 hl (by decide) rfl (fun ls hl => ?_)
  refine lv_iconst (v := 1) hx hb dL_instead_20 (by decide) ?_
  have hP9 := hP
  have hD9 := hD
  exact W.iret (v := 1) hx hb hr (fun t ht hW => ⟨⟨some (.int (1)), wXo oa of y ad h q n (gPg pa n) n b1 l1 r1 b2 l2 r2 b3 l3 r3 uz ul uh f1 g1 f2 g2 pa kd on ot pt fb fl fh tb tl th dg ds, rfl, ⟨rfl, rfl⟩, by rw [← hAe]; exact hD9, by rw [ht]; exact hP9⟩, by rw [← hAe]; exact hS.F ht⟩) (by rw [← hAe]; exact hS.2.2) dL_instead_21
set_option maxHeartbeats 4000000 in
set_option maxRecDepth 100000 in
theorem c_L_instead_X1c (l : Launch) (hfl : l.stackTraces = false) (D : va_G) (y : Nat → ClassId) (ad : Nat → Nat) (sz : Nat) (h : Nat) (q : Nat → Nat) (n : Nat) (b1 : Bool) (l1 r1 : Int64) (b2 : Bool) (l2 r2 : Int64) (b3 : Bool) (l3 r3 : Int64) (uz : Nat → Bool) (ul uh : Nat → Int64) (f1 g1 f2 g2 : Int64) (pa : Nat → Nat → Nat) (kd : Nat → Nat) (on ot : Nat → Int32) (pt : Nat → Int64) (fb : Nat → Nat → Bool) (fl fh : Nat → Nat → Int64) (tb : Nat → Nat → Bool) (tl th : Nat → Nat → Int64) (dg : Nat → Int32) (ds : Nat → Int64) (k g : Nat) (c0 d0 : Int32) (bb : Bool) (oa : Nat) (of : Nat → Int64) (hn : n ≤ 40) (hk : k < n) (hg : g < n) (hbad : c0 < 0 ∨ nI n ≤ c0) : Met l yL_instead wsL_instead ({ frames := 8, cells := 1, slots := 6, locals := 141 } : Room) (gPN D y ad [.ref h, .int (nI k), .int (nI g), .int c0, .int d0, .int (gB bb), .ref oa] (wXo oa of y ad h q n (gPg pa n) n b1 l1 r1 b2 l2 r2 b3 l3 r3 uz ul uh f1 g1 f2 g2 pa kd on ot pt fb fl fh tb tl th dg ds) sz) (gQn D (wXo oa of y ad h q n (gPg pa n) n b1 l1 r1 b2 l2 r2 b3 l3 r3 uz ul uh f1 g1 f2 g2 pa kd on ot pt fb fl fh tb tl th dg ds) (fun v w => v = some (.int 1) ∧ w = (wXo oa of y ad h q n (gPg pa n) n b1 l1 r1 b2 l2 r2 b3 l3 r3 uz ul uh f1 g1 f2 g2 pa kd on ot pt fb fl fh tb tl th dg ds))) 1 6 (va_A (wXo oa of y ad h q n (gPg pa n) n b1 l1 r1 b2 l2 r2 b3 l3 r3 uz ul uh f1 g1 f2 g2 pa kd on ot pt fb fl fh tb tl th dg ds) sz) := by
  refine gMet_ofWH (cc := cL_instead) (maxL := 8) (ret := (some .int)) (hh := [(0, 15, 18, 20), (0, 15, 22, 13), (0, 15, 26, 15)]) (by decide) rfl ?_
  intro pg e s m args below meth c s₁ B hml hv
  obtain ⟨rfl, ⟨hsz, hP, hK, hD0, hE0⟩, hN⟩ := hv
  have hx := B.exec
  have hb := B.bytes
  have hr := B.returns
  have hts := atoms_spec (ws := wsL_instead) B.pre
  have hown : s.vm.findClass RL = some m.cls := findClass_of_methodNamed B.named
  have htab : c.exceptionTable.toList = tableOf [(0, 15, 18, 20), (0, 15, 22, 13), (0, 15, 26, 15)] := vx_table (x := yL_instead) B (hts _ List.mem_cons_self)
  have hlocks := B.notSynchronized
  subst hsz
  obtain ⟨A, hAe⟩ : ∃ A : Nat → Prop, A = va_A (wXo oa of y ad h q n (gPg pa n) n b1 l1 r1 b2 l2 r2 b3 l3 r3 uz ul uh f1 g1 f2 g2 pa kd on ot pt fb fl fh tb tl th dg ds) s.heap.size := ⟨_, rfl⟩
  have hE : gE ad A s s.heap := by rw [hAe]; exact hE0
  have hD : va_D A (wXo oa of y ad h q n (gPg pa n) n b1 l1 r1 b2 l2 r2 b3 l3 r3 uz ul uh f1 g1 f2 g2 pa kd on ot pt fb fl fh tb tl th dg ds) := by rw [hAe]; exact hD0.self (sz := s.heap.size)
  have hA : ∀ q : Nat, s.heap.size ≤ q → A q := fun q h => by rw [hAe]; exact Or.inr h
  have hS : va_S A s.heap s.heap [] := va_S.rf
  have hl := lv_entry ([.ref h, .int (nI k), .int (nI g), .int c0, .int d0, .int (gB bb), .ref oa]) (n := 8) (Nat.le_of_ble_eq_true rfl)
  rw [lg_entry_eq]
  generalize (lg_sl ([.ref h, .int (nI k), .int (nI g), .int c0, .int d0, .int (gB bb), .ref oa]) ++ List.replicate (8 - (lg_sl ([.ref h, .int (nI k), .int (nI g), .int c0, .int d0, .int (gB bb), .ref oa])).length) Slot.unset).toArray = ls at hl ⊢
  have hl : lv_has ls 8 [(0, .ref h), (1, .int (nI k)), (2, .int (nI g)), (3, .int c0), (4, .int d0), (5, .int (gB bb)), (6, .ref oa)] := hl
  refine lv_aload hx hb dL_instead_0 (lv_at hl 6 rfl) ?_
  refine lv_iconst (v := 0) hx hb dL_instead_2 (by decide) ?_
  refine lv_aload_n hx hb dL_instead_3 rfl (lv_at hl 0 rfl) ?_
  refine lv_iload_n hx hb dL_instead_4 rfl (lv_at hl 1 rfl) ?_
  refine lv_iload_n hx hb dL_instead_5 rfl (lv_at hl 2 rfl) ?_
  refine lv_iload_n hx hb dL_instead_6 rfl (lv_at hl 3 rfl) ?_
  refine lv_iload hx hb dL_instead_7 (lv_at hl 4 rfl) ?_
  refine lv_iload hx hb dL_instead_9 (lv_at hl 5 rfl) ?_
  refine g_catch (name := gIOB) (ws := [(oa, .inl (y 1, 1, .inr (.inl of)))]) (vx_runV (As := [.int (nI k), .int (nI g), .int c0, .int d0, .int (gB bb)]) (rest := [.int 0, .ref oa]) ⟨hx, hb, hml, hown, hts⟩ (c_X7_instead_X1c l hfl D y ad s.heap.size h q n b1 l1 r1 b2 l2 r2 b3 l3 r3 uz ul uh f1 g1 f2 g2 pa kd on ot pt fb fl fh tb tl th dg ds k g c0 d0 bb hn hk hg hbad) (cwV 5 hts gL_instead_X7_instead rfl rfl rfl (by decide +kernel) ⟨Nat.le_of_ble_eq_true rfl, Nat.le_of_ble_eq_true rfl⟩) (gPX_VA (va_P_r (ws := [(oa, .inl (y 1, 1, .inr (.inl of)))]) hP) (va_D_r (ws := [(oa, .inl (y 1, 1, .inr (.inl of)))]) hD) hK hE hS hA 0 rfl rfl) rfl rfl hl.1 rfl (lv_room (Nat.le_of_ble_eq_true rfl)) dL_instead_11 ⟨Nat.le_of_ble_eq_true rfl, Nat.le_of_ble_eq_true rfl⟩) hP hD hS hA hown [] ⟨0, 15, 18, 20⟩ [⟨0, 15, 22, 13⟩, ⟨0, 15, 26, 15⟩] (by rw [htab]; rfl) (fun z hz => absurd hz List.not_mem_nil) (by decide) (by decide) (hts (.classLink RL 20 "java/lang/IndexOutOfBoundsException") (List.mem_of_getElem? (i := 1) rfl)) (hE.cw (Cond.castable gIOB gIOB) (List.mem_of_getElem? (i := 5) rfl)) (fun q9 w1 H locs hf hP hD hS => ?_)
  obtain rfl : w1 = wXp y ad h q n b1 l1 r1 b2 l2 r2 b3 l3 r3 uz ul uh f1 g1 f2 g2 pa kd on ot pt fb fl fh tb tl th dg ds := hf
  have hP : va_P D vwCl (wXo oa of y ad h q n (gPg pa n) n b1 l1 r1 b2 l2 r2 b3 l3 r3 uz ul uh f1 g1 f2 g2 pa kd on ot pt fb fl fh tb tl th dg ds) H := hP
  have hD : va_D A (wXo oa of y ad h q n (gPg pa n) n b1 l1 r1 b2 l2 r2 b3 l3 r3 uz ul uh f1 g1 f2 g2 pa kd on ot pt fb fl fh tb tl th dg ds) := hD
  refine lv_astore (lv' := [(7, .ref q9), (0, .ref h), (1, .int (nI k)), (2, .int (nI g)), (3, .int c0), (4, .int d0), (5, .int (gB bb)), (6, .ref oa)]) hx hb dL_instead_18 hl (by decide) rfl (fun ls hl => ?_)
  refine lv_iconst (v := 1) hx hb dL_instead_20 (by decide) ?_
  have hP9 := hP
  have hD9 := hD
  exact W.iret (v := 1) hx hb hr (fun t ht hW => ⟨⟨some (.int (1)), wXo oa of y ad h q n (gPg pa n) n b1 l1 r1 b2 l2 r2 b3 l3 r3 uz ul uh f1 g1 f2 g2 pa kd on ot pt fb fl fh tb tl th dg ds, rfl, ⟨rfl, rfl⟩, by rw [← hAe]; exact hD9, by rw [ht]; exact hP9⟩, by rw [← hAe]; exact hS.F ht⟩) (by rw [← hAe]; exact hS.2.2) dL_instead_21
set_option maxHeartbeats 4000000 in
set_option maxRecDepth 100000 in
theorem c_L_instead_X2 (l : Launch) (hfl : l.stackTraces = false) (D : va_G) (y : Nat → ClassId) (ad : Nat → Nat) (sz : Nat) (h : Nat) (q : Nat → Nat) (n : Nat) (b1 : Bool) (l1 r1 : Int64) (b2 : Bool) (l2 r2 : Int64) (b3 : Bool) (l3 r3 : Int64) (uz : Nat → Bool) (ul uh : Nat → Int64) (f1 g1 f2 g2 : Int64) (pa : Nat → Nat → Nat) (kd : Nat → Nat) (on ot : Nat → Int32) (pt : Nat → Int64) (fb : Nat → Nat → Bool) (fl fh : Nat → Nat → Int64) (tb : Nat → Nat → Bool) (tl th : Nat → Nat → Int64) (dg : Nat → Int32) (ds : Nat → Int64) (k g jo : Nat) (d0 : Int32) (bb : Bool) (oa : Nat) (of : Nat → Int64) (hn : n ≤ 40) (hk : k < n) (hg : g < n) (hjo : jo < n) (hp : d0 < 0 ∨ ¬ d0 ≤ 24) : Met l yL_instead wsL_instead ({ frames := 8, cells := 1, slots := 6, locals := 141 } : Room) (gPN D y ad [.ref h, .int (nI k), .int (nI g), .int (nI jo), .int d0, .int (gB bb), .ref oa] (wXo oa of y ad h q n (gPg pa n) n b1 l1 r1 b2 l2 r2 b3 l3 r3 uz ul uh f1 g1 f2 g2 pa kd on ot pt fb fl fh tb tl th dg ds) sz) (gQn D (wXo oa of y ad h q n (gPg pa n) n b1 l1 r1 b2 l2 r2 b3 l3 r3 uz ul uh f1 g1 f2 g2 pa kd on ot pt fb fl fh tb tl th dg ds) (fun v w => v = some (.int 2) ∧ w = (wXo oa of y ad h q n (gPg pa n) n b1 l1 r1 b2 l2 r2 b3 l3 r3 uz ul uh f1 g1 f2 g2 pa kd on ot pt fb fl fh tb tl th dg ds))) 1 6 (va_A (wXo oa of y ad h q n (gPg pa n) n b1 l1 r1 b2 l2 r2 b3 l3 r3 uz ul uh f1 g1 f2 g2 pa kd on ot pt fb fl fh tb tl th dg ds) sz) := by
  refine gMet_ofWH (cc := cL_instead) (maxL := 8) (ret := (some .int)) (hh := [(0, 15, 18, 20), (0, 15, 22, 13), (0, 15, 26, 15)]) (by decide) rfl ?_
  intro pg e s m args below meth c s₁ B hml hv
  obtain ⟨rfl, ⟨hsz, hP, hK, hD0, hE0⟩, hN⟩ := hv
  have hx := B.exec
  have hb := B.bytes
  have hr := B.returns
  have hts := atoms_spec (ws := wsL_instead) B.pre
  have hown : s.vm.findClass RL = some m.cls := findClass_of_methodNamed B.named
  have htab : c.exceptionTable.toList = tableOf [(0, 15, 18, 20), (0, 15, 22, 13), (0, 15, 26, 15)] := vx_table (x := yL_instead) B (hts _ List.mem_cons_self)
  have hlocks := B.notSynchronized
  subst hsz
  obtain ⟨A, hAe⟩ : ∃ A : Nat → Prop, A = va_A (wXo oa of y ad h q n (gPg pa n) n b1 l1 r1 b2 l2 r2 b3 l3 r3 uz ul uh f1 g1 f2 g2 pa kd on ot pt fb fl fh tb tl th dg ds) s.heap.size := ⟨_, rfl⟩
  have hE : gE ad A s s.heap := by rw [hAe]; exact hE0
  have hD : va_D A (wXo oa of y ad h q n (gPg pa n) n b1 l1 r1 b2 l2 r2 b3 l3 r3 uz ul uh f1 g1 f2 g2 pa kd on ot pt fb fl fh tb tl th dg ds) := by rw [hAe]; exact hD0.self (sz := s.heap.size)
  have hA : ∀ q : Nat, s.heap.size ≤ q → A q := fun q h => by rw [hAe]; exact Or.inr h
  have hS : va_S A s.heap s.heap [] := va_S.rf
  have hl := lv_entry ([.ref h, .int (nI k), .int (nI g), .int (nI jo), .int d0, .int (gB bb), .ref oa]) (n := 8) (Nat.le_of_ble_eq_true rfl)
  rw [lg_entry_eq]
  generalize (lg_sl ([.ref h, .int (nI k), .int (nI g), .int (nI jo), .int d0, .int (gB bb), .ref oa]) ++ List.replicate (8 - (lg_sl ([.ref h, .int (nI k), .int (nI g), .int (nI jo), .int d0, .int (gB bb), .ref oa])).length) Slot.unset).toArray = ls at hl ⊢
  have hl : lv_has ls 8 [(0, .ref h), (1, .int (nI k)), (2, .int (nI g)), (3, .int (nI jo)), (4, .int d0), (5, .int (gB bb)), (6, .ref oa)] := hl
  refine lv_aload hx hb dL_instead_0 (lv_at hl 6 rfl) ?_
  refine lv_iconst (v := 0) hx hb dL_instead_2 (by decide) ?_
  refine lv_aload_n hx hb dL_instead_3 rfl (lv_at hl 0 rfl) ?_
  refine lv_iload_n hx hb dL_instead_4 rfl (lv_at hl 1 rfl) ?_
  refine lv_iload_n hx hb dL_instead_5 rfl (lv_at hl 2 rfl) ?_
  refine lv_iload_n hx hb dL_instead_6 rfl (lv_at hl 3 rfl) ?_
  refine lv_iload hx hb dL_instead_7 (lv_at hl 4 rfl) ?_
  refine lv_iload hx hb dL_instead_9 (lv_at hl 5 rfl) ?_
  refine g_catch (name := gIAE) (ws := [(oa, .inl (y 1, 1, .inr (.inl of)))]) (vx_runV (As := [.int (nI k), .int (nI g), .int (nI jo), .int d0, .int (gB bb)]) (rest := [.int 0, .ref oa]) ⟨hx, hb, hml, hown, hts⟩ (c_X7_instead_X2 l hfl D y ad s.heap.size h q n b1 l1 r1 b2 l2 r2 b3 l3 r3 uz ul uh f1 g1 f2 g2 pa kd on ot pt fb fl fh tb tl th dg ds k g jo d0 bb hn hk hg hjo hp) (cwV 5 hts gL_instead_X7_instead rfl rfl rfl (by decide +kernel) ⟨Nat.le_of_ble_eq_true rfl, Nat.le_of_ble_eq_true rfl⟩) (gPX_VA (va_P_r (ws := [(oa, .inl (y 1, 1, .inr (.inl of)))]) hP) (va_D_r (ws := [(oa, .inl (y 1, 1, .inr (.inl of)))]) hD) hK hE hS hA 0 rfl rfl) rfl rfl hl.1 rfl (lv_room (Nat.le_of_ble_eq_true rfl)) dL_instead_11 ⟨Nat.le_of_ble_eq_true rfl, Nat.le_of_ble_eq_true rfl⟩) hP hD hS hA hown [⟨0, 15, 18, 20⟩] ⟨0, 15, 22, 13⟩ [⟨0, 15, 26, 15⟩] (by rw [htab]; rfl) (fun z hz => by rcases List.mem_singleton.mp hz with rfl; exact Or.inr ⟨by decide, _, (hts (.classLink RL 20 "java/lang/IndexOutOfBoundsException") (List.mem_of_getElem? (i := 1) rfl)), hN.1⟩) (by decide) (by decide) (hts (.classLink RL 13 "java/lang/IllegalArgumentException") (List.mem_of_getElem? (i := 2) rfl)) (hE.cw (Cond.castable gIAE gIAE) (List.mem_of_getElem? (i := 3) rfl)) (fun q9 w1 H locs hf hP hD hS => ?_)
  obtain rfl : w1 = wXp y ad h q n b1 l1 r1 b2 l2 r2 b3 l3 r3 uz ul uh f1 g1 f2 g2 pa kd on ot pt fb fl fh tb tl th dg ds := hf
  have hP : va_P D vwCl (wXo oa of y ad h q n (gPg pa n) n b1 l1 r1 b2 l2 r2 b3 l3 r3 uz ul uh f1 g1 f2 g2 pa kd on ot pt fb fl fh tb tl th dg ds) H := hP
  have hD : va_D A (wXo oa of y ad h q n (gPg pa n) n b1 l1 r1 b2 l2 r2 b3 l3 r3 uz ul uh f1 g1 f2 g2 pa kd on ot pt fb fl fh tb tl th dg ds) := hD
  refine lv_astore (lv' := [(7, .ref q9), (0, .ref h), (1, .int (nI k)), (2, .int (nI g)), (3, .int (nI jo)), (4, .int d0), (5, .int (gB bb)), (6, .ref oa)]) hx hb dL_instead_22 hl (by decide) rfl (fun ls hl => ?_)
  refine lv_iconst (v := 2) hx hb dL_instead_24 (by decide) ?_
  have hP9 := hP
  have hD9 := hD
  exact W.iret (v := 2) hx hb hr (fun t ht hW => ⟨⟨some (.int (2)), wXo oa of y ad h q n (gPg pa n) n b1 l1 r1 b2 l2 r2 b3 l3 r3 uz ul uh f1 g1 f2 g2 pa kd on ot pt fb fl fh tb tl th dg ds, rfl, ⟨rfl, rfl⟩, by rw [← hAe]; exact hD9, by rw [ht]; exact hP9⟩, by rw [← hAe]; exact hS.F ht⟩) (by rw [← hAe]; exact hS.2.2) dL_instead_25
set_option maxHeartbeats 4000000 in
set_option maxRecDepth 100000 in
theorem c_L_instead_X3 (l : Launch) (hfl : l.stackTraces = false) (D : va_G) (y : Nat → ClassId) (ad : Nat → Nat) (sz : Nat) (h : Nat) (q : Nat → Nat) (n : Nat) (b1 : Bool) (l1 r1 : Int64) (b2 : Bool) (l2 r2 : Int64) (b3 : Bool) (l3 r3 : Int64) (uz : Nat → Bool) (ul uh : Nat → Int64) (f1 g1 f2 g2 : Int64) (pa : Nat → Nat → Nat) (kd : Nat → Nat) (on ot : Nat → Int32) (pt : Nat → Int64) (fb : Nat → Nat → Bool) (fl fh : Nat → Nat → Int64) (tb : Nat → Nat → Bool) (tl th : Nat → Nat → Int64) (dg : Nat → Int32) (ds : Nat → Int64) (k g jo p : Nat) (bb : Bool) (cW : Nat → Bool) (cX cY : Nat → Int64) (oa : Nat) (of : Nat → Int64) (hn : n ≤ 40) (hk : k < n) (hg : g < n) (hjo : jo < n) (hp : p < 25) (hlo : ∀ o, o < g → ¬ sp_X5_isMadeOf (pt o) (nI g) = true) (hg1 : cW g = sp_X6_load_b1 (fb jo) (fl jo) (fh jo) p) (hg2 : cX g = sp_X6_load_lo1 (fb jo) (fl jo) (fh jo) p) (hg3 : cY g = sp_X6_load_hi1 (fb jo) (fl jo) (fh jo) p) (hform : ∀ j, g < j → j < n → sp_X5_isMadeOf (pt j) (nI g) = true → ∃ o1 o2 : Nat, o1 < j ∧ o2 < j ∧ on j = nI o1 ∧ ot j = nI o2 ∧ 1 ≤ kd j ∧ kd j ≤ 7 ∧ inX kd pt fb fl fh cW cX cY g p j o1 o2) (hf : ¬ lsB pt fb fl fh cW cX cY k g p = true) : Met l yL_instead wsL_instead ({ frames := 10, cells := 1, slots := 6, locals := 351 } : Room) (gPN D y ad [.ref h, .int (nI k), .int (nI g), .int (nI jo), .int (nI p), .int (gB bb), .ref oa] (wXo oa of y ad h q n (gPg pa n) n b1 l1 r1 b2 l2 r2 b3 l3 r3 uz ul uh f1 g1 f2 g2 pa kd on ot pt fb fl fh tb tl th dg ds) sz) (gQn D (wXo oa of y ad h q n (gPg pa n) n b1 l1 r1 b2 l2 r2 b3 l3 r3 uz ul uh f1 g1 f2 g2 pa kd on ot pt fb fl fh tb tl th dg ds) (fun v w => ∃ (yb1 : Bool) (yl1 : Int64) (yr1 : Int64) (yb2 : Bool) (yl2 : Int64) (yr2 : Int64) (yb3 : Bool) (yl3 : Int64) (yr3 : Int64) (yuz : Nat → Bool) (yul : Nat → Int64) (yuh : Nat → Int64) (yf1 : Int64) (yg1 : Int64) (yf2 : Int64) (yg2 : Int64), v = some (.int 3) ∧ w = (wXo oa of y ad h q n (gPg pa n) n yb1 yl1 yr1 yb2 yl2 yr2 yb3 yl3 yr3 yuz yul yuh yf1 yg1 yf2 yg2 pa kd on ot pt fb fl fh tb tl th dg ds))) 1 6 (va_A (wXo oa of y ad h q n (gPg pa n) n b1 l1 r1 b2 l2 r2 b3 l3 r3 uz ul uh f1 g1 f2 g2 pa kd on ot pt fb fl fh tb tl th dg ds) sz) := by
  refine gMet_ofWH (cc := cL_instead) (maxL := 8) (ret := (some .int)) (hh := [(0, 15, 18, 20), (0, 15, 22, 13), (0, 15, 26, 15)]) (by decide) rfl ?_
  intro pg e s m args below meth c s₁ B hml hv
  obtain ⟨rfl, ⟨hsz, hP, hK, hD0, hE0⟩, hN⟩ := hv
  have hx := B.exec
  have hb := B.bytes
  have hr := B.returns
  have hts := atoms_spec (ws := wsL_instead) B.pre
  have hown : s.vm.findClass RL = some m.cls := findClass_of_methodNamed B.named
  have htab : c.exceptionTable.toList = tableOf [(0, 15, 18, 20), (0, 15, 22, 13), (0, 15, 26, 15)] := vx_table (x := yL_instead) B (hts _ List.mem_cons_self)
  have hlocks := B.notSynchronized
  subst hsz
  obtain ⟨A, hAe⟩ : ∃ A : Nat → Prop, A = va_A (wXo oa of y ad h q n (gPg pa n) n b1 l1 r1 b2 l2 r2 b3 l3 r3 uz ul uh f1 g1 f2 g2 pa kd on ot pt fb fl fh tb tl th dg ds) s.heap.size := ⟨_, rfl⟩
  have hE : gE ad A s s.heap := by rw [hAe]; exact hE0
  have hD : va_D A (wXo oa of y ad h q n (gPg pa n) n b1 l1 r1 b2 l2 r2 b3 l3 r3 uz ul uh f1 g1 f2 g2 pa kd on ot pt fb fl fh tb tl th dg ds) := by rw [hAe]; exact hD0.self (sz := s.heap.size)
  have hA : ∀ q : Nat, s.heap.size ≤ q → A q := fun q h => by rw [hAe]; exact Or.inr h
  have hS : va_S A s.heap s.heap [] := va_S.rf
  have hl := lv_entry ([.ref h, .int (nI k), .int (nI g), .int (nI jo), .int (nI p), .int (gB bb), .ref oa]) (n := 8) (Nat.le_of_ble_eq_true rfl)
  rw [lg_entry_eq]
  generalize (lg_sl ([.ref h, .int (nI k), .int (nI g), .int (nI jo), .int (nI p), .int (gB bb), .ref oa]) ++ List.replicate (8 - (lg_sl ([.ref h, .int (nI k), .int (nI g), .int (nI jo), .int (nI p), .int (gB bb), .ref oa])).length) Slot.unset).toArray = ls at hl ⊢
  have hl : lv_has ls 8 [(0, .ref h), (1, .int (nI k)), (2, .int (nI g)), (3, .int (nI jo)), (4, .int (nI p)), (5, .int (gB bb)), (6, .ref oa)] := hl
  refine lv_aload hx hb dL_instead_0 (lv_at hl 6 rfl) ?_
  refine lv_iconst (v := 0) hx hb dL_instead_2 (by decide) ?_
  refine lv_aload_n hx hb dL_instead_3 rfl (lv_at hl 0 rfl) ?_
  refine lv_iload_n hx hb dL_instead_4 rfl (lv_at hl 1 rfl) ?_
  refine lv_iload_n hx hb dL_instead_5 rfl (lv_at hl 2 rfl) ?_
  refine lv_iload_n hx hb dL_instead_6 rfl (lv_at hl 3 rfl) ?_
  refine lv_iload hx hb dL_instead_7 (lv_at hl 4 rfl) ?_
  refine lv_iload hx hb dL_instead_9 (lv_at hl 5 rfl) ?_
  refine g_catch (name := gISE) (ws := [(oa, .inl (y 1, 1, .inr (.inl of)))]) (vx_runV (As := [.int (nI k), .int (nI g), .int (nI jo), .int (nI p), .int (gB bb)]) (rest := [.int 0, .ref oa]) ⟨hx, hb, hml, hown, hts⟩ (c_X7_instead_X3 l hfl D y ad s.heap.size h q n b1 l1 r1 b2 l2 r2 b3 l3 r3 uz ul uh f1 g1 f2 g2 pa kd on ot pt fb fl fh tb tl th dg ds k g jo p bb cW cX cY hn hk hg hjo hp hlo hg1 hg2 hg3 hform hf) (cwV 5 hts gL_instead_X7_instead rfl rfl rfl (by decide +kernel) ⟨Nat.le_of_ble_eq_true rfl, Nat.le_of_ble_eq_true rfl⟩) (gPX_VA (va_P_r (ws := [(oa, .inl (y 1, 1, .inr (.inl of)))]) hP) (va_D_r (ws := [(oa, .inl (y 1, 1, .inr (.inl of)))]) hD) hK hE hS hA 0 rfl rfl) rfl rfl hl.1 rfl (lv_room (Nat.le_of_ble_eq_true rfl)) dL_instead_11 ⟨Nat.le_of_ble_eq_true rfl, Nat.le_of_ble_eq_true rfl⟩) hP hD hS hA hown [⟨0, 15, 18, 20⟩, ⟨0, 15, 22, 13⟩] ⟨0, 15, 26, 15⟩ [] (by rw [htab]; rfl) (fun z hz => by rcases List.mem_cons.mp hz with rfl | hz; exact Or.inr ⟨by decide, _, (hts (.classLink RL 20 "java/lang/IndexOutOfBoundsException") (List.mem_of_getElem? (i := 1) rfl)), hN.2.1⟩; rcases List.mem_singleton.mp hz with rfl; exact Or.inr ⟨by decide, _, (hts (.classLink RL 13 "java/lang/IllegalArgumentException") (List.mem_of_getElem? (i := 2) rfl)), hN.2.2⟩) (by decide) (by decide) (hts (.classLink RL 15 "java/lang/IllegalStateException") (List.mem_of_getElem? (i := 3) rfl)) (hE.cw (Cond.castable gISE gISE) (List.mem_of_getElem? (i := 4) rfl)) (fun q9 w1 H locs hf hP hD hS => ?_)
  obtain ⟨b1_11, l1_11, r1_11, b2_11, l2_11, r2_11, b3_11, l3_11, r3_11, uz_11, ul_11, uh_11, f1_11, g1_11, f2_11, g2_11, rfl⟩ := hf
  have hP : va_P D vwCl (wXo oa of y ad h q n (gPg pa n) n b1_11 l1_11 r1_11 b2_11 l2_11 r2_11 b3_11 l3_11 r3_11 uz_11 ul_11 uh_11 f1_11 g1_11 f2_11 g2_11 pa kd on ot pt fb fl fh tb tl th dg ds) H := hP
  have hD : va_D A (wXo oa of y ad h q n (gPg pa n) n b1_11 l1_11 r1_11 b2_11 l2_11 r2_11 b3_11 l3_11 r3_11 uz_11 ul_11 uh_11 f1_11 g1_11 f2_11 g2_11 pa kd on ot pt fb fl fh tb tl th dg ds) := hD
  refine lv_astore (lv' := [(7, .ref q9), (0, .ref h), (1, .int (nI k)), (2, .int (nI g)), (3, .int (nI jo)), (4, .int (nI p)), (5, .int (gB bb)), (6, .ref oa)]) hx hb dL_instead_26 hl (by decide) rfl (fun ls hl => ?_)
  refine lv_iconst (v := 3) hx hb dL_instead_28 (by decide) ?_
  have hP9 := hP
  have hD9 := hD
  exact W.iret (v := 3) hx hb hr (fun t ht hW => ⟨⟨some (.int (3)), wXo oa of y ad h q n (gPg pa n) n b1_11 l1_11 r1_11 b2_11 l2_11 r2_11 b3_11 l3_11 r3_11 uz_11 ul_11 uh_11 f1_11 g1_11 f2_11 g2_11 pa kd on ot pt fb fl fh tb tl th dg ds, rfl, ⟨b1_11, l1_11, r1_11, b2_11, l2_11, r2_11, b3_11, l3_11, r3_11, uz_11, ul_11, uh_11, f1_11, g1_11, f2_11, g2_11, rfl, rfl⟩, by rw [← hAe]; exact hD9, by rw [ht]; exact hP9⟩, by rw [← hAe]; exact hS.F ht⟩) (by rw [← hAe]; exact hS.2.2) dL_instead_29
set_option maxHeartbeats 4000000 in
set_option maxRecDepth 100000 in
theorem c_L_instead_0 (l : Launch) (hfl : l.stackTraces = false) (D : va_G) (y : Nat → ClassId) (ad : Nat → Nat) (sz : Nat) (h : Nat) (q : Nat → Nat) (n : Nat) (b1 : Bool) (l1 r1 : Int64) (b2 : Bool) (l2 r2 : Int64) (b3 : Bool) (l3 r3 : Int64) (uz : Nat → Bool) (ul uh : Nat → Int64) (f1 g1 f2 g2 : Int64) (pa : Nat → Nat → Nat) (kd : Nat → Nat) (on ot : Nat → Int32) (pt : Nat → Int64) (fb : Nat → Nat → Bool) (fl fh : Nat → Nat → Int64) (tb : Nat → Nat → Bool) (tl th : Nat → Nat → Int64) (dg : Nat → Int32) (ds : Nat → Int64) (k g jo p : Nat) (bb : Bool) (cW : Nat → Bool) (cX cY : Nat → Int64) (oa : Nat) (of : Nat → Int64) (hn : n ≤ 40) (hk : k < n) (hg : g < n) (hjo : jo < n) (hp : p < 25) (hlo : ∀ o, o < g → ¬ sp_X5_isMadeOf (pt o) (nI g) = true) (hg1 : cW g = sp_X6_load_b1 (fb jo) (fl jo) (fh jo) p) (hg2 : cX g = sp_X6_load_lo1 (fb jo) (fl jo) (fh jo) p) (hg3 : cY g = sp_X6_load_hi1 (fb jo) (fl jo) (fh jo) p) (hform : ∀ j, g < j → j < n → sp_X5_isMadeOf (pt j) (nI g) = true → ∃ o1 o2 : Nat, o1 < j ∧ o2 < j ∧ on j = nI o1 ∧ ot j = nI o2 ∧ 1 ≤ kd j ∧ kd j ≤ 7 ∧ inX kd pt fb fl fh cW cX cY g p j o1 o2) (hf : lsB pt fb fl fh cW cX cY k g p = true) : Met l yL_instead wsL_instead ({ frames := 10, cells := 0, slots := 0, locals := 351 } : Room) (gPN D y ad [.ref h, .int (nI k), .int (nI g), .int (nI jo), .int (nI p), .int (gB bb), .ref oa] (wXo oa of y ad h q n (gPg pa n) n b1 l1 r1 b2 l2 r2 b3 l3 r3 uz ul uh f1 g1 f2 g2 pa kd on ot pt fb fl fh tb tl th dg ds) sz) (gQn D (wXo oa of y ad h q n (gPg pa n) n b1 l1 r1 b2 l2 r2 b3 l3 r3 uz ul uh f1 g1 f2 g2 pa kd on ot pt fb fl fh tb tl th dg ds) (fun v w => ∃ (yb1 : Bool) (yl1 : Int64) (yr1 : Int64) (yb2 : Bool) (yl2 : Int64) (yr2 : Int64) (yb3 : Bool) (yl3 : Int64) (yr3 : Int64) (yuz : Nat → Bool) (yul : Nat → Int64) (yuh : Nat → Int64) (yf1 : Int64) (yg1 : Int64) (yf2 : Int64) (yg2 : Int64), v = some (.int 0) ∧ w = (wXo oa (vp_updL of 0 (gSl bb (lsR pt fb fl fh cW cX cY k g p) (lsL pt fb fl fh cW cX cY k g p))) y ad h q n (gPg pa n) n yb1 yl1 yr1 yb2 yl2 yr2 yb3 yl3 yr3 yuz yul yuh yf1 yg1 yf2 yg2 pa kd on ot pt fb fl fh tb tl th dg ds))) 0 0 (va_A (wXo oa of y ad h q n (gPg pa n) n b1 l1 r1 b2 l2 r2 b3 l3 r3 uz ul uh f1 g1 f2 g2 pa kd on ot pt fb fl fh tb tl th dg ds) sz) := by
  refine gMet_ofWH (cc := cL_instead) (maxL := 8) (ret := (some .int)) (hh := [(0, 15, 18, 20), (0, 15, 22, 13), (0, 15, 26, 15)]) (by decide) rfl ?_
  intro pg e s m args below meth c s₁ B hml hv
  obtain ⟨rfl, ⟨hsz, hP, hK, hD0, hE0⟩, hN⟩ := hv
  have hx := B.exec
  have hb := B.bytes
  have hr := B.returns
  have hts := atoms_spec (ws := wsL_instead) B.pre
  have hown : s.vm.findClass RL = some m.cls := findClass_of_methodNamed B.named
  have htab : c.exceptionTable.toList = tableOf [(0, 15, 18, 20), (0, 15, 22, 13), (0, 15, 26, 15)] := vx_table (x := yL_instead) B (hts _ List.mem_cons_self)
  have hlocks := B.notSynchronized
  subst hsz
  obtain ⟨A, hAe⟩ : ∃ A : Nat → Prop, A = va_A (wXo oa of y ad h q n (gPg pa n) n b1 l1 r1 b2 l2 r2 b3 l3 r3 uz ul uh f1 g1 f2 g2 pa kd on ot pt fb fl fh tb tl th dg ds) s.heap.size := ⟨_, rfl⟩
  have hE : gE ad A s s.heap := by rw [hAe]; exact hE0
  have hD : va_D A (wXo oa of y ad h q n (gPg pa n) n b1 l1 r1 b2 l2 r2 b3 l3 r3 uz ul uh f1 g1 f2 g2 pa kd on ot pt fb fl fh tb tl th dg ds) := by rw [hAe]; exact hD0.self (sz := s.heap.size)
  have hA : ∀ q : Nat, s.heap.size ≤ q → A q := fun q h => by rw [hAe]; exact Or.inr h
  have hS : va_S A s.heap s.heap [] := va_S.rf
  have hl := lv_entry ([.ref h, .int (nI k), .int (nI g), .int (nI jo), .int (nI p), .int (gB bb), .ref oa]) (n := 8) (Nat.le_of_ble_eq_true rfl)
  rw [lg_entry_eq]
  generalize (lg_sl ([.ref h, .int (nI k), .int (nI g), .int (nI jo), .int (nI p), .int (gB bb), .ref oa]) ++ List.replicate (8 - (lg_sl ([.ref h, .int (nI k), .int (nI g), .int (nI jo), .int (nI p), .int (gB bb), .ref oa])).length) Slot.unset).toArray = ls at hl ⊢
  have hl : lv_has ls 8 [(0, .ref h), (1, .int (nI k)), (2, .int (nI g)), (3, .int (nI jo)), (4, .int (nI p)), (5, .int (gB bb)), (6, .ref oa)] := hl
  refine lv_aload hx hb dL_instead_0 (lv_at hl 6 rfl) ?_
  refine lv_iconst (v := 0) hx hb dL_instead_2 (by decide) ?_
  refine lv_aload_n hx hb dL_instead_3 rfl (lv_at hl 0 rfl) ?_
  refine lv_iload_n hx hb dL_instead_4 rfl (lv_at hl 1 rfl) ?_
  refine lv_iload_n hx hb dL_instead_5 rfl (lv_at hl 2 rfl) ?_
  refine lv_iload_n hx hb dL_instead_6 rfl (lv_at hl 3 rfl) ?_
  refine lv_iload hx hb dL_instead_7 (lv_at hl 4 rfl) ?_
  refine lv_iload hx hb dL_instead_9 (lv_at hl 5 rfl) ?_
  refine g_callAr (ws := [(oa, .inl (y 1, 1, .inr (.inl of)))]) (va_runV (As := [.int (nI k), .int (nI g), .int (nI jo), .int (nI p), .int (gB bb)]) (rest := [.int 0, .ref oa]) ⟨hx, hb, hml, hown, hts⟩ (c_X7_instead_0 l hfl D y ad s.heap.size h q n b1 l1 r1 b2 l2 r2 b3 l3 r3 uz ul uh f1 g1 f2 g2 pa kd on ot pt fb fl fh tb tl th dg ds k g jo p bb cW cX cY hn hk hg hjo hp hlo hg1 hg2 hg3 hform hf) (cwV 5 hts gL_instead_X7_instead rfl rfl rfl (by decide +kernel) ⟨Nat.le_of_ble_eq_true rfl, Nat.le_of_ble_eq_true rfl⟩) (gPX_VA (va_P_r (ws := [(oa, .inl (y 1, 1, .inr (.inl of)))]) hP) (va_D_r (ws := [(oa, .inl (y 1, 1, .inr (.inl of)))]) hD) hK hE hS hA 0 rfl rfl) rfl rfl hl.1 rfl (lv_room (Nat.le_of_ble_eq_true rfl)) dL_instead_11 ⟨Nat.le_of_ble_eq_true rfl, Nat.le_of_ble_eq_true rfl⟩) hP hD hS hA (fun v w1 H locs hf hP hD hS => ?_)
  obtain ⟨rfl, b1_11, l1_11, r1_11, b2_11, l2_11, r2_11, b3_11, l3_11, r3_11, uz_11, ul_11, uh_11, f1_11, g1_11, f2_11, g2_11, rfl⟩ := hf
  have hP : va_P D vwCl (wXo oa of y ad h q n (gPg pa n) n b1_11 l1_11 r1_11 b2_11 l2_11 r2_11 b3_11 l3_11 r3_11 uz_11 ul_11 uh_11 f1_11 g1_11 f2_11 g2_11 pa kd on ot pt fb fl fh tb tl th dg ds) H := hP
  have hD : va_D A (wXo oa of y ad h q n (gPg pa n) n b1_11 l1_11 r1_11 b2_11 l2_11 r2_11 b3_11 l3_11 r3_11 uz_11 ul_11 uh_11 f1_11 g1_11 f2_11 g2_11 pa kd on ot pt fb fl fh tb tl th dg ds) := hD
  refine g_last (k := 0) (x := gSl bb (lsR pt fb fl fh cW cX cY k g p) (lsL pt fb fl fh cW cX cY k g p)) hx hb hK.1 hP hD hS 0 1 rfl rfl (by omega) (by decide) dL_instead_14 (fun H locs hP hD hS => ?_)
  have hP : va_P D vwCl (wXo oa (vp_updL of 0 (gSl bb (lsR pt fb fl fh cW cX cY k g p) (lsL pt fb fl fh cW cX cY k g p))) y ad h q n (gPg pa n) n b1_11 l1_11 r1_11 b2_11 l2_11 r2_11 b3_11 l3_11 r3_11 uz_11 ul_11 uh_11 f1_11 g1_11 f2_11 g2_11 pa kd on ot pt fb fl fh tb tl th dg ds) H := hP
  have hD : va_D A (wXo oa (vp_updL of 0 (gSl bb (lsR pt fb fl fh cW cX cY k g p) (lsL pt fb fl fh cW cX cY k g p))) y ad h q n (gPg pa n) n b1_11 l1_11 r1_11 b2_11 l2_11 r2_11 b3_11 l3_11 r3_11 uz_11 ul_11 uh_11 f1_11 g1_11 f2_11 g2_11 pa kd on ot pt fb fl fh tb tl th dg ds) := hD
  refine lv_goto (tgt := 30) hx hb dL_instead_15 (by decide) ?_
  refine lv_iconst (v := 0) hx hb dL_instead_30 (by decide) ?_
  have hP9 := hP
  have hD9 := hD
  exact W.iret (v := 0) hx hb hr (fun t ht hW => ⟨⟨some (.int (0)), wXo oa (vp_updL of 0 (gSl bb (lsR pt fb fl fh cW cX cY k g p) (lsL pt fb fl fh cW cX cY k g p))) y ad h q n (gPg pa n) n b1_11 l1_11 r1_11 b2_11 l2_11 r2_11 b3_11 l3_11 r3_11 uz_11 ul_11 uh_11 f1_11 g1_11 f2_11 g2_11 pa kd on ot pt fb fl fh tb tl th dg ds, rfl, ⟨b1_11, l1_11, r1_11, b2_11, l2_11, r2_11, b3_11, l3_11, r3_11, uz_11, ul_11, uh_11, f1_11, g1_11, f2_11, g2_11, rfl, rfl⟩, by rw [← hAe]; exact hD9, by rw [ht]; exact hP9⟩, by rw [← hAe]; exact hS.F ht⟩) (by rw [← hAe]; exact hS.2.2) dL_instead_31
set_option maxHeartbeats 4000000 in
set_option maxRecDepth 100000 in
theorem c_L_place_X1 (l : Launch) (hfl : l.stackTraces = false) (D : va_G) (y : Nat → ClassId) (ad : Nat → Nat) (sz : Nat) (h : Nat) (q : Nat → Nat) (n : Nat) (b1 : Bool) (l1 r1 : Int64) (b2 : Bool) (l2 r2 : Int64) (b3 : Bool) (l3 r3 : Int64) (uz : Nat → Bool) (ul uh : Nat → Int64) (f1 g1 f2 g2 : Int64) (pa : Nat → Nat → Nat) (kd : Nat → Nat) (on ot : Nat → Int32) (pt : Nat → Int64) (fb : Nat → Nat → Bool) (fl fh : Nat → Nat → Int64) (tb : Nat → Nat → Bool) (tl th : Nat → Nat → Int64) (dg : Nat → Int32) (ds : Nat → Int64) (a b : Int32) (oa : Nat) (of : Nat → Int64) (hbad : a < 0 ∨ nI n ≤ a) : Met l yL_place wsL_place ({ frames := 8, cells := 1, slots := 6, locals := 138 } : Room) (gPN D y ad [.ref h, .int a, .int b, .ref oa] (wXo oa of y ad h q n (gPg pa n) n b1 l1 r1 b2 l2 r2 b3 l3 r3 uz ul uh f1 g1 f2 g2 pa kd on ot pt fb fl fh tb tl th dg ds) sz) (gQn D (wXo oa of y ad h q n (gPg pa n) n b1 l1 r1 b2 l2 r2 b3 l3 r3 uz ul uh f1 g1 f2 g2 pa kd on ot pt fb fl fh tb tl th dg ds) (fun v w => v = some (.int 1) ∧ w = (wXo oa of y ad h q n (gPg pa n) n b1 l1 r1 b2 l2 r2 b3 l3 r3 uz ul uh f1 g1 f2 g2 pa kd on ot pt fb fl fh tb tl th dg ds))) 1 6 (va_A (wXo oa of y ad h q n (gPg pa n) n b1 l1 r1 b2 l2 r2 b3 l3 r3 uz ul uh f1 g1 f2 g2 pa kd on ot pt fb fl fh tb tl th dg ds) sz) := by
  refine gMet_ofWH (cc := cL_place) (maxL := 5) (ret := (some .int)) (hh := [(0, 10, 13, 20), (0, 10, 17, 13)]) (by decide) rfl ?_
  intro pg e s m args below meth c s₁ B hml hv
  obtain ⟨rfl, ⟨hsz, hP, hK, hD0, hE0⟩, hN⟩ := hv
  have hx := B.exec
  have hb := B.bytes
  have hr := B.returns
  have hts := atoms_spec (ws := wsL_place) B.pre
  have hown : s.vm.findClass RL = some m.cls := findClass_of_methodNamed B.named
  have htab : c.exceptionTable.toList = tableOf [(0, 10, 13, 20), (0, 10, 17, 13)] := vx_table (x := yL_place) B (hts _ List.mem_cons_self)
  have hlocks := B.notSynchronized
  subst hsz
  obtain ⟨A, hAe⟩ : ∃ A : Nat → Prop, A = va_A (wXo oa of y ad h q n (gPg pa n) n b1 l1 r1 b2 l2 r2 b3 l3 r3 uz ul uh f1 g1 f2 g2 pa kd on ot pt fb fl fh tb tl th dg ds) s.heap.size := ⟨_, rfl⟩
  have hE : gE ad A s s.heap := by rw [hAe]; exact hE0
  have hD : va_D A (wXo oa of y ad h q n (gPg pa n) n b1 l1 r1 b2 l2 r2 b3 l3 r3 uz ul uh f1 g1 f2 g2 pa kd on ot pt fb fl fh tb tl th dg ds) := by rw [hAe]; exact hD0.self (sz := s.heap.size)
  have hA : ∀ q : Nat, s.heap.size ≤ q → A q := fun q h => by rw [hAe]; exact Or.inr h
  have hS : va_S A s.heap s.heap [] := va_S.rf
  have hl := lv_entry ([.ref h, .int a, .int b, .ref oa]) (n := 5) (Nat.le_of_ble_eq_true rfl)
  rw [lg_entry_eq]
  generalize (lg_sl ([.ref h, .int a, .int b, .ref oa]) ++ List.replicate (5 - (lg_sl ([.ref h, .int a, .int b, .ref oa])).length) Slot.unset).toArray = ls at hl ⊢
  have hl : lv_has ls 5 [(0, .ref h), (1, .int a), (2, .int b), (3, .ref oa)] := hl
  refine lv_aload_n hx hb dL_place_0 rfl (lv_at hl 3 rfl) ?_
  refine lv_iconst (v := 0) hx hb dL_place_1 (by decide) ?_
  refine lv_aload_n hx hb dL_place_2 rfl (lv_at hl 0 rfl) ?_
  refine lv_iload_n hx hb dL_place_3 rfl (lv_at hl 1 rfl) ?_
  refine lv_iload_n hx hb dL_place_4 rfl (lv_at hl 2 rfl) ?_
  refine g_catch (name := gIOB) (ws := [(oa, .inl (y 1, 1, .inr (.inl of)))]) (vx_runV (As := [.int a, .int b]) (rest := [.int 0, .ref oa]) ⟨hx, hb, hml, hown, hts⟩ (c_X7_place_X1 l hfl D y ad s.heap.size h q n b1 l1 r1 b2 l2 r2 b3 l3 r3 uz ul uh f1 g1 f2 g2 pa kd on ot pt fb fl fh tb tl th dg ds a b hbad) (cwV 2 hts gL_place_X7_place rfl rfl rfl (by decide +kernel) ⟨Nat.le_of_ble_eq_true rfl, Nat.le_of_ble_eq_true rfl⟩) (gPX_VA (va_P_r (ws := [(oa, .inl (y 1, 1, .inr (.inl of)))]) hP) (va_D_r (ws := [(oa, .inl (y 1, 1, .inr (.inl of)))]) hD) hK hE hS hA 0 rfl rfl) rfl rfl hl.1 rfl (lv_room (Nat.le_of_ble_eq_true rfl)) dL_place_5 ⟨Nat.le_of_ble_eq_true rfl, Nat.le_of_ble_eq_true rfl⟩) hP hD hS hA hown [] ⟨0, 10, 13, 20⟩ [⟨0, 10, 17, 13⟩] (by rw [htab]; rfl) (fun z hz => absurd hz List.not_mem_nil) (by decide) (by decide) (hts (.classLink RL 20 "java/lang/IndexOutOfBoundsException") (List.mem_of_getElem? (i := 1) rfl)) (hE.cw (Cond.castable gIOB gIOB) (List.mem_of_getElem? (i := 5) rfl)) (fun q9 w1 H locs hf hP hD hS => ?_)
  obtain rfl : w1 = wXp y ad h q n b1 l1 r1 b2 l2 r2 b3 l3 r3 uz ul uh f1 g1 f2 g2 pa kd on ot pt fb fl fh tb tl th dg ds := hf
  have hP : va_P D vwCl (wXo oa of y ad h q n (gPg pa n) n b1 l1 r1 b2 l2 r2 b3 l3 r3 uz ul uh f1 g1 f2 g2 pa kd on ot pt fb fl fh tb tl th dg ds) H := hP
  have hD : va_D A (wXo oa of y ad h q n (gPg pa n) n b1 l1 r1 b2 l2 r2 b3 l3 r3 uz ul uh f1 g1 f2 g2 pa kd on ot pt fb fl fh tb tl th dg ds) := hD
  refine lv_astore (lv' := [(4, .ref q9), (0, .ref h), (1, .int a), (2, .int b), (3, .ref oa)]) hx hb dL_place_13 hl (by decide) rfl (fun ls hl => ?_)
  refine lv_iconst (v := 1) hx hb dL_place_15 (by decide) ?_
  have hP9 := hP
  have hD9 := hD
  exact W.iret (v := 1) hx hb hr (fun t ht hW => ⟨⟨some (.int (1)), wXo oa of y ad h q n (gPg pa n) n b1 l1 r1 b2 l2 r2 b3 l3 r3 uz ul uh f1 g1 f2 g2 pa kd on ot pt fb fl fh tb tl th dg ds, rfl, ⟨rfl, rfl⟩, by rw [← hAe]; exact hD9, by rw [ht]; exact hP9⟩, by rw [← hAe]; exact hS.F ht⟩) (by rw [← hAe]; exact hS.2.2) dL_place_16
set_option maxHeartbeats 4000000 in
set_option maxRecDepth 100000 in
theorem c_L_place_X2 (l : Launch) (hfl : l.stackTraces = false) (D : va_G) (y : Nat → ClassId) (ad : Nat → Nat) (sz : Nat) (h : Nat) (q : Nat → Nat) (n : Nat) (b1 : Bool) (l1 r1 : Int64) (b2 : Bool) (l2 r2 : Int64) (b3 : Bool) (l3 r3 : Int64) (uz : Nat → Bool) (ul uh : Nat → Int64) (f1 g1 f2 g2 : Int64) (pa : Nat → Nat → Nat) (kd : Nat → Nat) (on ot : Nat → Int32) (pt : Nat → Int64) (fb : Nat → Nat → Bool) (fl fh : Nat → Nat → Int64) (tb : Nat → Nat → Bool) (tl th : Nat → Nat → Int64) (dg : Nat → Int32) (ds : Nat → Int64) (k : Nat) (b : Int32) (oa : Nat) (of : Nat → Int64) (hn : n ≤ 40) (hk : k < n) (hp : b < 0 ∨ ¬ b ≤ 24) : Met l yL_place wsL_place ({ frames := 8, cells := 1, slots := 6, locals := 138 } : Room) (gPN D y ad [.ref h, .int (nI k), .int b, .ref oa] (wXo oa of y ad h q n (gPg pa n) n b1 l1 r1 b2 l2 r2 b3 l3 r3 uz ul uh f1 g1 f2 g2 pa kd on ot pt fb fl fh tb tl th dg ds) sz) (gQn D (wXo oa of y ad h q n (gPg pa n) n b1 l1 r1 b2 l2 r2 b3 l3 r3 uz ul uh f1 g1 f2 g2 pa kd on ot pt fb fl fh tb tl th dg ds) (fun v w => v = some (.int 2) ∧ w = (wXo oa of y ad h q n (gPg pa n) n b1 l1 r1 b2 l2 r2 b3 l3 r3 uz ul uh f1 g1 f2 g2 pa kd on ot pt fb fl fh tb tl th dg ds))) 1 6 (va_A (wXo oa of y ad h q n (gPg pa n) n b1 l1 r1 b2 l2 r2 b3 l3 r3 uz ul uh f1 g1 f2 g2 pa kd on ot pt fb fl fh tb tl th dg ds) sz) := by
  refine gMet_ofWH (cc := cL_place) (maxL := 5) (ret := (some .int)) (hh := [(0, 10, 13, 20), (0, 10, 17, 13)]) (by decide) rfl ?_
  intro pg e s m args below meth c s₁ B hml hv
  obtain ⟨rfl, ⟨hsz, hP, hK, hD0, hE0⟩, hN⟩ := hv
  have hx := B.exec
  have hb := B.bytes
  have hr := B.returns
  have hts := atoms_spec (ws := wsL_place) B.pre
  have hown : s.vm.findClass RL = some m.cls := findClass_of_methodNamed B.named
  have htab : c.exceptionTable.toList = tableOf [(0, 10, 13, 20), (0, 10, 17, 13)] := vx_table (x := yL_place) B (hts _ List.mem_cons_self)
  have hlocks := B.notSynchronized
  subst hsz
  obtain ⟨A, hAe⟩ : ∃ A : Nat → Prop, A = va_A (wXo oa of y ad h q n (gPg pa n) n b1 l1 r1 b2 l2 r2 b3 l3 r3 uz ul uh f1 g1 f2 g2 pa kd on ot pt fb fl fh tb tl th dg ds) s.heap.size := ⟨_, rfl⟩
  have hE : gE ad A s s.heap := by rw [hAe]; exact hE0
  have hD : va_D A (wXo oa of y ad h q n (gPg pa n) n b1 l1 r1 b2 l2 r2 b3 l3 r3 uz ul uh f1 g1 f2 g2 pa kd on ot pt fb fl fh tb tl th dg ds) := by rw [hAe]; exact hD0.self (sz := s.heap.size)
  have hA : ∀ q : Nat, s.heap.size ≤ q → A q := fun q h => by rw [hAe]; exact Or.inr h
  have hS : va_S A s.heap s.heap [] := va_S.rf
  have hl := lv_entry ([.ref h, .int (nI k), .int b, .ref oa]) (n := 5) (Nat.le_of_ble_eq_true rfl)
  rw [lg_entry_eq]
  generalize (lg_sl ([.ref h, .int (nI k), .int b, .ref oa]) ++ List.replicate (5 - (lg_sl ([.ref h, .int (nI k), .int b, .ref oa])).length) Slot.unset).toArray = ls at hl ⊢
  have hl : lv_has ls 5 [(0, .ref h), (1, .int (nI k)), (2, .int b), (3, .ref oa)] := hl
  refine lv_aload_n hx hb dL_place_0 rfl (lv_at hl 3 rfl) ?_
  refine lv_iconst (v := 0) hx hb dL_place_1 (by decide) ?_
  refine lv_aload_n hx hb dL_place_2 rfl (lv_at hl 0 rfl) ?_
  refine lv_iload_n hx hb dL_place_3 rfl (lv_at hl 1 rfl) ?_
  refine lv_iload_n hx hb dL_place_4 rfl (lv_at hl 2 rfl) ?_
  refine g_catch (name := gIAE) (ws := [(oa, .inl (y 1, 1, .inr (.inl of)))]) (vx_runV (As := [.int (nI k), .int b]) (rest := [.int 0, .ref oa]) ⟨hx, hb, hml, hown, hts⟩ (c_X7_place_X2 l hfl D y ad s.heap.size h q n b1 l1 r1 b2 l2 r2 b3 l3 r3 uz ul uh f1 g1 f2 g2 pa kd on ot pt fb fl fh tb tl th dg ds k b hn hk hp) (cwV 2 hts gL_place_X7_place rfl rfl rfl (by decide +kernel) ⟨Nat.le_of_ble_eq_true rfl, Nat.le_of_ble_eq_true rfl⟩) (gPX_VA (va_P_r (ws := [(oa, .inl (y 1, 1, .inr (.inl of)))]) hP) (va_D_r (ws := [(oa, .inl (y 1, 1, .inr (.inl of)))]) hD) hK hE hS hA 0 rfl rfl) rfl rfl hl.1 rfl (lv_room (Nat.le_of_ble_eq_true rfl)) dL_place_5 ⟨Nat.le_of_ble_eq_true rfl, Nat.le_of_ble_eq_true rfl⟩) hP hD hS hA hown [⟨0, 10, 13, 20⟩] ⟨0, 10, 17, 13⟩ [] (by rw [htab]; rfl) (fun z hz => by rcases List.mem_singleton.mp hz with rfl; exact Or.inr ⟨by decide, _, (hts (.classLink RL 20 "java/lang/IndexOutOfBoundsException") (List.mem_of_getElem? (i := 1) rfl)), hN.1⟩) (by decide) (by decide) (hts (.classLink RL 13 "java/lang/IllegalArgumentException") (List.mem_of_getElem? (i := 2) rfl)) (hE.cw (Cond.castable gIAE gIAE) (List.mem_of_getElem? (i := 3) rfl)) (fun q9 w1 H locs hf hP hD hS => ?_)
  obtain rfl : w1 = wXp y ad h q n b1 l1 r1 b2 l2 r2 b3 l3 r3 uz ul uh f1 g1 f2 g2 pa kd on ot pt fb fl fh tb tl th dg ds := hf
  have hP : va_P D vwCl (wXo oa of y ad h q n (gPg pa n) n b1 l1 r1 b2 l2 r2 b3 l3 r3 uz ul uh f1 g1 f2 g2 pa kd on ot pt fb fl fh tb tl th dg ds) H := hP
  have hD : va_D A (wXo oa of y ad h q n (gPg pa n) n b1 l1 r1 b2 l2 r2 b3 l3 r3 uz ul uh f1 g1 f2 g2 pa kd on ot pt fb fl fh tb tl th dg ds) := hD
  refine lv_astore (lv' := [(4, .ref q9), (0, .ref h), (1, .int (nI k)), (2, .int b), (3, .ref oa)]) hx hb dL_place_17 hl (by decide) rfl (fun ls hl => ?_)
  refine lv_iconst (v := 2) hx hb dL_place_19 (by decide) ?_
  have hP9 := hP
  have hD9 := hD
  exact W.iret (v := 2) hx hb hr (fun t ht hW => ⟨⟨some (.int (2)), wXo oa of y ad h q n (gPg pa n) n b1 l1 r1 b2 l2 r2 b3 l3 r3 uz ul uh f1 g1 f2 g2 pa kd on ot pt fb fl fh tb tl th dg ds, rfl, ⟨rfl, rfl⟩, by rw [← hAe]; exact hD9, by rw [ht]; exact hP9⟩, by rw [← hAe]; exact hS.F ht⟩) (by rw [← hAe]; exact hS.2.2) dL_place_20
set_option maxHeartbeats 4000000 in
set_option maxRecDepth 100000 in
theorem c_L_place_0 (l : Launch) (hfl : l.stackTraces = false) (D : va_G) (y : Nat → ClassId) (ad : Nat → Nat) (sz : Nat) (h : Nat) (q : Nat → Nat) (n : Nat) (b1 : Bool) (l1 r1 : Int64) (b2 : Bool) (l2 r2 : Int64) (b3 : Bool) (l3 r3 : Int64) (uz : Nat → Bool) (ul uh : Nat → Int64) (f1 g1 f2 g2 : Int64) (pa : Nat → Nat → Nat) (kd : Nat → Nat) (on ot : Nat → Int32) (pt : Nat → Int64) (fb : Nat → Nat → Bool) (fl fh : Nat → Nat → Int64) (tb : Nat → Nat → Bool) (tl th : Nat → Nat → Int64) (dg : Nat → Int32) (ds : Nat → Int64) (k f : Nat) (oa : Nat) (of : Nat → Int64) (hn : n ≤ 40) (hk : k < n) (hp : f < 25) : Met l yL_place wsL_place ({ frames := 3, cells := 0, slots := 0, locals := 70 } : Room) (gPN D y ad [.ref h, .int (nI k), .int (nI f), .ref oa] (wXo oa of y ad h q n (gPg pa n) n b1 l1 r1 b2 l2 r2 b3 l3 r3 uz ul uh f1 g1 f2 g2 pa kd on ot pt fb fl fh tb tl th dg ds) sz) (gQn D (wXo oa of y ad h q n (gPg pa n) n b1 l1 r1 b2 l2 r2 b3 l3 r3 uz ul uh f1 g1 f2 g2 pa kd on ot pt fb fl fh tb tl th dg ds) (fun v w => ∃ (yb1 : Bool) (yl1 : Int64) (yr1 : Int64) (yb2 : Bool) (yl2 : Int64) (yr2 : Int64) (yb3 : Bool) (yl3 : Int64) (yr3 : Int64) (yuz : Nat → Bool) (yul : Nat → Int64) (yuh : Nat → Int64) (yf1 : Int64) (yg1 : Int64) (yf2 : Int64) (yg2 : Int64), v = some (.int 0) ∧ w = (wXo oa (vp_updL of 0 ((plX tb tl th k f (25 - f) f).toInt64)) y ad h q n (gPg pa n) n yb1 yl1 yr1 yb2 yl2 yr2 yb3 yl3 yr3 yuz yul yuh yf1 yg1 yf2 yg2 pa kd on ot pt fb fl fh tb tl th dg ds))) 0 0 (va_A (wXo oa of y ad h q n (gPg pa n) n b1 l1 r1 b2 l2 r2 b3 l3 r3 uz ul uh f1 g1 f2 g2 pa kd on ot pt fb fl fh tb tl th dg ds) sz) := by
  refine gMet_ofWH (cc := cL_place) (maxL := 5) (ret := (some .int)) (hh := [(0, 10, 13, 20), (0, 10, 17, 13)]) (by decide) rfl ?_
  intro pg e s m args below meth c s₁ B hml hv
  obtain ⟨rfl, ⟨hsz, hP, hK, hD0, hE0⟩, hN⟩ := hv
  have hx := B.exec
  have hb := B.bytes
  have hr := B.returns
  have hts := atoms_spec (ws := wsL_place) B.pre
  have hown : s.vm.findClass RL = some m.cls := findClass_of_methodNamed B.named
  have htab : c.exceptionTable.toList = tableOf [(0, 10, 13, 20), (0, 10, 17, 13)] := vx_table (x := yL_place) B (hts _ List.mem_cons_self)
  have hlocks := B.notSynchronized
  subst hsz
  obtain ⟨A, hAe⟩ : ∃ A : Nat → Prop, A = va_A (wXo oa of y ad h q n (gPg pa n) n b1 l1 r1 b2 l2 r2 b3 l3 r3 uz ul uh f1 g1 f2 g2 pa kd on ot pt fb fl fh tb tl th dg ds) s.heap.size := ⟨_, rfl⟩
  have hE : gE ad A s s.heap := by rw [hAe]; exact hE0
  have hD : va_D A (wXo oa of y ad h q n (gPg pa n) n b1 l1 r1 b2 l2 r2 b3 l3 r3 uz ul uh f1 g1 f2 g2 pa kd on ot pt fb fl fh tb tl th dg ds) := by rw [hAe]; exact hD0.self (sz := s.heap.size)
  have hA : ∀ q : Nat, s.heap.size ≤ q → A q := fun q h => by rw [hAe]; exact Or.inr h
  have hS : va_S A s.heap s.heap [] := va_S.rf
  have hl := lv_entry ([.ref h, .int (nI k), .int (nI f), .ref oa]) (n := 5) (Nat.le_of_ble_eq_true rfl)
  rw [lg_entry_eq]
  generalize (lg_sl ([.ref h, .int (nI k), .int (nI f), .ref oa]) ++ List.replicate (5 - (lg_sl ([.ref h, .int (nI k), .int (nI f), .ref oa])).length) Slot.unset).toArray = ls at hl ⊢
  have hl : lv_has ls 5 [(0, .ref h), (1, .int (nI k)), (2, .int (nI f)), (3, .ref oa)] := hl
  refine lv_aload_n hx hb dL_place_0 rfl (lv_at hl 3 rfl) ?_
  refine lv_iconst (v := 0) hx hb dL_place_1 (by decide) ?_
  refine lv_aload_n hx hb dL_place_2 rfl (lv_at hl 0 rfl) ?_
  refine lv_iload_n hx hb dL_place_3 rfl (lv_at hl 1 rfl) ?_
  refine lv_iload_n hx hb dL_place_4 rfl (lv_at hl 2 rfl) ?_
  refine g_callAr (ws := [(oa, .inl (y 1, 1, .inr (.inl of)))]) (va_runV (As := [.int (nI k), .int (nI f)]) (rest := [.int 0, .ref oa]) ⟨hx, hb, hml, hown, hts⟩ (c_X7_place_0 l hfl D y ad s.heap.size h q n b1 l1 r1 b2 l2 r2 b3 l3 r3 uz ul uh f1 g1 f2 g2 pa kd on ot pt fb fl fh tb tl th dg ds k f hn hk hp) (cwV 2 hts gL_place_X7_place rfl rfl rfl (by decide +kernel) ⟨Nat.le_of_ble_eq_true rfl, Nat.le_of_ble_eq_true rfl⟩) (gPX_VA (va_P_r (ws := [(oa, .inl (y 1, 1, .inr (.inl of)))]) hP) (va_D_r (ws := [(oa, .inl (y 1, 1, .inr (.inl of)))]) hD) hK hE hS hA 0 rfl rfl) rfl rfl hl.1 rfl (lv_room (Nat.le_of_ble_eq_true rfl)) dL_place_5 ⟨Nat.le_of_ble_eq_true rfl, Nat.le_of_ble_eq_true rfl⟩) hP hD hS hA (fun v w1 H locs hf hP hD hS => ?_)
  obtain ⟨rfl, b1_5, l1_5, r1_5, b2_5, l2_5, r2_5, b3_5, l3_5, r3_5, uz_5, ul_5, uh_5, f1_5, g1_5, f2_5, g2_5, rfl⟩ := hf
  have hP : va_P D vwCl (wXo oa of y ad h q n (gPg pa n) n b1_5 l1_5 r1_5 b2_5 l2_5 r2_5 b3_5 l3_5 r3_5 uz_5 ul_5 uh_5 f1_5 g1_5 f2_5 g2_5 pa kd on ot pt fb fl fh tb tl th dg ds) H := hP
  have hD : va_D A (wXo oa of y ad h q n (gPg pa n) n b1_5 l1_5 r1_5 b2_5 l2_5 r2_5 b3_5 l3_5 r3_5 uz_5 ul_5 uh_5 f1_5 g1_5 f2_5 g2_5 pa kd on ot pt fb fl fh tb tl th dg ds) := hD
  refine lv_i2l (v := (plX tb tl th k f (25 - f) f).toInt64) hx hb dL_place_8 rfl ?_
  refine g_last (k := 0) (x := (plX tb tl th k f (25 - f) f).toInt64) hx hb hK.1 hP hD hS 0 1 rfl rfl (by omega) (by decide) dL_place_9 (fun H locs hP hD hS => ?_)
  have hP : va_P D vwCl (wXo oa (vp_updL of 0 ((plX tb tl th k f (25 - f) f).toInt64)) y ad h q n (gPg pa n) n b1_5 l1_5 r1_5 b2_5 l2_5 r2_5 b3_5 l3_5 r3_5 uz_5 ul_5 uh_5 f1_5 g1_5 f2_5 g2_5 pa kd on ot pt fb fl fh tb tl th dg ds) H := hP
  have hD : va_D A (wXo oa (vp_updL of 0 ((plX tb tl th k f (25 - f) f).toInt64)) y ad h q n (gPg pa n) n b1_5 l1_5 r1_5 b2_5 l2_5 r2_5 b3_5 l3_5 r3_5 uz_5 ul_5 uh_5 f1_5 g1_5 f2_5 g2_5 pa kd on ot pt fb fl fh tb tl th dg ds) := hD
  refine lv_goto (tgt := 21) hx hb dL_place_10 (by decide) ?_
  refine lv_iconst (v := 0) hx hb dL_place_21 (by decide) ?_
  have hP9 := hP
  have hD9 := hD
  exact W.iret (v := 0) hx hb hr (fun t ht hW => ⟨⟨some (.int (0)), wXo oa (vp_updL of 0 ((plX tb tl th k f (25 - f) f).toInt64)) y ad h q n (gPg pa n) n b1_5 l1_5 r1_5 b2_5 l2_5 r2_5 b3_5 l3_5 r3_5 uz_5 ul_5 uh_5 f1_5 g1_5 f2_5 g2_5 pa kd on ot pt fb fl fh tb tl th dg ds, rfl, ⟨b1_5, l1_5, r1_5, b2_5, l2_5, r2_5, b3_5, l3_5, r3_5, uz_5, ul_5, uh_5, f1_5, g1_5, f2_5, g2_5, rfl, rfl⟩, by rw [← hAe]; exact hD9, by rw [ht]; exact hP9⟩, by rw [← hAe]; exact hS.F ht⟩) (by rw [← hAe]; exact hS.2.2) dL_place_22
set_option maxHeartbeats 4000000 in
set_option maxRecDepth 100000 in
theorem c_L_compare_X1a (l : Launch) (hfl : l.stackTraces = false) (D : va_G) (y : Nat → ClassId) (ad : Nat → Nat) (sz : Nat) (h : Nat) (q : Nat → Nat) (n : Nat) (b1 : Bool) (l1 r1 : Int64) (b2 : Bool) (l2 r2 : Int64) (b3 : Bool) (l3 r3 : Int64) (uz : Nat → Bool) (ul uh : Nat → Int64) (f1 g1 f2 g2 : Int64) (pa : Nat → Nat → Nat) (kd : Nat → Nat) (on ot : Nat → Int32) (pt : Nat → Int64) (fb : Nat → Nat → Bool) (fl fh : Nat → Nat → Int64) (tb : Nat → Nat → Bool) (tl th : Nat → Nat → Int64) (dg : Nat → Int32) (ds : Nat → Int64) (a b c0 : Int32) (oa : Nat) (of : Nat → Int64) (hbad : a < 0 ∨ nI n ≤ a) : Met l yL_compare wsL_compare ({ frames := 8, cells := 1, slots := 6, locals := 139 } : Room) (gPN D y ad [.ref h, .int a, .int b, .int c0, .ref oa] (wXo oa of y ad h q n (gPg pa n) n b1 l1 r1 b2 l2 r2 b3 l3 r3 uz ul uh f1 g1 f2 g2 pa kd on ot pt fb fl fh tb tl th dg ds) sz) (gQn D (wXo oa of y ad h q n (gPg pa n) n b1 l1 r1 b2 l2 r2 b3 l3 r3 uz ul uh f1 g1 f2 g2 pa kd on ot pt fb fl fh tb tl th dg ds) (fun v w => v = some (.int 1) ∧ w = (wXo oa of y ad h q n (gPg pa n) n b1 l1 r1 b2 l2 r2 b3 l3 r3 uz ul uh f1 g1 f2 g2 pa kd on ot pt fb fl fh tb tl th dg ds))) 1 6 (va_A (wXo oa of y ad h q n (gPg pa n) n b1 l1 r1 b2 l2 r2 b3 l3 r3 uz ul uh f1 g1 f2 g2 pa kd on ot pt fb fl fh tb tl th dg ds) sz) := by
  refine gMet_ofWH (cc := cL_compare) (maxL := 6) (ret := (some .int)) (hh := [(0, 12, 15, 20), (0, 12, 19, 13)]) (by decide) rfl ?_
  intro pg e s m args below meth c s₁ B hml hv
  obtain ⟨rfl, ⟨hsz, hP, hK, hD0, hE0⟩, hN⟩ := hv
  have hx := B.exec
  have hb := B.bytes
  have hr := B.returns
  have hts := atoms_spec (ws := wsL_compare) B.pre
  have hown : s.vm.findClass RL = some m.cls := findClass_of_methodNamed B.named
  have htab : c.exceptionTable.toList = tableOf [(0, 12, 15, 20), (0, 12, 19, 13)] := vx_table (x := yL_compare) B (hts _ List.mem_cons_self)
  have hlocks := B.notSynchronized
  subst hsz
  obtain ⟨A, hAe⟩ : ∃ A : Nat → Prop, A = va_A (wXo oa of y ad h q n (gPg pa n) n b1 l1 r1 b2 l2 r2 b3 l3 r3 uz ul uh f1 g1 f2 g2 pa kd on ot pt fb fl fh tb tl th dg ds) s.heap.size := ⟨_, rfl⟩
  have hE : gE ad A s s.heap := by rw [hAe]; exact hE0
  have hD : va_D A (wXo oa of y ad h q n (gPg pa n) n b1 l1 r1 b2 l2 r2 b3 l3 r3 uz ul uh f1 g1 f2 g2 pa kd on ot pt fb fl fh tb tl th dg ds) := by rw [hAe]; exact hD0.self (sz := s.heap.size)
  have hA : ∀ q : Nat, s.heap.size ≤ q → A q := fun q h => by rw [hAe]; exact Or.inr h
  have hS : va_S A s.heap s.heap [] := va_S.rf
  have hl := lv_entry ([.ref h, .int a, .int b, .int c0, .ref oa]) (n := 6) (Nat.le_of_ble_eq_true rfl)
  rw [lg_entry_eq]
  generalize (lg_sl ([.ref h, .int a, .int b, .int c0, .ref oa]) ++ List.replicate (6 - (lg_sl ([.ref h, .int a, .int b, .int c0, .ref oa])).length) Slot.unset).toArray = ls at hl ⊢
  have hl : lv_has ls 6 [(0, .ref h), (1, .int a), (2, .int b), (3, .int c0), (4, .ref oa)] := hl
  refine lv_aload hx hb dL_compare_0 (lv_at hl 4 rfl) ?_
  refine lv_iconst (v := 0) hx hb dL_compare_2 (by decide) ?_
  refine lv_aload_n hx hb dL_compare_3 rfl (lv_at hl 0 rfl) ?_
  refine lv_iload_n hx hb dL_compare_4 rfl (lv_at hl 1 rfl) ?_
  refine lv_iload_n hx hb dL_compare_5 rfl (lv_at hl 2 rfl) ?_
  refine lv_iload_n hx hb dL_compare_6 rfl (lv_at hl 3 rfl) ?_
  refine g_catch (name := gIOB) (ws := [(oa, .inl (y 1, 1, .inr (.inl of)))]) (vx_runV (As := [.int a, .int b, .int c0]) (rest := [.int 0, .ref oa]) ⟨hx, hb, hml, hown, hts⟩ (c_X7_compare_X1a l hfl D y ad s.heap.size h q n b1 l1 r1 b2 l2 r2 b3 l3 r3 uz ul uh f1 g1 f2 g2 pa kd on ot pt fb fl fh tb tl th dg ds a b c0 hbad) (cwV 3 hts gL_compare_X7_compare rfl rfl rfl (by decide +kernel) ⟨Nat.le_of_ble_eq_true rfl, Nat.le_of_ble_eq_true rfl⟩) (gPX_VA (va_P_r (ws := [(oa, .inl (y 1, 1, .inr (.inl of)))]) hP) (va_D_r (ws := [(oa, .inl (y 1, 1, .inr (.inl of)))]) hD) hK hE hS hA 0 rfl rfl) rfl rfl hl.1 rfl (lv_room (Nat.le_of_ble_eq_true rfl)) dL_compare_7 ⟨Nat.le_of_ble_eq_true rfl, Nat.le_of_ble_eq_true rfl⟩) hP hD hS hA hown [] ⟨0, 12, 15, 20⟩ [⟨0, 12, 19, 13⟩] (by rw [htab]; rfl) (fun z hz => absurd hz List.not_mem_nil) (by decide) (by decide) (hts (.classLink RL 20 "java/lang/IndexOutOfBoundsException") (List.mem_of_getElem? (i := 1) rfl)) (hE.cw (Cond.castable gIOB gIOB) (List.mem_of_getElem? (i := 5) rfl)) (fun q9 w1 H locs hf hP hD hS => ?_)
  obtain rfl : w1 = wXp y ad h q n b1 l1 r1 b2 l2 r2 b3 l3 r3 uz ul uh f1 g1 f2 g2 pa kd on ot pt fb fl fh tb tl th dg ds := hf
  have hP : va_P D vwCl (wXo oa of y ad h q n (gPg pa n) n b1 l1 r1 b2 l2 r2 b3 l3 r3 uz ul uh f1 g1 f2 g2 pa kd on ot pt fb fl fh tb tl th dg ds) H := hP
  have hD : va_D A (wXo oa of y ad h q n (gPg pa n) n b1 l1 r1 b2 l2 r2 b3 l3 r3 uz ul uh f1 g1 f2 g2 pa kd on ot pt fb fl fh tb tl th dg ds) := hD
  refine lv_astore (lv' := [(5, .ref q9), (0, .ref h), (1, .int a), (2, .int b), (3, .int c0), (4, .ref oa)]) hx hb dL_compare_15 hl (by decide) rfl (fun ls hl => ?_)
  refine lv_iconst (v := 1) hx hb dL_compare_17 (by decide) ?_
  have hP9 := hP
  have hD9 := hD
  exact W.iret (v := 1) hx hb hr (fun t ht hW => ⟨⟨some (.int (1)), wXo oa of y ad h q n (gPg pa n) n b1 l1 r1 b2 l2 r2 b3 l3 r3 uz ul uh f1 g1 f2 g2 pa kd on ot pt fb fl fh tb tl th dg ds, rfl, ⟨rfl, rfl⟩, by rw [← hAe]; exact hD9, by rw [ht]; exact hP9⟩, by rw [← hAe]; exact hS.F ht⟩) (by rw [← hAe]; exact hS.2.2) dL_compare_18
set_option maxHeartbeats 4000000 in
set_option maxRecDepth 100000 in
theorem c_L_compare_X1b (l : Launch) (hfl : l.stackTraces = false) (D : va_G) (y : Nat → ClassId) (ad : Nat → Nat) (sz : Nat) (h : Nat) (q : Nat → Nat) (n : Nat) (b1 : Bool) (l1 r1 : Int64) (b2 : Bool) (l2 r2 : Int64) (b3 : Bool) (l3 r3 : Int64) (uz : Nat → Bool) (ul uh : Nat → Int64) (f1 g1 f2 g2 : Int64) (pa : Nat → Nat → Nat) (kd : Nat → Nat) (on ot : Nat → Int32) (pt : Nat → Int64) (fb : Nat → Nat → Bool) (fl fh : Nat → Nat → Int64) (tb : Nat → Nat → Bool) (tl th : Nat → Nat → Int64) (dg : Nat → Int32) (ds : Nat → Int64) (k : Nat) (b c0 : Int32) (oa : Nat) (of : Nat → Int64) (hn : n ≤ 40) (hk : k < n) (hbad : b < 0 ∨ nI n ≤ b) : Met l yL_compare wsL_compare ({ frames := 8, cells := 1, slots := 6, locals := 139 } : Room) (gPN D y ad [.ref h, .int (nI k), .int b, .int c0, .ref oa] (wXo oa of y ad h q n (gPg pa n) n b1 l1 r1 b2 l2 r2 b3 l3 r3 uz ul uh f1 g1 f2 g2 pa kd on ot pt fb fl fh tb tl th dg ds) sz) (gQn D (wXo oa of y ad h q n (gPg pa n) n b1 l1 r1 b2 l2 r2 b3 l3 r3 uz ul uh f1 g1 f2 g2 pa kd on ot pt fb fl fh tb tl th dg ds) (fun v w => v = some (.int 1) ∧ w = (wXo oa of y ad h q n (gPg pa n) n b1 l1 r1 b2 l2 r2 b3 l3 r3 uz ul uh f1 g1 f2 g2 pa kd on ot pt fb fl fh tb tl th dg ds))) 1 6 (va_A (wXo oa of y ad h q n (gPg pa n) n b1 l1 r1 b2 l2 r2 b3 l3 r3 uz ul uh f1 g1 f2 g2 pa kd on ot pt fb fl fh tb tl th dg ds) sz) := by
  refine gMet_ofWH (cc := cL_compare) (maxL := 6) (ret := (some .int)) (hh := [(0, 12, 15, 20), (0, 12, 19, 13)]) (by decide) rfl ?_
  intro pg e s m args below meth c s₁ B hml hv
  obtain ⟨rfl, ⟨hsz, hP, hK, hD0, hE0⟩, hN⟩ := hv
  have hx := B.exec
  have hb := B.bytes
  have hr := B.returns
  have hts := atoms_spec (ws := wsL_compare) B.pre
  have hown : s.vm.findClass RL = some m.cls := findClass_of_methodNamed B.named
  have htab : c.exceptionTable.toList = tableOf [(0, 12, 15, 20), (0, 12, 19, 13)] := vx_table (x := yL_compare) B (hts _ List.mem_cons_self)
  have hlocks := B.notSynchronized
  subst hsz
  obtain ⟨A, hAe⟩ : ∃ A : Nat → Prop, A = va_A (wXo oa of y ad h q n (gPg pa n) n b1 l1 r1 b2 l2 r2 b3 l3 r3 uz ul uh f1 g1 f2 g2 pa kd on ot pt fb fl fh tb tl th dg ds) s.heap.size := ⟨_, rfl⟩
  have hE : gE ad A s s.heap := by rw [hAe]; exact hE0
  have hD : va_D A (wXo oa of y ad h q n (gPg pa n) n b1 l1 r1 b2 l2 r2 b3 l3 r3 uz ul uh f1 g1 f2 g2 pa kd on ot pt fb fl fh tb tl th dg ds) := by rw [hAe]; exact hD0.self (sz := s.heap.size)
  have hA : ∀ q : Nat, s.heap.size ≤ q → A q := fun q h => by rw [hAe]; exact Or.inr h
  have hS : va_S A s.heap s.heap [] := va_S.rf
  have hl := lv_entry ([.ref h, .int (nI k), .int b, .int c0, .ref oa]) (n := 6) (Nat.le_of_ble_eq_true rfl)
  rw [lg_entry_eq]
  generalize (lg_sl ([.ref h, .int (nI k), .int b, .int c0, .ref oa]) ++ List.replicate (6 - (lg_sl ([.ref h, .int (nI k), .int b, .int c0, .ref oa])).length) Slot.unset).toArray = ls at hl ⊢
  have hl : lv_has ls 6 [(0, .ref h), (1, .int (nI k)), (2, .int b), (3, .int c0), (4, .ref oa)] := hl
  refine lv_aload hx hb dL_compare_0 (lv_at hl 4 rfl) ?_
  refine lv_iconst (v := 0) hx hb dL_compare_2 (by decide) ?_
  refine lv_aload_n hx hb dL_compare_3 rfl (lv_at hl 0 rfl) ?_
  refine lv_iload_n hx hb dL_compare_4 rfl (lv_at hl 1 rfl) ?_
  refine lv_iload_n hx hb dL_compare_5 rfl (lv_at hl 2 rfl) ?_
  refine lv_iload_n hx hb dL_compare_6 rfl (lv_at hl 3 rfl) ?_
  refine g_catch (name := gIOB) (ws := [(oa, .inl (y 1, 1, .inr (.inl of)))]) (vx_runV (As := [.int (nI k), .int b, .int c0]) (rest := [.int 0, .ref oa]) ⟨hx, hb, hml, hown, hts⟩ (c_X7_compare_X1b l hfl D y ad s.heap.size h q n b1 l1 r1 b2 l2 r2 b3 l3 r3 uz ul uh f1 g1 f2 g2 pa kd on ot pt fb fl fh tb tl th dg ds k b c0 hn hk hbad) (cwV 3 hts gL_compare_X7_compare rfl rfl rfl (by decide +kernel) ⟨Nat.le_of_ble_eq_true rfl, Nat.le_of_ble_eq_true rfl⟩) (gPX_VA (va_P_r (ws := [(oa, .inl (y 1, 1, .inr (.inl of)))]) hP) (va_D_r (ws := [(oa, .inl (y 1, 1, .inr (.inl of)))]) hD) hK hE hS hA 0 rfl rfl) rfl rfl hl.1 rfl (lv_room (Nat.le_of_ble_eq_true rfl)) dL_compare_7 ⟨Nat.le_of_ble_eq_true rfl, Nat.le_of_ble_eq_true rfl⟩) hP hD hS hA hown [] ⟨0, 12, 15, 20⟩ [⟨0, 12, 19, 13⟩] (by rw [htab]; rfl) (fun z hz => absurd hz List.not_mem_nil) (by decide) (by decide) (hts (.classLink RL 20 "java/lang/IndexOutOfBoundsException") (List.mem_of_getElem? (i := 1) rfl)) (hE.cw (Cond.castable gIOB gIOB) (List.mem_of_getElem? (i := 5) rfl)) (fun q9 w1 H locs hf hP hD hS => ?_)
  obtain rfl : w1 = wXp y ad h q n b1 l1 r1 b2 l2 r2 b3 l3 r3 uz ul uh f1 g1 f2 g2 pa kd on ot pt fb fl fh tb tl th dg ds := hf
  have hP : va_P D vwCl (wXo oa of y ad h q n (gPg pa n) n b1 l1 r1 b2 l2 r2 b3 l3 r3 uz ul uh f1 g1 f2 g2 pa kd on ot pt fb fl fh tb tl th dg ds) H := hP
  have hD : va_D A (wXo oa of y ad h q n (gPg pa n) n b1 l1 r1 b2 l2 r2 b3 l3 r3 uz ul uh f1 g1 f2 g2 pa kd on ot pt fb fl fh tb tl th dg ds) := hD
  refine lv_astore (lv' := [(5, .ref q9), (0, .ref h), (1, .int (nI k)), (2, .int b), (3, .int c0), (4, .ref oa)]) hx hb dL_compare_15 hl (by decide) rfl (fun ls hl => ?_)
  refine lv_iconst (v := 1) hx hb dL_compare_17 (by decide) ?_
  have hP9 := hP
  have hD9 := hD
  exact W.iret (v := 1) hx hb hr (fun t ht hW => ⟨⟨some (.int (1)), wXo oa of y ad h q n (gPg pa n) n b1 l1 r1 b2 l2 r2 b3 l3 r3 uz ul uh f1 g1 f2 g2 pa kd on ot pt fb fl fh tb tl th dg ds, rfl, ⟨rfl, rfl⟩, by rw [← hAe]; exact hD9, by rw [ht]; exact hP9⟩, by rw [← hAe]; exact hS.F ht⟩) (by rw [← hAe]; exact hS.2.2) dL_compare_18
set_option maxHeartbeats 4000000 in
set_option maxRecDepth 100000 in
theorem c_L_compare_X2 (l : Launch) (hfl : l.stackTraces = false) (D : va_G) (y : Nat → ClassId) (ad : Nat → Nat) (sz : Nat) (h : Nat) (q : Nat → Nat) (n : Nat) (b1 : Bool) (l1 r1 : Int64) (b2 : Bool) (l2 r2 : Int64) (b3 : Bool) (l3 r3 : Int64) (uz : Nat → Bool) (ul uh : Nat → Int64) (f1 g1 f2 g2 : Int64) (pa : Nat → Nat → Nat) (kd : Nat → Nat) (on ot : Nat → Int32) (pt : Nat → Int64) (fb : Nat → Nat → Bool) (fl fh : Nat → Nat → Int64) (tb : Nat → Nat → Bool) (tl th : Nat → Nat → Int64) (dg : Nat → Int32) (ds : Nat → Int64) (k j : Nat) (c0 : Int32) (oa : Nat) (of : Nat → Int64) (hn : n ≤ 40) (hk : k < n) (hj : j < n) (hp : c0 < 0 ∨ ¬ c0 ≤ 24) : Met l yL_compare wsL_compare ({ frames := 8, cells := 1, slots := 6, locals := 139 } : Room) (gPN D y ad [.ref h, .int (nI k), .int (nI j), .int c0, .ref oa] (wXo oa of y ad h q n (gPg pa n) n b1 l1 r1 b2 l2 r2 b3 l3 r3 uz ul uh f1 g1 f2 g2 pa kd on ot pt fb fl fh tb tl th dg ds) sz) (gQn D (wXo oa of y ad h q n (gPg pa n) n b1 l1 r1 b2 l2 r2 b3 l3 r3 uz ul uh f1 g1 f2 g2 pa kd on ot pt fb fl fh tb tl th dg ds) (fun v w => v = some (.int 2) ∧ w = (wXo oa of y ad h q n (gPg pa n) n b1 l1 r1 b2 l2 r2 b3 l3 r3 uz ul uh f1 g1 f2 g2 pa kd on ot pt fb fl fh tb tl th dg ds))) 1 6 (va_A (wXo oa of y ad h q n (gPg pa n) n b1 l1 r1 b2 l2 r2 b3 l3 r3 uz ul uh f1 g1 f2 g2 pa kd on ot pt fb fl fh tb tl th dg ds) sz) := by
  refine gMet_ofWH (cc := cL_compare) (maxL := 6) (ret := (some .int)) (hh := [(0, 12, 15, 20), (0, 12, 19, 13)]) (by decide) rfl ?_
  intro pg e s m args below meth c s₁ B hml hv
  obtain ⟨rfl, ⟨hsz, hP, hK, hD0, hE0⟩, hN⟩ := hv
  have hx := B.exec
  have hb := B.bytes
  have hr := B.returns
  have hts := atoms_spec (ws := wsL_compare) B.pre
  have hown : s.vm.findClass RL = some m.cls := findClass_of_methodNamed B.named
  have htab : c.exceptionTable.toList = tableOf [(0, 12, 15, 20), (0, 12, 19, 13)] := vx_table (x := yL_compare) B (hts _ List.mem_cons_self)
  have hlocks := B.notSynchronized
  subst hsz
  obtain ⟨A, hAe⟩ : ∃ A : Nat → Prop, A = va_A (wXo oa of y ad h q n (gPg pa n) n b1 l1 r1 b2 l2 r2 b3 l3 r3 uz ul uh f1 g1 f2 g2 pa kd on ot pt fb fl fh tb tl th dg ds) s.heap.size := ⟨_, rfl⟩
  have hE : gE ad A s s.heap := by rw [hAe]; exact hE0
  have hD : va_D A (wXo oa of y ad h q n (gPg pa n) n b1 l1 r1 b2 l2 r2 b3 l3 r3 uz ul uh f1 g1 f2 g2 pa kd on ot pt fb fl fh tb tl th dg ds) := by rw [hAe]; exact hD0.self (sz := s.heap.size)
  have hA : ∀ q : Nat, s.heap.size ≤ q → A q := fun q h => by rw [hAe]; exact Or.inr h
  have hS : va_S A s.heap s.heap [] := va_S.rf
  have hl := lv_entry ([.ref h, .int (nI k), .int (nI j), .int c0, .ref oa]) (n := 6) (Nat.le_of_ble_eq_true rfl)
  rw [lg_entry_eq]
  generalize (lg_sl ([.ref h, .int (nI k), .int (nI j), .int c0, .ref oa]) ++ List.replicate (6 - (lg_sl ([.ref h, .int (nI k), .int (nI j), .int c0, .ref oa])).length) Slot.unset).toArray = ls at hl ⊢
  have hl : lv_has ls 6 [(0, .ref h), (1, .int (nI k)), (2, .int (nI j)), (3, .int c0), (4, .ref oa)] := hl
  refine lv_aload hx hb dL_compare_0 (lv_at hl 4 rfl) ?_
  refine lv_iconst (v := 0) hx hb dL_compare_2 (by decide) ?_
  refine lv_aload_n hx hb dL_compare_3 rfl (lv_at hl 0 rfl) ?_
  refine lv_iload_n hx hb dL_compare_4 rfl (lv_at hl 1 rfl) ?_
  refine lv_iload_n hx hb dL_compare_5 rfl (lv_at hl 2 rfl) ?_
  refine lv_iload_n hx hb dL_compare_6 rfl (lv_at hl 3 rfl) ?_
  refine g_catch (name := gIAE) (ws := [(oa, .inl (y 1, 1, .inr (.inl of)))]) (vx_runV (As := [.int (nI k), .int (nI j), .int c0]) (rest := [.int 0, .ref oa]) ⟨hx, hb, hml, hown, hts⟩ (c_X7_compare_X2 l hfl D y ad s.heap.size h q n b1 l1 r1 b2 l2 r2 b3 l3 r3 uz ul uh f1 g1 f2 g2 pa kd on ot pt fb fl fh tb tl th dg ds k j c0 hn hk hj hp) (cwV 3 hts gL_compare_X7_compare rfl rfl rfl (by decide +kernel) ⟨Nat.le_of_ble_eq_true rfl, Nat.le_of_ble_eq_true rfl⟩) (gPX_VA (va_P_r (ws := [(oa, .inl (y 1, 1, .inr (.inl of)))]) hP) (va_D_r (ws := [(oa, .inl (y 1, 1, .inr (.inl of)))]) hD) hK hE hS hA 0 rfl rfl) rfl rfl hl.1 rfl (lv_room (Nat.le_of_ble_eq_true rfl)) dL_compare_7 ⟨Nat.le_of_ble_eq_true rfl, Nat.le_of_ble_eq_true rfl⟩) hP hD hS hA hown [⟨0, 12, 15, 20⟩] ⟨0, 12, 19, 13⟩ [] (by rw [htab]; rfl) (fun z hz => by rcases List.mem_singleton.mp hz with rfl; exact Or.inr ⟨by decide, _, (hts (.classLink RL 20 "java/lang/IndexOutOfBoundsException") (List.mem_of_getElem? (i := 1) rfl)), hN.1⟩) (by decide) (by decide) (hts (.classLink RL 13 "java/lang/IllegalArgumentException") (List.mem_of_getElem? (i := 2) rfl)) (hE.cw (Cond.castable gIAE gIAE) (List.mem_of_getElem? (i := 3) rfl)) (fun q9 w1 H locs hf hP hD hS => ?_)
  obtain rfl : w1 = wXp y ad h q n b1 l1 r1 b2 l2 r2 b3 l3 r3 uz ul uh f1 g1 f2 g2 pa kd on ot pt fb fl fh tb tl th dg ds := hf
  have hP : va_P D vwCl (wXo oa of y ad h q n (gPg pa n) n b1 l1 r1 b2 l2 r2 b3 l3 r3 uz ul uh f1 g1 f2 g2 pa kd on ot pt fb fl fh tb tl th dg ds) H := hP
  have hD : va_D A (wXo oa of y ad h q n (gPg pa n) n b1 l1 r1 b2 l2 r2 b3 l3 r3 uz ul uh f1 g1 f2 g2 pa kd on ot pt fb fl fh tb tl th dg ds) := hD
  refine lv_astore (lv' := [(5, .ref q9), (0, .ref h), (1, .int (nI k)), (2, .int (nI j)), (3, .int c0), (4, .ref oa)]) hx hb dL_compare_19 hl (by decide) rfl (fun ls hl => ?_)
  refine lv_iconst (v := 2) hx hb dL_compare_21 (by decide) ?_
  have hP9 := hP
  have hD9 := hD
  exact W.iret (v := 2) hx hb hr (fun t ht hW => ⟨⟨some (.int (2)), wXo oa of y ad h q n (gPg pa n) n b1 l1 r1 b2 l2 r2 b3 l3 r3 uz ul uh f1 g1 f2 g2 pa kd on ot pt fb fl fh tb tl th dg ds, rfl, ⟨rfl, rfl⟩, by rw [← hAe]; exact hD9, by rw [ht]; exact hP9⟩, by rw [← hAe]; exact hS.F ht⟩) (by rw [← hAe]; exact hS.2.2) dL_compare_22
set_option maxHeartbeats 4000000 in
set_option maxRecDepth 100000 in
theorem c_L_compare_0 (l : Launch) (hfl : l.stackTraces = false) (D : va_G) (y : Nat → ClassId) (ad : Nat → Nat) (sz : Nat) (h : Nat) (q : Nat → Nat) (n : Nat) (b1 : Bool) (l1 r1 : Int64) (b2 : Bool) (l2 r2 : Int64) (b3 : Bool) (l3 r3 : Int64) (uz : Nat → Bool) (ul uh : Nat → Int64) (f1 g1 f2 g2 : Int64) (pa : Nat → Nat → Nat) (kd : Nat → Nat) (on ot : Nat → Int32) (pt : Nat → Int64) (fb : Nat → Nat → Bool) (fl fh : Nat → Nat → Int64) (tb : Nat → Nat → Bool) (tl th : Nat → Nat → Int64) (dg : Nat → Int32) (ds : Nat → Int64) (k j p : Nat) (oa : Nat) (of : Nat → Int64) (hn : n ≤ 40) (hk : k < n) (hj : j < n) (hp : p < 25) : Met l yL_compare wsL_compare ({ frames := 4, cells := 0, slots := 0, locals := 94 } : Room) (gPN D y ad [.ref h, .int (nI k), .int (nI j), .int (nI p), .ref oa] (wXo oa of y ad h q n (gPg pa n) n b1 l1 r1 b2 l2 r2 b3 l3 r3 uz ul uh f1 g1 f2 g2 pa kd on ot pt fb fl fh tb tl th dg ds) sz) (gQn D (wXo oa of y ad h q n (gPg pa n) n b1 l1 r1 b2 l2 r2 b3 l3 r3 uz ul uh f1 g1 f2 g2 pa kd on ot pt fb fl fh tb tl th dg ds) (fun v w => ∃ (yb1 : Bool) (yl1 : Int64) (yr1 : Int64) (yb2 : Bool) (yl2 : Int64) (yr2 : Int64) (yb3 : Bool) (yl3 : Int64) (yr3 : Int64) (yuz : Nat → Bool) (yul : Nat → Int64) (yuh : Nat → Int64) (yf1 : Int64) (yg1 : Int64) (yf2 : Int64) (yg2 : Int64), v = some (.int 0) ∧ w = (wXo oa (vp_updL of 0 ((sp_X7_compareAt tb tl th k j p).toInt64)) y ad h q n (gPg pa n) n yb1 yl1 yr1 yb2 yl2 yr2 yb3 yl3 yr3 yuz yul yuh yf1 yg1 yf2 yg2 pa kd on ot pt fb fl fh tb tl th dg ds))) 0 0 (va_A (wXo oa of y ad h q n (gPg pa n) n b1 l1 r1 b2 l2 r2 b3 l3 r3 uz ul uh f1 g1 f2 g2 pa kd on ot pt fb fl fh tb tl th dg ds) sz) := by
  refine gMet_ofWH (cc := cL_compare) (maxL := 6) (ret := (some .int)) (hh := [(0, 12, 15, 20), (0, 12, 19, 13)]) (by decide) rfl ?_
  intro pg e s m args below meth c s₁ B hml hv
  obtain ⟨rfl, ⟨hsz, hP, hK, hD0, hE0⟩, hN⟩ := hv
  have hx := B.exec
  have hb := B.bytes
  have hr := B.returns
  have hts := atoms_spec (ws := wsL_compare) B.pre
  have hown : s.vm.findClass RL = some m.cls := findClass_of_methodNamed B.named
  have htab : c.exceptionTable.toList = tableOf [(0, 12, 15, 20), (0, 12, 19, 13)] := vx_table (x := yL_compare) B (hts _ List.mem_cons_self)
  have hlocks := B.notSynchronized
  subst hsz
  obtain ⟨A, hAe⟩ : ∃ A : Nat → Prop, A = va_A (wXo oa of y ad h q n (gPg pa n) n b1 l1 r1 b2 l2 r2 b3 l3 r3 uz ul uh f1 g1 f2 g2 pa kd on ot pt fb fl fh tb tl th dg ds) s.heap.size := ⟨_, rfl⟩
  have hE : gE ad A s s.heap := by rw [hAe]; exact hE0
  have hD : va_D A (wXo oa of y ad h q n (gPg pa n) n b1 l1 r1 b2 l2 r2 b3 l3 r3 uz ul uh f1 g1 f2 g2 pa kd on ot pt fb fl fh tb tl th dg ds) := by rw [hAe]; exact hD0.self (sz := s.heap.size)
  have hA : ∀ q : Nat, s.heap.size ≤ q → A q := fun q h => by rw [hAe]; exact Or.inr h
  have hS : va_S A s.heap s.heap [] := va_S.rf
  have hl := lv_entry ([.ref h, .int (nI k), .int (nI j), .int (nI p), .ref oa]) (n := 6) (Nat.le_of_ble_eq_true rfl)
  rw [lg_entry_eq]
  generalize (lg_sl ([.ref h, .int (nI k), .int (nI j), .int (nI p), .ref oa]) ++ List.replicate (6 - (lg_sl ([.ref h, .int (nI k), .int (nI j), .int (nI p), .ref oa])).length) Slot.unset).toArray = ls at hl ⊢
  have hl : lv_has ls 6 [(0, .ref h), (1, .int (nI k)), (2, .int (nI j)), (3, .int (nI p)), (4, .ref oa)] := hl
  refine lv_aload hx hb dL_compare_0 (lv_at hl 4 rfl) ?_
  refine lv_iconst (v := 0) hx hb dL_compare_2 (by decide) ?_
  refine lv_aload_n hx hb dL_compare_3 rfl (lv_at hl 0 rfl) ?_
  refine lv_iload_n hx hb dL_compare_4 rfl (lv_at hl 1 rfl) ?_
  refine lv_iload_n hx hb dL_compare_5 rfl (lv_at hl 2 rfl) ?_
  refine lv_iload_n hx hb dL_compare_6 rfl (lv_at hl 3 rfl) ?_
  refine g_callAr (ws := [(oa, .inl (y 1, 1, .inr (.inl of)))]) (va_runV (As := [.int (nI k), .int (nI j), .int (nI p)]) (rest := [.int 0, .ref oa]) ⟨hx, hb, hml, hown, hts⟩ (c_X7_compare_0 l hfl D y ad s.heap.size h q n b1 l1 r1 b2 l2 r2 b3 l3 r3 uz ul uh f1 g1 f2 g2 pa kd on ot pt fb fl fh tb tl th dg ds k j p hn hk hj hp) (cwV 3 hts gL_compare_X7_compare rfl rfl rfl (by decide +kernel) ⟨Nat.le_of_ble_eq_true rfl, Nat.le_of_ble_eq_true rfl⟩) (gPX_VA (va_P_r (ws := [(oa, .inl (y 1, 1, .inr (.inl of)))]) hP) (va_D_r (ws := [(oa, .inl (y 1, 1, .inr (.inl of)))]) hD) hK hE hS hA 0 rfl rfl) rfl rfl hl.1 rfl (lv_room (Nat.le_of_ble_eq_true rfl)) dL_compare_7 ⟨Nat.le_of_ble_eq_true rfl, Nat.le_of_ble_eq_true rfl⟩) hP hD hS hA (fun v w1 H locs hf hP hD hS => ?_)
  obtain ⟨rfl, b1_7, l1_7, r1_7, b2_7, l2_7, r2_7, b3_7, l3_7, r3_7, uz_7, ul_7, uh_7, f1_7, g1_7, f2_7, g2_7, rfl⟩ := hf
  have hP : va_P D vwCl (wXo oa of y ad h q n (gPg pa n) n b1_7 l1_7 r1_7 b2_7 l2_7 r2_7 b3_7 l3_7 r3_7 uz_7 ul_7 uh_7 f1_7 g1_7 f2_7 g2_7 pa kd on ot pt fb fl fh tb tl th dg ds) H := hP
  have hD : va_D A (wXo oa of y ad h q n (gPg pa n) n b1_7 l1_7 r1_7 b2_7 l2_7 r2_7 b3_7 l3_7 r3_7 uz_7 ul_7 uh_7 f1_7 g1_7 f2_7 g2_7 pa kd on ot pt fb fl fh tb tl th dg ds) := hD
  refine lv_i2l (v := (sp_X7_compareAt tb tl th k j p).toInt64) hx hb dL_compare_10 rfl ?_
  refine g_last (k := 0) (x := (sp_X7_compareAt tb tl th k j p).toInt64) hx hb hK.1 hP hD hS 0 1 rfl rfl (by omega) (by decide) dL_compare_11 (fun H locs hP hD hS => ?_)
  have hP : va_P D vwCl (wXo oa (vp_updL of 0 ((sp_X7_compareAt tb tl th k j p).toInt64)) y ad h q n (gPg pa n) n b1_7 l1_7 r1_7 b2_7 l2_7 r2_7 b3_7 l3_7 r3_7 uz_7 ul_7 uh_7 f1_7 g1_7 f2_7 g2_7 pa kd on ot pt fb fl fh tb tl th dg ds) H := hP
  have hD : va_D A (wXo oa (vp_updL of 0 ((sp_X7_compareAt tb tl th k j p).toInt64)) y ad h q n (gPg pa n) n b1_7 l1_7 r1_7 b2_7 l2_7 r2_7 b3_7 l3_7 r3_7 uz_7 ul_7 uh_7 f1_7 g1_7 f2_7 g2_7 pa kd on ot pt fb fl fh tb tl th dg ds) := hD
  refine lv_goto (tgt := 23) hx hb dL_compare_12 (by decide) ?_
  refine lv_iconst (v := 0) hx hb dL_compare_23 (by decide) ?_
  have hP9 := hP
  have hD9 := hD
  exact W.iret (v := 0) hx hb hr (fun t ht hW => ⟨⟨some (.int (0)), wXo oa (vp_updL of 0 ((sp_X7_compareAt tb tl th k j p).toInt64)) y ad h q n (gPg pa n) n b1_7 l1_7 r1_7 b2_7 l2_7 r2_7 b3_7 l3_7 r3_7 uz_7 ul_7 uh_7 f1_7 g1_7 f2_7 g2_7 pa kd on ot pt fb fl fh tb tl th dg ds, rfl, ⟨b1_7, l1_7, r1_7, b2_7, l2_7, r2_7, b3_7, l3_7, r3_7, uz_7, ul_7, uh_7, f1_7, g1_7, f2_7, g2_7, rfl, rfl⟩, by rw [← hAe]; exact hD9, by rw [ht]; exact hP9⟩, by rw [← hAe]; exact hS.F ht⟩) (by rw [← hAe]; exact hS.2.2) dL_compare_24
set_option maxHeartbeats 4000000 in
set_option maxRecDepth 100000 in
theorem c_L_decided_X1a (l : Launch) (hfl : l.stackTraces = false) (D : va_G) (y : Nat → ClassId) (ad : Nat → Nat) (sz : Nat) (h : Nat) (q : Nat → Nat) (n : Nat) (b1 : Bool) (l1 r1 : Int64) (b2 : Bool) (l2 r2 : Int64) (b3 : Bool) (l3 r3 : Int64) (uz : Nat → Bool) (ul uh : Nat → Int64) (f1 g1 f2 g2 : Int64) (pa : Nat → Nat → Nat) (kd : Nat → Nat) (on ot : Nat → Int32) (pt : Nat → Int64) (fb : Nat → Nat → Bool) (fl fh : Nat → Nat → Int64) (tb : Nat → Nat → Bool) (tl th : Nat → Nat → Int64) (dg : Nat → Int32) (ds : Nat → Int64) (a b : Int32) (oa : Nat) (of : Nat → Int64) (hbad : a < 0 ∨ nI n ≤ a) : Met l yL_decided wsL_decided ({ frames := 8, cells := 1, slots := 6, locals := 139 } : Room) (gPN D y ad [.ref h, .int a, .int b, .ref oa] (wXo oa of y ad h q n (gPg pa n) n b1 l1 r1 b2 l2 r2 b3 l3 r3 uz ul uh f1 g1 f2 g2 pa kd on ot pt fb fl fh tb tl th dg ds) sz) (gQn D (wXo oa of y ad h q n (gPg pa n) n b1 l1 r1 b2 l2 r2 b3 l3 r3 uz ul uh f1 g1 f2 g2 pa kd on ot pt fb fl fh tb tl th dg ds) (fun v w => v = some (.int 1) ∧ w = (wXo oa of y ad h q n (gPg pa n) n b1 l1 r1 b2 l2 r2 b3 l3 r3 uz ul uh f1 g1 f2 g2 pa kd on ot pt fb fl fh tb tl th dg ds))) 1 6 (va_A (wXo oa of y ad h q n (gPg pa n) n b1 l1 r1 b2 l2 r2 b3 l3 r3 uz ul uh f1 g1 f2 g2 pa kd on ot pt fb fl fh tb tl th dg ds) sz) := by
  refine gMet_ofWH (cc := cL_decided) (maxL := 5) (ret := (some .int)) (hh := [(0, 10, 13, 20)]) (by decide) rfl ?_
  intro pg e s m args below meth c s₁ B hml hv
  obtain ⟨rfl, ⟨hsz, hP, hK, hD0, hE0⟩, hN⟩ := hv
  have hx := B.exec
  have hb := B.bytes
  have hr := B.returns
  have hts := atoms_spec (ws := wsL_decided) B.pre
  have hown : s.vm.findClass RL = some m.cls := findClass_of_methodNamed B.named
  have htab : c.exceptionTable.toList = tableOf [(0, 10, 13, 20)] := vx_table (x := yL_decided) B (hts _ List.mem_cons_self)
  have hlocks := B.notSynchronized
  subst hsz
  obtain ⟨A, hAe⟩ : ∃ A : Nat → Prop, A = va_A (wXo oa of y ad h q n (gPg pa n) n b1 l1 r1 b2 l2 r2 b3 l3 r3 uz ul uh f1 g1 f2 g2 pa kd on ot pt fb fl fh tb tl th dg ds) s.heap.size := ⟨_, rfl⟩
  have hE : gE ad A s s.heap := by rw [hAe]; exact hE0
  have hD : va_D A (wXo oa of y ad h q n (gPg pa n) n b1 l1 r1 b2 l2 r2 b3 l3 r3 uz ul uh f1 g1 f2 g2 pa kd on ot pt fb fl fh tb tl th dg ds) := by rw [hAe]; exact hD0.self (sz := s.heap.size)
  have hA : ∀ q : Nat, s.heap.size ≤ q → A q := fun q h => by rw [hAe]; exact Or.inr h
  have hS : va_S A s.heap s.heap [] := va_S.rf
  have hl := lv_entry ([.ref h, .int a, .int b, .ref oa]) (n := 5) (Nat.le_of_ble_eq_true rfl)
  rw [lg_entry_eq]
  generalize (lg_sl ([.ref h, .int a, .int b, .ref oa]) ++ List.replicate (5 - (lg_sl ([.ref h, .int a, .int b, .ref oa])).length) Slot.unset).toArray = ls at hl ⊢
  have hl : lv_has ls 5 [(0, .ref h), (1, .int a), (2, .int b), (3, .ref oa)] := hl
  refine lv_aload_n hx hb dL_decided_0 rfl (lv_at hl 3 rfl) ?_
  refine lv_iconst (v := 0) hx hb dL_decided_1 (by decide) ?_
  refine lv_aload_n hx hb dL_decided_2 rfl (lv_at hl 0 rfl) ?_
  refine lv_iload_n hx hb dL_decided_3 rfl (lv_at hl 1 rfl) ?_
  refine lv_iload_n hx hb dL_decided_4 rfl (lv_at hl 2 rfl) ?_
  refine g_catch (name := gIOB) (ws := [(oa, .inl (y 1, 1, .inr (.inl of)))]) (vx_runV (As := [.int a, .int b]) (rest := [.int 0, .ref oa]) ⟨hx, hb, hml, hown, hts⟩ (c_X7_decided_X1a l hfl D y ad s.heap.size h q n b1 l1 r1 b2 l2 r2 b3 l3 r3 uz ul uh f1 g1 f2 g2 pa kd on ot pt fb fl fh tb tl th dg ds a b hbad) (cwV 2 hts gL_decided_X7_decided rfl rfl rfl (by decide +kernel) ⟨Nat.le_of_ble_eq_true rfl, Nat.le_of_ble_eq_true rfl⟩) (gPX_VA (va_P_r (ws := [(oa, .inl (y 1, 1, .inr (.inl of)))]) hP) (va_D_r (ws := [(oa, .inl (y 1, 1, .inr (.inl of)))]) hD) hK hE hS hA 0 rfl rfl) rfl rfl hl.1 rfl (lv_room (Nat.le_of_ble_eq_true rfl)) dL_decided_5 ⟨Nat.le_of_ble_eq_true rfl, Nat.le_of_ble_eq_true rfl⟩) hP hD hS hA hown [] ⟨0, 10, 13, 20⟩ [] (by rw [htab]; rfl) (fun z hz => absurd hz List.not_mem_nil) (by decide) (by decide) (hts (.classLink RL 20 "java/lang/IndexOutOfBoundsException") (List.mem_of_getElem? (i := 1) rfl)) (hE.cw (Cond.castable gIOB gIOB) (List.mem_of_getElem? (i := 5) rfl)) (fun q9 w1 H locs hf hP hD hS => ?_)
  obtain rfl : w1 = wXp y ad h q n b1 l1 r1 b2 l2 r2 b3 l3 r3 uz ul uh f1 g1 f2 g2 pa kd on ot pt fb fl fh tb tl th dg ds := hf
  have hP : va_P D vwCl (wXo oa of y ad h q n (gPg pa n) n b1 l1 r1 b2 l2 r2 b3 l3 r3 uz ul uh f1 g1 f2 g2 pa kd on ot pt fb fl fh tb tl th dg ds) H := hP
  have hD : va_D A (wXo oa of y ad h q n (gPg pa n) n b1 l1 r1 b2 l2 r2 b3 l3 r3 uz ul uh f1 g1 f2 g2 pa kd on ot pt fb fl fh tb tl th dg ds) := hD
  refine lv_astore (lv' := [(4, .ref q9), (0, .ref h), (1, .int a), (2, .int b), (3, .ref oa)]) hx hb dL_decided_13 hl (by decide) rfl (fun ls hl => ?_)
  refine lv_iconst (v := 1) hx hb dL_decided_15 (by decide) ?_
  have hP9 := hP
  have hD9 := hD
  exact W.iret (v := 1) hx hb hr (fun t ht hW => ⟨⟨some (.int (1)), wXo oa of y ad h q n (gPg pa n) n b1 l1 r1 b2 l2 r2 b3 l3 r3 uz ul uh f1 g1 f2 g2 pa kd on ot pt fb fl fh tb tl th dg ds, rfl, ⟨rfl, rfl⟩, by rw [← hAe]; exact hD9, by rw [ht]; exact hP9⟩, by rw [← hAe]; exact hS.F ht⟩) (by rw [← hAe]; exact hS.2.2) dL_decided_16
set_option maxHeartbeats 4000000 in
set_option maxRecDepth 100000 in
theorem c_L_decided_X1b (l : Launch) (hfl : l.stackTraces = false) (D : va_G) (y : Nat → ClassId) (ad : Nat → Nat) (sz : Nat) (h : Nat) (q : Nat → Nat) (n : Nat) (b1 : Bool) (l1 r1 : Int64) (b2 : Bool) (l2 r2 : Int64) (b3 : Bool) (l3 r3 : Int64) (uz : Nat → Bool) (ul uh : Nat → Int64) (f1 g1 f2 g2 : Int64) (pa : Nat → Nat → Nat) (kd : Nat → Nat) (on ot : Nat → Int32) (pt : Nat → Int64) (fb : Nat → Nat → Bool) (fl fh : Nat → Nat → Int64) (tb : Nat → Nat → Bool) (tl th : Nat → Nat → Int64) (dg : Nat → Int32) (ds : Nat → Int64) (k : Nat) (b : Int32) (oa : Nat) (of : Nat → Int64) (hn : n ≤ 40) (hk : k < n) (hbad : b < 0 ∨ nI n ≤ b) : Met l yL_decided wsL_decided ({ frames := 8, cells := 1, slots := 6, locals := 139 } : Room) (gPN D y ad [.ref h, .int (nI k), .int b, .ref oa] (wXo oa of y ad h q n (gPg pa n) n b1 l1 r1 b2 l2 r2 b3 l3 r3 uz ul uh f1 g1 f2 g2 pa kd on ot pt fb fl fh tb tl th dg ds) sz) (gQn D (wXo oa of y ad h q n (gPg pa n) n b1 l1 r1 b2 l2 r2 b3 l3 r3 uz ul uh f1 g1 f2 g2 pa kd on ot pt fb fl fh tb tl th dg ds) (fun v w => v = some (.int 1) ∧ w = (wXo oa of y ad h q n (gPg pa n) n b1 l1 r1 b2 l2 r2 b3 l3 r3 uz ul uh f1 g1 f2 g2 pa kd on ot pt fb fl fh tb tl th dg ds))) 1 6 (va_A (wXo oa of y ad h q n (gPg pa n) n b1 l1 r1 b2 l2 r2 b3 l3 r3 uz ul uh f1 g1 f2 g2 pa kd on ot pt fb fl fh tb tl th dg ds) sz) := by
  refine gMet_ofWH (cc := cL_decided) (maxL := 5) (ret := (some .int)) (hh := [(0, 10, 13, 20)]) (by decide) rfl ?_
  intro pg e s m args below meth c s₁ B hml hv
  obtain ⟨rfl, ⟨hsz, hP, hK, hD0, hE0⟩, hN⟩ := hv
  have hx := B.exec
  have hb := B.bytes
  have hr := B.returns
  have hts := atoms_spec (ws := wsL_decided) B.pre
  have hown : s.vm.findClass RL = some m.cls := findClass_of_methodNamed B.named
  have htab : c.exceptionTable.toList = tableOf [(0, 10, 13, 20)] := vx_table (x := yL_decided) B (hts _ List.mem_cons_self)
  have hlocks := B.notSynchronized
  subst hsz
  obtain ⟨A, hAe⟩ : ∃ A : Nat → Prop, A = va_A (wXo oa of y ad h q n (gPg pa n) n b1 l1 r1 b2 l2 r2 b3 l3 r3 uz ul uh f1 g1 f2 g2 pa kd on ot pt fb fl fh tb tl th dg ds) s.heap.size := ⟨_, rfl⟩
  have hE : gE ad A s s.heap := by rw [hAe]; exact hE0
  have hD : va_D A (wXo oa of y ad h q n (gPg pa n) n b1 l1 r1 b2 l2 r2 b3 l3 r3 uz ul uh f1 g1 f2 g2 pa kd on ot pt fb fl fh tb tl th dg ds) := by rw [hAe]; exact hD0.self (sz := s.heap.size)
  have hA : ∀ q : Nat, s.heap.size ≤ q → A q := fun q h => by rw [hAe]; exact Or.inr h
  have hS : va_S A s.heap s.heap [] := va_S.rf
  have hl := lv_entry ([.ref h, .int (nI k), .int b, .ref oa]) (n := 5) (Nat.le_of_ble_eq_true rfl)
  rw [lg_entry_eq]
  generalize (lg_sl ([.ref h, .int (nI k), .int b, .ref oa]) ++ List.replicate (5 - (lg_sl ([.ref h, .int (nI k), .int b, .ref oa])).length) Slot.unset).toArray = ls at hl ⊢
  have hl : lv_has ls 5 [(0, .ref h), (1, .int (nI k)), (2, .int b), (3, .ref oa)] := hl
  refine lv_aload_n hx hb dL_decided_0 rfl (lv_at hl 3 rfl) ?_
  refine lv_iconst (v := 0) hx hb dL_decided_1 (by decide) ?_
  refine lv_aload_n hx hb dL_decided_2 rfl (lv_at hl 0 rfl) ?_
  refine lv_iload_n hx hb dL_decided_3 rfl (lv_at hl 1 rfl) ?_
  refine lv_iload_n hx hb dL_decided_4 rfl (lv_at hl 2 rfl) ?_
  refine g_catch (name := gIOB) (ws := [(oa, .inl (y 1, 1, .inr (.inl of)))]) (vx_runV (As := [.int (nI k), .int b]) (rest := [.int 0, .ref oa]) ⟨hx, hb, hml, hown, hts⟩ (c_X7_decided_X1b l hfl D y ad s.heap.size h q n b1 l1 r1 b2 l2 r2 b3 l3 r3 uz ul uh f1 g1 f2 g2 pa kd on ot pt fb fl fh tb tl th dg ds k b hn hk hbad) (cwV 2 hts gL_decided_X7_decided rfl rfl rfl (by decide +kernel) ⟨Nat.le_of_ble_eq_true rfl, Nat.le_of_ble_eq_true rfl⟩) (gPX_VA (va_P_r (ws := [(oa, .inl (y 1, 1, .inr (.inl of)))]) hP) (va_D_r (ws := [(oa, .inl (y 1, 1, .inr (.inl of)))]) hD) hK hE hS hA 0 rfl rfl) rfl rfl hl.1 rfl (lv_room (Nat.le_of_ble_eq_true rfl)) dL_decided_5 ⟨Nat.le_of_ble_eq_true rfl, Nat.le_of_ble_eq_true rfl⟩) hP hD hS hA hown [] ⟨0, 10, 13, 20⟩ [] (by rw [htab]; rfl) (fun z hz => absurd hz List.not_mem_nil) (by decide) (by decide) (hts (.classLink RL 20 "java/lang/IndexOutOfBoundsException") (List.mem_of_getElem? (i := 1) rfl)) (hE.cw (Cond.castable gIOB gIOB) (List.mem_of_getElem? (i := 5) rfl)) (fun q9 w1 H locs hf hP hD hS => ?_)
  obtain rfl : w1 = wXp y ad h q n b1 l1 r1 b2 l2 r2 b3 l3 r3 uz ul uh f1 g1 f2 g2 pa kd on ot pt fb fl fh tb tl th dg ds := hf
  have hP : va_P D vwCl (wXo oa of y ad h q n (gPg pa n) n b1 l1 r1 b2 l2 r2 b3 l3 r3 uz ul uh f1 g1 f2 g2 pa kd on ot pt fb fl fh tb tl th dg ds) H := hP
  have hD : va_D A (wXo oa of y ad h q n (gPg pa n) n b1 l1 r1 b2 l2 r2 b3 l3 r3 uz ul uh f1 g1 f2 g2 pa kd on ot pt fb fl fh tb tl th dg ds) := hD
  refine lv_astore (lv' := [(4, .ref q9), (0, .ref h), (1, .int (nI k)), (2, .int b), (3, .ref oa)]) hx hb dL_decided_13 hl (by decide) rfl (fun ls hl => ?_)
  refine lv_iconst (v := 1) hx hb dL_decided_15 (by decide) ?_
  have hP9 := hP
  have hD9 := hD
  exact W.iret (v := 1) hx hb hr (fun t ht hW => ⟨⟨some (.int (1)), wXo oa of y ad h q n (gPg pa n) n b1 l1 r1 b2 l2 r2 b3 l3 r3 uz ul uh f1 g1 f2 g2 pa kd on ot pt fb fl fh tb tl th dg ds, rfl, ⟨rfl, rfl⟩, by rw [← hAe]; exact hD9, by rw [ht]; exact hP9⟩, by rw [← hAe]; exact hS.F ht⟩) (by rw [← hAe]; exact hS.2.2) dL_decided_16
set_option maxHeartbeats 4000000 in
set_option maxRecDepth 100000 in
theorem c_L_decided_0 (l : Launch) (hfl : l.stackTraces = false) (D : va_G) (y : Nat → ClassId) (ad : Nat → Nat) (sz : Nat) (h : Nat) (q : Nat → Nat) (n : Nat) (b1 : Bool) (l1 r1 : Int64) (b2 : Bool) (l2 r2 : Int64) (b3 : Bool) (l3 r3 : Int64) (uz : Nat → Bool) (ul uh : Nat → Int64) (f1 g1 f2 g2 : Int64) (pa : Nat → Nat → Nat) (kd : Nat → Nat) (on ot : Nat → Int32) (pt : Nat → Int64) (fb : Nat → Nat → Bool) (fl fh : Nat → Nat → Int64) (tb : Nat → Nat → Bool) (tl th : Nat → Nat → Int64) (dg : Nat → Int32) (ds : Nat → Int64) (k j : Nat) (oa : Nat) (of : Nat → Int64) (hn : n ≤ 40) (hk : k < n) (hj : j < n) : Met l yL_decided wsL_decided ({ frames := 4, cells := 0, slots := 0, locals := 94 } : Room) (gPN D y ad [.ref h, .int (nI k), .int (nI j), .ref oa] (wXo oa of y ad h q n (gPg pa n) n b1 l1 r1 b2 l2 r2 b3 l3 r3 uz ul uh f1 g1 f2 g2 pa kd on ot pt fb fl fh tb tl th dg ds) sz) (gQn D (wXo oa of y ad h q n (gPg pa n) n b1 l1 r1 b2 l2 r2 b3 l3 r3 uz ul uh f1 g1 f2 g2 pa kd on ot pt fb fl fh tb tl th dg ds) (fun v w => ∃ (yb1 : Bool) (yl1 : Int64) (yr1 : Int64) (yb2 : Bool) (yl2 : Int64) (yr2 : Int64) (yb3 : Bool) (yl3 : Int64) (yr3 : Int64) (yuz : Nat → Bool) (yul : Nat → Int64) (yuh : Nat → Int64) (yf1 : Int64) (yg1 : Int64) (yf2 : Int64) (yg2 : Int64), v = some (.int 0) ∧ w = (wXo oa (vp_updL of 0 ((deX (sp_X7_compareAt tb tl th k j) 25 0).toInt64)) y ad h q n (gPg pa n) n yb1 yl1 yr1 yb2 yl2 yr2 yb3 yl3 yr3 yuz yul yuh yf1 yg1 yf2 yg2 pa kd on ot pt fb fl fh tb tl th dg ds))) 0 0 (va_A (wXo oa of y ad h q n (gPg pa n) n b1 l1 r1 b2 l2 r2 b3 l3 r3 uz ul uh f1 g1 f2 g2 pa kd on ot pt fb fl fh tb tl th dg ds) sz) := by
  refine gMet_ofWH (cc := cL_decided) (maxL := 5) (ret := (some .int)) (hh := [(0, 10, 13, 20)]) (by decide) rfl ?_
  intro pg e s m args below meth c s₁ B hml hv
  obtain ⟨rfl, ⟨hsz, hP, hK, hD0, hE0⟩, hN⟩ := hv
  have hx := B.exec
  have hb := B.bytes
  have hr := B.returns
  have hts := atoms_spec (ws := wsL_decided) B.pre
  have hown : s.vm.findClass RL = some m.cls := findClass_of_methodNamed B.named
  have htab : c.exceptionTable.toList = tableOf [(0, 10, 13, 20)] := vx_table (x := yL_decided) B (hts _ List.mem_cons_self)
  have hlocks := B.notSynchronized
  subst hsz
  obtain ⟨A, hAe⟩ : ∃ A : Nat → Prop, A = va_A (wXo oa of y ad h q n (gPg pa n) n b1 l1 r1 b2 l2 r2 b3 l3 r3 uz ul uh f1 g1 f2 g2 pa kd on ot pt fb fl fh tb tl th dg ds) s.heap.size := ⟨_, rfl⟩
  have hE : gE ad A s s.heap := by rw [hAe]; exact hE0
  have hD : va_D A (wXo oa of y ad h q n (gPg pa n) n b1 l1 r1 b2 l2 r2 b3 l3 r3 uz ul uh f1 g1 f2 g2 pa kd on ot pt fb fl fh tb tl th dg ds) := by rw [hAe]; exact hD0.self (sz := s.heap.size)
  have hA : ∀ q : Nat, s.heap.size ≤ q → A q := fun q h => by rw [hAe]; exact Or.inr h
  have hS : va_S A s.heap s.heap [] := va_S.rf
  have hl := lv_entry ([.ref h, .int (nI k), .int (nI j), .ref oa]) (n := 5) (Nat.le_of_ble_eq_true rfl)
  rw [lg_entry_eq]
  generalize (lg_sl ([.ref h, .int (nI k), .int (nI j), .ref oa]) ++ List.replicate (5 - (lg_sl ([.ref h, .int (nI k), .int (nI j), .ref oa])).length) Slot.unset).toArray = ls at hl ⊢
  have hl : lv_has ls 5 [(0, .ref h), (1, .int (nI k)), (2, .int (nI j)), (3, .ref oa)] := hl
  refine lv_aload_n hx hb dL_decided_0 rfl (lv_at hl 3 rfl) ?_
  refine lv_iconst (v := 0) hx hb dL_decided_1 (by decide) ?_
  refine lv_aload_n hx hb dL_decided_2 rfl (lv_at hl 0 rfl) ?_
  refine lv_iload_n hx hb dL_decided_3 rfl (lv_at hl 1 rfl) ?_
  refine lv_iload_n hx hb dL_decided_4 rfl (lv_at hl 2 rfl) ?_
  refine g_callAr (ws := [(oa, .inl (y 1, 1, .inr (.inl of)))]) (va_runV (As := [.int (nI k), .int (nI j)]) (rest := [.int 0, .ref oa]) ⟨hx, hb, hml, hown, hts⟩ (c_X7_decided_0 l hfl D y ad s.heap.size h q n b1 l1 r1 b2 l2 r2 b3 l3 r3 uz ul uh f1 g1 f2 g2 pa kd on ot pt fb fl fh tb tl th dg ds k j hn hk hj) (cwV 2 hts gL_decided_X7_decided rfl rfl rfl (by decide +kernel) ⟨Nat.le_of_ble_eq_true rfl, Nat.le_of_ble_eq_true rfl⟩) (gPX_VA (va_P_r (ws := [(oa, .inl (y 1, 1, .inr (.inl of)))]) hP) (va_D_r (ws := [(oa, .inl (y 1, 1, .inr (.inl of)))]) hD) hK hE hS hA 0 rfl rfl) rfl rfl hl.1 rfl (lv_room (Nat.le_of_ble_eq_true rfl)) dL_decided_5 ⟨Nat.le_of_ble_eq_true rfl, Nat.le_of_ble_eq_true rfl⟩) hP hD hS hA (fun v w1 H locs hf hP hD hS => ?_)
  obtain ⟨rfl, b1_5, l1_5, r1_5, b2_5, l2_5, r2_5, b3_5, l3_5, r3_5, uz_5, ul_5, uh_5, f1_5, g1_5, f2_5, g2_5, rfl⟩ := hf
  have hP : va_P D vwCl (wXo oa of y ad h q n (gPg pa n) n b1_5 l1_5 r1_5 b2_5 l2_5 r2_5 b3_5 l3_5 r3_5 uz_5 ul_5 uh_5 f1_5 g1_5 f2_5 g2_5 pa kd on ot pt fb fl fh tb tl th dg ds) H := hP
  have hD : va_D A (wXo oa of y ad h q n (gPg pa n) n b1_5 l1_5 r1_5 b2_5 l2_5 r2_5 b3_5 l3_5 r3_5 uz_5 ul_5 uh_5 f1_5 g1_5 f2_5 g2_5 pa kd on ot pt fb fl fh tb tl th dg ds) := hD
  refine lv_i2l (v := (deX (sp_X7_compareAt tb tl th k j) 25 0).toInt64) hx hb dL_decided_8 rfl ?_
  refine g_last (k := 0) (x := (deX (sp_X7_compareAt tb tl th k j) 25 0).toInt64) hx hb hK.1 hP hD hS 0 1 rfl rfl (by omega) (by decide) dL_decided_9 (fun H locs hP hD hS => ?_)
  have hP : va_P D vwCl (wXo oa (vp_updL of 0 ((deX (sp_X7_compareAt tb tl th k j) 25 0).toInt64)) y ad h q n (gPg pa n) n b1_5 l1_5 r1_5 b2_5 l2_5 r2_5 b3_5 l3_5 r3_5 uz_5 ul_5 uh_5 f1_5 g1_5 f2_5 g2_5 pa kd on ot pt fb fl fh tb tl th dg ds) H := hP
  have hD : va_D A (wXo oa (vp_updL of 0 ((deX (sp_X7_compareAt tb tl th k j) 25 0).toInt64)) y ad h q n (gPg pa n) n b1_5 l1_5 r1_5 b2_5 l2_5 r2_5 b3_5 l3_5 r3_5 uz_5 ul_5 uh_5 f1_5 g1_5 f2_5 g2_5 pa kd on ot pt fb fl fh tb tl th dg ds) := hD
  refine lv_goto (tgt := 17) hx hb dL_decided_10 (by decide) ?_
  refine lv_iconst (v := 0) hx hb dL_decided_17 (by decide) ?_
  have hP9 := hP
  have hD9 := hD
  exact W.iret (v := 0) hx hb hr (fun t ht hW => ⟨⟨some (.int (0)), wXo oa (vp_updL of 0 ((deX (sp_X7_compareAt tb tl th k j) 25 0).toInt64)) y ad h q n (gPg pa n) n b1_5 l1_5 r1_5 b2_5 l2_5 r2_5 b3_5 l3_5 r3_5 uz_5 ul_5 uh_5 f1_5 g1_5 f2_5 g2_5 pa kd on ot pt fb fl fh tb tl th dg ds, rfl, ⟨b1_5, l1_5, r1_5, b2_5, l2_5, r2_5, b3_5, l3_5, r3_5, uz_5, ul_5, uh_5, f1_5, g1_5, f2_5, g2_5, rfl, rfl⟩, by rw [← hAe]; exact hD9, by rw [ht]; exact hP9⟩, by rw [← hAe]; exact hS.F ht⟩) (by rw [← hAe]; exact hS.2.2) dL_decided_18
set_option maxHeartbeats 4000000 in
set_option maxRecDepth 100000 in
theorem c_L_decimals_X1 (l : Launch) (hfl : l.stackTraces = false) (D : va_G) (y : Nat → ClassId) (ad : Nat → Nat) (sz : Nat) (h : Nat) (q : Nat → Nat) (n : Nat) (b1 : Bool) (l1 r1 : Int64) (b2 : Bool) (l2 r2 : Int64) (b3 : Bool) (l3 r3 : Int64) (uz : Nat → Bool) (ul uh : Nat → Int64) (f1 g1 f2 g2 : Int64) (pa : Nat → Nat → Nat) (kd : Nat → Nat) (on ot : Nat → Int32) (pt : Nat → Int64) (fb : Nat → Nat → Bool) (fl fh : Nat → Nat → Int64) (tb : Nat → Nat → Bool) (tl th : Nat → Nat → Int64) (dg : Nat → Int32) (ds : Nat → Int64) (a b : Int32) (oa : Nat) (of : Nat → Int64) (hbad : a < 0 ∨ nI n ≤ a) : Met l yL_decimals wsL_decimals ({ frames := 9, cells := 1, slots := 6, locals := 159 } : Room) (gPN D y ad [.ref h, .int a, .int b, .ref oa] (wXo oa of y ad h q n (gPg pa n) n b1 l1 r1 b2 l2 r2 b3 l3 r3 uz ul uh f1 g1 f2 g2 pa kd on ot pt fb fl fh tb tl th dg ds) sz) (gQn D (wXo oa of y ad h q n (gPg pa n) n b1 l1 r1 b2 l2 r2 b3 l3 r3 uz ul uh f1 g1 f2 g2 pa kd on ot pt fb fl fh tb tl th dg ds) (fun v w => ∃ (yb1 : Bool) (yl1 : Int64) (yr1 : Int64) (yb2 : Bool) (yl2 : Int64) (yr2 : Int64) (yb3 : Bool) (yl3 : Int64) (yr3 : Int64) (yuz : Nat → Bool) (yul : Nat → Int64) (yuh : Nat → Int64) (yf1 : Int64) (yg1 : Int64) (yf2 : Int64) (yg2 : Int64), v = some (.int 1) ∧ w = (wXo oa of y ad h q n (gPg pa n) n yb1 yl1 yr1 yb2 yl2 yr2 yb3 yl3 yr3 yuz yul yuh yf1 yg1 yf2 yg2 pa kd on ot pt fb fl fh tb tl th dg ds))) 1 6 (va_A (wXo oa of y ad h q n (gPg pa n) n b1 l1 r1 b2 l2 r2 b3 l3 r3 uz ul uh f1 g1 f2 g2 pa kd on ot pt fb fl fh tb tl th dg ds) sz) := by
  refine gMet_ofWH (cc := cL_decimals) (maxL := 5) (ret := (some .int)) (hh := [(0, 10, 13, 20), (0, 10, 17, 13)]) (by decide) rfl ?_
  intro pg e s m args below meth c s₁ B hml hv
  obtain ⟨rfl, ⟨hsz, hP, hK, hD0, hE0⟩, hN⟩ := hv
  have hx := B.exec
  have hb := B.bytes
  have hr := B.returns
  have hts := atoms_spec (ws := wsL_decimals) B.pre
  have hown : s.vm.findClass RL = some m.cls := findClass_of_methodNamed B.named
  have htab : c.exceptionTable.toList = tableOf [(0, 10, 13, 20), (0, 10, 17, 13)] := vx_table (x := yL_decimals) B (hts _ List.mem_cons_self)
  have hlocks := B.notSynchronized
  subst hsz
  obtain ⟨A, hAe⟩ : ∃ A : Nat → Prop, A = va_A (wXo oa of y ad h q n (gPg pa n) n b1 l1 r1 b2 l2 r2 b3 l3 r3 uz ul uh f1 g1 f2 g2 pa kd on ot pt fb fl fh tb tl th dg ds) s.heap.size := ⟨_, rfl⟩
  have hE : gE ad A s s.heap := by rw [hAe]; exact hE0
  have hD : va_D A (wXo oa of y ad h q n (gPg pa n) n b1 l1 r1 b2 l2 r2 b3 l3 r3 uz ul uh f1 g1 f2 g2 pa kd on ot pt fb fl fh tb tl th dg ds) := by rw [hAe]; exact hD0.self (sz := s.heap.size)
  have hA : ∀ q : Nat, s.heap.size ≤ q → A q := fun q h => by rw [hAe]; exact Or.inr h
  have hS : va_S A s.heap s.heap [] := va_S.rf
  have hl := lv_entry ([.ref h, .int a, .int b, .ref oa]) (n := 5) (Nat.le_of_ble_eq_true rfl)
  rw [lg_entry_eq]
  generalize (lg_sl ([.ref h, .int a, .int b, .ref oa]) ++ List.replicate (5 - (lg_sl ([.ref h, .int a, .int b, .ref oa])).length) Slot.unset).toArray = ls at hl ⊢
  have hl : lv_has ls 5 [(0, .ref h), (1, .int a), (2, .int b), (3, .ref oa)] := hl
  refine lv_aload_n hx hb dL_decimals_0 rfl (lv_at hl 3 rfl) ?_
  refine lv_iconst (v := 0) hx hb dL_decimals_1 (by decide) ?_
  refine lv_aload_n hx hb dL_decimals_2 rfl (lv_at hl 0 rfl) ?_
  refine lv_iload_n hx hb dL_decimals_3 rfl (lv_at hl 1 rfl) ?_
  refine lv_iload_n hx hb dL_decimals_4 rfl (lv_at hl 2 rfl) ?_
  refine g_catch (name := gIOB) (ws := [(oa, .inl (y 1, 1, .inr (.inl of)))]) (vx_runV (As := [.int a, .int b]) (rest := [.int 0, .ref oa]) ⟨hx, hb, hml, hown, hts⟩ (c_X7_decimals_X1 l hfl D y ad s.heap.size h q n b1 l1 r1 b2 l2 r2 b3 l3 r3 uz ul uh f1 g1 f2 g2 pa kd on ot pt fb fl fh tb tl th dg ds a b hbad) (cwV 2 hts gL_decimals_X7_decimals rfl rfl rfl (by decide +kernel) ⟨Nat.le_of_ble_eq_true rfl, Nat.le_of_ble_eq_true rfl⟩) (gPX_VA (va_P_r (ws := [(oa, .inl (y 1, 1, .inr (.inl of)))]) hP) (va_D_r (ws := [(oa, .inl (y 1, 1, .inr (.inl of)))]) hD) hK hE hS hA 0 rfl rfl) rfl rfl hl.1 rfl (lv_room (Nat.le_of_ble_eq_true rfl)) dL_decimals_5 ⟨Nat.le_of_ble_eq_true rfl, Nat.le_of_ble_eq_true rfl⟩) hP hD hS hA hown [] ⟨0, 10, 13, 20⟩ [⟨0, 10, 17, 13⟩] (by rw [htab]; rfl) (fun z hz => absurd hz List.not_mem_nil) (by decide) (by decide) (hts (.classLink RL 20 "java/lang/IndexOutOfBoundsException") (List.mem_of_getElem? (i := 1) rfl)) (hE.cw (Cond.castable gIOB gIOB) (List.mem_of_getElem? (i := 5) rfl)) (fun q9 w1 H locs hf hP hD hS => ?_)
  obtain ⟨b1_5, l1_5, r1_5, b2_5, l2_5, r2_5, b3_5, l3_5, r3_5, uz_5, ul_5, uh_5, f1_5, g1_5, f2_5, g2_5, rfl⟩ := hf
  have hP : va_P D vwCl (wXo oa of y ad h q n (gPg pa n) n b1_5 l1_5 r1_5 b2_5 l2_5 r2_5 b3_5 l3_5 r3_5 uz_5 ul_5 uh_5 f1_5 g1_5 f2_5 g2_5 pa kd on ot pt fb fl fh tb tl th dg ds) H := hP
  have hD : va_D A (wXo oa of y ad h q n (gPg pa n) n b1_5 l1_5 r1_5 b2_5 l2_5 r2_5 b3_5 l3_5 r3_5 uz_5 ul_5 uh_5 f1_5 g1_5 f2_5 g2_5 pa kd on ot pt fb fl fh tb tl th dg ds) := hD
  refine lv_astore (lv' := [(4, .ref q9), (0, .ref h), (1, .int a), (2, .int b), (3, .ref oa)]) hx hb dL_decimals_13 hl (by decide) rfl (fun ls hl => ?_)
  refine lv_iconst (v := 1) hx hb dL_decimals_15 (by decide) ?_
  have hP9 := hP
  have hD9 := hD
  exact W.iret (v := 1) hx hb hr (fun t ht hW => ⟨⟨some (.int (1)), wXo oa of y ad h q n (gPg pa n) n b1_5 l1_5 r1_5 b2_5 l2_5 r2_5 b3_5 l3_5 r3_5 uz_5 ul_5 uh_5 f1_5 g1_5 f2_5 g2_5 pa kd on ot pt fb fl fh tb tl th dg ds, rfl, ⟨b1_5, l1_5, r1_5, b2_5, l2_5, r2_5, b3_5, l3_5, r3_5, uz_5, ul_5, uh_5, f1_5, g1_5, f2_5, g2_5, rfl, rfl⟩, by rw [← hAe]; exact hD9, by rw [ht]; exact hP9⟩, by rw [← hAe]; exact hS.F ht⟩) (by rw [← hAe]; exact hS.2.2) dL_decimals_16
set_option maxHeartbeats 4000000 in
set_option maxRecDepth 100000 in
theorem c_L_decimals_X2 (l : Launch) (hfl : l.stackTraces = false) (D : va_G) (y : Nat → ClassId) (ad : Nat → Nat) (sz : Nat) (h : Nat) (q : Nat → Nat) (n : Nat) (b1 : Bool) (l1 r1 : Int64) (b2 : Bool) (l2 r2 : Int64) (b3 : Bool) (l3 r3 : Int64) (uz : Nat → Bool) (ul uh : Nat → Int64) (f1 g1 f2 g2 : Int64) (pa : Nat → Nat → Nat) (kd : Nat → Nat) (on ot : Nat → Int32) (pt : Nat → Int64) (fb : Nat → Nat → Bool) (fl fh : Nat → Nat → Int64) (tb : Nat → Nat → Bool) (tl th : Nat → Nat → Int64) (dg : Nat → Int32) (ds : Nat → Int64) (k : Nat) (b : Int32) (oa : Nat) (of : Nat → Int64) (hn : n ≤ 40) (hk : k < n) (hp : b < 0 ∨ ¬ b ≤ 24) : Met l yL_decimals wsL_decimals ({ frames := 9, cells := 1, slots := 6, locals := 159 } : Room) (gPN D y ad [.ref h, .int (nI k), .int b, .ref oa] (wXo oa of y ad h q n (gPg pa n) n b1 l1 r1 b2 l2 r2 b3 l3 r3 uz ul uh f1 g1 f2 g2 pa kd on ot pt fb fl fh tb tl th dg ds) sz) (gQn D (wXo oa of y ad h q n (gPg pa n) n b1 l1 r1 b2 l2 r2 b3 l3 r3 uz ul uh f1 g1 f2 g2 pa kd on ot pt fb fl fh tb tl th dg ds) (fun v w => ∃ (yb1 : Bool) (yl1 : Int64) (yr1 : Int64) (yb2 : Bool) (yl2 : Int64) (yr2 : Int64) (yb3 : Bool) (yl3 : Int64) (yr3 : Int64) (yuz : Nat → Bool) (yul : Nat → Int64) (yuh : Nat → Int64) (yf1 : Int64) (yg1 : Int64) (yf2 : Int64) (yg2 : Int64), v = some (.int 2) ∧ w = (wXo oa of y ad h q n (gPg pa n) n yb1 yl1 yr1 yb2 yl2 yr2 yb3 yl3 yr3 yuz yul yuh yf1 yg1 yf2 yg2 pa kd on ot pt fb fl fh tb tl th dg ds))) 1 6 (va_A (wXo oa of y ad h q n (gPg pa n) n b1 l1 r1 b2 l2 r2 b3 l3 r3 uz ul uh f1 g1 f2 g2 pa kd on ot pt fb fl fh tb tl th dg ds) sz) := by
  refine gMet_ofWH (cc := cL_decimals) (maxL := 5) (ret := (some .int)) (hh := [(0, 10, 13, 20), (0, 10, 17, 13)]) (by decide) rfl ?_
  intro pg e s m args below meth c s₁ B hml hv
  obtain ⟨rfl, ⟨hsz, hP, hK, hD0, hE0⟩, hN⟩ := hv
  have hx := B.exec
  have hb := B.bytes
  have hr := B.returns
  have hts := atoms_spec (ws := wsL_decimals) B.pre
  have hown : s.vm.findClass RL = some m.cls := findClass_of_methodNamed B.named
  have htab : c.exceptionTable.toList = tableOf [(0, 10, 13, 20), (0, 10, 17, 13)] := vx_table (x := yL_decimals) B (hts _ List.mem_cons_self)
  have hlocks := B.notSynchronized
  subst hsz
  obtain ⟨A, hAe⟩ : ∃ A : Nat → Prop, A = va_A (wXo oa of y ad h q n (gPg pa n) n b1 l1 r1 b2 l2 r2 b3 l3 r3 uz ul uh f1 g1 f2 g2 pa kd on ot pt fb fl fh tb tl th dg ds) s.heap.size := ⟨_, rfl⟩
  have hE : gE ad A s s.heap := by rw [hAe]; exact hE0
  have hD : va_D A (wXo oa of y ad h q n (gPg pa n) n b1 l1 r1 b2 l2 r2 b3 l3 r3 uz ul uh f1 g1 f2 g2 pa kd on ot pt fb fl fh tb tl th dg ds) := by rw [hAe]; exact hD0.self (sz := s.heap.size)
  have hA : ∀ q : Nat, s.heap.size ≤ q → A q := fun q h => by rw [hAe]; exact Or.inr h
  have hS : va_S A s.heap s.heap [] := va_S.rf
  have hl := lv_entry ([.ref h, .int (nI k), .int b, .ref oa]) (n := 5) (Nat.le_of_ble_eq_true rfl)
  rw [lg_entry_eq]
  generalize (lg_sl ([.ref h, .int (nI k), .int b, .ref oa]) ++ List.replicate (5 - (lg_sl ([.ref h, .int (nI k), .int b, .ref oa])).length) Slot.unset).toArray = ls at hl ⊢
  have hl : lv_has ls 5 [(0, .ref h), (1, .int (nI k)), (2, .int b), (3, .ref oa)] := hl
  refine lv_aload_n hx hb dL_decimals_0 rfl (lv_at hl 3 rfl) ?_
  refine lv_iconst (v := 0) hx hb dL_decimals_1 (by decide) ?_
  refine lv_aload_n hx hb dL_decimals_2 rfl (lv_at hl 0 rfl) ?_
  refine lv_iload_n hx hb dL_decimals_3 rfl (lv_at hl 1 rfl) ?_
  refine lv_iload_n hx hb dL_decimals_4 rfl (lv_at hl 2 rfl) ?_
  refine g_catch (name := gIAE) (ws := [(oa, .inl (y 1, 1, .inr (.inl of)))]) (vx_runV (As := [.int (nI k), .int b]) (rest := [.int 0, .ref oa]) ⟨hx, hb, hml, hown, hts⟩ (c_X7_decimals_X2 l hfl D y ad s.heap.size h q n b1 l1 r1 b2 l2 r2 b3 l3 r3 uz ul uh f1 g1 f2 g2 pa kd on ot pt fb fl fh tb tl th dg ds k b hn hk hp) (cwV 2 hts gL_decimals_X7_decimals rfl rfl rfl (by decide +kernel) ⟨Nat.le_of_ble_eq_true rfl, Nat.le_of_ble_eq_true rfl⟩) (gPX_VA (va_P_r (ws := [(oa, .inl (y 1, 1, .inr (.inl of)))]) hP) (va_D_r (ws := [(oa, .inl (y 1, 1, .inr (.inl of)))]) hD) hK hE hS hA 0 rfl rfl) rfl rfl hl.1 rfl (lv_room (Nat.le_of_ble_eq_true rfl)) dL_decimals_5 ⟨Nat.le_of_ble_eq_true rfl, Nat.le_of_ble_eq_true rfl⟩) hP hD hS hA hown [⟨0, 10, 13, 20⟩] ⟨0, 10, 17, 13⟩ [] (by rw [htab]; rfl) (fun z hz => by rcases List.mem_singleton.mp hz with rfl; exact Or.inr ⟨by decide, _, (hts (.classLink RL 20 "java/lang/IndexOutOfBoundsException") (List.mem_of_getElem? (i := 1) rfl)), hN.1⟩) (by decide) (by decide) (hts (.classLink RL 13 "java/lang/IllegalArgumentException") (List.mem_of_getElem? (i := 2) rfl)) (hE.cw (Cond.castable gIAE gIAE) (List.mem_of_getElem? (i := 3) rfl)) (fun q9 w1 H locs hf hP hD hS => ?_)
  obtain ⟨b1_5, l1_5, r1_5, b2_5, l2_5, r2_5, b3_5, l3_5, r3_5, uz_5, ul_5, uh_5, f1_5, g1_5, f2_5, g2_5, rfl⟩ := hf
  have hP : va_P D vwCl (wXo oa of y ad h q n (gPg pa n) n b1_5 l1_5 r1_5 b2_5 l2_5 r2_5 b3_5 l3_5 r3_5 uz_5 ul_5 uh_5 f1_5 g1_5 f2_5 g2_5 pa kd on ot pt fb fl fh tb tl th dg ds) H := hP
  have hD : va_D A (wXo oa of y ad h q n (gPg pa n) n b1_5 l1_5 r1_5 b2_5 l2_5 r2_5 b3_5 l3_5 r3_5 uz_5 ul_5 uh_5 f1_5 g1_5 f2_5 g2_5 pa kd on ot pt fb fl fh tb tl th dg ds) := hD
  refine lv_astore (lv' := [(4, .ref q9), (0, .ref h), (1, .int (nI k)), (2, .int b), (3, .ref oa)]) hx hb dL_decimals_17 hl (by decide) rfl (fun ls hl => ?_)
  refine lv_iconst (v := 2) hx hb dL_decimals_19 (by decide) ?_
  have hP9 := hP
  have hD9 := hD
  exact W.iret (v := 2) hx hb hr (fun t ht hW => ⟨⟨some (.int (2)), wXo oa of y ad h q n (gPg pa n) n b1_5 l1_5 r1_5 b2_5 l2_5 r2_5 b3_5 l3_5 r3_5 uz_5 ul_5 uh_5 f1_5 g1_5 f2_5 g2_5 pa kd on ot pt fb fl fh tb tl th dg ds, rfl, ⟨b1_5, l1_5, r1_5, b2_5, l2_5, r2_5, b3_5, l3_5, r3_5, uz_5, ul_5, uh_5, f1_5, g1_5, f2_5, g2_5, rfl, rfl⟩, by rw [← hAe]; exact hD9, by rw [ht]; exact hP9⟩, by rw [← hAe]; exact hS.F ht⟩) (by rw [← hAe]; exact hS.2.2) dL_decimals_20
set_option maxHeartbeats 4000000 in
set_option maxRecDepth 100000 in
theorem c_L_decimals_0 (l : Launch) (hfl : l.stackTraces = false) (D : va_G) (y : Nat → ClassId) (ad : Nat → Nat) (sz : Nat) (h : Nat) (q : Nat → Nat) (n : Nat) (b1 : Bool) (l1 r1 : Int64) (b2 : Bool) (l2 r2 : Int64) (b3 : Bool) (l3 r3 : Int64) (uz : Nat → Bool) (ul uh : Nat → Int64) (f1 g1 f2 g2 : Int64) (pa : Nat → Nat → Nat) (kd : Nat → Nat) (on ot : Nat → Int32) (pt : Nat → Int64) (fb : Nat → Nat → Bool) (fl fh : Nat → Nat → Int64) (tb : Nat → Nat → Bool) (tl th : Nat → Nat → Int64) (dg : Nat → Int32) (ds : Nat → Int64) (k p : Nat) (oa : Nat) (of : Nat → Int64) (hn : n ≤ 40) (hk : k < n) (hp : p < 25) : Met l yL_decimals wsL_decimals ({ frames := 5, cells := 0, slots := 0, locals := 118 } : Room) (gPN D y ad [.ref h, .int (nI k), .int (nI p), .ref oa] (wXo oa of y ad h q n (gPg pa n) n b1 l1 r1 b2 l2 r2 b3 l3 r3 uz ul uh f1 g1 f2 g2 pa kd on ot pt fb fl fh tb tl th dg ds) sz) (gQn D (wXo oa of y ad h q n (gPg pa n) n b1 l1 r1 b2 l2 r2 b3 l3 r3 uz ul uh f1 g1 f2 g2 pa kd on ot pt fb fl fh tb tl th dg ds) (fun v w => ∃ (yb1 : Bool) (yl1 : Int64) (yr1 : Int64) (yb2 : Bool) (yl2 : Int64) (yr2 : Int64) (yb3 : Bool) (yl3 : Int64) (yr3 : Int64) (yuz : Nat → Bool) (yul : Nat → Int64) (yuh : Nat → Int64) (yf1 : Int64) (yg1 : Int64) (yf2 : Int64) (yg2 : Int64), v = some (.int 0) ∧ w = (wXo oa (vp_updL of 0 ((sdR (sp_X6_load_b1 (tb k) (tl k) (th k) p) (sp_X6_load_lo1 (tb k) (tl k) (th k) p) (sp_X6_load_hi1 (tb k) (tl k) (th k) p) (nI p)).toInt64)) y ad h q n (gPg pa n) n yb1 yl1 yr1 yb2 yl2 yr2 yb3 yl3 yr3 yuz yul yuh yf1 yg1 yf2 yg2 pa kd on ot pt fb fl fh tb tl th dg ds))) 0 0 (va_A (wXo oa of y ad h q n (gPg pa n) n b1 l1 r1 b2 l2 r2 b3 l3 r3 uz ul uh f1 g1 f2 g2 pa kd on ot pt fb fl fh tb tl th dg ds) sz) := by
  refine gMet_ofWH (cc := cL_decimals) (maxL := 5) (ret := (some .int)) (hh := [(0, 10, 13, 20), (0, 10, 17, 13)]) (by decide) rfl ?_
  intro pg e s m args below meth c s₁ B hml hv
  obtain ⟨rfl, ⟨hsz, hP, hK, hD0, hE0⟩, hN⟩ := hv
  have hx := B.exec
  have hb := B.bytes
  have hr := B.returns
  have hts := atoms_spec (ws := wsL_decimals) B.pre
  have hown : s.vm.findClass RL = some m.cls := findClass_of_methodNamed B.named
  have htab : c.exceptionTable.toList = tableOf [(0, 10, 13, 20), (0, 10, 17, 13)] := vx_table (x := yL_decimals) B (hts _ List.mem_cons_self)
  have hlocks := B.notSynchronized
  subst hsz
  obtain ⟨A, hAe⟩ : ∃ A : Nat → Prop, A = va_A (wXo oa of y ad h q n (gPg pa n) n b1 l1 r1 b2 l2 r2 b3 l3 r3 uz ul uh f1 g1 f2 g2 pa kd on ot pt fb fl fh tb tl th dg ds) s.heap.size := ⟨_, rfl⟩
  have hE : gE ad A s s.heap := by rw [hAe]; exact hE0
  have hD : va_D A (wXo oa of y ad h q n (gPg pa n) n b1 l1 r1 b2 l2 r2 b3 l3 r3 uz ul uh f1 g1 f2 g2 pa kd on ot pt fb fl fh tb tl th dg ds) := by rw [hAe]; exact hD0.self (sz := s.heap.size)
  have hA : ∀ q : Nat, s.heap.size ≤ q → A q := fun q h => by rw [hAe]; exact Or.inr h
  have hS : va_S A s.heap s.heap [] := va_S.rf
  have hl := lv_entry ([.ref h, .int (nI k), .int (nI p), .ref oa]) (n := 5) (Nat.le_of_ble_eq_true rfl)
  rw [lg_entry_eq]
  generalize (lg_sl ([.ref h, .int (nI k), .int (nI p), .ref oa]) ++ List.replicate (5 - (lg_sl ([.ref h, .int (nI k), .int (nI p), .ref oa])).length) Slot.unset).toArray = ls at hl ⊢
  have hl : lv_has ls 5 [(0, .ref h), (1, .int (nI k)), (2, .int (nI p)), (3, .ref oa)] := hl
  refine lv_aload_n hx hb dL_decimals_0 rfl (lv_at hl 3 rfl) ?_
  refine lv_iconst (v := 0) hx hb dL_decimals_1 (by decide) ?_
  refine lv_aload_n hx hb dL_decimals_2 rfl (lv_at hl 0 rfl) ?_
  refine lv_iload_n hx hb dL_decimals_3 rfl (lv_at hl 1 rfl) ?_
  refine lv_iload_n hx hb dL_decimals_4 rfl (lv_at hl 2 rfl) ?_
  refine g_callAr (ws := [(oa, .inl (y 1, 1, .inr (.inl of)))]) (va_runV (As := [.int (nI k), .int (nI p)]) (rest := [.int 0, .ref oa]) ⟨hx, hb, hml, hown, hts⟩ (c_X7_decimals_0 l hfl D y ad s.heap.size h q n b1 l1 r1 b2 l2 r2 b3 l3 r3 uz ul uh f1 g1 f2 g2 pa kd on ot pt fb fl fh tb tl th dg ds k p hn hk hp) (cwV 2 hts gL_decimals_X7_decimals rfl rfl rfl (by decide +kernel) ⟨Nat.le_of_ble_eq_true rfl, Nat.le_of_ble_eq_true rfl⟩) (gPX_VA (va_P_r (ws := [(oa, .inl (y 1, 1, .inr (.inl of)))]) hP) (va_D_r (ws := [(oa, .inl (y 1, 1, .inr (.inl of)))]) hD) hK hE hS hA 0 rfl rfl) rfl rfl hl.1 rfl (lv_room (Nat.le_of_ble_eq_true rfl)) dL_decimals_5 ⟨Nat.le_of_ble_eq_true rfl, Nat.le_of_ble_eq_true rfl⟩) hP hD hS hA (fun v w1 H locs hf hP hD hS => ?_)
  obtain ⟨rfl, b1_5, l1_5, r1_5, b2_5, l2_5, r2_5, b3_5, l3_5, r3_5, uz_5, ul_5, uh_5, f1_5, g1_5, f2_5, g2_5, rfl⟩ := hf
  have hP : va_P D vwCl (wXo oa of y ad h q n (gPg pa n) n b1_5 l1_5 r1_5 b2_5 l2_5 r2_5 b3_5 l3_5 r3_5 uz_5 ul_5 uh_5 f1_5 g1_5 f2_5 g2_5 pa kd on ot pt fb fl fh tb tl th dg ds) H := hP
  have hD : va_D A (wXo oa of y ad h q n (gPg pa n) n b1_5 l1_5 r1_5 b2_5 l2_5 r2_5 b3_5 l3_5 r3_5 uz_5 ul_5 uh_5 f1_5 g1_5 f2_5 g2_5 pa kd on ot pt fb fl fh tb tl th dg ds) := hD
  refine lv_i2l (v := (sdR (sp_X6_load_b1 (tb k) (tl k) (th k) p) (sp_X6_load_lo1 (tb k) (tl k) (th k) p) (sp_X6_load_hi1 (tb k) (tl k) (th k) p) (nI p)).toInt64) hx hb dL_decimals_8 rfl ?_
  refine g_last (k := 0) (x := (sdR (sp_X6_load_b1 (tb k) (tl k) (th k) p) (sp_X6_load_lo1 (tb k) (tl k) (th k) p) (sp_X6_load_hi1 (tb k) (tl k) (th k) p) (nI p)).toInt64) hx hb hK.1 hP hD hS 0 1 rfl rfl (by omega) (by decide) dL_decimals_9 (fun H locs hP hD hS => ?_)
  have hP : va_P D vwCl (wXo oa (vp_updL of 0 ((sdR (sp_X6_load_b1 (tb k) (tl k) (th k) p) (sp_X6_load_lo1 (tb k) (tl k) (th k) p) (sp_X6_load_hi1 (tb k) (tl k) (th k) p) (nI p)).toInt64)) y ad h q n (gPg pa n) n b1_5 l1_5 r1_5 b2_5 l2_5 r2_5 b3_5 l3_5 r3_5 uz_5 ul_5 uh_5 f1_5 g1_5 f2_5 g2_5 pa kd on ot pt fb fl fh tb tl th dg ds) H := hP
  have hD : va_D A (wXo oa (vp_updL of 0 ((sdR (sp_X6_load_b1 (tb k) (tl k) (th k) p) (sp_X6_load_lo1 (tb k) (tl k) (th k) p) (sp_X6_load_hi1 (tb k) (tl k) (th k) p) (nI p)).toInt64)) y ad h q n (gPg pa n) n b1_5 l1_5 r1_5 b2_5 l2_5 r2_5 b3_5 l3_5 r3_5 uz_5 ul_5 uh_5 f1_5 g1_5 f2_5 g2_5 pa kd on ot pt fb fl fh tb tl th dg ds) := hD
  refine lv_goto (tgt := 21) hx hb dL_decimals_10 (by decide) ?_
  refine lv_iconst (v := 0) hx hb dL_decimals_21 (by decide) ?_
  have hP9 := hP
  have hD9 := hD
  exact W.iret (v := 0) hx hb hr (fun t ht hW => ⟨⟨some (.int (0)), wXo oa (vp_updL of 0 ((sdR (sp_X6_load_b1 (tb k) (tl k) (th k) p) (sp_X6_load_lo1 (tb k) (tl k) (th k) p) (sp_X6_load_hi1 (tb k) (tl k) (th k) p) (nI p)).toInt64)) y ad h q n (gPg pa n) n b1_5 l1_5 r1_5 b2_5 l2_5 r2_5 b3_5 l3_5 r3_5 uz_5 ul_5 uh_5 f1_5 g1_5 f2_5 g2_5 pa kd on ot pt fb fl fh tb tl th dg ds, rfl, ⟨b1_5, l1_5, r1_5, b2_5, l2_5, r2_5, b3_5, l3_5, r3_5, uz_5, ul_5, uh_5, f1_5, g1_5, f2_5, g2_5, rfl, rfl⟩, by rw [← hAe]; exact hD9, by rw [ht]; exact hP9⟩, by rw [← hAe]; exact hS.F ht⟩) (by rw [← hAe]; exact hS.2.2) dL_decimals_22
set_option maxHeartbeats 4000000 in
set_option maxRecDepth 100000 in
theorem c_L_decimal_X1 (l : Launch) (hfl : l.stackTraces = false) (D : va_G) (y : Nat → ClassId) (ad : Nat → Nat) (sz : Nat) (h : Nat) (q : Nat → Nat) (n : Nat) (b1 : Bool) (l1 r1 : Int64) (b2 : Bool) (l2 r2 : Int64) (b3 : Bool) (l3 r3 : Int64) (uz : Nat → Bool) (ul uh : Nat → Int64) (f1 g1 f2 g2 : Int64) (pa : Nat → Nat → Nat) (kd : Nat → Nat) (on ot : Nat → Int32) (pt : Nat → Int64) (fb : Nat → Nat → Bool) (fl fh : Nat → Nat → Int64) (tb : Nat → Nat → Bool) (tl th : Nat → Nat → Int64) (dg : Nat → Int32) (ds : Nat → Int64) (a b c0 : Int32) (oa : Nat) (of : Nat → Int64) (hbad : a < 0 ∨ nI n ≤ a) : Met l yL_decimal wsL_decimal ({ frames := 9, cells := 1, slots := 6, locals := 162 } : Room) (gPN D y ad [.ref h, .int a, .int b, .int c0, .ref oa] (wXo oa of y ad h q n (gPg pa n) n b1 l1 r1 b2 l2 r2 b3 l3 r3 uz ul uh f1 g1 f2 g2 pa kd on ot pt fb fl fh tb tl th dg ds) sz) (gQn D (wXo oa of y ad h q n (gPg pa n) n b1 l1 r1 b2 l2 r2 b3 l3 r3 uz ul uh f1 g1 f2 g2 pa kd on ot pt fb fl fh tb tl th dg ds) (fun v w => ∃ (yb1 : Bool) (yl1 : Int64) (yr1 : Int64) (yb2 : Bool) (yl2 : Int64) (yr2 : Int64) (yb3 : Bool) (yl3 : Int64) (yr3 : Int64) (yuz : Nat → Bool) (yul : Nat → Int64) (yuh : Nat → Int64) (yf1 : Int64) (yg1 : Int64) (yf2 : Int64) (yg2 : Int64), v = some (.int 1) ∧ w = (wXo oa of y ad h q n (gPg pa n) n yb1 yl1 yr1 yb2 yl2 yr2 yb3 yl3 yr3 yuz yul yuh yf1 yg1 yf2 yg2 pa kd on ot pt fb fl fh tb tl th dg ds))) 1 6 (va_A (wXo oa of y ad h q n (gPg pa n) n b1 l1 r1 b2 l2 r2 b3 l3 r3 uz ul uh f1 g1 f2 g2 pa kd on ot pt fb fl fh tb tl th dg ds) sz) := by
  refine gMet_ofWH (cc := cL_decimal) (maxL := 6) (ret := (some .int)) (hh := [(0, 12, 15, 20), (0, 12, 19, 13), (0, 12, 23, 15)]) (by decide) rfl ?_
  intro pg e s m args below meth c s₁ B hml hv
  obtain ⟨rfl, ⟨hsz, hP, hK, hD0, hE0⟩, hN⟩ := hv
  have hx := B.exec
  have hb := B.bytes
  have hr := B.returns
  have hts := atoms_spec (ws := wsL_decimal) B.pre
  have hown : s.vm.findClass RL = some m.cls := findClass_of_methodNamed B.named
  have htab : c.exceptionTable.toList = tableOf [(0, 12, 15, 20), (0, 12, 19, 13), (0, 12, 23, 15)] := vx_table (x := yL_decimal) B (hts _ List.mem_cons_self)
  have hlocks := B.notSynchronized
  subst hsz
  obtain ⟨A, hAe⟩ : ∃ A : Nat → Prop, A = va_A (wXo oa of y ad h q n (gPg pa n) n b1 l1 r1 b2 l2 r2 b3 l3 r3 uz ul uh f1 g1 f2 g2 pa kd on ot pt fb fl fh tb tl th dg ds) s.heap.size := ⟨_, rfl⟩
  have hE : gE ad A s s.heap := by rw [hAe]; exact hE0
  have hD : va_D A (wXo oa of y ad h q n (gPg pa n) n b1 l1 r1 b2 l2 r2 b3 l3 r3 uz ul uh f1 g1 f2 g2 pa kd on ot pt fb fl fh tb tl th dg ds) := by rw [hAe]; exact hD0.self (sz := s.heap.size)
  have hA : ∀ q : Nat, s.heap.size ≤ q → A q := fun q h => by rw [hAe]; exact Or.inr h
  have hS : va_S A s.heap s.heap [] := va_S.rf
  have hl := lv_entry ([.ref h, .int a, .int b, .int c0, .ref oa]) (n := 6) (Nat.le_of_ble_eq_true rfl)
  rw [lg_entry_eq]
  generalize (lg_sl ([.ref h, .int a, .int b, .int c0, .ref oa]) ++ List.replicate (6 - (lg_sl ([.ref h, .int a, .int b, .int c0, .ref oa])).length) Slot.unset).toArray = ls at hl ⊢
  have hl : lv_has ls 6 [(0, .ref h), (1, .int a), (2, .int b), (3, .int c0), (4, .ref oa)] := hl
  refine lv_aload hx hb dL_decimal_0 (lv_at hl 4 rfl) ?_
  refine lv_iconst (v := 0) hx hb dL_decimal_2 (by decide) ?_
  refine lv_aload_n hx hb dL_decimal_3 rfl (lv_at hl 0 rfl) ?_
  refine lv_iload_n hx hb dL_decimal_4 rfl (lv_at hl 1 rfl) ?_
  refine lv_iload_n hx hb dL_decimal_5 rfl (lv_at hl 2 rfl) ?_
  refine lv_iload_n hx hb dL_decimal_6 rfl (lv_at hl 3 rfl) ?_
  refine g_catch (name := gIOB) (ws := [(oa, .inl (y 1, 1, .inr (.inl of)))]) (vx_runV (As := [.int a, .int b, .int c0]) (rest := [.int 0, .ref oa]) ⟨hx, hb, hml, hown, hts⟩ (c_X7_decimal_X1 l hfl D y ad s.heap.size h q n b1 l1 r1 b2 l2 r2 b3 l3 r3 uz ul uh f1 g1 f2 g2 pa kd on ot pt fb fl fh tb tl th dg ds a b c0 hbad) (cwV 3 hts gL_decimal_X7_decimal rfl rfl rfl (by decide +kernel) ⟨Nat.le_of_ble_eq_true rfl, Nat.le_of_ble_eq_true rfl⟩) (gPX_VA (va_P_r (ws := [(oa, .inl (y 1, 1, .inr (.inl of)))]) hP) (va_D_r (ws := [(oa, .inl (y 1, 1, .inr (.inl of)))]) hD) hK hE hS hA 0 rfl rfl) rfl rfl hl.1 rfl (lv_room (Nat.le_of_ble_eq_true rfl)) dL_decimal_7 ⟨Nat.le_of_ble_eq_true rfl, Nat.le_of_ble_eq_true rfl⟩) hP hD hS hA hown [] ⟨0, 12, 15, 20⟩ [⟨0, 12, 19, 13⟩, ⟨0, 12, 23, 15⟩] (by rw [htab]; rfl) (fun z hz => absurd hz List.not_mem_nil) (by decide) (by decide) (hts (.classLink RL 20 "java/lang/IndexOutOfBoundsException") (List.mem_of_getElem? (i := 1) rfl)) (hE.cw (Cond.castable gIOB gIOB) (List.mem_of_getElem? (i := 5) rfl)) (fun q9 w1 H locs hf hP hD hS => ?_)
  obtain ⟨b1_7, l1_7, r1_7, b2_7, l2_7, r2_7, b3_7, l3_7, r3_7, uz_7, ul_7, uh_7, f1_7, g1_7, f2_7, g2_7, rfl⟩ := hf
  have hP : va_P D vwCl (wXo oa of y ad h q n (gPg pa n) n b1_7 l1_7 r1_7 b2_7 l2_7 r2_7 b3_7 l3_7 r3_7 uz_7 ul_7 uh_7 f1_7 g1_7 f2_7 g2_7 pa kd on ot pt fb fl fh tb tl th dg ds) H := hP
  have hD : va_D A (wXo oa of y ad h q n (gPg pa n) n b1_7 l1_7 r1_7 b2_7 l2_7 r2_7 b3_7 l3_7 r3_7 uz_7 ul_7 uh_7 f1_7 g1_7 f2_7 g2_7 pa kd on ot pt fb fl fh tb tl th dg ds) := hD
  refine lv_astore (lv' := [(5, .ref q9), (0, .ref h), (1, .int a), (2, .int b), (3, .int c0), (4, .ref oa)]) hx hb dL_decimal_15 hl (by decide) rfl (fun ls hl => ?_)
  refine lv_iconst (v := 1) hx hb dL_decimal_17 (by decide) ?_
  have hP9 := hP
  have hD9 := hD
  exact W.iret (v := 1) hx hb hr (fun t ht hW => ⟨⟨some (.int (1)), wXo oa of y ad h q n (gPg pa n) n b1_7 l1_7 r1_7 b2_7 l2_7 r2_7 b3_7 l3_7 r3_7 uz_7 ul_7 uh_7 f1_7 g1_7 f2_7 g2_7 pa kd on ot pt fb fl fh tb tl th dg ds, rfl, ⟨b1_7, l1_7, r1_7, b2_7, l2_7, r2_7, b3_7, l3_7, r3_7, uz_7, ul_7, uh_7, f1_7, g1_7, f2_7, g2_7, rfl, rfl⟩, by rw [← hAe]; exact hD9, by rw [ht]; exact hP9⟩, by rw [← hAe]; exact hS.F ht⟩) (by rw [← hAe]; exact hS.2.2) dL_decimal_18
set_option maxHeartbeats 4000000 in
set_option maxRecDepth 100000 in
theorem c_L_decimal_X2 (l : Launch) (hfl : l.stackTraces = false) (D : va_G) (y : Nat → ClassId) (ad : Nat → Nat) (sz : Nat) (h : Nat) (q : Nat → Nat) (n : Nat) (b1 : Bool) (l1 r1 : Int64) (b2 : Bool) (l2 r2 : Int64) (b3 : Bool) (l3 r3 : Int64) (uz : Nat → Bool) (ul uh : Nat → Int64) (f1 g1 f2 g2 : Int64) (pa : Nat → Nat → Nat) (kd : Nat → Nat) (on ot : Nat → Int32) (pt : Nat → Int64) (fb : Nat → Nat → Bool) (fl fh : Nat → Nat → Int64) (tb : Nat → Nat → Bool) (tl th : Nat → Nat → Int64) (dg : Nat → Int32) (ds : Nat → Int64) (k : Nat) (b c0 : Int32) (oa : Nat) (of : Nat → Int64) (hn : n ≤ 40) (hk : k < n) (hp : b < 0 ∨ ¬ b ≤ 24) : Met l yL_decimal wsL_decimal ({ frames := 9, cells := 1, slots := 6, locals := 162 } : Room) (gPN D y ad [.ref h, .int (nI k), .int b, .int c0, .ref oa] (wXo oa of y ad h q n (gPg pa n) n b1 l1 r1 b2 l2 r2 b3 l3 r3 uz ul uh f1 g1 f2 g2 pa kd on ot pt fb fl fh tb tl th dg ds) sz) (gQn D (wXo oa of y ad h q n (gPg pa n) n b1 l1 r1 b2 l2 r2 b3 l3 r3 uz ul uh f1 g1 f2 g2 pa kd on ot pt fb fl fh tb tl th dg ds) (fun v w => ∃ (yb1 : Bool) (yl1 : Int64) (yr1 : Int64) (yb2 : Bool) (yl2 : Int64) (yr2 : Int64) (yb3 : Bool) (yl3 : Int64) (yr3 : Int64) (yuz : Nat → Bool) (yul : Nat → Int64) (yuh : Nat → Int64) (yf1 : Int64) (yg1 : Int64) (yf2 : Int64) (yg2 : Int64), v = some (.int 2) ∧ w = (wXo oa of y ad h q n (gPg pa n) n yb1 yl1 yr1 yb2 yl2 yr2 yb3 yl3 yr3 yuz yul yuh yf1 yg1 yf2 yg2 pa kd on ot pt fb fl fh tb tl th dg ds))) 1 6 (va_A (wXo oa of y ad h q n (gPg pa n) n b1 l1 r1 b2 l2 r2 b3 l3 r3 uz ul uh f1 g1 f2 g2 pa kd on ot pt fb fl fh tb tl th dg ds) sz) := by
  refine gMet_ofWH (cc := cL_decimal) (maxL := 6) (ret := (some .int)) (hh := [(0, 12, 15, 20), (0, 12, 19, 13), (0, 12, 23, 15)]) (by decide) rfl ?_
  intro pg e s m args below meth c s₁ B hml hv
  obtain ⟨rfl, ⟨hsz, hP, hK, hD0, hE0⟩, hN⟩ := hv
  have hx := B.exec
  have hb := B.bytes
  have hr := B.returns
  have hts := atoms_spec (ws := wsL_decimal) B.pre
  have hown : s.vm.findClass RL = some m.cls := findClass_of_methodNamed B.named
  have htab : c.exceptionTable.toList = tableOf [(0, 12, 15, 20), (0, 12, 19, 13), (0, 12, 23, 15)] := vx_table (x := yL_decimal) B (hts _ List.mem_cons_self)
  have hlocks := B.notSynchronized
  subst hsz
  obtain ⟨A, hAe⟩ : ∃ A : Nat → Prop, A = va_A (wXo oa of y ad h q n (gPg pa n) n b1 l1 r1 b2 l2 r2 b3 l3 r3 uz ul uh f1 g1 f2 g2 pa kd on ot pt fb fl fh tb tl th dg ds) s.heap.size := ⟨_, rfl⟩
  have hE : gE ad A s s.heap := by rw [hAe]; exact hE0
  have hD : va_D A (wXo oa of y ad h q n (gPg pa n) n b1 l1 r1 b2 l2 r2 b3 l3 r3 uz ul uh f1 g1 f2 g2 pa kd on ot pt fb fl fh tb tl th dg ds) := by rw [hAe]; exact hD0.self (sz := s.heap.size)
  have hA : ∀ q : Nat, s.heap.size ≤ q → A q := fun q h => by rw [hAe]; exact Or.inr h
  have hS : va_S A s.heap s.heap [] := va_S.rf
  have hl := lv_entry ([.ref h, .int (nI k), .int b, .int c0, .ref oa]) (n := 6) (Nat.le_of_ble_eq_true rfl)
  rw [lg_entry_eq]
  generalize (lg_sl ([.ref h, .int (nI k), .int b, .int c0, .ref oa]) ++ List.replicate (6 - (lg_sl ([.ref h, .int (nI k), .int b, .int c0, .ref oa])).length) Slot.unset).toArray = ls at hl ⊢
  have hl : lv_has ls 6 [(0, .ref h), (1, .int (nI k)), (2, .int b), (3, .int c0), (4, .ref oa)] := hl
  refine lv_aload hx hb dL_decimal_0 (lv_at hl 4 rfl) ?_
  refine lv_iconst (v := 0) hx hb dL_decimal_2 (by decide) ?_
  refine lv_aload_n hx hb dL_decimal_3 rfl (lv_at hl 0 rfl) ?_
  refine lv_iload_n hx hb dL_decimal_4 rfl (lv_at hl 1 rfl) ?_
  refine lv_iload_n hx hb dL_decimal_5 rfl (lv_at hl 2 rfl) ?_
  refine lv_iload_n hx hb dL_decimal_6 rfl (lv_at hl 3 rfl) ?_
  refine g_catch (name := gIAE) (ws := [(oa, .inl (y 1, 1, .inr (.inl of)))]) (vx_runV (As := [.int (nI k), .int b, .int c0]) (rest := [.int 0, .ref oa]) ⟨hx, hb, hml, hown, hts⟩ (c_X7_decimal_X2 l hfl D y ad s.heap.size h q n b1 l1 r1 b2 l2 r2 b3 l3 r3 uz ul uh f1 g1 f2 g2 pa kd on ot pt fb fl fh tb tl th dg ds k b c0 hn hk hp) (cwV 3 hts gL_decimal_X7_decimal rfl rfl rfl (by decide +kernel) ⟨Nat.le_of_ble_eq_true rfl, Nat.le_of_ble_eq_true rfl⟩) (gPX_VA (va_P_r (ws := [(oa, .inl (y 1, 1, .inr (.inl of)))]) hP) (va_D_r (ws := [(oa, .inl (y 1, 1, .inr (.inl of)))]) hD) hK hE hS hA 0 rfl rfl) rfl rfl hl.1 rfl (lv_room (Nat.le_of_ble_eq_true rfl)) dL_decimal_7 ⟨Nat.le_of_ble_eq_true rfl, Nat.le_of_ble_eq_true rfl⟩) hP hD hS hA hown [⟨0, 12, 15, 20⟩] ⟨0, 12, 19, 13⟩ [⟨0, 12, 23, 15⟩] (by rw [htab]; rfl) (fun z hz => by rcases List.mem_singleton.mp hz with rfl; exact Or.inr ⟨by decide, _, (hts (.classLink RL 20 "java/lang/IndexOutOfBoundsException") (List.mem_of_getElem? (i := 1) rfl)), hN.1⟩) (by decide) (by decide) (hts (.classLink RL 13 "java/lang/IllegalArgumentException") (List.mem_of_getElem? (i := 2) rfl)) (hE.cw (Cond.castable gIAE gIAE) (List.mem_of_getElem? (i := 3) rfl)) (fun q9 w1 H locs hf hP hD hS => ?_)
  obtain ⟨b1_7, l1_7, r1_7, b2_7, l2_7, r2_7, b3_7, l3_7, r3_7, uz_7, ul_7, uh_7, f1_7, g1_7, f2_7, g2_7, rfl⟩ := hf
  have hP : va_P D vwCl (wXo oa of y ad h q n (gPg pa n) n b1_7 l1_7 r1_7 b2_7 l2_7 r2_7 b3_7 l3_7 r3_7 uz_7 ul_7 uh_7 f1_7 g1_7 f2_7 g2_7 pa kd on ot pt fb fl fh tb tl th dg ds) H := hP
  have hD : va_D A (wXo oa of y ad h q n (gPg pa n) n b1_7 l1_7 r1_7 b2_7 l2_7 r2_7 b3_7 l3_7 r3_7 uz_7 ul_7 uh_7 f1_7 g1_7 f2_7 g2_7 pa kd on ot pt fb fl fh tb tl th dg ds) := hD
  refine lv_astore (lv' := [(5, .ref q9), (0, .ref h), (1, .int (nI k)), (2, .int b), (3, .int c0), (4, .ref oa)]) hx hb dL_decimal_19 hl (by decide) rfl (fun ls hl => ?_)
  refine lv_iconst (v := 2) hx hb dL_decimal_21 (by decide) ?_
  have hP9 := hP
  have hD9 := hD
  exact W.iret (v := 2) hx hb hr (fun t ht hW => ⟨⟨some (.int (2)), wXo oa of y ad h q n (gPg pa n) n b1_7 l1_7 r1_7 b2_7 l2_7 r2_7 b3_7 l3_7 r3_7 uz_7 ul_7 uh_7 f1_7 g1_7 f2_7 g2_7 pa kd on ot pt fb fl fh tb tl th dg ds, rfl, ⟨b1_7, l1_7, r1_7, b2_7, l2_7, r2_7, b3_7, l3_7, r3_7, uz_7, ul_7, uh_7, f1_7, g1_7, f2_7, g2_7, rfl, rfl⟩, by rw [← hAe]; exact hD9, by rw [ht]; exact hP9⟩, by rw [← hAe]; exact hS.F ht⟩) (by rw [← hAe]; exact hS.2.2) dL_decimal_22
set_option maxHeartbeats 4000000 in
set_option maxRecDepth 100000 in
theorem c_L_decimal_X2b (l : Launch) (hfl : l.stackTraces = false) (D : va_G) (y : Nat → ClassId) (ad : Nat → Nat) (sz : Nat) (h : Nat) (q : Nat → Nat) (n : Nat) (b1 : Bool) (l1 r1 : Int64) (b2 : Bool) (l2 r2 : Int64) (b3 : Bool) (l3 r3 : Int64) (uz : Nat → Bool) (ul uh : Nat → Int64) (f1 g1 f2 g2 : Int64) (pa : Nat → Nat → Nat) (kd : Nat → Nat) (on ot : Nat → Int32) (pt : Nat → Int64) (fb : Nat → Nat → Bool) (fl fh : Nat → Nat → Int64) (tb : Nat → Nat → Bool) (tl th : Nat → Nat → Int64) (dg : Nat → Int32) (ds : Nat → Int64) (k p : Nat) (c0 : Int32) (oa : Nat) (of : Nat → Int64) (hn : n ≤ 40) (hk : k < n) (hp : p < 25) (hd : c0 < 0 ∨ ¬ c0 ≤ 7) : Met l yL_decimal wsL_decimal ({ frames := 8, cells := 1, slots := 6, locals := 139 } : Room) (gPN D y ad [.ref h, .int (nI k), .int (nI p), .int c0, .ref oa] (wXo oa of y ad h q n (gPg pa n) n b1 l1 r1 b2 l2 r2 b3 l3 r3 uz ul uh f1 g1 f2 g2 pa kd on ot pt fb fl fh tb tl th dg ds) sz) (gQn D (wXo oa of y ad h q n (gPg pa n) n b1 l1 r1 b2 l2 r2 b3 l3 r3 uz ul uh f1 g1 f2 g2 pa kd on ot pt fb fl fh tb tl th dg ds) (fun v w => ∃ (yb1 : Bool) (yl1 : Int64) (yr1 : Int64) (yb2 : Bool) (yl2 : Int64) (yr2 : Int64) (yb3 : Bool) (yl3 : Int64) (yr3 : Int64) (yuz : Nat → Bool) (yul : Nat → Int64) (yuh : Nat → Int64) (yf1 : Int64) (yg1 : Int64) (yf2 : Int64) (yg2 : Int64), v = some (.int 2) ∧ w = (wXo oa of y ad h q n (gPg pa n) n yb1 yl1 yr1 yb2 yl2 yr2 yb3 yl3 yr3 yuz yul yuh yf1 yg1 yf2 yg2 pa kd on ot pt fb fl fh tb tl th dg ds))) 1 6 (va_A (wXo oa of y ad h q n (gPg pa n) n b1 l1 r1 b2 l2 r2 b3 l3 r3 uz ul uh f1 g1 f2 g2 pa kd on ot pt fb fl fh tb tl th dg ds) sz) := by
  refine gMet_ofWH (cc := cL_decimal) (maxL := 6) (ret := (some .int)) (hh := [(0, 12, 15, 20), (0, 12, 19, 13), (0, 12, 23, 15)]) (by decide) rfl ?_
  intro pg e s m args below meth c s₁ B hml hv
  obtain ⟨rfl, ⟨hsz, hP, hK, hD0, hE0⟩, hN⟩ := hv
  have hx := B.exec
  have hb := B.bytes
  have hr := B.returns
  have hts := atoms_spec (ws := wsL_decimal) B.pre
  have hown : s.vm.findClass RL = some m.cls := findClass_of_methodNamed B.named
  have htab : c.exceptionTable.toList = tableOf [(0, 12, 15, 20), (0, 12, 19, 13), (0, 12, 23, 15)] := vx_table (x := yL_decimal) B (hts _ List.mem_cons_self)
  have hlocks := B.notSynchronized
  subst hsz
  obtain ⟨A, hAe⟩ : ∃ A : Nat → Prop, A = va_A (wXo oa of y ad h q n (gPg pa n) n b1 l1 r1 b2 l2 r2 b3 l3 r3 uz ul uh f1 g1 f2 g2 pa kd on ot pt fb fl fh tb tl th dg ds) s.heap.size := ⟨_, rfl⟩
  have hE : gE ad A s s.heap := by rw [hAe]; exact hE0
  have hD : va_D A (wXo oa of y ad h q n (gPg pa n) n b1 l1 r1 b2 l2 r2 b3 l3 r3 uz ul uh f1 g1 f2 g2 pa kd on ot pt fb fl fh tb tl th dg ds) := by rw [hAe]; exact hD0.self (sz := s.heap.size)
  have hA : ∀ q : Nat, s.heap.size ≤ q → A q := fun q h => by rw [hAe]; exact Or.inr h
  have hS : va_S A s.heap s.heap [] := va_S.rf
  have hl := lv_entry ([.ref h, .int (nI k), .int (nI p), .int c0, .ref oa]) (n := 6) (Nat.le_of_ble_eq_true rfl)
  rw [lg_entry_eq]
  generalize (lg_sl ([.ref h, .int (nI k), .int (nI p), .int c0, .ref oa]) ++ List.replicate (6 - (lg_sl ([.ref h, .int (nI k), .int (nI p), .int c0, .ref oa])).length) Slot.unset).toArray = ls at hl ⊢
  have hl : lv_has ls 6 [(0, .ref h), (1, .int (nI k)), (2, .int (nI p)), (3, .int c0), (4, .ref oa)] := hl
  refine lv_aload hx hb dL_decimal_0 (lv_at hl 4 rfl) ?_
  refine lv_iconst (v := 0) hx hb dL_decimal_2 (by decide) ?_
  refine lv_aload_n hx hb dL_decimal_3 rfl (lv_at hl 0 rfl) ?_
  refine lv_iload_n hx hb dL_decimal_4 rfl (lv_at hl 1 rfl) ?_
  refine lv_iload_n hx hb dL_decimal_5 rfl (lv_at hl 2 rfl) ?_
  refine lv_iload_n hx hb dL_decimal_6 rfl (lv_at hl 3 rfl) ?_
  refine g_catch (name := gIAE) (ws := [(oa, .inl (y 1, 1, .inr (.inl of)))]) (vx_runV (As := [.int (nI k), .int (nI p), .int c0]) (rest := [.int 0, .ref oa]) ⟨hx, hb, hml, hown, hts⟩ (c_X7_decimal_X2b l hfl D y ad s.heap.size h q n b1 l1 r1 b2 l2 r2 b3 l3 r3 uz ul uh f1 g1 f2 g2 pa kd on ot pt fb fl fh tb tl th dg ds k p c0 hn hk hp hd) (cwV 3 hts gL_decimal_X7_decimal rfl rfl rfl (by decide +kernel) ⟨Nat.le_of_ble_eq_true rfl, Nat.le_of_ble_eq_true rfl⟩) (gPX_VA (va_P_r (ws := [(oa, .inl (y 1, 1, .inr (.inl of)))]) hP) (va_D_r (ws := [(oa, .inl (y 1, 1, .inr (.inl of)))]) hD) hK hE hS hA 0 rfl rfl) rfl rfl hl.1 rfl (lv_room (Nat.le_of_ble_eq_true rfl)) dL_decimal_7 ⟨Nat.le_of_ble_eq_true rfl, Nat.le_of_ble_eq_true rfl⟩) hP hD hS hA hown [⟨0, 12, 15, 20⟩] ⟨0, 12, 19, 13⟩ [⟨0, 12, 23, 15⟩] (by rw [htab]; rfl) (fun z hz => by rcases List.mem_singleton.mp hz with rfl; exact Or.inr ⟨by decide, _, (hts (.classLink RL 20 "java/lang/IndexOutOfBoundsException") (List.mem_of_getElem? (i := 1) rfl)), hN.1⟩) (by decide) (by decide) (hts (.classLink RL 13 "java/lang/IllegalArgumentException") (List.mem_of_getElem? (i := 2) rfl)) (hE.cw (Cond.castable gIAE gIAE) (List.mem_of_getElem? (i := 3) rfl)) (fun q9 w1 H locs hf hP hD hS => ?_)
  obtain ⟨b1_7, l1_7, r1_7, b2_7, l2_7, r2_7, b3_7, l3_7, r3_7, uz_7, ul_7, uh_7, f1_7, g1_7, f2_7, g2_7, rfl⟩ := hf
  have hP : va_P D vwCl (wXo oa of y ad h q n (gPg pa n) n b1_7 l1_7 r1_7 b2_7 l2_7 r2_7 b3_7 l3_7 r3_7 uz_7 ul_7 uh_7 f1_7 g1_7 f2_7 g2_7 pa kd on ot pt fb fl fh tb tl th dg ds) H := hP
  have hD : va_D A (wXo oa of y ad h q n (gPg pa n) n b1_7 l1_7 r1_7 b2_7 l2_7 r2_7 b3_7 l3_7 r3_7 uz_7 ul_7 uh_7 f1_7 g1_7 f2_7 g2_7 pa kd on ot pt fb fl fh tb tl th dg ds) := hD
  refine lv_astore (lv' := [(5, .ref q9), (0, .ref h), (1, .int (nI k)), (2, .int (nI p)), (3, .int c0), (4, .ref oa)]) hx hb dL_decimal_19 hl (by decide) rfl (fun ls hl => ?_)
  refine lv_iconst (v := 2) hx hb dL_decimal_21 (by decide) ?_
  have hP9 := hP
  have hD9 := hD
  exact W.iret (v := 2) hx hb hr (fun t ht hW => ⟨⟨some (.int (2)), wXo oa of y ad h q n (gPg pa n) n b1_7 l1_7 r1_7 b2_7 l2_7 r2_7 b3_7 l3_7 r3_7 uz_7 ul_7 uh_7 f1_7 g1_7 f2_7 g2_7 pa kd on ot pt fb fl fh tb tl th dg ds, rfl, ⟨b1_7, l1_7, r1_7, b2_7, l2_7, r2_7, b3_7, l3_7, r3_7, uz_7, ul_7, uh_7, f1_7, g1_7, f2_7, g2_7, rfl, rfl⟩, by rw [← hAe]; exact hD9, by rw [ht]; exact hP9⟩, by rw [← hAe]; exact hS.F ht⟩) (by rw [← hAe]; exact hS.2.2) dL_decimal_22
set_option maxHeartbeats 4000000 in
set_option maxRecDepth 100000 in
theorem c_L_decimal_X3 (l : Launch) (hfl : l.stackTraces = false) (D : va_G) (y : Nat → ClassId) (ad : Nat → Nat) (sz : Nat) (h : Nat) (q : Nat → Nat) (n : Nat) (b1 : Bool) (l1 r1 : Int64) (b2 : Bool) (l2 r2 : Int64) (b3 : Bool) (l3 r3 : Int64) (uz : Nat → Bool) (ul uh : Nat → Int64) (f1 g1 f2 g2 : Int64) (pa : Nat → Nat → Nat) (kd : Nat → Nat) (on ot : Nat → Int32) (pt : Nat → Int64) (fb : Nat → Nat → Bool) (fl fh : Nat → Nat → Int64) (tb : Nat → Nat → Bool) (tl th : Nat → Nat → Int64) (dg : Nat → Int32) (ds : Nat → Int64) (k p d : Nat) (oa : Nat) (of : Nat → Int64) (hn : n ≤ 40) (hk : k < n) (hp : p < 25) (hd : d < 8) (hs : ¬ nI d ≤ sdR (sp_X6_load_b1 (tb k) (tl k) (th k) p) (sp_X6_load_lo1 (tb k) (tl k) (th k) p) (sp_X6_load_hi1 (tb k) (tl k) (th k) p) (nI p)) : Met l yL_decimal wsL_decimal ({ frames := 7, cells := 1, slots := 6, locals := 121 } : Room) (gPN D y ad [.ref h, .int (nI k), .int (nI p), .int (nI d), .ref oa] (wXo oa of y ad h q n (gPg pa n) n b1 l1 r1 b2 l2 r2 b3 l3 r3 uz ul uh f1 g1 f2 g2 pa kd on ot pt fb fl fh tb tl th dg ds) sz) (gQn D (wXo oa of y ad h q n (gPg pa n) n b1 l1 r1 b2 l2 r2 b3 l3 r3 uz ul uh f1 g1 f2 g2 pa kd on ot pt fb fl fh tb tl th dg ds) (fun v w => ∃ (yb1 : Bool) (yl1 : Int64) (yr1 : Int64) (yb2 : Bool) (yl2 : Int64) (yr2 : Int64) (yb3 : Bool) (yl3 : Int64) (yr3 : Int64) (yuz : Nat → Bool) (yul : Nat → Int64) (yuh : Nat → Int64) (yf1 : Int64) (yg1 : Int64) (yf2 : Int64) (yg2 : Int64), v = some (.int 3) ∧ w = (wXo oa of y ad h q n (gPg pa n) n yb1 yl1 yr1 yb2 yl2 yr2 yb3 yl3 yr3 yuz yul yuh yf1 yg1 yf2 yg2 pa kd on ot pt fb fl fh tb tl th dg ds))) 1 6 (va_A (wXo oa of y ad h q n (gPg pa n) n b1 l1 r1 b2 l2 r2 b3 l3 r3 uz ul uh f1 g1 f2 g2 pa kd on ot pt fb fl fh tb tl th dg ds) sz) := by
  refine gMet_ofWH (cc := cL_decimal) (maxL := 6) (ret := (some .int)) (hh := [(0, 12, 15, 20), (0, 12, 19, 13), (0, 12, 23, 15)]) (by decide) rfl ?_
  intro pg e s m args below meth c s₁ B hml hv
  obtain ⟨rfl, ⟨hsz, hP, hK, hD0, hE0⟩, hN⟩ := hv
  have hx := B.exec
  have hb := B.bytes
  have hr := B.returns
  have hts := atoms_spec (ws := wsL_decimal) B.pre
  have hown : s.vm.findClass RL = some m.cls := findClass_of_methodNamed B.named
  have htab : c.exceptionTable.toList = tableOf [(0, 12, 15, 20), (0, 12, 19, 13), (0, 12, 23, 15)] := vx_table (x := yL_decimal) B (hts _ List.mem_cons_self)
  have hlocks := B.notSynchronized
  subst hsz
  obtain ⟨A, hAe⟩ : ∃ A : Nat → Prop, A = va_A (wXo oa of y ad h q n (gPg pa n) n b1 l1 r1 b2 l2 r2 b3 l3 r3 uz ul uh f1 g1 f2 g2 pa kd on ot pt fb fl fh tb tl th dg ds) s.heap.size := ⟨_, rfl⟩
  have hE : gE ad A s s.heap := by rw [hAe]; exact hE0
  have hD : va_D A (wXo oa of y ad h q n (gPg pa n) n b1 l1 r1 b2 l2 r2 b3 l3 r3 uz ul uh f1 g1 f2 g2 pa kd on ot pt fb fl fh tb tl th dg ds) := by rw [hAe]; exact hD0.self (sz := s.heap.size)
  have hA : ∀ q : Nat, s.heap.size ≤ q → A q := fun q h => by rw [hAe]; exact Or.inr h
  have hS : va_S A s.heap s.heap [] := va_S.rf
  have hl := lv_entry ([.ref h, .int (nI k), .int (nI p), .int (nI d), .ref oa]) (n := 6) (Nat.le_of_ble_eq_true rfl)
  rw [lg_entry_eq]
  generalize (lg_sl ([.ref h, .int (nI k), .int (nI p), .int (nI d), .ref oa]) ++ List.replicate (6 - (lg_sl ([.ref h, .int (nI k), .int (nI p), .int (nI d), .ref oa])).length) Slot.unset).toArray = ls at hl ⊢
  have hl : lv_has ls 6 [(0, .ref h), (1, .int (nI k)), (2, .int (nI p)), (3, .int (nI d)), (4, .ref oa)] := hl
  refine lv_aload hx hb dL_decimal_0 (lv_at hl 4 rfl) ?_
  refine lv_iconst (v := 0) hx hb dL_decimal_2 (by decide) ?_
  refine lv_aload_n hx hb dL_decimal_3 rfl (lv_at hl 0 rfl) ?_
  refine lv_iload_n hx hb dL_decimal_4 rfl (lv_at hl 1 rfl) ?_
  refine lv_iload_n hx hb dL_decimal_5 rfl (lv_at hl 2 rfl) ?_
  refine lv_iload_n hx hb dL_decimal_6 rfl (lv_at hl 3 rfl) ?_
  refine g_catch (name := gISE) (ws := [(oa, .inl (y 1, 1, .inr (.inl of)))]) (vx_runV (As := [.int (nI k), .int (nI p), .int (nI d)]) (rest := [.int 0, .ref oa]) ⟨hx, hb, hml, hown, hts⟩ (c_X7_decimal_X3 l hfl D y ad s.heap.size h q n b1 l1 r1 b2 l2 r2 b3 l3 r3 uz ul uh f1 g1 f2 g2 pa kd on ot pt fb fl fh tb tl th dg ds k p d hn hk hp hd hs) (cwV 3 hts gL_decimal_X7_decimal rfl rfl rfl (by decide +kernel) ⟨Nat.le_of_ble_eq_true rfl, Nat.le_of_ble_eq_true rfl⟩) (gPX_VA (va_P_r (ws := [(oa, .inl (y 1, 1, .inr (.inl of)))]) hP) (va_D_r (ws := [(oa, .inl (y 1, 1, .inr (.inl of)))]) hD) hK hE hS hA 0 rfl rfl) rfl rfl hl.1 rfl (lv_room (Nat.le_of_ble_eq_true rfl)) dL_decimal_7 ⟨Nat.le_of_ble_eq_true rfl, Nat.le_of_ble_eq_true rfl⟩) hP hD hS hA hown [⟨0, 12, 15, 20⟩, ⟨0, 12, 19, 13⟩] ⟨0, 12, 23, 15⟩ [] (by rw [htab]; rfl) (fun z hz => by rcases List.mem_cons.mp hz with rfl | hz; exact Or.inr ⟨by decide, _, (hts (.classLink RL 20 "java/lang/IndexOutOfBoundsException") (List.mem_of_getElem? (i := 1) rfl)), hN.2.1⟩; rcases List.mem_singleton.mp hz with rfl; exact Or.inr ⟨by decide, _, (hts (.classLink RL 13 "java/lang/IllegalArgumentException") (List.mem_of_getElem? (i := 2) rfl)), hN.2.2⟩) (by decide) (by decide) (hts (.classLink RL 15 "java/lang/IllegalStateException") (List.mem_of_getElem? (i := 3) rfl)) (hE.cw (Cond.castable gISE gISE) (List.mem_of_getElem? (i := 4) rfl)) (fun q9 w1 H locs hf hP hD hS => ?_)
  obtain ⟨b1_7, l1_7, r1_7, b2_7, l2_7, r2_7, b3_7, l3_7, r3_7, uz_7, ul_7, uh_7, f1_7, g1_7, f2_7, g2_7, rfl⟩ := hf
  have hP : va_P D vwCl (wXo oa of y ad h q n (gPg pa n) n b1_7 l1_7 r1_7 b2_7 l2_7 r2_7 b3_7 l3_7 r3_7 uz_7 ul_7 uh_7 f1_7 g1_7 f2_7 g2_7 pa kd on ot pt fb fl fh tb tl th dg ds) H := hP
  have hD : va_D A (wXo oa of y ad h q n (gPg pa n) n b1_7 l1_7 r1_7 b2_7 l2_7 r2_7 b3_7 l3_7 r3_7 uz_7 ul_7 uh_7 f1_7 g1_7 f2_7 g2_7 pa kd on ot pt fb fl fh tb tl th dg ds) := hD
  refine lv_astore (lv' := [(5, .ref q9), (0, .ref h), (1, .int (nI k)), (2, .int (nI p)), (3, .int (nI d)), (4, .ref oa)]) hx hb dL_decimal_23 hl (by decide) rfl (fun ls hl => ?_)
  refine lv_iconst (v := 3) hx hb dL_decimal_25 (by decide) ?_
  have hP9 := hP
  have hD9 := hD
  exact W.iret (v := 3) hx hb hr (fun t ht hW => ⟨⟨some (.int (3)), wXo oa of y ad h q n (gPg pa n) n b1_7 l1_7 r1_7 b2_7 l2_7 r2_7 b3_7 l3_7 r3_7 uz_7 ul_7 uh_7 f1_7 g1_7 f2_7 g2_7 pa kd on ot pt fb fl fh tb tl th dg ds, rfl, ⟨b1_7, l1_7, r1_7, b2_7, l2_7, r2_7, b3_7, l3_7, r3_7, uz_7, ul_7, uh_7, f1_7, g1_7, f2_7, g2_7, rfl, rfl⟩, by rw [← hAe]; exact hD9, by rw [ht]; exact hP9⟩, by rw [← hAe]; exact hS.F ht⟩) (by rw [← hAe]; exact hS.2.2) dL_decimal_26
set_option maxHeartbeats 4000000 in
set_option maxRecDepth 100000 in
theorem c_L_decimal_0 (l : Launch) (hfl : l.stackTraces = false) (D : va_G) (y : Nat → ClassId) (ad : Nat → Nat) (sz : Nat) (h : Nat) (q : Nat → Nat) (n : Nat) (b1 : Bool) (l1 r1 : Int64) (b2 : Bool) (l2 r2 : Int64) (b3 : Bool) (l3 r3 : Int64) (uz : Nat → Bool) (ul uh : Nat → Int64) (f1 g1 f2 g2 : Int64) (pa : Nat → Nat → Nat) (kd : Nat → Nat) (on ot : Nat → Int32) (pt : Nat → Int64) (fb : Nat → Nat → Bool) (fl fh : Nat → Nat → Int64) (tb : Nat → Nat → Bool) (tl th : Nat → Nat → Int64) (dg : Nat → Int32) (ds : Nat → Int64) (k p d : Nat) (oa : Nat) (of : Nat → Int64) (hn : n ≤ 40) (hk : k < n) (hp : p < 25) (hd : d < 8) (hs : nI d ≤ sdR (sp_X6_load_b1 (tb k) (tl k) (th k) p) (sp_X6_load_lo1 (tb k) (tl k) (th k) p) (sp_X6_load_hi1 (tb k) (tl k) (th k) p) (nI p)) : Met l yL_decimal wsL_decimal ({ frames := 5, cells := 0, slots := 0, locals := 121 } : Room) (gPN D y ad [.ref h, .int (nI k), .int (nI p), .int (nI d), .ref oa] (wXo oa of y ad h q n (gPg pa n) n b1 l1 r1 b2 l2 r2 b3 l3 r3 uz ul uh f1 g1 f2 g2 pa kd on ot pt fb fl fh tb tl th dg ds) sz) (gQn D (wXo oa of y ad h q n (gPg pa n) n b1 l1 r1 b2 l2 r2 b3 l3 r3 uz ul uh f1 g1 f2 g2 pa kd on ot pt fb fl fh tb tl th dg ds) (fun v w => ∃ (yb1 : Bool) (yl1 : Int64) (yr1 : Int64) (yb2 : Bool) (yl2 : Int64) (yr2 : Int64) (yb3 : Bool) (yl3 : Int64) (yr3 : Int64) (yuz : Nat → Bool) (yul : Nat → Int64) (yuh : Nat → Int64) (yf1 : Int64) (yg1 : Int64) (yf2 : Int64) (yg2 : Int64), v = some (.int 0) ∧ w = (wXo oa (vp_updL of 0 ((dvX (sp_X7_cut ((sp_X6_load_lo1 (tb k) (tl k) (th k) p) * tenF d 1) (sp_X7_unitsAt (nI p))) d).toInt64)) y ad h q n (gPg pa n) n yb1 yl1 yr1 yb2 yl2 yr2 yb3 yl3 yr3 yuz yul yuh yf1 yg1 yf2 yg2 pa kd on ot pt fb fl fh tb tl th dg ds))) 0 0 (va_A (wXo oa of y ad h q n (gPg pa n) n b1 l1 r1 b2 l2 r2 b3 l3 r3 uz ul uh f1 g1 f2 g2 pa kd on ot pt fb fl fh tb tl th dg ds) sz) := by
  refine gMet_ofWH (cc := cL_decimal) (maxL := 6) (ret := (some .int)) (hh := [(0, 12, 15, 20), (0, 12, 19, 13), (0, 12, 23, 15)]) (by decide) rfl ?_
  intro pg e s m args below meth c s₁ B hml hv
  obtain ⟨rfl, ⟨hsz, hP, hK, hD0, hE0⟩, hN⟩ := hv
  have hx := B.exec
  have hb := B.bytes
  have hr := B.returns
  have hts := atoms_spec (ws := wsL_decimal) B.pre
  have hown : s.vm.findClass RL = some m.cls := findClass_of_methodNamed B.named
  have htab : c.exceptionTable.toList = tableOf [(0, 12, 15, 20), (0, 12, 19, 13), (0, 12, 23, 15)] := vx_table (x := yL_decimal) B (hts _ List.mem_cons_self)
  have hlocks := B.notSynchronized
  subst hsz
  obtain ⟨A, hAe⟩ : ∃ A : Nat → Prop, A = va_A (wXo oa of y ad h q n (gPg pa n) n b1 l1 r1 b2 l2 r2 b3 l3 r3 uz ul uh f1 g1 f2 g2 pa kd on ot pt fb fl fh tb tl th dg ds) s.heap.size := ⟨_, rfl⟩
  have hE : gE ad A s s.heap := by rw [hAe]; exact hE0
  have hD : va_D A (wXo oa of y ad h q n (gPg pa n) n b1 l1 r1 b2 l2 r2 b3 l3 r3 uz ul uh f1 g1 f2 g2 pa kd on ot pt fb fl fh tb tl th dg ds) := by rw [hAe]; exact hD0.self (sz := s.heap.size)
  have hA : ∀ q : Nat, s.heap.size ≤ q → A q := fun q h => by rw [hAe]; exact Or.inr h
  have hS : va_S A s.heap s.heap [] := va_S.rf
  have hl := lv_entry ([.ref h, .int (nI k), .int (nI p), .int (nI d), .ref oa]) (n := 6) (Nat.le_of_ble_eq_true rfl)
  rw [lg_entry_eq]
  generalize (lg_sl ([.ref h, .int (nI k), .int (nI p), .int (nI d), .ref oa]) ++ List.replicate (6 - (lg_sl ([.ref h, .int (nI k), .int (nI p), .int (nI d), .ref oa])).length) Slot.unset).toArray = ls at hl ⊢
  have hl : lv_has ls 6 [(0, .ref h), (1, .int (nI k)), (2, .int (nI p)), (3, .int (nI d)), (4, .ref oa)] := hl
  refine lv_aload hx hb dL_decimal_0 (lv_at hl 4 rfl) ?_
  refine lv_iconst (v := 0) hx hb dL_decimal_2 (by decide) ?_
  refine lv_aload_n hx hb dL_decimal_3 rfl (lv_at hl 0 rfl) ?_
  refine lv_iload_n hx hb dL_decimal_4 rfl (lv_at hl 1 rfl) ?_
  refine lv_iload_n hx hb dL_decimal_5 rfl (lv_at hl 2 rfl) ?_
  refine lv_iload_n hx hb dL_decimal_6 rfl (lv_at hl 3 rfl) ?_
  refine g_callAr (ws := [(oa, .inl (y 1, 1, .inr (.inl of)))]) (va_runV (As := [.int (nI k), .int (nI p), .int (nI d)]) (rest := [.int 0, .ref oa]) ⟨hx, hb, hml, hown, hts⟩ (c_X7_decimal_0 l hfl D y ad s.heap.size h q n b1 l1 r1 b2 l2 r2 b3 l3 r3 uz ul uh f1 g1 f2 g2 pa kd on ot pt fb fl fh tb tl th dg ds k p d hn hk hp hd hs) (cwV 3 hts gL_decimal_X7_decimal rfl rfl rfl (by decide +kernel) ⟨Nat.le_of_ble_eq_true rfl, Nat.le_of_ble_eq_true rfl⟩) (gPX_VA (va_P_r (ws := [(oa, .inl (y 1, 1, .inr (.inl of)))]) hP) (va_D_r (ws := [(oa, .inl (y 1, 1, .inr (.inl of)))]) hD) hK hE hS hA 0 rfl rfl) rfl rfl hl.1 rfl (lv_room (Nat.le_of_ble_eq_true rfl)) dL_decimal_7 ⟨Nat.le_of_ble_eq_true rfl, Nat.le_of_ble_eq_true rfl⟩) hP hD hS hA (fun v w1 H locs hf hP hD hS => ?_)
  obtain ⟨rfl, b1_7, l1_7, r1_7, b2_7, l2_7, r2_7, b3_7, l3_7, r3_7, uz_7, ul_7, uh_7, f1_7, g1_7, f2_7, g2_7, rfl⟩ := hf
  have hP : va_P D vwCl (wXo oa of y ad h q n (gPg pa n) n b1_7 l1_7 r1_7 b2_7 l2_7 r2_7 b3_7 l3_7 r3_7 uz_7 ul_7 uh_7 f1_7 g1_7 f2_7 g2_7 pa kd on ot pt fb fl fh tb tl th dg ds) H := hP
  have hD : va_D A (wXo oa of y ad h q n (gPg pa n) n b1_7 l1_7 r1_7 b2_7 l2_7 r2_7 b3_7 l3_7 r3_7 uz_7 ul_7 uh_7 f1_7 g1_7 f2_7 g2_7 pa kd on ot pt fb fl fh tb tl th dg ds) := hD
  refine lv_i2l (v := (dvX (sp_X7_cut ((sp_X6_load_lo1 (tb k) (tl k) (th k) p) * tenF d 1) (sp_X7_unitsAt (nI p))) d).toInt64) hx hb dL_decimal_10 rfl ?_
  refine g_last (k := 0) (x := (dvX (sp_X7_cut ((sp_X6_load_lo1 (tb k) (tl k) (th k) p) * tenF d 1) (sp_X7_unitsAt (nI p))) d).toInt64) hx hb hK.1 hP hD hS 0 1 rfl rfl (by omega) (by decide) dL_decimal_11 (fun H locs hP hD hS => ?_)
  have hP : va_P D vwCl (wXo oa (vp_updL of 0 ((dvX (sp_X7_cut ((sp_X6_load_lo1 (tb k) (tl k) (th k) p) * tenF d 1) (sp_X7_unitsAt (nI p))) d).toInt64)) y ad h q n (gPg pa n) n b1_7 l1_7 r1_7 b2_7 l2_7 r2_7 b3_7 l3_7 r3_7 uz_7 ul_7 uh_7 f1_7 g1_7 f2_7 g2_7 pa kd on ot pt fb fl fh tb tl th dg ds) H := hP
  have hD : va_D A (wXo oa (vp_updL of 0 ((dvX (sp_X7_cut ((sp_X6_load_lo1 (tb k) (tl k) (th k) p) * tenF d 1) (sp_X7_unitsAt (nI p))) d).toInt64)) y ad h q n (gPg pa n) n b1_7 l1_7 r1_7 b2_7 l2_7 r2_7 b3_7 l3_7 r3_7 uz_7 ul_7 uh_7 f1_7 g1_7 f2_7 g2_7 pa kd on ot pt fb fl fh tb tl th dg ds) := hD
  refine lv_goto (tgt := 27) hx hb dL_decimal_12 (by decide) ?_
  refine lv_iconst (v := 0) hx hb dL_decimal_27 (by decide) ?_
  have hP9 := hP
  have hD9 := hD
  exact W.iret (v := 0) hx hb hr (fun t ht hW => ⟨⟨some (.int (0)), wXo oa (vp_updL of 0 ((dvX (sp_X7_cut ((sp_X6_load_lo1 (tb k) (tl k) (th k) p) * tenF d 1) (sp_X7_unitsAt (nI p))) d).toInt64)) y ad h q n (gPg pa n) n b1_7 l1_7 r1_7 b2_7 l2_7 r2_7 b3_7 l3_7 r3_7 uz_7 ul_7 uh_7 f1_7 g1_7 f2_7 g2_7 pa kd on ot pt fb fl fh tb tl th dg ds, rfl, ⟨b1_7, l1_7, r1_7, b2_7, l2_7, r2_7, b3_7, l3_7, r3_7, uz_7, ul_7, uh_7, f1_7, g1_7, f2_7, g2_7, rfl, rfl⟩, by rw [← hAe]; exact hD9, by rw [ht]; exact hP9⟩, by rw [← hAe]; exact hS.F ht⟩) (by rw [← hAe]; exact hS.2.2) dL_decimal_28
set_option maxHeartbeats 4000000 in
set_option maxRecDepth 100000 in
theorem c_L_quotient_X1 (l : Launch) (hfl : l.stackTraces = false) (D : va_G) (y : Nat → ClassId) (ad : Nat → Nat) (sz : Nat) (h : Nat) (q : Nat → Nat) (n : Nat) (b1 : Bool) (l1 r1 : Int64) (b2 : Bool) (l2 r2 : Int64) (b3 : Bool) (l3 r3 : Int64) (uz : Nat → Bool) (ul uh : Nat → Int64) (f1 g1 f2 g2 : Int64) (pa : Nat → Nat → Nat) (kd : Nat → Nat) (on ot : Nat → Int32) (pt : Nat → Int64) (fb : Nat → Nat → Bool) (fl fh : Nat → Nat → Int64) (tb : Nat → Nat → Bool) (tl th : Nat → Nat → Int64) (dg : Nat → Int32) (ds : Nat → Int64) (a b c0 : Int32) (oa : Nat) (of : Nat → Int64) (hbad : a < 0 ∨ nI n ≤ a) : Met l yL_quotient wsL_quotient ({ frames := 9, cells := 1, slots := 6, locals := 161 } : Room) (gPN D y ad [.ref h, .int a, .int b, .int c0, .ref oa] (wXo oa of y ad h q n (gPg pa n) n b1 l1 r1 b2 l2 r2 b3 l3 r3 uz ul uh f1 g1 f2 g2 pa kd on ot pt fb fl fh tb tl th dg ds) sz) (gQn D (wXo oa of y ad h q n (gPg pa n) n b1 l1 r1 b2 l2 r2 b3 l3 r3 uz ul uh f1 g1 f2 g2 pa kd on ot pt fb fl fh tb tl th dg ds) (fun v w => ∃ (yb1 : Bool) (yl1 : Int64) (yr1 : Int64) (yb2 : Bool) (yl2 : Int64) (yr2 : Int64) (yb3 : Bool) (yl3 : Int64) (yr3 : Int64) (yuz : Nat → Bool) (yul : Nat → Int64) (yuh : Nat → Int64) (yf1 : Int64) (yg1 : Int64) (yf2 : Int64) (yg2 : Int64), v = some (.int 1) ∧ w = (wXo oa of y ad h q n (gPg pa n) n yb1 yl1 yr1 yb2 yl2 yr2 yb3 yl3 yr3 yuz yul yuh yf1 yg1 yf2 yg2 pa kd on ot pt fb fl fh tb tl th dg ds))) 1 6 (va_A (wXo oa of y ad h q n (gPg pa n) n b1 l1 r1 b2 l2 r2 b3 l3 r3 uz ul uh f1 g1 f2 g2 pa kd on ot pt fb fl fh tb tl th dg ds) sz) := by
  refine gMet_ofWH (cc := cL_quotient) (maxL := 6) (ret := (some .int)) (hh := [(0, 12, 15, 20), (0, 12, 19, 13), (0, 12, 23, 15)]) (by decide) rfl ?_
  intro pg e s m args below meth c s₁ B hml hv
  obtain ⟨rfl, ⟨hsz, hP, hK, hD0, hE0⟩, hN⟩ := hv
  have hx := B.exec
  have hb := B.bytes
  have hr := B.returns
  have hts := atoms_spec (ws := wsL_quotient) B.pre
  have hown : s.vm.findClass RL = some m.cls := findClass_of_methodNamed B.named
  have htab : c.exceptionTable.toList = tableOf [(0, 12, 15, 20), (0, 12, 19, 13), (0, 12, 23, 15)] := vx_table (x := yL_quotient) B (hts _ List.mem_cons_self)
  have hlocks := B.notSynchronized
  subst hsz
  obtain ⟨A, hAe⟩ : ∃ A : Nat → Prop, A = va_A (wXo oa of y ad h q n (gPg pa n) n b1 l1 r1 b2 l2 r2 b3 l3 r3 uz ul uh f1 g1 f2 g2 pa kd on ot pt fb fl fh tb tl th dg ds) s.heap.size := ⟨_, rfl⟩
  have hE : gE ad A s s.heap := by rw [hAe]; exact hE0
  have hD : va_D A (wXo oa of y ad h q n (gPg pa n) n b1 l1 r1 b2 l2 r2 b3 l3 r3 uz ul uh f1 g1 f2 g2 pa kd on ot pt fb fl fh tb tl th dg ds) := by rw [hAe]; exact hD0.self (sz := s.heap.size)
  have hA : ∀ q : Nat, s.heap.size ≤ q → A q := fun q h => by rw [hAe]; exact Or.inr h
  have hS : va_S A s.heap s.heap [] := va_S.rf
  have hl := lv_entry ([.ref h, .int a, .int b, .int c0, .ref oa]) (n := 6) (Nat.le_of_ble_eq_true rfl)
  rw [lg_entry_eq]
  generalize (lg_sl ([.ref h, .int a, .int b, .int c0, .ref oa]) ++ List.replicate (6 - (lg_sl ([.ref h, .int a, .int b, .int c0, .ref oa])).length) Slot.unset).toArray = ls at hl ⊢
  have hl : lv_has ls 6 [(0, .ref h), (1, .int a), (2, .int b), (3, .int c0), (4, .ref oa)] := hl
  refine lv_aload hx hb dL_quotient_0 (lv_at hl 4 rfl) ?_
  refine lv_iconst (v := 0) hx hb dL_quotient_2 (by decide) ?_
  refine lv_aload_n hx hb dL_quotient_3 rfl (lv_at hl 0 rfl) ?_
  refine lv_iload_n hx hb dL_quotient_4 rfl (lv_at hl 1 rfl) ?_
  refine lv_iload_n hx hb dL_quotient_5 rfl (lv_at hl 2 rfl) ?_
  refine lv_iload_n hx hb dL_quotient_6 rfl (lv_at hl 3 rfl) ?_
  refine g_catch (name := gIOB) (ws := [(oa, .inl (y 1, 1, .inr (.inl of)))]) (vx_runV (As := [.int a, .int b, .int c0]) (rest := [.int 0, .ref oa]) ⟨hx, hb, hml, hown, hts⟩ (c_X7_quotient_X1 l hfl D y ad s.heap.size h q n b1 l1 r1 b2 l2 r2 b3 l3 r3 uz ul uh f1 g1 f2 g2 pa kd on ot pt fb fl fh tb tl th dg ds a b c0 hbad) (cwV 3 hts gL_quotient_X7_quotient rfl rfl rfl (by decide +kernel) ⟨Nat.le_of_ble_eq_true rfl, Nat.le_of_ble_eq_true rfl⟩) (gPX_VA (va_P_r (ws := [(oa, .inl (y 1, 1, .inr (.inl of)))]) hP) (va_D_r (ws := [(oa, .inl (y 1, 1, .inr (.inl of)))]) hD) hK hE hS hA 0 rfl rfl) rfl rfl hl.1 rfl (lv_room (Nat.le_of_ble_eq_true rfl)) dL_quotient_7 ⟨Nat.le_of_ble_eq_true rfl, Nat.le_of_ble_eq_true rfl⟩) hP hD hS hA hown [] ⟨0, 12, 15, 20⟩ [⟨0, 12, 19, 13⟩, ⟨0, 12, 23, 15⟩] (by rw [htab]; rfl) (fun z hz => absurd hz List.not_mem_nil) (by decide) (by decide) (hts (.classLink RL 20 "java/lang/IndexOutOfBoundsException") (List.mem_of_getElem? (i := 1) rfl)) (hE.cw (Cond.castable gIOB gIOB) (List.mem_of_getElem? (i := 5) rfl)) (fun q9 w1 H locs hf hP hD hS => ?_)
  obtain ⟨b1_7, l1_7, r1_7, b2_7, l2_7, r2_7, b3_7, l3_7, r3_7, uz_7, ul_7, uh_7, f1_7, g1_7, f2_7, g2_7, rfl⟩ := hf
  have hP : va_P D vwCl (wXo oa of y ad h q n (gPg pa n) n b1_7 l1_7 r1_7 b2_7 l2_7 r2_7 b3_7 l3_7 r3_7 uz_7 ul_7 uh_7 f1_7 g1_7 f2_7 g2_7 pa kd on ot pt fb fl fh tb tl th dg ds) H := hP
  have hD : va_D A (wXo oa of y ad h q n (gPg pa n) n b1_7 l1_7 r1_7 b2_7 l2_7 r2_7 b3_7 l3_7 r3_7 uz_7 ul_7 uh_7 f1_7 g1_7 f2_7 g2_7 pa kd on ot pt fb fl fh tb tl th dg ds) := hD
  refine lv_astore (lv' := [(5, .ref q9), (0, .ref h), (1, .int a), (2, .int b), (3, .int c0), (4, .ref oa)]) hx hb dL_quotient_15 hl (by decide) rfl (fun ls hl => ?_)
  refine lv_iconst (v := 1) hx hb dL_quotient_17 (by decide) ?_
  have hP9 := hP
  have hD9 := hD
  exact W.iret (v := 1) hx hb hr (fun t ht hW => ⟨⟨some (.int (1)), wXo oa of y ad h q n (gPg pa n) n b1_7 l1_7 r1_7 b2_7 l2_7 r2_7 b3_7 l3_7 r3_7 uz_7 ul_7 uh_7 f1_7 g1_7 f2_7 g2_7 pa kd on ot pt fb fl fh tb tl th dg ds, rfl, ⟨b1_7, l1_7, r1_7, b2_7, l2_7, r2_7, b3_7, l3_7, r3_7, uz_7, ul_7, uh_7, f1_7, g1_7, f2_7, g2_7, rfl, rfl⟩, by rw [← hAe]; exact hD9, by rw [ht]; exact hP9⟩, by rw [← hAe]; exact hS.F ht⟩) (by rw [← hAe]; exact hS.2.2) dL_quotient_18
set_option maxHeartbeats 4000000 in
set_option maxRecDepth 100000 in
theorem c_L_quotient_X2 (l : Launch) (hfl : l.stackTraces = false) (D : va_G) (y : Nat → ClassId) (ad : Nat → Nat) (sz : Nat) (h : Nat) (q : Nat → Nat) (n : Nat) (b1 : Bool) (l1 r1 : Int64) (b2 : Bool) (l2 r2 : Int64) (b3 : Bool) (l3 r3 : Int64) (uz : Nat → Bool) (ul uh : Nat → Int64) (f1 g1 f2 g2 : Int64) (pa : Nat → Nat → Nat) (kd : Nat → Nat) (on ot : Nat → Int32) (pt : Nat → Int64) (fb : Nat → Nat → Bool) (fl fh : Nat → Nat → Int64) (tb : Nat → Nat → Bool) (tl th : Nat → Nat → Int64) (dg : Nat → Int32) (ds : Nat → Int64) (k : Nat) (b c0 : Int32) (oa : Nat) (of : Nat → Int64) (hn : n ≤ 40) (hk : k < n) (hp : b < 0 ∨ ¬ b ≤ 24) : Met l yL_quotient wsL_quotient ({ frames := 9, cells := 1, slots := 6, locals := 161 } : Room) (gPN D y ad [.ref h, .int (nI k), .int b, .int c0, .ref oa] (wXo oa of y ad h q n (gPg pa n) n b1 l1 r1 b2 l2 r2 b3 l3 r3 uz ul uh f1 g1 f2 g2 pa kd on ot pt fb fl fh tb tl th dg ds) sz) (gQn D (wXo oa of y ad h q n (gPg pa n) n b1 l1 r1 b2 l2 r2 b3 l3 r3 uz ul uh f1 g1 f2 g2 pa kd on ot pt fb fl fh tb tl th dg ds) (fun v w => ∃ (yb1 : Bool) (yl1 : Int64) (yr1 : Int64) (yb2 : Bool) (yl2 : Int64) (yr2 : Int64) (yb3 : Bool) (yl3 : Int64) (yr3 : Int64) (yuz : Nat → Bool) (yul : Nat → Int64) (yuh : Nat → Int64) (yf1 : Int64) (yg1 : Int64) (yf2 : Int64) (yg2 : Int64), v = some (.int 2) ∧ w = (wXo oa of y ad h q n (gPg pa n) n yb1 yl1 yr1 yb2 yl2 yr2 yb3 yl3 yr3 yuz yul yuh yf1 yg1 yf2 yg2 pa kd on ot pt fb fl fh tb tl th dg ds))) 1 6 (va_A (wXo oa of y ad h q n (gPg pa n) n b1 l1 r1 b2 l2 r2 b3 l3 r3 uz ul uh f1 g1 f2 g2 pa kd on ot pt fb fl fh tb tl th dg ds) sz) := by
  refine gMet_ofWH (cc := cL_quotient) (maxL := 6) (ret := (some .int)) (hh := [(0, 12, 15, 20), (0, 12, 19, 13), (0, 12, 23, 15)]) (by decide) rfl ?_
  intro pg e s m args below meth c s₁ B hml hv
  obtain ⟨rfl, ⟨hsz, hP, hK, hD0, hE0⟩, hN⟩ := hv
  have hx := B.exec
  have hb := B.bytes
  have hr := B.returns
  have hts := atoms_spec (ws := wsL_quotient) B.pre
  have hown : s.vm.findClass RL = some m.cls := findClass_of_methodNamed B.named
  have htab : c.exceptionTable.toList = tableOf [(0, 12, 15, 20), (0, 12, 19, 13), (0, 12, 23, 15)] := vx_table (x := yL_quotient) B (hts _ List.mem_cons_self)
  have hlocks := B.notSynchronized
  subst hsz
  obtain ⟨A, hAe⟩ : ∃ A : Nat → Prop, A = va_A (wXo oa of y ad h q n (gPg pa n) n b1 l1 r1 b2 l2 r2 b3 l3 r3 uz ul uh f1 g1 f2 g2 pa kd on ot pt fb fl fh tb tl th dg ds) s.heap.size := ⟨_, rfl⟩
  have hE : gE ad A s s.heap := by rw [hAe]; exact hE0
  have hD : va_D A (wXo oa of y ad h q n (gPg pa n) n b1 l1 r1 b2 l2 r2 b3 l3 r3 uz ul uh f1 g1 f2 g2 pa kd on ot pt fb fl fh tb tl th dg ds) := by rw [hAe]; exact hD0.self (sz := s.heap.size)
  have hA : ∀ q : Nat, s.heap.size ≤ q → A q := fun q h => by rw [hAe]; exact Or.inr h
  have hS : va_S A s.heap s.heap [] := va_S.rf
  have hl := lv_entry ([.ref h, .int (nI k), .int b, .int c0, .ref oa]) (n := 6) (Nat.le_of_ble_eq_true rfl)
  rw [lg_entry_eq]
  generalize (lg_sl ([.ref h, .int (nI k), .int b, .int c0, .ref oa]) ++ List.replicate (6 - (lg_sl ([.ref h, .int (nI k), .int b, .int c0, .ref oa])).length) Slot.unset).toArray = ls at hl ⊢
  have hl : lv_has ls 6 [(0, .ref h), (1, .int (nI k)), (2, .int b), (3, .int c0), (4, .ref oa)] := hl
  refine lv_aload hx hb dL_quotient_0 (lv_at hl 4 rfl) ?_
  refine lv_iconst (v := 0) hx hb dL_quotient_2 (by decide) ?_
  refine lv_aload_n hx hb dL_quotient_3 rfl (lv_at hl 0 rfl) ?_
  refine lv_iload_n hx hb dL_quotient_4 rfl (lv_at hl 1 rfl) ?_
  refine lv_iload_n hx hb dL_quotient_5 rfl (lv_at hl 2 rfl) ?_
  refine lv_iload_n hx hb dL_quotient_6 rfl (lv_at hl 3 rfl) ?_
  refine g_catch (name := gIAE) (ws := [(oa, .inl (y 1, 1, .inr (.inl of)))]) (vx_runV (As := [.int (nI k), .int b, .int c0]) (rest := [.int 0, .ref oa]) ⟨hx, hb, hml, hown, hts⟩ (c_X7_quotient_X2 l hfl D y ad s.heap.size h q n b1 l1 r1 b2 l2 r2 b3 l3 r3 uz ul uh f1 g1 f2 g2 pa kd on ot pt fb fl fh tb tl th dg ds k b c0 hn hk hp) (cwV 3 hts gL_quotient_X7_quotient rfl rfl rfl (by decide +kernel) ⟨Nat.le_of_ble_eq_true rfl, Nat.le_of_ble_eq_true rfl⟩) (gPX_VA (va_P_r (ws := [(oa, .inl (y 1, 1, .inr (.inl of)))]) hP) (va_D_r (ws := [(oa, .inl (y 1, 1, .inr (.inl of)))]) hD) hK hE hS hA 0 rfl rfl) rfl rfl hl.1 rfl (lv_room (Nat.le_of_ble_eq_true rfl)) dL_quotient_7 ⟨Nat.le_of_ble_eq_true rfl, Nat.le_of_ble_eq_true rfl⟩) hP hD hS hA hown [⟨0, 12, 15, 20⟩] ⟨0, 12, 19, 13⟩ [⟨0, 12, 23, 15⟩] (by rw [htab]; rfl) (fun z hz => by rcases List.mem_singleton.mp hz with rfl; exact Or.inr ⟨by decide, _, (hts (.classLink RL 20 "java/lang/IndexOutOfBoundsException") (List.mem_of_getElem? (i := 1) rfl)), hN.1⟩) (by decide) (by decide) (hts (.classLink RL 13 "java/lang/IllegalArgumentException") (List.mem_of_getElem? (i := 2) rfl)) (hE.cw (Cond.castable gIAE gIAE) (List.mem_of_getElem? (i := 3) rfl)) (fun q9 w1 H locs hf hP hD hS => ?_)
  obtain ⟨b1_7, l1_7, r1_7, b2_7, l2_7, r2_7, b3_7, l3_7, r3_7, uz_7, ul_7, uh_7, f1_7, g1_7, f2_7, g2_7, rfl⟩ := hf
  have hP : va_P D vwCl (wXo oa of y ad h q n (gPg pa n) n b1_7 l1_7 r1_7 b2_7 l2_7 r2_7 b3_7 l3_7 r3_7 uz_7 ul_7 uh_7 f1_7 g1_7 f2_7 g2_7 pa kd on ot pt fb fl fh tb tl th dg ds) H := hP
  have hD : va_D A (wXo oa of y ad h q n (gPg pa n) n b1_7 l1_7 r1_7 b2_7 l2_7 r2_7 b3_7 l3_7 r3_7 uz_7 ul_7 uh_7 f1_7 g1_7 f2_7 g2_7 pa kd on ot pt fb fl fh tb tl th dg ds) := hD
  refine lv_astore (lv' := [(5, .ref q9), (0, .ref h), (1, .int (nI k)), (2, .int b), (3, .int c0), (4, .ref oa)]) hx hb dL_quotient_19 hl (by decide) rfl (fun ls hl => ?_)
  refine lv_iconst (v := 2) hx hb dL_quotient_21 (by decide) ?_
  have hP9 := hP
  have hD9 := hD
  exact W.iret (v := 2) hx hb hr (fun t ht hW => ⟨⟨some (.int (2)), wXo oa of y ad h q n (gPg pa n) n b1_7 l1_7 r1_7 b2_7 l2_7 r2_7 b3_7 l3_7 r3_7 uz_7 ul_7 uh_7 f1_7 g1_7 f2_7 g2_7 pa kd on ot pt fb fl fh tb tl th dg ds, rfl, ⟨b1_7, l1_7, r1_7, b2_7, l2_7, r2_7, b3_7, l3_7, r3_7, uz_7, ul_7, uh_7, f1_7, g1_7, f2_7, g2_7, rfl, rfl⟩, by rw [← hAe]; exact hD9, by rw [ht]; exact hP9⟩, by rw [← hAe]; exact hS.F ht⟩) (by rw [← hAe]; exact hS.2.2) dL_quotient_22
set_option maxHeartbeats 4000000 in
set_option maxRecDepth 100000 in
theorem c_L_quotient_X2b (l : Launch) (hfl : l.stackTraces = false) (D : va_G) (y : Nat → ClassId) (ad : Nat → Nat) (sz : Nat) (h : Nat) (q : Nat → Nat) (n : Nat) (b1 : Bool) (l1 r1 : Int64) (b2 : Bool) (l2 r2 : Int64) (b3 : Bool) (l3 r3 : Int64) (uz : Nat → Bool) (ul uh : Nat → Int64) (f1 g1 f2 g2 : Int64) (pa : Nat → Nat → Nat) (kd : Nat → Nat) (on ot : Nat → Int32) (pt : Nat → Int64) (fb : Nat → Nat → Bool) (fl fh : Nat → Nat → Int64) (tb : Nat → Nat → Bool) (tl th : Nat → Nat → Int64) (dg : Nat → Int32) (ds : Nat → Int64) (k p : Nat) (c0 : Int32) (oa : Nat) (of : Nat → Int64) (hn : n ≤ 40) (hk : k < n) (hp : p < 25) (hd : c0 < 0 ∨ ¬ c0 ≤ 24) : Met l yL_quotient wsL_quotient ({ frames := 8, cells := 1, slots := 6, locals := 138 } : Room) (gPN D y ad [.ref h, .int (nI k), .int (nI p), .int c0, .ref oa] (wXo oa of y ad h q n (gPg pa n) n b1 l1 r1 b2 l2 r2 b3 l3 r3 uz ul uh f1 g1 f2 g2 pa kd on ot pt fb fl fh tb tl th dg ds) sz) (gQn D (wXo oa of y ad h q n (gPg pa n) n b1 l1 r1 b2 l2 r2 b3 l3 r3 uz ul uh f1 g1 f2 g2 pa kd on ot pt fb fl fh tb tl th dg ds) (fun v w => ∃ (yb1 : Bool) (yl1 : Int64) (yr1 : Int64) (yb2 : Bool) (yl2 : Int64) (yr2 : Int64) (yb3 : Bool) (yl3 : Int64) (yr3 : Int64) (yuz : Nat → Bool) (yul : Nat → Int64) (yuh : Nat → Int64) (yf1 : Int64) (yg1 : Int64) (yf2 : Int64) (yg2 : Int64), v = some (.int 2) ∧ w = (wXo oa of y ad h q n (gPg pa n) n yb1 yl1 yr1 yb2 yl2 yr2 yb3 yl3 yr3 yuz yul yuh yf1 yg1 yf2 yg2 pa kd on ot pt fb fl fh tb tl th dg ds))) 1 6 (va_A (wXo oa of y ad h q n (gPg pa n) n b1 l1 r1 b2 l2 r2 b3 l3 r3 uz ul uh f1 g1 f2 g2 pa kd on ot pt fb fl fh tb tl th dg ds) sz) := by
  refine gMet_ofWH (cc := cL_quotient) (maxL := 6) (ret := (some .int)) (hh := [(0, 12, 15, 20), (0, 12, 19, 13), (0, 12, 23, 15)]) (by decide) rfl ?_
  intro pg e s m args below meth c s₁ B hml hv
  obtain ⟨rfl, ⟨hsz, hP, hK, hD0, hE0⟩, hN⟩ := hv
  have hx := B.exec
  have hb := B.bytes
  have hr := B.returns
  have hts := atoms_spec (ws := wsL_quotient) B.pre
  have hown : s.vm.findClass RL = some m.cls := findClass_of_methodNamed B.named
  have htab : c.exceptionTable.toList = tableOf [(0, 12, 15, 20), (0, 12, 19, 13), (0, 12, 23, 15)] := vx_table (x := yL_quotient) B (hts _ List.mem_cons_self)
  have hlocks := B.notSynchronized
  subst hsz
  obtain ⟨A, hAe⟩ : ∃ A : Nat → Prop, A = va_A (wXo oa of y ad h q n (gPg pa n) n b1 l1 r1 b2 l2 r2 b3 l3 r3 uz ul uh f1 g1 f2 g2 pa kd on ot pt fb fl fh tb tl th dg ds) s.heap.size := ⟨_, rfl⟩
  have hE : gE ad A s s.heap := by rw [hAe]; exact hE0
  have hD : va_D A (wXo oa of y ad h q n (gPg pa n) n b1 l1 r1 b2 l2 r2 b3 l3 r3 uz ul uh f1 g1 f2 g2 pa kd on ot pt fb fl fh tb tl th dg ds) := by rw [hAe]; exact hD0.self (sz := s.heap.size)
  have hA : ∀ q : Nat, s.heap.size ≤ q → A q := fun q h => by rw [hAe]; exact Or.inr h
  have hS : va_S A s.heap s.heap [] := va_S.rf
  have hl := lv_entry ([.ref h, .int (nI k), .int (nI p), .int c0, .ref oa]) (n := 6) (Nat.le_of_ble_eq_true rfl)
  rw [lg_entry_eq]
  generalize (lg_sl ([.ref h, .int (nI k), .int (nI p), .int c0, .ref oa]) ++ List.replicate (6 - (lg_sl ([.ref h, .int (nI k), .int (nI p), .int c0, .ref oa])).length) Slot.unset).toArray = ls at hl ⊢
  have hl : lv_has ls 6 [(0, .ref h), (1, .int (nI k)), (2, .int (nI p)), (3, .int c0), (4, .ref oa)] := hl
  refine lv_aload hx hb dL_quotient_0 (lv_at hl 4 rfl) ?_
  refine lv_iconst (v := 0) hx hb dL_quotient_2 (by decide) ?_
  refine lv_aload_n hx hb dL_quotient_3 rfl (lv_at hl 0 rfl) ?_
  refine lv_iload_n hx hb dL_quotient_4 rfl (lv_at hl 1 rfl) ?_
  refine lv_iload_n hx hb dL_quotient_5 rfl (lv_at hl 2 rfl) ?_
  refine lv_iload_n hx hb dL_quotient_6 rfl (lv_at hl 3 rfl) ?_
  refine g_catch (name := gIAE) (ws := [(oa, .inl (y 1, 1, .inr (.inl of)))]) (vx_runV (As := [.int (nI k), .int (nI p), .int c0]) (rest := [.int 0, .ref oa]) ⟨hx, hb, hml, hown, hts⟩ (c_X7_quotient_X2b l hfl D y ad s.heap.size h q n b1 l1 r1 b2 l2 r2 b3 l3 r3 uz ul uh f1 g1 f2 g2 pa kd on ot pt fb fl fh tb tl th dg ds k p c0 hn hk hp hd) (cwV 3 hts gL_quotient_X7_quotient rfl rfl rfl (by decide +kernel) ⟨Nat.le_of_ble_eq_true rfl, Nat.le_of_ble_eq_true rfl⟩) (gPX_VA (va_P_r (ws := [(oa, .inl (y 1, 1, .inr (.inl of)))]) hP) (va_D_r (ws := [(oa, .inl (y 1, 1, .inr (.inl of)))]) hD) hK hE hS hA 0 rfl rfl) rfl rfl hl.1 rfl (lv_room (Nat.le_of_ble_eq_true rfl)) dL_quotient_7 ⟨Nat.le_of_ble_eq_true rfl, Nat.le_of_ble_eq_true rfl⟩) hP hD hS hA hown [⟨0, 12, 15, 20⟩] ⟨0, 12, 19, 13⟩ [⟨0, 12, 23, 15⟩] (by rw [htab]; rfl) (fun z hz => by rcases List.mem_singleton.mp hz with rfl; exact Or.inr ⟨by decide, _, (hts (.classLink RL 20 "java/lang/IndexOutOfBoundsException") (List.mem_of_getElem? (i := 1) rfl)), hN.1⟩) (by decide) (by decide) (hts (.classLink RL 13 "java/lang/IllegalArgumentException") (List.mem_of_getElem? (i := 2) rfl)) (hE.cw (Cond.castable gIAE gIAE) (List.mem_of_getElem? (i := 3) rfl)) (fun q9 w1 H locs hf hP hD hS => ?_)
  obtain ⟨b1_7, l1_7, r1_7, b2_7, l2_7, r2_7, b3_7, l3_7, r3_7, uz_7, ul_7, uh_7, f1_7, g1_7, f2_7, g2_7, rfl⟩ := hf
  have hP : va_P D vwCl (wXo oa of y ad h q n (gPg pa n) n b1_7 l1_7 r1_7 b2_7 l2_7 r2_7 b3_7 l3_7 r3_7 uz_7 ul_7 uh_7 f1_7 g1_7 f2_7 g2_7 pa kd on ot pt fb fl fh tb tl th dg ds) H := hP
  have hD : va_D A (wXo oa of y ad h q n (gPg pa n) n b1_7 l1_7 r1_7 b2_7 l2_7 r2_7 b3_7 l3_7 r3_7 uz_7 ul_7 uh_7 f1_7 g1_7 f2_7 g2_7 pa kd on ot pt fb fl fh tb tl th dg ds) := hD
  refine lv_astore (lv' := [(5, .ref q9), (0, .ref h), (1, .int (nI k)), (2, .int (nI p)), (3, .int c0), (4, .ref oa)]) hx hb dL_quotient_19 hl (by decide) rfl (fun ls hl => ?_)
  refine lv_iconst (v := 2) hx hb dL_quotient_21 (by decide) ?_
  have hP9 := hP
  have hD9 := hD
  exact W.iret (v := 2) hx hb hr (fun t ht hW => ⟨⟨some (.int (2)), wXo oa of y ad h q n (gPg pa n) n b1_7 l1_7 r1_7 b2_7 l2_7 r2_7 b3_7 l3_7 r3_7 uz_7 ul_7 uh_7 f1_7 g1_7 f2_7 g2_7 pa kd on ot pt fb fl fh tb tl th dg ds, rfl, ⟨b1_7, l1_7, r1_7, b2_7, l2_7, r2_7, b3_7, l3_7, r3_7, uz_7, ul_7, uh_7, f1_7, g1_7, f2_7, g2_7, rfl, rfl⟩, by rw [← hAe]; exact hD9, by rw [ht]; exact hP9⟩, by rw [← hAe]; exact hS.F ht⟩) (by rw [← hAe]; exact hS.2.2) dL_quotient_22
set_option maxHeartbeats 4000000 in
set_option maxRecDepth 100000 in
theorem c_L_quotient_X3 (l : Launch) (hfl : l.stackTraces = false) (D : va_G) (y : Nat → ClassId) (ad : Nat → Nat) (sz : Nat) (h : Nat) (q : Nat → Nat) (n : Nat) (b1 : Bool) (l1 r1 : Int64) (b2 : Bool) (l2 r2 : Int64) (b3 : Bool) (l3 r3 : Int64) (uz : Nat → Bool) (ul uh : Nat → Int64) (f1 g1 f2 g2 : Int64) (pa : Nat → Nat → Nat) (kd : Nat → Nat) (on ot : Nat → Int32) (pt : Nat → Int64) (fb : Nat → Nat → Bool) (fl fh : Nat → Nat → Int64) (tb : Nat → Nat → Bool) (tl th : Nat → Nat → Int64) (dg : Nat → Int32) (ds : Nat → Int64) (k p d : Nat) (oa : Nat) (of : Nat → Int64) (hn : n ≤ 40) (hk : k < n) (hp : p < 25) (hd : d < 25) (hf : ¬ sp_X6_load_b1 (tb k) (tl k) (th k) p = true) : Met l yL_quotient wsL_quotient ({ frames := 7, cells := 1, slots := 6, locals := 116 } : Room) (gPN D y ad [.ref h, .int (nI k), .int (nI p), .int (nI d), .ref oa] (wXo oa of y ad h q n (gPg pa n) n b1 l1 r1 b2 l2 r2 b3 l3 r3 uz ul uh f1 g1 f2 g2 pa kd on ot pt fb fl fh tb tl th dg ds) sz) (gQn D (wXo oa of y ad h q n (gPg pa n) n b1 l1 r1 b2 l2 r2 b3 l3 r3 uz ul uh f1 g1 f2 g2 pa kd on ot pt fb fl fh tb tl th dg ds) (fun v w => ∃ (yb1 : Bool) (yl1 : Int64) (yr1 : Int64) (yb2 : Bool) (yl2 : Int64) (yr2 : Int64) (yb3 : Bool) (yl3 : Int64) (yr3 : Int64) (yuz : Nat → Bool) (yul : Nat → Int64) (yuh : Nat → Int64) (yf1 : Int64) (yg1 : Int64) (yf2 : Int64) (yg2 : Int64), v = some (.int 3) ∧ w = (wXo oa of y ad h q n (gPg pa n) n yb1 yl1 yr1 yb2 yl2 yr2 yb3 yl3 yr3 yuz yul yuh yf1 yg1 yf2 yg2 pa kd on ot pt fb fl fh tb tl th dg ds))) 1 6 (va_A (wXo oa of y ad h q n (gPg pa n) n b1 l1 r1 b2 l2 r2 b3 l3 r3 uz ul uh f1 g1 f2 g2 pa kd on ot pt fb fl fh tb tl th dg ds) sz) := by
  refine gMet_ofWH (cc := cL_quotient) (maxL := 6) (ret := (some .int)) (hh := [(0, 12, 15, 20), (0, 12, 19, 13), (0, 12, 23, 15)]) (by decide) rfl ?_
  intro pg e s m args below meth c s₁ B hml hv
  obtain ⟨rfl, ⟨hsz, hP, hK, hD0, hE0⟩, hN⟩ := hv
  have hx := B.exec
  have hb := B.bytes
  have hr := B.returns
  have hts := atoms_spec (ws := wsL_quotient) B.pre
  have hown : s.vm.findClass RL = some m.cls := findClass_of_methodNamed B.named
  have htab : c.exceptionTable.toList = tableOf [(0, 12, 15, 20), (0, 12, 19, 13), (0, 12, 23, 15)] := vx_table (x := yL_quotient) B (hts _ List.mem_cons_self)
  have hlocks := B.notSynchronized
  subst hsz
  obtain ⟨A, hAe⟩ : ∃ A : Nat → Prop, A = va_A (wXo oa of y ad h q n (gPg pa n) n b1 l1 r1 b2 l2 r2 b3 l3 r3 uz ul uh f1 g1 f2 g2 pa kd on ot pt fb fl fh tb tl th dg ds) s.heap.size := ⟨_, rfl⟩
  have hE : gE ad A s s.heap := by rw [hAe]; exact hE0
  have hD : va_D A (wXo oa of y ad h q n (gPg pa n) n b1 l1 r1 b2 l2 r2 b3 l3 r3 uz ul uh f1 g1 f2 g2 pa kd on ot pt fb fl fh tb tl th dg ds) := by rw [hAe]; exact hD0.self (sz := s.heap.size)
  have hA : ∀ q : Nat, s.heap.size ≤ q → A q := fun q h => by rw [hAe]; exact Or.inr h
  have hS : va_S A s.heap s.heap [] := va_S.rf
  have hl := lv_entry ([.ref h, .int (nI k), .int (nI p), .int (nI d), .ref oa]) (n := 6) (Nat.le_of_ble_eq_true rfl)
  rw [lg_entry_eq]
  generalize (lg_sl ([.ref h, .int (nI k), .int (nI p), .int (nI d), .ref oa]) ++ List.replicate (6 - (lg_sl ([.ref h, .int (nI k), .int (nI p), .int (nI d), .ref oa])).length) Slot.unset).toArray = ls at hl ⊢
  have hl : lv_has ls 6 [(0, .ref h), (1, .int (nI k)), (2, .int (nI p)), (3, .int (nI d)), (4, .ref oa)] := hl
  refine lv_aload hx hb dL_quotient_0 (lv_at hl 4 rfl) ?_
  refine lv_iconst (v := 0) hx hb dL_quotient_2 (by decide) ?_
  refine lv_aload_n hx hb dL_quotient_3 rfl (lv_at hl 0 rfl) ?_
  refine lv_iload_n hx hb dL_quotient_4 rfl (lv_at hl 1 rfl) ?_
  refine lv_iload_n hx hb dL_quotient_5 rfl (lv_at hl 2 rfl) ?_
  refine lv_iload_n hx hb dL_quotient_6 rfl (lv_at hl 3 rfl) ?_
  refine g_catch (name := gISE) (ws := [(oa, .inl (y 1, 1, .inr (.inl of)))]) (vx_runV (As := [.int (nI k), .int (nI p), .int (nI d)]) (rest := [.int 0, .ref oa]) ⟨hx, hb, hml, hown, hts⟩ (c_X7_quotient_X3 l hfl D y ad s.heap.size h q n b1 l1 r1 b2 l2 r2 b3 l3 r3 uz ul uh f1 g1 f2 g2 pa kd on ot pt fb fl fh tb tl th dg ds k p d hn hk hp hd hf) (cwV 3 hts gL_quotient_X7_quotient rfl rfl rfl (by decide +kernel) ⟨Nat.le_of_ble_eq_true rfl, Nat.le_of_ble_eq_true rfl⟩) (gPX_VA (va_P_r (ws := [(oa, .inl (y 1, 1, .inr (.inl of)))]) hP) (va_D_r (ws := [(oa, .inl (y 1, 1, .inr (.inl of)))]) hD) hK hE hS hA 0 rfl rfl) rfl rfl hl.1 rfl (lv_room (Nat.le_of_ble_eq_true rfl)) dL_quotient_7 ⟨Nat.le_of_ble_eq_true rfl, Nat.le_of_ble_eq_true rfl⟩) hP hD hS hA hown [⟨0, 12, 15, 20⟩, ⟨0, 12, 19, 13⟩] ⟨0, 12, 23, 15⟩ [] (by rw [htab]; rfl) (fun z hz => by rcases List.mem_cons.mp hz with rfl | hz; exact Or.inr ⟨by decide, _, (hts (.classLink RL 20 "java/lang/IndexOutOfBoundsException") (List.mem_of_getElem? (i := 1) rfl)), hN.2.1⟩; rcases List.mem_singleton.mp hz with rfl; exact Or.inr ⟨by decide, _, (hts (.classLink RL 13 "java/lang/IllegalArgumentException") (List.mem_of_getElem? (i := 2) rfl)), hN.2.2⟩) (by decide) (by decide) (hts (.classLink RL 15 "java/lang/IllegalStateException") (List.mem_of_getElem? (i := 3) rfl)) (hE.cw (Cond.castable gISE gISE) (List.mem_of_getElem? (i := 4) rfl)) (fun q9 w1 H locs hf hP hD hS => ?_)
  obtain ⟨b1_7, l1_7, r1_7, b2_7, l2_7, r2_7, b3_7, l3_7, r3_7, uz_7, ul_7, uh_7, f1_7, g1_7, f2_7, g2_7, rfl⟩ := hf
  have hP : va_P D vwCl (wXo oa of y ad h q n (gPg pa n) n b1_7 l1_7 r1_7 b2_7 l2_7 r2_7 b3_7 l3_7 r3_7 uz_7 ul_7 uh_7 f1_7 g1_7 f2_7 g2_7 pa kd on ot pt fb fl fh tb tl th dg ds) H := hP
  have hD : va_D A (wXo oa of y ad h q n (gPg pa n) n b1_7 l1_7 r1_7 b2_7 l2_7 r2_7 b3_7 l3_7 r3_7 uz_7 ul_7 uh_7 f1_7 g1_7 f2_7 g2_7 pa kd on ot pt fb fl fh tb tl th dg ds) := hD
  refine lv_astore (lv' := [(5, .ref q9), (0, .ref h), (1, .int (nI k)), (2, .int (nI p)), (3, .int (nI d)), (4, .ref oa)]) hx hb dL_quotient_23 hl (by decide) rfl (fun ls hl => ?_)
  refine lv_iconst (v := 3) hx hb dL_quotient_25 (by decide) ?_
  have hP9 := hP
  have hD9 := hD
  exact W.iret (v := 3) hx hb hr (fun t ht hW => ⟨⟨some (.int (3)), wXo oa of y ad h q n (gPg pa n) n b1_7 l1_7 r1_7 b2_7 l2_7 r2_7 b3_7 l3_7 r3_7 uz_7 ul_7 uh_7 f1_7 g1_7 f2_7 g2_7 pa kd on ot pt fb fl fh tb tl th dg ds, rfl, ⟨b1_7, l1_7, r1_7, b2_7, l2_7, r2_7, b3_7, l3_7, r3_7, uz_7, ul_7, uh_7, f1_7, g1_7, f2_7, g2_7, rfl, rfl⟩, by rw [← hAe]; exact hD9, by rw [ht]; exact hP9⟩, by rw [← hAe]; exact hS.F ht⟩) (by rw [← hAe]; exact hS.2.2) dL_quotient_26
set_option maxHeartbeats 4000000 in
set_option maxRecDepth 100000 in
theorem c_L_quotient_X4 (l : Launch) (hfl : l.stackTraces = false) (D : va_G) (y : Nat → ClassId) (ad : Nat → Nat) (sz : Nat) (h : Nat) (q : Nat → Nat) (n : Nat) (b1 : Bool) (l1 r1 : Int64) (b2 : Bool) (l2 r2 : Int64) (b3 : Bool) (l3 r3 : Int64) (uz : Nat → Bool) (ul uh : Nat → Int64) (f1 g1 f2 g2 : Int64) (pa : Nat → Nat → Nat) (kd : Nat → Nat) (on ot : Nat → Int32) (pt : Nat → Int64) (fb : Nat → Nat → Bool) (fl fh : Nat → Nat → Int64) (tb : Nat → Nat → Bool) (tl th : Nat → Nat → Int64) (dg : Nat → Int32) (ds : Nat → Int64) (k p d : Nat) (oa : Nat) (of : Nat → Int64) (hn : n ≤ 40) (hk : k < n) (hp : p < 25) (hd : d < 25) (hf : sp_X6_load_b1 (tb k) (tl k) (th k) p = true) (hs : ¬ sp_X7_isQuotientSure (quX d (sp_X6_load_lo1 (tb k) (tl k) (th k) p) (sp_X7_unitsAt (nI p)) (sp_X6_load_hi1 (tb k) (tl k) (th k) p) (sp_X7_unitsAt (nI p))).1 (quX d (sp_X6_load_lo1 (tb k) (tl k) (th k) p) (sp_X7_unitsAt (nI p)) (sp_X6_load_hi1 (tb k) (tl k) (th k) p) (sp_X7_unitsAt (nI p))).2.1 (quX d (sp_X6_load_lo1 (tb k) (tl k) (th k) p) (sp_X7_unitsAt (nI p)) (sp_X6_load_hi1 (tb k) (tl k) (th k) p) (sp_X7_unitsAt (nI p))).2.2.1 (quX d (sp_X6_load_lo1 (tb k) (tl k) (th k) p) (sp_X7_unitsAt (nI p)) (sp_X6_load_hi1 (tb k) (tl k) (th k) p) (sp_X7_unitsAt (nI p))).2.2.2 = true) : Met l yL_quotient wsL_quotient ({ frames := 7, cells := 1, slots := 6, locals := 116 } : Room) (gPN D y ad [.ref h, .int (nI k), .int (nI p), .int (nI d), .ref oa] (wXo oa of y ad h q n (gPg pa n) n b1 l1 r1 b2 l2 r2 b3 l3 r3 uz ul uh f1 g1 f2 g2 pa kd on ot pt fb fl fh tb tl th dg ds) sz) (gQn D (wXo oa of y ad h q n (gPg pa n) n b1 l1 r1 b2 l2 r2 b3 l3 r3 uz ul uh f1 g1 f2 g2 pa kd on ot pt fb fl fh tb tl th dg ds) (fun v w => ∃ (yb1 : Bool) (yl1 : Int64) (yr1 : Int64) (yb2 : Bool) (yl2 : Int64) (yr2 : Int64) (yb3 : Bool) (yl3 : Int64) (yr3 : Int64) (yuz : Nat → Bool) (yul : Nat → Int64) (yuh : Nat → Int64) (yf1 : Int64) (yg1 : Int64) (yf2 : Int64) (yg2 : Int64), v = some (.int 3) ∧ w = (wXo oa of y ad h q n (gPg pa n) n yb1 yl1 yr1 yb2 yl2 yr2 yb3 yl3 yr3 yuz yul yuh yf1 yg1 yf2 yg2 pa kd on ot pt fb fl fh tb tl th dg ds))) 1 6 (va_A (wXo oa of y ad h q n (gPg pa n) n b1 l1 r1 b2 l2 r2 b3 l3 r3 uz ul uh f1 g1 f2 g2 pa kd on ot pt fb fl fh tb tl th dg ds) sz) := by
  refine gMet_ofWH (cc := cL_quotient) (maxL := 6) (ret := (some .int)) (hh := [(0, 12, 15, 20), (0, 12, 19, 13), (0, 12, 23, 15)]) (by decide) rfl ?_
  intro pg e s m args below meth c s₁ B hml hv
  obtain ⟨rfl, ⟨hsz, hP, hK, hD0, hE0⟩, hN⟩ := hv
  have hx := B.exec
  have hb := B.bytes
  have hr := B.returns
  have hts := atoms_spec (ws := wsL_quotient) B.pre
  have hown : s.vm.findClass RL = some m.cls := findClass_of_methodNamed B.named
  have htab : c.exceptionTable.toList = tableOf [(0, 12, 15, 20), (0, 12, 19, 13), (0, 12, 23, 15)] := vx_table (x := yL_quotient) B (hts _ List.mem_cons_self)
  have hlocks := B.notSynchronized
  subst hsz
  obtain ⟨A, hAe⟩ : ∃ A : Nat → Prop, A = va_A (wXo oa of y ad h q n (gPg pa n) n b1 l1 r1 b2 l2 r2 b3 l3 r3 uz ul uh f1 g1 f2 g2 pa kd on ot pt fb fl fh tb tl th dg ds) s.heap.size := ⟨_, rfl⟩
  have hE : gE ad A s s.heap := by rw [hAe]; exact hE0
  have hD : va_D A (wXo oa of y ad h q n (gPg pa n) n b1 l1 r1 b2 l2 r2 b3 l3 r3 uz ul uh f1 g1 f2 g2 pa kd on ot pt fb fl fh tb tl th dg ds) := by rw [hAe]; exact hD0.self (sz := s.heap.size)
  have hA : ∀ q : Nat, s.heap.size ≤ q → A q := fun q h => by rw [hAe]; exact Or.inr h
  have hS : va_S A s.heap s.heap [] := va_S.rf
  have hl := lv_entry ([.ref h, .int (nI k), .int (nI p), .int (nI d), .ref oa]) (n := 6) (Nat.le_of_ble_eq_true rfl)
  rw [lg_entry_eq]
  generalize (lg_sl ([.ref h, .int (nI k), .int (nI p), .int (nI d), .ref oa]) ++ List.replicate (6 - (lg_sl ([.ref h, .int (nI k), .int (nI p), .int (nI d), .ref oa])).length) Slot.unset).toArray = ls at hl ⊢
  have hl : lv_has ls 6 [(0, .ref h), (1, .int (nI k)), (2, .int (nI p)), (3, .int (nI d)), (4, .ref oa)] := hl
  refine lv_aload hx hb dL_quotient_0 (lv_at hl 4 rfl) ?_
  refine lv_iconst (v := 0) hx hb dL_quotient_2 (by decide) ?_
  refine lv_aload_n hx hb dL_quotient_3 rfl (lv_at hl 0 rfl) ?_
  refine lv_iload_n hx hb dL_quotient_4 rfl (lv_at hl 1 rfl) ?_
  refine lv_iload_n hx hb dL_quotient_5 rfl (lv_at hl 2 rfl) ?_
  refine lv_iload_n hx hb dL_quotient_6 rfl (lv_at hl 3 rfl) ?_
  refine g_catch (name := gISE) (ws := [(oa, .inl (y 1, 1, .inr (.inl of)))]) (vx_runV (As := [.int (nI k), .int (nI p), .int (nI d)]) (rest := [.int 0, .ref oa]) ⟨hx, hb, hml, hown, hts⟩ (c_X7_quotient_X4 l hfl D y ad s.heap.size h q n b1 l1 r1 b2 l2 r2 b3 l3 r3 uz ul uh f1 g1 f2 g2 pa kd on ot pt fb fl fh tb tl th dg ds k p d hn hk hp hd hf hs) (cwV 3 hts gL_quotient_X7_quotient rfl rfl rfl (by decide +kernel) ⟨Nat.le_of_ble_eq_true rfl, Nat.le_of_ble_eq_true rfl⟩) (gPX_VA (va_P_r (ws := [(oa, .inl (y 1, 1, .inr (.inl of)))]) hP) (va_D_r (ws := [(oa, .inl (y 1, 1, .inr (.inl of)))]) hD) hK hE hS hA 0 rfl rfl) rfl rfl hl.1 rfl (lv_room (Nat.le_of_ble_eq_true rfl)) dL_quotient_7 ⟨Nat.le_of_ble_eq_true rfl, Nat.le_of_ble_eq_true rfl⟩) hP hD hS hA hown [⟨0, 12, 15, 20⟩, ⟨0, 12, 19, 13⟩] ⟨0, 12, 23, 15⟩ [] (by rw [htab]; rfl) (fun z hz => by rcases List.mem_cons.mp hz with rfl | hz; exact Or.inr ⟨by decide, _, (hts (.classLink RL 20 "java/lang/IndexOutOfBoundsException") (List.mem_of_getElem? (i := 1) rfl)), hN.2.1⟩; rcases List.mem_singleton.mp hz with rfl; exact Or.inr ⟨by decide, _, (hts (.classLink RL 13 "java/lang/IllegalArgumentException") (List.mem_of_getElem? (i := 2) rfl)), hN.2.2⟩) (by decide) (by decide) (hts (.classLink RL 15 "java/lang/IllegalStateException") (List.mem_of_getElem? (i := 3) rfl)) (hE.cw (Cond.castable gISE gISE) (List.mem_of_getElem? (i := 4) rfl)) (fun q9 w1 H locs hf hP hD hS => ?_)
  obtain ⟨b1_7, l1_7, r1_7, b2_7, l2_7, r2_7, b3_7, l3_7, r3_7, uz_7, ul_7, uh_7, f1_7, g1_7, f2_7, g2_7, rfl⟩ := hf
  have hP : va_P D vwCl (wXo oa of y ad h q n (gPg pa n) n b1_7 l1_7 r1_7 b2_7 l2_7 r2_7 b3_7 l3_7 r3_7 uz_7 ul_7 uh_7 f1_7 g1_7 f2_7 g2_7 pa kd on ot pt fb fl fh tb tl th dg ds) H := hP
  have hD : va_D A (wXo oa of y ad h q n (gPg pa n) n b1_7 l1_7 r1_7 b2_7 l2_7 r2_7 b3_7 l3_7 r3_7 uz_7 ul_7 uh_7 f1_7 g1_7 f2_7 g2_7 pa kd on ot pt fb fl fh tb tl th dg ds) := hD
  refine lv_astore (lv' := [(5, .ref q9), (0, .ref h), (1, .int (nI k)), (2, .int (nI p)), (3, .int (nI d)), (4, .ref oa)]) hx hb dL_quotient_23 hl (by decide) rfl (fun ls hl => ?_)
  refine lv_iconst (v := 3) hx hb dL_quotient_25 (by decide) ?_
  have hP9 := hP
  have hD9 := hD
  exact W.iret (v := 3) hx hb hr (fun t ht hW => ⟨⟨some (.int (3)), wXo oa of y ad h q n (gPg pa n) n b1_7 l1_7 r1_7 b2_7 l2_7 r2_7 b3_7 l3_7 r3_7 uz_7 ul_7 uh_7 f1_7 g1_7 f2_7 g2_7 pa kd on ot pt fb fl fh tb tl th dg ds, rfl, ⟨b1_7, l1_7, r1_7, b2_7, l2_7, r2_7, b3_7, l3_7, r3_7, uz_7, ul_7, uh_7, f1_7, g1_7, f2_7, g2_7, rfl, rfl⟩, by rw [← hAe]; exact hD9, by rw [ht]; exact hP9⟩, by rw [← hAe]; exact hS.F ht⟩) (by rw [← hAe]; exact hS.2.2) dL_quotient_26
set_option maxHeartbeats 4000000 in
set_option maxRecDepth 100000 in
theorem c_L_quotient_0 (l : Launch) (hfl : l.stackTraces = false) (D : va_G) (y : Nat → ClassId) (ad : Nat → Nat) (sz : Nat) (h : Nat) (q : Nat → Nat) (n : Nat) (b1 : Bool) (l1 r1 : Int64) (b2 : Bool) (l2 r2 : Int64) (b3 : Bool) (l3 r3 : Int64) (uz : Nat → Bool) (ul uh : Nat → Int64) (f1 g1 f2 g2 : Int64) (pa : Nat → Nat → Nat) (kd : Nat → Nat) (on ot : Nat → Int32) (pt : Nat → Int64) (fb : Nat → Nat → Bool) (fl fh : Nat → Nat → Int64) (tb : Nat → Nat → Bool) (tl th : Nat → Nat → Int64) (dg : Nat → Int32) (ds : Nat → Int64) (k p d : Nat) (oa : Nat) (of : Nat → Int64) (hn : n ≤ 40) (hk : k < n) (hp : p < 25) (hd : d < 25) (hf : sp_X6_load_b1 (tb k) (tl k) (th k) p = true) (hs : sp_X7_isQuotientSure (quX d (sp_X6_load_lo1 (tb k) (tl k) (th k) p) (sp_X7_unitsAt (nI p)) (sp_X6_load_hi1 (tb k) (tl k) (th k) p) (sp_X7_unitsAt (nI p))).1 (quX d (sp_X6_load_lo1 (tb k) (tl k) (th k) p) (sp_X7_unitsAt (nI p)) (sp_X6_load_hi1 (tb k) (tl k) (th k) p) (sp_X7_unitsAt (nI p))).2.1 (quX d (sp_X6_load_lo1 (tb k) (tl k) (th k) p) (sp_X7_unitsAt (nI p)) (sp_X6_load_hi1 (tb k) (tl k) (th k) p) (sp_X7_unitsAt (nI p))).2.2.1 (quX d (sp_X6_load_lo1 (tb k) (tl k) (th k) p) (sp_X7_unitsAt (nI p)) (sp_X6_load_hi1 (tb k) (tl k) (th k) p) (sp_X7_unitsAt (nI p))).2.2.2 = true) : Met l yL_quotient wsL_quotient ({ frames := 5, cells := 0, slots := 0, locals := 114 } : Room) (gPN D y ad [.ref h, .int (nI k), .int (nI p), .int (nI d), .ref oa] (wXo oa of y ad h q n (gPg pa n) n b1 l1 r1 b2 l2 r2 b3 l3 r3 uz ul uh f1 g1 f2 g2 pa kd on ot pt fb fl fh tb tl th dg ds) sz) (gQn D (wXo oa of y ad h q n (gPg pa n) n b1 l1 r1 b2 l2 r2 b3 l3 r3 uz ul uh f1 g1 f2 g2 pa kd on ot pt fb fl fh tb tl th dg ds) (fun v w => ∃ (yb1 : Bool) (yl1 : Int64) (yr1 : Int64) (yb2 : Bool) (yl2 : Int64) (yr2 : Int64) (yb3 : Bool) (yl3 : Int64) (yr3 : Int64) (yuz : Nat → Bool) (yul : Nat → Int64) (yuh : Nat → Int64) (yf1 : Int64) (yg1 : Int64) (yf2 : Int64) (yg2 : Int64), v = some (.int 0) ∧ w = (wXo oa (vp_updL of 0 (((sp_X1_whole (quX d (sp_X6_load_lo1 (tb k) (tl k) (th k) p) (sp_X7_unitsAt (nI p)) (sp_X6_load_hi1 (tb k) (tl k) (th k) p) (sp_X7_unitsAt (nI p))).1 (quX d (sp_X6_load_lo1 (tb k) (tl k) (th k) p) (sp_X7_unitsAt (nI p)) (sp_X6_load_hi1 (tb k) (tl k) (th k) p) (sp_X7_unitsAt (nI p))).2.1).toInt32).toInt64)) y ad h q n (gPg pa n) n yb1 yl1 yr1 yb2 yl2 yr2 yb3 yl3 yr3 yuz yul yuh yf1 yg1 yf2 yg2 pa kd on ot pt fb fl fh tb tl th dg ds))) 0 0 (va_A (wXo oa of y ad h q n (gPg pa n) n b1 l1 r1 b2 l2 r2 b3 l3 r3 uz ul uh f1 g1 f2 g2 pa kd on ot pt fb fl fh tb tl th dg ds) sz) := by
  refine gMet_ofWH (cc := cL_quotient) (maxL := 6) (ret := (some .int)) (hh := [(0, 12, 15, 20), (0, 12, 19, 13), (0, 12, 23, 15)]) (by decide) rfl ?_
  intro pg e s m args below meth c s₁ B hml hv
  obtain ⟨rfl, ⟨hsz, hP, hK, hD0, hE0⟩, hN⟩ := hv
  have hx := B.exec
  have hb := B.bytes
  have hr := B.returns
  have hts := atoms_spec (ws := wsL_quotient) B.pre
  have hown : s.vm.findClass RL = some m.cls := findClass_of_methodNamed B.named
  have htab : c.exceptionTable.toList = tableOf [(0, 12, 15, 20), (0, 12, 19, 13), (0, 12, 23, 15)] := vx_table (x := yL_quotient) B (hts _ List.mem_cons_self)
  have hlocks := B.notSynchronized
  subst hsz
  obtain ⟨A, hAe⟩ : ∃ A : Nat → Prop, A = va_A (wXo oa of y ad h q n (gPg pa n) n b1 l1 r1 b2 l2 r2 b3 l3 r3 uz ul uh f1 g1 f2 g2 pa kd on ot pt fb fl fh tb tl th dg ds) s.heap.size := ⟨_, rfl⟩
  have hE : gE ad A s s.heap := by rw [hAe]; exact hE0
  have hD : va_D A (wXo oa of y ad h q n (gPg pa n) n b1 l1 r1 b2 l2 r2 b3 l3 r3 uz ul uh f1 g1 f2 g2 pa kd on ot pt fb fl fh tb tl th dg ds) := by rw [hAe]; exact hD0.self (sz := s.heap.size)
  have hA : ∀ q : Nat, s.heap.size ≤ q → A q := fun q h => by rw [hAe]; exact Or.inr h
  have hS : va_S A s.heap s.heap [] := va_S.rf
  have hl := lv_entry ([.ref h, .int (nI k), .int (nI p), .int (nI d), .ref oa]) (n := 6) (Nat.le_of_ble_eq_true rfl)
  rw [lg_entry_eq]
  generalize (lg_sl ([.ref h, .int (nI k), .int (nI p), .int (nI d), .ref oa]) ++ List.replicate (6 - (lg_sl ([.ref h, .int (nI k), .int (nI p), .int (nI d), .ref oa])).length) Slot.unset).toArray = ls at hl ⊢
  have hl : lv_has ls 6 [(0, .ref h), (1, .int (nI k)), (2, .int (nI p)), (3, .int (nI d)), (4, .ref oa)] := hl
  refine lv_aload hx hb dL_quotient_0 (lv_at hl 4 rfl) ?_
  refine lv_iconst (v := 0) hx hb dL_quotient_2 (by decide) ?_
  refine lv_aload_n hx hb dL_quotient_3 rfl (lv_at hl 0 rfl) ?_
  refine lv_iload_n hx hb dL_quotient_4 rfl (lv_at hl 1 rfl) ?_
  refine lv_iload_n hx hb dL_quotient_5 rfl (lv_at hl 2 rfl) ?_
  refine lv_iload_n hx hb dL_quotient_6 rfl (lv_at hl 3 rfl) ?_
  refine g_callAr (ws := [(oa, .inl (y 1, 1, .inr (.inl of)))]) (va_runV (As := [.int (nI k), .int (nI p), .int (nI d)]) (rest := [.int 0, .ref oa]) ⟨hx, hb, hml, hown, hts⟩ (c_X7_quotient_0 l hfl D y ad s.heap.size h q n b1 l1 r1 b2 l2 r2 b3 l3 r3 uz ul uh f1 g1 f2 g2 pa kd on ot pt fb fl fh tb tl th dg ds k p d hn hk hp hd hf hs) (cwV 3 hts gL_quotient_X7_quotient rfl rfl rfl (by decide +kernel) ⟨Nat.le_of_ble_eq_true rfl, Nat.le_of_ble_eq_true rfl⟩) (gPX_VA (va_P_r (ws := [(oa, .inl (y 1, 1, .inr (.inl of)))]) hP) (va_D_r (ws := [(oa, .inl (y 1, 1, .inr (.inl of)))]) hD) hK hE hS hA 0 rfl rfl) rfl rfl hl.1 rfl (lv_room (Nat.le_of_ble_eq_true rfl)) dL_quotient_7 ⟨Nat.le_of_ble_eq_true rfl, Nat.le_of_ble_eq_true rfl⟩) hP hD hS hA (fun v w1 H locs hf hP hD hS => ?_)
  obtain ⟨rfl, b1_7, l1_7, r1_7, b2_7, l2_7, r2_7, b3_7, l3_7, r3_7, uz_7, ul_7, uh_7, f1_7, g1_7, f2_7, g2_7, rfl⟩ := hf
  have hP : va_P D vwCl (wXo oa of y ad h q n (gPg pa n) n b1_7 l1_7 r1_7 b2_7 l2_7 r2_7 b3_7 l3_7 r3_7 uz_7 ul_7 uh_7 f1_7 g1_7 f2_7 g2_7 pa kd on ot pt fb fl fh tb tl th dg ds) H := hP
  have hD : va_D A (wXo oa of y ad h q n (gPg pa n) n b1_7 l1_7 r1_7 b2_7 l2_7 r2_7 b3_7 l3_7 r3_7 uz_7 ul_7 uh_7 f1_7 g1_7 f2_7 g2_7 pa kd on ot pt fb fl fh tb tl th dg ds) := hD
  refine lv_i2l (v := ((sp_X1_whole (quX d (sp_X6_load_lo1 (tb k) (tl k) (th k) p) (sp_X7_unitsAt (nI p)) (sp_X6_load_hi1 (tb k) (tl k) (th k) p) (sp_X7_unitsAt (nI p))).1 (quX d (sp_X6_load_lo1 (tb k) (tl k) (th k) p) (sp_X7_unitsAt (nI p)) (sp_X6_load_hi1 (tb k) (tl k) (th k) p) (sp_X7_unitsAt (nI p))).2.1).toInt32).toInt64) hx hb dL_quotient_10 rfl ?_
  refine g_last (k := 0) (x := ((sp_X1_whole (quX d (sp_X6_load_lo1 (tb k) (tl k) (th k) p) (sp_X7_unitsAt (nI p)) (sp_X6_load_hi1 (tb k) (tl k) (th k) p) (sp_X7_unitsAt (nI p))).1 (quX d (sp_X6_load_lo1 (tb k) (tl k) (th k) p) (sp_X7_unitsAt (nI p)) (sp_X6_load_hi1 (tb k) (tl k) (th k) p) (sp_X7_unitsAt (nI p))).2.1).toInt32).toInt64) hx hb hK.1 hP hD hS 0 1 rfl rfl (by omega) (by decide) dL_quotient_11 (fun H locs hP hD hS => ?_)
  have hP : va_P D vwCl (wXo oa (vp_updL of 0 (((sp_X1_whole (quX d (sp_X6_load_lo1 (tb k) (tl k) (th k) p) (sp_X7_unitsAt (nI p)) (sp_X6_load_hi1 (tb k) (tl k) (th k) p) (sp_X7_unitsAt (nI p))).1 (quX d (sp_X6_load_lo1 (tb k) (tl k) (th k) p) (sp_X7_unitsAt (nI p)) (sp_X6_load_hi1 (tb k) (tl k) (th k) p) (sp_X7_unitsAt (nI p))).2.1).toInt32).toInt64)) y ad h q n (gPg pa n) n b1_7 l1_7 r1_7 b2_7 l2_7 r2_7 b3_7 l3_7 r3_7 uz_7 ul_7 uh_7 f1_7 g1_7 f2_7 g2_7 pa kd on ot pt fb fl fh tb tl th dg ds) H := hP
  have hD : va_D A (wXo oa (vp_updL of 0 (((sp_X1_whole (quX d (sp_X6_load_lo1 (tb k) (tl k) (th k) p) (sp_X7_unitsAt (nI p)) (sp_X6_load_hi1 (tb k) (tl k) (th k) p) (sp_X7_unitsAt (nI p))).1 (quX d (sp_X6_load_lo1 (tb k) (tl k) (th k) p) (sp_X7_unitsAt (nI p)) (sp_X6_load_hi1 (tb k) (tl k) (th k) p) (sp_X7_unitsAt (nI p))).2.1).toInt32).toInt64)) y ad h q n (gPg pa n) n b1_7 l1_7 r1_7 b2_7 l2_7 r2_7 b3_7 l3_7 r3_7 uz_7 ul_7 uh_7 f1_7 g1_7 f2_7 g2_7 pa kd on ot pt fb fl fh tb tl th dg ds) := hD
  refine lv_goto (tgt := 27) hx hb dL_quotient_12 (by decide) ?_
  refine lv_iconst (v := 0) hx hb dL_quotient_27 (by decide) ?_
  have hP9 := hP
  have hD9 := hD
  exact W.iret (v := 0) hx hb hr (fun t ht hW => ⟨⟨some (.int (0)), wXo oa (vp_updL of 0 (((sp_X1_whole (quX d (sp_X6_load_lo1 (tb k) (tl k) (th k) p) (sp_X7_unitsAt (nI p)) (sp_X6_load_hi1 (tb k) (tl k) (th k) p) (sp_X7_unitsAt (nI p))).1 (quX d (sp_X6_load_lo1 (tb k) (tl k) (th k) p) (sp_X7_unitsAt (nI p)) (sp_X6_load_hi1 (tb k) (tl k) (th k) p) (sp_X7_unitsAt (nI p))).2.1).toInt32).toInt64)) y ad h q n (gPg pa n) n b1_7 l1_7 r1_7 b2_7 l2_7 r2_7 b3_7 l3_7 r3_7 uz_7 ul_7 uh_7 f1_7 g1_7 f2_7 g2_7 pa kd on ot pt fb fl fh tb tl th dg ds, rfl, ⟨b1_7, l1_7, r1_7, b2_7, l2_7, r2_7, b3_7, l3_7, r3_7, uz_7, ul_7, uh_7, f1_7, g1_7, f2_7, g2_7, rfl, rfl⟩, by rw [← hAe]; exact hD9, by rw [ht]; exact hP9⟩, by rw [← hAe]; exact hS.F ht⟩) (by rw [← hAe]; exact hS.2.2) dL_quotient_28
set_option maxHeartbeats 4000000 in
set_option maxRecDepth 100000 in
theorem c_L_next_X1 (l : Launch) (hfl : l.stackTraces = false) (D : va_G) (y : Nat → ClassId) (ad : Nat → Nat) (sz : Nat) (h : Nat) (q : Nat → Nat) (n : Nat) (b1 : Bool) (l1 r1 : Int64) (b2 : Bool) (l2 r2 : Int64) (b3 : Bool) (l3 r3 : Int64) (uz : Nat → Bool) (ul uh : Nat → Int64) (f1 g1 f2 g2 : Int64) (pa : Nat → Nat → Nat) (kd : Nat → Nat) (on ot : Nat → Int32) (pt : Nat → Int64) (fb : Nat → Nat → Bool) (fl fh : Nat → Nat → Int64) (tb : Nat → Nat → Bool) (tl th : Nat → Nat → Int64) (dg : Nat → Int32) (ds : Nat → Int64) (a : Int32) (oa : Nat) (of : Nat → Int64) (hbad : a < 0 ∨ nI n ≤ a) : Met l yL_next wsL_next ({ frames := 8, cells := 1, slots := 6, locals := 138 } : Room) (gPN D y ad [.ref h, .int a, .ref oa] (wXo oa of y ad h q n (gPg pa n) n b1 l1 r1 b2 l2 r2 b3 l3 r3 uz ul uh f1 g1 f2 g2 pa kd on ot pt fb fl fh tb tl th dg ds) sz) (gQn D (wXo oa of y ad h q n (gPg pa n) n b1 l1 r1 b2 l2 r2 b3 l3 r3 uz ul uh f1 g1 f2 g2 pa kd on ot pt fb fl fh tb tl th dg ds) (fun v w => v = some (.int 1) ∧ w = (wXo oa of y ad h q n (gPg pa n) n b1 l1 r1 b2 l2 r2 b3 l3 r3 uz ul uh f1 g1 f2 g2 pa kd on ot pt fb fl fh tb tl th dg ds))) 1 6 (va_A (wXo oa of y ad h q n (gPg pa n) n b1 l1 r1 b2 l2 r2 b3 l3 r3 uz ul uh f1 g1 f2 g2 pa kd on ot pt fb fl fh tb tl th dg ds) sz) := by
  refine gMet_ofWH (cc := cL_next) (maxL := 4) (ret := (some .int)) (hh := [(0, 9, 12, 20), (0, 9, 15, 15)]) (by decide) rfl ?_
  intro pg e s m args below meth c s₁ B hml hv
  obtain ⟨rfl, ⟨hsz, hP, hK, hD0, hE0⟩, hN⟩ := hv
  have hx := B.exec
  have hb := B.bytes
  have hr := B.returns
  have hts := atoms_spec (ws := wsL_next) B.pre
  have hown : s.vm.findClass RL = some m.cls := findClass_of_methodNamed B.named
  have htab : c.exceptionTable.toList = tableOf [(0, 9, 12, 20), (0, 9, 15, 15)] := vx_table (x := yL_next) B (hts _ List.mem_cons_self)
  have hlocks := B.notSynchronized
  subst hsz
  obtain ⟨A, hAe⟩ : ∃ A : Nat → Prop, A = va_A (wXo oa of y ad h q n (gPg pa n) n b1 l1 r1 b2 l2 r2 b3 l3 r3 uz ul uh f1 g1 f2 g2 pa kd on ot pt fb fl fh tb tl th dg ds) s.heap.size := ⟨_, rfl⟩
  have hE : gE ad A s s.heap := by rw [hAe]; exact hE0
  have hD : va_D A (wXo oa of y ad h q n (gPg pa n) n b1 l1 r1 b2 l2 r2 b3 l3 r3 uz ul uh f1 g1 f2 g2 pa kd on ot pt fb fl fh tb tl th dg ds) := by rw [hAe]; exact hD0.self (sz := s.heap.size)
  have hA : ∀ q : Nat, s.heap.size ≤ q → A q := fun q h => by rw [hAe]; exact Or.inr h
  have hS : va_S A s.heap s.heap [] := va_S.rf
  have hl := lv_entry ([.ref h, .int a, .ref oa]) (n := 4) (Nat.le_of_ble_eq_true rfl)
  rw [lg_entry_eq]
  generalize (lg_sl ([.ref h, .int a, .ref oa]) ++ List.replicate (4 - (lg_sl ([.ref h, .int a, .ref oa])).length) Slot.unset).toArray = ls at hl ⊢
  have hl : lv_has ls 4 [(0, .ref h), (1, .int a), (2, .ref oa)] := hl
  refine lv_aload_n hx hb dL_next_0 rfl (lv_at hl 2 rfl) ?_
  refine lv_iconst (v := 0) hx hb dL_next_1 (by decide) ?_
  refine lv_aload_n hx hb dL_next_2 rfl (lv_at hl 0 rfl) ?_
  refine lv_iload_n hx hb dL_next_3 rfl (lv_at hl 1 rfl) ?_
  refine g_catch (name := gIOB) (ws := [(oa, .inl (y 1, 1, .inr (.inl of)))]) (vx_runV (As := [.int a]) (rest := [.int 0, .ref oa]) ⟨hx, hb, hml, hown, hts⟩ (c_X7_next_X1 l hfl D y ad s.heap.size h q n b1 l1 r1 b2 l2 r2 b3 l3 r3 uz ul uh f1 g1 f2 g2 pa kd on ot pt fb fl fh tb tl th dg ds a hbad) (cwV 1 hts gL_next_X7_next rfl rfl rfl (by decide +kernel) ⟨Nat.le_of_ble_eq_true rfl, Nat.le_of_ble_eq_true rfl⟩) (gPX_VA (va_P_r (ws := [(oa, .inl (y 1, 1, .inr (.inl of)))]) hP) (va_D_r (ws := [(oa, .inl (y 1, 1, .inr (.inl of)))]) hD) hK hE hS hA 0 rfl rfl) rfl rfl hl.1 rfl (lv_room (Nat.le_of_ble_eq_true rfl)) dL_next_4 ⟨Nat.le_of_ble_eq_true rfl, Nat.le_of_ble_eq_true rfl⟩) hP hD hS hA hown [] ⟨0, 9, 12, 20⟩ [⟨0, 9, 15, 15⟩] (by rw [htab]; rfl) (fun z hz => absurd hz List.not_mem_nil) (by decide) (by decide) (hts (.classLink RL 20 "java/lang/IndexOutOfBoundsException") (List.mem_of_getElem? (i := 1) rfl)) (hE.cw (Cond.castable gIOB gIOB) (List.mem_of_getElem? (i := 5) rfl)) (fun q9 w1 H locs hf hP hD hS => ?_)
  obtain rfl : w1 = wXp y ad h q n b1 l1 r1 b2 l2 r2 b3 l3 r3 uz ul uh f1 g1 f2 g2 pa kd on ot pt fb fl fh tb tl th dg ds := hf
  have hP : va_P D vwCl (wXo oa of y ad h q n (gPg pa n) n b1 l1 r1 b2 l2 r2 b3 l3 r3 uz ul uh f1 g1 f2 g2 pa kd on ot pt fb fl fh tb tl th dg ds) H := hP
  have hD : va_D A (wXo oa of y ad h q n (gPg pa n) n b1 l1 r1 b2 l2 r2 b3 l3 r3 uz ul uh f1 g1 f2 g2 pa kd on ot pt fb fl fh tb tl th dg ds) := hD
  refine lv_astore_n (lv' := [(3, .ref q9), (0, .ref h), (1, .int a), (2, .ref oa)]) hx hb dL_next_12 rfl hl (by decide) rfl (fun ls hl => ?_)
  refine lv_iconst (v := 1) hx hb dL_next_13 (by decide) ?_
  have hP9 := hP
  have hD9 := hD
  exact W.iret (v := 1) hx hb hr (fun t ht hW => ⟨⟨some (.int (1)), wXo oa of y ad h q n (gPg pa n) n b1 l1 r1 b2 l2 r2 b3 l3 r3 uz ul uh f1 g1 f2 g2 pa kd on ot pt fb fl fh tb tl th dg ds, rfl, ⟨rfl, rfl⟩, by rw [← hAe]; exact hD9, by rw [ht]; exact hP9⟩, by rw [← hAe]; exact hS.F ht⟩) (by rw [← hAe]; exact hS.2.2) dL_next_14
set_option maxHeartbeats 4000000 in
set_option maxRecDepth 100000 in
theorem c_L_next_X2 (l : Launch) (hfl : l.stackTraces = false) (D : va_G) (y : Nat → ClassId) (ad : Nat → Nat) (sz : Nat) (h : Nat) (q : Nat → Nat) (n : Nat) (b1 : Bool) (l1 r1 : Int64) (b2 : Bool) (l2 r2 : Int64) (b3 : Bool) (l3 r3 : Int64) (uz : Nat → Bool) (ul uh : Nat → Int64) (f1 g1 f2 g2 : Int64) (pa : Nat → Nat → Nat) (kd : Nat → Nat) (on ot : Nat → Int32) (pt : Nat → Int64) (fb : Nat → Nat → Bool) (fl fh : Nat → Nat → Int64) (tb : Nat → Nat → Bool) (tl th : Nat → Nat → Int64) (dg : Nat → Int32) (ds : Nat → Int64) (k : Nat) (oa : Nat) (of : Nat → Int64) (hn : n ≤ 40) (hk : k < n) (hd : ¬ dg k < 24) : Met l yL_next wsL_next ({ frames := 7, cells := 1, slots := 6, locals := 116 } : Room) (gPN D y ad [.ref h, .int (nI k), .ref oa] (wXo oa of y ad h q n (gPg pa n) n b1 l1 r1 b2 l2 r2 b3 l3 r3 uz ul uh f1 g1 f2 g2 pa kd on ot pt fb fl fh tb tl th dg ds) sz) (gQn D (wXo oa of y ad h q n (gPg pa n) n b1 l1 r1 b2 l2 r2 b3 l3 r3 uz ul uh f1 g1 f2 g2 pa kd on ot pt fb fl fh tb tl th dg ds) (fun v w => v = some (.int 2) ∧ w = (wXo oa of y ad h q n (gPg pa n) n b1 l1 r1 b2 l2 r2 b3 l3 r3 uz ul uh f1 g1 f2 g2 pa kd on ot pt fb fl fh tb tl th dg ds))) 1 6 (va_A (wXo oa of y ad h q n (gPg pa n) n b1 l1 r1 b2 l2 r2 b3 l3 r3 uz ul uh f1 g1 f2 g2 pa kd on ot pt fb fl fh tb tl th dg ds) sz) := by
  refine gMet_ofWH (cc := cL_next) (maxL := 4) (ret := (some .int)) (hh := [(0, 9, 12, 20), (0, 9, 15, 15)]) (by decide) rfl ?_
  intro pg e s m args below meth c s₁ B hml hv
  obtain ⟨rfl, ⟨hsz, hP, hK, hD0, hE0⟩, hN⟩ := hv
  have hx := B.exec
  have hb := B.bytes
  have hr := B.returns
  have hts := atoms_spec (ws := wsL_next) B.pre
  have hown : s.vm.findClass RL = some m.cls := findClass_of_methodNamed B.named
  have htab : c.exceptionTable.toList = tableOf [(0, 9, 12, 20), (0, 9, 15, 15)] := vx_table (x := yL_next) B (hts _ List.mem_cons_self)
  have hlocks := B.notSynchronized
  subst hsz
  obtain ⟨A, hAe⟩ : ∃ A : Nat → Prop, A = va_A (wXo oa of y ad h q n (gPg pa n) n b1 l1 r1 b2 l2 r2 b3 l3 r3 uz ul uh f1 g1 f2 g2 pa kd on ot pt fb fl fh tb tl th dg ds) s.heap.size := ⟨_, rfl⟩
  have hE : gE ad A s s.heap := by rw [hAe]; exact hE0
  have hD : va_D A (wXo oa of y ad h q n (gPg pa n) n b1 l1 r1 b2 l2 r2 b3 l3 r3 uz ul uh f1 g1 f2 g2 pa kd on ot pt fb fl fh tb tl th dg ds) := by rw [hAe]; exact hD0.self (sz := s.heap.size)
  have hA : ∀ q : Nat, s.heap.size ≤ q → A q := fun q h => by rw [hAe]; exact Or.inr h
  have hS : va_S A s.heap s.heap [] := va_S.rf
  have hl := lv_entry ([.ref h, .int (nI k), .ref oa]) (n := 4) (Nat.le_of_ble_eq_true rfl)
  rw [lg_entry_eq]
  generalize (lg_sl ([.ref h, .int (nI k), .ref oa]) ++ List.replicate (4 - (lg_sl ([.ref h, .int (nI k), .ref oa])).length) Slot.unset).toArray = ls at hl ⊢
  have hl : lv_has ls 4 [(0, .ref h), (1, .int (nI k)), (2, .ref oa)] := hl
  refine lv_aload_n hx hb dL_next_0 rfl (lv_at hl 2 rfl) ?_
  refine lv_iconst (v := 0) hx hb dL_next_1 (by decide) ?_
  refine lv_aload_n hx hb dL_next_2 rfl (lv_at hl 0 rfl) ?_
  refine lv_iload_n hx hb dL_next_3 rfl (lv_at hl 1 rfl) ?_
  refine g_catch (name := gISE) (ws := [(oa, .inl (y 1, 1, .inr (.inl of)))]) (vx_runV (As := [.int (nI k)]) (rest := [.int 0, .ref oa]) ⟨hx, hb, hml, hown, hts⟩ (c_X7_next_X2 l hfl D y ad s.heap.size h q n b1 l1 r1 b2 l2 r2 b3 l3 r3 uz ul uh f1 g1 f2 g2 pa kd on ot pt fb fl fh tb tl th dg ds k hn hk hd) (cwV 1 hts gL_next_X7_next rfl rfl rfl (by decide +kernel) ⟨Nat.le_of_ble_eq_true rfl, Nat.le_of_ble_eq_true rfl⟩) (gPX_VA (va_P_r (ws := [(oa, .inl (y 1, 1, .inr (.inl of)))]) hP) (va_D_r (ws := [(oa, .inl (y 1, 1, .inr (.inl of)))]) hD) hK hE hS hA 0 rfl rfl) rfl rfl hl.1 rfl (lv_room (Nat.le_of_ble_eq_true rfl)) dL_next_4 ⟨Nat.le_of_ble_eq_true rfl, Nat.le_of_ble_eq_true rfl⟩) hP hD hS hA hown [⟨0, 9, 12, 20⟩] ⟨0, 9, 15, 15⟩ [] (by rw [htab]; rfl) (fun z hz => by rcases List.mem_singleton.mp hz with rfl; exact Or.inr ⟨by decide, _, (hts (.classLink RL 20 "java/lang/IndexOutOfBoundsException") (List.mem_of_getElem? (i := 1) rfl)), hN.2.1⟩) (by decide) (by decide) (hts (.classLink RL 15 "java/lang/IllegalStateException") (List.mem_of_getElem? (i := 2) rfl)) (hE.cw (Cond.castable gISE gISE) (List.mem_of_getElem? (i := 4) rfl)) (fun q9 w1 H locs hf hP hD hS => ?_)
  obtain rfl : w1 = wXp y ad h q n b1 l1 r1 b2 l2 r2 b3 l3 r3 uz ul uh f1 g1 f2 g2 pa kd on ot pt fb fl fh tb tl th dg ds := hf
  have hP : va_P D vwCl (wXo oa of y ad h q n (gPg pa n) n b1 l1 r1 b2 l2 r2 b3 l3 r3 uz ul uh f1 g1 f2 g2 pa kd on ot pt fb fl fh tb tl th dg ds) H := hP
  have hD : va_D A (wXo oa of y ad h q n (gPg pa n) n b1 l1 r1 b2 l2 r2 b3 l3 r3 uz ul uh f1 g1 f2 g2 pa kd on ot pt fb fl fh tb tl th dg ds) := hD
  refine lv_astore_n (lv' := [(3, .ref q9), (0, .ref h), (1, .int (nI k)), (2, .ref oa)]) hx hb dL_next_15 rfl hl (by decide) rfl (fun ls hl => ?_)
  refine lv_iconst (v := 2) hx hb dL_next_16 (by decide) ?_
  have hP9 := hP
  have hD9 := hD
  exact W.iret (v := 2) hx hb hr (fun t ht hW => ⟨⟨some (.int (2)), wXo oa of y ad h q n (gPg pa n) n b1 l1 r1 b2 l2 r2 b3 l3 r3 uz ul uh f1 g1 f2 g2 pa kd on ot pt fb fl fh tb tl th dg ds, rfl, ⟨rfl, rfl⟩, by rw [← hAe]; exact hD9, by rw [ht]; exact hP9⟩, by rw [← hAe]; exact hS.F ht⟩) (by rw [← hAe]; exact hS.2.2) dL_next_17
set_option maxHeartbeats 4000000 in
set_option maxRecDepth 100000 in
theorem c_L_next_0 (l : Launch) (hfl : l.stackTraces = false) (D : va_G) (y : Nat → ClassId) (ad : Nat → Nat) (sz : Nat) (h : Nat) (q : Nat → Nat) (n : Nat) (b1 : Bool) (l1 r1 : Int64) (b2 : Bool) (l2 r2 : Int64) (b3 : Bool) (l3 r3 : Int64) (uz : Nat → Bool) (ul uh : Nat → Int64) (f1 g1 f2 g2 : Int64) (pa : Nat → Nat → Nat) (kd : Nat → Nat) (on ot : Nat → Int32) (pt : Nat → Int64) (fb : Nat → Nat → Bool) (fl fh : Nat → Nat → Int64) (tb : Nat → Nat → Bool) (tl th : Nat → Nat → Int64) (dg : Nat → Int32) (ds : Nat → Int64) (k d : Nat) (oa : Nat) (of : Nat → Int64) (hn : n ≤ 40) (hk : k < n) (hdi : dg k = nI d) (hd : d < 24) (hs : ¬ nxX (sp_X7_digitAt tb tl th dg ds k) (24 - d) (d + 1) = 2) : Met l yL_next wsL_next ({ frames := 4, cells := 0, slots := 0, locals := 98 } : Room) (gPN D y ad [.ref h, .int (nI k), .ref oa] (wXo oa of y ad h q n (gPg pa n) n b1 l1 r1 b2 l2 r2 b3 l3 r3 uz ul uh f1 g1 f2 g2 pa kd on ot pt fb fl fh tb tl th dg ds) sz) (gQn D (wXo oa of y ad h q n (gPg pa n) n b1 l1 r1 b2 l2 r2 b3 l3 r3 uz ul uh f1 g1 f2 g2 pa kd on ot pt fb fl fh tb tl th dg ds) (fun v w => ∃ (yb1 : Bool) (yl1 : Int64) (yr1 : Int64) (yb2 : Bool) (yl2 : Int64) (yr2 : Int64) (yb3 : Bool) (yl3 : Int64) (yr3 : Int64) (yuz : Nat → Bool) (yul : Nat → Int64) (yuh : Nat → Int64) (yf1 : Int64) (yg1 : Int64) (yf2 : Int64) (yg2 : Int64), v = some (.int 0) ∧ w = (wXo oa (vp_updL of 0 ((nxX (sp_X7_digitAt tb tl th dg ds k) (24 - d) (d + 1)).toInt64)) y ad h q n (gPg pa n) n yb1 yl1 yr1 yb2 yl2 yr2 yb3 yl3 yr3 yuz yul yuh yf1 yg1 yf2 yg2 pa kd on ot pt fb fl fh tb tl th (upd dg k (dg k + 1)) (vp_updL ds k (2 * ds k + (nxX (sp_X7_digitAt tb tl th dg ds k) (24 - d) (d + 1)).toInt64))))) 0 0 (va_A (wXo oa of y ad h q n (gPg pa n) n b1 l1 r1 b2 l2 r2 b3 l3 r3 uz ul uh f1 g1 f2 g2 pa kd on ot pt fb fl fh tb tl th dg ds) sz) := by
  refine gMet_ofWH (cc := cL_next) (maxL := 4) (ret := (some .int)) (hh := [(0, 9, 12, 20), (0, 9, 15, 15)]) (by decide) rfl ?_
  intro pg e s m args below meth c s₁ B hml hv
  obtain ⟨rfl, ⟨hsz, hP, hK, hD0, hE0⟩, hN⟩ := hv
  have hx := B.exec
  have hb := B.bytes
  have hr := B.returns
  have hts := atoms_spec (ws := wsL_next) B.pre
  have hown : s.vm.findClass RL = some m.cls := findClass_of_methodNamed B.named
  have htab : c.exceptionTable.toList = tableOf [(0, 9, 12, 20), (0, 9, 15, 15)] := vx_table (x := yL_next) B (hts _ List.mem_cons_self)
  have hlocks := B.notSynchronized
  subst hsz
  obtain ⟨A, hAe⟩ : ∃ A : Nat → Prop, A = va_A (wXo oa of y ad h q n (gPg pa n) n b1 l1 r1 b2 l2 r2 b3 l3 r3 uz ul uh f1 g1 f2 g2 pa kd on ot pt fb fl fh tb tl th dg ds) s.heap.size := ⟨_, rfl⟩
  have hE : gE ad A s s.heap := by rw [hAe]; exact hE0
  have hD : va_D A (wXo oa of y ad h q n (gPg pa n) n b1 l1 r1 b2 l2 r2 b3 l3 r3 uz ul uh f1 g1 f2 g2 pa kd on ot pt fb fl fh tb tl th dg ds) := by rw [hAe]; exact hD0.self (sz := s.heap.size)
  have hA : ∀ q : Nat, s.heap.size ≤ q → A q := fun q h => by rw [hAe]; exact Or.inr h
  have hS : va_S A s.heap s.heap [] := va_S.rf
  have hl := lv_entry ([.ref h, .int (nI k), .ref oa]) (n := 4) (Nat.le_of_ble_eq_true rfl)
  rw [lg_entry_eq]
  generalize (lg_sl ([.ref h, .int (nI k), .ref oa]) ++ List.replicate (4 - (lg_sl ([.ref h, .int (nI k), .ref oa])).length) Slot.unset).toArray = ls at hl ⊢
  have hl : lv_has ls 4 [(0, .ref h), (1, .int (nI k)), (2, .ref oa)] := hl
  refine lv_aload_n hx hb dL_next_0 rfl (lv_at hl 2 rfl) ?_
  refine lv_iconst (v := 0) hx hb dL_next_1 (by decide) ?_
  refine lv_aload_n hx hb dL_next_2 rfl (lv_at hl 0 rfl) ?_
  refine lv_iload_n hx hb dL_next_3 rfl (lv_at hl 1 rfl) ?_
  refine g_callAr (ws := [(oa, .inl (y 1, 1, .inr (.inl of)))]) (va_runV (As := [.int (nI k)]) (rest := [.int 0, .ref oa]) ⟨hx, hb, hml, hown, hts⟩ (c_X7_next_0 l hfl D y ad s.heap.size h q n b1 l1 r1 b2 l2 r2 b3 l3 r3 uz ul uh f1 g1 f2 g2 pa kd on ot pt fb fl fh tb tl th dg ds k d hn hk hdi hd hs) (cwV 1 hts gL_next_X7_next rfl rfl rfl (by decide +kernel) ⟨Nat.le_of_ble_eq_true rfl, Nat.le_of_ble_eq_true rfl⟩) (gPX_VA (va_P_r (ws := [(oa, .inl (y 1, 1, .inr (.inl of)))]) hP) (va_D_r (ws := [(oa, .inl (y 1, 1, .inr (.inl of)))]) hD) hK hE hS hA 0 rfl rfl) rfl rfl hl.1 rfl (lv_room (Nat.le_of_ble_eq_true rfl)) dL_next_4 ⟨Nat.le_of_ble_eq_true rfl, Nat.le_of_ble_eq_true rfl⟩) hP hD hS hA (fun v w1 H locs hf hP hD hS => ?_)
  obtain ⟨rfl, b1_4, l1_4, r1_4, b2_4, l2_4, r2_4, b3_4, l3_4, r3_4, uz_4, ul_4, uh_4, f1_4, g1_4, f2_4, g2_4, rfl⟩ := hf
  have hP : va_P D vwCl (wXo oa of y ad h q n (gPg pa n) n b1_4 l1_4 r1_4 b2_4 l2_4 r2_4 b3_4 l3_4 r3_4 uz_4 ul_4 uh_4 f1_4 g1_4 f2_4 g2_4 pa kd on ot pt fb fl fh tb tl th (upd dg k (dg k + 1)) (vp_updL ds k (2 * ds k + (nxX (sp_X7_digitAt tb tl th dg ds k) (24 - d) (d + 1)).toInt64))) H := hP
  have hD : va_D A (wXo oa of y ad h q n (gPg pa n) n b1_4 l1_4 r1_4 b2_4 l2_4 r2_4 b3_4 l3_4 r3_4 uz_4 ul_4 uh_4 f1_4 g1_4 f2_4 g2_4 pa kd on ot pt fb fl fh tb tl th (upd dg k (dg k + 1)) (vp_updL ds k (2 * ds k + (nxX (sp_X7_digitAt tb tl th dg ds k) (24 - d) (d + 1)).toInt64))) := hD
  refine lv_i2l (v := (nxX (sp_X7_digitAt tb tl th dg ds k) (24 - d) (d + 1)).toInt64) hx hb dL_next_7 rfl ?_
  refine g_last (k := 0) (x := (nxX (sp_X7_digitAt tb tl th dg ds k) (24 - d) (d + 1)).toInt64) hx hb hK.1 hP hD hS 0 1 rfl rfl (by omega) (by decide) dL_next_8 (fun H locs hP hD hS => ?_)
  have hP : va_P D vwCl (wXo oa (vp_updL of 0 ((nxX (sp_X7_digitAt tb tl th dg ds k) (24 - d) (d + 1)).toInt64)) y ad h q n (gPg pa n) n b1_4 l1_4 r1_4 b2_4 l2_4 r2_4 b3_4 l3_4 r3_4 uz_4 ul_4 uh_4 f1_4 g1_4 f2_4 g2_4 pa kd on ot pt fb fl fh tb tl th (upd dg k (dg k + 1)) (vp_updL ds k (2 * ds k + (nxX (sp_X7_digitAt tb tl th dg ds k) (24 - d) (d + 1)).toInt64))) H := hP
  have hD : va_D A (wXo oa (vp_updL of 0 ((nxX (sp_X7_digitAt tb tl th dg ds k) (24 - d) (d + 1)).toInt64)) y ad h q n (gPg pa n) n b1_4 l1_4 r1_4 b2_4 l2_4 r2_4 b3_4 l3_4 r3_4 uz_4 ul_4 uh_4 f1_4 g1_4 f2_4 g2_4 pa kd on ot pt fb fl fh tb tl th (upd dg k (dg k + 1)) (vp_updL ds k (2 * ds k + (nxX (sp_X7_digitAt tb tl th dg ds k) (24 - d) (d + 1)).toInt64))) := hD
  refine lv_goto (tgt := 18) hx hb dL_next_9 (by decide) ?_
  refine lv_iconst (v := 0) hx hb dL_next_18 (by decide) ?_
  have hP9 := hP
  have hD9 := hD
  exact W.iret (v := 0) hx hb hr (fun t ht hW => ⟨⟨some (.int (0)), wXo oa (vp_updL of 0 ((nxX (sp_X7_digitAt tb tl th dg ds k) (24 - d) (d + 1)).toInt64)) y ad h q n (gPg pa n) n b1_4 l1_4 r1_4 b2_4 l2_4 r2_4 b3_4 l3_4 r3_4 uz_4 ul_4 uh_4 f1_4 g1_4 f2_4 g2_4 pa kd on ot pt fb fl fh tb tl th (upd dg k (dg k + 1)) (vp_updL ds k (2 * ds k + (nxX (sp_X7_digitAt tb tl th dg ds k) (24 - d) (d + 1)).toInt64)), rfl, ⟨b1_4, l1_4, r1_4, b2_4, l2_4, r2_4, b3_4, l3_4, r3_4, uz_4, ul_4, uh_4, f1_4, g1_4, f2_4, g2_4, rfl, rfl⟩, by rw [← hAe]; exact hD9, by rw [ht]; exact hP9⟩, by rw [← hAe]; exact hS.F ht⟩) (by rw [← hAe]; exact hS.2.2) dL_next_19
set_option maxHeartbeats 4000000 in
set_option maxRecDepth 100000 in
theorem c_L_next_X3 (l : Launch) (hfl : l.stackTraces = false) (D : va_G) (y : Nat → ClassId) (ad : Nat → Nat) (sz : Nat) (h : Nat) (q : Nat → Nat) (n : Nat) (b1 : Bool) (l1 r1 : Int64) (b2 : Bool) (l2 r2 : Int64) (b3 : Bool) (l3 r3 : Int64) (uz : Nat → Bool) (ul uh : Nat → Int64) (f1 g1 f2 g2 : Int64) (pa : Nat → Nat → Nat) (kd : Nat → Nat) (on ot : Nat → Int32) (pt : Nat → Int64) (fb : Nat → Nat → Bool) (fl fh : Nat → Nat → Int64) (tb : Nat → Nat → Bool) (tl th : Nat → Nat → Int64) (dg : Nat → Int32) (ds : Nat → Int64) (k d : Nat) (oa : Nat) (of : Nat → Int64) (hn : n ≤ 40) (hk : k < n) (hdi : dg k = nI d) (hd : d < 24) (hs : nxX (sp_X7_digitAt tb tl th dg ds k) (24 - d) (d + 1) = 2) : Met l yL_next wsL_next ({ frames := 7, cells := 1, slots := 6, locals := 116 } : Room) (gPN D y ad [.ref h, .int (nI k), .ref oa] (wXo oa of y ad h q n (gPg pa n) n b1 l1 r1 b2 l2 r2 b3 l3 r3 uz ul uh f1 g1 f2 g2 pa kd on ot pt fb fl fh tb tl th dg ds) sz) (gQn D (wXo oa of y ad h q n (gPg pa n) n b1 l1 r1 b2 l2 r2 b3 l3 r3 uz ul uh f1 g1 f2 g2 pa kd on ot pt fb fl fh tb tl th dg ds) (fun v w => ∃ (yb1 : Bool) (yl1 : Int64) (yr1 : Int64) (yb2 : Bool) (yl2 : Int64) (yr2 : Int64) (yb3 : Bool) (yl3 : Int64) (yr3 : Int64) (yuz : Nat → Bool) (yul : Nat → Int64) (yuh : Nat → Int64) (yf1 : Int64) (yg1 : Int64) (yf2 : Int64) (yg2 : Int64), v = some (.int 2) ∧ w = (wXo oa of y ad h q n (gPg pa n) n yb1 yl1 yr1 yb2 yl2 yr2 yb3 yl3 yr3 yuz yul yuh yf1 yg1 yf2 yg2 pa kd on ot pt fb fl fh tb tl th dg ds))) 1 6 (va_A (wXo oa of y ad h q n (gPg pa n) n b1 l1 r1 b2 l2 r2 b3 l3 r3 uz ul uh f1 g1 f2 g2 pa kd on ot pt fb fl fh tb tl th dg ds) sz) := by
  refine gMet_ofWH (cc := cL_next) (maxL := 4) (ret := (some .int)) (hh := [(0, 9, 12, 20), (0, 9, 15, 15)]) (by decide) rfl ?_
  intro pg e s m args below meth c s₁ B hml hv
  obtain ⟨rfl, ⟨hsz, hP, hK, hD0, hE0⟩, hN⟩ := hv
  have hx := B.exec
  have hb := B.bytes
  have hr := B.returns
  have hts := atoms_spec (ws := wsL_next) B.pre
  have hown : s.vm.findClass RL = some m.cls := findClass_of_methodNamed B.named
  have htab : c.exceptionTable.toList = tableOf [(0, 9, 12, 20), (0, 9, 15, 15)] := vx_table (x := yL_next) B (hts _ List.mem_cons_self)
  have hlocks := B.notSynchronized
  subst hsz
  obtain ⟨A, hAe⟩ : ∃ A : Nat → Prop, A = va_A (wXo oa of y ad h q n (gPg pa n) n b1 l1 r1 b2 l2 r2 b3 l3 r3 uz ul uh f1 g1 f2 g2 pa kd on ot pt fb fl fh tb tl th dg ds) s.heap.size := ⟨_, rfl⟩
  have hE : gE ad A s s.heap := by rw [hAe]; exact hE0
  have hD : va_D A (wXo oa of y ad h q n (gPg pa n) n b1 l1 r1 b2 l2 r2 b3 l3 r3 uz ul uh f1 g1 f2 g2 pa kd on ot pt fb fl fh tb tl th dg ds) := by rw [hAe]; exact hD0.self (sz := s.heap.size)
  have hA : ∀ q : Nat, s.heap.size ≤ q → A q := fun q h => by rw [hAe]; exact Or.inr h
  have hS : va_S A s.heap s.heap [] := va_S.rf
  have hl := lv_entry ([.ref h, .int (nI k), .ref oa]) (n := 4) (Nat.le_of_ble_eq_true rfl)
  rw [lg_entry_eq]
  generalize (lg_sl ([.ref h, .int (nI k), .ref oa]) ++ List.replicate (4 - (lg_sl ([.ref h, .int (nI k), .ref oa])).length) Slot.unset).toArray = ls at hl ⊢
  have hl : lv_has ls 4 [(0, .ref h), (1, .int (nI k)), (2, .ref oa)] := hl
  refine lv_aload_n hx hb dL_next_0 rfl (lv_at hl 2 rfl) ?_
  refine lv_iconst (v := 0) hx hb dL_next_1 (by decide) ?_
  refine lv_aload_n hx hb dL_next_2 rfl (lv_at hl 0 rfl) ?_
  refine lv_iload_n hx hb dL_next_3 rfl (lv_at hl 1 rfl) ?_
  refine g_catch (name := gISE) (ws := [(oa, .inl (y 1, 1, .inr (.inl of)))]) (vx_runV (As := [.int (nI k)]) (rest := [.int 0, .ref oa]) ⟨hx, hb, hml, hown, hts⟩ (c_X7_next_X3 l hfl D y ad s.heap.size h q n b1 l1 r1 b2 l2 r2 b3 l3 r3 uz ul uh f1 g1 f2 g2 pa kd on ot pt fb fl fh tb tl th dg ds k d hn hk hdi hd hs) (cwV 1 hts gL_next_X7_next rfl rfl rfl (by decide +kernel) ⟨Nat.le_of_ble_eq_true rfl, Nat.le_of_ble_eq_true rfl⟩) (gPX_VA (va_P_r (ws := [(oa, .inl (y 1, 1, .inr (.inl of)))]) hP) (va_D_r (ws := [(oa, .inl (y 1, 1, .inr (.inl of)))]) hD) hK hE hS hA 0 rfl rfl) rfl rfl hl.1 rfl (lv_room (Nat.le_of_ble_eq_true rfl)) dL_next_4 ⟨Nat.le_of_ble_eq_true rfl, Nat.le_of_ble_eq_true rfl⟩) hP hD hS hA hown [⟨0, 9, 12, 20⟩] ⟨0, 9, 15, 15⟩ [] (by rw [htab]; rfl) (fun z hz => by rcases List.mem_singleton.mp hz with rfl; exact Or.inr ⟨by decide, _, (hts (.classLink RL 20 "java/lang/IndexOutOfBoundsException") (List.mem_of_getElem? (i := 1) rfl)), hN.2.1⟩) (by decide) (by decide) (hts (.classLink RL 15 "java/lang/IllegalStateException") (List.mem_of_getElem? (i := 2) rfl)) (hE.cw (Cond.castable gISE gISE) (List.mem_of_getElem? (i := 4) rfl)) (fun q9 w1 H locs hf hP hD hS => ?_)
  obtain ⟨b1_4, l1_4, r1_4, b2_4, l2_4, r2_4, b3_4, l3_4, r3_4, uz_4, ul_4, uh_4, f1_4, g1_4, f2_4, g2_4, rfl⟩ := hf
  have hP : va_P D vwCl (wXo oa of y ad h q n (gPg pa n) n b1_4 l1_4 r1_4 b2_4 l2_4 r2_4 b3_4 l3_4 r3_4 uz_4 ul_4 uh_4 f1_4 g1_4 f2_4 g2_4 pa kd on ot pt fb fl fh tb tl th dg ds) H := hP
  have hD : va_D A (wXo oa of y ad h q n (gPg pa n) n b1_4 l1_4 r1_4 b2_4 l2_4 r2_4 b3_4 l3_4 r3_4 uz_4 ul_4 uh_4 f1_4 g1_4 f2_4 g2_4 pa kd on ot pt fb fl fh tb tl th dg ds) := hD
  refine lv_astore_n (lv' := [(3, .ref q9), (0, .ref h), (1, .int (nI k)), (2, .ref oa)]) hx hb dL_next_15 rfl hl (by decide) rfl (fun ls hl => ?_)
  refine lv_iconst (v := 2) hx hb dL_next_16 (by decide) ?_
  have hP9 := hP
  have hD9 := hD
  exact W.iret (v := 2) hx hb hr (fun t ht hW => ⟨⟨some (.int (2)), wXo oa of y ad h q n (gPg pa n) n b1_4 l1_4 r1_4 b2_4 l2_4 r2_4 b3_4 l3_4 r3_4 uz_4 ul_4 uh_4 f1_4 g1_4 f2_4 g2_4 pa kd on ot pt fb fl fh tb tl th dg ds, rfl, ⟨b1_4, l1_4, r1_4, b2_4, l2_4, r2_4, b3_4, l3_4, r3_4, uz_4, ul_4, uh_4, f1_4, g1_4, f2_4, g2_4, rfl, rfl⟩, by rw [← hAe]; exact hD9, by rw [ht]; exact hP9⟩, by rw [← hAe]; exact hS.F ht⟩) (by rw [← hAe]; exact hS.2.2) dL_next_17
set_option maxHeartbeats 4000000 in
set_option maxRecDepth 100000 in
theorem c_L_emitted_X1 (l : Launch) (hfl : l.stackTraces = false) (D : va_G) (y : Nat → ClassId) (ad : Nat → Nat) (sz : Nat) (h : Nat) (q : Nat → Nat) (n : Nat) (b1 : Bool) (l1 r1 : Int64) (b2 : Bool) (l2 r2 : Int64) (b3 : Bool) (l3 r3 : Int64) (uz : Nat → Bool) (ul uh : Nat → Int64) (f1 g1 f2 g2 : Int64) (pa : Nat → Nat → Nat) (kd : Nat → Nat) (on ot : Nat → Int32) (pt : Nat → Int64) (fb : Nat → Nat → Bool) (fl fh : Nat → Nat → Int64) (tb : Nat → Nat → Bool) (tl th : Nat → Nat → Int64) (dg : Nat → Int32) (ds : Nat → Int64) (a : Int32) (oa : Nat) (of : Nat → Int64) (hbad : a < 0 ∨ nI n ≤ a) : Met l yL_emitted wsL_emitted ({ frames := 8, cells := 1, slots := 6, locals := 135 } : Room) (gPN D y ad [.ref h, .int a, .ref oa] (wXo oa of y ad h q n (gPg pa n) n b1 l1 r1 b2 l2 r2 b3 l3 r3 uz ul uh f1 g1 f2 g2 pa kd on ot pt fb fl fh tb tl th dg ds) sz) (gQn D (wXo oa of y ad h q n (gPg pa n) n b1 l1 r1 b2 l2 r2 b3 l3 r3 uz ul uh f1 g1 f2 g2 pa kd on ot pt fb fl fh tb tl th dg ds) (fun v w => v = some (.int 1) ∧ w = (wXo oa of y ad h q n (gPg pa n) n b1 l1 r1 b2 l2 r2 b3 l3 r3 uz ul uh f1 g1 f2 g2 pa kd on ot pt fb fl fh tb tl th dg ds))) 1 6 (va_A (wXo oa of y ad h q n (gPg pa n) n b1 l1 r1 b2 l2 r2 b3 l3 r3 uz ul uh f1 g1 f2 g2 pa kd on ot pt fb fl fh tb tl th dg ds) sz) := by
  refine gMet_ofWH (cc := cL_emitted) (maxL := 4) (ret := (some .int)) (hh := [(0, 9, 12, 20)]) (by decide) rfl ?_
  intro pg e s m args below meth c s₁ B hml hv
  obtain ⟨rfl, ⟨hsz, hP, hK, hD0, hE0⟩, hN⟩ := hv
  have hx := B.exec
  have hb := B.bytes
  have hr := B.returns
  have hts := atoms_spec (ws := wsL_emitted) B.pre
  have hown : s.vm.findClass RL = some m.cls := findClass_of_methodNamed B.named
  have htab : c.exceptionTable.toList = tableOf [(0, 9, 12, 20)] := vx_table (x := yL_emitted) B (hts _ List.mem_cons_self)
  have hlocks := B.notSynchronized
  subst hsz
  obtain ⟨A, hAe⟩ : ∃ A : Nat → Prop, A = va_A (wXo oa of y ad h q n (gPg pa n) n b1 l1 r1 b2 l2 r2 b3 l3 r3 uz ul uh f1 g1 f2 g2 pa kd on ot pt fb fl fh tb tl th dg ds) s.heap.size := ⟨_, rfl⟩
  have hE : gE ad A s s.heap := by rw [hAe]; exact hE0
  have hD : va_D A (wXo oa of y ad h q n (gPg pa n) n b1 l1 r1 b2 l2 r2 b3 l3 r3 uz ul uh f1 g1 f2 g2 pa kd on ot pt fb fl fh tb tl th dg ds) := by rw [hAe]; exact hD0.self (sz := s.heap.size)
  have hA : ∀ q : Nat, s.heap.size ≤ q → A q := fun q h => by rw [hAe]; exact Or.inr h
  have hS : va_S A s.heap s.heap [] := va_S.rf
  have hl := lv_entry ([.ref h, .int a, .ref oa]) (n := 4) (Nat.le_of_ble_eq_true rfl)
  rw [lg_entry_eq]
  generalize (lg_sl ([.ref h, .int a, .ref oa]) ++ List.replicate (4 - (lg_sl ([.ref h, .int a, .ref oa])).length) Slot.unset).toArray = ls at hl ⊢
  have hl : lv_has ls 4 [(0, .ref h), (1, .int a), (2, .ref oa)] := hl
  refine lv_aload_n hx hb dL_emitted_0 rfl (lv_at hl 2 rfl) ?_
  refine lv_iconst (v := 0) hx hb dL_emitted_1 (by decide) ?_
  refine lv_aload_n hx hb dL_emitted_2 rfl (lv_at hl 0 rfl) ?_
  refine lv_iload_n hx hb dL_emitted_3 rfl (lv_at hl 1 rfl) ?_
  refine g_catch (name := gIOB) (ws := [(oa, .inl (y 1, 1, .inr (.inl of)))]) (vx_runV (As := [.int a]) (rest := [.int 0, .ref oa]) ⟨hx, hb, hml, hown, hts⟩ (c_X7_emitted_X1 l hfl D y ad s.heap.size h q n b1 l1 r1 b2 l2 r2 b3 l3 r3 uz ul uh f1 g1 f2 g2 pa kd on ot pt fb fl fh tb tl th dg ds a hbad) (cwV 1 hts gL_emitted_X7_emitted rfl rfl rfl (by decide +kernel) ⟨Nat.le_of_ble_eq_true rfl, Nat.le_of_ble_eq_true rfl⟩) (gPX_VA (va_P_r (ws := [(oa, .inl (y 1, 1, .inr (.inl of)))]) hP) (va_D_r (ws := [(oa, .inl (y 1, 1, .inr (.inl of)))]) hD) hK hE hS hA 0 rfl rfl) rfl rfl hl.1 rfl (lv_room (Nat.le_of_ble_eq_true rfl)) dL_emitted_4 ⟨Nat.le_of_ble_eq_true rfl, Nat.le_of_ble_eq_true rfl⟩) hP hD hS hA hown [] ⟨0, 9, 12, 20⟩ [] (by rw [htab]; rfl) (fun z hz => absurd hz List.not_mem_nil) (by decide) (by decide) (hts (.classLink RL 20 "java/lang/IndexOutOfBoundsException") (List.mem_of_getElem? (i := 1) rfl)) (hE.cw (Cond.castable gIOB gIOB) (List.mem_of_getElem? (i := 5) rfl)) (fun q9 w1 H locs hf hP hD hS => ?_)
  obtain rfl : w1 = wXp y ad h q n b1 l1 r1 b2 l2 r2 b3 l3 r3 uz ul uh f1 g1 f2 g2 pa kd on ot pt fb fl fh tb tl th dg ds := hf
  have hP : va_P D vwCl (wXo oa of y ad h q n (gPg pa n) n b1 l1 r1 b2 l2 r2 b3 l3 r3 uz ul uh f1 g1 f2 g2 pa kd on ot pt fb fl fh tb tl th dg ds) H := hP
  have hD : va_D A (wXo oa of y ad h q n (gPg pa n) n b1 l1 r1 b2 l2 r2 b3 l3 r3 uz ul uh f1 g1 f2 g2 pa kd on ot pt fb fl fh tb tl th dg ds) := hD
  refine lv_astore_n (lv' := [(3, .ref q9), (0, .ref h), (1, .int a), (2, .ref oa)]) hx hb dL_emitted_12 rfl hl (by decide) rfl (fun ls hl => ?_)
  refine lv_iconst (v := 1) hx hb dL_emitted_13 (by decide) ?_
  have hP9 := hP
  have hD9 := hD
  exact W.iret (v := 1) hx hb hr (fun t ht hW => ⟨⟨some (.int (1)), wXo oa of y ad h q n (gPg pa n) n b1 l1 r1 b2 l2 r2 b3 l3 r3 uz ul uh f1 g1 f2 g2 pa kd on ot pt fb fl fh tb tl th dg ds, rfl, ⟨rfl, rfl⟩, by rw [← hAe]; exact hD9, by rw [ht]; exact hP9⟩, by rw [← hAe]; exact hS.F ht⟩) (by rw [← hAe]; exact hS.2.2) dL_emitted_14
set_option maxHeartbeats 4000000 in
set_option maxRecDepth 100000 in
theorem c_L_emitted_0 (l : Launch) (hfl : l.stackTraces = false) (D : va_G) (y : Nat → ClassId) (ad : Nat → Nat) (sz : Nat) (h : Nat) (q : Nat → Nat) (n : Nat) (b1 : Bool) (l1 r1 : Int64) (b2 : Bool) (l2 r2 : Int64) (b3 : Bool) (l3 r3 : Int64) (uz : Nat → Bool) (ul uh : Nat → Int64) (f1 g1 f2 g2 : Int64) (pa : Nat → Nat → Nat) (kd : Nat → Nat) (on ot : Nat → Int32) (pt : Nat → Int64) (fb : Nat → Nat → Bool) (fl fh : Nat → Nat → Int64) (tb : Nat → Nat → Bool) (tl th : Nat → Nat → Int64) (dg : Nat → Int32) (ds : Nat → Int64) (k : Nat) (oa : Nat) (of : Nat → Int64) (hn : n ≤ 40) (hk : k < n) : Met l yL_emitted wsL_emitted ({ frames := 2, cells := 0, slots := 0, locals := 43 } : Room) (gPN D y ad [.ref h, .int (nI k), .ref oa] (wXo oa of y ad h q n (gPg pa n) n b1 l1 r1 b2 l2 r2 b3 l3 r3 uz ul uh f1 g1 f2 g2 pa kd on ot pt fb fl fh tb tl th dg ds) sz) (gQn D (wXo oa of y ad h q n (gPg pa n) n b1 l1 r1 b2 l2 r2 b3 l3 r3 uz ul uh f1 g1 f2 g2 pa kd on ot pt fb fl fh tb tl th dg ds) (fun v w => v = some (.int 0) ∧ w = (wXo oa (vp_updL of 0 ((dg k).toInt64)) y ad h q n (gPg pa n) n b1 l1 r1 b2 l2 r2 b3 l3 r3 uz ul uh f1 g1 f2 g2 pa kd on ot pt fb fl fh tb tl th dg ds))) 0 0 (va_A (wXo oa of y ad h q n (gPg pa n) n b1 l1 r1 b2 l2 r2 b3 l3 r3 uz ul uh f1 g1 f2 g2 pa kd on ot pt fb fl fh tb tl th dg ds) sz) := by
  refine gMet_ofWH (cc := cL_emitted) (maxL := 4) (ret := (some .int)) (hh := [(0, 9, 12, 20)]) (by decide) rfl ?_
  intro pg e s m args below meth c s₁ B hml hv
  obtain ⟨rfl, ⟨hsz, hP, hK, hD0, hE0⟩, hN⟩ := hv
  have hx := B.exec
  have hb := B.bytes
  have hr := B.returns
  have hts := atoms_spec (ws := wsL_emitted) B.pre
  have hown : s.vm.findClass RL = some m.cls := findClass_of_methodNamed B.named
  have htab : c.exceptionTable.toList = tableOf [(0, 9, 12, 20)] := vx_table (x := yL_emitted) B (hts _ List.mem_cons_self)
  have hlocks := B.notSynchronized
  subst hsz
  obtain ⟨A, hAe⟩ : ∃ A : Nat → Prop, A = va_A (wXo oa of y ad h q n (gPg pa n) n b1 l1 r1 b2 l2 r2 b3 l3 r3 uz ul uh f1 g1 f2 g2 pa kd on ot pt fb fl fh tb tl th dg ds) s.heap.size := ⟨_, rfl⟩
  have hE : gE ad A s s.heap := by rw [hAe]; exact hE0
  have hD : va_D A (wXo oa of y ad h q n (gPg pa n) n b1 l1 r1 b2 l2 r2 b3 l3 r3 uz ul uh f1 g1 f2 g2 pa kd on ot pt fb fl fh tb tl th dg ds) := by rw [hAe]; exact hD0.self (sz := s.heap.size)
  have hA : ∀ q : Nat, s.heap.size ≤ q → A q := fun q h => by rw [hAe]; exact Or.inr h
  have hS : va_S A s.heap s.heap [] := va_S.rf
  have hl := lv_entry ([.ref h, .int (nI k), .ref oa]) (n := 4) (Nat.le_of_ble_eq_true rfl)
  rw [lg_entry_eq]
  generalize (lg_sl ([.ref h, .int (nI k), .ref oa]) ++ List.replicate (4 - (lg_sl ([.ref h, .int (nI k), .ref oa])).length) Slot.unset).toArray = ls at hl ⊢
  have hl : lv_has ls 4 [(0, .ref h), (1, .int (nI k)), (2, .ref oa)] := hl
  refine lv_aload_n hx hb dL_emitted_0 rfl (lv_at hl 2 rfl) ?_
  refine lv_iconst (v := 0) hx hb dL_emitted_1 (by decide) ?_
  refine lv_aload_n hx hb dL_emitted_2 rfl (lv_at hl 0 rfl) ?_
  refine lv_iload_n hx hb dL_emitted_3 rfl (lv_at hl 1 rfl) ?_
  refine g_callR (v0 := .int (dg k)) (va_runV (As := [.int (nI k)]) (rest := [.int 0, .ref oa]) ⟨hx, hb, hml, hown, hts⟩ (c_X7_emitted_0 l hfl D y ad s.heap.size h q n b1 l1 r1 b2 l2 r2 b3 l3 r3 uz ul uh f1 g1 f2 g2 pa kd on ot pt fb fl fh tb tl th dg ds k hn hk) (cwV 1 hts gL_emitted_X7_emitted rfl rfl rfl (by decide +kernel) ⟨Nat.le_of_ble_eq_true rfl, Nat.le_of_ble_eq_true rfl⟩) (gPX_VA (va_P_r (ws := [(oa, .inl (y 1, 1, .inr (.inl of)))]) hP) (va_D_r (ws := [(oa, .inl (y 1, 1, .inr (.inl of)))]) hD) hK hE hS hA 0 rfl rfl) rfl rfl hl.1 rfl (lv_room (Nat.le_of_ble_eq_true rfl)) dL_emitted_4 ⟨Nat.le_of_ble_eq_true rfl, Nat.le_of_ble_eq_true rfl⟩) ?_
  refine lv_i2l (v := (dg k).toInt64) hx hb dL_emitted_7 rfl ?_
  refine g_last (k := 0) (x := (dg k).toInt64) hx hb hK.1 hP hD hS 0 1 rfl rfl (by omega) (by decide) dL_emitted_8 (fun H locs hP hD hS => ?_)
  have hP : va_P D vwCl (wXo oa (vp_updL of 0 ((dg k).toInt64)) y ad h q n (gPg pa n) n b1 l1 r1 b2 l2 r2 b3 l3 r3 uz ul uh f1 g1 f2 g2 pa kd on ot pt fb fl fh tb tl th dg ds) H := hP
  have hD : va_D A (wXo oa (vp_updL of 0 ((dg k).toInt64)) y ad h q n (gPg pa n) n b1 l1 r1 b2 l2 r2 b3 l3 r3 uz ul uh f1 g1 f2 g2 pa kd on ot pt fb fl fh tb tl th dg ds) := hD
  refine lv_goto (tgt := 15) hx hb dL_emitted_9 (by decide) ?_
  refine lv_iconst (v := 0) hx hb dL_emitted_15 (by decide) ?_
  have hP9 := hP
  have hD9 := hD
  exact W.iret (v := 0) hx hb hr (fun t ht hW => ⟨⟨some (.int (0)), wXo oa (vp_updL of 0 ((dg k).toInt64)) y ad h q n (gPg pa n) n b1 l1 r1 b2 l2 r2 b3 l3 r3 uz ul uh f1 g1 f2 g2 pa kd on ot pt fb fl fh tb tl th dg ds, rfl, ⟨rfl, rfl⟩, by rw [← hAe]; exact hD9, by rw [ht]; exact hP9⟩, by rw [← hAe]; exact hS.F ht⟩) (by rw [← hAe]; exact hS.2.2) dL_emitted_16
set_option maxHeartbeats 4000000 in
set_option maxRecDepth 100000 in
theorem c_L_partial_X1 (l : Launch) (hfl : l.stackTraces = false) (D : va_G) (y : Nat → ClassId) (ad : Nat → Nat) (sz : Nat) (h : Nat) (q : Nat → Nat) (n : Nat) (b1 : Bool) (l1 r1 : Int64) (b2 : Bool) (l2 r2 : Int64) (b3 : Bool) (l3 r3 : Int64) (uz : Nat → Bool) (ul uh : Nat → Int64) (f1 g1 f2 g2 : Int64) (pa : Nat → Nat → Nat) (kd : Nat → Nat) (on ot : Nat → Int32) (pt : Nat → Int64) (fb : Nat → Nat → Bool) (fl fh : Nat → Nat → Int64) (tb : Nat → Nat → Bool) (tl th : Nat → Nat → Int64) (dg : Nat → Int32) (ds : Nat → Int64) (a : Int32) (oa : Nat) (of : Nat → Int64) (hbad : a < 0 ∨ nI n ≤ a) : Met l yL_partial wsL_partial ({ frames := 8, cells := 1, slots := 6, locals := 135 } : Room) (gPN D y ad [.ref h, .int a, .ref oa] (wXo oa of y ad h q n (gPg pa n) n b1 l1 r1 b2 l2 r2 b3 l3 r3 uz ul uh f1 g1 f2 g2 pa kd on ot pt fb fl fh tb tl th dg ds) sz) (gQn D (wXo oa of y ad h q n (gPg pa n) n b1 l1 r1 b2 l2 r2 b3 l3 r3 uz ul uh f1 g1 f2 g2 pa kd on ot pt fb fl fh tb tl th dg ds) (fun v w => v = some (.int 1) ∧ w = (wXo oa of y ad h q n (gPg pa n) n b1 l1 r1 b2 l2 r2 b3 l3 r3 uz ul uh f1 g1 f2 g2 pa kd on ot pt fb fl fh tb tl th dg ds))) 1 6 (va_A (wXo oa of y ad h q n (gPg pa n) n b1 l1 r1 b2 l2 r2 b3 l3 r3 uz ul uh f1 g1 f2 g2 pa kd on ot pt fb fl fh tb tl th dg ds) sz) := by
  refine gMet_ofWH (cc := cL_partial) (maxL := 4) (ret := (some .int)) (hh := [(0, 8, 11, 20)]) (by decide) rfl ?_
  intro pg e s m args below meth c s₁ B hml hv
  obtain ⟨rfl, ⟨hsz, hP, hK, hD0, hE0⟩, hN⟩ := hv
  have hx := B.exec
  have hb := B.bytes
  have hr := B.returns
  have hts := atoms_spec (ws := wsL_partial) B.pre
  have hown : s.vm.findClass RL = some m.cls := findClass_of_methodNamed B.named
  have htab : c.exceptionTable.toList = tableOf [(0, 8, 11, 20)] := vx_table (x := yL_partial) B (hts _ List.mem_cons_self)
  have hlocks := B.notSynchronized
  subst hsz
  obtain ⟨A, hAe⟩ : ∃ A : Nat → Prop, A = va_A (wXo oa of y ad h q n (gPg pa n) n b1 l1 r1 b2 l2 r2 b3 l3 r3 uz ul uh f1 g1 f2 g2 pa kd on ot pt fb fl fh tb tl th dg ds) s.heap.size := ⟨_, rfl⟩
  have hE : gE ad A s s.heap := by rw [hAe]; exact hE0
  have hD : va_D A (wXo oa of y ad h q n (gPg pa n) n b1 l1 r1 b2 l2 r2 b3 l3 r3 uz ul uh f1 g1 f2 g2 pa kd on ot pt fb fl fh tb tl th dg ds) := by rw [hAe]; exact hD0.self (sz := s.heap.size)
  have hA : ∀ q : Nat, s.heap.size ≤ q → A q := fun q h => by rw [hAe]; exact Or.inr h
  have hS : va_S A s.heap s.heap [] := va_S.rf
  have hl := lv_entry ([.ref h, .int a, .ref oa]) (n := 4) (Nat.le_of_ble_eq_true rfl)
  rw [lg_entry_eq]
  generalize (lg_sl ([.ref h, .int a, .ref oa]) ++ List.replicate (4 - (lg_sl ([.ref h, .int a, .ref oa])).length) Slot.unset).toArray = ls at hl ⊢
  have hl : lv_has ls 4 [(0, .ref h), (1, .int a), (2, .ref oa)] := hl
  refine lv_aload_n hx hb dL_partial_0 rfl (lv_at hl 2 rfl) ?_
  refine lv_iconst (v := 0) hx hb dL_partial_1 (by decide) ?_
  refine lv_aload_n hx hb dL_partial_2 rfl (lv_at hl 0 rfl) ?_
  refine lv_iload_n hx hb dL_partial_3 rfl (lv_at hl 1 rfl) ?_
  refine g_catch (name := gIOB) (ws := [(oa, .inl (y 1, 1, .inr (.inl of)))]) (vx_runV (As := [.int a]) (rest := [.int 0, .ref oa]) ⟨hx, hb, hml, hown, hts⟩ (c_X7_partial_X1 l hfl D y ad s.heap.size h q n b1 l1 r1 b2 l2 r2 b3 l3 r3 uz ul uh f1 g1 f2 g2 pa kd on ot pt fb fl fh tb tl th dg ds a hbad) (cwV 1 hts gL_partial_X7_partial rfl rfl rfl (by decide +kernel) ⟨Nat.le_of_ble_eq_true rfl, Nat.le_of_ble_eq_true rfl⟩) (gPX_VA (va_P_r (ws := [(oa, .inl (y 1, 1, .inr (.inl of)))]) hP) (va_D_r (ws := [(oa, .inl (y 1, 1, .inr (.inl of)))]) hD) hK hE hS hA 0 rfl rfl) rfl rfl hl.1 rfl (lv_room (Nat.le_of_ble_eq_true rfl)) dL_partial_4 ⟨Nat.le_of_ble_eq_true rfl, Nat.le_of_ble_eq_true rfl⟩) hP hD hS hA hown [] ⟨0, 8, 11, 20⟩ [] (by rw [htab]; rfl) (fun z hz => absurd hz List.not_mem_nil) (by decide) (by decide) (hts (.classLink RL 20 "java/lang/IndexOutOfBoundsException") (List.mem_of_getElem? (i := 1) rfl)) (hE.cw (Cond.castable gIOB gIOB) (List.mem_of_getElem? (i := 5) rfl)) (fun q9 w1 H locs hf hP hD hS => ?_)
  obtain rfl : w1 = wXp y ad h q n b1 l1 r1 b2 l2 r2 b3 l3 r3 uz ul uh f1 g1 f2 g2 pa kd on ot pt fb fl fh tb tl th dg ds := hf
  have hP : va_P D vwCl (wXo oa of y ad h q n (gPg pa n) n b1 l1 r1 b2 l2 r2 b3 l3 r3 uz ul uh f1 g1 f2 g2 pa kd on ot pt fb fl fh tb tl th dg ds) H := hP
  have hD : va_D A (wXo oa of y ad h q n (gPg pa n) n b1 l1 r1 b2 l2 r2 b3 l3 r3 uz ul uh f1 g1 f2 g2 pa kd on ot pt fb fl fh tb tl th dg ds) := hD
  refine lv_astore_n (lv' := [(3, .ref q9), (0, .ref h), (1, .int a), (2, .ref oa)]) hx hb dL_partial_11 rfl hl (by decide) rfl (fun ls hl => ?_)
  refine lv_iconst (v := 1) hx hb dL_partial_12 (by decide) ?_
  have hP9 := hP
  have hD9 := hD
  exact W.iret (v := 1) hx hb hr (fun t ht hW => ⟨⟨some (.int (1)), wXo oa of y ad h q n (gPg pa n) n b1 l1 r1 b2 l2 r2 b3 l3 r3 uz ul uh f1 g1 f2 g2 pa kd on ot pt fb fl fh tb tl th dg ds, rfl, ⟨rfl, rfl⟩, by rw [← hAe]; exact hD9, by rw [ht]; exact hP9⟩, by rw [← hAe]; exact hS.F ht⟩) (by rw [← hAe]; exact hS.2.2) dL_partial_13
set_option maxHeartbeats 4000000 in
set_option maxRecDepth 100000 in
theorem c_L_partial_0 (l : Launch) (hfl : l.stackTraces = false) (D : va_G) (y : Nat → ClassId) (ad : Nat → Nat) (sz : Nat) (h : Nat) (q : Nat → Nat) (n : Nat) (b1 : Bool) (l1 r1 : Int64) (b2 : Bool) (l2 r2 : Int64) (b3 : Bool) (l3 r3 : Int64) (uz : Nat → Bool) (ul uh : Nat → Int64) (f1 g1 f2 g2 : Int64) (pa : Nat → Nat → Nat) (kd : Nat → Nat) (on ot : Nat → Int32) (pt : Nat → Int64) (fb : Nat → Nat → Bool) (fl fh : Nat → Nat → Int64) (tb : Nat → Nat → Bool) (tl th : Nat → Nat → Int64) (dg : Nat → Int32) (ds : Nat → Int64) (k : Nat) (oa : Nat) (of : Nat → Int64) (hn : n ≤ 40) (hk : k < n) : Met l yL_partial wsL_partial ({ frames := 2, cells := 0, slots := 0, locals := 43 } : Room) (gPN D y ad [.ref h, .int (nI k), .ref oa] (wXo oa of y ad h q n (gPg pa n) n b1 l1 r1 b2 l2 r2 b3 l3 r3 uz ul uh f1 g1 f2 g2 pa kd on ot pt fb fl fh tb tl th dg ds) sz) (gQn D (wXo oa of y ad h q n (gPg pa n) n b1 l1 r1 b2 l2 r2 b3 l3 r3 uz ul uh f1 g1 f2 g2 pa kd on ot pt fb fl fh tb tl th dg ds) (fun v w => v = some (.int 0) ∧ w = (wXo oa (vp_updL of 0 (ds k)) y ad h q n (gPg pa n) n b1 l1 r1 b2 l2 r2 b3 l3 r3 uz ul uh f1 g1 f2 g2 pa kd on ot pt fb fl fh tb tl th dg ds))) 0 0 (va_A (wXo oa of y ad h q n (gPg pa n) n b1 l1 r1 b2 l2 r2 b3 l3 r3 uz ul uh f1 g1 f2 g2 pa kd on ot pt fb fl fh tb tl th dg ds) sz) := by
  refine gMet_ofWH (cc := cL_partial) (maxL := 4) (ret := (some .int)) (hh := [(0, 8, 11, 20)]) (by decide) rfl ?_
  intro pg e s m args below meth c s₁ B hml hv
  obtain ⟨rfl, ⟨hsz, hP, hK, hD0, hE0⟩, hN⟩ := hv
  have hx := B.exec
  have hb := B.bytes
  have hr := B.returns
  have hts := atoms_spec (ws := wsL_partial) B.pre
  have hown : s.vm.findClass RL = some m.cls := findClass_of_methodNamed B.named
  have htab : c.exceptionTable.toList = tableOf [(0, 8, 11, 20)] := vx_table (x := yL_partial) B (hts _ List.mem_cons_self)
  have hlocks := B.notSynchronized
  subst hsz
  obtain ⟨A, hAe⟩ : ∃ A : Nat → Prop, A = va_A (wXo oa of y ad h q n (gPg pa n) n b1 l1 r1 b2 l2 r2 b3 l3 r3 uz ul uh f1 g1 f2 g2 pa kd on ot pt fb fl fh tb tl th dg ds) s.heap.size := ⟨_, rfl⟩
  have hE : gE ad A s s.heap := by rw [hAe]; exact hE0
  have hD : va_D A (wXo oa of y ad h q n (gPg pa n) n b1 l1 r1 b2 l2 r2 b3 l3 r3 uz ul uh f1 g1 f2 g2 pa kd on ot pt fb fl fh tb tl th dg ds) := by rw [hAe]; exact hD0.self (sz := s.heap.size)
  have hA : ∀ q : Nat, s.heap.size ≤ q → A q := fun q h => by rw [hAe]; exact Or.inr h
  have hS : va_S A s.heap s.heap [] := va_S.rf
  have hl := lv_entry ([.ref h, .int (nI k), .ref oa]) (n := 4) (Nat.le_of_ble_eq_true rfl)
  rw [lg_entry_eq]
  generalize (lg_sl ([.ref h, .int (nI k), .ref oa]) ++ List.replicate (4 - (lg_sl ([.ref h, .int (nI k), .ref oa])).length) Slot.unset).toArray = ls at hl ⊢
  have hl : lv_has ls 4 [(0, .ref h), (1, .int (nI k)), (2, .ref oa)] := hl
  refine lv_aload_n hx hb dL_partial_0 rfl (lv_at hl 2 rfl) ?_
  refine lv_iconst (v := 0) hx hb dL_partial_1 (by decide) ?_
  refine lv_aload_n hx hb dL_partial_2 rfl (lv_at hl 0 rfl) ?_
  refine lv_iload_n hx hb dL_partial_3 rfl (lv_at hl 1 rfl) ?_
  refine g_callR (v0 := .long (ds k)) (va_runV (As := [.int (nI k)]) (rest := [.int 0, .ref oa]) ⟨hx, hb, hml, hown, hts⟩ (c_X7_partial_0 l hfl D y ad s.heap.size h q n b1 l1 r1 b2 l2 r2 b3 l3 r3 uz ul uh f1 g1 f2 g2 pa kd on ot pt fb fl fh tb tl th dg ds k hn hk) (cwV 1 hts gL_partial_X7_partial rfl rfl rfl (by decide +kernel) ⟨Nat.le_of_ble_eq_true rfl, Nat.le_of_ble_eq_true rfl⟩) (gPX_VA (va_P_r (ws := [(oa, .inl (y 1, 1, .inr (.inl of)))]) hP) (va_D_r (ws := [(oa, .inl (y 1, 1, .inr (.inl of)))]) hD) hK hE hS hA 0 rfl rfl) rfl rfl hl.1 rfl (lv_room (Nat.le_of_ble_eq_true rfl)) dL_partial_4 ⟨Nat.le_of_ble_eq_true rfl, Nat.le_of_ble_eq_true rfl⟩) ?_
  refine g_last (k := 0) (x := ds k) hx hb hK.1 hP hD hS 0 1 rfl rfl (by omega) (by decide) dL_partial_7 (fun H locs hP hD hS => ?_)
  have hP : va_P D vwCl (wXo oa (vp_updL of 0 (ds k)) y ad h q n (gPg pa n) n b1 l1 r1 b2 l2 r2 b3 l3 r3 uz ul uh f1 g1 f2 g2 pa kd on ot pt fb fl fh tb tl th dg ds) H := hP
  have hD : va_D A (wXo oa (vp_updL of 0 (ds k)) y ad h q n (gPg pa n) n b1 l1 r1 b2 l2 r2 b3 l3 r3 uz ul uh f1 g1 f2 g2 pa kd on ot pt fb fl fh tb tl th dg ds) := hD
  refine lv_goto (tgt := 14) hx hb dL_partial_8 (by decide) ?_
  refine lv_iconst (v := 0) hx hb dL_partial_14 (by decide) ?_
  have hP9 := hP
  have hD9 := hD
  exact W.iret (v := 0) hx hb hr (fun t ht hW => ⟨⟨some (.int (0)), wXo oa (vp_updL of 0 (ds k)) y ad h q n (gPg pa n) n b1 l1 r1 b2 l2 r2 b3 l3 r3 uz ul uh f1 g1 f2 g2 pa kd on ot pt fb fl fh tb tl th dg ds, rfl, ⟨rfl, rfl⟩, by rw [← hAe]; exact hD9, by rw [ht]; exact hP9⟩, by rw [← hAe]; exact hS.F ht⟩) (by rw [← hAe]; exact hS.2.2) dL_partial_15
set_option maxHeartbeats 4000000 in
set_option maxRecDepth 100000 in
theorem c_L_restart_X1 (l : Launch) (hfl : l.stackTraces = false) (D : va_G) (y : Nat → ClassId) (ad : Nat → Nat) (sz : Nat) (h : Nat) (q : Nat → Nat) (n : Nat) (b1 : Bool) (l1 r1 : Int64) (b2 : Bool) (l2 r2 : Int64) (b3 : Bool) (l3 r3 : Int64) (uz : Nat → Bool) (ul uh : Nat → Int64) (f1 g1 f2 g2 : Int64) (pa : Nat → Nat → Nat) (kd : Nat → Nat) (on ot : Nat → Int32) (pt : Nat → Int64) (fb : Nat → Nat → Bool) (fl fh : Nat → Nat → Int64) (tb : Nat → Nat → Bool) (tl th : Nat → Nat → Int64) (dg : Nat → Int32) (ds : Nat → Int64) (a : Int32) (oa : Nat) (of : Nat → Int64) (hbad : a < 0 ∨ nI n ≤ a) : Met l yL_restart wsL_restart ({ frames := 8, cells := 1, slots := 6, locals := 137 } : Room) (gPN D y ad [.ref h, .int a, .ref oa] (wXo oa of y ad h q n (gPg pa n) n b1 l1 r1 b2 l2 r2 b3 l3 r3 uz ul uh f1 g1 f2 g2 pa kd on ot pt fb fl fh tb tl th dg ds) sz) (gQn D (wXo oa of y ad h q n (gPg pa n) n b1 l1 r1 b2 l2 r2 b3 l3 r3 uz ul uh f1 g1 f2 g2 pa kd on ot pt fb fl fh tb tl th dg ds) (fun v w => v = some (.int 1) ∧ w = (wXo oa of y ad h q n (gPg pa n) n b1 l1 r1 b2 l2 r2 b3 l3 r3 uz ul uh f1 g1 f2 g2 pa kd on ot pt fb fl fh tb tl th dg ds))) 1 6 (va_A (wXo oa of y ad h q n (gPg pa n) n b1 l1 r1 b2 l2 r2 b3 l3 r3 uz ul uh f1 g1 f2 g2 pa kd on ot pt fb fl fh tb tl th dg ds) sz) := by
  refine gMet_ofWH (cc := cL_restart) (maxL := 4) (ret := (some .int)) (hh := [(0, 9, 12, 20)]) (by decide) rfl ?_
  intro pg e s m args below meth c s₁ B hml hv
  obtain ⟨rfl, ⟨hsz, hP, hK, hD0, hE0⟩, hN⟩ := hv
  have hx := B.exec
  have hb := B.bytes
  have hr := B.returns
  have hts := atoms_spec (ws := wsL_restart) B.pre
  have hown : s.vm.findClass RL = some m.cls := findClass_of_methodNamed B.named
  have htab : c.exceptionTable.toList = tableOf [(0, 9, 12, 20)] := vx_table (x := yL_restart) B (hts _ List.mem_cons_self)
  have hlocks := B.notSynchronized
  subst hsz
  obtain ⟨A, hAe⟩ : ∃ A : Nat → Prop, A = va_A (wXo oa of y ad h q n (gPg pa n) n b1 l1 r1 b2 l2 r2 b3 l3 r3 uz ul uh f1 g1 f2 g2 pa kd on ot pt fb fl fh tb tl th dg ds) s.heap.size := ⟨_, rfl⟩
  have hE : gE ad A s s.heap := by rw [hAe]; exact hE0
  have hD : va_D A (wXo oa of y ad h q n (gPg pa n) n b1 l1 r1 b2 l2 r2 b3 l3 r3 uz ul uh f1 g1 f2 g2 pa kd on ot pt fb fl fh tb tl th dg ds) := by rw [hAe]; exact hD0.self (sz := s.heap.size)
  have hA : ∀ q : Nat, s.heap.size ≤ q → A q := fun q h => by rw [hAe]; exact Or.inr h
  have hS : va_S A s.heap s.heap [] := va_S.rf
  have hl := lv_entry ([.ref h, .int a, .ref oa]) (n := 4) (Nat.le_of_ble_eq_true rfl)
  rw [lg_entry_eq]
  generalize (lg_sl ([.ref h, .int a, .ref oa]) ++ List.replicate (4 - (lg_sl ([.ref h, .int a, .ref oa])).length) Slot.unset).toArray = ls at hl ⊢
  have hl : lv_has ls 4 [(0, .ref h), (1, .int a), (2, .ref oa)] := hl
  refine lv_aload_n hx hb dL_restart_0 rfl (lv_at hl 2 rfl) ?_
  refine lv_iconst (v := 0) hx hb dL_restart_1 (by decide) ?_
  refine lv_aload_n hx hb dL_restart_2 rfl (lv_at hl 0 rfl) ?_
  refine lv_iload_n hx hb dL_restart_3 rfl (lv_at hl 1 rfl) ?_
  refine g_catch (name := gIOB) (ws := [(oa, .inl (y 1, 1, .inr (.inl of)))]) (vx_runV (As := [.int a]) (rest := [.int 0, .ref oa]) ⟨hx, hb, hml, hown, hts⟩ (c_X7_restart_X1 l hfl D y ad s.heap.size h q n b1 l1 r1 b2 l2 r2 b3 l3 r3 uz ul uh f1 g1 f2 g2 pa kd on ot pt fb fl fh tb tl th dg ds a hbad) (cwV 1 hts gL_restart_X7_restart rfl rfl rfl (by decide +kernel) ⟨Nat.le_of_ble_eq_true rfl, Nat.le_of_ble_eq_true rfl⟩) (gPX_VA (va_P_r (ws := [(oa, .inl (y 1, 1, .inr (.inl of)))]) hP) (va_D_r (ws := [(oa, .inl (y 1, 1, .inr (.inl of)))]) hD) hK hE hS hA 0 rfl rfl) rfl rfl hl.1 rfl (lv_room (Nat.le_of_ble_eq_true rfl)) dL_restart_4 ⟨Nat.le_of_ble_eq_true rfl, Nat.le_of_ble_eq_true rfl⟩) hP hD hS hA hown [] ⟨0, 9, 12, 20⟩ [] (by rw [htab]; rfl) (fun z hz => absurd hz List.not_mem_nil) (by decide) (by decide) (hts (.classLink RL 20 "java/lang/IndexOutOfBoundsException") (List.mem_of_getElem? (i := 1) rfl)) (hE.cw (Cond.castable gIOB gIOB) (List.mem_of_getElem? (i := 5) rfl)) (fun q9 w1 H locs hf hP hD hS => ?_)
  obtain rfl : w1 = wXp y ad h q n b1 l1 r1 b2 l2 r2 b3 l3 r3 uz ul uh f1 g1 f2 g2 pa kd on ot pt fb fl fh tb tl th dg ds := hf
  have hP : va_P D vwCl (wXo oa of y ad h q n (gPg pa n) n b1 l1 r1 b2 l2 r2 b3 l3 r3 uz ul uh f1 g1 f2 g2 pa kd on ot pt fb fl fh tb tl th dg ds) H := hP
  have hD : va_D A (wXo oa of y ad h q n (gPg pa n) n b1 l1 r1 b2 l2 r2 b3 l3 r3 uz ul uh f1 g1 f2 g2 pa kd on ot pt fb fl fh tb tl th dg ds) := hD
  refine lv_astore_n (lv' := [(3, .ref q9), (0, .ref h), (1, .int a), (2, .ref oa)]) hx hb dL_restart_12 rfl hl (by decide) rfl (fun ls hl => ?_)
  refine lv_iconst (v := 1) hx hb dL_restart_13 (by decide) ?_
  have hP9 := hP
  have hD9 := hD
  exact W.iret (v := 1) hx hb hr (fun t ht hW => ⟨⟨some (.int (1)), wXo oa of y ad h q n (gPg pa n) n b1 l1 r1 b2 l2 r2 b3 l3 r3 uz ul uh f1 g1 f2 g2 pa kd on ot pt fb fl fh tb tl th dg ds, rfl, ⟨rfl, rfl⟩, by rw [← hAe]; exact hD9, by rw [ht]; exact hP9⟩, by rw [← hAe]; exact hS.F ht⟩) (by rw [← hAe]; exact hS.2.2) dL_restart_14
set_option maxHeartbeats 4000000 in
set_option maxRecDepth 100000 in
theorem c_L_restart_0 (l : Launch) (hfl : l.stackTraces = false) (D : va_G) (y : Nat → ClassId) (ad : Nat → Nat) (sz : Nat) (h : Nat) (q : Nat → Nat) (n : Nat) (b1 : Bool) (l1 r1 : Int64) (b2 : Bool) (l2 r2 : Int64) (b3 : Bool) (l3 r3 : Int64) (uz : Nat → Bool) (ul uh : Nat → Int64) (f1 g1 f2 g2 : Int64) (pa : Nat → Nat → Nat) (kd : Nat → Nat) (on ot : Nat → Int32) (pt : Nat → Int64) (fb : Nat → Nat → Bool) (fl fh : Nat → Nat → Int64) (tb : Nat → Nat → Bool) (tl th : Nat → Nat → Int64) (dg : Nat → Int32) (ds : Nat → Int64) (k : Nat) (oa : Nat) (of : Nat → Int64) (hn : n ≤ 40) (hk : k < n) : Met l yL_restart wsL_restart ({ frames := 2, cells := 0, slots := 0, locals := 45 } : Room) (gPN D y ad [.ref h, .int (nI k), .ref oa] (wXo oa of y ad h q n (gPg pa n) n b1 l1 r1 b2 l2 r2 b3 l3 r3 uz ul uh f1 g1 f2 g2 pa kd on ot pt fb fl fh tb tl th dg ds) sz) (gQn D (wXo oa of y ad h q n (gPg pa n) n b1 l1 r1 b2 l2 r2 b3 l3 r3 uz ul uh f1 g1 f2 g2 pa kd on ot pt fb fl fh tb tl th dg ds) (fun v w => v = some (.int 0) ∧ w = (wXo oa (vp_updL of 0 ((dg k).toInt64)) y ad h q n (gPg pa n) n b1 l1 r1 b2 l2 r2 b3 l3 r3 uz ul uh f1 g1 f2 g2 pa kd on ot pt fb fl fh tb tl th (upd dg k 0) (vp_updL ds k 0)))) 0 0 (va_A (wXo oa of y ad h q n (gPg pa n) n b1 l1 r1 b2 l2 r2 b3 l3 r3 uz ul uh f1 g1 f2 g2 pa kd on ot pt fb fl fh tb tl th dg ds) sz) := by
  refine gMet_ofWH (cc := cL_restart) (maxL := 4) (ret := (some .int)) (hh := [(0, 9, 12, 20)]) (by decide) rfl ?_
  intro pg e s m args below meth c s₁ B hml hv
  obtain ⟨rfl, ⟨hsz, hP, hK, hD0, hE0⟩, hN⟩ := hv
  have hx := B.exec
  have hb := B.bytes
  have hr := B.returns
  have hts := atoms_spec (ws := wsL_restart) B.pre
  have hown : s.vm.findClass RL = some m.cls := findClass_of_methodNamed B.named
  have htab : c.exceptionTable.toList = tableOf [(0, 9, 12, 20)] := vx_table (x := yL_restart) B (hts _ List.mem_cons_self)
  have hlocks := B.notSynchronized
  subst hsz
  obtain ⟨A, hAe⟩ : ∃ A : Nat → Prop, A = va_A (wXo oa of y ad h q n (gPg pa n) n b1 l1 r1 b2 l2 r2 b3 l3 r3 uz ul uh f1 g1 f2 g2 pa kd on ot pt fb fl fh tb tl th dg ds) s.heap.size := ⟨_, rfl⟩
  have hE : gE ad A s s.heap := by rw [hAe]; exact hE0
  have hD : va_D A (wXo oa of y ad h q n (gPg pa n) n b1 l1 r1 b2 l2 r2 b3 l3 r3 uz ul uh f1 g1 f2 g2 pa kd on ot pt fb fl fh tb tl th dg ds) := by rw [hAe]; exact hD0.self (sz := s.heap.size)
  have hA : ∀ q : Nat, s.heap.size ≤ q → A q := fun q h => by rw [hAe]; exact Or.inr h
  have hS : va_S A s.heap s.heap [] := va_S.rf
  have hl := lv_entry ([.ref h, .int (nI k), .ref oa]) (n := 4) (Nat.le_of_ble_eq_true rfl)
  rw [lg_entry_eq]
  generalize (lg_sl ([.ref h, .int (nI k), .ref oa]) ++ List.replicate (4 - (lg_sl ([.ref h, .int (nI k), .ref oa])).length) Slot.unset).toArray = ls at hl ⊢
  have hl : lv_has ls 4 [(0, .ref h), (1, .int (nI k)), (2, .ref oa)] := hl
  refine lv_aload_n hx hb dL_restart_0 rfl (lv_at hl 2 rfl) ?_
  refine lv_iconst (v := 0) hx hb dL_restart_1 (by decide) ?_
  refine lv_aload_n hx hb dL_restart_2 rfl (lv_at hl 0 rfl) ?_
  refine lv_iload_n hx hb dL_restart_3 rfl (lv_at hl 1 rfl) ?_
  refine g_callAr (ws := [(oa, .inl (y 1, 1, .inr (.inl of)))]) (va_runV (As := [.int (nI k)]) (rest := [.int 0, .ref oa]) ⟨hx, hb, hml, hown, hts⟩ (c_X7_restart_0 l hfl D y ad s.heap.size h q n b1 l1 r1 b2 l2 r2 b3 l3 r3 uz ul uh f1 g1 f2 g2 pa kd on ot pt fb fl fh tb tl th dg ds k hn hk) (cwV 1 hts gL_restart_X7_restart rfl rfl rfl (by decide +kernel) ⟨Nat.le_of_ble_eq_true rfl, Nat.le_of_ble_eq_true rfl⟩) (gPX_VA (va_P_r (ws := [(oa, .inl (y 1, 1, .inr (.inl of)))]) hP) (va_D_r (ws := [(oa, .inl (y 1, 1, .inr (.inl of)))]) hD) hK hE hS hA 0 rfl rfl) rfl rfl hl.1 rfl (lv_room (Nat.le_of_ble_eq_true rfl)) dL_restart_4 ⟨Nat.le_of_ble_eq_true rfl, Nat.le_of_ble_eq_true rfl⟩) hP hD hS hA (fun v w1 H locs hf hP hD hS => ?_)
  obtain ⟨rfl, rfl⟩ := hf
  have hP : va_P D vwCl (wXo oa of y ad h q n (gPg pa n) n b1 l1 r1 b2 l2 r2 b3 l3 r3 uz ul uh f1 g1 f2 g2 pa kd on ot pt fb fl fh tb tl th (upd dg k 0) (vp_updL ds k 0)) H := hP
  have hD : va_D A (wXo oa of y ad h q n (gPg pa n) n b1 l1 r1 b2 l2 r2 b3 l3 r3 uz ul uh f1 g1 f2 g2 pa kd on ot pt fb fl fh tb tl th (upd dg k 0) (vp_updL ds k 0)) := hD
  refine lv_i2l (v := (dg k).toInt64) hx hb dL_restart_7 rfl ?_
  refine g_last (k := 0) (x := (dg k).toInt64) hx hb hK.1 hP hD hS 0 1 rfl rfl (by omega) (by decide) dL_restart_8 (fun H locs hP hD hS => ?_)
  have hP : va_P D vwCl (wXo oa (vp_updL of 0 ((dg k).toInt64)) y ad h q n (gPg pa n) n b1 l1 r1 b2 l2 r2 b3 l3 r3 uz ul uh f1 g1 f2 g2 pa kd on ot pt fb fl fh tb tl th (upd dg k 0) (vp_updL ds k 0)) H := hP
  have hD : va_D A (wXo oa (vp_updL of 0 ((dg k).toInt64)) y ad h q n (gPg pa n) n b1 l1 r1 b2 l2 r2 b3 l3 r3 uz ul uh f1 g1 f2 g2 pa kd on ot pt fb fl fh tb tl th (upd dg k 0) (vp_updL ds k 0)) := hD
  refine lv_goto (tgt := 15) hx hb dL_restart_9 (by decide) ?_
  refine lv_iconst (v := 0) hx hb dL_restart_15 (by decide) ?_
  have hP9 := hP
  have hD9 := hD
  exact W.iret (v := 0) hx hb hr (fun t ht hW => ⟨⟨some (.int (0)), wXo oa (vp_updL of 0 ((dg k).toInt64)) y ad h q n (gPg pa n) n b1 l1 r1 b2 l2 r2 b3 l3 r3 uz ul uh f1 g1 f2 g2 pa kd on ot pt fb fl fh tb tl th (upd dg k 0) (vp_updL ds k 0), rfl, ⟨rfl, rfl⟩, by rw [← hAe]; exact hD9, by rw [ht]; exact hP9⟩, by rw [← hAe]; exact hS.F ht⟩) (by rw [← hAe]; exact hS.2.2) dL_restart_16
set_option maxHeartbeats 4000000 in
set_option maxRecDepth 100000 in
theorem c_L_needs_X1 (l : Launch) (hfl : l.stackTraces = false) (D : va_G) (y : Nat → ClassId) (ad : Nat → Nat) (sz : Nat) (h : Nat) (q : Nat → Nat) (n : Nat) (b1 : Bool) (l1 r1 : Int64) (b2 : Bool) (l2 r2 : Int64) (b3 : Bool) (l3 r3 : Int64) (uz : Nat → Bool) (ul uh : Nat → Int64) (f1 g1 f2 g2 : Int64) (pa : Nat → Nat → Nat) (kd : Nat → Nat) (on ot : Nat → Int32) (pt : Nat → Int64) (fb : Nat → Nat → Bool) (fl fh : Nat → Nat → Int64) (tb : Nat → Nat → Bool) (tl th : Nat → Nat → Int64) (dg : Nat → Int32) (ds : Nat → Int64) (a : Int32) (oa : Nat) (of : Nat → Int64) (hbad : a < 0 ∨ nI n ≤ a) : Met l yL_needs wsL_needs ({ frames := 8, cells := 1, slots := 6, locals := 135 } : Room) (gPN D y ad [.ref h, .int a, .ref oa] (wXo oa of y ad h q n (gPg pa n) n b1 l1 r1 b2 l2 r2 b3 l3 r3 uz ul uh f1 g1 f2 g2 pa kd on ot pt fb fl fh tb tl th dg ds) sz) (gQn D (wXo oa of y ad h q n (gPg pa n) n b1 l1 r1 b2 l2 r2 b3 l3 r3 uz ul uh f1 g1 f2 g2 pa kd on ot pt fb fl fh tb tl th dg ds) (fun v w => v = some (.int 1) ∧ w = (wXo oa of y ad h q n (gPg pa n) n b1 l1 r1 b2 l2 r2 b3 l3 r3 uz ul uh f1 g1 f2 g2 pa kd on ot pt fb fl fh tb tl th dg ds))) 1 6 (va_A (wXo oa of y ad h q n (gPg pa n) n b1 l1 r1 b2 l2 r2 b3 l3 r3 uz ul uh f1 g1 f2 g2 pa kd on ot pt fb fl fh tb tl th dg ds) sz) := by
  refine gMet_ofWH (cc := cL_needs) (maxL := 4) (ret := (some .int)) (hh := [(0, 9, 12, 20)]) (by decide) rfl ?_
  intro pg e s m args below meth c s₁ B hml hv
  obtain ⟨rfl, ⟨hsz, hP, hK, hD0, hE0⟩, hN⟩ := hv
  have hx := B.exec
  have hb := B.bytes
  have hr := B.returns
  have hts := atoms_spec (ws := wsL_needs) B.pre
  have hown : s.vm.findClass RL = some m.cls := findClass_of_methodNamed B.named
  have htab : c.exceptionTable.toList = tableOf [(0, 9, 12, 20)] := vx_table (x := yL_needs) B (hts _ List.mem_cons_self)
  have hlocks := B.notSynchronized
  subst hsz
  obtain ⟨A, hAe⟩ : ∃ A : Nat → Prop, A = va_A (wXo oa of y ad h q n (gPg pa n) n b1 l1 r1 b2 l2 r2 b3 l3 r3 uz ul uh f1 g1 f2 g2 pa kd on ot pt fb fl fh tb tl th dg ds) s.heap.size := ⟨_, rfl⟩
  have hE : gE ad A s s.heap := by rw [hAe]; exact hE0
  have hD : va_D A (wXo oa of y ad h q n (gPg pa n) n b1 l1 r1 b2 l2 r2 b3 l3 r3 uz ul uh f1 g1 f2 g2 pa kd on ot pt fb fl fh tb tl th dg ds) := by rw [hAe]; exact hD0.self (sz := s.heap.size)
  have hA : ∀ q : Nat, s.heap.size ≤ q → A q := fun q h => by rw [hAe]; exact Or.inr h
  have hS : va_S A s.heap s.heap [] := va_S.rf
  have hl := lv_entry ([.ref h, .int a, .ref oa]) (n := 4) (Nat.le_of_ble_eq_true rfl)
  rw [lg_entry_eq]
  generalize (lg_sl ([.ref h, .int a, .ref oa]) ++ List.replicate (4 - (lg_sl ([.ref h, .int a, .ref oa])).length) Slot.unset).toArray = ls at hl ⊢
  have hl : lv_has ls 4 [(0, .ref h), (1, .int a), (2, .ref oa)] := hl
  refine lv_aload_n hx hb dL_needs_0 rfl (lv_at hl 2 rfl) ?_
  refine lv_iconst (v := 0) hx hb dL_needs_1 (by decide) ?_
  refine lv_aload_n hx hb dL_needs_2 rfl (lv_at hl 0 rfl) ?_
  refine lv_iload_n hx hb dL_needs_3 rfl (lv_at hl 1 rfl) ?_
  refine g_catch (name := gIOB) (ws := [(oa, .inl (y 1, 1, .inr (.inl of)))]) (vx_runV (As := [.int a]) (rest := [.int 0, .ref oa]) ⟨hx, hb, hml, hown, hts⟩ (c_X7_needs_X1 l hfl D y ad s.heap.size h q n b1 l1 r1 b2 l2 r2 b3 l3 r3 uz ul uh f1 g1 f2 g2 pa kd on ot pt fb fl fh tb tl th dg ds a hbad) (cwV 1 hts gL_needs_X7_needs rfl rfl rfl (by decide +kernel) ⟨Nat.le_of_ble_eq_true rfl, Nat.le_of_ble_eq_true rfl⟩) (gPX_VA (va_P_r (ws := [(oa, .inl (y 1, 1, .inr (.inl of)))]) hP) (va_D_r (ws := [(oa, .inl (y 1, 1, .inr (.inl of)))]) hD) hK hE hS hA 0 rfl rfl) rfl rfl hl.1 rfl (lv_room (Nat.le_of_ble_eq_true rfl)) dL_needs_4 ⟨Nat.le_of_ble_eq_true rfl, Nat.le_of_ble_eq_true rfl⟩) hP hD hS hA hown [] ⟨0, 9, 12, 20⟩ [] (by rw [htab]; rfl) (fun z hz => absurd hz List.not_mem_nil) (by decide) (by decide) (hts (.classLink RL 20 "java/lang/IndexOutOfBoundsException") (List.mem_of_getElem? (i := 1) rfl)) (hE.cw (Cond.castable gIOB gIOB) (List.mem_of_getElem? (i := 5) rfl)) (fun q9 w1 H locs hf hP hD hS => ?_)
  obtain rfl : w1 = wXp y ad h q n b1 l1 r1 b2 l2 r2 b3 l3 r3 uz ul uh f1 g1 f2 g2 pa kd on ot pt fb fl fh tb tl th dg ds := hf
  have hP : va_P D vwCl (wXo oa of y ad h q n (gPg pa n) n b1 l1 r1 b2 l2 r2 b3 l3 r3 uz ul uh f1 g1 f2 g2 pa kd on ot pt fb fl fh tb tl th dg ds) H := hP
  have hD : va_D A (wXo oa of y ad h q n (gPg pa n) n b1 l1 r1 b2 l2 r2 b3 l3 r3 uz ul uh f1 g1 f2 g2 pa kd on ot pt fb fl fh tb tl th dg ds) := hD
  refine lv_astore_n (lv' := [(3, .ref q9), (0, .ref h), (1, .int a), (2, .ref oa)]) hx hb dL_needs_12 rfl hl (by decide) rfl (fun ls hl => ?_)
  refine lv_iconst (v := 1) hx hb dL_needs_13 (by decide) ?_
  have hP9 := hP
  have hD9 := hD
  exact W.iret (v := 1) hx hb hr (fun t ht hW => ⟨⟨some (.int (1)), wXo oa of y ad h q n (gPg pa n) n b1 l1 r1 b2 l2 r2 b3 l3 r3 uz ul uh f1 g1 f2 g2 pa kd on ot pt fb fl fh tb tl th dg ds, rfl, ⟨rfl, rfl⟩, by rw [← hAe]; exact hD9, by rw [ht]; exact hP9⟩, by rw [← hAe]; exact hS.F ht⟩) (by rw [← hAe]; exact hS.2.2) dL_needs_14
set_option maxHeartbeats 4000000 in
set_option maxRecDepth 100000 in
theorem c_L_needs_0 (l : Launch) (hfl : l.stackTraces = false) (D : va_G) (y : Nat → ClassId) (ad : Nat → Nat) (sz : Nat) (h : Nat) (q : Nat → Nat) (n : Nat) (b1 : Bool) (l1 r1 : Int64) (b2 : Bool) (l2 r2 : Int64) (b3 : Bool) (l3 r3 : Int64) (uz : Nat → Bool) (ul uh : Nat → Int64) (f1 g1 f2 g2 : Int64) (pa : Nat → Nat → Nat) (kd : Nat → Nat) (on ot : Nat → Int32) (pt : Nat → Int64) (fb : Nat → Nat → Bool) (fl fh : Nat → Nat → Int64) (tb : Nat → Nat → Bool) (tl th : Nat → Nat → Int64) (dg : Nat → Int32) (ds : Nat → Int64) (k : Nat) (oa : Nat) (of : Nat → Int64) (hn : n ≤ 40) (hk : k < n) : Met l yL_needs wsL_needs ({ frames := 2, cells := 0, slots := 0, locals := 43 } : Room) (gPN D y ad [.ref h, .int (nI k), .ref oa] (wXo oa of y ad h q n (gPg pa n) n b1 l1 r1 b2 l2 r2 b3 l3 r3 uz ul uh f1 g1 f2 g2 pa kd on ot pt fb fl fh tb tl th dg ds) sz) (gQn D (wXo oa of y ad h q n (gPg pa n) n b1 l1 r1 b2 l2 r2 b3 l3 r3 uz ul uh f1 g1 f2 g2 pa kd on ot pt fb fl fh tb tl th dg ds) (fun v w => v = some (.int 0) ∧ w = (wXo oa (vp_updL of 0 ((sp_J13_bitCount_95d88 (pt k)).toInt64)) y ad h q n (gPg pa n) n b1 l1 r1 b2 l2 r2 b3 l3 r3 uz ul uh f1 g1 f2 g2 pa kd on ot pt fb fl fh tb tl th dg ds))) 0 0 (va_A (wXo oa of y ad h q n (gPg pa n) n b1 l1 r1 b2 l2 r2 b3 l3 r3 uz ul uh f1 g1 f2 g2 pa kd on ot pt fb fl fh tb tl th dg ds) sz) := by
  refine gMet_ofWH (cc := cL_needs) (maxL := 4) (ret := (some .int)) (hh := [(0, 9, 12, 20)]) (by decide) rfl ?_
  intro pg e s m args below meth c s₁ B hml hv
  obtain ⟨rfl, ⟨hsz, hP, hK, hD0, hE0⟩, hN⟩ := hv
  have hx := B.exec
  have hb := B.bytes
  have hr := B.returns
  have hts := atoms_spec (ws := wsL_needs) B.pre
  have hown : s.vm.findClass RL = some m.cls := findClass_of_methodNamed B.named
  have htab : c.exceptionTable.toList = tableOf [(0, 9, 12, 20)] := vx_table (x := yL_needs) B (hts _ List.mem_cons_self)
  have hlocks := B.notSynchronized
  subst hsz
  obtain ⟨A, hAe⟩ : ∃ A : Nat → Prop, A = va_A (wXo oa of y ad h q n (gPg pa n) n b1 l1 r1 b2 l2 r2 b3 l3 r3 uz ul uh f1 g1 f2 g2 pa kd on ot pt fb fl fh tb tl th dg ds) s.heap.size := ⟨_, rfl⟩
  have hE : gE ad A s s.heap := by rw [hAe]; exact hE0
  have hD : va_D A (wXo oa of y ad h q n (gPg pa n) n b1 l1 r1 b2 l2 r2 b3 l3 r3 uz ul uh f1 g1 f2 g2 pa kd on ot pt fb fl fh tb tl th dg ds) := by rw [hAe]; exact hD0.self (sz := s.heap.size)
  have hA : ∀ q : Nat, s.heap.size ≤ q → A q := fun q h => by rw [hAe]; exact Or.inr h
  have hS : va_S A s.heap s.heap [] := va_S.rf
  have hl := lv_entry ([.ref h, .int (nI k), .ref oa]) (n := 4) (Nat.le_of_ble_eq_true rfl)
  rw [lg_entry_eq]
  generalize (lg_sl ([.ref h, .int (nI k), .ref oa]) ++ List.replicate (4 - (lg_sl ([.ref h, .int (nI k), .ref oa])).length) Slot.unset).toArray = ls at hl ⊢
  have hl : lv_has ls 4 [(0, .ref h), (1, .int (nI k)), (2, .ref oa)] := hl
  refine lv_aload_n hx hb dL_needs_0 rfl (lv_at hl 2 rfl) ?_
  refine lv_iconst (v := 0) hx hb dL_needs_1 (by decide) ?_
  refine lv_aload_n hx hb dL_needs_2 rfl (lv_at hl 0 rfl) ?_
  refine lv_iload_n hx hb dL_needs_3 rfl (lv_at hl 1 rfl) ?_
  refine g_callR (v0 := .int (sp_J13_bitCount_95d88 (pt k))) (va_runV (As := [.int (nI k)]) (rest := [.int 0, .ref oa]) ⟨hx, hb, hml, hown, hts⟩ (c_X7_needs_0 l hfl D y ad s.heap.size h q n b1 l1 r1 b2 l2 r2 b3 l3 r3 uz ul uh f1 g1 f2 g2 pa kd on ot pt fb fl fh tb tl th dg ds k hn hk) (cwV 1 hts gL_needs_X7_needs rfl rfl rfl (by decide +kernel) ⟨Nat.le_of_ble_eq_true rfl, Nat.le_of_ble_eq_true rfl⟩) (gPX_VA (va_P_r (ws := [(oa, .inl (y 1, 1, .inr (.inl of)))]) hP) (va_D_r (ws := [(oa, .inl (y 1, 1, .inr (.inl of)))]) hD) hK hE hS hA 0 rfl rfl) rfl rfl hl.1 rfl (lv_room (Nat.le_of_ble_eq_true rfl)) dL_needs_4 ⟨Nat.le_of_ble_eq_true rfl, Nat.le_of_ble_eq_true rfl⟩) ?_
  refine lv_i2l (v := (sp_J13_bitCount_95d88 (pt k)).toInt64) hx hb dL_needs_7 rfl ?_
  refine g_last (k := 0) (x := (sp_J13_bitCount_95d88 (pt k)).toInt64) hx hb hK.1 hP hD hS 0 1 rfl rfl (by omega) (by decide) dL_needs_8 (fun H locs hP hD hS => ?_)
  have hP : va_P D vwCl (wXo oa (vp_updL of 0 ((sp_J13_bitCount_95d88 (pt k)).toInt64)) y ad h q n (gPg pa n) n b1 l1 r1 b2 l2 r2 b3 l3 r3 uz ul uh f1 g1 f2 g2 pa kd on ot pt fb fl fh tb tl th dg ds) H := hP
  have hD : va_D A (wXo oa (vp_updL of 0 ((sp_J13_bitCount_95d88 (pt k)).toInt64)) y ad h q n (gPg pa n) n b1 l1 r1 b2 l2 r2 b3 l3 r3 uz ul uh f1 g1 f2 g2 pa kd on ot pt fb fl fh tb tl th dg ds) := hD
  refine lv_goto (tgt := 15) hx hb dL_needs_9 (by decide) ?_
  refine lv_iconst (v := 0) hx hb dL_needs_15 (by decide) ?_
  have hP9 := hP
  have hD9 := hD
  exact W.iret (v := 0) hx hb hr (fun t ht hW => ⟨⟨some (.int (0)), wXo oa (vp_updL of 0 ((sp_J13_bitCount_95d88 (pt k)).toInt64)) y ad h q n (gPg pa n) n b1 l1 r1 b2 l2 r2 b3 l3 r3 uz ul uh f1 g1 f2 g2 pa kd on ot pt fb fl fh tb tl th dg ds, rfl, ⟨rfl, rfl⟩, by rw [← hAe]; exact hD9, by rw [ht]; exact hP9⟩, by rw [← hAe]; exact hS.F ht⟩) (by rw [← hAe]; exact hS.2.2) dL_needs_16
