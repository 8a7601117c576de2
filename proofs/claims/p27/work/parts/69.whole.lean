/-! THE CLAIM OUT OF ONE WALK OF THE LAW'S BODY. Your part is whole_start (and what it stands on); all else here is the same for every law, but numbers. -/
def R_law : String := "NestlimitLaw"
def lw_P (b : Addr) (xs : List Int32) (args : Array Value) (s : State) : Prop := args = #[.ref b] ∧ s.IntsAt b xs ∧ xs.length ≤ 260 ∧ (Jvm.Cond.and given_1 narrow_1).before args s = true
def lw_Q (_ : Array Value) (s : State) (o : Outcome) (t : State) : Prop := o = .returned (some (.int 1)) ∧ Framed s o t [] 600074 7301550
def lw_Z (below : List Frame) (a : Array Value) (s : State) : State → Prop := fun t => ∃ o, t.status = .running ∧ Ended t below o ∧ lw_Q a s o t
/-- the law's own end, with 1 on the stack, nothing written that was there before, its room as the claim has it -/
theorem lw_ret {p : Program} {l : Launch} {e : Env} {s : State} {m : MethodId} {below : List Frame} {meth : Method} {c : Code} {b : Nat} (hx : p.tables.exec = Jvm.exec) (hb : c.code = code) (hr : meth.sig.returnType = ret) (hlocks : meth.locks = false) {pc : Nat} {H : Heap} {ls : Array Slot} (hdg : decode code pc = .ok (.ireturn, 1)) : W p l e room_1 s m #[Value.ref b] below meth c H [] 600074 7301550 (lw_Z below #[Value.ref b] s) (F0 m pc ls [.int 1]) := by
  intro T hT X
  obtain ⟨fs, hret, hrun, hended, hW, hframe⟩ := X.leave (v := some (.int 1)) (hlocks := hlocks) (fun h => by rw [hr] at h; cases h)
  have hmeth' : T.vm.method? m = some meth := X.method'
  refine ⟨T.setFrames fs, ?_, .returned (some (.int 1)), hrun, hended, rfl, ⟨_, rfl⟩, hW, hframe⟩
  jvm_step X.here [X.here.top, hx, hb, hdg, hmeth', hr, ret, narrow_b1]
  (try refine ⟨rfl, ?_⟩); (try refine ⟨rfl, ?_⟩)
  first | (intro acts; rw [hret _ acts rfl rfl rfl]) | rw [hret _ _ rfl rfl rfl]
  exact Steps.refl _
/-- what holds at the law's entry: the machine, the code, the tables' words (any of lw_tbl by 'hts w (by decide +kernel)'), the script of L ints xs at the cell b, what the Statement gives of the start (any of its parts by flat_of_before) -/
def lw_At (p : Program) (s : State) (m : MethodId) (meth : Method) (c : Code) (b L : Nat) (xs : Nat → Int32) : Prop :=
  p.tables.exec = Jvm.exec ∧ c.code = code ∧ meth.sig.returnType = ret ∧ c.maxLocals = 15 ∧ s.vm.findClass R_law = some m.cls ∧ (∀ w ∈ lw_tbl, w.before #[Value.ref b] s = true) ∧ va_X b L xs s s.heap ∧ b < s.heap.size ∧ meth.locks = false ∧ (Jvm.Cond.and given_1 narrow_1).before #[Value.ref b] s = true
-- ===== YOUR PART BEGINS =====
set_option maxHeartbeats 4000000 in
set_option maxRecDepth 100000 in
theorem law_end {p : Program} {l : Launch} {e : Env} {s : State} {m : MethodId} {below : List Frame} {meth : Method} {c : Code} {D : va_G} {y : Nat → ClassId} {ad : Nat → Nat} {b L : Nat} {xs : Nat → Int32} (C : lwC p l s m meth c b L xs D y ad) (hr : meth.sig.returnType = ret) (hlocks : meth.locks = false) {h1 h2 : Nat} (k : Nat) : lwK p l e s m below meth c (lw_Z below #[Value.ref b] s) b D y ad h1 h2 381 k 60000 400000 := by
  intro S wa wb H locs ls E As hS9 hwa hwb hP hD hS hl
  obtain ⟨⟨hx, hb, hml, hown, hts⟩, ⟨hX, hbl, hL⟩, hK, hE, hN, hfl⟩ := id C
  have hA : ∀ q : Nat, s.heap.size ≤ q → lA s q := fun _ h => h
  have hbA : ¬ lA s b := Nat.not_le.mpr hbl
  have hn : sN S ≤ 40 := hS9.1
  refine lv_iload_n hx hb dL_law_381 rfl (lv_at hl 3 rfl) ?_
  refine lv_if_eq (tgt := 405) hx hb dL_law_382 (by decide) (fun c_382 => absurd c_382 (by decide)) (fun c_382 => ?_)
  refine lv_aload_n hx hb dL_law_385 rfl (lv_at hl 1 rfl) ?_
  obtain ⟨fs1, he1⟩ := hwa.head
  refine g_callR (v0 := .int (nI (sN S))) (va_runV (As := []) (rest := []) ⟨hx, hb, hml, hown, hts⟩ (e_count l hfl D y ad hwa H.size) (cwV 0 hts gL_law_X7_count rfl rfl rfl (by decide +kernel) ⟨Nat.le_of_ble_eq_true rfl, Nat.le_of_ble_eq_true rfl⟩) (gPX_VA (va_P_r (va_P_sw hP)) (va_D_r (va_D_sw hD)) hK hE hS hA 0 he1 rfl) rfl rfl hl.1 rfl (lv_room (Nat.le_of_ble_eq_true rfl)) dL_law_386 ⟨Nat.le_of_ble_eq_true rfl, Nat.le_of_ble_eq_true rfl⟩) ?_
  refine lv_if_eq (tgt := 401) hx hb dL_law_389 (by decide) (fun c_389 => ?_) (fun c_389 => ?_)
  · skip
    refine lv_iconst (v := 1) hx hb dL_law_401 (by decide) ?_
    refine lv_goto (tgt := 406) hx hb dL_law_402 (by decide) ?_
    refine va_forget (fun q hq => hS.2.2 q hq) ?_
    refine W.widen (k := 600074) (n := 7301550) (Nat.le_of_ble_eq_true rfl) (Nat.le_of_ble_eq_true rfl) ?_
    exact lw_ret hx hb hr hlocks dL_law_406
  · skip
    have h0 : 0 < sN S := Nat.pos_of_ne_zero (fun z => c_389 (by rw [z]; rfl))
    refine lv_aload_n hx hb dL_law_392 rfl (lv_at hl 1 rfl) ?_
    refine lv_aload_n hx hb dL_law_393 rfl (lv_at hl 2 rfl) ?_
    refine lv_iconst (v := 5) hx hb dL_law_394 (by decide) ?_
    refine g_callN (ws := []) (wc := wa ++ wb) (va_runS (As := [.ref h1, .ref h2, .int 5]) (rest := []) ⟨hx, hb, hml, hown, hts⟩ (c_L_areAlike l hfl D y ad hS9 h0 hwa hwb 5 H.size) (va_cwS 3 hts gL_law_L_areAlike rfl rfl rfl (by decide +kernel) ⟨Nat.le_of_ble_eq_true rfl, Nat.le_of_ble_eq_true rfl⟩) (gPN_SA hP hD hK hE hN hS hA) rfl rfl hl.1 rfl (lv_room (Nat.le_of_ble_eq_true rfl)) dL_law_395 ⟨Nat.le_of_ble_eq_true rfl, Nat.le_of_ble_eq_true rfl⟩) hP hD hS hA (fun v9 w9 H locs hf hP hD hS => ?_)
    obtain ⟨rfl, w1a, w1b, rfl, hwa, hwb⟩ := hf
    have hP : va_P D vwCl (w1a ++ w1b) H := hP
    have hD : va_D (lA s) (w1a ++ w1b) := hD
    refine lv_if_eq (tgt := 405) hx hb dL_law_398 (by decide) (fun c_398 => absurd c_398 (by decide)) (fun c_398 => ?_)
    refine lv_iconst (v := 1) hx hb dL_law_401 (by decide) ?_
    refine lv_goto (tgt := 406) hx hb dL_law_402 (by decide) ?_
    refine va_forget (fun q hq => hS.2.2 q hq) ?_
    refine W.widen (k := 600074) (n := 7301550) (Nat.le_of_ble_eq_true rfl) (Nat.le_of_ble_eq_true rfl) ?_
    exact lw_ret hx hb hr hlocks dL_law_406
set_option maxHeartbeats 4000000 in
set_option maxRecDepth 100000 in
/-- YOUR PART: from the entry, for every script of at most 260 ints, the law comes to its end with true ('hflags': the launch's flags, for a law that throws: no stack traces) -/
theorem whole_start {p : Program} {e : Env} {s : State} {m : MethodId} {below : List Frame} {meth : Method} {c : Code} (l : Launch) (hflags : l.flags = flags0) {b L : Nat} {xs : Nat → Int32} (hL : L ≤ 260) (C0 : lw_At p s m meth c b L xs) : W p l e room_1 s m #[Value.ref b] below meth c s.heap [] 0 0 (lw_Z below #[Value.ref b] s) (entryFrame m ([Value.ref b] : List Value).toArray 15) := by
  obtain ⟨hx, hb, hr, hml, hown, hts, hX, hbl, hlocks, hgv⟩ := id C0
  have hA : ∀ q : Nat, s.heap.size ≤ q → lA s q := fun _ h => h
  obtain ⟨ad, hE⟩ := gE_start hts hgv
  have hN := gNc_start hgv
  obtain ⟨D, y, hK, hO⟩ := gK_start hts
  have hfl : l.stackTraces = false := by unfold Launch.stackTraces; rw [hflags]; decide +kernel
  have htw : ∀ w ∈ wsL_law, w.before #[Value.ref b] s = true := fun w h => hts w (wsL_law_in w h)
  have C : lwC p l s m meth c b L xs D y ad := ⟨⟨hx, hb, hml, hown, htw⟩, ⟨hX, hbl, hL⟩, hK, hE, hN, hfl⟩
  have hS : va_S (lA s) s.heap s.heap [] := va_S.rf
  have hP : va_P D vwCl [] s.heap := fun k q h => by simp at h
  have hD : va_D (lA s) [] := ⟨fun i j p q h => by simp at h, fun k q h => by simp at h⟩
  have hl := lv_entry ([.ref b]) (n := 15) (Nat.le_of_ble_eq_true rfl)
  rw [lg_entry_eq]
  generalize (lg_sl ([.ref b]) ++ List.replicate (15 - (lg_sl ([.ref b])).length) Slot.unset).toArray = ls at hl ⊢
  have hl : lv_has ls 15 [(0, .ref b)] := hl
  refine va_new (ci := 5) (fs := [.null, .int 0, .null, .null, .null, .null, .null, .null]) (C := RX7) (T := TX7) (N := 8) hx hb hts inX7 tyX7 tyX7_ok hown (hts _ (List.mem_of_getElem? (i := 34) (by decide +kernel))) (hts _ (List.mem_of_getElem? (i := 35) (by decide +kernel))) (hts _ (List.mem_of_getElem? (i := 17) (by decide +kernel))) hK.1 hP hD hS hA rfl (fun j hj => by have h8 : ∀ j : Fin 8, defaultValue (tyX7 j.val) = vp_V [.null, .int 0, .null, .null, .null, .null, .null, .null] j.val := (by decide); exact h8 ⟨j, hj⟩) (Nat.le_of_ble_eq_true rfl) (Nat.le_of_ble_eq_true rfl) dL_law_0 (fun hX1 H hP hD hS => ?_)
  have hP : va_P D vwCl ([] ++ [(hX1, .inr (5, [.null, .int 0, .null, .null, .null, .null, .null, .null]))]) H := hP
  have hD : va_D (lA s) ([] ++ [(hX1, .inr (5, [.null, .int 0, .null, .null, .null, .null, .null, .null]))]) := hD
  refine lv_dup hx hb dL_law_3 rfl ?_
  refine g_callN (ws := []) (wc := [(hX1, .inr (5, [.null, .int 0, .null, .null, .null, .null, .null, .null]))]) (va_runI (As := []) (rest := [.ref hX1]) ⟨hx, hb, hml, hown, htw⟩ (c_X7_init l D y H.size hX1) (cwI 0 htw gL_law_X7_init rfl rfl rfl (hts _ (List.mem_of_getElem? (i := 17) (by decide +kernel))) (hts _ (List.mem_of_getElem? (i := 36) (by decide +kernel))) (hts _ (List.mem_of_getElem? (i := 37) (by decide +kernel))) rfl (by decide +kernel) ⟨Nat.le_of_ble_eq_true rfl, Nat.le_of_ble_eq_true rfl⟩) (gPA_SA (va_P_r (ws := []) hP) (va_D_r (ws := []) hD) hK hO) rfl rfl hl.1 rfl (lv_room (Nat.le_of_ble_eq_true rfl)) dL_law_4 ⟨Nat.le_of_ble_eq_true rfl, Nat.le_of_ble_eq_true rfl⟩) hP hD hS hA (fun v w1 H locs hf hP hD hS => ?_)
  obtain ⟨u0, u1, u2, u3, u4, u5, u6, u7, u8, u9, rfl, rfl⟩ := hf
  have hP : va_P D vwCl [(hX1, .inr (5, [.ref u0, .int 0, .ref u1, .ref u2, .ref u3, .ref u4, .ref u8, .ref u9])), (u0, .inl (y 3, 40, .inr (.inr (.inr (.inr (fun _ => none)))))), (u1, .inr (1, [.int (gB false), .long 0, .long 0])), (u2, .inr (1, [.int (gB false), .long 0, .long 0])), (u3, .inr (1, [.int (gB false), .long 0, .long 0])), (u4, .inr (4, [.ref u5, .ref u6, .ref u7])), (u5, .inl (y 2, 40, .inl (gZ (fun _ => false)))), (u6, .inl (y 1, 40, .inr (.inl (fun _ => 0)))), (u7, .inl (y 1, 40, .inr (.inl (fun _ => 0)))), (u8, .inr (0, [.long 0, .long 0])), (u9, .inr (0, [.long 0, .long 0]))] H := hP
  have hD : va_D (lA s) [(hX1, .inr (5, [.ref u0, .int 0, .ref u1, .ref u2, .ref u3, .ref u4, .ref u8, .ref u9])), (u0, .inl (y 3, 40, .inr (.inr (.inr (.inr (fun _ => none)))))), (u1, .inr (1, [.int (gB false), .long 0, .long 0])), (u2, .inr (1, [.int (gB false), .long 0, .long 0])), (u3, .inr (1, [.int (gB false), .long 0, .long 0])), (u4, .inr (4, [.ref u5, .ref u6, .ref u7])), (u5, .inl (y 2, 40, .inl (gZ (fun _ => false)))), (u6, .inl (y 1, 40, .inr (.inl (fun _ => 0)))), (u7, .inl (y 1, 40, .inr (.inl (fun _ => 0)))), (u8, .inr (0, [.long 0, .long 0])), (u9, .inr (0, [.long 0, .long 0]))] := hD
  obtain ⟨wa, hwae⟩ : ∃ wa : va_W, wa = [(hX1, .inr (5, [.ref u0, .int 0, .ref u1, .ref u2, .ref u3, .ref u4, .ref u8, .ref u9])), (u0, .inl (y 3, 40, .inr (.inr (.inr (.inr (fun _ => none)))))), (u1, .inr (1, [.int (gB false), .long 0, .long 0])), (u2, .inr (1, [.int (gB false), .long 0, .long 0])), (u3, .inr (1, [.int (gB false), .long 0, .long 0])), (u4, .inr (4, [.ref u5, .ref u6, .ref u7])), (u5, .inl (y 2, 40, .inl (gZ (fun _ => false)))), (u6, .inl (y 1, 40, .inr (.inl (fun _ => 0)))), (u7, .inl (y 1, 40, .inr (.inl (fun _ => 0)))), (u8, .inr (0, [.long 0, .long 0])), (u9, .inr (0, [.long 0, .long 0]))] := ⟨_, rfl⟩
  have hwa : OW y ad hX1 ((0, fun _ => 0, fun _ => 0, fun _ => 0, fun _ => 0, fun _ _ => false, fun _ _ => 0, fun _ _ => 0, fun _ _ => false, fun _ _ => 0, fun _ _ => 0, fun _ => 0, fun _ => 0) : St) wa := ⟨(fun j => match j with
    | 0 => u0
    | 1 => u1
    | 2 => u2
    | 3 => u3
    | 4 => u4
    | 5 => u5
    | 6 => u6
    | 7 => u7
    | 8 => u8
    | _ => u9), fun _ _ => 0, false, 0, 0, false, 0, 0, false, 0, 0, fun _ => false, fun _ => 0, fun _ => 0, 0, 0, 0, 0, hwae⟩
  rw [← hwae] at hP hD
  refine lv_astore_n (lv' := [(1, .ref hX1), (0, .ref b)]) hx hb dL_law_7 rfl hl (by decide) rfl (fun ls hl => ?_)
  refine va_new (ci := 5) (fs := [.null, .int 0, .null, .null, .null, .null, .null, .null]) (C := RX7) (T := TX7) (N := 8) hx hb hts inX7 tyX7 tyX7_ok hown (hts _ (List.mem_of_getElem? (i := 34) (by decide +kernel))) (hts _ (List.mem_of_getElem? (i := 35) (by decide +kernel))) (hts _ (List.mem_of_getElem? (i := 17) (by decide +kernel))) hK.1 hP hD hS hA rfl (fun j hj => by have h8 : ∀ j : Fin 8, defaultValue (tyX7 j.val) = vp_V [.null, .int 0, .null, .null, .null, .null, .null, .null] j.val := (by decide); exact h8 ⟨j, hj⟩) (Nat.le_of_ble_eq_true rfl) (Nat.le_of_ble_eq_true rfl) dL_law_8 (fun hX2 H hP hD hS => ?_)
  refine lv_dup hx hb dL_law_11 rfl ?_
  refine g_callN (ws := wa) (wc := [(hX2, .inr (5, [.null, .int 0, .null, .null, .null, .null, .null, .null]))]) (va_runI (As := []) (rest := [.ref hX2]) ⟨hx, hb, hml, hown, htw⟩ (c_X7_init l D y H.size hX2) (cwI 0 htw gL_law_X7_init rfl rfl rfl (hts _ (List.mem_of_getElem? (i := 17) (by decide +kernel))) (hts _ (List.mem_of_getElem? (i := 36) (by decide +kernel))) (hts _ (List.mem_of_getElem? (i := 37) (by decide +kernel))) rfl (by decide +kernel) ⟨Nat.le_of_ble_eq_true rfl, Nat.le_of_ble_eq_true rfl⟩) (gPA_SA (va_P_r (ws := wa) hP) (va_D_r (ws := wa) hD) hK hO) rfl rfl hl.1 rfl (lv_room (Nat.le_of_ble_eq_true rfl)) dL_law_12 ⟨Nat.le_of_ble_eq_true rfl, Nat.le_of_ble_eq_true rfl⟩) hP hD hS hA (fun v w1 H locs hf hP hD hS => ?_)
  obtain ⟨v0, v1, v2, v3, v4, v5, v6, v7, v8, v9, rfl, rfl⟩ := hf
  obtain ⟨wb, hwbe⟩ : ∃ wb : va_W, wb = [(hX2, .inr (5, [.ref v0, .int 0, .ref v1, .ref v2, .ref v3, .ref v4, .ref v8, .ref v9])), (v0, .inl (y 3, 40, .inr (.inr (.inr (.inr (fun _ => none)))))), (v1, .inr (1, [.int (gB false), .long 0, .long 0])), (v2, .inr (1, [.int (gB false), .long 0, .long 0])), (v3, .inr (1, [.int (gB false), .long 0, .long 0])), (v4, .inr (4, [.ref v5, .ref v6, .ref v7])), (v5, .inl (y 2, 40, .inl (gZ (fun _ => false)))), (v6, .inl (y 1, 40, .inr (.inl (fun _ => 0)))), (v7, .inl (y 1, 40, .inr (.inl (fun _ => 0)))), (v8, .inr (0, [.long 0, .long 0])), (v9, .inr (0, [.long 0, .long 0]))] := ⟨_, rfl⟩
  have hwb : OW y ad hX2 ((0, fun _ => 0, fun _ => 0, fun _ => 0, fun _ => 0, fun _ _ => false, fun _ _ => 0, fun _ _ => 0, fun _ _ => false, fun _ _ => 0, fun _ _ => 0, fun _ => 0, fun _ => 0) : St) wb := ⟨(fun j => match j with
    | 0 => v0
    | 1 => v1
    | 2 => v2
    | 3 => v3
    | 4 => v4
    | 5 => v5
    | 6 => v6
    | 7 => v7
    | 8 => v8
    | _ => v9), fun _ _ => 0, false, 0, 0, false, 0, 0, false, 0, 0, fun _ => false, fun _ => 0, fun _ => 0, 0, 0, 0, 0, hwbe⟩
  rw [← hwbe] at hP hD
  refine lv_astore_n (lv' := [(2, .ref hX2), (1, .ref hX1), (0, .ref b)]) hx hb dL_law_15 rfl hl (by decide) rfl (fun ls hl => ?_)
  refine lv_iconst (v := 1) hx hb dL_law_16 (by decide) ?_
  refine lv_istore_n (lv' := [(3, .int 1), (2, .ref hX2), (1, .ref hX1), (0, .ref b)]) hx hb dL_law_17 rfl hl (by decide) rfl (fun ls hl => ?_)
  refine lv_iconst (v := 0) hx hb dL_law_18 (by decide) ?_
  refine lv_istore (lv' := [(4, .int 0), (3, .int 1), (2, .ref hX2), (1, .ref hX1), (0, .ref b)]) hx hb dL_law_19 hl (by decide) rfl (fun ls hl => ?_)
  refine lv_iconst (v := 0) hx hb dL_law_21 (by decide) ?_
  refine lv_istore (lv' := [(5, .int 0), (4, .int 0), (3, .int 1), (2, .ref hX2), (1, .ref hX1), (0, .ref b)]) hx hb dL_law_22 hl (by decide) rfl (fun ls hl => ?_)
  refine lv_iconst (v := 0) hx hb dL_law_24 (by decide) ?_
  refine lv_istore (lv' := [(6, .int (nI 0)), (5, .int 0), (4, .int 0), (3, .int 1), (2, .ref hX2), (1, .ref hX1), (0, .ref b)]) hx hb dL_law_25 hl (by decide) rfl (fun ls hl => ?_)
  refine W.widen (k := 100) (n := 1000) (Nat.le_of_ble_eq_true rfl) (Nat.le_of_ble_eq_true rfl) ?_
  refine law_loop C (h1 := hX1) (h2 := hX2) (fun k => ?_) 130 0 100 1000 (by omega) (by omega) (by omega) ((0, fun _ => 0, fun _ => 0, fun _ => 0, fun _ => 0, fun _ _ => false, fun _ _ => 0, fun _ _ => 0, fun _ _ => false, fun _ _ => 0, fun _ _ => 0, fun _ => 0, fun _ => 0) : St) wa wb H locs ls 0 0 ⟨Nat.zero_le _, fun k hk => absurd hk (Nat.not_lt_zero k)⟩ hwa hwb hP hD hS (lv_sub hl [6, 5, 4, 3, 2, 1, 0] rfl)
  exact law_end C hr hlocks k
-- ===== YOUR PART ENDS =====
set_option maxHeartbeats 4000000 in
theorem lw_walk (l : Launch) (hflags : l.flags = flags0) (b : Addr) (xs : List Int32) : MetFree l x (headSpec (Jvm.Cond.code x code maxLocals ret :: tables_1) room_1) (lw_P b xs) (fun _ _ _ _ _ => True) lw_Q := by
  refine MetFree.of_bodyS (code := code) (maxLocals := maxLocals) (ret := ret) (by decide) ?_ ?_
  · intro args s m h hn
    obtain ⟨meth, c, h1, h2, h3, h4, h5, h6, -, -⟩ := Cond.code_spec hn (atoms_spec (ws := Jvm.Cond.code x code maxLocals ret :: tables_1) h _ List.mem_cons_self)
    exact ⟨meth, c, h1, h2, h3, h4, h5, h6⟩
  · intro p e s m args below meth c s₁ B hml0 hP _
    obtain ⟨rfl, hx, hbd, hgv⟩ := hP
    obtain ⟨scr, harrAt, hlist, hof, hsmall⟩ := hx
    obtain ⟨hcb, hkn, -, -⟩ := State.arrayAt?_spec harrAt
    have hown : s.vm.findClass R_law = some m.cls := findClass_of_methodNamed B.named
    have hts0 : ∀ c ∈ (Jvm.Cond.code x code maxLocals ret :: tables_1), c.before #[Value.ref b] s = true := atoms_spec (ws := Jvm.Cond.code x code maxLocals ret :: tables_1) B.pre
    have hts : ∀ w ∈ lw_tbl, w.before #[Value.ref b] s = true := k2_hts_sels lw_privs (fun w hw => hts0 w (List.mem_cons_of_mem _ hw)) lw_privs_ok
    have hml : c.maxLocals = 15 := B.maxLocals_eq (hts0 _ List.mem_cons_self)
    have X₀ : Stand p l e room_1 s m #[Value.ref b] below meth c s₁ [] 0 0 := Stand.of_body B
    have hh0 : s₁.heap = s.heap := by rw [B.state]; rfl
    have hsz : scr.slots.size = xs.length := by rw [← Array.length_toList, hlist, List.length_map]
    have hval : ∀ j : Nat, j < xs.length → scr.slots[j]? = some (.int (xs.getD j 0)) := fun j hj => by
      rw [← Array.getElem?_toList, hlist]
      simp [hj]
    have hbl : b < s.heap.size := (Array.getElem?_eq_some_iff.mp hcb).1
    have hX : va_X b xs.length (fun j => xs.getD j 0) s s.heap := ⟨scr, hcb, hof, hkn, hsz, hval⟩
    have K : W p l e room_1 s m #[Value.ref b] below meth c s₁.heap [] 0 0 (lw_Z below #[Value.ref b] s) (entryFrame m ([Value.ref b] : List Value).toArray 15) := by
      rw [hh0]
      exact whole_start l hflags hbd ⟨B.exec, B.bytes, B.returns, hml, hown, hts, hX, hbl, B.notSynchronized, hgv⟩
    obtain ⟨t, a1, o, b1, b2, b3⟩ := K s₁ rfl X₀
    exact ⟨t, o, a1, b1, b2, b3⟩
theorem lw_pre_spec {args : Array Value} {s : State} (h : (Jvm.Cond.and given_1 narrow_1).before args s = true) (hr : rest_1_c.before args s = true) : ∃ (b : Addr) (xs : List Int32), lw_P b xs args s := by
  have hs := flat_of_before _ h
  have hq := flat_of_before _ hr
  have hc : (Cond.count 1).before args s = true := hs _ (by decide +kernel)
  have harr : (Cond.arrayOf (.arg 0) .int).before args s = true := hs _ (by decide +kernel)
  have hle : (Cond.le (.length (.arg 0)) (.int 260)).before args s = true := hs _ (by decide +kernel)
  have hlen : (Cond.isInt (.length (.arg 0))).before args s = true := hq _ (by decide +kernel)
  have hall : (Cond.all (.arg 0) (.isInt (.elem (.arg 0) (.index 0)))).before args s = true := hq _ (by decide +kernel)
  obtain ⟨b, xs, hb, hx⟩ := State.ints_of_pre rfl harr hlen hall
  have hsm : xs.length < 2 ^ 31 := hx.choose_spec.2.2.2
  have hev : (Term.length (.arg 0)).eval args s none [] s = some (.int xs.length.toInt32) := hx.length_eval hb
  have hv := Cond.le_ints hev (show (Term.int 260).eval args s none [] s = some (.int 260) from rfl)
  have hd : xs.length.toInt32 ≤ 260 := by
    simpa [Cond.before, Cond.holds, hv] using hle
  have hN : xs.length ≤ 260 := (Int32.ofNat_le_ofNat hsm (by decide)).mp (show Int32.ofNat xs.length ≤ Int32.ofNat 260 from hd)
  exact ⟨b, xs, Cond.one_arg hc (show args[0]? = some (.ref b) from hb), hx, hN, h⟩
theorem lw_comes (l : Launch) (hflags : l.flags = flags0) : Comes l x (Jvm.Cond.code x code maxLocals ret :: tables_1) room_1 (fun tb e args s => Calls_1 tb e args s ∧ rest_1 tb e args s ∧ Pre_1 tb e args s)
    (fun _ _ args s o t => lw_Q args s o t) := by
  intro p e ha hc hk s m args below hf hfit hheap happ hpre
  obtain ⟨b, xs, hP⟩ := lw_pre_spec hpre.2.2 hpre.2.1
  obtain ⟨k, o, h1, h2, h3, hQ⟩ := lw_walk l hflags b xs p e ha hc hk s m args below hf ((Spec.applies_iff_loose hf).mp happ).1 hP trivial
  exact ⟨k, o, h1, h2, h3, hQ⟩
theorem lw_frame {s t : State} {o : Outcome} {args : Array Value} (h : Framed s o t [] 600074 7301550) :
    Framed s o t (fieldLocs frame_1_writes args s ++ arrayLocs frame_1_arrays args s ++ staticLocs frame_1_statics s) 600074 7301550 := h
theorem lw_limb (L : Cond) (hL : ∀ (args : Array Value) (s t : State), L.after args s (.returned (some (.int 1))) t = true) :
    ArmFor flags0 classFile x code maxLocals ret World_1 tables_1 room_1 Calls_1 rest_1 Pre_1
      (fun tb e a s o t => postC L tb e a s o t ∧ Framed s o t (fieldLocs frame_1_writes a s ++ arrayLocs frame_1_arrays a s ++ staticLocs frame_1_statics s) 600074 7301550) := by
  intro l hflags _ _ p e ha hc hk s m args below hf hfit hheap happ hpre
  obtain ⟨k, o, h1, h2, h3, rfl, hF⟩ := lw_comes l hflags p e ha hc hk s m args below hf hfit hheap happ hpre
  exact ⟨k, _, h1, h2, h3, hL args s _, lw_frame hF⟩
theorem i_vc : Claimed_1_1 ∧ Claimed_1_2 := ⟨lw_limb limb_1_1 (fun args s t => by simp [limb_1_1, Cond.after, Cond.holds, Cond.value]), lw_limb limb_1_2 (fun args s t => Cond.after_iff.mpr (by
  first | (rw [show limb_1_2 = Cond.eq .result (.int 1) from rfl, Cond.eq_ints (x := 1) (y := 1) rfl rfl]; simp; done) | (simp [limb_1_2, Cond.value, Term.eval]; done)))⟩

