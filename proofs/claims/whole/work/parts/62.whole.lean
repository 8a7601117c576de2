/-! THE CLAIM OUT OF ONE WALK OF THE LAW'S BODY. Your part is whole_start (and what it stands on); all else here is the same for every law, but numbers. -/
def R_law : String := "NestlimitLaw"
def lw_P (b : Addr) (xs : List Int32) (args : Array Value) (s : State) : Prop := args = #[.ref b] ∧ s.IntsAt b xs ∧ xs.length ≤ 3584 ∧ (Jvm.Cond.and given_1 narrow_1).before args s = true
def lw_Q (_ : Array Value) (s : State) (o : Outcome) (t : State) : Prop := o = .returned (some (.int 1)) ∧ Framed s o t [] 601024 7293034
def lw_Z (below : List Frame) (a : Array Value) (s : State) : State → Prop := fun t => ∃ o, t.status = .running ∧ Ended t below o ∧ lw_Q a s o t
/-- the law's own end, with 1 on the stack, nothing written that was there before, its room as the claim has it -/
theorem lw_ret {p : Program} {l : Launch} {e : Env} {s : State} {m : MethodId} {below : List Frame} {meth : Method} {c : Code} {b : Nat} (hx : p.tables.exec = Jvm.exec) (hb : c.code = code) (hr : meth.sig.returnType = ret) (hlocks : meth.locks = false) {pc : Nat} {H : Heap} {ls : Array Slot} (hdg : decode code pc = .ok (.ireturn, 1)) : W p l e room_1 s m #[Value.ref b] below meth c H [] 601024 7293034 (lw_Z below #[Value.ref b] s) (F0 m pc ls [.int 1]) := by
  intro T hT X
  obtain ⟨fs, hret, hrun, hended, hW, hframe⟩ := X.leave (v := some (.int 1)) (hlocks := hlocks) (fun h => by rw [hr] at h; cases h)
  have hmeth' : T.vm.method? m = some meth := X.method'
  refine ⟨T.setFrames fs, ?_, .returned (some (.int 1)), hrun, hended, rfl, ⟨_, rfl⟩, hW, hframe⟩
  jvm_step X.here [X.here.top, hx, hb, hdg, hmeth', hr, ret, narrow_b1]
  (try refine ⟨rfl, ?_⟩); (try refine ⟨rfl, ?_⟩)
  first | (intro acts; rw [hret _ acts rfl rfl rfl]) | rw [hret _ _ rfl rfl rfl]
  exact Steps.refl _
/-- what holds at the law's entry: the machine, the code, the tables' words (any of lw_tbl by 'hts w (by decide +kernel)'), the script of L ints xs at the cell b, what the Statement gives of the start (any of its parts by flat_of_before) -/
def lw_At (p : Program) (s : State) (m : MethodId) (meth : Method) (c : Code) (b L : Nat) (xs : Nat → Int32) : Prop :=
  p.tables.exec = Jvm.exec ∧ c.code = code ∧ meth.sig.returnType = ret ∧ c.maxLocals = 8 ∧ s.vm.findClass R_law = some m.cls ∧ (∀ w ∈ lw_tbl, w.before #[Value.ref b] s = true) ∧ va_X b L xs s s.heap ∧ b < s.heap.size ∧ meth.locks = false ∧ (Jvm.Cond.and given_1 narrow_1).before #[Value.ref b] s = true
-- ===== YOUR PART BEGINS =====
set_option maxHeartbeats 4000000 in
set_option maxRecDepth 100000 in
/-- YOUR PART: from the entry, for every script of at most 3584 ints, the law comes to its end with true ('hflags': the launch's flags, for a law that throws: no stack traces) -/
theorem whole_start {p : Program} {e : Env} {s : State} {m : MethodId} {below : List Frame} {meth : Method} {c : Code} (l : Launch) (hflags : l.flags = flags0) {b L : Nat} {xs : Nat → Int32} (hL : L ≤ 3584) (C0 : lw_At p s m meth c b L xs) : W p l e room_1 s m #[Value.ref b] below meth c s.heap [] 0 0 (lw_Z below #[Value.ref b] s) (entryFrame m ([Value.ref b] : List Value).toArray 8) := by
  obtain ⟨hx, hb, hr, hml, hown, hts, hX, hbl, hlocks, hgv⟩ := id C0
  have hA : ∀ q : Nat, s.heap.size ≤ q → lA s q := fun _ h => h
  obtain ⟨ad, hE⟩ := gE_start hts hgv
  have hN := gNc_start hgv
  obtain ⟨D, y, hK, hO⟩ := gK_start hts
  have hfl : l.stackTraces = false := by unfold Launch.stackTraces; rw [hflags]; decide +kernel
  have htw : ∀ w ∈ wsL_law, w.before #[Value.ref b] s = true := fun w h => hts w (wsL_law_in w h)
  have C : lwC p l s m meth c b L xs D y ad := ⟨⟨hx, hb, hml, hown, htw⟩, ⟨hX, hbl, hL⟩, hK, hE, hN, hfl⟩
  have hS : va_S (lA s) s.heap s.heap [] := va_S.rf
  have hP : va_P D vwCl [] s.heap := fun k q h => by simp at h
  have hD : va_D (lA s) [] := ⟨fun i j p q h => by simp at h, fun k q h => by simp at h⟩
  have hl := lv_entry ([.ref b]) (n := 8) (Nat.le_of_ble_eq_true rfl)
  rw [lg_entry_eq]
  generalize (lg_sl ([.ref b]) ++ List.replicate (8 - (lg_sl ([.ref b])).length) Slot.unset).toArray = ls at hl ⊢
  have hl : lv_has ls 8 [(0, .ref b)] := hl
  refine va_new (ci := 5) (fs := [.null, .int 0, .null, .null, .null, .null, .null, .null]) (C := RX7) (T := TX7) (N := 8) hx hb hts inX7 tyX7 tyX7_ok hown (hts _ (List.mem_of_getElem? (i := 54) (by decide +kernel))) (hts _ (List.mem_of_getElem? (i := 55) (by decide +kernel))) (hts _ (List.mem_of_getElem? (i := 36) (by decide +kernel))) hK.1 hP hD hS hA rfl (fun j hj => by have h8 : ∀ j : Fin 8, defaultValue (tyX7 j.val) = vp_V [.null, .int 0, .null, .null, .null, .null, .null, .null] j.val := (by decide); exact h8 ⟨j, hj⟩) (Nat.le_of_ble_eq_true rfl) (Nat.le_of_ble_eq_true rfl) dL_law_0 (fun hX1 H hP hD hS => ?_)
  have hP : va_P D vwCl [(hX1, .inr (5, [.null, .int 0, .null, .null, .null, .null, .null, .null]))] H := hP
  have hD : va_D (lA s) [(hX1, .inr (5, [.null, .int 0, .null, .null, .null, .null, .null, .null]))] := hD
  refine lv_dup hx hb dL_law_3 rfl ?_
  refine g_callN (ws := []) (wc := [(hX1, .inr (5, [.null, .int 0, .null, .null, .null, .null, .null, .null]))]) (va_runI (As := []) (rest := [.ref hX1]) ⟨hx, hb, hml, hown, htw⟩ (c_X7_init l D y H.size hX1) (cwI 0 htw gL_law_X7_init rfl rfl rfl (hts _ (List.mem_of_getElem? (i := 36) (by decide +kernel))) (hts _ (List.mem_of_getElem? (i := 56) (by decide +kernel))) (hts _ (List.mem_of_getElem? (i := 57) (by decide +kernel))) rfl (by decide +kernel) ⟨Nat.le_of_ble_eq_true rfl, Nat.le_of_ble_eq_true rfl⟩) (gPA_SA hP hD hK hO) rfl rfl hl.1 rfl (lv_room (Nat.le_of_ble_eq_true rfl)) dL_law_4 ⟨Nat.le_of_ble_eq_true rfl, Nat.le_of_ble_eq_true rfl⟩) hP hD hS hA (fun v w1 H locs hf hP hD hS => ?_)
  obtain ⟨u0, u1, u2, u3, u4, u5, u6, u7, u8, u9, rfl, rfl⟩ := hf
  have hP : va_P D vwCl [(hX1, .inr (5, [.ref u0, .int 0, .ref u1, .ref u2, .ref u3, .ref u4, .ref u8, .ref u9])), (u0, .inl (y 3, 40, .inr (.inr (.inr (.inr (fun _ => none)))))), (u1, .inr (1, [.int (gB false), .long 0, .long 0])), (u2, .inr (1, [.int (gB false), .long 0, .long 0])), (u3, .inr (1, [.int (gB false), .long 0, .long 0])), (u4, .inr (4, [.ref u5, .ref u6, .ref u7])), (u5, .inl (y 2, 40, .inl (gZ (fun _ => false)))), (u6, .inl (y 1, 40, .inr (.inl (fun _ => 0)))), (u7, .inl (y 1, 40, .inr (.inl (fun _ => 0)))), (u8, .inr (0, [.long 0, .long 0])), (u9, .inr (0, [.long 0, .long 0]))] H := hP
  have hD : va_D (lA s) [(hX1, .inr (5, [.ref u0, .int 0, .ref u1, .ref u2, .ref u3, .ref u4, .ref u8, .ref u9])), (u0, .inl (y 3, 40, .inr (.inr (.inr (.inr (fun _ => none)))))), (u1, .inr (1, [.int (gB false), .long 0, .long 0])), (u2, .inr (1, [.int (gB false), .long 0, .long 0])), (u3, .inr (1, [.int (gB false), .long 0, .long 0])), (u4, .inr (4, [.ref u5, .ref u6, .ref u7])), (u5, .inl (y 2, 40, .inl (gZ (fun _ => false)))), (u6, .inl (y 1, 40, .inr (.inl (fun _ => 0)))), (u7, .inl (y 1, 40, .inr (.inl (fun _ => 0)))), (u8, .inr (0, [.long 0, .long 0])), (u9, .inr (0, [.long 0, .long 0]))] := hD
  refine lv_astore_n (lv' := [(1, .ref hX1), (0, .ref b)]) hx hb dL_law_7 rfl hl (by decide) rfl (fun ls hl => ?_)
  refine va_new (ci := 6) (fs := [.int 0, .int 0, .null, .null, .null, .null, .null, .null, .null, .null, .null, .null, .null, .null, .null, .null, .null, .null, .null, .null, .null, .null, .int (gB false), .long 0, .long 0, .null, .null, .null]) (C := RX8) (T := TX8) (N := 28) hx hb hts inX8 tyX8 tyX8_ok hown (hts _ (List.mem_of_getElem? (i := 687) (by decide +kernel))) (hts _ (List.mem_of_getElem? (i := 688) (by decide +kernel))) (hts _ (List.mem_of_getElem? (i := 40) (by decide +kernel))) hK.1 hP hD hS hA rfl (fun j hj => by have h8 : ∀ j : Fin 28, defaultValue (tyX8 j.val) = vp_V [.int 0, .int 0, .null, .null, .null, .null, .null, .null, .null, .null, .null, .null, .null, .null, .null, .null, .null, .null, .null, .null, .null, .null, .int (gB false), .long 0, .long 0, .null, .null, .null] j.val := (by decide); exact h8 ⟨j, hj⟩) (Nat.le_of_ble_eq_true rfl) (Nat.le_of_ble_eq_true rfl) dL_law_8 (fun h8 H hP hD hS => ?_)
  refine lv_dup hx hb dL_law_11 rfl ?_
  refine g_callN (ws := [(hX1, .inr (5, [.ref u0, .int 0, .ref u1, .ref u2, .ref u3, .ref u4, .ref u8, .ref u9])), (u0, .inl (y 3, 40, .inr (.inr (.inr (.inr (fun _ => none)))))), (u1, .inr (1, [.int (gB false), .long 0, .long 0])), (u2, .inr (1, [.int (gB false), .long 0, .long 0])), (u3, .inr (1, [.int (gB false), .long 0, .long 0])), (u4, .inr (4, [.ref u5, .ref u6, .ref u7])), (u5, .inl (y 2, 40, .inl (gZ (fun _ => false)))), (u6, .inl (y 1, 40, .inr (.inl (fun _ => 0)))), (u7, .inl (y 1, 40, .inr (.inl (fun _ => 0)))), (u8, .inr (0, [.long 0, .long 0])), (u9, .inr (0, [.long 0, .long 0]))]) (wc := [(h8, .inr (6, [.int 0, .int 0, .null, .null, .null, .null, .null, .null, .null, .null, .null, .null, .null, .null, .null, .null, .null, .null, .null, .null, .null, .null, .int (gB false), .long 0, .long 0, .null, .null, .null]))]) (va_runI (As := []) (rest := [.ref h8]) ⟨hx, hb, hml, hown, htw⟩ (c_X8_init l D y H.size h8) (cwI 0 htw gL_law_X8_init rfl rfl rfl (hts _ (List.mem_of_getElem? (i := 40) (by decide +kernel))) (hts _ (List.mem_of_getElem? (i := 689) (by decide +kernel))) (hts _ (List.mem_of_getElem? (i := 690) (by decide +kernel))) rfl (by decide +kernel) ⟨Nat.le_of_ble_eq_true rfl, Nat.le_of_ble_eq_true rfl⟩) (gP_SA (va_P_r hP) (va_D_r hD) hK) rfl rfl hl.1 rfl (lv_room (Nat.le_of_ble_eq_true rfl)) dL_law_12 ⟨Nat.le_of_ble_eq_true rfl, Nat.le_of_ble_eq_true rfl⟩) hP hD hS hA (fun v w1 H locs hf hP hD hS => ?_)
  obtain ⟨v0, v1, v2, v3, v4, v5, v6, v7, v8, v9, v10, v11, v12, v13, v14, v15, v16, v17, v18, v19, v20, v21, v22, rfl, rfl⟩ := hf
  refine lv_astore_n (lv' := [(2, .ref h8), (1, .ref hX1), (0, .ref b)]) hx hb dL_law_15 rfl hl (by decide) rfl (fun ls hl => ?_)
  refine lv_iconst (v := 1) hx hb dL_law_16 (by decide) ?_
  refine g_newJ (N' := 1) hx hb (hts _ (List.mem_of_getElem? (i := 103) (by decide +kernel))) hK hP hD hS hA (by decide) (by decide) (Nat.le_of_ble_eq_true rfl) (Nat.le_of_ble_eq_true rfl) (Nat.le_of_ble_eq_true rfl) dL_law_17 (fun oa H hP hD hS => ?_)
  refine lv_astore_n (lv' := [(3, .ref oa), (2, .ref h8), (1, .ref hX1), (0, .ref b)]) hx hb dL_law_19 rfl hl (by decide) rfl (fun ls hl => ?_)
  refine lv_iconst (v := 0) hx hb dL_law_20 (by decide) ?_
  refine lv_istore (lv' := [(4, .int 0), (3, .ref oa), (2, .ref h8), (1, .ref hX1), (0, .ref b)]) hx hb dL_law_21 hl (by decide) rfl (fun ls hl => ?_)
  obtain ⟨qX, hqX⟩ : ∃ qX : Nat → Nat, qX = (fun j => match j with
    | 0 => u0
    | 1 => u1
    | 2 => u2
    | 3 => u3
    | 4 => u4
    | 5 => u5
    | 6 => u6
    | 7 => u7
    | 8 => u8
    | _ => u9) := ⟨_, rfl⟩
  obtain ⟨q8, hq8⟩ : ∃ q8 : Nat → Nat, q8 = (fun j => match j with
    | 2 => v0
    | 3 => v1
    | 4 => v2
    | 5 => v3
    | 6 => v4
    | 7 => v5
    | 8 => v6
    | 9 => v7
    | 10 => v8
    | 11 => v9
    | 12 => v10
    | 13 => v11
    | 14 => v12
    | 15 => v13
    | 16 => v14
    | 17 => v15
    | 18 => v16
    | 19 => v17
    | 20 => v18
    | 21 => v19
    | 25 => v20
    | 26 => v21
    | _ => v22) := ⟨_, rfl⟩
  have hP3 := va_P_sw (ws := [(hX1, .inr (5, [.ref u0, .int 0, .ref u1, .ref u2, .ref u3, .ref u4, .ref u8, .ref u9])), (u0, .inl (y 3, 40, .inr (.inr (.inr (.inr (fun _ => none)))))), (u1, .inr (1, [.int (gB false), .long 0, .long 0])), (u2, .inr (1, [.int (gB false), .long 0, .long 0])), (u3, .inr (1, [.int (gB false), .long 0, .long 0])), (u4, .inr (4, [.ref u5, .ref u6, .ref u7])), (u5, .inl (y 2, 40, .inl (gZ (fun _ => false)))), (u6, .inl (y 1, 40, .inr (.inl (fun _ => 0)))), (u7, .inl (y 1, 40, .inr (.inl (fun _ => 0)))), (u8, .inr (0, [.long 0, .long 0])), (u9, .inr (0, [.long 0, .long 0]))]) (wc := [(h8, .inr (6, [.int 0, .int 0, .ref v0, .ref v1, .ref v2, .ref v3, .ref v4, .ref v5, .ref v6, .ref v7, .ref v8, .ref v9, .ref v10, .ref v11, .ref v12, .ref v13, .ref v14, .ref v15, .ref v16, .ref v17, .ref v18, .ref v19, .int (gB false), .long 0, .long 0, .ref v20, .ref v21, .ref v22])), (v0, .inl (y 0, 40, .inl (fun _ => 0))), (v1, .inl (y 0, 40, .inl (fun _ => 0))), (v2, .inl (y 0, 40, .inl (fun _ => 0))), (v3, .inl (y 0, 40, .inl (fun _ => 0))), (v4, .inl (y 0, 40, .inl (fun _ => 0))), (v5, .inl (y 0, 40, .inl (fun _ => 0))), (v6, .inl (y 0, 40, .inl (fun _ => 0))), (v7, .inl (y 0, 40, .inl (fun _ => 0))), (v8, .inl (y 0, 40, .inl (fun _ => 0))), (v9, .inl (y 0, 40, .inl (fun _ => 0))), (v10, .inl (y 0, 40, .inl (fun _ => 0))), (v11, .inl (y 2, 1000, .inl (gZ (fun _ => false)))), (v12, .inl (y 1, 1000, .inr (.inl (fun _ => 0)))), (v13, .inl (y 1, 1000, .inr (.inl (fun _ => 0)))), (v14, .inl (y 2, 1000, .inl (gZ (fun _ => false)))), (v15, .inl (y 1, 1000, .inr (.inl (fun _ => 0)))), (v16, .inl (y 1, 1000, .inr (.inl (fun _ => 0)))), (v17, .inl (y 2, 40, .inl (gZ (fun _ => false)))), (v18, .inl (y 1, 40, .inr (.inl (fun _ => 0)))), (v19, .inl (y 1, 40, .inr (.inl (fun _ => 0)))), (v20, .inl (y 0, 40, .inl (fun _ => 0))), (v21, .inl (y 1, 40, .inr (.inl (fun _ => 0)))), (v22, .inl (y 2, 40, .inl (gZ (fun _ => false))))] ++ [(oa, .inl (y 1, 1, .inr (.inl (fun _ => 0))))]) (by rw [← List.append_assoc]; exact hP)
  have hD3 := va_D_sw (ws := [(hX1, .inr (5, [.ref u0, .int 0, .ref u1, .ref u2, .ref u3, .ref u4, .ref u8, .ref u9])), (u0, .inl (y 3, 40, .inr (.inr (.inr (.inr (fun _ => none)))))), (u1, .inr (1, [.int (gB false), .long 0, .long 0])), (u2, .inr (1, [.int (gB false), .long 0, .long 0])), (u3, .inr (1, [.int (gB false), .long 0, .long 0])), (u4, .inr (4, [.ref u5, .ref u6, .ref u7])), (u5, .inl (y 2, 40, .inl (gZ (fun _ => false)))), (u6, .inl (y 1, 40, .inr (.inl (fun _ => 0)))), (u7, .inl (y 1, 40, .inr (.inl (fun _ => 0)))), (u8, .inr (0, [.long 0, .long 0])), (u9, .inr (0, [.long 0, .long 0]))]) (wc := [(h8, .inr (6, [.int 0, .int 0, .ref v0, .ref v1, .ref v2, .ref v3, .ref v4, .ref v5, .ref v6, .ref v7, .ref v8, .ref v9, .ref v10, .ref v11, .ref v12, .ref v13, .ref v14, .ref v15, .ref v16, .ref v17, .ref v18, .ref v19, .int (gB false), .long 0, .long 0, .ref v20, .ref v21, .ref v22])), (v0, .inl (y 0, 40, .inl (fun _ => 0))), (v1, .inl (y 0, 40, .inl (fun _ => 0))), (v2, .inl (y 0, 40, .inl (fun _ => 0))), (v3, .inl (y 0, 40, .inl (fun _ => 0))), (v4, .inl (y 0, 40, .inl (fun _ => 0))), (v5, .inl (y 0, 40, .inl (fun _ => 0))), (v6, .inl (y 0, 40, .inl (fun _ => 0))), (v7, .inl (y 0, 40, .inl (fun _ => 0))), (v8, .inl (y 0, 40, .inl (fun _ => 0))), (v9, .inl (y 0, 40, .inl (fun _ => 0))), (v10, .inl (y 0, 40, .inl (fun _ => 0))), (v11, .inl (y 2, 1000, .inl (gZ (fun _ => false)))), (v12, .inl (y 1, 1000, .inr (.inl (fun _ => 0)))), (v13, .inl (y 1, 1000, .inr (.inl (fun _ => 0)))), (v14, .inl (y 2, 1000, .inl (gZ (fun _ => false)))), (v15, .inl (y 1, 1000, .inr (.inl (fun _ => 0)))), (v16, .inl (y 1, 1000, .inr (.inl (fun _ => 0)))), (v17, .inl (y 2, 40, .inl (gZ (fun _ => false)))), (v18, .inl (y 1, 40, .inr (.inl (fun _ => 0)))), (v19, .inl (y 1, 40, .inr (.inl (fun _ => 0)))), (v20, .inl (y 0, 40, .inl (fun _ => 0))), (v21, .inl (y 1, 40, .inr (.inl (fun _ => 0)))), (v22, .inl (y 2, 40, .inl (gZ (fun _ => false))))] ++ [(oa, .inl (y 1, 1, .inr (.inl (fun _ => 0))))]) (by rw [← List.append_assoc]; exact hD)
  rw [List.append_assoc] at hP3 hD3
  have hP4 : va_P D vwCl (wM y h8 q8 0 0 (fun _ => 0) (fun _ => 0) (fun _ => 0) (fun _ => 0) (fun _ => 0) (fun _ => 0) (fun _ => 0) (fun _ => 0) (fun _ => 0) (fun _ => 0) (fun _ => 0) (fun _ => false) (fun _ => 0) (fun _ => 0) (fun _ => false) (fun _ => 0) (fun _ => 0) (fun _ => false) (fun _ => 0) (fun _ => 0) false 0 0 (fun _ => 0) (fun _ => 0) (fun _ => false) ++ wXo oa (fun _ => 0) y ad hX1 qX 0 (gPg (fun _ _ => 0) 0) 0 false 0 0 false 0 0 false 0 0 (fun _ => false) (fun _ => 0) (fun _ => 0) 0 0 0 0 (fun _ _ => 0) (fun _ => 0) (fun _ => 0) (fun _ => 0) (fun _ => 0) (fun _ _ => false) (fun _ _ => 0) (fun _ _ => 0) (fun _ _ => false) (fun _ _ => 0) (fun _ _ => 0) (fun _ => 0) (fun _ => 0)) H := by subst hqX hq8; exact hP3
  have hD4 : va_D (lA s) (wM y h8 q8 0 0 (fun _ => 0) (fun _ => 0) (fun _ => 0) (fun _ => 0) (fun _ => 0) (fun _ => 0) (fun _ => 0) (fun _ => 0) (fun _ => 0) (fun _ => 0) (fun _ => 0) (fun _ => false) (fun _ => 0) (fun _ => 0) (fun _ => false) (fun _ => 0) (fun _ => 0) (fun _ => false) (fun _ => 0) (fun _ => 0) false 0 0 (fun _ => 0) (fun _ => 0) (fun _ => false) ++ wXo oa (fun _ => 0) y ad hX1 qX 0 (gPg (fun _ _ => 0) 0) 0 false 0 0 false 0 0 false 0 0 (fun _ => false) (fun _ => 0) (fun _ => 0) 0 0 0 0 (fun _ _ => 0) (fun _ => 0) (fun _ => 0) (fun _ => 0) (fun _ => 0) (fun _ _ => false) (fun _ _ => 0) (fun _ _ => 0) (fun _ _ => false) (fun _ _ => 0) (fun _ _ => 0) (fun _ => 0) (fun _ => 0)) := by subst hqX hq8; exact hD3
  refine W.widen (k := 100) (n := 7000) (Nat.le_of_ble_eq_true rfl) (Nat.le_of_ble_eq_true rfl) ?_
  refine law_loop C (hX1 := hX1) (h8 := h8) (oa := oa) (qX := qX) (q8 := q8) (fun H locs cells slots ls hc hsl hS => ?_) 513 0 100 7000 (by omega) (by omega) (by omega) (by omega) _ H locs (SimW_mk ?_) hP4 hD4 hS ls (lv_sub hl [4, 3, 2, 1, 0] rfl)
  · refine lv_iconst (v := 1) hx hb dL_law_1829 (by decide) ?_
    refine va_forget (fun q hq => hS.2.2 q hq) ?_
    refine W.widen (k := 601024) (n := 7293034) hc hsl ?_
    exact lw_ret hx hb hr hlocks dL_law_1830
  · exact ⟨⟨Nat.zero_le _, fun _ _ => ⟨rfl, rfl⟩⟩, fun k hk => absurd hk (Nat.not_lt_zero k)⟩
-- ===== YOUR PART ENDS =====
set_option maxHeartbeats 4000000 in
theorem lw_walk (l : Launch) (hflags : l.flags = flags0) (b : Addr) (xs : List Int32) : MetFree l x (headSpec (Jvm.Cond.code x code maxLocals ret :: tables_1) room_1) (lw_P b xs) (fun _ _ _ _ _ => True) lw_Q := by
  refine MetFree.of_bodyS (code := code) (maxLocals := maxLocals) (ret := ret) (by decide) ?_ ?_
  · intro args s m h hn
    obtain ⟨meth, c, h1, h2, h3, h4, h5, h6, -, -⟩ := Cond.code_spec hn (atoms_spec (ws := Jvm.Cond.code x code maxLocals ret :: tables_1) h _ List.mem_cons_self)
    exact ⟨meth, c, h1, h2, h3, h4, h5, h6⟩
  · intro p e s m args below meth c s₁ B hml0 hP _
    obtain ⟨rfl, hx, hbd, hgv⟩ := hP
    obtain ⟨scr, harrAt, hlist, hof, hsmall⟩ := hx
    obtain ⟨hcb, hkn, -, -⟩ := State.arrayAt?_spec harrAt
    have hown : s.vm.findClass R_law = some m.cls := findClass_of_methodNamed B.named
    have hts0 : ∀ c ∈ (Jvm.Cond.code x code maxLocals ret :: tables_1), c.before #[Value.ref b] s = true := atoms_spec (ws := Jvm.Cond.code x code maxLocals ret :: tables_1) B.pre
    have hts : ∀ w ∈ lw_tbl, w.before #[Value.ref b] s = true := k2_hts_sels lw_privs (fun w hw => hts0 w (List.mem_cons_of_mem _ hw)) lw_privs_ok
    have hml : c.maxLocals = 8 := B.maxLocals_eq (hts0 _ List.mem_cons_self)
    have X₀ : Stand p l e room_1 s m #[Value.ref b] below meth c s₁ [] 0 0 := Stand.of_body B
    have hh0 : s₁.heap = s.heap := by rw [B.state]; rfl
    have hsz : scr.slots.size = xs.length := by rw [← Array.length_toList, hlist, List.length_map]
    have hval : ∀ j : Nat, j < xs.length → scr.slots[j]? = some (.int (xs.getD j 0)) := fun j hj => by
      rw [← Array.getElem?_toList, hlist]
      simp [hj]
    have hbl : b < s.heap.size := (Array.getElem?_eq_some_iff.mp hcb).1
    have hX : va_X b xs.length (fun j => xs.getD j 0) s s.heap := ⟨scr, hcb, hof, hkn, hsz, hval⟩
    have K : W p l e room_1 s m #[Value.ref b] below meth c s₁.heap [] 0 0 (lw_Z below #[Value.ref b] s) (entryFrame m ([Value.ref b] : List Value).toArray 8) := by
      rw [hh0]
      exact whole_start l hflags hbd ⟨B.exec, B.bytes, B.returns, hml, hown, hts, hX, hbl, B.notSynchronized, hgv⟩
    obtain ⟨t, a1, o, b1, b2, b3⟩ := K s₁ rfl X₀
    exact ⟨t, o, a1, b1, b2, b3⟩
theorem lw_pre_spec {args : Array Value} {s : State} (h : (Jvm.Cond.and given_1 narrow_1).before args s = true) (hr : rest_1_c.before args s = true) : ∃ (b : Addr) (xs : List Int32), lw_P b xs args s := by
  have hs := flat_of_before _ h
  have hq := flat_of_before _ hr
  have hc : (Cond.count 1).before args s = true := hs _ (by decide +kernel)
  have harr : (Cond.arrayOf (.arg 0) .int).before args s = true := hs _ (by decide +kernel)
  have hle : (Cond.le (.length (.arg 0)) (.int 3584)).before args s = true := hs _ (by decide +kernel)
  have hlen : (Cond.isInt (.length (.arg 0))).before args s = true := hq _ (by decide +kernel)
  have hall : (Cond.all (.arg 0) (.isInt (.elem (.arg 0) (.index 0)))).before args s = true := hq _ (by decide +kernel)
  obtain ⟨b, xs, hb, hx⟩ := State.ints_of_pre rfl harr hlen hall
  have hsm : xs.length < 2 ^ 31 := hx.choose_spec.2.2.2
  have hev : (Term.length (.arg 0)).eval args s none [] s = some (.int xs.length.toInt32) := hx.length_eval hb
  have hv := Cond.le_ints hev (show (Term.int 3584).eval args s none [] s = some (.int 3584) from rfl)
  have hd : xs.length.toInt32 ≤ 3584 := by
    simpa [Cond.before, Cond.holds, hv] using hle
  have hN : xs.length ≤ 3584 := (Int32.ofNat_le_ofNat hsm (by decide)).mp (show Int32.ofNat xs.length ≤ Int32.ofNat 3584 from hd)
  exact ⟨b, xs, Cond.one_arg hc (show args[0]? = some (.ref b) from hb), hx, hN, h⟩
theorem lw_comes (l : Launch) (hflags : l.flags = flags0) : Comes l x (Jvm.Cond.code x code maxLocals ret :: tables_1) room_1 (fun tb e args s => Calls_1 tb e args s ∧ rest_1 tb e args s ∧ Pre_1 tb e args s)
    (fun _ _ args s o t => lw_Q args s o t) := by
  intro p e ha hc hk s m args below hf hfit hheap happ hpre
  obtain ⟨b, xs, hP⟩ := lw_pre_spec hpre.2.2 hpre.2.1
  obtain ⟨k, o, h1, h2, h3, hQ⟩ := lw_walk l hflags b xs p e ha hc hk s m args below hf ((Spec.applies_iff_loose hf).mp happ).1 hP trivial
  exact ⟨k, o, h1, h2, h3, hQ⟩
theorem lw_frame {s t : State} {o : Outcome} {args : Array Value} (h : Framed s o t [] 601024 7293034) :
    Framed s o t (fieldLocs frame_1_writes args s ++ arrayLocs frame_1_arrays args s ++ staticLocs frame_1_statics s) 601024 7293034 := h
theorem lw_limb (L : Cond) (hL : ∀ (args : Array Value) (s t : State), L.after args s (.returned (some (.int 1))) t = true) :
    ArmFor flags0 classFile x code maxLocals ret World_1 tables_1 room_1 Calls_1 rest_1 Pre_1
      (fun tb e a s o t => postC L tb e a s o t ∧ Framed s o t (fieldLocs frame_1_writes a s ++ arrayLocs frame_1_arrays a s ++ staticLocs frame_1_statics s) 601024 7293034) := by
  intro l hflags _ _ p e ha hc hk s m args below hf hfit hheap happ hpre
  obtain ⟨k, o, h1, h2, h3, rfl, hF⟩ := lw_comes l hflags p e ha hc hk s m args below hf hfit hheap happ hpre
  exact ⟨k, _, h1, h2, h3, hL args s _, lw_frame hF⟩
theorem i_vc : Claimed_1_1 ∧ Claimed_1_2 := ⟨lw_limb limb_1_1 (fun args s t => by simp [limb_1_1, Cond.after, Cond.holds, Cond.value]), lw_limb limb_1_2 (fun args s t => Cond.after_iff.mpr (by
  first | (rw [show limb_1_2 = Cond.eq .result (.int 1) from rfl, Cond.eq_ints (x := 1) (y := 1) rfl rfl]; simp; done) | (simp [limb_1_2, Cond.value, Term.eval]; done)))⟩

