theorem g_cut {p : Program} {l : Launch} {e : Env} {R : Room} {s : State} {m : MethodId} {args : Array Value} {below : List Frame} {meth : Method} {c : Code} {H : Heap} {locs : List Loc} {cells slots : Nat} {Q : State → Prop} {g g2 : JFrame} (k2 : W p l e R s m args below meth c H locs cells slots Q g2) (k1 : W p l e R s m args below meth c H locs cells slots Q g2 → W p l e R s m args below meth c H locs cells slots Q g) : W p l e R s m args below meth c H locs cells slots Q g := k1 k2
abbrev sh (x k : Int32) : Int32 := x >>> (k &&& 31)
def lowV (v n : Int32) : Int32 := (v &&& 2147483647) - (v &&& 2147483647) / n * n
theorem low_nI (v : Int32) {N : Nat} (h0 : 0 < N) (hN : N < 2 ^ 31) : ∃ r, r < N ∧ lowV v (nI N) = nI r := by
  obtain ⟨x, hx⟩ : ∃ x, x = v &&& 2147483647 := ⟨_, rfl⟩
  have hn := nI_toInt hN
  have hb : x.toBitVec.toNat ≤ 2147483647 := by
    rw [hx, Int32.toBitVec_and, BitVec.toNat_and]
    exact Nat.and_le_right
  have hx0 : x.toInt = (x.toBitVec.toNat : Int) := by
    show x.toBitVec.toInt = _
    rw [BitVec.toInt_eq_toNat_of_lt (by omega)]
  have k1 : (x / nI N).toInt = x.toInt / (N : Int) := by
    rw [Int32.toInt_div, hn, Int.tdiv_eq_ediv_of_nonneg (by omega)]
    have q0 : 0 ≤ x.toInt / (N : Int) := Int.ediv_nonneg (by omega) (by omega)
    have q1 : x.toInt / (N : Int) ≤ x.toInt := Int.ediv_le_self _ (by omega)
    apply Int.bmod_eq_of_le <;> omega
  have e := Int.mul_ediv_add_emod x.toInt (N : Int)
  have e1 := Int.emod_nonneg x.toInt (show (N : Int) ≠ 0 by omega)
  have e2 := Int.emod_lt_of_pos x.toInt (show (0 : Int) < N by omega)
  have k2 : (x / nI N * nI N).toInt = (N : Int) * (x.toInt / (N : Int)) := by
    rw [Int32.toInt_mul, k1, hn, Int.mul_comm]
    apply Int.bmod_eq_of_le <;> omega
  have k3 : (x - x / nI N * nI N).toInt = x.toInt % (N : Int) := by
    rw [Int32.toInt_sub, k2]
    have : x.toInt - (N : Int) * (x.toInt / (N : Int)) = x.toInt % (N : Int) := by omega
    rw [this]
    apply Int.bmod_eq_of_le <;> omega
  refine ⟨(x.toInt % (N : Int)).toNat, by omega, ?_⟩
  unfold lowV
  rw [← hx]
  apply Int32.toInt_inj.mp
  rw [k3, nI_toInt (by omega)]
  omega
theorem low_lit (v : Int32) {n : Int32} {N : Nat} (hn : n = nI N) (h0 : 0 < N) (hN : N < 2 ^ 31) : ∃ r, r < N ∧ lowV v n = nI r := by
  rw [hn]
  exact low_nI v h0 hN
theorem e_count (l : Launch) (hfl : l.stackTraces = false) (D : va_G) (y : Nat → ClassId) (ad : Nat → Nat) {S : St} {h : Nat} {w : va_W} (hw : OW y ad h S w) (sz : Nat) : Met l yX7_count wsX7_count ({ frames := 0, cells := 0, slots := 0, locals := 0 } : Room) (gPX D y ad [.ref h] w sz) (gR (.int (nI (sN S)))) 0 0 (fun _ => False) := by
  obtain ⟨q, pa, b1, l1, r1, b2, l2, r2, b3, l3, r3, uz, ul, uh, f1, g1, f2, g2, rfl⟩ := hw
  exact c_X7_count l hfl D y ad sz h q _ b1 l1 r1 b2 l2 r2 b3 l3 r3 uz ul uh f1 g1 f2 g2 pa _ _ _ _ _ _ _ _ _ _ _ _
set_option maxRecDepth 100000 in
theorem c_L_low (l : Launch) (D : va_G) (y : Nat → ClassId) (sz : Nat) (v0 n0 : Int32) (hne : ¬ n0 = 0) : Met l yL_low wsL_low ({ frames := 0, cells := 0, slots := 0, locals := 0 } : Room) (gP D y [.int v0, .int n0] [] sz) (gR (.int (lowV v0 n0))) 0 0 (fun _ => False) := by
  refine Met.ofW (cc := cL_low) (maxL := 2) (ret := (some .int)) (by decide) rfl ?_
  intro pg e s m args below meth c s₁ B hml hv
  obtain ⟨rfl, hsz, hP, hK, hD0⟩ := hv
  have hx := B.exec
  have hb := B.bytes
  have hr := B.returns
  have hts := atoms_spec (ws := wsL_low) B.pre
  have hown : s.vm.findClass RL = some m.cls := findClass_of_methodNamed B.named
  have hlocks := B.notSynchronized
  subst hsz
  obtain ⟨A, hAe⟩ : ∃ A : Nat → Prop, A = va_A [] s.heap.size := ⟨_, rfl⟩
  have hD : va_D A [] := by rw [hAe]; exact hD0.self (sz := s.heap.size)
  have hA : ∀ q : Nat, s.heap.size ≤ q → A q := fun q h => by rw [hAe]; exact Or.inr h
  have hS : va_S A s.heap s.heap [] := va_S.rf
  have hl := lv_entry ([.int v0, .int n0]) (n := 2) (Nat.le_of_ble_eq_true rfl)
  rw [lg_entry_eq]
  generalize (lg_sl ([.int v0, .int n0]) ++ List.replicate (2 - (lg_sl ([.int v0, .int n0])).length) Slot.unset).toArray = ls at hl ⊢
  have hl : lv_has ls 2 [(0, .int v0), (1, .int n0)] := hl
  refine lv_iload_n hx hb dL_low_0 rfl (lv_at hl 0 rfl) ?_
  refine lv_ldc (v := 2147483647) hx hb hown (hts (.constant RL 7 (2147483647)) (List.mem_of_getElem? (i := 1) rfl)) dL_low_1 ?_
  refine lv_iand hx hb dL_low_3 ?_
  refine lv_iload_n hx hb dL_low_4 rfl (lv_at hl 1 rfl) ?_
  refine lv_irem hx hb dL_low_5 (hne) ?_
  exact W.iret (v := lowV v0 n0) hx hb hr (fun t ht hW => ⟨rfl, ht⟩) (fun q h => by cases h) dL_low_6
def gPc (b L : Nat) (xs : Nat → Int32) (av : List Value) : Array Value → State → Prop := va_Pc av (fun U => va_X b L xs U U.heap ∧ b < U.heap.size)
theorem gPc_blind {b L : Nat} {xs : Nat → Int32} {av : List Value} : FrameBlind (gPc b L xs av) := fun a U g mk q => ⟨q.1, va_X.moved (u := U) (U := U.calling g mk a) (Vm.Alike.refl U.vm) q.2.1, q.2.2⟩
set_option maxRecDepth 100000 in
theorem c_L_cell (l : Launch) (b L : Nat) (xs : Nat → Int32) (K : Nat) (hL : L < 2 ^ 31) (hK : K < 2 ^ 31) : Met l yL_cell wsL_cell ({ frames := 0, cells := 0, slots := 0, locals := 0 } : Room) (gPc b L xs [.ref b, .int (nI K)]) (gRp (fun v => ∃ x : Int32, v = .int x)) 0 0 (fun _ => False) := by
  refine Met.ofW (cc := cL_cell) (maxL := 2) (ret := (some .int)) (by decide) rfl ?_
  intro pg e s m args below meth c s₁ B hml hv
  obtain ⟨rfl, hX, hbl⟩ := hv
  have hx := B.exec
  have hb := B.bytes
  have hr := B.returns
  have hts := atoms_spec (ws := wsL_cell) B.pre
  have hown : s.vm.findClass RL = some m.cls := findClass_of_methodNamed B.named
  have hlocks := B.notSynchronized
  have hS : va_S (fun _ => False) s.heap s.heap [] := va_S.rf
  have hl := lv_entry ([.ref b, .int (nI K)]) (n := 2) (Nat.le_of_ble_eq_true rfl)
  rw [lg_entry_eq]
  generalize (lg_sl ([.ref b, .int (nI K)]) ++ List.replicate (2 - (lg_sl ([.ref b, .int (nI K)])).length) Slot.unset).toArray = ls at hl ⊢
  have hl : lv_has ls 2 [(0, .ref b), (1, .int (nI K))] := hl
  refine lv_iload_n hx hb dL_cell_0 rfl (lv_at hl 1 rfl) ?_
  refine lv_aload_n hx hb dL_cell_1 rfl (lv_at hl 0 rfl) ?_
  refine va_slen hx hb hX hbl (fun z => z) hS dL_cell_2 ?_
  refine lv_icmp_ge (tgt := 12) hx hb dL_cell_3 (by decide) (fun c_3 => ?_) (fun c_3 => ?_)
  · skip
    refine lv_sipush (v := 7919) hx hb dL_cell_12 (by decide) ?_
    refine lv_iload_n hx hb dL_cell_15 rfl (lv_at hl 1 rfl) ?_
    refine lv_sipush (v := 1877) hx hb dL_cell_16 (by decide) ?_
    refine lv_iadd hx hb dL_cell_19 ?_
    refine g_topi (nI_add K 1877) ?_
    refine lv_imul hx hb dL_cell_20 ?_
    refine g_topi (pk_mul 7919 (K + 1877)) ?_
    refine lv_iload_n hx hb dL_cell_21 rfl (lv_at hl 1 rfl) ?_
    refine lv_sipush (v := 4421) hx hb dL_cell_22 (by decide) ?_
    refine lv_iadd hx hb dL_cell_25 ?_
    refine g_topi (nI_add K 4421) ?_
    refine lv_imul hx hb dL_cell_26 ?_
    refine g_topi (pk_mul (7919 * (K + 1877)) (K + 4421)) ?_
    exact W.iret hx hb hr (fun t ht hW => ⟨⟨_, rfl, _, rfl⟩, ht⟩) (fun q h => by cases h) dL_cell_27
  · skip
    refine lv_aload_n hx hb dL_cell_6 rfl (lv_at hl 0 rfl) ?_
    refine lv_iload_n hx hb dL_cell_7 rfl (lv_at hl 1 rfl) ?_
    refine va_sld hx hb hX hbl (fun z => z) hS (vp_in_nI (Nat.not_le.mp (fun z => c_3 ((nI_leI hL hK).mpr z))) hL) dL_cell_8 ?_
    refine lv_goto (tgt := 27) hx hb dL_cell_9 (by decide) ?_
    exact W.iret hx hb hr (fun t ht hW => ⟨⟨_, rfl, _, rfl⟩, ht⟩) (fun q h => by cases h) dL_cell_27
def aOdd (v0 : Int32) : Bool := decide ((sh v0 18) &&& 7 = 7)
abbrev aX (v0 : Int32) : Int32 := sh v0 6
def aA (n : Nat) (v0 : Int32) : Int32 := if aOdd v0 = true then lowV (sh v0 6) 44 - 2 else if nI n = 0 then 0 else lowV (sh v0 6) (nI n)
def aB (n : Nat) (v0 : Int32) : Int32 := if aOdd v0 = true then lowV (sh (sh v0 6) 3) 44 - 2 else if nI n = 0 then 0 else lowV (sh (sh v0 6) 3) (nI n)
def aP (v0 : Int32) : Int32 := if aOdd v0 = true then lowV (sh (sh v0 6) 5) 28 - 1 else if (sh (sh v0 6) 9) &&& 3 = 0 then lowV (sh (sh v0 6) 5) 25 else lowV (sh (sh v0 6) 5) 12
def aR1 (v0 : Int32) : Int32 := if aOdd v0 = true then lowV (sh v0 6) 2200 - 1100 else if (sh v0 6) &&& 3 = 0 then lowV (sh v0 6) 401 - 200 else lowV (sh v0 6) 41 - 20
def aR2 (v0 : Int32) : Int32 := if aOdd v0 = true then lowV (sh (sh v0 6) 4) 1100 - 20 else 1 + lowV (sh (sh v0 6) 4) 30
def aZero (S : St) (v0 : Int32) : Int32 × St := if aOdd v0 = true then dZero S (lowV (sh v0 6) 19 - 9) (lowV (sh (sh v0 6) 2) 19 - 9) (lowV (sh (sh v0 6) 4) 19 - 9) (lowV (sh (sh v0 6) 6) 19 - 9) (lowV (sh (sh v0 6) 3) 10 - 4) (lowV (sh (sh v0 6) 5) 4) else dZero S (lowV (sh v0 6) 19 - 9) (lowV (sh (sh v0 6) 2) 19 - 9) (lowV (sh (sh v0 6) 4) 19 - 9) (lowV (sh (sh v0 6) 6) 19 - 9) (lowV (sh (sh v0 6) 3) 8 - 4) (lowV (sh (sh v0 6) 5) 3)
def aMk (S : St) (v0 e0 : Int32) : Int64 × St := if nI (sN S) ≤ 17 then (if 8 ≤ lowV v0 44 then (if 10 ≤ lowV v0 44 then (if 13 ≤ lowV v0 44 then (if 14 ≤ lowV v0 44 then (if 15 ≤ lowV v0 44 then (if 16 ≤ lowV v0 44 then (if 17 ≤ lowV v0 44 then ((aZero S v0).1.toInt64, (aZero S v0).2) else (if e0 ≤ 1 then dMake S 7 (aA (sN S) v0) (aA (sN S) v0) else (-2100000000, S))) else dMake S 6 (aA (sN S) v0) (aA (sN S) v0)) else dMake S 5 (aA (sN S) v0) (aA (sN S) v0)) else dMake S 4 (aA (sN S) v0) (aB (sN S) v0)) else dMake S 3 (aA (sN S) v0) (aB (sN S) v0)) else dMake S 2 (aA (sN S) v0) (aB (sN S) v0)) else dMake S 1 (aA (sN S) v0) (aB (sN S) v0)) else (-2100000000, S)
def aD8 (v0 : Int32) : Int32 := if aOdd v0 = true then lowV (sh (sh v0 6) 7) 10 else lowV (sh (sh v0 6) 7) 8
def aD6 (v0 : Int32) : Int32 := if aOdd v0 = true then lowV (sh (sh v0 6) 7) 28 else lowV (sh (sh v0 6) 7) 6
def aC (n : Nat) (v0 : Int32) : Int32 := if nI n = 0 then 0 else if aOdd v0 = true then lowV (sh (sh v0 6) 6) (nI (n + 1)) else lowV (sh (sh v0 6) 6) (nI n)
def aMid (S : St) (v0 : Int32) : Int64 × St := if 21 ≤ lowV v0 44 then (if 24 ≤ lowV v0 44 then (if 26 ≤ lowV v0 44 then (if 28 ≤ lowV v0 44 then (if 30 ≤ lowV v0 44 then (if 35 ≤ lowV v0 44 then dRes S (aA (sN S) v0) else dNext S (aA (sN S) v0)) else (dQuo S (aA (sN S) v0) (aP v0) (aD6 v0), S)) else (dDec S (aA (sN S) v0) (aP v0) (aD8 v0), S)) else (dComp S (aA (sN S) v0) (aB (sN S) v0) (aP v0), S)) else (dTold S (aA (sN S) v0) (aP v0) (decide ((sh (sh v0 6) 4) &&& 1 = 1)), S)) else (dRaw S (aA (sN S) v0) (aP v0) (decide ((sh (sh v0 6) 4) &&& 1 = 1)), S)
noncomputable def aHi (S : St) (v0 : Int32) : Int64 × St := if 41 ≤ lowV v0 44 then (if lowV v0 44 = 41 then (dEmi S (aA (sN S) v0), S) else if lowV v0 44 = 42 then (dPar S (aA (sN S) v0), S) else (dNeed S (aA (sN S) v0), S)) else (if (sh (sh v0 6) 4) &&& 1 = 1 then (dIns S (aA (sN S) v0) (aB (sN S) v0) (aC (sN S) v0) (aP v0) true, S) else (dIns S (aA (sN S) v0) (aB (sN S) v0) (aC (sN S) v0) (aP v0) false, S))
noncomputable def aAct (S : St) (v0 e0 : Int32) : Int64 × St := if lowV v0 44 < 6 then dRat S (aR1 v0) (aR2 v0) else if 2 ≤ nI (sN S) then (if 18 ≤ lowV v0 44 then (if 36 ≤ lowV v0 44 then aHi S v0 else aMid S v0) else aMk S v0 e0) else dRat S (aR1 v0) (aR2 v0)
set_option maxHeartbeats 4000000 in
set_option maxRecDepth 100000 in
theorem c_L_act (l : Launch) (hfl : l.stackTraces = false) (D : va_G) (y : Nat → ClassId) (ad : Nat → Nat) {S : St} (hS9 : SI S) {h : Nat} {w : va_W} (hw : OW y ad h S w) (v0 e0 : Int32) (sz : Nat) : Met l yL_act wsL_act ({ frames := 12, cells := 10, slots := 168, locals := 440 } : Room) (gPN D y ad [.ref h, .int v0, .int e0] w sz) (gQn D w (fun v w1 => v = some (.long (aAct S v0 e0).1) ∧ OW y ad h (aAct S v0 e0).2 w1)) 10 168 (va_A w sz) := by
  refine Met.ofW (cc := cL_act) (maxL := 11) (ret := (some .long)) (by decide) rfl ?_
  intro pg e s m args below meth c s₁ B hml hv
  obtain ⟨rfl, ⟨hsz, hP, hK, hD0, hE0⟩, hN⟩ := hv
  have hx := B.exec
  have hb := B.bytes
  have hr := B.returns
  have hts := atoms_spec (ws := wsL_act) B.pre
  have hown : s.vm.findClass RL = some m.cls := findClass_of_methodNamed B.named
  have hlocks := B.notSynchronized
  subst hsz
  obtain ⟨A, hAe⟩ : ∃ A : Nat → Prop, A = va_A w s.heap.size := ⟨_, rfl⟩
  have hE : gE ad A s s.heap := by rw [hAe]; exact hE0
  have hD : va_D A w := by rw [hAe]; exact hD0.self (sz := s.heap.size)
  have hA : ∀ q : Nat, s.heap.size ≤ q → A q := fun q h => by rw [hAe]; exact Or.inr h
  have hS : va_S A s.heap s.heap [] := va_S.rf
  have hl := lv_entry ([.ref h, .int v0, .int e0]) (n := 11) (Nat.le_of_ble_eq_true rfl)
  rw [lg_entry_eq]
  generalize (lg_sl ([.ref h, .int v0, .int e0]) ++ List.replicate (11 - (lg_sl ([.ref h, .int v0, .int e0])).length) Slot.unset).toArray = ls at hl ⊢
  have hl : lv_has ls 11 [(0, .ref h), (1, .int v0), (2, .int e0)] := hl
  obtain ⟨fs, he⟩ := hw.head
  refine g_cut (g2 := F0 m 17 ls [.int (gB (aOdd v0))]) ?_ (fun K => ?_)
  · skip
    refine lv_istore_n (lv' := [(3, .int (gB (aOdd v0))), (0, .ref h), (1, .int v0), (2, .int e0)]) hx hb dL_act_17 rfl hl (by decide) rfl (fun ls hl => ?_)
    refine lv_iload_n hx hb dL_act_18 rfl (lv_at hl 2 rfl) ?_
    refine lv_bipush (v := 44) hx hb dL_act_19 (by decide) ?_
    refine g_callR (v0 := .int (lowV v0 44)) (va_runS (As := [.int v0, .int 44]) (rest := []) ⟨hx, hb, hml, hown, hts⟩ (c_L_low l D y s.heap.size v0 44 (by decide)) (va_cwS 2 hts gL_act_L_low rfl rfl rfl (by decide +kernel) ⟨Nat.le_of_ble_eq_true rfl, Nat.le_of_ble_eq_true rfl⟩) (gP_S hP hD hK [] (by decide) rfl) rfl rfl hl.1 rfl (lv_room (Nat.le_of_ble_eq_true rfl)) dL_act_21 ⟨Nat.le_of_ble_eq_true rfl, Nat.le_of_ble_eq_true rfl⟩) ?_
    refine lv_istore (lv' := [(4, .int (lowV v0 44)), (3, .int (gB (aOdd v0))), (0, .ref h), (1, .int v0), (2, .int e0)]) hx hb dL_act_24 hl (by decide) rfl (fun ls hl => ?_)
    refine lv_iload_n hx hb dL_act_26 rfl (lv_at hl 3 rfl) ?_
    refine lv_bipush (v := 6) hx hb dL_act_27 (by decide) ?_
    refine lv_ishr hx hb dL_act_29 ?_
    refine lv_istore (lv' := [(5, .int (sh v0 6)), (4, .int (lowV v0 44)), (3, .int (gB (aOdd v0))), (0, .ref h), (1, .int v0), (2, .int e0)]) hx hb dL_act_30 hl (by decide) rfl (fun ls hl => ?_)
    refine lv_aload_n hx hb dL_act_32 rfl (lv_at hl 3 rfl) ?_
    refine g_callR (v0 := .int (nI (sN S))) (va_runV (As := []) (rest := []) ⟨hx, hb, hml, hown, hts⟩ (e_count l hfl D y ad hw s.heap.size) (cwV 0 hts gL_act_X7_count rfl rfl rfl (by decide +kernel) ⟨Nat.le_of_ble_eq_true rfl, Nat.le_of_ble_eq_true rfl⟩) (gPX_VA hP hD hK hE hS hA 0 he rfl) rfl rfl hl.1 rfl (lv_room (Nat.le_of_ble_eq_true rfl)) dL_act_33 ⟨Nat.le_of_ble_eq_true rfl, Nat.le_of_ble_eq_true rfl⟩) ?_
    refine lv_istore (lv' := [(6, .int (nI (sN S))), (5, .int (sh v0 6)), (4, .int (lowV v0 44)), (3, .int (gB (aOdd v0))), (0, .ref h), (1, .int v0), (2, .int e0)]) hx hb dL_act_36 hl (by decide) rfl (fun ls hl => ?_)
    refine g_cut (g2 := F0 m 70 ls [.int (aA (sN S) v0)]) ?_ (fun K => ?_)
    · skip
      refine lv_istore (lv' := [(7, .int (aA (sN S) v0)), (6, .int (nI (sN S))), (5, .int (sh v0 6)), (4, .int (lowV v0 44)), (3, .int (gB (aOdd v0))), (0, .ref h), (1, .int v0), (2, .int e0)]) hx hb dL_act_70 hl (by decide) rfl (fun ls hl => ?_)
      refine g_cut (g2 := F0 m 108 ls [.int (aB (sN S) v0)]) ?_ (fun K => ?_)
      · skip
        refine lv_istore (lv' := [(8, .int (aB (sN S) v0)), (7, .int (aA (sN S) v0)), (6, .int (nI (sN S))), (5, .int (sh v0 6)), (4, .int (lowV v0 44)), (3, .int (gB (aOdd v0))), (0, .ref h), (1, .int v0), (2, .int e0)]) hx hb dL_act_108 hl (by decide) rfl (fun ls hl => ?_)
        refine g_cut (g2 := F0 m 159 ls [.int (aP v0)]) ?_ (fun K => ?_)
        · skip
          refine lv_istore (lv' := [(9, .int (aP v0)), (8, .int (aB (sN S) v0)), (7, .int (aA (sN S) v0)), (6, .int (nI (sN S))), (5, .int (sh v0 6)), (4, .int (lowV v0 44)), (3, .int (gB (aOdd v0))), (0, .ref h), (1, .int v0), (2, .int e0)]) hx hb dL_act_159 hl (by decide) rfl (fun ls hl => ?_)
          refine lv_iload hx hb dL_act_161 (lv_at hl 5 rfl) ?_
          refine lv_bipush (v := 6) hx hb dL_act_163 (by decide) ?_
          refine lv_icmp_lt (tgt := 174) hx hb dL_act_165 (by decide) (fun c_165 => ?_) (fun c_165 => ?_)
          · skip
            refine lv_aload_n hx hb dL_act_174 rfl (lv_at hl 7 rfl) ?_
            refine lv_iconst (v := 0) hx hb dL_act_175 (by decide) ?_
            refine lv_iload_n hx hb dL_act_176 rfl (lv_at hl 6 rfl) ?_
            refine g_beq (tgt := 195) hx hb dL_act_177 (by decide) (fun c_177 => ?_) (fun c_177 => ?_)
            · skip
              refine lv_iload hx hb dL_act_195 (lv_at hl 4 rfl) ?_
              refine lv_iload hx hb dL_act_197 (lv_at hl 4 rfl) ?_
              refine lv_iconst (v := 3) hx hb dL_act_199 (by decide) ?_
              refine lv_iand hx hb dL_act_200 ?_
              refine lv_if_ne (tgt := 210) hx hb dL_act_201 (by decide) (fun c_201 => ?_) (fun c_201 => ?_)
              · skip
                refine lv_bipush (v := 41) hx hb dL_act_210 (by decide) ?_
                refine g_callR (v0 := .int (lowV (sh v0 6) 41)) (va_runS (As := [.int (sh v0 6), .int 41]) (rest := [.int 0, .ref h]) ⟨hx, hb, hml, hown, hts⟩ (c_L_low l D y s.heap.size (sh v0 6) 41 (by decide)) (va_cwS 2 hts gL_act_L_low rfl rfl rfl (by decide +kernel) ⟨Nat.le_of_ble_eq_true rfl, Nat.le_of_ble_eq_true rfl⟩) (gP_S hP hD hK [] (by decide) rfl) rfl rfl hl.1 rfl (lv_room (Nat.le_of_ble_eq_true rfl)) dL_act_212 ⟨Nat.le_of_ble_eq_true rfl, Nat.le_of_ble_eq_true rfl⟩) ?_
                refine lv_iload hx hb dL_act_215 (lv_at hl 4 rfl) ?_
                refine lv_iconst (v := 3) hx hb dL_act_217 (by decide) ?_
                refine lv_iand hx hb dL_act_218 ?_
                refine lv_if_ne (tgt := 228) hx hb dL_act_219 (by decide) (fun c_219 => ?_) (fun c_219 => absurd c_219 c_201)
                refine lv_bipush (v := 20) hx hb dL_act_228 (by decide) ?_
                refine lv_isub hx hb dL_act_230 ?_
                refine lv_iload_n hx hb dL_act_231 rfl (lv_at hl 6 rfl) ?_
                refine g_beq (tgt := 251) hx hb dL_act_232 (by decide) (fun c_232 => ?_) (fun c_232 => absurd c_232 c_177)
                refine lv_iconst (v := 1) hx hb dL_act_251 (by decide) ?_
                refine lv_iload hx hb dL_act_252 (lv_at hl 4 rfl) ?_
                refine lv_iconst (v := 4) hx hb dL_act_254 (by decide) ?_
                refine lv_ishr hx hb dL_act_255 ?_
                refine lv_bipush (v := 30) hx hb dL_act_256 (by decide) ?_
                refine g_callR (v0 := .int (lowV (sh (sh v0 6) 4) 30)) (va_runS (As := [.int (sh (sh v0 6) 4), .int 30]) (rest := [.int 1, .int ((lowV (sh v0 6) 41) - 20), .int 0, .ref h]) ⟨hx, hb, hml, hown, hts⟩ (c_L_low l D y s.heap.size (sh (sh v0 6) 4) 30 (by decide)) (va_cwS 2 hts gL_act_L_low rfl rfl rfl (by decide +kernel) ⟨Nat.le_of_ble_eq_true rfl, Nat.le_of_ble_eq_true rfl⟩) (gP_S hP hD hK [] (by decide) rfl) rfl rfl hl.1 rfl (lv_room (Nat.le_of_ble_eq_true rfl)) dL_act_258 ⟨Nat.le_of_ble_eq_true rfl, Nat.le_of_ble_eq_true rfl⟩) ?_
                refine lv_iadd hx hb dL_act_261 ?_
                refine lv_iconst (v := 0) hx hb dL_act_262 (by decide) ?_
                refine g_callN (ws := []) (wc := w) (vx_runSW (As := [.ref h, .int 0, .int ((lowV (sh v0 6) 41) - 20), .int (1 + (lowV (sh (sh v0 6) 4) 30)), .int 0]) (rest := []) ⟨hx, hb, hml, hown, hts⟩ (e_ratio l hfl D y ad hS9 hw ((lowV (sh v0 6) 41) - 20) (1 + (lowV (sh (sh v0 6) 4) 30)) 0 s.heap.size) (vx_cwSW 5 hts gL_act_L_does rfl rfl rfl (by decide +kernel) ⟨Nat.le_of_ble_eq_true rfl, Nat.le_of_ble_eq_true rfl⟩) (gPN_SA hP hD hK hE hN hS hA) rfl rfl hl.1 rfl (lv_room (Nat.le_of_ble_eq_true rfl)) dL_act_263 ⟨Nat.le_of_ble_eq_true rfl, Nat.le_of_ble_eq_true rfl⟩) hP hD hS hA (fun v9 w1 H locs hf hP hD hS => ?_)
                obtain ⟨rfl, hG⟩ := hf
                have e9 : dRat S ((lowV (sh v0 6) 41) - 20) (1 + (lowV (sh (sh v0 6) 4) 30)) = aAct S v0 e0 := by simp only [aAct, aHi, aMid, aMk, aZero, aR1, aR2, aD6, aD8, aC, c_165, c_177, c_201, Bool.false_eq_true, ↓reduceIte]
                refine W.widen (k := 10) (n := 168) (Nat.le_of_ble_eq_true rfl) (Nat.le_of_ble_eq_true rfl) ?_
                exact W.lret hx hb hr (fun t ht hW => ⟨⟨_, w1, rfl, by rw [← e9]; exact ⟨rfl, hG⟩, by rw [← hAe]; exact hD, by rw [ht]; exact hP⟩, by rw [← hAe]; exact hS.F ht⟩) (by rw [← hAe]; exact hS.2.2) dL_act_266
              · skip
                refine lv_sipush (v := 401) hx hb dL_act_204 (by decide) ?_
                refine lv_goto (tgt := 212) hx hb dL_act_207 (by decide) ?_
                refine g_callR (v0 := .int (lowV (sh v0 6) 401)) (va_runS (As := [.int (sh v0 6), .int 401]) (rest := [.int 0, .ref h]) ⟨hx, hb, hml, hown, hts⟩ (c_L_low l D y s.heap.size (sh v0 6) 401 (by decide)) (va_cwS 2 hts gL_act_L_low rfl rfl rfl (by decide +kernel) ⟨Nat.le_of_ble_eq_true rfl, Nat.le_of_ble_eq_true rfl⟩) (gP_S hP hD hK [] (by decide) rfl) rfl rfl hl.1 rfl (lv_room (Nat.le_of_ble_eq_true rfl)) dL_act_212 ⟨Nat.le_of_ble_eq_true rfl, Nat.le_of_ble_eq_true rfl⟩) ?_
                refine lv_iload hx hb dL_act_215 (lv_at hl 4 rfl) ?_
                refine lv_iconst (v := 3) hx hb dL_act_217 (by decide) ?_
                refine lv_iand hx hb dL_act_218 ?_
                refine lv_if_ne (tgt := 228) hx hb dL_act_219 (by decide) (fun c_219 => absurd c_201 c_219) (fun c_219 => ?_)
                refine lv_sipush (v := 200) hx hb dL_act_222 (by decide) ?_
                refine lv_goto (tgt := 230) hx hb dL_act_225 (by decide) ?_
                refine lv_isub hx hb dL_act_230 ?_
                refine lv_iload_n hx hb dL_act_231 rfl (lv_at hl 6 rfl) ?_
                refine g_beq (tgt := 251) hx hb dL_act_232 (by decide) (fun c_232 => ?_) (fun c_232 => absurd c_232 c_177)
                refine lv_iconst (v := 1) hx hb dL_act_251 (by decide) ?_
                refine lv_iload hx hb dL_act_252 (lv_at hl 4 rfl) ?_
                refine lv_iconst (v := 4) hx hb dL_act_254 (by decide) ?_
                refine lv_ishr hx hb dL_act_255 ?_
                refine lv_bipush (v := 30) hx hb dL_act_256 (by decide) ?_
                refine g_callR (v0 := .int (lowV (sh (sh v0 6) 4) 30)) (va_runS (As := [.int (sh (sh v0 6) 4), .int 30]) (rest := [.int 1, .int ((lowV (sh v0 6) 401) - 200), .int 0, .ref h]) ⟨hx, hb, hml, hown, hts⟩ (c_L_low l D y s.heap.size (sh (sh v0 6) 4) 30 (by decide)) (va_cwS 2 hts gL_act_L_low rfl rfl rfl (by decide +kernel) ⟨Nat.le_of_ble_eq_true rfl, Nat.le_of_ble_eq_true rfl⟩) (gP_S hP hD hK [] (by decide) rfl) rfl rfl hl.1 rfl (lv_room (Nat.le_of_ble_eq_true rfl)) dL_act_258 ⟨Nat.le_of_ble_eq_true rfl, Nat.le_of_ble_eq_true rfl⟩) ?_
                refine lv_iadd hx hb dL_act_261 ?_
                refine lv_iconst (v := 0) hx hb dL_act_262 (by decide) ?_
                refine g_callN (ws := []) (wc := w) (vx_runSW (As := [.ref h, .int 0, .int ((lowV (sh v0 6) 401) - 200), .int (1 + (lowV (sh (sh v0 6) 4) 30)), .int 0]) (rest := []) ⟨hx, hb, hml, hown, hts⟩ (e_ratio l hfl D y ad hS9 hw ((lowV (sh v0 6) 401) - 200) (1 + (lowV (sh (sh v0 6) 4) 30)) 0 s.heap.size) (vx_cwSW 5 hts gL_act_L_does rfl rfl rfl (by decide +kernel) ⟨Nat.le_of_ble_eq_true rfl, Nat.le_of_ble_eq_true rfl⟩) (gPN_SA hP hD hK hE hN hS hA) rfl rfl hl.1 rfl (lv_room (Nat.le_of_ble_eq_true rfl)) dL_act_263 ⟨Nat.le_of_ble_eq_true rfl, Nat.le_of_ble_eq_true rfl⟩) hP hD hS hA (fun v9 w1 H locs hf hP hD hS => ?_)
                obtain ⟨rfl, hG⟩ := hf
                have e9 : dRat S ((lowV (sh v0 6) 401) - 200) (1 + (lowV (sh (sh v0 6) 4) 30)) = aAct S v0 e0 := by simp only [aAct, aHi, aMid, aMk, aZero, aR1, aR2, aD6, aD8, aC, c_165, c_177, c_201, Bool.false_eq_true, ↓reduceIte]
                refine W.widen (k := 10) (n := 168) (Nat.le_of_ble_eq_true rfl) (Nat.le_of_ble_eq_true rfl) ?_
                exact W.lret hx hb hr (fun t ht hW => ⟨⟨_, w1, rfl, by rw [← e9]; exact ⟨rfl, hG⟩, by rw [← hAe]; exact hD, by rw [ht]; exact hP⟩, by rw [← hAe]; exact hS.F ht⟩) (by rw [← hAe]; exact hS.2.2) dL_act_266
            · skip
              refine lv_iload hx hb dL_act_180 (lv_at hl 4 rfl) ?_
              refine lv_sipush (v := 2200) hx hb dL_act_182 (by decide) ?_
              refine g_callR (v0 := .int (lowV (sh v0 6) 2200)) (va_runS (As := [.int (sh v0 6), .int 2200]) (rest := [.int 0, .ref h]) ⟨hx, hb, hml, hown, hts⟩ (c_L_low l D y s.heap.size (sh v0 6) 2200 (by decide)) (va_cwS 2 hts gL_act_L_low rfl rfl rfl (by decide +kernel) ⟨Nat.le_of_ble_eq_true rfl, Nat.le_of_ble_eq_true rfl⟩) (gP_S hP hD hK [] (by decide) rfl) rfl rfl hl.1 rfl (lv_room (Nat.le_of_ble_eq_true rfl)) dL_act_185 ⟨Nat.le_of_ble_eq_true rfl, Nat.le_of_ble_eq_true rfl⟩) ?_
              refine lv_sipush (v := 1100) hx hb dL_act_188 (by decide) ?_
              refine lv_isub hx hb dL_act_191 ?_
              refine lv_goto (tgt := 231) hx hb dL_act_192 (by decide) ?_
              refine lv_iload_n hx hb dL_act_231 rfl (lv_at hl 6 rfl) ?_
              refine g_beq (tgt := 251) hx hb dL_act_232 (by decide) (fun c_232 => absurd c_177 c_232) (fun c_232 => ?_)
              refine lv_iload hx hb dL_act_235 (lv_at hl 4 rfl) ?_
              refine lv_iconst (v := 4) hx hb dL_act_237 (by decide) ?_
              refine lv_ishr hx hb dL_act_238 ?_
              refine lv_sipush (v := 1100) hx hb dL_act_239 (by decide) ?_
              refine g_callR (v0 := .int (lowV (sh (sh v0 6) 4) 1100)) (va_runS (As := [.int (sh (sh v0 6) 4), .int 1100]) (rest := [.int ((lowV (sh v0 6) 2200) - 1100), .int 0, .ref h]) ⟨hx, hb, hml, hown, hts⟩ (c_L_low l D y s.heap.size (sh (sh v0 6) 4) 1100 (by decide)) (va_cwS 2 hts gL_act_L_low rfl rfl rfl (by decide +kernel) ⟨Nat.le_of_ble_eq_true rfl, Nat.le_of_ble_eq_true rfl⟩) (gP_S hP hD hK [] (by decide) rfl) rfl rfl hl.1 rfl (lv_room (Nat.le_of_ble_eq_true rfl)) dL_act_242 ⟨Nat.le_of_ble_eq_true rfl, Nat.le_of_ble_eq_true rfl⟩) ?_
              refine lv_bipush (v := 20) hx hb dL_act_245 (by decide) ?_
              refine lv_isub hx hb dL_act_247 ?_
              refine lv_goto (tgt := 262) hx hb dL_act_248 (by decide) ?_
              refine lv_iconst (v := 0) hx hb dL_act_262 (by decide) ?_
              refine g_callN (ws := []) (wc := w) (vx_runSW (As := [.ref h, .int 0, .int ((lowV (sh v0 6) 2200) - 1100), .int ((lowV (sh (sh v0 6) 4) 1100) - 20), .int 0]) (rest := []) ⟨hx, hb, hml, hown, hts⟩ (e_ratio l hfl D y ad hS9 hw ((lowV (sh v0 6) 2200) - 1100) ((lowV (sh (sh v0 6) 4) 1100) - 20) 0 s.heap.size) (vx_cwSW 5 hts gL_act_L_does rfl rfl rfl (by decide +kernel) ⟨Nat.le_of_ble_eq_true rfl, Nat.le_of_ble_eq_true rfl⟩) (gPN_SA hP hD hK hE hN hS hA) rfl rfl hl.1 rfl (lv_room (Nat.le_of_ble_eq_true rfl)) dL_act_263 ⟨Nat.le_of_ble_eq_true rfl, Nat.le_of_ble_eq_true rfl⟩) hP hD hS hA (fun v9 w1 H locs hf hP hD hS => ?_)
              obtain ⟨rfl, hG⟩ := hf
              have e9 : dRat S ((lowV (sh v0 6) 2200) - 1100) ((lowV (sh (sh v0 6) 4) 1100) - 20) = aAct S v0 e0 := by simp only [aAct, aHi, aMid, aMk, aZero, aR1, aR2, aD6, aD8, aC, c_165, c_177, Bool.false_eq_true, ↓reduceIte]
              refine W.widen (k := 10) (n := 168) (Nat.le_of_ble_eq_true rfl) (Nat.le_of_ble_eq_true rfl) ?_
              exact W.lret hx hb hr (fun t ht hW => ⟨⟨_, w1, rfl, by rw [← e9]; exact ⟨rfl, hG⟩, by rw [← hAe]; exact hD, by rw [ht]; exact hP⟩, by rw [← hAe]; exact hS.F ht⟩) (by rw [← hAe]; exact hS.2.2) dL_act_266
          · skip
            refine lv_iload hx hb dL_act_168 (lv_at hl 3 rfl) ?_
            refine lv_iconst (v := 2) hx hb dL_act_170 (by decide) ?_
            refine lv_icmp_ge (tgt := 267) hx hb dL_act_171 (by decide) (fun c_171 => ?_) (fun c_171 => ?_)
            · skip
              refine lv_iload hx hb dL_act_267 (lv_at hl 5 rfl) ?_
              refine lv_bipush (v := 18) hx hb dL_act_269 (by decide) ?_
              refine lv_icmp_ge (tgt := 498) hx hb dL_act_271 (by decide) (fun c_271 => ?_) (fun c_271 => ?_)
              · skip
                refine lv_iload hx hb dL_act_498 (lv_at hl 5 rfl) ?_
                refine lv_bipush (v := 36) hx hb dL_act_500 (by decide) ?_
                refine lv_icmp_ge (tgt := 688) hx hb dL_act_502 (by decide) (fun c_502 => ?_) (fun c_502 => ?_)
                · skip
                  refine lv_iload hx hb dL_act_688 (lv_at hl 5 rfl) ?_
                  refine lv_bipush (v := 41) hx hb dL_act_690 (by decide) ?_
                  refine lv_icmp_ge (tgt := 753) hx hb dL_act_692 (by decide) (fun c_692 => ?_) (fun c_692 => ?_)
                  · skip
                    refine lv_aload_n hx hb dL_act_753 rfl (lv_at hl 7 rfl) ?_
                    refine lv_iload hx hb dL_act_754 (lv_at hl 5 rfl) ?_
                    refine lv_bipush (v := 41) hx hb dL_act_756 (by decide) ?_
                    refine lv_icmp_ne (tgt := 766) hx hb dL_act_758 (by decide) (fun c_758 => ?_) (fun c_758 => ?_)
                    · skip
                      refine lv_iload hx hb dL_act_766 (lv_at hl 5 rfl) ?_
                      refine lv_bipush (v := 42) hx hb dL_act_768 (by decide) ?_
                      refine lv_icmp_ne (tgt := 778) hx hb dL_act_770 (by decide) (fun c_770 => ?_) (fun c_770 => ?_)
                      · skip
                        refine lv_bipush (v := 20) hx hb dL_act_778 (by decide) ?_
                        refine lv_iload hx hb dL_act_780 (lv_at hl 2 rfl) ?_
                        refine lv_iconst (v := 0) hx hb dL_act_782 (by decide) ?_
                        refine lv_iconst (v := 0) hx hb dL_act_783 (by decide) ?_
                        refine g_callN (ws := []) (wc := w) (vx_runSW (As := [.ref h, .int 20, .int (aA (sN S) v0), .int 0, .int 0]) (rest := []) ⟨hx, hb, hml, hown, hts⟩ (e_needs l hfl D y ad hS9 hw (aA (sN S) v0) 0 0 s.heap.size) (vx_cwSW 5 hts gL_act_L_does rfl rfl rfl (by decide +kernel) ⟨Nat.le_of_ble_eq_true rfl, Nat.le_of_ble_eq_true rfl⟩) (gPN_SA hP hD hK hE hN hS hA) rfl rfl hl.1 rfl (lv_room (Nat.le_of_ble_eq_true rfl)) dL_act_784 ⟨Nat.le_of_ble_eq_true rfl, Nat.le_of_ble_eq_true rfl⟩) hP hD hS hA (fun v9 w1 H locs hf hP hD hS => ?_)
                        obtain ⟨rfl, hG⟩ := hf
                        have e9 : (dNeed S (aA (sN S) v0), S) = aAct S v0 e0 := by unfold aAct aHi aC; rw [if_neg c_165, if_pos c_171, if_pos c_271, if_pos c_502, if_pos c_692, if_neg c_758, if_neg c_770]
                        refine W.widen (k := 10) (n := 168) (Nat.le_of_ble_eq_true rfl) (Nat.le_of_ble_eq_true rfl) ?_
                        exact W.lret hx hb hr (fun t ht hW => ⟨⟨_, w1, rfl, by rw [← e9]; exact ⟨rfl, hG⟩, by rw [← hAe]; exact hD, by rw [ht]; exact hP⟩, by rw [← hAe]; exact hS.F ht⟩) (by rw [← hAe]; exact hS.2.2) dL_act_787
                      · skip
                        refine lv_bipush (v := 18) hx hb dL_act_773 (by decide) ?_
                        refine lv_goto (tgt := 780) hx hb dL_act_775 (by decide) ?_
                        refine lv_iload hx hb dL_act_780 (lv_at hl 2 rfl) ?_
                        refine lv_iconst (v := 0) hx hb dL_act_782 (by decide) ?_
                        refine lv_iconst (v := 0) hx hb dL_act_783 (by decide) ?_
                        refine g_callN (ws := []) (wc := w) (vx_runSW (As := [.ref h, .int 18, .int (aA (sN S) v0), .int 0, .int 0]) (rest := []) ⟨hx, hb, hml, hown, hts⟩ (e_partial l hfl D y ad hS9 hw (aA (sN S) v0) 0 0 s.heap.size) (vx_cwSW 5 hts gL_act_L_does rfl rfl rfl (by decide +kernel) ⟨Nat.le_of_ble_eq_true rfl, Nat.le_of_ble_eq_true rfl⟩) (gPN_SA hP hD hK hE hN hS hA) rfl rfl hl.1 rfl (lv_room (Nat.le_of_ble_eq_true rfl)) dL_act_784 ⟨Nat.le_of_ble_eq_true rfl, Nat.le_of_ble_eq_true rfl⟩) hP hD hS hA (fun v9 w1 H locs hf hP hD hS => ?_)
                        obtain ⟨rfl, hG⟩ := hf
                        have e9 : (dPar S (aA (sN S) v0), S) = aAct S v0 e0 := by unfold aAct aHi aC; rw [if_neg c_165, if_pos c_171, if_pos c_271, if_pos c_502, if_pos c_692, if_neg c_758, if_pos c_770]
                        refine W.widen (k := 10) (n := 168) (Nat.le_of_ble_eq_true rfl) (Nat.le_of_ble_eq_true rfl) ?_
                        exact W.lret hx hb hr (fun t ht hW => ⟨⟨_, w1, rfl, by rw [← e9]; exact ⟨rfl, hG⟩, by rw [← hAe]; exact hD, by rw [ht]; exact hP⟩, by rw [← hAe]; exact hS.F ht⟩) (by rw [← hAe]; exact hS.2.2) dL_act_787
                    · skip
                      refine lv_bipush (v := 17) hx hb dL_act_761 (by decide) ?_
                      refine lv_goto (tgt := 780) hx hb dL_act_763 (by decide) ?_
                      refine lv_iload hx hb dL_act_780 (lv_at hl 2 rfl) ?_
                      refine lv_iconst (v := 0) hx hb dL_act_782 (by decide) ?_
                      refine lv_iconst (v := 0) hx hb dL_act_783 (by decide) ?_
                      refine g_callN (ws := []) (wc := w) (vx_runSW (As := [.ref h, .int 17, .int (aA (sN S) v0), .int 0, .int 0]) (rest := []) ⟨hx, hb, hml, hown, hts⟩ (e_emitted l hfl D y ad hS9 hw (aA (sN S) v0) 0 0 s.heap.size) (vx_cwSW 5 hts gL_act_L_does rfl rfl rfl (by decide +kernel) ⟨Nat.le_of_ble_eq_true rfl, Nat.le_of_ble_eq_true rfl⟩) (gPN_SA hP hD hK hE hN hS hA) rfl rfl hl.1 rfl (lv_room (Nat.le_of_ble_eq_true rfl)) dL_act_784 ⟨Nat.le_of_ble_eq_true rfl, Nat.le_of_ble_eq_true rfl⟩) hP hD hS hA (fun v9 w1 H locs hf hP hD hS => ?_)
                      obtain ⟨rfl, hG⟩ := hf
                      have e9 : (dEmi S (aA (sN S) v0), S) = aAct S v0 e0 := by unfold aAct aHi aC; rw [if_neg c_165, if_pos c_171, if_pos c_271, if_pos c_502, if_pos c_692, if_pos c_758]
                      refine W.widen (k := 10) (n := 168) (Nat.le_of_ble_eq_true rfl) (Nat.le_of_ble_eq_true rfl) ?_
                      exact W.lret hx hb hr (fun t ht hW => ⟨⟨_, w1, rfl, by rw [← e9]; exact ⟨rfl, hG⟩, by rw [← hAe]; exact hD, by rw [ht]; exact hP⟩, by rw [← hAe]; exact hS.F ht⟩) (by rw [← hAe]; exact hS.2.2) dL_act_787
                  · skip
                    refine lv_aload_n hx hb dL_act_695 rfl (lv_at hl 7 rfl) ?_
                    refine lv_iload hx hb dL_act_696 (lv_at hl 2 rfl) ?_
                    refine lv_iload hx hb dL_act_698 (lv_at hl 1 rfl) ?_
                    refine lv_iload hx hb dL_act_700 (lv_at hl 3 rfl) ?_
                    refine lv_if_ne (tgt := 709) hx hb dL_act_702 (by decide) (fun c_702 => ?_) (fun c_702 => ?_)
                    · skip
                      refine lv_iload hx hb dL_act_709 (lv_at hl 4 rfl) ?_
                      refine lv_bipush (v := 6) hx hb dL_act_711 (by decide) ?_
                      refine lv_ishr hx hb dL_act_713 ?_
                      refine lv_iload_n hx hb dL_act_714 rfl (lv_at hl 6 rfl) ?_
                      refine g_beq (tgt := 725) hx hb dL_act_715 (by decide) (fun c_715 => ?_) (fun c_715 => ?_)
                      · skip
                        refine lv_iload hx hb dL_act_725 (lv_at hl 3 rfl) ?_
                        refine g_callR (v0 := .int (lowV (sh (sh v0 6) 6) (nI (sN S)))) (va_runS (As := [.int (sh (sh v0 6) 6), .int (nI (sN S))]) (rest := [.int (aB (sN S) v0), .int (aA (sN S) v0), .ref h]) ⟨hx, hb, hml, hown, hts⟩ (c_L_low l D y s.heap.size (sh (sh v0 6) 6) (nI (sN S)) (c_702)) (va_cwS 2 hts gL_act_L_low rfl rfl rfl (by decide +kernel) ⟨Nat.le_of_ble_eq_true rfl, Nat.le_of_ble_eq_true rfl⟩) (gP_S hP hD hK [] (by decide) rfl) rfl rfl hl.1 rfl (lv_room (Nat.le_of_ble_eq_true rfl)) dL_act_727 ⟨Nat.le_of_ble_eq_true rfl, Nat.le_of_ble_eq_true rfl⟩) ?_
                        refine lv_iload hx hb dL_act_730 (lv_at hl 0 rfl) ?_
                        refine lv_iload hx hb dL_act_732 (lv_at hl 4 rfl) ?_
                        refine lv_iconst (v := 4) hx hb dL_act_734 (by decide) ?_
                        refine lv_ishr hx hb dL_act_735 ?_
                        refine lv_iconst (v := 1) hx hb dL_act_736 (by decide) ?_
                        refine lv_iand hx hb dL_act_737 ?_
                        refine lv_iconst (v := 1) hx hb dL_act_738 (by decide) ?_
                        refine lv_icmp_ne (tgt := 746) hx hb dL_act_739 (by decide) (fun c_739 => ?_) (fun c_739 => ?_)
                        · skip
                          refine lv_iconst (v := 0) hx hb dL_act_746 (by decide) ?_
                          refine g_callN (ws := []) (wc := w) (vx_runSW (As := [.ref h, .int (aA (sN S) v0), .int (aB (sN S) v0), .int (lowV (sh (sh v0 6) 6) (nI (sN S))), .int (aP v0), .int (gB false)]) (rest := []) ⟨hx, hb, hml, hown, hts⟩ (e_instead l hfl D y ad hS9 hw (aA (sN S) v0) (aB (sN S) v0) (lowV (sh (sh v0 6) 6) (nI (sN S))) (aP v0) false s.heap.size) (vx_cwSW 6 hts gL_act_L_instead rfl rfl rfl (by decide +kernel) ⟨Nat.le_of_ble_eq_true rfl, Nat.le_of_ble_eq_true rfl⟩) (gPN_SA hP hD hK hE hN hS hA) rfl rfl hl.1 rfl (lv_room (Nat.le_of_ble_eq_true rfl)) dL_act_747 ⟨Nat.le_of_ble_eq_true rfl, Nat.le_of_ble_eq_true rfl⟩) hP hD hS hA (fun v9 w1 H locs hf hP hD hS => ?_)
                          obtain ⟨rfl, hG⟩ := hf
                          refine lv_goto (tgt := 787) hx hb dL_act_750 (by decide) ?_
                          have e9 : (dIns S (aA (sN S) v0) (aB (sN S) v0) (lowV (sh (sh v0 6) 6) (nI (sN S))) (aP v0) false, S) = aAct S v0 e0 := by simp only [aAct, aHi, aMid, aMk, aZero, aR1, aR2, aD6, aD8, aC, c_165, c_171, c_271, c_502, c_692, c_702, c_715, c_739, Bool.false_eq_true, ↓reduceIte]
                          refine W.widen (k := 10) (n := 168) (Nat.le_of_ble_eq_true rfl) (Nat.le_of_ble_eq_true rfl) ?_
                          exact W.lret hx hb hr (fun t ht hW => ⟨⟨_, w1, rfl, by rw [← e9]; exact ⟨rfl, hG⟩, by rw [← hAe]; exact hD, by rw [ht]; exact hP⟩, by rw [← hAe]; exact hS.F ht⟩) (by rw [← hAe]; exact hS.2.2) dL_act_787
                        · skip
                          refine lv_iconst (v := 1) hx hb dL_act_742 (by decide) ?_
                          refine lv_goto (tgt := 747) hx hb dL_act_743 (by decide) ?_
                          refine g_callN (ws := []) (wc := w) (vx_runSW (As := [.ref h, .int (aA (sN S) v0), .int (aB (sN S) v0), .int (lowV (sh (sh v0 6) 6) (nI (sN S))), .int (aP v0), .int (gB true)]) (rest := []) ⟨hx, hb, hml, hown, hts⟩ (e_instead l hfl D y ad hS9 hw (aA (sN S) v0) (aB (sN S) v0) (lowV (sh (sh v0 6) 6) (nI (sN S))) (aP v0) true s.heap.size) (vx_cwSW 6 hts gL_act_L_instead rfl rfl rfl (by decide +kernel) ⟨Nat.le_of_ble_eq_true rfl, Nat.le_of_ble_eq_true rfl⟩) (gPN_SA hP hD hK hE hN hS hA) rfl rfl hl.1 rfl (lv_room (Nat.le_of_ble_eq_true rfl)) dL_act_747 ⟨Nat.le_of_ble_eq_true rfl, Nat.le_of_ble_eq_true rfl⟩) hP hD hS hA (fun v9 w1 H locs hf hP hD hS => ?_)
                          obtain ⟨rfl, hG⟩ := hf
                          refine lv_goto (tgt := 787) hx hb dL_act_750 (by decide) ?_
                          have e9 : (dIns S (aA (sN S) v0) (aB (sN S) v0) (lowV (sh (sh v0 6) 6) (nI (sN S))) (aP v0) true, S) = aAct S v0 e0 := by simp only [aAct, aHi, aMid, aMk, aZero, aR1, aR2, aD6, aD8, aC, c_165, c_171, c_271, c_502, c_692, c_702, c_715, c_739, Bool.false_eq_true, ↓reduceIte]
                          refine W.widen (k := 10) (n := 168) (Nat.le_of_ble_eq_true rfl) (Nat.le_of_ble_eq_true rfl) ?_
                          exact W.lret hx hb hr (fun t ht hW => ⟨⟨_, w1, rfl, by rw [← e9]; exact ⟨rfl, hG⟩, by rw [← hAe]; exact hD, by rw [ht]; exact hP⟩, by rw [← hAe]; exact hS.F ht⟩) (by rw [← hAe]; exact hS.2.2) dL_act_787
                      · skip
                        refine lv_iload hx hb dL_act_718 (lv_at hl 3 rfl) ?_
                        refine lv_iconst (v := 1) hx hb dL_act_720 (by decide) ?_
                        refine lv_iadd hx hb dL_act_721 ?_
                        refine g_topi (nI_add (sN S) 1) ?_
                        refine lv_goto (tgt := 727) hx hb dL_act_722 (by decide) ?_
                        refine g_callR (v0 := .int (lowV (sh (sh v0 6) 6) (nI ((sN S) + 1)))) (va_runS (As := [.int (sh (sh v0 6) 6), .int (nI ((sN S) + 1))]) (rest := [.int (aB (sN S) v0), .int (aA (sN S) v0), .ref h]) ⟨hx, hb, hml, hown, hts⟩ (c_L_low l D y s.heap.size (sh (sh v0 6) 6) (nI ((sN S) + 1)) (nI_ne0 (by omega) (by have := hS9.1; omega))) (va_cwS 2 hts gL_act_L_low rfl rfl rfl (by decide +kernel) ⟨Nat.le_of_ble_eq_true rfl, Nat.le_of_ble_eq_true rfl⟩) (gP_S hP hD hK [] (by decide) rfl) rfl rfl hl.1 rfl (lv_room (Nat.le_of_ble_eq_true rfl)) dL_act_727 ⟨Nat.le_of_ble_eq_true rfl, Nat.le_of_ble_eq_true rfl⟩) ?_
                        refine lv_iload hx hb dL_act_730 (lv_at hl 0 rfl) ?_
                        refine lv_iload hx hb dL_act_732 (lv_at hl 4 rfl) ?_
                        refine lv_iconst (v := 4) hx hb dL_act_734 (by decide) ?_
                        refine lv_ishr hx hb dL_act_735 ?_
                        refine lv_iconst (v := 1) hx hb dL_act_736 (by decide) ?_
                        refine lv_iand hx hb dL_act_737 ?_
                        refine lv_iconst (v := 1) hx hb dL_act_738 (by decide) ?_
                        refine lv_icmp_ne (tgt := 746) hx hb dL_act_739 (by decide) (fun c_739 => ?_) (fun c_739 => ?_)
                        · skip
                          refine lv_iconst (v := 0) hx hb dL_act_746 (by decide) ?_
                          refine g_callN (ws := []) (wc := w) (vx_runSW (As := [.ref h, .int (aA (sN S) v0), .int (aB (sN S) v0), .int (lowV (sh (sh v0 6) 6) (nI ((sN S) + 1))), .int (aP v0), .int (gB false)]) (rest := []) ⟨hx, hb, hml, hown, hts⟩ (e_instead l hfl D y ad hS9 hw (aA (sN S) v0) (aB (sN S) v0) (lowV (sh (sh v0 6) 6) (nI ((sN S) + 1))) (aP v0) false s.heap.size) (vx_cwSW 6 hts gL_act_L_instead rfl rfl rfl (by decide +kernel) ⟨Nat.le_of_ble_eq_true rfl, Nat.le_of_ble_eq_true rfl⟩) (gPN_SA hP hD hK hE hN hS hA) rfl rfl hl.1 rfl (lv_room (Nat.le_of_ble_eq_true rfl)) dL_act_747 ⟨Nat.le_of_ble_eq_true rfl, Nat.le_of_ble_eq_true rfl⟩) hP hD hS hA (fun v9 w1 H locs hf hP hD hS => ?_)
                          obtain ⟨rfl, hG⟩ := hf
                          refine lv_goto (tgt := 787) hx hb dL_act_750 (by decide) ?_
                          have e9 : (dIns S (aA (sN S) v0) (aB (sN S) v0) (lowV (sh (sh v0 6) 6) (nI ((sN S) + 1))) (aP v0) false, S) = aAct S v0 e0 := by simp only [aAct, aHi, aMid, aMk, aZero, aR1, aR2, aD6, aD8, aC, c_165, c_171, c_271, c_502, c_692, c_702, c_715, c_739, Bool.false_eq_true, ↓reduceIte]
                          refine W.widen (k := 10) (n := 168) (Nat.le_of_ble_eq_true rfl) (Nat.le_of_ble_eq_true rfl) ?_
                          exact W.lret hx hb hr (fun t ht hW => ⟨⟨_, w1, rfl, by rw [← e9]; exact ⟨rfl, hG⟩, by rw [← hAe]; exact hD, by rw [ht]; exact hP⟩, by rw [← hAe]; exact hS.F ht⟩) (by rw [← hAe]; exact hS.2.2) dL_act_787
                        · skip
                          refine lv_iconst (v := 1) hx hb dL_act_742 (by decide) ?_
                          refine lv_goto (tgt := 747) hx hb dL_act_743 (by decide) ?_
                          refine g_callN (ws := []) (wc := w) (vx_runSW (As := [.ref h, .int (aA (sN S) v0), .int (aB (sN S) v0), .int (lowV (sh (sh v0 6) 6) (nI ((sN S) + 1))), .int (aP v0), .int (gB true)]) (rest := []) ⟨hx, hb, hml, hown, hts⟩ (e_instead l hfl D y ad hS9 hw (aA (sN S) v0) (aB (sN S) v0) (lowV (sh (sh v0 6) 6) (nI ((sN S) + 1))) (aP v0) true s.heap.size) (vx_cwSW 6 hts gL_act_L_instead rfl rfl rfl (by decide +kernel) ⟨Nat.le_of_ble_eq_true rfl, Nat.le_of_ble_eq_true rfl⟩) (gPN_SA hP hD hK hE hN hS hA) rfl rfl hl.1 rfl (lv_room (Nat.le_of_ble_eq_true rfl)) dL_act_747 ⟨Nat.le_of_ble_eq_true rfl, Nat.le_of_ble_eq_true rfl⟩) hP hD hS hA (fun v9 w1 H locs hf hP hD hS => ?_)
                          obtain ⟨rfl, hG⟩ := hf
                          refine lv_goto (tgt := 787) hx hb dL_act_750 (by decide) ?_
                          have e9 : (dIns S (aA (sN S) v0) (aB (sN S) v0) (lowV (sh (sh v0 6) 6) (nI ((sN S) + 1))) (aP v0) true, S) = aAct S v0 e0 := by simp only [aAct, aHi, aMid, aMk, aZero, aR1, aR2, aD6, aD8, aC, c_165, c_171, c_271, c_502, c_692, c_702, c_715, c_739, Bool.false_eq_true, ↓reduceIte]
                          refine W.widen (k := 10) (n := 168) (Nat.le_of_ble_eq_true rfl) (Nat.le_of_ble_eq_true rfl) ?_
                          exact W.lret hx hb hr (fun t ht hW => ⟨⟨_, w1, rfl, by rw [← e9]; exact ⟨rfl, hG⟩, by rw [← hAe]; exact hD, by rw [ht]; exact hP⟩, by rw [← hAe]; exact hS.F ht⟩) (by rw [← hAe]; exact hS.2.2) dL_act_787
                    · skip
                      refine lv_iconst (v := 0) hx hb dL_act_705 (by decide) ?_
                      refine lv_goto (tgt := 730) hx hb dL_act_706 (by decide) ?_
                      refine lv_iload hx hb dL_act_730 (lv_at hl 0 rfl) ?_
                      refine lv_iload hx hb dL_act_732 (lv_at hl 4 rfl) ?_
                      refine lv_iconst (v := 4) hx hb dL_act_734 (by decide) ?_
                      refine lv_ishr hx hb dL_act_735 ?_
                      refine lv_iconst (v := 1) hx hb dL_act_736 (by decide) ?_
                      refine lv_iand hx hb dL_act_737 ?_
                      refine lv_iconst (v := 1) hx hb dL_act_738 (by decide) ?_
                      refine lv_icmp_ne (tgt := 746) hx hb dL_act_739 (by decide) (fun c_739 => ?_) (fun c_739 => ?_)
                      · skip
                        refine lv_iconst (v := 0) hx hb dL_act_746 (by decide) ?_
                        refine g_callN (ws := []) (wc := w) (vx_runSW (As := [.ref h, .int (aA (sN S) v0), .int (aB (sN S) v0), .int 0, .int (aP v0), .int (gB false)]) (rest := []) ⟨hx, hb, hml, hown, hts⟩ (e_instead l hfl D y ad hS9 hw (aA (sN S) v0) (aB (sN S) v0) 0 (aP v0) false s.heap.size) (vx_cwSW 6 hts gL_act_L_instead rfl rfl rfl (by decide +kernel) ⟨Nat.le_of_ble_eq_true rfl, Nat.le_of_ble_eq_true rfl⟩) (gPN_SA hP hD hK hE hN hS hA) rfl rfl hl.1 rfl (lv_room (Nat.le_of_ble_eq_true rfl)) dL_act_747 ⟨Nat.le_of_ble_eq_true rfl, Nat.le_of_ble_eq_true rfl⟩) hP hD hS hA (fun v9 w1 H locs hf hP hD hS => ?_)
                        obtain ⟨rfl, hG⟩ := hf
                        refine lv_goto (tgt := 787) hx hb dL_act_750 (by decide) ?_
                        have e9 : (dIns S (aA (sN S) v0) (aB (sN S) v0) 0 (aP v0) false, S) = aAct S v0 e0 := by unfold aAct aHi aC; rw [if_neg c_165, if_pos c_171, if_pos c_271, if_pos c_502, if_neg c_692, if_pos c_702, if_neg c_739]
                        refine W.widen (k := 10) (n := 168) (Nat.le_of_ble_eq_true rfl) (Nat.le_of_ble_eq_true rfl) ?_
                        exact W.lret hx hb hr (fun t ht hW => ⟨⟨_, w1, rfl, by rw [← e9]; exact ⟨rfl, hG⟩, by rw [← hAe]; exact hD, by rw [ht]; exact hP⟩, by rw [← hAe]; exact hS.F ht⟩) (by rw [← hAe]; exact hS.2.2) dL_act_787
                      · skip
                        refine lv_iconst (v := 1) hx hb dL_act_742 (by decide) ?_
                        refine lv_goto (tgt := 747) hx hb dL_act_743 (by decide) ?_
                        refine g_callN (ws := []) (wc := w) (vx_runSW (As := [.ref h, .int (aA (sN S) v0), .int (aB (sN S) v0), .int 0, .int (aP v0), .int (gB true)]) (rest := []) ⟨hx, hb, hml, hown, hts⟩ (e_instead l hfl D y ad hS9 hw (aA (sN S) v0) (aB (sN S) v0) 0 (aP v0) true s.heap.size) (vx_cwSW 6 hts gL_act_L_instead rfl rfl rfl (by decide +kernel) ⟨Nat.le_of_ble_eq_true rfl, Nat.le_of_ble_eq_true rfl⟩) (gPN_SA hP hD hK hE hN hS hA) rfl rfl hl.1 rfl (lv_room (Nat.le_of_ble_eq_true rfl)) dL_act_747 ⟨Nat.le_of_ble_eq_true rfl, Nat.le_of_ble_eq_true rfl⟩) hP hD hS hA (fun v9 w1 H locs hf hP hD hS => ?_)
                        obtain ⟨rfl, hG⟩ := hf
                        refine lv_goto (tgt := 787) hx hb dL_act_750 (by decide) ?_
                        have e9 : (dIns S (aA (sN S) v0) (aB (sN S) v0) 0 (aP v0) true, S) = aAct S v0 e0 := by unfold aAct aHi aC; rw [if_neg c_165, if_pos c_171, if_pos c_271, if_pos c_502, if_neg c_692, if_pos c_702, if_pos c_739]
                        refine W.widen (k := 10) (n := 168) (Nat.le_of_ble_eq_true rfl) (Nat.le_of_ble_eq_true rfl) ?_
                        exact W.lret hx hb hr (fun t ht hW => ⟨⟨_, w1, rfl, by rw [← e9]; exact ⟨rfl, hG⟩, by rw [← hAe]; exact hD, by rw [ht]; exact hP⟩, by rw [← hAe]; exact hS.F ht⟩) (by rw [← hAe]; exact hS.2.2) dL_act_787
                · skip
                  refine lv_iload hx hb dL_act_505 (lv_at hl 5 rfl) ?_
                  refine lv_bipush (v := 21) hx hb dL_act_507 (by decide) ?_
                  refine lv_icmp_ge (tgt := 531) hx hb dL_act_509 (by decide) (fun c_509 => ?_) (fun c_509 => ?_)
                  · skip
                    refine lv_iload hx hb dL_act_531 (lv_at hl 5 rfl) ?_
                    refine lv_bipush (v := 24) hx hb dL_act_533 (by decide) ?_
                    refine lv_icmp_ge (tgt := 557) hx hb dL_act_535 (by decide) (fun c_535 => ?_) (fun c_535 => ?_)
                    · skip
                      refine lv_iload hx hb dL_act_557 (lv_at hl 5 rfl) ?_
                      refine lv_bipush (v := 26) hx hb dL_act_559 (by decide) ?_
                      refine lv_icmp_ge (tgt := 579) hx hb dL_act_561 (by decide) (fun c_561 => ?_) (fun c_561 => ?_)
                      · skip
                        refine lv_iload hx hb dL_act_579 (lv_at hl 5 rfl) ?_
                        refine lv_bipush (v := 28) hx hb dL_act_581 (by decide) ?_
                        refine lv_icmp_ge (tgt := 618) hx hb dL_act_583 (by decide) (fun c_583 => ?_) (fun c_583 => ?_)
                        · skip
                          refine lv_iload hx hb dL_act_618 (lv_at hl 5 rfl) ?_
                          refine lv_bipush (v := 30) hx hb dL_act_620 (by decide) ?_
                          refine lv_icmp_ge (tgt := 657) hx hb dL_act_622 (by decide) (fun c_622 => ?_) (fun c_622 => ?_)
                          · skip
                            refine lv_iload hx hb dL_act_657 (lv_at hl 5 rfl) ?_
                            refine lv_bipush (v := 35) hx hb dL_act_659 (by decide) ?_
                            refine lv_icmp_ge (tgt := 677) hx hb dL_act_661 (by decide) (fun c_661 => ?_) (fun c_661 => ?_)
                            · skip
                              refine lv_aload_n hx hb dL_act_677 rfl (lv_at hl 7 rfl) ?_
                              refine lv_bipush (v := 19) hx hb dL_act_678 (by decide) ?_
                              refine lv_iload hx hb dL_act_680 (lv_at hl 2 rfl) ?_
                              refine lv_iconst (v := 0) hx hb dL_act_682 (by decide) ?_
                              refine lv_iconst (v := 0) hx hb dL_act_683 (by decide) ?_
                              refine g_callN (ws := []) (wc := w) (vx_runSW (As := [.ref h, .int 19, .int (aA (sN S) v0), .int 0, .int 0]) (rest := []) ⟨hx, hb, hml, hown, hts⟩ (e_restart l hfl D y ad hS9 hw (aA (sN S) v0) 0 0 s.heap.size) (vx_cwSW 5 hts gL_act_L_does rfl rfl rfl (by decide +kernel) ⟨Nat.le_of_ble_eq_true rfl, Nat.le_of_ble_eq_true rfl⟩) (gPN_SA hP hD hK hE hN hS hA) rfl rfl hl.1 rfl (lv_room (Nat.le_of_ble_eq_true rfl)) dL_act_684 ⟨Nat.le_of_ble_eq_true rfl, Nat.le_of_ble_eq_true rfl⟩) hP hD hS hA (fun v9 w1 H locs hf hP hD hS => ?_)
                              obtain ⟨rfl, hG⟩ := hf
                              have e9 : dRes S (aA (sN S) v0) = aAct S v0 e0 := by simp only [aAct, aHi, aMid, aMk, aZero, aR1, aR2, aD6, aD8, aC, c_165, c_171, c_271, c_502, c_509, c_535, c_561, c_583, c_622, c_661, Bool.false_eq_true, ↓reduceIte]
                              refine W.widen (k := 10) (n := 168) (Nat.le_of_ble_eq_true rfl) (Nat.le_of_ble_eq_true rfl) ?_
                              exact W.lret hx hb hr (fun t ht hW => ⟨⟨_, w1, rfl, by rw [← e9]; exact ⟨rfl, hG⟩, by rw [← hAe]; exact hD, by rw [ht]; exact hP⟩, by rw [← hAe]; exact hS.F ht⟩) (by rw [← hAe]; exact hS.2.2) dL_act_687
                            · skip
                              refine lv_aload_n hx hb dL_act_664 rfl (lv_at hl 7 rfl) ?_
                              refine lv_bipush (v := 16) hx hb dL_act_665 (by decide) ?_
                              refine lv_iload hx hb dL_act_667 (lv_at hl 2 rfl) ?_
                              refine lv_iconst (v := 0) hx hb dL_act_669 (by decide) ?_
                              refine lv_iconst (v := 0) hx hb dL_act_670 (by decide) ?_
                              refine g_callN (ws := []) (wc := w) (vx_runSW (As := [.ref h, .int 16, .int (aA (sN S) v0), .int 0, .int 0]) (rest := []) ⟨hx, hb, hml, hown, hts⟩ (e_next l hfl D y ad hS9 hw (aA (sN S) v0) 0 0 s.heap.size) (vx_cwSW 5 hts gL_act_L_does rfl rfl rfl (by decide +kernel) ⟨Nat.le_of_ble_eq_true rfl, Nat.le_of_ble_eq_true rfl⟩) (gPN_SA hP hD hK hE hN hS hA) rfl rfl hl.1 rfl (lv_room (Nat.le_of_ble_eq_true rfl)) dL_act_671 ⟨Nat.le_of_ble_eq_true rfl, Nat.le_of_ble_eq_true rfl⟩) hP hD hS hA (fun v9 w1 H locs hf hP hD hS => ?_)
                              obtain ⟨rfl, hG⟩ := hf
                              refine lv_goto (tgt := 687) hx hb dL_act_674 (by decide) ?_
                              have e9 : dNext S (aA (sN S) v0) = aAct S v0 e0 := by simp only [aAct, aHi, aMid, aMk, aZero, aR1, aR2, aD6, aD8, aC, c_165, c_171, c_271, c_502, c_509, c_535, c_561, c_583, c_622, c_661, Bool.false_eq_true, ↓reduceIte]
                              refine W.widen (k := 10) (n := 168) (Nat.le_of_ble_eq_true rfl) (Nat.le_of_ble_eq_true rfl) ?_
                              exact W.lret hx hb hr (fun t ht hW => ⟨⟨_, w1, rfl, by rw [← e9]; exact ⟨rfl, hG⟩, by rw [← hAe]; exact hD, by rw [ht]; exact hP⟩, by rw [← hAe]; exact hS.F ht⟩) (by rw [← hAe]; exact hS.2.2) dL_act_687
                          · skip
                            refine lv_aload_n hx hb dL_act_625 rfl (lv_at hl 7 rfl) ?_
                            refine lv_bipush (v := 15) hx hb dL_act_626 (by decide) ?_
                            refine lv_iload hx hb dL_act_628 (lv_at hl 2 rfl) ?_
                            refine lv_iload hx hb dL_act_630 (lv_at hl 0 rfl) ?_
                            refine lv_iload hx hb dL_act_632 (lv_at hl 4 rfl) ?_
                            refine lv_bipush (v := 7) hx hb dL_act_634 (by decide) ?_
                            refine lv_ishr hx hb dL_act_636 ?_
                            refine lv_iload_n hx hb dL_act_637 rfl (lv_at hl 6 rfl) ?_
                            refine g_beq (tgt := 646) hx hb dL_act_638 (by decide) (fun c_638 => ?_) (fun c_638 => ?_)
                            · skip
                              refine lv_bipush (v := 6) hx hb dL_act_646 (by decide) ?_
                              refine g_callR (v0 := .int (lowV (sh (sh v0 6) 7) 6)) (va_runS (As := [.int (sh (sh v0 6) 7), .int 6]) (rest := [.int (aP v0), .int (aA (sN S) v0), .int 15, .ref h]) ⟨hx, hb, hml, hown, hts⟩ (c_L_low l D y s.heap.size (sh (sh v0 6) 7) 6 (by decide)) (va_cwS 2 hts gL_act_L_low rfl rfl rfl (by decide +kernel) ⟨Nat.le_of_ble_eq_true rfl, Nat.le_of_ble_eq_true rfl⟩) (gP_S hP hD hK [] (by decide) rfl) rfl rfl hl.1 rfl (lv_room (Nat.le_of_ble_eq_true rfl)) dL_act_648 ⟨Nat.le_of_ble_eq_true rfl, Nat.le_of_ble_eq_true rfl⟩) ?_
                              refine g_callN (ws := []) (wc := w) (vx_runSW (As := [.ref h, .int 15, .int (aA (sN S) v0), .int (aP v0), .int (lowV (sh (sh v0 6) 7) 6)]) (rest := []) ⟨hx, hb, hml, hown, hts⟩ (e_quotient l hfl D y ad hS9 hw (aA (sN S) v0) (aP v0) (lowV (sh (sh v0 6) 7) 6) s.heap.size) (vx_cwSW 5 hts gL_act_L_does rfl rfl rfl (by decide +kernel) ⟨Nat.le_of_ble_eq_true rfl, Nat.le_of_ble_eq_true rfl⟩) (gPN_SA hP hD hK hE hN hS hA) rfl rfl hl.1 rfl (lv_room (Nat.le_of_ble_eq_true rfl)) dL_act_651 ⟨Nat.le_of_ble_eq_true rfl, Nat.le_of_ble_eq_true rfl⟩) hP hD hS hA (fun v9 w1 H locs hf hP hD hS => ?_)
                              obtain ⟨rfl, hG⟩ := hf
                              refine lv_goto (tgt := 687) hx hb dL_act_654 (by decide) ?_
                              have e9 : (dQuo S (aA (sN S) v0) (aP v0) (lowV (sh (sh v0 6) 7) 6), S) = aAct S v0 e0 := by simp only [aAct, aHi, aMid, aMk, aZero, aR1, aR2, aD6, aD8, aC, c_165, c_171, c_271, c_502, c_509, c_535, c_561, c_583, c_622, c_638, Bool.false_eq_true, ↓reduceIte]
                              refine W.widen (k := 10) (n := 168) (Nat.le_of_ble_eq_true rfl) (Nat.le_of_ble_eq_true rfl) ?_
                              exact W.lret hx hb hr (fun t ht hW => ⟨⟨_, w1, rfl, by rw [← e9]; exact ⟨rfl, hG⟩, by rw [← hAe]; exact hD, by rw [ht]; exact hP⟩, by rw [← hAe]; exact hS.F ht⟩) (by rw [← hAe]; exact hS.2.2) dL_act_687
                            · skip
                              refine lv_bipush (v := 28) hx hb dL_act_641 (by decide) ?_
                              refine lv_goto (tgt := 648) hx hb dL_act_643 (by decide) ?_
                              refine g_callR (v0 := .int (lowV (sh (sh v0 6) 7) 28)) (va_runS (As := [.int (sh (sh v0 6) 7), .int 28]) (rest := [.int (aP v0), .int (aA (sN S) v0), .int 15, .ref h]) ⟨hx, hb, hml, hown, hts⟩ (c_L_low l D y s.heap.size (sh (sh v0 6) 7) 28 (by decide)) (va_cwS 2 hts gL_act_L_low rfl rfl rfl (by decide +kernel) ⟨Nat.le_of_ble_eq_true rfl, Nat.le_of_ble_eq_true rfl⟩) (gP_S hP hD hK [] (by decide) rfl) rfl rfl hl.1 rfl (lv_room (Nat.le_of_ble_eq_true rfl)) dL_act_648 ⟨Nat.le_of_ble_eq_true rfl, Nat.le_of_ble_eq_true rfl⟩) ?_
                              refine g_callN (ws := []) (wc := w) (vx_runSW (As := [.ref h, .int 15, .int (aA (sN S) v0), .int (aP v0), .int (lowV (sh (sh v0 6) 7) 28)]) (rest := []) ⟨hx, hb, hml, hown, hts⟩ (e_quotient l hfl D y ad hS9 hw (aA (sN S) v0) (aP v0) (lowV (sh (sh v0 6) 7) 28) s.heap.size) (vx_cwSW 5 hts gL_act_L_does rfl rfl rfl (by decide +kernel) ⟨Nat.le_of_ble_eq_true rfl, Nat.le_of_ble_eq_true rfl⟩) (gPN_SA hP hD hK hE hN hS hA) rfl rfl hl.1 rfl (lv_room (Nat.le_of_ble_eq_true rfl)) dL_act_651 ⟨Nat.le_of_ble_eq_true rfl, Nat.le_of_ble_eq_true rfl⟩) hP hD hS hA (fun v9 w1 H locs hf hP hD hS => ?_)
                              obtain ⟨rfl, hG⟩ := hf
                              refine lv_goto (tgt := 687) hx hb dL_act_654 (by decide) ?_
                              have e9 : (dQuo S (aA (sN S) v0) (aP v0) (lowV (sh (sh v0 6) 7) 28), S) = aAct S v0 e0 := by simp only [aAct, aHi, aMid, aMk, aZero, aR1, aR2, aD6, aD8, aC, c_165, c_171, c_271, c_502, c_509, c_535, c_561, c_583, c_622, c_638, Bool.false_eq_true, ↓reduceIte]
                              refine W.widen (k := 10) (n := 168) (Nat.le_of_ble_eq_true rfl) (Nat.le_of_ble_eq_true rfl) ?_
                              exact W.lret hx hb hr (fun t ht hW => ⟨⟨_, w1, rfl, by rw [← e9]; exact ⟨rfl, hG⟩, by rw [← hAe]; exact hD, by rw [ht]; exact hP⟩, by rw [← hAe]; exact hS.F ht⟩) (by rw [← hAe]; exact hS.2.2) dL_act_687
                        · skip
                          refine lv_aload_n hx hb dL_act_586 rfl (lv_at hl 7 rfl) ?_
                          refine lv_bipush (v := 14) hx hb dL_act_587 (by decide) ?_
                          refine lv_iload hx hb dL_act_589 (lv_at hl 2 rfl) ?_
                          refine lv_iload hx hb dL_act_591 (lv_at hl 0 rfl) ?_
                          refine lv_iload hx hb dL_act_593 (lv_at hl 4 rfl) ?_
                          refine lv_bipush (v := 7) hx hb dL_act_595 (by decide) ?_
                          refine lv_ishr hx hb dL_act_597 ?_
                          refine lv_iload_n hx hb dL_act_598 rfl (lv_at hl 6 rfl) ?_
                          refine g_beq (tgt := 607) hx hb dL_act_599 (by decide) (fun c_599 => ?_) (fun c_599 => ?_)
                          · skip
                            refine lv_bipush (v := 8) hx hb dL_act_607 (by decide) ?_
                            refine g_callR (v0 := .int (lowV (sh (sh v0 6) 7) 8)) (va_runS (As := [.int (sh (sh v0 6) 7), .int 8]) (rest := [.int (aP v0), .int (aA (sN S) v0), .int 14, .ref h]) ⟨hx, hb, hml, hown, hts⟩ (c_L_low l D y s.heap.size (sh (sh v0 6) 7) 8 (by decide)) (va_cwS 2 hts gL_act_L_low rfl rfl rfl (by decide +kernel) ⟨Nat.le_of_ble_eq_true rfl, Nat.le_of_ble_eq_true rfl⟩) (gP_S hP hD hK [] (by decide) rfl) rfl rfl hl.1 rfl (lv_room (Nat.le_of_ble_eq_true rfl)) dL_act_609 ⟨Nat.le_of_ble_eq_true rfl, Nat.le_of_ble_eq_true rfl⟩) ?_
                            refine g_callN (ws := []) (wc := w) (vx_runSW (As := [.ref h, .int 14, .int (aA (sN S) v0), .int (aP v0), .int (lowV (sh (sh v0 6) 7) 8)]) (rest := []) ⟨hx, hb, hml, hown, hts⟩ (e_decimal l hfl D y ad hS9 hw (aA (sN S) v0) (aP v0) (lowV (sh (sh v0 6) 7) 8) s.heap.size) (vx_cwSW 5 hts gL_act_L_does rfl rfl rfl (by decide +kernel) ⟨Nat.le_of_ble_eq_true rfl, Nat.le_of_ble_eq_true rfl⟩) (gPN_SA hP hD hK hE hN hS hA) rfl rfl hl.1 rfl (lv_room (Nat.le_of_ble_eq_true rfl)) dL_act_612 ⟨Nat.le_of_ble_eq_true rfl, Nat.le_of_ble_eq_true rfl⟩) hP hD hS hA (fun v9 w1 H locs hf hP hD hS => ?_)
                            obtain ⟨rfl, hG⟩ := hf
                            refine lv_goto (tgt := 687) hx hb dL_act_615 (by decide) ?_
                            have e9 : (dDec S (aA (sN S) v0) (aP v0) (lowV (sh (sh v0 6) 7) 8), S) = aAct S v0 e0 := by simp only [aAct, aHi, aMid, aMk, aZero, aR1, aR2, aD6, aD8, aC, c_165, c_171, c_271, c_502, c_509, c_535, c_561, c_583, c_599, Bool.false_eq_true, ↓reduceIte]
                            refine W.widen (k := 10) (n := 168) (Nat.le_of_ble_eq_true rfl) (Nat.le_of_ble_eq_true rfl) ?_
                            exact W.lret hx hb hr (fun t ht hW => ⟨⟨_, w1, rfl, by rw [← e9]; exact ⟨rfl, hG⟩, by rw [← hAe]; exact hD, by rw [ht]; exact hP⟩, by rw [← hAe]; exact hS.F ht⟩) (by rw [← hAe]; exact hS.2.2) dL_act_687
                          · skip
                            refine lv_bipush (v := 10) hx hb dL_act_602 (by decide) ?_
                            refine lv_goto (tgt := 609) hx hb dL_act_604 (by decide) ?_
                            refine g_callR (v0 := .int (lowV (sh (sh v0 6) 7) 10)) (va_runS (As := [.int (sh (sh v0 6) 7), .int 10]) (rest := [.int (aP v0), .int (aA (sN S) v0), .int 14, .ref h]) ⟨hx, hb, hml, hown, hts⟩ (c_L_low l D y s.heap.size (sh (sh v0 6) 7) 10 (by decide)) (va_cwS 2 hts gL_act_L_low rfl rfl rfl (by decide +kernel) ⟨Nat.le_of_ble_eq_true rfl, Nat.le_of_ble_eq_true rfl⟩) (gP_S hP hD hK [] (by decide) rfl) rfl rfl hl.1 rfl (lv_room (Nat.le_of_ble_eq_true rfl)) dL_act_609 ⟨Nat.le_of_ble_eq_true rfl, Nat.le_of_ble_eq_true rfl⟩) ?_
                            refine g_callN (ws := []) (wc := w) (vx_runSW (As := [.ref h, .int 14, .int (aA (sN S) v0), .int (aP v0), .int (lowV (sh (sh v0 6) 7) 10)]) (rest := []) ⟨hx, hb, hml, hown, hts⟩ (e_decimal l hfl D y ad hS9 hw (aA (sN S) v0) (aP v0) (lowV (sh (sh v0 6) 7) 10) s.heap.size) (vx_cwSW 5 hts gL_act_L_does rfl rfl rfl (by decide +kernel) ⟨Nat.le_of_ble_eq_true rfl, Nat.le_of_ble_eq_true rfl⟩) (gPN_SA hP hD hK hE hN hS hA) rfl rfl hl.1 rfl (lv_room (Nat.le_of_ble_eq_true rfl)) dL_act_612 ⟨Nat.le_of_ble_eq_true rfl, Nat.le_of_ble_eq_true rfl⟩) hP hD hS hA (fun v9 w1 H locs hf hP hD hS => ?_)
                            obtain ⟨rfl, hG⟩ := hf
                            refine lv_goto (tgt := 687) hx hb dL_act_615 (by decide) ?_
                            have e9 : (dDec S (aA (sN S) v0) (aP v0) (lowV (sh (sh v0 6) 7) 10), S) = aAct S v0 e0 := by simp only [aAct, aHi, aMid, aMk, aZero, aR1, aR2, aD6, aD8, aC, c_165, c_171, c_271, c_502, c_509, c_535, c_561, c_583, c_599, Bool.false_eq_true, ↓reduceIte]
                            refine W.widen (k := 10) (n := 168) (Nat.le_of_ble_eq_true rfl) (Nat.le_of_ble_eq_true rfl) ?_
                            exact W.lret hx hb hr (fun t ht hW => ⟨⟨_, w1, rfl, by rw [← e9]; exact ⟨rfl, hG⟩, by rw [← hAe]; exact hD, by rw [ht]; exact hP⟩, by rw [← hAe]; exact hS.F ht⟩) (by rw [← hAe]; exact hS.2.2) dL_act_687
                      · skip
                        refine lv_aload_n hx hb dL_act_564 rfl (lv_at hl 7 rfl) ?_
                        refine lv_bipush (v := 11) hx hb dL_act_565 (by decide) ?_
                        refine lv_iload hx hb dL_act_567 (lv_at hl 2 rfl) ?_
                        refine lv_iload hx hb dL_act_569 (lv_at hl 1 rfl) ?_
                        refine lv_iload hx hb dL_act_571 (lv_at hl 0 rfl) ?_
                        refine g_callN (ws := []) (wc := w) (vx_runSW (As := [.ref h, .int 11, .int (aA (sN S) v0), .int (aB (sN S) v0), .int (aP v0)]) (rest := []) ⟨hx, hb, hml, hown, hts⟩ (e_compare l hfl D y ad hS9 hw (aA (sN S) v0) (aB (sN S) v0) (aP v0) s.heap.size) (vx_cwSW 5 hts gL_act_L_does rfl rfl rfl (by decide +kernel) ⟨Nat.le_of_ble_eq_true rfl, Nat.le_of_ble_eq_true rfl⟩) (gPN_SA hP hD hK hE hN hS hA) rfl rfl hl.1 rfl (lv_room (Nat.le_of_ble_eq_true rfl)) dL_act_573 ⟨Nat.le_of_ble_eq_true rfl, Nat.le_of_ble_eq_true rfl⟩) hP hD hS hA (fun v9 w1 H locs hf hP hD hS => ?_)
                        obtain ⟨rfl, hG⟩ := hf
                        refine lv_goto (tgt := 687) hx hb dL_act_576 (by decide) ?_
                        have e9 : (dComp S (aA (sN S) v0) (aB (sN S) v0) (aP v0), S) = aAct S v0 e0 := by simp only [aAct, aHi, aMid, aMk, aZero, aR1, aR2, aD6, aD8, aC, c_165, c_171, c_271, c_502, c_509, c_535, c_561, Bool.false_eq_true, ↓reduceIte]
                        refine W.widen (k := 10) (n := 168) (Nat.le_of_ble_eq_true rfl) (Nat.le_of_ble_eq_true rfl) ?_
                        exact W.lret hx hb hr (fun t ht hW => ⟨⟨_, w1, rfl, by rw [← e9]; exact ⟨rfl, hG⟩, by rw [← hAe]; exact hD, by rw [ht]; exact hP⟩, by rw [← hAe]; exact hS.F ht⟩) (by rw [← hAe]; exact hS.2.2) dL_act_687
                    · skip
                      refine lv_aload_n hx hb dL_act_538 rfl (lv_at hl 7 rfl) ?_
                      refine lv_bipush (v := 9) hx hb dL_act_539 (by decide) ?_
                      refine lv_iload hx hb dL_act_541 (lv_at hl 2 rfl) ?_
                      refine lv_iload hx hb dL_act_543 (lv_at hl 0 rfl) ?_
                      refine lv_iload hx hb dL_act_545 (lv_at hl 4 rfl) ?_
                      refine lv_iconst (v := 4) hx hb dL_act_547 (by decide) ?_
                      refine lv_ishr hx hb dL_act_548 ?_
                      refine lv_iconst (v := 1) hx hb dL_act_549 (by decide) ?_
                      refine lv_iand hx hb dL_act_550 ?_
                      refine g_callN (ws := []) (wc := w) (vx_runSW (As := [.ref h, .int 9, .int (aA (sN S) v0), .int (aP v0), .int ((sh (sh v0 6) 4) &&& 1)]) (rest := []) ⟨hx, hb, hml, hown, hts⟩ (e_told l hfl D y ad hS9 hw (aA (sN S) v0) (aP v0) ((sh (sh v0 6) 4) &&& 1) s.heap.size) (vx_cwSW 5 hts gL_act_L_does rfl rfl rfl (by decide +kernel) ⟨Nat.le_of_ble_eq_true rfl, Nat.le_of_ble_eq_true rfl⟩) (gPN_SA hP hD hK hE hN hS hA) rfl rfl hl.1 rfl (lv_room (Nat.le_of_ble_eq_true rfl)) dL_act_551 ⟨Nat.le_of_ble_eq_true rfl, Nat.le_of_ble_eq_true rfl⟩) hP hD hS hA (fun v9 w1 H locs hf hP hD hS => ?_)
                      obtain ⟨rfl, hG⟩ := hf
                      refine lv_goto (tgt := 687) hx hb dL_act_554 (by decide) ?_
                      have e9 : (dTold S (aA (sN S) v0) (aP v0) (decide (((sh (sh v0 6) 4) &&& 1) = 1)), S) = aAct S v0 e0 := by simp only [aAct, aHi, aMid, aMk, aZero, aR1, aR2, aD6, aD8, aC, c_165, c_171, c_271, c_502, c_509, c_535, Bool.false_eq_true, ↓reduceIte]
                      refine W.widen (k := 10) (n := 168) (Nat.le_of_ble_eq_true rfl) (Nat.le_of_ble_eq_true rfl) ?_
                      exact W.lret hx hb hr (fun t ht hW => ⟨⟨_, w1, rfl, by rw [← e9]; exact ⟨rfl, hG⟩, by rw [← hAe]; exact hD, by rw [ht]; exact hP⟩, by rw [← hAe]; exact hS.F ht⟩) (by rw [← hAe]; exact hS.2.2) dL_act_687
                  · skip
                    refine lv_aload_n hx hb dL_act_512 rfl (lv_at hl 7 rfl) ?_
                    refine lv_bipush (v := 8) hx hb dL_act_513 (by decide) ?_
                    refine lv_iload hx hb dL_act_515 (lv_at hl 2 rfl) ?_
                    refine lv_iload hx hb dL_act_517 (lv_at hl 0 rfl) ?_
                    refine lv_iload hx hb dL_act_519 (lv_at hl 4 rfl) ?_
                    refine lv_iconst (v := 4) hx hb dL_act_521 (by decide) ?_
                    refine lv_ishr hx hb dL_act_522 ?_
                    refine lv_iconst (v := 1) hx hb dL_act_523 (by decide) ?_
                    refine lv_iand hx hb dL_act_524 ?_
                    refine g_callN (ws := []) (wc := w) (vx_runSW (As := [.ref h, .int 8, .int (aA (sN S) v0), .int (aP v0), .int ((sh (sh v0 6) 4) &&& 1)]) (rest := []) ⟨hx, hb, hml, hown, hts⟩ (e_raw l hfl D y ad hS9 hw (aA (sN S) v0) (aP v0) ((sh (sh v0 6) 4) &&& 1) s.heap.size) (vx_cwSW 5 hts gL_act_L_does rfl rfl rfl (by decide +kernel) ⟨Nat.le_of_ble_eq_true rfl, Nat.le_of_ble_eq_true rfl⟩) (gPN_SA hP hD hK hE hN hS hA) rfl rfl hl.1 rfl (lv_room (Nat.le_of_ble_eq_true rfl)) dL_act_525 ⟨Nat.le_of_ble_eq_true rfl, Nat.le_of_ble_eq_true rfl⟩) hP hD hS hA (fun v9 w1 H locs hf hP hD hS => ?_)
                    obtain ⟨rfl, hG⟩ := hf
                    refine lv_goto (tgt := 687) hx hb dL_act_528 (by decide) ?_
                    have e9 : (dRaw S (aA (sN S) v0) (aP v0) (decide (((sh (sh v0 6) 4) &&& 1) = 1)), S) = aAct S v0 e0 := by simp only [aAct, aHi, aMid, aMk, aZero, aR1, aR2, aD6, aD8, aC, c_165, c_171, c_271, c_502, c_509, Bool.false_eq_true, ↓reduceIte]
                    refine W.widen (k := 10) (n := 168) (Nat.le_of_ble_eq_true rfl) (Nat.le_of_ble_eq_true rfl) ?_
                    exact W.lret hx hb hr (fun t ht hW => ⟨⟨_, w1, rfl, by rw [← e9]; exact ⟨rfl, hG⟩, by rw [← hAe]; exact hD, by rw [ht]; exact hP⟩, by rw [← hAe]; exact hS.F ht⟩) (by rw [← hAe]; exact hS.2.2) dL_act_687
              · skip
                refine lv_iload hx hb dL_act_274 (lv_at hl 5 rfl) ?_
                refine lv_bipush (v := 8) hx hb dL_act_276 (by decide) ?_
                refine lv_icmp_ge (tgt := 285) hx hb dL_act_278 (by decide) (fun c_278 => ?_) (fun c_278 => ?_)
                · skip
                  refine lv_iload hx hb dL_act_285 (lv_at hl 5 rfl) ?_
                  refine lv_bipush (v := 10) hx hb dL_act_287 (by decide) ?_
                  refine lv_icmp_ge (tgt := 296) hx hb dL_act_289 (by decide) (fun c_289 => ?_) (fun c_289 => ?_)
                  · skip
                    refine lv_iload hx hb dL_act_296 (lv_at hl 5 rfl) ?_
                    refine lv_bipush (v := 13) hx hb dL_act_298 (by decide) ?_
                    refine lv_icmp_ge (tgt := 307) hx hb dL_act_300 (by decide) (fun c_300 => ?_) (fun c_300 => ?_)
                    · skip
                      refine lv_iload hx hb dL_act_307 (lv_at hl 5 rfl) ?_
                      refine lv_bipush (v := 14) hx hb dL_act_309 (by decide) ?_
                      refine lv_icmp_ge (tgt := 318) hx hb dL_act_311 (by decide) (fun c_311 => ?_) (fun c_311 => ?_)
                      · skip
                        refine lv_iload hx hb dL_act_318 (lv_at hl 5 rfl) ?_
                        refine lv_bipush (v := 15) hx hb dL_act_320 (by decide) ?_
                        refine lv_icmp_ge (tgt := 329) hx hb dL_act_322 (by decide) (fun c_322 => ?_) (fun c_322 => ?_)
                        · skip
                          refine lv_iload hx hb dL_act_329 (lv_at hl 5 rfl) ?_
                          refine lv_bipush (v := 16) hx hb dL_act_331 (by decide) ?_
                          refine lv_icmp_ge (tgt := 341) hx hb dL_act_333 (by decide) (fun c_333 => ?_) (fun c_333 => ?_)
                          · skip
                            refine lv_iload hx hb dL_act_341 (lv_at hl 5 rfl) ?_
                            refine lv_bipush (v := 17) hx hb dL_act_343 (by decide) ?_
                            refine lv_icmp_ge (tgt := 353) hx hb dL_act_345 (by decide) (fun c_345 => ?_) (fun c_345 => ?_)
                            · skip
                              refine lv_bipush (v := 8) hx hb dL_act_353 (by decide) ?_
                              refine lv_istore (lv' := [(10, .int 8), (9, .int (aP v0)), (8, .int (aB (sN S) v0)), (7, .int (aA (sN S) v0)), (6, .int (nI (sN S))), (5, .int (sh v0 6)), (4, .int (lowV v0 44)), (3, .int (gB (aOdd v0))), (0, .ref h), (1, .int v0), (2, .int e0)]) hx hb dL_act_355 hl (by decide) rfl (fun ls hl => ?_)
                              refine lv_iload hx hb dL_act_357 (lv_at hl 4 rfl) ?_
                              refine lv_bipush (v := 17) hx hb dL_act_359 (by decide) ?_
                              refine lv_icmp_le (tgt := 370) hx hb dL_act_361 (by decide) (fun c_361 => ?_) (fun c_361 => ?_)
                              · skip
                                refine lv_iload hx hb dL_act_370 (lv_at hl 0 rfl) ?_
                                refine lv_bipush (v := 8) hx hb dL_act_372 (by decide) ?_
                                refine lv_icmp_ne (tgt := 468) hx hb dL_act_374 (by decide) (fun c_374 => absurd c_374 (by decide)) (fun c_374 => ?_)
                                refine lv_aload_n hx hb dL_act_377 rfl (lv_at hl 8 rfl) ?_
                                refine lv_iload hx hb dL_act_378 (lv_at hl 5 rfl) ?_
                                refine lv_bipush (v := 19) hx hb dL_act_380 (by decide) ?_
                                refine g_callR (v0 := .int (lowV (sh v0 6) 19)) (va_runS (As := [.int (sh v0 6), .int 19]) (rest := [.ref h]) ⟨hx, hb, hml, hown, hts⟩ (c_L_low l D y s.heap.size (sh v0 6) 19 (by decide)) (va_cwS 2 hts gL_act_L_low rfl rfl rfl (by decide +kernel) ⟨Nat.le_of_ble_eq_true rfl, Nat.le_of_ble_eq_true rfl⟩) (gP_S hP hD hK [] (by decide) rfl) rfl rfl hl.1 rfl (lv_room (Nat.le_of_ble_eq_true rfl)) dL_act_382 ⟨Nat.le_of_ble_eq_true rfl, Nat.le_of_ble_eq_true rfl⟩) ?_
                                refine lv_bipush (v := 9) hx hb dL_act_385 (by decide) ?_
                                refine lv_isub hx hb dL_act_387 ?_
                                refine lv_iload hx hb dL_act_388 (lv_at hl 5 rfl) ?_
                                refine lv_iconst (v := 2) hx hb dL_act_390 (by decide) ?_
                                refine lv_ishr hx hb dL_act_391 ?_
                                refine lv_bipush (v := 19) hx hb dL_act_392 (by decide) ?_
                                refine g_callR (v0 := .int (lowV (sh (sh v0 6) 2) 19)) (va_runS (As := [.int (sh (sh v0 6) 2), .int 19]) (rest := [.int ((lowV (sh v0 6) 19) - 9), .ref h]) ⟨hx, hb, hml, hown, hts⟩ (c_L_low l D y s.heap.size (sh (sh v0 6) 2) 19 (by decide)) (va_cwS 2 hts gL_act_L_low rfl rfl rfl (by decide +kernel) ⟨Nat.le_of_ble_eq_true rfl, Nat.le_of_ble_eq_true rfl⟩) (gP_S hP hD hK [] (by decide) rfl) rfl rfl hl.1 rfl (lv_room (Nat.le_of_ble_eq_true rfl)) dL_act_394 ⟨Nat.le_of_ble_eq_true rfl, Nat.le_of_ble_eq_true rfl⟩) ?_
                                refine lv_bipush (v := 9) hx hb dL_act_397 (by decide) ?_
                                refine lv_isub hx hb dL_act_399 ?_
                                refine lv_iload hx hb dL_act_400 (lv_at hl 5 rfl) ?_
                                refine lv_iconst (v := 4) hx hb dL_act_402 (by decide) ?_
                                refine lv_ishr hx hb dL_act_403 ?_
                                refine lv_bipush (v := 19) hx hb dL_act_404 (by decide) ?_
                                refine g_callR (v0 := .int (lowV (sh (sh v0 6) 4) 19)) (va_runS (As := [.int (sh (sh v0 6) 4), .int 19]) (rest := [.int ((lowV (sh (sh v0 6) 2) 19) - 9), .int ((lowV (sh v0 6) 19) - 9), .ref h]) ⟨hx, hb, hml, hown, hts⟩ (c_L_low l D y s.heap.size (sh (sh v0 6) 4) 19 (by decide)) (va_cwS 2 hts gL_act_L_low rfl rfl rfl (by decide +kernel) ⟨Nat.le_of_ble_eq_true rfl, Nat.le_of_ble_eq_true rfl⟩) (gP_S hP hD hK [] (by decide) rfl) rfl rfl hl.1 rfl (lv_room (Nat.le_of_ble_eq_true rfl)) dL_act_406 ⟨Nat.le_of_ble_eq_true rfl, Nat.le_of_ble_eq_true rfl⟩) ?_
                                refine lv_bipush (v := 9) hx hb dL_act_409 (by decide) ?_
                                refine lv_isub hx hb dL_act_411 ?_
                                refine lv_iload hx hb dL_act_412 (lv_at hl 5 rfl) ?_
                                refine lv_bipush (v := 6) hx hb dL_act_414 (by decide) ?_
                                refine lv_ishr hx hb dL_act_416 ?_
                                refine lv_bipush (v := 19) hx hb dL_act_417 (by decide) ?_
                                refine g_callR (v0 := .int (lowV (sh (sh v0 6) 6) 19)) (va_runS (As := [.int (sh (sh v0 6) 6), .int 19]) (rest := [.int ((lowV (sh (sh v0 6) 4) 19) - 9), .int ((lowV (sh (sh v0 6) 2) 19) - 9), .int ((lowV (sh v0 6) 19) - 9), .ref h]) ⟨hx, hb, hml, hown, hts⟩ (c_L_low l D y s.heap.size (sh (sh v0 6) 6) 19 (by decide)) (va_cwS 2 hts gL_act_L_low rfl rfl rfl (by decide +kernel) ⟨Nat.le_of_ble_eq_true rfl, Nat.le_of_ble_eq_true rfl⟩) (gP_S hP hD hK [] (by decide) rfl) rfl rfl hl.1 rfl (lv_room (Nat.le_of_ble_eq_true rfl)) dL_act_419 ⟨Nat.le_of_ble_eq_true rfl, Nat.le_of_ble_eq_true rfl⟩) ?_
                                refine lv_bipush (v := 9) hx hb dL_act_422 (by decide) ?_
                                refine lv_isub hx hb dL_act_424 ?_
                                refine lv_iload hx hb dL_act_425 (lv_at hl 5 rfl) ?_
                                refine lv_iconst (v := 3) hx hb dL_act_427 (by decide) ?_
                                refine lv_ishr hx hb dL_act_428 ?_
                                refine lv_iload_n hx hb dL_act_429 rfl (lv_at hl 7 rfl) ?_
                                refine g_beq (tgt := 438) hx hb dL_act_430 (by decide) (fun c_430 => ?_) (fun c_430 => ?_)
                                · skip
                                  refine lv_bipush (v := 8) hx hb dL_act_438 (by decide) ?_
                                  refine g_callR (v0 := .int (lowV (sh (sh v0 6) 3) 8)) (va_runS (As := [.int (sh (sh v0 6) 3), .int 8]) (rest := [.int ((lowV (sh (sh v0 6) 6) 19) - 9), .int ((lowV (sh (sh v0 6) 4) 19) - 9), .int ((lowV (sh (sh v0 6) 2) 19) - 9), .int ((lowV (sh v0 6) 19) - 9), .ref h]) ⟨hx, hb, hml, hown, hts⟩ (c_L_low l D y s.heap.size (sh (sh v0 6) 3) 8 (by decide)) (va_cwS 2 hts gL_act_L_low rfl rfl rfl (by decide +kernel) ⟨Nat.le_of_ble_eq_true rfl, Nat.le_of_ble_eq_true rfl⟩) (gP_S hP hD hK [] (by decide) rfl) rfl rfl hl.1 rfl (lv_room (Nat.le_of_ble_eq_true rfl)) dL_act_440 ⟨Nat.le_of_ble_eq_true rfl, Nat.le_of_ble_eq_true rfl⟩) ?_
                                  refine lv_iconst (v := 4) hx hb dL_act_443 (by decide) ?_
                                  refine lv_isub hx hb dL_act_444 ?_
                                  refine lv_iload hx hb dL_act_445 (lv_at hl 5 rfl) ?_
                                  refine lv_iconst (v := 5) hx hb dL_act_447 (by decide) ?_
                                  refine lv_ishr hx hb dL_act_448 ?_
                                  refine lv_iload_n hx hb dL_act_449 rfl (lv_at hl 7 rfl) ?_
                                  refine g_beq (tgt := 457) hx hb dL_act_450 (by decide) (fun c_450 => ?_) (fun c_450 => absurd c_450 c_430)
                                  refine lv_iconst (v := 3) hx hb dL_act_457 (by decide) ?_
                                  refine g_callR (v0 := .int (lowV (sh (sh v0 6) 5) 3)) (va_runS (As := [.int (sh (sh v0 6) 5), .int 3]) (rest := [.int ((lowV (sh (sh v0 6) 3) 8) - 4), .int ((lowV (sh (sh v0 6) 6) 19) - 9), .int ((lowV (sh (sh v0 6) 4) 19) - 9), .int ((lowV (sh (sh v0 6) 2) 19) - 9), .int ((lowV (sh v0 6) 19) - 9), .ref h]) ⟨hx, hb, hml, hown, hts⟩ (c_L_low l D y s.heap.size (sh (sh v0 6) 5) 3 (by decide)) (va_cwS 2 hts gL_act_L_low rfl rfl rfl (by decide +kernel) ⟨Nat.le_of_ble_eq_true rfl, Nat.le_of_ble_eq_true rfl⟩) (gP_S hP hD hK [] (by decide) rfl) rfl rfl hl.1 rfl (lv_room (Nat.le_of_ble_eq_true rfl)) dL_act_458 ⟨Nat.le_of_ble_eq_true rfl, Nat.le_of_ble_eq_true rfl⟩) ?_
                                  refine g_callN (ws := []) (wc := w) (vx_runSW (As := [.ref h, .int ((lowV (sh v0 6) 19) - 9), .int ((lowV (sh (sh v0 6) 2) 19) - 9), .int ((lowV (sh (sh v0 6) 4) 19) - 9), .int ((lowV (sh (sh v0 6) 6) 19) - 9), .int ((lowV (sh (sh v0 6) 3) 8) - 4), .int (lowV (sh (sh v0 6) 5) 3)]) (rest := []) ⟨hx, hb, hml, hown, hts⟩ (e_zero l hfl D y ad hS9 hw ((lowV (sh v0 6) 19) - 9) ((lowV (sh (sh v0 6) 2) 19) - 9) ((lowV (sh (sh v0 6) 4) 19) - 9) ((lowV (sh (sh v0 6) 6) 19) - 9) ((lowV (sh (sh v0 6) 3) 8) - 4) (lowV (sh (sh v0 6) 5) 3) s.heap.size) (vx_cwSW 7 hts gL_act_L_seeks rfl rfl rfl (by decide +kernel) ⟨Nat.le_of_ble_eq_true rfl, Nat.le_of_ble_eq_true rfl⟩) (gPN_SA hP hD hK hE hN hS hA) rfl rfl hl.1 rfl (lv_room (Nat.le_of_ble_eq_true rfl)) dL_act_461 ⟨Nat.le_of_ble_eq_true rfl, Nat.le_of_ble_eq_true rfl⟩) hP hD hS hA (fun v9 w1 H locs hf hP hD hS => ?_)
                                  obtain ⟨rfl, hG⟩ := hf
                                  refine lv_i2l (v := (dZero S ((lowV (sh v0 6) 19) - 9) ((lowV (sh (sh v0 6) 2) 19) - 9) ((lowV (sh (sh v0 6) 4) 19) - 9) ((lowV (sh (sh v0 6) 6) 19) - 9) ((lowV (sh (sh v0 6) 3) 8) - 4) (lowV (sh (sh v0 6) 5) 3)).1.toInt64) hx hb dL_act_464 rfl ?_
                                  refine lv_goto (tgt := 497) hx hb dL_act_465 (by decide) ?_
                                  have e9 : ((dZero S ((lowV (sh v0 6) 19) - 9) ((lowV (sh (sh v0 6) 2) 19) - 9) ((lowV (sh (sh v0 6) 4) 19) - 9) ((lowV (sh (sh v0 6) 6) 19) - 9) ((lowV (sh (sh v0 6) 3) 8) - 4) (lowV (sh (sh v0 6) 5) 3)).1.toInt64, (dZero S ((lowV (sh v0 6) 19) - 9) ((lowV (sh (sh v0 6) 2) 19) - 9) ((lowV (sh (sh v0 6) 4) 19) - 9) ((lowV (sh (sh v0 6) 6) 19) - 9) ((lowV (sh (sh v0 6) 3) 8) - 4) (lowV (sh (sh v0 6) 5) 3)).2) = aAct S v0 e0 := by simp only [aAct, aHi, aMid, aMk, aZero, aR1, aR2, aD6, aD8, aC, c_165, c_171, c_271, c_278, c_289, c_300, c_311, c_322, c_333, c_345, c_361, c_430, Bool.false_eq_true, ↓reduceIte]
                                  refine W.widen (k := 10) (n := 168) (Nat.le_of_ble_eq_true rfl) (Nat.le_of_ble_eq_true rfl) ?_
                                  exact W.lret hx hb hr (fun t ht hW => ⟨⟨_, w1, rfl, by rw [← e9]; exact ⟨rfl, hG⟩, by rw [← hAe]; exact hD, by rw [ht]; exact hP⟩, by rw [← hAe]; exact hS.F ht⟩) (by rw [← hAe]; exact hS.2.2) dL_act_497
                                · skip
                                  refine lv_bipush (v := 10) hx hb dL_act_433 (by decide) ?_
                                  refine lv_goto (tgt := 440) hx hb dL_act_435 (by decide) ?_
                                  refine g_callR (v0 := .int (lowV (sh (sh v0 6) 3) 10)) (va_runS (As := [.int (sh (sh v0 6) 3), .int 10]) (rest := [.int ((lowV (sh (sh v0 6) 6) 19) - 9), .int ((lowV (sh (sh v0 6) 4) 19) - 9), .int ((lowV (sh (sh v0 6) 2) 19) - 9), .int ((lowV (sh v0 6) 19) - 9), .ref h]) ⟨hx, hb, hml, hown, hts⟩ (c_L_low l D y s.heap.size (sh (sh v0 6) 3) 10 (by decide)) (va_cwS 2 hts gL_act_L_low rfl rfl rfl (by decide +kernel) ⟨Nat.le_of_ble_eq_true rfl, Nat.le_of_ble_eq_true rfl⟩) (gP_S hP hD hK [] (by decide) rfl) rfl rfl hl.1 rfl (lv_room (Nat.le_of_ble_eq_true rfl)) dL_act_440 ⟨Nat.le_of_ble_eq_true rfl, Nat.le_of_ble_eq_true rfl⟩) ?_
                                  refine lv_iconst (v := 4) hx hb dL_act_443 (by decide) ?_
                                  refine lv_isub hx hb dL_act_444 ?_
                                  refine lv_iload hx hb dL_act_445 (lv_at hl 5 rfl) ?_
                                  refine lv_iconst (v := 5) hx hb dL_act_447 (by decide) ?_
                                  refine lv_ishr hx hb dL_act_448 ?_
                                  refine lv_iload_n hx hb dL_act_449 rfl (lv_at hl 7 rfl) ?_
                                  refine g_beq (tgt := 457) hx hb dL_act_450 (by decide) (fun c_450 => absurd c_430 c_450) (fun c_450 => ?_)
                                  refine lv_iconst (v := 4) hx hb dL_act_453 (by decide) ?_
                                  refine lv_goto (tgt := 458) hx hb dL_act_454 (by decide) ?_
                                  refine g_callR (v0 := .int (lowV (sh (sh v0 6) 5) 4)) (va_runS (As := [.int (sh (sh v0 6) 5), .int 4]) (rest := [.int ((lowV (sh (sh v0 6) 3) 10) - 4), .int ((lowV (sh (sh v0 6) 6) 19) - 9), .int ((lowV (sh (sh v0 6) 4) 19) - 9), .int ((lowV (sh (sh v0 6) 2) 19) - 9), .int ((lowV (sh v0 6) 19) - 9), .ref h]) ⟨hx, hb, hml, hown, hts⟩ (c_L_low l D y s.heap.size (sh (sh v0 6) 5) 4 (by decide)) (va_cwS 2 hts gL_act_L_low rfl rfl rfl (by decide +kernel) ⟨Nat.le_of_ble_eq_true rfl, Nat.le_of_ble_eq_true rfl⟩) (gP_S hP hD hK [] (by decide) rfl) rfl rfl hl.1 rfl (lv_room (Nat.le_of_ble_eq_true rfl)) dL_act_458 ⟨Nat.le_of_ble_eq_true rfl, Nat.le_of_ble_eq_true rfl⟩) ?_
                                  refine g_callN (ws := []) (wc := w) (vx_runSW (As := [.ref h, .int ((lowV (sh v0 6) 19) - 9), .int ((lowV (sh (sh v0 6) 2) 19) - 9), .int ((lowV (sh (sh v0 6) 4) 19) - 9), .int ((lowV (sh (sh v0 6) 6) 19) - 9), .int ((lowV (sh (sh v0 6) 3) 10) - 4), .int (lowV (sh (sh v0 6) 5) 4)]) (rest := []) ⟨hx, hb, hml, hown, hts⟩ (e_zero l hfl D y ad hS9 hw ((lowV (sh v0 6) 19) - 9) ((lowV (sh (sh v0 6) 2) 19) - 9) ((lowV (sh (sh v0 6) 4) 19) - 9) ((lowV (sh (sh v0 6) 6) 19) - 9) ((lowV (sh (sh v0 6) 3) 10) - 4) (lowV (sh (sh v0 6) 5) 4) s.heap.size) (vx_cwSW 7 hts gL_act_L_seeks rfl rfl rfl (by decide +kernel) ⟨Nat.le_of_ble_eq_true rfl, Nat.le_of_ble_eq_true rfl⟩) (gPN_SA hP hD hK hE hN hS hA) rfl rfl hl.1 rfl (lv_room (Nat.le_of_ble_eq_true rfl)) dL_act_461 ⟨Nat.le_of_ble_eq_true rfl, Nat.le_of_ble_eq_true rfl⟩) hP hD hS hA (fun v9 w1 H locs hf hP hD hS => ?_)
                                  obtain ⟨rfl, hG⟩ := hf
                                  refine lv_i2l (v := (dZero S ((lowV (sh v0 6) 19) - 9) ((lowV (sh (sh v0 6) 2) 19) - 9) ((lowV (sh (sh v0 6) 4) 19) - 9) ((lowV (sh (sh v0 6) 6) 19) - 9) ((lowV (sh (sh v0 6) 3) 10) - 4) (lowV (sh (sh v0 6) 5) 4)).1.toInt64) hx hb dL_act_464 rfl ?_
                                  refine lv_goto (tgt := 497) hx hb dL_act_465 (by decide) ?_
                                  have e9 : ((dZero S ((lowV (sh v0 6) 19) - 9) ((lowV (sh (sh v0 6) 2) 19) - 9) ((lowV (sh (sh v0 6) 4) 19) - 9) ((lowV (sh (sh v0 6) 6) 19) - 9) ((lowV (sh (sh v0 6) 3) 10) - 4) (lowV (sh (sh v0 6) 5) 4)).1.toInt64, (dZero S ((lowV (sh v0 6) 19) - 9) ((lowV (sh (sh v0 6) 2) 19) - 9) ((lowV (sh (sh v0 6) 4) 19) - 9) ((lowV (sh (sh v0 6) 6) 19) - 9) ((lowV (sh (sh v0 6) 3) 10) - 4) (lowV (sh (sh v0 6) 5) 4)).2) = aAct S v0 e0 := by simp only [aAct, aHi, aMid, aMk, aZero, aR1, aR2, aD6, aD8, aC, c_165, c_171, c_271, c_278, c_289, c_300, c_311, c_322, c_333, c_345, c_361, c_430, Bool.false_eq_true, ↓reduceIte]
                                  refine W.widen (k := 10) (n := 168) (Nat.le_of_ble_eq_true rfl) (Nat.le_of_ble_eq_true rfl) ?_
                                  exact W.lret hx hb hr (fun t ht hW => ⟨⟨_, w1, rfl, by rw [← e9]; exact ⟨rfl, hG⟩, by rw [← hAe]; exact hD, by rw [ht]; exact hP⟩, by rw [← hAe]; exact hS.F ht⟩) (by rw [← hAe]; exact hS.2.2) dL_act_497
                              · skip
                                refine lv_ldc2 (v := -2100000000) hx hb hown (hts (.constantLong RL 62 (-2100000000)) (List.mem_of_getElem? (i := 1) rfl)) dL_act_364 ?_
                                refine lv_goto (tgt := 497) hx hb dL_act_367 (by decide) ?_
                                have e9 : ((-2100000000 : Int64), S) = aAct S v0 e0 := by simp only [aAct, aHi, aMid, aMk, aZero, aR1, aR2, aD6, aD8, aC, c_165, c_171, c_271, c_278, c_289, c_300, c_311, c_322, c_333, c_345, c_361, ↓reduceIte]
                                refine W.widen (k := 10) (n := 168) (Nat.le_of_ble_eq_true rfl) (Nat.le_of_ble_eq_true rfl) ?_
                                exact W.lret hx hb hr (fun t ht hW => ⟨⟨_, w, rfl, by rw [← e9]; exact ⟨rfl, hw⟩, by rw [← hAe]; exact hD, by rw [ht]; exact hP⟩, by rw [← hAe]; exact hS.F ht⟩) (by rw [← hAe]; exact hS.2.2) dL_act_497
                            · skip
                              refine lv_bipush (v := 7) hx hb dL_act_348 (by decide) ?_
                              refine lv_goto (tgt := 355) hx hb dL_act_350 (by decide) ?_
                              refine lv_istore (lv' := [(10, .int 7), (9, .int (aP v0)), (8, .int (aB (sN S) v0)), (7, .int (aA (sN S) v0)), (6, .int (nI (sN S))), (5, .int (sh v0 6)), (4, .int (lowV v0 44)), (3, .int (gB (aOdd v0))), (0, .ref h), (1, .int v0), (2, .int e0)]) hx hb dL_act_355 hl (by decide) rfl (fun ls hl => ?_)
                              refine lv_iload hx hb dL_act_357 (lv_at hl 4 rfl) ?_
                              refine lv_bipush (v := 17) hx hb dL_act_359 (by decide) ?_
                              refine lv_icmp_le (tgt := 370) hx hb dL_act_361 (by decide) (fun c_361 => ?_) (fun c_361 => ?_)
                              · skip
                                refine lv_iload hx hb dL_act_370 (lv_at hl 0 rfl) ?_
                                refine lv_bipush (v := 8) hx hb dL_act_372 (by decide) ?_
                                refine lv_icmp_ne (tgt := 468) hx hb dL_act_374 (by decide) (fun c_374 => ?_) (fun c_374 => absurd c_374 (by decide))
                                refine lv_iload hx hb dL_act_468 (lv_at hl 0 rfl) ?_
                                refine lv_bipush (v := 7) hx hb dL_act_470 (by decide) ?_
                                refine lv_icmp_ne (tgt := 486) hx hb dL_act_472 (by decide) (fun c_472 => absurd c_472 (by decide)) (fun c_472 => ?_)
                                refine lv_iload_n hx hb dL_act_475 rfl (lv_at hl 10 rfl) ?_
                                refine lv_iconst (v := 1) hx hb dL_act_476 (by decide) ?_
                                refine lv_icmp_le (tgt := 486) hx hb dL_act_477 (by decide) (fun c_477 => ?_) (fun c_477 => ?_)
                                · skip
                                  refine lv_aload_n hx hb dL_act_486 rfl (lv_at hl 8 rfl) ?_
                                  refine lv_iload hx hb dL_act_487 (lv_at hl 0 rfl) ?_
                                  refine lv_iload hx hb dL_act_489 (lv_at hl 3 rfl) ?_
                                  refine lv_iload hx hb dL_act_491 (lv_at hl 2 rfl) ?_
                                  refine lv_iconst (v := 0) hx hb dL_act_493 (by decide) ?_
                                  refine g_callN (ws := []) (wc := w) (vx_runSW (As := [.ref h, .int 7, .int (aA (sN S) v0), .int (aB (sN S) v0), .int 0]) (rest := []) ⟨hx, hb, hml, hown, hts⟩ (e_exp l hfl D y ad hS9 hw (aA (sN S) v0) (aB (sN S) v0) 0 s.heap.size) (vx_cwSW 5 hts gL_act_L_does rfl rfl rfl (by decide +kernel) ⟨Nat.le_of_ble_eq_true rfl, Nat.le_of_ble_eq_true rfl⟩) (gPN_SA hP hD hK hE hN hS hA) rfl rfl hl.1 rfl (lv_room (Nat.le_of_ble_eq_true rfl)) dL_act_494 ⟨Nat.le_of_ble_eq_true rfl, Nat.le_of_ble_eq_true rfl⟩) hP hD hS hA (fun v9 w1 H locs hf hP hD hS => ?_)
                                  obtain ⟨rfl, hG⟩ := hf
                                  have e9 : dMake S 7 (aA (sN S) v0) (aA (sN S) v0) = aAct S v0 e0 := by simp only [aAct, aHi, aMid, aMk, aZero, aR1, aR2, aD6, aD8, aC, c_165, c_171, c_271, c_278, c_289, c_300, c_311, c_322, c_333, c_345, c_361, c_477, Bool.false_eq_true, ↓reduceIte]
                                  refine W.widen (k := 10) (n := 168) (Nat.le_of_ble_eq_true rfl) (Nat.le_of_ble_eq_true rfl) ?_
                                  exact W.lret hx hb hr (fun t ht hW => ⟨⟨_, w1, rfl, by rw [← e9]; exact ⟨rfl, hG⟩, by rw [← hAe]; exact hD, by rw [ht]; exact hP⟩, by rw [← hAe]; exact hS.F ht⟩) (by rw [← hAe]; exact hS.2.2) dL_act_497
                                · skip
                                  refine lv_ldc2 (v := -2100000000) hx hb hown (hts (.constantLong RL 62 (-2100000000)) (List.mem_of_getElem? (i := 1) rfl)) dL_act_480 ?_
                                  refine lv_goto (tgt := 497) hx hb dL_act_483 (by decide) ?_
                                  have e9 : ((-2100000000 : Int64), S) = aAct S v0 e0 := by simp only [aAct, aHi, aMid, aMk, aZero, aR1, aR2, aD6, aD8, aC, c_165, c_171, c_271, c_278, c_289, c_300, c_311, c_322, c_333, c_345, c_361, c_477, ↓reduceIte]
                                  refine W.widen (k := 10) (n := 168) (Nat.le_of_ble_eq_true rfl) (Nat.le_of_ble_eq_true rfl) ?_
                                  exact W.lret hx hb hr (fun t ht hW => ⟨⟨_, w, rfl, by rw [← e9]; exact ⟨rfl, hw⟩, by rw [← hAe]; exact hD, by rw [ht]; exact hP⟩, by rw [← hAe]; exact hS.F ht⟩) (by rw [← hAe]; exact hS.2.2) dL_act_497
                              · skip
                                refine lv_ldc2 (v := -2100000000) hx hb hown (hts (.constantLong RL 62 (-2100000000)) (List.mem_of_getElem? (i := 1) rfl)) dL_act_364 ?_
                                refine lv_goto (tgt := 497) hx hb dL_act_367 (by decide) ?_
                                have e9 : ((-2100000000 : Int64), S) = aAct S v0 e0 := by simp only [aAct, aHi, aMid, aMk, aZero, aR1, aR2, aD6, aD8, aC, c_165, c_171, c_271, c_278, c_289, c_300, c_311, c_322, c_333, c_345, c_361, ↓reduceIte]
                                refine W.widen (k := 10) (n := 168) (Nat.le_of_ble_eq_true rfl) (Nat.le_of_ble_eq_true rfl) ?_
                                exact W.lret hx hb hr (fun t ht hW => ⟨⟨_, w, rfl, by rw [← e9]; exact ⟨rfl, hw⟩, by rw [← hAe]; exact hD, by rw [ht]; exact hP⟩, by rw [← hAe]; exact hS.F ht⟩) (by rw [← hAe]; exact hS.2.2) dL_act_497
                          · skip
                            refine lv_bipush (v := 6) hx hb dL_act_336 (by decide) ?_
                            refine lv_goto (tgt := 355) hx hb dL_act_338 (by decide) ?_
                            refine lv_istore (lv' := [(10, .int 6), (9, .int (aP v0)), (8, .int (aB (sN S) v0)), (7, .int (aA (sN S) v0)), (6, .int (nI (sN S))), (5, .int (sh v0 6)), (4, .int (lowV v0 44)), (3, .int (gB (aOdd v0))), (0, .ref h), (1, .int v0), (2, .int e0)]) hx hb dL_act_355 hl (by decide) rfl (fun ls hl => ?_)
                            refine lv_iload hx hb dL_act_357 (lv_at hl 4 rfl) ?_
                            refine lv_bipush (v := 17) hx hb dL_act_359 (by decide) ?_
                            refine lv_icmp_le (tgt := 370) hx hb dL_act_361 (by decide) (fun c_361 => ?_) (fun c_361 => ?_)
                            · skip
                              refine lv_iload hx hb dL_act_370 (lv_at hl 0 rfl) ?_
                              refine lv_bipush (v := 8) hx hb dL_act_372 (by decide) ?_
                              refine lv_icmp_ne (tgt := 468) hx hb dL_act_374 (by decide) (fun c_374 => ?_) (fun c_374 => absurd c_374 (by decide))
                              refine lv_iload hx hb dL_act_468 (lv_at hl 0 rfl) ?_
                              refine lv_bipush (v := 7) hx hb dL_act_470 (by decide) ?_
                              refine lv_icmp_ne (tgt := 486) hx hb dL_act_472 (by decide) (fun c_472 => ?_) (fun c_472 => absurd c_472 (by decide))
                              refine lv_aload_n hx hb dL_act_486 rfl (lv_at hl 8 rfl) ?_
                              refine lv_iload hx hb dL_act_487 (lv_at hl 0 rfl) ?_
                              refine lv_iload hx hb dL_act_489 (lv_at hl 3 rfl) ?_
                              refine lv_iload hx hb dL_act_491 (lv_at hl 2 rfl) ?_
                              refine lv_iconst (v := 0) hx hb dL_act_493 (by decide) ?_
                              refine g_callN (ws := []) (wc := w) (vx_runSW (As := [.ref h, .int 6, .int (aA (sN S) v0), .int (aB (sN S) v0), .int 0]) (rest := []) ⟨hx, hb, hml, hown, hts⟩ (e_root l hfl D y ad hS9 hw (aA (sN S) v0) (aB (sN S) v0) 0 s.heap.size) (vx_cwSW 5 hts gL_act_L_does rfl rfl rfl (by decide +kernel) ⟨Nat.le_of_ble_eq_true rfl, Nat.le_of_ble_eq_true rfl⟩) (gPN_SA hP hD hK hE hN hS hA) rfl rfl hl.1 rfl (lv_room (Nat.le_of_ble_eq_true rfl)) dL_act_494 ⟨Nat.le_of_ble_eq_true rfl, Nat.le_of_ble_eq_true rfl⟩) hP hD hS hA (fun v9 w1 H locs hf hP hD hS => ?_)
                              obtain ⟨rfl, hG⟩ := hf
                              have e9 : dMake S 6 (aA (sN S) v0) (aA (sN S) v0) = aAct S v0 e0 := by simp only [aAct, aHi, aMid, aMk, aZero, aR1, aR2, aD6, aD8, aC, c_165, c_171, c_271, c_278, c_289, c_300, c_311, c_322, c_333, c_361, Bool.false_eq_true, ↓reduceIte]
                              refine W.widen (k := 10) (n := 168) (Nat.le_of_ble_eq_true rfl) (Nat.le_of_ble_eq_true rfl) ?_
                              exact W.lret hx hb hr (fun t ht hW => ⟨⟨_, w1, rfl, by rw [← e9]; exact ⟨rfl, hG⟩, by rw [← hAe]; exact hD, by rw [ht]; exact hP⟩, by rw [← hAe]; exact hS.F ht⟩) (by rw [← hAe]; exact hS.2.2) dL_act_497
                            · skip
                              refine lv_ldc2 (v := -2100000000) hx hb hown (hts (.constantLong RL 62 (-2100000000)) (List.mem_of_getElem? (i := 1) rfl)) dL_act_364 ?_
                              refine lv_goto (tgt := 497) hx hb dL_act_367 (by decide) ?_
                              have e9 : ((-2100000000 : Int64), S) = aAct S v0 e0 := by simp only [aAct, aHi, aMid, aMk, aZero, aR1, aR2, aD6, aD8, aC, c_165, c_171, c_271, c_278, c_289, c_300, c_311, c_322, c_333, c_361, ↓reduceIte]
                              refine W.widen (k := 10) (n := 168) (Nat.le_of_ble_eq_true rfl) (Nat.le_of_ble_eq_true rfl) ?_
                              exact W.lret hx hb hr (fun t ht hW => ⟨⟨_, w, rfl, by rw [← e9]; exact ⟨rfl, hw⟩, by rw [← hAe]; exact hD, by rw [ht]; exact hP⟩, by rw [← hAe]; exact hS.F ht⟩) (by rw [← hAe]; exact hS.2.2) dL_act_497
                        · skip
                          refine lv_iconst (v := 5) hx hb dL_act_325 (by decide) ?_
                          refine lv_goto (tgt := 355) hx hb dL_act_326 (by decide) ?_
                          refine lv_istore (lv' := [(10, .int 5), (9, .int (aP v0)), (8, .int (aB (sN S) v0)), (7, .int (aA (sN S) v0)), (6, .int (nI (sN S))), (5, .int (sh v0 6)), (4, .int (lowV v0 44)), (3, .int (gB (aOdd v0))), (0, .ref h), (1, .int v0), (2, .int e0)]) hx hb dL_act_355 hl (by decide) rfl (fun ls hl => ?_)
                          refine lv_iload hx hb dL_act_357 (lv_at hl 4 rfl) ?_
                          refine lv_bipush (v := 17) hx hb dL_act_359 (by decide) ?_
                          refine lv_icmp_le (tgt := 370) hx hb dL_act_361 (by decide) (fun c_361 => ?_) (fun c_361 => ?_)
                          · skip
                            refine lv_iload hx hb dL_act_370 (lv_at hl 0 rfl) ?_
                            refine lv_bipush (v := 8) hx hb dL_act_372 (by decide) ?_
                            refine lv_icmp_ne (tgt := 468) hx hb dL_act_374 (by decide) (fun c_374 => ?_) (fun c_374 => absurd c_374 (by decide))
                            refine lv_iload hx hb dL_act_468 (lv_at hl 0 rfl) ?_
                            refine lv_bipush (v := 7) hx hb dL_act_470 (by decide) ?_
                            refine lv_icmp_ne (tgt := 486) hx hb dL_act_472 (by decide) (fun c_472 => ?_) (fun c_472 => absurd c_472 (by decide))
                            refine lv_aload_n hx hb dL_act_486 rfl (lv_at hl 8 rfl) ?_
                            refine lv_iload hx hb dL_act_487 (lv_at hl 0 rfl) ?_
                            refine lv_iload hx hb dL_act_489 (lv_at hl 3 rfl) ?_
                            refine lv_iload hx hb dL_act_491 (lv_at hl 2 rfl) ?_
                            refine lv_iconst (v := 0) hx hb dL_act_493 (by decide) ?_
                            refine g_callN (ws := []) (wc := w) (vx_runSW (As := [.ref h, .int 5, .int (aA (sN S) v0), .int (aB (sN S) v0), .int 0]) (rest := []) ⟨hx, hb, hml, hown, hts⟩ (e_inverse l hfl D y ad hS9 hw (aA (sN S) v0) (aB (sN S) v0) 0 s.heap.size) (vx_cwSW 5 hts gL_act_L_does rfl rfl rfl (by decide +kernel) ⟨Nat.le_of_ble_eq_true rfl, Nat.le_of_ble_eq_true rfl⟩) (gPN_SA hP hD hK hE hN hS hA) rfl rfl hl.1 rfl (lv_room (Nat.le_of_ble_eq_true rfl)) dL_act_494 ⟨Nat.le_of_ble_eq_true rfl, Nat.le_of_ble_eq_true rfl⟩) hP hD hS hA (fun v9 w1 H locs hf hP hD hS => ?_)
                            obtain ⟨rfl, hG⟩ := hf
                            have e9 : dMake S 5 (aA (sN S) v0) (aA (sN S) v0) = aAct S v0 e0 := by simp only [aAct, aHi, aMid, aMk, aZero, aR1, aR2, aD6, aD8, aC, c_165, c_171, c_271, c_278, c_289, c_300, c_311, c_322, c_361, Bool.false_eq_true, ↓reduceIte]
                            refine W.widen (k := 10) (n := 168) (Nat.le_of_ble_eq_true rfl) (Nat.le_of_ble_eq_true rfl) ?_
                            exact W.lret hx hb hr (fun t ht hW => ⟨⟨_, w1, rfl, by rw [← e9]; exact ⟨rfl, hG⟩, by rw [← hAe]; exact hD, by rw [ht]; exact hP⟩, by rw [← hAe]; exact hS.F ht⟩) (by rw [← hAe]; exact hS.2.2) dL_act_497
                          · skip
                            refine lv_ldc2 (v := -2100000000) hx hb hown (hts (.constantLong RL 62 (-2100000000)) (List.mem_of_getElem? (i := 1) rfl)) dL_act_364 ?_
                            refine lv_goto (tgt := 497) hx hb dL_act_367 (by decide) ?_
                            have e9 : ((-2100000000 : Int64), S) = aAct S v0 e0 := by simp only [aAct, aHi, aMid, aMk, aZero, aR1, aR2, aD6, aD8, aC, c_165, c_171, c_271, c_278, c_289, c_300, c_311, c_322, c_361, ↓reduceIte]
                            refine W.widen (k := 10) (n := 168) (Nat.le_of_ble_eq_true rfl) (Nat.le_of_ble_eq_true rfl) ?_
                            exact W.lret hx hb hr (fun t ht hW => ⟨⟨_, w, rfl, by rw [← e9]; exact ⟨rfl, hw⟩, by rw [← hAe]; exact hD, by rw [ht]; exact hP⟩, by rw [← hAe]; exact hS.F ht⟩) (by rw [← hAe]; exact hS.2.2) dL_act_497
                      · skip
                        refine lv_iconst (v := 4) hx hb dL_act_314 (by decide) ?_
                        refine lv_goto (tgt := 355) hx hb dL_act_315 (by decide) ?_
                        refine lv_istore (lv' := [(10, .int 4), (9, .int (aP v0)), (8, .int (aB (sN S) v0)), (7, .int (aA (sN S) v0)), (6, .int (nI (sN S))), (5, .int (sh v0 6)), (4, .int (lowV v0 44)), (3, .int (gB (aOdd v0))), (0, .ref h), (1, .int v0), (2, .int e0)]) hx hb dL_act_355 hl (by decide) rfl (fun ls hl => ?_)
                        refine lv_iload hx hb dL_act_357 (lv_at hl 4 rfl) ?_
                        refine lv_bipush (v := 17) hx hb dL_act_359 (by decide) ?_
                        refine lv_icmp_le (tgt := 370) hx hb dL_act_361 (by decide) (fun c_361 => ?_) (fun c_361 => ?_)
                        · skip
                          refine lv_iload hx hb dL_act_370 (lv_at hl 0 rfl) ?_
                          refine lv_bipush (v := 8) hx hb dL_act_372 (by decide) ?_
                          refine lv_icmp_ne (tgt := 468) hx hb dL_act_374 (by decide) (fun c_374 => ?_) (fun c_374 => absurd c_374 (by decide))
                          refine lv_iload hx hb dL_act_468 (lv_at hl 0 rfl) ?_
                          refine lv_bipush (v := 7) hx hb dL_act_470 (by decide) ?_
                          refine lv_icmp_ne (tgt := 486) hx hb dL_act_472 (by decide) (fun c_472 => ?_) (fun c_472 => absurd c_472 (by decide))
                          refine lv_aload_n hx hb dL_act_486 rfl (lv_at hl 8 rfl) ?_
                          refine lv_iload hx hb dL_act_487 (lv_at hl 0 rfl) ?_
                          refine lv_iload hx hb dL_act_489 (lv_at hl 3 rfl) ?_
                          refine lv_iload hx hb dL_act_491 (lv_at hl 2 rfl) ?_
                          refine lv_iconst (v := 0) hx hb dL_act_493 (by decide) ?_
                          refine g_callN (ws := []) (wc := w) (vx_runSW (As := [.ref h, .int 4, .int (aA (sN S) v0), .int (aB (sN S) v0), .int 0]) (rest := []) ⟨hx, hb, hml, hown, hts⟩ (e_greater l hfl D y ad hS9 hw (aA (sN S) v0) (aB (sN S) v0) 0 s.heap.size) (vx_cwSW 5 hts gL_act_L_does rfl rfl rfl (by decide +kernel) ⟨Nat.le_of_ble_eq_true rfl, Nat.le_of_ble_eq_true rfl⟩) (gPN_SA hP hD hK hE hN hS hA) rfl rfl hl.1 rfl (lv_room (Nat.le_of_ble_eq_true rfl)) dL_act_494 ⟨Nat.le_of_ble_eq_true rfl, Nat.le_of_ble_eq_true rfl⟩) hP hD hS hA (fun v9 w1 H locs hf hP hD hS => ?_)
                          obtain ⟨rfl, hG⟩ := hf
                          have e9 : dMake S 4 (aA (sN S) v0) (aB (sN S) v0) = aAct S v0 e0 := by simp only [aAct, aHi, aMid, aMk, aZero, aR1, aR2, aD6, aD8, aC, c_165, c_171, c_271, c_278, c_289, c_300, c_311, c_361, Bool.false_eq_true, ↓reduceIte]
                          refine W.widen (k := 10) (n := 168) (Nat.le_of_ble_eq_true rfl) (Nat.le_of_ble_eq_true rfl) ?_
                          exact W.lret hx hb hr (fun t ht hW => ⟨⟨_, w1, rfl, by rw [← e9]; exact ⟨rfl, hG⟩, by rw [← hAe]; exact hD, by rw [ht]; exact hP⟩, by rw [← hAe]; exact hS.F ht⟩) (by rw [← hAe]; exact hS.2.2) dL_act_497
                        · skip
                          refine lv_ldc2 (v := -2100000000) hx hb hown (hts (.constantLong RL 62 (-2100000000)) (List.mem_of_getElem? (i := 1) rfl)) dL_act_364 ?_
                          refine lv_goto (tgt := 497) hx hb dL_act_367 (by decide) ?_
                          have e9 : ((-2100000000 : Int64), S) = aAct S v0 e0 := by simp only [aAct, aHi, aMid, aMk, aZero, aR1, aR2, aD6, aD8, aC, c_165, c_171, c_271, c_278, c_289, c_300, c_311, c_361, ↓reduceIte]
                          refine W.widen (k := 10) (n := 168) (Nat.le_of_ble_eq_true rfl) (Nat.le_of_ble_eq_true rfl) ?_
                          exact W.lret hx hb hr (fun t ht hW => ⟨⟨_, w, rfl, by rw [← e9]; exact ⟨rfl, hw⟩, by rw [← hAe]; exact hD, by rw [ht]; exact hP⟩, by rw [← hAe]; exact hS.F ht⟩) (by rw [← hAe]; exact hS.2.2) dL_act_497
                    · skip
                      refine lv_iconst (v := 3) hx hb dL_act_303 (by decide) ?_
                      refine lv_goto (tgt := 355) hx hb dL_act_304 (by decide) ?_
                      refine lv_istore (lv' := [(10, .int 3), (9, .int (aP v0)), (8, .int (aB (sN S) v0)), (7, .int (aA (sN S) v0)), (6, .int (nI (sN S))), (5, .int (sh v0 6)), (4, .int (lowV v0 44)), (3, .int (gB (aOdd v0))), (0, .ref h), (1, .int v0), (2, .int e0)]) hx hb dL_act_355 hl (by decide) rfl (fun ls hl => ?_)
                      refine lv_iload hx hb dL_act_357 (lv_at hl 4 rfl) ?_
                      refine lv_bipush (v := 17) hx hb dL_act_359 (by decide) ?_
                      refine lv_icmp_le (tgt := 370) hx hb dL_act_361 (by decide) (fun c_361 => ?_) (fun c_361 => ?_)
                      · skip
                        refine lv_iload hx hb dL_act_370 (lv_at hl 0 rfl) ?_
                        refine lv_bipush (v := 8) hx hb dL_act_372 (by decide) ?_
                        refine lv_icmp_ne (tgt := 468) hx hb dL_act_374 (by decide) (fun c_374 => ?_) (fun c_374 => absurd c_374 (by decide))
                        refine lv_iload hx hb dL_act_468 (lv_at hl 0 rfl) ?_
                        refine lv_bipush (v := 7) hx hb dL_act_470 (by decide) ?_
                        refine lv_icmp_ne (tgt := 486) hx hb dL_act_472 (by decide) (fun c_472 => ?_) (fun c_472 => absurd c_472 (by decide))
                        refine lv_aload_n hx hb dL_act_486 rfl (lv_at hl 8 rfl) ?_
                        refine lv_iload hx hb dL_act_487 (lv_at hl 0 rfl) ?_
                        refine lv_iload hx hb dL_act_489 (lv_at hl 3 rfl) ?_
                        refine lv_iload hx hb dL_act_491 (lv_at hl 2 rfl) ?_
                        refine lv_iconst (v := 0) hx hb dL_act_493 (by decide) ?_
                        refine g_callN (ws := []) (wc := w) (vx_runSW (As := [.ref h, .int 3, .int (aA (sN S) v0), .int (aB (sN S) v0), .int 0]) (rest := []) ⟨hx, hb, hml, hown, hts⟩ (e_product l hfl D y ad hS9 hw (aA (sN S) v0) (aB (sN S) v0) 0 s.heap.size) (vx_cwSW 5 hts gL_act_L_does rfl rfl rfl (by decide +kernel) ⟨Nat.le_of_ble_eq_true rfl, Nat.le_of_ble_eq_true rfl⟩) (gPN_SA hP hD hK hE hN hS hA) rfl rfl hl.1 rfl (lv_room (Nat.le_of_ble_eq_true rfl)) dL_act_494 ⟨Nat.le_of_ble_eq_true rfl, Nat.le_of_ble_eq_true rfl⟩) hP hD hS hA (fun v9 w1 H locs hf hP hD hS => ?_)
                        obtain ⟨rfl, hG⟩ := hf
                        have e9 : dMake S 3 (aA (sN S) v0) (aB (sN S) v0) = aAct S v0 e0 := by simp only [aAct, aHi, aMid, aMk, aZero, aR1, aR2, aD6, aD8, aC, c_165, c_171, c_271, c_278, c_289, c_300, c_361, Bool.false_eq_true, ↓reduceIte]
                        refine W.widen (k := 10) (n := 168) (Nat.le_of_ble_eq_true rfl) (Nat.le_of_ble_eq_true rfl) ?_
                        exact W.lret hx hb hr (fun t ht hW => ⟨⟨_, w1, rfl, by rw [← e9]; exact ⟨rfl, hG⟩, by rw [← hAe]; exact hD, by rw [ht]; exact hP⟩, by rw [← hAe]; exact hS.F ht⟩) (by rw [← hAe]; exact hS.2.2) dL_act_497
                      · skip
                        refine lv_ldc2 (v := -2100000000) hx hb hown (hts (.constantLong RL 62 (-2100000000)) (List.mem_of_getElem? (i := 1) rfl)) dL_act_364 ?_
                        refine lv_goto (tgt := 497) hx hb dL_act_367 (by decide) ?_
                        have e9 : ((-2100000000 : Int64), S) = aAct S v0 e0 := by simp only [aAct, aHi, aMid, aMk, aZero, aR1, aR2, aD6, aD8, aC, c_165, c_171, c_271, c_278, c_289, c_300, c_361, ↓reduceIte]
                        refine W.widen (k := 10) (n := 168) (Nat.le_of_ble_eq_true rfl) (Nat.le_of_ble_eq_true rfl) ?_
                        exact W.lret hx hb hr (fun t ht hW => ⟨⟨_, w, rfl, by rw [← e9]; exact ⟨rfl, hw⟩, by rw [← hAe]; exact hD, by rw [ht]; exact hP⟩, by rw [← hAe]; exact hS.F ht⟩) (by rw [← hAe]; exact hS.2.2) dL_act_497
                  · skip
                    refine lv_iconst (v := 2) hx hb dL_act_292 (by decide) ?_
                    refine lv_goto (tgt := 355) hx hb dL_act_293 (by decide) ?_
                    refine lv_istore (lv' := [(10, .int 2), (9, .int (aP v0)), (8, .int (aB (sN S) v0)), (7, .int (aA (sN S) v0)), (6, .int (nI (sN S))), (5, .int (sh v0 6)), (4, .int (lowV v0 44)), (3, .int (gB (aOdd v0))), (0, .ref h), (1, .int v0), (2, .int e0)]) hx hb dL_act_355 hl (by decide) rfl (fun ls hl => ?_)
                    refine lv_iload hx hb dL_act_357 (lv_at hl 4 rfl) ?_
                    refine lv_bipush (v := 17) hx hb dL_act_359 (by decide) ?_
                    refine lv_icmp_le (tgt := 370) hx hb dL_act_361 (by decide) (fun c_361 => ?_) (fun c_361 => ?_)
                    · skip
                      refine lv_iload hx hb dL_act_370 (lv_at hl 0 rfl) ?_
                      refine lv_bipush (v := 8) hx hb dL_act_372 (by decide) ?_
                      refine lv_icmp_ne (tgt := 468) hx hb dL_act_374 (by decide) (fun c_374 => ?_) (fun c_374 => absurd c_374 (by decide))
                      refine lv_iload hx hb dL_act_468 (lv_at hl 0 rfl) ?_
                      refine lv_bipush (v := 7) hx hb dL_act_470 (by decide) ?_
                      refine lv_icmp_ne (tgt := 486) hx hb dL_act_472 (by decide) (fun c_472 => ?_) (fun c_472 => absurd c_472 (by decide))
                      refine lv_aload_n hx hb dL_act_486 rfl (lv_at hl 8 rfl) ?_
                      refine lv_iload hx hb dL_act_487 (lv_at hl 0 rfl) ?_
                      refine lv_iload hx hb dL_act_489 (lv_at hl 3 rfl) ?_
                      refine lv_iload hx hb dL_act_491 (lv_at hl 2 rfl) ?_
                      refine lv_iconst (v := 0) hx hb dL_act_493 (by decide) ?_
                      refine g_callN (ws := []) (wc := w) (vx_runSW (As := [.ref h, .int 2, .int (aA (sN S) v0), .int (aB (sN S) v0), .int 0]) (rest := []) ⟨hx, hb, hml, hown, hts⟩ (e_difference l hfl D y ad hS9 hw (aA (sN S) v0) (aB (sN S) v0) 0 s.heap.size) (vx_cwSW 5 hts gL_act_L_does rfl rfl rfl (by decide +kernel) ⟨Nat.le_of_ble_eq_true rfl, Nat.le_of_ble_eq_true rfl⟩) (gPN_SA hP hD hK hE hN hS hA) rfl rfl hl.1 rfl (lv_room (Nat.le_of_ble_eq_true rfl)) dL_act_494 ⟨Nat.le_of_ble_eq_true rfl, Nat.le_of_ble_eq_true rfl⟩) hP hD hS hA (fun v9 w1 H locs hf hP hD hS => ?_)
                      obtain ⟨rfl, hG⟩ := hf
                      have e9 : dMake S 2 (aA (sN S) v0) (aB (sN S) v0) = aAct S v0 e0 := by simp only [aAct, aHi, aMid, aMk, aZero, aR1, aR2, aD6, aD8, aC, c_165, c_171, c_271, c_278, c_289, c_361, Bool.false_eq_true, ↓reduceIte]
                      refine W.widen (k := 10) (n := 168) (Nat.le_of_ble_eq_true rfl) (Nat.le_of_ble_eq_true rfl) ?_
                      exact W.lret hx hb hr (fun t ht hW => ⟨⟨_, w1, rfl, by rw [← e9]; exact ⟨rfl, hG⟩, by rw [← hAe]; exact hD, by rw [ht]; exact hP⟩, by rw [← hAe]; exact hS.F ht⟩) (by rw [← hAe]; exact hS.2.2) dL_act_497
                    · skip
                      refine lv_ldc2 (v := -2100000000) hx hb hown (hts (.constantLong RL 62 (-2100000000)) (List.mem_of_getElem? (i := 1) rfl)) dL_act_364 ?_
                      refine lv_goto (tgt := 497) hx hb dL_act_367 (by decide) ?_
                      have e9 : ((-2100000000 : Int64), S) = aAct S v0 e0 := by simp only [aAct, aHi, aMid, aMk, aZero, aR1, aR2, aD6, aD8, aC, c_165, c_171, c_271, c_278, c_289, c_361, ↓reduceIte]
                      refine W.widen (k := 10) (n := 168) (Nat.le_of_ble_eq_true rfl) (Nat.le_of_ble_eq_true rfl) ?_
                      exact W.lret hx hb hr (fun t ht hW => ⟨⟨_, w, rfl, by rw [← e9]; exact ⟨rfl, hw⟩, by rw [← hAe]; exact hD, by rw [ht]; exact hP⟩, by rw [← hAe]; exact hS.F ht⟩) (by rw [← hAe]; exact hS.2.2) dL_act_497
                · skip
                  refine lv_iconst (v := 1) hx hb dL_act_281 (by decide) ?_
                  refine lv_goto (tgt := 355) hx hb dL_act_282 (by decide) ?_
                  refine lv_istore (lv' := [(10, .int 1), (9, .int (aP v0)), (8, .int (aB (sN S) v0)), (7, .int (aA (sN S) v0)), (6, .int (nI (sN S))), (5, .int (sh v0 6)), (4, .int (lowV v0 44)), (3, .int (gB (aOdd v0))), (0, .ref h), (1, .int v0), (2, .int e0)]) hx hb dL_act_355 hl (by decide) rfl (fun ls hl => ?_)
                  refine lv_iload hx hb dL_act_357 (lv_at hl 4 rfl) ?_
                  refine lv_bipush (v := 17) hx hb dL_act_359 (by decide) ?_
                  refine lv_icmp_le (tgt := 370) hx hb dL_act_361 (by decide) (fun c_361 => ?_) (fun c_361 => ?_)
                  · skip
                    refine lv_iload hx hb dL_act_370 (lv_at hl 0 rfl) ?_
                    refine lv_bipush (v := 8) hx hb dL_act_372 (by decide) ?_
                    refine lv_icmp_ne (tgt := 468) hx hb dL_act_374 (by decide) (fun c_374 => ?_) (fun c_374 => absurd c_374 (by decide))
                    refine lv_iload hx hb dL_act_468 (lv_at hl 0 rfl) ?_
                    refine lv_bipush (v := 7) hx hb dL_act_470 (by decide) ?_
                    refine lv_icmp_ne (tgt := 486) hx hb dL_act_472 (by decide) (fun c_472 => ?_) (fun c_472 => absurd c_472 (by decide))
                    refine lv_aload_n hx hb dL_act_486 rfl (lv_at hl 8 rfl) ?_
                    refine lv_iload hx hb dL_act_487 (lv_at hl 0 rfl) ?_
                    refine lv_iload hx hb dL_act_489 (lv_at hl 3 rfl) ?_
                    refine lv_iload hx hb dL_act_491 (lv_at hl 2 rfl) ?_
                    refine lv_iconst (v := 0) hx hb dL_act_493 (by decide) ?_
                    refine g_callN (ws := []) (wc := w) (vx_runSW (As := [.ref h, .int 1, .int (aA (sN S) v0), .int (aB (sN S) v0), .int 0]) (rest := []) ⟨hx, hb, hml, hown, hts⟩ (e_sum l hfl D y ad hS9 hw (aA (sN S) v0) (aB (sN S) v0) 0 s.heap.size) (vx_cwSW 5 hts gL_act_L_does rfl rfl rfl (by decide +kernel) ⟨Nat.le_of_ble_eq_true rfl, Nat.le_of_ble_eq_true rfl⟩) (gPN_SA hP hD hK hE hN hS hA) rfl rfl hl.1 rfl (lv_room (Nat.le_of_ble_eq_true rfl)) dL_act_494 ⟨Nat.le_of_ble_eq_true rfl, Nat.le_of_ble_eq_true rfl⟩) hP hD hS hA (fun v9 w1 H locs hf hP hD hS => ?_)
                    obtain ⟨rfl, hG⟩ := hf
                    have e9 : dMake S 1 (aA (sN S) v0) (aB (sN S) v0) = aAct S v0 e0 := by simp only [aAct, aHi, aMid, aMk, aZero, aR1, aR2, aD6, aD8, aC, c_165, c_171, c_271, c_278, c_361, Bool.false_eq_true, ↓reduceIte]
                    refine W.widen (k := 10) (n := 168) (Nat.le_of_ble_eq_true rfl) (Nat.le_of_ble_eq_true rfl) ?_
                    exact W.lret hx hb hr (fun t ht hW => ⟨⟨_, w1, rfl, by rw [← e9]; exact ⟨rfl, hG⟩, by rw [← hAe]; exact hD, by rw [ht]; exact hP⟩, by rw [← hAe]; exact hS.F ht⟩) (by rw [← hAe]; exact hS.2.2) dL_act_497
                  · skip
                    refine lv_ldc2 (v := -2100000000) hx hb hown (hts (.constantLong RL 62 (-2100000000)) (List.mem_of_getElem? (i := 1) rfl)) dL_act_364 ?_
                    refine lv_goto (tgt := 497) hx hb dL_act_367 (by decide) ?_
                    have e9 : ((-2100000000 : Int64), S) = aAct S v0 e0 := by simp only [aAct, aHi, aMid, aMk, aZero, aR1, aR2, aD6, aD8, aC, c_165, c_171, c_271, c_278, c_361, ↓reduceIte]
                    refine W.widen (k := 10) (n := 168) (Nat.le_of_ble_eq_true rfl) (Nat.le_of_ble_eq_true rfl) ?_
                    exact W.lret hx hb hr (fun t ht hW => ⟨⟨_, w, rfl, by rw [← e9]; exact ⟨rfl, hw⟩, by rw [← hAe]; exact hD, by rw [ht]; exact hP⟩, by rw [← hAe]; exact hS.F ht⟩) (by rw [← hAe]; exact hS.2.2) dL_act_497
            · skip
              refine lv_aload_n hx hb dL_act_174 rfl (lv_at hl 7 rfl) ?_
              refine lv_iconst (v := 0) hx hb dL_act_175 (by decide) ?_
              refine lv_iload_n hx hb dL_act_176 rfl (lv_at hl 6 rfl) ?_
              refine g_beq (tgt := 195) hx hb dL_act_177 (by decide) (fun c_177 => ?_) (fun c_177 => ?_)
              · skip
                refine lv_iload hx hb dL_act_195 (lv_at hl 4 rfl) ?_
                refine lv_iload hx hb dL_act_197 (lv_at hl 4 rfl) ?_
                refine lv_iconst (v := 3) hx hb dL_act_199 (by decide) ?_
                refine lv_iand hx hb dL_act_200 ?_
                refine lv_if_ne (tgt := 210) hx hb dL_act_201 (by decide) (fun c_201 => ?_) (fun c_201 => ?_)
                · skip
                  refine lv_bipush (v := 41) hx hb dL_act_210 (by decide) ?_
                  refine g_callR (v0 := .int (lowV (sh v0 6) 41)) (va_runS (As := [.int (sh v0 6), .int 41]) (rest := [.int 0, .ref h]) ⟨hx, hb, hml, hown, hts⟩ (c_L_low l D y s.heap.size (sh v0 6) 41 (by decide)) (va_cwS 2 hts gL_act_L_low rfl rfl rfl (by decide +kernel) ⟨Nat.le_of_ble_eq_true rfl, Nat.le_of_ble_eq_true rfl⟩) (gP_S hP hD hK [] (by decide) rfl) rfl rfl hl.1 rfl (lv_room (Nat.le_of_ble_eq_true rfl)) dL_act_212 ⟨Nat.le_of_ble_eq_true rfl, Nat.le_of_ble_eq_true rfl⟩) ?_
                  refine lv_iload hx hb dL_act_215 (lv_at hl 4 rfl) ?_
                  refine lv_iconst (v := 3) hx hb dL_act_217 (by decide) ?_
                  refine lv_iand hx hb dL_act_218 ?_
                  refine lv_if_ne (tgt := 228) hx hb dL_act_219 (by decide) (fun c_219 => ?_) (fun c_219 => absurd c_219 c_201)
                  refine lv_bipush (v := 20) hx hb dL_act_228 (by decide) ?_
                  refine lv_isub hx hb dL_act_230 ?_
                  refine lv_iload_n hx hb dL_act_231 rfl (lv_at hl 6 rfl) ?_
                  refine g_beq (tgt := 251) hx hb dL_act_232 (by decide) (fun c_232 => ?_) (fun c_232 => absurd c_232 c_177)
                  refine lv_iconst (v := 1) hx hb dL_act_251 (by decide) ?_
                  refine lv_iload hx hb dL_act_252 (lv_at hl 4 rfl) ?_
                  refine lv_iconst (v := 4) hx hb dL_act_254 (by decide) ?_
                  refine lv_ishr hx hb dL_act_255 ?_
                  refine lv_bipush (v := 30) hx hb dL_act_256 (by decide) ?_
                  refine g_callR (v0 := .int (lowV (sh (sh v0 6) 4) 30)) (va_runS (As := [.int (sh (sh v0 6) 4), .int 30]) (rest := [.int 1, .int ((lowV (sh v0 6) 41) - 20), .int 0, .ref h]) ⟨hx, hb, hml, hown, hts⟩ (c_L_low l D y s.heap.size (sh (sh v0 6) 4) 30 (by decide)) (va_cwS 2 hts gL_act_L_low rfl rfl rfl (by decide +kernel) ⟨Nat.le_of_ble_eq_true rfl, Nat.le_of_ble_eq_true rfl⟩) (gP_S hP hD hK [] (by decide) rfl) rfl rfl hl.1 rfl (lv_room (Nat.le_of_ble_eq_true rfl)) dL_act_258 ⟨Nat.le_of_ble_eq_true rfl, Nat.le_of_ble_eq_true rfl⟩) ?_
                  refine lv_iadd hx hb dL_act_261 ?_
                  refine lv_iconst (v := 0) hx hb dL_act_262 (by decide) ?_
                  refine g_callN (ws := []) (wc := w) (vx_runSW (As := [.ref h, .int 0, .int ((lowV (sh v0 6) 41) - 20), .int (1 + (lowV (sh (sh v0 6) 4) 30)), .int 0]) (rest := []) ⟨hx, hb, hml, hown, hts⟩ (e_ratio l hfl D y ad hS9 hw ((lowV (sh v0 6) 41) - 20) (1 + (lowV (sh (sh v0 6) 4) 30)) 0 s.heap.size) (vx_cwSW 5 hts gL_act_L_does rfl rfl rfl (by decide +kernel) ⟨Nat.le_of_ble_eq_true rfl, Nat.le_of_ble_eq_true rfl⟩) (gPN_SA hP hD hK hE hN hS hA) rfl rfl hl.1 rfl (lv_room (Nat.le_of_ble_eq_true rfl)) dL_act_263 ⟨Nat.le_of_ble_eq_true rfl, Nat.le_of_ble_eq_true rfl⟩) hP hD hS hA (fun v9 w1 H locs hf hP hD hS => ?_)
                  obtain ⟨rfl, hG⟩ := hf
                  have e9 : dRat S ((lowV (sh v0 6) 41) - 20) (1 + (lowV (sh (sh v0 6) 4) 30)) = aAct S v0 e0 := by simp only [aAct, aHi, aMid, aMk, aZero, aR1, aR2, aD6, aD8, aC, c_165, c_171, c_177, c_201, Bool.false_eq_true, ↓reduceIte]
                  refine W.widen (k := 10) (n := 168) (Nat.le_of_ble_eq_true rfl) (Nat.le_of_ble_eq_true rfl) ?_
                  exact W.lret hx hb hr (fun t ht hW => ⟨⟨_, w1, rfl, by rw [← e9]; exact ⟨rfl, hG⟩, by rw [← hAe]; exact hD, by rw [ht]; exact hP⟩, by rw [← hAe]; exact hS.F ht⟩) (by rw [← hAe]; exact hS.2.2) dL_act_266
                · skip
                  refine lv_sipush (v := 401) hx hb dL_act_204 (by decide) ?_
                  refine lv_goto (tgt := 212) hx hb dL_act_207 (by decide) ?_
                  refine g_callR (v0 := .int (lowV (sh v0 6) 401)) (va_runS (As := [.int (sh v0 6), .int 401]) (rest := [.int 0, .ref h]) ⟨hx, hb, hml, hown, hts⟩ (c_L_low l D y s.heap.size (sh v0 6) 401 (by decide)) (va_cwS 2 hts gL_act_L_low rfl rfl rfl (by decide +kernel) ⟨Nat.le_of_ble_eq_true rfl, Nat.le_of_ble_eq_true rfl⟩) (gP_S hP hD hK [] (by decide) rfl) rfl rfl hl.1 rfl (lv_room (Nat.le_of_ble_eq_true rfl)) dL_act_212 ⟨Nat.le_of_ble_eq_true rfl, Nat.le_of_ble_eq_true rfl⟩) ?_
                  refine lv_iload hx hb dL_act_215 (lv_at hl 4 rfl) ?_
                  refine lv_iconst (v := 3) hx hb dL_act_217 (by decide) ?_
                  refine lv_iand hx hb dL_act_218 ?_
                  refine lv_if_ne (tgt := 228) hx hb dL_act_219 (by decide) (fun c_219 => absurd c_201 c_219) (fun c_219 => ?_)
                  refine lv_sipush (v := 200) hx hb dL_act_222 (by decide) ?_
                  refine lv_goto (tgt := 230) hx hb dL_act_225 (by decide) ?_
                  refine lv_isub hx hb dL_act_230 ?_
                  refine lv_iload_n hx hb dL_act_231 rfl (lv_at hl 6 rfl) ?_
                  refine g_beq (tgt := 251) hx hb dL_act_232 (by decide) (fun c_232 => ?_) (fun c_232 => absurd c_232 c_177)
                  refine lv_iconst (v := 1) hx hb dL_act_251 (by decide) ?_
                  refine lv_iload hx hb dL_act_252 (lv_at hl 4 rfl) ?_
                  refine lv_iconst (v := 4) hx hb dL_act_254 (by decide) ?_
                  refine lv_ishr hx hb dL_act_255 ?_
                  refine lv_bipush (v := 30) hx hb dL_act_256 (by decide) ?_
                  refine g_callR (v0 := .int (lowV (sh (sh v0 6) 4) 30)) (va_runS (As := [.int (sh (sh v0 6) 4), .int 30]) (rest := [.int 1, .int ((lowV (sh v0 6) 401) - 200), .int 0, .ref h]) ⟨hx, hb, hml, hown, hts⟩ (c_L_low l D y s.heap.size (sh (sh v0 6) 4) 30 (by decide)) (va_cwS 2 hts gL_act_L_low rfl rfl rfl (by decide +kernel) ⟨Nat.le_of_ble_eq_true rfl, Nat.le_of_ble_eq_true rfl⟩) (gP_S hP hD hK [] (by decide) rfl) rfl rfl hl.1 rfl (lv_room (Nat.le_of_ble_eq_true rfl)) dL_act_258 ⟨Nat.le_of_ble_eq_true rfl, Nat.le_of_ble_eq_true rfl⟩) ?_
                  refine lv_iadd hx hb dL_act_261 ?_
                  refine lv_iconst (v := 0) hx hb dL_act_262 (by decide) ?_
                  refine g_callN (ws := []) (wc := w) (vx_runSW (As := [.ref h, .int 0, .int ((lowV (sh v0 6) 401) - 200), .int (1 + (lowV (sh (sh v0 6) 4) 30)), .int 0]) (rest := []) ⟨hx, hb, hml, hown, hts⟩ (e_ratio l hfl D y ad hS9 hw ((lowV (sh v0 6) 401) - 200) (1 + (lowV (sh (sh v0 6) 4) 30)) 0 s.heap.size) (vx_cwSW 5 hts gL_act_L_does rfl rfl rfl (by decide +kernel) ⟨Nat.le_of_ble_eq_true rfl, Nat.le_of_ble_eq_true rfl⟩) (gPN_SA hP hD hK hE hN hS hA) rfl rfl hl.1 rfl (lv_room (Nat.le_of_ble_eq_true rfl)) dL_act_263 ⟨Nat.le_of_ble_eq_true rfl, Nat.le_of_ble_eq_true rfl⟩) hP hD hS hA (fun v9 w1 H locs hf hP hD hS => ?_)
                  obtain ⟨rfl, hG⟩ := hf
                  have e9 : dRat S ((lowV (sh v0 6) 401) - 200) (1 + (lowV (sh (sh v0 6) 4) 30)) = aAct S v0 e0 := by simp only [aAct, aHi, aMid, aMk, aZero, aR1, aR2, aD6, aD8, aC, c_165, c_171, c_177, c_201, Bool.false_eq_true, ↓reduceIte]
                  refine W.widen (k := 10) (n := 168) (Nat.le_of_ble_eq_true rfl) (Nat.le_of_ble_eq_true rfl) ?_
                  exact W.lret hx hb hr (fun t ht hW => ⟨⟨_, w1, rfl, by rw [← e9]; exact ⟨rfl, hG⟩, by rw [← hAe]; exact hD, by rw [ht]; exact hP⟩, by rw [← hAe]; exact hS.F ht⟩) (by rw [← hAe]; exact hS.2.2) dL_act_266
              · skip
                refine lv_iload hx hb dL_act_180 (lv_at hl 4 rfl) ?_
                refine lv_sipush (v := 2200) hx hb dL_act_182 (by decide) ?_
                refine g_callR (v0 := .int (lowV (sh v0 6) 2200)) (va_runS (As := [.int (sh v0 6), .int 2200]) (rest := [.int 0, .ref h]) ⟨hx, hb, hml, hown, hts⟩ (c_L_low l D y s.heap.size (sh v0 6) 2200 (by decide)) (va_cwS 2 hts gL_act_L_low rfl rfl rfl (by decide +kernel) ⟨Nat.le_of_ble_eq_true rfl, Nat.le_of_ble_eq_true rfl⟩) (gP_S hP hD hK [] (by decide) rfl) rfl rfl hl.1 rfl (lv_room (Nat.le_of_ble_eq_true rfl)) dL_act_185 ⟨Nat.le_of_ble_eq_true rfl, Nat.le_of_ble_eq_true rfl⟩) ?_
                refine lv_sipush (v := 1100) hx hb dL_act_188 (by decide) ?_
                refine lv_isub hx hb dL_act_191 ?_
                refine lv_goto (tgt := 231) hx hb dL_act_192 (by decide) ?_
                refine lv_iload_n hx hb dL_act_231 rfl (lv_at hl 6 rfl) ?_
                refine g_beq (tgt := 251) hx hb dL_act_232 (by decide) (fun c_232 => absurd c_177 c_232) (fun c_232 => ?_)
                refine lv_iload hx hb dL_act_235 (lv_at hl 4 rfl) ?_
                refine lv_iconst (v := 4) hx hb dL_act_237 (by decide) ?_
                refine lv_ishr hx hb dL_act_238 ?_
                refine lv_sipush (v := 1100) hx hb dL_act_239 (by decide) ?_
                refine g_callR (v0 := .int (lowV (sh (sh v0 6) 4) 1100)) (va_runS (As := [.int (sh (sh v0 6) 4), .int 1100]) (rest := [.int ((lowV (sh v0 6) 2200) - 1100), .int 0, .ref h]) ⟨hx, hb, hml, hown, hts⟩ (c_L_low l D y s.heap.size (sh (sh v0 6) 4) 1100 (by decide)) (va_cwS 2 hts gL_act_L_low rfl rfl rfl (by decide +kernel) ⟨Nat.le_of_ble_eq_true rfl, Nat.le_of_ble_eq_true rfl⟩) (gP_S hP hD hK [] (by decide) rfl) rfl rfl hl.1 rfl (lv_room (Nat.le_of_ble_eq_true rfl)) dL_act_242 ⟨Nat.le_of_ble_eq_true rfl, Nat.le_of_ble_eq_true rfl⟩) ?_
                refine lv_bipush (v := 20) hx hb dL_act_245 (by decide) ?_
                refine lv_isub hx hb dL_act_247 ?_
                refine lv_goto (tgt := 262) hx hb dL_act_248 (by decide) ?_
                refine lv_iconst (v := 0) hx hb dL_act_262 (by decide) ?_
                refine g_callN (ws := []) (wc := w) (vx_runSW (As := [.ref h, .int 0, .int ((lowV (sh v0 6) 2200) - 1100), .int ((lowV (sh (sh v0 6) 4) 1100) - 20), .int 0]) (rest := []) ⟨hx, hb, hml, hown, hts⟩ (e_ratio l hfl D y ad hS9 hw ((lowV (sh v0 6) 2200) - 1100) ((lowV (sh (sh v0 6) 4) 1100) - 20) 0 s.heap.size) (vx_cwSW 5 hts gL_act_L_does rfl rfl rfl (by decide +kernel) ⟨Nat.le_of_ble_eq_true rfl, Nat.le_of_ble_eq_true rfl⟩) (gPN_SA hP hD hK hE hN hS hA) rfl rfl hl.1 rfl (lv_room (Nat.le_of_ble_eq_true rfl)) dL_act_263 ⟨Nat.le_of_ble_eq_true rfl, Nat.le_of_ble_eq_true rfl⟩) hP hD hS hA (fun v9 w1 H locs hf hP hD hS => ?_)
                obtain ⟨rfl, hG⟩ := hf
                have e9 : dRat S ((lowV (sh v0 6) 2200) - 1100) ((lowV (sh (sh v0 6) 4) 1100) - 20) = aAct S v0 e0 := by simp only [aAct, aHi, aMid, aMk, aZero, aR1, aR2, aD6, aD8, aC, c_165, c_171, c_177, Bool.false_eq_true, ↓reduceIte]
                refine W.widen (k := 10) (n := 168) (Nat.le_of_ble_eq_true rfl) (Nat.le_of_ble_eq_true rfl) ?_
                exact W.lret hx hb hr (fun t ht hW => ⟨⟨_, w1, rfl, by rw [← e9]; exact ⟨rfl, hG⟩, by rw [← hAe]; exact hD, by rw [ht]; exact hP⟩, by rw [← hAe]; exact hS.F ht⟩) (by rw [← hAe]; exact hS.2.2) dL_act_266
        · skip
          refine lv_iload_n hx hb dL_act_110 rfl (lv_at hl 5 rfl) ?_
          refine g_beq (tgt := 128) hx hb dL_act_111 (by decide) (fun c_111 => ?_) (fun c_111 => ?_)
          · skip
            refine lv_iload hx hb dL_act_128 (lv_at hl 3 rfl) ?_
            refine lv_bipush (v := 9) hx hb dL_act_130 (by decide) ?_
            refine lv_ishr hx hb dL_act_132 ?_
            refine lv_iconst (v := 3) hx hb dL_act_133 (by decide) ?_
            refine lv_iand hx hb dL_act_134 ?_
            refine lv_if_ne (tgt := 150) hx hb dL_act_135 (by decide) (fun c_135 => ?_) (fun c_135 => ?_)
            · skip
              refine lv_iload hx hb dL_act_150 (lv_at hl 3 rfl) ?_
              refine lv_iconst (v := 5) hx hb dL_act_152 (by decide) ?_
              refine lv_ishr hx hb dL_act_153 ?_
              refine lv_bipush (v := 12) hx hb dL_act_154 (by decide) ?_
              refine g_callR (v0 := .int (lowV (sh (sh v0 6) 5) 12)) (va_runS (As := [.int (sh (sh v0 6) 5), .int 12]) (rest := []) ⟨hx, hb, hml, hown, hts⟩ (c_L_low l D y s.heap.size (sh (sh v0 6) 5) 12 (by decide)) (va_cwS 2 hts gL_act_L_low rfl rfl rfl (by decide +kernel) ⟨Nat.le_of_ble_eq_true rfl, Nat.le_of_ble_eq_true rfl⟩) (gP_S hP hD hK [] (by decide) rfl) rfl rfl hl.1 rfl (lv_room (Nat.le_of_ble_eq_true rfl)) dL_act_156 ⟨Nat.le_of_ble_eq_true rfl, Nat.le_of_ble_eq_true rfl⟩) ?_
              refine g_topi (y := aP v0) (by unfold aP; rw [if_neg c_111, if_neg c_135]) ?_
              exact K
            · skip
              refine lv_iload hx hb dL_act_138 (lv_at hl 3 rfl) ?_
              refine lv_iconst (v := 5) hx hb dL_act_140 (by decide) ?_
              refine lv_ishr hx hb dL_act_141 ?_
              refine lv_bipush (v := 25) hx hb dL_act_142 (by decide) ?_
              refine g_callR (v0 := .int (lowV (sh (sh v0 6) 5) 25)) (va_runS (As := [.int (sh (sh v0 6) 5), .int 25]) (rest := []) ⟨hx, hb, hml, hown, hts⟩ (c_L_low l D y s.heap.size (sh (sh v0 6) 5) 25 (by decide)) (va_cwS 2 hts gL_act_L_low rfl rfl rfl (by decide +kernel) ⟨Nat.le_of_ble_eq_true rfl, Nat.le_of_ble_eq_true rfl⟩) (gP_S hP hD hK [] (by decide) rfl) rfl rfl hl.1 rfl (lv_room (Nat.le_of_ble_eq_true rfl)) dL_act_144 ⟨Nat.le_of_ble_eq_true rfl, Nat.le_of_ble_eq_true rfl⟩) ?_
              refine lv_goto (tgt := 159) hx hb dL_act_147 (by decide) ?_
              refine g_topi (y := aP v0) (by unfold aP; rw [if_neg c_111, if_pos c_135]) ?_
              exact K
          · skip
            refine lv_iload hx hb dL_act_114 (lv_at hl 3 rfl) ?_
            refine lv_iconst (v := 5) hx hb dL_act_116 (by decide) ?_
            refine lv_ishr hx hb dL_act_117 ?_
            refine lv_bipush (v := 28) hx hb dL_act_118 (by decide) ?_
            refine g_callR (v0 := .int (lowV (sh (sh v0 6) 5) 28)) (va_runS (As := [.int (sh (sh v0 6) 5), .int 28]) (rest := []) ⟨hx, hb, hml, hown, hts⟩ (c_L_low l D y s.heap.size (sh (sh v0 6) 5) 28 (by decide)) (va_cwS 2 hts gL_act_L_low rfl rfl rfl (by decide +kernel) ⟨Nat.le_of_ble_eq_true rfl, Nat.le_of_ble_eq_true rfl⟩) (gP_S hP hD hK [] (by decide) rfl) rfl rfl hl.1 rfl (lv_room (Nat.le_of_ble_eq_true rfl)) dL_act_120 ⟨Nat.le_of_ble_eq_true rfl, Nat.le_of_ble_eq_true rfl⟩) ?_
            refine lv_iconst (v := 1) hx hb dL_act_123 (by decide) ?_
            refine lv_isub hx hb dL_act_124 ?_
            refine lv_goto (tgt := 159) hx hb dL_act_125 (by decide) ?_
            refine g_topi (y := aP v0) (by unfold aP; rw [if_pos c_111]) ?_
            exact K
      · skip
        refine lv_iload_n hx hb dL_act_72 rfl (lv_at hl 4 rfl) ?_
        refine g_beq (tgt := 90) hx hb dL_act_73 (by decide) (fun c_73 => ?_) (fun c_73 => ?_)
        · skip
          refine lv_iload hx hb dL_act_90 (lv_at hl 1 rfl) ?_
          refine lv_if_ne (tgt := 99) hx hb dL_act_92 (by decide) (fun c_92 => ?_) (fun c_92 => ?_)
          · skip
            refine lv_iload hx hb dL_act_99 (lv_at hl 2 rfl) ?_
            refine lv_iconst (v := 3) hx hb dL_act_101 (by decide) ?_
            refine lv_ishr hx hb dL_act_102 ?_
            refine lv_iload hx hb dL_act_103 (lv_at hl 1 rfl) ?_
            refine g_callR (v0 := .int (lowV (sh (sh v0 6) 3) (nI (sN S)))) (va_runS (As := [.int (sh (sh v0 6) 3), .int (nI (sN S))]) (rest := []) ⟨hx, hb, hml, hown, hts⟩ (c_L_low l D y s.heap.size (sh (sh v0 6) 3) (nI (sN S)) (c_92)) (va_cwS 2 hts gL_act_L_low rfl rfl rfl (by decide +kernel) ⟨Nat.le_of_ble_eq_true rfl, Nat.le_of_ble_eq_true rfl⟩) (gP_S hP hD hK [] (by decide) rfl) rfl rfl hl.1 rfl (lv_room (Nat.le_of_ble_eq_true rfl)) dL_act_105 ⟨Nat.le_of_ble_eq_true rfl, Nat.le_of_ble_eq_true rfl⟩) ?_
            refine g_topi (y := aB (sN S) v0) (by unfold aB; rw [if_neg c_73, if_neg c_92]) ?_
            exact K
          · skip
            refine lv_iconst (v := 0) hx hb dL_act_95 (by decide) ?_
            refine lv_goto (tgt := 108) hx hb dL_act_96 (by decide) ?_
            refine g_topi (y := aB (sN S) v0) (by unfold aB; rw [if_neg c_73, if_pos c_92]) ?_
            exact K
        · skip
          refine lv_iload hx hb dL_act_76 (lv_at hl 2 rfl) ?_
          refine lv_iconst (v := 3) hx hb dL_act_78 (by decide) ?_
          refine lv_ishr hx hb dL_act_79 ?_
          refine lv_bipush (v := 44) hx hb dL_act_80 (by decide) ?_
          refine g_callR (v0 := .int (lowV (sh (sh v0 6) 3) 44)) (va_runS (As := [.int (sh (sh v0 6) 3), .int 44]) (rest := []) ⟨hx, hb, hml, hown, hts⟩ (c_L_low l D y s.heap.size (sh (sh v0 6) 3) 44 (by decide)) (va_cwS 2 hts gL_act_L_low rfl rfl rfl (by decide +kernel) ⟨Nat.le_of_ble_eq_true rfl, Nat.le_of_ble_eq_true rfl⟩) (gP_S hP hD hK [] (by decide) rfl) rfl rfl hl.1 rfl (lv_room (Nat.le_of_ble_eq_true rfl)) dL_act_82 ⟨Nat.le_of_ble_eq_true rfl, Nat.le_of_ble_eq_true rfl⟩) ?_
          refine lv_iconst (v := 2) hx hb dL_act_85 (by decide) ?_
          refine lv_isub hx hb dL_act_86 ?_
          refine lv_goto (tgt := 108) hx hb dL_act_87 (by decide) ?_
          refine g_topi (y := aB (sN S) v0) (by unfold aB; rw [if_pos c_73]) ?_
          exact K
    · skip
      refine lv_iload_n hx hb dL_act_38 rfl (lv_at hl 3 rfl) ?_
      refine g_beq (tgt := 54) hx hb dL_act_39 (by decide) (fun c_39 => ?_) (fun c_39 => ?_)
      · skip
        refine lv_iload hx hb dL_act_54 (lv_at hl 0 rfl) ?_
        refine lv_if_ne (tgt := 63) hx hb dL_act_56 (by decide) (fun c_56 => ?_) (fun c_56 => ?_)
        · skip
          refine lv_iload hx hb dL_act_63 (lv_at hl 1 rfl) ?_
          refine lv_iload hx hb dL_act_65 (lv_at hl 0 rfl) ?_
          refine g_callR (v0 := .int (lowV (sh v0 6) (nI (sN S)))) (va_runS (As := [.int (sh v0 6), .int (nI (sN S))]) (rest := []) ⟨hx, hb, hml, hown, hts⟩ (c_L_low l D y s.heap.size (sh v0 6) (nI (sN S)) (c_56)) (va_cwS 2 hts gL_act_L_low rfl rfl rfl (by decide +kernel) ⟨Nat.le_of_ble_eq_true rfl, Nat.le_of_ble_eq_true rfl⟩) (gP_S hP hD hK [] (by decide) rfl) rfl rfl hl.1 rfl (lv_room (Nat.le_of_ble_eq_true rfl)) dL_act_67 ⟨Nat.le_of_ble_eq_true rfl, Nat.le_of_ble_eq_true rfl⟩) ?_
          refine g_topi (y := aA (sN S) v0) (by unfold aA; rw [if_neg c_39, if_neg c_56]) ?_
          exact K
        · skip
          refine lv_iconst (v := 0) hx hb dL_act_59 (by decide) ?_
          refine lv_goto (tgt := 70) hx hb dL_act_60 (by decide) ?_
          refine g_topi (y := aA (sN S) v0) (by unfold aA; rw [if_neg c_39, if_pos c_56]) ?_
          exact K
      · skip
        refine lv_iload hx hb dL_act_42 (lv_at hl 1 rfl) ?_
        refine lv_bipush (v := 44) hx hb dL_act_44 (by decide) ?_
        refine g_callR (v0 := .int (lowV (sh v0 6) 44)) (va_runS (As := [.int (sh v0 6), .int 44]) (rest := []) ⟨hx, hb, hml, hown, hts⟩ (c_L_low l D y s.heap.size (sh v0 6) 44 (by decide)) (va_cwS 2 hts gL_act_L_low rfl rfl rfl (by decide +kernel) ⟨Nat.le_of_ble_eq_true rfl, Nat.le_of_ble_eq_true rfl⟩) (gP_S hP hD hK [] (by decide) rfl) rfl rfl hl.1 rfl (lv_room (Nat.le_of_ble_eq_true rfl)) dL_act_46 ⟨Nat.le_of_ble_eq_true rfl, Nat.le_of_ble_eq_true rfl⟩) ?_
        refine lv_iconst (v := 2) hx hb dL_act_49 (by decide) ?_
        refine lv_isub hx hb dL_act_50 ?_
        refine lv_goto (tgt := 70) hx hb dL_act_51 (by decide) ?_
        refine g_topi (y := aA (sN S) v0) (by unfold aA; rw [if_pos c_39]) ?_
        exact K
  · skip
    refine lv_iload_n hx hb dL_act_0 rfl (lv_at hl 1 rfl) ?_
    refine lv_bipush (v := 18) hx hb dL_act_1 (by decide) ?_
    refine lv_ishr hx hb dL_act_3 ?_
    refine lv_bipush (v := 7) hx hb dL_act_4 (by decide) ?_
    refine lv_iand hx hb dL_act_6 ?_
    refine lv_bipush (v := 7) hx hb dL_act_7 (by decide) ?_
    refine lv_icmp_ne (tgt := 16) hx hb dL_act_9 (by decide) (fun c_9 => ?_) (fun c_9 => ?_)
    · skip
      refine lv_iconst (v := 0) hx hb dL_act_16 (by decide) ?_
      refine g_topi (y := gB (aOdd v0)) (by unfold aOdd; rw [decide_eq_false c_9]; rfl) ?_
      exact K
    · skip
      refine lv_iconst (v := 1) hx hb dL_act_12 (by decide) ?_
      refine lv_goto (tgt := 17) hx hb dL_act_13 (by decide) ?_
      refine g_topi (y := gB (aOdd v0)) (by unfold aOdd; rw [decide_eq_true c_9]; rfl) ?_
      exact K
