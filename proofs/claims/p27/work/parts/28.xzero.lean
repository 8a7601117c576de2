def skX (f : Int64 → Int32) (sl : Int32) : Nat → Int64 → Int64 → Int64 × Int64
  | 0, lo, hi => (lo, hi)
  | n + 1, lo, hi => if hi - lo ≤ 1 then (lo, hi) else skX f sl n (if f (lo + (hi - lo) / 2) = 0 then lo + (hi - lo) / 2 else if f (lo + (hi - lo) / 2) = sl then lo + (hi - lo) / 2 else lo) (if f (lo + (hi - lo) / 2) = sl then hi else lo + (hi - lo) / 2)
def skL (fr : Int32) (m : Nat) : Int64 := fr.toInt64 * sp_X7_unitsAt (nI m)
def skR (pa pb pc0 pd : Int64) (fr : Int32) (u m : Nat) : Int64 × Int64 := skX (fun x => sp_X4_signAt pa pb pc0 pd x (nI m)) (sp_X4_signAt pa pb pc0 pd (skL fr m) (nI m)) (m + u) (skL fr m) (skL fr m + jshl (sp_X7_unitsAt (nI m)) (nI u))
def fzX (pa pb pc0 pd : Int64) (fr : Int32) (u p : Nat) : Bool × Int64 × Int64 := (true, (skR pa pb pc0 pd fr u (min p 16)).1 * sp_X7_unitsAt (nI p - nI (min p 16)), (skR pa pb pc0 pd fr u (min p 16)).2 * sp_X7_unitsAt (nI p - nI (min p 16)))
theorem g_min {p : Nat} (h : p < 25) : (if (16 : Int32) < nI p then 16 else nI p) = nI (min p 16) := by
  have h2 : ∀ p : Fin 25, (if (16 : Int32) < nI p.val then 16 else nI p.val) = nI (min p.val 16) := by decide
  exact h2 ⟨p, h⟩
theorem in_X7_findZero_X7 : ∀ w ∈ wsX70, w ∈ wsX7_findZero := fun _ h => List.mem_cons_of_mem _ (List.mem_append_left _ (List.mem_append_left _ (List.mem_append_right _ h)))
set_option maxHeartbeats 4000000 in
set_option maxRecDepth 100000 in
theorem c_X7_findZero (l : Launch) (D : va_G) (y : Nat → ClassId) (sz : Nat) (h0 g0 nn g1 g2 g3 g4 g8 g9 : Nat) (b1 : Bool) (l1 r1 : Int64) (h1 : Nat) (pa pb pc0 pd : Int64) (fr : Int32) (u p : Nat) (hp : p < 25) (hu : u < 3) : Met l yX7_findZero wsX7_findZero ({ frames := 2, cells := 0, slots := 0, locals := 48 } : Room) (gP D y [.ref h0, .ref h1, .int fr, .int (nI u), .int (nI p)] [(h0, .inr (5, [.ref g0, .int (nI nn), .ref g1, .ref g2, .ref g3, .ref g4, .ref g8, .ref g9])), (g1, .inr (1, [.int (gB b1), .long l1, .long r1])), (h1, .inr (2, [.long pa, .long pb, .long pc0, .long pd]))] sz) (gQ D [(h0, .inr (5, [.ref g0, .int (nI nn), .ref g1, .ref g2, .ref g3, .ref g4, .ref g8, .ref g9])), (g1, .inr (1, [.int (gB b1), .long l1, .long r1])), (h1, .inr (2, [.long pa, .long pb, .long pc0, .long pd]))] (gF none [(h0, .inr (5, [.ref g0, .int (nI nn), .ref g1, .ref g2, .ref g3, .ref g4, .ref g8, .ref g9])), (g1, .inr (1, [.int (gB true), .long ((fzX pa pb pc0 pd fr u p).2.1), .long ((fzX pa pb pc0 pd fr u p).2.2)])), (h1, .inr (2, [.long pa, .long pb, .long pc0, .long pd]))])) 0 0 (va_A [(h0, .inr (5, [.ref g0, .int (nI nn), .ref g1, .ref g2, .ref g3, .ref g4, .ref g8, .ref g9])), (g1, .inr (1, [.int (gB b1), .long l1, .long r1])), (h1, .inr (2, [.long pa, .long pb, .long pc0, .long pd]))] sz) := by
  refine Met.ofW (cc := cX7_findZero) (maxL := 15) (ret := none) (by decide) rfl ?_
  intro pg e s m args below meth c s₁ B hml hv
  obtain ⟨rfl, hsz, hP, hK, hD0⟩ := hv
  have hx := B.exec
  have hb := B.bytes
  have hr := B.returns
  have hts := atoms_spec (ws := wsX7_findZero) B.pre
  have hown : s.vm.findClass RX7 = some m.cls := findClass_of_methodNamed B.named
  have hlocks := B.notSynchronized
  subst hsz
  obtain ⟨A, hAe⟩ : ∃ A : Nat → Prop, A = va_A [(h0, .inr (5, [.ref g0, .int (nI nn), .ref g1, .ref g2, .ref g3, .ref g4, .ref g8, .ref g9])), (g1, .inr (1, [.int (gB b1), .long l1, .long r1])), (h1, .inr (2, [.long pa, .long pb, .long pc0, .long pd]))] s.heap.size := ⟨_, rfl⟩
  have hD : va_D A [(h0, .inr (5, [.ref g0, .int (nI nn), .ref g1, .ref g2, .ref g3, .ref g4, .ref g8, .ref g9])), (g1, .inr (1, [.int (gB b1), .long l1, .long r1])), (h1, .inr (2, [.long pa, .long pb, .long pc0, .long pd]))] := by rw [hAe]; exact hD0.self (sz := s.heap.size)
  have hA : ∀ q : Nat, s.heap.size ≤ q → A q := fun q h => by rw [hAe]; exact Or.inr h
  have hS : va_S A s.heap s.heap [] := va_S.rf
  have hl := lv_entry ([.ref h0, .ref h1, .int fr, .int (nI u), .int (nI p)]) (n := 15) (Nat.le_of_ble_eq_true rfl)
  rw [lg_entry_eq]
  generalize (lg_sl ([.ref h0, .ref h1, .int fr, .int (nI u), .int (nI p)]) ++ List.replicate (15 - (lg_sl ([.ref h0, .ref h1, .int fr, .int (nI u), .int (nI p)])).length) Slot.unset).toArray = ls at hl ⊢
  have hl : lv_has ls 15 [(0, .ref h0), (1, .ref h1), (2, .int fr), (3, .int (nI u)), (4, .int (nI p))] := hl
  refine lv_iload hx hb dX7_findZero_0 (lv_at hl 4 rfl) ?_
  refine lv_bipush (v := 16) hx hb dX7_findZero_2 (by decide) ?_
  refine va_mmin (rest := []) hx hb (hml.trans hl.1.symm) hown (hts (.methodLink RX7 297 Lib.Math.min.name) (List.mem_of_getElem? (i := 1) rfl)) (hts (.static Lib.Math.min.name) (List.mem_of_getElem? (i := 2) rfl)) (hts (.initialized "java/lang/Math") (List.mem_of_getElem? (i := 3) rfl)) (hts (.code Lib.Math.min.name Lib.Math.min.code 2 (some .int)) (List.mem_of_getElem? (i := 4) rfl)) (Nat.le_of_ble_eq_true rfl) (Nat.le_of_ble_eq_true rfl) (Nat.zero_le _) (Nat.zero_le _) dX7_findZero_4 ?_
  refine g_topi (y := nI (min p 16)) (g_min hp) ?_
  refine lv_istore (lv' := [(5, .int (nI (min p 16))), (0, .ref h0), (1, .ref h1), (2, .int fr), (3, .int (nI u)), (4, .int (nI p))]) hx hb dX7_findZero_7 hl (by decide) rfl (fun ls hl => ?_)
  refine lv_iload_n hx hb dX7_findZero_9 rfl (lv_at hl 3 rfl) ?_
  refine lv_i2l (v := fr.toInt64) hx hb dX7_findZero_10 rfl ?_
  refine lv_iload hx hb dX7_findZero_11 (lv_at hl 0 rfl) ?_
  refine g_callR (v0 := .long (sp_X7_unitsAt (nI (min p 16)))) (va_runS (As := [.int (nI (min p 16))]) (rest := [.long fr.toInt64]) ⟨hx, hb, hml, hown, hts⟩ (c_X7_unitsAt l D y s.heap.size (nI (min p 16))) (va_cwS 1 hts gX7_findZero_X7_unitsAt rfl rfl rfl (by decide +kernel) ⟨Nat.le_of_ble_eq_true rfl, Nat.le_of_ble_eq_true rfl⟩) (gP_S hP hD hK [] (by decide) rfl) rfl rfl hl.1 rfl (lv_room (Nat.le_of_ble_eq_true rfl)) dX7_findZero_13 ⟨Nat.zero_le _, Nat.zero_le _⟩) ?_
  refine lv_lmul hx hb dX7_findZero_16 ?_
  refine g_topl (y := skL fr (min p 16)) (rfl) ?_
  refine lv_lstore (lv' := [(6, .long (skL fr (min p 16))), (5, .int (nI (min p 16))), (0, .ref h0), (1, .ref h1), (2, .int fr), (3, .int (nI u)), (4, .int (nI p))]) hx hb dX7_findZero_17 hl (by decide) rfl (fun ls hl => ?_)
  refine lv_lload hx hb dX7_findZero_19 (lv_at hl 0 rfl) ?_
  refine lv_iload hx hb dX7_findZero_21 (lv_at hl 1 rfl) ?_
  refine g_callR (v0 := .long (sp_X7_unitsAt (nI (min p 16)))) (va_runS (As := [.int (nI (min p 16))]) (rest := [.long (skL fr (min p 16))]) ⟨hx, hb, hml, hown, hts⟩ (c_X7_unitsAt l D y s.heap.size (nI (min p 16))) (va_cwS 1 hts gX7_findZero_X7_unitsAt rfl rfl rfl (by decide +kernel) ⟨Nat.le_of_ble_eq_true rfl, Nat.le_of_ble_eq_true rfl⟩) (gP_S hP hD hK [] (by decide) rfl) rfl rfl hl.1 rfl (lv_room (Nat.le_of_ble_eq_true rfl)) dX7_findZero_23 ⟨Nat.zero_le _, Nat.zero_le _⟩) ?_
  refine lv_iload_n hx hb dX7_findZero_26 rfl (lv_at hl 5 rfl) ?_
  refine lv_lshl (v := jshl (sp_X7_unitsAt (nI (min p 16))) (nI u)) hx hb dX7_findZero_27 rfl ?_
  refine lv_ladd hx hb dX7_findZero_28 ?_
  refine lv_lstore (lv' := [(8, .long ((skL fr (min p 16)) + (jshl (sp_X7_unitsAt (nI (min p 16))) (nI u)))), (6, .long (skL fr (min p 16))), (5, .int (nI (min p 16))), (0, .ref h0), (1, .ref h1), (2, .int fr), (3, .int (nI u)), (4, .int (nI p))]) hx hb dX7_findZero_29 hl (by decide) rfl (fun ls hl => ?_)
  refine lv_aload_n hx hb dX7_findZero_31 rfl (lv_at hl 4 rfl) ?_
  refine lv_lload hx hb dX7_findZero_32 (lv_at hl 1 rfl) ?_
  refine lv_iload hx hb dX7_findZero_34 (lv_at hl 2 rfl) ?_
  refine g_callR (v0 := .int (sp_X4_signAt pa pb pc0 pd (skL fr (min p 16)) (nI (min p 16)))) (va_runV (As := [.long (skL fr (min p 16)), .int (nI (min p 16))]) (rest := []) ⟨hx, hb, hml, hown, hts⟩ (c_X4_signAt l D y s.heap.size h1 pa pb pc0 pd (skL fr (min p 16)) (nI (min p 16))) (cwV 2 hts gX7_findZero_X4_signAt rfl rfl rfl (by decide +kernel) ⟨Nat.le_of_ble_eq_true rfl, Nat.le_of_ble_eq_true rfl⟩) (gP_V hP hD hK [2] (by decide) rfl 2 rfl rfl) rfl rfl hl.1 rfl (lv_room (Nat.le_of_ble_eq_true rfl)) dX7_findZero_36 ⟨Nat.zero_le _, Nat.zero_le _⟩) ?_
  refine lv_istore (lv' := [(10, .int (sp_X4_signAt pa pb pc0 pd (skL fr (min p 16)) (nI (min p 16)))), (8, .long ((skL fr (min p 16)) + (jshl (sp_X7_unitsAt (nI (min p 16))) (nI u)))), (6, .long (skL fr (min p 16))), (5, .int (nI (min p 16))), (0, .ref h0), (1, .ref h1), (2, .int fr), (3, .int (nI u)), (4, .int (nI p))]) hx hb dX7_findZero_39 hl (by decide) rfl (fun ls hl => ?_)
  refine lv_iconst (v := 0) hx hb dX7_findZero_41 (by decide) ?_
  refine lv_istore (lv' := [(11, .int 0), (10, .int (sp_X4_signAt pa pb pc0 pd (skL fr (min p 16)) (nI (min p 16)))), (8, .long ((skL fr (min p 16)) + (jshl (sp_X7_unitsAt (nI (min p 16))) (nI u)))), (6, .long (skL fr (min p 16))), (5, .int (nI (min p 16))), (0, .ref h0), (1, .ref h1), (2, .int fr), (3, .int (nI u)), (4, .int (nI p))]) hx hb dX7_findZero_42 hl (by decide) rfl (fun ls hl => ?_)
  have LOOP44 : ∀ (m9 : Nat) (st : Nat) (xl : Int64) (xh : Int64), (st + m9 = min p 16 + u) → (skX (fun x => sp_X4_signAt pa pb pc0 pd x (nI (min p 16))) (sp_X4_signAt pa pb pc0 pd (skL fr (min p 16)) (nI (min p 16))) m9 xl xh = skR pa pb pc0 pd fr u (min p 16)) → ∀ (H : Heap) (locs : List Loc), va_P D vwCl [(h0, .inr (5, [.ref g0, .int (nI nn), .ref g1, .ref g2, .ref g3, .ref g4, .ref g8, .ref g9])), (g1, .inr (1, [.int (gB b1), .long l1, .long r1])), (h1, .inr (2, [.long pa, .long pb, .long pc0, .long pd]))] H → va_D A [(h0, .inr (5, [.ref g0, .int (nI nn), .ref g1, .ref g2, .ref g3, .ref g4, .ref g8, .ref g9])), (g1, .inr (1, [.int (gB b1), .long l1, .long r1])), (h1, .inr (2, [.long pa, .long pb, .long pc0, .long pd]))] → va_S A s.heap H locs → ∀ (ls : Array Slot), lv_has ls 15 [(0, .ref h0), (1, .ref h1), (2, .int fr), (3, .int (nI u)), (4, .int (nI p)), (5, .int (nI (min p 16))), (6, .long xl), (8, .long xh), (10, .int (sp_X4_signAt pa pb pc0 pd (skL fr (min p 16)) (nI (min p 16)))), (11, .int (nI st))] → W pg l e (headSpec wsX7_findZero ({ frames := 2, cells := 0, slots := 0, locals := 48 } : Room)).room s m (([.ref h0, .ref h1, .int fr, .int (nI u), .int (nI p)] : List Value).toArray) below meth c H locs 0 0 (MQ below (gQ D [(h0, .inr (5, [.ref g0, .int (nI nn), .ref g1, .ref g2, .ref g3, .ref g4, .ref g8, .ref g9])), (g1, .inr (1, [.int (gB b1), .long l1, .long r1])), (h1, .inr (2, [.long pa, .long pb, .long pc0, .long pd]))] (gF none [(h0, .inr (5, [.ref g0, .int (nI nn), .ref g1, .ref g2, .ref g3, .ref g4, .ref g8, .ref g9])), (g1, .inr (1, [.int (gB true), .long ((fzX pa pb pc0 pd fr u p).2.1), .long ((fzX pa pb pc0 pd fr u p).2.2)])), (h1, .inr (2, [.long pa, .long pb, .long pc0, .long pd]))])) (([.ref h0, .ref h1, .int fr, .int (nI u), .int (nI p)] : List Value).toArray) s 0 0 (va_A [(h0, .inr (5, [.ref g0, .int (nI nn), .ref g1, .ref g2, .ref g3, .ref g4, .ref g8, .ref g9])), (g1, .inr (1, [.int (gB b1), .long l1, .long r1])), (h1, .inr (2, [.long pa, .long pb, .long pc0, .long pd]))] s.heap.size)) (F0 m 44 ls []) := by
    intro m9
    induction m9 with
    | zero =>
      intro st xl xh hst hF H locs hP hD hS ls hl
      refine lv_iload hx hb dX7_findZero_44 (lv_at hl 9 rfl) ?_
      refine lv_iload hx hb dX7_findZero_46 (lv_at hl 5 rfl) ?_
      refine lv_iload_n hx hb dX7_findZero_48 rfl (lv_at hl 3 rfl) ?_
      refine lv_iadd hx hb dX7_findZero_49 ?_
      refine g_topi (nI_add (min p 16) u) ?_
      refine lv_icmp_ge (tgt := 120) hx hb dX7_findZero_50 (by decide) (fun c_50 => ?_) (fun c_50 => absurd (nI_le (by omega) (by omega)) c_50)
      have hR9 : (xl, xh) = skR pa pb pc0 pd fr u (min p 16) := hF
      have e1 : xl = (skR pa pb pc0 pd fr u (min p 16)).1 := congrArg Prod.fst hR9
      have e2 : xh = (skR pa pb pc0 pd fr u (min p 16)).2 := congrArg Prod.snd hR9
      rw [e1, e2] at hl
      refine lv_iload hx hb dX7_findZero_120 (lv_at hl 4 rfl) ?_
      refine lv_iload hx hb dX7_findZero_122 (lv_at hl 5 rfl) ?_
      refine lv_isub hx hb dX7_findZero_124 ?_
      refine g_callR (v0 := .long (sp_X7_unitsAt ((nI p) - (nI (min p 16))))) (va_runS (As := [.int ((nI p) - (nI (min p 16)))]) (rest := []) ⟨hx, hb, hml, hown, hts⟩ (c_X7_unitsAt l D y H.size ((nI p) - (nI (min p 16)))) (va_cwS 1 hts gX7_findZero_X7_unitsAt rfl rfl rfl (by decide +kernel) ⟨Nat.le_of_ble_eq_true rfl, Nat.le_of_ble_eq_true rfl⟩) (gP_S hP hD hK [] (by decide) rfl) rfl rfl hl.1 rfl (lv_room (Nat.le_of_ble_eq_true rfl)) dX7_findZero_125 ⟨Nat.zero_le _, Nat.zero_le _⟩) ?_
      refine lv_lstore (lv' := [(11, .long (sp_X7_unitsAt ((nI p) - (nI (min p 16))))), (0, .ref h0), (1, .ref h1), (2, .int fr), (3, .int (nI u)), (4, .int (nI p)), (5, .int (nI (min p 16))), (6, .long ((skR pa pb pc0 pd fr u (min p 16)).1)), (8, .long ((skR pa pb pc0 pd fr u (min p 16)).2)), (10, .int (sp_X4_signAt pa pb pc0 pd (skL fr (min p 16)) (nI (min p 16))))]) hx hb dX7_findZero_128 hl (by decide) rfl (fun ls hl => ?_)
      refine lv_aload_n hx hb dX7_findZero_130 rfl (lv_at hl 1 rfl) ?_
      refine va_get (D := D) (ci := 5) (v := .ref g1) (C := RX7) (T := TX7) (N := 8) hx hb hts in_X7_findZero_X7 hown hK.1 hP 0 rfl rfl 2 (by decide) (hts (.fieldLink RX7 22 "Nestlimit" "answer" "LNestlimit$Interval;") (List.mem_of_getElem? (i := 6) rfl)) (fun _ h9 => h9) rfl dX7_findZero_131 ?_
      refine lv_lload hx hb dX7_findZero_134 (lv_at hl 7 rfl) ?_
      refine lv_lload hx hb dX7_findZero_136 (lv_at hl 0 rfl) ?_
      refine lv_lmul hx hb dX7_findZero_138 ?_
      refine lv_lload hx hb dX7_findZero_139 (lv_at hl 8 rfl) ?_
      refine lv_lload hx hb dX7_findZero_141 (lv_at hl 0 rfl) ?_
      refine lv_lmul hx hb dX7_findZero_143 ?_
      refine g_callv (va_runV (As := [.long (((skR pa pb pc0 pd fr u (min p 16)).1) * (sp_X7_unitsAt ((nI p) - (nI (min p 16))))), .long (((skR pa pb pc0 pd fr u (min p 16)).2) * (sp_X7_unitsAt ((nI p) - (nI (min p 16)))))]) (rest := []) ⟨hx, hb, hml, hown, hts⟩ (c_X2_assign l D y H.size g1 b1 l1 r1 (((skR pa pb pc0 pd fr u (min p 16)).1) * (sp_X7_unitsAt ((nI p) - (nI (min p 16))))) (((skR pa pb pc0 pd fr u (min p 16)).2) * (sp_X7_unitsAt ((nI p) - (nI (min p 16)))))) (cwV 2 hts gX7_findZero_X2_assign rfl rfl rfl (by decide +kernel) ⟨Nat.le_of_ble_eq_true rfl, Nat.le_of_ble_eq_true rfl⟩) (gP_V hP hD hK [1] (by decide) rfl 1 rfl rfl) rfl rfl hl.1 rfl (lv_room (Nat.le_of_ble_eq_true rfl)) dX7_findZero_144 ⟨Nat.zero_le _, Nat.zero_le _⟩) hP hD hS hA [1] rfl (fun H locs hP hD hS => ?_)
      have hP : va_P D vwCl [(h0, .inr (5, [.ref g0, .int (nI nn), .ref g1, .ref g2, .ref g3, .ref g4, .ref g8, .ref g9])), (g1, .inr (1, [.int (gB true), .long (((skR pa pb pc0 pd fr u (min p 16)).1) * (sp_X7_unitsAt ((nI p) - (nI (min p 16))))), .long (((skR pa pb pc0 pd fr u (min p 16)).2) * (sp_X7_unitsAt ((nI p) - (nI (min p 16)))))])), (h1, .inr (2, [.long pa, .long pb, .long pc0, .long pd]))] H := hP
      have hD : va_D A [(h0, .inr (5, [.ref g0, .int (nI nn), .ref g1, .ref g2, .ref g3, .ref g4, .ref g8, .ref g9])), (g1, .inr (1, [.int (gB true), .long (((skR pa pb pc0 pd fr u (min p 16)).1) * (sp_X7_unitsAt ((nI p) - (nI (min p 16))))), .long (((skR pa pb pc0 pd fr u (min p 16)).2) * (sp_X7_unitsAt ((nI p) - (nI (min p 16)))))])), (h1, .inr (2, [.long pa, .long pb, .long pc0, .long pd]))] := hD
      exact W.vret hx hb hr (fun t ht hW => ⟨⟨none, [(h0, .inr (5, [.ref g0, .int (nI nn), .ref g1, .ref g2, .ref g3, .ref g4, .ref g8, .ref g9])), (g1, .inr (1, [.int (gB true), .long (((skR pa pb pc0 pd fr u (min p 16)).1) * (sp_X7_unitsAt ((nI p) - (nI (min p 16))))), .long (((skR pa pb pc0 pd fr u (min p 16)).2) * (sp_X7_unitsAt ((nI p) - (nI (min p 16)))))])), (h1, .inr (2, [.long pa, .long pb, .long pc0, .long pd]))], rfl, ⟨rfl, rfl⟩, rfl, by rw [ht]; exact hP⟩, by rw [← hAe]; exact hS.F ht⟩) (by rw [← hAe]; exact hS.2.2) dX7_findZero_147
    | succ m9 ih44 =>
      intro st xl xh hst hF H locs hP hD hS ls hl
      refine lv_iload hx hb dX7_findZero_44 (lv_at hl 9 rfl) ?_
      refine lv_iload hx hb dX7_findZero_46 (lv_at hl 5 rfl) ?_
      refine lv_iload_n hx hb dX7_findZero_48 rfl (lv_at hl 3 rfl) ?_
      refine lv_iadd hx hb dX7_findZero_49 ?_
      refine g_topi (nI_add (min p 16) u) ?_
      refine lv_icmp_ge (tgt := 120) hx hb dX7_findZero_50 (by decide) (fun c_50 => absurd c_50 (nI_ge (by omega) (by omega))) (fun c_50 => ?_)
      refine lv_lload hx hb dX7_findZero_53 (lv_at hl 7 rfl) ?_
      refine lv_lload hx hb dX7_findZero_55 (lv_at hl 6 rfl) ?_
      refine lv_lsub hx hb dX7_findZero_57 ?_
      refine lv_lconst (v := 1) hx hb dX7_findZero_58 (by decide) ?_
      refine g_le (tgt := 120) hx hb dX7_findZero_59 dX7_findZero_60 (by decide) (fun c_59 => ?_) (fun c_59 => ?_)
      · skip
        have hR9 : (xl, xh) = skR pa pb pc0 pd fr u (min p 16) := by rw [← hF]; show _ = (if _ then _ else _); rw [if_pos c_59]
        have e1 : xl = (skR pa pb pc0 pd fr u (min p 16)).1 := congrArg Prod.fst hR9
        have e2 : xh = (skR pa pb pc0 pd fr u (min p 16)).2 := congrArg Prod.snd hR9
        rw [e1, e2] at hl
        refine lv_iload hx hb dX7_findZero_120 (lv_at hl 4 rfl) ?_
        refine lv_iload hx hb dX7_findZero_122 (lv_at hl 5 rfl) ?_
        refine lv_isub hx hb dX7_findZero_124 ?_
        refine g_callR (v0 := .long (sp_X7_unitsAt ((nI p) - (nI (min p 16))))) (va_runS (As := [.int ((nI p) - (nI (min p 16)))]) (rest := []) ⟨hx, hb, hml, hown, hts⟩ (c_X7_unitsAt l D y H.size ((nI p) - (nI (min p 16)))) (va_cwS 1 hts gX7_findZero_X7_unitsAt rfl rfl rfl (by decide +kernel) ⟨Nat.le_of_ble_eq_true rfl, Nat.le_of_ble_eq_true rfl⟩) (gP_S hP hD hK [] (by decide) rfl) rfl rfl hl.1 rfl (lv_room (Nat.le_of_ble_eq_true rfl)) dX7_findZero_125 ⟨Nat.zero_le _, Nat.zero_le _⟩) ?_
        refine lv_lstore (lv' := [(11, .long (sp_X7_unitsAt ((nI p) - (nI (min p 16))))), (0, .ref h0), (1, .ref h1), (2, .int fr), (3, .int (nI u)), (4, .int (nI p)), (5, .int (nI (min p 16))), (6, .long ((skR pa pb pc0 pd fr u (min p 16)).1)), (8, .long ((skR pa pb pc0 pd fr u (min p 16)).2)), (10, .int (sp_X4_signAt pa pb pc0 pd (skL fr (min p 16)) (nI (min p 16))))]) hx hb dX7_findZero_128 hl (by decide) rfl (fun ls hl => ?_)
        refine lv_aload_n hx hb dX7_findZero_130 rfl (lv_at hl 1 rfl) ?_
        refine va_get (D := D) (ci := 5) (v := .ref g1) (C := RX7) (T := TX7) (N := 8) hx hb hts in_X7_findZero_X7 hown hK.1 hP 0 rfl rfl 2 (by decide) (hts (.fieldLink RX7 22 "Nestlimit" "answer" "LNestlimit$Interval;") (List.mem_of_getElem? (i := 6) rfl)) (fun _ h9 => h9) rfl dX7_findZero_131 ?_
        refine lv_lload hx hb dX7_findZero_134 (lv_at hl 7 rfl) ?_
        refine lv_lload hx hb dX7_findZero_136 (lv_at hl 0 rfl) ?_
        refine lv_lmul hx hb dX7_findZero_138 ?_
        refine lv_lload hx hb dX7_findZero_139 (lv_at hl 8 rfl) ?_
        refine lv_lload hx hb dX7_findZero_141 (lv_at hl 0 rfl) ?_
        refine lv_lmul hx hb dX7_findZero_143 ?_
        refine g_callv (va_runV (As := [.long (((skR pa pb pc0 pd fr u (min p 16)).1) * (sp_X7_unitsAt ((nI p) - (nI (min p 16))))), .long (((skR pa pb pc0 pd fr u (min p 16)).2) * (sp_X7_unitsAt ((nI p) - (nI (min p 16)))))]) (rest := []) ⟨hx, hb, hml, hown, hts⟩ (c_X2_assign l D y H.size g1 b1 l1 r1 (((skR pa pb pc0 pd fr u (min p 16)).1) * (sp_X7_unitsAt ((nI p) - (nI (min p 16))))) (((skR pa pb pc0 pd fr u (min p 16)).2) * (sp_X7_unitsAt ((nI p) - (nI (min p 16)))))) (cwV 2 hts gX7_findZero_X2_assign rfl rfl rfl (by decide +kernel) ⟨Nat.le_of_ble_eq_true rfl, Nat.le_of_ble_eq_true rfl⟩) (gP_V hP hD hK [1] (by decide) rfl 1 rfl rfl) rfl rfl hl.1 rfl (lv_room (Nat.le_of_ble_eq_true rfl)) dX7_findZero_144 ⟨Nat.zero_le _, Nat.zero_le _⟩) hP hD hS hA [1] rfl (fun H locs hP hD hS => ?_)
        have hP : va_P D vwCl [(h0, .inr (5, [.ref g0, .int (nI nn), .ref g1, .ref g2, .ref g3, .ref g4, .ref g8, .ref g9])), (g1, .inr (1, [.int (gB true), .long (((skR pa pb pc0 pd fr u (min p 16)).1) * (sp_X7_unitsAt ((nI p) - (nI (min p 16))))), .long (((skR pa pb pc0 pd fr u (min p 16)).2) * (sp_X7_unitsAt ((nI p) - (nI (min p 16)))))])), (h1, .inr (2, [.long pa, .long pb, .long pc0, .long pd]))] H := hP
        have hD : va_D A [(h0, .inr (5, [.ref g0, .int (nI nn), .ref g1, .ref g2, .ref g3, .ref g4, .ref g8, .ref g9])), (g1, .inr (1, [.int (gB true), .long (((skR pa pb pc0 pd fr u (min p 16)).1) * (sp_X7_unitsAt ((nI p) - (nI (min p 16))))), .long (((skR pa pb pc0 pd fr u (min p 16)).2) * (sp_X7_unitsAt ((nI p) - (nI (min p 16)))))])), (h1, .inr (2, [.long pa, .long pb, .long pc0, .long pd]))] := hD
        exact W.vret hx hb hr (fun t ht hW => ⟨⟨none, [(h0, .inr (5, [.ref g0, .int (nI nn), .ref g1, .ref g2, .ref g3, .ref g4, .ref g8, .ref g9])), (g1, .inr (1, [.int (gB true), .long (((skR pa pb pc0 pd fr u (min p 16)).1) * (sp_X7_unitsAt ((nI p) - (nI (min p 16))))), .long (((skR pa pb pc0 pd fr u (min p 16)).2) * (sp_X7_unitsAt ((nI p) - (nI (min p 16)))))])), (h1, .inr (2, [.long pa, .long pb, .long pc0, .long pd]))], rfl, ⟨rfl, rfl⟩, rfl, by rw [ht]; exact hP⟩, by rw [← hAe]; exact hS.F ht⟩) (by rw [← hAe]; exact hS.2.2) dX7_findZero_147
      · skip
        refine lv_lload hx hb dX7_findZero_63 (lv_at hl 6 rfl) ?_
        refine lv_lload hx hb dX7_findZero_65 (lv_at hl 7 rfl) ?_
        refine lv_lload hx hb dX7_findZero_67 (lv_at hl 6 rfl) ?_
        refine lv_lsub hx hb dX7_findZero_69 ?_
        refine lv_ldc2 (v := 2) hx hb hown (hts (.constantLong RX7 229 (2)) (List.mem_of_getElem? (i := 5) rfl)) dX7_findZero_70 ?_
        refine lv_ldiv hx hb dX7_findZero_73 (by decide) ?_
        refine lv_ladd hx hb dX7_findZero_74 ?_
        refine lv_lstore (lv' := [(12, .long (xl + ((xh - xl) / 2))), (0, .ref h0), (1, .ref h1), (2, .int fr), (3, .int (nI u)), (4, .int (nI p)), (5, .int (nI (min p 16))), (6, .long xl), (8, .long xh), (10, .int (sp_X4_signAt pa pb pc0 pd (skL fr (min p 16)) (nI (min p 16)))), (11, .int (nI st))]) hx hb dX7_findZero_75 hl (by decide) rfl (fun ls hl => ?_)
        refine lv_aload_n hx hb dX7_findZero_77 rfl (lv_at hl 2 rfl) ?_
        refine lv_lload hx hb dX7_findZero_78 (lv_at hl 0 rfl) ?_
        refine lv_iload hx hb dX7_findZero_80 (lv_at hl 6 rfl) ?_
        refine g_callR (v0 := .int (sp_X4_signAt pa pb pc0 pd (xl + ((xh - xl) / 2)) (nI (min p 16)))) (va_runV (As := [.long (xl + ((xh - xl) / 2)), .int (nI (min p 16))]) (rest := []) ⟨hx, hb, hml, hown, hts⟩ (c_X4_signAt l D y H.size h1 pa pb pc0 pd (xl + ((xh - xl) / 2)) (nI (min p 16))) (cwV 2 hts gX7_findZero_X4_signAt rfl rfl rfl (by decide +kernel) ⟨Nat.le_of_ble_eq_true rfl, Nat.le_of_ble_eq_true rfl⟩) (gP_V hP hD hK [2] (by decide) rfl 2 rfl rfl) rfl rfl hl.1 rfl (lv_room (Nat.le_of_ble_eq_true rfl)) dX7_findZero_82 ⟨Nat.zero_le _, Nat.zero_le _⟩) ?_
        refine lv_istore (lv' := [(14, .int (sp_X4_signAt pa pb pc0 pd (xl + ((xh - xl) / 2)) (nI (min p 16)))), (12, .long (xl + ((xh - xl) / 2))), (0, .ref h0), (1, .ref h1), (2, .int fr), (3, .int (nI u)), (4, .int (nI p)), (5, .int (nI (min p 16))), (6, .long xl), (8, .long xh), (10, .int (sp_X4_signAt pa pb pc0 pd (skL fr (min p 16)) (nI (min p 16)))), (11, .int (nI st))]) hx hb dX7_findZero_85 hl (by decide) rfl (fun ls hl => ?_)
        refine lv_iload hx hb dX7_findZero_87 (lv_at hl 0 rfl) ?_
        refine lv_if_eq (tgt := 99) hx hb dX7_findZero_89 (by decide) (fun c_89 => ?_) (fun c_89 => ?_)
        · skip
          refine lv_lload hx hb dX7_findZero_99 (lv_at hl 1 rfl) ?_
          refine lv_lstore (lv' := [(6, .long (xl + ((xh - xl) / 2))), (14, .int (sp_X4_signAt pa pb pc0 pd (xl + ((xh - xl) / 2)) (nI (min p 16)))), (12, .long (xl + ((xh - xl) / 2))), (0, .ref h0), (1, .ref h1), (2, .int fr), (3, .int (nI u)), (4, .int (nI p)), (5, .int (nI (min p 16))), (8, .long xh), (10, .int (sp_X4_signAt pa pb pc0 pd (skL fr (min p 16)) (nI (min p 16)))), (11, .int (nI st))]) hx hb dX7_findZero_101 hl (by decide) rfl (fun ls hl => ?_)
          refine lv_iload hx hb dX7_findZero_103 (lv_at hl 1 rfl) ?_
          refine lv_iload hx hb dX7_findZero_105 (lv_at hl 10 rfl) ?_
          refine lv_icmp_eq (tgt := 114) hx hb dX7_findZero_107 (by decide) (fun c_107 => ?_) (fun c_107 => ?_)
          · skip
            refine lv_iinc (v := nI (st + 1)) (lv' := [(11, .int (nI (st + 1))), (6, .long (xl + ((xh - xl) / 2))), (14, .int (sp_X4_signAt pa pb pc0 pd (xl + ((xh - xl) / 2)) (nI (min p 16)))), (12, .long (xl + ((xh - xl) / 2))), (0, .ref h0), (1, .ref h1), (2, .int fr), (3, .int (nI u)), (4, .int (nI p)), (5, .int (nI (min p 16))), (8, .long xh), (10, .int (sp_X4_signAt pa pb pc0 pd (skL fr (min p 16)) (nI (min p 16))))]) hx hb dX7_findZero_114 hl (k := 11) rfl (nI_add st 1) (by decide) rfl (fun ls hl => ?_)
            refine lv_goto (tgt := 44) hx hb dX7_findZero_117 (by decide) ?_
            exact ih44 (st + 1) (xl + ((xh - xl) / 2)) xh (by omega) (by rw [← hF]; show _ = (if _ then _ else _); rw [if_neg c_59]; simp only [if_pos c_89, if_pos c_107]) _ _ hP hD hS ls (lv_sub hl [4, 5, 6, 7, 8, 9, 1, 10, 11, 0] rfl)
          · skip
            refine lv_lload hx hb dX7_findZero_110 (lv_at hl 2 rfl) ?_
            refine lv_lstore (lv' := [(8, .long (xl + ((xh - xl) / 2))), (6, .long (xl + ((xh - xl) / 2))), (14, .int (sp_X4_signAt pa pb pc0 pd (xl + ((xh - xl) / 2)) (nI (min p 16)))), (12, .long (xl + ((xh - xl) / 2))), (0, .ref h0), (1, .ref h1), (2, .int fr), (3, .int (nI u)), (4, .int (nI p)), (5, .int (nI (min p 16))), (10, .int (sp_X4_signAt pa pb pc0 pd (skL fr (min p 16)) (nI (min p 16)))), (11, .int (nI st))]) hx hb dX7_findZero_112 hl (by decide) rfl (fun ls hl => ?_)
            refine lv_iinc (v := nI (st + 1)) (lv' := [(11, .int (nI (st + 1))), (8, .long (xl + ((xh - xl) / 2))), (6, .long (xl + ((xh - xl) / 2))), (14, .int (sp_X4_signAt pa pb pc0 pd (xl + ((xh - xl) / 2)) (nI (min p 16)))), (12, .long (xl + ((xh - xl) / 2))), (0, .ref h0), (1, .ref h1), (2, .int fr), (3, .int (nI u)), (4, .int (nI p)), (5, .int (nI (min p 16))), (10, .int (sp_X4_signAt pa pb pc0 pd (skL fr (min p 16)) (nI (min p 16))))]) hx hb dX7_findZero_114 hl (k := 11) rfl (nI_add st 1) (by decide) rfl (fun ls hl => ?_)
            refine lv_goto (tgt := 44) hx hb dX7_findZero_117 (by decide) ?_
            exact ih44 (st + 1) (xl + ((xh - xl) / 2)) (xl + ((xh - xl) / 2)) (by omega) (by rw [← hF]; show _ = (if _ then _ else _); rw [if_neg c_59]; simp only [if_pos c_89, if_neg c_107]) _ _ hP hD hS ls (lv_sub hl [5, 6, 7, 8, 9, 10, 2, 1, 11, 0] rfl)
        · skip
          refine lv_iload hx hb dX7_findZero_92 (lv_at hl 0 rfl) ?_
          refine lv_iload hx hb dX7_findZero_94 (lv_at hl 10 rfl) ?_
          refine lv_icmp_ne (tgt := 103) hx hb dX7_findZero_96 (by decide) (fun c_96 => ?_) (fun c_96 => ?_)
          · skip
            refine lv_iload hx hb dX7_findZero_103 (lv_at hl 0 rfl) ?_
            refine lv_iload hx hb dX7_findZero_105 (lv_at hl 10 rfl) ?_
            refine lv_icmp_eq (tgt := 114) hx hb dX7_findZero_107 (by decide) (fun c_107 => absurd c_107 c_96) (fun c_107 => ?_)
            refine lv_lload hx hb dX7_findZero_110 (lv_at hl 1 rfl) ?_
            refine lv_lstore (lv' := [(8, .long (xl + ((xh - xl) / 2))), (14, .int (sp_X4_signAt pa pb pc0 pd (xl + ((xh - xl) / 2)) (nI (min p 16)))), (12, .long (xl + ((xh - xl) / 2))), (0, .ref h0), (1, .ref h1), (2, .int fr), (3, .int (nI u)), (4, .int (nI p)), (5, .int (nI (min p 16))), (6, .long xl), (10, .int (sp_X4_signAt pa pb pc0 pd (skL fr (min p 16)) (nI (min p 16)))), (11, .int (nI st))]) hx hb dX7_findZero_112 hl (by decide) rfl (fun ls hl => ?_)
            refine lv_iinc (v := nI (st + 1)) (lv' := [(11, .int (nI (st + 1))), (8, .long (xl + ((xh - xl) / 2))), (14, .int (sp_X4_signAt pa pb pc0 pd (xl + ((xh - xl) / 2)) (nI (min p 16)))), (12, .long (xl + ((xh - xl) / 2))), (0, .ref h0), (1, .ref h1), (2, .int fr), (3, .int (nI u)), (4, .int (nI p)), (5, .int (nI (min p 16))), (6, .long xl), (10, .int (sp_X4_signAt pa pb pc0 pd (skL fr (min p 16)) (nI (min p 16))))]) hx hb dX7_findZero_114 hl (k := 11) rfl (nI_add st 1) (by decide) rfl (fun ls hl => ?_)
            refine lv_goto (tgt := 44) hx hb dX7_findZero_117 (by decide) ?_
            exact ih44 (st + 1) xl (xl + ((xh - xl) / 2)) (by omega) (by rw [← hF]; show _ = (if _ then _ else _); rw [if_neg c_59]; simp only [if_neg c_89, if_neg c_96]) _ _ hP hD hS ls (lv_sub hl [4, 5, 6, 7, 8, 9, 10, 1, 11, 0] rfl)
          · skip
            refine lv_lload hx hb dX7_findZero_99 (lv_at hl 1 rfl) ?_
            refine lv_lstore (lv' := [(6, .long (xl + ((xh - xl) / 2))), (14, .int (sp_X4_signAt pa pb pc0 pd (xl + ((xh - xl) / 2)) (nI (min p 16)))), (12, .long (xl + ((xh - xl) / 2))), (0, .ref h0), (1, .ref h1), (2, .int fr), (3, .int (nI u)), (4, .int (nI p)), (5, .int (nI (min p 16))), (8, .long xh), (10, .int (sp_X4_signAt pa pb pc0 pd (skL fr (min p 16)) (nI (min p 16)))), (11, .int (nI st))]) hx hb dX7_findZero_101 hl (by decide) rfl (fun ls hl => ?_)
            refine lv_iload hx hb dX7_findZero_103 (lv_at hl 1 rfl) ?_
            refine lv_iload hx hb dX7_findZero_105 (lv_at hl 10 rfl) ?_
            refine lv_icmp_eq (tgt := 114) hx hb dX7_findZero_107 (by decide) (fun c_107 => ?_) (fun c_107 => absurd c_96 c_107)
            refine lv_iinc (v := nI (st + 1)) (lv' := [(11, .int (nI (st + 1))), (6, .long (xl + ((xh - xl) / 2))), (14, .int (sp_X4_signAt pa pb pc0 pd (xl + ((xh - xl) / 2)) (nI (min p 16)))), (12, .long (xl + ((xh - xl) / 2))), (0, .ref h0), (1, .ref h1), (2, .int fr), (3, .int (nI u)), (4, .int (nI p)), (5, .int (nI (min p 16))), (8, .long xh), (10, .int (sp_X4_signAt pa pb pc0 pd (skL fr (min p 16)) (nI (min p 16))))]) hx hb dX7_findZero_114 hl (k := 11) rfl (nI_add st 1) (by decide) rfl (fun ls hl => ?_)
            refine lv_goto (tgt := 44) hx hb dX7_findZero_117 (by decide) ?_
            exact ih44 (st + 1) (xl + ((xh - xl) / 2)) xh (by omega) (by rw [← hF]; show _ = (if _ then _ else _); rw [if_neg c_59]; simp only [if_neg c_89, if_pos c_96]) _ _ hP hD hS ls (lv_sub hl [4, 5, 6, 7, 8, 9, 1, 10, 11, 0] rfl)
  exact LOOP44 (min p 16 + u) 0 (skL fr (min p 16)) ((skL fr (min p 16)) + (jshl (sp_X7_unitsAt (nI (min p 16))) (nI u))) (by omega) (rfl) _ _ hP hD hS ls (lv_sub hl [5, 6, 7, 8, 9, 4, 3, 2, 1, 0] rfl)
set_option maxHeartbeats 4000000 in
set_option maxRecDepth 100000 in
theorem c_X7_zero_X1a (l : Launch) (hfl : l.stackTraces = false) (D : va_G) (y : Nat → ClassId) (ad : Nat → Nat) (sz : Nat) (h : Nat) (q : Nat → Nat) (n : Nat) (b1 : Bool) (l1 r1 : Int64) (b2 : Bool) (l2 r2 : Int64) (b3 : Bool) (l3 r3 : Int64) (uz : Nat → Bool) (ul uh : Nat → Int64) (f1 g1 f2 g2 : Int64) (pa : Nat → Nat → Nat) (kd : Nat → Nat) (on ot : Nat → Int32) (pt : Nat → Int64) (fb : Nat → Nat → Bool) (fl fh : Nat → Nat → Int64) (tb : Nat → Nat → Bool) (tl th : Nat → Nat → Int64) (dg : Nat → Int32) (ds : Nat → Int64) (a b c0 d0 fr hv : Int32)  (hbad : a < -9 ∨ ¬ a ≤ 9) : vx_Met l yX7_zero wsX7_zero ({ frames := 7, cells := 1, slots := 6, locals := 114 } : Room) (gPX D y ad [.ref h, .int a, .int b, .int c0, .int d0, .int fr, .int hv] (wXp y ad h q n b1 l1 r1 b2 l2 r2 b3 l3 r3 uz ul uh f1 g1 f2 g2 pa kd on ot pt fb fl fh tb tl th dg ds) sz) gNo (gXC D (wXp y ad h q n b1 l1 r1 b2 l2 r2 b3 l3 r3 uz ul uh f1 g1 f2 g2 pa kd on ot pt fb fl fh tb tl th dg ds) gIAE (fun w => w = wXp y ad h q n b1 l1 r1 b2 l2 r2 b3 l3 r3 uz ul uh f1 g1 f2 g2 pa kd on ot pt fb fl fh tb tl th dg ds)) 1 6 (va_A (wXp y ad h q n b1 l1 r1 b2 l2 r2 b3 l3 r3 uz ul uh f1 g1 f2 g2 pa kd on ot pt fb fl fh tb tl th dg ds) sz) := by
  refine vx_ofW (cc := cX7_zero) (maxL := 12) (ret := (some .int)) (by decide) rfl ?_
  intro pg e s m args below meth c s₁ B hml hno hv
  obtain ⟨rfl, hsz, hP, hK, hD0, hE0⟩ := hv
  have hx := B.exec
  have hb := B.bytes
  have hr := B.returns
  have hts := atoms_spec (ws := wsX7_zero) B.pre
  have hown : s.vm.findClass RX7 = some m.cls := findClass_of_methodNamed B.named
  have hlocks := B.notSynchronized
  subst hsz
  obtain ⟨A, hAe⟩ : ∃ A : Nat → Prop, A = va_A (wXp y ad h q n b1 l1 r1 b2 l2 r2 b3 l3 r3 uz ul uh f1 g1 f2 g2 pa kd on ot pt fb fl fh tb tl th dg ds) s.heap.size := ⟨_, rfl⟩
  have hE : gE ad A s s.heap := by rw [hAe]; exact hE0
  have hD : va_D A (wXp y ad h q n b1 l1 r1 b2 l2 r2 b3 l3 r3 uz ul uh f1 g1 f2 g2 pa kd on ot pt fb fl fh tb tl th dg ds) := by rw [hAe]; exact hD0.self (sz := s.heap.size)
  have hA : ∀ q : Nat, s.heap.size ≤ q → A q := fun q h => by rw [hAe]; exact Or.inr h
  have hS : va_S A s.heap s.heap [] := va_S.rf
  have hl := lv_entry ([.ref h, .int a, .int b, .int c0, .int d0, .int fr, .int hv]) (n := 12) (Nat.le_of_ble_eq_true rfl)
  rw [lg_entry_eq]
  generalize (lg_sl ([.ref h, .int a, .int b, .int c0, .int d0, .int fr, .int hv]) ++ List.replicate (12 - (lg_sl ([.ref h, .int a, .int b, .int c0, .int d0, .int fr, .int hv])).length) Slot.unset).toArray = ls at hl ⊢
  have hl : lv_has ls 12 [(0, .ref h), (1, .int a), (2, .int b), (3, .int c0), (4, .int d0), (5, .int fr), (6, .int hv)] := hl
  refine lv_iload_n hx hb dX7_zero_0 rfl (lv_at hl 1 rfl) ?_
  refine lv_bipush (v := -9) hx hb dX7_zero_1 (by decide) ?_
  refine lv_bipush (v := 9) hx hb dX7_zero_3 (by decide) ?_
  exact g_outS (vx_runS (As := [.int a, .int (-9), .int 9]) (rest := []) ⟨hx, hb, hml, hown, hts⟩ (c_X7_requireWithin_X l hfl D y ad s.heap.size a (-9) 9 hbad) (va_cwS 3 hts gX7_zero_X7_requireWithin rfl rfl rfl (by decide +kernel) ⟨Nat.le_of_ble_eq_true rfl, Nat.le_of_ble_eq_true rfl⟩) (gPX_S0 hK hE hS hA) rfl rfl hl.1 rfl (lv_room (Nat.le_of_ble_eq_true rfl)) dX7_zero_5 ⟨Nat.le_of_ble_eq_true rfl, Nat.le_of_ble_eq_true rfl⟩) hAe hP hS hA rfl rfl hno hlocks (Nat.le_of_ble_eq_true rfl) (Nat.le_of_ble_eq_true rfl)
set_option maxHeartbeats 4000000 in
set_option maxRecDepth 100000 in
theorem c_X7_zero_X1b (l : Launch) (hfl : l.stackTraces = false) (D : va_G) (y : Nat → ClassId) (ad : Nat → Nat) (sz : Nat) (h : Nat) (q : Nat → Nat) (n : Nat) (b1 : Bool) (l1 r1 : Int64) (b2 : Bool) (l2 r2 : Int64) (b3 : Bool) (l3 r3 : Int64) (uz : Nat → Bool) (ul uh : Nat → Int64) (f1 g1 f2 g2 : Int64) (pa : Nat → Nat → Nat) (kd : Nat → Nat) (on ot : Nat → Int32) (pt : Nat → Int64) (fb : Nat → Nat → Bool) (fl fh : Nat → Nat → Int64) (tb : Nat → Nat → Bool) (tl th : Nat → Nat → Int64) (dg : Nat → Int32) (ds : Nat → Int64) (a b c0 d0 fr hv : Int32)  (h1a : ¬ a < -9) (h2a : a ≤ 9) (hbad : b < -9 ∨ ¬ b ≤ 9) : vx_Met l yX7_zero wsX7_zero ({ frames := 7, cells := 1, slots := 6, locals := 114 } : Room) (gPX D y ad [.ref h, .int a, .int b, .int c0, .int d0, .int fr, .int hv] (wXp y ad h q n b1 l1 r1 b2 l2 r2 b3 l3 r3 uz ul uh f1 g1 f2 g2 pa kd on ot pt fb fl fh tb tl th dg ds) sz) gNo (gXC D (wXp y ad h q n b1 l1 r1 b2 l2 r2 b3 l3 r3 uz ul uh f1 g1 f2 g2 pa kd on ot pt fb fl fh tb tl th dg ds) gIAE (fun w => w = wXp y ad h q n b1 l1 r1 b2 l2 r2 b3 l3 r3 uz ul uh f1 g1 f2 g2 pa kd on ot pt fb fl fh tb tl th dg ds)) 1 6 (va_A (wXp y ad h q n b1 l1 r1 b2 l2 r2 b3 l3 r3 uz ul uh f1 g1 f2 g2 pa kd on ot pt fb fl fh tb tl th dg ds) sz) := by
  refine vx_ofW (cc := cX7_zero) (maxL := 12) (ret := (some .int)) (by decide) rfl ?_
  intro pg e s m args below meth c s₁ B hml hno hv
  obtain ⟨rfl, hsz, hP, hK, hD0, hE0⟩ := hv
  have hx := B.exec
  have hb := B.bytes
  have hr := B.returns
  have hts := atoms_spec (ws := wsX7_zero) B.pre
  have hown : s.vm.findClass RX7 = some m.cls := findClass_of_methodNamed B.named
  have hlocks := B.notSynchronized
  subst hsz
  obtain ⟨A, hAe⟩ : ∃ A : Nat → Prop, A = va_A (wXp y ad h q n b1 l1 r1 b2 l2 r2 b3 l3 r3 uz ul uh f1 g1 f2 g2 pa kd on ot pt fb fl fh tb tl th dg ds) s.heap.size := ⟨_, rfl⟩
  have hE : gE ad A s s.heap := by rw [hAe]; exact hE0
  have hD : va_D A (wXp y ad h q n b1 l1 r1 b2 l2 r2 b3 l3 r3 uz ul uh f1 g1 f2 g2 pa kd on ot pt fb fl fh tb tl th dg ds) := by rw [hAe]; exact hD0.self (sz := s.heap.size)
  have hA : ∀ q : Nat, s.heap.size ≤ q → A q := fun q h => by rw [hAe]; exact Or.inr h
  have hS : va_S A s.heap s.heap [] := va_S.rf
  have hl := lv_entry ([.ref h, .int a, .int b, .int c0, .int d0, .int fr, .int hv]) (n := 12) (Nat.le_of_ble_eq_true rfl)
  rw [lg_entry_eq]
  generalize (lg_sl ([.ref h, .int a, .int b, .int c0, .int d0, .int fr, .int hv]) ++ List.replicate (12 - (lg_sl ([.ref h, .int a, .int b, .int c0, .int d0, .int fr, .int hv])).length) Slot.unset).toArray = ls at hl ⊢
  have hl : lv_has ls 12 [(0, .ref h), (1, .int a), (2, .int b), (3, .int c0), (4, .int d0), (5, .int fr), (6, .int hv)] := hl
  refine lv_iload_n hx hb dX7_zero_0 rfl (lv_at hl 1 rfl) ?_
  refine lv_bipush (v := -9) hx hb dX7_zero_1 (by decide) ?_
  refine lv_bipush (v := 9) hx hb dX7_zero_3 (by decide) ?_
  refine g_callv (va_runS (As := [.int a, .int (-9), .int 9]) (rest := []) ⟨hx, hb, hml, hown, hts⟩ (c_X7_requireWithin_0 l hfl D y ad s.heap.size a (-9) 9 h1a h2a) (va_cwS 3 hts gX7_zero_X7_requireWithin rfl rfl rfl (by decide +kernel) ⟨Nat.le_of_ble_eq_true rfl, Nat.le_of_ble_eq_true rfl⟩) (gPX_S0 hK hE hS hA) rfl rfl hl.1 rfl (lv_room (Nat.le_of_ble_eq_true rfl)) dX7_zero_5 ⟨Nat.zero_le _, Nat.zero_le _⟩) hP hD hS hA [] rfl (fun H locs hP hD hS => ?_)
  have hP : va_P D vwCl (wXp y ad h q n b1 l1 r1 b2 l2 r2 b3 l3 r3 uz ul uh f1 g1 f2 g2 pa kd on ot pt fb fl fh tb tl th dg ds) H := hP
  have hD : va_D A (wXp y ad h q n b1 l1 r1 b2 l2 r2 b3 l3 r3 uz ul uh f1 g1 f2 g2 pa kd on ot pt fb fl fh tb tl th dg ds) := hD
  refine lv_iload_n hx hb dX7_zero_8 rfl (lv_at hl 2 rfl) ?_
  refine lv_bipush (v := -9) hx hb dX7_zero_9 (by decide) ?_
  refine lv_bipush (v := 9) hx hb dX7_zero_11 (by decide) ?_
  exact g_outS (vx_runS (As := [.int b, .int (-9), .int 9]) (rest := []) ⟨hx, hb, hml, hown, hts⟩ (c_X7_requireWithin_X l hfl D y ad H.size b (-9) 9 hbad) (va_cwS 3 hts gX7_zero_X7_requireWithin rfl rfl rfl (by decide +kernel) ⟨Nat.le_of_ble_eq_true rfl, Nat.le_of_ble_eq_true rfl⟩) (gPX_S0 hK hE hS hA) rfl rfl hl.1 rfl (lv_room (Nat.le_of_ble_eq_true rfl)) dX7_zero_13 ⟨Nat.le_of_ble_eq_true rfl, Nat.le_of_ble_eq_true rfl⟩) hAe hP hS hA rfl rfl hno hlocks (Nat.le_of_ble_eq_true rfl) (Nat.le_of_ble_eq_true rfl)
set_option maxHeartbeats 4000000 in
set_option maxRecDepth 100000 in
theorem c_X7_zero_X1c0 (l : Launch) (hfl : l.stackTraces = false) (D : va_G) (y : Nat → ClassId) (ad : Nat → Nat) (sz : Nat) (h : Nat) (q : Nat → Nat) (n : Nat) (b1 : Bool) (l1 r1 : Int64) (b2 : Bool) (l2 r2 : Int64) (b3 : Bool) (l3 r3 : Int64) (uz : Nat → Bool) (ul uh : Nat → Int64) (f1 g1 f2 g2 : Int64) (pa : Nat → Nat → Nat) (kd : Nat → Nat) (on ot : Nat → Int32) (pt : Nat → Int64) (fb : Nat → Nat → Bool) (fl fh : Nat → Nat → Int64) (tb : Nat → Nat → Bool) (tl th : Nat → Nat → Int64) (dg : Nat → Int32) (ds : Nat → Int64) (a b c0 d0 fr hv : Int32)  (h1a : ¬ a < -9) (h2a : a ≤ 9) (h1b : ¬ b < -9) (h2b : b ≤ 9) (hbad : c0 < -9 ∨ ¬ c0 ≤ 9) : vx_Met l yX7_zero wsX7_zero ({ frames := 7, cells := 1, slots := 6, locals := 114 } : Room) (gPX D y ad [.ref h, .int a, .int b, .int c0, .int d0, .int fr, .int hv] (wXp y ad h q n b1 l1 r1 b2 l2 r2 b3 l3 r3 uz ul uh f1 g1 f2 g2 pa kd on ot pt fb fl fh tb tl th dg ds) sz) gNo (gXC D (wXp y ad h q n b1 l1 r1 b2 l2 r2 b3 l3 r3 uz ul uh f1 g1 f2 g2 pa kd on ot pt fb fl fh tb tl th dg ds) gIAE (fun w => w = wXp y ad h q n b1 l1 r1 b2 l2 r2 b3 l3 r3 uz ul uh f1 g1 f2 g2 pa kd on ot pt fb fl fh tb tl th dg ds)) 1 6 (va_A (wXp y ad h q n b1 l1 r1 b2 l2 r2 b3 l3 r3 uz ul uh f1 g1 f2 g2 pa kd on ot pt fb fl fh tb tl th dg ds) sz) := by
  refine vx_ofW (cc := cX7_zero) (maxL := 12) (ret := (some .int)) (by decide) rfl ?_
  intro pg e s m args below meth c s₁ B hml hno hv
  obtain ⟨rfl, hsz, hP, hK, hD0, hE0⟩ := hv
  have hx := B.exec
  have hb := B.bytes
  have hr := B.returns
  have hts := atoms_spec (ws := wsX7_zero) B.pre
  have hown : s.vm.findClass RX7 = some m.cls := findClass_of_methodNamed B.named
  have hlocks := B.notSynchronized
  subst hsz
  obtain ⟨A, hAe⟩ : ∃ A : Nat → Prop, A = va_A (wXp y ad h q n b1 l1 r1 b2 l2 r2 b3 l3 r3 uz ul uh f1 g1 f2 g2 pa kd on ot pt fb fl fh tb tl th dg ds) s.heap.size := ⟨_, rfl⟩
  have hE : gE ad A s s.heap := by rw [hAe]; exact hE0
  have hD : va_D A (wXp y ad h q n b1 l1 r1 b2 l2 r2 b3 l3 r3 uz ul uh f1 g1 f2 g2 pa kd on ot pt fb fl fh tb tl th dg ds) := by rw [hAe]; exact hD0.self (sz := s.heap.size)
  have hA : ∀ q : Nat, s.heap.size ≤ q → A q := fun q h => by rw [hAe]; exact Or.inr h
  have hS : va_S A s.heap s.heap [] := va_S.rf
  have hl := lv_entry ([.ref h, .int a, .int b, .int c0, .int d0, .int fr, .int hv]) (n := 12) (Nat.le_of_ble_eq_true rfl)
  rw [lg_entry_eq]
  generalize (lg_sl ([.ref h, .int a, .int b, .int c0, .int d0, .int fr, .int hv]) ++ List.replicate (12 - (lg_sl ([.ref h, .int a, .int b, .int c0, .int d0, .int fr, .int hv])).length) Slot.unset).toArray = ls at hl ⊢
  have hl : lv_has ls 12 [(0, .ref h), (1, .int a), (2, .int b), (3, .int c0), (4, .int d0), (5, .int fr), (6, .int hv)] := hl
  refine lv_iload_n hx hb dX7_zero_0 rfl (lv_at hl 1 rfl) ?_
  refine lv_bipush (v := -9) hx hb dX7_zero_1 (by decide) ?_
  refine lv_bipush (v := 9) hx hb dX7_zero_3 (by decide) ?_
  refine g_callv (va_runS (As := [.int a, .int (-9), .int 9]) (rest := []) ⟨hx, hb, hml, hown, hts⟩ (c_X7_requireWithin_0 l hfl D y ad s.heap.size a (-9) 9 h1a h2a) (va_cwS 3 hts gX7_zero_X7_requireWithin rfl rfl rfl (by decide +kernel) ⟨Nat.le_of_ble_eq_true rfl, Nat.le_of_ble_eq_true rfl⟩) (gPX_S0 hK hE hS hA) rfl rfl hl.1 rfl (lv_room (Nat.le_of_ble_eq_true rfl)) dX7_zero_5 ⟨Nat.zero_le _, Nat.zero_le _⟩) hP hD hS hA [] rfl (fun H locs hP hD hS => ?_)
  have hP : va_P D vwCl (wXp y ad h q n b1 l1 r1 b2 l2 r2 b3 l3 r3 uz ul uh f1 g1 f2 g2 pa kd on ot pt fb fl fh tb tl th dg ds) H := hP
  have hD : va_D A (wXp y ad h q n b1 l1 r1 b2 l2 r2 b3 l3 r3 uz ul uh f1 g1 f2 g2 pa kd on ot pt fb fl fh tb tl th dg ds) := hD
  refine lv_iload_n hx hb dX7_zero_8 rfl (lv_at hl 2 rfl) ?_
  refine lv_bipush (v := -9) hx hb dX7_zero_9 (by decide) ?_
  refine lv_bipush (v := 9) hx hb dX7_zero_11 (by decide) ?_
  refine g_callv (va_runS (As := [.int b, .int (-9), .int 9]) (rest := []) ⟨hx, hb, hml, hown, hts⟩ (c_X7_requireWithin_0 l hfl D y ad H.size b (-9) 9 h1b h2b) (va_cwS 3 hts gX7_zero_X7_requireWithin rfl rfl rfl (by decide +kernel) ⟨Nat.le_of_ble_eq_true rfl, Nat.le_of_ble_eq_true rfl⟩) (gPX_S0 hK hE hS hA) rfl rfl hl.1 rfl (lv_room (Nat.le_of_ble_eq_true rfl)) dX7_zero_13 ⟨Nat.zero_le _, Nat.zero_le _⟩) hP hD hS hA [] rfl (fun H locs hP hD hS => ?_)
  have hP : va_P D vwCl (wXp y ad h q n b1 l1 r1 b2 l2 r2 b3 l3 r3 uz ul uh f1 g1 f2 g2 pa kd on ot pt fb fl fh tb tl th dg ds) H := hP
  have hD : va_D A (wXp y ad h q n b1 l1 r1 b2 l2 r2 b3 l3 r3 uz ul uh f1 g1 f2 g2 pa kd on ot pt fb fl fh tb tl th dg ds) := hD
  refine lv_iload_n hx hb dX7_zero_16 rfl (lv_at hl 3 rfl) ?_
  refine lv_bipush (v := -9) hx hb dX7_zero_17 (by decide) ?_
  refine lv_bipush (v := 9) hx hb dX7_zero_19 (by decide) ?_
  exact g_outS (vx_runS (As := [.int c0, .int (-9), .int 9]) (rest := []) ⟨hx, hb, hml, hown, hts⟩ (c_X7_requireWithin_X l hfl D y ad H.size c0 (-9) 9 hbad) (va_cwS 3 hts gX7_zero_X7_requireWithin rfl rfl rfl (by decide +kernel) ⟨Nat.le_of_ble_eq_true rfl, Nat.le_of_ble_eq_true rfl⟩) (gPX_S0 hK hE hS hA) rfl rfl hl.1 rfl (lv_room (Nat.le_of_ble_eq_true rfl)) dX7_zero_21 ⟨Nat.le_of_ble_eq_true rfl, Nat.le_of_ble_eq_true rfl⟩) hAe hP hS hA rfl rfl hno hlocks (Nat.le_of_ble_eq_true rfl) (Nat.le_of_ble_eq_true rfl)
set_option maxHeartbeats 4000000 in
set_option maxRecDepth 100000 in
theorem c_X7_zero_X1d0 (l : Launch) (hfl : l.stackTraces = false) (D : va_G) (y : Nat → ClassId) (ad : Nat → Nat) (sz : Nat) (h : Nat) (q : Nat → Nat) (n : Nat) (b1 : Bool) (l1 r1 : Int64) (b2 : Bool) (l2 r2 : Int64) (b3 : Bool) (l3 r3 : Int64) (uz : Nat → Bool) (ul uh : Nat → Int64) (f1 g1 f2 g2 : Int64) (pa : Nat → Nat → Nat) (kd : Nat → Nat) (on ot : Nat → Int32) (pt : Nat → Int64) (fb : Nat → Nat → Bool) (fl fh : Nat → Nat → Int64) (tb : Nat → Nat → Bool) (tl th : Nat → Nat → Int64) (dg : Nat → Int32) (ds : Nat → Int64) (a b c0 d0 fr hv : Int32)  (h1a : ¬ a < -9) (h2a : a ≤ 9) (h1b : ¬ b < -9) (h2b : b ≤ 9) (h1c0 : ¬ c0 < -9) (h2c0 : c0 ≤ 9) (hbad : d0 < -9 ∨ ¬ d0 ≤ 9) : vx_Met l yX7_zero wsX7_zero ({ frames := 7, cells := 1, slots := 6, locals := 114 } : Room) (gPX D y ad [.ref h, .int a, .int b, .int c0, .int d0, .int fr, .int hv] (wXp y ad h q n b1 l1 r1 b2 l2 r2 b3 l3 r3 uz ul uh f1 g1 f2 g2 pa kd on ot pt fb fl fh tb tl th dg ds) sz) gNo (gXC D (wXp y ad h q n b1 l1 r1 b2 l2 r2 b3 l3 r3 uz ul uh f1 g1 f2 g2 pa kd on ot pt fb fl fh tb tl th dg ds) gIAE (fun w => w = wXp y ad h q n b1 l1 r1 b2 l2 r2 b3 l3 r3 uz ul uh f1 g1 f2 g2 pa kd on ot pt fb fl fh tb tl th dg ds)) 1 6 (va_A (wXp y ad h q n b1 l1 r1 b2 l2 r2 b3 l3 r3 uz ul uh f1 g1 f2 g2 pa kd on ot pt fb fl fh tb tl th dg ds) sz) := by
  refine vx_ofW (cc := cX7_zero) (maxL := 12) (ret := (some .int)) (by decide) rfl ?_
  intro pg e s m args below meth c s₁ B hml hno hv
  obtain ⟨rfl, hsz, hP, hK, hD0, hE0⟩ := hv
  have hx := B.exec
  have hb := B.bytes
  have hr := B.returns
  have hts := atoms_spec (ws := wsX7_zero) B.pre
  have hown : s.vm.findClass RX7 = some m.cls := findClass_of_methodNamed B.named
  have hlocks := B.notSynchronized
  subst hsz
  obtain ⟨A, hAe⟩ : ∃ A : Nat → Prop, A = va_A (wXp y ad h q n b1 l1 r1 b2 l2 r2 b3 l3 r3 uz ul uh f1 g1 f2 g2 pa kd on ot pt fb fl fh tb tl th dg ds) s.heap.size := ⟨_, rfl⟩
  have hE : gE ad A s s.heap := by rw [hAe]; exact hE0
  have hD : va_D A (wXp y ad h q n b1 l1 r1 b2 l2 r2 b3 l3 r3 uz ul uh f1 g1 f2 g2 pa kd on ot pt fb fl fh tb tl th dg ds) := by rw [hAe]; exact hD0.self (sz := s.heap.size)
  have hA : ∀ q : Nat, s.heap.size ≤ q → A q := fun q h => by rw [hAe]; exact Or.inr h
  have hS : va_S A s.heap s.heap [] := va_S.rf
  have hl := lv_entry ([.ref h, .int a, .int b, .int c0, .int d0, .int fr, .int hv]) (n := 12) (Nat.le_of_ble_eq_true rfl)
  rw [lg_entry_eq]
  generalize (lg_sl ([.ref h, .int a, .int b, .int c0, .int d0, .int fr, .int hv]) ++ List.replicate (12 - (lg_sl ([.ref h, .int a, .int b, .int c0, .int d0, .int fr, .int hv])).length) Slot.unset).toArray = ls at hl ⊢
  have hl : lv_has ls 12 [(0, .ref h), (1, .int a), (2, .int b), (3, .int c0), (4, .int d0), (5, .int fr), (6, .int hv)] := hl
  refine lv_iload_n hx hb dX7_zero_0 rfl (lv_at hl 1 rfl) ?_
  refine lv_bipush (v := -9) hx hb dX7_zero_1 (by decide) ?_
  refine lv_bipush (v := 9) hx hb dX7_zero_3 (by decide) ?_
  refine g_callv (va_runS (As := [.int a, .int (-9), .int 9]) (rest := []) ⟨hx, hb, hml, hown, hts⟩ (c_X7_requireWithin_0 l hfl D y ad s.heap.size a (-9) 9 h1a h2a) (va_cwS 3 hts gX7_zero_X7_requireWithin rfl rfl rfl (by decide +kernel) ⟨Nat.le_of_ble_eq_true rfl, Nat.le_of_ble_eq_true rfl⟩) (gPX_S0 hK hE hS hA) rfl rfl hl.1 rfl (lv_room (Nat.le_of_ble_eq_true rfl)) dX7_zero_5 ⟨Nat.zero_le _, Nat.zero_le _⟩) hP hD hS hA [] rfl (fun H locs hP hD hS => ?_)
  have hP : va_P D vwCl (wXp y ad h q n b1 l1 r1 b2 l2 r2 b3 l3 r3 uz ul uh f1 g1 f2 g2 pa kd on ot pt fb fl fh tb tl th dg ds) H := hP
  have hD : va_D A (wXp y ad h q n b1 l1 r1 b2 l2 r2 b3 l3 r3 uz ul uh f1 g1 f2 g2 pa kd on ot pt fb fl fh tb tl th dg ds) := hD
  refine lv_iload_n hx hb dX7_zero_8 rfl (lv_at hl 2 rfl) ?_
  refine lv_bipush (v := -9) hx hb dX7_zero_9 (by decide) ?_
  refine lv_bipush (v := 9) hx hb dX7_zero_11 (by decide) ?_
  refine g_callv (va_runS (As := [.int b, .int (-9), .int 9]) (rest := []) ⟨hx, hb, hml, hown, hts⟩ (c_X7_requireWithin_0 l hfl D y ad H.size b (-9) 9 h1b h2b) (va_cwS 3 hts gX7_zero_X7_requireWithin rfl rfl rfl (by decide +kernel) ⟨Nat.le_of_ble_eq_true rfl, Nat.le_of_ble_eq_true rfl⟩) (gPX_S0 hK hE hS hA) rfl rfl hl.1 rfl (lv_room (Nat.le_of_ble_eq_true rfl)) dX7_zero_13 ⟨Nat.zero_le _, Nat.zero_le _⟩) hP hD hS hA [] rfl (fun H locs hP hD hS => ?_)
  have hP : va_P D vwCl (wXp y ad h q n b1 l1 r1 b2 l2 r2 b3 l3 r3 uz ul uh f1 g1 f2 g2 pa kd on ot pt fb fl fh tb tl th dg ds) H := hP
  have hD : va_D A (wXp y ad h q n b1 l1 r1 b2 l2 r2 b3 l3 r3 uz ul uh f1 g1 f2 g2 pa kd on ot pt fb fl fh tb tl th dg ds) := hD
  refine lv_iload_n hx hb dX7_zero_16 rfl (lv_at hl 3 rfl) ?_
  refine lv_bipush (v := -9) hx hb dX7_zero_17 (by decide) ?_
  refine lv_bipush (v := 9) hx hb dX7_zero_19 (by decide) ?_
  refine g_callv (va_runS (As := [.int c0, .int (-9), .int 9]) (rest := []) ⟨hx, hb, hml, hown, hts⟩ (c_X7_requireWithin_0 l hfl D y ad H.size c0 (-9) 9 h1c0 h2c0) (va_cwS 3 hts gX7_zero_X7_requireWithin rfl rfl rfl (by decide +kernel) ⟨Nat.le_of_ble_eq_true rfl, Nat.le_of_ble_eq_true rfl⟩) (gPX_S0 hK hE hS hA) rfl rfl hl.1 rfl (lv_room (Nat.le_of_ble_eq_true rfl)) dX7_zero_21 ⟨Nat.zero_le _, Nat.zero_le _⟩) hP hD hS hA [] rfl (fun H locs hP hD hS => ?_)
  have hP : va_P D vwCl (wXp y ad h q n b1 l1 r1 b2 l2 r2 b3 l3 r3 uz ul uh f1 g1 f2 g2 pa kd on ot pt fb fl fh tb tl th dg ds) H := hP
  have hD : va_D A (wXp y ad h q n b1 l1 r1 b2 l2 r2 b3 l3 r3 uz ul uh f1 g1 f2 g2 pa kd on ot pt fb fl fh tb tl th dg ds) := hD
  refine lv_iload hx hb dX7_zero_24 (lv_at hl 4 rfl) ?_
  refine lv_bipush (v := -9) hx hb dX7_zero_26 (by decide) ?_
  refine lv_bipush (v := 9) hx hb dX7_zero_28 (by decide) ?_
  exact g_outS (vx_runS (As := [.int d0, .int (-9), .int 9]) (rest := []) ⟨hx, hb, hml, hown, hts⟩ (c_X7_requireWithin_X l hfl D y ad H.size d0 (-9) 9 hbad) (va_cwS 3 hts gX7_zero_X7_requireWithin rfl rfl rfl (by decide +kernel) ⟨Nat.le_of_ble_eq_true rfl, Nat.le_of_ble_eq_true rfl⟩) (gPX_S0 hK hE hS hA) rfl rfl hl.1 rfl (lv_room (Nat.le_of_ble_eq_true rfl)) dX7_zero_30 ⟨Nat.le_of_ble_eq_true rfl, Nat.le_of_ble_eq_true rfl⟩) hAe hP hS hA rfl rfl hno hlocks (Nat.le_of_ble_eq_true rfl) (Nat.le_of_ble_eq_true rfl)
set_option maxHeartbeats 4000000 in
set_option maxRecDepth 100000 in
theorem c_X7_zero_X1fr (l : Launch) (hfl : l.stackTraces = false) (D : va_G) (y : Nat → ClassId) (ad : Nat → Nat) (sz : Nat) (h : Nat) (q : Nat → Nat) (n : Nat) (b1 : Bool) (l1 r1 : Int64) (b2 : Bool) (l2 r2 : Int64) (b3 : Bool) (l3 r3 : Int64) (uz : Nat → Bool) (ul uh : Nat → Int64) (f1 g1 f2 g2 : Int64) (pa : Nat → Nat → Nat) (kd : Nat → Nat) (on ot : Nat → Int32) (pt : Nat → Int64) (fb : Nat → Nat → Bool) (fl fh : Nat → Nat → Int64) (tb : Nat → Nat → Bool) (tl th : Nat → Nat → Int64) (dg : Nat → Int32) (ds : Nat → Int64) (a b c0 d0 fr hv : Int32)  (h1a : ¬ a < -9) (h2a : a ≤ 9) (h1b : ¬ b < -9) (h2b : b ≤ 9) (h1c0 : ¬ c0 < -9) (h2c0 : c0 ≤ 9) (h1d0 : ¬ d0 < -9) (h2d0 : d0 ≤ 9) (hbad : fr < -4 ∨ ¬ fr ≤ 3) : vx_Met l yX7_zero wsX7_zero ({ frames := 7, cells := 1, slots := 6, locals := 114 } : Room) (gPX D y ad [.ref h, .int a, .int b, .int c0, .int d0, .int fr, .int hv] (wXp y ad h q n b1 l1 r1 b2 l2 r2 b3 l3 r3 uz ul uh f1 g1 f2 g2 pa kd on ot pt fb fl fh tb tl th dg ds) sz) gNo (gXC D (wXp y ad h q n b1 l1 r1 b2 l2 r2 b3 l3 r3 uz ul uh f1 g1 f2 g2 pa kd on ot pt fb fl fh tb tl th dg ds) gIAE (fun w => w = wXp y ad h q n b1 l1 r1 b2 l2 r2 b3 l3 r3 uz ul uh f1 g1 f2 g2 pa kd on ot pt fb fl fh tb tl th dg ds)) 1 6 (va_A (wXp y ad h q n b1 l1 r1 b2 l2 r2 b3 l3 r3 uz ul uh f1 g1 f2 g2 pa kd on ot pt fb fl fh tb tl th dg ds) sz) := by
  refine vx_ofW (cc := cX7_zero) (maxL := 12) (ret := (some .int)) (by decide) rfl ?_
  intro pg e s m args below meth c s₁ B hml hno hv
  obtain ⟨rfl, hsz, hP, hK, hD0, hE0⟩ := hv
  have hx := B.exec
  have hb := B.bytes
  have hr := B.returns
  have hts := atoms_spec (ws := wsX7_zero) B.pre
  have hown : s.vm.findClass RX7 = some m.cls := findClass_of_methodNamed B.named
  have hlocks := B.notSynchronized
  subst hsz
  obtain ⟨A, hAe⟩ : ∃ A : Nat → Prop, A = va_A (wXp y ad h q n b1 l1 r1 b2 l2 r2 b3 l3 r3 uz ul uh f1 g1 f2 g2 pa kd on ot pt fb fl fh tb tl th dg ds) s.heap.size := ⟨_, rfl⟩
  have hE : gE ad A s s.heap := by rw [hAe]; exact hE0
  have hD : va_D A (wXp y ad h q n b1 l1 r1 b2 l2 r2 b3 l3 r3 uz ul uh f1 g1 f2 g2 pa kd on ot pt fb fl fh tb tl th dg ds) := by rw [hAe]; exact hD0.self (sz := s.heap.size)
  have hA : ∀ q : Nat, s.heap.size ≤ q → A q := fun q h => by rw [hAe]; exact Or.inr h
  have hS : va_S A s.heap s.heap [] := va_S.rf
  have hl := lv_entry ([.ref h, .int a, .int b, .int c0, .int d0, .int fr, .int hv]) (n := 12) (Nat.le_of_ble_eq_true rfl)
  rw [lg_entry_eq]
  generalize (lg_sl ([.ref h, .int a, .int b, .int c0, .int d0, .int fr, .int hv]) ++ List.replicate (12 - (lg_sl ([.ref h, .int a, .int b, .int c0, .int d0, .int fr, .int hv])).length) Slot.unset).toArray = ls at hl ⊢
  have hl : lv_has ls 12 [(0, .ref h), (1, .int a), (2, .int b), (3, .int c0), (4, .int d0), (5, .int fr), (6, .int hv)] := hl
  refine lv_iload_n hx hb dX7_zero_0 rfl (lv_at hl 1 rfl) ?_
  refine lv_bipush (v := -9) hx hb dX7_zero_1 (by decide) ?_
  refine lv_bipush (v := 9) hx hb dX7_zero_3 (by decide) ?_
  refine g_callv (va_runS (As := [.int a, .int (-9), .int 9]) (rest := []) ⟨hx, hb, hml, hown, hts⟩ (c_X7_requireWithin_0 l hfl D y ad s.heap.size a (-9) 9 h1a h2a) (va_cwS 3 hts gX7_zero_X7_requireWithin rfl rfl rfl (by decide +kernel) ⟨Nat.le_of_ble_eq_true rfl, Nat.le_of_ble_eq_true rfl⟩) (gPX_S0 hK hE hS hA) rfl rfl hl.1 rfl (lv_room (Nat.le_of_ble_eq_true rfl)) dX7_zero_5 ⟨Nat.zero_le _, Nat.zero_le _⟩) hP hD hS hA [] rfl (fun H locs hP hD hS => ?_)
  have hP : va_P D vwCl (wXp y ad h q n b1 l1 r1 b2 l2 r2 b3 l3 r3 uz ul uh f1 g1 f2 g2 pa kd on ot pt fb fl fh tb tl th dg ds) H := hP
  have hD : va_D A (wXp y ad h q n b1 l1 r1 b2 l2 r2 b3 l3 r3 uz ul uh f1 g1 f2 g2 pa kd on ot pt fb fl fh tb tl th dg ds) := hD
  refine lv_iload_n hx hb dX7_zero_8 rfl (lv_at hl 2 rfl) ?_
  refine lv_bipush (v := -9) hx hb dX7_zero_9 (by decide) ?_
  refine lv_bipush (v := 9) hx hb dX7_zero_11 (by decide) ?_
  refine g_callv (va_runS (As := [.int b, .int (-9), .int 9]) (rest := []) ⟨hx, hb, hml, hown, hts⟩ (c_X7_requireWithin_0 l hfl D y ad H.size b (-9) 9 h1b h2b) (va_cwS 3 hts gX7_zero_X7_requireWithin rfl rfl rfl (by decide +kernel) ⟨Nat.le_of_ble_eq_true rfl, Nat.le_of_ble_eq_true rfl⟩) (gPX_S0 hK hE hS hA) rfl rfl hl.1 rfl (lv_room (Nat.le_of_ble_eq_true rfl)) dX7_zero_13 ⟨Nat.zero_le _, Nat.zero_le _⟩) hP hD hS hA [] rfl (fun H locs hP hD hS => ?_)
  have hP : va_P D vwCl (wXp y ad h q n b1 l1 r1 b2 l2 r2 b3 l3 r3 uz ul uh f1 g1 f2 g2 pa kd on ot pt fb fl fh tb tl th dg ds) H := hP
  have hD : va_D A (wXp y ad h q n b1 l1 r1 b2 l2 r2 b3 l3 r3 uz ul uh f1 g1 f2 g2 pa kd on ot pt fb fl fh tb tl th dg ds) := hD
  refine lv_iload_n hx hb dX7_zero_16 rfl (lv_at hl 3 rfl) ?_
  refine lv_bipush (v := -9) hx hb dX7_zero_17 (by decide) ?_
  refine lv_bipush (v := 9) hx hb dX7_zero_19 (by decide) ?_
  refine g_callv (va_runS (As := [.int c0, .int (-9), .int 9]) (rest := []) ⟨hx, hb, hml, hown, hts⟩ (c_X7_requireWithin_0 l hfl D y ad H.size c0 (-9) 9 h1c0 h2c0) (va_cwS 3 hts gX7_zero_X7_requireWithin rfl rfl rfl (by decide +kernel) ⟨Nat.le_of_ble_eq_true rfl, Nat.le_of_ble_eq_true rfl⟩) (gPX_S0 hK hE hS hA) rfl rfl hl.1 rfl (lv_room (Nat.le_of_ble_eq_true rfl)) dX7_zero_21 ⟨Nat.zero_le _, Nat.zero_le _⟩) hP hD hS hA [] rfl (fun H locs hP hD hS => ?_)
  have hP : va_P D vwCl (wXp y ad h q n b1 l1 r1 b2 l2 r2 b3 l3 r3 uz ul uh f1 g1 f2 g2 pa kd on ot pt fb fl fh tb tl th dg ds) H := hP
  have hD : va_D A (wXp y ad h q n b1 l1 r1 b2 l2 r2 b3 l3 r3 uz ul uh f1 g1 f2 g2 pa kd on ot pt fb fl fh tb tl th dg ds) := hD
  refine lv_iload hx hb dX7_zero_24 (lv_at hl 4 rfl) ?_
  refine lv_bipush (v := -9) hx hb dX7_zero_26 (by decide) ?_
  refine lv_bipush (v := 9) hx hb dX7_zero_28 (by decide) ?_
  refine g_callv (va_runS (As := [.int d0, .int (-9), .int 9]) (rest := []) ⟨hx, hb, hml, hown, hts⟩ (c_X7_requireWithin_0 l hfl D y ad H.size d0 (-9) 9 h1d0 h2d0) (va_cwS 3 hts gX7_zero_X7_requireWithin rfl rfl rfl (by decide +kernel) ⟨Nat.le_of_ble_eq_true rfl, Nat.le_of_ble_eq_true rfl⟩) (gPX_S0 hK hE hS hA) rfl rfl hl.1 rfl (lv_room (Nat.le_of_ble_eq_true rfl)) dX7_zero_30 ⟨Nat.zero_le _, Nat.zero_le _⟩) hP hD hS hA [] rfl (fun H locs hP hD hS => ?_)
  have hP : va_P D vwCl (wXp y ad h q n b1 l1 r1 b2 l2 r2 b3 l3 r3 uz ul uh f1 g1 f2 g2 pa kd on ot pt fb fl fh tb tl th dg ds) H := hP
  have hD : va_D A (wXp y ad h q n b1 l1 r1 b2 l2 r2 b3 l3 r3 uz ul uh f1 g1 f2 g2 pa kd on ot pt fb fl fh tb tl th dg ds) := hD
  refine lv_iload hx hb dX7_zero_33 (lv_at hl 5 rfl) ?_
  refine lv_bipush (v := -4) hx hb dX7_zero_35 (by decide) ?_
  refine lv_iconst (v := 3) hx hb dX7_zero_37 (by decide) ?_
  exact g_outS (vx_runS (As := [.int fr, .int (-4), .int 3]) (rest := []) ⟨hx, hb, hml, hown, hts⟩ (c_X7_requireWithin_X l hfl D y ad H.size fr (-4) 3 hbad) (va_cwS 3 hts gX7_zero_X7_requireWithin rfl rfl rfl (by decide +kernel) ⟨Nat.le_of_ble_eq_true rfl, Nat.le_of_ble_eq_true rfl⟩) (gPX_S0 hK hE hS hA) rfl rfl hl.1 rfl (lv_room (Nat.le_of_ble_eq_true rfl)) dX7_zero_38 ⟨Nat.le_of_ble_eq_true rfl, Nat.le_of_ble_eq_true rfl⟩) hAe hP hS hA rfl rfl hno hlocks (Nat.le_of_ble_eq_true rfl) (Nat.le_of_ble_eq_true rfl)
set_option maxHeartbeats 4000000 in
set_option maxRecDepth 100000 in
theorem c_X7_zero_X1hv (l : Launch) (hfl : l.stackTraces = false) (D : va_G) (y : Nat → ClassId) (ad : Nat → Nat) (sz : Nat) (h : Nat) (q : Nat → Nat) (n : Nat) (b1 : Bool) (l1 r1 : Int64) (b2 : Bool) (l2 r2 : Int64) (b3 : Bool) (l3 r3 : Int64) (uz : Nat → Bool) (ul uh : Nat → Int64) (f1 g1 f2 g2 : Int64) (pa : Nat → Nat → Nat) (kd : Nat → Nat) (on ot : Nat → Int32) (pt : Nat → Int64) (fb : Nat → Nat → Bool) (fl fh : Nat → Nat → Int64) (tb : Nat → Nat → Bool) (tl th : Nat → Nat → Int64) (dg : Nat → Int32) (ds : Nat → Int64) (a b c0 d0 fr hv : Int32)  (h1a : ¬ a < -9) (h2a : a ≤ 9) (h1b : ¬ b < -9) (h2b : b ≤ 9) (h1c0 : ¬ c0 < -9) (h2c0 : c0 ≤ 9) (h1d0 : ¬ d0 < -9) (h2d0 : d0 ≤ 9) (h1fr : ¬ fr < -4) (h2fr : fr ≤ 3) (hbad : hv < 0 ∨ ¬ hv ≤ 2) : vx_Met l yX7_zero wsX7_zero ({ frames := 7, cells := 1, slots := 6, locals := 114 } : Room) (gPX D y ad [.ref h, .int a, .int b, .int c0, .int d0, .int fr, .int hv] (wXp y ad h q n b1 l1 r1 b2 l2 r2 b3 l3 r3 uz ul uh f1 g1 f2 g2 pa kd on ot pt fb fl fh tb tl th dg ds) sz) gNo (gXC D (wXp y ad h q n b1 l1 r1 b2 l2 r2 b3 l3 r3 uz ul uh f1 g1 f2 g2 pa kd on ot pt fb fl fh tb tl th dg ds) gIAE (fun w => w = wXp y ad h q n b1 l1 r1 b2 l2 r2 b3 l3 r3 uz ul uh f1 g1 f2 g2 pa kd on ot pt fb fl fh tb tl th dg ds)) 1 6 (va_A (wXp y ad h q n b1 l1 r1 b2 l2 r2 b3 l3 r3 uz ul uh f1 g1 f2 g2 pa kd on ot pt fb fl fh tb tl th dg ds) sz) := by
  refine vx_ofW (cc := cX7_zero) (maxL := 12) (ret := (some .int)) (by decide) rfl ?_
  intro pg e s m args below meth c s₁ B hml hno hv
  obtain ⟨rfl, hsz, hP, hK, hD0, hE0⟩ := hv
  have hx := B.exec
  have hb := B.bytes
  have hr := B.returns
  have hts := atoms_spec (ws := wsX7_zero) B.pre
  have hown : s.vm.findClass RX7 = some m.cls := findClass_of_methodNamed B.named
  have hlocks := B.notSynchronized
  subst hsz
  obtain ⟨A, hAe⟩ : ∃ A : Nat → Prop, A = va_A (wXp y ad h q n b1 l1 r1 b2 l2 r2 b3 l3 r3 uz ul uh f1 g1 f2 g2 pa kd on ot pt fb fl fh tb tl th dg ds) s.heap.size := ⟨_, rfl⟩
  have hE : gE ad A s s.heap := by rw [hAe]; exact hE0
  have hD : va_D A (wXp y ad h q n b1 l1 r1 b2 l2 r2 b3 l3 r3 uz ul uh f1 g1 f2 g2 pa kd on ot pt fb fl fh tb tl th dg ds) := by rw [hAe]; exact hD0.self (sz := s.heap.size)
  have hA : ∀ q : Nat, s.heap.size ≤ q → A q := fun q h => by rw [hAe]; exact Or.inr h
  have hS : va_S A s.heap s.heap [] := va_S.rf
  have hl := lv_entry ([.ref h, .int a, .int b, .int c0, .int d0, .int fr, .int hv]) (n := 12) (Nat.le_of_ble_eq_true rfl)
  rw [lg_entry_eq]
  generalize (lg_sl ([.ref h, .int a, .int b, .int c0, .int d0, .int fr, .int hv]) ++ List.replicate (12 - (lg_sl ([.ref h, .int a, .int b, .int c0, .int d0, .int fr, .int hv])).length) Slot.unset).toArray = ls at hl ⊢
  have hl : lv_has ls 12 [(0, .ref h), (1, .int a), (2, .int b), (3, .int c0), (4, .int d0), (5, .int fr), (6, .int hv)] := hl
  refine lv_iload_n hx hb dX7_zero_0 rfl (lv_at hl 1 rfl) ?_
  refine lv_bipush (v := -9) hx hb dX7_zero_1 (by decide) ?_
  refine lv_bipush (v := 9) hx hb dX7_zero_3 (by decide) ?_
  refine g_callv (va_runS (As := [.int a, .int (-9), .int 9]) (rest := []) ⟨hx, hb, hml, hown, hts⟩ (c_X7_requireWithin_0 l hfl D y ad s.heap.size a (-9) 9 h1a h2a) (va_cwS 3 hts gX7_zero_X7_requireWithin rfl rfl rfl (by decide +kernel) ⟨Nat.le_of_ble_eq_true rfl, Nat.le_of_ble_eq_true rfl⟩) (gPX_S0 hK hE hS hA) rfl rfl hl.1 rfl (lv_room (Nat.le_of_ble_eq_true rfl)) dX7_zero_5 ⟨Nat.zero_le _, Nat.zero_le _⟩) hP hD hS hA [] rfl (fun H locs hP hD hS => ?_)
  have hP : va_P D vwCl (wXp y ad h q n b1 l1 r1 b2 l2 r2 b3 l3 r3 uz ul uh f1 g1 f2 g2 pa kd on ot pt fb fl fh tb tl th dg ds) H := hP
  have hD : va_D A (wXp y ad h q n b1 l1 r1 b2 l2 r2 b3 l3 r3 uz ul uh f1 g1 f2 g2 pa kd on ot pt fb fl fh tb tl th dg ds) := hD
  refine lv_iload_n hx hb dX7_zero_8 rfl (lv_at hl 2 rfl) ?_
  refine lv_bipush (v := -9) hx hb dX7_zero_9 (by decide) ?_
  refine lv_bipush (v := 9) hx hb dX7_zero_11 (by decide) ?_
  refine g_callv (va_runS (As := [.int b, .int (-9), .int 9]) (rest := []) ⟨hx, hb, hml, hown, hts⟩ (c_X7_requireWithin_0 l hfl D y ad H.size b (-9) 9 h1b h2b) (va_cwS 3 hts gX7_zero_X7_requireWithin rfl rfl rfl (by decide +kernel) ⟨Nat.le_of_ble_eq_true rfl, Nat.le_of_ble_eq_true rfl⟩) (gPX_S0 hK hE hS hA) rfl rfl hl.1 rfl (lv_room (Nat.le_of_ble_eq_true rfl)) dX7_zero_13 ⟨Nat.zero_le _, Nat.zero_le _⟩) hP hD hS hA [] rfl (fun H locs hP hD hS => ?_)
  have hP : va_P D vwCl (wXp y ad h q n b1 l1 r1 b2 l2 r2 b3 l3 r3 uz ul uh f1 g1 f2 g2 pa kd on ot pt fb fl fh tb tl th dg ds) H := hP
  have hD : va_D A (wXp y ad h q n b1 l1 r1 b2 l2 r2 b3 l3 r3 uz ul uh f1 g1 f2 g2 pa kd on ot pt fb fl fh tb tl th dg ds) := hD
  refine lv_iload_n hx hb dX7_zero_16 rfl (lv_at hl 3 rfl) ?_
  refine lv_bipush (v := -9) hx hb dX7_zero_17 (by decide) ?_
  refine lv_bipush (v := 9) hx hb dX7_zero_19 (by decide) ?_
  refine g_callv (va_runS (As := [.int c0, .int (-9), .int 9]) (rest := []) ⟨hx, hb, hml, hown, hts⟩ (c_X7_requireWithin_0 l hfl D y ad H.size c0 (-9) 9 h1c0 h2c0) (va_cwS 3 hts gX7_zero_X7_requireWithin rfl rfl rfl (by decide +kernel) ⟨Nat.le_of_ble_eq_true rfl, Nat.le_of_ble_eq_true rfl⟩) (gPX_S0 hK hE hS hA) rfl rfl hl.1 rfl (lv_room (Nat.le_of_ble_eq_true rfl)) dX7_zero_21 ⟨Nat.zero_le _, Nat.zero_le _⟩) hP hD hS hA [] rfl (fun H locs hP hD hS => ?_)
  have hP : va_P D vwCl (wXp y ad h q n b1 l1 r1 b2 l2 r2 b3 l3 r3 uz ul uh f1 g1 f2 g2 pa kd on ot pt fb fl fh tb tl th dg ds) H := hP
  have hD : va_D A (wXp y ad h q n b1 l1 r1 b2 l2 r2 b3 l3 r3 uz ul uh f1 g1 f2 g2 pa kd on ot pt fb fl fh tb tl th dg ds) := hD
  refine lv_iload hx hb dX7_zero_24 (lv_at hl 4 rfl) ?_
  refine lv_bipush (v := -9) hx hb dX7_zero_26 (by decide) ?_
  refine lv_bipush (v := 9) hx hb dX7_zero_28 (by decide) ?_
  refine g_callv (va_runS (As := [.int d0, .int (-9), .int 9]) (rest := []) ⟨hx, hb, hml, hown, hts⟩ (c_X7_requireWithin_0 l hfl D y ad H.size d0 (-9) 9 h1d0 h2d0) (va_cwS 3 hts gX7_zero_X7_requireWithin rfl rfl rfl (by decide +kernel) ⟨Nat.le_of_ble_eq_true rfl, Nat.le_of_ble_eq_true rfl⟩) (gPX_S0 hK hE hS hA) rfl rfl hl.1 rfl (lv_room (Nat.le_of_ble_eq_true rfl)) dX7_zero_30 ⟨Nat.zero_le _, Nat.zero_le _⟩) hP hD hS hA [] rfl (fun H locs hP hD hS => ?_)
  have hP : va_P D vwCl (wXp y ad h q n b1 l1 r1 b2 l2 r2 b3 l3 r3 uz ul uh f1 g1 f2 g2 pa kd on ot pt fb fl fh tb tl th dg ds) H := hP
  have hD : va_D A (wXp y ad h q n b1 l1 r1 b2 l2 r2 b3 l3 r3 uz ul uh f1 g1 f2 g2 pa kd on ot pt fb fl fh tb tl th dg ds) := hD
  refine lv_iload hx hb dX7_zero_33 (lv_at hl 5 rfl) ?_
  refine lv_bipush (v := -4) hx hb dX7_zero_35 (by decide) ?_
  refine lv_iconst (v := 3) hx hb dX7_zero_37 (by decide) ?_
  refine g_callv (va_runS (As := [.int fr, .int (-4), .int 3]) (rest := []) ⟨hx, hb, hml, hown, hts⟩ (c_X7_requireWithin_0 l hfl D y ad H.size fr (-4) 3 h1fr h2fr) (va_cwS 3 hts gX7_zero_X7_requireWithin rfl rfl rfl (by decide +kernel) ⟨Nat.le_of_ble_eq_true rfl, Nat.le_of_ble_eq_true rfl⟩) (gPX_S0 hK hE hS hA) rfl rfl hl.1 rfl (lv_room (Nat.le_of_ble_eq_true rfl)) dX7_zero_38 ⟨Nat.zero_le _, Nat.zero_le _⟩) hP hD hS hA [] rfl (fun H locs hP hD hS => ?_)
  have hP : va_P D vwCl (wXp y ad h q n b1 l1 r1 b2 l2 r2 b3 l3 r3 uz ul uh f1 g1 f2 g2 pa kd on ot pt fb fl fh tb tl th dg ds) H := hP
  have hD : va_D A (wXp y ad h q n b1 l1 r1 b2 l2 r2 b3 l3 r3 uz ul uh f1 g1 f2 g2 pa kd on ot pt fb fl fh tb tl th dg ds) := hD
  refine lv_iload hx hb dX7_zero_41 (lv_at hl 6 rfl) ?_
  refine lv_iconst (v := 0) hx hb dX7_zero_43 (by decide) ?_
  refine lv_iconst (v := 2) hx hb dX7_zero_44 (by decide) ?_
  exact g_outS (vx_runS (As := [.int hv, .int 0, .int 2]) (rest := []) ⟨hx, hb, hml, hown, hts⟩ (c_X7_requireWithin_X l hfl D y ad H.size hv 0 2 hbad) (va_cwS 3 hts gX7_zero_X7_requireWithin rfl rfl rfl (by decide +kernel) ⟨Nat.le_of_ble_eq_true rfl, Nat.le_of_ble_eq_true rfl⟩) (gPX_S0 hK hE hS hA) rfl rfl hl.1 rfl (lv_room (Nat.le_of_ble_eq_true rfl)) dX7_zero_45 ⟨Nat.le_of_ble_eq_true rfl, Nat.le_of_ble_eq_true rfl⟩) hAe hP hS hA rfl rfl hno hlocks (Nat.le_of_ble_eq_true rfl) (Nat.le_of_ble_eq_true rfl)
set_option maxHeartbeats 4000000 in
set_option maxRecDepth 100000 in
theorem c_X7_zero_X2 (l : Launch) (hfl : l.stackTraces = false) (D : va_G) (y : Nat → ClassId) (ad : Nat → Nat) (sz : Nat) (h : Nat) (q : Nat → Nat) (n : Nat) (b1 : Bool) (l1 r1 : Int64) (b2 : Bool) (l2 r2 : Int64) (b3 : Bool) (l3 r3 : Int64) (uz : Nat → Bool) (ul uh : Nat → Int64) (f1 g1 f2 g2 : Int64) (pa : Nat → Nat → Nat) (kd : Nat → Nat) (on ot : Nat → Int32) (pt : Nat → Int64) (fb : Nat → Nat → Bool) (fl fh : Nat → Nat → Int64) (tb : Nat → Nat → Bool) (tl th : Nat → Nat → Int64) (dg : Nat → Int32) (ds : Nat → Int64) (a b c0 d0 fr hv : Int32)  (h1a : ¬ a < -9) (h2a : a ≤ 9) (h1b : ¬ b < -9) (h2b : b ≤ 9) (h1c0 : ¬ c0 < -9) (h2c0 : c0 ≤ 9) (h1d0 : ¬ d0 < -9) (h2d0 : d0 ≤ 9) (h1fr : ¬ fr < -4) (h2fr : fr ≤ 3) (h1hv : ¬ hv < 0) (h2hv : hv ≤ 2) (hn : ¬ n < 40) (hn2 : n ≤ 40) : vx_Met l yX7_zero wsX7_zero ({ frames := 7, cells := 1, slots := 6, locals := 112 } : Room) (gPX D y ad [.ref h, .int a, .int b, .int c0, .int d0, .int fr, .int hv] (wXp y ad h q n b1 l1 r1 b2 l2 r2 b3 l3 r3 uz ul uh f1 g1 f2 g2 pa kd on ot pt fb fl fh tb tl th dg ds) sz) gNo (gXC D (wXp y ad h q n b1 l1 r1 b2 l2 r2 b3 l3 r3 uz ul uh f1 g1 f2 g2 pa kd on ot pt fb fl fh tb tl th dg ds) gISE (fun w => w = wXp y ad h q n b1 l1 r1 b2 l2 r2 b3 l3 r3 uz ul uh f1 g1 f2 g2 pa kd on ot pt fb fl fh tb tl th dg ds)) 1 6 (va_A (wXp y ad h q n b1 l1 r1 b2 l2 r2 b3 l3 r3 uz ul uh f1 g1 f2 g2 pa kd on ot pt fb fl fh tb tl th dg ds) sz) := by
  refine vx_ofW (cc := cX7_zero) (maxL := 12) (ret := (some .int)) (by decide) rfl ?_
  intro pg e s m args below meth c s₁ B hml hno hv
  obtain ⟨rfl, hsz, hP, hK, hD0, hE0⟩ := hv
  have hx := B.exec
  have hb := B.bytes
  have hr := B.returns
  have hts := atoms_spec (ws := wsX7_zero) B.pre
  have hown : s.vm.findClass RX7 = some m.cls := findClass_of_methodNamed B.named
  have hlocks := B.notSynchronized
  subst hsz
  obtain ⟨A, hAe⟩ : ∃ A : Nat → Prop, A = va_A (wXp y ad h q n b1 l1 r1 b2 l2 r2 b3 l3 r3 uz ul uh f1 g1 f2 g2 pa kd on ot pt fb fl fh tb tl th dg ds) s.heap.size := ⟨_, rfl⟩
  have hE : gE ad A s s.heap := by rw [hAe]; exact hE0
  have hD : va_D A (wXp y ad h q n b1 l1 r1 b2 l2 r2 b3 l3 r3 uz ul uh f1 g1 f2 g2 pa kd on ot pt fb fl fh tb tl th dg ds) := by rw [hAe]; exact hD0.self (sz := s.heap.size)
  have hA : ∀ q : Nat, s.heap.size ≤ q → A q := fun q h => by rw [hAe]; exact Or.inr h
  have hS : va_S A s.heap s.heap [] := va_S.rf
  have hl := lv_entry ([.ref h, .int a, .int b, .int c0, .int d0, .int fr, .int hv]) (n := 12) (Nat.le_of_ble_eq_true rfl)
  rw [lg_entry_eq]
  generalize (lg_sl ([.ref h, .int a, .int b, .int c0, .int d0, .int fr, .int hv]) ++ List.replicate (12 - (lg_sl ([.ref h, .int a, .int b, .int c0, .int d0, .int fr, .int hv])).length) Slot.unset).toArray = ls at hl ⊢
  have hl : lv_has ls 12 [(0, .ref h), (1, .int a), (2, .int b), (3, .int c0), (4, .int d0), (5, .int fr), (6, .int hv)] := hl
  refine lv_iload_n hx hb dX7_zero_0 rfl (lv_at hl 1 rfl) ?_
  refine lv_bipush (v := -9) hx hb dX7_zero_1 (by decide) ?_
  refine lv_bipush (v := 9) hx hb dX7_zero_3 (by decide) ?_
  refine g_callv (va_runS (As := [.int a, .int (-9), .int 9]) (rest := []) ⟨hx, hb, hml, hown, hts⟩ (c_X7_requireWithin_0 l hfl D y ad s.heap.size a (-9) 9 h1a h2a) (va_cwS 3 hts gX7_zero_X7_requireWithin rfl rfl rfl (by decide +kernel) ⟨Nat.le_of_ble_eq_true rfl, Nat.le_of_ble_eq_true rfl⟩) (gPX_S0 hK hE hS hA) rfl rfl hl.1 rfl (lv_room (Nat.le_of_ble_eq_true rfl)) dX7_zero_5 ⟨Nat.zero_le _, Nat.zero_le _⟩) hP hD hS hA [] rfl (fun H locs hP hD hS => ?_)
  have hP : va_P D vwCl (wXp y ad h q n b1 l1 r1 b2 l2 r2 b3 l3 r3 uz ul uh f1 g1 f2 g2 pa kd on ot pt fb fl fh tb tl th dg ds) H := hP
  have hD : va_D A (wXp y ad h q n b1 l1 r1 b2 l2 r2 b3 l3 r3 uz ul uh f1 g1 f2 g2 pa kd on ot pt fb fl fh tb tl th dg ds) := hD
  refine lv_iload_n hx hb dX7_zero_8 rfl (lv_at hl 2 rfl) ?_
  refine lv_bipush (v := -9) hx hb dX7_zero_9 (by decide) ?_
  refine lv_bipush (v := 9) hx hb dX7_zero_11 (by decide) ?_
  refine g_callv (va_runS (As := [.int b, .int (-9), .int 9]) (rest := []) ⟨hx, hb, hml, hown, hts⟩ (c_X7_requireWithin_0 l hfl D y ad H.size b (-9) 9 h1b h2b) (va_cwS 3 hts gX7_zero_X7_requireWithin rfl rfl rfl (by decide +kernel) ⟨Nat.le_of_ble_eq_true rfl, Nat.le_of_ble_eq_true rfl⟩) (gPX_S0 hK hE hS hA) rfl rfl hl.1 rfl (lv_room (Nat.le_of_ble_eq_true rfl)) dX7_zero_13 ⟨Nat.zero_le _, Nat.zero_le _⟩) hP hD hS hA [] rfl (fun H locs hP hD hS => ?_)
  have hP : va_P D vwCl (wXp y ad h q n b1 l1 r1 b2 l2 r2 b3 l3 r3 uz ul uh f1 g1 f2 g2 pa kd on ot pt fb fl fh tb tl th dg ds) H := hP
  have hD : va_D A (wXp y ad h q n b1 l1 r1 b2 l2 r2 b3 l3 r3 uz ul uh f1 g1 f2 g2 pa kd on ot pt fb fl fh tb tl th dg ds) := hD
  refine lv_iload_n hx hb dX7_zero_16 rfl (lv_at hl 3 rfl) ?_
  refine lv_bipush (v := -9) hx hb dX7_zero_17 (by decide) ?_
  refine lv_bipush (v := 9) hx hb dX7_zero_19 (by decide) ?_
  refine g_callv (va_runS (As := [.int c0, .int (-9), .int 9]) (rest := []) ⟨hx, hb, hml, hown, hts⟩ (c_X7_requireWithin_0 l hfl D y ad H.size c0 (-9) 9 h1c0 h2c0) (va_cwS 3 hts gX7_zero_X7_requireWithin rfl rfl rfl (by decide +kernel) ⟨Nat.le_of_ble_eq_true rfl, Nat.le_of_ble_eq_true rfl⟩) (gPX_S0 hK hE hS hA) rfl rfl hl.1 rfl (lv_room (Nat.le_of_ble_eq_true rfl)) dX7_zero_21 ⟨Nat.zero_le _, Nat.zero_le _⟩) hP hD hS hA [] rfl (fun H locs hP hD hS => ?_)
  have hP : va_P D vwCl (wXp y ad h q n b1 l1 r1 b2 l2 r2 b3 l3 r3 uz ul uh f1 g1 f2 g2 pa kd on ot pt fb fl fh tb tl th dg ds) H := hP
  have hD : va_D A (wXp y ad h q n b1 l1 r1 b2 l2 r2 b3 l3 r3 uz ul uh f1 g1 f2 g2 pa kd on ot pt fb fl fh tb tl th dg ds) := hD
  refine lv_iload hx hb dX7_zero_24 (lv_at hl 4 rfl) ?_
  refine lv_bipush (v := -9) hx hb dX7_zero_26 (by decide) ?_
  refine lv_bipush (v := 9) hx hb dX7_zero_28 (by decide) ?_
  refine g_callv (va_runS (As := [.int d0, .int (-9), .int 9]) (rest := []) ⟨hx, hb, hml, hown, hts⟩ (c_X7_requireWithin_0 l hfl D y ad H.size d0 (-9) 9 h1d0 h2d0) (va_cwS 3 hts gX7_zero_X7_requireWithin rfl rfl rfl (by decide +kernel) ⟨Nat.le_of_ble_eq_true rfl, Nat.le_of_ble_eq_true rfl⟩) (gPX_S0 hK hE hS hA) rfl rfl hl.1 rfl (lv_room (Nat.le_of_ble_eq_true rfl)) dX7_zero_30 ⟨Nat.zero_le _, Nat.zero_le _⟩) hP hD hS hA [] rfl (fun H locs hP hD hS => ?_)
  have hP : va_P D vwCl (wXp y ad h q n b1 l1 r1 b2 l2 r2 b3 l3 r3 uz ul uh f1 g1 f2 g2 pa kd on ot pt fb fl fh tb tl th dg ds) H := hP
  have hD : va_D A (wXp y ad h q n b1 l1 r1 b2 l2 r2 b3 l3 r3 uz ul uh f1 g1 f2 g2 pa kd on ot pt fb fl fh tb tl th dg ds) := hD
  refine lv_iload hx hb dX7_zero_33 (lv_at hl 5 rfl) ?_
  refine lv_bipush (v := -4) hx hb dX7_zero_35 (by decide) ?_
  refine lv_iconst (v := 3) hx hb dX7_zero_37 (by decide) ?_
  refine g_callv (va_runS (As := [.int fr, .int (-4), .int 3]) (rest := []) ⟨hx, hb, hml, hown, hts⟩ (c_X7_requireWithin_0 l hfl D y ad H.size fr (-4) 3 h1fr h2fr) (va_cwS 3 hts gX7_zero_X7_requireWithin rfl rfl rfl (by decide +kernel) ⟨Nat.le_of_ble_eq_true rfl, Nat.le_of_ble_eq_true rfl⟩) (gPX_S0 hK hE hS hA) rfl rfl hl.1 rfl (lv_room (Nat.le_of_ble_eq_true rfl)) dX7_zero_38 ⟨Nat.zero_le _, Nat.zero_le _⟩) hP hD hS hA [] rfl (fun H locs hP hD hS => ?_)
  have hP : va_P D vwCl (wXp y ad h q n b1 l1 r1 b2 l2 r2 b3 l3 r3 uz ul uh f1 g1 f2 g2 pa kd on ot pt fb fl fh tb tl th dg ds) H := hP
  have hD : va_D A (wXp y ad h q n b1 l1 r1 b2 l2 r2 b3 l3 r3 uz ul uh f1 g1 f2 g2 pa kd on ot pt fb fl fh tb tl th dg ds) := hD
  refine lv_iload hx hb dX7_zero_41 (lv_at hl 6 rfl) ?_
  refine lv_iconst (v := 0) hx hb dX7_zero_43 (by decide) ?_
  refine lv_iconst (v := 2) hx hb dX7_zero_44 (by decide) ?_
  refine g_callv (va_runS (As := [.int hv, .int 0, .int 2]) (rest := []) ⟨hx, hb, hml, hown, hts⟩ (c_X7_requireWithin_0 l hfl D y ad H.size hv 0 2 h1hv h2hv) (va_cwS 3 hts gX7_zero_X7_requireWithin rfl rfl rfl (by decide +kernel) ⟨Nat.le_of_ble_eq_true rfl, Nat.le_of_ble_eq_true rfl⟩) (gPX_S0 hK hE hS hA) rfl rfl hl.1 rfl (lv_room (Nat.le_of_ble_eq_true rfl)) dX7_zero_45 ⟨Nat.zero_le _, Nat.zero_le _⟩) hP hD hS hA [] rfl (fun H locs hP hD hS => ?_)
  have hP : va_P D vwCl (wXp y ad h q n b1 l1 r1 b2 l2 r2 b3 l3 r3 uz ul uh f1 g1 f2 g2 pa kd on ot pt fb fl fh tb tl th dg ds) H := hP
  have hD : va_D A (wXp y ad h q n b1 l1 r1 b2 l2 r2 b3 l3 r3 uz ul uh f1 g1 f2 g2 pa kd on ot pt fb fl fh tb tl th dg ds) := hD
  refine lv_aload_n hx hb dX7_zero_48 rfl (lv_at hl 0 rfl) ?_
  exact g_outX (vx_runV (As := []) (rest := []) ⟨hx, hb, hml, hown, hts⟩ (c_X7_requireRoom_X l hfl D y ad H.size h q n b1 l1 r1 b2 l2 r2 b3 l3 r3 uz ul uh f1 g1 f2 g2 pa kd on ot pt fb fl fh tb tl th dg ds hn hn2) (cwV 0 hts gX7_zero_X7_requireRoom rfl rfl rfl (by decide +kernel) ⟨Nat.le_of_ble_eq_true rfl, Nat.le_of_ble_eq_true rfl⟩) (gPX_VA hP hD hK hE hS hA 0 rfl rfl) rfl rfl hl.1 rfl (lv_room (Nat.le_of_ble_eq_true rfl)) dX7_zero_49 ⟨Nat.le_of_ble_eq_true rfl, Nat.le_of_ble_eq_true rfl⟩) hAe hD hS hA (fun w1 h9 => h9) rfl hno hlocks (Nat.le_of_ble_eq_true rfl) (Nat.le_of_ble_eq_true rfl)
theorem in_X7_zero_X4 : ∀ w ∈ wsX40, w ∈ wsX7_zero := fun _ h => List.mem_cons_of_mem _ (List.mem_append_left _ (List.mem_append_left _ (List.mem_append_left _ (List.mem_append_left _ (List.mem_append_left _ (List.mem_append_left _ (List.mem_append_right _ h)))))))
theorem in_X7_zero_ise : ∀ w ∈ (vx_atS RX7 138 "java/lang/IllegalStateException" ["java/lang/RuntimeException", "java/lang/Exception"]).filter goodWord, w ∈ wsX7_zero := fun _ h => List.mem_cons_of_mem _ (List.mem_append_left _ (List.mem_append_right _ h))
set_option maxHeartbeats 4000000 in
set_option maxRecDepth 100000 in
theorem c_X7_zero_X3 (l : Launch) (hfl : l.stackTraces = false) (D : va_G) (y : Nat → ClassId) (ad : Nat → Nat) (sz : Nat) (h : Nat) (q : Nat → Nat) (n : Nat) (b1 : Bool) (l1 r1 : Int64) (b2 : Bool) (l2 r2 : Int64) (b3 : Bool) (l3 r3 : Int64) (uz : Nat → Bool) (ul uh : Nat → Int64) (f1 g1 f2 g2 : Int64) (pa : Nat → Nat → Nat) (kd : Nat → Nat) (on ot : Nat → Int32) (pt : Nat → Int64) (fb : Nat → Nat → Bool) (fl fh : Nat → Nat → Int64) (tb : Nat → Nat → Bool) (tl th : Nat → Nat → Int64) (dg : Nat → Int32) (ds : Nat → Int64) (a b c0 d0 fr hv : Int32)  (h1a : ¬ a < -9) (h2a : a ≤ 9) (h1b : ¬ b < -9) (h2b : b ≤ 9) (h1c0 : ¬ c0 < -9) (h2c0 : c0 ≤ 9) (h1d0 : ¬ d0 < -9) (h2d0 : d0 ≤ 9) (h1fr : ¬ fr < -4) (h2fr : fr ≤ 3) (h1hv : ¬ hv < 0) (h2hv : hv ≤ 2) (hn : n < 40) (hs : ¬ (sp_X4_signAt a.toInt64 b.toInt64 c0.toInt64 d0.toInt64 fr.toInt64 0) * (sp_X4_signAt a.toInt64 b.toInt64 c0.toInt64 d0.toInt64 (fr + (1 <<< (hv &&& 31))).toInt64 0) < 0) : vx_Met l yX7_zero wsX7_zero ({ frames := 6, cells := 2, slots := 10, locals := 92 } : Room) (gPX D y ad [.ref h, .int a, .int b, .int c0, .int d0, .int fr, .int hv] (wXp y ad h q n b1 l1 r1 b2 l2 r2 b3 l3 r3 uz ul uh f1 g1 f2 g2 pa kd on ot pt fb fl fh tb tl th dg ds) sz) gNo (gXC D (wXp y ad h q n b1 l1 r1 b2 l2 r2 b3 l3 r3 uz ul uh f1 g1 f2 g2 pa kd on ot pt fb fl fh tb tl th dg ds) gISE (fun w => w = wXp y ad h q n b1 l1 r1 b2 l2 r2 b3 l3 r3 uz ul uh f1 g1 f2 g2 pa kd on ot pt fb fl fh tb tl th dg ds)) 2 10 (va_A (wXp y ad h q n b1 l1 r1 b2 l2 r2 b3 l3 r3 uz ul uh f1 g1 f2 g2 pa kd on ot pt fb fl fh tb tl th dg ds) sz) := by
  refine vx_ofW (cc := cX7_zero) (maxL := 12) (ret := (some .int)) (by decide) rfl ?_
  intro pg e s m args below meth c s₁ B hml hno hv
  obtain ⟨rfl, hsz, hP, hK, hD0, hE0⟩ := hv
  have hx := B.exec
  have hb := B.bytes
  have hr := B.returns
  have hts := atoms_spec (ws := wsX7_zero) B.pre
  have hown : s.vm.findClass RX7 = some m.cls := findClass_of_methodNamed B.named
  have hlocks := B.notSynchronized
  subst hsz
  obtain ⟨A, hAe⟩ : ∃ A : Nat → Prop, A = va_A (wXp y ad h q n b1 l1 r1 b2 l2 r2 b3 l3 r3 uz ul uh f1 g1 f2 g2 pa kd on ot pt fb fl fh tb tl th dg ds) s.heap.size := ⟨_, rfl⟩
  have hE : gE ad A s s.heap := by rw [hAe]; exact hE0
  have hD : va_D A (wXp y ad h q n b1 l1 r1 b2 l2 r2 b3 l3 r3 uz ul uh f1 g1 f2 g2 pa kd on ot pt fb fl fh tb tl th dg ds) := by rw [hAe]; exact hD0.self (sz := s.heap.size)
  have hA : ∀ q : Nat, s.heap.size ≤ q → A q := fun q h => by rw [hAe]; exact Or.inr h
  have hS : va_S A s.heap s.heap [] := va_S.rf
  have hl := lv_entry ([.ref h, .int a, .int b, .int c0, .int d0, .int fr, .int hv]) (n := 12) (Nat.le_of_ble_eq_true rfl)
  rw [lg_entry_eq]
  generalize (lg_sl ([.ref h, .int a, .int b, .int c0, .int d0, .int fr, .int hv]) ++ List.replicate (12 - (lg_sl ([.ref h, .int a, .int b, .int c0, .int d0, .int fr, .int hv])).length) Slot.unset).toArray = ls at hl ⊢
  have hl : lv_has ls 12 [(0, .ref h), (1, .int a), (2, .int b), (3, .int c0), (4, .int d0), (5, .int fr), (6, .int hv)] := hl
  refine lv_iload_n hx hb dX7_zero_0 rfl (lv_at hl 1 rfl) ?_
  refine lv_bipush (v := -9) hx hb dX7_zero_1 (by decide) ?_
  refine lv_bipush (v := 9) hx hb dX7_zero_3 (by decide) ?_
  refine g_callv (va_runS (As := [.int a, .int (-9), .int 9]) (rest := []) ⟨hx, hb, hml, hown, hts⟩ (c_X7_requireWithin_0 l hfl D y ad s.heap.size a (-9) 9 h1a h2a) (va_cwS 3 hts gX7_zero_X7_requireWithin rfl rfl rfl (by decide +kernel) ⟨Nat.le_of_ble_eq_true rfl, Nat.le_of_ble_eq_true rfl⟩) (gPX_S0 hK hE hS hA) rfl rfl hl.1 rfl (lv_room (Nat.le_of_ble_eq_true rfl)) dX7_zero_5 ⟨Nat.le_of_ble_eq_true rfl, Nat.le_of_ble_eq_true rfl⟩) hP hD hS hA [] rfl (fun H locs hP hD hS => ?_)
  have hP : va_P D vwCl (wXp y ad h q n b1 l1 r1 b2 l2 r2 b3 l3 r3 uz ul uh f1 g1 f2 g2 pa kd on ot pt fb fl fh tb tl th dg ds) H := hP
  have hD : va_D A (wXp y ad h q n b1 l1 r1 b2 l2 r2 b3 l3 r3 uz ul uh f1 g1 f2 g2 pa kd on ot pt fb fl fh tb tl th dg ds) := hD
  refine lv_iload_n hx hb dX7_zero_8 rfl (lv_at hl 2 rfl) ?_
  refine lv_bipush (v := -9) hx hb dX7_zero_9 (by decide) ?_
  refine lv_bipush (v := 9) hx hb dX7_zero_11 (by decide) ?_
  refine g_callv (va_runS (As := [.int b, .int (-9), .int 9]) (rest := []) ⟨hx, hb, hml, hown, hts⟩ (c_X7_requireWithin_0 l hfl D y ad H.size b (-9) 9 h1b h2b) (va_cwS 3 hts gX7_zero_X7_requireWithin rfl rfl rfl (by decide +kernel) ⟨Nat.le_of_ble_eq_true rfl, Nat.le_of_ble_eq_true rfl⟩) (gPX_S0 hK hE hS hA) rfl rfl hl.1 rfl (lv_room (Nat.le_of_ble_eq_true rfl)) dX7_zero_13 ⟨Nat.le_of_ble_eq_true rfl, Nat.le_of_ble_eq_true rfl⟩) hP hD hS hA [] rfl (fun H locs hP hD hS => ?_)
  have hP : va_P D vwCl (wXp y ad h q n b1 l1 r1 b2 l2 r2 b3 l3 r3 uz ul uh f1 g1 f2 g2 pa kd on ot pt fb fl fh tb tl th dg ds) H := hP
  have hD : va_D A (wXp y ad h q n b1 l1 r1 b2 l2 r2 b3 l3 r3 uz ul uh f1 g1 f2 g2 pa kd on ot pt fb fl fh tb tl th dg ds) := hD
  refine lv_iload_n hx hb dX7_zero_16 rfl (lv_at hl 3 rfl) ?_
  refine lv_bipush (v := -9) hx hb dX7_zero_17 (by decide) ?_
  refine lv_bipush (v := 9) hx hb dX7_zero_19 (by decide) ?_
  refine g_callv (va_runS (As := [.int c0, .int (-9), .int 9]) (rest := []) ⟨hx, hb, hml, hown, hts⟩ (c_X7_requireWithin_0 l hfl D y ad H.size c0 (-9) 9 h1c0 h2c0) (va_cwS 3 hts gX7_zero_X7_requireWithin rfl rfl rfl (by decide +kernel) ⟨Nat.le_of_ble_eq_true rfl, Nat.le_of_ble_eq_true rfl⟩) (gPX_S0 hK hE hS hA) rfl rfl hl.1 rfl (lv_room (Nat.le_of_ble_eq_true rfl)) dX7_zero_21 ⟨Nat.le_of_ble_eq_true rfl, Nat.le_of_ble_eq_true rfl⟩) hP hD hS hA [] rfl (fun H locs hP hD hS => ?_)
  have hP : va_P D vwCl (wXp y ad h q n b1 l1 r1 b2 l2 r2 b3 l3 r3 uz ul uh f1 g1 f2 g2 pa kd on ot pt fb fl fh tb tl th dg ds) H := hP
  have hD : va_D A (wXp y ad h q n b1 l1 r1 b2 l2 r2 b3 l3 r3 uz ul uh f1 g1 f2 g2 pa kd on ot pt fb fl fh tb tl th dg ds) := hD
  refine lv_iload hx hb dX7_zero_24 (lv_at hl 4 rfl) ?_
  refine lv_bipush (v := -9) hx hb dX7_zero_26 (by decide) ?_
  refine lv_bipush (v := 9) hx hb dX7_zero_28 (by decide) ?_
  refine g_callv (va_runS (As := [.int d0, .int (-9), .int 9]) (rest := []) ⟨hx, hb, hml, hown, hts⟩ (c_X7_requireWithin_0 l hfl D y ad H.size d0 (-9) 9 h1d0 h2d0) (va_cwS 3 hts gX7_zero_X7_requireWithin rfl rfl rfl (by decide +kernel) ⟨Nat.le_of_ble_eq_true rfl, Nat.le_of_ble_eq_true rfl⟩) (gPX_S0 hK hE hS hA) rfl rfl hl.1 rfl (lv_room (Nat.le_of_ble_eq_true rfl)) dX7_zero_30 ⟨Nat.le_of_ble_eq_true rfl, Nat.le_of_ble_eq_true rfl⟩) hP hD hS hA [] rfl (fun H locs hP hD hS => ?_)
  have hP : va_P D vwCl (wXp y ad h q n b1 l1 r1 b2 l2 r2 b3 l3 r3 uz ul uh f1 g1 f2 g2 pa kd on ot pt fb fl fh tb tl th dg ds) H := hP
  have hD : va_D A (wXp y ad h q n b1 l1 r1 b2 l2 r2 b3 l3 r3 uz ul uh f1 g1 f2 g2 pa kd on ot pt fb fl fh tb tl th dg ds) := hD
  refine lv_iload hx hb dX7_zero_33 (lv_at hl 5 rfl) ?_
  refine lv_bipush (v := -4) hx hb dX7_zero_35 (by decide) ?_
  refine lv_iconst (v := 3) hx hb dX7_zero_37 (by decide) ?_
  refine g_callv (va_runS (As := [.int fr, .int (-4), .int 3]) (rest := []) ⟨hx, hb, hml, hown, hts⟩ (c_X7_requireWithin_0 l hfl D y ad H.size fr (-4) 3 h1fr h2fr) (va_cwS 3 hts gX7_zero_X7_requireWithin rfl rfl rfl (by decide +kernel) ⟨Nat.le_of_ble_eq_true rfl, Nat.le_of_ble_eq_true rfl⟩) (gPX_S0 hK hE hS hA) rfl rfl hl.1 rfl (lv_room (Nat.le_of_ble_eq_true rfl)) dX7_zero_38 ⟨Nat.le_of_ble_eq_true rfl, Nat.le_of_ble_eq_true rfl⟩) hP hD hS hA [] rfl (fun H locs hP hD hS => ?_)
  have hP : va_P D vwCl (wXp y ad h q n b1 l1 r1 b2 l2 r2 b3 l3 r3 uz ul uh f1 g1 f2 g2 pa kd on ot pt fb fl fh tb tl th dg ds) H := hP
  have hD : va_D A (wXp y ad h q n b1 l1 r1 b2 l2 r2 b3 l3 r3 uz ul uh f1 g1 f2 g2 pa kd on ot pt fb fl fh tb tl th dg ds) := hD
  refine lv_iload hx hb dX7_zero_41 (lv_at hl 6 rfl) ?_
  refine lv_iconst (v := 0) hx hb dX7_zero_43 (by decide) ?_
  refine lv_iconst (v := 2) hx hb dX7_zero_44 (by decide) ?_
  refine g_callv (va_runS (As := [.int hv, .int 0, .int 2]) (rest := []) ⟨hx, hb, hml, hown, hts⟩ (c_X7_requireWithin_0 l hfl D y ad H.size hv 0 2 h1hv h2hv) (va_cwS 3 hts gX7_zero_X7_requireWithin rfl rfl rfl (by decide +kernel) ⟨Nat.le_of_ble_eq_true rfl, Nat.le_of_ble_eq_true rfl⟩) (gPX_S0 hK hE hS hA) rfl rfl hl.1 rfl (lv_room (Nat.le_of_ble_eq_true rfl)) dX7_zero_45 ⟨Nat.le_of_ble_eq_true rfl, Nat.le_of_ble_eq_true rfl⟩) hP hD hS hA [] rfl (fun H locs hP hD hS => ?_)
  have hP : va_P D vwCl (wXp y ad h q n b1 l1 r1 b2 l2 r2 b3 l3 r3 uz ul uh f1 g1 f2 g2 pa kd on ot pt fb fl fh tb tl th dg ds) H := hP
  have hD : va_D A (wXp y ad h q n b1 l1 r1 b2 l2 r2 b3 l3 r3 uz ul uh f1 g1 f2 g2 pa kd on ot pt fb fl fh tb tl th dg ds) := hD
  refine lv_aload_n hx hb dX7_zero_48 rfl (lv_at hl 0 rfl) ?_
  refine g_callAv (w0 := wXp y ad h q n b1 l1 r1 b2 l2 r2 b3 l3 r3 uz ul uh f1 g1 f2 g2 pa kd on ot pt fb fl fh tb tl th dg ds) (va_runV (As := []) (rest := []) ⟨hx, hb, hml, hown, hts⟩ (c_X7_requireRoom_0 l hfl D y ad H.size h q n b1 l1 r1 b2 l2 r2 b3 l3 r3 uz ul uh f1 g1 f2 g2 pa kd on ot pt fb fl fh tb tl th dg ds hn) (cwV 0 hts gX7_zero_X7_requireRoom rfl rfl rfl (by decide +kernel) ⟨Nat.le_of_ble_eq_true rfl, Nat.le_of_ble_eq_true rfl⟩) (gPX_VA hP hD hK hE hS hA 0 rfl rfl) rfl rfl hl.1 rfl (lv_room (Nat.le_of_ble_eq_true rfl)) dX7_zero_49 ⟨Nat.le_of_ble_eq_true rfl, Nat.le_of_ble_eq_true rfl⟩) hP hD hS hA rfl (fun H locs hP hD hS => ?_)
  refine va_new (ci := 2) (fs := [.long 0, .long 0, .long 0, .long 0]) (C := RX4) (T := TX4) (N := 4) hx hb hts in_X7_zero_X4 tyX4 tyX4_ok hown (hts (.classLink RX7 125 RX4) (List.mem_of_getElem? (i := 3) rfl)) (hts (.instantiable RX4 4) (List.mem_of_getElem? (i := 4) rfl)) (hts (.initialized RX4) (List.mem_of_getElem? (i := 5) rfl)) hK.1 hP hD hS hA rfl (fun j hj => by have h8 : ∀ j : Fin 4, defaultValue (tyX4 j.val) = vp_V [.long 0, .long 0, .long 0, .long 0] j.val := (by decide); exact h8 ⟨j, hj⟩) (Nat.le_of_ble_eq_true rfl) (Nat.le_of_ble_eq_true rfl) dX7_zero_52 (fun q52 H hP hD hS => ?_)
  have hP : va_P D vwCl (wXy q52 0 0 0 0 y ad h q n (gPg pa n) n b1 l1 r1 b2 l2 r2 b3 l3 r3 uz ul uh f1 g1 f2 g2 pa kd on ot pt fb fl fh tb tl th dg ds) H := va_P_sw (ws := wXp y ad h q n b1 l1 r1 b2 l2 r2 b3 l3 r3 uz ul uh f1 g1 f2 g2 pa kd on ot pt fb fl fh tb tl th dg ds) (wc := [(q52, .inr (2, [.long 0, .long 0, .long 0, .long 0]))]) hP
  have hD : va_D A (wXy q52 0 0 0 0 y ad h q n (gPg pa n) n b1 l1 r1 b2 l2 r2 b3 l3 r3 uz ul uh f1 g1 f2 g2 pa kd on ot pt fb fl fh tb tl th dg ds) := va_D_sw (ws := wXp y ad h q n b1 l1 r1 b2 l2 r2 b3 l3 r3 uz ul uh f1 g1 f2 g2 pa kd on ot pt fb fl fh tb tl th dg ds) (wc := [(q52, .inr (2, [.long 0, .long 0, .long 0, .long 0]))]) hD
  refine lv_dup hx hb dX7_zero_55 rfl ?_
  refine lv_iload_n hx hb dX7_zero_56 rfl (lv_at hl 1 rfl) ?_
  refine lv_iload_n hx hb dX7_zero_57 rfl (lv_at hl 2 rfl) ?_
  refine lv_iload_n hx hb dX7_zero_58 rfl (lv_at hl 3 rfl) ?_
  refine lv_iload hx hb dX7_zero_59 (lv_at hl 4 rfl) ?_
  refine g_callv (va_runI (As := [.int a, .int b, .int c0, .int d0]) (rest := [.ref q52]) ⟨hx, hb, hml, hown, hts⟩ (c_X4_init l D y H.size q52 0 0 0 0 a b c0 d0) (cwI 4 hts gX7_zero_X4_init rfl rfl rfl (hts (.initialized RX4) (List.mem_of_getElem? (i := 5) rfl)) (hts (.methodLink RX7 127 yX4_init) (List.mem_of_getElem? (i := 24) rfl)) (hts (.instanceMethod yX4_init) (List.mem_of_getElem? (i := 25) rfl)) rfl (by decide +kernel) ⟨Nat.le_of_ble_eq_true rfl, Nat.le_of_ble_eq_true rfl⟩) (gP_S hP hD hK [0] (by decide) rfl) rfl rfl hl.1 rfl (lv_room (Nat.le_of_ble_eq_true rfl)) dX7_zero_61 ⟨Nat.le_of_ble_eq_true rfl, Nat.le_of_ble_eq_true rfl⟩) hP hD hS hA [0] rfl (fun H locs hP hD hS => ?_)
  have hP : va_P D vwCl (wXy q52 a.toInt64 b.toInt64 c0.toInt64 d0.toInt64 y ad h q n (gPg pa n) n b1 l1 r1 b2 l2 r2 b3 l3 r3 uz ul uh f1 g1 f2 g2 pa kd on ot pt fb fl fh tb tl th dg ds) H := hP
  have hD : va_D A (wXy q52 a.toInt64 b.toInt64 c0.toInt64 d0.toInt64 y ad h q n (gPg pa n) n b1 l1 r1 b2 l2 r2 b3 l3 r3 uz ul uh f1 g1 f2 g2 pa kd on ot pt fb fl fh tb tl th dg ds) := hD
  refine lv_astore (lv' := [(7, .ref q52), (0, .ref h), (1, .int a), (2, .int b), (3, .int c0), (4, .int d0), (5, .int fr), (6, .int hv)]) hx hb dX7_zero_64 hl (by decide) rfl (fun ls hl => ?_)
  refine lv_aload hx hb dX7_zero_66 (lv_at hl 0 rfl) ?_
  refine lv_iload hx hb dX7_zero_68 (lv_at hl 6 rfl) ?_
  refine lv_i2l (v := fr.toInt64) hx hb dX7_zero_70 rfl ?_
  refine lv_iconst (v := 0) hx hb dX7_zero_71 (by decide) ?_
  refine g_callR (v0 := .int (sp_X4_signAt a.toInt64 b.toInt64 c0.toInt64 d0.toInt64 fr.toInt64 0)) (va_runV (As := [.long fr.toInt64, .int 0]) (rest := []) ⟨hx, hb, hml, hown, hts⟩ (c_X4_signAt l D y H.size q52 a.toInt64 b.toInt64 c0.toInt64 d0.toInt64 fr.toInt64 0) (cwV 2 hts gX7_zero_X4_signAt rfl rfl rfl (by decide +kernel) ⟨Nat.le_of_ble_eq_true rfl, Nat.le_of_ble_eq_true rfl⟩) (gP_V hP hD hK [0] (by decide) rfl 0 rfl rfl) rfl rfl hl.1 rfl (lv_room (Nat.le_of_ble_eq_true rfl)) dX7_zero_72 ⟨Nat.le_of_ble_eq_true rfl, Nat.le_of_ble_eq_true rfl⟩) ?_
  refine lv_istore (lv' := [(8, .int (sp_X4_signAt a.toInt64 b.toInt64 c0.toInt64 d0.toInt64 fr.toInt64 0)), (7, .ref q52), (0, .ref h), (1, .int a), (2, .int b), (3, .int c0), (4, .int d0), (5, .int fr), (6, .int hv)]) hx hb dX7_zero_75 hl (by decide) rfl (fun ls hl => ?_)
  refine lv_aload hx hb dX7_zero_77 (lv_at hl 1 rfl) ?_
  refine lv_iload hx hb dX7_zero_79 (lv_at hl 7 rfl) ?_
  refine lv_iconst (v := 1) hx hb dX7_zero_81 (by decide) ?_
  refine lv_iload hx hb dX7_zero_82 (lv_at hl 8 rfl) ?_
  refine lv_ishl hx hb dX7_zero_84 ?_
  refine lv_iadd hx hb dX7_zero_85 ?_
  refine lv_i2l (v := (fr + (1 <<< (hv &&& 31))).toInt64) hx hb dX7_zero_86 rfl ?_
  refine lv_iconst (v := 0) hx hb dX7_zero_87 (by decide) ?_
  refine g_callR (v0 := .int (sp_X4_signAt a.toInt64 b.toInt64 c0.toInt64 d0.toInt64 ((fr + (1 <<< (hv &&& 31))).toInt64) 0)) (va_runV (As := [.long ((fr + (1 <<< (hv &&& 31))).toInt64), .int 0]) (rest := []) ⟨hx, hb, hml, hown, hts⟩ (c_X4_signAt l D y H.size q52 a.toInt64 b.toInt64 c0.toInt64 d0.toInt64 ((fr + (1 <<< (hv &&& 31))).toInt64) 0) (cwV 2 hts gX7_zero_X4_signAt rfl rfl rfl (by decide +kernel) ⟨Nat.le_of_ble_eq_true rfl, Nat.le_of_ble_eq_true rfl⟩) (gP_V hP hD hK [0] (by decide) rfl 0 rfl rfl) rfl rfl hl.1 rfl (lv_room (Nat.le_of_ble_eq_true rfl)) dX7_zero_88 ⟨Nat.le_of_ble_eq_true rfl, Nat.le_of_ble_eq_true rfl⟩) ?_
  refine lv_istore (lv' := [(9, .int (sp_X4_signAt a.toInt64 b.toInt64 c0.toInt64 d0.toInt64 ((fr + (1 <<< (hv &&& 31))).toInt64) 0)), (8, .int (sp_X4_signAt a.toInt64 b.toInt64 c0.toInt64 d0.toInt64 fr.toInt64 0)), (7, .ref q52), (0, .ref h), (1, .int a), (2, .int b), (3, .int c0), (4, .int d0), (5, .int fr), (6, .int hv)]) hx hb dX7_zero_91 hl (by decide) rfl (fun ls hl => ?_)
  refine lv_iload hx hb dX7_zero_93 (lv_at hl 1 rfl) ?_
  refine lv_iload hx hb dX7_zero_95 (lv_at hl 0 rfl) ?_
  refine lv_imul hx hb dX7_zero_97 ?_
  refine lv_if_lt (tgt := 111) hx hb dX7_zero_98 (by decide) (fun c_98 => absurd c_98 hs) (fun c_98 => ?_)
  obtain ⟨sa, hsa⟩ := hE.str 0 rfl
  exact vx_throwS hx hb hfl (own := RX7) (cls := gISE) (names := gNm) (A := A) hown (by decide +kernel) (by decide +kernel) (hts (.classLink RX7 134 "java/lang/IllegalStateException") (List.mem_of_getElem? (i := 1) rfl)) (hts (.initialized "java/lang/IllegalStateException") (List.mem_of_getElem? (i := 2) rfl)) hsa (vx_hat (fun w hw => hts w (in_X7_zero_ise w hw)) gAt_ise hE.cw) gOt_ise hE.1.1 hE.1.2 hS (hl.1.trans hml.symm) dX7_zero_101 dX7_zero_104 dX7_zero_105 dX7_zero_107 dX7_zero_110 (fun x hx9 => (hno x hx9).elim) (Nat.le_of_ble_eq_true rfl) (Nat.le_of_ble_eq_true rfl) (Nat.le_of_ble_eq_true rfl) (Nat.le_of_ble_eq_true rfl) hlocks (g_xc hAe (va_P_r (ws := [(q52, .inr (2, [.long a.toInt64, .long b.toInt64, .long c0.toInt64, .long d0.toInt64]))]) hP) hS rfl rfl) (by rw [← hAe]; exact hS.2.2) (Nat.le_of_ble_eq_true rfl) (Nat.le_of_ble_eq_true rfl)
theorem in_X7_zero_X5 : ∀ w ∈ wsX50, w ∈ wsX7_zero := fun _ h => List.mem_cons_of_mem _ (List.mem_append_left _ (List.mem_append_left _ (List.mem_append_left _ (List.mem_append_left _ (List.mem_append_left _ (List.mem_append_right _ h))))))
theorem in_X7_zero_X7 : ∀ w ∈ wsX70, w ∈ wsX7_zero := fun _ h => List.mem_cons_of_mem _ (List.mem_append_left _ (List.mem_append_left _ (List.mem_append_left _ (List.mem_append_left _ (List.mem_append_right _ h)))))
set_option maxHeartbeats 4000000 in
set_option maxRecDepth 100000 in
theorem c_X7_zero_0 (l : Launch) (hfl : l.stackTraces = false) (D : va_G) (y : Nat → ClassId) (ad : Nat → Nat) (sz : Nat) (h : Nat) (q : Nat → Nat) (n : Nat) (b1 : Bool) (l1 r1 : Int64) (b2 : Bool) (l2 r2 : Int64) (b3 : Bool) (l3 r3 : Int64) (uz : Nat → Bool) (ul uh : Nat → Int64) (f1 g1 f2 g2 : Int64) (pa : Nat → Nat → Nat) (kd : Nat → Nat) (on ot : Nat → Int32) (pt : Nat → Int64) (fb : Nat → Nat → Bool) (fl fh : Nat → Nat → Int64) (tb : Nat → Nat → Bool) (tl th : Nat → Nat → Int64) (dg : Nat → Int32) (ds : Nat → Int64) (a b c0 d0 fr : Int32) (u : Nat)  (h1a : ¬ a < -9) (h2a : a ≤ 9) (h1b : ¬ b < -9) (h2b : b ≤ 9) (h1c0 : ¬ c0 < -9) (h2c0 : c0 ≤ 9) (h1d0 : ¬ d0 < -9) (h2d0 : d0 ≤ 9) (h1fr : ¬ fr < -4) (h2fr : fr ≤ 3) (hu : u < 3) (hn : n < 40) (hs : (sp_X4_signAt a.toInt64 b.toInt64 c0.toInt64 d0.toInt64 fr.toInt64 0) * (sp_X4_signAt a.toInt64 b.toInt64 c0.toInt64 d0.toInt64 (fr + (1 <<< (nI u &&& 31))).toInt64 0) < 0) : Met l yX7_zero wsX7_zero ({ frames := 3, cells := 10, slots := 168, locals := 82 } : Room) (gPX D y ad [.ref h, .int a, .int b, .int c0, .int d0, .int fr, .int (nI u)] (wXp y ad h q n b1 l1 r1 b2 l2 r2 b3 l3 r3 uz ul uh f1 g1 f2 g2 pa kd on ot pt fb fl fh tb tl th dg ds) sz) (gQn D (wXp y ad h q n b1 l1 r1 b2 l2 r2 b3 l3 r3 uz ul uh f1 g1 f2 g2 pa kd on ot pt fb fl fh tb tl th dg ds) (fun v w => ∃ (yb1 : Bool) (yl1 : Int64) (yr1 : Int64) (yb2 : Bool) (yl2 : Int64) (yr2 : Int64) (yb3 : Bool) (yl3 : Int64) (yr3 : Int64) (yuz : Nat → Bool) (yul : Nat → Int64) (yuh : Nat → Int64) (yf1 : Int64) (yg1 : Int64) (yf2 : Int64) (yg2 : Int64) (nan : Nat → Nat) (fbn : Nat → Bool) (fln : Nat → Int64) (fhn : Nat → Int64) (tbn : Nat → Bool) (tln : Nat → Int64) (thn : Nat → Int64), v = some (.int (nI n)) ∧ w = (wXp y ad h q (n + 1) yb1 yl1 yr1 yb2 yl2 yr2 yb3 yl3 yr3 yuz yul yuh yf1 yg1 yf2 yg2 (pst pa n nan) (pst kd n 8) (pst on n (-1)) (pst ot n (-1)) (pst pt n (jshl 1 (nI n))) (pst fb n fbn) (pst fl n fln) (pst fh n fhn) (pst tb n tbn) (pst tl n tln) (pst th n thn) (pst dg n 0) (pst ds n 0)) ∧ (∀ i9, i9 < 25 → (fbn i9, fln i9, fhn i9) = fzX a.toInt64 b.toInt64 c0.toInt64 d0.toInt64 fr u i9) ∧ (∀ i9, i9 < 25 → (tbn i9, tln i9, thn i9) = nwA fbn fln fhn (i9 + 1)))) 10 168 (va_A (wXp y ad h q n b1 l1 r1 b2 l2 r2 b3 l3 r3 uz ul uh f1 g1 f2 g2 pa kd on ot pt fb fl fh tb tl th dg ds) sz) := by
  refine Met.ofW (cc := cX7_zero) (maxL := 12) (ret := (some .int)) (by decide) rfl ?_
  intro pg e s m args below meth c s₁ B hml hv
  obtain ⟨rfl, hsz, hP, hK, hD0, hE0⟩ := hv
  have hx := B.exec
  have hb := B.bytes
  have hr := B.returns
  have hts := atoms_spec (ws := wsX7_zero) B.pre
  have hown : s.vm.findClass RX7 = some m.cls := findClass_of_methodNamed B.named
  have hlocks := B.notSynchronized
  subst hsz
  obtain ⟨A, hAe⟩ : ∃ A : Nat → Prop, A = va_A (wXp y ad h q n b1 l1 r1 b2 l2 r2 b3 l3 r3 uz ul uh f1 g1 f2 g2 pa kd on ot pt fb fl fh tb tl th dg ds) s.heap.size := ⟨_, rfl⟩
  have hE : gE ad A s s.heap := by rw [hAe]; exact hE0
  have hD : va_D A (wXp y ad h q n b1 l1 r1 b2 l2 r2 b3 l3 r3 uz ul uh f1 g1 f2 g2 pa kd on ot pt fb fl fh tb tl th dg ds) := by rw [hAe]; exact hD0.self (sz := s.heap.size)
  have hA : ∀ q : Nat, s.heap.size ≤ q → A q := fun q h => by rw [hAe]; exact Or.inr h
  have hS : va_S A s.heap s.heap [] := va_S.rf
  have hl := lv_entry ([.ref h, .int a, .int b, .int c0, .int d0, .int fr, .int (nI u)]) (n := 12) (Nat.le_of_ble_eq_true rfl)
  rw [lg_entry_eq]
  generalize (lg_sl ([.ref h, .int a, .int b, .int c0, .int d0, .int fr, .int (nI u)]) ++ List.replicate (12 - (lg_sl ([.ref h, .int a, .int b, .int c0, .int d0, .int fr, .int (nI u)])).length) Slot.unset).toArray = ls at hl ⊢
  have hl : lv_has ls 12 [(0, .ref h), (1, .int a), (2, .int b), (3, .int c0), (4, .int d0), (5, .int fr), (6, .int (nI u))] := hl
  refine lv_iload_n hx hb dX7_zero_0 rfl (lv_at hl 1 rfl) ?_
  refine lv_bipush (v := -9) hx hb dX7_zero_1 (by decide) ?_
  refine lv_bipush (v := 9) hx hb dX7_zero_3 (by decide) ?_
  refine g_callv (va_runS (As := [.int a, .int (-9), .int 9]) (rest := []) ⟨hx, hb, hml, hown, hts⟩ (c_X7_requireWithin_0 l hfl D y ad s.heap.size a (-9) 9 h1a h2a) (va_cwS 3 hts gX7_zero_X7_requireWithin rfl rfl rfl (by decide +kernel) ⟨Nat.le_of_ble_eq_true rfl, Nat.le_of_ble_eq_true rfl⟩) (gPX_S0 hK hE hS hA) rfl rfl hl.1 rfl (lv_room (Nat.le_of_ble_eq_true rfl)) dX7_zero_5 ⟨Nat.le_of_ble_eq_true rfl, Nat.le_of_ble_eq_true rfl⟩) hP hD hS hA [] rfl (fun H locs hP hD hS => ?_)
  have hP : va_P D vwCl (wXp y ad h q n b1 l1 r1 b2 l2 r2 b3 l3 r3 uz ul uh f1 g1 f2 g2 pa kd on ot pt fb fl fh tb tl th dg ds) H := hP
  have hD : va_D A (wXp y ad h q n b1 l1 r1 b2 l2 r2 b3 l3 r3 uz ul uh f1 g1 f2 g2 pa kd on ot pt fb fl fh tb tl th dg ds) := hD
  refine lv_iload_n hx hb dX7_zero_8 rfl (lv_at hl 2 rfl) ?_
  refine lv_bipush (v := -9) hx hb dX7_zero_9 (by decide) ?_
  refine lv_bipush (v := 9) hx hb dX7_zero_11 (by decide) ?_
  refine g_callv (va_runS (As := [.int b, .int (-9), .int 9]) (rest := []) ⟨hx, hb, hml, hown, hts⟩ (c_X7_requireWithin_0 l hfl D y ad H.size b (-9) 9 h1b h2b) (va_cwS 3 hts gX7_zero_X7_requireWithin rfl rfl rfl (by decide +kernel) ⟨Nat.le_of_ble_eq_true rfl, Nat.le_of_ble_eq_true rfl⟩) (gPX_S0 hK hE hS hA) rfl rfl hl.1 rfl (lv_room (Nat.le_of_ble_eq_true rfl)) dX7_zero_13 ⟨Nat.le_of_ble_eq_true rfl, Nat.le_of_ble_eq_true rfl⟩) hP hD hS hA [] rfl (fun H locs hP hD hS => ?_)
  have hP : va_P D vwCl (wXp y ad h q n b1 l1 r1 b2 l2 r2 b3 l3 r3 uz ul uh f1 g1 f2 g2 pa kd on ot pt fb fl fh tb tl th dg ds) H := hP
  have hD : va_D A (wXp y ad h q n b1 l1 r1 b2 l2 r2 b3 l3 r3 uz ul uh f1 g1 f2 g2 pa kd on ot pt fb fl fh tb tl th dg ds) := hD
  refine lv_iload_n hx hb dX7_zero_16 rfl (lv_at hl 3 rfl) ?_
  refine lv_bipush (v := -9) hx hb dX7_zero_17 (by decide) ?_
  refine lv_bipush (v := 9) hx hb dX7_zero_19 (by decide) ?_
  refine g_callv (va_runS (As := [.int c0, .int (-9), .int 9]) (rest := []) ⟨hx, hb, hml, hown, hts⟩ (c_X7_requireWithin_0 l hfl D y ad H.size c0 (-9) 9 h1c0 h2c0) (va_cwS 3 hts gX7_zero_X7_requireWithin rfl rfl rfl (by decide +kernel) ⟨Nat.le_of_ble_eq_true rfl, Nat.le_of_ble_eq_true rfl⟩) (gPX_S0 hK hE hS hA) rfl rfl hl.1 rfl (lv_room (Nat.le_of_ble_eq_true rfl)) dX7_zero_21 ⟨Nat.le_of_ble_eq_true rfl, Nat.le_of_ble_eq_true rfl⟩) hP hD hS hA [] rfl (fun H locs hP hD hS => ?_)
  have hP : va_P D vwCl (wXp y ad h q n b1 l1 r1 b2 l2 r2 b3 l3 r3 uz ul uh f1 g1 f2 g2 pa kd on ot pt fb fl fh tb tl th dg ds) H := hP
  have hD : va_D A (wXp y ad h q n b1 l1 r1 b2 l2 r2 b3 l3 r3 uz ul uh f1 g1 f2 g2 pa kd on ot pt fb fl fh tb tl th dg ds) := hD
  refine lv_iload hx hb dX7_zero_24 (lv_at hl 4 rfl) ?_
  refine lv_bipush (v := -9) hx hb dX7_zero_26 (by decide) ?_
  refine lv_bipush (v := 9) hx hb dX7_zero_28 (by decide) ?_
  refine g_callv (va_runS (As := [.int d0, .int (-9), .int 9]) (rest := []) ⟨hx, hb, hml, hown, hts⟩ (c_X7_requireWithin_0 l hfl D y ad H.size d0 (-9) 9 h1d0 h2d0) (va_cwS 3 hts gX7_zero_X7_requireWithin rfl rfl rfl (by decide +kernel) ⟨Nat.le_of_ble_eq_true rfl, Nat.le_of_ble_eq_true rfl⟩) (gPX_S0 hK hE hS hA) rfl rfl hl.1 rfl (lv_room (Nat.le_of_ble_eq_true rfl)) dX7_zero_30 ⟨Nat.le_of_ble_eq_true rfl, Nat.le_of_ble_eq_true rfl⟩) hP hD hS hA [] rfl (fun H locs hP hD hS => ?_)
  have hP : va_P D vwCl (wXp y ad h q n b1 l1 r1 b2 l2 r2 b3 l3 r3 uz ul uh f1 g1 f2 g2 pa kd on ot pt fb fl fh tb tl th dg ds) H := hP
  have hD : va_D A (wXp y ad h q n b1 l1 r1 b2 l2 r2 b3 l3 r3 uz ul uh f1 g1 f2 g2 pa kd on ot pt fb fl fh tb tl th dg ds) := hD
  refine lv_iload hx hb dX7_zero_33 (lv_at hl 5 rfl) ?_
  refine lv_bipush (v := -4) hx hb dX7_zero_35 (by decide) ?_
  refine lv_iconst (v := 3) hx hb dX7_zero_37 (by decide) ?_
  refine g_callv (va_runS (As := [.int fr, .int (-4), .int 3]) (rest := []) ⟨hx, hb, hml, hown, hts⟩ (c_X7_requireWithin_0 l hfl D y ad H.size fr (-4) 3 h1fr h2fr) (va_cwS 3 hts gX7_zero_X7_requireWithin rfl rfl rfl (by decide +kernel) ⟨Nat.le_of_ble_eq_true rfl, Nat.le_of_ble_eq_true rfl⟩) (gPX_S0 hK hE hS hA) rfl rfl hl.1 rfl (lv_room (Nat.le_of_ble_eq_true rfl)) dX7_zero_38 ⟨Nat.le_of_ble_eq_true rfl, Nat.le_of_ble_eq_true rfl⟩) hP hD hS hA [] rfl (fun H locs hP hD hS => ?_)
  have hP : va_P D vwCl (wXp y ad h q n b1 l1 r1 b2 l2 r2 b3 l3 r3 uz ul uh f1 g1 f2 g2 pa kd on ot pt fb fl fh tb tl th dg ds) H := hP
  have hD : va_D A (wXp y ad h q n b1 l1 r1 b2 l2 r2 b3 l3 r3 uz ul uh f1 g1 f2 g2 pa kd on ot pt fb fl fh tb tl th dg ds) := hD
  refine lv_iload hx hb dX7_zero_41 (lv_at hl 6 rfl) ?_
  refine lv_iconst (v := 0) hx hb dX7_zero_43 (by decide) ?_
  refine lv_iconst (v := 2) hx hb dX7_zero_44 (by decide) ?_
  refine g_callv (va_runS (As := [.int (nI u), .int 0, .int 2]) (rest := []) ⟨hx, hb, hml, hown, hts⟩ (c_X7_requireWithin_0 l hfl D y ad H.size (nI u) 0 2 (nI_pos (by omega)) (nI_le (b := 2) (by omega) (by decide))) (va_cwS 3 hts gX7_zero_X7_requireWithin rfl rfl rfl (by decide +kernel) ⟨Nat.le_of_ble_eq_true rfl, Nat.le_of_ble_eq_true rfl⟩) (gPX_S0 hK hE hS hA) rfl rfl hl.1 rfl (lv_room (Nat.le_of_ble_eq_true rfl)) dX7_zero_45 ⟨Nat.le_of_ble_eq_true rfl, Nat.le_of_ble_eq_true rfl⟩) hP hD hS hA [] rfl (fun H locs hP hD hS => ?_)
  have hP : va_P D vwCl (wXp y ad h q n b1 l1 r1 b2 l2 r2 b3 l3 r3 uz ul uh f1 g1 f2 g2 pa kd on ot pt fb fl fh tb tl th dg ds) H := hP
  have hD : va_D A (wXp y ad h q n b1 l1 r1 b2 l2 r2 b3 l3 r3 uz ul uh f1 g1 f2 g2 pa kd on ot pt fb fl fh tb tl th dg ds) := hD
  refine lv_aload_n hx hb dX7_zero_48 rfl (lv_at hl 0 rfl) ?_
  refine g_callAv (w0 := wXp y ad h q n b1 l1 r1 b2 l2 r2 b3 l3 r3 uz ul uh f1 g1 f2 g2 pa kd on ot pt fb fl fh tb tl th dg ds) (va_runV (As := []) (rest := []) ⟨hx, hb, hml, hown, hts⟩ (c_X7_requireRoom_0 l hfl D y ad H.size h q n b1 l1 r1 b2 l2 r2 b3 l3 r3 uz ul uh f1 g1 f2 g2 pa kd on ot pt fb fl fh tb tl th dg ds hn) (cwV 0 hts gX7_zero_X7_requireRoom rfl rfl rfl (by decide +kernel) ⟨Nat.le_of_ble_eq_true rfl, Nat.le_of_ble_eq_true rfl⟩) (gPX_VA hP hD hK hE hS hA 0 rfl rfl) rfl rfl hl.1 rfl (lv_room (Nat.le_of_ble_eq_true rfl)) dX7_zero_49 ⟨Nat.le_of_ble_eq_true rfl, Nat.le_of_ble_eq_true rfl⟩) hP hD hS hA rfl (fun H locs hP hD hS => ?_)
  refine va_new (ci := 2) (fs := [.long 0, .long 0, .long 0, .long 0]) (C := RX4) (T := TX4) (N := 4) hx hb hts in_X7_zero_X4 tyX4 tyX4_ok hown (hts (.classLink RX7 125 RX4) (List.mem_of_getElem? (i := 3) rfl)) (hts (.instantiable RX4 4) (List.mem_of_getElem? (i := 4) rfl)) (hts (.initialized RX4) (List.mem_of_getElem? (i := 5) rfl)) hK.1 hP hD hS hA rfl (fun j hj => by have h8 : ∀ j : Fin 4, defaultValue (tyX4 j.val) = vp_V [.long 0, .long 0, .long 0, .long 0] j.val := (by decide); exact h8 ⟨j, hj⟩) (Nat.le_of_ble_eq_true rfl) (Nat.le_of_ble_eq_true rfl) dX7_zero_52 (fun q52 H hP hD hS => ?_)
  have hP : va_P D vwCl (wXy q52 0 0 0 0 y ad h q n (gPg pa n) n b1 l1 r1 b2 l2 r2 b3 l3 r3 uz ul uh f1 g1 f2 g2 pa kd on ot pt fb fl fh tb tl th dg ds) H := va_P_sw (ws := wXp y ad h q n b1 l1 r1 b2 l2 r2 b3 l3 r3 uz ul uh f1 g1 f2 g2 pa kd on ot pt fb fl fh tb tl th dg ds) (wc := [(q52, .inr (2, [.long 0, .long 0, .long 0, .long 0]))]) hP
  have hD : va_D A (wXy q52 0 0 0 0 y ad h q n (gPg pa n) n b1 l1 r1 b2 l2 r2 b3 l3 r3 uz ul uh f1 g1 f2 g2 pa kd on ot pt fb fl fh tb tl th dg ds) := va_D_sw (ws := wXp y ad h q n b1 l1 r1 b2 l2 r2 b3 l3 r3 uz ul uh f1 g1 f2 g2 pa kd on ot pt fb fl fh tb tl th dg ds) (wc := [(q52, .inr (2, [.long 0, .long 0, .long 0, .long 0]))]) hD
  refine lv_dup hx hb dX7_zero_55 rfl ?_
  refine lv_iload_n hx hb dX7_zero_56 rfl (lv_at hl 1 rfl) ?_
  refine lv_iload_n hx hb dX7_zero_57 rfl (lv_at hl 2 rfl) ?_
  refine lv_iload_n hx hb dX7_zero_58 rfl (lv_at hl 3 rfl) ?_
  refine lv_iload hx hb dX7_zero_59 (lv_at hl 4 rfl) ?_
  refine g_callv (va_runI (As := [.int a, .int b, .int c0, .int d0]) (rest := [.ref q52]) ⟨hx, hb, hml, hown, hts⟩ (c_X4_init l D y H.size q52 0 0 0 0 a b c0 d0) (cwI 4 hts gX7_zero_X4_init rfl rfl rfl (hts (.initialized RX4) (List.mem_of_getElem? (i := 5) rfl)) (hts (.methodLink RX7 127 yX4_init) (List.mem_of_getElem? (i := 24) rfl)) (hts (.instanceMethod yX4_init) (List.mem_of_getElem? (i := 25) rfl)) rfl (by decide +kernel) ⟨Nat.le_of_ble_eq_true rfl, Nat.le_of_ble_eq_true rfl⟩) (gP_S hP hD hK [0] (by decide) rfl) rfl rfl hl.1 rfl (lv_room (Nat.le_of_ble_eq_true rfl)) dX7_zero_61 ⟨Nat.le_of_ble_eq_true rfl, Nat.le_of_ble_eq_true rfl⟩) hP hD hS hA [0] rfl (fun H locs hP hD hS => ?_)
  have hP : va_P D vwCl (wXy q52 a.toInt64 b.toInt64 c0.toInt64 d0.toInt64 y ad h q n (gPg pa n) n b1 l1 r1 b2 l2 r2 b3 l3 r3 uz ul uh f1 g1 f2 g2 pa kd on ot pt fb fl fh tb tl th dg ds) H := hP
  have hD : va_D A (wXy q52 a.toInt64 b.toInt64 c0.toInt64 d0.toInt64 y ad h q n (gPg pa n) n b1 l1 r1 b2 l2 r2 b3 l3 r3 uz ul uh f1 g1 f2 g2 pa kd on ot pt fb fl fh tb tl th dg ds) := hD
  refine lv_astore (lv' := [(7, .ref q52), (0, .ref h), (1, .int a), (2, .int b), (3, .int c0), (4, .int d0), (5, .int fr), (6, .int (nI u))]) hx hb dX7_zero_64 hl (by decide) rfl (fun ls hl => ?_)
  refine lv_aload hx hb dX7_zero_66 (lv_at hl 0 rfl) ?_
  refine lv_iload hx hb dX7_zero_68 (lv_at hl 6 rfl) ?_
  refine lv_i2l (v := fr.toInt64) hx hb dX7_zero_70 rfl ?_
  refine lv_iconst (v := 0) hx hb dX7_zero_71 (by decide) ?_
  refine g_callR (v0 := .int (sp_X4_signAt a.toInt64 b.toInt64 c0.toInt64 d0.toInt64 fr.toInt64 0)) (va_runV (As := [.long fr.toInt64, .int 0]) (rest := []) ⟨hx, hb, hml, hown, hts⟩ (c_X4_signAt l D y H.size q52 a.toInt64 b.toInt64 c0.toInt64 d0.toInt64 fr.toInt64 0) (cwV 2 hts gX7_zero_X4_signAt rfl rfl rfl (by decide +kernel) ⟨Nat.le_of_ble_eq_true rfl, Nat.le_of_ble_eq_true rfl⟩) (gP_V hP hD hK [0] (by decide) rfl 0 rfl rfl) rfl rfl hl.1 rfl (lv_room (Nat.le_of_ble_eq_true rfl)) dX7_zero_72 ⟨Nat.le_of_ble_eq_true rfl, Nat.le_of_ble_eq_true rfl⟩) ?_
  refine lv_istore (lv' := [(8, .int (sp_X4_signAt a.toInt64 b.toInt64 c0.toInt64 d0.toInt64 fr.toInt64 0)), (7, .ref q52), (0, .ref h), (1, .int a), (2, .int b), (3, .int c0), (4, .int d0), (5, .int fr), (6, .int (nI u))]) hx hb dX7_zero_75 hl (by decide) rfl (fun ls hl => ?_)
  refine lv_aload hx hb dX7_zero_77 (lv_at hl 1 rfl) ?_
  refine lv_iload hx hb dX7_zero_79 (lv_at hl 7 rfl) ?_
  refine lv_iconst (v := 1) hx hb dX7_zero_81 (by decide) ?_
  refine lv_iload hx hb dX7_zero_82 (lv_at hl 8 rfl) ?_
  refine lv_ishl hx hb dX7_zero_84 ?_
  refine lv_iadd hx hb dX7_zero_85 ?_
  refine lv_i2l (v := (fr + (1 <<< ((nI u) &&& 31))).toInt64) hx hb dX7_zero_86 rfl ?_
  refine lv_iconst (v := 0) hx hb dX7_zero_87 (by decide) ?_
  refine g_callR (v0 := .int (sp_X4_signAt a.toInt64 b.toInt64 c0.toInt64 d0.toInt64 ((fr + (1 <<< ((nI u) &&& 31))).toInt64) 0)) (va_runV (As := [.long ((fr + (1 <<< ((nI u) &&& 31))).toInt64), .int 0]) (rest := []) ⟨hx, hb, hml, hown, hts⟩ (c_X4_signAt l D y H.size q52 a.toInt64 b.toInt64 c0.toInt64 d0.toInt64 ((fr + (1 <<< ((nI u) &&& 31))).toInt64) 0) (cwV 2 hts gX7_zero_X4_signAt rfl rfl rfl (by decide +kernel) ⟨Nat.le_of_ble_eq_true rfl, Nat.le_of_ble_eq_true rfl⟩) (gP_V hP hD hK [0] (by decide) rfl 0 rfl rfl) rfl rfl hl.1 rfl (lv_room (Nat.le_of_ble_eq_true rfl)) dX7_zero_88 ⟨Nat.le_of_ble_eq_true rfl, Nat.le_of_ble_eq_true rfl⟩) ?_
  refine lv_istore (lv' := [(9, .int (sp_X4_signAt a.toInt64 b.toInt64 c0.toInt64 d0.toInt64 ((fr + (1 <<< ((nI u) &&& 31))).toInt64) 0)), (8, .int (sp_X4_signAt a.toInt64 b.toInt64 c0.toInt64 d0.toInt64 fr.toInt64 0)), (7, .ref q52), (0, .ref h), (1, .int a), (2, .int b), (3, .int c0), (4, .int d0), (5, .int fr), (6, .int (nI u))]) hx hb dX7_zero_91 hl (by decide) rfl (fun ls hl => ?_)
  refine lv_iload hx hb dX7_zero_93 (lv_at hl 1 rfl) ?_
  refine lv_iload hx hb dX7_zero_95 (lv_at hl 0 rfl) ?_
  refine lv_imul hx hb dX7_zero_97 ?_
  refine lv_if_lt (tgt := 111) hx hb dX7_zero_98 (by decide) (fun c_98 => ?_) (fun c_98 => absurd hs c_98)
  refine va_new (ci := 3) (fs := [.null, .int 0, .int 0, .long 0, .null, .null, .int 0, .long 0]) (C := RX5) (T := TX5) (N := 8) hx hb hts in_X7_zero_X5 tyX5 tyX5_ok hown (hts (.classLink RX7 9 RX5) (List.mem_of_getElem? (i := 6) rfl)) (hts (.instantiable RX5 8) (List.mem_of_getElem? (i := 7) rfl)) (hts (.initialized RX5) (List.mem_of_getElem? (i := 8) rfl)) hK.1 hP hD hS hA rfl (fun j hj => by have h8 : ∀ j : Fin 8, defaultValue (tyX5 j.val) = vp_V [.null, .int 0, .int 0, .long 0, .null, .null, .int 0, .long 0] j.val := (by decide); exact h8 ⟨j, hj⟩) (Nat.le_of_ble_eq_true rfl) (Nat.le_of_ble_eq_true rfl) dX7_zero_111 (fun q111 H hP hD hS => ?_)
  have hP : va_P D vwCl (wXw q111 q52 a.toInt64 b.toInt64 c0.toInt64 d0.toInt64 y ad h q n (gPg pa n) n b1 l1 r1 b2 l2 r2 b3 l3 r3 uz ul uh f1 g1 f2 g2 pa kd on ot pt fb fl fh tb tl th dg ds) H := va_P_sw (ws := wXy q52 a.toInt64 b.toInt64 c0.toInt64 d0.toInt64 y ad h q n (gPg pa n) n b1 l1 r1 b2 l2 r2 b3 l3 r3 uz ul uh f1 g1 f2 g2 pa kd on ot pt fb fl fh tb tl th dg ds) (wc := [(q111, .inr (3, [.null, .int 0, .int 0, .long 0, .null, .null, .int 0, .long 0]))]) hP
  have hD : va_D A (wXw q111 q52 a.toInt64 b.toInt64 c0.toInt64 d0.toInt64 y ad h q n (gPg pa n) n b1 l1 r1 b2 l2 r2 b3 l3 r3 uz ul uh f1 g1 f2 g2 pa kd on ot pt fb fl fh tb tl th dg ds) := va_D_sw (ws := wXy q52 a.toInt64 b.toInt64 c0.toInt64 d0.toInt64 y ad h q n (gPg pa n) n b1 l1 r1 b2 l2 r2 b3 l3 r3 uz ul uh f1 g1 f2 g2 pa kd on ot pt fb fl fh tb tl th dg ds) (wc := [(q111, .inr (3, [.null, .int 0, .int 0, .long 0, .null, .null, .int 0, .long 0]))]) hD
  refine lv_dup hx hb dX7_zero_114 rfl ?_
  refine va_gets hx hb ((hE.2.2.2.2.2 8 (by decide)).1) hS hown (hts (.fieldLink RX7 141 "Nestlimit$Kind" "ZERO" "LNestlimit$Kind;") (List.mem_of_getElem? (i := 9) rfl)) (fun _ h9 => h9) dX7_zero_115 ?_
  refine lv_iconst (v := -1) hx hb dX7_zero_118 (by decide) ?_
  refine lv_iconst (v := -1) hx hb dX7_zero_119 (by decide) ?_
  refine lv_aload_n hx hb dX7_zero_120 rfl (lv_at hl 3 rfl) ?_
  refine g_callR (v0 := .long (jshl 1 (nI n))) (va_runV (As := []) (rest := [.int (-1), .int (-1), .ref (ad 8), .ref q111, .ref q111]) ⟨hx, hb, hml, hown, hts⟩ (c_X7_ownBit l hfl D y ad H.size h q n b1 l1 r1 b2 l2 r2 b3 l3 r3 uz ul uh f1 g1 f2 g2 pa kd on ot pt fb fl fh tb tl th dg ds) (cwV 0 hts gX7_zero_X7_ownBit rfl rfl rfl (by decide +kernel) ⟨Nat.le_of_ble_eq_true rfl, Nat.le_of_ble_eq_true rfl⟩) (gPX_VA (va_P_r (ws := [(q111, .inr (3, [.null, .int 0, .int 0, .long 0, .null, .null, .int 0, .long 0])), (q52, .inr (2, [.long a.toInt64, .long b.toInt64, .long c0.toInt64, .long d0.toInt64]))]) hP) (va_D_r (ws := [(q111, .inr (3, [.null, .int 0, .int 0, .long 0, .null, .null, .int 0, .long 0])), (q52, .inr (2, [.long a.toInt64, .long b.toInt64, .long c0.toInt64, .long d0.toInt64]))]) hD) hK hE hS hA 0 rfl rfl) rfl rfl hl.1 rfl (lv_room (Nat.le_of_ble_eq_true rfl)) dX7_zero_121 ⟨Nat.le_of_ble_eq_true rfl, Nat.le_of_ble_eq_true rfl⟩) ?_
  refine g_callN (ws := wXy q52 a.toInt64 b.toInt64 c0.toInt64 d0.toInt64 y ad h q n (gPg pa n) n b1 l1 r1 b2 l2 r2 b3 l3 r3 uz ul uh f1 g1 f2 g2 pa kd on ot pt fb fl fh tb tl th dg ds) (wc := [(q111, .inr (3, [.null, .int 0, .int 0, .long 0, .null, .null, .int 0, .long 0]))]) (va_runI (As := [.ref (ad 8), .int (-1), .int (-1), .long (jshl 1 (nI n))]) (rest := [.ref q111]) ⟨hx, hb, hml, hown, hts⟩ (c_X5_init l D y H.size q111 (ad 8) (-1) (-1) (jshl 1 (nI n))) (cwI 4 hts gX7_zero_X5_init rfl rfl rfl (hts (.initialized RX5) (List.mem_of_getElem? (i := 8) rfl)) (hts (.methodLink RX7 68 yX5_init) (List.mem_of_getElem? (i := 48) rfl)) (hts (.instanceMethod yX5_init) (List.mem_of_getElem? (i := 49) rfl)) rfl (by decide +kernel) ⟨Nat.le_of_ble_eq_true rfl, Nat.le_of_ble_eq_true rfl⟩) (gP_S hP hD hK [0] (by decide) rfl) rfl rfl hl.1 rfl (lv_room (Nat.le_of_ble_eq_true rfl)) dX7_zero_124 ⟨Nat.le_of_ble_eq_true rfl, Nat.le_of_ble_eq_true rfl⟩) (va_P_sw (ws := [(q111, .inr (3, [.null, .int 0, .int 0, .long 0, .null, .null, .int 0, .long 0]))]) hP) (va_D_sw (ws := [(q111, .inr (3, [.null, .int 0, .int 0, .long 0, .null, .null, .int 0, .long 0]))]) hD) hS hA (fun v w1 H locs hf hP hD hS => ?_)
  obtain ⟨u1_124, u2_124, u3_124, u4_124, u5_124, u6_124, u7_124, u8_124, rfl, rfl⟩ := hf
  have hP := va_P_sw hP
  have hD := va_D_sw hD
  obtain ⟨na, rfl, rfl, rfl, rfl, rfl, rfl, rfl, rfl, rfl⟩ := na9 q111 u1_124 u2_124 u3_124 u4_124 u5_124 u6_124 u7_124 u8_124
  have hP : va_P D vwCl (wXz na 8 (-1) (-1) (jshl 1 (nI n)) (fun _ => false) (fun _ => 0) (fun _ => 0) (fun _ => false) (fun _ => 0) (fun _ => 0) q52 a.toInt64 b.toInt64 c0.toInt64 d0.toInt64 y ad h q n (gPg pa n) n b1 l1 r1 b2 l2 r2 b3 l3 r3 uz ul uh f1 g1 f2 g2 pa kd on ot pt fb fl fh tb tl th dg ds) H := hP
  have hD : va_D A (wXz na 8 (-1) (-1) (jshl 1 (nI n)) (fun _ => false) (fun _ => 0) (fun _ => 0) (fun _ => false) (fun _ => 0) (fun _ => 0) q52 a.toInt64 b.toInt64 c0.toInt64 d0.toInt64 y ad h q n (gPg pa n) n b1 l1 r1 b2 l2 r2 b3 l3 r3 uz ul uh f1 g1 f2 g2 pa kd on ot pt fb fl fh tb tl th dg ds) := hD
  refine lv_astore (lv' := [(10, .ref (na 0)), (9, .int (sp_X4_signAt a.toInt64 b.toInt64 c0.toInt64 d0.toInt64 ((fr + (1 <<< ((nI u) &&& 31))).toInt64) 0)), (8, .int (sp_X4_signAt a.toInt64 b.toInt64 c0.toInt64 d0.toInt64 fr.toInt64 0)), (7, .ref q52), (0, .ref h), (1, .int a), (2, .int b), (3, .int c0), (4, .int d0), (5, .int fr), (6, .int (nI u))]) hx hb dX7_zero_127 hl (by decide) rfl (fun ls hl => ?_)
  refine lv_iconst (v := 0) hx hb dX7_zero_129 (by decide) ?_
  refine lv_istore (lv' := [(11, .int 0), (10, .ref (na 0)), (9, .int (sp_X4_signAt a.toInt64 b.toInt64 c0.toInt64 d0.toInt64 ((fr + (1 <<< ((nI u) &&& 31))).toInt64) 0)), (8, .int (sp_X4_signAt a.toInt64 b.toInt64 c0.toInt64 d0.toInt64 fr.toInt64 0)), (7, .ref q52), (0, .ref h), (1, .int a), (2, .int b), (3, .int c0), (4, .int d0), (5, .int fr), (6, .int (nI u))]) hx hb dX7_zero_130 hl (by decide) rfl (fun ls hl => ?_)
  have LOOP132 : ∀ (m9 : Nat) (p : Nat) (xb1 : Bool) (xl1 : Int64) (xr1 : Int64) (xb2 : Bool) (xl2 : Int64) (xr2 : Int64) (xb3 : Bool) (xl3 : Int64) (xr3 : Int64) (xuz : Nat → Bool) (xul : Nat → Int64) (xuh : Nat → Int64) (xf1 : Int64) (xg1 : Int64) (xf2 : Int64) (xg2 : Int64) (xfb : Nat → Bool) (xfl : Nat → Int64) (xfh : Nat → Int64), (p + m9 = 25) → (∀ i9, i9 < p → (xfb i9, xfl i9, xfh i9) = (fzX a.toInt64 b.toInt64 c0.toInt64 d0.toInt64 fr u) i9) → ∀ (H : Heap) (locs : List Loc), va_P D vwCl (wXz na 8 (-1) (-1) (jshl 1 (nI n)) xfb xfl xfh (fun _ => false) (fun _ => 0) (fun _ => 0) q52 a.toInt64 b.toInt64 c0.toInt64 d0.toInt64 y ad h q n (gPg pa n) n xb1 xl1 xr1 xb2 xl2 xr2 xb3 xl3 xr3 xuz xul xuh xf1 xg1 xf2 xg2 pa kd on ot pt fb fl fh tb tl th dg ds) H → va_D A (wXz na 8 (-1) (-1) (jshl 1 (nI n)) xfb xfl xfh (fun _ => false) (fun _ => 0) (fun _ => 0) q52 a.toInt64 b.toInt64 c0.toInt64 d0.toInt64 y ad h q n (gPg pa n) n xb1 xl1 xr1 xb2 xl2 xr2 xb3 xl3 xr3 xuz xul xuh xf1 xg1 xf2 xg2 pa kd on ot pt fb fl fh tb tl th dg ds) → va_S A s.heap H locs → ∀ (ls : Array Slot), lv_has ls 12 [(0, .ref h), (1, .int a), (2, .int b), (3, .int c0), (4, .int d0), (5, .int fr), (6, .int (nI u)), (7, .ref q52), (10, .ref (na 0)), (11, .int (nI p))] → W pg l e (headSpec wsX7_zero ({ frames := 3, cells := 10, slots := 168, locals := 82 } : Room)).room s m (([.ref h, .int a, .int b, .int c0, .int d0, .int fr, .int (nI u)] : List Value).toArray) below meth c H locs 10 168 (MQ below (gQn D (wXp y ad h q n b1 l1 r1 b2 l2 r2 b3 l3 r3 uz ul uh f1 g1 f2 g2 pa kd on ot pt fb fl fh tb tl th dg ds) (fun v w => ∃ (yb1 : Bool) (yl1 : Int64) (yr1 : Int64) (yb2 : Bool) (yl2 : Int64) (yr2 : Int64) (yb3 : Bool) (yl3 : Int64) (yr3 : Int64) (yuz : Nat → Bool) (yul : Nat → Int64) (yuh : Nat → Int64) (yf1 : Int64) (yg1 : Int64) (yf2 : Int64) (yg2 : Int64) (nan : Nat → Nat) (fbn : Nat → Bool) (fln : Nat → Int64) (fhn : Nat → Int64) (tbn : Nat → Bool) (tln : Nat → Int64) (thn : Nat → Int64), v = some (.int (nI n)) ∧ w = (wXp y ad h q (n + 1) yb1 yl1 yr1 yb2 yl2 yr2 yb3 yl3 yr3 yuz yul yuh yf1 yg1 yf2 yg2 (pst pa n nan) (pst kd n 8) (pst on n (-1)) (pst ot n (-1)) (pst pt n (jshl 1 (nI n))) (pst fb n fbn) (pst fl n fln) (pst fh n fhn) (pst tb n tbn) (pst tl n tln) (pst th n thn) (pst dg n 0) (pst ds n 0)) ∧ (∀ i9, i9 < 25 → (fbn i9, fln i9, fhn i9) = fzX a.toInt64 b.toInt64 c0.toInt64 d0.toInt64 fr u i9) ∧ (∀ i9, i9 < 25 → (tbn i9, tln i9, thn i9) = nwA fbn fln fhn (i9 + 1)))) (([.ref h, .int a, .int b, .int c0, .int d0, .int fr, .int (nI u)] : List Value).toArray) s 10 168 (va_A (wXp y ad h q n b1 l1 r1 b2 l2 r2 b3 l3 r3 uz ul uh f1 g1 f2 g2 pa kd on ot pt fb fl fh tb tl th dg ds) s.heap.size)) (F0 m 132 ls []) := by
    intro m9
    induction m9 with
    | zero =>
      intro p xb1 xl1 xr1 xb2 xl2 xr2 xb3 xl3 xr3 xuz xul xuh xf1 xg1 xf2 xg2 xfb xfl xfh hp2 hfo H locs hP hD hS ls hl
      refine lv_iload hx hb dX7_zero_132 (lv_at hl 9 rfl) ?_
      refine lv_bipush (v := 24) hx hb dX7_zero_134 (by decide) ?_
      refine lv_icmp_gt (tgt := 171) hx hb dX7_zero_136 (by decide) (fun c_136 => ?_) (fun c_136 => absurd (nI_lt (a := 24) (b := p) (by omega) (by omega)) c_136)
      refine lv_aload_n hx hb dX7_zero_171 rfl (lv_at hl 0 rfl) ?_
      refine lv_aload hx hb dX7_zero_172 (lv_at hl 8 rfl) ?_
      have hPz : va_P D vwCl ([(q52, .inr (2, [.long a.toInt64, .long b.toInt64, .long c0.toInt64, .long d0.toInt64]))] ++ (wXa na 8 (-1) (-1) (jshl 1 (nI n)) xfb xfl xfh (fun _ => false) (fun _ => 0) (fun _ => 0) y ad h q n (gPg pa n) n xb1 xl1 xr1 xb2 xl2 xr2 xb3 xl3 xr3 xuz xul xuh xf1 xg1 xf2 xg2 pa kd on ot pt fb fl fh tb tl th dg ds)) H := va_P_pm (List.perm_middle (l₁ := [((na 0), .inr (3, [.ref (ad 8), .int (-1), .int (-1), .long (jshl 1 (nI n)), .ref (na 1), .ref (na 5), .int 0, .long 0])), ((na 1), .inr (4, [.ref (na 2), .ref (na 3), .ref (na 4)])), ((na 2), .inl (y 2, 25, .inl (gZ xfb))), ((na 3), .inl (y 1, 25, .inr (.inl xfl))), ((na 4), .inl (y 1, 25, .inr (.inl xfh))), ((na 5), .inr (4, [.ref (na 6), .ref (na 7), .ref (na 8)])), ((na 6), .inl (y 2, 25, .inl (gZ (fun _ => false)))), ((na 7), .inl (y 1, 25, .inr (.inl (fun _ => 0)))), ((na 8), .inl (y 1, 25, .inr (.inl (fun _ => 0))))]) (a := (q52, .inr (2, [.long a.toInt64, .long b.toInt64, .long c0.toInt64, .long d0.toInt64]))) (l₂ := wX y h q n (gPg pa n) xb1 xl1 xr1 xb2 xl2 xr2 xb3 xl3 xr3 xuz xul xuh xf1 xg1 xf2 xg2 (gPL (pcX y ad pa kd on ot pt fb fl fh tb tl th dg ds) n))) hP
      have hDz : va_D A ([(q52, .inr (2, [.long a.toInt64, .long b.toInt64, .long c0.toInt64, .long d0.toInt64]))] ++ (wXa na 8 (-1) (-1) (jshl 1 (nI n)) xfb xfl xfh (fun _ => false) (fun _ => 0) (fun _ => 0) y ad h q n (gPg pa n) n xb1 xl1 xr1 xb2 xl2 xr2 xb3 xl3 xr3 xuz xul xuh xf1 xg1 xf2 xg2 pa kd on ot pt fb fl fh tb tl th dg ds)) := va_D_pm (List.perm_middle (l₁ := [((na 0), .inr (3, [.ref (ad 8), .int (-1), .int (-1), .long (jshl 1 (nI n)), .ref (na 1), .ref (na 5), .int 0, .long 0])), ((na 1), .inr (4, [.ref (na 2), .ref (na 3), .ref (na 4)])), ((na 2), .inl (y 2, 25, .inl (gZ xfb))), ((na 3), .inl (y 1, 25, .inr (.inl xfl))), ((na 4), .inl (y 1, 25, .inr (.inl xfh))), ((na 5), .inr (4, [.ref (na 6), .ref (na 7), .ref (na 8)])), ((na 6), .inl (y 2, 25, .inl (gZ (fun _ => false)))), ((na 7), .inl (y 1, 25, .inr (.inl (fun _ => 0)))), ((na 8), .inl (y 1, 25, .inr (.inl (fun _ => 0))))]) (a := (q52, .inr (2, [.long a.toInt64, .long b.toInt64, .long c0.toInt64, .long d0.toInt64]))) (l₂ := wX y h q n (gPg pa n) xb1 xl1 xr1 xb2 xl2 xr2 xb3 xl3 xr3 xuz xul xuh xf1 xg1 xf2 xg2 (gPL (pcX y ad pa kd on ot pt fb fl fh tb tl th dg ds) n))) hD
      refine g_callN (ws := [(q52, .inr (2, [.long a.toInt64, .long b.toInt64, .long c0.toInt64, .long d0.toInt64]))]) (wc := wXa na 8 (-1) (-1) (jshl 1 (nI n)) xfb xfl xfh (fun _ => false) (fun _ => 0) (fun _ => 0) y ad h q n (gPg pa n) n xb1 xl1 xr1 xb2 xl2 xr2 xb3 xl3 xr3 xuz xul xuh xf1 xg1 xf2 xg2 pa kd on ot pt fb fl fh tb tl th dg ds) (va_runV (As := [.ref (na 0)]) (rest := []) ⟨hx, hb, hml, hown, hts⟩ (c_X7_add l hfl D y ad H.size h q n xb1 xl1 xr1 xb2 xl2 xr2 xb3 xl3 xr3 xuz xul xuh xf1 xg1 xf2 xg2 pa kd on ot pt fb fl fh tb tl th dg ds na 8 (-1) (-1) (jshl 1 (nI n)) xfb xfl xfh (fun _ => false) (fun _ => 0) (fun _ => 0) hn) (cwV 1 hts gX7_zero_X7_add rfl rfl rfl (by decide +kernel) ⟨Nat.le_of_ble_eq_true rfl, Nat.le_of_ble_eq_true rfl⟩) (gPX_VA (va_P_r (ws := [(q52, .inr (2, [.long a.toInt64, .long b.toInt64, .long c0.toInt64, .long d0.toInt64]))]) hPz) (va_D_r (ws := [(q52, .inr (2, [.long a.toInt64, .long b.toInt64, .long c0.toInt64, .long d0.toInt64]))]) hDz) hK hE hS hA 9 rfl rfl) rfl rfl hl.1 rfl (lv_room (Nat.le_of_ble_eq_true rfl)) dX7_zero_174 ⟨Nat.le_of_ble_eq_true rfl, Nat.le_of_ble_eq_true rfl⟩) hPz hDz hS hA (fun v w1 H locs hf hP hD hS => ?_)
      obtain ⟨yb1_174, yl1_174, yr1_174, yb2_174, yl2_174, yr2_174, yb3_174, yl3_174, yr3_174, yuz_174, yul_174, yuh_174, yf1_174, yg1_174, yf2_174, yg2_174, tbn_174, tln_174, thn_174, rfl, rfl, h174_0⟩ := hf
      have hP9 := va_P_r (ws := [(q52, .inr (2, [.long a.toInt64, .long b.toInt64, .long c0.toInt64, .long d0.toInt64]))]) hP
      have hD9 := va_D_r (ws := [(q52, .inr (2, [.long a.toInt64, .long b.toInt64, .long c0.toInt64, .long d0.toInt64]))]) hD
      exact W.iret (v := nI n) hx hb hr (fun t ht hW => ⟨⟨some (.int (nI n)), wXp y ad h q (n + 1) yb1_174 yl1_174 yr1_174 yb2_174 yl2_174 yr2_174 yb3_174 yl3_174 yr3_174 yuz_174 yul_174 yuh_174 yf1_174 yg1_174 yf2_174 yg2_174 (pst pa n na) (pst kd n 8) (pst on n (-1)) (pst ot n (-1)) (pst pt n (jshl 1 (nI n))) (pst fb n xfb) (pst fl n xfl) (pst fh n xfh) (pst tb n tbn_174) (pst tl n tln_174) (pst th n thn_174) (pst dg n 0) (pst ds n 0), rfl, ⟨yb1_174, yl1_174, yr1_174, yb2_174, yl2_174, yr2_174, yb3_174, yl3_174, yr3_174, yuz_174, yul_174, yuh_174, yf1_174, yg1_174, yf2_174, yg2_174, na, xfb, xfl, xfh, tbn_174, tln_174, thn_174, rfl, rfl, fun i9 hj => hfo i9 (by omega), h174_0⟩, by rw [← hAe]; exact hD9, by rw [ht]; exact hP9⟩, by rw [← hAe]; exact hS.F ht⟩) (by rw [← hAe]; exact hS.2.2) dX7_zero_177
    | succ m9 ih132 =>
      intro p xb1 xl1 xr1 xb2 xl2 xr2 xb3 xl3 xr3 xuz xul xuh xf1 xg1 xf2 xg2 xfb xfl xfh hp2 hfo H locs hP hD hS ls hl
      refine lv_iload hx hb dX7_zero_132 (lv_at hl 9 rfl) ?_
      refine lv_bipush (v := 24) hx hb dX7_zero_134 (by decide) ?_
      refine lv_icmp_gt (tgt := 171) hx hb dX7_zero_136 (by decide) (fun c_136 => absurd c_136 (nI_nlt (a := 24) (b := p) (by omega) (by omega))) (fun c_136 => ?_)
      refine lv_aload_n hx hb dX7_zero_139 rfl (lv_at hl 0 rfl) ?_
      refine lv_aload hx hb dX7_zero_140 (lv_at hl 7 rfl) ?_
      refine lv_iload hx hb dX7_zero_142 (lv_at hl 5 rfl) ?_
      refine lv_iload hx hb dX7_zero_144 (lv_at hl 6 rfl) ?_
      refine lv_iload hx hb dX7_zero_146 (lv_at hl 9 rfl) ?_
      refine g_callv (va_runV (As := [.ref q52, .int fr, .int (nI u), .int (nI p)]) (rest := []) ⟨hx, hb, hml, hown, hts⟩ (c_X7_findZero l D y H.size h (q 0) n (q 1) (q 2) (q 3) (q 4) (q 8) (q 9) xb1 xl1 xr1 q52 a.toInt64 b.toInt64 c0.toInt64 d0.toInt64 fr u p (by omega) hu) (cwV 4 hts gX7_zero_X7_findZero rfl rfl rfl (by decide +kernel) ⟨Nat.le_of_ble_eq_true rfl, Nat.le_of_ble_eq_true rfl⟩) (gP_V hP hD hK [10, 12, 9] (by decide) rfl 10 rfl rfl) rfl rfl hl.1 rfl (lv_room (Nat.le_of_ble_eq_true rfl)) dX7_zero_148 ⟨Nat.le_of_ble_eq_true rfl, Nat.le_of_ble_eq_true rfl⟩) hP hD hS hA [10, 12, 9] rfl (fun H locs hP hD hS => ?_)
      have hP : va_P D vwCl (wXz na 8 (-1) (-1) (jshl 1 (nI n)) xfb xfl xfh (fun _ => false) (fun _ => 0) (fun _ => 0) q52 a.toInt64 b.toInt64 c0.toInt64 d0.toInt64 y ad h q n (gPg pa n) n true ((fzX a.toInt64 b.toInt64 c0.toInt64 d0.toInt64 fr u p).2.1) ((fzX a.toInt64 b.toInt64 c0.toInt64 d0.toInt64 fr u p).2.2) xb2 xl2 xr2 xb3 xl3 xr3 xuz xul xuh xf1 xg1 xf2 xg2 pa kd on ot pt fb fl fh tb tl th dg ds) H := hP
      have hD : va_D A (wXz na 8 (-1) (-1) (jshl 1 (nI n)) xfb xfl xfh (fun _ => false) (fun _ => 0) (fun _ => 0) q52 a.toInt64 b.toInt64 c0.toInt64 d0.toInt64 y ad h q n (gPg pa n) n true ((fzX a.toInt64 b.toInt64 c0.toInt64 d0.toInt64 fr u p).2.1) ((fzX a.toInt64 b.toInt64 c0.toInt64 d0.toInt64 fr u p).2.2) xb2 xl2 xr2 xb3 xl3 xr3 xuz xul xuh xf1 xg1 xf2 xg2 pa kd on ot pt fb fl fh tb tl th dg ds) := hD
      refine lv_aload hx hb dX7_zero_151 (lv_at hl 8 rfl) ?_
      refine va_get (D := D) (ci := 3) (v := .ref (na 1)) (C := RX5) (T := TX5) (N := 8) hx hb hts in_X7_zero_X5 hown hK.1 hP 0 rfl rfl 4 (by decide) (hts (.fieldLink RX7 89 "Nestlimit$Program" "found" "LNestlimit$Row;") (List.mem_of_getElem? (i := 10) rfl)) (fun _ h9 => h9) rfl dX7_zero_153 ?_
      refine lv_iload hx hb dX7_zero_156 (lv_at hl 9 rfl) ?_
      refine lv_aload_n hx hb dX7_zero_158 rfl (lv_at hl 0 rfl) ?_
      refine va_get (D := D) (ci := 5) (v := .ref (q 1)) (C := RX7) (T := TX7) (N := 8) hx hb hts in_X7_zero_X7 hown hK.1 hP 10 rfl rfl 2 (by decide) (hts (.fieldLink RX7 22 "Nestlimit" "answer" "LNestlimit$Interval;") (List.mem_of_getElem? (i := 11) rfl)) (fun _ h9 => h9) rfl dX7_zero_159 ?_
      refine g_callv (va_runV (As := [.int (nI p), .ref (q 1)]) (rest := []) ⟨hx, hb, hml, hown, hts⟩ (c_X6_put l D y H.size (na 1) (na 2) (na 3) (na 4) 25 xfb xfl xfh (q 1) true ((fzX a.toInt64 b.toInt64 c0.toInt64 d0.toInt64 fr u p).2.1) ((fzX a.toInt64 b.toInt64 c0.toInt64 d0.toInt64 fr u p).2.2) p (by omega) (by decide)) (cwV 2 hts gX7_zero_X6_put rfl rfl rfl (by decide +kernel) ⟨Nat.le_of_ble_eq_true rfl, Nat.le_of_ble_eq_true rfl⟩) (gP_V hP hD hK [1, 2, 3, 4, 12] (by decide) rfl 1 rfl rfl) rfl rfl hl.1 rfl (lv_room (Nat.le_of_ble_eq_true rfl)) dX7_zero_162 ⟨Nat.le_of_ble_eq_true rfl, Nat.le_of_ble_eq_true rfl⟩) hP hD hS hA [1, 2, 3, 4, 12] rfl (fun H locs hP hD hS => ?_)
      have hP : va_P D vwCl (wXz na 8 (-1) (-1) (jshl 1 (nI n)) (upZ xfb p true) (vp_updL xfl p ((fzX a.toInt64 b.toInt64 c0.toInt64 d0.toInt64 fr u p).2.1)) (vp_updL xfh p ((fzX a.toInt64 b.toInt64 c0.toInt64 d0.toInt64 fr u p).2.2)) (fun _ => false) (fun _ => 0) (fun _ => 0) q52 a.toInt64 b.toInt64 c0.toInt64 d0.toInt64 y ad h q n (gPg pa n) n true ((fzX a.toInt64 b.toInt64 c0.toInt64 d0.toInt64 fr u p).2.1) ((fzX a.toInt64 b.toInt64 c0.toInt64 d0.toInt64 fr u p).2.2) xb2 xl2 xr2 xb3 xl3 xr3 xuz xul xuh xf1 xg1 xf2 xg2 pa kd on ot pt fb fl fh tb tl th dg ds) H := hP
      have hD : va_D A (wXz na 8 (-1) (-1) (jshl 1 (nI n)) (upZ xfb p true) (vp_updL xfl p ((fzX a.toInt64 b.toInt64 c0.toInt64 d0.toInt64 fr u p).2.1)) (vp_updL xfh p ((fzX a.toInt64 b.toInt64 c0.toInt64 d0.toInt64 fr u p).2.2)) (fun _ => false) (fun _ => 0) (fun _ => 0) q52 a.toInt64 b.toInt64 c0.toInt64 d0.toInt64 y ad h q n (gPg pa n) n true ((fzX a.toInt64 b.toInt64 c0.toInt64 d0.toInt64 fr u p).2.1) ((fzX a.toInt64 b.toInt64 c0.toInt64 d0.toInt64 fr u p).2.2) xb2 xl2 xr2 xb3 xl3 xr3 xuz xul xuh xf1 xg1 xf2 xg2 pa kd on ot pt fb fl fh tb tl th dg ds) := hD
      refine lv_iinc (v := nI (p + 1)) (lv' := [(11, .int (nI (p + 1))), (0, .ref h), (1, .int a), (2, .int b), (3, .int c0), (4, .int d0), (5, .int fr), (6, .int (nI u)), (7, .ref q52), (10, .ref (na 0))]) hx hb dX7_zero_165 hl (k := 9) rfl (nI_add p 1) (by decide) rfl (fun ls hl => ?_)
      refine lv_goto (tgt := 132) hx hb dX7_zero_168 (by decide) ?_
      exact ih132 (p + 1) true ((fzX a.toInt64 b.toInt64 c0.toInt64 d0.toInt64 fr u p).2.1) ((fzX a.toInt64 b.toInt64 c0.toInt64 d0.toInt64 fr u p).2.2) xb2 xl2 xr2 xb3 xl3 xr3 xuz xul xuh xf1 xg1 xf2 xg2 (upZ xfb p true) (vp_updL xfl p ((fzX a.toInt64 b.toInt64 c0.toInt64 d0.toInt64 fr u p).2.1)) (vp_updL xfh p ((fzX a.toInt64 b.toInt64 c0.toInt64 d0.toInt64 fr u p).2.2)) (by omega) (told_up (F := (fzX a.toInt64 b.toInt64 c0.toInt64 d0.toInt64 fr u)) hfo rfl) _ _ hP hD hS ls (lv_sub hl [1, 2, 3, 4, 5, 6, 7, 8, 9, 0] rfl)
  exact LOOP132 25 0 b1 l1 r1 b2 l2 r2 b3 l3 r3 uz ul uh f1 g1 f2 g2 (fun _ => false) (fun _ => 0) (fun _ => 0) (by omega) (fun j hj => absurd hj (Nat.not_lt_zero j)) _ _ hP hD hS ls (lv_sub hl [5, 6, 7, 8, 9, 10, 11, 4, 1, 0] rfl)
