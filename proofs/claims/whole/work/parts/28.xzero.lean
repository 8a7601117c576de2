def skX (f : Int64 → Int32) (sl : Int32) : Nat → Int64 → Int64 → Int64 × Int64
  | 0, lo, hi => (lo, hi)
  | n + 1, lo, hi => if hi - lo ≤ 1 then (lo, hi) else skX f sl n (if f (lo + (hi - lo) / 2) = 0 then lo + (hi - lo) / 2 else if f (lo + (hi - lo) / 2) = sl then lo + (hi - lo) / 2 else lo) (if f (lo + (hi - lo) / 2) = sl then hi else lo + (hi - lo) / 2)
def skL (fr : Int32) (m : Nat) : Int64 := fr.toInt64 * sp_X7_unitsAt (nI m)
def skR (pa pb pc0 pd : Int64) (fr : Int32) (u m : Nat) : Int64 × Int64 := skX (fun x => sp_X4_signAt pa pb pc0 pd x (nI m)) (sp_X4_signAt pa pb pc0 pd (skL fr m) (nI m)) (m + u) (skL fr m) (skL fr m + jshl (sp_X7_unitsAt (nI m)) (nI u))
def fzX (pa pb pc0 pd : Int64) (fr : Int32) (u p : Nat) : Bool × Int64 × Int64 := (true, (skR pa pb pc0 pd fr u (min p 16)).1 * sp_X7_unitsAt (nI p - nI (min p 16)), (skR pa pb pc0 pd fr u (min p 16)).2 * sp_X7_unitsAt (nI p - nI (min p 16)))
theorem g_min {p : Nat} (h : p < 25) : (if (16 : Int32) < nI p then 16 else nI p) = nI (min p 16) := by
  have h2 : ∀ p : Fin 25, (if (16 : Int32) < nI p.val then 16 else nI p.val) = nI (min p.val 16) := by decide
  exact h2 ⟨p, h⟩
theorem in_X7_findZero_X7 : ∀ w ∈ wsX70, w ∈ wsX7_findZero := fun _ h => List.mem_cons_of_mem _ (List.mem_append_left _ (List.mem_append_left _ (List.mem_append_right _ h)))
set_option maxHeartbeats 4000000 in
set_option maxRecDepth 100000 in
theorem c_X7_findZero (l : Launch) (D : va_G) (y : Nat → ClassId) (sz : Nat) (h0 g0 nn g1 g2 g3 g4 g8 g9 : Nat) (b1 : Bool) (l1 r1 : Int64) (h1 : Nat) (pa pb pc0 pd : Int64) (fr : Int32) (u p : Nat) (hp : p < 25) (hu : u < 3) : Met l yX7_findZero wsX7_findZero ({ frames := 2, cells := 0, slots := 0, locals := 48 } : Room) (gP D y [.ref h0, .ref h1, .int fr, .int (nI u), .int (nI p)] [(h0, .inr (5, [.ref g0, .int (nI nn), .ref g1, .ref g2, .ref g3, .ref g4, .ref g8, .ref g9])), (g1, .inr (1, [.int (gB b1), .long l1, .long r1])), (h1, .inr (2, [.long pa, .long pb, .long pc0, .long pd]))] sz) (gQ D [(h0, .inr (5, [.ref g0, .int (nI nn), .ref g1, .ref g2, .ref g3, .ref g4, .ref g8, .ref g9])), (g1, .inr (1, [.int (gB b1), .long l1, .long r1])), (h1, .inr (2, [.long pa, .long pb, .long pc0, .long pd]))] (gF none [(h0, .inr (5, [.ref g0, .int (nI nn), .ref g1, .ref g2, .ref g3, .ref g4, .ref g8, .ref g9])), (g1, .inr (1, [.int (gB true), .long ((fzX pa pb pc0 pd fr u p).2.1), .long ((fzX pa pb pc0 pd fr u p).2.2)])), (h1, .inr (2, [.long pa, .long pb, .long pc0, .long pd]))])) 0 0 (va_A [(h0, .inr (5, [.ref g0, .int (nI nn), .ref g1, .ref g2, .ref g3, .ref g4, .ref g8, .ref g9])), (g1, .inr (1, [.int (gB b1), .long l1, .long r1])), (h1, .inr (2, [.long pa, .long pb, .long pc0, .long pd]))] sz) := by
  refine Met.ofW (cc := cX7_findZero) (maxL := 15) (ret := none) (by decide) rfl ?_
  intro pg e s m args below meth c s₁ B hml hv
  obtain ⟨rfl, hsz, hP, hK, hD0⟩ := hv
  have hx := B.exec
  have hb := B.bytes
  have hr := B.returns
  have hts := atoms_spec (ws := wsX7_findZero) B.pre
  have hown : s.vm.findClass RX7 = some m.cls := findClass_of_methodNamed B.named
  have hlocks := B.notSynchronized
  subst hsz
  obtain ⟨A, hAe⟩ : ∃ A : Nat → Prop, A = va_A [(h0, .inr (5, [.ref g0, .int (nI nn), .ref g1, .ref g2, .ref g3, .ref g4, .ref g8, .ref g9])), (g1, .inr (1, [.int (gB b1), .long l1, .long r1])), (h1, .inr (2, [.long pa, .long pb, .long pc0, .long pd]))] s.heap.size := ⟨_, rfl⟩
  have hD : va_D A [(h0, .inr (5, [.ref g0, .int (nI nn), .ref g1, .ref g2, .ref g3, .ref g4, .ref g8, .ref g9])), (g1, .inr (1, [.int (gB b1), .long l1, .long r1])), (h1, .inr (2, [.long pa, .long pb, .long pc0, .long pd]))] := by rw [hAe]; exact hD0.self (sz := s.heap.size)
  have hA : ∀ q : Nat, s.heap.size ≤ q → A q := fun q h => by rw [hAe]; exact Or.inr h
  have hS : va_S A s.heap s.heap [] := va_S.rf
  have hl := lv_entry ([.ref h0, .ref h1, .int fr, .int (nI u), .int (nI p)]) (n := 15) (Nat.le_of_ble_eq_true rfl)
  rw [lg_entry_eq]
  generalize (lg_sl ([.ref h0, .ref h1, .int fr, .int (nI u), .int (nI p)]) ++ List.replicate (15 - (lg_sl ([.ref h0, .ref h1, .int fr, .int (nI u), .int (nI p)])).length) Slot.unset).toArray = ls at hl ⊢
  have hl : lv_has ls 15 [(0, .ref h0), (1, .ref h1), (2, .int fr), (3, .int (nI u)), (4, .int (nI p))] := hl
  refine lv_iload hx hb dX7_findZero_0 (lv_at hl 4 rfl) ?_
  refine lv_bipush (v := 16) hx hb dX7_findZero_2 (by decide) ?_
  refine va_mmin (rest := []) hx hb (hml.trans hl.1.symm) hown (hts (.methodLink RX7 297 Lib.Math.min.name) (List.mem_of_getElem? (i := 1) rfl)) (hts (.static Lib.Math.min.name) (List.mem_of_getElem? (i := 2) rfl)) (hts (.initialized "java/lang/Math") (List.mem_of_getElem? (i := 3) rfl)) (hts (.code Lib.Math.min.name Lib.Math.min.code 2 (some .int)) (List.mem_of_getElem? (i := 4) rfl)) (Nat.le_of_ble_eq_true rfl) (Nat.le_of_ble_eq_true rfl) (Nat.zero_le _) (Nat.zero_le _) dX7_findZero_4 ?_
  refine g_topi (y := nI (min p 16)) (g_min hp) ?_
  refine lv_istore (lv' := [(5, .int (nI (min p 16))), (0, .ref h0), (1, .ref h1), (2, .int fr), (3, .int (nI u)), (4, .int (nI p))]) hx hb dX7_findZero_7 hl (by decide) rfl (fun ls hl => ?_)
  refine lv_iload_n hx hb dX7_findZero_9 rfl (lv_at hl 3 rfl) ?_
  refine lv_i2l (v := fr.toInt64) hx hb dX7_findZero_10 rfl ?_
  refine lv_iload hx hb dX7_findZero_11 (lv_at hl 0 rfl) ?_
  refine g_callR (v0 := .long (sp_X7_unitsAt (nI (min p 16)))) (va_runS (As := [.int (nI (min p 16))]) (rest := [.long fr.toInt64]) ⟨hx, hb, hml, hown, hts⟩ (c_X7_unitsAt l D y s.heap.size (nI (min p 16))) (va_cwS 1 hts gX7_findZero_X7_unitsAt rfl rfl rfl (by decide +kernel) ⟨Nat.le_of_ble_eq_true rfl, Nat.le_of_ble_eq_true rfl⟩) (gP_S hP hD hK [] (by decide) rfl) rfl rfl hl.1 rfl (lv_room (Nat.le_of_ble_eq_true rfl)) dX7_findZero_13 ⟨Nat.zero_le _, Nat.zero_le _⟩) ?_
  refine lv_lmul hx hb dX7_findZero_16 ?_
  refine g_topl (y := skL fr (min p 16)) (rfl) ?_
  refine lv_lstore (lv' := [(6, .long (skL fr (min p 16))), (5, .int (nI (min p 16))), (0, .ref h0), (1, .ref h1), (2, .int fr), (3, .int (nI u)), (4, .int (nI p))]) hx hb dX7_findZero_17 hl (by decide) rfl (fun ls hl => ?_)
  refine lv_lload hx hb dX7_findZero_19 (lv_at hl 0 rfl) ?_
  refine lv_iload hx hb dX7_findZero_21 (lv_at hl 1 rfl) ?_
  refine g_callR (v0 := .long (sp_X7_unitsAt (nI (min p 16)))) (va_runS (As := [.int (nI (min p 16))]) (rest := [.long (skL fr (min p 16))]) ⟨hx, hb, hml, hown, hts⟩ (c_X7_unitsAt l D y s.heap.size (nI (min p 16))) (va_cwS 1 hts gX7_findZero_X7_unitsAt rfl rfl rfl (by decide +kernel) ⟨Nat.le_of_ble_eq_true rfl, Nat.le_of_ble_eq_true rfl⟩) (gP_S hP hD hK [] (by decide) rfl) rfl rfl hl.1 rfl (lv_room (Nat.le_of_ble_eq_true rfl)) dX7_findZero_23 ⟨Nat.zero_le _, Nat.zero_le _⟩) ?_
  refine lv_iload_n hx hb dX7_findZero_26 rfl (lv_at hl 5 rfl) ?_
  refine lv_lshl (v := jshl (sp_X7_unitsAt (nI (min p 16))) (nI u)) hx hb dX7_findZero_27 rfl ?_
  refine lv_ladd hx hb dX7_findZero_28 ?_
  refine lv_lstore (lv' := [(8, .long ((skL fr (min p 16)) + (jshl (sp_X7_unitsAt (nI (min p 16))) (nI u)))), (6, .long (skL fr (min p 16))), (5, .int (nI (min p 16))), (0, .ref h0), (1, .ref h1), (2, .int fr), (3, .int (nI u)), (4, .int (nI p))]) hx hb dX7_findZero_29 hl (by decide) rfl (fun ls hl => ?_)
  refine lv_aload_n hx hb dX7_findZero_31 rfl (lv_at hl 4 rfl) ?_
  refine lv_lload hx hb dX7_findZero_32 (lv_at hl 1 rfl) ?_
  refine lv_iload hx hb dX7_findZero_34 (lv_at hl 2 rfl) ?_
  refine g_callR (v0 := .int (sp_X4_signAt pa pb pc0 pd (skL fr (min p 16)) (nI (min p 16)))) (va_runV (As := [.long (skL fr (min p 16)), .int (nI (min p 16))]) (rest := []) ⟨hx, hb, hml, hown, hts⟩ (c_X4_signAt l D y s.heap.size h1 pa pb pc0 pd (skL fr (min p 16)) (nI (min p 16))) (cwV 2 hts gX7_findZero_X4_signAt rfl rfl rfl (by decide +kernel) ⟨Nat.le_of_ble_eq_true rfl, Nat.le_of_ble_eq_true rfl⟩) (gP_V hP hD hK [2] (by decide) rfl 2 rfl rfl) rfl rfl hl.1 rfl (lv_room (Nat.le_of_ble_eq_true rfl)) dX7_findZero_36 ⟨Nat.zero_le _, Nat.zero_le _⟩) ?_
  refine lv_istore (lv' := [(10, .int (sp_X4_signAt pa pb pc0 pd (skL fr (min p 16)) (nI (min p 16)))), (8, .long ((skL fr (min p 16)) + (jshl (sp_X7_unitsAt (nI (min p 16))) (nI u)))), (6, .long (skL fr (min p 16))), (5, .int (nI (min p 16))), (0, .ref h0), (1, .ref h1), (2, .int fr), (3, .int (nI u)), (4, .int (nI p))]) hx hb dX7_findZero_39 hl (by decide) rfl (fun ls hl => ?_)
  refine lv_iconst (v := 0) hx hb dX7_findZero_41 (by decide) ?_
  refine lv_istore (lv' := [(11, .int 0), (10, .int (sp_X4_signAt pa pb pc0 pd (skL fr (min p 16)) (nI (min p 16)))), (8, .long ((skL fr (min p 16)) + (jshl (sp_X7_unitsAt (nI (min p 16))) (nI u)))), (6, .long (skL fr (min p 16))), (5, .int (nI (min p 16))), (0, .ref h0), (1, .ref h1), (2, .int fr), (3, .int (nI u)), (4, .int (nI p))]) hx hb dX7_findZero_42 hl (by decide) rfl (fun ls hl => ?_)
  have LOOP44 : ∀ (m9 : Nat) (st : Nat) (xl : Int64) (xh : Int64), (st + m9 = min p 16 + u) → (skX (fun x => sp_X4_signAt pa pb pc0 pd x (nI (min p 16))) (sp_X4_signAt pa pb pc0 pd (skL fr (min p 16)) (nI (min p 16))) m9 xl xh = skR pa pb pc0 pd fr u (min p 16)) → ∀ (H : Heap) (locs : List Loc), va_P D vwCl [(h0, .inr (5, [.ref g0, .int (nI nn), .ref g1, .ref g2, .ref g3, .ref g4, .ref g8, .ref g9])), (g1, .inr (1, [.int (gB b1), .long l1, .long r1])), (h1, .inr (2, [.long pa, .long pb, .long pc0, .long pd]))] H → va_D A [(h0, .inr (5, [.ref g0, .int (nI nn), .ref g1, .ref g2, .ref g3, .ref g4, .ref g8, .ref g9])), (g1, .inr (1, [.int (gB b1), .long l1, .long r1])), (h1, .inr (2, [.long pa, .long pb, .long pc0, .long pd]))] → va_S A s.heap H locs → ∀ (ls : Array Slot), lv_has ls 15 [(0, .ref h0), (1, .ref h1), (2, .int fr), (3, .int (nI u)), (4, .int (nI p)), (5, .int (nI (min p 16))), (6, .long xl), (8, .long xh), (10, .int (sp_X4_signAt pa pb pc0 pd (skL fr (min p 16)) (nI (min p 16)))), (11, .int (nI st))] → W pg l e (headSpec wsX7_findZero ({ frames := 2, cells := 0, slots := 0, locals := 48 } : Room)).room s m (([.ref h0, .ref h1, .int fr, .int (nI u), .int (nI p)] : List Value).toArray) below meth c H locs 0 0 (MQ below (gQ D [(h0, .inr (5, [.ref g0, .int (nI nn), .ref g1, .ref g2, .ref g3, .ref g4, .ref g8, .ref g9])), (g1, .inr (1, [.int (gB b1), .long l1, .long r1])), (h1, .inr (2, [.long pa, .long pb, .long pc0, .long pd]))] (gF none [(h0, .inr (5, [.ref g0, .int (nI nn), .ref g1, .ref g2, .ref g3, .ref g4, .ref g8, .ref g9])), (g1, .inr (1, [.int (gB true), .long ((fzX pa pb pc0 pd fr u p).2.1), .long ((fzX pa pb pc0 pd fr u p).2.2)])), (h1, .inr (2, [.long pa, .long pb, .long pc0, .long pd]))])) (([.ref h0, .ref h1, .int fr, .int (nI u), .int (nI p)] : List Value).toArray) s 0 0 (va_A [(h0, .inr (5, [.ref g0, .int (nI nn), .ref g1, .ref g2, .ref g3, .ref g4, .ref g8, .ref g9])), (g1, .inr (1, [.int (gB b1), .long l1, .long r1])), (h1, .inr (2, [.long pa, .long pb, .long pc0, .long pd]))] s.heap.size)) (F0 m 44 ls []) := by
    intro m9
    induction m9 with
    | zero =>
      intro st xl xh hst hF H locs hP hD hS ls hl
      refine lv_iload hx hb dX7_findZero_44 (lv_at hl 9 rfl) ?_
      refine lv_iload hx hb dX7_findZero_46 (lv_at hl 5 rfl) ?_
      refine lv_iload_n hx hb dX7_findZero_48 rfl (lv_at hl 3 rfl) ?_
      refine lv_iadd hx hb dX7_findZero_49 ?_
      refine g_topi (nI_add (min p 16) u) ?_
      refine lv_icmp_ge (tgt := 120) hx hb dX7_findZero_50 (by decide) (fun c_50 => ?_) (fun c_50 => absurd (nI_le (by omega) (by omega)) c_50)
      have hR9 : (xl, xh) = skR pa pb pc0 pd fr u (min p 16) := hF
      have e1 : xl = (skR pa pb pc0 pd fr u (min p 16)).1 := congrArg Prod.fst hR9
      have e2 : xh = (skR pa pb pc0 pd fr u (min p 16)).2 := congrArg Prod.snd hR9
      rw [e1, e2] at hl
      refine lv_iload hx hb dX7_findZero_120 (lv_at hl 4 rfl) ?_
      refine lv_iload hx hb dX7_findZero_122 (lv_at hl 5 rfl) ?_
      refine lv_isub hx hb dX7_findZero_124 ?_
      refine g_callR (v0 := .long (sp_X7_unitsAt ((nI p) - (nI (min p 16))))) (va_runS (As := [.int ((nI p) - (nI (min p 16)))]) (rest := []) ⟨hx, hb, hml, hown, hts⟩ (c_X7_unitsAt l D y H.size ((nI p) - (nI (min p 16)))) (va_cwS 1 hts gX7_findZero_X7_unitsAt rfl rfl rfl (by decide +kernel) ⟨Nat.le_of_ble_eq_true rfl, Nat.le_of_ble_eq_true rfl⟩) (gP_S hP hD hK [] (by decide) rfl) rfl rfl hl.1 rfl (lv_room (Nat.le_of_ble_eq_true rfl)) dX7_findZero_125 ⟨Nat.zero_le _, Nat.zero_le _⟩) ?_
      refine lv_lstore (lv' := [(11, .long (sp_X7_unitsAt ((nI p) - (nI (min p 16))))), (0, .ref h0), (1, .ref h1), (2, .int fr), (3, .int (nI u)), (4, .int (nI p)), (5, .int (nI (min p 16))), (6, .long ((skR pa pb pc0 pd fr u (min p 16)).1)), (8, .long ((skR pa pb pc0 pd fr u (min p 16)).2)), (10, .int (sp_X4_signAt pa pb pc0 pd (skL fr (min p 16)) (nI (min p 16))))]) hx hb dX7_findZero_128 hl (by decide) rfl (fun ls hl => ?_)
      refine lv_aload_n hx hb dX7_findZero_130 rfl (lv_at hl 1 rfl) ?_
      refine va_get (D := D) (ci := 5) (v := .ref g1) (C := RX7) (T := TX7) (N := 8) hx hb hts in_X7_findZero_X7 hown hK.1 hP 0 rfl rfl 2 (by decide) (hts (.fieldLink RX7 22 "Nestlimit" "answer" "LNestlimit$Interval;") (List.mem_of_getElem? (i := 6) rfl)) (fun _ h9 => h9) rfl dX7_findZero_131 ?_
      refine lv_lload hx hb dX7_findZero_134 (lv_at hl 7 rfl) ?_
      refine lv_lload hx hb dX7_findZero_136 (lv_at hl 0 rfl) ?_
      refine lv_lmul hx hb dX7_findZero_138 ?_
      refine lv_lload hx hb dX7_findZero_139 (lv_at hl 8 rfl) ?_
      refine lv_lload hx hb dX7_findZero_141 (lv_at hl 0 rfl) ?_
      refine lv_lmul hx hb dX7_findZero_143 ?_
      refine g_callv (va_runV (As := [.long (((skR pa pb pc0 pd fr u (min p 16)).1) * (sp_X7_unitsAt ((nI p) - (nI (min p 16))))), .long (((skR pa pb pc0 pd fr u (min p 16)).2) * (sp_X7_unitsAt ((nI p) - (nI (min p 16)))))]) (rest := []) ⟨hx, hb, hml, hown, hts⟩ (c_X2_assign l D y H.size g1 b1 l1 r1 (((skR pa pb pc0 pd fr u (min p 16)).1) * (sp_X7_unitsAt ((nI p) - (nI (min p 16))))) (((skR pa pb pc0 pd fr u (min p 16)).2) * (sp_X7_unitsAt ((nI p) - (nI (min p 16)))))) (cwV 2 hts gX7_findZero_X2_assign rfl rfl rfl (by decide +kernel) ⟨Nat.le_of_ble_eq_true rfl, Nat.le_of_ble_eq_true rfl⟩) (gP_V hP hD hK [1] (by decide) rfl 1 rfl rfl) rfl rfl hl.1 rfl (lv_room (Nat.le_of_ble_eq_true rfl)) dX7_findZero_144 ⟨Nat.zero_le _, Nat.zero_le _⟩) hP hD hS hA [1] rfl (fun H locs hP hD hS => ?_)
      have hP : va_P D vwCl [(h0, .inr (5, [.ref g0, .int (nI nn), .ref g1, .ref g2, .ref g3, .ref g4, .ref g8, .ref g9])), (g1, .inr (1, [.int (gB true), .long (((skR pa pb pc0 pd fr u (min p 16)).1) * (sp_X7_unitsAt ((nI p) - (nI (min p 16))))), .long (((skR pa pb pc0 pd fr u (min p 16)).2) * (sp_X7_unitsAt ((nI p) - (nI (min p 16)))))])), (h1, .inr (2, [.long pa, .long pb, .long pc0, .long pd]))] H := hP
      have hD : va_D A [(h0, .inr (5, [.ref g0, .int (nI nn), .ref g1, .ref g2, .ref g3, .ref g4, .ref g8, .ref g9])), (g1, .inr (1, [.int (gB true), .long (((skR pa pb pc0 pd fr u (min p 16)).1) * (sp_X7_unitsAt ((nI p) - (nI (min p 16))))), .long (((skR pa pb pc0 pd fr u (min p 16)).2) * (sp_X7_unitsAt ((nI p) - (nI (min p 16)))))])), (h1, .inr (2, [.long pa, .long pb, .long pc0, .long pd]))] := hD
      exact W.vret hx hb hr (fun t ht hW => ⟨⟨none, [(h0, .inr (5, [.ref g0, .int (nI nn), .ref g1, .ref g2, .ref g3, .ref g4, .ref g8, .ref g9])), (g1, .inr (1, [.int (gB true), .long (((skR pa pb pc0 pd fr u (min p 16)).1) * (sp_X7_unitsAt ((nI p) - (nI (min p 16))))), .long (((skR pa pb pc0 pd fr u (min p 16)).2) * (sp_X7_unitsAt ((nI p) - (nI (min p 16)))))])), (h1, .inr (2, [.long pa, .long pb, .long pc0, .long pd]))], rfl, ⟨rfl, rfl⟩, rfl, by rw [ht]; exact hP⟩, by rw [← hAe]; exact hS.F ht⟩) (by rw [← hAe]; exact hS.2.2) dX7_findZero_147
    | succ m9 ih44 =>
      intro st xl xh hst hF H locs hP hD hS ls hl
      refine lv_iload hx hb dX7_findZero_44 (lv_at hl 9 rfl) ?_
      refine lv_iload hx hb dX7_findZero_46 (lv_at hl 5 rfl) ?_
      refine lv_iload_n hx hb dX7_findZero_48 rfl (lv_at hl 3 rfl) ?_
      refine lv_iadd hx hb dX7_findZero_49 ?_
      refine g_topi (nI_add (min p 16) u) ?_
      refine lv_icmp_ge (tgt := 120) hx hb dX7_findZero_50 (by decide) (fun c_50 => absurd c_50 (nI_ge (by omega) (by omega))) (fun c_50 => ?_)
      refine lv_lload hx hb dX7_findZero_53 (lv_at hl 7 rfl) ?_
      refine lv_lload hx hb dX7_findZero_55 (lv_at hl 6 rfl) ?_
      refine lv_lsub hx hb dX7_findZero_57 ?_
      refine lv_lconst (v := 1) hx hb dX7_findZero_58 (by decide) ?_
      refine g_le (tgt := 120) hx hb dX7_findZero_59 dX7_findZero_60 (by decide) (fun c_59 => ?_) (fun c_59 => ?_)
      · skip
        have hR9 : (xl, xh) = skR pa pb pc0 pd fr u (min p 16) := by rw [← hF]; show _ = (if _ then _ else _); rw [if_pos c_59]
        have e1 : xl = (skR pa pb pc0 pd fr u (min p 16)).1 := congrArg Prod.fst hR9
        have e2 : xh = (skR pa pb pc0 pd fr u (min p 16)).2 := congrArg Prod.snd hR9
        rw [e1, e2] at hl
        refine lv_iload hx hb dX7_findZero_120 (lv_at hl 4 rfl) ?_
        refine lv_iload hx hb dX7_findZero_122 (lv_at hl 5 rfl) ?_
        refine lv_isub hx hb dX7_findZero_124 ?_
        refine g_callR (v0 := .long (sp_X7_unitsAt ((nI p) - (nI (min p 16))))) (va_runS (As := [.int ((nI p) - (nI (min p 16)))]) (rest := []) ⟨hx, hb, hml, hown, hts⟩ (c_X7_unitsAt l D y H.size ((nI p) - (nI (min p 16)))) (va_cwS 1 hts gX7_findZero_X7_unitsAt rfl rfl rfl (by decide +kernel) ⟨Nat.le_of_ble_eq_true rfl, Nat.le_of_ble_eq_true rfl⟩) (gP_S hP hD hK [] (by decide) rfl) rfl rfl hl.1 rfl (lv_room (Nat.le_of_ble_eq_true rfl)) dX7_findZero_125 ⟨Nat.zero_le _, Nat.zero_le _⟩) ?_
        refine lv_lstore (lv' := [(11, .long (sp_X7_unitsAt ((nI p) - (nI (min p 16))))), (0, .ref h0), (1, .ref h1), (2, .int fr), (3, .int (nI u)), (4, .int (nI p)), (5, .int (nI (min p 16))), (6, .long ((skR pa pb pc0 pd fr u (min p 16)).1)), (8, .long ((skR pa pb pc0 pd fr u (min p 16)).2)), (10, .int (sp_X4_signAt pa pb pc0 pd (skL fr (min p 16)) (nI (min p 16))))]) hx hb dX7_findZero_128 hl (by decide) rfl (fun ls hl => ?_)
        refine lv_aload_n hx hb dX7_findZero_130 rfl (lv_at hl 1 rfl) ?_
        refine va_get (D := D) (ci := 5) (v := .ref g1) (C := RX7) (T := TX7) (N := 8) hx hb hts in_X7_findZero_X7 hown hK.1 hP 0 rfl rfl 2 (by decide) (hts (.fieldLink RX7 22 "Nestlimit" "answer" "LNestlimit$Interval;") (List.mem_of_getElem? (i := 6) rfl)) (fun _ h9 => h9) rfl dX7_findZero_131 ?_
        refine lv_lload hx hb dX7_findZero_134 (lv_at hl 7 rfl) ?_
        refine lv_lload hx hb dX7_findZero_136 (lv_at hl 0 rfl) ?_
        refine lv_lmul hx hb dX7_findZero_138 ?_
        refine lv_lload hx hb dX7_findZero_139 (lv_at hl 8 rfl) ?_
        refine lv_lload hx hb dX7_findZero_141 (lv_at hl 0 rfl) ?_
        refine lv_lmul hx hb dX7_findZero_143 ?_
        refine g_callv (va_runV (As := [.long (((skR pa pb pc0 pd fr u (min p 16)).1) * (sp_X7_unitsAt ((nI p) - (nI (min p 16))))), .long (((skR pa pb pc0 pd fr u (min p 16)).2) * (sp_X7_unitsAt ((nI p) - (nI (min p 16)))))]) (rest := []) ⟨hx, hb, hml, hown, hts⟩ (c_X2_assign l D y H.size g1 b1 l1 r1 (((skR pa pb pc0 pd fr u (min p 16)).1) * (sp_X7_unitsAt ((nI p) - (nI (min p 16))))) (((skR pa pb pc0 pd fr u (min p 16)).2) * (sp_X7_unitsAt ((nI p) - (nI (min p 16)))))) (cwV 2 hts gX7_findZero_X2_assign rfl rfl rfl (by decide +kernel) ⟨Nat.le_of_ble_eq_true rfl, Nat.le_of_ble_eq_true rfl⟩) (gP_V hP hD hK [1] (by decide) rfl 1 rfl rfl) rfl rfl hl.1 rfl (lv_room (Nat.le_of_ble_eq_true rfl)) dX7_findZero_144 ⟨Nat.zero_le _, Nat.zero_le _⟩) hP hD hS hA [1] rfl (fun H locs hP hD hS => ?_)
        have hP : va_P D vwCl [(h0, .inr (5, [.ref g0, .int (nI nn), .ref g1, .ref g2, .ref g3, .ref g4, .ref g8, .ref g9])), (g1, .inr (1, [.int (gB true), .long (((skR pa pb pc0 pd fr u (min p 16)).1) * (sp_X7_unitsAt ((nI p) - (nI (min p 16))))), .long (((skR pa pb pc0 pd fr u (min p 16)).2) * (sp_X7_unitsAt ((nI p) - (nI (min p 16)))))])), (h1, .inr (2, [.long pa, .long pb, .long pc0, .long pd]))] H := hP
        have hD : va_D A [(h0, .inr (5, [.ref g0, .int (nI nn), .ref g1, .ref g2, .ref g3, .ref g4, .ref g8, .ref g9])), (g1, .inr (1, [.int (gB true), .long (((skR pa pb pc0 pd fr u (min p 16)).1) * (sp_X7_unitsAt ((nI p) - (nI (min p 16))))), .long (((skR pa pb pc0 pd fr u (min p 16)).2) * (sp_X7_unitsAt ((nI p) - (nI (min p 16)))))])), (h1, .inr (2, [.long pa, .long pb, .long pc0, .long pd]))] := hD
        exact W.vret hx hb hr (fun t ht hW => ⟨⟨none, [(h0, .inr (5, [.ref g0, .int (nI nn), .ref g1, .ref g2, .ref g3, .ref g4, .ref g8, .ref g9])), (g1, .inr (1, [.int (gB true), .long (((skR pa pb pc0 pd fr u (min p 16)).1) * (sp_X7_unitsAt ((nI p) - (nI (min p 16))))), .long (((skR pa pb pc0 pd fr u (min p 16)).2) * (sp_X7_unitsAt ((nI p) - (nI (min p 16)))))])), (h1, .inr (2, [.long pa, .long pb, .long pc0, .long pd]))], rfl, ⟨rfl, rfl⟩, rfl, by rw [ht]; exact hP⟩, by rw [← hAe]; exact hS.F ht⟩) (by rw [← hAe]; exact hS.2.2) dX7_findZero_147
      · skip
        refine lv_lload hx hb dX7_findZero_63 (lv_at hl 6 rfl) ?_
        refine lv_lload hx hb dX7_findZero_65 (lv_at hl 7 rfl) ?_
        refine lv_lload hx hb dX7_findZero_67 (lv_at hl 6 rfl) ?_
        refine lv_lsub hx hb dX7_findZero_69 ?_
        refine lv_ldc2 (v := 2) hx hb hown (hts (.constantLong RX7 229 (2)) (List.mem_of_getElem? (i := 5) rfl)) dX7_findZero_70 ?_
        refine lv_ldiv hx hb dX7_findZero_73 (by decide) ?_
        refine lv_ladd hx hb dX7_findZero_74 ?_
        refine lv_lstore (lv' := [(12, .long (xl + ((xh - xl) / 2))), (0, .ref h0), (1, .ref h1), (2, .int fr), (3, .int (nI u)), (4, .int (nI p)), (5, .int (nI (min p 16))), (6, .long xl), (8, .long xh), (10, .int (sp_X4_signAt pa pb pc0 pd (skL fr (min p 16)) (nI (min p 16)))), (11, .int (nI st))]) hx hb dX7_findZero_75 hl (by decide) rfl (fun ls hl => ?_)
        refine lv_aload_n hx hb dX7_findZero_77 rfl (lv_at hl 2 rfl) ?_
        refine lv_lload hx hb dX7_findZero_78 (lv_at hl 0 rfl) ?_
        refine lv_iload hx hb dX7_findZero_80 (lv_at hl 6 rfl) ?_
        refine g_callR (v0 := .int (sp_X4_signAt pa pb pc0 pd (xl + ((xh - xl) / 2)) (nI (min p 16)))) (va_runV (As := [.long (xl + ((xh - xl) / 2)), .int (nI (min p 16))]) (rest := []) ⟨hx, hb, hml, hown, hts⟩ (c_X4_signAt l D y H.size h1 pa pb pc0 pd (xl + ((xh - xl) / 2)) (nI (min p 16))) (cwV 2 hts gX7_findZero_X4_signAt rfl rfl rfl (by decide +kernel) ⟨Nat.le_of_ble_eq_true rfl, Nat.le_of_ble_eq_true rfl⟩) (gP_V hP hD hK [2] (by decide) rfl 2 rfl rfl) rfl rfl hl.1 rfl (lv_room (Nat.le_of_ble_eq_true rfl)) dX7_findZero_82 ⟨Nat.zero_le _, Nat.zero_le _⟩) ?_
        refine lv_istore (lv' := [(14, .int (sp_X4_signAt pa pb pc0 pd (xl + ((xh - xl) / 2)) (nI (min p 16)))), (12, .long (xl + ((xh - xl) / 2))), (0, .ref h0), (1, .ref h1), (2, .int fr), (3, .int (nI u)), (4, .int (nI p)), (5, .int (nI (min p 16))), (6, .long xl), (8, .long xh), (10, .int (sp_X4_signAt pa pb pc0 pd (skL fr (min p 16)) (nI (min p 16)))), (11, .int (nI st))]) hx hb dX7_findZero_85 hl (by decide) rfl (fun ls hl => ?_)
        refine lv_iload hx hb dX7_findZero_87 (lv_at hl 0 rfl) ?_
        refine lv_if_eq (tgt := 99) hx hb dX7_findZero_89 (by decide) (fun c_89 => ?_) (fun c_89 => ?_)
        · skip
          refine lv_lload hx hb dX7_findZero_99 (lv_at hl 1 rfl) ?_
          refine lv_lstore (lv' := [(6, .long (xl + ((xh - xl) / 2))), (14, .int (sp_X4_signAt pa pb pc0 pd (xl + ((xh - xl) / 2)) (nI (min p 16)))), (12, .long (xl + ((xh - xl) / 2))), (0, .ref h0), (1, .ref h1), (2, .int fr), (3, .int (nI u)), (4, .int (nI p)), (5, .int (nI (min p 16))), (8, .long xh), (10, .int (sp_X4_signAt pa pb pc0 pd (skL fr (min p 16)) (nI (min p 16)))), (11, .int (nI st))]) hx hb dX7_findZero_101 hl (by decide) rfl (fun ls hl => ?_)
          refine lv_iload hx hb dX7_findZero_103 (lv_at hl 1 rfl) ?_
          refine lv_iload hx hb dX7_findZero_105 (lv_at hl 10 rfl) ?_
          refine lv_icmp_eq (tgt := 114) hx hb dX7_findZero_107 (by decide) (fun c_107 => ?_) (fun c_107 => ?_)
          · skip
            refine lv_iinc (v := nI (st + 1)) (lv' := [(11, .int (nI (st + 1))), (6, .long (xl + ((xh - xl) / 2))), (14, .int (sp_X4_signAt pa pb pc0 pd (xl + ((xh - xl) / 2)) (nI (min p 16)))), (12, .long (xl + ((xh - xl) / 2))), (0, .ref h0), (1, .ref h1), (2, .int fr), (3, .int (nI u)), (4, .int (nI p)), (5, .int (nI (min p 16))), (8, .long xh), (10, .int (sp_X4_signAt pa pb pc0 pd (skL fr (min p 16)) (nI (min p 16))))]) hx hb dX7_findZero_114 hl (k := 11) rfl (nI_add st 1) (by decide) rfl (fun ls hl => ?_)
            refine lv_goto (tgt := 44) hx hb dX7_findZero_117 (by decide) ?_
            exact ih44 (st + 1) (xl + ((xh - xl) / 2)) xh (by omega) (by rw [← hF]; show _ = (if _ then _ else _); rw [if_neg c_59]; simp only [if_pos c_89, if_pos c_107]) _ _ hP hD hS ls (lv_sub hl [4, 5, 6, 7, 8, 9, 1, 10, 11, 0] rfl)
          · skip
            refine lv_lload hx hb dX7_findZero_110 (lv_at hl 2 rfl) ?_
            refine lv_lstore (lv' := [(8, .long (xl + ((xh - xl) / 2))), (6, .long (xl + ((xh - xl) / 2))), (14, .int (sp_X4_signAt pa pb pc0 pd (xl + ((xh - xl) / 2)) (nI (min p 16)))), (12, .long (xl + ((xh - xl) / 2))), (0, .ref h0), (1, .ref h1), (2, .int fr), (3, .int (nI u)), (4, .int (nI p)), (5, .int (nI (min p 16))), (10, .int (sp_X4_signAt pa pb pc0 pd (skL fr (min p 16)) (nI (min p 16)))), (11, .int (nI st))]) hx hb dX7_findZero_112 hl (by decide) rfl (fun ls hl => ?_)
            refine lv_iinc (v := nI (st + 1)) (lv' := [(11, .int (nI (st + 1))), (8, .long (xl + ((xh - xl) / 2))), (6, .long (xl + ((xh - xl) / 2))), (14, .int (sp_X4_signAt pa pb pc0 pd (xl + ((xh - xl) / 2)) (nI (min p 16)))), (12, .long (xl + ((xh - xl) / 2))), (0, .ref h0), (1, .ref h1), (2, .int fr), (3, .int (nI u)), (4, .int (nI p)), (5, .int (nI (min p 16))), (10, .int (sp_X4_signAt pa pb pc0 pd (skL fr (min p 16)) (nI (min p 16))))]) hx hb dX7_findZero_114 hl (k := 11) rfl (nI_add st 1) (by decide) rfl (fun ls hl => ?_)
            refine lv_goto (tgt := 44) hx hb dX7_findZero_117 (by decide) ?_
            exact ih44 (st + 1) (xl + ((xh - xl) / 2)) (xl + ((xh - xl) / 2)) (by omega) (by rw [← hF]; show _ = (if _ then _ else _); rw [if_neg c_59]; simp only [if_pos c_89, if_neg c_107]) _ _ hP hD hS ls (lv_sub hl [5, 6, 7, 8, 9, 10, 2, 1, 11, 0] rfl)
        · skip
          refine lv_iload hx hb dX7_findZero_92 (lv_at hl 0 rfl) ?_
          refine lv_iload hx hb dX7_findZero_94 (lv_at hl 10 rfl) ?_
          refine lv_icmp_ne (tgt := 103) hx hb dX7_findZero_96 (by decide) (fun c_96 => ?_) (fun c_96 => ?_)
          · skip
            refine lv_iload hx hb dX7_findZero_103 (lv_at hl 0 rfl) ?_
            refine lv_iload hx hb dX7_findZero_105 (lv_at hl 10 rfl) ?_
            refine lv_icmp_eq (tgt := 114) hx hb dX7_findZero_107 (by decide) (fun c_107 => absurd c_107 c_96) (fun c_107 => ?_)
            refine lv_lload hx hb dX7_findZero_110 (lv_at hl 1 rfl) ?_
            refine lv_lstore (lv' := [(8, .long (xl + ((xh - xl) / 2))), (14, .int (sp_X4_signAt pa pb pc0 pd (xl + ((xh - xl) / 2)) (nI (min p 16)))), (12, .long (xl + ((xh - xl) / 2))), (0, .ref h0), (1, .ref h1), (2, .int fr), (3, .int (nI u)), (4, .int (nI p)), (5, .int (nI (min p 16))), (6, .long xl), (10, .int (sp_X4_signAt pa pb pc0 pd (skL fr (min p 16)) (nI (min p 16)))), (11, .int (nI st))]) hx hb dX7_findZero_112 hl (by decide) rfl (fun ls hl => ?_)
            refine lv_iinc (v := nI (st + 1)) (lv' := [(11, .int (nI (st + 1))), (8, .long (xl + ((xh - xl) / 2))), (14, .int (sp_X4_signAt pa pb pc0 pd (xl + ((xh - xl) / 2)) (nI (min p 16)))), (12, .long (xl + ((xh - xl) / 2))), (0, .ref h0), (1, .ref h1), (2, .int fr), (3, .int (nI u)), (4, .int (nI p)), (5, .int (nI (min p 16))), (6, .long xl), (10, .int (sp_X4_signAt pa pb pc0 pd (skL fr (min p 16)) (nI (min p 16))))]) hx hb dX7_findZero_114 hl (k := 11) rfl (nI_add st 1) (by decide) rfl (fun ls hl => ?_)
            refine lv_goto (tgt := 44) hx hb dX7_findZero_117 (by decide) ?_
            exact ih44 (st + 1) xl (xl + ((xh - xl) / 2)) (by omega) (by rw [← hF]; show _ = (if _ then _ else _); rw [if_neg c_59]; simp only [if_neg c_89, if_neg c_96]) _ _ hP hD hS ls (lv_sub hl [4, 5, 6, 7, 8, 9, 10, 1, 11, 0] rfl)
          · skip
            refine lv_lload hx hb dX7_findZero_99 (lv_at hl 1 rfl) ?_
            refine lv_lstore (lv' := [(6, .long (xl + ((xh - xl) / 2))), (14, .int (sp_X4_signAt pa pb pc0 pd (xl + ((xh - xl) / 2)) (nI (min p 16)))), (12, .long (xl + ((xh - xl) / 2))), (0, .ref h0), (1, .ref h1), (2, .int fr), (3, .int (nI u)), (4, .int (nI p)), (5, .int (nI (min p 16))), (8, .long xh), (10, .int (sp_X4_signAt pa pb pc0 pd (skL fr (min p 16)) (nI (min p 16)))), (11, .int (nI st))]) hx hb dX7_findZero_101 hl (by decide) rfl (fun ls hl => ?_)
            refine lv_iload hx hb dX7_findZero_103 (lv_at hl 1 rfl) ?_
            refine lv_iload hx hb dX7_findZero_105 (lv_at hl 10 rfl) ?_
            refine lv_icmp_eq (tgt := 114) hx hb dX7_findZero_107 (by decide) (fun c_107 => ?_) (fun c_107 => absurd c_96 c_107)
            refine lv_iinc (v := nI (st + 1)) (lv' := [(11, .int (nI (st + 1))), (6, .long (xl + ((xh - xl) / 2))), (14, .int (sp_X4_signAt pa pb pc0 pd (xl + ((xh - xl) / 2)) (nI (min p 16)))), (12, .long (xl + ((xh - xl) / 2))), (0, .ref h0), (1, .ref h1), (2, .int fr), (3, .int (nI u)), (4, .int (nI p)), (5, .int (nI (min p 16))), (8, .long xh), (10, .int (sp_X4_signAt pa pb pc0 pd (skL fr (min p 16)) (nI (min p 16))))]) hx hb dX7_findZero_114 hl (k := 11) rfl (nI_add st 1) (by decide) rfl (fun ls hl => ?_)
            refine lv_goto (tgt := 44) hx hb dX7_findZero_117 (by decide) ?_
            exact ih44 (st + 1) (xl + ((xh - xl) / 2)) xh (by omega) (by rw [← hF]; show _ = (if _ then _ else _); rw [if_neg c_59]; simp only [if_neg c_89, if_pos c_96]) _ _ hP hD hS ls (lv_sub hl [4, 5, 6, 7, 8, 9, 1, 10, 11, 0] rfl)
  exact LOOP44 (min p 16 + u) 0 (skL fr (min p 16)) ((skL fr (min p 16)) + (jshl (sp_X7_unitsAt (nI (min p 16))) (nI u))) (by omega) (rfl) _ _ hP hD hS ls (lv_sub hl [5, 6, 7, 8, 9, 4, 3, 2, 1, 0] rfl)
