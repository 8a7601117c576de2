def suF (tl th : Nat → Int64) (k p : Nat) : Nat → Nat → Nat
  | 0, j => j
  | n + 1, j => if sp_X8_cut (tl (25 * k + p) * tenF j 1) (jshl 1 (nI p)) = sp_X8_cut (th (25 * k + p) * tenF j 1) (jshl 1 (nI p)) then suF tl th k p n (j + 1) else j
def suR (at_ : Nat → Bool) (tl th : Nat → Int64) (k p : Nat) : Int32 := nI (if at_ (25 * k + p) = true then suF tl th k p 8 0 else 0) - 1
theorem in_X8_sureOf_X8 : ∀ w ∈ wsX80, w ∈ wsX8_sureOf := fun _ h => List.mem_cons_of_mem _ (List.mem_append_right _ h)
set_option maxHeartbeats 4000000 in
set_option maxRecDepth 100000 in
theorem c_X8_sureOf (l : Launch) (D : va_G) (y : Nat → ClassId) (sz : Nat) (h : Nat) (q : Nat → Nat) (tw : Int32) (pn : Nat) (ki on ot ab be zA zB zC zD zF zT : Nat → Int32) (fo : Nat → Bool) (lw hg : Nat → Int64) (at_ : Nat → Bool) (tl th : Nat → Int64) (wo : Nat → Bool) (wl wh : Nat → Int64) (is_ : Bool) (lo_ hi_ : Int64) (di : Nat → Int32) (su : Nat → Int64) (an : Nat → Bool) (k p : Nat) (hk : k < 40) (hp : p < 25) : Met l yX8_sureOf wsX8_sureOf ({ frames := 1, cells := 0, slots := 0, locals := 25 } : Room) (gP D y [.ref h, .int (nI k), .int (nI p)] (wM y h q tw pn ki on ot ab be zA zB zC zD zF zT fo lw hg at_ tl th wo wl wh is_ lo_ hi_ di su an) sz) (gR (.int (suR at_ tl th k p))) 0 0 (fun _ => False) := by
  refine Met.ofW (cc := cX8_sureOf) (maxL := 5) (ret := (some .int)) (by decide) rfl ?_
  intro pg e s m args below meth c s₁ B hml hv
  obtain ⟨rfl, hsz, hP, hK, hD0⟩ := hv
  have hx := B.exec
  have hb := B.bytes
  have hr := B.returns
  have hts := atoms_spec (ws := wsX8_sureOf) B.pre
  have hown : s.vm.findClass RX8 = some m.cls := findClass_of_methodNamed B.named
  have hlocks := B.notSynchronized
  subst hsz
  obtain ⟨A, hAe⟩ : ∃ A : Nat → Prop, A = va_A (wM y h q tw pn ki on ot ab be zA zB zC zD zF zT fo lw hg at_ tl th wo wl wh is_ lo_ hi_ di su an) s.heap.size := ⟨_, rfl⟩
  have hD : va_D A (wM y h q tw pn ki on ot ab be zA zB zC zD zF zT fo lw hg at_ tl th wo wl wh is_ lo_ hi_ di su an) := by rw [hAe]; exact hD0.self (sz := s.heap.size)
  have hA : ∀ q : Nat, s.heap.size ≤ q → A q := fun q h => by rw [hAe]; exact Or.inr h
  have hS : va_S A s.heap s.heap [] := va_S.rf
  have hl := lv_entry ([.ref h, .int (nI k), .int (nI p)]) (n := 5) (Nat.le_of_ble_eq_true rfl)
  rw [lg_entry_eq]
  generalize (lg_sl ([.ref h, .int (nI k), .int (nI p)]) ++ List.replicate (5 - (lg_sl ([.ref h, .int (nI k), .int (nI p)])).length) Slot.unset).toArray = ls at hl ⊢
  have hl : lv_has ls 5 [(0, .ref h), (1, .int (nI k)), (2, .int (nI p))] := hl
  refine lv_bipush (v := 25) hx hb dX8_sureOf_0 (by decide) ?_
  refine lv_iload_n hx hb dX8_sureOf_2 rfl (lv_at hl 1 rfl) ?_
  refine lv_imul hx hb dX8_sureOf_3 ?_
  refine g_topi (pk_mul 25 k) ?_
  refine lv_iload_n hx hb dX8_sureOf_4 rfl (lv_at hl 2 rfl) ?_
  refine lv_iadd hx hb dX8_sureOf_5 ?_
  refine g_topi (nI_add (25 * k) p) ?_
  refine lv_istore_n (lv' := [(3, .int (nI ((25 * k) + p))), (0, .ref h), (1, .int (nI k)), (2, .int (nI p))]) hx hb dX8_sureOf_6 rfl hl (by decide) rfl (fun ls hl => ?_)
  refine lv_iconst (v := 0) hx hb dX8_sureOf_7 (by decide) ?_
  refine lv_istore (lv' := [(4, .int 0), (3, .int (nI ((25 * k) + p))), (0, .ref h), (1, .int (nI k)), (2, .int (nI p))]) hx hb dX8_sureOf_8 hl (by decide) rfl (fun ls hl => ?_)
  have LOOP10 : ∀ (n : Nat) (j : Nat), (j + n = 8) → (at_ (25 * k + p) = true → suF tl th k p n j = suF tl th k p 8 0) → (¬ at_ (25 * k + p) = true → j = 0) → ∀ (ls : Array Slot), lv_has ls 5 [(0, .ref h), (1, .int (nI k)), (2, .int (nI p)), (3, .int (nI (25 * k + p))), (4, .int (nI j))] → W pg l e (headSpec wsX8_sureOf ({ frames := 1, cells := 0, slots := 0, locals := 25 } : Room)).room s m (([.ref h, .int (nI k), .int (nI p)] : List Value).toArray) below meth c s.heap [] 0 0 (MQ below (gR (.int (suR at_ tl th k p))) (([.ref h, .int (nI k), .int (nI p)] : List Value).toArray) s 0 0 (fun _ => False)) (F0 m 10 ls []) := by
    intro n
    induction n with
    | zero =>
      intro j hj hF hG ls hl
      refine lv_aload_n hx hb dX8_sureOf_10 rfl (lv_at hl 0 rfl) ?_
      refine va_get (D := D) (ci := 6) (v := .ref (q 16)) (C := RX8) (T := TX8) (N := 28) hx hb hts in_X8_sureOf_X8 hown hK.1 hP 0 rfl rfl 16 (by decide) (hts (.fieldLink RX8 54 "NestlimitModel" "areTold" "[Z") (List.mem_of_getElem? (i := 1) rfl)) (fun _ h9 => h9) rfl dX8_sureOf_11 ?_
      refine lv_iload_n hx hb dX8_sureOf_14 rfl (lv_at hl 3 rfl) ?_
      refine g_zald (k := 25 * k + p) hx hb hK.1 hP 15 2 rfl rfl (by omega) (by decide) dX8_sureOf_15 ?_
      refine g_beq (tgt := 72) hx hb dX8_sureOf_16 (by decide) (fun c_16 => ?_) (fun c_16 => ?_)
      · skip
        refine lv_iload hx hb dX8_sureOf_72 (lv_at hl 4 rfl) ?_
        refine lv_iconst (v := 1) hx hb dX8_sureOf_74 (by decide) ?_
        refine lv_isub hx hb dX8_sureOf_75 ?_
        exact W.iret (v := (nI j) - 1) hx hb hr (fun t ht hW => ⟨congrArg (fun z => Outcome.returned (some (Value.int z))) (by rw [hG c_16]; unfold suR; rw [if_neg c_16]), ht⟩) (fun q h => by cases h) dX8_sureOf_76
      · skip
        refine lv_iload hx hb dX8_sureOf_19 (lv_at hl 4 rfl) ?_
        refine lv_bipush (v := 8) hx hb dX8_sureOf_21 (by decide) ?_
        refine lv_icmp_ge (tgt := 72) hx hb dX8_sureOf_23 (by decide) (fun c_23 => ?_) (fun c_23 => absurd (nI_le (a := 8) (by omega) (by omega)) c_23)
        refine lv_iload hx hb dX8_sureOf_72 (lv_at hl 4 rfl) ?_
        refine lv_iconst (v := 1) hx hb dX8_sureOf_74 (by decide) ?_
        refine lv_isub hx hb dX8_sureOf_75 ?_
        exact W.iret (v := (nI j) - 1) hx hb hr (fun t ht hW => ⟨congrArg (fun z => Outcome.returned (some (Value.int z))) (by unfold suR; rw [if_pos c_16, ← hF c_16]; rfl), ht⟩) (fun q h => by cases h) dX8_sureOf_76
    | succ n ih10 =>
      intro j hj hF hG ls hl
      refine lv_aload_n hx hb dX8_sureOf_10 rfl (lv_at hl 0 rfl) ?_
      refine va_get (D := D) (ci := 6) (v := .ref (q 16)) (C := RX8) (T := TX8) (N := 28) hx hb hts in_X8_sureOf_X8 hown hK.1 hP 0 rfl rfl 16 (by decide) (hts (.fieldLink RX8 54 "NestlimitModel" "areTold" "[Z") (List.mem_of_getElem? (i := 1) rfl)) (fun _ h9 => h9) rfl dX8_sureOf_11 ?_
      refine lv_iload_n hx hb dX8_sureOf_14 rfl (lv_at hl 3 rfl) ?_
      refine g_zald (k := 25 * k + p) hx hb hK.1 hP 15 2 rfl rfl (by omega) (by decide) dX8_sureOf_15 ?_
      refine g_beq (tgt := 72) hx hb dX8_sureOf_16 (by decide) (fun c_16 => ?_) (fun c_16 => ?_)
      · skip
        refine lv_iload hx hb dX8_sureOf_72 (lv_at hl 4 rfl) ?_
        refine lv_iconst (v := 1) hx hb dX8_sureOf_74 (by decide) ?_
        refine lv_isub hx hb dX8_sureOf_75 ?_
        exact W.iret (v := (nI j) - 1) hx hb hr (fun t ht hW => ⟨congrArg (fun z => Outcome.returned (some (Value.int z))) (by rw [hG c_16]; unfold suR; rw [if_neg c_16]), ht⟩) (fun q h => by cases h) dX8_sureOf_76
      · skip
        refine lv_iload hx hb dX8_sureOf_19 (lv_at hl 4 rfl) ?_
        refine lv_bipush (v := 8) hx hb dX8_sureOf_21 (by decide) ?_
        refine lv_icmp_ge (tgt := 72) hx hb dX8_sureOf_23 (by decide) (fun c_23 => absurd c_23 (nI_ge (b := 8) (by omega) (by omega))) (fun c_23 => ?_)
        refine lv_aload_n hx hb dX8_sureOf_26 rfl (lv_at hl 0 rfl) ?_
        refine va_get (D := D) (ci := 6) (v := .ref (q 17)) (C := RX8) (T := TX8) (N := 28) hx hb hts in_X8_sureOf_X8 hown hK.1 hP 0 rfl rfl 17 (by decide) (hts (.fieldLink RX8 57 "NestlimitModel" "toldLow" "[J") (List.mem_of_getElem? (i := 2) rfl)) (fun _ h9 => h9) rfl dX8_sureOf_27 ?_
        refine lv_iload_n hx hb dX8_sureOf_30 rfl (lv_at hl 3 rfl) ?_
        refine g_lald (k := 25 * k + p) hx hb hK.1 hP 16 1 rfl rfl (by omega) (by decide) dX8_sureOf_31 ?_
        refine lv_iload hx hb dX8_sureOf_32 (lv_at hl 4 rfl) ?_
        refine g_callR (v0 := .long (tenF j 1)) (va_runS (As := [.int (nI j)]) (rest := [.long (tl (25 * k + p))]) ⟨hx, hb, hml, hown, hts⟩ (c_X8_tens l D y s.heap.size j (by omega)) (va_cwS 1 hts gX8_sureOf_X8_tens rfl rfl rfl (by decide +kernel) ⟨Nat.le_of_ble_eq_true rfl, Nat.le_of_ble_eq_true rfl⟩) (gP_S hP hD hK [] (by decide) rfl) rfl rfl hl.1 rfl (lv_room (Nat.le_of_ble_eq_true rfl)) dX8_sureOf_34 ⟨Nat.zero_le _, Nat.zero_le _⟩) ?_
        refine lv_lmul hx hb dX8_sureOf_37 ?_
        refine lv_lconst (v := 1) hx hb dX8_sureOf_38 (by decide) ?_
        refine lv_iload_n hx hb dX8_sureOf_39 rfl (lv_at hl 2 rfl) ?_
        refine lv_lshl (v := jshl 1 (nI p)) hx hb dX8_sureOf_40 rfl ?_
        refine g_callR (v0 := .long (sp_X8_cut ((tl (25 * k + p)) * (tenF j 1)) (jshl 1 (nI p)))) (va_runS (As := [.long ((tl (25 * k + p)) * (tenF j 1)), .long (jshl 1 (nI p))]) (rest := []) ⟨hx, hb, hml, hown, hts⟩ (c_X8_cut l D y s.heap.size ((tl (25 * k + p)) * (tenF j 1)) (jshl 1 (nI p)) (gU_ne (by omega))) (va_cwS 2 hts gX8_sureOf_X8_cut rfl rfl rfl (by decide +kernel) ⟨Nat.le_of_ble_eq_true rfl, Nat.le_of_ble_eq_true rfl⟩) (gP_S hP hD hK [] (by decide) rfl) rfl rfl hl.1 rfl (lv_room (Nat.le_of_ble_eq_true rfl)) dX8_sureOf_41 ⟨Nat.zero_le _, Nat.zero_le _⟩) ?_
        refine lv_aload_n hx hb dX8_sureOf_44 rfl (lv_at hl 0 rfl) ?_
        refine va_get (D := D) (ci := 6) (v := .ref (q 18)) (C := RX8) (T := TX8) (N := 28) hx hb hts in_X8_sureOf_X8 hown hK.1 hP 0 rfl rfl 18 (by decide) (hts (.fieldLink RX8 60 "NestlimitModel" "toldHigh" "[J") (List.mem_of_getElem? (i := 3) rfl)) (fun _ h9 => h9) rfl dX8_sureOf_45 ?_
        refine lv_iload_n hx hb dX8_sureOf_48 rfl (lv_at hl 3 rfl) ?_
        refine g_lald (k := 25 * k + p) hx hb hK.1 hP 17 1 rfl rfl (by omega) (by decide) dX8_sureOf_49 ?_
        refine lv_iload hx hb dX8_sureOf_50 (lv_at hl 4 rfl) ?_
        refine g_callR (v0 := .long (tenF j 1)) (va_runS (As := [.int (nI j)]) (rest := [.long (th (25 * k + p)), .long (sp_X8_cut ((tl (25 * k + p)) * (tenF j 1)) (jshl 1 (nI p)))]) ⟨hx, hb, hml, hown, hts⟩ (c_X8_tens l D y s.heap.size j (by omega)) (va_cwS 1 hts gX8_sureOf_X8_tens rfl rfl rfl (by decide +kernel) ⟨Nat.le_of_ble_eq_true rfl, Nat.le_of_ble_eq_true rfl⟩) (gP_S hP hD hK [] (by decide) rfl) rfl rfl hl.1 rfl (lv_room (Nat.le_of_ble_eq_true rfl)) dX8_sureOf_52 ⟨Nat.zero_le _, Nat.zero_le _⟩) ?_
        refine lv_lmul hx hb dX8_sureOf_55 ?_
        refine lv_lconst (v := 1) hx hb dX8_sureOf_56 (by decide) ?_
        refine lv_iload_n hx hb dX8_sureOf_57 rfl (lv_at hl 2 rfl) ?_
        refine lv_lshl (v := jshl 1 (nI p)) hx hb dX8_sureOf_58 rfl ?_
        refine g_callR (v0 := .long (sp_X8_cut ((th (25 * k + p)) * (tenF j 1)) (jshl 1 (nI p)))) (va_runS (As := [.long ((th (25 * k + p)) * (tenF j 1)), .long (jshl 1 (nI p))]) (rest := [.long (sp_X8_cut ((tl (25 * k + p)) * (tenF j 1)) (jshl 1 (nI p)))]) ⟨hx, hb, hml, hown, hts⟩ (c_X8_cut l D y s.heap.size ((th (25 * k + p)) * (tenF j 1)) (jshl 1 (nI p)) (gU_ne (by omega))) (va_cwS 2 hts gX8_sureOf_X8_cut rfl rfl rfl (by decide +kernel) ⟨Nat.le_of_ble_eq_true rfl, Nat.le_of_ble_eq_true rfl⟩) (gP_S hP hD hK [] (by decide) rfl) rfl rfl hl.1 rfl (lv_room (Nat.le_of_ble_eq_true rfl)) dX8_sureOf_59 ⟨Nat.zero_le _, Nat.zero_le _⟩) ?_
        refine g_ne (tgt := 72) hx hb dX8_sureOf_62 dX8_sureOf_63 (by decide) (fun c_62 => ?_) (fun c_62 => ?_)
        · skip
          refine lv_iload hx hb dX8_sureOf_72 (lv_at hl 4 rfl) ?_
          refine lv_iconst (v := 1) hx hb dX8_sureOf_74 (by decide) ?_
          refine lv_isub hx hb dX8_sureOf_75 ?_
          exact W.iret (v := (nI j) - 1) hx hb hr (fun t ht hW => ⟨congrArg (fun z => Outcome.returned (some (Value.int z))) (by unfold suR; rw [if_pos c_16, ← hF c_16]; show _ = nI (if _ then _ else _) - 1; rw [if_neg c_62]), ht⟩) (fun q h => by cases h) dX8_sureOf_76
        · skip
          refine lv_iinc (v := nI (j + 1)) (lv' := [(4, .int (nI (j + 1))), (0, .ref h), (1, .int (nI k)), (2, .int (nI p)), (3, .int (nI (25 * k + p)))]) hx hb dX8_sureOf_66 hl (k := 4) rfl (nI_add j 1) (by decide) rfl (fun ls hl => ?_)
          refine lv_goto (tgt := 10) hx hb dX8_sureOf_69 (by decide) ?_
          exact ih10 (j + 1) (by omega) (fun z => by rw [← hF z]; show _ = (if _ then _ else _); rw [if_pos c_62]) (fun z => absurd c_16 z) ls (lv_sub hl [1, 2, 3, 4, 0] rfl)
  exact LOOP10 8 0 (by omega) (fun _ => rfl) (fun _ => rfl) ls (lv_sub hl [2, 3, 4, 1, 0] rfl)
set_option maxHeartbeats 4000000 in
set_option maxRecDepth 100000 in
theorem c_X8_decimals_1 (l : Launch) (D : va_G) (y : Nat → ClassId) (sz : Nat) (h : Nat) (q : Nat → Nat) (tw : Int32) (pn : Nat) (ki on ot ab be zA zB zC zD zF zT : Nat → Int32) (fo : Nat → Bool) (lw hg : Nat → Int64) (at_ : Nat → Bool) (tl th : Nat → Int64) (wo : Nat → Bool) (wl wh : Nat → Int64) (is_ : Bool) (lo_ hi_ : Int64) (di : Nat → Int32) (su : Nat → Int64) (an : Nat → Bool) (a b : Int32) (yA : ¬ sp_X8_isProgram pn a = true) : Met l yX8_decimals wsX8_decimals ({ frames := 2, cells := 0, slots := 0, locals := 43 } : Room) (gP D y [.ref h, .int a, .int b] (wM y h q tw pn ki on ot ab be zA zB zC zD zF zT fo lw hg at_ tl th wo wl wh is_ lo_ hi_ di su an) sz) (gQ D (wM y h q tw pn ki on ot ab be zA zB zC zD zF zT fo lw hg at_ tl th wo wl wh is_ lo_ hi_ di su an) (gF (some (.int 0)) (wM y h q 1 pn ki on ot ab be zA zB zC zD zF zT fo lw hg at_ tl th wo wl wh is_ lo_ hi_ di su an))) 0 0 (va_A (wM y h q tw pn ki on ot ab be zA zB zC zD zF zT fo lw hg at_ tl th wo wl wh is_ lo_ hi_ di su an) sz) := by
  refine Met.ofW (cc := cX8_decimals) (maxL := 3) (ret := (some .int)) (by decide) rfl ?_
  intro pg e s m args below meth c s₁ B hml hv
  obtain ⟨rfl, hsz, hP, hK, hD0⟩ := hv
  have hx := B.exec
  have hb := B.bytes
  have hr := B.returns
  have hts := atoms_spec (ws := wsX8_decimals) B.pre
  have hown : s.vm.findClass RX8 = some m.cls := findClass_of_methodNamed B.named
  have hlocks := B.notSynchronized
  subst hsz
  obtain ⟨A, hAe⟩ : ∃ A : Nat → Prop, A = va_A (wM y h q tw pn ki on ot ab be zA zB zC zD zF zT fo lw hg at_ tl th wo wl wh is_ lo_ hi_ di su an) s.heap.size := ⟨_, rfl⟩
  have hD : va_D A (wM y h q tw pn ki on ot ab be zA zB zC zD zF zT fo lw hg at_ tl th wo wl wh is_ lo_ hi_ di su an) := by rw [hAe]; exact hD0.self (sz := s.heap.size)
  have hA : ∀ q : Nat, s.heap.size ≤ q → A q := fun q h => by rw [hAe]; exact Or.inr h
  have hS : va_S A s.heap s.heap [] := va_S.rf
  have hl := lv_entry ([.ref h, .int a, .int b]) (n := 3) (Nat.le_of_ble_eq_true rfl)
  rw [lg_entry_eq]
  generalize (lg_sl ([.ref h, .int a, .int b]) ++ List.replicate (3 - (lg_sl ([.ref h, .int a, .int b])).length) Slot.unset).toArray = ls at hl ⊢
  have hl : lv_has ls 3 [(0, .ref h), (1, .int a), (2, .int b)] := hl
  refine lv_aload_n hx hb dX8_decimals_0 rfl (lv_at hl 0 rfl) ?_
  refine lv_aload_n hx hb dX8_decimals_1 rfl (lv_at hl 0 rfl) ?_
  refine lv_iload_n hx hb dX8_decimals_2 rfl (lv_at hl 1 rfl) ?_
  refine g_callR (v0 := .int (gB (sp_X8_isProgram pn a))) (va_runV (As := [.int a]) (rest := [.ref h]) ⟨hx, hb, hml, hown, hts⟩ (c_X8_isProgram l D y s.heap.size h q tw pn ki on ot ab be zA zB zC zD zF zT fo lw hg at_ tl th wo wl wh is_ lo_ hi_ di su an a) (cwV 1 hts gX8_decimals_X8_isProgram rfl rfl rfl (by decide +kernel) ⟨Nat.le_of_ble_eq_true rfl, Nat.le_of_ble_eq_true rfl⟩) (gP_VA hP hD hK 0 rfl rfl) rfl rfl hl.1 rfl (lv_room (Nat.le_of_ble_eq_true rfl)) dX8_decimals_3 ⟨Nat.zero_le _, Nat.zero_le _⟩) ?_
  refine g_bne (tgt := 13) hx hb dX8_decimals_6 (by decide) (fun c_6 => absurd c_6 yA) (fun c_6 => ?_)
  refine lv_iconst (v := 1) hx hb dX8_decimals_9 (by decide) ?_
  refine lv_goto (tgt := 25) hx hb dX8_decimals_10 (by decide) ?_
  refine g_callA1 (v0 := .int (gB (sp_X8_holds 1))) (w0 := wM y h q 1 pn ki on ot ab be zA zB zC zD zF zT fo lw hg at_ tl th wo wl wh is_ lo_ hi_ di su an) (va_runV (As := [.int 1]) (rest := []) ⟨hx, hb, hml, hown, hts⟩ (c_X8_holds l D y s.heap.size h q tw pn ki on ot ab be zA zB zC zD zF zT fo lw hg at_ tl th wo wl wh is_ lo_ hi_ di su an 1) (cwV 1 hts gX8_decimals_X8_holds rfl rfl rfl (by decide +kernel) ⟨Nat.le_of_ble_eq_true rfl, Nat.le_of_ble_eq_true rfl⟩) (gP_VA hP hD hK 0 rfl rfl) rfl rfl hl.1 rfl (lv_room (Nat.le_of_ble_eq_true rfl)) dX8_decimals_25 ⟨Nat.zero_le _, Nat.zero_le _⟩) hP hD hS hA rfl (fun H locs hP hD hS => ?_)
  refine g_beq (tgt := 40) hx hb dX8_decimals_28 (by decide) (fun c_28 => ?_) (fun c_28 => absurd c_28 (by decide))
  refine lv_iconst (v := 0) hx hb dX8_decimals_40 (by decide) ?_
  exact W.iret (v := 0) hx hb hr (fun t ht hW => ⟨⟨_, wM y h q 1 pn ki on ot ab be zA zB zC zD zF zT fo lw hg at_ tl th wo wl wh is_ lo_ hi_ di su an, rfl, ⟨congrArg (fun z => some (Value.int z)) (rfl), rfl⟩, rfl, by rw [ht]; exact hP⟩, by rw [← hAe]; exact hS.F ht⟩) (by rw [← hAe]; exact hS.2.2) dX8_decimals_41
set_option maxHeartbeats 4000000 in
set_option maxRecDepth 100000 in
theorem c_X8_decimals_2 (l : Launch) (D : va_G) (y : Nat → ClassId) (sz : Nat) (h : Nat) (q : Nat → Nat) (tw : Int32) (pn : Nat) (ki on ot ab be zA zB zC zD zF zT : Nat → Int32) (fo : Nat → Bool) (lw hg : Nat → Int64) (at_ : Nat → Bool) (tl th : Nat → Int64) (wo : Nat → Bool) (wl wh : Nat → Int64) (is_ : Bool) (lo_ hi_ : Int64) (di : Nat → Int32) (su : Nat → Int64) (an : Nat → Bool) (k : Nat) (b : Int32) (hpn : pn ≤ 40) (hk : k < pn) (yP : ¬ sp_X8_isPlace b = true) : Met l yX8_decimals wsX8_decimals ({ frames := 2, cells := 0, slots := 0, locals := 43 } : Room) (gP D y [.ref h, .int (nI k), .int b] (wM y h q tw pn ki on ot ab be zA zB zC zD zF zT fo lw hg at_ tl th wo wl wh is_ lo_ hi_ di su an) sz) (gQ D (wM y h q tw pn ki on ot ab be zA zB zC zD zF zT fo lw hg at_ tl th wo wl wh is_ lo_ hi_ di su an) (gF (some (.int 0)) (wM y h q 2 pn ki on ot ab be zA zB zC zD zF zT fo lw hg at_ tl th wo wl wh is_ lo_ hi_ di su an))) 0 0 (va_A (wM y h q tw pn ki on ot ab be zA zB zC zD zF zT fo lw hg at_ tl th wo wl wh is_ lo_ hi_ di su an) sz) := by
  refine Met.ofW (cc := cX8_decimals) (maxL := 3) (ret := (some .int)) (by decide) rfl ?_
  intro pg e s m args below meth c s₁ B hml hv
  obtain ⟨rfl, hsz, hP, hK, hD0⟩ := hv
  have hx := B.exec
  have hb := B.bytes
  have hr := B.returns
  have hts := atoms_spec (ws := wsX8_decimals) B.pre
  have hown : s.vm.findClass RX8 = some m.cls := findClass_of_methodNamed B.named
  have hlocks := B.notSynchronized
  subst hsz
  obtain ⟨A, hAe⟩ : ∃ A : Nat → Prop, A = va_A (wM y h q tw pn ki on ot ab be zA zB zC zD zF zT fo lw hg at_ tl th wo wl wh is_ lo_ hi_ di su an) s.heap.size := ⟨_, rfl⟩
  have hD : va_D A (wM y h q tw pn ki on ot ab be zA zB zC zD zF zT fo lw hg at_ tl th wo wl wh is_ lo_ hi_ di su an) := by rw [hAe]; exact hD0.self (sz := s.heap.size)
  have hA : ∀ q : Nat, s.heap.size ≤ q → A q := fun q h => by rw [hAe]; exact Or.inr h
  have hS : va_S A s.heap s.heap [] := va_S.rf
  have hl := lv_entry ([.ref h, .int (nI k), .int b]) (n := 3) (Nat.le_of_ble_eq_true rfl)
  rw [lg_entry_eq]
  generalize (lg_sl ([.ref h, .int (nI k), .int b]) ++ List.replicate (3 - (lg_sl ([.ref h, .int (nI k), .int b])).length) Slot.unset).toArray = ls at hl ⊢
  have hl : lv_has ls 3 [(0, .ref h), (1, .int (nI k)), (2, .int b)] := hl
  refine lv_aload_n hx hb dX8_decimals_0 rfl (lv_at hl 0 rfl) ?_
  refine lv_aload_n hx hb dX8_decimals_1 rfl (lv_at hl 0 rfl) ?_
  refine lv_iload_n hx hb dX8_decimals_2 rfl (lv_at hl 1 rfl) ?_
  refine g_callR (v0 := .int (gB (sp_X8_isProgram pn (nI k)))) (va_runV (As := [.int (nI k)]) (rest := [.ref h]) ⟨hx, hb, hml, hown, hts⟩ (c_X8_isProgram l D y s.heap.size h q tw pn ki on ot ab be zA zB zC zD zF zT fo lw hg at_ tl th wo wl wh is_ lo_ hi_ di su an (nI k)) (cwV 1 hts gX8_decimals_X8_isProgram rfl rfl rfl (by decide +kernel) ⟨Nat.le_of_ble_eq_true rfl, Nat.le_of_ble_eq_true rfl⟩) (gP_VA hP hD hK 0 rfl rfl) rfl rfl hl.1 rfl (lv_room (Nat.le_of_ble_eq_true rfl)) dX8_decimals_3 ⟨Nat.zero_le _, Nat.zero_le _⟩) ?_
  refine g_bne (tgt := 13) hx hb dX8_decimals_6 (by decide) (fun c_6 => ?_) (fun c_6 => absurd (g_isP hk hpn) c_6)
  refine lv_iload_n hx hb dX8_decimals_13 rfl (lv_at hl 2 rfl) ?_
  refine g_callR (v0 := .int (gB (sp_X8_isPlace b))) (va_runS (As := [.int b]) (rest := [.ref h]) ⟨hx, hb, hml, hown, hts⟩ (c_X8_isPlace l D y s.heap.size b) (va_cwS 1 hts gX8_decimals_X8_isPlace rfl rfl rfl (by decide +kernel) ⟨Nat.le_of_ble_eq_true rfl, Nat.le_of_ble_eq_true rfl⟩) (gP_S hP hD hK [] (by decide) rfl) rfl rfl hl.1 rfl (lv_room (Nat.le_of_ble_eq_true rfl)) dX8_decimals_14 ⟨Nat.zero_le _, Nat.zero_le _⟩) ?_
  refine g_beq (tgt := 24) hx hb dX8_decimals_17 (by decide) (fun c_17 => ?_) (fun c_17 => absurd c_17 yP)
  refine lv_iconst (v := 2) hx hb dX8_decimals_24 (by decide) ?_
  refine g_callA1 (v0 := .int (gB (sp_X8_holds 2))) (w0 := wM y h q 2 pn ki on ot ab be zA zB zC zD zF zT fo lw hg at_ tl th wo wl wh is_ lo_ hi_ di su an) (va_runV (As := [.int 2]) (rest := []) ⟨hx, hb, hml, hown, hts⟩ (c_X8_holds l D y s.heap.size h q tw pn ki on ot ab be zA zB zC zD zF zT fo lw hg at_ tl th wo wl wh is_ lo_ hi_ di su an 2) (cwV 1 hts gX8_decimals_X8_holds rfl rfl rfl (by decide +kernel) ⟨Nat.le_of_ble_eq_true rfl, Nat.le_of_ble_eq_true rfl⟩) (gP_VA hP hD hK 0 rfl rfl) rfl rfl hl.1 rfl (lv_room (Nat.le_of_ble_eq_true rfl)) dX8_decimals_25 ⟨Nat.zero_le _, Nat.zero_le _⟩) hP hD hS hA rfl (fun H locs hP hD hS => ?_)
  refine g_beq (tgt := 40) hx hb dX8_decimals_28 (by decide) (fun c_28 => ?_) (fun c_28 => absurd c_28 (by decide))
  refine lv_iconst (v := 0) hx hb dX8_decimals_40 (by decide) ?_
  exact W.iret (v := 0) hx hb hr (fun t ht hW => ⟨⟨_, wM y h q 2 pn ki on ot ab be zA zB zC zD zF zT fo lw hg at_ tl th wo wl wh is_ lo_ hi_ di su an, rfl, ⟨congrArg (fun z => some (Value.int z)) (rfl), rfl⟩, rfl, by rw [ht]; exact hP⟩, by rw [← hAe]; exact hS.F ht⟩) (by rw [← hAe]; exact hS.2.2) dX8_decimals_41
set_option maxHeartbeats 4000000 in
set_option maxRecDepth 100000 in
theorem c_X8_decimals_0 (l : Launch) (D : va_G) (y : Nat → ClassId) (sz : Nat) (h : Nat) (q : Nat → Nat) (tw : Int32) (pn : Nat) (ki on ot ab be zA zB zC zD zF zT : Nat → Int32) (fo : Nat → Bool) (lw hg : Nat → Int64) (at_ : Nat → Bool) (tl th : Nat → Int64) (wo : Nat → Bool) (wl wh : Nat → Int64) (is_ : Bool) (lo_ hi_ : Int64) (di : Nat → Int32) (su : Nat → Int64) (an : Nat → Bool) (k p : Nat) (hpn : pn ≤ 40) (hk : k < pn) (hp : p < 25) : Met l yX8_decimals wsX8_decimals ({ frames := 2, cells := 0, slots := 0, locals := 49 } : Room) (gP D y [.ref h, .int (nI k), .int (nI p)] (wM y h q tw pn ki on ot ab be zA zB zC zD zF zT fo lw hg at_ tl th wo wl wh is_ lo_ hi_ di su an) sz) (gQ D (wM y h q tw pn ki on ot ab be zA zB zC zD zF zT fo lw hg at_ tl th wo wl wh is_ lo_ hi_ di su an) (gF (some (.int (suR at_ tl th k p))) (wM y h q 0 pn ki on ot ab be zA zB zC zD zF zT fo lw hg at_ tl th wo wl wh is_ lo_ hi_ di su an))) 0 0 (va_A (wM y h q tw pn ki on ot ab be zA zB zC zD zF zT fo lw hg at_ tl th wo wl wh is_ lo_ hi_ di su an) sz) := by
  refine Met.ofW (cc := cX8_decimals) (maxL := 3) (ret := (some .int)) (by decide) rfl ?_
  intro pg e s m args below meth c s₁ B hml hv
  obtain ⟨rfl, hsz, hP, hK, hD0⟩ := hv
  have hx := B.exec
  have hb := B.bytes
  have hr := B.returns
  have hts := atoms_spec (ws := wsX8_decimals) B.pre
  have hown : s.vm.findClass RX8 = some m.cls := findClass_of_methodNamed B.named
  have hlocks := B.notSynchronized
  subst hsz
  obtain ⟨A, hAe⟩ : ∃ A : Nat → Prop, A = va_A (wM y h q tw pn ki on ot ab be zA zB zC zD zF zT fo lw hg at_ tl th wo wl wh is_ lo_ hi_ di su an) s.heap.size := ⟨_, rfl⟩
  have hD : va_D A (wM y h q tw pn ki on ot ab be zA zB zC zD zF zT fo lw hg at_ tl th wo wl wh is_ lo_ hi_ di su an) := by rw [hAe]; exact hD0.self (sz := s.heap.size)
  have hA : ∀ q : Nat, s.heap.size ≤ q → A q := fun q h => by rw [hAe]; exact Or.inr h
  have hS : va_S A s.heap s.heap [] := va_S.rf
  have hl := lv_entry ([.ref h, .int (nI k), .int (nI p)]) (n := 3) (Nat.le_of_ble_eq_true rfl)
  rw [lg_entry_eq]
  generalize (lg_sl ([.ref h, .int (nI k), .int (nI p)]) ++ List.replicate (3 - (lg_sl ([.ref h, .int (nI k), .int (nI p)])).length) Slot.unset).toArray = ls at hl ⊢
  have hl : lv_has ls 3 [(0, .ref h), (1, .int (nI k)), (2, .int (nI p))] := hl
  refine lv_aload_n hx hb dX8_decimals_0 rfl (lv_at hl 0 rfl) ?_
  refine lv_aload_n hx hb dX8_decimals_1 rfl (lv_at hl 0 rfl) ?_
  refine lv_iload_n hx hb dX8_decimals_2 rfl (lv_at hl 1 rfl) ?_
  refine g_callR (v0 := .int (gB (sp_X8_isProgram pn (nI k)))) (va_runV (As := [.int (nI k)]) (rest := [.ref h]) ⟨hx, hb, hml, hown, hts⟩ (c_X8_isProgram l D y s.heap.size h q tw pn ki on ot ab be zA zB zC zD zF zT fo lw hg at_ tl th wo wl wh is_ lo_ hi_ di su an (nI k)) (cwV 1 hts gX8_decimals_X8_isProgram rfl rfl rfl (by decide +kernel) ⟨Nat.le_of_ble_eq_true rfl, Nat.le_of_ble_eq_true rfl⟩) (gP_VA hP hD hK 0 rfl rfl) rfl rfl hl.1 rfl (lv_room (Nat.le_of_ble_eq_true rfl)) dX8_decimals_3 ⟨Nat.zero_le _, Nat.zero_le _⟩) ?_
  refine g_bne (tgt := 13) hx hb dX8_decimals_6 (by decide) (fun c_6 => ?_) (fun c_6 => absurd (g_isP hk hpn) c_6)
  refine lv_iload_n hx hb dX8_decimals_13 rfl (lv_at hl 2 rfl) ?_
  refine g_callR (v0 := .int (gB (sp_X8_isPlace (nI p)))) (va_runS (As := [.int (nI p)]) (rest := [.ref h]) ⟨hx, hb, hml, hown, hts⟩ (c_X8_isPlace l D y s.heap.size (nI p)) (va_cwS 1 hts gX8_decimals_X8_isPlace rfl rfl rfl (by decide +kernel) ⟨Nat.le_of_ble_eq_true rfl, Nat.le_of_ble_eq_true rfl⟩) (gP_S hP hD hK [] (by decide) rfl) rfl rfl hl.1 rfl (lv_room (Nat.le_of_ble_eq_true rfl)) dX8_decimals_14 ⟨Nat.zero_le _, Nat.zero_le _⟩) ?_
  refine g_beq (tgt := 24) hx hb dX8_decimals_17 (by decide) (fun c_17 => absurd (g_isPl hp) c_17) (fun c_17 => ?_)
  refine lv_iconst (v := 0) hx hb dX8_decimals_20 (by decide) ?_
  refine lv_goto (tgt := 25) hx hb dX8_decimals_21 (by decide) ?_
  refine g_callA1 (v0 := .int (gB (sp_X8_holds 0))) (w0 := wM y h q 0 pn ki on ot ab be zA zB zC zD zF zT fo lw hg at_ tl th wo wl wh is_ lo_ hi_ di su an) (va_runV (As := [.int 0]) (rest := []) ⟨hx, hb, hml, hown, hts⟩ (c_X8_holds l D y s.heap.size h q tw pn ki on ot ab be zA zB zC zD zF zT fo lw hg at_ tl th wo wl wh is_ lo_ hi_ di su an 0) (cwV 1 hts gX8_decimals_X8_holds rfl rfl rfl (by decide +kernel) ⟨Nat.le_of_ble_eq_true rfl, Nat.le_of_ble_eq_true rfl⟩) (gP_VA hP hD hK 0 rfl rfl) rfl rfl hl.1 rfl (lv_room (Nat.le_of_ble_eq_true rfl)) dX8_decimals_25 ⟨Nat.zero_le _, Nat.zero_le _⟩) hP hD hS hA rfl (fun H locs hP hD hS => ?_)
  refine g_beq (tgt := 40) hx hb dX8_decimals_28 (by decide) (fun c_28 => absurd (by decide) c_28) (fun c_28 => ?_)
  refine lv_aload_n hx hb dX8_decimals_31 rfl (lv_at hl 0 rfl) ?_
  refine lv_iload_n hx hb dX8_decimals_32 rfl (lv_at hl 1 rfl) ?_
  refine lv_iload_n hx hb dX8_decimals_33 rfl (lv_at hl 2 rfl) ?_
  refine g_callR (v0 := .int (suR at_ tl th k p)) (va_runV (As := [.int (nI k), .int (nI p)]) (rest := []) ⟨hx, hb, hml, hown, hts⟩ (c_X8_sureOf l D y H.size h q 0 pn ki on ot ab be zA zB zC zD zF zT fo lw hg at_ tl th wo wl wh is_ lo_ hi_ di su an k p (by omega) hp) (cwV 2 hts gX8_decimals_X8_sureOf rfl rfl rfl (by decide +kernel) ⟨Nat.le_of_ble_eq_true rfl, Nat.le_of_ble_eq_true rfl⟩) (gP_VA hP hD hK 0 rfl rfl) rfl rfl hl.1 rfl (lv_room (Nat.le_of_ble_eq_true rfl)) dX8_decimals_34 ⟨Nat.zero_le _, Nat.zero_le _⟩) ?_
  refine lv_goto (tgt := 41) hx hb dX8_decimals_37 (by decide) ?_
  exact W.iret (v := suR at_ tl th k p) hx hb hr (fun t ht hW => ⟨⟨_, wM y h q 0 pn ki on ot ab be zA zB zC zD zF zT fo lw hg at_ tl th wo wl wh is_ lo_ hi_ di su an, rfl, ⟨congrArg (fun z => some (Value.int z)) (rfl), rfl⟩, rfl, by rw [ht]; exact hP⟩, by rw [← hAe]; exact hS.F ht⟩) (by rw [← hAe]; exact hS.2.2) dX8_decimals_41
set_option maxHeartbeats 4000000 in
set_option maxRecDepth 100000 in
theorem c_X8_decimal_1 (l : Launch) (D : va_G) (y : Nat → ClassId) (sz : Nat) (h : Nat) (q : Nat → Nat) (tw : Int32) (pn : Nat) (ki on ot ab be zA zB zC zD zF zT : Nat → Int32) (fo : Nat → Bool) (lw hg : Nat → Int64) (at_ : Nat → Bool) (tl th : Nat → Int64) (wo : Nat → Bool) (wl wh : Nat → Int64) (is_ : Bool) (lo_ hi_ : Int64) (di : Nat → Int32) (su : Nat → Int64) (an : Nat → Bool) (a b c0 : Int32) (yA : ¬ sp_X8_isProgram pn a = true) : Met l yX8_decimal wsX8_decimal ({ frames := 2, cells := 0, slots := 0, locals := 43 } : Room) (gP D y [.ref h, .int a, .int b, .int c0] (wM y h q tw pn ki on ot ab be zA zB zC zD zF zT fo lw hg at_ tl th wo wl wh is_ lo_ hi_ di su an) sz) (gQ D (wM y h q tw pn ki on ot ab be zA zB zC zD zF zT fo lw hg at_ tl th wo wl wh is_ lo_ hi_ di su an) (gF (some (.int 0)) (wM y h q 1 pn ki on ot ab be zA zB zC zD zF zT fo lw hg at_ tl th wo wl wh is_ lo_ hi_ di su an))) 0 0 (va_A (wM y h q tw pn ki on ot ab be zA zB zC zD zF zT fo lw hg at_ tl th wo wl wh is_ lo_ hi_ di su an) sz) := by
  refine Met.ofW (cc := cX8_decimal) (maxL := 8) (ret := (some .int)) (by decide) rfl ?_
  intro pg e s m args below meth c s₁ B hml hv
  obtain ⟨rfl, hsz, hP, hK, hD0⟩ := hv
  have hx := B.exec
  have hb := B.bytes
  have hr := B.returns
  have hts := atoms_spec (ws := wsX8_decimal) B.pre
  have hown : s.vm.findClass RX8 = some m.cls := findClass_of_methodNamed B.named
  have hlocks := B.notSynchronized
  subst hsz
  obtain ⟨A, hAe⟩ : ∃ A : Nat → Prop, A = va_A (wM y h q tw pn ki on ot ab be zA zB zC zD zF zT fo lw hg at_ tl th wo wl wh is_ lo_ hi_ di su an) s.heap.size := ⟨_, rfl⟩
  have hD : va_D A (wM y h q tw pn ki on ot ab be zA zB zC zD zF zT fo lw hg at_ tl th wo wl wh is_ lo_ hi_ di su an) := by rw [hAe]; exact hD0.self (sz := s.heap.size)
  have hA : ∀ q : Nat, s.heap.size ≤ q → A q := fun q h => by rw [hAe]; exact Or.inr h
  have hS : va_S A s.heap s.heap [] := va_S.rf
  have hl := lv_entry ([.ref h, .int a, .int b, .int c0]) (n := 8) (Nat.le_of_ble_eq_true rfl)
  rw [lg_entry_eq]
  generalize (lg_sl ([.ref h, .int a, .int b, .int c0]) ++ List.replicate (8 - (lg_sl ([.ref h, .int a, .int b, .int c0])).length) Slot.unset).toArray = ls at hl ⊢
  have hl : lv_has ls 8 [(0, .ref h), (1, .int a), (2, .int b), (3, .int c0)] := hl
  refine lv_aload_n hx hb dX8_decimal_0 rfl (lv_at hl 0 rfl) ?_
  refine lv_iload_n hx hb dX8_decimal_1 rfl (lv_at hl 1 rfl) ?_
  refine g_callR (v0 := .int (gB (sp_X8_isProgram pn a))) (va_runV (As := [.int a]) (rest := []) ⟨hx, hb, hml, hown, hts⟩ (c_X8_isProgram l D y s.heap.size h q tw pn ki on ot ab be zA zB zC zD zF zT fo lw hg at_ tl th wo wl wh is_ lo_ hi_ di su an a) (cwV 1 hts gX8_decimal_X8_isProgram rfl rfl rfl (by decide +kernel) ⟨Nat.le_of_ble_eq_true rfl, Nat.le_of_ble_eq_true rfl⟩) (gP_VA hP hD hK 0 rfl rfl) rfl rfl hl.1 rfl (lv_room (Nat.le_of_ble_eq_true rfl)) dX8_decimal_2 ⟨Nat.zero_le _, Nat.zero_le _⟩) ?_
  refine lv_istore (lv' := [(4, .int (gB (sp_X8_isProgram pn a))), (0, .ref h), (1, .int a), (2, .int b), (3, .int c0)]) hx hb dX8_decimal_5 hl (by decide) rfl (fun ls hl => ?_)
  refine lv_iload hx hb dX8_decimal_7 (lv_at hl 0 rfl) ?_
  refine g_beq (tgt := 33) hx hb dX8_decimal_9 (by decide) (fun c_9 => ?_) (fun c_9 => absurd c_9 yA)
  refine lv_iconst (v := 0) hx hb dX8_decimal_33 (by decide) ?_
  refine lv_istore (lv' := [(5, .int 0), (4, .int (gB (sp_X8_isProgram pn a))), (0, .ref h), (1, .int a), (2, .int b), (3, .int c0)]) hx hb dX8_decimal_34 hl (by decide) rfl (fun ls hl => ?_)
  refine lv_aload_n hx hb dX8_decimal_36 rfl (lv_at hl 2 rfl) ?_
  refine lv_iload hx hb dX8_decimal_37 (lv_at hl 1 rfl) ?_
  refine g_bne (tgt := 46) hx hb dX8_decimal_39 (by decide) (fun c_39 => absurd c_39 yA) (fun c_39 => ?_)
  refine lv_iconst (v := 1) hx hb dX8_decimal_42 (by decide) ?_
  refine lv_goto (tgt := 70) hx hb dX8_decimal_43 (by decide) ?_
  refine g_callA1 (v0 := .int (gB (sp_X8_holds 1))) (w0 := wM y h q 1 pn ki on ot ab be zA zB zC zD zF zT fo lw hg at_ tl th wo wl wh is_ lo_ hi_ di su an) (va_runV (As := [.int 1]) (rest := []) ⟨hx, hb, hml, hown, hts⟩ (c_X8_holds l D y s.heap.size h q tw pn ki on ot ab be zA zB zC zD zF zT fo lw hg at_ tl th wo wl wh is_ lo_ hi_ di su an 1) (cwV 1 hts gX8_decimal_X8_holds rfl rfl rfl (by decide +kernel) ⟨Nat.le_of_ble_eq_true rfl, Nat.le_of_ble_eq_true rfl⟩) (gP_VA hP hD hK 0 rfl rfl) rfl rfl hl.1 rfl (lv_room (Nat.le_of_ble_eq_true rfl)) dX8_decimal_70 ⟨Nat.zero_le _, Nat.zero_le _⟩) hP hD hS hA rfl (fun H locs hP hD hS => ?_)
  refine g_bne (tgt := 78) hx hb dX8_decimal_73 (by decide) (fun c_73 => absurd c_73 (by decide)) (fun c_73 => ?_)
  refine lv_iconst (v := 0) hx hb dX8_decimal_76 (by decide) ?_
  exact W.iret (v := 0) hx hb hr (fun t ht hW => ⟨⟨_, wM y h q 1 pn ki on ot ab be zA zB zC zD zF zT fo lw hg at_ tl th wo wl wh is_ lo_ hi_ di su an, rfl, ⟨congrArg (fun z => some (Value.int z)) (rfl), rfl⟩, rfl, by rw [ht]; exact hP⟩, by rw [← hAe]; exact hS.F ht⟩) (by rw [← hAe]; exact hS.2.2) dX8_decimal_77
set_option maxHeartbeats 4000000 in
set_option maxRecDepth 100000 in
theorem c_X8_decimal_2 (l : Launch) (D : va_G) (y : Nat → ClassId) (sz : Nat) (h : Nat) (q : Nat → Nat) (tw : Int32) (pn : Nat) (ki on ot ab be zA zB zC zD zF zT : Nat → Int32) (fo : Nat → Bool) (lw hg : Nat → Int64) (at_ : Nat → Bool) (tl th : Nat → Int64) (wo : Nat → Bool) (wl wh : Nat → Int64) (is_ : Bool) (lo_ hi_ : Int64) (di : Nat → Int32) (su : Nat → Int64) (an : Nat → Bool) (k : Nat) (b c0 : Int32) (hpn : pn ≤ 40) (hk : k < pn) (hbad : ¬ (sp_X8_isPlace b = true ∧ sp_X8_in c0 0 7 = true)) : Met l yX8_decimal wsX8_decimal ({ frames := 2, cells := 0, slots := 0, locals := 43 } : Room) (gP D y [.ref h, .int (nI k), .int b, .int c0] (wM y h q tw pn ki on ot ab be zA zB zC zD zF zT fo lw hg at_ tl th wo wl wh is_ lo_ hi_ di su an) sz) (gQ D (wM y h q tw pn ki on ot ab be zA zB zC zD zF zT fo lw hg at_ tl th wo wl wh is_ lo_ hi_ di su an) (gF (some (.int 0)) (wM y h q 2 pn ki on ot ab be zA zB zC zD zF zT fo lw hg at_ tl th wo wl wh is_ lo_ hi_ di su an))) 0 0 (va_A (wM y h q tw pn ki on ot ab be zA zB zC zD zF zT fo lw hg at_ tl th wo wl wh is_ lo_ hi_ di su an) sz) := by
  refine Met.ofW (cc := cX8_decimal) (maxL := 8) (ret := (some .int)) (by decide) rfl ?_
  intro pg e s m args below meth c s₁ B hml hv
  obtain ⟨rfl, hsz, hP, hK, hD0⟩ := hv
  have hx := B.exec
  have hb := B.bytes
  have hr := B.returns
  have hts := atoms_spec (ws := wsX8_decimal) B.pre
  have hown : s.vm.findClass RX8 = some m.cls := findClass_of_methodNamed B.named
  have hlocks := B.notSynchronized
  subst hsz
  obtain ⟨A, hAe⟩ : ∃ A : Nat → Prop, A = va_A (wM y h q tw pn ki on ot ab be zA zB zC zD zF zT fo lw hg at_ tl th wo wl wh is_ lo_ hi_ di su an) s.heap.size := ⟨_, rfl⟩
  have hD : va_D A (wM y h q tw pn ki on ot ab be zA zB zC zD zF zT fo lw hg at_ tl th wo wl wh is_ lo_ hi_ di su an) := by rw [hAe]; exact hD0.self (sz := s.heap.size)
  have hA : ∀ q : Nat, s.heap.size ≤ q → A q := fun q h => by rw [hAe]; exact Or.inr h
  have hS : va_S A s.heap s.heap [] := va_S.rf
  have hl := lv_entry ([.ref h, .int (nI k), .int b, .int c0]) (n := 8) (Nat.le_of_ble_eq_true rfl)
  rw [lg_entry_eq]
  generalize (lg_sl ([.ref h, .int (nI k), .int b, .int c0]) ++ List.replicate (8 - (lg_sl ([.ref h, .int (nI k), .int b, .int c0])).length) Slot.unset).toArray = ls at hl ⊢
  have hl : lv_has ls 8 [(0, .ref h), (1, .int (nI k)), (2, .int b), (3, .int c0)] := hl
  refine lv_aload_n hx hb dX8_decimal_0 rfl (lv_at hl 0 rfl) ?_
  refine lv_iload_n hx hb dX8_decimal_1 rfl (lv_at hl 1 rfl) ?_
  refine g_callR (v0 := .int (gB (sp_X8_isProgram pn (nI k)))) (va_runV (As := [.int (nI k)]) (rest := []) ⟨hx, hb, hml, hown, hts⟩ (c_X8_isProgram l D y s.heap.size h q tw pn ki on ot ab be zA zB zC zD zF zT fo lw hg at_ tl th wo wl wh is_ lo_ hi_ di su an (nI k)) (cwV 1 hts gX8_decimal_X8_isProgram rfl rfl rfl (by decide +kernel) ⟨Nat.le_of_ble_eq_true rfl, Nat.le_of_ble_eq_true rfl⟩) (gP_VA hP hD hK 0 rfl rfl) rfl rfl hl.1 rfl (lv_room (Nat.le_of_ble_eq_true rfl)) dX8_decimal_2 ⟨Nat.zero_le _, Nat.zero_le _⟩) ?_
  refine lv_istore (lv' := [(4, .int (gB (sp_X8_isProgram pn (nI k)))), (0, .ref h), (1, .int (nI k)), (2, .int b), (3, .int c0)]) hx hb dX8_decimal_5 hl (by decide) rfl (fun ls hl => ?_)
  refine lv_iload hx hb dX8_decimal_7 (lv_at hl 0 rfl) ?_
  refine g_beq (tgt := 33) hx hb dX8_decimal_9 (by decide) (fun c_9 => absurd (g_isP hk hpn) c_9) (fun c_9 => ?_)
  refine lv_iload_n hx hb dX8_decimal_12 rfl (lv_at hl 3 rfl) ?_
  refine g_callR (v0 := .int (gB (sp_X8_isPlace b))) (va_runS (As := [.int b]) (rest := []) ⟨hx, hb, hml, hown, hts⟩ (c_X8_isPlace l D y s.heap.size b) (va_cwS 1 hts gX8_decimal_X8_isPlace rfl rfl rfl (by decide +kernel) ⟨Nat.le_of_ble_eq_true rfl, Nat.le_of_ble_eq_true rfl⟩) (gP_S hP hD hK [] (by decide) rfl) rfl rfl hl.1 rfl (lv_room (Nat.le_of_ble_eq_true rfl)) dX8_decimal_13 ⟨Nat.zero_le _, Nat.zero_le _⟩) ?_
  refine g_beq (tgt := 33) hx hb dX8_decimal_16 (by decide) (fun c_16 => ?_) (fun c_16 => ?_)
  · skip
    refine lv_iconst (v := 0) hx hb dX8_decimal_33 (by decide) ?_
    refine lv_istore (lv' := [(5, .int 0), (4, .int (gB (sp_X8_isProgram pn (nI k)))), (0, .ref h), (1, .int (nI k)), (2, .int b), (3, .int c0)]) hx hb dX8_decimal_34 hl (by decide) rfl (fun ls hl => ?_)
    refine lv_aload_n hx hb dX8_decimal_36 rfl (lv_at hl 2 rfl) ?_
    refine lv_iload hx hb dX8_decimal_37 (lv_at hl 1 rfl) ?_
    refine g_bne (tgt := 46) hx hb dX8_decimal_39 (by decide) (fun c_39 => ?_) (fun c_39 => absurd (g_isP hk hpn) c_39)
    refine lv_iload hx hb dX8_decimal_46 (lv_at hl 0 rfl) ?_
    refine lv_if_ne (tgt := 55) hx hb dX8_decimal_48 (by decide) (fun c_48 => absurd c_48 (by decide)) (fun c_48 => ?_)
    refine lv_iconst (v := 2) hx hb dX8_decimal_51 (by decide) ?_
    refine lv_goto (tgt := 70) hx hb dX8_decimal_52 (by decide) ?_
    refine g_callA1 (v0 := .int (gB (sp_X8_holds 2))) (w0 := wM y h q 2 pn ki on ot ab be zA zB zC zD zF zT fo lw hg at_ tl th wo wl wh is_ lo_ hi_ di su an) (va_runV (As := [.int 2]) (rest := []) ⟨hx, hb, hml, hown, hts⟩ (c_X8_holds l D y s.heap.size h q tw pn ki on ot ab be zA zB zC zD zF zT fo lw hg at_ tl th wo wl wh is_ lo_ hi_ di su an 2) (cwV 1 hts gX8_decimal_X8_holds rfl rfl rfl (by decide +kernel) ⟨Nat.le_of_ble_eq_true rfl, Nat.le_of_ble_eq_true rfl⟩) (gP_VA hP hD hK 0 rfl rfl) rfl rfl hl.1 rfl (lv_room (Nat.le_of_ble_eq_true rfl)) dX8_decimal_70 ⟨Nat.zero_le _, Nat.zero_le _⟩) hP hD hS hA rfl (fun H locs hP hD hS => ?_)
    refine g_bne (tgt := 78) hx hb dX8_decimal_73 (by decide) (fun c_73 => absurd c_73 (by decide)) (fun c_73 => ?_)
    refine lv_iconst (v := 0) hx hb dX8_decimal_76 (by decide) ?_
    exact W.iret (v := 0) hx hb hr (fun t ht hW => ⟨⟨_, wM y h q 2 pn ki on ot ab be zA zB zC zD zF zT fo lw hg at_ tl th wo wl wh is_ lo_ hi_ di su an, rfl, ⟨congrArg (fun z => some (Value.int z)) (rfl), rfl⟩, rfl, by rw [ht]; exact hP⟩, by rw [← hAe]; exact hS.F ht⟩) (by rw [← hAe]; exact hS.2.2) dX8_decimal_77
  · skip
    refine lv_iload_n hx hb dX8_decimal_19 rfl (lv_at hl 4 rfl) ?_
    refine lv_iconst (v := 0) hx hb dX8_decimal_20 (by decide) ?_
    refine lv_bipush (v := 7) hx hb dX8_decimal_21 (by decide) ?_
    refine g_callR (v0 := .int (gB (sp_X8_in c0 0 7))) (va_runS (As := [.int c0, .int 0, .int 7]) (rest := []) ⟨hx, hb, hml, hown, hts⟩ (c_X8_in l D y s.heap.size c0 0 7) (va_cwS 3 hts gX8_decimal_X8_in rfl rfl rfl (by decide +kernel) ⟨Nat.le_of_ble_eq_true rfl, Nat.le_of_ble_eq_true rfl⟩) (gP_S hP hD hK [] (by decide) rfl) rfl rfl hl.1 rfl (lv_room (Nat.le_of_ble_eq_true rfl)) dX8_decimal_23 ⟨Nat.zero_le _, Nat.zero_le _⟩) ?_
    refine g_beq (tgt := 33) hx hb dX8_decimal_26 (by decide) (fun c_26 => ?_) (fun c_26 => absurd (And.intro c_16 c_26) hbad)
    refine lv_iconst (v := 0) hx hb dX8_decimal_33 (by decide) ?_
    refine lv_istore (lv' := [(5, .int 0), (4, .int (gB (sp_X8_isProgram pn (nI k)))), (0, .ref h), (1, .int (nI k)), (2, .int b), (3, .int c0)]) hx hb dX8_decimal_34 hl (by decide) rfl (fun ls hl => ?_)
    refine lv_aload_n hx hb dX8_decimal_36 rfl (lv_at hl 2 rfl) ?_
    refine lv_iload hx hb dX8_decimal_37 (lv_at hl 1 rfl) ?_
    refine g_bne (tgt := 46) hx hb dX8_decimal_39 (by decide) (fun c_39 => ?_) (fun c_39 => absurd (g_isP hk hpn) c_39)
    refine lv_iload hx hb dX8_decimal_46 (lv_at hl 0 rfl) ?_
    refine lv_if_ne (tgt := 55) hx hb dX8_decimal_48 (by decide) (fun c_48 => absurd c_48 (by decide)) (fun c_48 => ?_)
    refine lv_iconst (v := 2) hx hb dX8_decimal_51 (by decide) ?_
    refine lv_goto (tgt := 70) hx hb dX8_decimal_52 (by decide) ?_
    refine g_callA1 (v0 := .int (gB (sp_X8_holds 2))) (w0 := wM y h q 2 pn ki on ot ab be zA zB zC zD zF zT fo lw hg at_ tl th wo wl wh is_ lo_ hi_ di su an) (va_runV (As := [.int 2]) (rest := []) ⟨hx, hb, hml, hown, hts⟩ (c_X8_holds l D y s.heap.size h q tw pn ki on ot ab be zA zB zC zD zF zT fo lw hg at_ tl th wo wl wh is_ lo_ hi_ di su an 2) (cwV 1 hts gX8_decimal_X8_holds rfl rfl rfl (by decide +kernel) ⟨Nat.le_of_ble_eq_true rfl, Nat.le_of_ble_eq_true rfl⟩) (gP_VA hP hD hK 0 rfl rfl) rfl rfl hl.1 rfl (lv_room (Nat.le_of_ble_eq_true rfl)) dX8_decimal_70 ⟨Nat.zero_le _, Nat.zero_le _⟩) hP hD hS hA rfl (fun H locs hP hD hS => ?_)
    refine g_bne (tgt := 78) hx hb dX8_decimal_73 (by decide) (fun c_73 => absurd c_73 (by decide)) (fun c_73 => ?_)
    refine lv_iconst (v := 0) hx hb dX8_decimal_76 (by decide) ?_
    exact W.iret (v := 0) hx hb hr (fun t ht hW => ⟨⟨_, wM y h q 2 pn ki on ot ab be zA zB zC zD zF zT fo lw hg at_ tl th wo wl wh is_ lo_ hi_ di su an, rfl, ⟨congrArg (fun z => some (Value.int z)) (rfl), rfl⟩, rfl, by rw [ht]; exact hP⟩, by rw [← hAe]; exact hS.F ht⟩) (by rw [← hAe]; exact hS.2.2) dX8_decimal_77
theorem g_in7 {d : Nat} (h : d < 8) : sp_X8_in (nI d) 0 7 = true := by
  have h2 : ∀ p : Fin 8, sp_X8_in (nI p.val) 0 7 = true := by decide
  exact h2 ⟨d, h⟩
def dcV (x : Int64) (d : Nat) : Int32 := (if nI d = 0 then x else x - 10 * sp_X8_cut x 10).toInt32
set_option maxHeartbeats 4000000 in
set_option maxRecDepth 100000 in
theorem c_X8_decimal_3 (l : Launch) (D : va_G) (y : Nat → ClassId) (sz : Nat) (h : Nat) (q : Nat → Nat) (tw : Int32) (pn : Nat) (ki on ot ab be zA zB zC zD zF zT : Nat → Int32) (fo : Nat → Bool) (lw hg : Nat → Int64) (at_ : Nat → Bool) (tl th : Nat → Int64) (wo : Nat → Bool) (wl wh : Nat → Int64) (is_ : Bool) (lo_ hi_ : Int64) (di : Nat → Int32) (su : Nat → Int64) (an : Nat → Bool) (k p d : Nat) (hpn : pn ≤ 40) (hk : k < pn) (hp : p < 25) (hd : d < 8) (hs : ¬ nI d ≤ suR at_ tl th k p) : Met l yX8_decimal wsX8_decimal ({ frames := 2, cells := 0, slots := 0, locals := 49 } : Room) (gP D y [.ref h, .int (nI k), .int (nI p), .int (nI d)] (wM y h q tw pn ki on ot ab be zA zB zC zD zF zT fo lw hg at_ tl th wo wl wh is_ lo_ hi_ di su an) sz) (gQ D (wM y h q tw pn ki on ot ab be zA zB zC zD zF zT fo lw hg at_ tl th wo wl wh is_ lo_ hi_ di su an) (gF (some (.int 0)) (wM y h q 3 pn ki on ot ab be zA zB zC zD zF zT fo lw hg at_ tl th wo wl wh is_ lo_ hi_ di su an))) 0 0 (va_A (wM y h q tw pn ki on ot ab be zA zB zC zD zF zT fo lw hg at_ tl th wo wl wh is_ lo_ hi_ di su an) sz) := by
  refine Met.ofW (cc := cX8_decimal) (maxL := 8) (ret := (some .int)) (by decide) rfl ?_
  intro pg e s m args below meth c s₁ B hml hv
  obtain ⟨rfl, hsz, hP, hK, hD0⟩ := hv
  have hx := B.exec
  have hb := B.bytes
  have hr := B.returns
  have hts := atoms_spec (ws := wsX8_decimal) B.pre
  have hown : s.vm.findClass RX8 = some m.cls := findClass_of_methodNamed B.named
  have hlocks := B.notSynchronized
  subst hsz
  obtain ⟨A, hAe⟩ : ∃ A : Nat → Prop, A = va_A (wM y h q tw pn ki on ot ab be zA zB zC zD zF zT fo lw hg at_ tl th wo wl wh is_ lo_ hi_ di su an) s.heap.size := ⟨_, rfl⟩
  have hD : va_D A (wM y h q tw pn ki on ot ab be zA zB zC zD zF zT fo lw hg at_ tl th wo wl wh is_ lo_ hi_ di su an) := by rw [hAe]; exact hD0.self (sz := s.heap.size)
  have hA : ∀ q : Nat, s.heap.size ≤ q → A q := fun q h => by rw [hAe]; exact Or.inr h
  have hS : va_S A s.heap s.heap [] := va_S.rf
  have hl := lv_entry ([.ref h, .int (nI k), .int (nI p), .int (nI d)]) (n := 8) (Nat.le_of_ble_eq_true rfl)
  rw [lg_entry_eq]
  generalize (lg_sl ([.ref h, .int (nI k), .int (nI p), .int (nI d)]) ++ List.replicate (8 - (lg_sl ([.ref h, .int (nI k), .int (nI p), .int (nI d)])).length) Slot.unset).toArray = ls at hl ⊢
  have hl : lv_has ls 8 [(0, .ref h), (1, .int (nI k)), (2, .int (nI p)), (3, .int (nI d))] := hl
  refine lv_aload_n hx hb dX8_decimal_0 rfl (lv_at hl 0 rfl) ?_
  refine lv_iload_n hx hb dX8_decimal_1 rfl (lv_at hl 1 rfl) ?_
  refine g_callR (v0 := .int (gB (sp_X8_isProgram pn (nI k)))) (va_runV (As := [.int (nI k)]) (rest := []) ⟨hx, hb, hml, hown, hts⟩ (c_X8_isProgram l D y s.heap.size h q tw pn ki on ot ab be zA zB zC zD zF zT fo lw hg at_ tl th wo wl wh is_ lo_ hi_ di su an (nI k)) (cwV 1 hts gX8_decimal_X8_isProgram rfl rfl rfl (by decide +kernel) ⟨Nat.le_of_ble_eq_true rfl, Nat.le_of_ble_eq_true rfl⟩) (gP_VA hP hD hK 0 rfl rfl) rfl rfl hl.1 rfl (lv_room (Nat.le_of_ble_eq_true rfl)) dX8_decimal_2 ⟨Nat.zero_le _, Nat.zero_le _⟩) ?_
  refine lv_istore (lv' := [(4, .int (gB (sp_X8_isProgram pn (nI k)))), (0, .ref h), (1, .int (nI k)), (2, .int (nI p)), (3, .int (nI d))]) hx hb dX8_decimal_5 hl (by decide) rfl (fun ls hl => ?_)
  refine lv_iload hx hb dX8_decimal_7 (lv_at hl 0 rfl) ?_
  refine g_beq (tgt := 33) hx hb dX8_decimal_9 (by decide) (fun c_9 => absurd (g_isP hk hpn) c_9) (fun c_9 => ?_)
  refine lv_iload_n hx hb dX8_decimal_12 rfl (lv_at hl 3 rfl) ?_
  refine g_callR (v0 := .int (gB (sp_X8_isPlace (nI p)))) (va_runS (As := [.int (nI p)]) (rest := []) ⟨hx, hb, hml, hown, hts⟩ (c_X8_isPlace l D y s.heap.size (nI p)) (va_cwS 1 hts gX8_decimal_X8_isPlace rfl rfl rfl (by decide +kernel) ⟨Nat.le_of_ble_eq_true rfl, Nat.le_of_ble_eq_true rfl⟩) (gP_S hP hD hK [] (by decide) rfl) rfl rfl hl.1 rfl (lv_room (Nat.le_of_ble_eq_true rfl)) dX8_decimal_13 ⟨Nat.zero_le _, Nat.zero_le _⟩) ?_
  refine g_beq (tgt := 33) hx hb dX8_decimal_16 (by decide) (fun c_16 => absurd (g_isPl hp) c_16) (fun c_16 => ?_)
  refine lv_iload_n hx hb dX8_decimal_19 rfl (lv_at hl 4 rfl) ?_
  refine lv_iconst (v := 0) hx hb dX8_decimal_20 (by decide) ?_
  refine lv_bipush (v := 7) hx hb dX8_decimal_21 (by decide) ?_
  refine g_callR (v0 := .int (gB (sp_X8_in (nI d) 0 7))) (va_runS (As := [.int (nI d), .int 0, .int 7]) (rest := []) ⟨hx, hb, hml, hown, hts⟩ (c_X8_in l D y s.heap.size (nI d) 0 7) (va_cwS 3 hts gX8_decimal_X8_in rfl rfl rfl (by decide +kernel) ⟨Nat.le_of_ble_eq_true rfl, Nat.le_of_ble_eq_true rfl⟩) (gP_S hP hD hK [] (by decide) rfl) rfl rfl hl.1 rfl (lv_room (Nat.le_of_ble_eq_true rfl)) dX8_decimal_23 ⟨Nat.zero_le _, Nat.zero_le _⟩) ?_
  refine g_beq (tgt := 33) hx hb dX8_decimal_26 (by decide) (fun c_26 => absurd (g_in7 hd) c_26) (fun c_26 => ?_)
  refine lv_iconst (v := 1) hx hb dX8_decimal_29 (by decide) ?_
  refine lv_goto (tgt := 34) hx hb dX8_decimal_30 (by decide) ?_
  refine lv_istore (lv' := [(5, .int 1), (4, .int (gB (sp_X8_isProgram pn (nI k)))), (0, .ref h), (1, .int (nI k)), (2, .int (nI p)), (3, .int (nI d))]) hx hb dX8_decimal_34 hl (by decide) rfl (fun ls hl => ?_)
  refine lv_aload_n hx hb dX8_decimal_36 rfl (lv_at hl 2 rfl) ?_
  refine lv_iload hx hb dX8_decimal_37 (lv_at hl 1 rfl) ?_
  refine g_bne (tgt := 46) hx hb dX8_decimal_39 (by decide) (fun c_39 => ?_) (fun c_39 => absurd (g_isP hk hpn) c_39)
  refine lv_iload hx hb dX8_decimal_46 (lv_at hl 0 rfl) ?_
  refine lv_if_ne (tgt := 55) hx hb dX8_decimal_48 (by decide) (fun c_48 => ?_) (fun c_48 => absurd c_48 (by decide))
  refine lv_aload_n hx hb dX8_decimal_55 rfl (lv_at hl 2 rfl) ?_
  refine lv_iload_n hx hb dX8_decimal_56 rfl (lv_at hl 3 rfl) ?_
  refine lv_iload_n hx hb dX8_decimal_57 rfl (lv_at hl 4 rfl) ?_
  refine g_callR (v0 := .int (suR at_ tl th k p)) (va_runV (As := [.int (nI k), .int (nI p)]) (rest := [.ref h]) ⟨hx, hb, hml, hown, hts⟩ (c_X8_sureOf l D y s.heap.size h q tw pn ki on ot ab be zA zB zC zD zF zT fo lw hg at_ tl th wo wl wh is_ lo_ hi_ di su an k p (by omega) hp) (cwV 2 hts gX8_decimal_X8_sureOf rfl rfl rfl (by decide +kernel) ⟨Nat.le_of_ble_eq_true rfl, Nat.le_of_ble_eq_true rfl⟩) (gP_VA hP hD hK 0 rfl rfl) rfl rfl hl.1 rfl (lv_room (Nat.le_of_ble_eq_true rfl)) dX8_decimal_58 ⟨Nat.zero_le _, Nat.zero_le _⟩) ?_
  refine lv_iload_n hx hb dX8_decimal_61 rfl (lv_at hl 5 rfl) ?_
  refine lv_icmp_ge (tgt := 69) hx hb dX8_decimal_62 (by decide) (fun c_62 => absurd c_62 hs) (fun c_62 => ?_)
  refine lv_iconst (v := 3) hx hb dX8_decimal_65 (by decide) ?_
  refine lv_goto (tgt := 70) hx hb dX8_decimal_66 (by decide) ?_
  refine g_callA1 (v0 := .int (gB (sp_X8_holds 3))) (w0 := wM y h q 3 pn ki on ot ab be zA zB zC zD zF zT fo lw hg at_ tl th wo wl wh is_ lo_ hi_ di su an) (va_runV (As := [.int 3]) (rest := []) ⟨hx, hb, hml, hown, hts⟩ (c_X8_holds l D y s.heap.size h q tw pn ki on ot ab be zA zB zC zD zF zT fo lw hg at_ tl th wo wl wh is_ lo_ hi_ di su an 3) (cwV 1 hts gX8_decimal_X8_holds rfl rfl rfl (by decide +kernel) ⟨Nat.le_of_ble_eq_true rfl, Nat.le_of_ble_eq_true rfl⟩) (gP_VA hP hD hK 0 rfl rfl) rfl rfl hl.1 rfl (lv_room (Nat.le_of_ble_eq_true rfl)) dX8_decimal_70 ⟨Nat.zero_le _, Nat.zero_le _⟩) hP hD hS hA rfl (fun H locs hP hD hS => ?_)
  refine g_bne (tgt := 78) hx hb dX8_decimal_73 (by decide) (fun c_73 => absurd c_73 (by decide)) (fun c_73 => ?_)
  refine lv_iconst (v := 0) hx hb dX8_decimal_76 (by decide) ?_
  exact W.iret (v := 0) hx hb hr (fun t ht hW => ⟨⟨_, wM y h q 3 pn ki on ot ab be zA zB zC zD zF zT fo lw hg at_ tl th wo wl wh is_ lo_ hi_ di su an, rfl, ⟨congrArg (fun z => some (Value.int z)) (rfl), rfl⟩, rfl, by rw [ht]; exact hP⟩, by rw [← hAe]; exact hS.F ht⟩) (by rw [← hAe]; exact hS.2.2) dX8_decimal_77
theorem in_X8_decimal_X8 : ∀ w ∈ wsX80, w ∈ wsX8_decimal := fun _ h => List.mem_cons_of_mem _ (List.mem_append_right _ h)
set_option maxHeartbeats 4000000 in
set_option maxRecDepth 100000 in
theorem c_X8_decimal_0 (l : Launch) (D : va_G) (y : Nat → ClassId) (sz : Nat) (h : Nat) (q : Nat → Nat) (tw : Int32) (pn : Nat) (ki on ot ab be zA zB zC zD zF zT : Nat → Int32) (fo : Nat → Bool) (lw hg : Nat → Int64) (at_ : Nat → Bool) (tl th : Nat → Int64) (wo : Nat → Bool) (wl wh : Nat → Int64) (is_ : Bool) (lo_ hi_ : Int64) (di : Nat → Int32) (su : Nat → Int64) (an : Nat → Bool) (k p d : Nat) (hpn : pn ≤ 40) (hk : k < pn) (hp : p < 25) (hd : d < 8) (hs : nI d ≤ suR at_ tl th k p) : Met l yX8_decimal wsX8_decimal ({ frames := 2, cells := 0, slots := 0, locals := 49 } : Room) (gP D y [.ref h, .int (nI k), .int (nI p), .int (nI d)] (wM y h q tw pn ki on ot ab be zA zB zC zD zF zT fo lw hg at_ tl th wo wl wh is_ lo_ hi_ di su an) sz) (gQ D (wM y h q tw pn ki on ot ab be zA zB zC zD zF zT fo lw hg at_ tl th wo wl wh is_ lo_ hi_ di su an) (gF (some (.int (dcV (sp_X8_cut (tl (25 * k + p) * tenF d 1) (jshl 1 (nI p))) d))) (wM y h q 0 pn ki on ot ab be zA zB zC zD zF zT fo lw hg at_ tl th wo wl wh is_ lo_ hi_ di su an))) 0 0 (va_A (wM y h q tw pn ki on ot ab be zA zB zC zD zF zT fo lw hg at_ tl th wo wl wh is_ lo_ hi_ di su an) sz) := by
  refine Met.ofW (cc := cX8_decimal) (maxL := 8) (ret := (some .int)) (by decide) rfl ?_
  intro pg e s m args below meth c s₁ B hml hv
  obtain ⟨rfl, hsz, hP, hK, hD0⟩ := hv
  have hx := B.exec
  have hb := B.bytes
  have hr := B.returns
  have hts := atoms_spec (ws := wsX8_decimal) B.pre
  have hown : s.vm.findClass RX8 = some m.cls := findClass_of_methodNamed B.named
  have hlocks := B.notSynchronized
  subst hsz
  obtain ⟨A, hAe⟩ : ∃ A : Nat → Prop, A = va_A (wM y h q tw pn ki on ot ab be zA zB zC zD zF zT fo lw hg at_ tl th wo wl wh is_ lo_ hi_ di su an) s.heap.size := ⟨_, rfl⟩
  have hD : va_D A (wM y h q tw pn ki on ot ab be zA zB zC zD zF zT fo lw hg at_ tl th wo wl wh is_ lo_ hi_ di su an) := by rw [hAe]; exact hD0.self (sz := s.heap.size)
  have hA : ∀ q : Nat, s.heap.size ≤ q → A q := fun q h => by rw [hAe]; exact Or.inr h
  have hS : va_S A s.heap s.heap [] := va_S.rf
  have hl := lv_entry ([.ref h, .int (nI k), .int (nI p), .int (nI d)]) (n := 8) (Nat.le_of_ble_eq_true rfl)
  rw [lg_entry_eq]
  generalize (lg_sl ([.ref h, .int (nI k), .int (nI p), .int (nI d)]) ++ List.replicate (8 - (lg_sl ([.ref h, .int (nI k), .int (nI p), .int (nI d)])).length) Slot.unset).toArray = ls at hl ⊢
  have hl : lv_has ls 8 [(0, .ref h), (1, .int (nI k)), (2, .int (nI p)), (3, .int (nI d))] := hl
  refine lv_aload_n hx hb dX8_decimal_0 rfl (lv_at hl 0 rfl) ?_
  refine lv_iload_n hx hb dX8_decimal_1 rfl (lv_at hl 1 rfl) ?_
  refine g_callR (v0 := .int (gB (sp_X8_isProgram pn (nI k)))) (va_runV (As := [.int (nI k)]) (rest := []) ⟨hx, hb, hml, hown, hts⟩ (c_X8_isProgram l D y s.heap.size h q tw pn ki on ot ab be zA zB zC zD zF zT fo lw hg at_ tl th wo wl wh is_ lo_ hi_ di su an (nI k)) (cwV 1 hts gX8_decimal_X8_isProgram rfl rfl rfl (by decide +kernel) ⟨Nat.le_of_ble_eq_true rfl, Nat.le_of_ble_eq_true rfl⟩) (gP_VA hP hD hK 0 rfl rfl) rfl rfl hl.1 rfl (lv_room (Nat.le_of_ble_eq_true rfl)) dX8_decimal_2 ⟨Nat.zero_le _, Nat.zero_le _⟩) ?_
  refine lv_istore (lv' := [(4, .int (gB (sp_X8_isProgram pn (nI k)))), (0, .ref h), (1, .int (nI k)), (2, .int (nI p)), (3, .int (nI d))]) hx hb dX8_decimal_5 hl (by decide) rfl (fun ls hl => ?_)
  refine lv_iload hx hb dX8_decimal_7 (lv_at hl 0 rfl) ?_
  refine g_beq (tgt := 33) hx hb dX8_decimal_9 (by decide) (fun c_9 => absurd (g_isP hk hpn) c_9) (fun c_9 => ?_)
  refine lv_iload_n hx hb dX8_decimal_12 rfl (lv_at hl 3 rfl) ?_
  refine g_callR (v0 := .int (gB (sp_X8_isPlace (nI p)))) (va_runS (As := [.int (nI p)]) (rest := []) ⟨hx, hb, hml, hown, hts⟩ (c_X8_isPlace l D y s.heap.size (nI p)) (va_cwS 1 hts gX8_decimal_X8_isPlace rfl rfl rfl (by decide +kernel) ⟨Nat.le_of_ble_eq_true rfl, Nat.le_of_ble_eq_true rfl⟩) (gP_S hP hD hK [] (by decide) rfl) rfl rfl hl.1 rfl (lv_room (Nat.le_of_ble_eq_true rfl)) dX8_decimal_13 ⟨Nat.zero_le _, Nat.zero_le _⟩) ?_
  refine g_beq (tgt := 33) hx hb dX8_decimal_16 (by decide) (fun c_16 => absurd (g_isPl hp) c_16) (fun c_16 => ?_)
  refine lv_iload_n hx hb dX8_decimal_19 rfl (lv_at hl 4 rfl) ?_
  refine lv_iconst (v := 0) hx hb dX8_decimal_20 (by decide) ?_
  refine lv_bipush (v := 7) hx hb dX8_decimal_21 (by decide) ?_
  refine g_callR (v0 := .int (gB (sp_X8_in (nI d) 0 7))) (va_runS (As := [.int (nI d), .int 0, .int 7]) (rest := []) ⟨hx, hb, hml, hown, hts⟩ (c_X8_in l D y s.heap.size (nI d) 0 7) (va_cwS 3 hts gX8_decimal_X8_in rfl rfl rfl (by decide +kernel) ⟨Nat.le_of_ble_eq_true rfl, Nat.le_of_ble_eq_true rfl⟩) (gP_S hP hD hK [] (by decide) rfl) rfl rfl hl.1 rfl (lv_room (Nat.le_of_ble_eq_true rfl)) dX8_decimal_23 ⟨Nat.zero_le _, Nat.zero_le _⟩) ?_
  refine g_beq (tgt := 33) hx hb dX8_decimal_26 (by decide) (fun c_26 => absurd (g_in7 hd) c_26) (fun c_26 => ?_)
  refine lv_iconst (v := 1) hx hb dX8_decimal_29 (by decide) ?_
  refine lv_goto (tgt := 34) hx hb dX8_decimal_30 (by decide) ?_
  refine lv_istore (lv' := [(5, .int 1), (4, .int (gB (sp_X8_isProgram pn (nI k)))), (0, .ref h), (1, .int (nI k)), (2, .int (nI p)), (3, .int (nI d))]) hx hb dX8_decimal_34 hl (by decide) rfl (fun ls hl => ?_)
  refine lv_aload_n hx hb dX8_decimal_36 rfl (lv_at hl 2 rfl) ?_
  refine lv_iload hx hb dX8_decimal_37 (lv_at hl 1 rfl) ?_
  refine g_bne (tgt := 46) hx hb dX8_decimal_39 (by decide) (fun c_39 => ?_) (fun c_39 => absurd (g_isP hk hpn) c_39)
  refine lv_iload hx hb dX8_decimal_46 (lv_at hl 0 rfl) ?_
  refine lv_if_ne (tgt := 55) hx hb dX8_decimal_48 (by decide) (fun c_48 => ?_) (fun c_48 => absurd c_48 (by decide))
  refine lv_aload_n hx hb dX8_decimal_55 rfl (lv_at hl 2 rfl) ?_
  refine lv_iload_n hx hb dX8_decimal_56 rfl (lv_at hl 3 rfl) ?_
  refine lv_iload_n hx hb dX8_decimal_57 rfl (lv_at hl 4 rfl) ?_
  refine g_callR (v0 := .int (suR at_ tl th k p)) (va_runV (As := [.int (nI k), .int (nI p)]) (rest := [.ref h]) ⟨hx, hb, hml, hown, hts⟩ (c_X8_sureOf l D y s.heap.size h q tw pn ki on ot ab be zA zB zC zD zF zT fo lw hg at_ tl th wo wl wh is_ lo_ hi_ di su an k p (by omega) hp) (cwV 2 hts gX8_decimal_X8_sureOf rfl rfl rfl (by decide +kernel) ⟨Nat.le_of_ble_eq_true rfl, Nat.le_of_ble_eq_true rfl⟩) (gP_VA hP hD hK 0 rfl rfl) rfl rfl hl.1 rfl (lv_room (Nat.le_of_ble_eq_true rfl)) dX8_decimal_58 ⟨Nat.zero_le _, Nat.zero_le _⟩) ?_
  refine lv_iload_n hx hb dX8_decimal_61 rfl (lv_at hl 5 rfl) ?_
  refine lv_icmp_ge (tgt := 69) hx hb dX8_decimal_62 (by decide) (fun c_62 => ?_) (fun c_62 => absurd hs c_62)
  refine lv_iconst (v := 0) hx hb dX8_decimal_69 (by decide) ?_
  refine g_callA1 (v0 := .int (gB (sp_X8_holds 0))) (w0 := wM y h q 0 pn ki on ot ab be zA zB zC zD zF zT fo lw hg at_ tl th wo wl wh is_ lo_ hi_ di su an) (va_runV (As := [.int 0]) (rest := []) ⟨hx, hb, hml, hown, hts⟩ (c_X8_holds l D y s.heap.size h q tw pn ki on ot ab be zA zB zC zD zF zT fo lw hg at_ tl th wo wl wh is_ lo_ hi_ di su an 0) (cwV 1 hts gX8_decimal_X8_holds rfl rfl rfl (by decide +kernel) ⟨Nat.le_of_ble_eq_true rfl, Nat.le_of_ble_eq_true rfl⟩) (gP_VA hP hD hK 0 rfl rfl) rfl rfl hl.1 rfl (lv_room (Nat.le_of_ble_eq_true rfl)) dX8_decimal_70 ⟨Nat.zero_le _, Nat.zero_le _⟩) hP hD hS hA rfl (fun H locs hP hD hS => ?_)
  refine g_bne (tgt := 78) hx hb dX8_decimal_73 (by decide) (fun c_73 => ?_) (fun c_73 => absurd (by decide) c_73)
  refine lv_aload_n hx hb dX8_decimal_78 rfl (lv_at hl 2 rfl) ?_
  refine va_get (D := D) (ci := 6) (v := .ref (q 17)) (C := RX8) (T := TX8) (N := 28) hx hb hts in_X8_decimal_X8 hown hK.1 hP 0 rfl rfl 17 (by decide) (hts (.fieldLink RX8 57 "NestlimitModel" "toldLow" "[J") (List.mem_of_getElem? (i := 1) rfl)) (fun _ h9 => h9) rfl dX8_decimal_79 ?_
  refine lv_bipush (v := 25) hx hb dX8_decimal_82 (by decide) ?_
  refine lv_iload_n hx hb dX8_decimal_84 rfl (lv_at hl 3 rfl) ?_
  refine lv_imul hx hb dX8_decimal_85 ?_
  refine g_topi (pk_mul 25 k) ?_
  refine lv_iload_n hx hb dX8_decimal_86 rfl (lv_at hl 4 rfl) ?_
  refine lv_iadd hx hb dX8_decimal_87 ?_
  refine g_topi (nI_add (25 * k) p) ?_
  refine g_lald (k := (25 * k) + p) hx hb hK.1 hP 16 1 rfl rfl (by omega) (by decide) dX8_decimal_88 ?_
  refine lv_iload_n hx hb dX8_decimal_89 rfl (lv_at hl 5 rfl) ?_
  refine g_callR (v0 := .long (tenF d 1)) (va_runS (As := [.int (nI d)]) (rest := [.long (tl ((25 * k) + p))]) ⟨hx, hb, hml, hown, hts⟩ (c_X8_tens l D y H.size d (by omega)) (va_cwS 1 hts gX8_decimal_X8_tens rfl rfl rfl (by decide +kernel) ⟨Nat.le_of_ble_eq_true rfl, Nat.le_of_ble_eq_true rfl⟩) (gP_S hP hD hK [] (by decide) rfl) rfl rfl hl.1 rfl (lv_room (Nat.le_of_ble_eq_true rfl)) dX8_decimal_90 ⟨Nat.zero_le _, Nat.zero_le _⟩) ?_
  refine lv_lmul hx hb dX8_decimal_93 ?_
  refine lv_lconst (v := 1) hx hb dX8_decimal_94 (by decide) ?_
  refine lv_iload_n hx hb dX8_decimal_95 rfl (lv_at hl 4 rfl) ?_
  refine lv_lshl (v := jshl 1 (nI p)) hx hb dX8_decimal_96 rfl ?_
  refine g_callR (v0 := .long (sp_X8_cut ((tl ((25 * k) + p)) * (tenF d 1)) (jshl 1 (nI p)))) (va_runS (As := [.long ((tl ((25 * k) + p)) * (tenF d 1)), .long (jshl 1 (nI p))]) (rest := []) ⟨hx, hb, hml, hown, hts⟩ (c_X8_cut l D y H.size ((tl ((25 * k) + p)) * (tenF d 1)) (jshl 1 (nI p)) (gU_ne (by omega))) (va_cwS 2 hts gX8_decimal_X8_cut rfl rfl rfl (by decide +kernel) ⟨Nat.le_of_ble_eq_true rfl, Nat.le_of_ble_eq_true rfl⟩) (gP_S hP hD hK [] (by decide) rfl) rfl rfl hl.1 rfl (lv_room (Nat.le_of_ble_eq_true rfl)) dX8_decimal_97 ⟨Nat.zero_le _, Nat.zero_le _⟩) ?_
  refine lv_lstore (lv' := [(6, .long (sp_X8_cut ((tl ((25 * k) + p)) * (tenF d 1)) (jshl 1 (nI p)))), (5, .int 1), (4, .int (gB (sp_X8_isProgram pn (nI k)))), (0, .ref h), (1, .int (nI k)), (2, .int (nI p)), (3, .int (nI d))]) hx hb dX8_decimal_100 hl (by decide) rfl (fun ls hl => ?_)
  refine lv_iload_n hx hb dX8_decimal_102 rfl (lv_at hl 6 rfl) ?_
  refine lv_if_ne (tgt := 111) hx hb dX8_decimal_103 (by decide) (fun c_103 => ?_) (fun c_103 => ?_)
  · skip
    refine lv_lload hx hb dX8_decimal_111 (lv_at hl 0 rfl) ?_
    refine lv_ldc2 (v := 10) hx hb hown (hts (.constantLong RX8 198 (10)) (List.mem_of_getElem? (i := 2) rfl)) dX8_decimal_113 ?_
    refine lv_lload hx hb dX8_decimal_116 (lv_at hl 0 rfl) ?_
    refine lv_ldc2 (v := 10) hx hb hown (hts (.constantLong RX8 198 (10)) (List.mem_of_getElem? (i := 2) rfl)) dX8_decimal_118 ?_
    refine g_callR (v0 := .long (sp_X8_cut (sp_X8_cut ((tl ((25 * k) + p)) * (tenF d 1)) (jshl 1 (nI p))) 10)) (va_runS (As := [.long (sp_X8_cut ((tl ((25 * k) + p)) * (tenF d 1)) (jshl 1 (nI p))), .long 10]) (rest := [.long 10, .long (sp_X8_cut ((tl ((25 * k) + p)) * (tenF d 1)) (jshl 1 (nI p)))]) ⟨hx, hb, hml, hown, hts⟩ (c_X8_cut l D y H.size (sp_X8_cut ((tl ((25 * k) + p)) * (tenF d 1)) (jshl 1 (nI p))) 10 (by decide)) (va_cwS 2 hts gX8_decimal_X8_cut rfl rfl rfl (by decide +kernel) ⟨Nat.le_of_ble_eq_true rfl, Nat.le_of_ble_eq_true rfl⟩) (gP_S hP hD hK [] (by decide) rfl) rfl rfl hl.1 rfl (lv_room (Nat.le_of_ble_eq_true rfl)) dX8_decimal_121 ⟨Nat.zero_le _, Nat.zero_le _⟩) ?_
    refine lv_lmul hx hb dX8_decimal_124 ?_
    refine lv_lsub hx hb dX8_decimal_125 ?_
    refine lv_l2i (v := ((sp_X8_cut ((tl ((25 * k) + p)) * (tenF d 1)) (jshl 1 (nI p))) - (10 * (sp_X8_cut (sp_X8_cut ((tl ((25 * k) + p)) * (tenF d 1)) (jshl 1 (nI p))) 10))).toInt32) hx hb dX8_decimal_126 rfl ?_
    exact W.iret (v := ((sp_X8_cut ((tl ((25 * k) + p)) * (tenF d 1)) (jshl 1 (nI p))) - (10 * (sp_X8_cut (sp_X8_cut ((tl ((25 * k) + p)) * (tenF d 1)) (jshl 1 (nI p))) 10))).toInt32) hx hb hr (fun t ht hW => ⟨⟨_, wM y h q 0 pn ki on ot ab be zA zB zC zD zF zT fo lw hg at_ tl th wo wl wh is_ lo_ hi_ di su an, rfl, ⟨congrArg (fun z => some (Value.int z)) (by simp only [dcV, if_neg c_103]), rfl⟩, rfl, by rw [ht]; exact hP⟩, by rw [← hAe]; exact hS.F ht⟩) (by rw [← hAe]; exact hS.2.2) dX8_decimal_127
  · skip
    refine lv_lload hx hb dX8_decimal_106 (lv_at hl 0 rfl) ?_
    refine lv_goto (tgt := 126) hx hb dX8_decimal_108 (by decide) ?_
    refine lv_l2i (v := (sp_X8_cut ((tl ((25 * k) + p)) * (tenF d 1)) (jshl 1 (nI p))).toInt32) hx hb dX8_decimal_126 rfl ?_
    exact W.iret (v := (sp_X8_cut ((tl ((25 * k) + p)) * (tenF d 1)) (jshl 1 (nI p))).toInt32) hx hb hr (fun t ht hW => ⟨⟨_, wM y h q 0 pn ki on ot ab be zA zB zC zD zF zT fo lw hg at_ tl th wo wl wh is_ lo_ hi_ di su an, rfl, ⟨congrArg (fun z => some (Value.int z)) (by simp only [dcV, if_pos c_103]), rfl⟩, rfl, by rw [ht]; exact hP⟩, by rw [← hAe]; exact hS.F ht⟩) (by rw [← hAe]; exact hS.2.2) dX8_decimal_127
def quF : Nat → Int64 → Int64 → Int64 → Int64 → Int64 → Bool → Bool × Int64
  | 0, _, _, _, _, t, sr => (sr, t)
  | n + 1, p, q, r, s, t, sr => if sr = true then (if p - t * q ≤ 0 then quF n p q r s t false else if r - t * s ≤ 0 then quF n p q r s t false else if sp_X8_cut q (p - t * q) = sp_X8_cut s (r - t * s) then quF n q (p - t * q) s (r - t * s) (sp_X8_cut q (p - t * q)) true else quF n q (p - t * q) s (r - t * s) (sp_X8_cut q (p - t * q)) false) else (sr, t)
def quR (tl th : Nat → Int64) (k p n : Nat) : Bool × Int64 := quF n (tl (25 * k + p)) (jshl 1 (nI p)) (th (25 * k + p)) (jshl 1 (nI p)) (sp_X8_cut (tl (25 * k + p)) (jshl 1 (nI p))) (if sp_X8_cut (tl (25 * k + p)) (jshl 1 (nI p)) = sp_X8_cut (th (25 * k + p)) (jshl 1 (nI p)) then true else false)
theorem g_ne0 {x : Int64} (h : ¬ x ≤ 0) : ¬ x = 0 := by
  intro z
  rw [z] at h
  exact h (by decide)
theorem g_in24 {d : Nat} (h : d < 25) : sp_X8_in (nI d) 0 24 = true := by
  have h2 : ∀ p : Fin 25, sp_X8_in (nI p.val) 0 24 = true := by decide
  exact h2 ⟨d, h⟩
set_option maxHeartbeats 4000000 in
set_option maxRecDepth 100000 in
theorem c_X8_quotient_1 (l : Launch) (D : va_G) (y : Nat → ClassId) (sz : Nat) (h : Nat) (q : Nat → Nat) (tw : Int32) (pn : Nat) (ki on ot ab be zA zB zC zD zF zT : Nat → Int32) (fo : Nat → Bool) (lw hg : Nat → Int64) (at_ : Nat → Bool) (tl th : Nat → Int64) (wo : Nat → Bool) (wl wh : Nat → Int64) (is_ : Bool) (lo_ hi_ : Int64) (di : Nat → Int32) (su : Nat → Int64) (an : Nat → Bool) (a b c0 : Int32) (yA : ¬ sp_X8_isProgram pn a = true) : Met l yX8_quotient wsX8_quotient ({ frames := 2, cells := 0, slots := 0, locals := 43 } : Room) (gP D y [.ref h, .int a, .int b, .int c0] (wM y h q tw pn ki on ot ab be zA zB zC zD zF zT fo lw hg at_ tl th wo wl wh is_ lo_ hi_ di su an) sz) (gQ D (wM y h q tw pn ki on ot ab be zA zB zC zD zF zT fo lw hg at_ tl th wo wl wh is_ lo_ hi_ di su an) (gF (some (.int 0)) (wM y h q 1 pn ki on ot ab be zA zB zC zD zF zT fo lw hg at_ tl th wo wl wh is_ lo_ hi_ di su an))) 0 0 (va_A (wM y h q tw pn ki on ot ab be zA zB zC zD zF zT fo lw hg at_ tl th wo wl wh is_ lo_ hi_ di su an) sz) := by
  refine Met.ofW (cc := cX8_quotient) (maxL := 22) (ret := (some .int)) (by decide) rfl ?_
  intro pg e s m args below meth c s₁ B hml hv
  obtain ⟨rfl, hsz, hP, hK, hD0⟩ := hv
  have hx := B.exec
  have hb := B.bytes
  have hr := B.returns
  have hts := atoms_spec (ws := wsX8_quotient) B.pre
  have hown : s.vm.findClass RX8 = some m.cls := findClass_of_methodNamed B.named
  have hlocks := B.notSynchronized
  subst hsz
  obtain ⟨A, hAe⟩ : ∃ A : Nat → Prop, A = va_A (wM y h q tw pn ki on ot ab be zA zB zC zD zF zT fo lw hg at_ tl th wo wl wh is_ lo_ hi_ di su an) s.heap.size := ⟨_, rfl⟩
  have hD : va_D A (wM y h q tw pn ki on ot ab be zA zB zC zD zF zT fo lw hg at_ tl th wo wl wh is_ lo_ hi_ di su an) := by rw [hAe]; exact hD0.self (sz := s.heap.size)
  have hA : ∀ q : Nat, s.heap.size ≤ q → A q := fun q h => by rw [hAe]; exact Or.inr h
  have hS : va_S A s.heap s.heap [] := va_S.rf
  have hl := lv_entry ([.ref h, .int a, .int b, .int c0]) (n := 22) (Nat.le_of_ble_eq_true rfl)
  rw [lg_entry_eq]
  generalize (lg_sl ([.ref h, .int a, .int b, .int c0]) ++ List.replicate (22 - (lg_sl ([.ref h, .int a, .int b, .int c0])).length) Slot.unset).toArray = ls at hl ⊢
  have hl : lv_has ls 22 [(0, .ref h), (1, .int a), (2, .int b), (3, .int c0)] := hl
  refine lv_aload_n hx hb dX8_quotient_0 rfl (lv_at hl 0 rfl) ?_
  refine lv_iload_n hx hb dX8_quotient_1 rfl (lv_at hl 1 rfl) ?_
  refine g_callR (v0 := .int (gB (sp_X8_isProgram pn a))) (va_runV (As := [.int a]) (rest := []) ⟨hx, hb, hml, hown, hts⟩ (c_X8_isProgram l D y s.heap.size h q tw pn ki on ot ab be zA zB zC zD zF zT fo lw hg at_ tl th wo wl wh is_ lo_ hi_ di su an a) (cwV 1 hts gX8_quotient_X8_isProgram rfl rfl rfl (by decide +kernel) ⟨Nat.le_of_ble_eq_true rfl, Nat.le_of_ble_eq_true rfl⟩) (gP_VA hP hD hK 0 rfl rfl) rfl rfl hl.1 rfl (lv_room (Nat.le_of_ble_eq_true rfl)) dX8_quotient_2 ⟨Nat.zero_le _, Nat.zero_le _⟩) ?_
  refine lv_istore (lv' := [(4, .int (gB (sp_X8_isProgram pn a))), (0, .ref h), (1, .int a), (2, .int b), (3, .int c0)]) hx hb dX8_quotient_5 hl (by decide) rfl (fun ls hl => ?_)
  refine lv_iload hx hb dX8_quotient_7 (lv_at hl 0 rfl) ?_
  refine g_beq (tgt := 33) hx hb dX8_quotient_9 (by decide) (fun c_9 => ?_) (fun c_9 => absurd c_9 yA)
  refine lv_iconst (v := 0) hx hb dX8_quotient_33 (by decide) ?_
  refine lv_istore (lv' := [(5, .int 0), (4, .int (gB (sp_X8_isProgram pn a))), (0, .ref h), (1, .int a), (2, .int b), (3, .int c0)]) hx hb dX8_quotient_34 hl (by decide) rfl (fun ls hl => ?_)
  refine lv_aload_n hx hb dX8_quotient_36 rfl (lv_at hl 2 rfl) ?_
  refine lv_iload hx hb dX8_quotient_37 (lv_at hl 1 rfl) ?_
  refine g_bne (tgt := 46) hx hb dX8_quotient_39 (by decide) (fun c_39 => absurd c_39 yA) (fun c_39 => ?_)
  refine lv_iconst (v := 1) hx hb dX8_quotient_42 (by decide) ?_
  refine lv_goto (tgt := 74) hx hb dX8_quotient_43 (by decide) ?_
  refine g_callA1 (v0 := .int (gB (sp_X8_holds 1))) (w0 := wM y h q 1 pn ki on ot ab be zA zB zC zD zF zT fo lw hg at_ tl th wo wl wh is_ lo_ hi_ di su an) (va_runV (As := [.int 1]) (rest := []) ⟨hx, hb, hml, hown, hts⟩ (c_X8_holds l D y s.heap.size h q tw pn ki on ot ab be zA zB zC zD zF zT fo lw hg at_ tl th wo wl wh is_ lo_ hi_ di su an 1) (cwV 1 hts gX8_quotient_X8_holds rfl rfl rfl (by decide +kernel) ⟨Nat.le_of_ble_eq_true rfl, Nat.le_of_ble_eq_true rfl⟩) (gP_VA hP hD hK 0 rfl rfl) rfl rfl hl.1 rfl (lv_room (Nat.le_of_ble_eq_true rfl)) dX8_quotient_74 ⟨Nat.zero_le _, Nat.zero_le _⟩) hP hD hS hA rfl (fun H locs hP hD hS => ?_)
  refine g_bne (tgt := 82) hx hb dX8_quotient_77 (by decide) (fun c_77 => absurd c_77 (by decide)) (fun c_77 => ?_)
  refine lv_iconst (v := 0) hx hb dX8_quotient_80 (by decide) ?_
  exact W.iret (v := 0) hx hb hr (fun t ht hW => ⟨⟨_, wM y h q 1 pn ki on ot ab be zA zB zC zD zF zT fo lw hg at_ tl th wo wl wh is_ lo_ hi_ di su an, rfl, ⟨congrArg (fun z => some (Value.int z)) (rfl), rfl⟩, rfl, by rw [ht]; exact hP⟩, by rw [← hAe]; exact hS.F ht⟩) (by rw [← hAe]; exact hS.2.2) dX8_quotient_81
set_option maxHeartbeats 4000000 in
set_option maxRecDepth 100000 in
theorem c_X8_quotient_2 (l : Launch) (D : va_G) (y : Nat → ClassId) (sz : Nat) (h : Nat) (q : Nat → Nat) (tw : Int32) (pn : Nat) (ki on ot ab be zA zB zC zD zF zT : Nat → Int32) (fo : Nat → Bool) (lw hg : Nat → Int64) (at_ : Nat → Bool) (tl th : Nat → Int64) (wo : Nat → Bool) (wl wh : Nat → Int64) (is_ : Bool) (lo_ hi_ : Int64) (di : Nat → Int32) (su : Nat → Int64) (an : Nat → Bool) (k : Nat) (b c0 : Int32) (hpn : pn ≤ 40) (hk : k < pn) (hbad : ¬ (sp_X8_isPlace b = true ∧ sp_X8_in c0 0 24 = true)) : Met l yX8_quotient wsX8_quotient ({ frames := 2, cells := 0, slots := 0, locals := 43 } : Room) (gP D y [.ref h, .int (nI k), .int b, .int c0] (wM y h q tw pn ki on ot ab be zA zB zC zD zF zT fo lw hg at_ tl th wo wl wh is_ lo_ hi_ di su an) sz) (gQ D (wM y h q tw pn ki on ot ab be zA zB zC zD zF zT fo lw hg at_ tl th wo wl wh is_ lo_ hi_ di su an) (gF (some (.int 0)) (wM y h q 2 pn ki on ot ab be zA zB zC zD zF zT fo lw hg at_ tl th wo wl wh is_ lo_ hi_ di su an))) 0 0 (va_A (wM y h q tw pn ki on ot ab be zA zB zC zD zF zT fo lw hg at_ tl th wo wl wh is_ lo_ hi_ di su an) sz) := by
  refine Met.ofW (cc := cX8_quotient) (maxL := 22) (ret := (some .int)) (by decide) rfl ?_
  intro pg e s m args below meth c s₁ B hml hv
  obtain ⟨rfl, hsz, hP, hK, hD0⟩ := hv
  have hx := B.exec
  have hb := B.bytes
  have hr := B.returns
  have hts := atoms_spec (ws := wsX8_quotient) B.pre
  have hown : s.vm.findClass RX8 = some m.cls := findClass_of_methodNamed B.named
  have hlocks := B.notSynchronized
  subst hsz
  obtain ⟨A, hAe⟩ : ∃ A : Nat → Prop, A = va_A (wM y h q tw pn ki on ot ab be zA zB zC zD zF zT fo lw hg at_ tl th wo wl wh is_ lo_ hi_ di su an) s.heap.size := ⟨_, rfl⟩
  have hD : va_D A (wM y h q tw pn ki on ot ab be zA zB zC zD zF zT fo lw hg at_ tl th wo wl wh is_ lo_ hi_ di su an) := by rw [hAe]; exact hD0.self (sz := s.heap.size)
  have hA : ∀ q : Nat, s.heap.size ≤ q → A q := fun q h => by rw [hAe]; exact Or.inr h
  have hS : va_S A s.heap s.heap [] := va_S.rf
  have hl := lv_entry ([.ref h, .int (nI k), .int b, .int c0]) (n := 22) (Nat.le_of_ble_eq_true rfl)
  rw [lg_entry_eq]
  generalize (lg_sl ([.ref h, .int (nI k), .int b, .int c0]) ++ List.replicate (22 - (lg_sl ([.ref h, .int (nI k), .int b, .int c0])).length) Slot.unset).toArray = ls at hl ⊢
  have hl : lv_has ls 22 [(0, .ref h), (1, .int (nI k)), (2, .int b), (3, .int c0)] := hl
  refine lv_aload_n hx hb dX8_quotient_0 rfl (lv_at hl 0 rfl) ?_
  refine lv_iload_n hx hb dX8_quotient_1 rfl (lv_at hl 1 rfl) ?_
  refine g_callR (v0 := .int (gB (sp_X8_isProgram pn (nI k)))) (va_runV (As := [.int (nI k)]) (rest := []) ⟨hx, hb, hml, hown, hts⟩ (c_X8_isProgram l D y s.heap.size h q tw pn ki on ot ab be zA zB zC zD zF zT fo lw hg at_ tl th wo wl wh is_ lo_ hi_ di su an (nI k)) (cwV 1 hts gX8_quotient_X8_isProgram rfl rfl rfl (by decide +kernel) ⟨Nat.le_of_ble_eq_true rfl, Nat.le_of_ble_eq_true rfl⟩) (gP_VA hP hD hK 0 rfl rfl) rfl rfl hl.1 rfl (lv_room (Nat.le_of_ble_eq_true rfl)) dX8_quotient_2 ⟨Nat.zero_le _, Nat.zero_le _⟩) ?_
  refine lv_istore (lv' := [(4, .int (gB (sp_X8_isProgram pn (nI k)))), (0, .ref h), (1, .int (nI k)), (2, .int b), (3, .int c0)]) hx hb dX8_quotient_5 hl (by decide) rfl (fun ls hl => ?_)
  refine lv_iload hx hb dX8_quotient_7 (lv_at hl 0 rfl) ?_
  refine g_beq (tgt := 33) hx hb dX8_quotient_9 (by decide) (fun c_9 => absurd (g_isP hk hpn) c_9) (fun c_9 => ?_)
  refine lv_iload_n hx hb dX8_quotient_12 rfl (lv_at hl 3 rfl) ?_
  refine g_callR (v0 := .int (gB (sp_X8_isPlace b))) (va_runS (As := [.int b]) (rest := []) ⟨hx, hb, hml, hown, hts⟩ (c_X8_isPlace l D y s.heap.size b) (va_cwS 1 hts gX8_quotient_X8_isPlace rfl rfl rfl (by decide +kernel) ⟨Nat.le_of_ble_eq_true rfl, Nat.le_of_ble_eq_true rfl⟩) (gP_S hP hD hK [] (by decide) rfl) rfl rfl hl.1 rfl (lv_room (Nat.le_of_ble_eq_true rfl)) dX8_quotient_13 ⟨Nat.zero_le _, Nat.zero_le _⟩) ?_
  refine g_beq (tgt := 33) hx hb dX8_quotient_16 (by decide) (fun c_16 => ?_) (fun c_16 => ?_)
  · skip
    refine lv_iconst (v := 0) hx hb dX8_quotient_33 (by decide) ?_
    refine lv_istore (lv' := [(5, .int 0), (4, .int (gB (sp_X8_isProgram pn (nI k)))), (0, .ref h), (1, .int (nI k)), (2, .int b), (3, .int c0)]) hx hb dX8_quotient_34 hl (by decide) rfl (fun ls hl => ?_)
    refine lv_aload_n hx hb dX8_quotient_36 rfl (lv_at hl 2 rfl) ?_
    refine lv_iload hx hb dX8_quotient_37 (lv_at hl 1 rfl) ?_
    refine g_bne (tgt := 46) hx hb dX8_quotient_39 (by decide) (fun c_39 => ?_) (fun c_39 => absurd (g_isP hk hpn) c_39)
    refine lv_iload hx hb dX8_quotient_46 (lv_at hl 0 rfl) ?_
    refine lv_if_ne (tgt := 55) hx hb dX8_quotient_48 (by decide) (fun c_48 => absurd c_48 (by decide)) (fun c_48 => ?_)
    refine lv_iconst (v := 2) hx hb dX8_quotient_51 (by decide) ?_
    refine lv_goto (tgt := 74) hx hb dX8_quotient_52 (by decide) ?_
    refine g_callA1 (v0 := .int (gB (sp_X8_holds 2))) (w0 := wM y h q 2 pn ki on ot ab be zA zB zC zD zF zT fo lw hg at_ tl th wo wl wh is_ lo_ hi_ di su an) (va_runV (As := [.int 2]) (rest := []) ⟨hx, hb, hml, hown, hts⟩ (c_X8_holds l D y s.heap.size h q tw pn ki on ot ab be zA zB zC zD zF zT fo lw hg at_ tl th wo wl wh is_ lo_ hi_ di su an 2) (cwV 1 hts gX8_quotient_X8_holds rfl rfl rfl (by decide +kernel) ⟨Nat.le_of_ble_eq_true rfl, Nat.le_of_ble_eq_true rfl⟩) (gP_VA hP hD hK 0 rfl rfl) rfl rfl hl.1 rfl (lv_room (Nat.le_of_ble_eq_true rfl)) dX8_quotient_74 ⟨Nat.zero_le _, Nat.zero_le _⟩) hP hD hS hA rfl (fun H locs hP hD hS => ?_)
    refine g_bne (tgt := 82) hx hb dX8_quotient_77 (by decide) (fun c_77 => absurd c_77 (by decide)) (fun c_77 => ?_)
    refine lv_iconst (v := 0) hx hb dX8_quotient_80 (by decide) ?_
    exact W.iret (v := 0) hx hb hr (fun t ht hW => ⟨⟨_, wM y h q 2 pn ki on ot ab be zA zB zC zD zF zT fo lw hg at_ tl th wo wl wh is_ lo_ hi_ di su an, rfl, ⟨congrArg (fun z => some (Value.int z)) (rfl), rfl⟩, rfl, by rw [ht]; exact hP⟩, by rw [← hAe]; exact hS.F ht⟩) (by rw [← hAe]; exact hS.2.2) dX8_quotient_81
  · skip
    refine lv_iload_n hx hb dX8_quotient_19 rfl (lv_at hl 4 rfl) ?_
    refine lv_iconst (v := 0) hx hb dX8_quotient_20 (by decide) ?_
    refine lv_bipush (v := 24) hx hb dX8_quotient_21 (by decide) ?_
    refine g_callR (v0 := .int (gB (sp_X8_in c0 0 24))) (va_runS (As := [.int c0, .int 0, .int 24]) (rest := []) ⟨hx, hb, hml, hown, hts⟩ (c_X8_in l D y s.heap.size c0 0 24) (va_cwS 3 hts gX8_quotient_X8_in rfl rfl rfl (by decide +kernel) ⟨Nat.le_of_ble_eq_true rfl, Nat.le_of_ble_eq_true rfl⟩) (gP_S hP hD hK [] (by decide) rfl) rfl rfl hl.1 rfl (lv_room (Nat.le_of_ble_eq_true rfl)) dX8_quotient_23 ⟨Nat.zero_le _, Nat.zero_le _⟩) ?_
    refine g_beq (tgt := 33) hx hb dX8_quotient_26 (by decide) (fun c_26 => ?_) (fun c_26 => absurd (And.intro c_16 c_26) hbad)
    refine lv_iconst (v := 0) hx hb dX8_quotient_33 (by decide) ?_
    refine lv_istore (lv' := [(5, .int 0), (4, .int (gB (sp_X8_isProgram pn (nI k)))), (0, .ref h), (1, .int (nI k)), (2, .int b), (3, .int c0)]) hx hb dX8_quotient_34 hl (by decide) rfl (fun ls hl => ?_)
    refine lv_aload_n hx hb dX8_quotient_36 rfl (lv_at hl 2 rfl) ?_
    refine lv_iload hx hb dX8_quotient_37 (lv_at hl 1 rfl) ?_
    refine g_bne (tgt := 46) hx hb dX8_quotient_39 (by decide) (fun c_39 => ?_) (fun c_39 => absurd (g_isP hk hpn) c_39)
    refine lv_iload hx hb dX8_quotient_46 (lv_at hl 0 rfl) ?_
    refine lv_if_ne (tgt := 55) hx hb dX8_quotient_48 (by decide) (fun c_48 => absurd c_48 (by decide)) (fun c_48 => ?_)
    refine lv_iconst (v := 2) hx hb dX8_quotient_51 (by decide) ?_
    refine lv_goto (tgt := 74) hx hb dX8_quotient_52 (by decide) ?_
    refine g_callA1 (v0 := .int (gB (sp_X8_holds 2))) (w0 := wM y h q 2 pn ki on ot ab be zA zB zC zD zF zT fo lw hg at_ tl th wo wl wh is_ lo_ hi_ di su an) (va_runV (As := [.int 2]) (rest := []) ⟨hx, hb, hml, hown, hts⟩ (c_X8_holds l D y s.heap.size h q tw pn ki on ot ab be zA zB zC zD zF zT fo lw hg at_ tl th wo wl wh is_ lo_ hi_ di su an 2) (cwV 1 hts gX8_quotient_X8_holds rfl rfl rfl (by decide +kernel) ⟨Nat.le_of_ble_eq_true rfl, Nat.le_of_ble_eq_true rfl⟩) (gP_VA hP hD hK 0 rfl rfl) rfl rfl hl.1 rfl (lv_room (Nat.le_of_ble_eq_true rfl)) dX8_quotient_74 ⟨Nat.zero_le _, Nat.zero_le _⟩) hP hD hS hA rfl (fun H locs hP hD hS => ?_)
    refine g_bne (tgt := 82) hx hb dX8_quotient_77 (by decide) (fun c_77 => absurd c_77 (by decide)) (fun c_77 => ?_)
    refine lv_iconst (v := 0) hx hb dX8_quotient_80 (by decide) ?_
    exact W.iret (v := 0) hx hb hr (fun t ht hW => ⟨⟨_, wM y h q 2 pn ki on ot ab be zA zB zC zD zF zT fo lw hg at_ tl th wo wl wh is_ lo_ hi_ di su an, rfl, ⟨congrArg (fun z => some (Value.int z)) (rfl), rfl⟩, rfl, by rw [ht]; exact hP⟩, by rw [← hAe]; exact hS.F ht⟩) (by rw [← hAe]; exact hS.2.2) dX8_quotient_81
theorem in_X8_quotient_X8 : ∀ w ∈ wsX80, w ∈ wsX8_quotient := fun _ h => List.mem_cons_of_mem _ (List.mem_append_right _ h)
set_option maxHeartbeats 4000000 in
set_option maxRecDepth 100000 in
theorem c_X8_quotient_3a (l : Launch) (D : va_G) (y : Nat → ClassId) (sz : Nat) (h : Nat) (q : Nat → Nat) (tw : Int32) (pn : Nat) (ki on ot ab be zA zB zC zD zF zT : Nat → Int32) (fo : Nat → Bool) (lw hg : Nat → Int64) (at_ : Nat → Bool) (tl th : Nat → Int64) (wo : Nat → Bool) (wl wh : Nat → Int64) (is_ : Bool) (lo_ hi_ : Int64) (di : Nat → Int32) (su : Nat → Int64) (an : Nat → Bool) (k p d : Nat) (hpn : pn ≤ 40) (hk : k < pn) (hp : p < 25) (hd : d < 25) (hf : ¬ at_ (25 * k + p) = true) : Met l yX8_quotient wsX8_quotient ({ frames := 2, cells := 0, slots := 0, locals := 43 } : Room) (gP D y [.ref h, .int (nI k), .int (nI p), .int (nI d)] (wM y h q tw pn ki on ot ab be zA zB zC zD zF zT fo lw hg at_ tl th wo wl wh is_ lo_ hi_ di su an) sz) (gQ D (wM y h q tw pn ki on ot ab be zA zB zC zD zF zT fo lw hg at_ tl th wo wl wh is_ lo_ hi_ di su an) (gF (some (.int 0)) (wM y h q 3 pn ki on ot ab be zA zB zC zD zF zT fo lw hg at_ tl th wo wl wh is_ lo_ hi_ di su an))) 0 0 (va_A (wM y h q tw pn ki on ot ab be zA zB zC zD zF zT fo lw hg at_ tl th wo wl wh is_ lo_ hi_ di su an) sz) := by
  refine Met.ofW (cc := cX8_quotient) (maxL := 22) (ret := (some .int)) (by decide) rfl ?_
  intro pg e s m args below meth c s₁ B hml hv
  obtain ⟨rfl, hsz, hP, hK, hD0⟩ := hv
  have hx := B.exec
  have hb := B.bytes
  have hr := B.returns
  have hts := atoms_spec (ws := wsX8_quotient) B.pre
  have hown : s.vm.findClass RX8 = some m.cls := findClass_of_methodNamed B.named
  have hlocks := B.notSynchronized
  subst hsz
  obtain ⟨A, hAe⟩ : ∃ A : Nat → Prop, A = va_A (wM y h q tw pn ki on ot ab be zA zB zC zD zF zT fo lw hg at_ tl th wo wl wh is_ lo_ hi_ di su an) s.heap.size := ⟨_, rfl⟩
  have hD : va_D A (wM y h q tw pn ki on ot ab be zA zB zC zD zF zT fo lw hg at_ tl th wo wl wh is_ lo_ hi_ di su an) := by rw [hAe]; exact hD0.self (sz := s.heap.size)
  have hA : ∀ q : Nat, s.heap.size ≤ q → A q := fun q h => by rw [hAe]; exact Or.inr h
  have hS : va_S A s.heap s.heap [] := va_S.rf
  have hl := lv_entry ([.ref h, .int (nI k), .int (nI p), .int (nI d)]) (n := 22) (Nat.le_of_ble_eq_true rfl)
  rw [lg_entry_eq]
  generalize (lg_sl ([.ref h, .int (nI k), .int (nI p), .int (nI d)]) ++ List.replicate (22 - (lg_sl ([.ref h, .int (nI k), .int (nI p), .int (nI d)])).length) Slot.unset).toArray = ls at hl ⊢
  have hl : lv_has ls 22 [(0, .ref h), (1, .int (nI k)), (2, .int (nI p)), (3, .int (nI d))] := hl
  refine lv_aload_n hx hb dX8_quotient_0 rfl (lv_at hl 0 rfl) ?_
  refine lv_iload_n hx hb dX8_quotient_1 rfl (lv_at hl 1 rfl) ?_
  refine g_callR (v0 := .int (gB (sp_X8_isProgram pn (nI k)))) (va_runV (As := [.int (nI k)]) (rest := []) ⟨hx, hb, hml, hown, hts⟩ (c_X8_isProgram l D y s.heap.size h q tw pn ki on ot ab be zA zB zC zD zF zT fo lw hg at_ tl th wo wl wh is_ lo_ hi_ di su an (nI k)) (cwV 1 hts gX8_quotient_X8_isProgram rfl rfl rfl (by decide +kernel) ⟨Nat.le_of_ble_eq_true rfl, Nat.le_of_ble_eq_true rfl⟩) (gP_VA hP hD hK 0 rfl rfl) rfl rfl hl.1 rfl (lv_room (Nat.le_of_ble_eq_true rfl)) dX8_quotient_2 ⟨Nat.zero_le _, Nat.zero_le _⟩) ?_
  refine lv_istore (lv' := [(4, .int (gB (sp_X8_isProgram pn (nI k)))), (0, .ref h), (1, .int (nI k)), (2, .int (nI p)), (3, .int (nI d))]) hx hb dX8_quotient_5 hl (by decide) rfl (fun ls hl => ?_)
  refine lv_iload hx hb dX8_quotient_7 (lv_at hl 0 rfl) ?_
  refine g_beq (tgt := 33) hx hb dX8_quotient_9 (by decide) (fun c_9 => absurd (g_isP hk hpn) c_9) (fun c_9 => ?_)
  refine lv_iload_n hx hb dX8_quotient_12 rfl (lv_at hl 3 rfl) ?_
  refine g_callR (v0 := .int (gB (sp_X8_isPlace (nI p)))) (va_runS (As := [.int (nI p)]) (rest := []) ⟨hx, hb, hml, hown, hts⟩ (c_X8_isPlace l D y s.heap.size (nI p)) (va_cwS 1 hts gX8_quotient_X8_isPlace rfl rfl rfl (by decide +kernel) ⟨Nat.le_of_ble_eq_true rfl, Nat.le_of_ble_eq_true rfl⟩) (gP_S hP hD hK [] (by decide) rfl) rfl rfl hl.1 rfl (lv_room (Nat.le_of_ble_eq_true rfl)) dX8_quotient_13 ⟨Nat.zero_le _, Nat.zero_le _⟩) ?_
  refine g_beq (tgt := 33) hx hb dX8_quotient_16 (by decide) (fun c_16 => absurd (g_isPl hp) c_16) (fun c_16 => ?_)
  refine lv_iload_n hx hb dX8_quotient_19 rfl (lv_at hl 4 rfl) ?_
  refine lv_iconst (v := 0) hx hb dX8_quotient_20 (by decide) ?_
  refine lv_bipush (v := 24) hx hb dX8_quotient_21 (by decide) ?_
  refine g_callR (v0 := .int (gB (sp_X8_in (nI d) 0 24))) (va_runS (As := [.int (nI d), .int 0, .int 24]) (rest := []) ⟨hx, hb, hml, hown, hts⟩ (c_X8_in l D y s.heap.size (nI d) 0 24) (va_cwS 3 hts gX8_quotient_X8_in rfl rfl rfl (by decide +kernel) ⟨Nat.le_of_ble_eq_true rfl, Nat.le_of_ble_eq_true rfl⟩) (gP_S hP hD hK [] (by decide) rfl) rfl rfl hl.1 rfl (lv_room (Nat.le_of_ble_eq_true rfl)) dX8_quotient_23 ⟨Nat.zero_le _, Nat.zero_le _⟩) ?_
  refine g_beq (tgt := 33) hx hb dX8_quotient_26 (by decide) (fun c_26 => absurd (g_in24 hd) c_26) (fun c_26 => ?_)
  refine lv_iconst (v := 1) hx hb dX8_quotient_29 (by decide) ?_
  refine lv_goto (tgt := 34) hx hb dX8_quotient_30 (by decide) ?_
  refine lv_istore (lv' := [(5, .int 1), (4, .int (gB (sp_X8_isProgram pn (nI k)))), (0, .ref h), (1, .int (nI k)), (2, .int (nI p)), (3, .int (nI d))]) hx hb dX8_quotient_34 hl (by decide) rfl (fun ls hl => ?_)
  refine lv_aload_n hx hb dX8_quotient_36 rfl (lv_at hl 2 rfl) ?_
  refine lv_iload hx hb dX8_quotient_37 (lv_at hl 1 rfl) ?_
  refine g_bne (tgt := 46) hx hb dX8_quotient_39 (by decide) (fun c_39 => ?_) (fun c_39 => absurd (g_isP hk hpn) c_39)
  refine lv_iload hx hb dX8_quotient_46 (lv_at hl 0 rfl) ?_
  refine lv_if_ne (tgt := 55) hx hb dX8_quotient_48 (by decide) (fun c_48 => ?_) (fun c_48 => absurd c_48 (by decide))
  refine lv_aload_n hx hb dX8_quotient_55 rfl (lv_at hl 2 rfl) ?_
  refine va_get (D := D) (ci := 6) (v := .ref (q 16)) (C := RX8) (T := TX8) (N := 28) hx hb hts in_X8_quotient_X8 hown hK.1 hP 0 rfl rfl 16 (by decide) (hts (.fieldLink RX8 54 "NestlimitModel" "areTold" "[Z") (List.mem_of_getElem? (i := 1) rfl)) (fun _ h9 => h9) rfl dX8_quotient_56 ?_
  refine lv_bipush (v := 25) hx hb dX8_quotient_59 (by decide) ?_
  refine lv_iload_n hx hb dX8_quotient_61 rfl (lv_at hl 3 rfl) ?_
  refine lv_imul hx hb dX8_quotient_62 ?_
  refine g_topi (pk_mul 25 k) ?_
  refine lv_iload_n hx hb dX8_quotient_63 rfl (lv_at hl 4 rfl) ?_
  refine lv_iadd hx hb dX8_quotient_64 ?_
  refine g_topi (nI_add (25 * k) p) ?_
  refine g_zald (k := (25 * k) + p) hx hb hK.1 hP 15 2 rfl rfl (by omega) (by decide) dX8_quotient_65 ?_
  refine g_beq (tgt := 73) hx hb dX8_quotient_66 (by decide) (fun c_66 => ?_) (fun c_66 => absurd c_66 hf)
  refine lv_iconst (v := 3) hx hb dX8_quotient_73 (by decide) ?_
  refine g_callA1 (v0 := .int (gB (sp_X8_holds 3))) (w0 := wM y h q 3 pn ki on ot ab be zA zB zC zD zF zT fo lw hg at_ tl th wo wl wh is_ lo_ hi_ di su an) (va_runV (As := [.int 3]) (rest := []) ⟨hx, hb, hml, hown, hts⟩ (c_X8_holds l D y s.heap.size h q tw pn ki on ot ab be zA zB zC zD zF zT fo lw hg at_ tl th wo wl wh is_ lo_ hi_ di su an 3) (cwV 1 hts gX8_quotient_X8_holds rfl rfl rfl (by decide +kernel) ⟨Nat.le_of_ble_eq_true rfl, Nat.le_of_ble_eq_true rfl⟩) (gP_VA hP hD hK 0 rfl rfl) rfl rfl hl.1 rfl (lv_room (Nat.le_of_ble_eq_true rfl)) dX8_quotient_74 ⟨Nat.zero_le _, Nat.zero_le _⟩) hP hD hS hA rfl (fun H locs hP hD hS => ?_)
  refine g_bne (tgt := 82) hx hb dX8_quotient_77 (by decide) (fun c_77 => absurd c_77 (by decide)) (fun c_77 => ?_)
  refine lv_iconst (v := 0) hx hb dX8_quotient_80 (by decide) ?_
  exact W.iret (v := 0) hx hb hr (fun t ht hW => ⟨⟨_, wM y h q 3 pn ki on ot ab be zA zB zC zD zF zT fo lw hg at_ tl th wo wl wh is_ lo_ hi_ di su an, rfl, ⟨congrArg (fun z => some (Value.int z)) (rfl), rfl⟩, rfl, by rw [ht]; exact hP⟩, by rw [← hAe]; exact hS.F ht⟩) (by rw [← hAe]; exact hS.2.2) dX8_quotient_81
set_option maxHeartbeats 4000000 in
set_option maxRecDepth 100000 in
theorem c_X8_quotient_3b (l : Launch) (D : va_G) (y : Nat → ClassId) (sz : Nat) (h : Nat) (q : Nat → Nat) (tw : Int32) (pn : Nat) (ki on ot ab be zA zB zC zD zF zT : Nat → Int32) (fo : Nat → Bool) (lw hg : Nat → Int64) (at_ : Nat → Bool) (tl th : Nat → Int64) (wo : Nat → Bool) (wl wh : Nat → Int64) (is_ : Bool) (lo_ hi_ : Int64) (di : Nat → Int32) (su : Nat → Int64) (an : Nat → Bool) (k p d : Nat) (hpn : pn ≤ 40) (hk : k < pn) (hp : p < 25) (hd : d < 25) (hf : at_ (25 * k + p) = true) (hs : ¬ (quR tl th k p d).1 = true) : Met l yX8_quotient wsX8_quotient ({ frames := 2, cells := 0, slots := 0, locals := 43 } : Room) (gP D y [.ref h, .int (nI k), .int (nI p), .int (nI d)] (wM y h q tw pn ki on ot ab be zA zB zC zD zF zT fo lw hg at_ tl th wo wl wh is_ lo_ hi_ di su an) sz) (gQ D (wM y h q tw pn ki on ot ab be zA zB zC zD zF zT fo lw hg at_ tl th wo wl wh is_ lo_ hi_ di su an) (gF (some (.int 0)) (wM y h q 3 pn ki on ot ab be zA zB zC zD zF zT fo lw hg at_ tl th wo wl wh is_ lo_ hi_ di su an))) 0 0 (va_A (wM y h q tw pn ki on ot ab be zA zB zC zD zF zT fo lw hg at_ tl th wo wl wh is_ lo_ hi_ di su an) sz) := by
  refine Met.ofW (cc := cX8_quotient) (maxL := 22) (ret := (some .int)) (by decide) rfl ?_
  intro pg e s m args below meth c s₁ B hml hv
  obtain ⟨rfl, hsz, hP, hK, hD0⟩ := hv
  have hx := B.exec
  have hb := B.bytes
  have hr := B.returns
  have hts := atoms_spec (ws := wsX8_quotient) B.pre
  have hown : s.vm.findClass RX8 = some m.cls := findClass_of_methodNamed B.named
  have hlocks := B.notSynchronized
  subst hsz
  obtain ⟨A, hAe⟩ : ∃ A : Nat → Prop, A = va_A (wM y h q tw pn ki on ot ab be zA zB zC zD zF zT fo lw hg at_ tl th wo wl wh is_ lo_ hi_ di su an) s.heap.size := ⟨_, rfl⟩
  have hD : va_D A (wM y h q tw pn ki on ot ab be zA zB zC zD zF zT fo lw hg at_ tl th wo wl wh is_ lo_ hi_ di su an) := by rw [hAe]; exact hD0.self (sz := s.heap.size)
  have hA : ∀ q : Nat, s.heap.size ≤ q → A q := fun q h => by rw [hAe]; exact Or.inr h
  have hS : va_S A s.heap s.heap [] := va_S.rf
  have hl := lv_entry ([.ref h, .int (nI k), .int (nI p), .int (nI d)]) (n := 22) (Nat.le_of_ble_eq_true rfl)
  rw [lg_entry_eq]
  generalize (lg_sl ([.ref h, .int (nI k), .int (nI p), .int (nI d)]) ++ List.replicate (22 - (lg_sl ([.ref h, .int (nI k), .int (nI p), .int (nI d)])).length) Slot.unset).toArray = ls at hl ⊢
  have hl : lv_has ls 22 [(0, .ref h), (1, .int (nI k)), (2, .int (nI p)), (3, .int (nI d))] := hl
  refine lv_aload_n hx hb dX8_quotient_0 rfl (lv_at hl 0 rfl) ?_
  refine lv_iload_n hx hb dX8_quotient_1 rfl (lv_at hl 1 rfl) ?_
  refine g_callR (v0 := .int (gB (sp_X8_isProgram pn (nI k)))) (va_runV (As := [.int (nI k)]) (rest := []) ⟨hx, hb, hml, hown, hts⟩ (c_X8_isProgram l D y s.heap.size h q tw pn ki on ot ab be zA zB zC zD zF zT fo lw hg at_ tl th wo wl wh is_ lo_ hi_ di su an (nI k)) (cwV 1 hts gX8_quotient_X8_isProgram rfl rfl rfl (by decide +kernel) ⟨Nat.le_of_ble_eq_true rfl, Nat.le_of_ble_eq_true rfl⟩) (gP_VA hP hD hK 0 rfl rfl) rfl rfl hl.1 rfl (lv_room (Nat.le_of_ble_eq_true rfl)) dX8_quotient_2 ⟨Nat.zero_le _, Nat.zero_le _⟩) ?_
  refine lv_istore (lv' := [(4, .int (gB (sp_X8_isProgram pn (nI k)))), (0, .ref h), (1, .int (nI k)), (2, .int (nI p)), (3, .int (nI d))]) hx hb dX8_quotient_5 hl (by decide) rfl (fun ls hl => ?_)
  refine lv_iload hx hb dX8_quotient_7 (lv_at hl 0 rfl) ?_
  refine g_beq (tgt := 33) hx hb dX8_quotient_9 (by decide) (fun c_9 => absurd (g_isP hk hpn) c_9) (fun c_9 => ?_)
  refine lv_iload_n hx hb dX8_quotient_12 rfl (lv_at hl 3 rfl) ?_
  refine g_callR (v0 := .int (gB (sp_X8_isPlace (nI p)))) (va_runS (As := [.int (nI p)]) (rest := []) ⟨hx, hb, hml, hown, hts⟩ (c_X8_isPlace l D y s.heap.size (nI p)) (va_cwS 1 hts gX8_quotient_X8_isPlace rfl rfl rfl (by decide +kernel) ⟨Nat.le_of_ble_eq_true rfl, Nat.le_of_ble_eq_true rfl⟩) (gP_S hP hD hK [] (by decide) rfl) rfl rfl hl.1 rfl (lv_room (Nat.le_of_ble_eq_true rfl)) dX8_quotient_13 ⟨Nat.zero_le _, Nat.zero_le _⟩) ?_
  refine g_beq (tgt := 33) hx hb dX8_quotient_16 (by decide) (fun c_16 => absurd (g_isPl hp) c_16) (fun c_16 => ?_)
  refine lv_iload_n hx hb dX8_quotient_19 rfl (lv_at hl 4 rfl) ?_
  refine lv_iconst (v := 0) hx hb dX8_quotient_20 (by decide) ?_
  refine lv_bipush (v := 24) hx hb dX8_quotient_21 (by decide) ?_
  refine g_callR (v0 := .int (gB (sp_X8_in (nI d) 0 24))) (va_runS (As := [.int (nI d), .int 0, .int 24]) (rest := []) ⟨hx, hb, hml, hown, hts⟩ (c_X8_in l D y s.heap.size (nI d) 0 24) (va_cwS 3 hts gX8_quotient_X8_in rfl rfl rfl (by decide +kernel) ⟨Nat.le_of_ble_eq_true rfl, Nat.le_of_ble_eq_true rfl⟩) (gP_S hP hD hK [] (by decide) rfl) rfl rfl hl.1 rfl (lv_room (Nat.le_of_ble_eq_true rfl)) dX8_quotient_23 ⟨Nat.zero_le _, Nat.zero_le _⟩) ?_
  refine g_beq (tgt := 33) hx hb dX8_quotient_26 (by decide) (fun c_26 => absurd (g_in24 hd) c_26) (fun c_26 => ?_)
  refine lv_iconst (v := 1) hx hb dX8_quotient_29 (by decide) ?_
  refine lv_goto (tgt := 34) hx hb dX8_quotient_30 (by decide) ?_
  refine lv_istore (lv' := [(5, .int 1), (4, .int (gB (sp_X8_isProgram pn (nI k)))), (0, .ref h), (1, .int (nI k)), (2, .int (nI p)), (3, .int (nI d))]) hx hb dX8_quotient_34 hl (by decide) rfl (fun ls hl => ?_)
  refine lv_aload_n hx hb dX8_quotient_36 rfl (lv_at hl 2 rfl) ?_
  refine lv_iload hx hb dX8_quotient_37 (lv_at hl 1 rfl) ?_
  refine g_bne (tgt := 46) hx hb dX8_quotient_39 (by decide) (fun c_39 => ?_) (fun c_39 => absurd (g_isP hk hpn) c_39)
  refine lv_iload hx hb dX8_quotient_46 (lv_at hl 0 rfl) ?_
  refine lv_if_ne (tgt := 55) hx hb dX8_quotient_48 (by decide) (fun c_48 => ?_) (fun c_48 => absurd c_48 (by decide))
  refine lv_aload_n hx hb dX8_quotient_55 rfl (lv_at hl 2 rfl) ?_
  refine va_get (D := D) (ci := 6) (v := .ref (q 16)) (C := RX8) (T := TX8) (N := 28) hx hb hts in_X8_quotient_X8 hown hK.1 hP 0 rfl rfl 16 (by decide) (hts (.fieldLink RX8 54 "NestlimitModel" "areTold" "[Z") (List.mem_of_getElem? (i := 1) rfl)) (fun _ h9 => h9) rfl dX8_quotient_56 ?_
  refine lv_bipush (v := 25) hx hb dX8_quotient_59 (by decide) ?_
  refine lv_iload_n hx hb dX8_quotient_61 rfl (lv_at hl 3 rfl) ?_
  refine lv_imul hx hb dX8_quotient_62 ?_
  refine g_topi (pk_mul 25 k) ?_
  refine lv_iload_n hx hb dX8_quotient_63 rfl (lv_at hl 4 rfl) ?_
  refine lv_iadd hx hb dX8_quotient_64 ?_
  refine g_topi (nI_add (25 * k) p) ?_
  refine g_zald (k := (25 * k) + p) hx hb hK.1 hP 15 2 rfl rfl (by omega) (by decide) dX8_quotient_65 ?_
  refine g_beq (tgt := 73) hx hb dX8_quotient_66 (by decide) (fun c_66 => absurd hf c_66) (fun c_66 => ?_)
  refine lv_iconst (v := 0) hx hb dX8_quotient_69 (by decide) ?_
  refine lv_goto (tgt := 74) hx hb dX8_quotient_70 (by decide) ?_
  refine g_callA1 (v0 := .int (gB (sp_X8_holds 0))) (w0 := wM y h q 0 pn ki on ot ab be zA zB zC zD zF zT fo lw hg at_ tl th wo wl wh is_ lo_ hi_ di su an) (va_runV (As := [.int 0]) (rest := []) ⟨hx, hb, hml, hown, hts⟩ (c_X8_holds l D y s.heap.size h q tw pn ki on ot ab be zA zB zC zD zF zT fo lw hg at_ tl th wo wl wh is_ lo_ hi_ di su an 0) (cwV 1 hts gX8_quotient_X8_holds rfl rfl rfl (by decide +kernel) ⟨Nat.le_of_ble_eq_true rfl, Nat.le_of_ble_eq_true rfl⟩) (gP_VA hP hD hK 0 rfl rfl) rfl rfl hl.1 rfl (lv_room (Nat.le_of_ble_eq_true rfl)) dX8_quotient_74 ⟨Nat.zero_le _, Nat.zero_le _⟩) hP hD hS hA rfl (fun H locs hP hD hS => ?_)
  refine g_bne (tgt := 82) hx hb dX8_quotient_77 (by decide) (fun c_77 => ?_) (fun c_77 => absurd (by decide) c_77)
  refine lv_aload_n hx hb dX8_quotient_82 rfl (lv_at hl 2 rfl) ?_
  refine va_get (D := D) (ci := 6) (v := .ref (q 17)) (C := RX8) (T := TX8) (N := 28) hx hb hts in_X8_quotient_X8 hown hK.1 hP 0 rfl rfl 17 (by decide) (hts (.fieldLink RX8 57 "NestlimitModel" "toldLow" "[J") (List.mem_of_getElem? (i := 2) rfl)) (fun _ h9 => h9) rfl dX8_quotient_83 ?_
  refine lv_bipush (v := 25) hx hb dX8_quotient_86 (by decide) ?_
  refine lv_iload_n hx hb dX8_quotient_88 rfl (lv_at hl 3 rfl) ?_
  refine lv_imul hx hb dX8_quotient_89 ?_
  refine g_topi (pk_mul 25 k) ?_
  refine lv_iload_n hx hb dX8_quotient_90 rfl (lv_at hl 4 rfl) ?_
  refine lv_iadd hx hb dX8_quotient_91 ?_
  refine g_topi (nI_add (25 * k) p) ?_
  refine g_lald (k := (25 * k) + p) hx hb hK.1 hP 16 1 rfl rfl (by omega) (by decide) dX8_quotient_92 ?_
  refine lv_lstore (lv' := [(6, .long (tl ((25 * k) + p))), (5, .int 1), (4, .int (gB (sp_X8_isProgram pn (nI k)))), (0, .ref h), (1, .int (nI k)), (2, .int (nI p)), (3, .int (nI d))]) hx hb dX8_quotient_93 hl (by decide) rfl (fun ls hl => ?_)
  refine lv_lconst (v := 1) hx hb dX8_quotient_95 (by decide) ?_
  refine lv_iload_n hx hb dX8_quotient_96 rfl (lv_at hl 5 rfl) ?_
  refine lv_lshl (v := jshl 1 (nI p)) hx hb dX8_quotient_97 rfl ?_
  refine lv_lstore (lv' := [(8, .long (jshl 1 (nI p))), (6, .long (tl ((25 * k) + p))), (5, .int 1), (4, .int (gB (sp_X8_isProgram pn (nI k)))), (0, .ref h), (1, .int (nI k)), (2, .int (nI p)), (3, .int (nI d))]) hx hb dX8_quotient_98 hl (by decide) rfl (fun ls hl => ?_)
  refine lv_aload_n hx hb dX8_quotient_100 rfl (lv_at hl 4 rfl) ?_
  refine va_get (D := D) (ci := 6) (v := .ref (q 18)) (C := RX8) (T := TX8) (N := 28) hx hb hts in_X8_quotient_X8 hown hK.1 hP 0 rfl rfl 18 (by decide) (hts (.fieldLink RX8 60 "NestlimitModel" "toldHigh" "[J") (List.mem_of_getElem? (i := 3) rfl)) (fun _ h9 => h9) rfl dX8_quotient_101 ?_
  refine lv_bipush (v := 25) hx hb dX8_quotient_104 (by decide) ?_
  refine lv_iload_n hx hb dX8_quotient_106 rfl (lv_at hl 5 rfl) ?_
  refine lv_imul hx hb dX8_quotient_107 ?_
  refine g_topi (pk_mul 25 k) ?_
  refine lv_iload_n hx hb dX8_quotient_108 rfl (lv_at hl 6 rfl) ?_
  refine lv_iadd hx hb dX8_quotient_109 ?_
  refine g_topi (nI_add (25 * k) p) ?_
  refine g_lald (k := (25 * k) + p) hx hb hK.1 hP 17 1 rfl rfl (by omega) (by decide) dX8_quotient_110 ?_
  refine lv_lstore (lv' := [(10, .long (th ((25 * k) + p))), (8, .long (jshl 1 (nI p))), (6, .long (tl ((25 * k) + p))), (5, .int 1), (4, .int (gB (sp_X8_isProgram pn (nI k)))), (0, .ref h), (1, .int (nI k)), (2, .int (nI p)), (3, .int (nI d))]) hx hb dX8_quotient_111 hl (by decide) rfl (fun ls hl => ?_)
  refine lv_lload hx hb dX8_quotient_113 (lv_at hl 1 rfl) ?_
  refine lv_lstore (lv' := [(12, .long (jshl 1 (nI p))), (10, .long (th ((25 * k) + p))), (8, .long (jshl 1 (nI p))), (6, .long (tl ((25 * k) + p))), (5, .int 1), (4, .int (gB (sp_X8_isProgram pn (nI k)))), (0, .ref h), (1, .int (nI k)), (2, .int (nI p)), (3, .int (nI d))]) hx hb dX8_quotient_115 hl (by decide) rfl (fun ls hl => ?_)
  refine lv_lload hx hb dX8_quotient_117 (lv_at hl 3 rfl) ?_
  refine lv_lload hx hb dX8_quotient_119 (lv_at hl 2 rfl) ?_
  refine g_callR (v0 := .long (sp_X8_cut (tl ((25 * k) + p)) (jshl 1 (nI p)))) (va_runS (As := [.long (tl ((25 * k) + p)), .long (jshl 1 (nI p))]) (rest := []) ⟨hx, hb, hml, hown, hts⟩ (c_X8_cut l D y H.size (tl ((25 * k) + p)) (jshl 1 (nI p)) (gU_ne (by omega))) (va_cwS 2 hts gX8_quotient_X8_cut rfl rfl rfl (by decide +kernel) ⟨Nat.le_of_ble_eq_true rfl, Nat.le_of_ble_eq_true rfl⟩) (gP_S hP hD hK [] (by decide) rfl) rfl rfl hl.1 rfl (lv_room (Nat.le_of_ble_eq_true rfl)) dX8_quotient_121 ⟨Nat.zero_le _, Nat.zero_le _⟩) ?_
  refine lv_lstore (lv' := [(14, .long (sp_X8_cut (tl ((25 * k) + p)) (jshl 1 (nI p)))), (12, .long (jshl 1 (nI p))), (10, .long (th ((25 * k) + p))), (8, .long (jshl 1 (nI p))), (6, .long (tl ((25 * k) + p))), (5, .int 1), (4, .int (gB (sp_X8_isProgram pn (nI k)))), (0, .ref h), (1, .int (nI k)), (2, .int (nI p)), (3, .int (nI d))]) hx hb dX8_quotient_124 hl (by decide) rfl (fun ls hl => ?_)
  refine lv_lload hx hb dX8_quotient_126 (lv_at hl 0 rfl) ?_
  refine lv_lload hx hb dX8_quotient_128 (lv_at hl 2 rfl) ?_
  refine lv_lload hx hb dX8_quotient_130 (lv_at hl 1 rfl) ?_
  refine g_callR (v0 := .long (sp_X8_cut (th ((25 * k) + p)) (jshl 1 (nI p)))) (va_runS (As := [.long (th ((25 * k) + p)), .long (jshl 1 (nI p))]) (rest := [.long (sp_X8_cut (tl ((25 * k) + p)) (jshl 1 (nI p)))]) ⟨hx, hb, hml, hown, hts⟩ (c_X8_cut l D y H.size (th ((25 * k) + p)) (jshl 1 (nI p)) (gU_ne (by omega))) (va_cwS 2 hts gX8_quotient_X8_cut rfl rfl rfl (by decide +kernel) ⟨Nat.le_of_ble_eq_true rfl, Nat.le_of_ble_eq_true rfl⟩) (gP_S hP hD hK [] (by decide) rfl) rfl rfl hl.1 rfl (lv_room (Nat.le_of_ble_eq_true rfl)) dX8_quotient_132 ⟨Nat.zero_le _, Nat.zero_le _⟩) ?_
  refine g_ne (tgt := 143) hx hb dX8_quotient_135 dX8_quotient_136 (by decide) (fun c_135 => ?_) (fun c_135 => ?_)
  · skip
    refine lv_iconst (v := 0) hx hb dX8_quotient_143 (by decide) ?_
    refine lv_istore (lv' := [(16, .int 0), (14, .long (sp_X8_cut (tl ((25 * k) + p)) (jshl 1 (nI p)))), (12, .long (jshl 1 (nI p))), (10, .long (th ((25 * k) + p))), (8, .long (jshl 1 (nI p))), (6, .long (tl ((25 * k) + p))), (5, .int 1), (4, .int (gB (sp_X8_isProgram pn (nI k)))), (0, .ref h), (1, .int (nI k)), (2, .int (nI p)), (3, .int (nI d))]) hx hb dX8_quotient_144 hl (by decide) rfl (fun ls hl => ?_)
    refine lv_iconst (v := 0) hx hb dX8_quotient_146 (by decide) ?_
    refine lv_istore (lv' := [(17, .int 0), (16, .int 0), (14, .long (sp_X8_cut (tl ((25 * k) + p)) (jshl 1 (nI p)))), (12, .long (jshl 1 (nI p))), (10, .long (th ((25 * k) + p))), (8, .long (jshl 1 (nI p))), (6, .long (tl ((25 * k) + p))), (5, .int 1), (4, .int (gB (sp_X8_isProgram pn (nI k)))), (0, .ref h), (1, .int (nI k)), (2, .int (nI p)), (3, .int (nI d))]) hx hb dX8_quotient_147 hl (by decide) rfl (fun ls hl => ?_)
    have LOOP149 : ∀ (n : Nat) (j : Nat) (P : Int64) (Q : Int64) (R9 : Int64) (S9 : Int64) (T9 : Int64) (sr : Bool), (j + n = d) → (quF n P Q R9 S9 T9 sr = quR tl th k p d) → ∀ (H : Heap) (locs : List Loc), va_P D vwCl (wM y h q 0 pn ki on ot ab be zA zB zC zD zF zT fo lw hg at_ tl th wo wl wh is_ lo_ hi_ di su an) H → va_D A (wM y h q 0 pn ki on ot ab be zA zB zC zD zF zT fo lw hg at_ tl th wo wl wh is_ lo_ hi_ di su an) → va_S A s.heap H locs → ∀ (ls : Array Slot), lv_has ls 22 [(0, .ref h), (1, .int (nI k)), (2, .int (nI p)), (3, .int (nI d)), (6, .long P), (8, .long Q), (10, .long R9), (12, .long S9), (14, .long T9), (16, .int (gB sr)), (17, .int (nI j))] → W pg l e (headSpec wsX8_quotient ({ frames := 2, cells := 0, slots := 0, locals := 43 } : Room)).room s m (([.ref h, .int (nI k), .int (nI p), .int (nI d)] : List Value).toArray) below meth c H locs 0 0 (MQ below (gQ D (wM y h q tw pn ki on ot ab be zA zB zC zD zF zT fo lw hg at_ tl th wo wl wh is_ lo_ hi_ di su an) (gF (some (.int 0)) (wM y h q 3 pn ki on ot ab be zA zB zC zD zF zT fo lw hg at_ tl th wo wl wh is_ lo_ hi_ di su an))) (([.ref h, .int (nI k), .int (nI p), .int (nI d)] : List Value).toArray) s 0 0 (va_A (wM y h q tw pn ki on ot ab be zA zB zC zD zF zT fo lw hg at_ tl th wo wl wh is_ lo_ hi_ di su an) s.heap.size)) (F0 m 149 ls []) := by
      intro n
      induction n with
      | zero =>
        intro j P Q R9 S9 T9 sr hj hF H locs hP hD hS ls hl
        refine lv_iload hx hb dX8_quotient_149 (lv_at hl 10 rfl) ?_
        refine lv_iload_n hx hb dX8_quotient_151 rfl (lv_at hl 3 rfl) ?_
        refine lv_icmp_ge (tgt := 257) hx hb dX8_quotient_152 (by decide) (fun c_152 => ?_) (fun c_152 => absurd (nI_le (by omega) (by omega)) c_152)
        have hR9 : (sr, T9) = quR tl th k p d := hF
        have e16 : sr = (quR tl th k p d).1 := congrArg Prod.fst hR9
        have e14 : T9 = (quR tl th k p d).2 := congrArg Prod.snd hR9
        rw [e16, e14] at hl
        refine lv_aload_n hx hb dX8_quotient_257 rfl (lv_at hl 0 rfl) ?_
        refine lv_iload hx hb dX8_quotient_258 (lv_at hl 9 rfl) ?_
        refine g_beq (tgt := 267) hx hb dX8_quotient_260 (by decide) (fun c_260 => ?_) (fun c_260 => absurd c_260 hs)
        refine lv_iconst (v := 3) hx hb dX8_quotient_267 (by decide) ?_
        refine g_callA1 (v0 := .int (gB (sp_X8_holds 3))) (w0 := wM y h q 3 pn ki on ot ab be zA zB zC zD zF zT fo lw hg at_ tl th wo wl wh is_ lo_ hi_ di su an) (va_runV (As := [.int 3]) (rest := []) ⟨hx, hb, hml, hown, hts⟩ (c_X8_holds l D y H.size h q 0 pn ki on ot ab be zA zB zC zD zF zT fo lw hg at_ tl th wo wl wh is_ lo_ hi_ di su an 3) (cwV 1 hts gX8_quotient_X8_holds rfl rfl rfl (by decide +kernel) ⟨Nat.le_of_ble_eq_true rfl, Nat.le_of_ble_eq_true rfl⟩) (gP_VA hP hD hK 0 rfl rfl) rfl rfl hl.1 rfl (lv_room (Nat.le_of_ble_eq_true rfl)) dX8_quotient_268 ⟨Nat.zero_le _, Nat.zero_le _⟩) hP hD hS hA rfl (fun H locs hP hD hS => ?_)
        refine g_beq (tgt := 280) hx hb dX8_quotient_271 (by decide) (fun c_271 => ?_) (fun c_271 => absurd c_271 (by decide))
        refine lv_iconst (v := 0) hx hb dX8_quotient_280 (by decide) ?_
        exact W.iret (v := 0) hx hb hr (fun t ht hW => ⟨⟨_, wM y h q 3 pn ki on ot ab be zA zB zC zD zF zT fo lw hg at_ tl th wo wl wh is_ lo_ hi_ di su an, rfl, ⟨congrArg (fun z => some (Value.int z)) (rfl), rfl⟩, rfl, by rw [ht]; exact hP⟩, by rw [← hAe]; exact hS.F ht⟩) (by rw [← hAe]; exact hS.2.2) dX8_quotient_281
      | succ n ih149 =>
        intro j P Q R9 S9 T9 sr hj hF H locs hP hD hS ls hl
        refine lv_iload hx hb dX8_quotient_149 (lv_at hl 10 rfl) ?_
        refine lv_iload_n hx hb dX8_quotient_151 rfl (lv_at hl 3 rfl) ?_
        refine lv_icmp_ge (tgt := 257) hx hb dX8_quotient_152 (by decide) (fun c_152 => absurd c_152 (nI_ge (by omega) (by omega))) (fun c_152 => ?_)
        refine lv_iload hx hb dX8_quotient_155 (lv_at hl 9 rfl) ?_
        refine g_beq (tgt := 257) hx hb dX8_quotient_157 (by decide) (fun c_157 => ?_) (fun c_157 => ?_)
        · skip
          have hR9 : (sr, T9) = quR tl th k p d := by rw [← hF]; show _ = (if _ then _ else _); rw [if_neg c_157]
          have e16 : sr = (quR tl th k p d).1 := congrArg Prod.fst hR9
          have e14 : T9 = (quR tl th k p d).2 := congrArg Prod.snd hR9
          rw [e16, e14] at hl
          refine lv_aload_n hx hb dX8_quotient_257 rfl (lv_at hl 0 rfl) ?_
          refine lv_iload hx hb dX8_quotient_258 (lv_at hl 9 rfl) ?_
          refine g_beq (tgt := 267) hx hb dX8_quotient_260 (by decide) (fun c_260 => ?_) (fun c_260 => absurd c_260 hs)
          refine lv_iconst (v := 3) hx hb dX8_quotient_267 (by decide) ?_
          refine g_callA1 (v0 := .int (gB (sp_X8_holds 3))) (w0 := wM y h q 3 pn ki on ot ab be zA zB zC zD zF zT fo lw hg at_ tl th wo wl wh is_ lo_ hi_ di su an) (va_runV (As := [.int 3]) (rest := []) ⟨hx, hb, hml, hown, hts⟩ (c_X8_holds l D y H.size h q 0 pn ki on ot ab be zA zB zC zD zF zT fo lw hg at_ tl th wo wl wh is_ lo_ hi_ di su an 3) (cwV 1 hts gX8_quotient_X8_holds rfl rfl rfl (by decide +kernel) ⟨Nat.le_of_ble_eq_true rfl, Nat.le_of_ble_eq_true rfl⟩) (gP_VA hP hD hK 0 rfl rfl) rfl rfl hl.1 rfl (lv_room (Nat.le_of_ble_eq_true rfl)) dX8_quotient_268 ⟨Nat.zero_le _, Nat.zero_le _⟩) hP hD hS hA rfl (fun H locs hP hD hS => ?_)
          refine g_beq (tgt := 280) hx hb dX8_quotient_271 (by decide) (fun c_271 => ?_) (fun c_271 => absurd c_271 (by decide))
          refine lv_iconst (v := 0) hx hb dX8_quotient_280 (by decide) ?_
          exact W.iret (v := 0) hx hb hr (fun t ht hW => ⟨⟨_, wM y h q 3 pn ki on ot ab be zA zB zC zD zF zT fo lw hg at_ tl th wo wl wh is_ lo_ hi_ di su an, rfl, ⟨congrArg (fun z => some (Value.int z)) (rfl), rfl⟩, rfl, by rw [ht]; exact hP⟩, by rw [← hAe]; exact hS.F ht⟩) (by rw [← hAe]; exact hS.2.2) dX8_quotient_281
        · skip
          refine lv_lload hx hb dX8_quotient_160 (lv_at hl 4 rfl) ?_
          refine lv_lload hx hb dX8_quotient_162 (lv_at hl 8 rfl) ?_
          refine lv_lload hx hb dX8_quotient_164 (lv_at hl 5 rfl) ?_
          refine lv_lmul hx hb dX8_quotient_166 ?_
          refine lv_lsub hx hb dX8_quotient_167 ?_
          refine lv_lstore (lv' := [(18, .long (P - (T9 * Q))), (0, .ref h), (1, .int (nI k)), (2, .int (nI p)), (3, .int (nI d)), (6, .long P), (8, .long Q), (10, .long R9), (12, .long S9), (14, .long T9), (16, .int (gB sr)), (17, .int (nI j))]) hx hb dX8_quotient_168 hl (by decide) rfl (fun ls hl => ?_)
          refine lv_lload hx hb dX8_quotient_170 (lv_at hl 7 rfl) ?_
          refine lv_lload hx hb dX8_quotient_172 (lv_at hl 9 rfl) ?_
          refine lv_lload hx hb dX8_quotient_174 (lv_at hl 8 rfl) ?_
          refine lv_lmul hx hb dX8_quotient_176 ?_
          refine lv_lsub hx hb dX8_quotient_177 ?_
          refine lv_lstore (lv' := [(20, .long (R9 - (T9 * S9))), (18, .long (P - (T9 * Q))), (0, .ref h), (1, .int (nI k)), (2, .int (nI p)), (3, .int (nI d)), (6, .long P), (8, .long Q), (10, .long R9), (12, .long S9), (14, .long T9), (16, .int (gB sr)), (17, .int (nI j))]) hx hb dX8_quotient_178 hl (by decide) rfl (fun ls hl => ?_)
          refine lv_lload hx hb dX8_quotient_180 (lv_at hl 1 rfl) ?_
          refine lv_lconst (v := 0) hx hb dX8_quotient_182 (by decide) ?_
          refine g_le (tgt := 198) hx hb dX8_quotient_183 dX8_quotient_184 (by decide) (fun c_183 => ?_) (fun c_183 => ?_)
          · skip
            refine lv_iconst (v := 0) hx hb dX8_quotient_198 (by decide) ?_
            refine lv_istore (lv' := [(16, .int 0), (20, .long (R9 - (T9 * S9))), (18, .long (P - (T9 * Q))), (0, .ref h), (1, .int (nI k)), (2, .int (nI p)), (3, .int (nI d)), (6, .long P), (8, .long Q), (10, .long R9), (12, .long S9), (14, .long T9), (17, .int (nI j))]) hx hb dX8_quotient_199 hl (by decide) rfl (fun ls hl => ?_)
            refine lv_iload hx hb dX8_quotient_201 (lv_at hl 0 rfl) ?_
            refine lv_if_eq (tgt := 251) hx hb dX8_quotient_203 (by decide) (fun c_203 => ?_) (fun c_203 => absurd c_203 (by decide))
            refine lv_iinc (v := nI (j + 1)) (lv' := [(17, .int (nI (j + 1))), (16, .int 0), (20, .long (R9 - (T9 * S9))), (18, .long (P - (T9 * Q))), (0, .ref h), (1, .int (nI k)), (2, .int (nI p)), (3, .int (nI d)), (6, .long P), (8, .long Q), (10, .long R9), (12, .long S9), (14, .long T9)]) hx hb dX8_quotient_251 hl (k := 12) rfl (nI_add j 1) (by decide) rfl (fun ls hl => ?_)
            refine lv_goto (tgt := 149) hx hb dX8_quotient_254 (by decide) ?_
            exact ih149 (j + 1) P Q R9 S9 T9 false (by omega) (by rw [← hF]; show _ = (if _ then _ else _); rw [if_pos c_157]; simp only [if_pos c_183]) _ _ hP hD hS ls (lv_sub hl [4, 5, 6, 7, 8, 9, 10, 11, 12, 1, 0] rfl)
          · skip
            refine lv_lload hx hb dX8_quotient_187 (lv_at hl 0 rfl) ?_
            refine lv_lconst (v := 0) hx hb dX8_quotient_189 (by decide) ?_
            refine g_le (tgt := 198) hx hb dX8_quotient_190 dX8_quotient_191 (by decide) (fun c_190 => ?_) (fun c_190 => ?_)
            · skip
              refine lv_iconst (v := 0) hx hb dX8_quotient_198 (by decide) ?_
              refine lv_istore (lv' := [(16, .int 0), (20, .long (R9 - (T9 * S9))), (18, .long (P - (T9 * Q))), (0, .ref h), (1, .int (nI k)), (2, .int (nI p)), (3, .int (nI d)), (6, .long P), (8, .long Q), (10, .long R9), (12, .long S9), (14, .long T9), (17, .int (nI j))]) hx hb dX8_quotient_199 hl (by decide) rfl (fun ls hl => ?_)
              refine lv_iload hx hb dX8_quotient_201 (lv_at hl 0 rfl) ?_
              refine lv_if_eq (tgt := 251) hx hb dX8_quotient_203 (by decide) (fun c_203 => ?_) (fun c_203 => absurd c_203 (by decide))
              refine lv_iinc (v := nI (j + 1)) (lv' := [(17, .int (nI (j + 1))), (16, .int 0), (20, .long (R9 - (T9 * S9))), (18, .long (P - (T9 * Q))), (0, .ref h), (1, .int (nI k)), (2, .int (nI p)), (3, .int (nI d)), (6, .long P), (8, .long Q), (10, .long R9), (12, .long S9), (14, .long T9)]) hx hb dX8_quotient_251 hl (k := 12) rfl (nI_add j 1) (by decide) rfl (fun ls hl => ?_)
              refine lv_goto (tgt := 149) hx hb dX8_quotient_254 (by decide) ?_
              exact ih149 (j + 1) P Q R9 S9 T9 false (by omega) (by rw [← hF]; show _ = (if _ then _ else _); rw [if_pos c_157]; simp only [if_neg c_183, if_pos c_190]) _ _ hP hD hS ls (lv_sub hl [4, 5, 6, 7, 8, 9, 10, 11, 12, 1, 0] rfl)
            · skip
              refine lv_iconst (v := 1) hx hb dX8_quotient_194 (by decide) ?_
              refine lv_goto (tgt := 199) hx hb dX8_quotient_195 (by decide) ?_
              refine lv_istore (lv' := [(16, .int 1), (20, .long (R9 - (T9 * S9))), (18, .long (P - (T9 * Q))), (0, .ref h), (1, .int (nI k)), (2, .int (nI p)), (3, .int (nI d)), (6, .long P), (8, .long Q), (10, .long R9), (12, .long S9), (14, .long T9), (17, .int (nI j))]) hx hb dX8_quotient_199 hl (by decide) rfl (fun ls hl => ?_)
              refine lv_iload hx hb dX8_quotient_201 (lv_at hl 0 rfl) ?_
              refine lv_if_eq (tgt := 251) hx hb dX8_quotient_203 (by decide) (fun c_203 => absurd c_203 (by decide)) (fun c_203 => ?_)
              refine lv_lload hx hb dX8_quotient_206 (lv_at hl 8 rfl) ?_
              refine lv_lstore (lv' := [(6, .long Q), (16, .int 1), (20, .long (R9 - (T9 * S9))), (18, .long (P - (T9 * Q))), (0, .ref h), (1, .int (nI k)), (2, .int (nI p)), (3, .int (nI d)), (8, .long Q), (10, .long R9), (12, .long S9), (14, .long T9), (17, .int (nI j))]) hx hb dX8_quotient_208 hl (by decide) rfl (fun ls hl => ?_)
              refine lv_lload hx hb dX8_quotient_210 (lv_at hl 3 rfl) ?_
              refine lv_lstore (lv' := [(8, .long (P - (T9 * Q))), (6, .long Q), (16, .int 1), (20, .long (R9 - (T9 * S9))), (18, .long (P - (T9 * Q))), (0, .ref h), (1, .int (nI k)), (2, .int (nI p)), (3, .int (nI d)), (10, .long R9), (12, .long S9), (14, .long T9), (17, .int (nI j))]) hx hb dX8_quotient_212 hl (by decide) rfl (fun ls hl => ?_)
              refine lv_lload hx hb dX8_quotient_214 (lv_at hl 10 rfl) ?_
              refine lv_lstore (lv' := [(10, .long S9), (8, .long (P - (T9 * Q))), (6, .long Q), (16, .int 1), (20, .long (R9 - (T9 * S9))), (18, .long (P - (T9 * Q))), (0, .ref h), (1, .int (nI k)), (2, .int (nI p)), (3, .int (nI d)), (12, .long S9), (14, .long T9), (17, .int (nI j))]) hx hb dX8_quotient_216 hl (by decide) rfl (fun ls hl => ?_)
              refine lv_lload hx hb dX8_quotient_218 (lv_at hl 4 rfl) ?_
              refine lv_lstore (lv' := [(12, .long (R9 - (T9 * S9))), (10, .long S9), (8, .long (P - (T9 * Q))), (6, .long Q), (16, .int 1), (20, .long (R9 - (T9 * S9))), (18, .long (P - (T9 * Q))), (0, .ref h), (1, .int (nI k)), (2, .int (nI p)), (3, .int (nI d)), (14, .long T9), (17, .int (nI j))]) hx hb dX8_quotient_220 hl (by decide) rfl (fun ls hl => ?_)
              refine lv_lload hx hb dX8_quotient_222 (lv_at hl 3 rfl) ?_
              refine lv_lload hx hb dX8_quotient_224 (lv_at hl 2 rfl) ?_
              refine g_callR (v0 := .long (sp_X8_cut Q (P - (T9 * Q)))) (va_runS (As := [.long Q, .long (P - (T9 * Q))]) (rest := []) ⟨hx, hb, hml, hown, hts⟩ (c_X8_cut l D y H.size Q (P - (T9 * Q)) (g_ne0 c_183)) (va_cwS 2 hts gX8_quotient_X8_cut rfl rfl rfl (by decide +kernel) ⟨Nat.le_of_ble_eq_true rfl, Nat.le_of_ble_eq_true rfl⟩) (gP_S hP hD hK [] (by decide) rfl) rfl rfl hl.1 rfl (lv_room (Nat.le_of_ble_eq_true rfl)) dX8_quotient_226 ⟨Nat.zero_le _, Nat.zero_le _⟩) ?_
              refine lv_lstore (lv' := [(14, .long (sp_X8_cut Q (P - (T9 * Q)))), (12, .long (R9 - (T9 * S9))), (10, .long S9), (8, .long (P - (T9 * Q))), (6, .long Q), (16, .int 1), (20, .long (R9 - (T9 * S9))), (18, .long (P - (T9 * Q))), (0, .ref h), (1, .int (nI k)), (2, .int (nI p)), (3, .int (nI d)), (17, .int (nI j))]) hx hb dX8_quotient_229 hl (by decide) rfl (fun ls hl => ?_)
              refine lv_lload hx hb dX8_quotient_231 (lv_at hl 0 rfl) ?_
              refine lv_lload hx hb dX8_quotient_233 (lv_at hl 2 rfl) ?_
              refine lv_lload hx hb dX8_quotient_235 (lv_at hl 1 rfl) ?_
              refine g_callR (v0 := .long (sp_X8_cut S9 (R9 - (T9 * S9)))) (va_runS (As := [.long S9, .long (R9 - (T9 * S9))]) (rest := [.long (sp_X8_cut Q (P - (T9 * Q)))]) ⟨hx, hb, hml, hown, hts⟩ (c_X8_cut l D y H.size S9 (R9 - (T9 * S9)) (g_ne0 c_190)) (va_cwS 2 hts gX8_quotient_X8_cut rfl rfl rfl (by decide +kernel) ⟨Nat.le_of_ble_eq_true rfl, Nat.le_of_ble_eq_true rfl⟩) (gP_S hP hD hK [] (by decide) rfl) rfl rfl hl.1 rfl (lv_room (Nat.le_of_ble_eq_true rfl)) dX8_quotient_237 ⟨Nat.zero_le _, Nat.zero_le _⟩) ?_
              refine g_ne (tgt := 248) hx hb dX8_quotient_240 dX8_quotient_241 (by decide) (fun c_240 => ?_) (fun c_240 => ?_)
              · skip
                refine lv_iconst (v := 0) hx hb dX8_quotient_248 (by decide) ?_
                refine lv_istore (lv' := [(16, .int 0), (14, .long (sp_X8_cut Q (P - (T9 * Q)))), (12, .long (R9 - (T9 * S9))), (10, .long S9), (8, .long (P - (T9 * Q))), (6, .long Q), (20, .long (R9 - (T9 * S9))), (18, .long (P - (T9 * Q))), (0, .ref h), (1, .int (nI k)), (2, .int (nI p)), (3, .int (nI d)), (17, .int (nI j))]) hx hb dX8_quotient_249 hl (by decide) rfl (fun ls hl => ?_)
                refine lv_iinc (v := nI (j + 1)) (lv' := [(17, .int (nI (j + 1))), (16, .int 0), (14, .long (sp_X8_cut Q (P - (T9 * Q)))), (12, .long (R9 - (T9 * S9))), (10, .long S9), (8, .long (P - (T9 * Q))), (6, .long Q), (20, .long (R9 - (T9 * S9))), (18, .long (P - (T9 * Q))), (0, .ref h), (1, .int (nI k)), (2, .int (nI p)), (3, .int (nI d))]) hx hb dX8_quotient_251 hl (k := 12) rfl (nI_add j 1) (by decide) rfl (fun ls hl => ?_)
                refine lv_goto (tgt := 149) hx hb dX8_quotient_254 (by decide) ?_
                exact ih149 (j + 1) Q (P - (T9 * Q)) S9 (R9 - (T9 * S9)) (sp_X8_cut Q (P - (T9 * Q))) false (by omega) (by rw [← hF]; show _ = (if _ then _ else _); rw [if_pos c_157]; simp only [if_neg c_183, if_neg c_190, if_neg c_240]) _ _ hP hD hS ls (lv_sub hl [9, 10, 11, 12, 6, 5, 4, 3, 2, 1, 0] rfl)
              · skip
                refine lv_iconst (v := 1) hx hb dX8_quotient_244 (by decide) ?_
                refine lv_goto (tgt := 249) hx hb dX8_quotient_245 (by decide) ?_
                refine lv_istore (lv' := [(16, .int 1), (14, .long (sp_X8_cut Q (P - (T9 * Q)))), (12, .long (R9 - (T9 * S9))), (10, .long S9), (8, .long (P - (T9 * Q))), (6, .long Q), (20, .long (R9 - (T9 * S9))), (18, .long (P - (T9 * Q))), (0, .ref h), (1, .int (nI k)), (2, .int (nI p)), (3, .int (nI d)), (17, .int (nI j))]) hx hb dX8_quotient_249 hl (by decide) rfl (fun ls hl => ?_)
                refine lv_iinc (v := nI (j + 1)) (lv' := [(17, .int (nI (j + 1))), (16, .int 1), (14, .long (sp_X8_cut Q (P - (T9 * Q)))), (12, .long (R9 - (T9 * S9))), (10, .long S9), (8, .long (P - (T9 * Q))), (6, .long Q), (20, .long (R9 - (T9 * S9))), (18, .long (P - (T9 * Q))), (0, .ref h), (1, .int (nI k)), (2, .int (nI p)), (3, .int (nI d))]) hx hb dX8_quotient_251 hl (k := 12) rfl (nI_add j 1) (by decide) rfl (fun ls hl => ?_)
                refine lv_goto (tgt := 149) hx hb dX8_quotient_254 (by decide) ?_
                exact ih149 (j + 1) Q (P - (T9 * Q)) S9 (R9 - (T9 * S9)) (sp_X8_cut Q (P - (T9 * Q))) true (by omega) (by rw [← hF]; show _ = (if _ then _ else _); rw [if_pos c_157]; simp only [if_neg c_183, if_neg c_190, if_pos c_240]) _ _ hP hD hS ls (lv_sub hl [9, 10, 11, 12, 6, 5, 4, 3, 2, 1, 0] rfl)
    exact LOOP149 d 0 (tl ((25 * k) + p)) (jshl 1 (nI p)) (th ((25 * k) + p)) (jshl 1 (nI p)) (sp_X8_cut (tl ((25 * k) + p)) (jshl 1 (nI p))) false (by omega) (by unfold quR; simp only [if_neg c_135]) _ _ hP hD hS ls (lv_sub hl [9, 10, 11, 12, 6, 5, 4, 3, 2, 1, 0] rfl)
  · skip
    refine lv_iconst (v := 1) hx hb dX8_quotient_139 (by decide) ?_
    refine lv_goto (tgt := 144) hx hb dX8_quotient_140 (by decide) ?_
    refine lv_istore (lv' := [(16, .int 1), (14, .long (sp_X8_cut (tl ((25 * k) + p)) (jshl 1 (nI p)))), (12, .long (jshl 1 (nI p))), (10, .long (th ((25 * k) + p))), (8, .long (jshl 1 (nI p))), (6, .long (tl ((25 * k) + p))), (5, .int 1), (4, .int (gB (sp_X8_isProgram pn (nI k)))), (0, .ref h), (1, .int (nI k)), (2, .int (nI p)), (3, .int (nI d))]) hx hb dX8_quotient_144 hl (by decide) rfl (fun ls hl => ?_)
    refine lv_iconst (v := 0) hx hb dX8_quotient_146 (by decide) ?_
    refine lv_istore (lv' := [(17, .int 0), (16, .int 1), (14, .long (sp_X8_cut (tl ((25 * k) + p)) (jshl 1 (nI p)))), (12, .long (jshl 1 (nI p))), (10, .long (th ((25 * k) + p))), (8, .long (jshl 1 (nI p))), (6, .long (tl ((25 * k) + p))), (5, .int 1), (4, .int (gB (sp_X8_isProgram pn (nI k)))), (0, .ref h), (1, .int (nI k)), (2, .int (nI p)), (3, .int (nI d))]) hx hb dX8_quotient_147 hl (by decide) rfl (fun ls hl => ?_)
    have LOOP149 : ∀ (n : Nat) (j : Nat) (P : Int64) (Q : Int64) (R9 : Int64) (S9 : Int64) (T9 : Int64) (sr : Bool), (j + n = d) → (quF n P Q R9 S9 T9 sr = quR tl th k p d) → ∀ (H : Heap) (locs : List Loc), va_P D vwCl (wM y h q 0 pn ki on ot ab be zA zB zC zD zF zT fo lw hg at_ tl th wo wl wh is_ lo_ hi_ di su an) H → va_D A (wM y h q 0 pn ki on ot ab be zA zB zC zD zF zT fo lw hg at_ tl th wo wl wh is_ lo_ hi_ di su an) → va_S A s.heap H locs → ∀ (ls : Array Slot), lv_has ls 22 [(0, .ref h), (1, .int (nI k)), (2, .int (nI p)), (3, .int (nI d)), (6, .long P), (8, .long Q), (10, .long R9), (12, .long S9), (14, .long T9), (16, .int (gB sr)), (17, .int (nI j))] → W pg l e (headSpec wsX8_quotient ({ frames := 2, cells := 0, slots := 0, locals := 43 } : Room)).room s m (([.ref h, .int (nI k), .int (nI p), .int (nI d)] : List Value).toArray) below meth c H locs 0 0 (MQ below (gQ D (wM y h q tw pn ki on ot ab be zA zB zC zD zF zT fo lw hg at_ tl th wo wl wh is_ lo_ hi_ di su an) (gF (some (.int 0)) (wM y h q 3 pn ki on ot ab be zA zB zC zD zF zT fo lw hg at_ tl th wo wl wh is_ lo_ hi_ di su an))) (([.ref h, .int (nI k), .int (nI p), .int (nI d)] : List Value).toArray) s 0 0 (va_A (wM y h q tw pn ki on ot ab be zA zB zC zD zF zT fo lw hg at_ tl th wo wl wh is_ lo_ hi_ di su an) s.heap.size)) (F0 m 149 ls []) := by
      intro n
      induction n with
      | zero =>
        intro j P Q R9 S9 T9 sr hj hF H locs hP hD hS ls hl
        refine lv_iload hx hb dX8_quotient_149 (lv_at hl 10 rfl) ?_
        refine lv_iload_n hx hb dX8_quotient_151 rfl (lv_at hl 3 rfl) ?_
        refine lv_icmp_ge (tgt := 257) hx hb dX8_quotient_152 (by decide) (fun c_152 => ?_) (fun c_152 => absurd (nI_le (by omega) (by omega)) c_152)
        have hR9 : (sr, T9) = quR tl th k p d := hF
        have e16 : sr = (quR tl th k p d).1 := congrArg Prod.fst hR9
        have e14 : T9 = (quR tl th k p d).2 := congrArg Prod.snd hR9
        rw [e16, e14] at hl
        refine lv_aload_n hx hb dX8_quotient_257 rfl (lv_at hl 0 rfl) ?_
        refine lv_iload hx hb dX8_quotient_258 (lv_at hl 9 rfl) ?_
        refine g_beq (tgt := 267) hx hb dX8_quotient_260 (by decide) (fun c_260 => ?_) (fun c_260 => absurd c_260 hs)
        refine lv_iconst (v := 3) hx hb dX8_quotient_267 (by decide) ?_
        refine g_callA1 (v0 := .int (gB (sp_X8_holds 3))) (w0 := wM y h q 3 pn ki on ot ab be zA zB zC zD zF zT fo lw hg at_ tl th wo wl wh is_ lo_ hi_ di su an) (va_runV (As := [.int 3]) (rest := []) ⟨hx, hb, hml, hown, hts⟩ (c_X8_holds l D y H.size h q 0 pn ki on ot ab be zA zB zC zD zF zT fo lw hg at_ tl th wo wl wh is_ lo_ hi_ di su an 3) (cwV 1 hts gX8_quotient_X8_holds rfl rfl rfl (by decide +kernel) ⟨Nat.le_of_ble_eq_true rfl, Nat.le_of_ble_eq_true rfl⟩) (gP_VA hP hD hK 0 rfl rfl) rfl rfl hl.1 rfl (lv_room (Nat.le_of_ble_eq_true rfl)) dX8_quotient_268 ⟨Nat.zero_le _, Nat.zero_le _⟩) hP hD hS hA rfl (fun H locs hP hD hS => ?_)
        refine g_beq (tgt := 280) hx hb dX8_quotient_271 (by decide) (fun c_271 => ?_) (fun c_271 => absurd c_271 (by decide))
        refine lv_iconst (v := 0) hx hb dX8_quotient_280 (by decide) ?_
        exact W.iret (v := 0) hx hb hr (fun t ht hW => ⟨⟨_, wM y h q 3 pn ki on ot ab be zA zB zC zD zF zT fo lw hg at_ tl th wo wl wh is_ lo_ hi_ di su an, rfl, ⟨congrArg (fun z => some (Value.int z)) (rfl), rfl⟩, rfl, by rw [ht]; exact hP⟩, by rw [← hAe]; exact hS.F ht⟩) (by rw [← hAe]; exact hS.2.2) dX8_quotient_281
      | succ n ih149 =>
        intro j P Q R9 S9 T9 sr hj hF H locs hP hD hS ls hl
        refine lv_iload hx hb dX8_quotient_149 (lv_at hl 10 rfl) ?_
        refine lv_iload_n hx hb dX8_quotient_151 rfl (lv_at hl 3 rfl) ?_
        refine lv_icmp_ge (tgt := 257) hx hb dX8_quotient_152 (by decide) (fun c_152 => absurd c_152 (nI_ge (by omega) (by omega))) (fun c_152 => ?_)
        refine lv_iload hx hb dX8_quotient_155 (lv_at hl 9 rfl) ?_
        refine g_beq (tgt := 257) hx hb dX8_quotient_157 (by decide) (fun c_157 => ?_) (fun c_157 => ?_)
        · skip
          have hR9 : (sr, T9) = quR tl th k p d := by rw [← hF]; show _ = (if _ then _ else _); rw [if_neg c_157]
          have e16 : sr = (quR tl th k p d).1 := congrArg Prod.fst hR9
          have e14 : T9 = (quR tl th k p d).2 := congrArg Prod.snd hR9
          rw [e16, e14] at hl
          refine lv_aload_n hx hb dX8_quotient_257 rfl (lv_at hl 0 rfl) ?_
          refine lv_iload hx hb dX8_quotient_258 (lv_at hl 9 rfl) ?_
          refine g_beq (tgt := 267) hx hb dX8_quotient_260 (by decide) (fun c_260 => ?_) (fun c_260 => absurd c_260 hs)
          refine lv_iconst (v := 3) hx hb dX8_quotient_267 (by decide) ?_
          refine g_callA1 (v0 := .int (gB (sp_X8_holds 3))) (w0 := wM y h q 3 pn ki on ot ab be zA zB zC zD zF zT fo lw hg at_ tl th wo wl wh is_ lo_ hi_ di su an) (va_runV (As := [.int 3]) (rest := []) ⟨hx, hb, hml, hown, hts⟩ (c_X8_holds l D y H.size h q 0 pn ki on ot ab be zA zB zC zD zF zT fo lw hg at_ tl th wo wl wh is_ lo_ hi_ di su an 3) (cwV 1 hts gX8_quotient_X8_holds rfl rfl rfl (by decide +kernel) ⟨Nat.le_of_ble_eq_true rfl, Nat.le_of_ble_eq_true rfl⟩) (gP_VA hP hD hK 0 rfl rfl) rfl rfl hl.1 rfl (lv_room (Nat.le_of_ble_eq_true rfl)) dX8_quotient_268 ⟨Nat.zero_le _, Nat.zero_le _⟩) hP hD hS hA rfl (fun H locs hP hD hS => ?_)
          refine g_beq (tgt := 280) hx hb dX8_quotient_271 (by decide) (fun c_271 => ?_) (fun c_271 => absurd c_271 (by decide))
          refine lv_iconst (v := 0) hx hb dX8_quotient_280 (by decide) ?_
          exact W.iret (v := 0) hx hb hr (fun t ht hW => ⟨⟨_, wM y h q 3 pn ki on ot ab be zA zB zC zD zF zT fo lw hg at_ tl th wo wl wh is_ lo_ hi_ di su an, rfl, ⟨congrArg (fun z => some (Value.int z)) (rfl), rfl⟩, rfl, by rw [ht]; exact hP⟩, by rw [← hAe]; exact hS.F ht⟩) (by rw [← hAe]; exact hS.2.2) dX8_quotient_281
        · skip
          refine lv_lload hx hb dX8_quotient_160 (lv_at hl 4 rfl) ?_
          refine lv_lload hx hb dX8_quotient_162 (lv_at hl 8 rfl) ?_
          refine lv_lload hx hb dX8_quotient_164 (lv_at hl 5 rfl) ?_
          refine lv_lmul hx hb dX8_quotient_166 ?_
          refine lv_lsub hx hb dX8_quotient_167 ?_
          refine lv_lstore (lv' := [(18, .long (P - (T9 * Q))), (0, .ref h), (1, .int (nI k)), (2, .int (nI p)), (3, .int (nI d)), (6, .long P), (8, .long Q), (10, .long R9), (12, .long S9), (14, .long T9), (16, .int (gB sr)), (17, .int (nI j))]) hx hb dX8_quotient_168 hl (by decide) rfl (fun ls hl => ?_)
          refine lv_lload hx hb dX8_quotient_170 (lv_at hl 7 rfl) ?_
          refine lv_lload hx hb dX8_quotient_172 (lv_at hl 9 rfl) ?_
          refine lv_lload hx hb dX8_quotient_174 (lv_at hl 8 rfl) ?_
          refine lv_lmul hx hb dX8_quotient_176 ?_
          refine lv_lsub hx hb dX8_quotient_177 ?_
          refine lv_lstore (lv' := [(20, .long (R9 - (T9 * S9))), (18, .long (P - (T9 * Q))), (0, .ref h), (1, .int (nI k)), (2, .int (nI p)), (3, .int (nI d)), (6, .long P), (8, .long Q), (10, .long R9), (12, .long S9), (14, .long T9), (16, .int (gB sr)), (17, .int (nI j))]) hx hb dX8_quotient_178 hl (by decide) rfl (fun ls hl => ?_)
          refine lv_lload hx hb dX8_quotient_180 (lv_at hl 1 rfl) ?_
          refine lv_lconst (v := 0) hx hb dX8_quotient_182 (by decide) ?_
          refine g_le (tgt := 198) hx hb dX8_quotient_183 dX8_quotient_184 (by decide) (fun c_183 => ?_) (fun c_183 => ?_)
          · skip
            refine lv_iconst (v := 0) hx hb dX8_quotient_198 (by decide) ?_
            refine lv_istore (lv' := [(16, .int 0), (20, .long (R9 - (T9 * S9))), (18, .long (P - (T9 * Q))), (0, .ref h), (1, .int (nI k)), (2, .int (nI p)), (3, .int (nI d)), (6, .long P), (8, .long Q), (10, .long R9), (12, .long S9), (14, .long T9), (17, .int (nI j))]) hx hb dX8_quotient_199 hl (by decide) rfl (fun ls hl => ?_)
            refine lv_iload hx hb dX8_quotient_201 (lv_at hl 0 rfl) ?_
            refine lv_if_eq (tgt := 251) hx hb dX8_quotient_203 (by decide) (fun c_203 => ?_) (fun c_203 => absurd c_203 (by decide))
            refine lv_iinc (v := nI (j + 1)) (lv' := [(17, .int (nI (j + 1))), (16, .int 0), (20, .long (R9 - (T9 * S9))), (18, .long (P - (T9 * Q))), (0, .ref h), (1, .int (nI k)), (2, .int (nI p)), (3, .int (nI d)), (6, .long P), (8, .long Q), (10, .long R9), (12, .long S9), (14, .long T9)]) hx hb dX8_quotient_251 hl (k := 12) rfl (nI_add j 1) (by decide) rfl (fun ls hl => ?_)
            refine lv_goto (tgt := 149) hx hb dX8_quotient_254 (by decide) ?_
            exact ih149 (j + 1) P Q R9 S9 T9 false (by omega) (by rw [← hF]; show _ = (if _ then _ else _); rw [if_pos c_157]; simp only [if_pos c_183]) _ _ hP hD hS ls (lv_sub hl [4, 5, 6, 7, 8, 9, 10, 11, 12, 1, 0] rfl)
          · skip
            refine lv_lload hx hb dX8_quotient_187 (lv_at hl 0 rfl) ?_
            refine lv_lconst (v := 0) hx hb dX8_quotient_189 (by decide) ?_
            refine g_le (tgt := 198) hx hb dX8_quotient_190 dX8_quotient_191 (by decide) (fun c_190 => ?_) (fun c_190 => ?_)
            · skip
              refine lv_iconst (v := 0) hx hb dX8_quotient_198 (by decide) ?_
              refine lv_istore (lv' := [(16, .int 0), (20, .long (R9 - (T9 * S9))), (18, .long (P - (T9 * Q))), (0, .ref h), (1, .int (nI k)), (2, .int (nI p)), (3, .int (nI d)), (6, .long P), (8, .long Q), (10, .long R9), (12, .long S9), (14, .long T9), (17, .int (nI j))]) hx hb dX8_quotient_199 hl (by decide) rfl (fun ls hl => ?_)
              refine lv_iload hx hb dX8_quotient_201 (lv_at hl 0 rfl) ?_
              refine lv_if_eq (tgt := 251) hx hb dX8_quotient_203 (by decide) (fun c_203 => ?_) (fun c_203 => absurd c_203 (by decide))
              refine lv_iinc (v := nI (j + 1)) (lv' := [(17, .int (nI (j + 1))), (16, .int 0), (20, .long (R9 - (T9 * S9))), (18, .long (P - (T9 * Q))), (0, .ref h), (1, .int (nI k)), (2, .int (nI p)), (3, .int (nI d)), (6, .long P), (8, .long Q), (10, .long R9), (12, .long S9), (14, .long T9)]) hx hb dX8_quotient_251 hl (k := 12) rfl (nI_add j 1) (by decide) rfl (fun ls hl => ?_)
              refine lv_goto (tgt := 149) hx hb dX8_quotient_254 (by decide) ?_
              exact ih149 (j + 1) P Q R9 S9 T9 false (by omega) (by rw [← hF]; show _ = (if _ then _ else _); rw [if_pos c_157]; simp only [if_neg c_183, if_pos c_190]) _ _ hP hD hS ls (lv_sub hl [4, 5, 6, 7, 8, 9, 10, 11, 12, 1, 0] rfl)
            · skip
              refine lv_iconst (v := 1) hx hb dX8_quotient_194 (by decide) ?_
              refine lv_goto (tgt := 199) hx hb dX8_quotient_195 (by decide) ?_
              refine lv_istore (lv' := [(16, .int 1), (20, .long (R9 - (T9 * S9))), (18, .long (P - (T9 * Q))), (0, .ref h), (1, .int (nI k)), (2, .int (nI p)), (3, .int (nI d)), (6, .long P), (8, .long Q), (10, .long R9), (12, .long S9), (14, .long T9), (17, .int (nI j))]) hx hb dX8_quotient_199 hl (by decide) rfl (fun ls hl => ?_)
              refine lv_iload hx hb dX8_quotient_201 (lv_at hl 0 rfl) ?_
              refine lv_if_eq (tgt := 251) hx hb dX8_quotient_203 (by decide) (fun c_203 => absurd c_203 (by decide)) (fun c_203 => ?_)
              refine lv_lload hx hb dX8_quotient_206 (lv_at hl 8 rfl) ?_
              refine lv_lstore (lv' := [(6, .long Q), (16, .int 1), (20, .long (R9 - (T9 * S9))), (18, .long (P - (T9 * Q))), (0, .ref h), (1, .int (nI k)), (2, .int (nI p)), (3, .int (nI d)), (8, .long Q), (10, .long R9), (12, .long S9), (14, .long T9), (17, .int (nI j))]) hx hb dX8_quotient_208 hl (by decide) rfl (fun ls hl => ?_)
              refine lv_lload hx hb dX8_quotient_210 (lv_at hl 3 rfl) ?_
              refine lv_lstore (lv' := [(8, .long (P - (T9 * Q))), (6, .long Q), (16, .int 1), (20, .long (R9 - (T9 * S9))), (18, .long (P - (T9 * Q))), (0, .ref h), (1, .int (nI k)), (2, .int (nI p)), (3, .int (nI d)), (10, .long R9), (12, .long S9), (14, .long T9), (17, .int (nI j))]) hx hb dX8_quotient_212 hl (by decide) rfl (fun ls hl => ?_)
              refine lv_lload hx hb dX8_quotient_214 (lv_at hl 10 rfl) ?_
              refine lv_lstore (lv' := [(10, .long S9), (8, .long (P - (T9 * Q))), (6, .long Q), (16, .int 1), (20, .long (R9 - (T9 * S9))), (18, .long (P - (T9 * Q))), (0, .ref h), (1, .int (nI k)), (2, .int (nI p)), (3, .int (nI d)), (12, .long S9), (14, .long T9), (17, .int (nI j))]) hx hb dX8_quotient_216 hl (by decide) rfl (fun ls hl => ?_)
              refine lv_lload hx hb dX8_quotient_218 (lv_at hl 4 rfl) ?_
              refine lv_lstore (lv' := [(12, .long (R9 - (T9 * S9))), (10, .long S9), (8, .long (P - (T9 * Q))), (6, .long Q), (16, .int 1), (20, .long (R9 - (T9 * S9))), (18, .long (P - (T9 * Q))), (0, .ref h), (1, .int (nI k)), (2, .int (nI p)), (3, .int (nI d)), (14, .long T9), (17, .int (nI j))]) hx hb dX8_quotient_220 hl (by decide) rfl (fun ls hl => ?_)
              refine lv_lload hx hb dX8_quotient_222 (lv_at hl 3 rfl) ?_
              refine lv_lload hx hb dX8_quotient_224 (lv_at hl 2 rfl) ?_
              refine g_callR (v0 := .long (sp_X8_cut Q (P - (T9 * Q)))) (va_runS (As := [.long Q, .long (P - (T9 * Q))]) (rest := []) ⟨hx, hb, hml, hown, hts⟩ (c_X8_cut l D y H.size Q (P - (T9 * Q)) (g_ne0 c_183)) (va_cwS 2 hts gX8_quotient_X8_cut rfl rfl rfl (by decide +kernel) ⟨Nat.le_of_ble_eq_true rfl, Nat.le_of_ble_eq_true rfl⟩) (gP_S hP hD hK [] (by decide) rfl) rfl rfl hl.1 rfl (lv_room (Nat.le_of_ble_eq_true rfl)) dX8_quotient_226 ⟨Nat.zero_le _, Nat.zero_le _⟩) ?_
              refine lv_lstore (lv' := [(14, .long (sp_X8_cut Q (P - (T9 * Q)))), (12, .long (R9 - (T9 * S9))), (10, .long S9), (8, .long (P - (T9 * Q))), (6, .long Q), (16, .int 1), (20, .long (R9 - (T9 * S9))), (18, .long (P - (T9 * Q))), (0, .ref h), (1, .int (nI k)), (2, .int (nI p)), (3, .int (nI d)), (17, .int (nI j))]) hx hb dX8_quotient_229 hl (by decide) rfl (fun ls hl => ?_)
              refine lv_lload hx hb dX8_quotient_231 (lv_at hl 0 rfl) ?_
              refine lv_lload hx hb dX8_quotient_233 (lv_at hl 2 rfl) ?_
              refine lv_lload hx hb dX8_quotient_235 (lv_at hl 1 rfl) ?_
              refine g_callR (v0 := .long (sp_X8_cut S9 (R9 - (T9 * S9)))) (va_runS (As := [.long S9, .long (R9 - (T9 * S9))]) (rest := [.long (sp_X8_cut Q (P - (T9 * Q)))]) ⟨hx, hb, hml, hown, hts⟩ (c_X8_cut l D y H.size S9 (R9 - (T9 * S9)) (g_ne0 c_190)) (va_cwS 2 hts gX8_quotient_X8_cut rfl rfl rfl (by decide +kernel) ⟨Nat.le_of_ble_eq_true rfl, Nat.le_of_ble_eq_true rfl⟩) (gP_S hP hD hK [] (by decide) rfl) rfl rfl hl.1 rfl (lv_room (Nat.le_of_ble_eq_true rfl)) dX8_quotient_237 ⟨Nat.zero_le _, Nat.zero_le _⟩) ?_
              refine g_ne (tgt := 248) hx hb dX8_quotient_240 dX8_quotient_241 (by decide) (fun c_240 => ?_) (fun c_240 => ?_)
              · skip
                refine lv_iconst (v := 0) hx hb dX8_quotient_248 (by decide) ?_
                refine lv_istore (lv' := [(16, .int 0), (14, .long (sp_X8_cut Q (P - (T9 * Q)))), (12, .long (R9 - (T9 * S9))), (10, .long S9), (8, .long (P - (T9 * Q))), (6, .long Q), (20, .long (R9 - (T9 * S9))), (18, .long (P - (T9 * Q))), (0, .ref h), (1, .int (nI k)), (2, .int (nI p)), (3, .int (nI d)), (17, .int (nI j))]) hx hb dX8_quotient_249 hl (by decide) rfl (fun ls hl => ?_)
                refine lv_iinc (v := nI (j + 1)) (lv' := [(17, .int (nI (j + 1))), (16, .int 0), (14, .long (sp_X8_cut Q (P - (T9 * Q)))), (12, .long (R9 - (T9 * S9))), (10, .long S9), (8, .long (P - (T9 * Q))), (6, .long Q), (20, .long (R9 - (T9 * S9))), (18, .long (P - (T9 * Q))), (0, .ref h), (1, .int (nI k)), (2, .int (nI p)), (3, .int (nI d))]) hx hb dX8_quotient_251 hl (k := 12) rfl (nI_add j 1) (by decide) rfl (fun ls hl => ?_)
                refine lv_goto (tgt := 149) hx hb dX8_quotient_254 (by decide) ?_
                exact ih149 (j + 1) Q (P - (T9 * Q)) S9 (R9 - (T9 * S9)) (sp_X8_cut Q (P - (T9 * Q))) false (by omega) (by rw [← hF]; show _ = (if _ then _ else _); rw [if_pos c_157]; simp only [if_neg c_183, if_neg c_190, if_neg c_240]) _ _ hP hD hS ls (lv_sub hl [9, 10, 11, 12, 6, 5, 4, 3, 2, 1, 0] rfl)
              · skip
                refine lv_iconst (v := 1) hx hb dX8_quotient_244 (by decide) ?_
                refine lv_goto (tgt := 249) hx hb dX8_quotient_245 (by decide) ?_
                refine lv_istore (lv' := [(16, .int 1), (14, .long (sp_X8_cut Q (P - (T9 * Q)))), (12, .long (R9 - (T9 * S9))), (10, .long S9), (8, .long (P - (T9 * Q))), (6, .long Q), (20, .long (R9 - (T9 * S9))), (18, .long (P - (T9 * Q))), (0, .ref h), (1, .int (nI k)), (2, .int (nI p)), (3, .int (nI d)), (17, .int (nI j))]) hx hb dX8_quotient_249 hl (by decide) rfl (fun ls hl => ?_)
                refine lv_iinc (v := nI (j + 1)) (lv' := [(17, .int (nI (j + 1))), (16, .int 1), (14, .long (sp_X8_cut Q (P - (T9 * Q)))), (12, .long (R9 - (T9 * S9))), (10, .long S9), (8, .long (P - (T9 * Q))), (6, .long Q), (20, .long (R9 - (T9 * S9))), (18, .long (P - (T9 * Q))), (0, .ref h), (1, .int (nI k)), (2, .int (nI p)), (3, .int (nI d))]) hx hb dX8_quotient_251 hl (k := 12) rfl (nI_add j 1) (by decide) rfl (fun ls hl => ?_)
                refine lv_goto (tgt := 149) hx hb dX8_quotient_254 (by decide) ?_
                exact ih149 (j + 1) Q (P - (T9 * Q)) S9 (R9 - (T9 * S9)) (sp_X8_cut Q (P - (T9 * Q))) true (by omega) (by rw [← hF]; show _ = (if _ then _ else _); rw [if_pos c_157]; simp only [if_neg c_183, if_neg c_190, if_pos c_240]) _ _ hP hD hS ls (lv_sub hl [9, 10, 11, 12, 6, 5, 4, 3, 2, 1, 0] rfl)
    exact LOOP149 d 0 (tl ((25 * k) + p)) (jshl 1 (nI p)) (th ((25 * k) + p)) (jshl 1 (nI p)) (sp_X8_cut (tl ((25 * k) + p)) (jshl 1 (nI p))) true (by omega) (by unfold quR; simp only [if_pos c_135]) _ _ hP hD hS ls (lv_sub hl [9, 10, 11, 12, 6, 5, 4, 3, 2, 1, 0] rfl)
set_option maxHeartbeats 4000000 in
set_option maxRecDepth 100000 in
theorem c_X8_quotient_0 (l : Launch) (D : va_G) (y : Nat → ClassId) (sz : Nat) (h : Nat) (q : Nat → Nat) (tw : Int32) (pn : Nat) (ki on ot ab be zA zB zC zD zF zT : Nat → Int32) (fo : Nat → Bool) (lw hg : Nat → Int64) (at_ : Nat → Bool) (tl th : Nat → Int64) (wo : Nat → Bool) (wl wh : Nat → Int64) (is_ : Bool) (lo_ hi_ : Int64) (di : Nat → Int32) (su : Nat → Int64) (an : Nat → Bool) (k p d : Nat) (hpn : pn ≤ 40) (hk : k < pn) (hp : p < 25) (hd : d < 25) (hf : at_ (25 * k + p) = true) (hs : (quR tl th k p d).1 = true) : Met l yX8_quotient wsX8_quotient ({ frames := 2, cells := 0, slots := 0, locals := 43 } : Room) (gP D y [.ref h, .int (nI k), .int (nI p), .int (nI d)] (wM y h q tw pn ki on ot ab be zA zB zC zD zF zT fo lw hg at_ tl th wo wl wh is_ lo_ hi_ di su an) sz) (gQ D (wM y h q tw pn ki on ot ab be zA zB zC zD zF zT fo lw hg at_ tl th wo wl wh is_ lo_ hi_ di su an) (gF (some (.int ((quR tl th k p d).2.toInt32))) (wM y h q 0 pn ki on ot ab be zA zB zC zD zF zT fo lw hg at_ tl th wo wl wh is_ lo_ hi_ di su an))) 0 0 (va_A (wM y h q tw pn ki on ot ab be zA zB zC zD zF zT fo lw hg at_ tl th wo wl wh is_ lo_ hi_ di su an) sz) := by
  refine Met.ofW (cc := cX8_quotient) (maxL := 22) (ret := (some .int)) (by decide) rfl ?_
  intro pg e s m args below meth c s₁ B hml hv
  obtain ⟨rfl, hsz, hP, hK, hD0⟩ := hv
  have hx := B.exec
  have hb := B.bytes
  have hr := B.returns
  have hts := atoms_spec (ws := wsX8_quotient) B.pre
  have hown : s.vm.findClass RX8 = some m.cls := findClass_of_methodNamed B.named
  have hlocks := B.notSynchronized
  subst hsz
  obtain ⟨A, hAe⟩ : ∃ A : Nat → Prop, A = va_A (wM y h q tw pn ki on ot ab be zA zB zC zD zF zT fo lw hg at_ tl th wo wl wh is_ lo_ hi_ di su an) s.heap.size := ⟨_, rfl⟩
  have hD : va_D A (wM y h q tw pn ki on ot ab be zA zB zC zD zF zT fo lw hg at_ tl th wo wl wh is_ lo_ hi_ di su an) := by rw [hAe]; exact hD0.self (sz := s.heap.size)
  have hA : ∀ q : Nat, s.heap.size ≤ q → A q := fun q h => by rw [hAe]; exact Or.inr h
  have hS : va_S A s.heap s.heap [] := va_S.rf
  have hl := lv_entry ([.ref h, .int (nI k), .int (nI p), .int (nI d)]) (n := 22) (Nat.le_of_ble_eq_true rfl)
  rw [lg_entry_eq]
  generalize (lg_sl ([.ref h, .int (nI k), .int (nI p), .int (nI d)]) ++ List.replicate (22 - (lg_sl ([.ref h, .int (nI k), .int (nI p), .int (nI d)])).length) Slot.unset).toArray = ls at hl ⊢
  have hl : lv_has ls 22 [(0, .ref h), (1, .int (nI k)), (2, .int (nI p)), (3, .int (nI d))] := hl
  refine lv_aload_n hx hb dX8_quotient_0 rfl (lv_at hl 0 rfl) ?_
  refine lv_iload_n hx hb dX8_quotient_1 rfl (lv_at hl 1 rfl) ?_
  refine g_callR (v0 := .int (gB (sp_X8_isProgram pn (nI k)))) (va_runV (As := [.int (nI k)]) (rest := []) ⟨hx, hb, hml, hown, hts⟩ (c_X8_isProgram l D y s.heap.size h q tw pn ki on ot ab be zA zB zC zD zF zT fo lw hg at_ tl th wo wl wh is_ lo_ hi_ di su an (nI k)) (cwV 1 hts gX8_quotient_X8_isProgram rfl rfl rfl (by decide +kernel) ⟨Nat.le_of_ble_eq_true rfl, Nat.le_of_ble_eq_true rfl⟩) (gP_VA hP hD hK 0 rfl rfl) rfl rfl hl.1 rfl (lv_room (Nat.le_of_ble_eq_true rfl)) dX8_quotient_2 ⟨Nat.zero_le _, Nat.zero_le _⟩) ?_
  refine lv_istore (lv' := [(4, .int (gB (sp_X8_isProgram pn (nI k)))), (0, .ref h), (1, .int (nI k)), (2, .int (nI p)), (3, .int (nI d))]) hx hb dX8_quotient_5 hl (by decide) rfl (fun ls hl => ?_)
  refine lv_iload hx hb dX8_quotient_7 (lv_at hl 0 rfl) ?_
  refine g_beq (tgt := 33) hx hb dX8_quotient_9 (by decide) (fun c_9 => absurd (g_isP hk hpn) c_9) (fun c_9 => ?_)
  refine lv_iload_n hx hb dX8_quotient_12 rfl (lv_at hl 3 rfl) ?_
  refine g_callR (v0 := .int (gB (sp_X8_isPlace (nI p)))) (va_runS (As := [.int (nI p)]) (rest := []) ⟨hx, hb, hml, hown, hts⟩ (c_X8_isPlace l D y s.heap.size (nI p)) (va_cwS 1 hts gX8_quotient_X8_isPlace rfl rfl rfl (by decide +kernel) ⟨Nat.le_of_ble_eq_true rfl, Nat.le_of_ble_eq_true rfl⟩) (gP_S hP hD hK [] (by decide) rfl) rfl rfl hl.1 rfl (lv_room (Nat.le_of_ble_eq_true rfl)) dX8_quotient_13 ⟨Nat.zero_le _, Nat.zero_le _⟩) ?_
  refine g_beq (tgt := 33) hx hb dX8_quotient_16 (by decide) (fun c_16 => absurd (g_isPl hp) c_16) (fun c_16 => ?_)
  refine lv_iload_n hx hb dX8_quotient_19 rfl (lv_at hl 4 rfl) ?_
  refine lv_iconst (v := 0) hx hb dX8_quotient_20 (by decide) ?_
  refine lv_bipush (v := 24) hx hb dX8_quotient_21 (by decide) ?_
  refine g_callR (v0 := .int (gB (sp_X8_in (nI d) 0 24))) (va_runS (As := [.int (nI d), .int 0, .int 24]) (rest := []) ⟨hx, hb, hml, hown, hts⟩ (c_X8_in l D y s.heap.size (nI d) 0 24) (va_cwS 3 hts gX8_quotient_X8_in rfl rfl rfl (by decide +kernel) ⟨Nat.le_of_ble_eq_true rfl, Nat.le_of_ble_eq_true rfl⟩) (gP_S hP hD hK [] (by decide) rfl) rfl rfl hl.1 rfl (lv_room (Nat.le_of_ble_eq_true rfl)) dX8_quotient_23 ⟨Nat.zero_le _, Nat.zero_le _⟩) ?_
  refine g_beq (tgt := 33) hx hb dX8_quotient_26 (by decide) (fun c_26 => absurd (g_in24 hd) c_26) (fun c_26 => ?_)
  refine lv_iconst (v := 1) hx hb dX8_quotient_29 (by decide) ?_
  refine lv_goto (tgt := 34) hx hb dX8_quotient_30 (by decide) ?_
  refine lv_istore (lv' := [(5, .int 1), (4, .int (gB (sp_X8_isProgram pn (nI k)))), (0, .ref h), (1, .int (nI k)), (2, .int (nI p)), (3, .int (nI d))]) hx hb dX8_quotient_34 hl (by decide) rfl (fun ls hl => ?_)
  refine lv_aload_n hx hb dX8_quotient_36 rfl (lv_at hl 2 rfl) ?_
  refine lv_iload hx hb dX8_quotient_37 (lv_at hl 1 rfl) ?_
  refine g_bne (tgt := 46) hx hb dX8_quotient_39 (by decide) (fun c_39 => ?_) (fun c_39 => absurd (g_isP hk hpn) c_39)
  refine lv_iload hx hb dX8_quotient_46 (lv_at hl 0 rfl) ?_
  refine lv_if_ne (tgt := 55) hx hb dX8_quotient_48 (by decide) (fun c_48 => ?_) (fun c_48 => absurd c_48 (by decide))
  refine lv_aload_n hx hb dX8_quotient_55 rfl (lv_at hl 2 rfl) ?_
  refine va_get (D := D) (ci := 6) (v := .ref (q 16)) (C := RX8) (T := TX8) (N := 28) hx hb hts in_X8_quotient_X8 hown hK.1 hP 0 rfl rfl 16 (by decide) (hts (.fieldLink RX8 54 "NestlimitModel" "areTold" "[Z") (List.mem_of_getElem? (i := 1) rfl)) (fun _ h9 => h9) rfl dX8_quotient_56 ?_
  refine lv_bipush (v := 25) hx hb dX8_quotient_59 (by decide) ?_
  refine lv_iload_n hx hb dX8_quotient_61 rfl (lv_at hl 3 rfl) ?_
  refine lv_imul hx hb dX8_quotient_62 ?_
  refine g_topi (pk_mul 25 k) ?_
  refine lv_iload_n hx hb dX8_quotient_63 rfl (lv_at hl 4 rfl) ?_
  refine lv_iadd hx hb dX8_quotient_64 ?_
  refine g_topi (nI_add (25 * k) p) ?_
  refine g_zald (k := (25 * k) + p) hx hb hK.1 hP 15 2 rfl rfl (by omega) (by decide) dX8_quotient_65 ?_
  refine g_beq (tgt := 73) hx hb dX8_quotient_66 (by decide) (fun c_66 => absurd hf c_66) (fun c_66 => ?_)
  refine lv_iconst (v := 0) hx hb dX8_quotient_69 (by decide) ?_
  refine lv_goto (tgt := 74) hx hb dX8_quotient_70 (by decide) ?_
  refine g_callA1 (v0 := .int (gB (sp_X8_holds 0))) (w0 := wM y h q 0 pn ki on ot ab be zA zB zC zD zF zT fo lw hg at_ tl th wo wl wh is_ lo_ hi_ di su an) (va_runV (As := [.int 0]) (rest := []) ⟨hx, hb, hml, hown, hts⟩ (c_X8_holds l D y s.heap.size h q tw pn ki on ot ab be zA zB zC zD zF zT fo lw hg at_ tl th wo wl wh is_ lo_ hi_ di su an 0) (cwV 1 hts gX8_quotient_X8_holds rfl rfl rfl (by decide +kernel) ⟨Nat.le_of_ble_eq_true rfl, Nat.le_of_ble_eq_true rfl⟩) (gP_VA hP hD hK 0 rfl rfl) rfl rfl hl.1 rfl (lv_room (Nat.le_of_ble_eq_true rfl)) dX8_quotient_74 ⟨Nat.zero_le _, Nat.zero_le _⟩) hP hD hS hA rfl (fun H locs hP hD hS => ?_)
  refine g_bne (tgt := 82) hx hb dX8_quotient_77 (by decide) (fun c_77 => ?_) (fun c_77 => absurd (by decide) c_77)
  refine lv_aload_n hx hb dX8_quotient_82 rfl (lv_at hl 2 rfl) ?_
  refine va_get (D := D) (ci := 6) (v := .ref (q 17)) (C := RX8) (T := TX8) (N := 28) hx hb hts in_X8_quotient_X8 hown hK.1 hP 0 rfl rfl 17 (by decide) (hts (.fieldLink RX8 57 "NestlimitModel" "toldLow" "[J") (List.mem_of_getElem? (i := 2) rfl)) (fun _ h9 => h9) rfl dX8_quotient_83 ?_
  refine lv_bipush (v := 25) hx hb dX8_quotient_86 (by decide) ?_
  refine lv_iload_n hx hb dX8_quotient_88 rfl (lv_at hl 3 rfl) ?_
  refine lv_imul hx hb dX8_quotient_89 ?_
  refine g_topi (pk_mul 25 k) ?_
  refine lv_iload_n hx hb dX8_quotient_90 rfl (lv_at hl 4 rfl) ?_
  refine lv_iadd hx hb dX8_quotient_91 ?_
  refine g_topi (nI_add (25 * k) p) ?_
  refine g_lald (k := (25 * k) + p) hx hb hK.1 hP 16 1 rfl rfl (by omega) (by decide) dX8_quotient_92 ?_
  refine lv_lstore (lv' := [(6, .long (tl ((25 * k) + p))), (5, .int 1), (4, .int (gB (sp_X8_isProgram pn (nI k)))), (0, .ref h), (1, .int (nI k)), (2, .int (nI p)), (3, .int (nI d))]) hx hb dX8_quotient_93 hl (by decide) rfl (fun ls hl => ?_)
  refine lv_lconst (v := 1) hx hb dX8_quotient_95 (by decide) ?_
  refine lv_iload_n hx hb dX8_quotient_96 rfl (lv_at hl 5 rfl) ?_
  refine lv_lshl (v := jshl 1 (nI p)) hx hb dX8_quotient_97 rfl ?_
  refine lv_lstore (lv' := [(8, .long (jshl 1 (nI p))), (6, .long (tl ((25 * k) + p))), (5, .int 1), (4, .int (gB (sp_X8_isProgram pn (nI k)))), (0, .ref h), (1, .int (nI k)), (2, .int (nI p)), (3, .int (nI d))]) hx hb dX8_quotient_98 hl (by decide) rfl (fun ls hl => ?_)
  refine lv_aload_n hx hb dX8_quotient_100 rfl (lv_at hl 4 rfl) ?_
  refine va_get (D := D) (ci := 6) (v := .ref (q 18)) (C := RX8) (T := TX8) (N := 28) hx hb hts in_X8_quotient_X8 hown hK.1 hP 0 rfl rfl 18 (by decide) (hts (.fieldLink RX8 60 "NestlimitModel" "toldHigh" "[J") (List.mem_of_getElem? (i := 3) rfl)) (fun _ h9 => h9) rfl dX8_quotient_101 ?_
  refine lv_bipush (v := 25) hx hb dX8_quotient_104 (by decide) ?_
  refine lv_iload_n hx hb dX8_quotient_106 rfl (lv_at hl 5 rfl) ?_
  refine lv_imul hx hb dX8_quotient_107 ?_
  refine g_topi (pk_mul 25 k) ?_
  refine lv_iload_n hx hb dX8_quotient_108 rfl (lv_at hl 6 rfl) ?_
  refine lv_iadd hx hb dX8_quotient_109 ?_
  refine g_topi (nI_add (25 * k) p) ?_
  refine g_lald (k := (25 * k) + p) hx hb hK.1 hP 17 1 rfl rfl (by omega) (by decide) dX8_quotient_110 ?_
  refine lv_lstore (lv' := [(10, .long (th ((25 * k) + p))), (8, .long (jshl 1 (nI p))), (6, .long (tl ((25 * k) + p))), (5, .int 1), (4, .int (gB (sp_X8_isProgram pn (nI k)))), (0, .ref h), (1, .int (nI k)), (2, .int (nI p)), (3, .int (nI d))]) hx hb dX8_quotient_111 hl (by decide) rfl (fun ls hl => ?_)
  refine lv_lload hx hb dX8_quotient_113 (lv_at hl 1 rfl) ?_
  refine lv_lstore (lv' := [(12, .long (jshl 1 (nI p))), (10, .long (th ((25 * k) + p))), (8, .long (jshl 1 (nI p))), (6, .long (tl ((25 * k) + p))), (5, .int 1), (4, .int (gB (sp_X8_isProgram pn (nI k)))), (0, .ref h), (1, .int (nI k)), (2, .int (nI p)), (3, .int (nI d))]) hx hb dX8_quotient_115 hl (by decide) rfl (fun ls hl => ?_)
  refine lv_lload hx hb dX8_quotient_117 (lv_at hl 3 rfl) ?_
  refine lv_lload hx hb dX8_quotient_119 (lv_at hl 2 rfl) ?_
  refine g_callR (v0 := .long (sp_X8_cut (tl ((25 * k) + p)) (jshl 1 (nI p)))) (va_runS (As := [.long (tl ((25 * k) + p)), .long (jshl 1 (nI p))]) (rest := []) ⟨hx, hb, hml, hown, hts⟩ (c_X8_cut l D y H.size (tl ((25 * k) + p)) (jshl 1 (nI p)) (gU_ne (by omega))) (va_cwS 2 hts gX8_quotient_X8_cut rfl rfl rfl (by decide +kernel) ⟨Nat.le_of_ble_eq_true rfl, Nat.le_of_ble_eq_true rfl⟩) (gP_S hP hD hK [] (by decide) rfl) rfl rfl hl.1 rfl (lv_room (Nat.le_of_ble_eq_true rfl)) dX8_quotient_121 ⟨Nat.zero_le _, Nat.zero_le _⟩) ?_
  refine lv_lstore (lv' := [(14, .long (sp_X8_cut (tl ((25 * k) + p)) (jshl 1 (nI p)))), (12, .long (jshl 1 (nI p))), (10, .long (th ((25 * k) + p))), (8, .long (jshl 1 (nI p))), (6, .long (tl ((25 * k) + p))), (5, .int 1), (4, .int (gB (sp_X8_isProgram pn (nI k)))), (0, .ref h), (1, .int (nI k)), (2, .int (nI p)), (3, .int (nI d))]) hx hb dX8_quotient_124 hl (by decide) rfl (fun ls hl => ?_)
  refine lv_lload hx hb dX8_quotient_126 (lv_at hl 0 rfl) ?_
  refine lv_lload hx hb dX8_quotient_128 (lv_at hl 2 rfl) ?_
  refine lv_lload hx hb dX8_quotient_130 (lv_at hl 1 rfl) ?_
  refine g_callR (v0 := .long (sp_X8_cut (th ((25 * k) + p)) (jshl 1 (nI p)))) (va_runS (As := [.long (th ((25 * k) + p)), .long (jshl 1 (nI p))]) (rest := [.long (sp_X8_cut (tl ((25 * k) + p)) (jshl 1 (nI p)))]) ⟨hx, hb, hml, hown, hts⟩ (c_X8_cut l D y H.size (th ((25 * k) + p)) (jshl 1 (nI p)) (gU_ne (by omega))) (va_cwS 2 hts gX8_quotient_X8_cut rfl rfl rfl (by decide +kernel) ⟨Nat.le_of_ble_eq_true rfl, Nat.le_of_ble_eq_true rfl⟩) (gP_S hP hD hK [] (by decide) rfl) rfl rfl hl.1 rfl (lv_room (Nat.le_of_ble_eq_true rfl)) dX8_quotient_132 ⟨Nat.zero_le _, Nat.zero_le _⟩) ?_
  refine g_ne (tgt := 143) hx hb dX8_quotient_135 dX8_quotient_136 (by decide) (fun c_135 => ?_) (fun c_135 => ?_)
  · skip
    refine lv_iconst (v := 0) hx hb dX8_quotient_143 (by decide) ?_
    refine lv_istore (lv' := [(16, .int 0), (14, .long (sp_X8_cut (tl ((25 * k) + p)) (jshl 1 (nI p)))), (12, .long (jshl 1 (nI p))), (10, .long (th ((25 * k) + p))), (8, .long (jshl 1 (nI p))), (6, .long (tl ((25 * k) + p))), (5, .int 1), (4, .int (gB (sp_X8_isProgram pn (nI k)))), (0, .ref h), (1, .int (nI k)), (2, .int (nI p)), (3, .int (nI d))]) hx hb dX8_quotient_144 hl (by decide) rfl (fun ls hl => ?_)
    refine lv_iconst (v := 0) hx hb dX8_quotient_146 (by decide) ?_
    refine lv_istore (lv' := [(17, .int 0), (16, .int 0), (14, .long (sp_X8_cut (tl ((25 * k) + p)) (jshl 1 (nI p)))), (12, .long (jshl 1 (nI p))), (10, .long (th ((25 * k) + p))), (8, .long (jshl 1 (nI p))), (6, .long (tl ((25 * k) + p))), (5, .int 1), (4, .int (gB (sp_X8_isProgram pn (nI k)))), (0, .ref h), (1, .int (nI k)), (2, .int (nI p)), (3, .int (nI d))]) hx hb dX8_quotient_147 hl (by decide) rfl (fun ls hl => ?_)
    have LOOP149 : ∀ (n : Nat) (j : Nat) (P : Int64) (Q : Int64) (R9 : Int64) (S9 : Int64) (T9 : Int64) (sr : Bool), (j + n = d) → (quF n P Q R9 S9 T9 sr = quR tl th k p d) → ∀ (H : Heap) (locs : List Loc), va_P D vwCl (wM y h q 0 pn ki on ot ab be zA zB zC zD zF zT fo lw hg at_ tl th wo wl wh is_ lo_ hi_ di su an) H → va_D A (wM y h q 0 pn ki on ot ab be zA zB zC zD zF zT fo lw hg at_ tl th wo wl wh is_ lo_ hi_ di su an) → va_S A s.heap H locs → ∀ (ls : Array Slot), lv_has ls 22 [(0, .ref h), (1, .int (nI k)), (2, .int (nI p)), (3, .int (nI d)), (6, .long P), (8, .long Q), (10, .long R9), (12, .long S9), (14, .long T9), (16, .int (gB sr)), (17, .int (nI j))] → W pg l e (headSpec wsX8_quotient ({ frames := 2, cells := 0, slots := 0, locals := 43 } : Room)).room s m (([.ref h, .int (nI k), .int (nI p), .int (nI d)] : List Value).toArray) below meth c H locs 0 0 (MQ below (gQ D (wM y h q tw pn ki on ot ab be zA zB zC zD zF zT fo lw hg at_ tl th wo wl wh is_ lo_ hi_ di su an) (gF (some (.int ((quR tl th k p d).2.toInt32))) (wM y h q 0 pn ki on ot ab be zA zB zC zD zF zT fo lw hg at_ tl th wo wl wh is_ lo_ hi_ di su an))) (([.ref h, .int (nI k), .int (nI p), .int (nI d)] : List Value).toArray) s 0 0 (va_A (wM y h q tw pn ki on ot ab be zA zB zC zD zF zT fo lw hg at_ tl th wo wl wh is_ lo_ hi_ di su an) s.heap.size)) (F0 m 149 ls []) := by
      intro n
      induction n with
      | zero =>
        intro j P Q R9 S9 T9 sr hj hF H locs hP hD hS ls hl
        refine lv_iload hx hb dX8_quotient_149 (lv_at hl 10 rfl) ?_
        refine lv_iload_n hx hb dX8_quotient_151 rfl (lv_at hl 3 rfl) ?_
        refine lv_icmp_ge (tgt := 257) hx hb dX8_quotient_152 (by decide) (fun c_152 => ?_) (fun c_152 => absurd (nI_le (by omega) (by omega)) c_152)
        have hR9 : (sr, T9) = quR tl th k p d := hF
        have e16 : sr = (quR tl th k p d).1 := congrArg Prod.fst hR9
        have e14 : T9 = (quR tl th k p d).2 := congrArg Prod.snd hR9
        rw [e16, e14] at hl
        refine lv_aload_n hx hb dX8_quotient_257 rfl (lv_at hl 0 rfl) ?_
        refine lv_iload hx hb dX8_quotient_258 (lv_at hl 9 rfl) ?_
        refine g_beq (tgt := 267) hx hb dX8_quotient_260 (by decide) (fun c_260 => absurd hs c_260) (fun c_260 => ?_)
        refine lv_iconst (v := 0) hx hb dX8_quotient_263 (by decide) ?_
        refine lv_goto (tgt := 268) hx hb dX8_quotient_264 (by decide) ?_
        refine g_callA1 (v0 := .int (gB (sp_X8_holds 0))) (w0 := wM y h q 0 pn ki on ot ab be zA zB zC zD zF zT fo lw hg at_ tl th wo wl wh is_ lo_ hi_ di su an) (va_runV (As := [.int 0]) (rest := []) ⟨hx, hb, hml, hown, hts⟩ (c_X8_holds l D y H.size h q 0 pn ki on ot ab be zA zB zC zD zF zT fo lw hg at_ tl th wo wl wh is_ lo_ hi_ di su an 0) (cwV 1 hts gX8_quotient_X8_holds rfl rfl rfl (by decide +kernel) ⟨Nat.le_of_ble_eq_true rfl, Nat.le_of_ble_eq_true rfl⟩) (gP_VA hP hD hK 0 rfl rfl) rfl rfl hl.1 rfl (lv_room (Nat.le_of_ble_eq_true rfl)) dX8_quotient_268 ⟨Nat.zero_le _, Nat.zero_le _⟩) hP hD hS hA rfl (fun H locs hP hD hS => ?_)
        refine g_beq (tgt := 280) hx hb dX8_quotient_271 (by decide) (fun c_271 => absurd (by decide) c_271) (fun c_271 => ?_)
        refine lv_lload hx hb dX8_quotient_274 (lv_at hl 8 rfl) ?_
        refine lv_l2i (v := ((quR tl th k p d).2).toInt32) hx hb dX8_quotient_276 rfl ?_
        refine lv_goto (tgt := 281) hx hb dX8_quotient_277 (by decide) ?_
        exact W.iret (v := ((quR tl th k p d).2).toInt32) hx hb hr (fun t ht hW => ⟨⟨_, wM y h q 0 pn ki on ot ab be zA zB zC zD zF zT fo lw hg at_ tl th wo wl wh is_ lo_ hi_ di su an, rfl, ⟨congrArg (fun z => some (Value.int z)) (rfl), rfl⟩, rfl, by rw [ht]; exact hP⟩, by rw [← hAe]; exact hS.F ht⟩) (by rw [← hAe]; exact hS.2.2) dX8_quotient_281
      | succ n ih149 =>
        intro j P Q R9 S9 T9 sr hj hF H locs hP hD hS ls hl
        refine lv_iload hx hb dX8_quotient_149 (lv_at hl 10 rfl) ?_
        refine lv_iload_n hx hb dX8_quotient_151 rfl (lv_at hl 3 rfl) ?_
        refine lv_icmp_ge (tgt := 257) hx hb dX8_quotient_152 (by decide) (fun c_152 => absurd c_152 (nI_ge (by omega) (by omega))) (fun c_152 => ?_)
        refine lv_iload hx hb dX8_quotient_155 (lv_at hl 9 rfl) ?_
        refine g_beq (tgt := 257) hx hb dX8_quotient_157 (by decide) (fun c_157 => ?_) (fun c_157 => ?_)
        · skip
          have hR9 : (sr, T9) = quR tl th k p d := by rw [← hF]; show _ = (if _ then _ else _); rw [if_neg c_157]
          have e16 : sr = (quR tl th k p d).1 := congrArg Prod.fst hR9
          have e14 : T9 = (quR tl th k p d).2 := congrArg Prod.snd hR9
          rw [e16, e14] at hl
          refine lv_aload_n hx hb dX8_quotient_257 rfl (lv_at hl 0 rfl) ?_
          refine lv_iload hx hb dX8_quotient_258 (lv_at hl 9 rfl) ?_
          refine g_beq (tgt := 267) hx hb dX8_quotient_260 (by decide) (fun c_260 => absurd hs c_260) (fun c_260 => ?_)
          refine lv_iconst (v := 0) hx hb dX8_quotient_263 (by decide) ?_
          refine lv_goto (tgt := 268) hx hb dX8_quotient_264 (by decide) ?_
          refine g_callA1 (v0 := .int (gB (sp_X8_holds 0))) (w0 := wM y h q 0 pn ki on ot ab be zA zB zC zD zF zT fo lw hg at_ tl th wo wl wh is_ lo_ hi_ di su an) (va_runV (As := [.int 0]) (rest := []) ⟨hx, hb, hml, hown, hts⟩ (c_X8_holds l D y H.size h q 0 pn ki on ot ab be zA zB zC zD zF zT fo lw hg at_ tl th wo wl wh is_ lo_ hi_ di su an 0) (cwV 1 hts gX8_quotient_X8_holds rfl rfl rfl (by decide +kernel) ⟨Nat.le_of_ble_eq_true rfl, Nat.le_of_ble_eq_true rfl⟩) (gP_VA hP hD hK 0 rfl rfl) rfl rfl hl.1 rfl (lv_room (Nat.le_of_ble_eq_true rfl)) dX8_quotient_268 ⟨Nat.zero_le _, Nat.zero_le _⟩) hP hD hS hA rfl (fun H locs hP hD hS => ?_)
          refine g_beq (tgt := 280) hx hb dX8_quotient_271 (by decide) (fun c_271 => absurd (by decide) c_271) (fun c_271 => ?_)
          refine lv_lload hx hb dX8_quotient_274 (lv_at hl 8 rfl) ?_
          refine lv_l2i (v := ((quR tl th k p d).2).toInt32) hx hb dX8_quotient_276 rfl ?_
          refine lv_goto (tgt := 281) hx hb dX8_quotient_277 (by decide) ?_
          exact W.iret (v := ((quR tl th k p d).2).toInt32) hx hb hr (fun t ht hW => ⟨⟨_, wM y h q 0 pn ki on ot ab be zA zB zC zD zF zT fo lw hg at_ tl th wo wl wh is_ lo_ hi_ di su an, rfl, ⟨congrArg (fun z => some (Value.int z)) (rfl), rfl⟩, rfl, by rw [ht]; exact hP⟩, by rw [← hAe]; exact hS.F ht⟩) (by rw [← hAe]; exact hS.2.2) dX8_quotient_281
        · skip
          refine lv_lload hx hb dX8_quotient_160 (lv_at hl 4 rfl) ?_
          refine lv_lload hx hb dX8_quotient_162 (lv_at hl 8 rfl) ?_
          refine lv_lload hx hb dX8_quotient_164 (lv_at hl 5 rfl) ?_
          refine lv_lmul hx hb dX8_quotient_166 ?_
          refine lv_lsub hx hb dX8_quotient_167 ?_
          refine lv_lstore (lv' := [(18, .long (P - (T9 * Q))), (0, .ref h), (1, .int (nI k)), (2, .int (nI p)), (3, .int (nI d)), (6, .long P), (8, .long Q), (10, .long R9), (12, .long S9), (14, .long T9), (16, .int (gB sr)), (17, .int (nI j))]) hx hb dX8_quotient_168 hl (by decide) rfl (fun ls hl => ?_)
          refine lv_lload hx hb dX8_quotient_170 (lv_at hl 7 rfl) ?_
          refine lv_lload hx hb dX8_quotient_172 (lv_at hl 9 rfl) ?_
          refine lv_lload hx hb dX8_quotient_174 (lv_at hl 8 rfl) ?_
          refine lv_lmul hx hb dX8_quotient_176 ?_
          refine lv_lsub hx hb dX8_quotient_177 ?_
          refine lv_lstore (lv' := [(20, .long (R9 - (T9 * S9))), (18, .long (P - (T9 * Q))), (0, .ref h), (1, .int (nI k)), (2, .int (nI p)), (3, .int (nI d)), (6, .long P), (8, .long Q), (10, .long R9), (12, .long S9), (14, .long T9), (16, .int (gB sr)), (17, .int (nI j))]) hx hb dX8_quotient_178 hl (by decide) rfl (fun ls hl => ?_)
          refine lv_lload hx hb dX8_quotient_180 (lv_at hl 1 rfl) ?_
          refine lv_lconst (v := 0) hx hb dX8_quotient_182 (by decide) ?_
          refine g_le (tgt := 198) hx hb dX8_quotient_183 dX8_quotient_184 (by decide) (fun c_183 => ?_) (fun c_183 => ?_)
          · skip
            refine lv_iconst (v := 0) hx hb dX8_quotient_198 (by decide) ?_
            refine lv_istore (lv' := [(16, .int 0), (20, .long (R9 - (T9 * S9))), (18, .long (P - (T9 * Q))), (0, .ref h), (1, .int (nI k)), (2, .int (nI p)), (3, .int (nI d)), (6, .long P), (8, .long Q), (10, .long R9), (12, .long S9), (14, .long T9), (17, .int (nI j))]) hx hb dX8_quotient_199 hl (by decide) rfl (fun ls hl => ?_)
            refine lv_iload hx hb dX8_quotient_201 (lv_at hl 0 rfl) ?_
            refine lv_if_eq (tgt := 251) hx hb dX8_quotient_203 (by decide) (fun c_203 => ?_) (fun c_203 => absurd c_203 (by decide))
            refine lv_iinc (v := nI (j + 1)) (lv' := [(17, .int (nI (j + 1))), (16, .int 0), (20, .long (R9 - (T9 * S9))), (18, .long (P - (T9 * Q))), (0, .ref h), (1, .int (nI k)), (2, .int (nI p)), (3, .int (nI d)), (6, .long P), (8, .long Q), (10, .long R9), (12, .long S9), (14, .long T9)]) hx hb dX8_quotient_251 hl (k := 12) rfl (nI_add j 1) (by decide) rfl (fun ls hl => ?_)
            refine lv_goto (tgt := 149) hx hb dX8_quotient_254 (by decide) ?_
            exact ih149 (j + 1) P Q R9 S9 T9 false (by omega) (by rw [← hF]; show _ = (if _ then _ else _); rw [if_pos c_157]; simp only [if_pos c_183]) _ _ hP hD hS ls (lv_sub hl [4, 5, 6, 7, 8, 9, 10, 11, 12, 1, 0] rfl)
          · skip
            refine lv_lload hx hb dX8_quotient_187 (lv_at hl 0 rfl) ?_
            refine lv_lconst (v := 0) hx hb dX8_quotient_189 (by decide) ?_
            refine g_le (tgt := 198) hx hb dX8_quotient_190 dX8_quotient_191 (by decide) (fun c_190 => ?_) (fun c_190 => ?_)
            · skip
              refine lv_iconst (v := 0) hx hb dX8_quotient_198 (by decide) ?_
              refine lv_istore (lv' := [(16, .int 0), (20, .long (R9 - (T9 * S9))), (18, .long (P - (T9 * Q))), (0, .ref h), (1, .int (nI k)), (2, .int (nI p)), (3, .int (nI d)), (6, .long P), (8, .long Q), (10, .long R9), (12, .long S9), (14, .long T9), (17, .int (nI j))]) hx hb dX8_quotient_199 hl (by decide) rfl (fun ls hl => ?_)
              refine lv_iload hx hb dX8_quotient_201 (lv_at hl 0 rfl) ?_
              refine lv_if_eq (tgt := 251) hx hb dX8_quotient_203 (by decide) (fun c_203 => ?_) (fun c_203 => absurd c_203 (by decide))
              refine lv_iinc (v := nI (j + 1)) (lv' := [(17, .int (nI (j + 1))), (16, .int 0), (20, .long (R9 - (T9 * S9))), (18, .long (P - (T9 * Q))), (0, .ref h), (1, .int (nI k)), (2, .int (nI p)), (3, .int (nI d)), (6, .long P), (8, .long Q), (10, .long R9), (12, .long S9), (14, .long T9)]) hx hb dX8_quotient_251 hl (k := 12) rfl (nI_add j 1) (by decide) rfl (fun ls hl => ?_)
              refine lv_goto (tgt := 149) hx hb dX8_quotient_254 (by decide) ?_
              exact ih149 (j + 1) P Q R9 S9 T9 false (by omega) (by rw [← hF]; show _ = (if _ then _ else _); rw [if_pos c_157]; simp only [if_neg c_183, if_pos c_190]) _ _ hP hD hS ls (lv_sub hl [4, 5, 6, 7, 8, 9, 10, 11, 12, 1, 0] rfl)
            · skip
              refine lv_iconst (v := 1) hx hb dX8_quotient_194 (by decide) ?_
              refine lv_goto (tgt := 199) hx hb dX8_quotient_195 (by decide) ?_
              refine lv_istore (lv' := [(16, .int 1), (20, .long (R9 - (T9 * S9))), (18, .long (P - (T9 * Q))), (0, .ref h), (1, .int (nI k)), (2, .int (nI p)), (3, .int (nI d)), (6, .long P), (8, .long Q), (10, .long R9), (12, .long S9), (14, .long T9), (17, .int (nI j))]) hx hb dX8_quotient_199 hl (by decide) rfl (fun ls hl => ?_)
              refine lv_iload hx hb dX8_quotient_201 (lv_at hl 0 rfl) ?_
              refine lv_if_eq (tgt := 251) hx hb dX8_quotient_203 (by decide) (fun c_203 => absurd c_203 (by decide)) (fun c_203 => ?_)
              refine lv_lload hx hb dX8_quotient_206 (lv_at hl 8 rfl) ?_
              refine lv_lstore (lv' := [(6, .long Q), (16, .int 1), (20, .long (R9 - (T9 * S9))), (18, .long (P - (T9 * Q))), (0, .ref h), (1, .int (nI k)), (2, .int (nI p)), (3, .int (nI d)), (8, .long Q), (10, .long R9), (12, .long S9), (14, .long T9), (17, .int (nI j))]) hx hb dX8_quotient_208 hl (by decide) rfl (fun ls hl => ?_)
              refine lv_lload hx hb dX8_quotient_210 (lv_at hl 3 rfl) ?_
              refine lv_lstore (lv' := [(8, .long (P - (T9 * Q))), (6, .long Q), (16, .int 1), (20, .long (R9 - (T9 * S9))), (18, .long (P - (T9 * Q))), (0, .ref h), (1, .int (nI k)), (2, .int (nI p)), (3, .int (nI d)), (10, .long R9), (12, .long S9), (14, .long T9), (17, .int (nI j))]) hx hb dX8_quotient_212 hl (by decide) rfl (fun ls hl => ?_)
              refine lv_lload hx hb dX8_quotient_214 (lv_at hl 10 rfl) ?_
              refine lv_lstore (lv' := [(10, .long S9), (8, .long (P - (T9 * Q))), (6, .long Q), (16, .int 1), (20, .long (R9 - (T9 * S9))), (18, .long (P - (T9 * Q))), (0, .ref h), (1, .int (nI k)), (2, .int (nI p)), (3, .int (nI d)), (12, .long S9), (14, .long T9), (17, .int (nI j))]) hx hb dX8_quotient_216 hl (by decide) rfl (fun ls hl => ?_)
              refine lv_lload hx hb dX8_quotient_218 (lv_at hl 4 rfl) ?_
              refine lv_lstore (lv' := [(12, .long (R9 - (T9 * S9))), (10, .long S9), (8, .long (P - (T9 * Q))), (6, .long Q), (16, .int 1), (20, .long (R9 - (T9 * S9))), (18, .long (P - (T9 * Q))), (0, .ref h), (1, .int (nI k)), (2, .int (nI p)), (3, .int (nI d)), (14, .long T9), (17, .int (nI j))]) hx hb dX8_quotient_220 hl (by decide) rfl (fun ls hl => ?_)
              refine lv_lload hx hb dX8_quotient_222 (lv_at hl 3 rfl) ?_
              refine lv_lload hx hb dX8_quotient_224 (lv_at hl 2 rfl) ?_
              refine g_callR (v0 := .long (sp_X8_cut Q (P - (T9 * Q)))) (va_runS (As := [.long Q, .long (P - (T9 * Q))]) (rest := []) ⟨hx, hb, hml, hown, hts⟩ (c_X8_cut l D y H.size Q (P - (T9 * Q)) (g_ne0 c_183)) (va_cwS 2 hts gX8_quotient_X8_cut rfl rfl rfl (by decide +kernel) ⟨Nat.le_of_ble_eq_true rfl, Nat.le_of_ble_eq_true rfl⟩) (gP_S hP hD hK [] (by decide) rfl) rfl rfl hl.1 rfl (lv_room (Nat.le_of_ble_eq_true rfl)) dX8_quotient_226 ⟨Nat.zero_le _, Nat.zero_le _⟩) ?_
              refine lv_lstore (lv' := [(14, .long (sp_X8_cut Q (P - (T9 * Q)))), (12, .long (R9 - (T9 * S9))), (10, .long S9), (8, .long (P - (T9 * Q))), (6, .long Q), (16, .int 1), (20, .long (R9 - (T9 * S9))), (18, .long (P - (T9 * Q))), (0, .ref h), (1, .int (nI k)), (2, .int (nI p)), (3, .int (nI d)), (17, .int (nI j))]) hx hb dX8_quotient_229 hl (by decide) rfl (fun ls hl => ?_)
              refine lv_lload hx hb dX8_quotient_231 (lv_at hl 0 rfl) ?_
              refine lv_lload hx hb dX8_quotient_233 (lv_at hl 2 rfl) ?_
              refine lv_lload hx hb dX8_quotient_235 (lv_at hl 1 rfl) ?_
              refine g_callR (v0 := .long (sp_X8_cut S9 (R9 - (T9 * S9)))) (va_runS (As := [.long S9, .long (R9 - (T9 * S9))]) (rest := [.long (sp_X8_cut Q (P - (T9 * Q)))]) ⟨hx, hb, hml, hown, hts⟩ (c_X8_cut l D y H.size S9 (R9 - (T9 * S9)) (g_ne0 c_190)) (va_cwS 2 hts gX8_quotient_X8_cut rfl rfl rfl (by decide +kernel) ⟨Nat.le_of_ble_eq_true rfl, Nat.le_of_ble_eq_true rfl⟩) (gP_S hP hD hK [] (by decide) rfl) rfl rfl hl.1 rfl (lv_room (Nat.le_of_ble_eq_true rfl)) dX8_quotient_237 ⟨Nat.zero_le _, Nat.zero_le _⟩) ?_
              refine g_ne (tgt := 248) hx hb dX8_quotient_240 dX8_quotient_241 (by decide) (fun c_240 => ?_) (fun c_240 => ?_)
              · skip
                refine lv_iconst (v := 0) hx hb dX8_quotient_248 (by decide) ?_
                refine lv_istore (lv' := [(16, .int 0), (14, .long (sp_X8_cut Q (P - (T9 * Q)))), (12, .long (R9 - (T9 * S9))), (10, .long S9), (8, .long (P - (T9 * Q))), (6, .long Q), (20, .long (R9 - (T9 * S9))), (18, .long (P - (T9 * Q))), (0, .ref h), (1, .int (nI k)), (2, .int (nI p)), (3, .int (nI d)), (17, .int (nI j))]) hx hb dX8_quotient_249 hl (by decide) rfl (fun ls hl => ?_)
                refine lv_iinc (v := nI (j + 1)) (lv' := [(17, .int (nI (j + 1))), (16, .int 0), (14, .long (sp_X8_cut Q (P - (T9 * Q)))), (12, .long (R9 - (T9 * S9))), (10, .long S9), (8, .long (P - (T9 * Q))), (6, .long Q), (20, .long (R9 - (T9 * S9))), (18, .long (P - (T9 * Q))), (0, .ref h), (1, .int (nI k)), (2, .int (nI p)), (3, .int (nI d))]) hx hb dX8_quotient_251 hl (k := 12) rfl (nI_add j 1) (by decide) rfl (fun ls hl => ?_)
                refine lv_goto (tgt := 149) hx hb dX8_quotient_254 (by decide) ?_
                exact ih149 (j + 1) Q (P - (T9 * Q)) S9 (R9 - (T9 * S9)) (sp_X8_cut Q (P - (T9 * Q))) false (by omega) (by rw [← hF]; show _ = (if _ then _ else _); rw [if_pos c_157]; simp only [if_neg c_183, if_neg c_190, if_neg c_240]) _ _ hP hD hS ls (lv_sub hl [9, 10, 11, 12, 6, 5, 4, 3, 2, 1, 0] rfl)
              · skip
                refine lv_iconst (v := 1) hx hb dX8_quotient_244 (by decide) ?_
                refine lv_goto (tgt := 249) hx hb dX8_quotient_245 (by decide) ?_
                refine lv_istore (lv' := [(16, .int 1), (14, .long (sp_X8_cut Q (P - (T9 * Q)))), (12, .long (R9 - (T9 * S9))), (10, .long S9), (8, .long (P - (T9 * Q))), (6, .long Q), (20, .long (R9 - (T9 * S9))), (18, .long (P - (T9 * Q))), (0, .ref h), (1, .int (nI k)), (2, .int (nI p)), (3, .int (nI d)), (17, .int (nI j))]) hx hb dX8_quotient_249 hl (by decide) rfl (fun ls hl => ?_)
                refine lv_iinc (v := nI (j + 1)) (lv' := [(17, .int (nI (j + 1))), (16, .int 1), (14, .long (sp_X8_cut Q (P - (T9 * Q)))), (12, .long (R9 - (T9 * S9))), (10, .long S9), (8, .long (P - (T9 * Q))), (6, .long Q), (20, .long (R9 - (T9 * S9))), (18, .long (P - (T9 * Q))), (0, .ref h), (1, .int (nI k)), (2, .int (nI p)), (3, .int (nI d))]) hx hb dX8_quotient_251 hl (k := 12) rfl (nI_add j 1) (by decide) rfl (fun ls hl => ?_)
                refine lv_goto (tgt := 149) hx hb dX8_quotient_254 (by decide) ?_
                exact ih149 (j + 1) Q (P - (T9 * Q)) S9 (R9 - (T9 * S9)) (sp_X8_cut Q (P - (T9 * Q))) true (by omega) (by rw [← hF]; show _ = (if _ then _ else _); rw [if_pos c_157]; simp only [if_neg c_183, if_neg c_190, if_pos c_240]) _ _ hP hD hS ls (lv_sub hl [9, 10, 11, 12, 6, 5, 4, 3, 2, 1, 0] rfl)
    exact LOOP149 d 0 (tl ((25 * k) + p)) (jshl 1 (nI p)) (th ((25 * k) + p)) (jshl 1 (nI p)) (sp_X8_cut (tl ((25 * k) + p)) (jshl 1 (nI p))) false (by omega) (by unfold quR; simp only [if_neg c_135]) _ _ hP hD hS ls (lv_sub hl [9, 10, 11, 12, 6, 5, 4, 3, 2, 1, 0] rfl)
  · skip
    refine lv_iconst (v := 1) hx hb dX8_quotient_139 (by decide) ?_
    refine lv_goto (tgt := 144) hx hb dX8_quotient_140 (by decide) ?_
    refine lv_istore (lv' := [(16, .int 1), (14, .long (sp_X8_cut (tl ((25 * k) + p)) (jshl 1 (nI p)))), (12, .long (jshl 1 (nI p))), (10, .long (th ((25 * k) + p))), (8, .long (jshl 1 (nI p))), (6, .long (tl ((25 * k) + p))), (5, .int 1), (4, .int (gB (sp_X8_isProgram pn (nI k)))), (0, .ref h), (1, .int (nI k)), (2, .int (nI p)), (3, .int (nI d))]) hx hb dX8_quotient_144 hl (by decide) rfl (fun ls hl => ?_)
    refine lv_iconst (v := 0) hx hb dX8_quotient_146 (by decide) ?_
    refine lv_istore (lv' := [(17, .int 0), (16, .int 1), (14, .long (sp_X8_cut (tl ((25 * k) + p)) (jshl 1 (nI p)))), (12, .long (jshl 1 (nI p))), (10, .long (th ((25 * k) + p))), (8, .long (jshl 1 (nI p))), (6, .long (tl ((25 * k) + p))), (5, .int 1), (4, .int (gB (sp_X8_isProgram pn (nI k)))), (0, .ref h), (1, .int (nI k)), (2, .int (nI p)), (3, .int (nI d))]) hx hb dX8_quotient_147 hl (by decide) rfl (fun ls hl => ?_)
    have LOOP149 : ∀ (n : Nat) (j : Nat) (P : Int64) (Q : Int64) (R9 : Int64) (S9 : Int64) (T9 : Int64) (sr : Bool), (j + n = d) → (quF n P Q R9 S9 T9 sr = quR tl th k p d) → ∀ (H : Heap) (locs : List Loc), va_P D vwCl (wM y h q 0 pn ki on ot ab be zA zB zC zD zF zT fo lw hg at_ tl th wo wl wh is_ lo_ hi_ di su an) H → va_D A (wM y h q 0 pn ki on ot ab be zA zB zC zD zF zT fo lw hg at_ tl th wo wl wh is_ lo_ hi_ di su an) → va_S A s.heap H locs → ∀ (ls : Array Slot), lv_has ls 22 [(0, .ref h), (1, .int (nI k)), (2, .int (nI p)), (3, .int (nI d)), (6, .long P), (8, .long Q), (10, .long R9), (12, .long S9), (14, .long T9), (16, .int (gB sr)), (17, .int (nI j))] → W pg l e (headSpec wsX8_quotient ({ frames := 2, cells := 0, slots := 0, locals := 43 } : Room)).room s m (([.ref h, .int (nI k), .int (nI p), .int (nI d)] : List Value).toArray) below meth c H locs 0 0 (MQ below (gQ D (wM y h q tw pn ki on ot ab be zA zB zC zD zF zT fo lw hg at_ tl th wo wl wh is_ lo_ hi_ di su an) (gF (some (.int ((quR tl th k p d).2.toInt32))) (wM y h q 0 pn ki on ot ab be zA zB zC zD zF zT fo lw hg at_ tl th wo wl wh is_ lo_ hi_ di su an))) (([.ref h, .int (nI k), .int (nI p), .int (nI d)] : List Value).toArray) s 0 0 (va_A (wM y h q tw pn ki on ot ab be zA zB zC zD zF zT fo lw hg at_ tl th wo wl wh is_ lo_ hi_ di su an) s.heap.size)) (F0 m 149 ls []) := by
      intro n
      induction n with
      | zero =>
        intro j P Q R9 S9 T9 sr hj hF H locs hP hD hS ls hl
        refine lv_iload hx hb dX8_quotient_149 (lv_at hl 10 rfl) ?_
        refine lv_iload_n hx hb dX8_quotient_151 rfl (lv_at hl 3 rfl) ?_
        refine lv_icmp_ge (tgt := 257) hx hb dX8_quotient_152 (by decide) (fun c_152 => ?_) (fun c_152 => absurd (nI_le (by omega) (by omega)) c_152)
        have hR9 : (sr, T9) = quR tl th k p d := hF
        have e16 : sr = (quR tl th k p d).1 := congrArg Prod.fst hR9
        have e14 : T9 = (quR tl th k p d).2 := congrArg Prod.snd hR9
        rw [e16, e14] at hl
        refine lv_aload_n hx hb dX8_quotient_257 rfl (lv_at hl 0 rfl) ?_
        refine lv_iload hx hb dX8_quotient_258 (lv_at hl 9 rfl) ?_
        refine g_beq (tgt := 267) hx hb dX8_quotient_260 (by decide) (fun c_260 => absurd hs c_260) (fun c_260 => ?_)
        refine lv_iconst (v := 0) hx hb dX8_quotient_263 (by decide) ?_
        refine lv_goto (tgt := 268) hx hb dX8_quotient_264 (by decide) ?_
        refine g_callA1 (v0 := .int (gB (sp_X8_holds 0))) (w0 := wM y h q 0 pn ki on ot ab be zA zB zC zD zF zT fo lw hg at_ tl th wo wl wh is_ lo_ hi_ di su an) (va_runV (As := [.int 0]) (rest := []) ⟨hx, hb, hml, hown, hts⟩ (c_X8_holds l D y H.size h q 0 pn ki on ot ab be zA zB zC zD zF zT fo lw hg at_ tl th wo wl wh is_ lo_ hi_ di su an 0) (cwV 1 hts gX8_quotient_X8_holds rfl rfl rfl (by decide +kernel) ⟨Nat.le_of_ble_eq_true rfl, Nat.le_of_ble_eq_true rfl⟩) (gP_VA hP hD hK 0 rfl rfl) rfl rfl hl.1 rfl (lv_room (Nat.le_of_ble_eq_true rfl)) dX8_quotient_268 ⟨Nat.zero_le _, Nat.zero_le _⟩) hP hD hS hA rfl (fun H locs hP hD hS => ?_)
        refine g_beq (tgt := 280) hx hb dX8_quotient_271 (by decide) (fun c_271 => absurd (by decide) c_271) (fun c_271 => ?_)
        refine lv_lload hx hb dX8_quotient_274 (lv_at hl 8 rfl) ?_
        refine lv_l2i (v := ((quR tl th k p d).2).toInt32) hx hb dX8_quotient_276 rfl ?_
        refine lv_goto (tgt := 281) hx hb dX8_quotient_277 (by decide) ?_
        exact W.iret (v := ((quR tl th k p d).2).toInt32) hx hb hr (fun t ht hW => ⟨⟨_, wM y h q 0 pn ki on ot ab be zA zB zC zD zF zT fo lw hg at_ tl th wo wl wh is_ lo_ hi_ di su an, rfl, ⟨congrArg (fun z => some (Value.int z)) (rfl), rfl⟩, rfl, by rw [ht]; exact hP⟩, by rw [← hAe]; exact hS.F ht⟩) (by rw [← hAe]; exact hS.2.2) dX8_quotient_281
      | succ n ih149 =>
        intro j P Q R9 S9 T9 sr hj hF H locs hP hD hS ls hl
        refine lv_iload hx hb dX8_quotient_149 (lv_at hl 10 rfl) ?_
        refine lv_iload_n hx hb dX8_quotient_151 rfl (lv_at hl 3 rfl) ?_
        refine lv_icmp_ge (tgt := 257) hx hb dX8_quotient_152 (by decide) (fun c_152 => absurd c_152 (nI_ge (by omega) (by omega))) (fun c_152 => ?_)
        refine lv_iload hx hb dX8_quotient_155 (lv_at hl 9 rfl) ?_
        refine g_beq (tgt := 257) hx hb dX8_quotient_157 (by decide) (fun c_157 => ?_) (fun c_157 => ?_)
        · skip
          have hR9 : (sr, T9) = quR tl th k p d := by rw [← hF]; show _ = (if _ then _ else _); rw [if_neg c_157]
          have e16 : sr = (quR tl th k p d).1 := congrArg Prod.fst hR9
          have e14 : T9 = (quR tl th k p d).2 := congrArg Prod.snd hR9
          rw [e16, e14] at hl
          refine lv_aload_n hx hb dX8_quotient_257 rfl (lv_at hl 0 rfl) ?_
          refine lv_iload hx hb dX8_quotient_258 (lv_at hl 9 rfl) ?_
          refine g_beq (tgt := 267) hx hb dX8_quotient_260 (by decide) (fun c_260 => absurd hs c_260) (fun c_260 => ?_)
          refine lv_iconst (v := 0) hx hb dX8_quotient_263 (by decide) ?_
          refine lv_goto (tgt := 268) hx hb dX8_quotient_264 (by decide) ?_
          refine g_callA1 (v0 := .int (gB (sp_X8_holds 0))) (w0 := wM y h q 0 pn ki on ot ab be zA zB zC zD zF zT fo lw hg at_ tl th wo wl wh is_ lo_ hi_ di su an) (va_runV (As := [.int 0]) (rest := []) ⟨hx, hb, hml, hown, hts⟩ (c_X8_holds l D y H.size h q 0 pn ki on ot ab be zA zB zC zD zF zT fo lw hg at_ tl th wo wl wh is_ lo_ hi_ di su an 0) (cwV 1 hts gX8_quotient_X8_holds rfl rfl rfl (by decide +kernel) ⟨Nat.le_of_ble_eq_true rfl, Nat.le_of_ble_eq_true rfl⟩) (gP_VA hP hD hK 0 rfl rfl) rfl rfl hl.1 rfl (lv_room (Nat.le_of_ble_eq_true rfl)) dX8_quotient_268 ⟨Nat.zero_le _, Nat.zero_le _⟩) hP hD hS hA rfl (fun H locs hP hD hS => ?_)
          refine g_beq (tgt := 280) hx hb dX8_quotient_271 (by decide) (fun c_271 => absurd (by decide) c_271) (fun c_271 => ?_)
          refine lv_lload hx hb dX8_quotient_274 (lv_at hl 8 rfl) ?_
          refine lv_l2i (v := ((quR tl th k p d).2).toInt32) hx hb dX8_quotient_276 rfl ?_
          refine lv_goto (tgt := 281) hx hb dX8_quotient_277 (by decide) ?_
          exact W.iret (v := ((quR tl th k p d).2).toInt32) hx hb hr (fun t ht hW => ⟨⟨_, wM y h q 0 pn ki on ot ab be zA zB zC zD zF zT fo lw hg at_ tl th wo wl wh is_ lo_ hi_ di su an, rfl, ⟨congrArg (fun z => some (Value.int z)) (rfl), rfl⟩, rfl, by rw [ht]; exact hP⟩, by rw [← hAe]; exact hS.F ht⟩) (by rw [← hAe]; exact hS.2.2) dX8_quotient_281
        · skip
          refine lv_lload hx hb dX8_quotient_160 (lv_at hl 4 rfl) ?_
          refine lv_lload hx hb dX8_quotient_162 (lv_at hl 8 rfl) ?_
          refine lv_lload hx hb dX8_quotient_164 (lv_at hl 5 rfl) ?_
          refine lv_lmul hx hb dX8_quotient_166 ?_
          refine lv_lsub hx hb dX8_quotient_167 ?_
          refine lv_lstore (lv' := [(18, .long (P - (T9 * Q))), (0, .ref h), (1, .int (nI k)), (2, .int (nI p)), (3, .int (nI d)), (6, .long P), (8, .long Q), (10, .long R9), (12, .long S9), (14, .long T9), (16, .int (gB sr)), (17, .int (nI j))]) hx hb dX8_quotient_168 hl (by decide) rfl (fun ls hl => ?_)
          refine lv_lload hx hb dX8_quotient_170 (lv_at hl 7 rfl) ?_
          refine lv_lload hx hb dX8_quotient_172 (lv_at hl 9 rfl) ?_
          refine lv_lload hx hb dX8_quotient_174 (lv_at hl 8 rfl) ?_
          refine lv_lmul hx hb dX8_quotient_176 ?_
          refine lv_lsub hx hb dX8_quotient_177 ?_
          refine lv_lstore (lv' := [(20, .long (R9 - (T9 * S9))), (18, .long (P - (T9 * Q))), (0, .ref h), (1, .int (nI k)), (2, .int (nI p)), (3, .int (nI d)), (6, .long P), (8, .long Q), (10, .long R9), (12, .long S9), (14, .long T9), (16, .int (gB sr)), (17, .int (nI j))]) hx hb dX8_quotient_178 hl (by decide) rfl (fun ls hl => ?_)
          refine lv_lload hx hb dX8_quotient_180 (lv_at hl 1 rfl) ?_
          refine lv_lconst (v := 0) hx hb dX8_quotient_182 (by decide) ?_
          refine g_le (tgt := 198) hx hb dX8_quotient_183 dX8_quotient_184 (by decide) (fun c_183 => ?_) (fun c_183 => ?_)
          · skip
            refine lv_iconst (v := 0) hx hb dX8_quotient_198 (by decide) ?_
            refine lv_istore (lv' := [(16, .int 0), (20, .long (R9 - (T9 * S9))), (18, .long (P - (T9 * Q))), (0, .ref h), (1, .int (nI k)), (2, .int (nI p)), (3, .int (nI d)), (6, .long P), (8, .long Q), (10, .long R9), (12, .long S9), (14, .long T9), (17, .int (nI j))]) hx hb dX8_quotient_199 hl (by decide) rfl (fun ls hl => ?_)
            refine lv_iload hx hb dX8_quotient_201 (lv_at hl 0 rfl) ?_
            refine lv_if_eq (tgt := 251) hx hb dX8_quotient_203 (by decide) (fun c_203 => ?_) (fun c_203 => absurd c_203 (by decide))
            refine lv_iinc (v := nI (j + 1)) (lv' := [(17, .int (nI (j + 1))), (16, .int 0), (20, .long (R9 - (T9 * S9))), (18, .long (P - (T9 * Q))), (0, .ref h), (1, .int (nI k)), (2, .int (nI p)), (3, .int (nI d)), (6, .long P), (8, .long Q), (10, .long R9), (12, .long S9), (14, .long T9)]) hx hb dX8_quotient_251 hl (k := 12) rfl (nI_add j 1) (by decide) rfl (fun ls hl => ?_)
            refine lv_goto (tgt := 149) hx hb dX8_quotient_254 (by decide) ?_
            exact ih149 (j + 1) P Q R9 S9 T9 false (by omega) (by rw [← hF]; show _ = (if _ then _ else _); rw [if_pos c_157]; simp only [if_pos c_183]) _ _ hP hD hS ls (lv_sub hl [4, 5, 6, 7, 8, 9, 10, 11, 12, 1, 0] rfl)
          · skip
            refine lv_lload hx hb dX8_quotient_187 (lv_at hl 0 rfl) ?_
            refine lv_lconst (v := 0) hx hb dX8_quotient_189 (by decide) ?_
            refine g_le (tgt := 198) hx hb dX8_quotient_190 dX8_quotient_191 (by decide) (fun c_190 => ?_) (fun c_190 => ?_)
            · skip
              refine lv_iconst (v := 0) hx hb dX8_quotient_198 (by decide) ?_
              refine lv_istore (lv' := [(16, .int 0), (20, .long (R9 - (T9 * S9))), (18, .long (P - (T9 * Q))), (0, .ref h), (1, .int (nI k)), (2, .int (nI p)), (3, .int (nI d)), (6, .long P), (8, .long Q), (10, .long R9), (12, .long S9), (14, .long T9), (17, .int (nI j))]) hx hb dX8_quotient_199 hl (by decide) rfl (fun ls hl => ?_)
              refine lv_iload hx hb dX8_quotient_201 (lv_at hl 0 rfl) ?_
              refine lv_if_eq (tgt := 251) hx hb dX8_quotient_203 (by decide) (fun c_203 => ?_) (fun c_203 => absurd c_203 (by decide))
              refine lv_iinc (v := nI (j + 1)) (lv' := [(17, .int (nI (j + 1))), (16, .int 0), (20, .long (R9 - (T9 * S9))), (18, .long (P - (T9 * Q))), (0, .ref h), (1, .int (nI k)), (2, .int (nI p)), (3, .int (nI d)), (6, .long P), (8, .long Q), (10, .long R9), (12, .long S9), (14, .long T9)]) hx hb dX8_quotient_251 hl (k := 12) rfl (nI_add j 1) (by decide) rfl (fun ls hl => ?_)
              refine lv_goto (tgt := 149) hx hb dX8_quotient_254 (by decide) ?_
              exact ih149 (j + 1) P Q R9 S9 T9 false (by omega) (by rw [← hF]; show _ = (if _ then _ else _); rw [if_pos c_157]; simp only [if_neg c_183, if_pos c_190]) _ _ hP hD hS ls (lv_sub hl [4, 5, 6, 7, 8, 9, 10, 11, 12, 1, 0] rfl)
            · skip
              refine lv_iconst (v := 1) hx hb dX8_quotient_194 (by decide) ?_
              refine lv_goto (tgt := 199) hx hb dX8_quotient_195 (by decide) ?_
              refine lv_istore (lv' := [(16, .int 1), (20, .long (R9 - (T9 * S9))), (18, .long (P - (T9 * Q))), (0, .ref h), (1, .int (nI k)), (2, .int (nI p)), (3, .int (nI d)), (6, .long P), (8, .long Q), (10, .long R9), (12, .long S9), (14, .long T9), (17, .int (nI j))]) hx hb dX8_quotient_199 hl (by decide) rfl (fun ls hl => ?_)
              refine lv_iload hx hb dX8_quotient_201 (lv_at hl 0 rfl) ?_
              refine lv_if_eq (tgt := 251) hx hb dX8_quotient_203 (by decide) (fun c_203 => absurd c_203 (by decide)) (fun c_203 => ?_)
              refine lv_lload hx hb dX8_quotient_206 (lv_at hl 8 rfl) ?_
              refine lv_lstore (lv' := [(6, .long Q), (16, .int 1), (20, .long (R9 - (T9 * S9))), (18, .long (P - (T9 * Q))), (0, .ref h), (1, .int (nI k)), (2, .int (nI p)), (3, .int (nI d)), (8, .long Q), (10, .long R9), (12, .long S9), (14, .long T9), (17, .int (nI j))]) hx hb dX8_quotient_208 hl (by decide) rfl (fun ls hl => ?_)
              refine lv_lload hx hb dX8_quotient_210 (lv_at hl 3 rfl) ?_
              refine lv_lstore (lv' := [(8, .long (P - (T9 * Q))), (6, .long Q), (16, .int 1), (20, .long (R9 - (T9 * S9))), (18, .long (P - (T9 * Q))), (0, .ref h), (1, .int (nI k)), (2, .int (nI p)), (3, .int (nI d)), (10, .long R9), (12, .long S9), (14, .long T9), (17, .int (nI j))]) hx hb dX8_quotient_212 hl (by decide) rfl (fun ls hl => ?_)
              refine lv_lload hx hb dX8_quotient_214 (lv_at hl 10 rfl) ?_
              refine lv_lstore (lv' := [(10, .long S9), (8, .long (P - (T9 * Q))), (6, .long Q), (16, .int 1), (20, .long (R9 - (T9 * S9))), (18, .long (P - (T9 * Q))), (0, .ref h), (1, .int (nI k)), (2, .int (nI p)), (3, .int (nI d)), (12, .long S9), (14, .long T9), (17, .int (nI j))]) hx hb dX8_quotient_216 hl (by decide) rfl (fun ls hl => ?_)
              refine lv_lload hx hb dX8_quotient_218 (lv_at hl 4 rfl) ?_
              refine lv_lstore (lv' := [(12, .long (R9 - (T9 * S9))), (10, .long S9), (8, .long (P - (T9 * Q))), (6, .long Q), (16, .int 1), (20, .long (R9 - (T9 * S9))), (18, .long (P - (T9 * Q))), (0, .ref h), (1, .int (nI k)), (2, .int (nI p)), (3, .int (nI d)), (14, .long T9), (17, .int (nI j))]) hx hb dX8_quotient_220 hl (by decide) rfl (fun ls hl => ?_)
              refine lv_lload hx hb dX8_quotient_222 (lv_at hl 3 rfl) ?_
              refine lv_lload hx hb dX8_quotient_224 (lv_at hl 2 rfl) ?_
              refine g_callR (v0 := .long (sp_X8_cut Q (P - (T9 * Q)))) (va_runS (As := [.long Q, .long (P - (T9 * Q))]) (rest := []) ⟨hx, hb, hml, hown, hts⟩ (c_X8_cut l D y H.size Q (P - (T9 * Q)) (g_ne0 c_183)) (va_cwS 2 hts gX8_quotient_X8_cut rfl rfl rfl (by decide +kernel) ⟨Nat.le_of_ble_eq_true rfl, Nat.le_of_ble_eq_true rfl⟩) (gP_S hP hD hK [] (by decide) rfl) rfl rfl hl.1 rfl (lv_room (Nat.le_of_ble_eq_true rfl)) dX8_quotient_226 ⟨Nat.zero_le _, Nat.zero_le _⟩) ?_
              refine lv_lstore (lv' := [(14, .long (sp_X8_cut Q (P - (T9 * Q)))), (12, .long (R9 - (T9 * S9))), (10, .long S9), (8, .long (P - (T9 * Q))), (6, .long Q), (16, .int 1), (20, .long (R9 - (T9 * S9))), (18, .long (P - (T9 * Q))), (0, .ref h), (1, .int (nI k)), (2, .int (nI p)), (3, .int (nI d)), (17, .int (nI j))]) hx hb dX8_quotient_229 hl (by decide) rfl (fun ls hl => ?_)
              refine lv_lload hx hb dX8_quotient_231 (lv_at hl 0 rfl) ?_
              refine lv_lload hx hb dX8_quotient_233 (lv_at hl 2 rfl) ?_
              refine lv_lload hx hb dX8_quotient_235 (lv_at hl 1 rfl) ?_
              refine g_callR (v0 := .long (sp_X8_cut S9 (R9 - (T9 * S9)))) (va_runS (As := [.long S9, .long (R9 - (T9 * S9))]) (rest := [.long (sp_X8_cut Q (P - (T9 * Q)))]) ⟨hx, hb, hml, hown, hts⟩ (c_X8_cut l D y H.size S9 (R9 - (T9 * S9)) (g_ne0 c_190)) (va_cwS 2 hts gX8_quotient_X8_cut rfl rfl rfl (by decide +kernel) ⟨Nat.le_of_ble_eq_true rfl, Nat.le_of_ble_eq_true rfl⟩) (gP_S hP hD hK [] (by decide) rfl) rfl rfl hl.1 rfl (lv_room (Nat.le_of_ble_eq_true rfl)) dX8_quotient_237 ⟨Nat.zero_le _, Nat.zero_le _⟩) ?_
              refine g_ne (tgt := 248) hx hb dX8_quotient_240 dX8_quotient_241 (by decide) (fun c_240 => ?_) (fun c_240 => ?_)
              · skip
                refine lv_iconst (v := 0) hx hb dX8_quotient_248 (by decide) ?_
                refine lv_istore (lv' := [(16, .int 0), (14, .long (sp_X8_cut Q (P - (T9 * Q)))), (12, .long (R9 - (T9 * S9))), (10, .long S9), (8, .long (P - (T9 * Q))), (6, .long Q), (20, .long (R9 - (T9 * S9))), (18, .long (P - (T9 * Q))), (0, .ref h), (1, .int (nI k)), (2, .int (nI p)), (3, .int (nI d)), (17, .int (nI j))]) hx hb dX8_quotient_249 hl (by decide) rfl (fun ls hl => ?_)
                refine lv_iinc (v := nI (j + 1)) (lv' := [(17, .int (nI (j + 1))), (16, .int 0), (14, .long (sp_X8_cut Q (P - (T9 * Q)))), (12, .long (R9 - (T9 * S9))), (10, .long S9), (8, .long (P - (T9 * Q))), (6, .long Q), (20, .long (R9 - (T9 * S9))), (18, .long (P - (T9 * Q))), (0, .ref h), (1, .int (nI k)), (2, .int (nI p)), (3, .int (nI d))]) hx hb dX8_quotient_251 hl (k := 12) rfl (nI_add j 1) (by decide) rfl (fun ls hl => ?_)
                refine lv_goto (tgt := 149) hx hb dX8_quotient_254 (by decide) ?_
                exact ih149 (j + 1) Q (P - (T9 * Q)) S9 (R9 - (T9 * S9)) (sp_X8_cut Q (P - (T9 * Q))) false (by omega) (by rw [← hF]; show _ = (if _ then _ else _); rw [if_pos c_157]; simp only [if_neg c_183, if_neg c_190, if_neg c_240]) _ _ hP hD hS ls (lv_sub hl [9, 10, 11, 12, 6, 5, 4, 3, 2, 1, 0] rfl)
              · skip
                refine lv_iconst (v := 1) hx hb dX8_quotient_244 (by decide) ?_
                refine lv_goto (tgt := 249) hx hb dX8_quotient_245 (by decide) ?_
                refine lv_istore (lv' := [(16, .int 1), (14, .long (sp_X8_cut Q (P - (T9 * Q)))), (12, .long (R9 - (T9 * S9))), (10, .long S9), (8, .long (P - (T9 * Q))), (6, .long Q), (20, .long (R9 - (T9 * S9))), (18, .long (P - (T9 * Q))), (0, .ref h), (1, .int (nI k)), (2, .int (nI p)), (3, .int (nI d)), (17, .int (nI j))]) hx hb dX8_quotient_249 hl (by decide) rfl (fun ls hl => ?_)
                refine lv_iinc (v := nI (j + 1)) (lv' := [(17, .int (nI (j + 1))), (16, .int 1), (14, .long (sp_X8_cut Q (P - (T9 * Q)))), (12, .long (R9 - (T9 * S9))), (10, .long S9), (8, .long (P - (T9 * Q))), (6, .long Q), (20, .long (R9 - (T9 * S9))), (18, .long (P - (T9 * Q))), (0, .ref h), (1, .int (nI k)), (2, .int (nI p)), (3, .int (nI d))]) hx hb dX8_quotient_251 hl (k := 12) rfl (nI_add j 1) (by decide) rfl (fun ls hl => ?_)
                refine lv_goto (tgt := 149) hx hb dX8_quotient_254 (by decide) ?_
                exact ih149 (j + 1) Q (P - (T9 * Q)) S9 (R9 - (T9 * S9)) (sp_X8_cut Q (P - (T9 * Q))) true (by omega) (by rw [← hF]; show _ = (if _ then _ else _); rw [if_pos c_157]; simp only [if_neg c_183, if_neg c_190, if_pos c_240]) _ _ hP hD hS ls (lv_sub hl [9, 10, 11, 12, 6, 5, 4, 3, 2, 1, 0] rfl)
    exact LOOP149 d 0 (tl ((25 * k) + p)) (jshl 1 (nI p)) (th ((25 * k) + p)) (jshl 1 (nI p)) (sp_X8_cut (tl ((25 * k) + p)) (jshl 1 (nI p))) true (by omega) (by unfold quR; simp only [if_pos c_135]) _ _ hP hD hS ls (lv_sub hl [9, 10, 11, 12, 6, 5, 4, 3, 2, 1, 0] rfl)
theorem in_X8_digitAt_X8 : ∀ w ∈ wsX80, w ∈ wsX8_digitAt := fun _ h => List.mem_cons_of_mem _ (List.mem_append_right _ h)
def sp_X8_digitAt (at_ : Nat → Bool) (tl th : Nat → Int64) (di : Nat → Int32) (su : Nat → Int64) (k p : Nat) : Int32 := if (at_ ((25 * k) + p)) = true then if (di k) = 0 then if ((tl ((25 * k) + p)) - ((su k) * (jshl 1 ((nI p) - (di k))))) < (-(jshl 1 ((nI p) - (di k)))) then 2 else if ((th ((25 * k) + p)) - ((su k) * (jshl 1 ((nI p) - (di k))))) ≤ (jshl 1 ((nI p) - (di k))) then if (2 * ((tl ((25 * k) + p)) - ((su k) * (jshl 1 ((nI p) - (di k)))))) < (-(jshl 1 ((nI p) - (di k)))) then if ((tl ((25 * k) + p)) - ((su k) * (jshl 1 ((nI p) - (di k))))) < 0 then if 0 < ((th ((25 * k) + p)) - ((su k) * (jshl 1 ((nI p) - (di k))))) then 2 else -1 else 1 else if (jshl 1 ((nI p) - (di k))) < (2 * ((th ((25 * k) + p)) - ((su k) * (jshl 1 ((nI p) - (di k)))))) then if ((tl ((25 * k) + p)) - ((su k) * (jshl 1 ((nI p) - (di k))))) < 0 then if 0 < ((th ((25 * k) + p)) - ((su k) * (jshl 1 ((nI p) - (di k))))) then 2 else -1 else 1 else 0 else 2 else if (2 * ((tl ((25 * k) + p)) - ((su k) * (jshl 1 ((nI p) - (di k)))))) < (-(jshl 1 ((nI p) - (di k)))) then if ((tl ((25 * k) + p)) - ((su k) * (jshl 1 ((nI p) - (di k))))) < 0 then if 0 < ((th ((25 * k) + p)) - ((su k) * (jshl 1 ((nI p) - (di k))))) then 2 else -1 else 1 else if (jshl 1 ((nI p) - (di k))) < (2 * ((th ((25 * k) + p)) - ((su k) * (jshl 1 ((nI p) - (di k)))))) then if ((tl ((25 * k) + p)) - ((su k) * (jshl 1 ((nI p) - (di k))))) < 0 then if 0 < ((th ((25 * k) + p)) - ((su k) * (jshl 1 ((nI p) - (di k))))) then 2 else -1 else 1 else 0 else 2
set_option maxHeartbeats 4000000 in
set_option maxRecDepth 100000 in
theorem c_X8_digitAt (l : Launch) (D : va_G) (y : Nat → ClassId) (sz : Nat) (h : Nat) (q : Nat → Nat) (tw : Int32) (pn : Nat) (ki on ot ab be zA zB zC zD zF zT : Nat → Int32) (fo : Nat → Bool) (lw hg : Nat → Int64) (at_ : Nat → Bool) (tl th : Nat → Int64) (wo : Nat → Bool) (wl wh : Nat → Int64) (is_ : Bool) (lo_ hi_ : Int64) (di : Nat → Int32) (su : Nat → Int64) (an : Nat → Bool) (k p : Nat) (hk : k < 40) (hp : p < 25) : Met l yX8_digitAt wsX8_digitAt ({ frames := 0, cells := 0, slots := 0, locals := 0 } : Room) (gP D y [.ref h, .int (nI k), .int (nI p)] (wM y h q tw pn ki on ot ab be zA zB zC zD zF zT fo lw hg at_ tl th wo wl wh is_ lo_ hi_ di su an) sz) (gR (.int (sp_X8_digitAt at_ tl th di su k p))) 0 0 (fun _ => False) := by
  refine Met.ofW (cc := cX8_digitAt) (maxL := 11) (ret := (some .int)) (by decide) rfl ?_
  intro pg e s m args below meth c s₁ B hml hv
  obtain ⟨rfl, hsz, hP, hK, hD0⟩ := hv
  have hx := B.exec
  have hb := B.bytes
  have hr := B.returns
  have hts := atoms_spec (ws := wsX8_digitAt) B.pre
  have hown : s.vm.findClass RX8 = some m.cls := findClass_of_methodNamed B.named
  have hlocks := B.notSynchronized
  subst hsz
  obtain ⟨A, hAe⟩ : ∃ A : Nat → Prop, A = va_A (wM y h q tw pn ki on ot ab be zA zB zC zD zF zT fo lw hg at_ tl th wo wl wh is_ lo_ hi_ di su an) s.heap.size := ⟨_, rfl⟩
  have hD : va_D A (wM y h q tw pn ki on ot ab be zA zB zC zD zF zT fo lw hg at_ tl th wo wl wh is_ lo_ hi_ di su an) := by rw [hAe]; exact hD0.self (sz := s.heap.size)
  have hA : ∀ q : Nat, s.heap.size ≤ q → A q := fun q h => by rw [hAe]; exact Or.inr h
  have hS : va_S A s.heap s.heap [] := va_S.rf
  have hl := lv_entry ([.ref h, .int (nI k), .int (nI p)]) (n := 11) (Nat.le_of_ble_eq_true rfl)
  rw [lg_entry_eq]
  generalize (lg_sl ([.ref h, .int (nI k), .int (nI p)]) ++ List.replicate (11 - (lg_sl ([.ref h, .int (nI k), .int (nI p)])).length) Slot.unset).toArray = ls at hl ⊢
  have hl : lv_has ls 11 [(0, .ref h), (1, .int (nI k)), (2, .int (nI p))] := hl
  refine lv_bipush (v := 25) hx hb dX8_digitAt_0 (by decide) ?_
  refine lv_iload_n hx hb dX8_digitAt_2 rfl (lv_at hl 1 rfl) ?_
  refine lv_imul hx hb dX8_digitAt_3 ?_
  refine g_topi (pk_mul 25 k) ?_
  refine lv_iload_n hx hb dX8_digitAt_4 rfl (lv_at hl 2 rfl) ?_
  refine lv_iadd hx hb dX8_digitAt_5 ?_
  refine g_topi (nI_add (25 * k) p) ?_
  refine lv_istore_n (lv' := [(3, .int (nI ((25 * k) + p))), (0, .ref h), (1, .int (nI k)), (2, .int (nI p))]) hx hb dX8_digitAt_6 rfl hl (by decide) rfl (fun ls hl => ?_)
  refine lv_aload_n hx hb dX8_digitAt_7 rfl (lv_at hl 1 rfl) ?_
  refine va_get (D := D) (ci := 6) (v := .ref (q 25)) (C := RX8) (T := TX8) (N := 28) hx hb hts in_X8_digitAt_X8 hown hK.1 hP 0 rfl rfl 25 (by decide) (hts (.fieldLink RX8 72 "NestlimitModel" "digits" "[I") (List.mem_of_getElem? (i := 1) rfl)) (fun _ h9 => h9) rfl dX8_digitAt_8 ?_
  refine lv_iload_n hx hb dX8_digitAt_11 rfl (lv_at hl 2 rfl) ?_
  refine g_iald (k := k) hx hb hK.1 hP 21 0 rfl rfl (by omega) (by decide) dX8_digitAt_12 ?_
  refine lv_istore (lv' := [(4, .int (di k)), (3, .int (nI ((25 * k) + p))), (0, .ref h), (1, .int (nI k)), (2, .int (nI p))]) hx hb dX8_digitAt_13 hl (by decide) rfl (fun ls hl => ?_)
  refine lv_aload_n hx hb dX8_digitAt_15 rfl (lv_at hl 2 rfl) ?_
  refine va_get (D := D) (ci := 6) (v := .ref (q 16)) (C := RX8) (T := TX8) (N := 28) hx hb hts in_X8_digitAt_X8 hown hK.1 hP 0 rfl rfl 16 (by decide) (hts (.fieldLink RX8 54 "NestlimitModel" "areTold" "[Z") (List.mem_of_getElem? (i := 2) rfl)) (fun _ h9 => h9) rfl dX8_digitAt_16 ?_
  refine lv_iload_n hx hb dX8_digitAt_19 rfl (lv_at hl 1 rfl) ?_
  refine g_zald (k := (25 * k) + p) hx hb hK.1 hP 15 2 rfl rfl (by omega) (by decide) dX8_digitAt_20 ?_
  refine g_bne (tgt := 26) hx hb dX8_digitAt_21 (by decide) (fun c_21 => ?_) (fun c_21 => ?_)
  · skip
    refine lv_lconst (v := 1) hx hb dX8_digitAt_26 (by decide) ?_
    refine lv_iload_n hx hb dX8_digitAt_27 rfl (lv_at hl 4 rfl) ?_
    refine lv_iload hx hb dX8_digitAt_28 (lv_at hl 0 rfl) ?_
    refine lv_isub hx hb dX8_digitAt_30 ?_
    refine lv_lshl (v := jshl 1 ((nI p) - (di k))) hx hb dX8_digitAt_31 rfl ?_
    refine lv_lstore (lv' := [(5, .long (jshl 1 ((nI p) - (di k)))), (4, .int (di k)), (3, .int (nI ((25 * k) + p))), (0, .ref h), (1, .int (nI k)), (2, .int (nI p))]) hx hb dX8_digitAt_32 hl (by decide) rfl (fun ls hl => ?_)
    refine lv_aload_n hx hb dX8_digitAt_34 rfl (lv_at hl 3 rfl) ?_
    refine va_get (D := D) (ci := 6) (v := .ref (q 17)) (C := RX8) (T := TX8) (N := 28) hx hb hts in_X8_digitAt_X8 hown hK.1 hP 0 rfl rfl 17 (by decide) (hts (.fieldLink RX8 57 "NestlimitModel" "toldLow" "[J") (List.mem_of_getElem? (i := 3) rfl)) (fun _ h9 => h9) rfl dX8_digitAt_35 ?_
    refine lv_iload_n hx hb dX8_digitAt_38 rfl (lv_at hl 2 rfl) ?_
    refine g_lald (k := (25 * k) + p) hx hb hK.1 hP 16 1 rfl rfl (by omega) (by decide) dX8_digitAt_39 ?_
    refine lv_aload_n hx hb dX8_digitAt_40 rfl (lv_at hl 3 rfl) ?_
    refine va_get (D := D) (ci := 6) (v := .ref (q 26)) (C := RX8) (T := TX8) (N := 28) hx hb hts in_X8_digitAt_X8 hown hK.1 hP 0 rfl rfl 26 (by decide) (hts (.fieldLink RX8 75 "NestlimitModel" "sums" "[J") (List.mem_of_getElem? (i := 4) rfl)) (fun _ h9 => h9) rfl dX8_digitAt_41 ?_
    refine lv_iload_n hx hb dX8_digitAt_44 rfl (lv_at hl 4 rfl) ?_
    refine g_lald (k := k) hx hb hK.1 hP 22 1 rfl rfl (by omega) (by decide) dX8_digitAt_45 ?_
    refine lv_lload hx hb dX8_digitAt_46 (lv_at hl 0 rfl) ?_
    refine lv_lmul hx hb dX8_digitAt_48 ?_
    refine lv_lsub hx hb dX8_digitAt_49 ?_
    refine lv_lstore (lv' := [(7, .long ((tl ((25 * k) + p)) - ((su k) * (jshl 1 ((nI p) - (di k)))))), (5, .long (jshl 1 ((nI p) - (di k)))), (4, .int (di k)), (3, .int (nI ((25 * k) + p))), (0, .ref h), (1, .int (nI k)), (2, .int (nI p))]) hx hb dX8_digitAt_50 hl (by decide) rfl (fun ls hl => ?_)
    refine lv_aload_n hx hb dX8_digitAt_52 rfl (lv_at hl 4 rfl) ?_
    refine va_get (D := D) (ci := 6) (v := .ref (q 18)) (C := RX8) (T := TX8) (N := 28) hx hb hts in_X8_digitAt_X8 hown hK.1 hP 0 rfl rfl 18 (by decide) (hts (.fieldLink RX8 60 "NestlimitModel" "toldHigh" "[J") (List.mem_of_getElem? (i := 5) rfl)) (fun _ h9 => h9) rfl dX8_digitAt_53 ?_
    refine lv_iload_n hx hb dX8_digitAt_56 rfl (lv_at hl 3 rfl) ?_
    refine g_lald (k := (25 * k) + p) hx hb hK.1 hP 17 1 rfl rfl (by omega) (by decide) dX8_digitAt_57 ?_
    refine lv_aload_n hx hb dX8_digitAt_58 rfl (lv_at hl 4 rfl) ?_
    refine va_get (D := D) (ci := 6) (v := .ref (q 26)) (C := RX8) (T := TX8) (N := 28) hx hb hts in_X8_digitAt_X8 hown hK.1 hP 0 rfl rfl 26 (by decide) (hts (.fieldLink RX8 75 "NestlimitModel" "sums" "[J") (List.mem_of_getElem? (i := 4) rfl)) (fun _ h9 => h9) rfl dX8_digitAt_59 ?_
    refine lv_iload_n hx hb dX8_digitAt_62 rfl (lv_at hl 5 rfl) ?_
    refine g_lald (k := k) hx hb hK.1 hP 22 1 rfl rfl (by omega) (by decide) dX8_digitAt_63 ?_
    refine lv_lload hx hb dX8_digitAt_64 (lv_at hl 1 rfl) ?_
    refine lv_lmul hx hb dX8_digitAt_66 ?_
    refine lv_lsub hx hb dX8_digitAt_67 ?_
    refine lv_lstore (lv' := [(9, .long ((th ((25 * k) + p)) - ((su k) * (jshl 1 ((nI p) - (di k)))))), (7, .long ((tl ((25 * k) + p)) - ((su k) * (jshl 1 ((nI p) - (di k)))))), (5, .long (jshl 1 ((nI p) - (di k)))), (4, .int (di k)), (3, .int (nI ((25 * k) + p))), (0, .ref h), (1, .int (nI k)), (2, .int (nI p))]) hx hb dX8_digitAt_68 hl (by decide) rfl (fun ls hl => ?_)
    refine lv_iload hx hb dX8_digitAt_70 (lv_at hl 3 rfl) ?_
    refine lv_if_ne (tgt := 94) hx hb dX8_digitAt_72 (by decide) (fun c_72 => ?_) (fun c_72 => ?_)
    · skip
      refine lv_ldc2 (v := 2) hx hb hown (hts (.constantLong RX8 137 (2)) (List.mem_of_getElem? (i := 6) rfl)) dX8_digitAt_94 ?_
      refine lv_lload hx hb dX8_digitAt_97 (lv_at hl 1 rfl) ?_
      refine lv_lmul hx hb dX8_digitAt_99 ?_
      refine lv_lload hx hb dX8_digitAt_100 (lv_at hl 2 rfl) ?_
      refine lv_lneg hx hb dX8_digitAt_102 ?_
      refine g_lt (tgt := 123) hx hb dX8_digitAt_103 dX8_digitAt_104 (by decide) (fun c_103 => ?_) (fun c_103 => ?_)
      · skip
        refine lv_lload hx hb dX8_digitAt_123 (lv_at hl 1 rfl) ?_
        refine lv_lconst (v := 0) hx hb dX8_digitAt_125 (by decide) ?_
        refine g_lt (tgt := 134) hx hb dX8_digitAt_126 dX8_digitAt_127 (by decide) (fun c_126 => ?_) (fun c_126 => ?_)
        · skip
          refine lv_lload hx hb dX8_digitAt_134 (lv_at hl 0 rfl) ?_
          refine lv_lconst (v := 0) hx hb dX8_digitAt_136 (by decide) ?_
          refine g_gt (tgt := 145) hx hb dX8_digitAt_137 dX8_digitAt_138 (by decide) (fun c_137 => ?_) (fun c_137 => ?_)
          · skip
            refine lv_iconst (v := 2) hx hb dX8_digitAt_145 (by decide) ?_
            exact W.iret (v := 2) hx hb hr (fun t ht hW => ⟨congrArg (fun z => Outcome.returned (some (Value.int z))) (by simp only [sp_X8_digitAt, if_pos c_21, if_neg c_72, if_pos c_103, if_pos c_126, if_pos c_137]), ht⟩) (fun q h => by cases h) dX8_digitAt_146
          · skip
            refine lv_iconst (v := -1) hx hb dX8_digitAt_141 (by decide) ?_
            refine lv_goto (tgt := 146) hx hb dX8_digitAt_142 (by decide) ?_
            exact W.iret (v := -1) hx hb hr (fun t ht hW => ⟨congrArg (fun z => Outcome.returned (some (Value.int z))) (by simp only [sp_X8_digitAt, if_pos c_21, if_neg c_72, if_pos c_103, if_pos c_126, if_neg c_137]), ht⟩) (fun q h => by cases h) dX8_digitAt_146
        · skip
          refine lv_iconst (v := 1) hx hb dX8_digitAt_130 (by decide) ?_
          refine lv_goto (tgt := 146) hx hb dX8_digitAt_131 (by decide) ?_
          exact W.iret (v := 1) hx hb hr (fun t ht hW => ⟨congrArg (fun z => Outcome.returned (some (Value.int z))) (by simp only [sp_X8_digitAt, if_pos c_21, if_neg c_72, if_pos c_103, if_neg c_126]), ht⟩) (fun q h => by cases h) dX8_digitAt_146
      · skip
        refine lv_ldc2 (v := 2) hx hb hown (hts (.constantLong RX8 137 (2)) (List.mem_of_getElem? (i := 6) rfl)) dX8_digitAt_107 ?_
        refine lv_lload hx hb dX8_digitAt_110 (lv_at hl 0 rfl) ?_
        refine lv_lmul hx hb dX8_digitAt_112 ?_
        refine lv_lload hx hb dX8_digitAt_113 (lv_at hl 2 rfl) ?_
        refine g_gt (tgt := 123) hx hb dX8_digitAt_115 dX8_digitAt_116 (by decide) (fun c_115 => ?_) (fun c_115 => ?_)
        · skip
          refine lv_lload hx hb dX8_digitAt_123 (lv_at hl 1 rfl) ?_
          refine lv_lconst (v := 0) hx hb dX8_digitAt_125 (by decide) ?_
          refine g_lt (tgt := 134) hx hb dX8_digitAt_126 dX8_digitAt_127 (by decide) (fun c_126 => ?_) (fun c_126 => ?_)
          · skip
            refine lv_lload hx hb dX8_digitAt_134 (lv_at hl 0 rfl) ?_
            refine lv_lconst (v := 0) hx hb dX8_digitAt_136 (by decide) ?_
            refine g_gt (tgt := 145) hx hb dX8_digitAt_137 dX8_digitAt_138 (by decide) (fun c_137 => ?_) (fun c_137 => ?_)
            · skip
              refine lv_iconst (v := 2) hx hb dX8_digitAt_145 (by decide) ?_
              exact W.iret (v := 2) hx hb hr (fun t ht hW => ⟨congrArg (fun z => Outcome.returned (some (Value.int z))) (by simp only [sp_X8_digitAt, if_pos c_21, if_neg c_72, if_neg c_103, if_pos c_115, if_pos c_126, if_pos c_137]), ht⟩) (fun q h => by cases h) dX8_digitAt_146
            · skip
              refine lv_iconst (v := -1) hx hb dX8_digitAt_141 (by decide) ?_
              refine lv_goto (tgt := 146) hx hb dX8_digitAt_142 (by decide) ?_
              exact W.iret (v := -1) hx hb hr (fun t ht hW => ⟨congrArg (fun z => Outcome.returned (some (Value.int z))) (by simp only [sp_X8_digitAt, if_pos c_21, if_neg c_72, if_neg c_103, if_pos c_115, if_pos c_126, if_neg c_137]), ht⟩) (fun q h => by cases h) dX8_digitAt_146
          · skip
            refine lv_iconst (v := 1) hx hb dX8_digitAt_130 (by decide) ?_
            refine lv_goto (tgt := 146) hx hb dX8_digitAt_131 (by decide) ?_
            exact W.iret (v := 1) hx hb hr (fun t ht hW => ⟨congrArg (fun z => Outcome.returned (some (Value.int z))) (by simp only [sp_X8_digitAt, if_pos c_21, if_neg c_72, if_neg c_103, if_pos c_115, if_neg c_126]), ht⟩) (fun q h => by cases h) dX8_digitAt_146
        · skip
          refine lv_iconst (v := 0) hx hb dX8_digitAt_119 (by decide) ?_
          refine lv_goto (tgt := 146) hx hb dX8_digitAt_120 (by decide) ?_
          exact W.iret (v := 0) hx hb hr (fun t ht hW => ⟨congrArg (fun z => Outcome.returned (some (Value.int z))) (by simp only [sp_X8_digitAt, if_pos c_21, if_neg c_72, if_neg c_103, if_neg c_115]), ht⟩) (fun q h => by cases h) dX8_digitAt_146
    · skip
      refine lv_lload hx hb dX8_digitAt_75 (lv_at hl 1 rfl) ?_
      refine lv_lload hx hb dX8_digitAt_77 (lv_at hl 2 rfl) ?_
      refine lv_lneg hx hb dX8_digitAt_79 ?_
      refine g_lt (tgt := 92) hx hb dX8_digitAt_80 dX8_digitAt_81 (by decide) (fun c_80 => ?_) (fun c_80 => ?_)
      · skip
        refine lv_iconst (v := 2) hx hb dX8_digitAt_92 (by decide) ?_
        exact W.iret (v := 2) hx hb hr (fun t ht hW => ⟨congrArg (fun z => Outcome.returned (some (Value.int z))) (by simp only [sp_X8_digitAt, if_pos c_21, if_pos c_72, if_pos c_80]), ht⟩) (fun q h => by cases h) dX8_digitAt_93
      · skip
        refine lv_lload hx hb dX8_digitAt_84 (lv_at hl 0 rfl) ?_
        refine lv_lload hx hb dX8_digitAt_86 (lv_at hl 2 rfl) ?_
        refine g_le (tgt := 94) hx hb dX8_digitAt_88 dX8_digitAt_89 (by decide) (fun c_88 => ?_) (fun c_88 => ?_)
        · skip
          refine lv_ldc2 (v := 2) hx hb hown (hts (.constantLong RX8 137 (2)) (List.mem_of_getElem? (i := 6) rfl)) dX8_digitAt_94 ?_
          refine lv_lload hx hb dX8_digitAt_97 (lv_at hl 1 rfl) ?_
          refine lv_lmul hx hb dX8_digitAt_99 ?_
          refine lv_lload hx hb dX8_digitAt_100 (lv_at hl 2 rfl) ?_
          refine lv_lneg hx hb dX8_digitAt_102 ?_
          refine g_lt (tgt := 123) hx hb dX8_digitAt_103 dX8_digitAt_104 (by decide) (fun c_103 => ?_) (fun c_103 => ?_)
          · skip
            refine lv_lload hx hb dX8_digitAt_123 (lv_at hl 1 rfl) ?_
            refine lv_lconst (v := 0) hx hb dX8_digitAt_125 (by decide) ?_
            refine g_lt (tgt := 134) hx hb dX8_digitAt_126 dX8_digitAt_127 (by decide) (fun c_126 => ?_) (fun c_126 => ?_)
            · skip
              refine lv_lload hx hb dX8_digitAt_134 (lv_at hl 0 rfl) ?_
              refine lv_lconst (v := 0) hx hb dX8_digitAt_136 (by decide) ?_
              refine g_gt (tgt := 145) hx hb dX8_digitAt_137 dX8_digitAt_138 (by decide) (fun c_137 => ?_) (fun c_137 => ?_)
              · skip
                refine lv_iconst (v := 2) hx hb dX8_digitAt_145 (by decide) ?_
                exact W.iret (v := 2) hx hb hr (fun t ht hW => ⟨congrArg (fun z => Outcome.returned (some (Value.int z))) (by simp only [sp_X8_digitAt, if_pos c_21, if_pos c_72, if_neg c_80, if_pos c_88, if_pos c_103, if_pos c_126, if_pos c_137]), ht⟩) (fun q h => by cases h) dX8_digitAt_146
              · skip
                refine lv_iconst (v := -1) hx hb dX8_digitAt_141 (by decide) ?_
                refine lv_goto (tgt := 146) hx hb dX8_digitAt_142 (by decide) ?_
                exact W.iret (v := -1) hx hb hr (fun t ht hW => ⟨congrArg (fun z => Outcome.returned (some (Value.int z))) (by simp only [sp_X8_digitAt, if_pos c_21, if_pos c_72, if_neg c_80, if_pos c_88, if_pos c_103, if_pos c_126, if_neg c_137]), ht⟩) (fun q h => by cases h) dX8_digitAt_146
            · skip
              refine lv_iconst (v := 1) hx hb dX8_digitAt_130 (by decide) ?_
              refine lv_goto (tgt := 146) hx hb dX8_digitAt_131 (by decide) ?_
              exact W.iret (v := 1) hx hb hr (fun t ht hW => ⟨congrArg (fun z => Outcome.returned (some (Value.int z))) (by simp only [sp_X8_digitAt, if_pos c_21, if_pos c_72, if_neg c_80, if_pos c_88, if_pos c_103, if_neg c_126]), ht⟩) (fun q h => by cases h) dX8_digitAt_146
          · skip
            refine lv_ldc2 (v := 2) hx hb hown (hts (.constantLong RX8 137 (2)) (List.mem_of_getElem? (i := 6) rfl)) dX8_digitAt_107 ?_
            refine lv_lload hx hb dX8_digitAt_110 (lv_at hl 0 rfl) ?_
            refine lv_lmul hx hb dX8_digitAt_112 ?_
            refine lv_lload hx hb dX8_digitAt_113 (lv_at hl 2 rfl) ?_
            refine g_gt (tgt := 123) hx hb dX8_digitAt_115 dX8_digitAt_116 (by decide) (fun c_115 => ?_) (fun c_115 => ?_)
            · skip
              refine lv_lload hx hb dX8_digitAt_123 (lv_at hl 1 rfl) ?_
              refine lv_lconst (v := 0) hx hb dX8_digitAt_125 (by decide) ?_
              refine g_lt (tgt := 134) hx hb dX8_digitAt_126 dX8_digitAt_127 (by decide) (fun c_126 => ?_) (fun c_126 => ?_)
              · skip
                refine lv_lload hx hb dX8_digitAt_134 (lv_at hl 0 rfl) ?_
                refine lv_lconst (v := 0) hx hb dX8_digitAt_136 (by decide) ?_
                refine g_gt (tgt := 145) hx hb dX8_digitAt_137 dX8_digitAt_138 (by decide) (fun c_137 => ?_) (fun c_137 => ?_)
                · skip
                  refine lv_iconst (v := 2) hx hb dX8_digitAt_145 (by decide) ?_
                  exact W.iret (v := 2) hx hb hr (fun t ht hW => ⟨congrArg (fun z => Outcome.returned (some (Value.int z))) (by simp only [sp_X8_digitAt, if_pos c_21, if_pos c_72, if_neg c_80, if_pos c_88, if_neg c_103, if_pos c_115, if_pos c_126, if_pos c_137]), ht⟩) (fun q h => by cases h) dX8_digitAt_146
                · skip
                  refine lv_iconst (v := -1) hx hb dX8_digitAt_141 (by decide) ?_
                  refine lv_goto (tgt := 146) hx hb dX8_digitAt_142 (by decide) ?_
                  exact W.iret (v := -1) hx hb hr (fun t ht hW => ⟨congrArg (fun z => Outcome.returned (some (Value.int z))) (by simp only [sp_X8_digitAt, if_pos c_21, if_pos c_72, if_neg c_80, if_pos c_88, if_neg c_103, if_pos c_115, if_pos c_126, if_neg c_137]), ht⟩) (fun q h => by cases h) dX8_digitAt_146
              · skip
                refine lv_iconst (v := 1) hx hb dX8_digitAt_130 (by decide) ?_
                refine lv_goto (tgt := 146) hx hb dX8_digitAt_131 (by decide) ?_
                exact W.iret (v := 1) hx hb hr (fun t ht hW => ⟨congrArg (fun z => Outcome.returned (some (Value.int z))) (by simp only [sp_X8_digitAt, if_pos c_21, if_pos c_72, if_neg c_80, if_pos c_88, if_neg c_103, if_pos c_115, if_neg c_126]), ht⟩) (fun q h => by cases h) dX8_digitAt_146
            · skip
              refine lv_iconst (v := 0) hx hb dX8_digitAt_119 (by decide) ?_
              refine lv_goto (tgt := 146) hx hb dX8_digitAt_120 (by decide) ?_
              exact W.iret (v := 0) hx hb hr (fun t ht hW => ⟨congrArg (fun z => Outcome.returned (some (Value.int z))) (by simp only [sp_X8_digitAt, if_pos c_21, if_pos c_72, if_neg c_80, if_pos c_88, if_neg c_103, if_neg c_115]), ht⟩) (fun q h => by cases h) dX8_digitAt_146
        · skip
          refine lv_iconst (v := 2) hx hb dX8_digitAt_92 (by decide) ?_
          exact W.iret (v := 2) hx hb hr (fun t ht hW => ⟨congrArg (fun z => Outcome.returned (some (Value.int z))) (by simp only [sp_X8_digitAt, if_pos c_21, if_pos c_72, if_neg c_80, if_neg c_88]), ht⟩) (fun q h => by cases h) dX8_digitAt_93
  · skip
    refine lv_iconst (v := 2) hx hb dX8_digitAt_24 (by decide) ?_
    exact W.iret (v := 2) hx hb hr (fun t ht hW => ⟨congrArg (fun z => Outcome.returned (some (Value.int z))) (by simp only [sp_X8_digitAt, if_neg c_21]), ht⟩) (fun q h => by cases h) dX8_digitAt_25
def nxF (f : Nat → Int32) : Nat → Nat → Int32 → Int32
  | 0, _, x => x
  | n + 1, p, x => if x = 2 then nxF f n (p + 1) (f p) else x
theorem in_X8_next_X8 : ∀ w ∈ wsX80, w ∈ wsX8_next := fun _ h => List.mem_cons_of_mem _ (List.mem_append_right _ h)
set_option maxHeartbeats 4000000 in
set_option maxRecDepth 100000 in
theorem c_X8_next_2 (l : Launch) (D : va_G) (y : Nat → ClassId) (sz : Nat) (h : Nat) (q : Nat → Nat) (tw : Int32) (pn : Nat) (ki on ot ab be zA zB zC zD zF zT : Nat → Int32) (fo : Nat → Bool) (lw hg : Nat → Int64) (at_ : Nat → Bool) (tl th : Nat → Int64) (wo : Nat → Bool) (wl wh : Nat → Int64) (is_ : Bool) (lo_ hi_ : Int64) (di : Nat → Int32) (su : Nat → Int64) (an : Nat → Bool) (k dg : Nat) (hpn : pn ≤ 40) (hk : k < pn) (hdi : di k = nI dg) (hdg : dg ≤ 24) (hs : nxF (fun p => sp_X8_digitAt at_ tl th di su k p) (24 - dg) (dg + 1) 2 = 2) : Met l yX8_next wsX8_next ({ frames := 2, cells := 0, slots := 0, locals := 43 } : Room) (gP D y [.ref h, .int (nI k)] (wM y h q tw pn ki on ot ab be zA zB zC zD zF zT fo lw hg at_ tl th wo wl wh is_ lo_ hi_ di su an) sz) (gQ D (wM y h q tw pn ki on ot ab be zA zB zC zD zF zT fo lw hg at_ tl th wo wl wh is_ lo_ hi_ di su an) (gF (some (.int 0)) (wM y h q 2 pn ki on ot ab be zA zB zC zD zF zT fo lw hg at_ tl th wo wl wh is_ lo_ hi_ di su an))) 0 0 (va_A (wM y h q tw pn ki on ot ab be zA zB zC zD zF zT fo lw hg at_ tl th wo wl wh is_ lo_ hi_ di su an) sz) := by
  refine Met.ofW (cc := cX8_next) (maxL := 5) (ret := (some .int)) (by decide) rfl ?_
  intro pg e s m args below meth c s₁ B hml hv
  obtain ⟨rfl, hsz, hP, hK, hD0⟩ := hv
  have hx := B.exec
  have hb := B.bytes
  have hr := B.returns
  have hts := atoms_spec (ws := wsX8_next) B.pre
  have hown : s.vm.findClass RX8 = some m.cls := findClass_of_methodNamed B.named
  have hlocks := B.notSynchronized
  subst hsz
  obtain ⟨A, hAe⟩ : ∃ A : Nat → Prop, A = va_A (wM y h q tw pn ki on ot ab be zA zB zC zD zF zT fo lw hg at_ tl th wo wl wh is_ lo_ hi_ di su an) s.heap.size := ⟨_, rfl⟩
  have hD : va_D A (wM y h q tw pn ki on ot ab be zA zB zC zD zF zT fo lw hg at_ tl th wo wl wh is_ lo_ hi_ di su an) := by rw [hAe]; exact hD0.self (sz := s.heap.size)
  have hA : ∀ q : Nat, s.heap.size ≤ q → A q := fun q h => by rw [hAe]; exact Or.inr h
  have hS : va_S A s.heap s.heap [] := va_S.rf
  have hl := lv_entry ([.ref h, .int (nI k)]) (n := 5) (Nat.le_of_ble_eq_true rfl)
  rw [lg_entry_eq]
  generalize (lg_sl ([.ref h, .int (nI k)]) ++ List.replicate (5 - (lg_sl ([.ref h, .int (nI k)])).length) Slot.unset).toArray = ls at hl ⊢
  have hl : lv_has ls 5 [(0, .ref h), (1, .int (nI k))] := hl
  refine lv_aload_n hx hb dX8_next_0 rfl (lv_at hl 0 rfl) ?_
  refine lv_iload_n hx hb dX8_next_1 rfl (lv_at hl 1 rfl) ?_
  refine g_callR (v0 := .int (gB (sp_X8_isProgram pn (nI k)))) (va_runV (As := [.int (nI k)]) (rest := []) ⟨hx, hb, hml, hown, hts⟩ (c_X8_isProgram l D y s.heap.size h q tw pn ki on ot ab be zA zB zC zD zF zT fo lw hg at_ tl th wo wl wh is_ lo_ hi_ di su an (nI k)) (cwV 1 hts gX8_next_X8_isProgram rfl rfl rfl (by decide +kernel) ⟨Nat.le_of_ble_eq_true rfl, Nat.le_of_ble_eq_true rfl⟩) (gP_VA hP hD hK 0 rfl rfl) rfl rfl hl.1 rfl (lv_room (Nat.le_of_ble_eq_true rfl)) dX8_next_2 ⟨Nat.zero_le _, Nat.zero_le _⟩) ?_
  refine lv_istore_n (lv' := [(2, .int (gB (sp_X8_isProgram pn (nI k)))), (0, .ref h), (1, .int (nI k))]) hx hb dX8_next_5 rfl hl (by decide) rfl (fun ls hl => ?_)
  refine lv_iconst (v := 2) hx hb dX8_next_6 (by decide) ?_
  refine lv_istore_n (lv' := [(3, .int 2), (2, .int (gB (sp_X8_isProgram pn (nI k)))), (0, .ref h), (1, .int (nI k))]) hx hb dX8_next_7 rfl hl (by decide) rfl (fun ls hl => ?_)
  refine lv_iload_n hx hb dX8_next_8 rfl (lv_at hl 1 rfl) ?_
  refine g_beq (tgt := 23) hx hb dX8_next_9 (by decide) (fun c_9 => absurd (g_isP hk hpn) c_9) (fun c_9 => ?_)
  refine lv_aload_n hx hb dX8_next_12 rfl (lv_at hl 2 rfl) ?_
  refine va_get (D := D) (ci := 6) (v := .ref (q 25)) (C := RX8) (T := TX8) (N := 28) hx hb hts in_X8_next_X8 hown hK.1 hP 0 rfl rfl 25 (by decide) (hts (.fieldLink RX8 72 "NestlimitModel" "digits" "[I") (List.mem_of_getElem? (i := 1) rfl)) (fun _ h9 => h9) rfl dX8_next_13 ?_
  refine lv_iload_n hx hb dX8_next_16 rfl (lv_at hl 3 rfl) ?_
  refine g_iald (k := k) hx hb hK.1 hP 21 0 rfl rfl (by omega) (by decide) dX8_next_17 ?_
  refine g_topi (y := nI dg) (hdi) ?_
  refine lv_iconst (v := 1) hx hb dX8_next_18 (by decide) ?_
  refine lv_iadd hx hb dX8_next_19 ?_
  refine g_topi (nI_add dg 1) ?_
  refine lv_goto (tgt := 25) hx hb dX8_next_20 (by decide) ?_
  refine lv_istore (lv' := [(4, .int (nI (dg + 1))), (3, .int 2), (2, .int (gB (sp_X8_isProgram pn (nI k)))), (0, .ref h), (1, .int (nI k))]) hx hb dX8_next_25 hl (by decide) rfl (fun ls hl => ?_)
  have LOOP27 : ∀ (n : Nat) (p : Nat) (x : Int32), (p + n = 25) → (nxF (fun p => sp_X8_digitAt at_ tl th di su k p) n p x = nxF (fun p => sp_X8_digitAt at_ tl th di su k p) (24 - dg) (dg + 1) 2) → ∀ (H : Heap) (locs : List Loc), va_P D vwCl (wM y h q tw pn ki on ot ab be zA zB zC zD zF zT fo lw hg at_ tl th wo wl wh is_ lo_ hi_ di su an) H → va_D A (wM y h q tw pn ki on ot ab be zA zB zC zD zF zT fo lw hg at_ tl th wo wl wh is_ lo_ hi_ di su an) → va_S A s.heap H locs → ∀ (ls : Array Slot), lv_has ls 5 [(0, .ref h), (1, .int (nI k)), (2, .int (gB (sp_X8_isProgram pn (nI k)))), (3, .int x), (4, .int (nI p))] → W pg l e (headSpec wsX8_next ({ frames := 2, cells := 0, slots := 0, locals := 43 } : Room)).room s m (([.ref h, .int (nI k)] : List Value).toArray) below meth c H locs 0 0 (MQ below (gQ D (wM y h q tw pn ki on ot ab be zA zB zC zD zF zT fo lw hg at_ tl th wo wl wh is_ lo_ hi_ di su an) (gF (some (.int 0)) (wM y h q 2 pn ki on ot ab be zA zB zC zD zF zT fo lw hg at_ tl th wo wl wh is_ lo_ hi_ di su an))) (([.ref h, .int (nI k)] : List Value).toArray) s 0 0 (va_A (wM y h q tw pn ki on ot ab be zA zB zC zD zF zT fo lw hg at_ tl th wo wl wh is_ lo_ hi_ di su an) s.heap.size)) (F0 m 27 ls []) := by
    intro n
    induction n with
    | zero =>
      intro p x hp2 hF H locs hP hD hS ls hl
      refine lv_iload hx hb dX8_next_27 (lv_at hl 4 rfl) ?_
      refine lv_bipush (v := 25) hx hb dX8_next_29 (by decide) ?_
      refine lv_icmp_ge (tgt := 53) hx hb dX8_next_31 (by decide) (fun c_31 => ?_) (fun c_31 => absurd (nI_le (a := 25) (by omega) (by omega)) c_31)
      have hR9 : x = nxF (fun p => sp_X8_digitAt at_ tl th di su k p) (24 - dg) (dg + 1) 2 := hF
      rw [hR9] at hl
      refine lv_aload_n hx hb dX8_next_53 rfl (lv_at hl 0 rfl) ?_
      refine lv_iload_n hx hb dX8_next_54 rfl (lv_at hl 2 rfl) ?_
      refine g_bne (tgt := 62) hx hb dX8_next_55 (by decide) (fun c_55 => ?_) (fun c_55 => absurd (g_isP hk hpn) c_55)
      refine lv_iload_n hx hb dX8_next_62 rfl (lv_at hl 3 rfl) ?_
      refine lv_iconst (v := 2) hx hb dX8_next_63 (by decide) ?_
      refine lv_icmp_ne (tgt := 71) hx hb dX8_next_64 (by decide) (fun c_64 => absurd hs c_64) (fun c_64 => ?_)
      refine lv_iconst (v := 2) hx hb dX8_next_67 (by decide) ?_
      refine lv_goto (tgt := 72) hx hb dX8_next_68 (by decide) ?_
      refine g_callA1 (v0 := .int (gB (sp_X8_holds 2))) (w0 := wM y h q 2 pn ki on ot ab be zA zB zC zD zF zT fo lw hg at_ tl th wo wl wh is_ lo_ hi_ di su an) (va_runV (As := [.int 2]) (rest := []) ⟨hx, hb, hml, hown, hts⟩ (c_X8_holds l D y H.size h q tw pn ki on ot ab be zA zB zC zD zF zT fo lw hg at_ tl th wo wl wh is_ lo_ hi_ di su an 2) (cwV 1 hts gX8_next_X8_holds rfl rfl rfl (by decide +kernel) ⟨Nat.le_of_ble_eq_true rfl, Nat.le_of_ble_eq_true rfl⟩) (gP_VA hP hD hK 0 rfl rfl) rfl rfl hl.1 rfl (lv_room (Nat.le_of_ble_eq_true rfl)) dX8_next_72 ⟨Nat.zero_le _, Nat.zero_le _⟩) hP hD hS hA rfl (fun H locs hP hD hS => ?_)
      refine g_bne (tgt := 80) hx hb dX8_next_75 (by decide) (fun c_75 => absurd c_75 (by decide)) (fun c_75 => ?_)
      refine lv_iconst (v := 0) hx hb dX8_next_78 (by decide) ?_
      exact W.iret (v := 0) hx hb hr (fun t ht hW => ⟨⟨_, wM y h q 2 pn ki on ot ab be zA zB zC zD zF zT fo lw hg at_ tl th wo wl wh is_ lo_ hi_ di su an, rfl, ⟨congrArg (fun z => some (Value.int z)) (rfl), rfl⟩, rfl, by rw [ht]; exact hP⟩, by rw [← hAe]; exact hS.F ht⟩) (by rw [← hAe]; exact hS.2.2) dX8_next_79
    | succ n ih27 =>
      intro p x hp2 hF H locs hP hD hS ls hl
      refine lv_iload hx hb dX8_next_27 (lv_at hl 4 rfl) ?_
      refine lv_bipush (v := 25) hx hb dX8_next_29 (by decide) ?_
      refine lv_icmp_ge (tgt := 53) hx hb dX8_next_31 (by decide) (fun c_31 => absurd c_31 (nI_ge (b := 25) (by omega) (by omega))) (fun c_31 => ?_)
      refine lv_iload_n hx hb dX8_next_34 rfl (lv_at hl 3 rfl) ?_
      refine lv_iconst (v := 2) hx hb dX8_next_35 (by decide) ?_
      refine lv_icmp_ne (tgt := 53) hx hb dX8_next_36 (by decide) (fun c_36 => ?_) (fun c_36 => ?_)
      · skip
        have hR9 : x = nxF (fun p => sp_X8_digitAt at_ tl th di su k p) (24 - dg) (dg + 1) 2 := by rw [← hF]; show _ = (if _ then _ else _); rw [if_neg c_36]
        rw [hR9] at hl
        refine lv_aload_n hx hb dX8_next_53 rfl (lv_at hl 0 rfl) ?_
        refine lv_iload_n hx hb dX8_next_54 rfl (lv_at hl 2 rfl) ?_
        refine g_bne (tgt := 62) hx hb dX8_next_55 (by decide) (fun c_55 => ?_) (fun c_55 => absurd (g_isP hk hpn) c_55)
        refine lv_iload_n hx hb dX8_next_62 rfl (lv_at hl 3 rfl) ?_
        refine lv_iconst (v := 2) hx hb dX8_next_63 (by decide) ?_
        refine lv_icmp_ne (tgt := 71) hx hb dX8_next_64 (by decide) (fun c_64 => absurd hs c_64) (fun c_64 => ?_)
        refine lv_iconst (v := 2) hx hb dX8_next_67 (by decide) ?_
        refine lv_goto (tgt := 72) hx hb dX8_next_68 (by decide) ?_
        refine g_callA1 (v0 := .int (gB (sp_X8_holds 2))) (w0 := wM y h q 2 pn ki on ot ab be zA zB zC zD zF zT fo lw hg at_ tl th wo wl wh is_ lo_ hi_ di su an) (va_runV (As := [.int 2]) (rest := []) ⟨hx, hb, hml, hown, hts⟩ (c_X8_holds l D y H.size h q tw pn ki on ot ab be zA zB zC zD zF zT fo lw hg at_ tl th wo wl wh is_ lo_ hi_ di su an 2) (cwV 1 hts gX8_next_X8_holds rfl rfl rfl (by decide +kernel) ⟨Nat.le_of_ble_eq_true rfl, Nat.le_of_ble_eq_true rfl⟩) (gP_VA hP hD hK 0 rfl rfl) rfl rfl hl.1 rfl (lv_room (Nat.le_of_ble_eq_true rfl)) dX8_next_72 ⟨Nat.zero_le _, Nat.zero_le _⟩) hP hD hS hA rfl (fun H locs hP hD hS => ?_)
        refine g_bne (tgt := 80) hx hb dX8_next_75 (by decide) (fun c_75 => absurd c_75 (by decide)) (fun c_75 => ?_)
        refine lv_iconst (v := 0) hx hb dX8_next_78 (by decide) ?_
        exact W.iret (v := 0) hx hb hr (fun t ht hW => ⟨⟨_, wM y h q 2 pn ki on ot ab be zA zB zC zD zF zT fo lw hg at_ tl th wo wl wh is_ lo_ hi_ di su an, rfl, ⟨congrArg (fun z => some (Value.int z)) (rfl), rfl⟩, rfl, by rw [ht]; exact hP⟩, by rw [← hAe]; exact hS.F ht⟩) (by rw [← hAe]; exact hS.2.2) dX8_next_79
      · skip
        refine lv_aload_n hx hb dX8_next_39 rfl (lv_at hl 0 rfl) ?_
        refine lv_iload_n hx hb dX8_next_40 rfl (lv_at hl 1 rfl) ?_
        refine lv_iload hx hb dX8_next_41 (lv_at hl 4 rfl) ?_
        refine g_callR (v0 := .int (sp_X8_digitAt at_ tl th di su k p)) (va_runV (As := [.int (nI k), .int (nI p)]) (rest := []) ⟨hx, hb, hml, hown, hts⟩ (c_X8_digitAt l D y H.size h q tw pn ki on ot ab be zA zB zC zD zF zT fo lw hg at_ tl th wo wl wh is_ lo_ hi_ di su an k p (by omega) (by omega)) (cwV 2 hts gX8_next_X8_digitAt rfl rfl rfl (by decide +kernel) ⟨Nat.le_of_ble_eq_true rfl, Nat.le_of_ble_eq_true rfl⟩) (gP_VA hP hD hK 0 rfl rfl) rfl rfl hl.1 rfl (lv_room (Nat.le_of_ble_eq_true rfl)) dX8_next_43 ⟨Nat.zero_le _, Nat.zero_le _⟩) ?_
        refine lv_istore_n (lv' := [(3, .int (sp_X8_digitAt at_ tl th di su k p)), (0, .ref h), (1, .int (nI k)), (2, .int (gB (sp_X8_isProgram pn (nI k)))), (4, .int (nI p))]) hx hb dX8_next_46 rfl hl (by decide) rfl (fun ls hl => ?_)
        refine lv_iinc (v := nI (p + 1)) (lv' := [(4, .int (nI (p + 1))), (3, .int (sp_X8_digitAt at_ tl th di su k p)), (0, .ref h), (1, .int (nI k)), (2, .int (gB (sp_X8_isProgram pn (nI k))))]) hx hb dX8_next_47 hl (k := 4) rfl (nI_add p 1) (by decide) rfl (fun ls hl => ?_)
        refine lv_goto (tgt := 27) hx hb dX8_next_50 (by decide) ?_
        exact ih27 (p + 1) (sp_X8_digitAt at_ tl th di su k p) (by omega) (by rw [← hF]; show _ = (if _ then _ else _); rw [if_pos c_36]) _ _ hP hD hS ls (lv_sub hl [2, 3, 4, 1, 0] rfl)
  exact LOOP27 (24 - dg) (dg + 1) 2 (by omega) (rfl) _ _ hP hD hS ls (lv_sub hl [3, 4, 2, 1, 0] rfl)
set_option maxHeartbeats 4000000 in
set_option maxRecDepth 100000 in
theorem c_X8_next_0 (l : Launch) (D : va_G) (y : Nat → ClassId) (sz : Nat) (h : Nat) (q : Nat → Nat) (tw : Int32) (pn : Nat) (ki on ot ab be zA zB zC zD zF zT : Nat → Int32) (fo : Nat → Bool) (lw hg : Nat → Int64) (at_ : Nat → Bool) (tl th : Nat → Int64) (wo : Nat → Bool) (wl wh : Nat → Int64) (is_ : Bool) (lo_ hi_ : Int64) (di : Nat → Int32) (su : Nat → Int64) (an : Nat → Bool) (k dg : Nat) (hpn : pn ≤ 40) (hk : k < pn) (hdi : di k = nI dg) (hdg : dg ≤ 24) (hs : ¬ nxF (fun p => sp_X8_digitAt at_ tl th di su k p) (24 - dg) (dg + 1) 2 = 2) : Met l yX8_next wsX8_next ({ frames := 2, cells := 0, slots := 0, locals := 43 } : Room) (gP D y [.ref h, .int (nI k)] (wM y h q tw pn ki on ot ab be zA zB zC zD zF zT fo lw hg at_ tl th wo wl wh is_ lo_ hi_ di su an) sz) (gQ D (wM y h q tw pn ki on ot ab be zA zB zC zD zF zT fo lw hg at_ tl th wo wl wh is_ lo_ hi_ di su an) (gF (some (.int (nxF (fun p => sp_X8_digitAt at_ tl th di su k p) (24 - dg) (dg + 1) 2))) (wM y h q 0 pn ki on ot ab be zA zB zC zD zF zT fo lw hg at_ tl th wo wl wh is_ lo_ hi_ (upd di k (di k + 1)) (vp_updL su k (2 * su k + (nxF (fun p => sp_X8_digitAt at_ tl th di su k p) (24 - dg) (dg + 1) 2).toInt64)) an))) 0 0 (va_A (wM y h q tw pn ki on ot ab be zA zB zC zD zF zT fo lw hg at_ tl th wo wl wh is_ lo_ hi_ di su an) sz) := by
  refine Met.ofW (cc := cX8_next) (maxL := 5) (ret := (some .int)) (by decide) rfl ?_
  intro pg e s m args below meth c s₁ B hml hv
  obtain ⟨rfl, hsz, hP, hK, hD0⟩ := hv
  have hx := B.exec
  have hb := B.bytes
  have hr := B.returns
  have hts := atoms_spec (ws := wsX8_next) B.pre
  have hown : s.vm.findClass RX8 = some m.cls := findClass_of_methodNamed B.named
  have hlocks := B.notSynchronized
  subst hsz
  obtain ⟨A, hAe⟩ : ∃ A : Nat → Prop, A = va_A (wM y h q tw pn ki on ot ab be zA zB zC zD zF zT fo lw hg at_ tl th wo wl wh is_ lo_ hi_ di su an) s.heap.size := ⟨_, rfl⟩
  have hD : va_D A (wM y h q tw pn ki on ot ab be zA zB zC zD zF zT fo lw hg at_ tl th wo wl wh is_ lo_ hi_ di su an) := by rw [hAe]; exact hD0.self (sz := s.heap.size)
  have hA : ∀ q : Nat, s.heap.size ≤ q → A q := fun q h => by rw [hAe]; exact Or.inr h
  have hS : va_S A s.heap s.heap [] := va_S.rf
  have hl := lv_entry ([.ref h, .int (nI k)]) (n := 5) (Nat.le_of_ble_eq_true rfl)
  rw [lg_entry_eq]
  generalize (lg_sl ([.ref h, .int (nI k)]) ++ List.replicate (5 - (lg_sl ([.ref h, .int (nI k)])).length) Slot.unset).toArray = ls at hl ⊢
  have hl : lv_has ls 5 [(0, .ref h), (1, .int (nI k))] := hl
  refine lv_aload_n hx hb dX8_next_0 rfl (lv_at hl 0 rfl) ?_
  refine lv_iload_n hx hb dX8_next_1 rfl (lv_at hl 1 rfl) ?_
  refine g_callR (v0 := .int (gB (sp_X8_isProgram pn (nI k)))) (va_runV (As := [.int (nI k)]) (rest := []) ⟨hx, hb, hml, hown, hts⟩ (c_X8_isProgram l D y s.heap.size h q tw pn ki on ot ab be zA zB zC zD zF zT fo lw hg at_ tl th wo wl wh is_ lo_ hi_ di su an (nI k)) (cwV 1 hts gX8_next_X8_isProgram rfl rfl rfl (by decide +kernel) ⟨Nat.le_of_ble_eq_true rfl, Nat.le_of_ble_eq_true rfl⟩) (gP_VA hP hD hK 0 rfl rfl) rfl rfl hl.1 rfl (lv_room (Nat.le_of_ble_eq_true rfl)) dX8_next_2 ⟨Nat.zero_le _, Nat.zero_le _⟩) ?_
  refine lv_istore_n (lv' := [(2, .int (gB (sp_X8_isProgram pn (nI k)))), (0, .ref h), (1, .int (nI k))]) hx hb dX8_next_5 rfl hl (by decide) rfl (fun ls hl => ?_)
  refine lv_iconst (v := 2) hx hb dX8_next_6 (by decide) ?_
  refine lv_istore_n (lv' := [(3, .int 2), (2, .int (gB (sp_X8_isProgram pn (nI k)))), (0, .ref h), (1, .int (nI k))]) hx hb dX8_next_7 rfl hl (by decide) rfl (fun ls hl => ?_)
  refine lv_iload_n hx hb dX8_next_8 rfl (lv_at hl 1 rfl) ?_
  refine g_beq (tgt := 23) hx hb dX8_next_9 (by decide) (fun c_9 => absurd (g_isP hk hpn) c_9) (fun c_9 => ?_)
  refine lv_aload_n hx hb dX8_next_12 rfl (lv_at hl 2 rfl) ?_
  refine va_get (D := D) (ci := 6) (v := .ref (q 25)) (C := RX8) (T := TX8) (N := 28) hx hb hts in_X8_next_X8 hown hK.1 hP 0 rfl rfl 25 (by decide) (hts (.fieldLink RX8 72 "NestlimitModel" "digits" "[I") (List.mem_of_getElem? (i := 1) rfl)) (fun _ h9 => h9) rfl dX8_next_13 ?_
  refine lv_iload_n hx hb dX8_next_16 rfl (lv_at hl 3 rfl) ?_
  refine g_iald (k := k) hx hb hK.1 hP 21 0 rfl rfl (by omega) (by decide) dX8_next_17 ?_
  refine g_topi (y := nI dg) (hdi) ?_
  refine lv_iconst (v := 1) hx hb dX8_next_18 (by decide) ?_
  refine lv_iadd hx hb dX8_next_19 ?_
  refine g_topi (nI_add dg 1) ?_
  refine lv_goto (tgt := 25) hx hb dX8_next_20 (by decide) ?_
  refine lv_istore (lv' := [(4, .int (nI (dg + 1))), (3, .int 2), (2, .int (gB (sp_X8_isProgram pn (nI k)))), (0, .ref h), (1, .int (nI k))]) hx hb dX8_next_25 hl (by decide) rfl (fun ls hl => ?_)
  have LOOP27 : ∀ (n : Nat) (p : Nat) (x : Int32), (p + n = 25) → (nxF (fun p => sp_X8_digitAt at_ tl th di su k p) n p x = nxF (fun p => sp_X8_digitAt at_ tl th di su k p) (24 - dg) (dg + 1) 2) → ∀ (H : Heap) (locs : List Loc), va_P D vwCl (wM y h q tw pn ki on ot ab be zA zB zC zD zF zT fo lw hg at_ tl th wo wl wh is_ lo_ hi_ di su an) H → va_D A (wM y h q tw pn ki on ot ab be zA zB zC zD zF zT fo lw hg at_ tl th wo wl wh is_ lo_ hi_ di su an) → va_S A s.heap H locs → ∀ (ls : Array Slot), lv_has ls 5 [(0, .ref h), (1, .int (nI k)), (2, .int (gB (sp_X8_isProgram pn (nI k)))), (3, .int x), (4, .int (nI p))] → W pg l e (headSpec wsX8_next ({ frames := 2, cells := 0, slots := 0, locals := 43 } : Room)).room s m (([.ref h, .int (nI k)] : List Value).toArray) below meth c H locs 0 0 (MQ below (gQ D (wM y h q tw pn ki on ot ab be zA zB zC zD zF zT fo lw hg at_ tl th wo wl wh is_ lo_ hi_ di su an) (gF (some (.int (nxF (fun p => sp_X8_digitAt at_ tl th di su k p) (24 - dg) (dg + 1) 2))) (wM y h q 0 pn ki on ot ab be zA zB zC zD zF zT fo lw hg at_ tl th wo wl wh is_ lo_ hi_ (upd di k (di k + 1)) (vp_updL su k (2 * su k + (nxF (fun p => sp_X8_digitAt at_ tl th di su k p) (24 - dg) (dg + 1) 2).toInt64)) an))) (([.ref h, .int (nI k)] : List Value).toArray) s 0 0 (va_A (wM y h q tw pn ki on ot ab be zA zB zC zD zF zT fo lw hg at_ tl th wo wl wh is_ lo_ hi_ di su an) s.heap.size)) (F0 m 27 ls []) := by
    intro n
    induction n with
    | zero =>
      intro p x hp2 hF H locs hP hD hS ls hl
      refine lv_iload hx hb dX8_next_27 (lv_at hl 4 rfl) ?_
      refine lv_bipush (v := 25) hx hb dX8_next_29 (by decide) ?_
      refine lv_icmp_ge (tgt := 53) hx hb dX8_next_31 (by decide) (fun c_31 => ?_) (fun c_31 => absurd (nI_le (a := 25) (by omega) (by omega)) c_31)
      have hR9 : x = nxF (fun p => sp_X8_digitAt at_ tl th di su k p) (24 - dg) (dg + 1) 2 := hF
      rw [hR9] at hl
      refine lv_aload_n hx hb dX8_next_53 rfl (lv_at hl 0 rfl) ?_
      refine lv_iload_n hx hb dX8_next_54 rfl (lv_at hl 2 rfl) ?_
      refine g_bne (tgt := 62) hx hb dX8_next_55 (by decide) (fun c_55 => ?_) (fun c_55 => absurd (g_isP hk hpn) c_55)
      refine lv_iload_n hx hb dX8_next_62 rfl (lv_at hl 3 rfl) ?_
      refine lv_iconst (v := 2) hx hb dX8_next_63 (by decide) ?_
      refine lv_icmp_ne (tgt := 71) hx hb dX8_next_64 (by decide) (fun c_64 => ?_) (fun c_64 => absurd c_64 hs)
      refine lv_iconst (v := 0) hx hb dX8_next_71 (by decide) ?_
      refine g_callA1 (v0 := .int (gB (sp_X8_holds 0))) (w0 := wM y h q 0 pn ki on ot ab be zA zB zC zD zF zT fo lw hg at_ tl th wo wl wh is_ lo_ hi_ di su an) (va_runV (As := [.int 0]) (rest := []) ⟨hx, hb, hml, hown, hts⟩ (c_X8_holds l D y H.size h q tw pn ki on ot ab be zA zB zC zD zF zT fo lw hg at_ tl th wo wl wh is_ lo_ hi_ di su an 0) (cwV 1 hts gX8_next_X8_holds rfl rfl rfl (by decide +kernel) ⟨Nat.le_of_ble_eq_true rfl, Nat.le_of_ble_eq_true rfl⟩) (gP_VA hP hD hK 0 rfl rfl) rfl rfl hl.1 rfl (lv_room (Nat.le_of_ble_eq_true rfl)) dX8_next_72 ⟨Nat.zero_le _, Nat.zero_le _⟩) hP hD hS hA rfl (fun H locs hP hD hS => ?_)
      refine g_bne (tgt := 80) hx hb dX8_next_75 (by decide) (fun c_75 => ?_) (fun c_75 => absurd (by decide) c_75)
      refine lv_aload_n hx hb dX8_next_80 rfl (lv_at hl 0 rfl) ?_
      refine va_get (D := D) (ci := 6) (v := .ref (q 25)) (C := RX8) (T := TX8) (N := 28) hx hb hts in_X8_next_X8 hown hK.1 hP 0 rfl rfl 25 (by decide) (hts (.fieldLink RX8 72 "NestlimitModel" "digits" "[I") (List.mem_of_getElem? (i := 1) rfl)) (fun _ h9 => h9) rfl dX8_next_81 ?_
      refine lv_iload_n hx hb dX8_next_84 rfl (lv_at hl 1 rfl) ?_
      refine lv_dup2_11 hx hb dX8_next_85 rfl rfl ?_
      refine g_iald (k := k) hx hb hK.1 hP 21 0 rfl rfl (by omega) (by decide) dX8_next_86 ?_
      refine lv_iconst (v := 1) hx hb dX8_next_87 (by decide) ?_
      refine lv_iadd hx hb dX8_next_88 ?_
      refine g_iast (k := k) (x := (di k) + 1) hx hb hK.1 hP hD hS 21 0 rfl rfl (by omega) (by decide) dX8_next_89 (fun H locs hP hD hS => ?_)
      have hP : va_P D vwCl (wM y h q 0 pn ki on ot ab be zA zB zC zD zF zT fo lw hg at_ tl th wo wl wh is_ lo_ hi_ (upd di k ((di k) + 1)) su an) H := hP
      have hD : va_D A (wM y h q 0 pn ki on ot ab be zA zB zC zD zF zT fo lw hg at_ tl th wo wl wh is_ lo_ hi_ (upd di k ((di k) + 1)) su an) := hD
      refine lv_aload_n hx hb dX8_next_90 rfl (lv_at hl 0 rfl) ?_
      refine va_get (D := D) (ci := 6) (v := .ref (q 26)) (C := RX8) (T := TX8) (N := 28) hx hb hts in_X8_next_X8 hown hK.1 hP 0 rfl rfl 26 (by decide) (hts (.fieldLink RX8 75 "NestlimitModel" "sums" "[J") (List.mem_of_getElem? (i := 2) rfl)) (fun _ h9 => h9) rfl dX8_next_91 ?_
      refine lv_iload_n hx hb dX8_next_94 rfl (lv_at hl 1 rfl) ?_
      refine lv_ldc2 (v := 2) hx hb hown (hts (.constantLong RX8 137 (2)) (List.mem_of_getElem? (i := 3) rfl)) dX8_next_95 ?_
      refine lv_aload_n hx hb dX8_next_98 rfl (lv_at hl 0 rfl) ?_
      refine va_get (D := D) (ci := 6) (v := .ref (q 26)) (C := RX8) (T := TX8) (N := 28) hx hb hts in_X8_next_X8 hown hK.1 hP 0 rfl rfl 26 (by decide) (hts (.fieldLink RX8 75 "NestlimitModel" "sums" "[J") (List.mem_of_getElem? (i := 2) rfl)) (fun _ h9 => h9) rfl dX8_next_99 ?_
      refine lv_iload_n hx hb dX8_next_102 rfl (lv_at hl 1 rfl) ?_
      refine g_lald (k := k) hx hb hK.1 hP 22 1 rfl rfl (by omega) (by decide) dX8_next_103 ?_
      refine lv_lmul hx hb dX8_next_104 ?_
      refine lv_iload_n hx hb dX8_next_105 rfl (lv_at hl 3 rfl) ?_
      refine lv_i2l (v := (nxF (fun p => sp_X8_digitAt at_ tl th di su k p) (24 - dg) (dg + 1) 2).toInt64) hx hb dX8_next_106 rfl ?_
      refine lv_ladd hx hb dX8_next_107 ?_
      refine g_last (k := k) (x := (2 * (su k)) + ((nxF (fun p => sp_X8_digitAt at_ tl th di su k p) (24 - dg) (dg + 1) 2).toInt64)) hx hb hK.1 hP hD hS 22 1 rfl rfl (by omega) (by decide) dX8_next_108 (fun H locs hP hD hS => ?_)
      have hP : va_P D vwCl (wM y h q 0 pn ki on ot ab be zA zB zC zD zF zT fo lw hg at_ tl th wo wl wh is_ lo_ hi_ (upd di k ((di k) + 1)) (vp_updL su k ((2 * (su k)) + ((nxF (fun p => sp_X8_digitAt at_ tl th di su k p) (24 - dg) (dg + 1) 2).toInt64))) an) H := hP
      have hD : va_D A (wM y h q 0 pn ki on ot ab be zA zB zC zD zF zT fo lw hg at_ tl th wo wl wh is_ lo_ hi_ (upd di k ((di k) + 1)) (vp_updL su k ((2 * (su k)) + ((nxF (fun p => sp_X8_digitAt at_ tl th di su k p) (24 - dg) (dg + 1) 2).toInt64))) an) := hD
      refine lv_iload_n hx hb dX8_next_109 rfl (lv_at hl 3 rfl) ?_
      exact W.iret (v := nxF (fun p => sp_X8_digitAt at_ tl th di su k p) (24 - dg) (dg + 1) 2) hx hb hr (fun t ht hW => ⟨⟨_, wM y h q 0 pn ki on ot ab be zA zB zC zD zF zT fo lw hg at_ tl th wo wl wh is_ lo_ hi_ (upd di k ((di k) + 1)) (vp_updL su k ((2 * (su k)) + ((nxF (fun p => sp_X8_digitAt at_ tl th di su k p) (24 - dg) (dg + 1) 2).toInt64))) an, rfl, ⟨congrArg (fun z => some (Value.int z)) (rfl), rfl⟩, rfl, by rw [ht]; exact hP⟩, by rw [← hAe]; exact hS.F ht⟩) (by rw [← hAe]; exact hS.2.2) dX8_next_110
    | succ n ih27 =>
      intro p x hp2 hF H locs hP hD hS ls hl
      refine lv_iload hx hb dX8_next_27 (lv_at hl 4 rfl) ?_
      refine lv_bipush (v := 25) hx hb dX8_next_29 (by decide) ?_
      refine lv_icmp_ge (tgt := 53) hx hb dX8_next_31 (by decide) (fun c_31 => absurd c_31 (nI_ge (b := 25) (by omega) (by omega))) (fun c_31 => ?_)
      refine lv_iload_n hx hb dX8_next_34 rfl (lv_at hl 3 rfl) ?_
      refine lv_iconst (v := 2) hx hb dX8_next_35 (by decide) ?_
      refine lv_icmp_ne (tgt := 53) hx hb dX8_next_36 (by decide) (fun c_36 => ?_) (fun c_36 => ?_)
      · skip
        have hR9 : x = nxF (fun p => sp_X8_digitAt at_ tl th di su k p) (24 - dg) (dg + 1) 2 := by rw [← hF]; show _ = (if _ then _ else _); rw [if_neg c_36]
        rw [hR9] at hl
        refine lv_aload_n hx hb dX8_next_53 rfl (lv_at hl 0 rfl) ?_
        refine lv_iload_n hx hb dX8_next_54 rfl (lv_at hl 2 rfl) ?_
        refine g_bne (tgt := 62) hx hb dX8_next_55 (by decide) (fun c_55 => ?_) (fun c_55 => absurd (g_isP hk hpn) c_55)
        refine lv_iload_n hx hb dX8_next_62 rfl (lv_at hl 3 rfl) ?_
        refine lv_iconst (v := 2) hx hb dX8_next_63 (by decide) ?_
        refine lv_icmp_ne (tgt := 71) hx hb dX8_next_64 (by decide) (fun c_64 => ?_) (fun c_64 => absurd c_64 hs)
        refine lv_iconst (v := 0) hx hb dX8_next_71 (by decide) ?_
        refine g_callA1 (v0 := .int (gB (sp_X8_holds 0))) (w0 := wM y h q 0 pn ki on ot ab be zA zB zC zD zF zT fo lw hg at_ tl th wo wl wh is_ lo_ hi_ di su an) (va_runV (As := [.int 0]) (rest := []) ⟨hx, hb, hml, hown, hts⟩ (c_X8_holds l D y H.size h q tw pn ki on ot ab be zA zB zC zD zF zT fo lw hg at_ tl th wo wl wh is_ lo_ hi_ di su an 0) (cwV 1 hts gX8_next_X8_holds rfl rfl rfl (by decide +kernel) ⟨Nat.le_of_ble_eq_true rfl, Nat.le_of_ble_eq_true rfl⟩) (gP_VA hP hD hK 0 rfl rfl) rfl rfl hl.1 rfl (lv_room (Nat.le_of_ble_eq_true rfl)) dX8_next_72 ⟨Nat.zero_le _, Nat.zero_le _⟩) hP hD hS hA rfl (fun H locs hP hD hS => ?_)
        refine g_bne (tgt := 80) hx hb dX8_next_75 (by decide) (fun c_75 => ?_) (fun c_75 => absurd (by decide) c_75)
        refine lv_aload_n hx hb dX8_next_80 rfl (lv_at hl 0 rfl) ?_
        refine va_get (D := D) (ci := 6) (v := .ref (q 25)) (C := RX8) (T := TX8) (N := 28) hx hb hts in_X8_next_X8 hown hK.1 hP 0 rfl rfl 25 (by decide) (hts (.fieldLink RX8 72 "NestlimitModel" "digits" "[I") (List.mem_of_getElem? (i := 1) rfl)) (fun _ h9 => h9) rfl dX8_next_81 ?_
        refine lv_iload_n hx hb dX8_next_84 rfl (lv_at hl 1 rfl) ?_
        refine lv_dup2_11 hx hb dX8_next_85 rfl rfl ?_
        refine g_iald (k := k) hx hb hK.1 hP 21 0 rfl rfl (by omega) (by decide) dX8_next_86 ?_
        refine lv_iconst (v := 1) hx hb dX8_next_87 (by decide) ?_
        refine lv_iadd hx hb dX8_next_88 ?_
        refine g_iast (k := k) (x := (di k) + 1) hx hb hK.1 hP hD hS 21 0 rfl rfl (by omega) (by decide) dX8_next_89 (fun H locs hP hD hS => ?_)
        have hP : va_P D vwCl (wM y h q 0 pn ki on ot ab be zA zB zC zD zF zT fo lw hg at_ tl th wo wl wh is_ lo_ hi_ (upd di k ((di k) + 1)) su an) H := hP
        have hD : va_D A (wM y h q 0 pn ki on ot ab be zA zB zC zD zF zT fo lw hg at_ tl th wo wl wh is_ lo_ hi_ (upd di k ((di k) + 1)) su an) := hD
        refine lv_aload_n hx hb dX8_next_90 rfl (lv_at hl 0 rfl) ?_
        refine va_get (D := D) (ci := 6) (v := .ref (q 26)) (C := RX8) (T := TX8) (N := 28) hx hb hts in_X8_next_X8 hown hK.1 hP 0 rfl rfl 26 (by decide) (hts (.fieldLink RX8 75 "NestlimitModel" "sums" "[J") (List.mem_of_getElem? (i := 2) rfl)) (fun _ h9 => h9) rfl dX8_next_91 ?_
        refine lv_iload_n hx hb dX8_next_94 rfl (lv_at hl 1 rfl) ?_
        refine lv_ldc2 (v := 2) hx hb hown (hts (.constantLong RX8 137 (2)) (List.mem_of_getElem? (i := 3) rfl)) dX8_next_95 ?_
        refine lv_aload_n hx hb dX8_next_98 rfl (lv_at hl 0 rfl) ?_
        refine va_get (D := D) (ci := 6) (v := .ref (q 26)) (C := RX8) (T := TX8) (N := 28) hx hb hts in_X8_next_X8 hown hK.1 hP 0 rfl rfl 26 (by decide) (hts (.fieldLink RX8 75 "NestlimitModel" "sums" "[J") (List.mem_of_getElem? (i := 2) rfl)) (fun _ h9 => h9) rfl dX8_next_99 ?_
        refine lv_iload_n hx hb dX8_next_102 rfl (lv_at hl 1 rfl) ?_
        refine g_lald (k := k) hx hb hK.1 hP 22 1 rfl rfl (by omega) (by decide) dX8_next_103 ?_
        refine lv_lmul hx hb dX8_next_104 ?_
        refine lv_iload_n hx hb dX8_next_105 rfl (lv_at hl 3 rfl) ?_
        refine lv_i2l (v := (nxF (fun p => sp_X8_digitAt at_ tl th di su k p) (24 - dg) (dg + 1) 2).toInt64) hx hb dX8_next_106 rfl ?_
        refine lv_ladd hx hb dX8_next_107 ?_
        refine g_last (k := k) (x := (2 * (su k)) + ((nxF (fun p => sp_X8_digitAt at_ tl th di su k p) (24 - dg) (dg + 1) 2).toInt64)) hx hb hK.1 hP hD hS 22 1 rfl rfl (by omega) (by decide) dX8_next_108 (fun H locs hP hD hS => ?_)
        have hP : va_P D vwCl (wM y h q 0 pn ki on ot ab be zA zB zC zD zF zT fo lw hg at_ tl th wo wl wh is_ lo_ hi_ (upd di k ((di k) + 1)) (vp_updL su k ((2 * (su k)) + ((nxF (fun p => sp_X8_digitAt at_ tl th di su k p) (24 - dg) (dg + 1) 2).toInt64))) an) H := hP
        have hD : va_D A (wM y h q 0 pn ki on ot ab be zA zB zC zD zF zT fo lw hg at_ tl th wo wl wh is_ lo_ hi_ (upd di k ((di k) + 1)) (vp_updL su k ((2 * (su k)) + ((nxF (fun p => sp_X8_digitAt at_ tl th di su k p) (24 - dg) (dg + 1) 2).toInt64))) an) := hD
        refine lv_iload_n hx hb dX8_next_109 rfl (lv_at hl 3 rfl) ?_
        exact W.iret (v := nxF (fun p => sp_X8_digitAt at_ tl th di su k p) (24 - dg) (dg + 1) 2) hx hb hr (fun t ht hW => ⟨⟨_, wM y h q 0 pn ki on ot ab be zA zB zC zD zF zT fo lw hg at_ tl th wo wl wh is_ lo_ hi_ (upd di k ((di k) + 1)) (vp_updL su k ((2 * (su k)) + ((nxF (fun p => sp_X8_digitAt at_ tl th di su k p) (24 - dg) (dg + 1) 2).toInt64))) an, rfl, ⟨congrArg (fun z => some (Value.int z)) (rfl), rfl⟩, rfl, by rw [ht]; exact hP⟩, by rw [← hAe]; exact hS.F ht⟩) (by rw [← hAe]; exact hS.2.2) dX8_next_110
      · skip
        refine lv_aload_n hx hb dX8_next_39 rfl (lv_at hl 0 rfl) ?_
        refine lv_iload_n hx hb dX8_next_40 rfl (lv_at hl 1 rfl) ?_
        refine lv_iload hx hb dX8_next_41 (lv_at hl 4 rfl) ?_
        refine g_callR (v0 := .int (sp_X8_digitAt at_ tl th di su k p)) (va_runV (As := [.int (nI k), .int (nI p)]) (rest := []) ⟨hx, hb, hml, hown, hts⟩ (c_X8_digitAt l D y H.size h q tw pn ki on ot ab be zA zB zC zD zF zT fo lw hg at_ tl th wo wl wh is_ lo_ hi_ di su an k p (by omega) (by omega)) (cwV 2 hts gX8_next_X8_digitAt rfl rfl rfl (by decide +kernel) ⟨Nat.le_of_ble_eq_true rfl, Nat.le_of_ble_eq_true rfl⟩) (gP_VA hP hD hK 0 rfl rfl) rfl rfl hl.1 rfl (lv_room (Nat.le_of_ble_eq_true rfl)) dX8_next_43 ⟨Nat.zero_le _, Nat.zero_le _⟩) ?_
        refine lv_istore_n (lv' := [(3, .int (sp_X8_digitAt at_ tl th di su k p)), (0, .ref h), (1, .int (nI k)), (2, .int (gB (sp_X8_isProgram pn (nI k)))), (4, .int (nI p))]) hx hb dX8_next_46 rfl hl (by decide) rfl (fun ls hl => ?_)
        refine lv_iinc (v := nI (p + 1)) (lv' := [(4, .int (nI (p + 1))), (3, .int (sp_X8_digitAt at_ tl th di su k p)), (0, .ref h), (1, .int (nI k)), (2, .int (gB (sp_X8_isProgram pn (nI k))))]) hx hb dX8_next_47 hl (k := 4) rfl (nI_add p 1) (by decide) rfl (fun ls hl => ?_)
        refine lv_goto (tgt := 27) hx hb dX8_next_50 (by decide) ?_
        exact ih27 (p + 1) (sp_X8_digitAt at_ tl th di su k p) (by omega) (by rw [← hF]; show _ = (if _ then _ else _); rw [if_pos c_36]) _ _ hP hD hS ls (lv_sub hl [2, 3, 4, 1, 0] rfl)
  exact LOOP27 (24 - dg) (dg + 1) 2 (by omega) (rfl) _ _ hP hD hS ls (lv_sub hl [3, 4, 2, 1, 0] rfl)
set_option maxHeartbeats 4000000 in
set_option maxRecDepth 100000 in
theorem c_X8_next_1 (l : Launch) (D : va_G) (y : Nat → ClassId) (sz : Nat) (h : Nat) (q : Nat → Nat) (tw : Int32) (pn : Nat) (ki on ot ab be zA zB zC zD zF zT : Nat → Int32) (fo : Nat → Bool) (lw hg : Nat → Int64) (at_ : Nat → Bool) (tl th : Nat → Int64) (wo : Nat → Bool) (wl wh : Nat → Int64) (is_ : Bool) (lo_ hi_ : Int64) (di : Nat → Int32) (su : Nat → Int64) (an : Nat → Bool) (a : Int32) (yA : ¬ sp_X8_isProgram pn a = true) : Met l yX8_next wsX8_next ({ frames := 2, cells := 0, slots := 0, locals := 43 } : Room) (gP D y [.ref h, .int a] (wM y h q tw pn ki on ot ab be zA zB zC zD zF zT fo lw hg at_ tl th wo wl wh is_ lo_ hi_ di su an) sz) (gQ D (wM y h q tw pn ki on ot ab be zA zB zC zD zF zT fo lw hg at_ tl th wo wl wh is_ lo_ hi_ di su an) (gF (some (.int 0)) (wM y h q 1 pn ki on ot ab be zA zB zC zD zF zT fo lw hg at_ tl th wo wl wh is_ lo_ hi_ di su an))) 0 0 (va_A (wM y h q tw pn ki on ot ab be zA zB zC zD zF zT fo lw hg at_ tl th wo wl wh is_ lo_ hi_ di su an) sz) := by
  refine Met.ofW (cc := cX8_next) (maxL := 5) (ret := (some .int)) (by decide) rfl ?_
  intro pg e s m args below meth c s₁ B hml hv
  obtain ⟨rfl, hsz, hP, hK, hD0⟩ := hv
  have hx := B.exec
  have hb := B.bytes
  have hr := B.returns
  have hts := atoms_spec (ws := wsX8_next) B.pre
  have hown : s.vm.findClass RX8 = some m.cls := findClass_of_methodNamed B.named
  have hlocks := B.notSynchronized
  subst hsz
  obtain ⟨A, hAe⟩ : ∃ A : Nat → Prop, A = va_A (wM y h q tw pn ki on ot ab be zA zB zC zD zF zT fo lw hg at_ tl th wo wl wh is_ lo_ hi_ di su an) s.heap.size := ⟨_, rfl⟩
  have hD : va_D A (wM y h q tw pn ki on ot ab be zA zB zC zD zF zT fo lw hg at_ tl th wo wl wh is_ lo_ hi_ di su an) := by rw [hAe]; exact hD0.self (sz := s.heap.size)
  have hA : ∀ q : Nat, s.heap.size ≤ q → A q := fun q h => by rw [hAe]; exact Or.inr h
  have hS : va_S A s.heap s.heap [] := va_S.rf
  have hl := lv_entry ([.ref h, .int a]) (n := 5) (Nat.le_of_ble_eq_true rfl)
  rw [lg_entry_eq]
  generalize (lg_sl ([.ref h, .int a]) ++ List.replicate (5 - (lg_sl ([.ref h, .int a])).length) Slot.unset).toArray = ls at hl ⊢
  have hl : lv_has ls 5 [(0, .ref h), (1, .int a)] := hl
  refine lv_aload_n hx hb dX8_next_0 rfl (lv_at hl 0 rfl) ?_
  refine lv_iload_n hx hb dX8_next_1 rfl (lv_at hl 1 rfl) ?_
  refine g_callR (v0 := .int (gB (sp_X8_isProgram pn a))) (va_runV (As := [.int a]) (rest := []) ⟨hx, hb, hml, hown, hts⟩ (c_X8_isProgram l D y s.heap.size h q tw pn ki on ot ab be zA zB zC zD zF zT fo lw hg at_ tl th wo wl wh is_ lo_ hi_ di su an a) (cwV 1 hts gX8_next_X8_isProgram rfl rfl rfl (by decide +kernel) ⟨Nat.le_of_ble_eq_true rfl, Nat.le_of_ble_eq_true rfl⟩) (gP_VA hP hD hK 0 rfl rfl) rfl rfl hl.1 rfl (lv_room (Nat.le_of_ble_eq_true rfl)) dX8_next_2 ⟨Nat.zero_le _, Nat.zero_le _⟩) ?_
  refine lv_istore_n (lv' := [(2, .int (gB (sp_X8_isProgram pn a))), (0, .ref h), (1, .int a)]) hx hb dX8_next_5 rfl hl (by decide) rfl (fun ls hl => ?_)
  refine lv_iconst (v := 2) hx hb dX8_next_6 (by decide) ?_
  refine lv_istore_n (lv' := [(3, .int 2), (2, .int (gB (sp_X8_isProgram pn a))), (0, .ref h), (1, .int a)]) hx hb dX8_next_7 rfl hl (by decide) rfl (fun ls hl => ?_)
  refine lv_iload_n hx hb dX8_next_8 rfl (lv_at hl 1 rfl) ?_
  refine g_beq (tgt := 23) hx hb dX8_next_9 (by decide) (fun c_9 => ?_) (fun c_9 => absurd c_9 yA)
  refine lv_bipush (v := 25) hx hb dX8_next_23 (by decide) ?_
  refine lv_istore (lv' := [(4, .int 25), (3, .int 2), (2, .int (gB (sp_X8_isProgram pn a))), (0, .ref h), (1, .int a)]) hx hb dX8_next_25 hl (by decide) rfl (fun ls hl => ?_)
  refine lv_iload hx hb dX8_next_27 (lv_at hl 0 rfl) ?_
  refine lv_bipush (v := 25) hx hb dX8_next_29 (by decide) ?_
  refine lv_icmp_ge (tgt := 53) hx hb dX8_next_31 (by decide) (fun c_31 => ?_) (fun c_31 => absurd c_31 (by decide))
  refine lv_aload_n hx hb dX8_next_53 rfl (lv_at hl 3 rfl) ?_
  refine lv_iload_n hx hb dX8_next_54 rfl (lv_at hl 2 rfl) ?_
  refine g_bne (tgt := 62) hx hb dX8_next_55 (by decide) (fun c_55 => absurd c_55 yA) (fun c_55 => ?_)
  refine lv_iconst (v := 1) hx hb dX8_next_58 (by decide) ?_
  refine lv_goto (tgt := 72) hx hb dX8_next_59 (by decide) ?_
  refine g_callA1 (v0 := .int (gB (sp_X8_holds 1))) (w0 := wM y h q 1 pn ki on ot ab be zA zB zC zD zF zT fo lw hg at_ tl th wo wl wh is_ lo_ hi_ di su an) (va_runV (As := [.int 1]) (rest := []) ⟨hx, hb, hml, hown, hts⟩ (c_X8_holds l D y s.heap.size h q tw pn ki on ot ab be zA zB zC zD zF zT fo lw hg at_ tl th wo wl wh is_ lo_ hi_ di su an 1) (cwV 1 hts gX8_next_X8_holds rfl rfl rfl (by decide +kernel) ⟨Nat.le_of_ble_eq_true rfl, Nat.le_of_ble_eq_true rfl⟩) (gP_VA hP hD hK 0 rfl rfl) rfl rfl hl.1 rfl (lv_room (Nat.le_of_ble_eq_true rfl)) dX8_next_72 ⟨Nat.zero_le _, Nat.zero_le _⟩) hP hD hS hA rfl (fun H locs hP hD hS => ?_)
  refine g_bne (tgt := 80) hx hb dX8_next_75 (by decide) (fun c_75 => absurd c_75 (by decide)) (fun c_75 => ?_)
  refine lv_iconst (v := 0) hx hb dX8_next_78 (by decide) ?_
  exact W.iret (v := 0) hx hb hr (fun t ht hW => ⟨⟨_, wM y h q 1 pn ki on ot ab be zA zB zC zD zF zT fo lw hg at_ tl th wo wl wh is_ lo_ hi_ di su an, rfl, ⟨congrArg (fun z => some (Value.int z)) (rfl), rfl⟩, rfl, by rw [ht]; exact hP⟩, by rw [← hAe]; exact hS.F ht⟩) (by rw [← hAe]; exact hS.2.2) dX8_next_79
set_option maxHeartbeats 4000000 in
set_option maxRecDepth 100000 in
theorem c_X8_emitted_1 (l : Launch) (D : va_G) (y : Nat → ClassId) (sz : Nat) (h : Nat) (q : Nat → Nat) (tw : Int32) (pn : Nat) (ki on ot ab be zA zB zC zD zF zT : Nat → Int32) (fo : Nat → Bool) (lw hg : Nat → Int64) (at_ : Nat → Bool) (tl th : Nat → Int64) (wo : Nat → Bool) (wl wh : Nat → Int64) (is_ : Bool) (lo_ hi_ : Int64) (di : Nat → Int32) (su : Nat → Int64) (an : Nat → Bool) (a : Int32) (yA : ¬ sp_X8_isProgram pn a = true) : Met l yX8_emitted wsX8_emitted ({ frames := 2, cells := 0, slots := 0, locals := 43 } : Room) (gP D y [.ref h, .int a] (wM y h q tw pn ki on ot ab be zA zB zC zD zF zT fo lw hg at_ tl th wo wl wh is_ lo_ hi_ di su an) sz) (gQ D (wM y h q tw pn ki on ot ab be zA zB zC zD zF zT fo lw hg at_ tl th wo wl wh is_ lo_ hi_ di su an) (gF (some (.int 0)) (wM y h q 1 pn ki on ot ab be zA zB zC zD zF zT fo lw hg at_ tl th wo wl wh is_ lo_ hi_ di su an))) 0 0 (va_A (wM y h q tw pn ki on ot ab be zA zB zC zD zF zT fo lw hg at_ tl th wo wl wh is_ lo_ hi_ di su an) sz) := by
  refine Met.ofW (cc := cX8_emitted) (maxL := 2) (ret := (some .int)) (by decide) rfl ?_
  intro pg e s m args below meth c s₁ B hml hv
  obtain ⟨rfl, hsz, hP, hK, hD0⟩ := hv
  have hx := B.exec
  have hb := B.bytes
  have hr := B.returns
  have hts := atoms_spec (ws := wsX8_emitted) B.pre
  have hown : s.vm.findClass RX8 = some m.cls := findClass_of_methodNamed B.named
  have hlocks := B.notSynchronized
  subst hsz
  obtain ⟨A, hAe⟩ : ∃ A : Nat → Prop, A = va_A (wM y h q tw pn ki on ot ab be zA zB zC zD zF zT fo lw hg at_ tl th wo wl wh is_ lo_ hi_ di su an) s.heap.size := ⟨_, rfl⟩
  have hD : va_D A (wM y h q tw pn ki on ot ab be zA zB zC zD zF zT fo lw hg at_ tl th wo wl wh is_ lo_ hi_ di su an) := by rw [hAe]; exact hD0.self (sz := s.heap.size)
  have hA : ∀ q : Nat, s.heap.size ≤ q → A q := fun q h => by rw [hAe]; exact Or.inr h
  have hS : va_S A s.heap s.heap [] := va_S.rf
  have hl := lv_entry ([.ref h, .int a]) (n := 2) (Nat.le_of_ble_eq_true rfl)
  rw [lg_entry_eq]
  generalize (lg_sl ([.ref h, .int a]) ++ List.replicate (2 - (lg_sl ([.ref h, .int a])).length) Slot.unset).toArray = ls at hl ⊢
  have hl : lv_has ls 2 [(0, .ref h), (1, .int a)] := hl
  refine lv_aload_n hx hb dX8_emitted_0 rfl (lv_at hl 0 rfl) ?_
  refine lv_aload_n hx hb dX8_emitted_1 rfl (lv_at hl 0 rfl) ?_
  refine lv_iload_n hx hb dX8_emitted_2 rfl (lv_at hl 1 rfl) ?_
  refine g_callR (v0 := .int (gB (sp_X8_isProgram pn a))) (va_runV (As := [.int a]) (rest := [.ref h]) ⟨hx, hb, hml, hown, hts⟩ (c_X8_isProgram l D y s.heap.size h q tw pn ki on ot ab be zA zB zC zD zF zT fo lw hg at_ tl th wo wl wh is_ lo_ hi_ di su an a) (cwV 1 hts gX8_emitted_X8_isProgram rfl rfl rfl (by decide +kernel) ⟨Nat.le_of_ble_eq_true rfl, Nat.le_of_ble_eq_true rfl⟩) (gP_VA hP hD hK 0 rfl rfl) rfl rfl hl.1 rfl (lv_room (Nat.le_of_ble_eq_true rfl)) dX8_emitted_3 ⟨Nat.zero_le _, Nat.zero_le _⟩) ?_
  refine g_beq (tgt := 13) hx hb dX8_emitted_6 (by decide) (fun c_6 => ?_) (fun c_6 => absurd c_6 yA)
  refine lv_iconst (v := 1) hx hb dX8_emitted_13 (by decide) ?_
  refine g_callA1 (v0 := .int (gB (sp_X8_holds 1))) (w0 := wM y h q 1 pn ki on ot ab be zA zB zC zD zF zT fo lw hg at_ tl th wo wl wh is_ lo_ hi_ di su an) (va_runV (As := [.int 1]) (rest := []) ⟨hx, hb, hml, hown, hts⟩ (c_X8_holds l D y s.heap.size h q tw pn ki on ot ab be zA zB zC zD zF zT fo lw hg at_ tl th wo wl wh is_ lo_ hi_ di su an 1) (cwV 1 hts gX8_emitted_X8_holds rfl rfl rfl (by decide +kernel) ⟨Nat.le_of_ble_eq_true rfl, Nat.le_of_ble_eq_true rfl⟩) (gP_VA hP hD hK 0 rfl rfl) rfl rfl hl.1 rfl (lv_room (Nat.le_of_ble_eq_true rfl)) dX8_emitted_14 ⟨Nat.zero_le _, Nat.zero_le _⟩) hP hD hS hA rfl (fun H locs hP hD hS => ?_)
  refine g_beq (tgt := 29) hx hb dX8_emitted_17 (by decide) (fun c_17 => ?_) (fun c_17 => absurd c_17 (by decide))
  refine lv_iconst (v := 0) hx hb dX8_emitted_29 (by decide) ?_
  exact W.iret (v := 0) hx hb hr (fun t ht hW => ⟨⟨_, wM y h q 1 pn ki on ot ab be zA zB zC zD zF zT fo lw hg at_ tl th wo wl wh is_ lo_ hi_ di su an, rfl, ⟨congrArg (fun z => some (Value.int z)) (rfl), rfl⟩, rfl, by rw [ht]; exact hP⟩, by rw [← hAe]; exact hS.F ht⟩) (by rw [← hAe]; exact hS.2.2) dX8_emitted_30
theorem in_X8_emitted_X8 : ∀ w ∈ wsX80, w ∈ wsX8_emitted := fun _ h => List.mem_cons_of_mem _ (List.mem_append_right _ h)
set_option maxHeartbeats 4000000 in
set_option maxRecDepth 100000 in
theorem c_X8_emitted_0 (l : Launch) (D : va_G) (y : Nat → ClassId) (sz : Nat) (h : Nat) (q : Nat → Nat) (tw : Int32) (pn : Nat) (ki on ot ab be zA zB zC zD zF zT : Nat → Int32) (fo : Nat → Bool) (lw hg : Nat → Int64) (at_ : Nat → Bool) (tl th : Nat → Int64) (wo : Nat → Bool) (wl wh : Nat → Int64) (is_ : Bool) (lo_ hi_ : Int64) (di : Nat → Int32) (su : Nat → Int64) (an : Nat → Bool) (k : Nat) (hpn : pn ≤ 40) (hk : k < pn) : Met l yX8_emitted wsX8_emitted ({ frames := 2, cells := 0, slots := 0, locals := 43 } : Room) (gP D y [.ref h, .int (nI k)] (wM y h q tw pn ki on ot ab be zA zB zC zD zF zT fo lw hg at_ tl th wo wl wh is_ lo_ hi_ di su an) sz) (gQ D (wM y h q tw pn ki on ot ab be zA zB zC zD zF zT fo lw hg at_ tl th wo wl wh is_ lo_ hi_ di su an) (gF (some (.int (di k))) (wM y h q 0 pn ki on ot ab be zA zB zC zD zF zT fo lw hg at_ tl th wo wl wh is_ lo_ hi_ di su an))) 0 0 (va_A (wM y h q tw pn ki on ot ab be zA zB zC zD zF zT fo lw hg at_ tl th wo wl wh is_ lo_ hi_ di su an) sz) := by
  refine Met.ofW (cc := cX8_emitted) (maxL := 2) (ret := (some .int)) (by decide) rfl ?_
  intro pg e s m args below meth c s₁ B hml hv
  obtain ⟨rfl, hsz, hP, hK, hD0⟩ := hv
  have hx := B.exec
  have hb := B.bytes
  have hr := B.returns
  have hts := atoms_spec (ws := wsX8_emitted) B.pre
  have hown : s.vm.findClass RX8 = some m.cls := findClass_of_methodNamed B.named
  have hlocks := B.notSynchronized
  subst hsz
  obtain ⟨A, hAe⟩ : ∃ A : Nat → Prop, A = va_A (wM y h q tw pn ki on ot ab be zA zB zC zD zF zT fo lw hg at_ tl th wo wl wh is_ lo_ hi_ di su an) s.heap.size := ⟨_, rfl⟩
  have hD : va_D A (wM y h q tw pn ki on ot ab be zA zB zC zD zF zT fo lw hg at_ tl th wo wl wh is_ lo_ hi_ di su an) := by rw [hAe]; exact hD0.self (sz := s.heap.size)
  have hA : ∀ q : Nat, s.heap.size ≤ q → A q := fun q h => by rw [hAe]; exact Or.inr h
  have hS : va_S A s.heap s.heap [] := va_S.rf
  have hl := lv_entry ([.ref h, .int (nI k)]) (n := 2) (Nat.le_of_ble_eq_true rfl)
  rw [lg_entry_eq]
  generalize (lg_sl ([.ref h, .int (nI k)]) ++ List.replicate (2 - (lg_sl ([.ref h, .int (nI k)])).length) Slot.unset).toArray = ls at hl ⊢
  have hl : lv_has ls 2 [(0, .ref h), (1, .int (nI k))] := hl
  refine lv_aload_n hx hb dX8_emitted_0 rfl (lv_at hl 0 rfl) ?_
  refine lv_aload_n hx hb dX8_emitted_1 rfl (lv_at hl 0 rfl) ?_
  refine lv_iload_n hx hb dX8_emitted_2 rfl (lv_at hl 1 rfl) ?_
  refine g_callR (v0 := .int (gB (sp_X8_isProgram pn (nI k)))) (va_runV (As := [.int (nI k)]) (rest := [.ref h]) ⟨hx, hb, hml, hown, hts⟩ (c_X8_isProgram l D y s.heap.size h q tw pn ki on ot ab be zA zB zC zD zF zT fo lw hg at_ tl th wo wl wh is_ lo_ hi_ di su an (nI k)) (cwV 1 hts gX8_emitted_X8_isProgram rfl rfl rfl (by decide +kernel) ⟨Nat.le_of_ble_eq_true rfl, Nat.le_of_ble_eq_true rfl⟩) (gP_VA hP hD hK 0 rfl rfl) rfl rfl hl.1 rfl (lv_room (Nat.le_of_ble_eq_true rfl)) dX8_emitted_3 ⟨Nat.zero_le _, Nat.zero_le _⟩) ?_
  refine g_beq (tgt := 13) hx hb dX8_emitted_6 (by decide) (fun c_6 => absurd (g_isP hk hpn) c_6) (fun c_6 => ?_)
  refine lv_iconst (v := 0) hx hb dX8_emitted_9 (by decide) ?_
  refine lv_goto (tgt := 14) hx hb dX8_emitted_10 (by decide) ?_
  refine g_callA1 (v0 := .int (gB (sp_X8_holds 0))) (w0 := wM y h q 0 pn ki on ot ab be zA zB zC zD zF zT fo lw hg at_ tl th wo wl wh is_ lo_ hi_ di su an) (va_runV (As := [.int 0]) (rest := []) ⟨hx, hb, hml, hown, hts⟩ (c_X8_holds l D y s.heap.size h q tw pn ki on ot ab be zA zB zC zD zF zT fo lw hg at_ tl th wo wl wh is_ lo_ hi_ di su an 0) (cwV 1 hts gX8_emitted_X8_holds rfl rfl rfl (by decide +kernel) ⟨Nat.le_of_ble_eq_true rfl, Nat.le_of_ble_eq_true rfl⟩) (gP_VA hP hD hK 0 rfl rfl) rfl rfl hl.1 rfl (lv_room (Nat.le_of_ble_eq_true rfl)) dX8_emitted_14 ⟨Nat.zero_le _, Nat.zero_le _⟩) hP hD hS hA rfl (fun H locs hP hD hS => ?_)
  refine g_beq (tgt := 29) hx hb dX8_emitted_17 (by decide) (fun c_17 => absurd (by decide) c_17) (fun c_17 => ?_)
  refine lv_aload_n hx hb dX8_emitted_20 rfl (lv_at hl 0 rfl) ?_
  refine va_get (D := D) (ci := 6) (v := .ref (q 25)) (C := RX8) (T := TX8) (N := 28) hx hb hts in_X8_emitted_X8 hown hK.1 hP 0 rfl rfl 25 (by decide) (hts (.fieldLink RX8 72 "NestlimitModel" "digits" "[I") (List.mem_of_getElem? (i := 1) rfl)) (fun _ h9 => h9) rfl dX8_emitted_21 ?_
  refine lv_iload_n hx hb dX8_emitted_24 rfl (lv_at hl 1 rfl) ?_
  refine g_iald (k := k) hx hb hK.1 hP 21 0 rfl rfl (by omega) (by decide) dX8_emitted_25 ?_
  refine lv_goto (tgt := 30) hx hb dX8_emitted_26 (by decide) ?_
  exact W.iret (v := di k) hx hb hr (fun t ht hW => ⟨⟨_, wM y h q 0 pn ki on ot ab be zA zB zC zD zF zT fo lw hg at_ tl th wo wl wh is_ lo_ hi_ di su an, rfl, ⟨congrArg (fun z => some (Value.int z)) (rfl), rfl⟩, rfl, by rw [ht]; exact hP⟩, by rw [← hAe]; exact hS.F ht⟩) (by rw [← hAe]; exact hS.2.2) dX8_emitted_30
set_option maxHeartbeats 4000000 in
set_option maxRecDepth 100000 in
theorem c_X8_partial_1 (l : Launch) (D : va_G) (y : Nat → ClassId) (sz : Nat) (h : Nat) (q : Nat → Nat) (tw : Int32) (pn : Nat) (ki on ot ab be zA zB zC zD zF zT : Nat → Int32) (fo : Nat → Bool) (lw hg : Nat → Int64) (at_ : Nat → Bool) (tl th : Nat → Int64) (wo : Nat → Bool) (wl wh : Nat → Int64) (is_ : Bool) (lo_ hi_ : Int64) (di : Nat → Int32) (su : Nat → Int64) (an : Nat → Bool) (a : Int32) (yA : ¬ sp_X8_isProgram pn a = true) : Met l yX8_partial wsX8_partial ({ frames := 2, cells := 0, slots := 0, locals := 43 } : Room) (gP D y [.ref h, .int a] (wM y h q tw pn ki on ot ab be zA zB zC zD zF zT fo lw hg at_ tl th wo wl wh is_ lo_ hi_ di su an) sz) (gQ D (wM y h q tw pn ki on ot ab be zA zB zC zD zF zT fo lw hg at_ tl th wo wl wh is_ lo_ hi_ di su an) (gF (some (.long 0)) (wM y h q 1 pn ki on ot ab be zA zB zC zD zF zT fo lw hg at_ tl th wo wl wh is_ lo_ hi_ di su an))) 0 0 (va_A (wM y h q tw pn ki on ot ab be zA zB zC zD zF zT fo lw hg at_ tl th wo wl wh is_ lo_ hi_ di su an) sz) := by
  refine Met.ofW (cc := cX8_partial) (maxL := 2) (ret := (some .long)) (by decide) rfl ?_
  intro pg e s m args below meth c s₁ B hml hv
  obtain ⟨rfl, hsz, hP, hK, hD0⟩ := hv
  have hx := B.exec
  have hb := B.bytes
  have hr := B.returns
  have hts := atoms_spec (ws := wsX8_partial) B.pre
  have hown : s.vm.findClass RX8 = some m.cls := findClass_of_methodNamed B.named
  have hlocks := B.notSynchronized
  subst hsz
  obtain ⟨A, hAe⟩ : ∃ A : Nat → Prop, A = va_A (wM y h q tw pn ki on ot ab be zA zB zC zD zF zT fo lw hg at_ tl th wo wl wh is_ lo_ hi_ di su an) s.heap.size := ⟨_, rfl⟩
  have hD : va_D A (wM y h q tw pn ki on ot ab be zA zB zC zD zF zT fo lw hg at_ tl th wo wl wh is_ lo_ hi_ di su an) := by rw [hAe]; exact hD0.self (sz := s.heap.size)
  have hA : ∀ q : Nat, s.heap.size ≤ q → A q := fun q h => by rw [hAe]; exact Or.inr h
  have hS : va_S A s.heap s.heap [] := va_S.rf
  have hl := lv_entry ([.ref h, .int a]) (n := 2) (Nat.le_of_ble_eq_true rfl)
  rw [lg_entry_eq]
  generalize (lg_sl ([.ref h, .int a]) ++ List.replicate (2 - (lg_sl ([.ref h, .int a])).length) Slot.unset).toArray = ls at hl ⊢
  have hl : lv_has ls 2 [(0, .ref h), (1, .int a)] := hl
  refine lv_aload_n hx hb dX8_partial_0 rfl (lv_at hl 0 rfl) ?_
  refine lv_aload_n hx hb dX8_partial_1 rfl (lv_at hl 0 rfl) ?_
  refine lv_iload_n hx hb dX8_partial_2 rfl (lv_at hl 1 rfl) ?_
  refine g_callR (v0 := .int (gB (sp_X8_isProgram pn a))) (va_runV (As := [.int a]) (rest := [.ref h]) ⟨hx, hb, hml, hown, hts⟩ (c_X8_isProgram l D y s.heap.size h q tw pn ki on ot ab be zA zB zC zD zF zT fo lw hg at_ tl th wo wl wh is_ lo_ hi_ di su an a) (cwV 1 hts gX8_partial_X8_isProgram rfl rfl rfl (by decide +kernel) ⟨Nat.le_of_ble_eq_true rfl, Nat.le_of_ble_eq_true rfl⟩) (gP_VA hP hD hK 0 rfl rfl) rfl rfl hl.1 rfl (lv_room (Nat.le_of_ble_eq_true rfl)) dX8_partial_3 ⟨Nat.zero_le _, Nat.zero_le _⟩) ?_
  refine g_beq (tgt := 13) hx hb dX8_partial_6 (by decide) (fun c_6 => ?_) (fun c_6 => absurd c_6 yA)
  refine lv_iconst (v := 1) hx hb dX8_partial_13 (by decide) ?_
  refine g_callA1 (v0 := .int (gB (sp_X8_holds 1))) (w0 := wM y h q 1 pn ki on ot ab be zA zB zC zD zF zT fo lw hg at_ tl th wo wl wh is_ lo_ hi_ di su an) (va_runV (As := [.int 1]) (rest := []) ⟨hx, hb, hml, hown, hts⟩ (c_X8_holds l D y s.heap.size h q tw pn ki on ot ab be zA zB zC zD zF zT fo lw hg at_ tl th wo wl wh is_ lo_ hi_ di su an 1) (cwV 1 hts gX8_partial_X8_holds rfl rfl rfl (by decide +kernel) ⟨Nat.le_of_ble_eq_true rfl, Nat.le_of_ble_eq_true rfl⟩) (gP_VA hP hD hK 0 rfl rfl) rfl rfl hl.1 rfl (lv_room (Nat.le_of_ble_eq_true rfl)) dX8_partial_14 ⟨Nat.zero_le _, Nat.zero_le _⟩) hP hD hS hA rfl (fun H locs hP hD hS => ?_)
  refine g_beq (tgt := 29) hx hb dX8_partial_17 (by decide) (fun c_17 => ?_) (fun c_17 => absurd c_17 (by decide))
  refine lv_lconst (v := 0) hx hb dX8_partial_29 (by decide) ?_
  exact W.lret (v := 0) hx hb hr (fun t ht hW => ⟨⟨_, wM y h q 1 pn ki on ot ab be zA zB zC zD zF zT fo lw hg at_ tl th wo wl wh is_ lo_ hi_ di su an, rfl, ⟨congrArg (fun z => some (Value.long z)) (rfl), rfl⟩, rfl, by rw [ht]; exact hP⟩, by rw [← hAe]; exact hS.F ht⟩) (by rw [← hAe]; exact hS.2.2) dX8_partial_30
theorem in_X8_partial_X8 : ∀ w ∈ wsX80, w ∈ wsX8_partial := fun _ h => List.mem_cons_of_mem _ (List.mem_append_right _ h)
set_option maxHeartbeats 4000000 in
set_option maxRecDepth 100000 in
theorem c_X8_partial_0 (l : Launch) (D : va_G) (y : Nat → ClassId) (sz : Nat) (h : Nat) (q : Nat → Nat) (tw : Int32) (pn : Nat) (ki on ot ab be zA zB zC zD zF zT : Nat → Int32) (fo : Nat → Bool) (lw hg : Nat → Int64) (at_ : Nat → Bool) (tl th : Nat → Int64) (wo : Nat → Bool) (wl wh : Nat → Int64) (is_ : Bool) (lo_ hi_ : Int64) (di : Nat → Int32) (su : Nat → Int64) (an : Nat → Bool) (k : Nat) (hpn : pn ≤ 40) (hk : k < pn) : Met l yX8_partial wsX8_partial ({ frames := 2, cells := 0, slots := 0, locals := 43 } : Room) (gP D y [.ref h, .int (nI k)] (wM y h q tw pn ki on ot ab be zA zB zC zD zF zT fo lw hg at_ tl th wo wl wh is_ lo_ hi_ di su an) sz) (gQ D (wM y h q tw pn ki on ot ab be zA zB zC zD zF zT fo lw hg at_ tl th wo wl wh is_ lo_ hi_ di su an) (gF (some (.long (su k))) (wM y h q 0 pn ki on ot ab be zA zB zC zD zF zT fo lw hg at_ tl th wo wl wh is_ lo_ hi_ di su an))) 0 0 (va_A (wM y h q tw pn ki on ot ab be zA zB zC zD zF zT fo lw hg at_ tl th wo wl wh is_ lo_ hi_ di su an) sz) := by
  refine Met.ofW (cc := cX8_partial) (maxL := 2) (ret := (some .long)) (by decide) rfl ?_
  intro pg e s m args below meth c s₁ B hml hv
  obtain ⟨rfl, hsz, hP, hK, hD0⟩ := hv
  have hx := B.exec
  have hb := B.bytes
  have hr := B.returns
  have hts := atoms_spec (ws := wsX8_partial) B.pre
  have hown : s.vm.findClass RX8 = some m.cls := findClass_of_methodNamed B.named
  have hlocks := B.notSynchronized
  subst hsz
  obtain ⟨A, hAe⟩ : ∃ A : Nat → Prop, A = va_A (wM y h q tw pn ki on ot ab be zA zB zC zD zF zT fo lw hg at_ tl th wo wl wh is_ lo_ hi_ di su an) s.heap.size := ⟨_, rfl⟩
  have hD : va_D A (wM y h q tw pn ki on ot ab be zA zB zC zD zF zT fo lw hg at_ tl th wo wl wh is_ lo_ hi_ di su an) := by rw [hAe]; exact hD0.self (sz := s.heap.size)
  have hA : ∀ q : Nat, s.heap.size ≤ q → A q := fun q h => by rw [hAe]; exact Or.inr h
  have hS : va_S A s.heap s.heap [] := va_S.rf
  have hl := lv_entry ([.ref h, .int (nI k)]) (n := 2) (Nat.le_of_ble_eq_true rfl)
  rw [lg_entry_eq]
  generalize (lg_sl ([.ref h, .int (nI k)]) ++ List.replicate (2 - (lg_sl ([.ref h, .int (nI k)])).length) Slot.unset).toArray = ls at hl ⊢
  have hl : lv_has ls 2 [(0, .ref h), (1, .int (nI k))] := hl
  refine lv_aload_n hx hb dX8_partial_0 rfl (lv_at hl 0 rfl) ?_
  refine lv_aload_n hx hb dX8_partial_1 rfl (lv_at hl 0 rfl) ?_
  refine lv_iload_n hx hb dX8_partial_2 rfl (lv_at hl 1 rfl) ?_
  refine g_callR (v0 := .int (gB (sp_X8_isProgram pn (nI k)))) (va_runV (As := [.int (nI k)]) (rest := [.ref h]) ⟨hx, hb, hml, hown, hts⟩ (c_X8_isProgram l D y s.heap.size h q tw pn ki on ot ab be zA zB zC zD zF zT fo lw hg at_ tl th wo wl wh is_ lo_ hi_ di su an (nI k)) (cwV 1 hts gX8_partial_X8_isProgram rfl rfl rfl (by decide +kernel) ⟨Nat.le_of_ble_eq_true rfl, Nat.le_of_ble_eq_true rfl⟩) (gP_VA hP hD hK 0 rfl rfl) rfl rfl hl.1 rfl (lv_room (Nat.le_of_ble_eq_true rfl)) dX8_partial_3 ⟨Nat.zero_le _, Nat.zero_le _⟩) ?_
  refine g_beq (tgt := 13) hx hb dX8_partial_6 (by decide) (fun c_6 => absurd (g_isP hk hpn) c_6) (fun c_6 => ?_)
  refine lv_iconst (v := 0) hx hb dX8_partial_9 (by decide) ?_
  refine lv_goto (tgt := 14) hx hb dX8_partial_10 (by decide) ?_
  refine g_callA1 (v0 := .int (gB (sp_X8_holds 0))) (w0 := wM y h q 0 pn ki on ot ab be zA zB zC zD zF zT fo lw hg at_ tl th wo wl wh is_ lo_ hi_ di su an) (va_runV (As := [.int 0]) (rest := []) ⟨hx, hb, hml, hown, hts⟩ (c_X8_holds l D y s.heap.size h q tw pn ki on ot ab be zA zB zC zD zF zT fo lw hg at_ tl th wo wl wh is_ lo_ hi_ di su an 0) (cwV 1 hts gX8_partial_X8_holds rfl rfl rfl (by decide +kernel) ⟨Nat.le_of_ble_eq_true rfl, Nat.le_of_ble_eq_true rfl⟩) (gP_VA hP hD hK 0 rfl rfl) rfl rfl hl.1 rfl (lv_room (Nat.le_of_ble_eq_true rfl)) dX8_partial_14 ⟨Nat.zero_le _, Nat.zero_le _⟩) hP hD hS hA rfl (fun H locs hP hD hS => ?_)
  refine g_beq (tgt := 29) hx hb dX8_partial_17 (by decide) (fun c_17 => absurd (by decide) c_17) (fun c_17 => ?_)
  refine lv_aload_n hx hb dX8_partial_20 rfl (lv_at hl 0 rfl) ?_
  refine va_get (D := D) (ci := 6) (v := .ref (q 26)) (C := RX8) (T := TX8) (N := 28) hx hb hts in_X8_partial_X8 hown hK.1 hP 0 rfl rfl 26 (by decide) (hts (.fieldLink RX8 75 "NestlimitModel" "sums" "[J") (List.mem_of_getElem? (i := 1) rfl)) (fun _ h9 => h9) rfl dX8_partial_21 ?_
  refine lv_iload_n hx hb dX8_partial_24 rfl (lv_at hl 1 rfl) ?_
  refine g_lald (k := k) hx hb hK.1 hP 22 1 rfl rfl (by omega) (by decide) dX8_partial_25 ?_
  refine lv_goto (tgt := 30) hx hb dX8_partial_26 (by decide) ?_
  exact W.lret (v := su k) hx hb hr (fun t ht hW => ⟨⟨_, wM y h q 0 pn ki on ot ab be zA zB zC zD zF zT fo lw hg at_ tl th wo wl wh is_ lo_ hi_ di su an, rfl, ⟨congrArg (fun z => some (Value.long z)) (rfl), rfl⟩, rfl, by rw [ht]; exact hP⟩, by rw [← hAe]; exact hS.F ht⟩) (by rw [← hAe]; exact hS.2.2) dX8_partial_30
set_option maxHeartbeats 4000000 in
set_option maxRecDepth 100000 in
theorem c_X8_restart_1 (l : Launch) (D : va_G) (y : Nat → ClassId) (sz : Nat) (h : Nat) (q : Nat → Nat) (tw : Int32) (pn : Nat) (ki on ot ab be zA zB zC zD zF zT : Nat → Int32) (fo : Nat → Bool) (lw hg : Nat → Int64) (at_ : Nat → Bool) (tl th : Nat → Int64) (wo : Nat → Bool) (wl wh : Nat → Int64) (is_ : Bool) (lo_ hi_ : Int64) (di : Nat → Int32) (su : Nat → Int64) (an : Nat → Bool) (a : Int32) (yA : ¬ sp_X8_isProgram pn a = true) : Met l yX8_restart wsX8_restart ({ frames := 2, cells := 0, slots := 0, locals := 43 } : Room) (gP D y [.ref h, .int a] (wM y h q tw pn ki on ot ab be zA zB zC zD zF zT fo lw hg at_ tl th wo wl wh is_ lo_ hi_ di su an) sz) (gQ D (wM y h q tw pn ki on ot ab be zA zB zC zD zF zT fo lw hg at_ tl th wo wl wh is_ lo_ hi_ di su an) (gF (some (.int 0)) (wM y h q 1 pn ki on ot ab be zA zB zC zD zF zT fo lw hg at_ tl th wo wl wh is_ lo_ hi_ di su an))) 0 0 (va_A (wM y h q tw pn ki on ot ab be zA zB zC zD zF zT fo lw hg at_ tl th wo wl wh is_ lo_ hi_ di su an) sz) := by
  refine Met.ofW (cc := cX8_restart) (maxL := 3) (ret := (some .int)) (by decide) rfl ?_
  intro pg e s m args below meth c s₁ B hml hv
  obtain ⟨rfl, hsz, hP, hK, hD0⟩ := hv
  have hx := B.exec
  have hb := B.bytes
  have hr := B.returns
  have hts := atoms_spec (ws := wsX8_restart) B.pre
  have hown : s.vm.findClass RX8 = some m.cls := findClass_of_methodNamed B.named
  have hlocks := B.notSynchronized
  subst hsz
  obtain ⟨A, hAe⟩ : ∃ A : Nat → Prop, A = va_A (wM y h q tw pn ki on ot ab be zA zB zC zD zF zT fo lw hg at_ tl th wo wl wh is_ lo_ hi_ di su an) s.heap.size := ⟨_, rfl⟩
  have hD : va_D A (wM y h q tw pn ki on ot ab be zA zB zC zD zF zT fo lw hg at_ tl th wo wl wh is_ lo_ hi_ di su an) := by rw [hAe]; exact hD0.self (sz := s.heap.size)
  have hA : ∀ q : Nat, s.heap.size ≤ q → A q := fun q h => by rw [hAe]; exact Or.inr h
  have hS : va_S A s.heap s.heap [] := va_S.rf
  have hl := lv_entry ([.ref h, .int a]) (n := 3) (Nat.le_of_ble_eq_true rfl)
  rw [lg_entry_eq]
  generalize (lg_sl ([.ref h, .int a]) ++ List.replicate (3 - (lg_sl ([.ref h, .int a])).length) Slot.unset).toArray = ls at hl ⊢
  have hl : lv_has ls 3 [(0, .ref h), (1, .int a)] := hl
  refine lv_aload_n hx hb dX8_restart_0 rfl (lv_at hl 0 rfl) ?_
  refine lv_aload_n hx hb dX8_restart_1 rfl (lv_at hl 0 rfl) ?_
  refine lv_iload_n hx hb dX8_restart_2 rfl (lv_at hl 1 rfl) ?_
  refine g_callR (v0 := .int (gB (sp_X8_isProgram pn a))) (va_runV (As := [.int a]) (rest := [.ref h]) ⟨hx, hb, hml, hown, hts⟩ (c_X8_isProgram l D y s.heap.size h q tw pn ki on ot ab be zA zB zC zD zF zT fo lw hg at_ tl th wo wl wh is_ lo_ hi_ di su an a) (cwV 1 hts gX8_restart_X8_isProgram rfl rfl rfl (by decide +kernel) ⟨Nat.le_of_ble_eq_true rfl, Nat.le_of_ble_eq_true rfl⟩) (gP_VA hP hD hK 0 rfl rfl) rfl rfl hl.1 rfl (lv_room (Nat.le_of_ble_eq_true rfl)) dX8_restart_3 ⟨Nat.zero_le _, Nat.zero_le _⟩) ?_
  refine g_beq (tgt := 13) hx hb dX8_restart_6 (by decide) (fun c_6 => ?_) (fun c_6 => absurd c_6 yA)
  refine lv_iconst (v := 1) hx hb dX8_restart_13 (by decide) ?_
  refine g_callA1 (v0 := .int (gB (sp_X8_holds 1))) (w0 := wM y h q 1 pn ki on ot ab be zA zB zC zD zF zT fo lw hg at_ tl th wo wl wh is_ lo_ hi_ di su an) (va_runV (As := [.int 1]) (rest := []) ⟨hx, hb, hml, hown, hts⟩ (c_X8_holds l D y s.heap.size h q tw pn ki on ot ab be zA zB zC zD zF zT fo lw hg at_ tl th wo wl wh is_ lo_ hi_ di su an 1) (cwV 1 hts gX8_restart_X8_holds rfl rfl rfl (by decide +kernel) ⟨Nat.le_of_ble_eq_true rfl, Nat.le_of_ble_eq_true rfl⟩) (gP_VA hP hD hK 0 rfl rfl) rfl rfl hl.1 rfl (lv_room (Nat.le_of_ble_eq_true rfl)) dX8_restart_14 ⟨Nat.zero_le _, Nat.zero_le _⟩) hP hD hS hA rfl (fun H locs hP hD hS => ?_)
  refine g_bne (tgt := 22) hx hb dX8_restart_17 (by decide) (fun c_17 => absurd c_17 (by decide)) (fun c_17 => ?_)
  refine lv_iconst (v := 0) hx hb dX8_restart_20 (by decide) ?_
  exact W.iret (v := 0) hx hb hr (fun t ht hW => ⟨⟨_, wM y h q 1 pn ki on ot ab be zA zB zC zD zF zT fo lw hg at_ tl th wo wl wh is_ lo_ hi_ di su an, rfl, ⟨congrArg (fun z => some (Value.int z)) (rfl), rfl⟩, rfl, by rw [ht]; exact hP⟩, by rw [← hAe]; exact hS.F ht⟩) (by rw [← hAe]; exact hS.2.2) dX8_restart_21
theorem in_X8_restart_X8 : ∀ w ∈ wsX80, w ∈ wsX8_restart := fun _ h => List.mem_cons_of_mem _ (List.mem_append_right _ h)
set_option maxHeartbeats 4000000 in
set_option maxRecDepth 100000 in
theorem c_X8_restart_0 (l : Launch) (D : va_G) (y : Nat → ClassId) (sz : Nat) (h : Nat) (q : Nat → Nat) (tw : Int32) (pn : Nat) (ki on ot ab be zA zB zC zD zF zT : Nat → Int32) (fo : Nat → Bool) (lw hg : Nat → Int64) (at_ : Nat → Bool) (tl th : Nat → Int64) (wo : Nat → Bool) (wl wh : Nat → Int64) (is_ : Bool) (lo_ hi_ : Int64) (di : Nat → Int32) (su : Nat → Int64) (an : Nat → Bool) (k : Nat) (hpn : pn ≤ 40) (hk : k < pn) : Met l yX8_restart wsX8_restart ({ frames := 2, cells := 0, slots := 0, locals := 43 } : Room) (gP D y [.ref h, .int (nI k)] (wM y h q tw pn ki on ot ab be zA zB zC zD zF zT fo lw hg at_ tl th wo wl wh is_ lo_ hi_ di su an) sz) (gQ D (wM y h q tw pn ki on ot ab be zA zB zC zD zF zT fo lw hg at_ tl th wo wl wh is_ lo_ hi_ di su an) (gF (some (.int (di k))) (wM y h q 0 pn ki on ot ab be zA zB zC zD zF zT fo lw hg at_ tl th wo wl wh is_ lo_ hi_ (upd di k 0) (vp_updL su k 0) an))) 0 0 (va_A (wM y h q tw pn ki on ot ab be zA zB zC zD zF zT fo lw hg at_ tl th wo wl wh is_ lo_ hi_ di su an) sz) := by
  refine Met.ofW (cc := cX8_restart) (maxL := 3) (ret := (some .int)) (by decide) rfl ?_
  intro pg e s m args below meth c s₁ B hml hv
  obtain ⟨rfl, hsz, hP, hK, hD0⟩ := hv
  have hx := B.exec
  have hb := B.bytes
  have hr := B.returns
  have hts := atoms_spec (ws := wsX8_restart) B.pre
  have hown : s.vm.findClass RX8 = some m.cls := findClass_of_methodNamed B.named
  have hlocks := B.notSynchronized
  subst hsz
  obtain ⟨A, hAe⟩ : ∃ A : Nat → Prop, A = va_A (wM y h q tw pn ki on ot ab be zA zB zC zD zF zT fo lw hg at_ tl th wo wl wh is_ lo_ hi_ di su an) s.heap.size := ⟨_, rfl⟩
  have hD : va_D A (wM y h q tw pn ki on ot ab be zA zB zC zD zF zT fo lw hg at_ tl th wo wl wh is_ lo_ hi_ di su an) := by rw [hAe]; exact hD0.self (sz := s.heap.size)
  have hA : ∀ q : Nat, s.heap.size ≤ q → A q := fun q h => by rw [hAe]; exact Or.inr h
  have hS : va_S A s.heap s.heap [] := va_S.rf
  have hl := lv_entry ([.ref h, .int (nI k)]) (n := 3) (Nat.le_of_ble_eq_true rfl)
  rw [lg_entry_eq]
  generalize (lg_sl ([.ref h, .int (nI k)]) ++ List.replicate (3 - (lg_sl ([.ref h, .int (nI k)])).length) Slot.unset).toArray = ls at hl ⊢
  have hl : lv_has ls 3 [(0, .ref h), (1, .int (nI k))] := hl
  refine lv_aload_n hx hb dX8_restart_0 rfl (lv_at hl 0 rfl) ?_
  refine lv_aload_n hx hb dX8_restart_1 rfl (lv_at hl 0 rfl) ?_
  refine lv_iload_n hx hb dX8_restart_2 rfl (lv_at hl 1 rfl) ?_
  refine g_callR (v0 := .int (gB (sp_X8_isProgram pn (nI k)))) (va_runV (As := [.int (nI k)]) (rest := [.ref h]) ⟨hx, hb, hml, hown, hts⟩ (c_X8_isProgram l D y s.heap.size h q tw pn ki on ot ab be zA zB zC zD zF zT fo lw hg at_ tl th wo wl wh is_ lo_ hi_ di su an (nI k)) (cwV 1 hts gX8_restart_X8_isProgram rfl rfl rfl (by decide +kernel) ⟨Nat.le_of_ble_eq_true rfl, Nat.le_of_ble_eq_true rfl⟩) (gP_VA hP hD hK 0 rfl rfl) rfl rfl hl.1 rfl (lv_room (Nat.le_of_ble_eq_true rfl)) dX8_restart_3 ⟨Nat.zero_le _, Nat.zero_le _⟩) ?_
  refine g_beq (tgt := 13) hx hb dX8_restart_6 (by decide) (fun c_6 => absurd (g_isP hk hpn) c_6) (fun c_6 => ?_)
  refine lv_iconst (v := 0) hx hb dX8_restart_9 (by decide) ?_
  refine lv_goto (tgt := 14) hx hb dX8_restart_10 (by decide) ?_
  refine g_callA1 (v0 := .int (gB (sp_X8_holds 0))) (w0 := wM y h q 0 pn ki on ot ab be zA zB zC zD zF zT fo lw hg at_ tl th wo wl wh is_ lo_ hi_ di su an) (va_runV (As := [.int 0]) (rest := []) ⟨hx, hb, hml, hown, hts⟩ (c_X8_holds l D y s.heap.size h q tw pn ki on ot ab be zA zB zC zD zF zT fo lw hg at_ tl th wo wl wh is_ lo_ hi_ di su an 0) (cwV 1 hts gX8_restart_X8_holds rfl rfl rfl (by decide +kernel) ⟨Nat.le_of_ble_eq_true rfl, Nat.le_of_ble_eq_true rfl⟩) (gP_VA hP hD hK 0 rfl rfl) rfl rfl hl.1 rfl (lv_room (Nat.le_of_ble_eq_true rfl)) dX8_restart_14 ⟨Nat.zero_le _, Nat.zero_le _⟩) hP hD hS hA rfl (fun H locs hP hD hS => ?_)
  refine g_bne (tgt := 22) hx hb dX8_restart_17 (by decide) (fun c_17 => ?_) (fun c_17 => absurd (by decide) c_17)
  refine lv_aload_n hx hb dX8_restart_22 rfl (lv_at hl 0 rfl) ?_
  refine va_get (D := D) (ci := 6) (v := .ref (q 25)) (C := RX8) (T := TX8) (N := 28) hx hb hts in_X8_restart_X8 hown hK.1 hP 0 rfl rfl 25 (by decide) (hts (.fieldLink RX8 72 "NestlimitModel" "digits" "[I") (List.mem_of_getElem? (i := 1) rfl)) (fun _ h9 => h9) rfl dX8_restart_23 ?_
  refine lv_iload_n hx hb dX8_restart_26 rfl (lv_at hl 1 rfl) ?_
  refine g_iald (k := k) hx hb hK.1 hP 21 0 rfl rfl (by omega) (by decide) dX8_restart_27 ?_
  refine lv_istore_n (lv' := [(2, .int (di k)), (0, .ref h), (1, .int (nI k))]) hx hb dX8_restart_28 rfl hl (by decide) rfl (fun ls hl => ?_)
  refine lv_aload_n hx hb dX8_restart_29 rfl (lv_at hl 1 rfl) ?_
  refine va_get (D := D) (ci := 6) (v := .ref (q 25)) (C := RX8) (T := TX8) (N := 28) hx hb hts in_X8_restart_X8 hown hK.1 hP 0 rfl rfl 25 (by decide) (hts (.fieldLink RX8 72 "NestlimitModel" "digits" "[I") (List.mem_of_getElem? (i := 1) rfl)) (fun _ h9 => h9) rfl dX8_restart_30 ?_
  refine lv_iload_n hx hb dX8_restart_33 rfl (lv_at hl 2 rfl) ?_
  refine lv_iconst (v := 0) hx hb dX8_restart_34 (by decide) ?_
  refine g_iast (k := k) (x := 0) hx hb hK.1 hP hD hS 21 0 rfl rfl (by omega) (by decide) dX8_restart_35 (fun H locs hP hD hS => ?_)
  have hP : va_P D vwCl (wM y h q 0 pn ki on ot ab be zA zB zC zD zF zT fo lw hg at_ tl th wo wl wh is_ lo_ hi_ (upd di k 0) su an) H := hP
  have hD : va_D A (wM y h q 0 pn ki on ot ab be zA zB zC zD zF zT fo lw hg at_ tl th wo wl wh is_ lo_ hi_ (upd di k 0) su an) := hD
  refine lv_aload_n hx hb dX8_restart_36 rfl (lv_at hl 1 rfl) ?_
  refine va_get (D := D) (ci := 6) (v := .ref (q 26)) (C := RX8) (T := TX8) (N := 28) hx hb hts in_X8_restart_X8 hown hK.1 hP 0 rfl rfl 26 (by decide) (hts (.fieldLink RX8 75 "NestlimitModel" "sums" "[J") (List.mem_of_getElem? (i := 2) rfl)) (fun _ h9 => h9) rfl dX8_restart_37 ?_
  refine lv_iload_n hx hb dX8_restart_40 rfl (lv_at hl 2 rfl) ?_
  refine lv_lconst (v := 0) hx hb dX8_restart_41 (by decide) ?_
  refine g_last (k := k) (x := 0) hx hb hK.1 hP hD hS 22 1 rfl rfl (by omega) (by decide) dX8_restart_42 (fun H locs hP hD hS => ?_)
  have hP : va_P D vwCl (wM y h q 0 pn ki on ot ab be zA zB zC zD zF zT fo lw hg at_ tl th wo wl wh is_ lo_ hi_ (upd di k 0) (vp_updL su k 0) an) H := hP
  have hD : va_D A (wM y h q 0 pn ki on ot ab be zA zB zC zD zF zT fo lw hg at_ tl th wo wl wh is_ lo_ hi_ (upd di k 0) (vp_updL su k 0) an) := hD
  refine lv_iload_n hx hb dX8_restart_43 rfl (lv_at hl 0 rfl) ?_
  exact W.iret (v := di k) hx hb hr (fun t ht hW => ⟨⟨_, wM y h q 0 pn ki on ot ab be zA zB zC zD zF zT fo lw hg at_ tl th wo wl wh is_ lo_ hi_ (upd di k 0) (vp_updL su k 0) an, rfl, ⟨congrArg (fun z => some (Value.int z)) (rfl), rfl⟩, rfl, by rw [ht]; exact hP⟩, by rw [← hAe]; exact hS.F ht⟩) (by rw [← hAe]; exact hS.2.2) dX8_restart_44
theorem in_X8_count_X8 : ∀ w ∈ wsX80, w ∈ wsX8_count := fun _ h => List.mem_cons_of_mem _ (List.mem_append_right _ h)
set_option maxHeartbeats 4000000 in
set_option maxRecDepth 100000 in
theorem c_X8_count (l : Launch) (D : va_G) (y : Nat → ClassId) (sz : Nat) (h : Nat) (q : Nat → Nat) (tw : Int32) (pn : Nat) (ki on ot ab be zA zB zC zD zF zT : Nat → Int32) (fo : Nat → Bool) (lw hg : Nat → Int64) (at_ : Nat → Bool) (tl th : Nat → Int64) (wo : Nat → Bool) (wl wh : Nat → Int64) (is_ : Bool) (lo_ hi_ : Int64) (di : Nat → Int32) (su : Nat → Int64) (an : Nat → Bool) : Met l yX8_count wsX8_count ({ frames := 0, cells := 0, slots := 0, locals := 0 } : Room) (gP D y [.ref h] (wM y h q tw pn ki on ot ab be zA zB zC zD zF zT fo lw hg at_ tl th wo wl wh is_ lo_ hi_ di su an) sz) (gQ D (wM y h q tw pn ki on ot ab be zA zB zC zD zF zT fo lw hg at_ tl th wo wl wh is_ lo_ hi_ di su an) (gF (some (.int (nI pn))) (wM y h q 0 pn ki on ot ab be zA zB zC zD zF zT fo lw hg at_ tl th wo wl wh is_ lo_ hi_ di su an))) 0 0 (va_A (wM y h q tw pn ki on ot ab be zA zB zC zD zF zT fo lw hg at_ tl th wo wl wh is_ lo_ hi_ di su an) sz) := by
  refine Met.ofW (cc := cX8_count) (maxL := 1) (ret := (some .int)) (by decide) rfl ?_
  intro pg e s m args below meth c s₁ B hml hv
  obtain ⟨rfl, hsz, hP, hK, hD0⟩ := hv
  have hx := B.exec
  have hb := B.bytes
  have hr := B.returns
  have hts := atoms_spec (ws := wsX8_count) B.pre
  have hown : s.vm.findClass RX8 = some m.cls := findClass_of_methodNamed B.named
  have hlocks := B.notSynchronized
  subst hsz
  obtain ⟨A, hAe⟩ : ∃ A : Nat → Prop, A = va_A (wM y h q tw pn ki on ot ab be zA zB zC zD zF zT fo lw hg at_ tl th wo wl wh is_ lo_ hi_ di su an) s.heap.size := ⟨_, rfl⟩
  have hD : va_D A (wM y h q tw pn ki on ot ab be zA zB zC zD zF zT fo lw hg at_ tl th wo wl wh is_ lo_ hi_ di su an) := by rw [hAe]; exact hD0.self (sz := s.heap.size)
  have hA : ∀ q : Nat, s.heap.size ≤ q → A q := fun q h => by rw [hAe]; exact Or.inr h
  have hS : va_S A s.heap s.heap [] := va_S.rf
  have hl := lv_entry ([.ref h]) (n := 1) (Nat.le_of_ble_eq_true rfl)
  rw [lg_entry_eq]
  generalize (lg_sl ([.ref h]) ++ List.replicate (1 - (lg_sl ([.ref h])).length) Slot.unset).toArray = ls at hl ⊢
  have hl : lv_has ls 1 [(0, .ref h)] := hl
  refine lv_aload_n hx hb dX8_count_0 rfl (lv_at hl 0 rfl) ?_
  refine lv_iconst (v := 0) hx hb dX8_count_1 (by decide) ?_
  refine va_put (D := D) (ci := 6) (v := .int 0) (ty := .int) (C := RX8) (T := TX8) (N := 28) hx hb hts in_X8_count_X8 tyX8 tyX8_ok nmX8 hown hK.1 hP hD hS 0 rfl rfl 0 (by decide) (hts (.fieldLink RX8 81 "NestlimitModel" "thrown" "I") (List.mem_of_getElem? (i := 1) rfl)) (fun _ h9 => h9) rfl (by decide +kernel) (rfl) (rfl) (Nat.le_of_ble_eq_true rfl) dX8_count_2 (fun H locs hP hD hS => ?_)
  have hP : va_P D vwCl (wM y h q 0 pn ki on ot ab be zA zB zC zD zF zT fo lw hg at_ tl th wo wl wh is_ lo_ hi_ di su an) H := hP
  have hD : va_D A (wM y h q 0 pn ki on ot ab be zA zB zC zD zF zT fo lw hg at_ tl th wo wl wh is_ lo_ hi_ di su an) := hD
  refine lv_aload_n hx hb dX8_count_5 rfl (lv_at hl 0 rfl) ?_
  refine va_get (D := D) (ci := 6) (v := .int (nI pn)) (C := RX8) (T := TX8) (N := 28) hx hb hts in_X8_count_X8 hown hK.1 hP 0 rfl rfl 1 (by decide) (hts (.fieldLink RX8 85 "NestlimitModel" "programs" "I") (List.mem_of_getElem? (i := 2) rfl)) (fun _ h9 => h9) rfl dX8_count_6 ?_
  exact W.iret (v := nI pn) hx hb hr (fun t ht hW => ⟨⟨_, wM y h q 0 pn ki on ot ab be zA zB zC zD zF zT fo lw hg at_ tl th wo wl wh is_ lo_ hi_ di su an, rfl, ⟨congrArg (fun z => some (Value.int z)) (rfl), rfl⟩, rfl, by rw [ht]; exact hP⟩, by rw [← hAe]; exact hS.F ht⟩) (by rw [← hAe]; exact hS.2.2) dX8_count_9
set_option maxHeartbeats 4000000 in
set_option maxRecDepth 100000 in
theorem c_X8_needs_1 (l : Launch) (D : va_G) (y : Nat → ClassId) (sz : Nat) (h : Nat) (q : Nat → Nat) (tw : Int32) (pn : Nat) (ki on ot ab be zA zB zC zD zF zT : Nat → Int32) (fo : Nat → Bool) (lw hg : Nat → Int64) (at_ : Nat → Bool) (tl th : Nat → Int64) (wo : Nat → Bool) (wl wh : Nat → Int64) (is_ : Bool) (lo_ hi_ : Int64) (di : Nat → Int32) (su : Nat → Int64) (an : Nat → Bool) (a : Int32) (yA : ¬ sp_X8_isProgram pn a = true) : Met l yX8_needs wsX8_needs ({ frames := 2, cells := 0, slots := 0, locals := 43 } : Room) (gP D y [.ref h, .int a] (wM y h q tw pn ki on ot ab be zA zB zC zD zF zT fo lw hg at_ tl th wo wl wh is_ lo_ hi_ di su an) sz) (gQ D (wM y h q tw pn ki on ot ab be zA zB zC zD zF zT fo lw hg at_ tl th wo wl wh is_ lo_ hi_ di su an) (gF (some (.int 0)) (wM y h q 1 pn ki on ot ab be zA zB zC zD zF zT fo lw hg at_ tl th wo wl wh is_ lo_ hi_ di su an))) 0 0 (va_A (wM y h q tw pn ki on ot ab be zA zB zC zD zF zT fo lw hg at_ tl th wo wl wh is_ lo_ hi_ di su an) sz) := by
  refine Met.ofW (cc := cX8_needs) (maxL := 5) (ret := (some .int)) (by decide) rfl ?_
  intro pg e s m args below meth c s₁ B hml hv
  obtain ⟨rfl, hsz, hP, hK, hD0⟩ := hv
  have hx := B.exec
  have hb := B.bytes
  have hr := B.returns
  have hts := atoms_spec (ws := wsX8_needs) B.pre
  have hown : s.vm.findClass RX8 = some m.cls := findClass_of_methodNamed B.named
  have hlocks := B.notSynchronized
  subst hsz
  obtain ⟨A, hAe⟩ : ∃ A : Nat → Prop, A = va_A (wM y h q tw pn ki on ot ab be zA zB zC zD zF zT fo lw hg at_ tl th wo wl wh is_ lo_ hi_ di su an) s.heap.size := ⟨_, rfl⟩
  have hD : va_D A (wM y h q tw pn ki on ot ab be zA zB zC zD zF zT fo lw hg at_ tl th wo wl wh is_ lo_ hi_ di su an) := by rw [hAe]; exact hD0.self (sz := s.heap.size)
  have hA : ∀ q : Nat, s.heap.size ≤ q → A q := fun q h => by rw [hAe]; exact Or.inr h
  have hS : va_S A s.heap s.heap [] := va_S.rf
  have hl := lv_entry ([.ref h, .int a]) (n := 5) (Nat.le_of_ble_eq_true rfl)
  rw [lg_entry_eq]
  generalize (lg_sl ([.ref h, .int a]) ++ List.replicate (5 - (lg_sl ([.ref h, .int a])).length) Slot.unset).toArray = ls at hl ⊢
  have hl : lv_has ls 5 [(0, .ref h), (1, .int a)] := hl
  refine lv_aload_n hx hb dX8_needs_0 rfl (lv_at hl 0 rfl) ?_
  refine lv_aload_n hx hb dX8_needs_1 rfl (lv_at hl 0 rfl) ?_
  refine lv_iload_n hx hb dX8_needs_2 rfl (lv_at hl 1 rfl) ?_
  refine g_callR (v0 := .int (gB (sp_X8_isProgram pn a))) (va_runV (As := [.int a]) (rest := [.ref h]) ⟨hx, hb, hml, hown, hts⟩ (c_X8_isProgram l D y s.heap.size h q tw pn ki on ot ab be zA zB zC zD zF zT fo lw hg at_ tl th wo wl wh is_ lo_ hi_ di su an a) (cwV 1 hts gX8_needs_X8_isProgram rfl rfl rfl (by decide +kernel) ⟨Nat.le_of_ble_eq_true rfl, Nat.le_of_ble_eq_true rfl⟩) (gP_VA hP hD hK 0 rfl rfl) rfl rfl hl.1 rfl (lv_room (Nat.le_of_ble_eq_true rfl)) dX8_needs_3 ⟨Nat.zero_le _, Nat.zero_le _⟩) ?_
  refine g_beq (tgt := 13) hx hb dX8_needs_6 (by decide) (fun c_6 => ?_) (fun c_6 => absurd c_6 yA)
  refine lv_iconst (v := 1) hx hb dX8_needs_13 (by decide) ?_
  refine g_callA1 (v0 := .int (gB (sp_X8_holds 1))) (w0 := wM y h q 1 pn ki on ot ab be zA zB zC zD zF zT fo lw hg at_ tl th wo wl wh is_ lo_ hi_ di su an) (va_runV (As := [.int 1]) (rest := []) ⟨hx, hb, hml, hown, hts⟩ (c_X8_holds l D y s.heap.size h q tw pn ki on ot ab be zA zB zC zD zF zT fo lw hg at_ tl th wo wl wh is_ lo_ hi_ di su an 1) (cwV 1 hts gX8_needs_X8_holds rfl rfl rfl (by decide +kernel) ⟨Nat.le_of_ble_eq_true rfl, Nat.le_of_ble_eq_true rfl⟩) (gP_VA hP hD hK 0 rfl rfl) rfl rfl hl.1 rfl (lv_room (Nat.le_of_ble_eq_true rfl)) dX8_needs_14 ⟨Nat.zero_le _, Nat.zero_le _⟩) hP hD hS hA rfl (fun H locs hP hD hS => ?_)
  refine g_bne (tgt := 22) hx hb dX8_needs_17 (by decide) (fun c_17 => absurd c_17 (by decide)) (fun c_17 => ?_)
  refine lv_iconst (v := 0) hx hb dX8_needs_20 (by decide) ?_
  exact W.iret (v := 0) hx hb hr (fun t ht hW => ⟨⟨_, wM y h q 1 pn ki on ot ab be zA zB zC zD zF zT fo lw hg at_ tl th wo wl wh is_ lo_ hi_ di su an, rfl, ⟨congrArg (fun z => some (Value.int z)) (rfl), rfl⟩, rfl, by rw [ht]; exact hP⟩, by rw [← hAe]; exact hS.F ht⟩) (by rw [← hAe]; exact hS.2.2) dX8_needs_21
