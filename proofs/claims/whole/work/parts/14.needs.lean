theorem upZ_uu (f : Nat → Bool) (k : Nat) (x z : Bool) : upZ (upZ f k x) k z = upZ f k z := by
  funext j
  unfold upZ
  by_cases h : j = k
  · rw [if_pos h, if_pos h]
  · rw [if_neg h, if_neg h, if_neg h]
def inF (an : Nat → Bool) (on ot : Nat → Int32) (k : Nat) : Nat → Nat → Bool → Bool
  | 0, _, b => b
  | m + 1, j, b => inF an on ot k m (j + 1) (if b = true then true else if an j = true then (if on j = nI k then true else if ot j = nI k then true else false) else false)
def inR (an : Nat → Bool) (on ot : Nat → Int32) (pn q0 n : Nat) : Bool := inF an on ot n (pn - (n + 1)) (n + 1) (if nI n = nI q0 then true else false)
def ouF (on ot : Nat → Int32) (pn q0 : Nat) : Nat → (Nat → Bool) → Int32 → (Nat → Bool) × Int32
  | 0, an, c => (an, c)
  | n + 1, an, c => ouF on ot pn q0 n (upZ an n (inR an on ot pn q0 n)) (if inR an on ot pn q0 n = true then c + 1 else c + 0)
theorem in_X8_needs_X8 : ∀ w ∈ wsX80, w ∈ wsX8_needs := fun _ h => List.mem_cons_of_mem _ (List.mem_append_right _ h)
set_option maxHeartbeats 4000000 in
set_option maxRecDepth 100000 in
theorem c_X8_needs_0 (l : Launch) (D : va_G) (y : Nat → ClassId) (sz : Nat) (h : Nat) (q : Nat → Nat) (tw : Int32) (pn : Nat) (ki on ot ab be zA zB zC zD zF zT : Nat → Int32) (fo : Nat → Bool) (lw hg : Nat → Int64) (at_ : Nat → Bool) (tl th : Nat → Int64) (wo : Nat → Bool) (wl wh : Nat → Int64) (is_ : Bool) (lo_ hi_ : Int64) (di : Nat → Int32) (su : Nat → Int64) (an : Nat → Bool) (k : Nat) (hpn : pn ≤ 40) (hk : k < pn) : Met l yX8_needs wsX8_needs ({ frames := 2, cells := 0, slots := 0, locals := 43 } : Room) (gP D y [.ref h, .int (nI k)] (wM y h q tw pn ki on ot ab be zA zB zC zD zF zT fo lw hg at_ tl th wo wl wh is_ lo_ hi_ di su an) sz) (gQ D (wM y h q tw pn ki on ot ab be zA zB zC zD zF zT fo lw hg at_ tl th wo wl wh is_ lo_ hi_ di su an) (gF (some (.int ((ouF on ot pn k pn an 0).2))) (wM y h q 0 pn ki on ot ab be zA zB zC zD zF zT fo lw hg at_ tl th wo wl wh is_ lo_ hi_ di su ((ouF on ot pn k pn an 0).1)))) 0 0 (va_A (wM y h q tw pn ki on ot ab be zA zB zC zD zF zT fo lw hg at_ tl th wo wl wh is_ lo_ hi_ di su an) sz) := by
  refine Met.ofW (cc := cX8_needs) (maxL := 5) (ret := (some .int)) (by decide) rfl ?_
  intro pg e s m args below meth c s₁ B hml hv
  obtain ⟨rfl, hsz, hP, hK, hD0⟩ := hv
  have hx := B.exec
  have hb := B.bytes
  have hr := B.returns
  have hts := atoms_spec (ws := wsX8_needs) B.pre
  have hown : s.vm.findClass RX8 = some m.cls := findClass_of_methodNamed B.named
  have hlocks := B.notSynchronized
  subst hsz
  obtain ⟨A, hAe⟩ : ∃ A : Nat → Prop, A = va_A (wM y h q tw pn ki on ot ab be zA zB zC zD zF zT fo lw hg at_ tl th wo wl wh is_ lo_ hi_ di su an) s.heap.size := ⟨_, rfl⟩
  have hD : va_D A (wM y h q tw pn ki on ot ab be zA zB zC zD zF zT fo lw hg at_ tl th wo wl wh is_ lo_ hi_ di su an) := by rw [hAe]; exact hD0.self (sz := s.heap.size)
  have hA : ∀ q : Nat, s.heap.size ≤ q → A q := fun q h => by rw [hAe]; exact Or.inr h
  have hS : va_S A s.heap s.heap [] := va_S.rf
  have hl := lv_entry ([.ref h, .int (nI k)]) (n := 5) (Nat.le_of_ble_eq_true rfl)
  rw [lg_entry_eq]
  generalize (lg_sl ([.ref h, .int (nI k)]) ++ List.replicate (5 - (lg_sl ([.ref h, .int (nI k)])).length) Slot.unset).toArray = ls at hl ⊢
  have hl : lv_has ls 5 [(0, .ref h), (1, .int (nI k))] := hl
  refine lv_aload_n hx hb dX8_needs_0 rfl (lv_at hl 0 rfl) ?_
  refine lv_aload_n hx hb dX8_needs_1 rfl (lv_at hl 0 rfl) ?_
  refine lv_iload_n hx hb dX8_needs_2 rfl (lv_at hl 1 rfl) ?_
  refine g_callR (v0 := .int (gB (sp_X8_isProgram pn (nI k)))) (va_runV (As := [.int (nI k)]) (rest := [.ref h]) ⟨hx, hb, hml, hown, hts⟩ (c_X8_isProgram l D y s.heap.size h q tw pn ki on ot ab be zA zB zC zD zF zT fo lw hg at_ tl th wo wl wh is_ lo_ hi_ di su an (nI k)) (cwV 1 hts gX8_needs_X8_isProgram rfl rfl rfl (by decide +kernel) ⟨Nat.le_of_ble_eq_true rfl, Nat.le_of_ble_eq_true rfl⟩) (gP_VA hP hD hK 0 rfl rfl) rfl rfl hl.1 rfl (lv_room (Nat.le_of_ble_eq_true rfl)) dX8_needs_3 ⟨Nat.zero_le _, Nat.zero_le _⟩) ?_
  refine g_beq (tgt := 13) hx hb dX8_needs_6 (by decide) (fun c_6 => absurd (g_isP hk hpn) c_6) (fun c_6 => ?_)
  refine lv_iconst (v := 0) hx hb dX8_needs_9 (by decide) ?_
  refine lv_goto (tgt := 14) hx hb dX8_needs_10 (by decide) ?_
  refine g_callA1 (v0 := .int (gB (sp_X8_holds 0))) (w0 := wM y h q 0 pn ki on ot ab be zA zB zC zD zF zT fo lw hg at_ tl th wo wl wh is_ lo_ hi_ di su an) (va_runV (As := [.int 0]) (rest := []) ⟨hx, hb, hml, hown, hts⟩ (c_X8_holds l D y s.heap.size h q tw pn ki on ot ab be zA zB zC zD zF zT fo lw hg at_ tl th wo wl wh is_ lo_ hi_ di su an 0) (cwV 1 hts gX8_needs_X8_holds rfl rfl rfl (by decide +kernel) ⟨Nat.le_of_ble_eq_true rfl, Nat.le_of_ble_eq_true rfl⟩) (gP_VA hP hD hK 0 rfl rfl) rfl rfl hl.1 rfl (lv_room (Nat.le_of_ble_eq_true rfl)) dX8_needs_14 ⟨Nat.zero_le _, Nat.zero_le _⟩) hP hD hS hA rfl (fun H locs hP hD hS => ?_)
  refine g_bne (tgt := 22) hx hb dX8_needs_17 (by decide) (fun c_17 => ?_) (fun c_17 => absurd (by decide) c_17)
  refine lv_iconst (v := 0) hx hb dX8_needs_22 (by decide) ?_
  refine lv_istore_n (lv' := [(2, .int 0), (0, .ref h), (1, .int (nI k))]) hx hb dX8_needs_23 rfl hl (by decide) rfl (fun ls hl => ?_)
  refine lv_aload_n hx hb dX8_needs_24 rfl (lv_at hl 1 rfl) ?_
  refine va_get (D := D) (ci := 6) (v := .int (nI pn)) (C := RX8) (T := TX8) (N := 28) hx hb hts in_X8_needs_X8 hown hK.1 hP 0 rfl rfl 1 (by decide) (hts (.fieldLink RX8 85 "NestlimitModel" "programs" "I") (List.mem_of_getElem? (i := 1) rfl)) (fun _ h9 => h9) rfl dX8_needs_25 ?_
  refine lv_iconst (v := 1) hx hb dX8_needs_28 (by decide) ?_
  refine lv_isub hx hb dX8_needs_29 ?_
  refine lv_istore_n (lv' := [(3, .int ((nI pn) - 1)), (2, .int 0), (0, .ref h), (1, .int (nI k))]) hx hb dX8_needs_30 rfl hl (by decide) rfl (fun ls hl => ?_)
  have LOOP31 : ∀ (n : Nat) (an1 : Nat → Bool) (c0 : Int32), (n ≤ pn) → (ouF on ot pn k n an1 c0 = ouF on ot pn k pn an 0) → ∀ (H : Heap) (locs : List Loc), va_P D vwCl (wM y h q 0 pn ki on ot ab be zA zB zC zD zF zT fo lw hg at_ tl th wo wl wh is_ lo_ hi_ di su an1) H → va_D A (wM y h q 0 pn ki on ot ab be zA zB zC zD zF zT fo lw hg at_ tl th wo wl wh is_ lo_ hi_ di su an1) → va_S A s.heap H locs → ∀ (ls : Array Slot), lv_has ls 5 [(0, .ref h), (1, .int (nI k)), (2, .int c0), (3, .int (nI n - 1))] → W pg l e (headSpec wsX8_needs ({ frames := 2, cells := 0, slots := 0, locals := 43 } : Room)).room s m (([.ref h, .int (nI k)] : List Value).toArray) below meth c H locs 0 0 (MQ below (gQ D (wM y h q tw pn ki on ot ab be zA zB zC zD zF zT fo lw hg at_ tl th wo wl wh is_ lo_ hi_ di su an) (gF (some (.int ((ouF on ot pn k pn an 0).2))) (wM y h q 0 pn ki on ot ab be zA zB zC zD zF zT fo lw hg at_ tl th wo wl wh is_ lo_ hi_ di su ((ouF on ot pn k pn an 0).1)))) (([.ref h, .int (nI k)] : List Value).toArray) s 0 0 (va_A (wM y h q tw pn ki on ot ab be zA zB zC zD zF zT fo lw hg at_ tl th wo wl wh is_ lo_ hi_ di su an) s.heap.size)) (F0 m 31 ls []) := by
    intro n
    induction n with
    | zero =>
      intro an1 c0 hn hF H locs hP hD hS ls hl
      refine lv_iload_n hx hb dX8_needs_31 rfl (lv_at hl 3 rfl) ?_
      refine lv_if_lt (tgt := 146) hx hb dX8_needs_32 (by decide) (fun c_32 => ?_) (fun c_32 => absurd (gi_d0) c_32)
      refine lv_iload_n hx hb dX8_needs_146 rfl (lv_at hl 2 rfl) ?_
      exact W.iret (v := c0) hx hb hr (fun t ht hW => ⟨⟨_, wM y h q 0 pn ki on ot ab be zA zB zC zD zF zT fo lw hg at_ tl th wo wl wh is_ lo_ hi_ di su an1, rfl, ⟨congrArg (fun z => some (Value.int z)) (by rw [← hF]; rfl), by rw [← hF]; rfl⟩, rfl, by rw [ht]; exact hP⟩, by rw [← hAe]; exact hS.F ht⟩) (by rw [← hAe]; exact hS.2.2) dX8_needs_147
    | succ n ih31 =>
      intro an1 c0 hn hF H locs hP hD hS ls hl
      rw [nI_pred] at hl
      refine lv_iload_n hx hb dX8_needs_31 rfl (lv_at hl 3 rfl) ?_
      refine lv_if_lt (tgt := 146) hx hb dX8_needs_32 (by decide) (fun c_32 => absurd c_32 (nI_pos (by omega))) (fun c_32 => ?_)
      refine lv_aload_n hx hb dX8_needs_35 rfl (lv_at hl 0 rfl) ?_
      refine va_get (D := D) (ci := 6) (v := .ref (q 27)) (C := RX8) (T := TX8) (N := 28) hx hb hts in_X8_needs_X8 hown hK.1 hP 0 rfl rfl 27 (by decide) (hts (.fieldLink RX8 78 "NestlimitModel" "areNeeded" "[Z") (List.mem_of_getElem? (i := 2) rfl)) (fun _ h9 => h9) rfl dX8_needs_36 ?_
      refine lv_iload_n hx hb dX8_needs_39 rfl (lv_at hl 3 rfl) ?_
      refine lv_iload_n hx hb dX8_needs_40 rfl (lv_at hl 3 rfl) ?_
      refine lv_iload_n hx hb dX8_needs_41 rfl (lv_at hl 1 rfl) ?_
      refine lv_icmp_ne (tgt := 49) hx hb dX8_needs_42 (by decide) (fun c_42 => ?_) (fun c_42 => ?_)
      · skip
        refine lv_iconst (v := 0) hx hb dX8_needs_49 (by decide) ?_
        refine g_zast (k := n) (x := false) hx hb hK.1 hP hD hS 23 2 rfl rfl (by omega) (by decide) dX8_needs_50 (fun H locs hP hD hS => ?_)
        have hP : va_P D vwCl (wM y h q 0 pn ki on ot ab be zA zB zC zD zF zT fo lw hg at_ tl th wo wl wh is_ lo_ hi_ di su (upZ an1 n false)) H := hP
        have hD : va_D A (wM y h q 0 pn ki on ot ab be zA zB zC zD zF zT fo lw hg at_ tl th wo wl wh is_ lo_ hi_ di su (upZ an1 n false)) := hD
        refine lv_iload_n hx hb dX8_needs_51 rfl (lv_at hl 3 rfl) ?_
        refine lv_iconst (v := 1) hx hb dX8_needs_52 (by decide) ?_
        refine lv_iadd hx hb dX8_needs_53 ?_
        refine g_topi (nI_add n 1) ?_
        refine lv_istore (lv' := [(4, .int (nI (n + 1))), (0, .ref h), (1, .int (nI k)), (2, .int c0), (3, .int (nI n))]) hx hb dX8_needs_54 hl (by decide) rfl (fun ls hl => ?_)
        have LOOP56 : ∀ (m9 : Nat) (j : Nat) (b : Bool), (j + m9 = pn) → (n < j) → (inF an1 on ot n m9 j b = inR an1 on ot pn k n) → ∀ (H : Heap) (locs : List Loc), va_P D vwCl (wM y h q 0 pn ki on ot ab be zA zB zC zD zF zT fo lw hg at_ tl th wo wl wh is_ lo_ hi_ di su (upZ an1 n b)) H → va_D A (wM y h q 0 pn ki on ot ab be zA zB zC zD zF zT fo lw hg at_ tl th wo wl wh is_ lo_ hi_ di su (upZ an1 n b)) → va_S A s.heap H locs → ∀ (ls : Array Slot), lv_has ls 5 [(0, .ref h), (1, .int (nI k)), (2, .int c0), (3, .int (nI n)), (4, .int (nI j))] → W pg l e (headSpec wsX8_needs ({ frames := 2, cells := 0, slots := 0, locals := 43 } : Room)).room s m (([.ref h, .int (nI k)] : List Value).toArray) below meth c H locs 0 0 (MQ below (gQ D (wM y h q tw pn ki on ot ab be zA zB zC zD zF zT fo lw hg at_ tl th wo wl wh is_ lo_ hi_ di su an) (gF (some (.int ((ouF on ot pn k pn an 0).2))) (wM y h q 0 pn ki on ot ab be zA zB zC zD zF zT fo lw hg at_ tl th wo wl wh is_ lo_ hi_ di su ((ouF on ot pn k pn an 0).1)))) (([.ref h, .int (nI k)] : List Value).toArray) s 0 0 (va_A (wM y h q tw pn ki on ot ab be zA zB zC zD zF zT fo lw hg at_ tl th wo wl wh is_ lo_ hi_ di su an) s.heap.size)) (F0 m 56 ls []) := by
          intro m9
          induction m9 with
          | zero =>
            intro j b hj hjn hG H locs hP hD hS ls hl
            refine lv_iload hx hb dX8_needs_56 (lv_at hl 4 rfl) ?_
            refine lv_aload_n hx hb dX8_needs_58 rfl (lv_at hl 0 rfl) ?_
            refine va_get (D := D) (ci := 6) (v := .int (nI pn)) (C := RX8) (T := TX8) (N := 28) hx hb hts in_X8_needs_X8 hown hK.1 hP 0 rfl rfl 1 (by decide) (hts (.fieldLink RX8 85 "NestlimitModel" "programs" "I") (List.mem_of_getElem? (i := 1) rfl)) (fun _ h9 => h9) rfl dX8_needs_59 ?_
            refine lv_icmp_ge (tgt := 123) hx hb dX8_needs_62 (by decide) (fun c_62 => ?_) (fun c_62 => absurd (nI_le (by omega) (by omega)) c_62)
            refine lv_iload_n hx hb dX8_needs_123 rfl (lv_at hl 2 rfl) ?_
            refine lv_aload_n hx hb dX8_needs_124 rfl (lv_at hl 0 rfl) ?_
            refine va_get (D := D) (ci := 6) (v := .ref (q 27)) (C := RX8) (T := TX8) (N := 28) hx hb hts in_X8_needs_X8 hown hK.1 hP 0 rfl rfl 27 (by decide) (hts (.fieldLink RX8 78 "NestlimitModel" "areNeeded" "[Z") (List.mem_of_getElem? (i := 2) rfl)) (fun _ h9 => h9) rfl dX8_needs_125 ?_
            refine lv_iload_n hx hb dX8_needs_128 rfl (lv_at hl 3 rfl) ?_
            refine g_zald (k := n) hx hb hK.1 hP 23 2 rfl rfl (by omega) (by decide) dX8_needs_129 ?_
            refine g_topi (y := gB b) (congrArg gB (upZ_s an1 n b)) ?_
            refine g_beq (tgt := 137) hx hb dX8_needs_130 (by decide) (fun c_130 => ?_) (fun c_130 => ?_)
            · skip
              refine lv_iconst (v := 0) hx hb dX8_needs_137 (by decide) ?_
              refine lv_iadd hx hb dX8_needs_138 ?_
              refine lv_istore_n (lv' := [(2, .int (c0 + 0)), (0, .ref h), (1, .int (nI k)), (3, .int (nI n)), (4, .int (nI j))]) hx hb dX8_needs_139 rfl hl (by decide) rfl (fun ls hl => ?_)
              refine lv_iinc (v := nI n - 1) (lv' := [(3, .int (nI n - 1)), (2, .int (c0 + 0)), (0, .ref h), (1, .int (nI k)), (4, .int (nI j))]) hx hb dX8_needs_140 hl (k := 3) rfl (gi_m1 _) (by decide) rfl (fun ls hl => ?_)
              refine lv_goto (tgt := 31) hx hb dX8_needs_143 (by decide) ?_
              exact ih31 (upZ an1 n b) (c0 + 0) (by omega) (by rw [← hF]; show _ = ouF on ot pn k n (upZ an1 n (inR an1 on ot pn k n)) (if inR an1 on ot pn k n = true then c0 + 1 else c0 + 0); rw [← hG]; show _ = ouF on ot pn k n (upZ an1 n b) (if b = true then c0 + 1 else c0 + 0); rw [if_neg c_130]) _ _ hP hD hS ls (lv_sub hl [2, 3, 1, 0] rfl)
            · skip
              refine lv_iconst (v := 1) hx hb dX8_needs_133 (by decide) ?_
              refine lv_goto (tgt := 138) hx hb dX8_needs_134 (by decide) ?_
              refine lv_iadd hx hb dX8_needs_138 ?_
              refine lv_istore_n (lv' := [(2, .int (c0 + 1)), (0, .ref h), (1, .int (nI k)), (3, .int (nI n)), (4, .int (nI j))]) hx hb dX8_needs_139 rfl hl (by decide) rfl (fun ls hl => ?_)
              refine lv_iinc (v := nI n - 1) (lv' := [(3, .int (nI n - 1)), (2, .int (c0 + 1)), (0, .ref h), (1, .int (nI k)), (4, .int (nI j))]) hx hb dX8_needs_140 hl (k := 3) rfl (gi_m1 _) (by decide) rfl (fun ls hl => ?_)
              refine lv_goto (tgt := 31) hx hb dX8_needs_143 (by decide) ?_
              exact ih31 (upZ an1 n b) (c0 + 1) (by omega) (by rw [← hF]; show _ = ouF on ot pn k n (upZ an1 n (inR an1 on ot pn k n)) (if inR an1 on ot pn k n = true then c0 + 1 else c0 + 0); rw [← hG]; show _ = ouF on ot pn k n (upZ an1 n b) (if b = true then c0 + 1 else c0 + 0); rw [if_pos c_130]) _ _ hP hD hS ls (lv_sub hl [2, 3, 1, 0] rfl)
          | succ m9 ih56 =>
            intro j b hj hjn hG H locs hP hD hS ls hl
            refine lv_iload hx hb dX8_needs_56 (lv_at hl 4 rfl) ?_
            refine lv_aload_n hx hb dX8_needs_58 rfl (lv_at hl 0 rfl) ?_
            refine va_get (D := D) (ci := 6) (v := .int (nI pn)) (C := RX8) (T := TX8) (N := 28) hx hb hts in_X8_needs_X8 hown hK.1 hP 0 rfl rfl 1 (by decide) (hts (.fieldLink RX8 85 "NestlimitModel" "programs" "I") (List.mem_of_getElem? (i := 1) rfl)) (fun _ h9 => h9) rfl dX8_needs_59 ?_
            refine lv_icmp_ge (tgt := 123) hx hb dX8_needs_62 (by decide) (fun c_62 => absurd c_62 (nI_ge (by omega) (by omega))) (fun c_62 => ?_)
            refine lv_aload_n hx hb dX8_needs_65 rfl (lv_at hl 0 rfl) ?_
            refine va_get (D := D) (ci := 6) (v := .ref (q 27)) (C := RX8) (T := TX8) (N := 28) hx hb hts in_X8_needs_X8 hown hK.1 hP 0 rfl rfl 27 (by decide) (hts (.fieldLink RX8 78 "NestlimitModel" "areNeeded" "[Z") (List.mem_of_getElem? (i := 2) rfl)) (fun _ h9 => h9) rfl dX8_needs_66 ?_
            refine lv_iload_n hx hb dX8_needs_69 rfl (lv_at hl 3 rfl) ?_
            refine lv_aload_n hx hb dX8_needs_70 rfl (lv_at hl 0 rfl) ?_
            refine va_get (D := D) (ci := 6) (v := .ref (q 27)) (C := RX8) (T := TX8) (N := 28) hx hb hts in_X8_needs_X8 hown hK.1 hP 0 rfl rfl 27 (by decide) (hts (.fieldLink RX8 78 "NestlimitModel" "areNeeded" "[Z") (List.mem_of_getElem? (i := 2) rfl)) (fun _ h9 => h9) rfl dX8_needs_71 ?_
            refine lv_iload_n hx hb dX8_needs_74 rfl (lv_at hl 3 rfl) ?_
            refine g_zald (k := n) hx hb hK.1 hP 23 2 rfl rfl (by omega) (by decide) dX8_needs_75 ?_
            refine g_topi (y := gB b) (congrArg gB (upZ_s an1 n b)) ?_
            refine g_bne (tgt := 111) hx hb dX8_needs_76 (by decide) (fun c_76 => ?_) (fun c_76 => ?_)
            · skip
              refine lv_iconst (v := 1) hx hb dX8_needs_111 (by decide) ?_
              refine lv_goto (tgt := 116) hx hb dX8_needs_112 (by decide) ?_
              refine g_zast (k := n) (x := true) hx hb hK.1 hP hD hS 23 2 rfl rfl (by omega) (by decide) dX8_needs_116 (fun H locs hP hD hS => ?_)
              have hP : va_P D vwCl (wM y h q 0 pn ki on ot ab be zA zB zC zD zF zT fo lw hg at_ tl th wo wl wh is_ lo_ hi_ di su (upZ (upZ an1 n b) n true)) H := hP
              have hD : va_D A (wM y h q 0 pn ki on ot ab be zA zB zC zD zF zT fo lw hg at_ tl th wo wl wh is_ lo_ hi_ di su (upZ (upZ an1 n b) n true)) := hD
              rw [upZ_uu] at hP hD
              refine lv_iinc (v := nI (j + 1)) (lv' := [(4, .int (nI (j + 1))), (0, .ref h), (1, .int (nI k)), (2, .int c0), (3, .int (nI n))]) hx hb dX8_needs_117 hl (k := 4) rfl (nI_add j 1) (by decide) rfl (fun ls hl => ?_)
              refine lv_goto (tgt := 56) hx hb dX8_needs_120 (by decide) ?_
              exact ih56 (j + 1) true (by omega) (by omega) (by rw [← hG]; show _ = inF an1 on ot n m9 (j + 1) (if _ then _ else _); simp only [if_pos c_76]) _ _ hP hD hS ls (lv_sub hl [1, 2, 3, 4, 0] rfl)
            · skip
              refine lv_aload_n hx hb dX8_needs_79 rfl (lv_at hl 0 rfl) ?_
              refine va_get (D := D) (ci := 6) (v := .ref (q 27)) (C := RX8) (T := TX8) (N := 28) hx hb hts in_X8_needs_X8 hown hK.1 hP 0 rfl rfl 27 (by decide) (hts (.fieldLink RX8 78 "NestlimitModel" "areNeeded" "[Z") (List.mem_of_getElem? (i := 2) rfl)) (fun _ h9 => h9) rfl dX8_needs_80 ?_
              refine lv_iload hx hb dX8_needs_83 (lv_at hl 4 rfl) ?_
              refine g_zald (k := j) hx hb hK.1 hP 23 2 rfl rfl (by omega) (by decide) dX8_needs_85 ?_
              refine g_topi (y := gB (an1 j)) (congrArg gB (upZ_n (by omega))) ?_
              refine g_beq (tgt := 115) hx hb dX8_needs_86 (by decide) (fun c_86 => ?_) (fun c_86 => ?_)
              · skip
                refine lv_iconst (v := 0) hx hb dX8_needs_115 (by decide) ?_
                refine g_zast (k := n) (x := false) hx hb hK.1 hP hD hS 23 2 rfl rfl (by omega) (by decide) dX8_needs_116 (fun H locs hP hD hS => ?_)
                have hP : va_P D vwCl (wM y h q 0 pn ki on ot ab be zA zB zC zD zF zT fo lw hg at_ tl th wo wl wh is_ lo_ hi_ di su (upZ (upZ an1 n b) n false)) H := hP
                have hD : va_D A (wM y h q 0 pn ki on ot ab be zA zB zC zD zF zT fo lw hg at_ tl th wo wl wh is_ lo_ hi_ di su (upZ (upZ an1 n b) n false)) := hD
                rw [upZ_uu] at hP hD
                refine lv_iinc (v := nI (j + 1)) (lv' := [(4, .int (nI (j + 1))), (0, .ref h), (1, .int (nI k)), (2, .int c0), (3, .int (nI n))]) hx hb dX8_needs_117 hl (k := 4) rfl (nI_add j 1) (by decide) rfl (fun ls hl => ?_)
                refine lv_goto (tgt := 56) hx hb dX8_needs_120 (by decide) ?_
                exact ih56 (j + 1) false (by omega) (by omega) (by rw [← hG]; show _ = inF an1 on ot n m9 (j + 1) (if _ then _ else _); simp only [if_neg c_76, if_neg c_86]) _ _ hP hD hS ls (lv_sub hl [1, 2, 3, 4, 0] rfl)
              · skip
                refine lv_aload_n hx hb dX8_needs_89 rfl (lv_at hl 0 rfl) ?_
                refine va_get (D := D) (ci := 6) (v := .ref (q 3)) (C := RX8) (T := TX8) (N := 28) hx hb hts in_X8_needs_X8 hown hK.1 hP 0 rfl rfl 3 (by decide) (hts (.fieldLink RX8 13 "NestlimitModel" "ones" "[I") (List.mem_of_getElem? (i := 3) rfl)) (fun _ h9 => h9) rfl dX8_needs_90 ?_
                refine lv_iload hx hb dX8_needs_93 (lv_at hl 4 rfl) ?_
                refine g_iald (k := j) hx hb hK.1 hP 2 0 rfl rfl (by omega) (by decide) dX8_needs_95 ?_
                refine lv_iload_n hx hb dX8_needs_96 rfl (lv_at hl 3 rfl) ?_
                refine lv_icmp_eq (tgt := 111) hx hb dX8_needs_97 (by decide) (fun c_97 => ?_) (fun c_97 => ?_)
                · skip
                  refine lv_iconst (v := 1) hx hb dX8_needs_111 (by decide) ?_
                  refine lv_goto (tgt := 116) hx hb dX8_needs_112 (by decide) ?_
                  refine g_zast (k := n) (x := true) hx hb hK.1 hP hD hS 23 2 rfl rfl (by omega) (by decide) dX8_needs_116 (fun H locs hP hD hS => ?_)
                  have hP : va_P D vwCl (wM y h q 0 pn ki on ot ab be zA zB zC zD zF zT fo lw hg at_ tl th wo wl wh is_ lo_ hi_ di su (upZ (upZ an1 n b) n true)) H := hP
                  have hD : va_D A (wM y h q 0 pn ki on ot ab be zA zB zC zD zF zT fo lw hg at_ tl th wo wl wh is_ lo_ hi_ di su (upZ (upZ an1 n b) n true)) := hD
                  rw [upZ_uu] at hP hD
                  refine lv_iinc (v := nI (j + 1)) (lv' := [(4, .int (nI (j + 1))), (0, .ref h), (1, .int (nI k)), (2, .int c0), (3, .int (nI n))]) hx hb dX8_needs_117 hl (k := 4) rfl (nI_add j 1) (by decide) rfl (fun ls hl => ?_)
                  refine lv_goto (tgt := 56) hx hb dX8_needs_120 (by decide) ?_
                  exact ih56 (j + 1) true (by omega) (by omega) (by rw [← hG]; show _ = inF an1 on ot n m9 (j + 1) (if _ then _ else _); simp only [if_neg c_76, if_pos c_86, if_pos c_97]) _ _ hP hD hS ls (lv_sub hl [1, 2, 3, 4, 0] rfl)
                · skip
                  refine lv_aload_n hx hb dX8_needs_100 rfl (lv_at hl 0 rfl) ?_
                  refine va_get (D := D) (ci := 6) (v := .ref (q 4)) (C := RX8) (T := TX8) (N := 28) hx hb hts in_X8_needs_X8 hown hK.1 hP 0 rfl rfl 4 (by decide) (hts (.fieldLink RX8 16 "NestlimitModel" "others" "[I") (List.mem_of_getElem? (i := 4) rfl)) (fun _ h9 => h9) rfl dX8_needs_101 ?_
                  refine lv_iload hx hb dX8_needs_104 (lv_at hl 4 rfl) ?_
                  refine g_iald (k := j) hx hb hK.1 hP 3 0 rfl rfl (by omega) (by decide) dX8_needs_106 ?_
                  refine lv_iload_n hx hb dX8_needs_107 rfl (lv_at hl 3 rfl) ?_
                  refine lv_icmp_ne (tgt := 115) hx hb dX8_needs_108 (by decide) (fun c_108 => ?_) (fun c_108 => ?_)
                  · skip
                    refine lv_iconst (v := 0) hx hb dX8_needs_115 (by decide) ?_
                    refine g_zast (k := n) (x := false) hx hb hK.1 hP hD hS 23 2 rfl rfl (by omega) (by decide) dX8_needs_116 (fun H locs hP hD hS => ?_)
                    have hP : va_P D vwCl (wM y h q 0 pn ki on ot ab be zA zB zC zD zF zT fo lw hg at_ tl th wo wl wh is_ lo_ hi_ di su (upZ (upZ an1 n b) n false)) H := hP
                    have hD : va_D A (wM y h q 0 pn ki on ot ab be zA zB zC zD zF zT fo lw hg at_ tl th wo wl wh is_ lo_ hi_ di su (upZ (upZ an1 n b) n false)) := hD
                    rw [upZ_uu] at hP hD
                    refine lv_iinc (v := nI (j + 1)) (lv' := [(4, .int (nI (j + 1))), (0, .ref h), (1, .int (nI k)), (2, .int c0), (3, .int (nI n))]) hx hb dX8_needs_117 hl (k := 4) rfl (nI_add j 1) (by decide) rfl (fun ls hl => ?_)
                    refine lv_goto (tgt := 56) hx hb dX8_needs_120 (by decide) ?_
                    exact ih56 (j + 1) false (by omega) (by omega) (by rw [← hG]; show _ = inF an1 on ot n m9 (j + 1) (if _ then _ else _); simp only [if_neg c_76, if_pos c_86, if_neg c_97, if_neg c_108]) _ _ hP hD hS ls (lv_sub hl [1, 2, 3, 4, 0] rfl)
                  · skip
                    refine lv_iconst (v := 1) hx hb dX8_needs_111 (by decide) ?_
                    refine lv_goto (tgt := 116) hx hb dX8_needs_112 (by decide) ?_
                    refine g_zast (k := n) (x := true) hx hb hK.1 hP hD hS 23 2 rfl rfl (by omega) (by decide) dX8_needs_116 (fun H locs hP hD hS => ?_)
                    have hP : va_P D vwCl (wM y h q 0 pn ki on ot ab be zA zB zC zD zF zT fo lw hg at_ tl th wo wl wh is_ lo_ hi_ di su (upZ (upZ an1 n b) n true)) H := hP
                    have hD : va_D A (wM y h q 0 pn ki on ot ab be zA zB zC zD zF zT fo lw hg at_ tl th wo wl wh is_ lo_ hi_ di su (upZ (upZ an1 n b) n true)) := hD
                    rw [upZ_uu] at hP hD
                    refine lv_iinc (v := nI (j + 1)) (lv' := [(4, .int (nI (j + 1))), (0, .ref h), (1, .int (nI k)), (2, .int c0), (3, .int (nI n))]) hx hb dX8_needs_117 hl (k := 4) rfl (nI_add j 1) (by decide) rfl (fun ls hl => ?_)
                    refine lv_goto (tgt := 56) hx hb dX8_needs_120 (by decide) ?_
                    exact ih56 (j + 1) true (by omega) (by omega) (by rw [← hG]; show _ = inF an1 on ot n m9 (j + 1) (if _ then _ else _); simp only [if_neg c_76, if_pos c_86, if_neg c_97, if_pos c_108]) _ _ hP hD hS ls (lv_sub hl [1, 2, 3, 4, 0] rfl)
        exact LOOP56 (pn - (n + 1)) (n + 1) false (by omega) (by omega) (by unfold inR; rw [if_neg c_42]) _ _ hP hD hS ls (lv_sub hl [1, 2, 3, 4, 0] rfl)
      · skip
        refine lv_iconst (v := 1) hx hb dX8_needs_45 (by decide) ?_
        refine lv_goto (tgt := 50) hx hb dX8_needs_46 (by decide) ?_
        refine g_zast (k := n) (x := true) hx hb hK.1 hP hD hS 23 2 rfl rfl (by omega) (by decide) dX8_needs_50 (fun H locs hP hD hS => ?_)
        have hP : va_P D vwCl (wM y h q 0 pn ki on ot ab be zA zB zC zD zF zT fo lw hg at_ tl th wo wl wh is_ lo_ hi_ di su (upZ an1 n true)) H := hP
        have hD : va_D A (wM y h q 0 pn ki on ot ab be zA zB zC zD zF zT fo lw hg at_ tl th wo wl wh is_ lo_ hi_ di su (upZ an1 n true)) := hD
        refine lv_iload_n hx hb dX8_needs_51 rfl (lv_at hl 3 rfl) ?_
        refine lv_iconst (v := 1) hx hb dX8_needs_52 (by decide) ?_
        refine lv_iadd hx hb dX8_needs_53 ?_
        refine g_topi (nI_add n 1) ?_
        refine lv_istore (lv' := [(4, .int (nI (n + 1))), (0, .ref h), (1, .int (nI k)), (2, .int c0), (3, .int (nI n))]) hx hb dX8_needs_54 hl (by decide) rfl (fun ls hl => ?_)
        have LOOP56 : ∀ (m9 : Nat) (j : Nat) (b : Bool), (j + m9 = pn) → (n < j) → (inF an1 on ot n m9 j b = inR an1 on ot pn k n) → ∀ (H : Heap) (locs : List Loc), va_P D vwCl (wM y h q 0 pn ki on ot ab be zA zB zC zD zF zT fo lw hg at_ tl th wo wl wh is_ lo_ hi_ di su (upZ an1 n b)) H → va_D A (wM y h q 0 pn ki on ot ab be zA zB zC zD zF zT fo lw hg at_ tl th wo wl wh is_ lo_ hi_ di su (upZ an1 n b)) → va_S A s.heap H locs → ∀ (ls : Array Slot), lv_has ls 5 [(0, .ref h), (1, .int (nI k)), (2, .int c0), (3, .int (nI n)), (4, .int (nI j))] → W pg l e (headSpec wsX8_needs ({ frames := 2, cells := 0, slots := 0, locals := 43 } : Room)).room s m (([.ref h, .int (nI k)] : List Value).toArray) below meth c H locs 0 0 (MQ below (gQ D (wM y h q tw pn ki on ot ab be zA zB zC zD zF zT fo lw hg at_ tl th wo wl wh is_ lo_ hi_ di su an) (gF (some (.int ((ouF on ot pn k pn an 0).2))) (wM y h q 0 pn ki on ot ab be zA zB zC zD zF zT fo lw hg at_ tl th wo wl wh is_ lo_ hi_ di su ((ouF on ot pn k pn an 0).1)))) (([.ref h, .int (nI k)] : List Value).toArray) s 0 0 (va_A (wM y h q tw pn ki on ot ab be zA zB zC zD zF zT fo lw hg at_ tl th wo wl wh is_ lo_ hi_ di su an) s.heap.size)) (F0 m 56 ls []) := by
          intro m9
          induction m9 with
          | zero =>
            intro j b hj hjn hG H locs hP hD hS ls hl
            refine lv_iload hx hb dX8_needs_56 (lv_at hl 4 rfl) ?_
            refine lv_aload_n hx hb dX8_needs_58 rfl (lv_at hl 0 rfl) ?_
            refine va_get (D := D) (ci := 6) (v := .int (nI pn)) (C := RX8) (T := TX8) (N := 28) hx hb hts in_X8_needs_X8 hown hK.1 hP 0 rfl rfl 1 (by decide) (hts (.fieldLink RX8 85 "NestlimitModel" "programs" "I") (List.mem_of_getElem? (i := 1) rfl)) (fun _ h9 => h9) rfl dX8_needs_59 ?_
            refine lv_icmp_ge (tgt := 123) hx hb dX8_needs_62 (by decide) (fun c_62 => ?_) (fun c_62 => absurd (nI_le (by omega) (by omega)) c_62)
            refine lv_iload_n hx hb dX8_needs_123 rfl (lv_at hl 2 rfl) ?_
            refine lv_aload_n hx hb dX8_needs_124 rfl (lv_at hl 0 rfl) ?_
            refine va_get (D := D) (ci := 6) (v := .ref (q 27)) (C := RX8) (T := TX8) (N := 28) hx hb hts in_X8_needs_X8 hown hK.1 hP 0 rfl rfl 27 (by decide) (hts (.fieldLink RX8 78 "NestlimitModel" "areNeeded" "[Z") (List.mem_of_getElem? (i := 2) rfl)) (fun _ h9 => h9) rfl dX8_needs_125 ?_
            refine lv_iload_n hx hb dX8_needs_128 rfl (lv_at hl 3 rfl) ?_
            refine g_zald (k := n) hx hb hK.1 hP 23 2 rfl rfl (by omega) (by decide) dX8_needs_129 ?_
            refine g_topi (y := gB b) (congrArg gB (upZ_s an1 n b)) ?_
            refine g_beq (tgt := 137) hx hb dX8_needs_130 (by decide) (fun c_130 => ?_) (fun c_130 => ?_)
            · skip
              refine lv_iconst (v := 0) hx hb dX8_needs_137 (by decide) ?_
              refine lv_iadd hx hb dX8_needs_138 ?_
              refine lv_istore_n (lv' := [(2, .int (c0 + 0)), (0, .ref h), (1, .int (nI k)), (3, .int (nI n)), (4, .int (nI j))]) hx hb dX8_needs_139 rfl hl (by decide) rfl (fun ls hl => ?_)
              refine lv_iinc (v := nI n - 1) (lv' := [(3, .int (nI n - 1)), (2, .int (c0 + 0)), (0, .ref h), (1, .int (nI k)), (4, .int (nI j))]) hx hb dX8_needs_140 hl (k := 3) rfl (gi_m1 _) (by decide) rfl (fun ls hl => ?_)
              refine lv_goto (tgt := 31) hx hb dX8_needs_143 (by decide) ?_
              exact ih31 (upZ an1 n b) (c0 + 0) (by omega) (by rw [← hF]; show _ = ouF on ot pn k n (upZ an1 n (inR an1 on ot pn k n)) (if inR an1 on ot pn k n = true then c0 + 1 else c0 + 0); rw [← hG]; show _ = ouF on ot pn k n (upZ an1 n b) (if b = true then c0 + 1 else c0 + 0); rw [if_neg c_130]) _ _ hP hD hS ls (lv_sub hl [2, 3, 1, 0] rfl)
            · skip
              refine lv_iconst (v := 1) hx hb dX8_needs_133 (by decide) ?_
              refine lv_goto (tgt := 138) hx hb dX8_needs_134 (by decide) ?_
              refine lv_iadd hx hb dX8_needs_138 ?_
              refine lv_istore_n (lv' := [(2, .int (c0 + 1)), (0, .ref h), (1, .int (nI k)), (3, .int (nI n)), (4, .int (nI j))]) hx hb dX8_needs_139 rfl hl (by decide) rfl (fun ls hl => ?_)
              refine lv_iinc (v := nI n - 1) (lv' := [(3, .int (nI n - 1)), (2, .int (c0 + 1)), (0, .ref h), (1, .int (nI k)), (4, .int (nI j))]) hx hb dX8_needs_140 hl (k := 3) rfl (gi_m1 _) (by decide) rfl (fun ls hl => ?_)
              refine lv_goto (tgt := 31) hx hb dX8_needs_143 (by decide) ?_
              exact ih31 (upZ an1 n b) (c0 + 1) (by omega) (by rw [← hF]; show _ = ouF on ot pn k n (upZ an1 n (inR an1 on ot pn k n)) (if inR an1 on ot pn k n = true then c0 + 1 else c0 + 0); rw [← hG]; show _ = ouF on ot pn k n (upZ an1 n b) (if b = true then c0 + 1 else c0 + 0); rw [if_pos c_130]) _ _ hP hD hS ls (lv_sub hl [2, 3, 1, 0] rfl)
          | succ m9 ih56 =>
            intro j b hj hjn hG H locs hP hD hS ls hl
            refine lv_iload hx hb dX8_needs_56 (lv_at hl 4 rfl) ?_
            refine lv_aload_n hx hb dX8_needs_58 rfl (lv_at hl 0 rfl) ?_
            refine va_get (D := D) (ci := 6) (v := .int (nI pn)) (C := RX8) (T := TX8) (N := 28) hx hb hts in_X8_needs_X8 hown hK.1 hP 0 rfl rfl 1 (by decide) (hts (.fieldLink RX8 85 "NestlimitModel" "programs" "I") (List.mem_of_getElem? (i := 1) rfl)) (fun _ h9 => h9) rfl dX8_needs_59 ?_
            refine lv_icmp_ge (tgt := 123) hx hb dX8_needs_62 (by decide) (fun c_62 => absurd c_62 (nI_ge (by omega) (by omega))) (fun c_62 => ?_)
            refine lv_aload_n hx hb dX8_needs_65 rfl (lv_at hl 0 rfl) ?_
            refine va_get (D := D) (ci := 6) (v := .ref (q 27)) (C := RX8) (T := TX8) (N := 28) hx hb hts in_X8_needs_X8 hown hK.1 hP 0 rfl rfl 27 (by decide) (hts (.fieldLink RX8 78 "NestlimitModel" "areNeeded" "[Z") (List.mem_of_getElem? (i := 2) rfl)) (fun _ h9 => h9) rfl dX8_needs_66 ?_
            refine lv_iload_n hx hb dX8_needs_69 rfl (lv_at hl 3 rfl) ?_
            refine lv_aload_n hx hb dX8_needs_70 rfl (lv_at hl 0 rfl) ?_
            refine va_get (D := D) (ci := 6) (v := .ref (q 27)) (C := RX8) (T := TX8) (N := 28) hx hb hts in_X8_needs_X8 hown hK.1 hP 0 rfl rfl 27 (by decide) (hts (.fieldLink RX8 78 "NestlimitModel" "areNeeded" "[Z") (List.mem_of_getElem? (i := 2) rfl)) (fun _ h9 => h9) rfl dX8_needs_71 ?_
            refine lv_iload_n hx hb dX8_needs_74 rfl (lv_at hl 3 rfl) ?_
            refine g_zald (k := n) hx hb hK.1 hP 23 2 rfl rfl (by omega) (by decide) dX8_needs_75 ?_
            refine g_topi (y := gB b) (congrArg gB (upZ_s an1 n b)) ?_
            refine g_bne (tgt := 111) hx hb dX8_needs_76 (by decide) (fun c_76 => ?_) (fun c_76 => ?_)
            · skip
              refine lv_iconst (v := 1) hx hb dX8_needs_111 (by decide) ?_
              refine lv_goto (tgt := 116) hx hb dX8_needs_112 (by decide) ?_
              refine g_zast (k := n) (x := true) hx hb hK.1 hP hD hS 23 2 rfl rfl (by omega) (by decide) dX8_needs_116 (fun H locs hP hD hS => ?_)
              have hP : va_P D vwCl (wM y h q 0 pn ki on ot ab be zA zB zC zD zF zT fo lw hg at_ tl th wo wl wh is_ lo_ hi_ di su (upZ (upZ an1 n b) n true)) H := hP
              have hD : va_D A (wM y h q 0 pn ki on ot ab be zA zB zC zD zF zT fo lw hg at_ tl th wo wl wh is_ lo_ hi_ di su (upZ (upZ an1 n b) n true)) := hD
              rw [upZ_uu] at hP hD
              refine lv_iinc (v := nI (j + 1)) (lv' := [(4, .int (nI (j + 1))), (0, .ref h), (1, .int (nI k)), (2, .int c0), (3, .int (nI n))]) hx hb dX8_needs_117 hl (k := 4) rfl (nI_add j 1) (by decide) rfl (fun ls hl => ?_)
              refine lv_goto (tgt := 56) hx hb dX8_needs_120 (by decide) ?_
              exact ih56 (j + 1) true (by omega) (by omega) (by rw [← hG]; show _ = inF an1 on ot n m9 (j + 1) (if _ then _ else _); simp only [if_pos c_76]) _ _ hP hD hS ls (lv_sub hl [1, 2, 3, 4, 0] rfl)
            · skip
              refine lv_aload_n hx hb dX8_needs_79 rfl (lv_at hl 0 rfl) ?_
              refine va_get (D := D) (ci := 6) (v := .ref (q 27)) (C := RX8) (T := TX8) (N := 28) hx hb hts in_X8_needs_X8 hown hK.1 hP 0 rfl rfl 27 (by decide) (hts (.fieldLink RX8 78 "NestlimitModel" "areNeeded" "[Z") (List.mem_of_getElem? (i := 2) rfl)) (fun _ h9 => h9) rfl dX8_needs_80 ?_
              refine lv_iload hx hb dX8_needs_83 (lv_at hl 4 rfl) ?_
              refine g_zald (k := j) hx hb hK.1 hP 23 2 rfl rfl (by omega) (by decide) dX8_needs_85 ?_
              refine g_topi (y := gB (an1 j)) (congrArg gB (upZ_n (by omega))) ?_
              refine g_beq (tgt := 115) hx hb dX8_needs_86 (by decide) (fun c_86 => ?_) (fun c_86 => ?_)
              · skip
                refine lv_iconst (v := 0) hx hb dX8_needs_115 (by decide) ?_
                refine g_zast (k := n) (x := false) hx hb hK.1 hP hD hS 23 2 rfl rfl (by omega) (by decide) dX8_needs_116 (fun H locs hP hD hS => ?_)
                have hP : va_P D vwCl (wM y h q 0 pn ki on ot ab be zA zB zC zD zF zT fo lw hg at_ tl th wo wl wh is_ lo_ hi_ di su (upZ (upZ an1 n b) n false)) H := hP
                have hD : va_D A (wM y h q 0 pn ki on ot ab be zA zB zC zD zF zT fo lw hg at_ tl th wo wl wh is_ lo_ hi_ di su (upZ (upZ an1 n b) n false)) := hD
                rw [upZ_uu] at hP hD
                refine lv_iinc (v := nI (j + 1)) (lv' := [(4, .int (nI (j + 1))), (0, .ref h), (1, .int (nI k)), (2, .int c0), (3, .int (nI n))]) hx hb dX8_needs_117 hl (k := 4) rfl (nI_add j 1) (by decide) rfl (fun ls hl => ?_)
                refine lv_goto (tgt := 56) hx hb dX8_needs_120 (by decide) ?_
                exact ih56 (j + 1) false (by omega) (by omega) (by rw [← hG]; show _ = inF an1 on ot n m9 (j + 1) (if _ then _ else _); simp only [if_neg c_76, if_neg c_86]) _ _ hP hD hS ls (lv_sub hl [1, 2, 3, 4, 0] rfl)
              · skip
                refine lv_aload_n hx hb dX8_needs_89 rfl (lv_at hl 0 rfl) ?_
                refine va_get (D := D) (ci := 6) (v := .ref (q 3)) (C := RX8) (T := TX8) (N := 28) hx hb hts in_X8_needs_X8 hown hK.1 hP 0 rfl rfl 3 (by decide) (hts (.fieldLink RX8 13 "NestlimitModel" "ones" "[I") (List.mem_of_getElem? (i := 3) rfl)) (fun _ h9 => h9) rfl dX8_needs_90 ?_
                refine lv_iload hx hb dX8_needs_93 (lv_at hl 4 rfl) ?_
                refine g_iald (k := j) hx hb hK.1 hP 2 0 rfl rfl (by omega) (by decide) dX8_needs_95 ?_
                refine lv_iload_n hx hb dX8_needs_96 rfl (lv_at hl 3 rfl) ?_
                refine lv_icmp_eq (tgt := 111) hx hb dX8_needs_97 (by decide) (fun c_97 => ?_) (fun c_97 => ?_)
                · skip
                  refine lv_iconst (v := 1) hx hb dX8_needs_111 (by decide) ?_
                  refine lv_goto (tgt := 116) hx hb dX8_needs_112 (by decide) ?_
                  refine g_zast (k := n) (x := true) hx hb hK.1 hP hD hS 23 2 rfl rfl (by omega) (by decide) dX8_needs_116 (fun H locs hP hD hS => ?_)
                  have hP : va_P D vwCl (wM y h q 0 pn ki on ot ab be zA zB zC zD zF zT fo lw hg at_ tl th wo wl wh is_ lo_ hi_ di su (upZ (upZ an1 n b) n true)) H := hP
                  have hD : va_D A (wM y h q 0 pn ki on ot ab be zA zB zC zD zF zT fo lw hg at_ tl th wo wl wh is_ lo_ hi_ di su (upZ (upZ an1 n b) n true)) := hD
                  rw [upZ_uu] at hP hD
                  refine lv_iinc (v := nI (j + 1)) (lv' := [(4, .int (nI (j + 1))), (0, .ref h), (1, .int (nI k)), (2, .int c0), (3, .int (nI n))]) hx hb dX8_needs_117 hl (k := 4) rfl (nI_add j 1) (by decide) rfl (fun ls hl => ?_)
                  refine lv_goto (tgt := 56) hx hb dX8_needs_120 (by decide) ?_
                  exact ih56 (j + 1) true (by omega) (by omega) (by rw [← hG]; show _ = inF an1 on ot n m9 (j + 1) (if _ then _ else _); simp only [if_neg c_76, if_pos c_86, if_pos c_97]) _ _ hP hD hS ls (lv_sub hl [1, 2, 3, 4, 0] rfl)
                · skip
                  refine lv_aload_n hx hb dX8_needs_100 rfl (lv_at hl 0 rfl) ?_
                  refine va_get (D := D) (ci := 6) (v := .ref (q 4)) (C := RX8) (T := TX8) (N := 28) hx hb hts in_X8_needs_X8 hown hK.1 hP 0 rfl rfl 4 (by decide) (hts (.fieldLink RX8 16 "NestlimitModel" "others" "[I") (List.mem_of_getElem? (i := 4) rfl)) (fun _ h9 => h9) rfl dX8_needs_101 ?_
                  refine lv_iload hx hb dX8_needs_104 (lv_at hl 4 rfl) ?_
                  refine g_iald (k := j) hx hb hK.1 hP 3 0 rfl rfl (by omega) (by decide) dX8_needs_106 ?_
                  refine lv_iload_n hx hb dX8_needs_107 rfl (lv_at hl 3 rfl) ?_
                  refine lv_icmp_ne (tgt := 115) hx hb dX8_needs_108 (by decide) (fun c_108 => ?_) (fun c_108 => ?_)
                  · skip
                    refine lv_iconst (v := 0) hx hb dX8_needs_115 (by decide) ?_
                    refine g_zast (k := n) (x := false) hx hb hK.1 hP hD hS 23 2 rfl rfl (by omega) (by decide) dX8_needs_116 (fun H locs hP hD hS => ?_)
                    have hP : va_P D vwCl (wM y h q 0 pn ki on ot ab be zA zB zC zD zF zT fo lw hg at_ tl th wo wl wh is_ lo_ hi_ di su (upZ (upZ an1 n b) n false)) H := hP
                    have hD : va_D A (wM y h q 0 pn ki on ot ab be zA zB zC zD zF zT fo lw hg at_ tl th wo wl wh is_ lo_ hi_ di su (upZ (upZ an1 n b) n false)) := hD
                    rw [upZ_uu] at hP hD
                    refine lv_iinc (v := nI (j + 1)) (lv' := [(4, .int (nI (j + 1))), (0, .ref h), (1, .int (nI k)), (2, .int c0), (3, .int (nI n))]) hx hb dX8_needs_117 hl (k := 4) rfl (nI_add j 1) (by decide) rfl (fun ls hl => ?_)
                    refine lv_goto (tgt := 56) hx hb dX8_needs_120 (by decide) ?_
                    exact ih56 (j + 1) false (by omega) (by omega) (by rw [← hG]; show _ = inF an1 on ot n m9 (j + 1) (if _ then _ else _); simp only [if_neg c_76, if_pos c_86, if_neg c_97, if_neg c_108]) _ _ hP hD hS ls (lv_sub hl [1, 2, 3, 4, 0] rfl)
                  · skip
                    refine lv_iconst (v := 1) hx hb dX8_needs_111 (by decide) ?_
                    refine lv_goto (tgt := 116) hx hb dX8_needs_112 (by decide) ?_
                    refine g_zast (k := n) (x := true) hx hb hK.1 hP hD hS 23 2 rfl rfl (by omega) (by decide) dX8_needs_116 (fun H locs hP hD hS => ?_)
                    have hP : va_P D vwCl (wM y h q 0 pn ki on ot ab be zA zB zC zD zF zT fo lw hg at_ tl th wo wl wh is_ lo_ hi_ di su (upZ (upZ an1 n b) n true)) H := hP
                    have hD : va_D A (wM y h q 0 pn ki on ot ab be zA zB zC zD zF zT fo lw hg at_ tl th wo wl wh is_ lo_ hi_ di su (upZ (upZ an1 n b) n true)) := hD
                    rw [upZ_uu] at hP hD
                    refine lv_iinc (v := nI (j + 1)) (lv' := [(4, .int (nI (j + 1))), (0, .ref h), (1, .int (nI k)), (2, .int c0), (3, .int (nI n))]) hx hb dX8_needs_117 hl (k := 4) rfl (nI_add j 1) (by decide) rfl (fun ls hl => ?_)
                    refine lv_goto (tgt := 56) hx hb dX8_needs_120 (by decide) ?_
                    exact ih56 (j + 1) true (by omega) (by omega) (by rw [← hG]; show _ = inF an1 on ot n m9 (j + 1) (if _ then _ else _); simp only [if_neg c_76, if_pos c_86, if_neg c_97, if_pos c_108]) _ _ hP hD hS ls (lv_sub hl [1, 2, 3, 4, 0] rfl)
        exact LOOP56 (pn - (n + 1)) (n + 1) true (by omega) (by omega) (by unfold inR; rw [if_pos c_42]) _ _ hP hD hS ls (lv_sub hl [1, 2, 3, 4, 0] rfl)
  exact LOOP31 pn an 0 (Nat.le_refl _) (rfl) _ _ hP hD hS ls (lv_sub hl [2, 3, 1, 0] rfl)
def rpH (ki on ot ab be zA zB zC zD zF zT : Nat → Int32) (cW : Nat → Bool) (cX cY : Nat → Int64) (g p k : Nat) : Prop := ∃ kd : Nat, kd ≤ 8 ∧ ki k = nI kd ∧
  ((on k = -1 ∧ ot k = -1 ∧ (k ≠ g → ∀ (x1 x2 x3 x4 : Int64), mkOK kd be zF zT k x1 x2 ∧ mk_is kd ab be zA zB zC zD zF zT x3 x4 k p x1 x2 x1 x2 = cW k ∧ (cW k = true → mk_lo kd ab be zA zB zC zD zF zT x3 x4 k p x1 x2 x1 x2 = cX k ∧ mk_hi kd ab be zA zB zC zD zF zT x3 x4 k p x1 x2 x1 x2 = cY k)))
  ∨ (∃ o1 : Nat, o1 < k ∧ on k = nI o1 ∧ ot k = -1 ∧ (k ≠ g → (cW o1 = true → ∀ (x1 x2 x3 x4 : Int64), mkOK kd be zF zT k (cX o1) (cY o1) ∧ mk_is kd ab be zA zB zC zD zF zT x3 x4 k p (cX o1) (cY o1) x1 x2 = cW k ∧ (cW k = true → mk_lo kd ab be zA zB zC zD zF zT x3 x4 k p (cX o1) (cY o1) x1 x2 = cX k ∧ mk_hi kd ab be zA zB zC zD zF zT x3 x4 k p (cX o1) (cY o1) x1 x2 = cY k)) ∧ (¬ cW o1 = true → cW k = false)))
  ∨ (∃ o1 o2 : Nat, o1 < k ∧ o2 < k ∧ on k = nI o1 ∧ ot k = nI o2 ∧ (k ≠ g → (cW o1 = true → cW o2 = true → ∀ (x3 x4 : Int64), mkOK kd be zF zT k (cX o1) (cY o1) ∧ mk_is kd ab be zA zB zC zD zF zT x3 x4 k p (cX o1) (cY o1) (cX o2) (cY o2) = cW k ∧ (cW k = true → mk_lo kd ab be zA zB zC zD zF zT x3 x4 k p (cX o1) (cY o1) (cX o2) (cY o2) = cX k ∧ mk_hi kd ab be zA zB zC zD zF zT x3 x4 k p (cX o1) (cY o1) (cX o2) (cY o2) = cY k)) ∧ (¬ (cW o1 = true ∧ cW o2 = true) → cW k = false))))
def rpS (cW : Nat → Bool) (cX cY : Nat → Int64) (wo : Nat → Bool) (wl wh : Nat → Int64) (j : Nat) : Prop := wo j = cW j ∧ (cW j = true → wl j = cX j ∧ wh j = cY j)
theorem rp_d {cW : Nat → Bool} {cX cY : Nat → Int64} {wo : Nat → Bool} {wl wh : Nat → Int64} {k : Nat} {b : Bool} {x z : Int64} (h : ∀ j, j < k → rpS cW cX cY wo wl wh j) (hb : b = cW k) (hx : cW k = true → x = cX k ∧ z = cY k) : ∀ j, j < k + 1 → rpS cW cX cY (upZ wo k b) (vp_updL wl k x) (vp_updL wh k z) j := by
  intro j hj
  unfold rpS
  by_cases e : j = k
  · subst e
    rw [upZ_s, pk_uLs, pk_uLs]
    exact ⟨hb, hx⟩
  · rw [upZ_n e, pk_uLn e, pk_uLn e]
    exact h j (by omega)
theorem nIinj {a b : Nat} (ha : a < 2 ^ 31) (hb : b < 2 ^ 31) (h : nI a = nI b) : a = b := (nI_eq ha hb).mp h
theorem in_X8_replaces_X8 : ∀ w ∈ wsX80, w ∈ wsX8_replaces := fun _ h => List.mem_cons_of_mem _ (List.mem_append_right _ h)
set_option maxHeartbeats 4000000 in
set_option maxRecDepth 100000 in
theorem c_X8_replaces (l : Launch) (D : va_G) (y : Nat → ClassId) (sz : Nat) (h : Nat) (q : Nat → Nat) (tw : Int32) (pn : Nat) (ki on ot ab be zA zB zC zD zF zT : Nat → Int32) (fo : Nat → Bool) (lw hg : Nat → Int64) (at_ : Nat → Bool) (tl th : Nat → Int64) (wo : Nat → Bool) (wl wh : Nat → Int64) (is_ : Bool) (lo_ hi_ : Int64) (di : Nat → Int32) (su : Nat → Int64) (an : Nat → Bool) (g jo p : Nat) (cW : Nat → Bool) (cX cY : Nat → Int64) (hpn : pn ≤ 40) (hp : p < 25) (hgn : g < pn) (hjo : jo < pn) (hform : ∀ k, k < pn → rpH ki on ot ab be zA zB zC zD zF zT cW cX cY g p k) (hgw : cW g = fo (25 * jo + p) ∧ (cW g = true → cX g = lw (25 * jo + p) ∧ cY g = hg (25 * jo + p))) : Met l yX8_replaces wsX8_replaces ({ frames := 4, cells := 0, slots := 0, locals := 122 } : Room) (gP D y [.ref h, .int (nI g), .int (nI jo), .int (nI p)] (wM y h q tw pn ki on ot ab be zA zB zC zD zF zT fo lw hg at_ tl th wo wl wh is_ lo_ hi_ di su an) sz) (gQ D (wM y h q tw pn ki on ot ab be zA zB zC zD zF zT fo lw hg at_ tl th wo wl wh is_ lo_ hi_ di su an) (fun v w => ∃ (wo1 : Nat → Bool) (wl1 : Nat → Int64) (wh1 : Nat → Int64) (is1 : Bool) (lo1 : Int64) (hi1 : Int64), v = none ∧ w = (wM y h q tw pn ki on ot ab be zA zB zC zD zF zT fo lw hg at_ tl th wo1 wl1 wh1 is1 lo1 hi1 di su an) ∧ (∀ j, j < pn → rpS cW cX cY wo1 wl1 wh1 j))) 0 0 (va_A (wM y h q tw pn ki on ot ab be zA zB zC zD zF zT fo lw hg at_ tl th wo wl wh is_ lo_ hi_ di su an) sz) := by
  refine Met.ofW (cc := cX8_replaces) (maxL := 7) (ret := none) (by decide) rfl ?_
  intro pg e s m args below meth c s₁ B hml hv
  obtain ⟨rfl, hsz, hP, hK, hD0⟩ := hv
  have hx := B.exec
  have hb := B.bytes
  have hr := B.returns
  have hts := atoms_spec (ws := wsX8_replaces) B.pre
  have hown : s.vm.findClass RX8 = some m.cls := findClass_of_methodNamed B.named
  have hlocks := B.notSynchronized
  subst hsz
  obtain ⟨A, hAe⟩ : ∃ A : Nat → Prop, A = va_A (wM y h q tw pn ki on ot ab be zA zB zC zD zF zT fo lw hg at_ tl th wo wl wh is_ lo_ hi_ di su an) s.heap.size := ⟨_, rfl⟩
  have hD : va_D A (wM y h q tw pn ki on ot ab be zA zB zC zD zF zT fo lw hg at_ tl th wo wl wh is_ lo_ hi_ di su an) := by rw [hAe]; exact hD0.self (sz := s.heap.size)
  have hA : ∀ q : Nat, s.heap.size ≤ q → A q := fun q h => by rw [hAe]; exact Or.inr h
  have hS : va_S A s.heap s.heap [] := va_S.rf
  have hl := lv_entry ([.ref h, .int (nI g), .int (nI jo), .int (nI p)]) (n := 7) (Nat.le_of_ble_eq_true rfl)
  rw [lg_entry_eq]
  generalize (lg_sl ([.ref h, .int (nI g), .int (nI jo), .int (nI p)]) ++ List.replicate (7 - (lg_sl ([.ref h, .int (nI g), .int (nI jo), .int (nI p)])).length) Slot.unset).toArray = ls at hl ⊢
  have hl : lv_has ls 7 [(0, .ref h), (1, .int (nI g)), (2, .int (nI jo)), (3, .int (nI p))] := hl
  refine lv_iconst (v := 0) hx hb dX8_replaces_0 (by decide) ?_
  refine lv_istore (lv' := [(4, .int 0), (0, .ref h), (1, .int (nI g)), (2, .int (nI jo)), (3, .int (nI p))]) hx hb dX8_replaces_1 hl (by decide) rfl (fun ls hl => ?_)
  have LOOP3 : ∀ (n : Nat) (k : Nat) (wo1 : Nat → Bool) (wl1 : Nat → Int64) (wh1 : Nat → Int64) (is1 : Bool) (lo1 : Int64) (hi1 : Int64), (k + n = pn) → (∀ j, j < k → rpS cW cX cY wo1 wl1 wh1 j) → ∀ (H : Heap) (locs : List Loc), va_P D vwCl (wM y h q tw pn ki on ot ab be zA zB zC zD zF zT fo lw hg at_ tl th wo1 wl1 wh1 is1 lo1 hi1 di su an) H → va_D A (wM y h q tw pn ki on ot ab be zA zB zC zD zF zT fo lw hg at_ tl th wo1 wl1 wh1 is1 lo1 hi1 di su an) → va_S A s.heap H locs → ∀ (ls : Array Slot), lv_has ls 7 [(0, .ref h), (1, .int (nI g)), (2, .int (nI jo)), (3, .int (nI p)), (4, .int (nI k))] → W pg l e (headSpec wsX8_replaces ({ frames := 4, cells := 0, slots := 0, locals := 122 } : Room)).room s m (([.ref h, .int (nI g), .int (nI jo), .int (nI p)] : List Value).toArray) below meth c H locs 0 0 (MQ below (gQ D (wM y h q tw pn ki on ot ab be zA zB zC zD zF zT fo lw hg at_ tl th wo wl wh is_ lo_ hi_ di su an) (fun v w => ∃ (wo1 : Nat → Bool) (wl1 : Nat → Int64) (wh1 : Nat → Int64) (is1 : Bool) (lo1 : Int64) (hi1 : Int64), v = none ∧ w = (wM y h q tw pn ki on ot ab be zA zB zC zD zF zT fo lw hg at_ tl th wo1 wl1 wh1 is1 lo1 hi1 di su an) ∧ (∀ j, j < pn → rpS cW cX cY wo1 wl1 wh1 j))) (([.ref h, .int (nI g), .int (nI jo), .int (nI p)] : List Value).toArray) s 0 0 (va_A (wM y h q tw pn ki on ot ab be zA zB zC zD zF zT fo lw hg at_ tl th wo wl wh is_ lo_ hi_ di su an) s.heap.size)) (F0 m 3 ls []) := by
    intro n
    induction n with
    | zero =>
      intro k wo1 wl1 wh1 is1 lo1 hi1 hk2 hd H locs hP hD hS ls hl
      refine lv_iload hx hb dX8_replaces_3 (lv_at hl 4 rfl) ?_
      refine lv_aload_n hx hb dX8_replaces_5 rfl (lv_at hl 0 rfl) ?_
      refine va_get (D := D) (ci := 6) (v := .int (nI pn)) (C := RX8) (T := TX8) (N := 28) hx hb hts in_X8_replaces_X8 hown hK.1 hP 0 rfl rfl 1 (by decide) (hts (.fieldLink RX8 85 "NestlimitModel" "programs" "I") (List.mem_of_getElem? (i := 1) rfl)) (fun _ h9 => h9) rfl dX8_replaces_6 ?_
      refine lv_icmp_ge (tgt := 248) hx hb dX8_replaces_9 (by decide) (fun c_9 => ?_) (fun c_9 => absurd (nI_le (by omega) (by omega)) c_9)
      exact W.vret hx hb hr (fun t ht hW => ⟨⟨none, wM y h q tw pn ki on ot ab be zA zB zC zD zF zT fo lw hg at_ tl th wo1 wl1 wh1 is1 lo1 hi1 di su an, rfl, ⟨wo1, wl1, wh1, is1, lo1, hi1, rfl, rfl, fun j hj => hd j (by omega)⟩, rfl, by rw [ht]; exact hP⟩, by rw [← hAe]; exact hS.F ht⟩) (by rw [← hAe]; exact hS.2.2) dX8_replaces_248
    | succ n ih3 =>
      intro k wo1 wl1 wh1 is1 lo1 hi1 hk2 hd H locs hP hD hS ls hl
      obtain ⟨kd, hkd, hki, hv⟩ := hform k (by omega)
      rcases hv with ⟨hon, hot, hc⟩ | ⟨o1, ho1, hon, hot, hc⟩ | ⟨o1, o2, ho1, ho2, hon, hot, hc⟩
      · skip
        refine lv_iload hx hb dX8_replaces_3 (lv_at hl 4 rfl) ?_
        refine lv_aload_n hx hb dX8_replaces_5 rfl (lv_at hl 0 rfl) ?_
        refine va_get (D := D) (ci := 6) (v := .int (nI pn)) (C := RX8) (T := TX8) (N := 28) hx hb hts in_X8_replaces_X8 hown hK.1 hP 0 rfl rfl 1 (by decide) (hts (.fieldLink RX8 85 "NestlimitModel" "programs" "I") (List.mem_of_getElem? (i := 1) rfl)) (fun _ h9 => h9) rfl dX8_replaces_6 ?_
        refine lv_icmp_ge (tgt := 248) hx hb dX8_replaces_9 (by decide) (fun c_9 => absurd c_9 (nI_ge (by omega) (by omega))) (fun c_9 => ?_)
        refine lv_aload_n hx hb dX8_replaces_12 rfl (lv_at hl 0 rfl) ?_
        refine va_get (D := D) (ci := 6) (v := .ref (q 3)) (C := RX8) (T := TX8) (N := 28) hx hb hts in_X8_replaces_X8 hown hK.1 hP 0 rfl rfl 3 (by decide) (hts (.fieldLink RX8 13 "NestlimitModel" "ones" "[I") (List.mem_of_getElem? (i := 2) rfl)) (fun _ h9 => h9) rfl dX8_replaces_13 ?_
        refine lv_iload hx hb dX8_replaces_16 (lv_at hl 4 rfl) ?_
        refine g_iald (k := k) hx hb hK.1 hP 2 0 rfl rfl (by omega) (by decide) dX8_replaces_18 ?_
        refine lv_iconst (v := -1) hx hb dX8_replaces_19 (by decide) ?_
        refine lv_icmp_ne (tgt := 28) hx hb dX8_replaces_20 (by decide) (fun c_20 => absurd hon c_20) (fun c_20 => ?_)
        refine lv_iload hx hb dX8_replaces_23 (lv_at hl 4 rfl) ?_
        refine lv_goto (tgt := 35) hx hb dX8_replaces_25 (by decide) ?_
        refine lv_istore (lv' := [(5, .int (nI k)), (0, .ref h), (1, .int (nI g)), (2, .int (nI jo)), (3, .int (nI p)), (4, .int (nI k))]) hx hb dX8_replaces_35 hl (by decide) rfl (fun ls hl => ?_)
        refine lv_aload_n hx hb dX8_replaces_37 rfl (lv_at hl 1 rfl) ?_
        refine va_get (D := D) (ci := 6) (v := .ref (q 4)) (C := RX8) (T := TX8) (N := 28) hx hb hts in_X8_replaces_X8 hown hK.1 hP 0 rfl rfl 4 (by decide) (hts (.fieldLink RX8 16 "NestlimitModel" "others" "[I") (List.mem_of_getElem? (i := 3) rfl)) (fun _ h9 => h9) rfl dX8_replaces_38 ?_
        refine lv_iload hx hb dX8_replaces_41 (lv_at hl 5 rfl) ?_
        refine g_iald (k := k) hx hb hK.1 hP 3 0 rfl rfl (by omega) (by decide) dX8_replaces_43 ?_
        refine lv_iconst (v := -1) hx hb dX8_replaces_44 (by decide) ?_
        refine lv_icmp_ne (tgt := 53) hx hb dX8_replaces_45 (by decide) (fun c_45 => absurd hot c_45) (fun c_45 => ?_)
        refine lv_iload hx hb dX8_replaces_48 (lv_at hl 5 rfl) ?_
        refine lv_goto (tgt := 60) hx hb dX8_replaces_50 (by decide) ?_
        refine lv_istore (lv' := [(6, .int (nI k)), (5, .int (nI k)), (0, .ref h), (1, .int (nI g)), (2, .int (nI jo)), (3, .int (nI p)), (4, .int (nI k))]) hx hb dX8_replaces_60 hl (by decide) rfl (fun ls hl => ?_)
        refine lv_aload_n hx hb dX8_replaces_62 rfl (lv_at hl 2 rfl) ?_
        refine lv_aload_n hx hb dX8_replaces_63 rfl (lv_at hl 2 rfl) ?_
        refine va_get (D := D) (ci := 6) (v := .ref (q 3)) (C := RX8) (T := TX8) (N := 28) hx hb hts in_X8_replaces_X8 hown hK.1 hP 0 rfl rfl 3 (by decide) (hts (.fieldLink RX8 13 "NestlimitModel" "ones" "[I") (List.mem_of_getElem? (i := 2) rfl)) (fun _ h9 => h9) rfl dX8_replaces_64 ?_
        refine lv_iload hx hb dX8_replaces_67 (lv_at hl 6 rfl) ?_
        refine g_iald (k := k) hx hb hK.1 hP 2 0 rfl rfl (by omega) (by decide) dX8_replaces_69 ?_
        refine lv_iconst (v := -1) hx hb dX8_replaces_70 (by decide) ?_
        refine lv_icmp_eq (tgt := 84) hx hb dX8_replaces_71 (by decide) (fun c_71 => ?_) (fun c_71 => absurd hon c_71)
        refine lv_aload_n hx hb dX8_replaces_84 rfl (lv_at hl 2 rfl) ?_
        refine va_get (D := D) (ci := 6) (v := .ref (q 4)) (C := RX8) (T := TX8) (N := 28) hx hb hts in_X8_replaces_X8 hown hK.1 hP 0 rfl rfl 4 (by decide) (hts (.fieldLink RX8 16 "NestlimitModel" "others" "[I") (List.mem_of_getElem? (i := 3) rfl)) (fun _ h9 => h9) rfl dX8_replaces_85 ?_
        refine lv_iload hx hb dX8_replaces_88 (lv_at hl 6 rfl) ?_
        refine g_iald (k := k) hx hb hK.1 hP 3 0 rfl rfl (by omega) (by decide) dX8_replaces_90 ?_
        refine lv_iconst (v := -1) hx hb dX8_replaces_91 (by decide) ?_
        refine lv_icmp_eq (tgt := 105) hx hb dX8_replaces_92 (by decide) (fun c_92 => ?_) (fun c_92 => absurd hot c_92)
        refine lv_iconst (v := 1) hx hb dX8_replaces_105 (by decide) ?_
        refine lv_goto (tgt := 110) hx hb dX8_replaces_106 (by decide) ?_
        refine va_put (D := D) (ci := 6) (v := .int (gB true)) (ty := .boolean) (C := RX8) (T := TX8) (N := 28) hx hb hts in_X8_replaces_X8 tyX8 tyX8_ok nmX8 hown hK.1 hP hD hS 0 rfl rfl 22 (by decide) (hts (.fieldLink RX8 92 "NestlimitModel" "is" "Z") (List.mem_of_getElem? (i := 5) rfl)) (fun _ h9 => h9) rfl (by decide +kernel) (gB_n _) (gB_f _) (Nat.le_of_ble_eq_true rfl) dX8_replaces_110 (fun H locs hP hD hS => ?_)
        have hP : va_P D vwCl (wM y h q tw pn ki on ot ab be zA zB zC zD zF zT fo lw hg at_ tl th wo1 wl1 wh1 true lo1 hi1 di su an) H := hP
        have hD : va_D A (wM y h q tw pn ki on ot ab be zA zB zC zD zF zT fo lw hg at_ tl th wo1 wl1 wh1 true lo1 hi1 di su an) := hD
        refine lv_iload hx hb dX8_replaces_113 (lv_at hl 6 rfl) ?_
        refine lv_iload_n hx hb dX8_replaces_115 rfl (lv_at hl 3 rfl) ?_
        refine lv_icmp_ne (tgt := 167) hx hb dX8_replaces_116 (by decide) (fun c_116 => ?_) (fun c_116 => ?_)
        · skip
          refine lv_aload_n hx hb dX8_replaces_167 rfl (lv_at hl 2 rfl) ?_
          refine va_get (D := D) (ci := 6) (v := .int (gB true)) (C := RX8) (T := TX8) (N := 28) hx hb hts in_X8_replaces_X8 hown hK.1 hP 0 rfl rfl 22 (by decide) (hts (.fieldLink RX8 92 "NestlimitModel" "is" "Z") (List.mem_of_getElem? (i := 5) rfl)) (fun _ h9 => h9) rfl dX8_replaces_168 ?_
          refine g_beq (tgt := 209) hx hb dX8_replaces_171 (by decide) (fun c_171 => absurd c_171 (by decide)) (fun c_171 => ?_)
          obtain ⟨I1, hI1⟩ : ∃ z, z = mk_is kd ab be zA zB zC zD zF zT lo1 hi1 k p (wl1 k) (wh1 k) (wl1 k) (wh1 k) := ⟨_, rfl⟩
          obtain ⟨L1, hL1⟩ : ∃ z, z = mk_lo kd ab be zA zB zC zD zF zT lo1 hi1 k p (wl1 k) (wh1 k) (wl1 k) (wh1 k) := ⟨_, rfl⟩
          obtain ⟨H1, hH1⟩ : ∃ z, z = mk_hi kd ab be zA zB zC zD zF zT lo1 hi1 k p (wl1 k) (wh1 k) (wl1 k) (wh1 k) := ⟨_, rfl⟩
          have hc9 := hc (fun z9 => c_116 (by rw [z9])) (wl1 k) (wh1 k) lo1 hi1
          have hok9 := hc9.1
          rw [← hI1, ← hL1, ← hH1] at hc9
          have hm1 := hc9.2.1
          have hm2 := hc9.2.2
          refine lv_aload_n hx hb dX8_replaces_174 rfl (lv_at hl 2 rfl) ?_
          refine lv_iload hx hb dX8_replaces_175 (lv_at hl 6 rfl) ?_
          refine lv_iload_n hx hb dX8_replaces_177 rfl (lv_at hl 5 rfl) ?_
          refine lv_aload_n hx hb dX8_replaces_178 rfl (lv_at hl 2 rfl) ?_
          refine va_get (D := D) (ci := 6) (v := .ref (q 20)) (C := RX8) (T := TX8) (N := 28) hx hb hts in_X8_replaces_X8 hown hK.1 hP 0 rfl rfl 20 (by decide) (hts (.fieldLink RX8 66 "NestlimitModel" "wouldLow" "[J") (List.mem_of_getElem? (i := 11) rfl)) (fun _ h9 => h9) rfl dX8_replaces_179 ?_
          refine lv_iload hx hb dX8_replaces_182 (lv_at hl 1 rfl) ?_
          refine g_lald (k := k) hx hb hK.1 hP 19 1 rfl rfl (by omega) (by decide) dX8_replaces_184 ?_
          refine lv_aload_n hx hb dX8_replaces_185 rfl (lv_at hl 2 rfl) ?_
          refine va_get (D := D) (ci := 6) (v := .ref (q 21)) (C := RX8) (T := TX8) (N := 28) hx hb hts in_X8_replaces_X8 hown hK.1 hP 0 rfl rfl 21 (by decide) (hts (.fieldLink RX8 69 "NestlimitModel" "wouldHigh" "[J") (List.mem_of_getElem? (i := 12) rfl)) (fun _ h9 => h9) rfl dX8_replaces_186 ?_
          refine lv_iload hx hb dX8_replaces_189 (lv_at hl 1 rfl) ?_
          refine g_lald (k := k) hx hb hK.1 hP 20 1 rfl rfl (by omega) (by decide) dX8_replaces_191 ?_
          refine lv_aload_n hx hb dX8_replaces_192 rfl (lv_at hl 2 rfl) ?_
          refine va_get (D := D) (ci := 6) (v := .ref (q 20)) (C := RX8) (T := TX8) (N := 28) hx hb hts in_X8_replaces_X8 hown hK.1 hP 0 rfl rfl 20 (by decide) (hts (.fieldLink RX8 66 "NestlimitModel" "wouldLow" "[J") (List.mem_of_getElem? (i := 11) rfl)) (fun _ h9 => h9) rfl dX8_replaces_193 ?_
          refine lv_iload hx hb dX8_replaces_196 (lv_at hl 0 rfl) ?_
          refine g_lald (k := k) hx hb hK.1 hP 19 1 rfl rfl (by omega) (by decide) dX8_replaces_198 ?_
          refine lv_aload_n hx hb dX8_replaces_199 rfl (lv_at hl 2 rfl) ?_
          refine va_get (D := D) (ci := 6) (v := .ref (q 21)) (C := RX8) (T := TX8) (N := 28) hx hb hts in_X8_replaces_X8 hown hK.1 hP 0 rfl rfl 21 (by decide) (hts (.fieldLink RX8 69 "NestlimitModel" "wouldHigh" "[J") (List.mem_of_getElem? (i := 12) rfl)) (fun _ h9 => h9) rfl dX8_replaces_200 ?_
          refine lv_iload hx hb dX8_replaces_203 (lv_at hl 0 rfl) ?_
          refine g_lald (k := k) hx hb hK.1 hP 20 1 rfl rfl (by omega) (by decide) dX8_replaces_205 ?_
          refine g_callAv (w0 := wM y h q tw pn ki on ot ab be zA zB zC zD zF zT fo lw hg at_ tl th wo1 wl1 wh1 I1 L1 H1 di su an) (va_runV (As := [.int (nI k), .int (nI p), .long (wl1 k), .long (wh1 k), .long (wl1 k), .long (wh1 k)]) (rest := []) ⟨hx, hb, hml, hown, hts⟩ (c_X8_makesV l D y H.size h q tw pn ki on ot ab be zA zB zC zD zF zT fo lw hg at_ tl th wo1 wl1 wh1 true lo1 hi1 di su an kd k p (wl1 k) (wh1 k) (wl1 k) (wh1 k) I1 L1 H1 (by omega) hp hkd hki hok9 hI1.symm hL1.symm hH1.symm) (cwV 6 hts gX8_replaces_X8_makes rfl rfl rfl (by decide +kernel) ⟨Nat.le_of_ble_eq_true rfl, Nat.le_of_ble_eq_true rfl⟩) (gP_VA hP hD hK 0 rfl rfl) rfl rfl hl.1 rfl (lv_room (Nat.le_of_ble_eq_true rfl)) dX8_replaces_206 ⟨Nat.zero_le _, Nat.zero_le _⟩) hP hD hS hA rfl (fun H locs hP hD hS => ?_)
          refine lv_aload_n hx hb dX8_replaces_209 rfl (lv_at hl 2 rfl) ?_
          refine va_get (D := D) (ci := 6) (v := .ref (q 19)) (C := RX8) (T := TX8) (N := 28) hx hb hts in_X8_replaces_X8 hown hK.1 hP 0 rfl rfl 19 (by decide) (hts (.fieldLink RX8 63 "NestlimitModel" "would" "[Z") (List.mem_of_getElem? (i := 4) rfl)) (fun _ h9 => h9) rfl dX8_replaces_210 ?_
          refine lv_iload hx hb dX8_replaces_213 (lv_at hl 6 rfl) ?_
          refine lv_aload_n hx hb dX8_replaces_215 rfl (lv_at hl 2 rfl) ?_
          refine va_get (D := D) (ci := 6) (v := .int (gB I1)) (C := RX8) (T := TX8) (N := 28) hx hb hts in_X8_replaces_X8 hown hK.1 hP 0 rfl rfl 22 (by decide) (hts (.fieldLink RX8 92 "NestlimitModel" "is" "Z") (List.mem_of_getElem? (i := 5) rfl)) (fun _ h9 => h9) rfl dX8_replaces_216 ?_
          refine g_zast (k := k) (x := I1) hx hb hK.1 hP hD hS 18 2 rfl rfl (by omega) (by decide) dX8_replaces_219 (fun H locs hP hD hS => ?_)
          have hP : va_P D vwCl (wM y h q tw pn ki on ot ab be zA zB zC zD zF zT fo lw hg at_ tl th (upZ wo1 k I1) wl1 wh1 I1 L1 H1 di su an) H := hP
          have hD : va_D A (wM y h q tw pn ki on ot ab be zA zB zC zD zF zT fo lw hg at_ tl th (upZ wo1 k I1) wl1 wh1 I1 L1 H1 di su an) := hD
          refine lv_aload_n hx hb dX8_replaces_220 rfl (lv_at hl 2 rfl) ?_
          refine va_get (D := D) (ci := 6) (v := .ref (q 20)) (C := RX8) (T := TX8) (N := 28) hx hb hts in_X8_replaces_X8 hown hK.1 hP 0 rfl rfl 20 (by decide) (hts (.fieldLink RX8 66 "NestlimitModel" "wouldLow" "[J") (List.mem_of_getElem? (i := 11) rfl)) (fun _ h9 => h9) rfl dX8_replaces_221 ?_
          refine lv_iload hx hb dX8_replaces_224 (lv_at hl 6 rfl) ?_
          refine lv_aload_n hx hb dX8_replaces_226 rfl (lv_at hl 2 rfl) ?_
          refine va_get (D := D) (ci := 6) (v := .long L1) (C := RX8) (T := TX8) (N := 28) hx hb hts in_X8_replaces_X8 hown hK.1 hP 0 rfl rfl 23 (by decide) (hts (.fieldLink RX8 96 "NestlimitModel" "low" "J") (List.mem_of_getElem? (i := 8) rfl)) (fun _ h9 => h9) rfl dX8_replaces_227 ?_
          refine g_last (k := k) (x := L1) hx hb hK.1 hP hD hS 19 1 rfl rfl (by omega) (by decide) dX8_replaces_230 (fun H locs hP hD hS => ?_)
          have hP : va_P D vwCl (wM y h q tw pn ki on ot ab be zA zB zC zD zF zT fo lw hg at_ tl th (upZ wo1 k I1) (vp_updL wl1 k L1) wh1 I1 L1 H1 di su an) H := hP
          have hD : va_D A (wM y h q tw pn ki on ot ab be zA zB zC zD zF zT fo lw hg at_ tl th (upZ wo1 k I1) (vp_updL wl1 k L1) wh1 I1 L1 H1 di su an) := hD
          refine lv_aload_n hx hb dX8_replaces_231 rfl (lv_at hl 2 rfl) ?_
          refine va_get (D := D) (ci := 6) (v := .ref (q 21)) (C := RX8) (T := TX8) (N := 28) hx hb hts in_X8_replaces_X8 hown hK.1 hP 0 rfl rfl 21 (by decide) (hts (.fieldLink RX8 69 "NestlimitModel" "wouldHigh" "[J") (List.mem_of_getElem? (i := 12) rfl)) (fun _ h9 => h9) rfl dX8_replaces_232 ?_
          refine lv_iload hx hb dX8_replaces_235 (lv_at hl 6 rfl) ?_
          refine lv_aload_n hx hb dX8_replaces_237 rfl (lv_at hl 2 rfl) ?_
          refine va_get (D := D) (ci := 6) (v := .long H1) (C := RX8) (T := TX8) (N := 28) hx hb hts in_X8_replaces_X8 hown hK.1 hP 0 rfl rfl 24 (by decide) (hts (.fieldLink RX8 100 "NestlimitModel" "high" "J") (List.mem_of_getElem? (i := 10) rfl)) (fun _ h9 => h9) rfl dX8_replaces_238 ?_
          refine g_last (k := k) (x := H1) hx hb hK.1 hP hD hS 20 1 rfl rfl (by omega) (by decide) dX8_replaces_241 (fun H locs hP hD hS => ?_)
          have hP : va_P D vwCl (wM y h q tw pn ki on ot ab be zA zB zC zD zF zT fo lw hg at_ tl th (upZ wo1 k I1) (vp_updL wl1 k L1) (vp_updL wh1 k H1) I1 L1 H1 di su an) H := hP
          have hD : va_D A (wM y h q tw pn ki on ot ab be zA zB zC zD zF zT fo lw hg at_ tl th (upZ wo1 k I1) (vp_updL wl1 k L1) (vp_updL wh1 k H1) I1 L1 H1 di su an) := hD
          refine lv_iinc (v := nI (k + 1)) (lv' := [(4, .int (nI (k + 1))), (6, .int (nI k)), (5, .int (nI k)), (0, .ref h), (1, .int (nI g)), (2, .int (nI jo)), (3, .int (nI p))]) hx hb dX8_replaces_242 hl (k := 6) rfl (nI_add k 1) (by decide) rfl (fun ls hl => ?_)
          refine lv_goto (tgt := 3) hx hb dX8_replaces_245 (by decide) ?_
          exact ih3 (k + 1) (upZ wo1 k I1) (vp_updL wl1 k L1) (vp_updL wh1 k H1) I1 L1 H1 (by omega) (rp_d hd hm1 hm2) _ _ hP hD hS ls (lv_sub hl [3, 4, 5, 6, 0] rfl)
        · skip
          refine lv_aload_n hx hb dX8_replaces_119 rfl (lv_at hl 2 rfl) ?_
          refine lv_aload_n hx hb dX8_replaces_120 rfl (lv_at hl 2 rfl) ?_
          refine va_get (D := D) (ci := 6) (v := .ref (q 13)) (C := RX8) (T := TX8) (N := 28) hx hb hts in_X8_replaces_X8 hown hK.1 hP 0 rfl rfl 13 (by decide) (hts (.fieldLink RX8 43 "NestlimitModel" "found" "[Z") (List.mem_of_getElem? (i := 6) rfl)) (fun _ h9 => h9) rfl dX8_replaces_121 ?_
          refine lv_bipush (v := 25) hx hb dX8_replaces_124 (by decide) ?_
          refine lv_iload_n hx hb dX8_replaces_126 rfl (lv_at hl 4 rfl) ?_
          refine lv_imul hx hb dX8_replaces_127 ?_
          refine g_topi (pk_mul 25 jo) ?_
          refine lv_iload_n hx hb dX8_replaces_128 rfl (lv_at hl 5 rfl) ?_
          refine lv_iadd hx hb dX8_replaces_129 ?_
          refine g_topi (nI_add (25 * jo) p) ?_
          refine g_zald (k := (25 * jo) + p) hx hb hK.1 hP 12 2 rfl rfl (by omega) (by decide) dX8_replaces_130 ?_
          refine va_put (D := D) (ci := 6) (v := .int (gB (fo ((25 * jo) + p)))) (ty := .boolean) (C := RX8) (T := TX8) (N := 28) hx hb hts in_X8_replaces_X8 tyX8 tyX8_ok nmX8 hown hK.1 hP hD hS 0 rfl rfl 22 (by decide) (hts (.fieldLink RX8 92 "NestlimitModel" "is" "Z") (List.mem_of_getElem? (i := 5) rfl)) (fun _ h9 => h9) rfl (by decide +kernel) (gB_n _) (gB_f _) (Nat.le_of_ble_eq_true rfl) dX8_replaces_131 (fun H locs hP hD hS => ?_)
          have hP : va_P D vwCl (wM y h q tw pn ki on ot ab be zA zB zC zD zF zT fo lw hg at_ tl th wo1 wl1 wh1 (fo ((25 * jo) + p)) lo1 hi1 di su an) H := hP
          have hD : va_D A (wM y h q tw pn ki on ot ab be zA zB zC zD zF zT fo lw hg at_ tl th wo1 wl1 wh1 (fo ((25 * jo) + p)) lo1 hi1 di su an) := hD
          refine lv_aload_n hx hb dX8_replaces_134 rfl (lv_at hl 2 rfl) ?_
          refine lv_aload_n hx hb dX8_replaces_135 rfl (lv_at hl 2 rfl) ?_
          refine va_get (D := D) (ci := 6) (v := .ref (q 14)) (C := RX8) (T := TX8) (N := 28) hx hb hts in_X8_replaces_X8 hown hK.1 hP 0 rfl rfl 14 (by decide) (hts (.fieldLink RX8 47 "NestlimitModel" "lows" "[J") (List.mem_of_getElem? (i := 7) rfl)) (fun _ h9 => h9) rfl dX8_replaces_136 ?_
          refine lv_bipush (v := 25) hx hb dX8_replaces_139 (by decide) ?_
          refine lv_iload_n hx hb dX8_replaces_141 rfl (lv_at hl 4 rfl) ?_
          refine lv_imul hx hb dX8_replaces_142 ?_
          refine g_topi (pk_mul 25 jo) ?_
          refine lv_iload_n hx hb dX8_replaces_143 rfl (lv_at hl 5 rfl) ?_
          refine lv_iadd hx hb dX8_replaces_144 ?_
          refine g_topi (nI_add (25 * jo) p) ?_
          refine g_lald (k := (25 * jo) + p) hx hb hK.1 hP 13 1 rfl rfl (by omega) (by decide) dX8_replaces_145 ?_
          refine va_put (D := D) (ci := 6) (v := .long (lw ((25 * jo) + p))) (ty := .long) (C := RX8) (T := TX8) (N := 28) hx hb hts in_X8_replaces_X8 tyX8 tyX8_ok nmX8 hown hK.1 hP hD hS 0 rfl rfl 23 (by decide) (hts (.fieldLink RX8 96 "NestlimitModel" "low" "J") (List.mem_of_getElem? (i := 8) rfl)) (fun _ h9 => h9) rfl (by decide +kernel) (rfl) (rfl) (Nat.le_of_ble_eq_true rfl) dX8_replaces_146 (fun H locs hP hD hS => ?_)
          have hP : va_P D vwCl (wM y h q tw pn ki on ot ab be zA zB zC zD zF zT fo lw hg at_ tl th wo1 wl1 wh1 (fo ((25 * jo) + p)) (lw ((25 * jo) + p)) hi1 di su an) H := hP
          have hD : va_D A (wM y h q tw pn ki on ot ab be zA zB zC zD zF zT fo lw hg at_ tl th wo1 wl1 wh1 (fo ((25 * jo) + p)) (lw ((25 * jo) + p)) hi1 di su an) := hD
          refine lv_aload_n hx hb dX8_replaces_149 rfl (lv_at hl 2 rfl) ?_
          refine lv_aload_n hx hb dX8_replaces_150 rfl (lv_at hl 2 rfl) ?_
          refine va_get (D := D) (ci := 6) (v := .ref (q 15)) (C := RX8) (T := TX8) (N := 28) hx hb hts in_X8_replaces_X8 hown hK.1 hP 0 rfl rfl 15 (by decide) (hts (.fieldLink RX8 51 "NestlimitModel" "highs" "[J") (List.mem_of_getElem? (i := 9) rfl)) (fun _ h9 => h9) rfl dX8_replaces_151 ?_
          refine lv_bipush (v := 25) hx hb dX8_replaces_154 (by decide) ?_
          refine lv_iload_n hx hb dX8_replaces_156 rfl (lv_at hl 4 rfl) ?_
          refine lv_imul hx hb dX8_replaces_157 ?_
          refine g_topi (pk_mul 25 jo) ?_
          refine lv_iload_n hx hb dX8_replaces_158 rfl (lv_at hl 5 rfl) ?_
          refine lv_iadd hx hb dX8_replaces_159 ?_
          refine g_topi (nI_add (25 * jo) p) ?_
          refine g_lald (k := (25 * jo) + p) hx hb hK.1 hP 14 1 rfl rfl (by omega) (by decide) dX8_replaces_160 ?_
          refine va_put (D := D) (ci := 6) (v := .long (hg ((25 * jo) + p))) (ty := .long) (C := RX8) (T := TX8) (N := 28) hx hb hts in_X8_replaces_X8 tyX8 tyX8_ok nmX8 hown hK.1 hP hD hS 0 rfl rfl 24 (by decide) (hts (.fieldLink RX8 100 "NestlimitModel" "high" "J") (List.mem_of_getElem? (i := 10) rfl)) (fun _ h9 => h9) rfl (by decide +kernel) (rfl) (rfl) (Nat.le_of_ble_eq_true rfl) dX8_replaces_161 (fun H locs hP hD hS => ?_)
          have hP : va_P D vwCl (wM y h q tw pn ki on ot ab be zA zB zC zD zF zT fo lw hg at_ tl th wo1 wl1 wh1 (fo ((25 * jo) + p)) (lw ((25 * jo) + p)) (hg ((25 * jo) + p)) di su an) H := hP
          have hD : va_D A (wM y h q tw pn ki on ot ab be zA zB zC zD zF zT fo lw hg at_ tl th wo1 wl1 wh1 (fo ((25 * jo) + p)) (lw ((25 * jo) + p)) (hg ((25 * jo) + p)) di su an) := hD
          refine lv_goto (tgt := 209) hx hb dX8_replaces_164 (by decide) ?_
          refine lv_aload_n hx hb dX8_replaces_209 rfl (lv_at hl 2 rfl) ?_
          refine va_get (D := D) (ci := 6) (v := .ref (q 19)) (C := RX8) (T := TX8) (N := 28) hx hb hts in_X8_replaces_X8 hown hK.1 hP 0 rfl rfl 19 (by decide) (hts (.fieldLink RX8 63 "NestlimitModel" "would" "[Z") (List.mem_of_getElem? (i := 4) rfl)) (fun _ h9 => h9) rfl dX8_replaces_210 ?_
          refine lv_iload hx hb dX8_replaces_213 (lv_at hl 6 rfl) ?_
          refine lv_aload_n hx hb dX8_replaces_215 rfl (lv_at hl 2 rfl) ?_
          refine va_get (D := D) (ci := 6) (v := .int (gB (fo ((25 * jo) + p)))) (C := RX8) (T := TX8) (N := 28) hx hb hts in_X8_replaces_X8 hown hK.1 hP 0 rfl rfl 22 (by decide) (hts (.fieldLink RX8 92 "NestlimitModel" "is" "Z") (List.mem_of_getElem? (i := 5) rfl)) (fun _ h9 => h9) rfl dX8_replaces_216 ?_
          refine g_zast (k := k) (x := fo ((25 * jo) + p)) hx hb hK.1 hP hD hS 18 2 rfl rfl (by omega) (by decide) dX8_replaces_219 (fun H locs hP hD hS => ?_)
          have hP : va_P D vwCl (wM y h q tw pn ki on ot ab be zA zB zC zD zF zT fo lw hg at_ tl th (upZ wo1 k (fo ((25 * jo) + p))) wl1 wh1 (fo ((25 * jo) + p)) (lw ((25 * jo) + p)) (hg ((25 * jo) + p)) di su an) H := hP
          have hD : va_D A (wM y h q tw pn ki on ot ab be zA zB zC zD zF zT fo lw hg at_ tl th (upZ wo1 k (fo ((25 * jo) + p))) wl1 wh1 (fo ((25 * jo) + p)) (lw ((25 * jo) + p)) (hg ((25 * jo) + p)) di su an) := hD
          refine lv_aload_n hx hb dX8_replaces_220 rfl (lv_at hl 2 rfl) ?_
          refine va_get (D := D) (ci := 6) (v := .ref (q 20)) (C := RX8) (T := TX8) (N := 28) hx hb hts in_X8_replaces_X8 hown hK.1 hP 0 rfl rfl 20 (by decide) (hts (.fieldLink RX8 66 "NestlimitModel" "wouldLow" "[J") (List.mem_of_getElem? (i := 11) rfl)) (fun _ h9 => h9) rfl dX8_replaces_221 ?_
          refine lv_iload hx hb dX8_replaces_224 (lv_at hl 6 rfl) ?_
          refine lv_aload_n hx hb dX8_replaces_226 rfl (lv_at hl 2 rfl) ?_
          refine va_get (D := D) (ci := 6) (v := .long (lw ((25 * jo) + p))) (C := RX8) (T := TX8) (N := 28) hx hb hts in_X8_replaces_X8 hown hK.1 hP 0 rfl rfl 23 (by decide) (hts (.fieldLink RX8 96 "NestlimitModel" "low" "J") (List.mem_of_getElem? (i := 8) rfl)) (fun _ h9 => h9) rfl dX8_replaces_227 ?_
          refine g_last (k := k) (x := lw ((25 * jo) + p)) hx hb hK.1 hP hD hS 19 1 rfl rfl (by omega) (by decide) dX8_replaces_230 (fun H locs hP hD hS => ?_)
          have hP : va_P D vwCl (wM y h q tw pn ki on ot ab be zA zB zC zD zF zT fo lw hg at_ tl th (upZ wo1 k (fo ((25 * jo) + p))) (vp_updL wl1 k (lw ((25 * jo) + p))) wh1 (fo ((25 * jo) + p)) (lw ((25 * jo) + p)) (hg ((25 * jo) + p)) di su an) H := hP
          have hD : va_D A (wM y h q tw pn ki on ot ab be zA zB zC zD zF zT fo lw hg at_ tl th (upZ wo1 k (fo ((25 * jo) + p))) (vp_updL wl1 k (lw ((25 * jo) + p))) wh1 (fo ((25 * jo) + p)) (lw ((25 * jo) + p)) (hg ((25 * jo) + p)) di su an) := hD
          refine lv_aload_n hx hb dX8_replaces_231 rfl (lv_at hl 2 rfl) ?_
          refine va_get (D := D) (ci := 6) (v := .ref (q 21)) (C := RX8) (T := TX8) (N := 28) hx hb hts in_X8_replaces_X8 hown hK.1 hP 0 rfl rfl 21 (by decide) (hts (.fieldLink RX8 69 "NestlimitModel" "wouldHigh" "[J") (List.mem_of_getElem? (i := 12) rfl)) (fun _ h9 => h9) rfl dX8_replaces_232 ?_
          refine lv_iload hx hb dX8_replaces_235 (lv_at hl 6 rfl) ?_
          refine lv_aload_n hx hb dX8_replaces_237 rfl (lv_at hl 2 rfl) ?_
          refine va_get (D := D) (ci := 6) (v := .long (hg ((25 * jo) + p))) (C := RX8) (T := TX8) (N := 28) hx hb hts in_X8_replaces_X8 hown hK.1 hP 0 rfl rfl 24 (by decide) (hts (.fieldLink RX8 100 "NestlimitModel" "high" "J") (List.mem_of_getElem? (i := 10) rfl)) (fun _ h9 => h9) rfl dX8_replaces_238 ?_
          refine g_last (k := k) (x := hg ((25 * jo) + p)) hx hb hK.1 hP hD hS 20 1 rfl rfl (by omega) (by decide) dX8_replaces_241 (fun H locs hP hD hS => ?_)
          have hP : va_P D vwCl (wM y h q tw pn ki on ot ab be zA zB zC zD zF zT fo lw hg at_ tl th (upZ wo1 k (fo ((25 * jo) + p))) (vp_updL wl1 k (lw ((25 * jo) + p))) (vp_updL wh1 k (hg ((25 * jo) + p))) (fo ((25 * jo) + p)) (lw ((25 * jo) + p)) (hg ((25 * jo) + p)) di su an) H := hP
          have hD : va_D A (wM y h q tw pn ki on ot ab be zA zB zC zD zF zT fo lw hg at_ tl th (upZ wo1 k (fo ((25 * jo) + p))) (vp_updL wl1 k (lw ((25 * jo) + p))) (vp_updL wh1 k (hg ((25 * jo) + p))) (fo ((25 * jo) + p)) (lw ((25 * jo) + p)) (hg ((25 * jo) + p)) di su an) := hD
          refine lv_iinc (v := nI (k + 1)) (lv' := [(4, .int (nI (k + 1))), (6, .int (nI k)), (5, .int (nI k)), (0, .ref h), (1, .int (nI g)), (2, .int (nI jo)), (3, .int (nI p))]) hx hb dX8_replaces_242 hl (k := 6) rfl (nI_add k 1) (by decide) rfl (fun ls hl => ?_)
          refine lv_goto (tgt := 3) hx hb dX8_replaces_245 (by decide) ?_
          exact ih3 (k + 1) (upZ wo1 k (fo ((25 * jo) + p))) (vp_updL wl1 k (lw ((25 * jo) + p))) (vp_updL wh1 k (hg ((25 * jo) + p))) (fo ((25 * jo) + p)) (lw ((25 * jo) + p)) (hg ((25 * jo) + p)) (by omega) (rp_d hd (by have e9 := nIinj (by omega) (by omega) c_116; subst e9; exact hgw.1.symm) (by have e9 := nIinj (by omega) (by omega) c_116; subst e9; intro z9; obtain ⟨z1, z2⟩ := hgw.2 z9; exact ⟨z1.symm, z2.symm⟩)) _ _ hP hD hS ls (lv_sub hl [3, 4, 5, 6, 0] rfl)
      · skip
        obtain ⟨u1, v1⟩ := hd o1 ho1
        refine lv_iload hx hb dX8_replaces_3 (lv_at hl 4 rfl) ?_
        refine lv_aload_n hx hb dX8_replaces_5 rfl (lv_at hl 0 rfl) ?_
        refine va_get (D := D) (ci := 6) (v := .int (nI pn)) (C := RX8) (T := TX8) (N := 28) hx hb hts in_X8_replaces_X8 hown hK.1 hP 0 rfl rfl 1 (by decide) (hts (.fieldLink RX8 85 "NestlimitModel" "programs" "I") (List.mem_of_getElem? (i := 1) rfl)) (fun _ h9 => h9) rfl dX8_replaces_6 ?_
        refine lv_icmp_ge (tgt := 248) hx hb dX8_replaces_9 (by decide) (fun c_9 => absurd c_9 (nI_ge (by omega) (by omega))) (fun c_9 => ?_)
        refine lv_aload_n hx hb dX8_replaces_12 rfl (lv_at hl 0 rfl) ?_
        refine va_get (D := D) (ci := 6) (v := .ref (q 3)) (C := RX8) (T := TX8) (N := 28) hx hb hts in_X8_replaces_X8 hown hK.1 hP 0 rfl rfl 3 (by decide) (hts (.fieldLink RX8 13 "NestlimitModel" "ones" "[I") (List.mem_of_getElem? (i := 2) rfl)) (fun _ h9 => h9) rfl dX8_replaces_13 ?_
        refine lv_iload hx hb dX8_replaces_16 (lv_at hl 4 rfl) ?_
        refine g_iald (k := k) hx hb hK.1 hP 2 0 rfl rfl (by omega) (by decide) dX8_replaces_18 ?_
        refine lv_iconst (v := -1) hx hb dX8_replaces_19 (by decide) ?_
        refine lv_icmp_ne (tgt := 28) hx hb dX8_replaces_20 (by decide) (fun c_20 => ?_) (fun c_20 => absurd c_20 (g_nm1 hon (by omega)))
        refine lv_aload_n hx hb dX8_replaces_28 rfl (lv_at hl 0 rfl) ?_
        refine va_get (D := D) (ci := 6) (v := .ref (q 3)) (C := RX8) (T := TX8) (N := 28) hx hb hts in_X8_replaces_X8 hown hK.1 hP 0 rfl rfl 3 (by decide) (hts (.fieldLink RX8 13 "NestlimitModel" "ones" "[I") (List.mem_of_getElem? (i := 2) rfl)) (fun _ h9 => h9) rfl dX8_replaces_29 ?_
        refine lv_iload hx hb dX8_replaces_32 (lv_at hl 4 rfl) ?_
        refine g_iald (k := k) hx hb hK.1 hP 2 0 rfl rfl (by omega) (by decide) dX8_replaces_34 ?_
        refine g_topi (y := nI o1) (hon) ?_
        refine lv_istore (lv' := [(5, .int (nI o1)), (0, .ref h), (1, .int (nI g)), (2, .int (nI jo)), (3, .int (nI p)), (4, .int (nI k))]) hx hb dX8_replaces_35 hl (by decide) rfl (fun ls hl => ?_)
        refine lv_aload_n hx hb dX8_replaces_37 rfl (lv_at hl 1 rfl) ?_
        refine va_get (D := D) (ci := 6) (v := .ref (q 4)) (C := RX8) (T := TX8) (N := 28) hx hb hts in_X8_replaces_X8 hown hK.1 hP 0 rfl rfl 4 (by decide) (hts (.fieldLink RX8 16 "NestlimitModel" "others" "[I") (List.mem_of_getElem? (i := 3) rfl)) (fun _ h9 => h9) rfl dX8_replaces_38 ?_
        refine lv_iload hx hb dX8_replaces_41 (lv_at hl 5 rfl) ?_
        refine g_iald (k := k) hx hb hK.1 hP 3 0 rfl rfl (by omega) (by decide) dX8_replaces_43 ?_
        refine lv_iconst (v := -1) hx hb dX8_replaces_44 (by decide) ?_
        refine lv_icmp_ne (tgt := 53) hx hb dX8_replaces_45 (by decide) (fun c_45 => absurd hot c_45) (fun c_45 => ?_)
        refine lv_iload hx hb dX8_replaces_48 (lv_at hl 5 rfl) ?_
        refine lv_goto (tgt := 60) hx hb dX8_replaces_50 (by decide) ?_
        refine lv_istore (lv' := [(6, .int (nI k)), (5, .int (nI o1)), (0, .ref h), (1, .int (nI g)), (2, .int (nI jo)), (3, .int (nI p)), (4, .int (nI k))]) hx hb dX8_replaces_60 hl (by decide) rfl (fun ls hl => ?_)
        refine lv_aload_n hx hb dX8_replaces_62 rfl (lv_at hl 2 rfl) ?_
        refine lv_aload_n hx hb dX8_replaces_63 rfl (lv_at hl 2 rfl) ?_
        refine va_get (D := D) (ci := 6) (v := .ref (q 3)) (C := RX8) (T := TX8) (N := 28) hx hb hts in_X8_replaces_X8 hown hK.1 hP 0 rfl rfl 3 (by decide) (hts (.fieldLink RX8 13 "NestlimitModel" "ones" "[I") (List.mem_of_getElem? (i := 2) rfl)) (fun _ h9 => h9) rfl dX8_replaces_64 ?_
        refine lv_iload hx hb dX8_replaces_67 (lv_at hl 6 rfl) ?_
        refine g_iald (k := k) hx hb hK.1 hP 2 0 rfl rfl (by omega) (by decide) dX8_replaces_69 ?_
        refine lv_iconst (v := -1) hx hb dX8_replaces_70 (by decide) ?_
        refine lv_icmp_eq (tgt := 84) hx hb dX8_replaces_71 (by decide) (fun c_71 => absurd c_71 (g_nm1 hon (by omega))) (fun c_71 => ?_)
        refine lv_aload_n hx hb dX8_replaces_74 rfl (lv_at hl 2 rfl) ?_
        refine va_get (D := D) (ci := 6) (v := .ref (q 19)) (C := RX8) (T := TX8) (N := 28) hx hb hts in_X8_replaces_X8 hown hK.1 hP 0 rfl rfl 19 (by decide) (hts (.fieldLink RX8 63 "NestlimitModel" "would" "[Z") (List.mem_of_getElem? (i := 4) rfl)) (fun _ h9 => h9) rfl dX8_replaces_75 ?_
        refine lv_iload hx hb dX8_replaces_78 (lv_at hl 1 rfl) ?_
        refine g_zald (k := o1) hx hb hK.1 hP 18 2 rfl rfl (by omega) (by decide) dX8_replaces_80 ?_
        refine g_beq (tgt := 109) hx hb dX8_replaces_81 (by decide) (fun c_81 => ?_) (fun c_81 => ?_)
        · skip
          refine lv_iconst (v := 0) hx hb dX8_replaces_109 (by decide) ?_
          refine va_put (D := D) (ci := 6) (v := .int (gB false)) (ty := .boolean) (C := RX8) (T := TX8) (N := 28) hx hb hts in_X8_replaces_X8 tyX8 tyX8_ok nmX8 hown hK.1 hP hD hS 0 rfl rfl 22 (by decide) (hts (.fieldLink RX8 92 "NestlimitModel" "is" "Z") (List.mem_of_getElem? (i := 5) rfl)) (fun _ h9 => h9) rfl (by decide +kernel) (gB_n _) (gB_f _) (Nat.le_of_ble_eq_true rfl) dX8_replaces_110 (fun H locs hP hD hS => ?_)
          have hP : va_P D vwCl (wM y h q tw pn ki on ot ab be zA zB zC zD zF zT fo lw hg at_ tl th wo1 wl1 wh1 false lo1 hi1 di su an) H := hP
          have hD : va_D A (wM y h q tw pn ki on ot ab be zA zB zC zD zF zT fo lw hg at_ tl th wo1 wl1 wh1 false lo1 hi1 di su an) := hD
          refine lv_iload hx hb dX8_replaces_113 (lv_at hl 6 rfl) ?_
          refine lv_iload_n hx hb dX8_replaces_115 rfl (lv_at hl 3 rfl) ?_
          refine lv_icmp_ne (tgt := 167) hx hb dX8_replaces_116 (by decide) (fun c_116 => ?_) (fun c_116 => ?_)
          · skip
            refine lv_aload_n hx hb dX8_replaces_167 rfl (lv_at hl 2 rfl) ?_
            refine va_get (D := D) (ci := 6) (v := .int (gB false)) (C := RX8) (T := TX8) (N := 28) hx hb hts in_X8_replaces_X8 hown hK.1 hP 0 rfl rfl 22 (by decide) (hts (.fieldLink RX8 92 "NestlimitModel" "is" "Z") (List.mem_of_getElem? (i := 5) rfl)) (fun _ h9 => h9) rfl dX8_replaces_168 ?_
            refine g_beq (tgt := 209) hx hb dX8_replaces_171 (by decide) (fun c_171 => ?_) (fun c_171 => absurd c_171 (by decide))
            refine lv_aload_n hx hb dX8_replaces_209 rfl (lv_at hl 2 rfl) ?_
            refine va_get (D := D) (ci := 6) (v := .ref (q 19)) (C := RX8) (T := TX8) (N := 28) hx hb hts in_X8_replaces_X8 hown hK.1 hP 0 rfl rfl 19 (by decide) (hts (.fieldLink RX8 63 "NestlimitModel" "would" "[Z") (List.mem_of_getElem? (i := 4) rfl)) (fun _ h9 => h9) rfl dX8_replaces_210 ?_
            refine lv_iload hx hb dX8_replaces_213 (lv_at hl 6 rfl) ?_
            refine lv_aload_n hx hb dX8_replaces_215 rfl (lv_at hl 2 rfl) ?_
            refine va_get (D := D) (ci := 6) (v := .int (gB false)) (C := RX8) (T := TX8) (N := 28) hx hb hts in_X8_replaces_X8 hown hK.1 hP 0 rfl rfl 22 (by decide) (hts (.fieldLink RX8 92 "NestlimitModel" "is" "Z") (List.mem_of_getElem? (i := 5) rfl)) (fun _ h9 => h9) rfl dX8_replaces_216 ?_
            refine g_zast (k := k) (x := false) hx hb hK.1 hP hD hS 18 2 rfl rfl (by omega) (by decide) dX8_replaces_219 (fun H locs hP hD hS => ?_)
            have hP : va_P D vwCl (wM y h q tw pn ki on ot ab be zA zB zC zD zF zT fo lw hg at_ tl th (upZ wo1 k false) wl1 wh1 false lo1 hi1 di su an) H := hP
            have hD : va_D A (wM y h q tw pn ki on ot ab be zA zB zC zD zF zT fo lw hg at_ tl th (upZ wo1 k false) wl1 wh1 false lo1 hi1 di su an) := hD
            refine lv_aload_n hx hb dX8_replaces_220 rfl (lv_at hl 2 rfl) ?_
            refine va_get (D := D) (ci := 6) (v := .ref (q 20)) (C := RX8) (T := TX8) (N := 28) hx hb hts in_X8_replaces_X8 hown hK.1 hP 0 rfl rfl 20 (by decide) (hts (.fieldLink RX8 66 "NestlimitModel" "wouldLow" "[J") (List.mem_of_getElem? (i := 11) rfl)) (fun _ h9 => h9) rfl dX8_replaces_221 ?_
            refine lv_iload hx hb dX8_replaces_224 (lv_at hl 6 rfl) ?_
            refine lv_aload_n hx hb dX8_replaces_226 rfl (lv_at hl 2 rfl) ?_
            refine va_get (D := D) (ci := 6) (v := .long lo1) (C := RX8) (T := TX8) (N := 28) hx hb hts in_X8_replaces_X8 hown hK.1 hP 0 rfl rfl 23 (by decide) (hts (.fieldLink RX8 96 "NestlimitModel" "low" "J") (List.mem_of_getElem? (i := 8) rfl)) (fun _ h9 => h9) rfl dX8_replaces_227 ?_
            refine g_last (k := k) (x := lo1) hx hb hK.1 hP hD hS 19 1 rfl rfl (by omega) (by decide) dX8_replaces_230 (fun H locs hP hD hS => ?_)
            have hP : va_P D vwCl (wM y h q tw pn ki on ot ab be zA zB zC zD zF zT fo lw hg at_ tl th (upZ wo1 k false) (vp_updL wl1 k lo1) wh1 false lo1 hi1 di su an) H := hP
            have hD : va_D A (wM y h q tw pn ki on ot ab be zA zB zC zD zF zT fo lw hg at_ tl th (upZ wo1 k false) (vp_updL wl1 k lo1) wh1 false lo1 hi1 di su an) := hD
            refine lv_aload_n hx hb dX8_replaces_231 rfl (lv_at hl 2 rfl) ?_
            refine va_get (D := D) (ci := 6) (v := .ref (q 21)) (C := RX8) (T := TX8) (N := 28) hx hb hts in_X8_replaces_X8 hown hK.1 hP 0 rfl rfl 21 (by decide) (hts (.fieldLink RX8 69 "NestlimitModel" "wouldHigh" "[J") (List.mem_of_getElem? (i := 12) rfl)) (fun _ h9 => h9) rfl dX8_replaces_232 ?_
            refine lv_iload hx hb dX8_replaces_235 (lv_at hl 6 rfl) ?_
            refine lv_aload_n hx hb dX8_replaces_237 rfl (lv_at hl 2 rfl) ?_
            refine va_get (D := D) (ci := 6) (v := .long hi1) (C := RX8) (T := TX8) (N := 28) hx hb hts in_X8_replaces_X8 hown hK.1 hP 0 rfl rfl 24 (by decide) (hts (.fieldLink RX8 100 "NestlimitModel" "high" "J") (List.mem_of_getElem? (i := 10) rfl)) (fun _ h9 => h9) rfl dX8_replaces_238 ?_
            refine g_last (k := k) (x := hi1) hx hb hK.1 hP hD hS 20 1 rfl rfl (by omega) (by decide) dX8_replaces_241 (fun H locs hP hD hS => ?_)
            have hP : va_P D vwCl (wM y h q tw pn ki on ot ab be zA zB zC zD zF zT fo lw hg at_ tl th (upZ wo1 k false) (vp_updL wl1 k lo1) (vp_updL wh1 k hi1) false lo1 hi1 di su an) H := hP
            have hD : va_D A (wM y h q tw pn ki on ot ab be zA zB zC zD zF zT fo lw hg at_ tl th (upZ wo1 k false) (vp_updL wl1 k lo1) (vp_updL wh1 k hi1) false lo1 hi1 di su an) := hD
            refine lv_iinc (v := nI (k + 1)) (lv' := [(4, .int (nI (k + 1))), (6, .int (nI k)), (5, .int (nI o1)), (0, .ref h), (1, .int (nI g)), (2, .int (nI jo)), (3, .int (nI p))]) hx hb dX8_replaces_242 hl (k := 6) rfl (nI_add k 1) (by decide) rfl (fun ls hl => ?_)
            refine lv_goto (tgt := 3) hx hb dX8_replaces_245 (by decide) ?_
            exact ih3 (k + 1) (upZ wo1 k false) (vp_updL wl1 k lo1) (vp_updL wh1 k hi1) false lo1 hi1 (by omega) (rp_d hd ((hc (fun z9 => c_116 (by rw [z9]))).2 (by rw [← u1]; exact c_81)).symm (fun z9 => by rw [(hc (fun z9 => c_116 (by rw [z9]))).2 (by rw [← u1]; exact c_81)] at z9; exact absurd z9 (by decide))) _ _ hP hD hS ls (lv_sub hl [3, 4, 5, 6, 0] rfl)
          · skip
            refine lv_aload_n hx hb dX8_replaces_119 rfl (lv_at hl 2 rfl) ?_
            refine lv_aload_n hx hb dX8_replaces_120 rfl (lv_at hl 2 rfl) ?_
            refine va_get (D := D) (ci := 6) (v := .ref (q 13)) (C := RX8) (T := TX8) (N := 28) hx hb hts in_X8_replaces_X8 hown hK.1 hP 0 rfl rfl 13 (by decide) (hts (.fieldLink RX8 43 "NestlimitModel" "found" "[Z") (List.mem_of_getElem? (i := 6) rfl)) (fun _ h9 => h9) rfl dX8_replaces_121 ?_
            refine lv_bipush (v := 25) hx hb dX8_replaces_124 (by decide) ?_
            refine lv_iload_n hx hb dX8_replaces_126 rfl (lv_at hl 4 rfl) ?_
            refine lv_imul hx hb dX8_replaces_127 ?_
            refine g_topi (pk_mul 25 jo) ?_
            refine lv_iload_n hx hb dX8_replaces_128 rfl (lv_at hl 5 rfl) ?_
            refine lv_iadd hx hb dX8_replaces_129 ?_
            refine g_topi (nI_add (25 * jo) p) ?_
            refine g_zald (k := (25 * jo) + p) hx hb hK.1 hP 12 2 rfl rfl (by omega) (by decide) dX8_replaces_130 ?_
            refine va_put (D := D) (ci := 6) (v := .int (gB (fo ((25 * jo) + p)))) (ty := .boolean) (C := RX8) (T := TX8) (N := 28) hx hb hts in_X8_replaces_X8 tyX8 tyX8_ok nmX8 hown hK.1 hP hD hS 0 rfl rfl 22 (by decide) (hts (.fieldLink RX8 92 "NestlimitModel" "is" "Z") (List.mem_of_getElem? (i := 5) rfl)) (fun _ h9 => h9) rfl (by decide +kernel) (gB_n _) (gB_f _) (Nat.le_of_ble_eq_true rfl) dX8_replaces_131 (fun H locs hP hD hS => ?_)
            have hP : va_P D vwCl (wM y h q tw pn ki on ot ab be zA zB zC zD zF zT fo lw hg at_ tl th wo1 wl1 wh1 (fo ((25 * jo) + p)) lo1 hi1 di su an) H := hP
            have hD : va_D A (wM y h q tw pn ki on ot ab be zA zB zC zD zF zT fo lw hg at_ tl th wo1 wl1 wh1 (fo ((25 * jo) + p)) lo1 hi1 di su an) := hD
            refine lv_aload_n hx hb dX8_replaces_134 rfl (lv_at hl 2 rfl) ?_
            refine lv_aload_n hx hb dX8_replaces_135 rfl (lv_at hl 2 rfl) ?_
            refine va_get (D := D) (ci := 6) (v := .ref (q 14)) (C := RX8) (T := TX8) (N := 28) hx hb hts in_X8_replaces_X8 hown hK.1 hP 0 rfl rfl 14 (by decide) (hts (.fieldLink RX8 47 "NestlimitModel" "lows" "[J") (List.mem_of_getElem? (i := 7) rfl)) (fun _ h9 => h9) rfl dX8_replaces_136 ?_
            refine lv_bipush (v := 25) hx hb dX8_replaces_139 (by decide) ?_
            refine lv_iload_n hx hb dX8_replaces_141 rfl (lv_at hl 4 rfl) ?_
            refine lv_imul hx hb dX8_replaces_142 ?_
            refine g_topi (pk_mul 25 jo) ?_
            refine lv_iload_n hx hb dX8_replaces_143 rfl (lv_at hl 5 rfl) ?_
            refine lv_iadd hx hb dX8_replaces_144 ?_
            refine g_topi (nI_add (25 * jo) p) ?_
            refine g_lald (k := (25 * jo) + p) hx hb hK.1 hP 13 1 rfl rfl (by omega) (by decide) dX8_replaces_145 ?_
            refine va_put (D := D) (ci := 6) (v := .long (lw ((25 * jo) + p))) (ty := .long) (C := RX8) (T := TX8) (N := 28) hx hb hts in_X8_replaces_X8 tyX8 tyX8_ok nmX8 hown hK.1 hP hD hS 0 rfl rfl 23 (by decide) (hts (.fieldLink RX8 96 "NestlimitModel" "low" "J") (List.mem_of_getElem? (i := 8) rfl)) (fun _ h9 => h9) rfl (by decide +kernel) (rfl) (rfl) (Nat.le_of_ble_eq_true rfl) dX8_replaces_146 (fun H locs hP hD hS => ?_)
            have hP : va_P D vwCl (wM y h q tw pn ki on ot ab be zA zB zC zD zF zT fo lw hg at_ tl th wo1 wl1 wh1 (fo ((25 * jo) + p)) (lw ((25 * jo) + p)) hi1 di su an) H := hP
            have hD : va_D A (wM y h q tw pn ki on ot ab be zA zB zC zD zF zT fo lw hg at_ tl th wo1 wl1 wh1 (fo ((25 * jo) + p)) (lw ((25 * jo) + p)) hi1 di su an) := hD
            refine lv_aload_n hx hb dX8_replaces_149 rfl (lv_at hl 2 rfl) ?_
            refine lv_aload_n hx hb dX8_replaces_150 rfl (lv_at hl 2 rfl) ?_
            refine va_get (D := D) (ci := 6) (v := .ref (q 15)) (C := RX8) (T := TX8) (N := 28) hx hb hts in_X8_replaces_X8 hown hK.1 hP 0 rfl rfl 15 (by decide) (hts (.fieldLink RX8 51 "NestlimitModel" "highs" "[J") (List.mem_of_getElem? (i := 9) rfl)) (fun _ h9 => h9) rfl dX8_replaces_151 ?_
            refine lv_bipush (v := 25) hx hb dX8_replaces_154 (by decide) ?_
            refine lv_iload_n hx hb dX8_replaces_156 rfl (lv_at hl 4 rfl) ?_
            refine lv_imul hx hb dX8_replaces_157 ?_
            refine g_topi (pk_mul 25 jo) ?_
            refine lv_iload_n hx hb dX8_replaces_158 rfl (lv_at hl 5 rfl) ?_
            refine lv_iadd hx hb dX8_replaces_159 ?_
            refine g_topi (nI_add (25 * jo) p) ?_
            refine g_lald (k := (25 * jo) + p) hx hb hK.1 hP 14 1 rfl rfl (by omega) (by decide) dX8_replaces_160 ?_
            refine va_put (D := D) (ci := 6) (v := .long (hg ((25 * jo) + p))) (ty := .long) (C := RX8) (T := TX8) (N := 28) hx hb hts in_X8_replaces_X8 tyX8 tyX8_ok nmX8 hown hK.1 hP hD hS 0 rfl rfl 24 (by decide) (hts (.fieldLink RX8 100 "NestlimitModel" "high" "J") (List.mem_of_getElem? (i := 10) rfl)) (fun _ h9 => h9) rfl (by decide +kernel) (rfl) (rfl) (Nat.le_of_ble_eq_true rfl) dX8_replaces_161 (fun H locs hP hD hS => ?_)
            have hP : va_P D vwCl (wM y h q tw pn ki on ot ab be zA zB zC zD zF zT fo lw hg at_ tl th wo1 wl1 wh1 (fo ((25 * jo) + p)) (lw ((25 * jo) + p)) (hg ((25 * jo) + p)) di su an) H := hP
            have hD : va_D A (wM y h q tw pn ki on ot ab be zA zB zC zD zF zT fo lw hg at_ tl th wo1 wl1 wh1 (fo ((25 * jo) + p)) (lw ((25 * jo) + p)) (hg ((25 * jo) + p)) di su an) := hD
            refine lv_goto (tgt := 209) hx hb dX8_replaces_164 (by decide) ?_
            refine lv_aload_n hx hb dX8_replaces_209 rfl (lv_at hl 2 rfl) ?_
            refine va_get (D := D) (ci := 6) (v := .ref (q 19)) (C := RX8) (T := TX8) (N := 28) hx hb hts in_X8_replaces_X8 hown hK.1 hP 0 rfl rfl 19 (by decide) (hts (.fieldLink RX8 63 "NestlimitModel" "would" "[Z") (List.mem_of_getElem? (i := 4) rfl)) (fun _ h9 => h9) rfl dX8_replaces_210 ?_
            refine lv_iload hx hb dX8_replaces_213 (lv_at hl 6 rfl) ?_
            refine lv_aload_n hx hb dX8_replaces_215 rfl (lv_at hl 2 rfl) ?_
            refine va_get (D := D) (ci := 6) (v := .int (gB (fo ((25 * jo) + p)))) (C := RX8) (T := TX8) (N := 28) hx hb hts in_X8_replaces_X8 hown hK.1 hP 0 rfl rfl 22 (by decide) (hts (.fieldLink RX8 92 "NestlimitModel" "is" "Z") (List.mem_of_getElem? (i := 5) rfl)) (fun _ h9 => h9) rfl dX8_replaces_216 ?_
            refine g_zast (k := k) (x := fo ((25 * jo) + p)) hx hb hK.1 hP hD hS 18 2 rfl rfl (by omega) (by decide) dX8_replaces_219 (fun H locs hP hD hS => ?_)
            have hP : va_P D vwCl (wM y h q tw pn ki on ot ab be zA zB zC zD zF zT fo lw hg at_ tl th (upZ wo1 k (fo ((25 * jo) + p))) wl1 wh1 (fo ((25 * jo) + p)) (lw ((25 * jo) + p)) (hg ((25 * jo) + p)) di su an) H := hP
            have hD : va_D A (wM y h q tw pn ki on ot ab be zA zB zC zD zF zT fo lw hg at_ tl th (upZ wo1 k (fo ((25 * jo) + p))) wl1 wh1 (fo ((25 * jo) + p)) (lw ((25 * jo) + p)) (hg ((25 * jo) + p)) di su an) := hD
            refine lv_aload_n hx hb dX8_replaces_220 rfl (lv_at hl 2 rfl) ?_
            refine va_get (D := D) (ci := 6) (v := .ref (q 20)) (C := RX8) (T := TX8) (N := 28) hx hb hts in_X8_replaces_X8 hown hK.1 hP 0 rfl rfl 20 (by decide) (hts (.fieldLink RX8 66 "NestlimitModel" "wouldLow" "[J") (List.mem_of_getElem? (i := 11) rfl)) (fun _ h9 => h9) rfl dX8_replaces_221 ?_
            refine lv_iload hx hb dX8_replaces_224 (lv_at hl 6 rfl) ?_
            refine lv_aload_n hx hb dX8_replaces_226 rfl (lv_at hl 2 rfl) ?_
            refine va_get (D := D) (ci := 6) (v := .long (lw ((25 * jo) + p))) (C := RX8) (T := TX8) (N := 28) hx hb hts in_X8_replaces_X8 hown hK.1 hP 0 rfl rfl 23 (by decide) (hts (.fieldLink RX8 96 "NestlimitModel" "low" "J") (List.mem_of_getElem? (i := 8) rfl)) (fun _ h9 => h9) rfl dX8_replaces_227 ?_
            refine g_last (k := k) (x := lw ((25 * jo) + p)) hx hb hK.1 hP hD hS 19 1 rfl rfl (by omega) (by decide) dX8_replaces_230 (fun H locs hP hD hS => ?_)
            have hP : va_P D vwCl (wM y h q tw pn ki on ot ab be zA zB zC zD zF zT fo lw hg at_ tl th (upZ wo1 k (fo ((25 * jo) + p))) (vp_updL wl1 k (lw ((25 * jo) + p))) wh1 (fo ((25 * jo) + p)) (lw ((25 * jo) + p)) (hg ((25 * jo) + p)) di su an) H := hP
            have hD : va_D A (wM y h q tw pn ki on ot ab be zA zB zC zD zF zT fo lw hg at_ tl th (upZ wo1 k (fo ((25 * jo) + p))) (vp_updL wl1 k (lw ((25 * jo) + p))) wh1 (fo ((25 * jo) + p)) (lw ((25 * jo) + p)) (hg ((25 * jo) + p)) di su an) := hD
            refine lv_aload_n hx hb dX8_replaces_231 rfl (lv_at hl 2 rfl) ?_
            refine va_get (D := D) (ci := 6) (v := .ref (q 21)) (C := RX8) (T := TX8) (N := 28) hx hb hts in_X8_replaces_X8 hown hK.1 hP 0 rfl rfl 21 (by decide) (hts (.fieldLink RX8 69 "NestlimitModel" "wouldHigh" "[J") (List.mem_of_getElem? (i := 12) rfl)) (fun _ h9 => h9) rfl dX8_replaces_232 ?_
            refine lv_iload hx hb dX8_replaces_235 (lv_at hl 6 rfl) ?_
            refine lv_aload_n hx hb dX8_replaces_237 rfl (lv_at hl 2 rfl) ?_
            refine va_get (D := D) (ci := 6) (v := .long (hg ((25 * jo) + p))) (C := RX8) (T := TX8) (N := 28) hx hb hts in_X8_replaces_X8 hown hK.1 hP 0 rfl rfl 24 (by decide) (hts (.fieldLink RX8 100 "NestlimitModel" "high" "J") (List.mem_of_getElem? (i := 10) rfl)) (fun _ h9 => h9) rfl dX8_replaces_238 ?_
            refine g_last (k := k) (x := hg ((25 * jo) + p)) hx hb hK.1 hP hD hS 20 1 rfl rfl (by omega) (by decide) dX8_replaces_241 (fun H locs hP hD hS => ?_)
            have hP : va_P D vwCl (wM y h q tw pn ki on ot ab be zA zB zC zD zF zT fo lw hg at_ tl th (upZ wo1 k (fo ((25 * jo) + p))) (vp_updL wl1 k (lw ((25 * jo) + p))) (vp_updL wh1 k (hg ((25 * jo) + p))) (fo ((25 * jo) + p)) (lw ((25 * jo) + p)) (hg ((25 * jo) + p)) di su an) H := hP
            have hD : va_D A (wM y h q tw pn ki on ot ab be zA zB zC zD zF zT fo lw hg at_ tl th (upZ wo1 k (fo ((25 * jo) + p))) (vp_updL wl1 k (lw ((25 * jo) + p))) (vp_updL wh1 k (hg ((25 * jo) + p))) (fo ((25 * jo) + p)) (lw ((25 * jo) + p)) (hg ((25 * jo) + p)) di su an) := hD
            refine lv_iinc (v := nI (k + 1)) (lv' := [(4, .int (nI (k + 1))), (6, .int (nI k)), (5, .int (nI o1)), (0, .ref h), (1, .int (nI g)), (2, .int (nI jo)), (3, .int (nI p))]) hx hb dX8_replaces_242 hl (k := 6) rfl (nI_add k 1) (by decide) rfl (fun ls hl => ?_)
            refine lv_goto (tgt := 3) hx hb dX8_replaces_245 (by decide) ?_
            exact ih3 (k + 1) (upZ wo1 k (fo ((25 * jo) + p))) (vp_updL wl1 k (lw ((25 * jo) + p))) (vp_updL wh1 k (hg ((25 * jo) + p))) (fo ((25 * jo) + p)) (lw ((25 * jo) + p)) (hg ((25 * jo) + p)) (by omega) (rp_d hd (by have e9 := nIinj (by omega) (by omega) c_116; subst e9; exact hgw.1.symm) (by have e9 := nIinj (by omega) (by omega) c_116; subst e9; intro z9; obtain ⟨z1, z2⟩ := hgw.2 z9; exact ⟨z1.symm, z2.symm⟩)) _ _ hP hD hS ls (lv_sub hl [3, 4, 5, 6, 0] rfl)
        · skip
          refine lv_aload_n hx hb dX8_replaces_84 rfl (lv_at hl 2 rfl) ?_
          refine va_get (D := D) (ci := 6) (v := .ref (q 4)) (C := RX8) (T := TX8) (N := 28) hx hb hts in_X8_replaces_X8 hown hK.1 hP 0 rfl rfl 4 (by decide) (hts (.fieldLink RX8 16 "NestlimitModel" "others" "[I") (List.mem_of_getElem? (i := 3) rfl)) (fun _ h9 => h9) rfl dX8_replaces_85 ?_
          refine lv_iload hx hb dX8_replaces_88 (lv_at hl 6 rfl) ?_
          refine g_iald (k := k) hx hb hK.1 hP 3 0 rfl rfl (by omega) (by decide) dX8_replaces_90 ?_
          refine lv_iconst (v := -1) hx hb dX8_replaces_91 (by decide) ?_
          refine lv_icmp_eq (tgt := 105) hx hb dX8_replaces_92 (by decide) (fun c_92 => ?_) (fun c_92 => absurd hot c_92)
          refine lv_iconst (v := 1) hx hb dX8_replaces_105 (by decide) ?_
          refine lv_goto (tgt := 110) hx hb dX8_replaces_106 (by decide) ?_
          refine va_put (D := D) (ci := 6) (v := .int (gB true)) (ty := .boolean) (C := RX8) (T := TX8) (N := 28) hx hb hts in_X8_replaces_X8 tyX8 tyX8_ok nmX8 hown hK.1 hP hD hS 0 rfl rfl 22 (by decide) (hts (.fieldLink RX8 92 "NestlimitModel" "is" "Z") (List.mem_of_getElem? (i := 5) rfl)) (fun _ h9 => h9) rfl (by decide +kernel) (gB_n _) (gB_f _) (Nat.le_of_ble_eq_true rfl) dX8_replaces_110 (fun H locs hP hD hS => ?_)
          have hP : va_P D vwCl (wM y h q tw pn ki on ot ab be zA zB zC zD zF zT fo lw hg at_ tl th wo1 wl1 wh1 true lo1 hi1 di su an) H := hP
          have hD : va_D A (wM y h q tw pn ki on ot ab be zA zB zC zD zF zT fo lw hg at_ tl th wo1 wl1 wh1 true lo1 hi1 di su an) := hD
          refine lv_iload hx hb dX8_replaces_113 (lv_at hl 6 rfl) ?_
          refine lv_iload_n hx hb dX8_replaces_115 rfl (lv_at hl 3 rfl) ?_
          refine lv_icmp_ne (tgt := 167) hx hb dX8_replaces_116 (by decide) (fun c_116 => ?_) (fun c_116 => ?_)
          · skip
            refine lv_aload_n hx hb dX8_replaces_167 rfl (lv_at hl 2 rfl) ?_
            refine va_get (D := D) (ci := 6) (v := .int (gB true)) (C := RX8) (T := TX8) (N := 28) hx hb hts in_X8_replaces_X8 hown hK.1 hP 0 rfl rfl 22 (by decide) (hts (.fieldLink RX8 92 "NestlimitModel" "is" "Z") (List.mem_of_getElem? (i := 5) rfl)) (fun _ h9 => h9) rfl dX8_replaces_168 ?_
            refine g_beq (tgt := 209) hx hb dX8_replaces_171 (by decide) (fun c_171 => absurd c_171 (by decide)) (fun c_171 => ?_)
            obtain ⟨I1, hI1⟩ : ∃ z, z = mk_is kd ab be zA zB zC zD zF zT lo1 hi1 k p (wl1 o1) (wh1 o1) (wl1 k) (wh1 k) := ⟨_, rfl⟩
            obtain ⟨L1, hL1⟩ : ∃ z, z = mk_lo kd ab be zA zB zC zD zF zT lo1 hi1 k p (wl1 o1) (wh1 o1) (wl1 k) (wh1 k) := ⟨_, rfl⟩
            obtain ⟨H1, hH1⟩ : ∃ z, z = mk_hi kd ab be zA zB zC zD zF zT lo1 hi1 k p (wl1 o1) (wh1 o1) (wl1 k) (wh1 k) := ⟨_, rfl⟩
            have w1 : cW o1 = true := by rw [← u1]; exact c_81
            obtain ⟨y1, y2⟩ := v1 w1
            have hc9 := (hc (fun z9 => c_116 (by rw [z9]))).1 w1 (wl1 k) (wh1 k) lo1 hi1
            rw [← y1, ← y2] at hc9
            have hok9 := hc9.1
            rw [← hI1, ← hL1, ← hH1] at hc9
            have hm1 := hc9.2.1
            have hm2 := hc9.2.2
            refine lv_aload_n hx hb dX8_replaces_174 rfl (lv_at hl 2 rfl) ?_
            refine lv_iload hx hb dX8_replaces_175 (lv_at hl 6 rfl) ?_
            refine lv_iload_n hx hb dX8_replaces_177 rfl (lv_at hl 5 rfl) ?_
            refine lv_aload_n hx hb dX8_replaces_178 rfl (lv_at hl 2 rfl) ?_
            refine va_get (D := D) (ci := 6) (v := .ref (q 20)) (C := RX8) (T := TX8) (N := 28) hx hb hts in_X8_replaces_X8 hown hK.1 hP 0 rfl rfl 20 (by decide) (hts (.fieldLink RX8 66 "NestlimitModel" "wouldLow" "[J") (List.mem_of_getElem? (i := 11) rfl)) (fun _ h9 => h9) rfl dX8_replaces_179 ?_
            refine lv_iload hx hb dX8_replaces_182 (lv_at hl 1 rfl) ?_
            refine g_lald (k := o1) hx hb hK.1 hP 19 1 rfl rfl (by omega) (by decide) dX8_replaces_184 ?_
            refine lv_aload_n hx hb dX8_replaces_185 rfl (lv_at hl 2 rfl) ?_
            refine va_get (D := D) (ci := 6) (v := .ref (q 21)) (C := RX8) (T := TX8) (N := 28) hx hb hts in_X8_replaces_X8 hown hK.1 hP 0 rfl rfl 21 (by decide) (hts (.fieldLink RX8 69 "NestlimitModel" "wouldHigh" "[J") (List.mem_of_getElem? (i := 12) rfl)) (fun _ h9 => h9) rfl dX8_replaces_186 ?_
            refine lv_iload hx hb dX8_replaces_189 (lv_at hl 1 rfl) ?_
            refine g_lald (k := o1) hx hb hK.1 hP 20 1 rfl rfl (by omega) (by decide) dX8_replaces_191 ?_
            refine lv_aload_n hx hb dX8_replaces_192 rfl (lv_at hl 2 rfl) ?_
            refine va_get (D := D) (ci := 6) (v := .ref (q 20)) (C := RX8) (T := TX8) (N := 28) hx hb hts in_X8_replaces_X8 hown hK.1 hP 0 rfl rfl 20 (by decide) (hts (.fieldLink RX8 66 "NestlimitModel" "wouldLow" "[J") (List.mem_of_getElem? (i := 11) rfl)) (fun _ h9 => h9) rfl dX8_replaces_193 ?_
            refine lv_iload hx hb dX8_replaces_196 (lv_at hl 0 rfl) ?_
            refine g_lald (k := k) hx hb hK.1 hP 19 1 rfl rfl (by omega) (by decide) dX8_replaces_198 ?_
            refine lv_aload_n hx hb dX8_replaces_199 rfl (lv_at hl 2 rfl) ?_
            refine va_get (D := D) (ci := 6) (v := .ref (q 21)) (C := RX8) (T := TX8) (N := 28) hx hb hts in_X8_replaces_X8 hown hK.1 hP 0 rfl rfl 21 (by decide) (hts (.fieldLink RX8 69 "NestlimitModel" "wouldHigh" "[J") (List.mem_of_getElem? (i := 12) rfl)) (fun _ h9 => h9) rfl dX8_replaces_200 ?_
            refine lv_iload hx hb dX8_replaces_203 (lv_at hl 0 rfl) ?_
            refine g_lald (k := k) hx hb hK.1 hP 20 1 rfl rfl (by omega) (by decide) dX8_replaces_205 ?_
            refine g_callAv (w0 := wM y h q tw pn ki on ot ab be zA zB zC zD zF zT fo lw hg at_ tl th wo1 wl1 wh1 I1 L1 H1 di su an) (va_runV (As := [.int (nI k), .int (nI p), .long (wl1 o1), .long (wh1 o1), .long (wl1 k), .long (wh1 k)]) (rest := []) ⟨hx, hb, hml, hown, hts⟩ (c_X8_makesV l D y H.size h q tw pn ki on ot ab be zA zB zC zD zF zT fo lw hg at_ tl th wo1 wl1 wh1 true lo1 hi1 di su an kd k p (wl1 o1) (wh1 o1) (wl1 k) (wh1 k) I1 L1 H1 (by omega) hp hkd hki hok9 hI1.symm hL1.symm hH1.symm) (cwV 6 hts gX8_replaces_X8_makes rfl rfl rfl (by decide +kernel) ⟨Nat.le_of_ble_eq_true rfl, Nat.le_of_ble_eq_true rfl⟩) (gP_VA hP hD hK 0 rfl rfl) rfl rfl hl.1 rfl (lv_room (Nat.le_of_ble_eq_true rfl)) dX8_replaces_206 ⟨Nat.zero_le _, Nat.zero_le _⟩) hP hD hS hA rfl (fun H locs hP hD hS => ?_)
            refine lv_aload_n hx hb dX8_replaces_209 rfl (lv_at hl 2 rfl) ?_
            refine va_get (D := D) (ci := 6) (v := .ref (q 19)) (C := RX8) (T := TX8) (N := 28) hx hb hts in_X8_replaces_X8 hown hK.1 hP 0 rfl rfl 19 (by decide) (hts (.fieldLink RX8 63 "NestlimitModel" "would" "[Z") (List.mem_of_getElem? (i := 4) rfl)) (fun _ h9 => h9) rfl dX8_replaces_210 ?_
            refine lv_iload hx hb dX8_replaces_213 (lv_at hl 6 rfl) ?_
            refine lv_aload_n hx hb dX8_replaces_215 rfl (lv_at hl 2 rfl) ?_
            refine va_get (D := D) (ci := 6) (v := .int (gB I1)) (C := RX8) (T := TX8) (N := 28) hx hb hts in_X8_replaces_X8 hown hK.1 hP 0 rfl rfl 22 (by decide) (hts (.fieldLink RX8 92 "NestlimitModel" "is" "Z") (List.mem_of_getElem? (i := 5) rfl)) (fun _ h9 => h9) rfl dX8_replaces_216 ?_
            refine g_zast (k := k) (x := I1) hx hb hK.1 hP hD hS 18 2 rfl rfl (by omega) (by decide) dX8_replaces_219 (fun H locs hP hD hS => ?_)
            have hP : va_P D vwCl (wM y h q tw pn ki on ot ab be zA zB zC zD zF zT fo lw hg at_ tl th (upZ wo1 k I1) wl1 wh1 I1 L1 H1 di su an) H := hP
            have hD : va_D A (wM y h q tw pn ki on ot ab be zA zB zC zD zF zT fo lw hg at_ tl th (upZ wo1 k I1) wl1 wh1 I1 L1 H1 di su an) := hD
            refine lv_aload_n hx hb dX8_replaces_220 rfl (lv_at hl 2 rfl) ?_
            refine va_get (D := D) (ci := 6) (v := .ref (q 20)) (C := RX8) (T := TX8) (N := 28) hx hb hts in_X8_replaces_X8 hown hK.1 hP 0 rfl rfl 20 (by decide) (hts (.fieldLink RX8 66 "NestlimitModel" "wouldLow" "[J") (List.mem_of_getElem? (i := 11) rfl)) (fun _ h9 => h9) rfl dX8_replaces_221 ?_
            refine lv_iload hx hb dX8_replaces_224 (lv_at hl 6 rfl) ?_
            refine lv_aload_n hx hb dX8_replaces_226 rfl (lv_at hl 2 rfl) ?_
            refine va_get (D := D) (ci := 6) (v := .long L1) (C := RX8) (T := TX8) (N := 28) hx hb hts in_X8_replaces_X8 hown hK.1 hP 0 rfl rfl 23 (by decide) (hts (.fieldLink RX8 96 "NestlimitModel" "low" "J") (List.mem_of_getElem? (i := 8) rfl)) (fun _ h9 => h9) rfl dX8_replaces_227 ?_
            refine g_last (k := k) (x := L1) hx hb hK.1 hP hD hS 19 1 rfl rfl (by omega) (by decide) dX8_replaces_230 (fun H locs hP hD hS => ?_)
            have hP : va_P D vwCl (wM y h q tw pn ki on ot ab be zA zB zC zD zF zT fo lw hg at_ tl th (upZ wo1 k I1) (vp_updL wl1 k L1) wh1 I1 L1 H1 di su an) H := hP
            have hD : va_D A (wM y h q tw pn ki on ot ab be zA zB zC zD zF zT fo lw hg at_ tl th (upZ wo1 k I1) (vp_updL wl1 k L1) wh1 I1 L1 H1 di su an) := hD
            refine lv_aload_n hx hb dX8_replaces_231 rfl (lv_at hl 2 rfl) ?_
            refine va_get (D := D) (ci := 6) (v := .ref (q 21)) (C := RX8) (T := TX8) (N := 28) hx hb hts in_X8_replaces_X8 hown hK.1 hP 0 rfl rfl 21 (by decide) (hts (.fieldLink RX8 69 "NestlimitModel" "wouldHigh" "[J") (List.mem_of_getElem? (i := 12) rfl)) (fun _ h9 => h9) rfl dX8_replaces_232 ?_
            refine lv_iload hx hb dX8_replaces_235 (lv_at hl 6 rfl) ?_
            refine lv_aload_n hx hb dX8_replaces_237 rfl (lv_at hl 2 rfl) ?_
            refine va_get (D := D) (ci := 6) (v := .long H1) (C := RX8) (T := TX8) (N := 28) hx hb hts in_X8_replaces_X8 hown hK.1 hP 0 rfl rfl 24 (by decide) (hts (.fieldLink RX8 100 "NestlimitModel" "high" "J") (List.mem_of_getElem? (i := 10) rfl)) (fun _ h9 => h9) rfl dX8_replaces_238 ?_
            refine g_last (k := k) (x := H1) hx hb hK.1 hP hD hS 20 1 rfl rfl (by omega) (by decide) dX8_replaces_241 (fun H locs hP hD hS => ?_)
            have hP : va_P D vwCl (wM y h q tw pn ki on ot ab be zA zB zC zD zF zT fo lw hg at_ tl th (upZ wo1 k I1) (vp_updL wl1 k L1) (vp_updL wh1 k H1) I1 L1 H1 di su an) H := hP
            have hD : va_D A (wM y h q tw pn ki on ot ab be zA zB zC zD zF zT fo lw hg at_ tl th (upZ wo1 k I1) (vp_updL wl1 k L1) (vp_updL wh1 k H1) I1 L1 H1 di su an) := hD
            refine lv_iinc (v := nI (k + 1)) (lv' := [(4, .int (nI (k + 1))), (6, .int (nI k)), (5, .int (nI o1)), (0, .ref h), (1, .int (nI g)), (2, .int (nI jo)), (3, .int (nI p))]) hx hb dX8_replaces_242 hl (k := 6) rfl (nI_add k 1) (by decide) rfl (fun ls hl => ?_)
            refine lv_goto (tgt := 3) hx hb dX8_replaces_245 (by decide) ?_
            exact ih3 (k + 1) (upZ wo1 k I1) (vp_updL wl1 k L1) (vp_updL wh1 k H1) I1 L1 H1 (by omega) (rp_d hd hm1 hm2) _ _ hP hD hS ls (lv_sub hl [3, 4, 5, 6, 0] rfl)
          · skip
            refine lv_aload_n hx hb dX8_replaces_119 rfl (lv_at hl 2 rfl) ?_
            refine lv_aload_n hx hb dX8_replaces_120 rfl (lv_at hl 2 rfl) ?_
            refine va_get (D := D) (ci := 6) (v := .ref (q 13)) (C := RX8) (T := TX8) (N := 28) hx hb hts in_X8_replaces_X8 hown hK.1 hP 0 rfl rfl 13 (by decide) (hts (.fieldLink RX8 43 "NestlimitModel" "found" "[Z") (List.mem_of_getElem? (i := 6) rfl)) (fun _ h9 => h9) rfl dX8_replaces_121 ?_
            refine lv_bipush (v := 25) hx hb dX8_replaces_124 (by decide) ?_
            refine lv_iload_n hx hb dX8_replaces_126 rfl (lv_at hl 4 rfl) ?_
            refine lv_imul hx hb dX8_replaces_127 ?_
            refine g_topi (pk_mul 25 jo) ?_
            refine lv_iload_n hx hb dX8_replaces_128 rfl (lv_at hl 5 rfl) ?_
            refine lv_iadd hx hb dX8_replaces_129 ?_
            refine g_topi (nI_add (25 * jo) p) ?_
            refine g_zald (k := (25 * jo) + p) hx hb hK.1 hP 12 2 rfl rfl (by omega) (by decide) dX8_replaces_130 ?_
            refine va_put (D := D) (ci := 6) (v := .int (gB (fo ((25 * jo) + p)))) (ty := .boolean) (C := RX8) (T := TX8) (N := 28) hx hb hts in_X8_replaces_X8 tyX8 tyX8_ok nmX8 hown hK.1 hP hD hS 0 rfl rfl 22 (by decide) (hts (.fieldLink RX8 92 "NestlimitModel" "is" "Z") (List.mem_of_getElem? (i := 5) rfl)) (fun _ h9 => h9) rfl (by decide +kernel) (gB_n _) (gB_f _) (Nat.le_of_ble_eq_true rfl) dX8_replaces_131 (fun H locs hP hD hS => ?_)
            have hP : va_P D vwCl (wM y h q tw pn ki on ot ab be zA zB zC zD zF zT fo lw hg at_ tl th wo1 wl1 wh1 (fo ((25 * jo) + p)) lo1 hi1 di su an) H := hP
            have hD : va_D A (wM y h q tw pn ki on ot ab be zA zB zC zD zF zT fo lw hg at_ tl th wo1 wl1 wh1 (fo ((25 * jo) + p)) lo1 hi1 di su an) := hD
            refine lv_aload_n hx hb dX8_replaces_134 rfl (lv_at hl 2 rfl) ?_
            refine lv_aload_n hx hb dX8_replaces_135 rfl (lv_at hl 2 rfl) ?_
            refine va_get (D := D) (ci := 6) (v := .ref (q 14)) (C := RX8) (T := TX8) (N := 28) hx hb hts in_X8_replaces_X8 hown hK.1 hP 0 rfl rfl 14 (by decide) (hts (.fieldLink RX8 47 "NestlimitModel" "lows" "[J") (List.mem_of_getElem? (i := 7) rfl)) (fun _ h9 => h9) rfl dX8_replaces_136 ?_
            refine lv_bipush (v := 25) hx hb dX8_replaces_139 (by decide) ?_
            refine lv_iload_n hx hb dX8_replaces_141 rfl (lv_at hl 4 rfl) ?_
            refine lv_imul hx hb dX8_replaces_142 ?_
            refine g_topi (pk_mul 25 jo) ?_
            refine lv_iload_n hx hb dX8_replaces_143 rfl (lv_at hl 5 rfl) ?_
            refine lv_iadd hx hb dX8_replaces_144 ?_
            refine g_topi (nI_add (25 * jo) p) ?_
            refine g_lald (k := (25 * jo) + p) hx hb hK.1 hP 13 1 rfl rfl (by omega) (by decide) dX8_replaces_145 ?_
            refine va_put (D := D) (ci := 6) (v := .long (lw ((25 * jo) + p))) (ty := .long) (C := RX8) (T := TX8) (N := 28) hx hb hts in_X8_replaces_X8 tyX8 tyX8_ok nmX8 hown hK.1 hP hD hS 0 rfl rfl 23 (by decide) (hts (.fieldLink RX8 96 "NestlimitModel" "low" "J") (List.mem_of_getElem? (i := 8) rfl)) (fun _ h9 => h9) rfl (by decide +kernel) (rfl) (rfl) (Nat.le_of_ble_eq_true rfl) dX8_replaces_146 (fun H locs hP hD hS => ?_)
            have hP : va_P D vwCl (wM y h q tw pn ki on ot ab be zA zB zC zD zF zT fo lw hg at_ tl th wo1 wl1 wh1 (fo ((25 * jo) + p)) (lw ((25 * jo) + p)) hi1 di su an) H := hP
            have hD : va_D A (wM y h q tw pn ki on ot ab be zA zB zC zD zF zT fo lw hg at_ tl th wo1 wl1 wh1 (fo ((25 * jo) + p)) (lw ((25 * jo) + p)) hi1 di su an) := hD
            refine lv_aload_n hx hb dX8_replaces_149 rfl (lv_at hl 2 rfl) ?_
            refine lv_aload_n hx hb dX8_replaces_150 rfl (lv_at hl 2 rfl) ?_
            refine va_get (D := D) (ci := 6) (v := .ref (q 15)) (C := RX8) (T := TX8) (N := 28) hx hb hts in_X8_replaces_X8 hown hK.1 hP 0 rfl rfl 15 (by decide) (hts (.fieldLink RX8 51 "NestlimitModel" "highs" "[J") (List.mem_of_getElem? (i := 9) rfl)) (fun _ h9 => h9) rfl dX8_replaces_151 ?_
            refine lv_bipush (v := 25) hx hb dX8_replaces_154 (by decide) ?_
            refine lv_iload_n hx hb dX8_replaces_156 rfl (lv_at hl 4 rfl) ?_
            refine lv_imul hx hb dX8_replaces_157 ?_
            refine g_topi (pk_mul 25 jo) ?_
            refine lv_iload_n hx hb dX8_replaces_158 rfl (lv_at hl 5 rfl) ?_
            refine lv_iadd hx hb dX8_replaces_159 ?_
            refine g_topi (nI_add (25 * jo) p) ?_
            refine g_lald (k := (25 * jo) + p) hx hb hK.1 hP 14 1 rfl rfl (by omega) (by decide) dX8_replaces_160 ?_
            refine va_put (D := D) (ci := 6) (v := .long (hg ((25 * jo) + p))) (ty := .long) (C := RX8) (T := TX8) (N := 28) hx hb hts in_X8_replaces_X8 tyX8 tyX8_ok nmX8 hown hK.1 hP hD hS 0 rfl rfl 24 (by decide) (hts (.fieldLink RX8 100 "NestlimitModel" "high" "J") (List.mem_of_getElem? (i := 10) rfl)) (fun _ h9 => h9) rfl (by decide +kernel) (rfl) (rfl) (Nat.le_of_ble_eq_true rfl) dX8_replaces_161 (fun H locs hP hD hS => ?_)
            have hP : va_P D vwCl (wM y h q tw pn ki on ot ab be zA zB zC zD zF zT fo lw hg at_ tl th wo1 wl1 wh1 (fo ((25 * jo) + p)) (lw ((25 * jo) + p)) (hg ((25 * jo) + p)) di su an) H := hP
            have hD : va_D A (wM y h q tw pn ki on ot ab be zA zB zC zD zF zT fo lw hg at_ tl th wo1 wl1 wh1 (fo ((25 * jo) + p)) (lw ((25 * jo) + p)) (hg ((25 * jo) + p)) di su an) := hD
            refine lv_goto (tgt := 209) hx hb dX8_replaces_164 (by decide) ?_
            refine lv_aload_n hx hb dX8_replaces_209 rfl (lv_at hl 2 rfl) ?_
            refine va_get (D := D) (ci := 6) (v := .ref (q 19)) (C := RX8) (T := TX8) (N := 28) hx hb hts in_X8_replaces_X8 hown hK.1 hP 0 rfl rfl 19 (by decide) (hts (.fieldLink RX8 63 "NestlimitModel" "would" "[Z") (List.mem_of_getElem? (i := 4) rfl)) (fun _ h9 => h9) rfl dX8_replaces_210 ?_
            refine lv_iload hx hb dX8_replaces_213 (lv_at hl 6 rfl) ?_
            refine lv_aload_n hx hb dX8_replaces_215 rfl (lv_at hl 2 rfl) ?_
            refine va_get (D := D) (ci := 6) (v := .int (gB (fo ((25 * jo) + p)))) (C := RX8) (T := TX8) (N := 28) hx hb hts in_X8_replaces_X8 hown hK.1 hP 0 rfl rfl 22 (by decide) (hts (.fieldLink RX8 92 "NestlimitModel" "is" "Z") (List.mem_of_getElem? (i := 5) rfl)) (fun _ h9 => h9) rfl dX8_replaces_216 ?_
            refine g_zast (k := k) (x := fo ((25 * jo) + p)) hx hb hK.1 hP hD hS 18 2 rfl rfl (by omega) (by decide) dX8_replaces_219 (fun H locs hP hD hS => ?_)
            have hP : va_P D vwCl (wM y h q tw pn ki on ot ab be zA zB zC zD zF zT fo lw hg at_ tl th (upZ wo1 k (fo ((25 * jo) + p))) wl1 wh1 (fo ((25 * jo) + p)) (lw ((25 * jo) + p)) (hg ((25 * jo) + p)) di su an) H := hP
            have hD : va_D A (wM y h q tw pn ki on ot ab be zA zB zC zD zF zT fo lw hg at_ tl th (upZ wo1 k (fo ((25 * jo) + p))) wl1 wh1 (fo ((25 * jo) + p)) (lw ((25 * jo) + p)) (hg ((25 * jo) + p)) di su an) := hD
            refine lv_aload_n hx hb dX8_replaces_220 rfl (lv_at hl 2 rfl) ?_
            refine va_get (D := D) (ci := 6) (v := .ref (q 20)) (C := RX8) (T := TX8) (N := 28) hx hb hts in_X8_replaces_X8 hown hK.1 hP 0 rfl rfl 20 (by decide) (hts (.fieldLink RX8 66 "NestlimitModel" "wouldLow" "[J") (List.mem_of_getElem? (i := 11) rfl)) (fun _ h9 => h9) rfl dX8_replaces_221 ?_
            refine lv_iload hx hb dX8_replaces_224 (lv_at hl 6 rfl) ?_
            refine lv_aload_n hx hb dX8_replaces_226 rfl (lv_at hl 2 rfl) ?_
            refine va_get (D := D) (ci := 6) (v := .long (lw ((25 * jo) + p))) (C := RX8) (T := TX8) (N := 28) hx hb hts in_X8_replaces_X8 hown hK.1 hP 0 rfl rfl 23 (by decide) (hts (.fieldLink RX8 96 "NestlimitModel" "low" "J") (List.mem_of_getElem? (i := 8) rfl)) (fun _ h9 => h9) rfl dX8_replaces_227 ?_
            refine g_last (k := k) (x := lw ((25 * jo) + p)) hx hb hK.1 hP hD hS 19 1 rfl rfl (by omega) (by decide) dX8_replaces_230 (fun H locs hP hD hS => ?_)
            have hP : va_P D vwCl (wM y h q tw pn ki on ot ab be zA zB zC zD zF zT fo lw hg at_ tl th (upZ wo1 k (fo ((25 * jo) + p))) (vp_updL wl1 k (lw ((25 * jo) + p))) wh1 (fo ((25 * jo) + p)) (lw ((25 * jo) + p)) (hg ((25 * jo) + p)) di su an) H := hP
            have hD : va_D A (wM y h q tw pn ki on ot ab be zA zB zC zD zF zT fo lw hg at_ tl th (upZ wo1 k (fo ((25 * jo) + p))) (vp_updL wl1 k (lw ((25 * jo) + p))) wh1 (fo ((25 * jo) + p)) (lw ((25 * jo) + p)) (hg ((25 * jo) + p)) di su an) := hD
            refine lv_aload_n hx hb dX8_replaces_231 rfl (lv_at hl 2 rfl) ?_
            refine va_get (D := D) (ci := 6) (v := .ref (q 21)) (C := RX8) (T := TX8) (N := 28) hx hb hts in_X8_replaces_X8 hown hK.1 hP 0 rfl rfl 21 (by decide) (hts (.fieldLink RX8 69 "NestlimitModel" "wouldHigh" "[J") (List.mem_of_getElem? (i := 12) rfl)) (fun _ h9 => h9) rfl dX8_replaces_232 ?_
            refine lv_iload hx hb dX8_replaces_235 (lv_at hl 6 rfl) ?_
            refine lv_aload_n hx hb dX8_replaces_237 rfl (lv_at hl 2 rfl) ?_
            refine va_get (D := D) (ci := 6) (v := .long (hg ((25 * jo) + p))) (C := RX8) (T := TX8) (N := 28) hx hb hts in_X8_replaces_X8 hown hK.1 hP 0 rfl rfl 24 (by decide) (hts (.fieldLink RX8 100 "NestlimitModel" "high" "J") (List.mem_of_getElem? (i := 10) rfl)) (fun _ h9 => h9) rfl dX8_replaces_238 ?_
            refine g_last (k := k) (x := hg ((25 * jo) + p)) hx hb hK.1 hP hD hS 20 1 rfl rfl (by omega) (by decide) dX8_replaces_241 (fun H locs hP hD hS => ?_)
            have hP : va_P D vwCl (wM y h q tw pn ki on ot ab be zA zB zC zD zF zT fo lw hg at_ tl th (upZ wo1 k (fo ((25 * jo) + p))) (vp_updL wl1 k (lw ((25 * jo) + p))) (vp_updL wh1 k (hg ((25 * jo) + p))) (fo ((25 * jo) + p)) (lw ((25 * jo) + p)) (hg ((25 * jo) + p)) di su an) H := hP
            have hD : va_D A (wM y h q tw pn ki on ot ab be zA zB zC zD zF zT fo lw hg at_ tl th (upZ wo1 k (fo ((25 * jo) + p))) (vp_updL wl1 k (lw ((25 * jo) + p))) (vp_updL wh1 k (hg ((25 * jo) + p))) (fo ((25 * jo) + p)) (lw ((25 * jo) + p)) (hg ((25 * jo) + p)) di su an) := hD
            refine lv_iinc (v := nI (k + 1)) (lv' := [(4, .int (nI (k + 1))), (6, .int (nI k)), (5, .int (nI o1)), (0, .ref h), (1, .int (nI g)), (2, .int (nI jo)), (3, .int (nI p))]) hx hb dX8_replaces_242 hl (k := 6) rfl (nI_add k 1) (by decide) rfl (fun ls hl => ?_)
            refine lv_goto (tgt := 3) hx hb dX8_replaces_245 (by decide) ?_
            exact ih3 (k + 1) (upZ wo1 k (fo ((25 * jo) + p))) (vp_updL wl1 k (lw ((25 * jo) + p))) (vp_updL wh1 k (hg ((25 * jo) + p))) (fo ((25 * jo) + p)) (lw ((25 * jo) + p)) (hg ((25 * jo) + p)) (by omega) (rp_d hd (by have e9 := nIinj (by omega) (by omega) c_116; subst e9; exact hgw.1.symm) (by have e9 := nIinj (by omega) (by omega) c_116; subst e9; intro z9; obtain ⟨z1, z2⟩ := hgw.2 z9; exact ⟨z1.symm, z2.symm⟩)) _ _ hP hD hS ls (lv_sub hl [3, 4, 5, 6, 0] rfl)
      · skip
        obtain ⟨u1, v1⟩ := hd o1 ho1
        obtain ⟨u2, v2⟩ := hd o2 ho2
        refine lv_iload hx hb dX8_replaces_3 (lv_at hl 4 rfl) ?_
        refine lv_aload_n hx hb dX8_replaces_5 rfl (lv_at hl 0 rfl) ?_
        refine va_get (D := D) (ci := 6) (v := .int (nI pn)) (C := RX8) (T := TX8) (N := 28) hx hb hts in_X8_replaces_X8 hown hK.1 hP 0 rfl rfl 1 (by decide) (hts (.fieldLink RX8 85 "NestlimitModel" "programs" "I") (List.mem_of_getElem? (i := 1) rfl)) (fun _ h9 => h9) rfl dX8_replaces_6 ?_
        refine lv_icmp_ge (tgt := 248) hx hb dX8_replaces_9 (by decide) (fun c_9 => absurd c_9 (nI_ge (by omega) (by omega))) (fun c_9 => ?_)
        refine lv_aload_n hx hb dX8_replaces_12 rfl (lv_at hl 0 rfl) ?_
        refine va_get (D := D) (ci := 6) (v := .ref (q 3)) (C := RX8) (T := TX8) (N := 28) hx hb hts in_X8_replaces_X8 hown hK.1 hP 0 rfl rfl 3 (by decide) (hts (.fieldLink RX8 13 "NestlimitModel" "ones" "[I") (List.mem_of_getElem? (i := 2) rfl)) (fun _ h9 => h9) rfl dX8_replaces_13 ?_
        refine lv_iload hx hb dX8_replaces_16 (lv_at hl 4 rfl) ?_
        refine g_iald (k := k) hx hb hK.1 hP 2 0 rfl rfl (by omega) (by decide) dX8_replaces_18 ?_
        refine lv_iconst (v := -1) hx hb dX8_replaces_19 (by decide) ?_
        refine lv_icmp_ne (tgt := 28) hx hb dX8_replaces_20 (by decide) (fun c_20 => ?_) (fun c_20 => absurd c_20 (g_nm1 hon (by omega)))
        refine lv_aload_n hx hb dX8_replaces_28 rfl (lv_at hl 0 rfl) ?_
        refine va_get (D := D) (ci := 6) (v := .ref (q 3)) (C := RX8) (T := TX8) (N := 28) hx hb hts in_X8_replaces_X8 hown hK.1 hP 0 rfl rfl 3 (by decide) (hts (.fieldLink RX8 13 "NestlimitModel" "ones" "[I") (List.mem_of_getElem? (i := 2) rfl)) (fun _ h9 => h9) rfl dX8_replaces_29 ?_
        refine lv_iload hx hb dX8_replaces_32 (lv_at hl 4 rfl) ?_
        refine g_iald (k := k) hx hb hK.1 hP 2 0 rfl rfl (by omega) (by decide) dX8_replaces_34 ?_
        refine g_topi (y := nI o1) (hon) ?_
        refine lv_istore (lv' := [(5, .int (nI o1)), (0, .ref h), (1, .int (nI g)), (2, .int (nI jo)), (3, .int (nI p)), (4, .int (nI k))]) hx hb dX8_replaces_35 hl (by decide) rfl (fun ls hl => ?_)
        refine lv_aload_n hx hb dX8_replaces_37 rfl (lv_at hl 1 rfl) ?_
        refine va_get (D := D) (ci := 6) (v := .ref (q 4)) (C := RX8) (T := TX8) (N := 28) hx hb hts in_X8_replaces_X8 hown hK.1 hP 0 rfl rfl 4 (by decide) (hts (.fieldLink RX8 16 "NestlimitModel" "others" "[I") (List.mem_of_getElem? (i := 3) rfl)) (fun _ h9 => h9) rfl dX8_replaces_38 ?_
        refine lv_iload hx hb dX8_replaces_41 (lv_at hl 5 rfl) ?_
        refine g_iald (k := k) hx hb hK.1 hP 3 0 rfl rfl (by omega) (by decide) dX8_replaces_43 ?_
        refine lv_iconst (v := -1) hx hb dX8_replaces_44 (by decide) ?_
        refine lv_icmp_ne (tgt := 53) hx hb dX8_replaces_45 (by decide) (fun c_45 => ?_) (fun c_45 => absurd c_45 (g_nm1 hot (by omega)))
        refine lv_aload_n hx hb dX8_replaces_53 rfl (lv_at hl 1 rfl) ?_
        refine va_get (D := D) (ci := 6) (v := .ref (q 4)) (C := RX8) (T := TX8) (N := 28) hx hb hts in_X8_replaces_X8 hown hK.1 hP 0 rfl rfl 4 (by decide) (hts (.fieldLink RX8 16 "NestlimitModel" "others" "[I") (List.mem_of_getElem? (i := 3) rfl)) (fun _ h9 => h9) rfl dX8_replaces_54 ?_
        refine lv_iload hx hb dX8_replaces_57 (lv_at hl 5 rfl) ?_
        refine g_iald (k := k) hx hb hK.1 hP 3 0 rfl rfl (by omega) (by decide) dX8_replaces_59 ?_
        refine g_topi (y := nI o2) (hot) ?_
        refine lv_istore (lv' := [(6, .int (nI o2)), (5, .int (nI o1)), (0, .ref h), (1, .int (nI g)), (2, .int (nI jo)), (3, .int (nI p)), (4, .int (nI k))]) hx hb dX8_replaces_60 hl (by decide) rfl (fun ls hl => ?_)
        refine lv_aload_n hx hb dX8_replaces_62 rfl (lv_at hl 2 rfl) ?_
        refine lv_aload_n hx hb dX8_replaces_63 rfl (lv_at hl 2 rfl) ?_
        refine va_get (D := D) (ci := 6) (v := .ref (q 3)) (C := RX8) (T := TX8) (N := 28) hx hb hts in_X8_replaces_X8 hown hK.1 hP 0 rfl rfl 3 (by decide) (hts (.fieldLink RX8 13 "NestlimitModel" "ones" "[I") (List.mem_of_getElem? (i := 2) rfl)) (fun _ h9 => h9) rfl dX8_replaces_64 ?_
        refine lv_iload hx hb dX8_replaces_67 (lv_at hl 6 rfl) ?_
        refine g_iald (k := k) hx hb hK.1 hP 2 0 rfl rfl (by omega) (by decide) dX8_replaces_69 ?_
        refine lv_iconst (v := -1) hx hb dX8_replaces_70 (by decide) ?_
        refine lv_icmp_eq (tgt := 84) hx hb dX8_replaces_71 (by decide) (fun c_71 => absurd c_71 (g_nm1 hon (by omega))) (fun c_71 => ?_)
        refine lv_aload_n hx hb dX8_replaces_74 rfl (lv_at hl 2 rfl) ?_
        refine va_get (D := D) (ci := 6) (v := .ref (q 19)) (C := RX8) (T := TX8) (N := 28) hx hb hts in_X8_replaces_X8 hown hK.1 hP 0 rfl rfl 19 (by decide) (hts (.fieldLink RX8 63 "NestlimitModel" "would" "[Z") (List.mem_of_getElem? (i := 4) rfl)) (fun _ h9 => h9) rfl dX8_replaces_75 ?_
        refine lv_iload hx hb dX8_replaces_78 (lv_at hl 1 rfl) ?_
        refine g_zald (k := o1) hx hb hK.1 hP 18 2 rfl rfl (by omega) (by decide) dX8_replaces_80 ?_
        refine g_beq (tgt := 109) hx hb dX8_replaces_81 (by decide) (fun c_81 => ?_) (fun c_81 => ?_)
        · skip
          refine lv_iconst (v := 0) hx hb dX8_replaces_109 (by decide) ?_
          refine va_put (D := D) (ci := 6) (v := .int (gB false)) (ty := .boolean) (C := RX8) (T := TX8) (N := 28) hx hb hts in_X8_replaces_X8 tyX8 tyX8_ok nmX8 hown hK.1 hP hD hS 0 rfl rfl 22 (by decide) (hts (.fieldLink RX8 92 "NestlimitModel" "is" "Z") (List.mem_of_getElem? (i := 5) rfl)) (fun _ h9 => h9) rfl (by decide +kernel) (gB_n _) (gB_f _) (Nat.le_of_ble_eq_true rfl) dX8_replaces_110 (fun H locs hP hD hS => ?_)
          have hP : va_P D vwCl (wM y h q tw pn ki on ot ab be zA zB zC zD zF zT fo lw hg at_ tl th wo1 wl1 wh1 false lo1 hi1 di su an) H := hP
          have hD : va_D A (wM y h q tw pn ki on ot ab be zA zB zC zD zF zT fo lw hg at_ tl th wo1 wl1 wh1 false lo1 hi1 di su an) := hD
          refine lv_iload hx hb dX8_replaces_113 (lv_at hl 6 rfl) ?_
          refine lv_iload_n hx hb dX8_replaces_115 rfl (lv_at hl 3 rfl) ?_
          refine lv_icmp_ne (tgt := 167) hx hb dX8_replaces_116 (by decide) (fun c_116 => ?_) (fun c_116 => ?_)
          · skip
            refine lv_aload_n hx hb dX8_replaces_167 rfl (lv_at hl 2 rfl) ?_
            refine va_get (D := D) (ci := 6) (v := .int (gB false)) (C := RX8) (T := TX8) (N := 28) hx hb hts in_X8_replaces_X8 hown hK.1 hP 0 rfl rfl 22 (by decide) (hts (.fieldLink RX8 92 "NestlimitModel" "is" "Z") (List.mem_of_getElem? (i := 5) rfl)) (fun _ h9 => h9) rfl dX8_replaces_168 ?_
            refine g_beq (tgt := 209) hx hb dX8_replaces_171 (by decide) (fun c_171 => ?_) (fun c_171 => absurd c_171 (by decide))
            refine lv_aload_n hx hb dX8_replaces_209 rfl (lv_at hl 2 rfl) ?_
            refine va_get (D := D) (ci := 6) (v := .ref (q 19)) (C := RX8) (T := TX8) (N := 28) hx hb hts in_X8_replaces_X8 hown hK.1 hP 0 rfl rfl 19 (by decide) (hts (.fieldLink RX8 63 "NestlimitModel" "would" "[Z") (List.mem_of_getElem? (i := 4) rfl)) (fun _ h9 => h9) rfl dX8_replaces_210 ?_
            refine lv_iload hx hb dX8_replaces_213 (lv_at hl 6 rfl) ?_
            refine lv_aload_n hx hb dX8_replaces_215 rfl (lv_at hl 2 rfl) ?_
            refine va_get (D := D) (ci := 6) (v := .int (gB false)) (C := RX8) (T := TX8) (N := 28) hx hb hts in_X8_replaces_X8 hown hK.1 hP 0 rfl rfl 22 (by decide) (hts (.fieldLink RX8 92 "NestlimitModel" "is" "Z") (List.mem_of_getElem? (i := 5) rfl)) (fun _ h9 => h9) rfl dX8_replaces_216 ?_
            refine g_zast (k := k) (x := false) hx hb hK.1 hP hD hS 18 2 rfl rfl (by omega) (by decide) dX8_replaces_219 (fun H locs hP hD hS => ?_)
            have hP : va_P D vwCl (wM y h q tw pn ki on ot ab be zA zB zC zD zF zT fo lw hg at_ tl th (upZ wo1 k false) wl1 wh1 false lo1 hi1 di su an) H := hP
            have hD : va_D A (wM y h q tw pn ki on ot ab be zA zB zC zD zF zT fo lw hg at_ tl th (upZ wo1 k false) wl1 wh1 false lo1 hi1 di su an) := hD
            refine lv_aload_n hx hb dX8_replaces_220 rfl (lv_at hl 2 rfl) ?_
            refine va_get (D := D) (ci := 6) (v := .ref (q 20)) (C := RX8) (T := TX8) (N := 28) hx hb hts in_X8_replaces_X8 hown hK.1 hP 0 rfl rfl 20 (by decide) (hts (.fieldLink RX8 66 "NestlimitModel" "wouldLow" "[J") (List.mem_of_getElem? (i := 11) rfl)) (fun _ h9 => h9) rfl dX8_replaces_221 ?_
            refine lv_iload hx hb dX8_replaces_224 (lv_at hl 6 rfl) ?_
            refine lv_aload_n hx hb dX8_replaces_226 rfl (lv_at hl 2 rfl) ?_
            refine va_get (D := D) (ci := 6) (v := .long lo1) (C := RX8) (T := TX8) (N := 28) hx hb hts in_X8_replaces_X8 hown hK.1 hP 0 rfl rfl 23 (by decide) (hts (.fieldLink RX8 96 "NestlimitModel" "low" "J") (List.mem_of_getElem? (i := 8) rfl)) (fun _ h9 => h9) rfl dX8_replaces_227 ?_
            refine g_last (k := k) (x := lo1) hx hb hK.1 hP hD hS 19 1 rfl rfl (by omega) (by decide) dX8_replaces_230 (fun H locs hP hD hS => ?_)
            have hP : va_P D vwCl (wM y h q tw pn ki on ot ab be zA zB zC zD zF zT fo lw hg at_ tl th (upZ wo1 k false) (vp_updL wl1 k lo1) wh1 false lo1 hi1 di su an) H := hP
            have hD : va_D A (wM y h q tw pn ki on ot ab be zA zB zC zD zF zT fo lw hg at_ tl th (upZ wo1 k false) (vp_updL wl1 k lo1) wh1 false lo1 hi1 di su an) := hD
            refine lv_aload_n hx hb dX8_replaces_231 rfl (lv_at hl 2 rfl) ?_
            refine va_get (D := D) (ci := 6) (v := .ref (q 21)) (C := RX8) (T := TX8) (N := 28) hx hb hts in_X8_replaces_X8 hown hK.1 hP 0 rfl rfl 21 (by decide) (hts (.fieldLink RX8 69 "NestlimitModel" "wouldHigh" "[J") (List.mem_of_getElem? (i := 12) rfl)) (fun _ h9 => h9) rfl dX8_replaces_232 ?_
            refine lv_iload hx hb dX8_replaces_235 (lv_at hl 6 rfl) ?_
            refine lv_aload_n hx hb dX8_replaces_237 rfl (lv_at hl 2 rfl) ?_
            refine va_get (D := D) (ci := 6) (v := .long hi1) (C := RX8) (T := TX8) (N := 28) hx hb hts in_X8_replaces_X8 hown hK.1 hP 0 rfl rfl 24 (by decide) (hts (.fieldLink RX8 100 "NestlimitModel" "high" "J") (List.mem_of_getElem? (i := 10) rfl)) (fun _ h9 => h9) rfl dX8_replaces_238 ?_
            refine g_last (k := k) (x := hi1) hx hb hK.1 hP hD hS 20 1 rfl rfl (by omega) (by decide) dX8_replaces_241 (fun H locs hP hD hS => ?_)
            have hP : va_P D vwCl (wM y h q tw pn ki on ot ab be zA zB zC zD zF zT fo lw hg at_ tl th (upZ wo1 k false) (vp_updL wl1 k lo1) (vp_updL wh1 k hi1) false lo1 hi1 di su an) H := hP
            have hD : va_D A (wM y h q tw pn ki on ot ab be zA zB zC zD zF zT fo lw hg at_ tl th (upZ wo1 k false) (vp_updL wl1 k lo1) (vp_updL wh1 k hi1) false lo1 hi1 di su an) := hD
            refine lv_iinc (v := nI (k + 1)) (lv' := [(4, .int (nI (k + 1))), (6, .int (nI o2)), (5, .int (nI o1)), (0, .ref h), (1, .int (nI g)), (2, .int (nI jo)), (3, .int (nI p))]) hx hb dX8_replaces_242 hl (k := 6) rfl (nI_add k 1) (by decide) rfl (fun ls hl => ?_)
            refine lv_goto (tgt := 3) hx hb dX8_replaces_245 (by decide) ?_
            exact ih3 (k + 1) (upZ wo1 k false) (vp_updL wl1 k lo1) (vp_updL wh1 k hi1) false lo1 hi1 (by omega) (rp_d hd ((hc (fun z9 => c_116 (by rw [z9]))).2 (fun z9 => c_81 (by rw [u1]; exact z9.1))).symm (fun z9 => by rw [(hc (fun z9 => c_116 (by rw [z9]))).2 (fun z9 => c_81 (by rw [u1]; exact z9.1))] at z9; exact absurd z9 (by decide))) _ _ hP hD hS ls (lv_sub hl [3, 4, 5, 6, 0] rfl)
          · skip
            refine lv_aload_n hx hb dX8_replaces_119 rfl (lv_at hl 2 rfl) ?_
            refine lv_aload_n hx hb dX8_replaces_120 rfl (lv_at hl 2 rfl) ?_
            refine va_get (D := D) (ci := 6) (v := .ref (q 13)) (C := RX8) (T := TX8) (N := 28) hx hb hts in_X8_replaces_X8 hown hK.1 hP 0 rfl rfl 13 (by decide) (hts (.fieldLink RX8 43 "NestlimitModel" "found" "[Z") (List.mem_of_getElem? (i := 6) rfl)) (fun _ h9 => h9) rfl dX8_replaces_121 ?_
            refine lv_bipush (v := 25) hx hb dX8_replaces_124 (by decide) ?_
            refine lv_iload_n hx hb dX8_replaces_126 rfl (lv_at hl 4 rfl) ?_
            refine lv_imul hx hb dX8_replaces_127 ?_
            refine g_topi (pk_mul 25 jo) ?_
            refine lv_iload_n hx hb dX8_replaces_128 rfl (lv_at hl 5 rfl) ?_
            refine lv_iadd hx hb dX8_replaces_129 ?_
            refine g_topi (nI_add (25 * jo) p) ?_
            refine g_zald (k := (25 * jo) + p) hx hb hK.1 hP 12 2 rfl rfl (by omega) (by decide) dX8_replaces_130 ?_
            refine va_put (D := D) (ci := 6) (v := .int (gB (fo ((25 * jo) + p)))) (ty := .boolean) (C := RX8) (T := TX8) (N := 28) hx hb hts in_X8_replaces_X8 tyX8 tyX8_ok nmX8 hown hK.1 hP hD hS 0 rfl rfl 22 (by decide) (hts (.fieldLink RX8 92 "NestlimitModel" "is" "Z") (List.mem_of_getElem? (i := 5) rfl)) (fun _ h9 => h9) rfl (by decide +kernel) (gB_n _) (gB_f _) (Nat.le_of_ble_eq_true rfl) dX8_replaces_131 (fun H locs hP hD hS => ?_)
            have hP : va_P D vwCl (wM y h q tw pn ki on ot ab be zA zB zC zD zF zT fo lw hg at_ tl th wo1 wl1 wh1 (fo ((25 * jo) + p)) lo1 hi1 di su an) H := hP
            have hD : va_D A (wM y h q tw pn ki on ot ab be zA zB zC zD zF zT fo lw hg at_ tl th wo1 wl1 wh1 (fo ((25 * jo) + p)) lo1 hi1 di su an) := hD
            refine lv_aload_n hx hb dX8_replaces_134 rfl (lv_at hl 2 rfl) ?_
            refine lv_aload_n hx hb dX8_replaces_135 rfl (lv_at hl 2 rfl) ?_
            refine va_get (D := D) (ci := 6) (v := .ref (q 14)) (C := RX8) (T := TX8) (N := 28) hx hb hts in_X8_replaces_X8 hown hK.1 hP 0 rfl rfl 14 (by decide) (hts (.fieldLink RX8 47 "NestlimitModel" "lows" "[J") (List.mem_of_getElem? (i := 7) rfl)) (fun _ h9 => h9) rfl dX8_replaces_136 ?_
            refine lv_bipush (v := 25) hx hb dX8_replaces_139 (by decide) ?_
            refine lv_iload_n hx hb dX8_replaces_141 rfl (lv_at hl 4 rfl) ?_
            refine lv_imul hx hb dX8_replaces_142 ?_
            refine g_topi (pk_mul 25 jo) ?_
            refine lv_iload_n hx hb dX8_replaces_143 rfl (lv_at hl 5 rfl) ?_
            refine lv_iadd hx hb dX8_replaces_144 ?_
            refine g_topi (nI_add (25 * jo) p) ?_
            refine g_lald (k := (25 * jo) + p) hx hb hK.1 hP 13 1 rfl rfl (by omega) (by decide) dX8_replaces_145 ?_
            refine va_put (D := D) (ci := 6) (v := .long (lw ((25 * jo) + p))) (ty := .long) (C := RX8) (T := TX8) (N := 28) hx hb hts in_X8_replaces_X8 tyX8 tyX8_ok nmX8 hown hK.1 hP hD hS 0 rfl rfl 23 (by decide) (hts (.fieldLink RX8 96 "NestlimitModel" "low" "J") (List.mem_of_getElem? (i := 8) rfl)) (fun _ h9 => h9) rfl (by decide +kernel) (rfl) (rfl) (Nat.le_of_ble_eq_true rfl) dX8_replaces_146 (fun H locs hP hD hS => ?_)
            have hP : va_P D vwCl (wM y h q tw pn ki on ot ab be zA zB zC zD zF zT fo lw hg at_ tl th wo1 wl1 wh1 (fo ((25 * jo) + p)) (lw ((25 * jo) + p)) hi1 di su an) H := hP
            have hD : va_D A (wM y h q tw pn ki on ot ab be zA zB zC zD zF zT fo lw hg at_ tl th wo1 wl1 wh1 (fo ((25 * jo) + p)) (lw ((25 * jo) + p)) hi1 di su an) := hD
            refine lv_aload_n hx hb dX8_replaces_149 rfl (lv_at hl 2 rfl) ?_
            refine lv_aload_n hx hb dX8_replaces_150 rfl (lv_at hl 2 rfl) ?_
            refine va_get (D := D) (ci := 6) (v := .ref (q 15)) (C := RX8) (T := TX8) (N := 28) hx hb hts in_X8_replaces_X8 hown hK.1 hP 0 rfl rfl 15 (by decide) (hts (.fieldLink RX8 51 "NestlimitModel" "highs" "[J") (List.mem_of_getElem? (i := 9) rfl)) (fun _ h9 => h9) rfl dX8_replaces_151 ?_
            refine lv_bipush (v := 25) hx hb dX8_replaces_154 (by decide) ?_
            refine lv_iload_n hx hb dX8_replaces_156 rfl (lv_at hl 4 rfl) ?_
            refine lv_imul hx hb dX8_replaces_157 ?_
            refine g_topi (pk_mul 25 jo) ?_
            refine lv_iload_n hx hb dX8_replaces_158 rfl (lv_at hl 5 rfl) ?_
            refine lv_iadd hx hb dX8_replaces_159 ?_
            refine g_topi (nI_add (25 * jo) p) ?_
            refine g_lald (k := (25 * jo) + p) hx hb hK.1 hP 14 1 rfl rfl (by omega) (by decide) dX8_replaces_160 ?_
            refine va_put (D := D) (ci := 6) (v := .long (hg ((25 * jo) + p))) (ty := .long) (C := RX8) (T := TX8) (N := 28) hx hb hts in_X8_replaces_X8 tyX8 tyX8_ok nmX8 hown hK.1 hP hD hS 0 rfl rfl 24 (by decide) (hts (.fieldLink RX8 100 "NestlimitModel" "high" "J") (List.mem_of_getElem? (i := 10) rfl)) (fun _ h9 => h9) rfl (by decide +kernel) (rfl) (rfl) (Nat.le_of_ble_eq_true rfl) dX8_replaces_161 (fun H locs hP hD hS => ?_)
            have hP : va_P D vwCl (wM y h q tw pn ki on ot ab be zA zB zC zD zF zT fo lw hg at_ tl th wo1 wl1 wh1 (fo ((25 * jo) + p)) (lw ((25 * jo) + p)) (hg ((25 * jo) + p)) di su an) H := hP
            have hD : va_D A (wM y h q tw pn ki on ot ab be zA zB zC zD zF zT fo lw hg at_ tl th wo1 wl1 wh1 (fo ((25 * jo) + p)) (lw ((25 * jo) + p)) (hg ((25 * jo) + p)) di su an) := hD
            refine lv_goto (tgt := 209) hx hb dX8_replaces_164 (by decide) ?_
            refine lv_aload_n hx hb dX8_replaces_209 rfl (lv_at hl 2 rfl) ?_
            refine va_get (D := D) (ci := 6) (v := .ref (q 19)) (C := RX8) (T := TX8) (N := 28) hx hb hts in_X8_replaces_X8 hown hK.1 hP 0 rfl rfl 19 (by decide) (hts (.fieldLink RX8 63 "NestlimitModel" "would" "[Z") (List.mem_of_getElem? (i := 4) rfl)) (fun _ h9 => h9) rfl dX8_replaces_210 ?_
            refine lv_iload hx hb dX8_replaces_213 (lv_at hl 6 rfl) ?_
            refine lv_aload_n hx hb dX8_replaces_215 rfl (lv_at hl 2 rfl) ?_
            refine va_get (D := D) (ci := 6) (v := .int (gB (fo ((25 * jo) + p)))) (C := RX8) (T := TX8) (N := 28) hx hb hts in_X8_replaces_X8 hown hK.1 hP 0 rfl rfl 22 (by decide) (hts (.fieldLink RX8 92 "NestlimitModel" "is" "Z") (List.mem_of_getElem? (i := 5) rfl)) (fun _ h9 => h9) rfl dX8_replaces_216 ?_
            refine g_zast (k := k) (x := fo ((25 * jo) + p)) hx hb hK.1 hP hD hS 18 2 rfl rfl (by omega) (by decide) dX8_replaces_219 (fun H locs hP hD hS => ?_)
            have hP : va_P D vwCl (wM y h q tw pn ki on ot ab be zA zB zC zD zF zT fo lw hg at_ tl th (upZ wo1 k (fo ((25 * jo) + p))) wl1 wh1 (fo ((25 * jo) + p)) (lw ((25 * jo) + p)) (hg ((25 * jo) + p)) di su an) H := hP
            have hD : va_D A (wM y h q tw pn ki on ot ab be zA zB zC zD zF zT fo lw hg at_ tl th (upZ wo1 k (fo ((25 * jo) + p))) wl1 wh1 (fo ((25 * jo) + p)) (lw ((25 * jo) + p)) (hg ((25 * jo) + p)) di su an) := hD
            refine lv_aload_n hx hb dX8_replaces_220 rfl (lv_at hl 2 rfl) ?_
            refine va_get (D := D) (ci := 6) (v := .ref (q 20)) (C := RX8) (T := TX8) (N := 28) hx hb hts in_X8_replaces_X8 hown hK.1 hP 0 rfl rfl 20 (by decide) (hts (.fieldLink RX8 66 "NestlimitModel" "wouldLow" "[J") (List.mem_of_getElem? (i := 11) rfl)) (fun _ h9 => h9) rfl dX8_replaces_221 ?_
            refine lv_iload hx hb dX8_replaces_224 (lv_at hl 6 rfl) ?_
            refine lv_aload_n hx hb dX8_replaces_226 rfl (lv_at hl 2 rfl) ?_
            refine va_get (D := D) (ci := 6) (v := .long (lw ((25 * jo) + p))) (C := RX8) (T := TX8) (N := 28) hx hb hts in_X8_replaces_X8 hown hK.1 hP 0 rfl rfl 23 (by decide) (hts (.fieldLink RX8 96 "NestlimitModel" "low" "J") (List.mem_of_getElem? (i := 8) rfl)) (fun _ h9 => h9) rfl dX8_replaces_227 ?_
            refine g_last (k := k) (x := lw ((25 * jo) + p)) hx hb hK.1 hP hD hS 19 1 rfl rfl (by omega) (by decide) dX8_replaces_230 (fun H locs hP hD hS => ?_)
            have hP : va_P D vwCl (wM y h q tw pn ki on ot ab be zA zB zC zD zF zT fo lw hg at_ tl th (upZ wo1 k (fo ((25 * jo) + p))) (vp_updL wl1 k (lw ((25 * jo) + p))) wh1 (fo ((25 * jo) + p)) (lw ((25 * jo) + p)) (hg ((25 * jo) + p)) di su an) H := hP
            have hD : va_D A (wM y h q tw pn ki on ot ab be zA zB zC zD zF zT fo lw hg at_ tl th (upZ wo1 k (fo ((25 * jo) + p))) (vp_updL wl1 k (lw ((25 * jo) + p))) wh1 (fo ((25 * jo) + p)) (lw ((25 * jo) + p)) (hg ((25 * jo) + p)) di su an) := hD
            refine lv_aload_n hx hb dX8_replaces_231 rfl (lv_at hl 2 rfl) ?_
            refine va_get (D := D) (ci := 6) (v := .ref (q 21)) (C := RX8) (T := TX8) (N := 28) hx hb hts in_X8_replaces_X8 hown hK.1 hP 0 rfl rfl 21 (by decide) (hts (.fieldLink RX8 69 "NestlimitModel" "wouldHigh" "[J") (List.mem_of_getElem? (i := 12) rfl)) (fun _ h9 => h9) rfl dX8_replaces_232 ?_
            refine lv_iload hx hb dX8_replaces_235 (lv_at hl 6 rfl) ?_
            refine lv_aload_n hx hb dX8_replaces_237 rfl (lv_at hl 2 rfl) ?_
            refine va_get (D := D) (ci := 6) (v := .long (hg ((25 * jo) + p))) (C := RX8) (T := TX8) (N := 28) hx hb hts in_X8_replaces_X8 hown hK.1 hP 0 rfl rfl 24 (by decide) (hts (.fieldLink RX8 100 "NestlimitModel" "high" "J") (List.mem_of_getElem? (i := 10) rfl)) (fun _ h9 => h9) rfl dX8_replaces_238 ?_
            refine g_last (k := k) (x := hg ((25 * jo) + p)) hx hb hK.1 hP hD hS 20 1 rfl rfl (by omega) (by decide) dX8_replaces_241 (fun H locs hP hD hS => ?_)
            have hP : va_P D vwCl (wM y h q tw pn ki on ot ab be zA zB zC zD zF zT fo lw hg at_ tl th (upZ wo1 k (fo ((25 * jo) + p))) (vp_updL wl1 k (lw ((25 * jo) + p))) (vp_updL wh1 k (hg ((25 * jo) + p))) (fo ((25 * jo) + p)) (lw ((25 * jo) + p)) (hg ((25 * jo) + p)) di su an) H := hP
            have hD : va_D A (wM y h q tw pn ki on ot ab be zA zB zC zD zF zT fo lw hg at_ tl th (upZ wo1 k (fo ((25 * jo) + p))) (vp_updL wl1 k (lw ((25 * jo) + p))) (vp_updL wh1 k (hg ((25 * jo) + p))) (fo ((25 * jo) + p)) (lw ((25 * jo) + p)) (hg ((25 * jo) + p)) di su an) := hD
            refine lv_iinc (v := nI (k + 1)) (lv' := [(4, .int (nI (k + 1))), (6, .int (nI o2)), (5, .int (nI o1)), (0, .ref h), (1, .int (nI g)), (2, .int (nI jo)), (3, .int (nI p))]) hx hb dX8_replaces_242 hl (k := 6) rfl (nI_add k 1) (by decide) rfl (fun ls hl => ?_)
            refine lv_goto (tgt := 3) hx hb dX8_replaces_245 (by decide) ?_
            exact ih3 (k + 1) (upZ wo1 k (fo ((25 * jo) + p))) (vp_updL wl1 k (lw ((25 * jo) + p))) (vp_updL wh1 k (hg ((25 * jo) + p))) (fo ((25 * jo) + p)) (lw ((25 * jo) + p)) (hg ((25 * jo) + p)) (by omega) (rp_d hd (by have e9 := nIinj (by omega) (by omega) c_116; subst e9; exact hgw.1.symm) (by have e9 := nIinj (by omega) (by omega) c_116; subst e9; intro z9; obtain ⟨z1, z2⟩ := hgw.2 z9; exact ⟨z1.symm, z2.symm⟩)) _ _ hP hD hS ls (lv_sub hl [3, 4, 5, 6, 0] rfl)
        · skip
          refine lv_aload_n hx hb dX8_replaces_84 rfl (lv_at hl 2 rfl) ?_
          refine va_get (D := D) (ci := 6) (v := .ref (q 4)) (C := RX8) (T := TX8) (N := 28) hx hb hts in_X8_replaces_X8 hown hK.1 hP 0 rfl rfl 4 (by decide) (hts (.fieldLink RX8 16 "NestlimitModel" "others" "[I") (List.mem_of_getElem? (i := 3) rfl)) (fun _ h9 => h9) rfl dX8_replaces_85 ?_
          refine lv_iload hx hb dX8_replaces_88 (lv_at hl 6 rfl) ?_
          refine g_iald (k := k) hx hb hK.1 hP 3 0 rfl rfl (by omega) (by decide) dX8_replaces_90 ?_
          refine lv_iconst (v := -1) hx hb dX8_replaces_91 (by decide) ?_
          refine lv_icmp_eq (tgt := 105) hx hb dX8_replaces_92 (by decide) (fun c_92 => absurd c_92 (g_nm1 hot (by omega))) (fun c_92 => ?_)
          refine lv_aload_n hx hb dX8_replaces_95 rfl (lv_at hl 2 rfl) ?_
          refine va_get (D := D) (ci := 6) (v := .ref (q 19)) (C := RX8) (T := TX8) (N := 28) hx hb hts in_X8_replaces_X8 hown hK.1 hP 0 rfl rfl 19 (by decide) (hts (.fieldLink RX8 63 "NestlimitModel" "would" "[Z") (List.mem_of_getElem? (i := 4) rfl)) (fun _ h9 => h9) rfl dX8_replaces_96 ?_
          refine lv_iload hx hb dX8_replaces_99 (lv_at hl 0 rfl) ?_
          refine g_zald (k := o2) hx hb hK.1 hP 18 2 rfl rfl (by omega) (by decide) dX8_replaces_101 ?_
          refine g_beq (tgt := 109) hx hb dX8_replaces_102 (by decide) (fun c_102 => ?_) (fun c_102 => ?_)
          · skip
            refine lv_iconst (v := 0) hx hb dX8_replaces_109 (by decide) ?_
            refine va_put (D := D) (ci := 6) (v := .int (gB false)) (ty := .boolean) (C := RX8) (T := TX8) (N := 28) hx hb hts in_X8_replaces_X8 tyX8 tyX8_ok nmX8 hown hK.1 hP hD hS 0 rfl rfl 22 (by decide) (hts (.fieldLink RX8 92 "NestlimitModel" "is" "Z") (List.mem_of_getElem? (i := 5) rfl)) (fun _ h9 => h9) rfl (by decide +kernel) (gB_n _) (gB_f _) (Nat.le_of_ble_eq_true rfl) dX8_replaces_110 (fun H locs hP hD hS => ?_)
            have hP : va_P D vwCl (wM y h q tw pn ki on ot ab be zA zB zC zD zF zT fo lw hg at_ tl th wo1 wl1 wh1 false lo1 hi1 di su an) H := hP
            have hD : va_D A (wM y h q tw pn ki on ot ab be zA zB zC zD zF zT fo lw hg at_ tl th wo1 wl1 wh1 false lo1 hi1 di su an) := hD
            refine lv_iload hx hb dX8_replaces_113 (lv_at hl 6 rfl) ?_
            refine lv_iload_n hx hb dX8_replaces_115 rfl (lv_at hl 3 rfl) ?_
            refine lv_icmp_ne (tgt := 167) hx hb dX8_replaces_116 (by decide) (fun c_116 => ?_) (fun c_116 => ?_)
            · skip
              refine lv_aload_n hx hb dX8_replaces_167 rfl (lv_at hl 2 rfl) ?_
              refine va_get (D := D) (ci := 6) (v := .int (gB false)) (C := RX8) (T := TX8) (N := 28) hx hb hts in_X8_replaces_X8 hown hK.1 hP 0 rfl rfl 22 (by decide) (hts (.fieldLink RX8 92 "NestlimitModel" "is" "Z") (List.mem_of_getElem? (i := 5) rfl)) (fun _ h9 => h9) rfl dX8_replaces_168 ?_
              refine g_beq (tgt := 209) hx hb dX8_replaces_171 (by decide) (fun c_171 => ?_) (fun c_171 => absurd c_171 (by decide))
              refine lv_aload_n hx hb dX8_replaces_209 rfl (lv_at hl 2 rfl) ?_
              refine va_get (D := D) (ci := 6) (v := .ref (q 19)) (C := RX8) (T := TX8) (N := 28) hx hb hts in_X8_replaces_X8 hown hK.1 hP 0 rfl rfl 19 (by decide) (hts (.fieldLink RX8 63 "NestlimitModel" "would" "[Z") (List.mem_of_getElem? (i := 4) rfl)) (fun _ h9 => h9) rfl dX8_replaces_210 ?_
              refine lv_iload hx hb dX8_replaces_213 (lv_at hl 6 rfl) ?_
              refine lv_aload_n hx hb dX8_replaces_215 rfl (lv_at hl 2 rfl) ?_
              refine va_get (D := D) (ci := 6) (v := .int (gB false)) (C := RX8) (T := TX8) (N := 28) hx hb hts in_X8_replaces_X8 hown hK.1 hP 0 rfl rfl 22 (by decide) (hts (.fieldLink RX8 92 "NestlimitModel" "is" "Z") (List.mem_of_getElem? (i := 5) rfl)) (fun _ h9 => h9) rfl dX8_replaces_216 ?_
              refine g_zast (k := k) (x := false) hx hb hK.1 hP hD hS 18 2 rfl rfl (by omega) (by decide) dX8_replaces_219 (fun H locs hP hD hS => ?_)
              have hP : va_P D vwCl (wM y h q tw pn ki on ot ab be zA zB zC zD zF zT fo lw hg at_ tl th (upZ wo1 k false) wl1 wh1 false lo1 hi1 di su an) H := hP
              have hD : va_D A (wM y h q tw pn ki on ot ab be zA zB zC zD zF zT fo lw hg at_ tl th (upZ wo1 k false) wl1 wh1 false lo1 hi1 di su an) := hD
              refine lv_aload_n hx hb dX8_replaces_220 rfl (lv_at hl 2 rfl) ?_
              refine va_get (D := D) (ci := 6) (v := .ref (q 20)) (C := RX8) (T := TX8) (N := 28) hx hb hts in_X8_replaces_X8 hown hK.1 hP 0 rfl rfl 20 (by decide) (hts (.fieldLink RX8 66 "NestlimitModel" "wouldLow" "[J") (List.mem_of_getElem? (i := 11) rfl)) (fun _ h9 => h9) rfl dX8_replaces_221 ?_
              refine lv_iload hx hb dX8_replaces_224 (lv_at hl 6 rfl) ?_
              refine lv_aload_n hx hb dX8_replaces_226 rfl (lv_at hl 2 rfl) ?_
              refine va_get (D := D) (ci := 6) (v := .long lo1) (C := RX8) (T := TX8) (N := 28) hx hb hts in_X8_replaces_X8 hown hK.1 hP 0 rfl rfl 23 (by decide) (hts (.fieldLink RX8 96 "NestlimitModel" "low" "J") (List.mem_of_getElem? (i := 8) rfl)) (fun _ h9 => h9) rfl dX8_replaces_227 ?_
              refine g_last (k := k) (x := lo1) hx hb hK.1 hP hD hS 19 1 rfl rfl (by omega) (by decide) dX8_replaces_230 (fun H locs hP hD hS => ?_)
              have hP : va_P D vwCl (wM y h q tw pn ki on ot ab be zA zB zC zD zF zT fo lw hg at_ tl th (upZ wo1 k false) (vp_updL wl1 k lo1) wh1 false lo1 hi1 di su an) H := hP
              have hD : va_D A (wM y h q tw pn ki on ot ab be zA zB zC zD zF zT fo lw hg at_ tl th (upZ wo1 k false) (vp_updL wl1 k lo1) wh1 false lo1 hi1 di su an) := hD
              refine lv_aload_n hx hb dX8_replaces_231 rfl (lv_at hl 2 rfl) ?_
              refine va_get (D := D) (ci := 6) (v := .ref (q 21)) (C := RX8) (T := TX8) (N := 28) hx hb hts in_X8_replaces_X8 hown hK.1 hP 0 rfl rfl 21 (by decide) (hts (.fieldLink RX8 69 "NestlimitModel" "wouldHigh" "[J") (List.mem_of_getElem? (i := 12) rfl)) (fun _ h9 => h9) rfl dX8_replaces_232 ?_
              refine lv_iload hx hb dX8_replaces_235 (lv_at hl 6 rfl) ?_
              refine lv_aload_n hx hb dX8_replaces_237 rfl (lv_at hl 2 rfl) ?_
              refine va_get (D := D) (ci := 6) (v := .long hi1) (C := RX8) (T := TX8) (N := 28) hx hb hts in_X8_replaces_X8 hown hK.1 hP 0 rfl rfl 24 (by decide) (hts (.fieldLink RX8 100 "NestlimitModel" "high" "J") (List.mem_of_getElem? (i := 10) rfl)) (fun _ h9 => h9) rfl dX8_replaces_238 ?_
              refine g_last (k := k) (x := hi1) hx hb hK.1 hP hD hS 20 1 rfl rfl (by omega) (by decide) dX8_replaces_241 (fun H locs hP hD hS => ?_)
              have hP : va_P D vwCl (wM y h q tw pn ki on ot ab be zA zB zC zD zF zT fo lw hg at_ tl th (upZ wo1 k false) (vp_updL wl1 k lo1) (vp_updL wh1 k hi1) false lo1 hi1 di su an) H := hP
              have hD : va_D A (wM y h q tw pn ki on ot ab be zA zB zC zD zF zT fo lw hg at_ tl th (upZ wo1 k false) (vp_updL wl1 k lo1) (vp_updL wh1 k hi1) false lo1 hi1 di su an) := hD
              refine lv_iinc (v := nI (k + 1)) (lv' := [(4, .int (nI (k + 1))), (6, .int (nI o2)), (5, .int (nI o1)), (0, .ref h), (1, .int (nI g)), (2, .int (nI jo)), (3, .int (nI p))]) hx hb dX8_replaces_242 hl (k := 6) rfl (nI_add k 1) (by decide) rfl (fun ls hl => ?_)
              refine lv_goto (tgt := 3) hx hb dX8_replaces_245 (by decide) ?_
              exact ih3 (k + 1) (upZ wo1 k false) (vp_updL wl1 k lo1) (vp_updL wh1 k hi1) false lo1 hi1 (by omega) (rp_d hd ((hc (fun z9 => c_116 (by rw [z9]))).2 (fun z9 => c_102 (by rw [u2]; exact z9.2))).symm (fun z9 => by rw [(hc (fun z9 => c_116 (by rw [z9]))).2 (fun z9 => c_102 (by rw [u2]; exact z9.2))] at z9; exact absurd z9 (by decide))) _ _ hP hD hS ls (lv_sub hl [3, 4, 5, 6, 0] rfl)
            · skip
              refine lv_aload_n hx hb dX8_replaces_119 rfl (lv_at hl 2 rfl) ?_
              refine lv_aload_n hx hb dX8_replaces_120 rfl (lv_at hl 2 rfl) ?_
              refine va_get (D := D) (ci := 6) (v := .ref (q 13)) (C := RX8) (T := TX8) (N := 28) hx hb hts in_X8_replaces_X8 hown hK.1 hP 0 rfl rfl 13 (by decide) (hts (.fieldLink RX8 43 "NestlimitModel" "found" "[Z") (List.mem_of_getElem? (i := 6) rfl)) (fun _ h9 => h9) rfl dX8_replaces_121 ?_
              refine lv_bipush (v := 25) hx hb dX8_replaces_124 (by decide) ?_
              refine lv_iload_n hx hb dX8_replaces_126 rfl (lv_at hl 4 rfl) ?_
              refine lv_imul hx hb dX8_replaces_127 ?_
              refine g_topi (pk_mul 25 jo) ?_
              refine lv_iload_n hx hb dX8_replaces_128 rfl (lv_at hl 5 rfl) ?_
              refine lv_iadd hx hb dX8_replaces_129 ?_
              refine g_topi (nI_add (25 * jo) p) ?_
              refine g_zald (k := (25 * jo) + p) hx hb hK.1 hP 12 2 rfl rfl (by omega) (by decide) dX8_replaces_130 ?_
              refine va_put (D := D) (ci := 6) (v := .int (gB (fo ((25 * jo) + p)))) (ty := .boolean) (C := RX8) (T := TX8) (N := 28) hx hb hts in_X8_replaces_X8 tyX8 tyX8_ok nmX8 hown hK.1 hP hD hS 0 rfl rfl 22 (by decide) (hts (.fieldLink RX8 92 "NestlimitModel" "is" "Z") (List.mem_of_getElem? (i := 5) rfl)) (fun _ h9 => h9) rfl (by decide +kernel) (gB_n _) (gB_f _) (Nat.le_of_ble_eq_true rfl) dX8_replaces_131 (fun H locs hP hD hS => ?_)
              have hP : va_P D vwCl (wM y h q tw pn ki on ot ab be zA zB zC zD zF zT fo lw hg at_ tl th wo1 wl1 wh1 (fo ((25 * jo) + p)) lo1 hi1 di su an) H := hP
              have hD : va_D A (wM y h q tw pn ki on ot ab be zA zB zC zD zF zT fo lw hg at_ tl th wo1 wl1 wh1 (fo ((25 * jo) + p)) lo1 hi1 di su an) := hD
              refine lv_aload_n hx hb dX8_replaces_134 rfl (lv_at hl 2 rfl) ?_
              refine lv_aload_n hx hb dX8_replaces_135 rfl (lv_at hl 2 rfl) ?_
              refine va_get (D := D) (ci := 6) (v := .ref (q 14)) (C := RX8) (T := TX8) (N := 28) hx hb hts in_X8_replaces_X8 hown hK.1 hP 0 rfl rfl 14 (by decide) (hts (.fieldLink RX8 47 "NestlimitModel" "lows" "[J") (List.mem_of_getElem? (i := 7) rfl)) (fun _ h9 => h9) rfl dX8_replaces_136 ?_
              refine lv_bipush (v := 25) hx hb dX8_replaces_139 (by decide) ?_
              refine lv_iload_n hx hb dX8_replaces_141 rfl (lv_at hl 4 rfl) ?_
              refine lv_imul hx hb dX8_replaces_142 ?_
              refine g_topi (pk_mul 25 jo) ?_
              refine lv_iload_n hx hb dX8_replaces_143 rfl (lv_at hl 5 rfl) ?_
              refine lv_iadd hx hb dX8_replaces_144 ?_
              refine g_topi (nI_add (25 * jo) p) ?_
              refine g_lald (k := (25 * jo) + p) hx hb hK.1 hP 13 1 rfl rfl (by omega) (by decide) dX8_replaces_145 ?_
              refine va_put (D := D) (ci := 6) (v := .long (lw ((25 * jo) + p))) (ty := .long) (C := RX8) (T := TX8) (N := 28) hx hb hts in_X8_replaces_X8 tyX8 tyX8_ok nmX8 hown hK.1 hP hD hS 0 rfl rfl 23 (by decide) (hts (.fieldLink RX8 96 "NestlimitModel" "low" "J") (List.mem_of_getElem? (i := 8) rfl)) (fun _ h9 => h9) rfl (by decide +kernel) (rfl) (rfl) (Nat.le_of_ble_eq_true rfl) dX8_replaces_146 (fun H locs hP hD hS => ?_)
              have hP : va_P D vwCl (wM y h q tw pn ki on ot ab be zA zB zC zD zF zT fo lw hg at_ tl th wo1 wl1 wh1 (fo ((25 * jo) + p)) (lw ((25 * jo) + p)) hi1 di su an) H := hP
              have hD : va_D A (wM y h q tw pn ki on ot ab be zA zB zC zD zF zT fo lw hg at_ tl th wo1 wl1 wh1 (fo ((25 * jo) + p)) (lw ((25 * jo) + p)) hi1 di su an) := hD
              refine lv_aload_n hx hb dX8_replaces_149 rfl (lv_at hl 2 rfl) ?_
              refine lv_aload_n hx hb dX8_replaces_150 rfl (lv_at hl 2 rfl) ?_
              refine va_get (D := D) (ci := 6) (v := .ref (q 15)) (C := RX8) (T := TX8) (N := 28) hx hb hts in_X8_replaces_X8 hown hK.1 hP 0 rfl rfl 15 (by decide) (hts (.fieldLink RX8 51 "NestlimitModel" "highs" "[J") (List.mem_of_getElem? (i := 9) rfl)) (fun _ h9 => h9) rfl dX8_replaces_151 ?_
              refine lv_bipush (v := 25) hx hb dX8_replaces_154 (by decide) ?_
              refine lv_iload_n hx hb dX8_replaces_156 rfl (lv_at hl 4 rfl) ?_
              refine lv_imul hx hb dX8_replaces_157 ?_
              refine g_topi (pk_mul 25 jo) ?_
              refine lv_iload_n hx hb dX8_replaces_158 rfl (lv_at hl 5 rfl) ?_
              refine lv_iadd hx hb dX8_replaces_159 ?_
              refine g_topi (nI_add (25 * jo) p) ?_
              refine g_lald (k := (25 * jo) + p) hx hb hK.1 hP 14 1 rfl rfl (by omega) (by decide) dX8_replaces_160 ?_
              refine va_put (D := D) (ci := 6) (v := .long (hg ((25 * jo) + p))) (ty := .long) (C := RX8) (T := TX8) (N := 28) hx hb hts in_X8_replaces_X8 tyX8 tyX8_ok nmX8 hown hK.1 hP hD hS 0 rfl rfl 24 (by decide) (hts (.fieldLink RX8 100 "NestlimitModel" "high" "J") (List.mem_of_getElem? (i := 10) rfl)) (fun _ h9 => h9) rfl (by decide +kernel) (rfl) (rfl) (Nat.le_of_ble_eq_true rfl) dX8_replaces_161 (fun H locs hP hD hS => ?_)
              have hP : va_P D vwCl (wM y h q tw pn ki on ot ab be zA zB zC zD zF zT fo lw hg at_ tl th wo1 wl1 wh1 (fo ((25 * jo) + p)) (lw ((25 * jo) + p)) (hg ((25 * jo) + p)) di su an) H := hP
              have hD : va_D A (wM y h q tw pn ki on ot ab be zA zB zC zD zF zT fo lw hg at_ tl th wo1 wl1 wh1 (fo ((25 * jo) + p)) (lw ((25 * jo) + p)) (hg ((25 * jo) + p)) di su an) := hD
              refine lv_goto (tgt := 209) hx hb dX8_replaces_164 (by decide) ?_
              refine lv_aload_n hx hb dX8_replaces_209 rfl (lv_at hl 2 rfl) ?_
              refine va_get (D := D) (ci := 6) (v := .ref (q 19)) (C := RX8) (T := TX8) (N := 28) hx hb hts in_X8_replaces_X8 hown hK.1 hP 0 rfl rfl 19 (by decide) (hts (.fieldLink RX8 63 "NestlimitModel" "would" "[Z") (List.mem_of_getElem? (i := 4) rfl)) (fun _ h9 => h9) rfl dX8_replaces_210 ?_
              refine lv_iload hx hb dX8_replaces_213 (lv_at hl 6 rfl) ?_
              refine lv_aload_n hx hb dX8_replaces_215 rfl (lv_at hl 2 rfl) ?_
              refine va_get (D := D) (ci := 6) (v := .int (gB (fo ((25 * jo) + p)))) (C := RX8) (T := TX8) (N := 28) hx hb hts in_X8_replaces_X8 hown hK.1 hP 0 rfl rfl 22 (by decide) (hts (.fieldLink RX8 92 "NestlimitModel" "is" "Z") (List.mem_of_getElem? (i := 5) rfl)) (fun _ h9 => h9) rfl dX8_replaces_216 ?_
              refine g_zast (k := k) (x := fo ((25 * jo) + p)) hx hb hK.1 hP hD hS 18 2 rfl rfl (by omega) (by decide) dX8_replaces_219 (fun H locs hP hD hS => ?_)
              have hP : va_P D vwCl (wM y h q tw pn ki on ot ab be zA zB zC zD zF zT fo lw hg at_ tl th (upZ wo1 k (fo ((25 * jo) + p))) wl1 wh1 (fo ((25 * jo) + p)) (lw ((25 * jo) + p)) (hg ((25 * jo) + p)) di su an) H := hP
              have hD : va_D A (wM y h q tw pn ki on ot ab be zA zB zC zD zF zT fo lw hg at_ tl th (upZ wo1 k (fo ((25 * jo) + p))) wl1 wh1 (fo ((25 * jo) + p)) (lw ((25 * jo) + p)) (hg ((25 * jo) + p)) di su an) := hD
              refine lv_aload_n hx hb dX8_replaces_220 rfl (lv_at hl 2 rfl) ?_
              refine va_get (D := D) (ci := 6) (v := .ref (q 20)) (C := RX8) (T := TX8) (N := 28) hx hb hts in_X8_replaces_X8 hown hK.1 hP 0 rfl rfl 20 (by decide) (hts (.fieldLink RX8 66 "NestlimitModel" "wouldLow" "[J") (List.mem_of_getElem? (i := 11) rfl)) (fun _ h9 => h9) rfl dX8_replaces_221 ?_
              refine lv_iload hx hb dX8_replaces_224 (lv_at hl 6 rfl) ?_
              refine lv_aload_n hx hb dX8_replaces_226 rfl (lv_at hl 2 rfl) ?_
              refine va_get (D := D) (ci := 6) (v := .long (lw ((25 * jo) + p))) (C := RX8) (T := TX8) (N := 28) hx hb hts in_X8_replaces_X8 hown hK.1 hP 0 rfl rfl 23 (by decide) (hts (.fieldLink RX8 96 "NestlimitModel" "low" "J") (List.mem_of_getElem? (i := 8) rfl)) (fun _ h9 => h9) rfl dX8_replaces_227 ?_
              refine g_last (k := k) (x := lw ((25 * jo) + p)) hx hb hK.1 hP hD hS 19 1 rfl rfl (by omega) (by decide) dX8_replaces_230 (fun H locs hP hD hS => ?_)
              have hP : va_P D vwCl (wM y h q tw pn ki on ot ab be zA zB zC zD zF zT fo lw hg at_ tl th (upZ wo1 k (fo ((25 * jo) + p))) (vp_updL wl1 k (lw ((25 * jo) + p))) wh1 (fo ((25 * jo) + p)) (lw ((25 * jo) + p)) (hg ((25 * jo) + p)) di su an) H := hP
              have hD : va_D A (wM y h q tw pn ki on ot ab be zA zB zC zD zF zT fo lw hg at_ tl th (upZ wo1 k (fo ((25 * jo) + p))) (vp_updL wl1 k (lw ((25 * jo) + p))) wh1 (fo ((25 * jo) + p)) (lw ((25 * jo) + p)) (hg ((25 * jo) + p)) di su an) := hD
              refine lv_aload_n hx hb dX8_replaces_231 rfl (lv_at hl 2 rfl) ?_
              refine va_get (D := D) (ci := 6) (v := .ref (q 21)) (C := RX8) (T := TX8) (N := 28) hx hb hts in_X8_replaces_X8 hown hK.1 hP 0 rfl rfl 21 (by decide) (hts (.fieldLink RX8 69 "NestlimitModel" "wouldHigh" "[J") (List.mem_of_getElem? (i := 12) rfl)) (fun _ h9 => h9) rfl dX8_replaces_232 ?_
              refine lv_iload hx hb dX8_replaces_235 (lv_at hl 6 rfl) ?_
              refine lv_aload_n hx hb dX8_replaces_237 rfl (lv_at hl 2 rfl) ?_
              refine va_get (D := D) (ci := 6) (v := .long (hg ((25 * jo) + p))) (C := RX8) (T := TX8) (N := 28) hx hb hts in_X8_replaces_X8 hown hK.1 hP 0 rfl rfl 24 (by decide) (hts (.fieldLink RX8 100 "NestlimitModel" "high" "J") (List.mem_of_getElem? (i := 10) rfl)) (fun _ h9 => h9) rfl dX8_replaces_238 ?_
              refine g_last (k := k) (x := hg ((25 * jo) + p)) hx hb hK.1 hP hD hS 20 1 rfl rfl (by omega) (by decide) dX8_replaces_241 (fun H locs hP hD hS => ?_)
              have hP : va_P D vwCl (wM y h q tw pn ki on ot ab be zA zB zC zD zF zT fo lw hg at_ tl th (upZ wo1 k (fo ((25 * jo) + p))) (vp_updL wl1 k (lw ((25 * jo) + p))) (vp_updL wh1 k (hg ((25 * jo) + p))) (fo ((25 * jo) + p)) (lw ((25 * jo) + p)) (hg ((25 * jo) + p)) di su an) H := hP
              have hD : va_D A (wM y h q tw pn ki on ot ab be zA zB zC zD zF zT fo lw hg at_ tl th (upZ wo1 k (fo ((25 * jo) + p))) (vp_updL wl1 k (lw ((25 * jo) + p))) (vp_updL wh1 k (hg ((25 * jo) + p))) (fo ((25 * jo) + p)) (lw ((25 * jo) + p)) (hg ((25 * jo) + p)) di su an) := hD
              refine lv_iinc (v := nI (k + 1)) (lv' := [(4, .int (nI (k + 1))), (6, .int (nI o2)), (5, .int (nI o1)), (0, .ref h), (1, .int (nI g)), (2, .int (nI jo)), (3, .int (nI p))]) hx hb dX8_replaces_242 hl (k := 6) rfl (nI_add k 1) (by decide) rfl (fun ls hl => ?_)
              refine lv_goto (tgt := 3) hx hb dX8_replaces_245 (by decide) ?_
              exact ih3 (k + 1) (upZ wo1 k (fo ((25 * jo) + p))) (vp_updL wl1 k (lw ((25 * jo) + p))) (vp_updL wh1 k (hg ((25 * jo) + p))) (fo ((25 * jo) + p)) (lw ((25 * jo) + p)) (hg ((25 * jo) + p)) (by omega) (rp_d hd (by have e9 := nIinj (by omega) (by omega) c_116; subst e9; exact hgw.1.symm) (by have e9 := nIinj (by omega) (by omega) c_116; subst e9; intro z9; obtain ⟨z1, z2⟩ := hgw.2 z9; exact ⟨z1.symm, z2.symm⟩)) _ _ hP hD hS ls (lv_sub hl [3, 4, 5, 6, 0] rfl)
          · skip
            refine lv_iconst (v := 1) hx hb dX8_replaces_105 (by decide) ?_
            refine lv_goto (tgt := 110) hx hb dX8_replaces_106 (by decide) ?_
            refine va_put (D := D) (ci := 6) (v := .int (gB true)) (ty := .boolean) (C := RX8) (T := TX8) (N := 28) hx hb hts in_X8_replaces_X8 tyX8 tyX8_ok nmX8 hown hK.1 hP hD hS 0 rfl rfl 22 (by decide) (hts (.fieldLink RX8 92 "NestlimitModel" "is" "Z") (List.mem_of_getElem? (i := 5) rfl)) (fun _ h9 => h9) rfl (by decide +kernel) (gB_n _) (gB_f _) (Nat.le_of_ble_eq_true rfl) dX8_replaces_110 (fun H locs hP hD hS => ?_)
            have hP : va_P D vwCl (wM y h q tw pn ki on ot ab be zA zB zC zD zF zT fo lw hg at_ tl th wo1 wl1 wh1 true lo1 hi1 di su an) H := hP
            have hD : va_D A (wM y h q tw pn ki on ot ab be zA zB zC zD zF zT fo lw hg at_ tl th wo1 wl1 wh1 true lo1 hi1 di su an) := hD
            refine lv_iload hx hb dX8_replaces_113 (lv_at hl 6 rfl) ?_
            refine lv_iload_n hx hb dX8_replaces_115 rfl (lv_at hl 3 rfl) ?_
            refine lv_icmp_ne (tgt := 167) hx hb dX8_replaces_116 (by decide) (fun c_116 => ?_) (fun c_116 => ?_)
            · skip
              refine lv_aload_n hx hb dX8_replaces_167 rfl (lv_at hl 2 rfl) ?_
              refine va_get (D := D) (ci := 6) (v := .int (gB true)) (C := RX8) (T := TX8) (N := 28) hx hb hts in_X8_replaces_X8 hown hK.1 hP 0 rfl rfl 22 (by decide) (hts (.fieldLink RX8 92 "NestlimitModel" "is" "Z") (List.mem_of_getElem? (i := 5) rfl)) (fun _ h9 => h9) rfl dX8_replaces_168 ?_
              refine g_beq (tgt := 209) hx hb dX8_replaces_171 (by decide) (fun c_171 => absurd c_171 (by decide)) (fun c_171 => ?_)
              obtain ⟨I1, hI1⟩ : ∃ z, z = mk_is kd ab be zA zB zC zD zF zT lo1 hi1 k p (wl1 o1) (wh1 o1) (wl1 o2) (wh1 o2) := ⟨_, rfl⟩
              obtain ⟨L1, hL1⟩ : ∃ z, z = mk_lo kd ab be zA zB zC zD zF zT lo1 hi1 k p (wl1 o1) (wh1 o1) (wl1 o2) (wh1 o2) := ⟨_, rfl⟩
              obtain ⟨H1, hH1⟩ : ∃ z, z = mk_hi kd ab be zA zB zC zD zF zT lo1 hi1 k p (wl1 o1) (wh1 o1) (wl1 o2) (wh1 o2) := ⟨_, rfl⟩
              have w1 : cW o1 = true := by rw [← u1]; exact c_81
              have w2 : cW o2 = true := by rw [← u2]; exact c_102
              obtain ⟨y1, y2⟩ := v1 w1
              obtain ⟨y3, y4⟩ := v2 w2
              have hc9 := (hc (fun z9 => c_116 (by rw [z9]))).1 w1 w2 lo1 hi1
              rw [← y1, ← y2, ← y3, ← y4] at hc9
              have hok9 := hc9.1
              rw [← hI1, ← hL1, ← hH1] at hc9
              have hm1 := hc9.2.1
              have hm2 := hc9.2.2
              refine lv_aload_n hx hb dX8_replaces_174 rfl (lv_at hl 2 rfl) ?_
              refine lv_iload hx hb dX8_replaces_175 (lv_at hl 6 rfl) ?_
              refine lv_iload_n hx hb dX8_replaces_177 rfl (lv_at hl 5 rfl) ?_
              refine lv_aload_n hx hb dX8_replaces_178 rfl (lv_at hl 2 rfl) ?_
              refine va_get (D := D) (ci := 6) (v := .ref (q 20)) (C := RX8) (T := TX8) (N := 28) hx hb hts in_X8_replaces_X8 hown hK.1 hP 0 rfl rfl 20 (by decide) (hts (.fieldLink RX8 66 "NestlimitModel" "wouldLow" "[J") (List.mem_of_getElem? (i := 11) rfl)) (fun _ h9 => h9) rfl dX8_replaces_179 ?_
              refine lv_iload hx hb dX8_replaces_182 (lv_at hl 1 rfl) ?_
              refine g_lald (k := o1) hx hb hK.1 hP 19 1 rfl rfl (by omega) (by decide) dX8_replaces_184 ?_
              refine lv_aload_n hx hb dX8_replaces_185 rfl (lv_at hl 2 rfl) ?_
              refine va_get (D := D) (ci := 6) (v := .ref (q 21)) (C := RX8) (T := TX8) (N := 28) hx hb hts in_X8_replaces_X8 hown hK.1 hP 0 rfl rfl 21 (by decide) (hts (.fieldLink RX8 69 "NestlimitModel" "wouldHigh" "[J") (List.mem_of_getElem? (i := 12) rfl)) (fun _ h9 => h9) rfl dX8_replaces_186 ?_
              refine lv_iload hx hb dX8_replaces_189 (lv_at hl 1 rfl) ?_
              refine g_lald (k := o1) hx hb hK.1 hP 20 1 rfl rfl (by omega) (by decide) dX8_replaces_191 ?_
              refine lv_aload_n hx hb dX8_replaces_192 rfl (lv_at hl 2 rfl) ?_
              refine va_get (D := D) (ci := 6) (v := .ref (q 20)) (C := RX8) (T := TX8) (N := 28) hx hb hts in_X8_replaces_X8 hown hK.1 hP 0 rfl rfl 20 (by decide) (hts (.fieldLink RX8 66 "NestlimitModel" "wouldLow" "[J") (List.mem_of_getElem? (i := 11) rfl)) (fun _ h9 => h9) rfl dX8_replaces_193 ?_
              refine lv_iload hx hb dX8_replaces_196 (lv_at hl 0 rfl) ?_
              refine g_lald (k := o2) hx hb hK.1 hP 19 1 rfl rfl (by omega) (by decide) dX8_replaces_198 ?_
              refine lv_aload_n hx hb dX8_replaces_199 rfl (lv_at hl 2 rfl) ?_
              refine va_get (D := D) (ci := 6) (v := .ref (q 21)) (C := RX8) (T := TX8) (N := 28) hx hb hts in_X8_replaces_X8 hown hK.1 hP 0 rfl rfl 21 (by decide) (hts (.fieldLink RX8 69 "NestlimitModel" "wouldHigh" "[J") (List.mem_of_getElem? (i := 12) rfl)) (fun _ h9 => h9) rfl dX8_replaces_200 ?_
              refine lv_iload hx hb dX8_replaces_203 (lv_at hl 0 rfl) ?_
              refine g_lald (k := o2) hx hb hK.1 hP 20 1 rfl rfl (by omega) (by decide) dX8_replaces_205 ?_
              refine g_callAv (w0 := wM y h q tw pn ki on ot ab be zA zB zC zD zF zT fo lw hg at_ tl th wo1 wl1 wh1 I1 L1 H1 di su an) (va_runV (As := [.int (nI k), .int (nI p), .long (wl1 o1), .long (wh1 o1), .long (wl1 o2), .long (wh1 o2)]) (rest := []) ⟨hx, hb, hml, hown, hts⟩ (c_X8_makesV l D y H.size h q tw pn ki on ot ab be zA zB zC zD zF zT fo lw hg at_ tl th wo1 wl1 wh1 true lo1 hi1 di su an kd k p (wl1 o1) (wh1 o1) (wl1 o2) (wh1 o2) I1 L1 H1 (by omega) hp hkd hki hok9 hI1.symm hL1.symm hH1.symm) (cwV 6 hts gX8_replaces_X8_makes rfl rfl rfl (by decide +kernel) ⟨Nat.le_of_ble_eq_true rfl, Nat.le_of_ble_eq_true rfl⟩) (gP_VA hP hD hK 0 rfl rfl) rfl rfl hl.1 rfl (lv_room (Nat.le_of_ble_eq_true rfl)) dX8_replaces_206 ⟨Nat.zero_le _, Nat.zero_le _⟩) hP hD hS hA rfl (fun H locs hP hD hS => ?_)
              refine lv_aload_n hx hb dX8_replaces_209 rfl (lv_at hl 2 rfl) ?_
              refine va_get (D := D) (ci := 6) (v := .ref (q 19)) (C := RX8) (T := TX8) (N := 28) hx hb hts in_X8_replaces_X8 hown hK.1 hP 0 rfl rfl 19 (by decide) (hts (.fieldLink RX8 63 "NestlimitModel" "would" "[Z") (List.mem_of_getElem? (i := 4) rfl)) (fun _ h9 => h9) rfl dX8_replaces_210 ?_
              refine lv_iload hx hb dX8_replaces_213 (lv_at hl 6 rfl) ?_
              refine lv_aload_n hx hb dX8_replaces_215 rfl (lv_at hl 2 rfl) ?_
              refine va_get (D := D) (ci := 6) (v := .int (gB I1)) (C := RX8) (T := TX8) (N := 28) hx hb hts in_X8_replaces_X8 hown hK.1 hP 0 rfl rfl 22 (by decide) (hts (.fieldLink RX8 92 "NestlimitModel" "is" "Z") (List.mem_of_getElem? (i := 5) rfl)) (fun _ h9 => h9) rfl dX8_replaces_216 ?_
              refine g_zast (k := k) (x := I1) hx hb hK.1 hP hD hS 18 2 rfl rfl (by omega) (by decide) dX8_replaces_219 (fun H locs hP hD hS => ?_)
              have hP : va_P D vwCl (wM y h q tw pn ki on ot ab be zA zB zC zD zF zT fo lw hg at_ tl th (upZ wo1 k I1) wl1 wh1 I1 L1 H1 di su an) H := hP
              have hD : va_D A (wM y h q tw pn ki on ot ab be zA zB zC zD zF zT fo lw hg at_ tl th (upZ wo1 k I1) wl1 wh1 I1 L1 H1 di su an) := hD
              refine lv_aload_n hx hb dX8_replaces_220 rfl (lv_at hl 2 rfl) ?_
              refine va_get (D := D) (ci := 6) (v := .ref (q 20)) (C := RX8) (T := TX8) (N := 28) hx hb hts in_X8_replaces_X8 hown hK.1 hP 0 rfl rfl 20 (by decide) (hts (.fieldLink RX8 66 "NestlimitModel" "wouldLow" "[J") (List.mem_of_getElem? (i := 11) rfl)) (fun _ h9 => h9) rfl dX8_replaces_221 ?_
              refine lv_iload hx hb dX8_replaces_224 (lv_at hl 6 rfl) ?_
              refine lv_aload_n hx hb dX8_replaces_226 rfl (lv_at hl 2 rfl) ?_
              refine va_get (D := D) (ci := 6) (v := .long L1) (C := RX8) (T := TX8) (N := 28) hx hb hts in_X8_replaces_X8 hown hK.1 hP 0 rfl rfl 23 (by decide) (hts (.fieldLink RX8 96 "NestlimitModel" "low" "J") (List.mem_of_getElem? (i := 8) rfl)) (fun _ h9 => h9) rfl dX8_replaces_227 ?_
              refine g_last (k := k) (x := L1) hx hb hK.1 hP hD hS 19 1 rfl rfl (by omega) (by decide) dX8_replaces_230 (fun H locs hP hD hS => ?_)
              have hP : va_P D vwCl (wM y h q tw pn ki on ot ab be zA zB zC zD zF zT fo lw hg at_ tl th (upZ wo1 k I1) (vp_updL wl1 k L1) wh1 I1 L1 H1 di su an) H := hP
              have hD : va_D A (wM y h q tw pn ki on ot ab be zA zB zC zD zF zT fo lw hg at_ tl th (upZ wo1 k I1) (vp_updL wl1 k L1) wh1 I1 L1 H1 di su an) := hD
              refine lv_aload_n hx hb dX8_replaces_231 rfl (lv_at hl 2 rfl) ?_
              refine va_get (D := D) (ci := 6) (v := .ref (q 21)) (C := RX8) (T := TX8) (N := 28) hx hb hts in_X8_replaces_X8 hown hK.1 hP 0 rfl rfl 21 (by decide) (hts (.fieldLink RX8 69 "NestlimitModel" "wouldHigh" "[J") (List.mem_of_getElem? (i := 12) rfl)) (fun _ h9 => h9) rfl dX8_replaces_232 ?_
              refine lv_iload hx hb dX8_replaces_235 (lv_at hl 6 rfl) ?_
              refine lv_aload_n hx hb dX8_replaces_237 rfl (lv_at hl 2 rfl) ?_
              refine va_get (D := D) (ci := 6) (v := .long H1) (C := RX8) (T := TX8) (N := 28) hx hb hts in_X8_replaces_X8 hown hK.1 hP 0 rfl rfl 24 (by decide) (hts (.fieldLink RX8 100 "NestlimitModel" "high" "J") (List.mem_of_getElem? (i := 10) rfl)) (fun _ h9 => h9) rfl dX8_replaces_238 ?_
              refine g_last (k := k) (x := H1) hx hb hK.1 hP hD hS 20 1 rfl rfl (by omega) (by decide) dX8_replaces_241 (fun H locs hP hD hS => ?_)
              have hP : va_P D vwCl (wM y h q tw pn ki on ot ab be zA zB zC zD zF zT fo lw hg at_ tl th (upZ wo1 k I1) (vp_updL wl1 k L1) (vp_updL wh1 k H1) I1 L1 H1 di su an) H := hP
              have hD : va_D A (wM y h q tw pn ki on ot ab be zA zB zC zD zF zT fo lw hg at_ tl th (upZ wo1 k I1) (vp_updL wl1 k L1) (vp_updL wh1 k H1) I1 L1 H1 di su an) := hD
              refine lv_iinc (v := nI (k + 1)) (lv' := [(4, .int (nI (k + 1))), (6, .int (nI o2)), (5, .int (nI o1)), (0, .ref h), (1, .int (nI g)), (2, .int (nI jo)), (3, .int (nI p))]) hx hb dX8_replaces_242 hl (k := 6) rfl (nI_add k 1) (by decide) rfl (fun ls hl => ?_)
              refine lv_goto (tgt := 3) hx hb dX8_replaces_245 (by decide) ?_
              exact ih3 (k + 1) (upZ wo1 k I1) (vp_updL wl1 k L1) (vp_updL wh1 k H1) I1 L1 H1 (by omega) (rp_d hd hm1 hm2) _ _ hP hD hS ls (lv_sub hl [3, 4, 5, 6, 0] rfl)
            · skip
              refine lv_aload_n hx hb dX8_replaces_119 rfl (lv_at hl 2 rfl) ?_
              refine lv_aload_n hx hb dX8_replaces_120 rfl (lv_at hl 2 rfl) ?_
              refine va_get (D := D) (ci := 6) (v := .ref (q 13)) (C := RX8) (T := TX8) (N := 28) hx hb hts in_X8_replaces_X8 hown hK.1 hP 0 rfl rfl 13 (by decide) (hts (.fieldLink RX8 43 "NestlimitModel" "found" "[Z") (List.mem_of_getElem? (i := 6) rfl)) (fun _ h9 => h9) rfl dX8_replaces_121 ?_
              refine lv_bipush (v := 25) hx hb dX8_replaces_124 (by decide) ?_
              refine lv_iload_n hx hb dX8_replaces_126 rfl (lv_at hl 4 rfl) ?_
              refine lv_imul hx hb dX8_replaces_127 ?_
              refine g_topi (pk_mul 25 jo) ?_
              refine lv_iload_n hx hb dX8_replaces_128 rfl (lv_at hl 5 rfl) ?_
              refine lv_iadd hx hb dX8_replaces_129 ?_
              refine g_topi (nI_add (25 * jo) p) ?_
              refine g_zald (k := (25 * jo) + p) hx hb hK.1 hP 12 2 rfl rfl (by omega) (by decide) dX8_replaces_130 ?_
              refine va_put (D := D) (ci := 6) (v := .int (gB (fo ((25 * jo) + p)))) (ty := .boolean) (C := RX8) (T := TX8) (N := 28) hx hb hts in_X8_replaces_X8 tyX8 tyX8_ok nmX8 hown hK.1 hP hD hS 0 rfl rfl 22 (by decide) (hts (.fieldLink RX8 92 "NestlimitModel" "is" "Z") (List.mem_of_getElem? (i := 5) rfl)) (fun _ h9 => h9) rfl (by decide +kernel) (gB_n _) (gB_f _) (Nat.le_of_ble_eq_true rfl) dX8_replaces_131 (fun H locs hP hD hS => ?_)
              have hP : va_P D vwCl (wM y h q tw pn ki on ot ab be zA zB zC zD zF zT fo lw hg at_ tl th wo1 wl1 wh1 (fo ((25 * jo) + p)) lo1 hi1 di su an) H := hP
              have hD : va_D A (wM y h q tw pn ki on ot ab be zA zB zC zD zF zT fo lw hg at_ tl th wo1 wl1 wh1 (fo ((25 * jo) + p)) lo1 hi1 di su an) := hD
              refine lv_aload_n hx hb dX8_replaces_134 rfl (lv_at hl 2 rfl) ?_
              refine lv_aload_n hx hb dX8_replaces_135 rfl (lv_at hl 2 rfl) ?_
              refine va_get (D := D) (ci := 6) (v := .ref (q 14)) (C := RX8) (T := TX8) (N := 28) hx hb hts in_X8_replaces_X8 hown hK.1 hP 0 rfl rfl 14 (by decide) (hts (.fieldLink RX8 47 "NestlimitModel" "lows" "[J") (List.mem_of_getElem? (i := 7) rfl)) (fun _ h9 => h9) rfl dX8_replaces_136 ?_
              refine lv_bipush (v := 25) hx hb dX8_replaces_139 (by decide) ?_
              refine lv_iload_n hx hb dX8_replaces_141 rfl (lv_at hl 4 rfl) ?_
              refine lv_imul hx hb dX8_replaces_142 ?_
              refine g_topi (pk_mul 25 jo) ?_
              refine lv_iload_n hx hb dX8_replaces_143 rfl (lv_at hl 5 rfl) ?_
              refine lv_iadd hx hb dX8_replaces_144 ?_
              refine g_topi (nI_add (25 * jo) p) ?_
              refine g_lald (k := (25 * jo) + p) hx hb hK.1 hP 13 1 rfl rfl (by omega) (by decide) dX8_replaces_145 ?_
              refine va_put (D := D) (ci := 6) (v := .long (lw ((25 * jo) + p))) (ty := .long) (C := RX8) (T := TX8) (N := 28) hx hb hts in_X8_replaces_X8 tyX8 tyX8_ok nmX8 hown hK.1 hP hD hS 0 rfl rfl 23 (by decide) (hts (.fieldLink RX8 96 "NestlimitModel" "low" "J") (List.mem_of_getElem? (i := 8) rfl)) (fun _ h9 => h9) rfl (by decide +kernel) (rfl) (rfl) (Nat.le_of_ble_eq_true rfl) dX8_replaces_146 (fun H locs hP hD hS => ?_)
              have hP : va_P D vwCl (wM y h q tw pn ki on ot ab be zA zB zC zD zF zT fo lw hg at_ tl th wo1 wl1 wh1 (fo ((25 * jo) + p)) (lw ((25 * jo) + p)) hi1 di su an) H := hP
              have hD : va_D A (wM y h q tw pn ki on ot ab be zA zB zC zD zF zT fo lw hg at_ tl th wo1 wl1 wh1 (fo ((25 * jo) + p)) (lw ((25 * jo) + p)) hi1 di su an) := hD
              refine lv_aload_n hx hb dX8_replaces_149 rfl (lv_at hl 2 rfl) ?_
              refine lv_aload_n hx hb dX8_replaces_150 rfl (lv_at hl 2 rfl) ?_
              refine va_get (D := D) (ci := 6) (v := .ref (q 15)) (C := RX8) (T := TX8) (N := 28) hx hb hts in_X8_replaces_X8 hown hK.1 hP 0 rfl rfl 15 (by decide) (hts (.fieldLink RX8 51 "NestlimitModel" "highs" "[J") (List.mem_of_getElem? (i := 9) rfl)) (fun _ h9 => h9) rfl dX8_replaces_151 ?_
              refine lv_bipush (v := 25) hx hb dX8_replaces_154 (by decide) ?_
              refine lv_iload_n hx hb dX8_replaces_156 rfl (lv_at hl 4 rfl) ?_
              refine lv_imul hx hb dX8_replaces_157 ?_
              refine g_topi (pk_mul 25 jo) ?_
              refine lv_iload_n hx hb dX8_replaces_158 rfl (lv_at hl 5 rfl) ?_
              refine lv_iadd hx hb dX8_replaces_159 ?_
              refine g_topi (nI_add (25 * jo) p) ?_
              refine g_lald (k := (25 * jo) + p) hx hb hK.1 hP 14 1 rfl rfl (by omega) (by decide) dX8_replaces_160 ?_
              refine va_put (D := D) (ci := 6) (v := .long (hg ((25 * jo) + p))) (ty := .long) (C := RX8) (T := TX8) (N := 28) hx hb hts in_X8_replaces_X8 tyX8 tyX8_ok nmX8 hown hK.1 hP hD hS 0 rfl rfl 24 (by decide) (hts (.fieldLink RX8 100 "NestlimitModel" "high" "J") (List.mem_of_getElem? (i := 10) rfl)) (fun _ h9 => h9) rfl (by decide +kernel) (rfl) (rfl) (Nat.le_of_ble_eq_true rfl) dX8_replaces_161 (fun H locs hP hD hS => ?_)
              have hP : va_P D vwCl (wM y h q tw pn ki on ot ab be zA zB zC zD zF zT fo lw hg at_ tl th wo1 wl1 wh1 (fo ((25 * jo) + p)) (lw ((25 * jo) + p)) (hg ((25 * jo) + p)) di su an) H := hP
              have hD : va_D A (wM y h q tw pn ki on ot ab be zA zB zC zD zF zT fo lw hg at_ tl th wo1 wl1 wh1 (fo ((25 * jo) + p)) (lw ((25 * jo) + p)) (hg ((25 * jo) + p)) di su an) := hD
              refine lv_goto (tgt := 209) hx hb dX8_replaces_164 (by decide) ?_
              refine lv_aload_n hx hb dX8_replaces_209 rfl (lv_at hl 2 rfl) ?_
              refine va_get (D := D) (ci := 6) (v := .ref (q 19)) (C := RX8) (T := TX8) (N := 28) hx hb hts in_X8_replaces_X8 hown hK.1 hP 0 rfl rfl 19 (by decide) (hts (.fieldLink RX8 63 "NestlimitModel" "would" "[Z") (List.mem_of_getElem? (i := 4) rfl)) (fun _ h9 => h9) rfl dX8_replaces_210 ?_
              refine lv_iload hx hb dX8_replaces_213 (lv_at hl 6 rfl) ?_
              refine lv_aload_n hx hb dX8_replaces_215 rfl (lv_at hl 2 rfl) ?_
              refine va_get (D := D) (ci := 6) (v := .int (gB (fo ((25 * jo) + p)))) (C := RX8) (T := TX8) (N := 28) hx hb hts in_X8_replaces_X8 hown hK.1 hP 0 rfl rfl 22 (by decide) (hts (.fieldLink RX8 92 "NestlimitModel" "is" "Z") (List.mem_of_getElem? (i := 5) rfl)) (fun _ h9 => h9) rfl dX8_replaces_216 ?_
              refine g_zast (k := k) (x := fo ((25 * jo) + p)) hx hb hK.1 hP hD hS 18 2 rfl rfl (by omega) (by decide) dX8_replaces_219 (fun H locs hP hD hS => ?_)
              have hP : va_P D vwCl (wM y h q tw pn ki on ot ab be zA zB zC zD zF zT fo lw hg at_ tl th (upZ wo1 k (fo ((25 * jo) + p))) wl1 wh1 (fo ((25 * jo) + p)) (lw ((25 * jo) + p)) (hg ((25 * jo) + p)) di su an) H := hP
              have hD : va_D A (wM y h q tw pn ki on ot ab be zA zB zC zD zF zT fo lw hg at_ tl th (upZ wo1 k (fo ((25 * jo) + p))) wl1 wh1 (fo ((25 * jo) + p)) (lw ((25 * jo) + p)) (hg ((25 * jo) + p)) di su an) := hD
              refine lv_aload_n hx hb dX8_replaces_220 rfl (lv_at hl 2 rfl) ?_
              refine va_get (D := D) (ci := 6) (v := .ref (q 20)) (C := RX8) (T := TX8) (N := 28) hx hb hts in_X8_replaces_X8 hown hK.1 hP 0 rfl rfl 20 (by decide) (hts (.fieldLink RX8 66 "NestlimitModel" "wouldLow" "[J") (List.mem_of_getElem? (i := 11) rfl)) (fun _ h9 => h9) rfl dX8_replaces_221 ?_
              refine lv_iload hx hb dX8_replaces_224 (lv_at hl 6 rfl) ?_
              refine lv_aload_n hx hb dX8_replaces_226 rfl (lv_at hl 2 rfl) ?_
              refine va_get (D := D) (ci := 6) (v := .long (lw ((25 * jo) + p))) (C := RX8) (T := TX8) (N := 28) hx hb hts in_X8_replaces_X8 hown hK.1 hP 0 rfl rfl 23 (by decide) (hts (.fieldLink RX8 96 "NestlimitModel" "low" "J") (List.mem_of_getElem? (i := 8) rfl)) (fun _ h9 => h9) rfl dX8_replaces_227 ?_
              refine g_last (k := k) (x := lw ((25 * jo) + p)) hx hb hK.1 hP hD hS 19 1 rfl rfl (by omega) (by decide) dX8_replaces_230 (fun H locs hP hD hS => ?_)
              have hP : va_P D vwCl (wM y h q tw pn ki on ot ab be zA zB zC zD zF zT fo lw hg at_ tl th (upZ wo1 k (fo ((25 * jo) + p))) (vp_updL wl1 k (lw ((25 * jo) + p))) wh1 (fo ((25 * jo) + p)) (lw ((25 * jo) + p)) (hg ((25 * jo) + p)) di su an) H := hP
              have hD : va_D A (wM y h q tw pn ki on ot ab be zA zB zC zD zF zT fo lw hg at_ tl th (upZ wo1 k (fo ((25 * jo) + p))) (vp_updL wl1 k (lw ((25 * jo) + p))) wh1 (fo ((25 * jo) + p)) (lw ((25 * jo) + p)) (hg ((25 * jo) + p)) di su an) := hD
              refine lv_aload_n hx hb dX8_replaces_231 rfl (lv_at hl 2 rfl) ?_
              refine va_get (D := D) (ci := 6) (v := .ref (q 21)) (C := RX8) (T := TX8) (N := 28) hx hb hts in_X8_replaces_X8 hown hK.1 hP 0 rfl rfl 21 (by decide) (hts (.fieldLink RX8 69 "NestlimitModel" "wouldHigh" "[J") (List.mem_of_getElem? (i := 12) rfl)) (fun _ h9 => h9) rfl dX8_replaces_232 ?_
              refine lv_iload hx hb dX8_replaces_235 (lv_at hl 6 rfl) ?_
              refine lv_aload_n hx hb dX8_replaces_237 rfl (lv_at hl 2 rfl) ?_
              refine va_get (D := D) (ci := 6) (v := .long (hg ((25 * jo) + p))) (C := RX8) (T := TX8) (N := 28) hx hb hts in_X8_replaces_X8 hown hK.1 hP 0 rfl rfl 24 (by decide) (hts (.fieldLink RX8 100 "NestlimitModel" "high" "J") (List.mem_of_getElem? (i := 10) rfl)) (fun _ h9 => h9) rfl dX8_replaces_238 ?_
              refine g_last (k := k) (x := hg ((25 * jo) + p)) hx hb hK.1 hP hD hS 20 1 rfl rfl (by omega) (by decide) dX8_replaces_241 (fun H locs hP hD hS => ?_)
              have hP : va_P D vwCl (wM y h q tw pn ki on ot ab be zA zB zC zD zF zT fo lw hg at_ tl th (upZ wo1 k (fo ((25 * jo) + p))) (vp_updL wl1 k (lw ((25 * jo) + p))) (vp_updL wh1 k (hg ((25 * jo) + p))) (fo ((25 * jo) + p)) (lw ((25 * jo) + p)) (hg ((25 * jo) + p)) di su an) H := hP
              have hD : va_D A (wM y h q tw pn ki on ot ab be zA zB zC zD zF zT fo lw hg at_ tl th (upZ wo1 k (fo ((25 * jo) + p))) (vp_updL wl1 k (lw ((25 * jo) + p))) (vp_updL wh1 k (hg ((25 * jo) + p))) (fo ((25 * jo) + p)) (lw ((25 * jo) + p)) (hg ((25 * jo) + p)) di su an) := hD
              refine lv_iinc (v := nI (k + 1)) (lv' := [(4, .int (nI (k + 1))), (6, .int (nI o2)), (5, .int (nI o1)), (0, .ref h), (1, .int (nI g)), (2, .int (nI jo)), (3, .int (nI p))]) hx hb dX8_replaces_242 hl (k := 6) rfl (nI_add k 1) (by decide) rfl (fun ls hl => ?_)
              refine lv_goto (tgt := 3) hx hb dX8_replaces_245 (by decide) ?_
              exact ih3 (k + 1) (upZ wo1 k (fo ((25 * jo) + p))) (vp_updL wl1 k (lw ((25 * jo) + p))) (vp_updL wh1 k (hg ((25 * jo) + p))) (fo ((25 * jo) + p)) (lw ((25 * jo) + p)) (hg ((25 * jo) + p)) (by omega) (rp_d hd (by have e9 := nIinj (by omega) (by omega) c_116; subst e9; exact hgw.1.symm) (by have e9 := nIinj (by omega) (by omega) c_116; subst e9; intro z9; obtain ⟨z1, z2⟩ := hgw.2 z9; exact ⟨z1.symm, z2.symm⟩)) _ _ hP hD hS ls (lv_sub hl [3, 4, 5, 6, 0] rfl)
  exact LOOP3 pn 0 wo wl wh is_ lo_ hi_ (by omega) (fun j hj => absurd hj (Nat.not_lt_zero j)) _ _ hP hD hS ls (lv_sub hl [1, 2, 3, 4, 0] rfl)
