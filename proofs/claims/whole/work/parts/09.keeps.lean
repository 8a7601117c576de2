theorem g_nm1 {x : Int32} {o : Nat} (h : x = nI o) (ho : o < 40) : ¬ x = -1 := by
  rw [h]
  have h2 : ∀ p : Fin 40, ¬ nI p.val = -1 := by decide
  exact h2 ⟨o, ho⟩
theorem g_p1 {p : Nat} (h : ¬ nI p ≤ 0) : 1 ≤ p := by
  rcases Nat.eq_zero_or_pos p with z | z
  · exact absurd (by rw [z]; decide) h
  · exact z
def gI1 (f x : Bool) : Bool := if f = true then x else false
def gL1 (f : Bool) (x z : Int64) : Int64 := if f = true then x else z
def kaB (p : Nat) (b : Bool) : Bool := if nI p ≤ 0 then false else b
def kaA (b x : Bool) : Bool := if b = true then true else if x = true then true else false
def kaL (b x : Bool) (z v : Int64) : Int64 := if b = true then (if x = true then sp_X8_most (2 * z) v else 2 * z) else v
def kaH (b x : Bool) (z v : Int64) : Int64 := if b = true then (if x = true then sp_X8_least (2 * z) v else 2 * z) else v
theorem c_X8_makesV (l : Launch) (D : va_G) (y : Nat → ClassId) (sz : Nat) (h : Nat) (q : Nat → Nat) (tw : Int32) (pn : Nat) (ki on ot ab be zA zB zC zD zF zT : Nat → Int32) (fo : Nat → Bool) (lw hg : Nat → Int64) (at_ : Nat → Bool) (tl th : Nat → Int64) (wo : Nat → Bool) (wl wh : Nat → Int64) (is_ : Bool) (lo_ hi_ : Int64) (di : Nat → Int32) (su : Nat → Int64) (an : Nat → Bool) (kd : Nat) (k p : Nat) (al ah bl bh : Int64) (I1 : Bool) (L1 H1 : Int64) (hk : k < 40) (hp : p < 25) (hkd : kd ≤ 8) (hki : ki k = nI kd) (hok : mkOK kd be zF zT k al ah) (hI1 : mk_is kd ab be zA zB zC zD zF zT lo_ hi_ k p al ah bl bh = I1) (hL1 : mk_lo kd ab be zA zB zC zD zF zT lo_ hi_ k p al ah bl bh = L1) (hH1 : mk_hi kd ab be zA zB zC zD zF zT lo_ hi_ k p al ah bl bh = H1) : Met l yX8_makes wsX8_makes ({ frames := 3, cells := 0, slots := 0, locals := 90 } : Room) (gP D y [.ref h, .int (nI k), .int (nI p), .long al, .long ah, .long bl, .long bh] (wM y h q tw pn ki on ot ab be zA zB zC zD zF zT fo lw hg at_ tl th wo wl wh is_ lo_ hi_ di su an) sz) (gQ D (wM y h q tw pn ki on ot ab be zA zB zC zD zF zT fo lw hg at_ tl th wo wl wh is_ lo_ hi_ di su an) (gF none (wM y h q tw pn ki on ot ab be zA zB zC zD zF zT fo lw hg at_ tl th wo wl wh I1 L1 H1 di su an))) 0 0 (va_A (wM y h q tw pn ki on ot ab be zA zB zC zD zF zT fo lw hg at_ tl th wo wl wh is_ lo_ hi_ di su an) sz) := by
  subst hI1 hL1 hH1
  exact c_X8_makes l D y sz h q tw pn ki on ot ab be zA zB zC zD zF zT fo lw hg at_ tl th wo wl wh is_ lo_ hi_ di su an kd k p al ah bl bh hk hp hkd hki hok
theorem in_X8_keepsAt_X8 : ∀ w ∈ wsX80, w ∈ wsX8_keepsAt := fun _ h => List.mem_cons_of_mem _ (List.mem_append_right _ h)
set_option maxHeartbeats 4000000 in
set_option maxRecDepth 100000 in
theorem c_X8_keepsAt_0 (l : Launch) (D : va_G) (y : Nat → ClassId) (sz : Nat) (h : Nat) (q : Nat → Nat) (tw : Int32) (pn : Nat) (ki on ot ab be zA zB zC zD zF zT : Nat → Int32) (fo : Nat → Bool) (lw hg : Nat → Int64) (at_ : Nat → Bool) (tl th : Nat → Int64) (wo : Nat → Bool) (wl wh : Nat → Int64) (is_ : Bool) (lo_ hi_ : Int64) (di : Nat → Int32) (su : Nat → Int64) (an : Nat → Bool) (kd k p : Nat) (I1 : Bool) (L1 H1 : Int64) (hk : k < 40) (hp : p < 25) (hkd : kd ≤ 8) (hki : ki k = nI kd) (hon : on k = -1) (hot : ot k = -1) (hok : mkOK kd be zF zT k (lw (25 * k + p)) (hg (25 * k + p))) (hI1 : mk_is kd ab be zA zB zC zD zF zT lo_ hi_ k p (lw (25 * k + p)) (hg (25 * k + p)) (lw (25 * k + p)) (hg (25 * k + p)) = I1) (hL1 : mk_lo kd ab be zA zB zC zD zF zT lo_ hi_ k p (lw (25 * k + p)) (hg (25 * k + p)) (lw (25 * k + p)) (hg (25 * k + p)) = L1) (hH1 : mk_hi kd ab be zA zB zC zD zF zT lo_ hi_ k p (lw (25 * k + p)) (hg (25 * k + p)) (lw (25 * k + p)) (hg (25 * k + p)) = H1) : Met l yX8_keepsAt wsX8_keepsAt ({ frames := 4, cells := 0, slots := 0, locals := 122 } : Room) (gP D y [.ref h, .int (nI k), .int (nI p)] (wM y h q tw pn ki on ot ab be zA zB zC zD zF zT fo lw hg at_ tl th wo wl wh is_ lo_ hi_ di su an) sz) (gQ D (wM y h q tw pn ki on ot ab be zA zB zC zD zF zT fo lw hg at_ tl th wo wl wh is_ lo_ hi_ di su an) (gF none (wM y h q tw pn ki on ot ab be zA zB zC zD zF zT (upZ fo ((25 * k) + p) (I1)) (vp_updL lw ((25 * k) + p) (L1)) (vp_updL hg ((25 * k) + p) (H1)) (upZ at_ ((25 * k) + p) (kaA (kaB p (at_ ((25 * k) + p - 1))) (I1))) (vp_updL tl ((25 * k) + p) (kaL (kaB p (at_ ((25 * k) + p - 1))) (I1) (tl ((25 * k) + p - 1)) (L1))) (vp_updL th ((25 * k) + p) (kaH (kaB p (at_ ((25 * k) + p - 1))) (I1) (th ((25 * k) + p - 1)) (H1))) wo wl wh I1 L1 H1 di su an))) 0 0 (va_A (wM y h q tw pn ki on ot ab be zA zB zC zD zF zT fo lw hg at_ tl th wo wl wh is_ lo_ hi_ di su an) sz) := by
  refine Met.ofW (cc := cX8_keepsAt) (maxL := 7) (ret := none) (by decide) rfl ?_
  intro pg e s m args below meth c s₁ B hml hv
  obtain ⟨rfl, hsz, hP, hK, hD0⟩ := hv
  have hx := B.exec
  have hb := B.bytes
  have hr := B.returns
  have hts := atoms_spec (ws := wsX8_keepsAt) B.pre
  have hown : s.vm.findClass RX8 = some m.cls := findClass_of_methodNamed B.named
  have hlocks := B.notSynchronized
  subst hsz
  obtain ⟨A, hAe⟩ : ∃ A : Nat → Prop, A = va_A (wM y h q tw pn ki on ot ab be zA zB zC zD zF zT fo lw hg at_ tl th wo wl wh is_ lo_ hi_ di su an) s.heap.size := ⟨_, rfl⟩
  have hD : va_D A (wM y h q tw pn ki on ot ab be zA zB zC zD zF zT fo lw hg at_ tl th wo wl wh is_ lo_ hi_ di su an) := by rw [hAe]; exact hD0.self (sz := s.heap.size)
  have hA : ∀ q : Nat, s.heap.size ≤ q → A q := fun q h => by rw [hAe]; exact Or.inr h
  have hS : va_S A s.heap s.heap [] := va_S.rf
  have hl := lv_entry ([.ref h, .int (nI k), .int (nI p)]) (n := 7) (Nat.le_of_ble_eq_true rfl)
  rw [lg_entry_eq]
  generalize (lg_sl ([.ref h, .int (nI k), .int (nI p)]) ++ List.replicate (7 - (lg_sl ([.ref h, .int (nI k), .int (nI p)])).length) Slot.unset).toArray = ls at hl ⊢
  have hl : lv_has ls 7 [(0, .ref h), (1, .int (nI k)), (2, .int (nI p))] := hl
  refine lv_bipush (v := 25) hx hb dX8_keepsAt_0 (by decide) ?_
  refine lv_iload_n hx hb dX8_keepsAt_2 rfl (lv_at hl 1 rfl) ?_
  refine lv_imul hx hb dX8_keepsAt_3 ?_
  refine g_topi (pk_mul 25 k) ?_
  refine lv_iload_n hx hb dX8_keepsAt_4 rfl (lv_at hl 2 rfl) ?_
  refine lv_iadd hx hb dX8_keepsAt_5 ?_
  refine g_topi (nI_add (25 * k) p) ?_
  refine lv_istore_n (lv' := [(3, .int (nI ((25 * k) + p))), (0, .ref h), (1, .int (nI k)), (2, .int (nI p))]) hx hb dX8_keepsAt_6 rfl hl (by decide) rfl (fun ls hl => ?_)
  refine lv_bipush (v := 25) hx hb dX8_keepsAt_7 (by decide) ?_
  refine lv_aload_n hx hb dX8_keepsAt_9 rfl (lv_at hl 1 rfl) ?_
  refine va_get (D := D) (ci := 6) (v := .ref (q 3)) (C := RX8) (T := TX8) (N := 28) hx hb hts in_X8_keepsAt_X8 hown hK.1 hP 0 rfl rfl 3 (by decide) (hts (.fieldLink RX8 13 "NestlimitModel" "ones" "[I") (List.mem_of_getElem? (i := 1) rfl)) (fun _ h9 => h9) rfl dX8_keepsAt_10 ?_
  refine lv_iload_n hx hb dX8_keepsAt_13 rfl (lv_at hl 2 rfl) ?_
  refine g_iald (k := k) hx hb hK.1 hP 2 0 rfl rfl (hk) (by decide) dX8_keepsAt_14 ?_
  refine lv_iconst (v := -1) hx hb dX8_keepsAt_15 (by decide) ?_
  refine lv_icmp_ne (tgt := 23) hx hb dX8_keepsAt_16 (by decide) (fun c_16 => absurd hon c_16) (fun c_16 => ?_)
  refine lv_iload_n hx hb dX8_keepsAt_19 rfl (lv_at hl 2 rfl) ?_
  refine lv_goto (tgt := 29) hx hb dX8_keepsAt_20 (by decide) ?_
  refine lv_imul hx hb dX8_keepsAt_29 ?_
  refine g_topi (pk_mul 25 k) ?_
  refine lv_iload_n hx hb dX8_keepsAt_30 rfl (lv_at hl 3 rfl) ?_
  refine lv_iadd hx hb dX8_keepsAt_31 ?_
  refine g_topi (nI_add (25 * k) p) ?_
  refine lv_istore (lv' := [(4, .int (nI ((25 * k) + p))), (3, .int (nI ((25 * k) + p))), (0, .ref h), (1, .int (nI k)), (2, .int (nI p))]) hx hb dX8_keepsAt_32 hl (by decide) rfl (fun ls hl => ?_)
  refine lv_bipush (v := 25) hx hb dX8_keepsAt_34 (by decide) ?_
  refine lv_aload_n hx hb dX8_keepsAt_36 rfl (lv_at hl 2 rfl) ?_
  refine va_get (D := D) (ci := 6) (v := .ref (q 4)) (C := RX8) (T := TX8) (N := 28) hx hb hts in_X8_keepsAt_X8 hown hK.1 hP 0 rfl rfl 4 (by decide) (hts (.fieldLink RX8 16 "NestlimitModel" "others" "[I") (List.mem_of_getElem? (i := 2) rfl)) (fun _ h9 => h9) rfl dX8_keepsAt_37 ?_
  refine lv_iload_n hx hb dX8_keepsAt_40 rfl (lv_at hl 3 rfl) ?_
  refine g_iald (k := k) hx hb hK.1 hP 3 0 rfl rfl (hk) (by decide) dX8_keepsAt_41 ?_
  refine lv_iconst (v := -1) hx hb dX8_keepsAt_42 (by decide) ?_
  refine lv_icmp_ne (tgt := 50) hx hb dX8_keepsAt_43 (by decide) (fun c_43 => absurd hot c_43) (fun c_43 => ?_)
  refine lv_iload_n hx hb dX8_keepsAt_46 rfl (lv_at hl 3 rfl) ?_
  refine lv_goto (tgt := 56) hx hb dX8_keepsAt_47 (by decide) ?_
  refine lv_imul hx hb dX8_keepsAt_56 ?_
  refine g_topi (pk_mul 25 k) ?_
  refine lv_iload_n hx hb dX8_keepsAt_57 rfl (lv_at hl 4 rfl) ?_
  refine lv_iadd hx hb dX8_keepsAt_58 ?_
  refine g_topi (nI_add (25 * k) p) ?_
  refine lv_istore (lv' := [(5, .int (nI ((25 * k) + p))), (4, .int (nI ((25 * k) + p))), (3, .int (nI ((25 * k) + p))), (0, .ref h), (1, .int (nI k)), (2, .int (nI p))]) hx hb dX8_keepsAt_59 hl (by decide) rfl (fun ls hl => ?_)
  refine lv_aload_n hx hb dX8_keepsAt_61 rfl (lv_at hl 3 rfl) ?_
  refine lv_aload_n hx hb dX8_keepsAt_62 rfl (lv_at hl 3 rfl) ?_
  refine va_get (D := D) (ci := 6) (v := .ref (q 3)) (C := RX8) (T := TX8) (N := 28) hx hb hts in_X8_keepsAt_X8 hown hK.1 hP 0 rfl rfl 3 (by decide) (hts (.fieldLink RX8 13 "NestlimitModel" "ones" "[I") (List.mem_of_getElem? (i := 1) rfl)) (fun _ h9 => h9) rfl dX8_keepsAt_63 ?_
  refine lv_iload_n hx hb dX8_keepsAt_66 rfl (lv_at hl 4 rfl) ?_
  refine g_iald (k := k) hx hb hK.1 hP 2 0 rfl rfl (hk) (by decide) dX8_keepsAt_67 ?_
  refine lv_iconst (v := -1) hx hb dX8_keepsAt_68 (by decide) ?_
  refine lv_icmp_eq (tgt := 82) hx hb dX8_keepsAt_69 (by decide) (fun c_69 => ?_) (fun c_69 => absurd hon c_69)
  refine lv_aload_n hx hb dX8_keepsAt_82 rfl (lv_at hl 3 rfl) ?_
  refine va_get (D := D) (ci := 6) (v := .ref (q 4)) (C := RX8) (T := TX8) (N := 28) hx hb hts in_X8_keepsAt_X8 hown hK.1 hP 0 rfl rfl 4 (by decide) (hts (.fieldLink RX8 16 "NestlimitModel" "others" "[I") (List.mem_of_getElem? (i := 2) rfl)) (fun _ h9 => h9) rfl dX8_keepsAt_83 ?_
  refine lv_iload_n hx hb dX8_keepsAt_86 rfl (lv_at hl 4 rfl) ?_
  refine g_iald (k := k) hx hb hK.1 hP 3 0 rfl rfl (hk) (by decide) dX8_keepsAt_87 ?_
  refine lv_iconst (v := -1) hx hb dX8_keepsAt_88 (by decide) ?_
  refine lv_icmp_eq (tgt := 102) hx hb dX8_keepsAt_89 (by decide) (fun c_89 => ?_) (fun c_89 => absurd hot c_89)
  refine lv_iconst (v := 1) hx hb dX8_keepsAt_102 (by decide) ?_
  refine lv_goto (tgt := 107) hx hb dX8_keepsAt_103 (by decide) ?_
  refine va_put (D := D) (ci := 6) (v := .int (gB true)) (ty := .boolean) (C := RX8) (T := TX8) (N := 28) hx hb hts in_X8_keepsAt_X8 tyX8 tyX8_ok nmX8 hown hK.1 hP hD hS 0 rfl rfl 22 (by decide) (hts (.fieldLink RX8 92 "NestlimitModel" "is" "Z") (List.mem_of_getElem? (i := 4) rfl)) (fun _ h9 => h9) rfl (by decide +kernel) (gB_n _) (gB_f _) (Nat.le_of_ble_eq_true rfl) dX8_keepsAt_107 (fun H locs hP hD hS => ?_)
  have hP : va_P D vwCl (wM y h q tw pn ki on ot ab be zA zB zC zD zF zT fo lw hg at_ tl th wo wl wh true lo_ hi_ di su an) H := hP
  have hD : va_D A (wM y h q tw pn ki on ot ab be zA zB zC zD zF zT fo lw hg at_ tl th wo wl wh true lo_ hi_ di su an) := hD
  refine lv_aload_n hx hb dX8_keepsAt_110 rfl (lv_at hl 3 rfl) ?_
  refine va_get (D := D) (ci := 6) (v := .int (gB true)) (C := RX8) (T := TX8) (N := 28) hx hb hts in_X8_keepsAt_X8 hown hK.1 hP 0 rfl rfl 22 (by decide) (hts (.fieldLink RX8 92 "NestlimitModel" "is" "Z") (List.mem_of_getElem? (i := 4) rfl)) (fun _ h9 => h9) rfl dX8_keepsAt_111 ?_
  refine g_beq (tgt := 151) hx hb dX8_keepsAt_114 (by decide) (fun c_114 => absurd c_114 (by decide)) (fun c_114 => ?_)
  refine lv_aload_n hx hb dX8_keepsAt_117 rfl (lv_at hl 3 rfl) ?_
  refine lv_iload_n hx hb dX8_keepsAt_118 rfl (lv_at hl 4 rfl) ?_
  refine lv_iload_n hx hb dX8_keepsAt_119 rfl (lv_at hl 5 rfl) ?_
  refine lv_aload_n hx hb dX8_keepsAt_120 rfl (lv_at hl 3 rfl) ?_
  refine va_get (D := D) (ci := 6) (v := .ref (q 14)) (C := RX8) (T := TX8) (N := 28) hx hb hts in_X8_keepsAt_X8 hown hK.1 hP 0 rfl rfl 14 (by decide) (hts (.fieldLink RX8 47 "NestlimitModel" "lows" "[J") (List.mem_of_getElem? (i := 5) rfl)) (fun _ h9 => h9) rfl dX8_keepsAt_121 ?_
  refine lv_iload hx hb dX8_keepsAt_124 (lv_at hl 1 rfl) ?_
  refine g_lald (k := (25 * k) + p) hx hb hK.1 hP 13 1 rfl rfl (by omega) (by decide) dX8_keepsAt_126 ?_
  refine lv_aload_n hx hb dX8_keepsAt_127 rfl (lv_at hl 3 rfl) ?_
  refine va_get (D := D) (ci := 6) (v := .ref (q 15)) (C := RX8) (T := TX8) (N := 28) hx hb hts in_X8_keepsAt_X8 hown hK.1 hP 0 rfl rfl 15 (by decide) (hts (.fieldLink RX8 51 "NestlimitModel" "highs" "[J") (List.mem_of_getElem? (i := 6) rfl)) (fun _ h9 => h9) rfl dX8_keepsAt_128 ?_
  refine lv_iload hx hb dX8_keepsAt_131 (lv_at hl 1 rfl) ?_
  refine g_lald (k := (25 * k) + p) hx hb hK.1 hP 14 1 rfl rfl (by omega) (by decide) dX8_keepsAt_133 ?_
  refine lv_aload_n hx hb dX8_keepsAt_134 rfl (lv_at hl 3 rfl) ?_
  refine va_get (D := D) (ci := 6) (v := .ref (q 14)) (C := RX8) (T := TX8) (N := 28) hx hb hts in_X8_keepsAt_X8 hown hK.1 hP 0 rfl rfl 14 (by decide) (hts (.fieldLink RX8 47 "NestlimitModel" "lows" "[J") (List.mem_of_getElem? (i := 5) rfl)) (fun _ h9 => h9) rfl dX8_keepsAt_135 ?_
  refine lv_iload hx hb dX8_keepsAt_138 (lv_at hl 0 rfl) ?_
  refine g_lald (k := (25 * k) + p) hx hb hK.1 hP 13 1 rfl rfl (by omega) (by decide) dX8_keepsAt_140 ?_
  refine lv_aload_n hx hb dX8_keepsAt_141 rfl (lv_at hl 3 rfl) ?_
  refine va_get (D := D) (ci := 6) (v := .ref (q 15)) (C := RX8) (T := TX8) (N := 28) hx hb hts in_X8_keepsAt_X8 hown hK.1 hP 0 rfl rfl 15 (by decide) (hts (.fieldLink RX8 51 "NestlimitModel" "highs" "[J") (List.mem_of_getElem? (i := 6) rfl)) (fun _ h9 => h9) rfl dX8_keepsAt_142 ?_
  refine lv_iload hx hb dX8_keepsAt_145 (lv_at hl 0 rfl) ?_
  refine g_lald (k := (25 * k) + p) hx hb hK.1 hP 14 1 rfl rfl (by omega) (by decide) dX8_keepsAt_147 ?_
  refine g_callAv (w0 := wM y h q tw pn ki on ot ab be zA zB zC zD zF zT fo lw hg at_ tl th wo wl wh I1 L1 H1 di su an) (va_runV (As := [.int (nI k), .int (nI p), .long (lw ((25 * k) + p)), .long (hg ((25 * k) + p)), .long (lw ((25 * k) + p)), .long (hg ((25 * k) + p))]) (rest := []) ⟨hx, hb, hml, hown, hts⟩ (c_X8_makesV l D y H.size h q tw pn ki on ot ab be zA zB zC zD zF zT fo lw hg at_ tl th wo wl wh true lo_ hi_ di su an kd k p (lw ((25 * k) + p)) (hg ((25 * k) + p)) (lw ((25 * k) + p)) (hg ((25 * k) + p)) I1 L1 H1 hk hp hkd hki (hok) (hI1) (hL1) (hH1)) (cwV 6 hts gX8_keepsAt_X8_makes rfl rfl rfl (by decide +kernel) ⟨Nat.le_of_ble_eq_true rfl, Nat.le_of_ble_eq_true rfl⟩) (gP_VA hP hD hK 0 rfl rfl) rfl rfl hl.1 rfl (lv_room (Nat.le_of_ble_eq_true rfl)) dX8_keepsAt_148 ⟨Nat.zero_le _, Nat.zero_le _⟩) hP hD hS hA rfl (fun H locs hP hD hS => ?_)
  refine lv_aload_n hx hb dX8_keepsAt_151 rfl (lv_at hl 3 rfl) ?_
  refine va_get (D := D) (ci := 6) (v := .ref (q 13)) (C := RX8) (T := TX8) (N := 28) hx hb hts in_X8_keepsAt_X8 hown hK.1 hP 0 rfl rfl 13 (by decide) (hts (.fieldLink RX8 43 "NestlimitModel" "found" "[Z") (List.mem_of_getElem? (i := 3) rfl)) (fun _ h9 => h9) rfl dX8_keepsAt_152 ?_
  refine lv_iload_n hx hb dX8_keepsAt_155 rfl (lv_at hl 2 rfl) ?_
  refine lv_aload_n hx hb dX8_keepsAt_156 rfl (lv_at hl 3 rfl) ?_
  refine va_get (D := D) (ci := 6) (v := .int (gB I1)) (C := RX8) (T := TX8) (N := 28) hx hb hts in_X8_keepsAt_X8 hown hK.1 hP 0 rfl rfl 22 (by decide) (hts (.fieldLink RX8 92 "NestlimitModel" "is" "Z") (List.mem_of_getElem? (i := 4) rfl)) (fun _ h9 => h9) rfl dX8_keepsAt_157 ?_
  refine g_zast (k := (25 * k) + p) (x := I1) hx hb hK.1 hP hD hS 12 2 rfl rfl (by omega) (by decide) dX8_keepsAt_160 (fun H locs hP hD hS => ?_)
  have hP : va_P D vwCl (wM y h q tw pn ki on ot ab be zA zB zC zD zF zT (upZ fo ((25 * k) + p) I1) lw hg at_ tl th wo wl wh I1 L1 H1 di su an) H := hP
  have hD : va_D A (wM y h q tw pn ki on ot ab be zA zB zC zD zF zT (upZ fo ((25 * k) + p) I1) lw hg at_ tl th wo wl wh I1 L1 H1 di su an) := hD
  refine lv_aload_n hx hb dX8_keepsAt_161 rfl (lv_at hl 3 rfl) ?_
  refine va_get (D := D) (ci := 6) (v := .ref (q 14)) (C := RX8) (T := TX8) (N := 28) hx hb hts in_X8_keepsAt_X8 hown hK.1 hP 0 rfl rfl 14 (by decide) (hts (.fieldLink RX8 47 "NestlimitModel" "lows" "[J") (List.mem_of_getElem? (i := 5) rfl)) (fun _ h9 => h9) rfl dX8_keepsAt_162 ?_
  refine lv_iload_n hx hb dX8_keepsAt_165 rfl (lv_at hl 2 rfl) ?_
  refine lv_aload_n hx hb dX8_keepsAt_166 rfl (lv_at hl 3 rfl) ?_
  refine va_get (D := D) (ci := 6) (v := .long L1) (C := RX8) (T := TX8) (N := 28) hx hb hts in_X8_keepsAt_X8 hown hK.1 hP 0 rfl rfl 23 (by decide) (hts (.fieldLink RX8 96 "NestlimitModel" "low" "J") (List.mem_of_getElem? (i := 7) rfl)) (fun _ h9 => h9) rfl dX8_keepsAt_167 ?_
  refine g_last (k := (25 * k) + p) (x := L1) hx hb hK.1 hP hD hS 13 1 rfl rfl (by omega) (by decide) dX8_keepsAt_170 (fun H locs hP hD hS => ?_)
  have hP : va_P D vwCl (wM y h q tw pn ki on ot ab be zA zB zC zD zF zT (upZ fo ((25 * k) + p) I1) (vp_updL lw ((25 * k) + p) L1) hg at_ tl th wo wl wh I1 L1 H1 di su an) H := hP
  have hD : va_D A (wM y h q tw pn ki on ot ab be zA zB zC zD zF zT (upZ fo ((25 * k) + p) I1) (vp_updL lw ((25 * k) + p) L1) hg at_ tl th wo wl wh I1 L1 H1 di su an) := hD
  refine lv_aload_n hx hb dX8_keepsAt_171 rfl (lv_at hl 3 rfl) ?_
  refine va_get (D := D) (ci := 6) (v := .ref (q 15)) (C := RX8) (T := TX8) (N := 28) hx hb hts in_X8_keepsAt_X8 hown hK.1 hP 0 rfl rfl 15 (by decide) (hts (.fieldLink RX8 51 "NestlimitModel" "highs" "[J") (List.mem_of_getElem? (i := 6) rfl)) (fun _ h9 => h9) rfl dX8_keepsAt_172 ?_
  refine lv_iload_n hx hb dX8_keepsAt_175 rfl (lv_at hl 2 rfl) ?_
  refine lv_aload_n hx hb dX8_keepsAt_176 rfl (lv_at hl 3 rfl) ?_
  refine va_get (D := D) (ci := 6) (v := .long H1) (C := RX8) (T := TX8) (N := 28) hx hb hts in_X8_keepsAt_X8 hown hK.1 hP 0 rfl rfl 24 (by decide) (hts (.fieldLink RX8 100 "NestlimitModel" "high" "J") (List.mem_of_getElem? (i := 8) rfl)) (fun _ h9 => h9) rfl dX8_keepsAt_177 ?_
  refine g_last (k := (25 * k) + p) (x := H1) hx hb hK.1 hP hD hS 14 1 rfl rfl (by omega) (by decide) dX8_keepsAt_180 (fun H locs hP hD hS => ?_)
  have hP : va_P D vwCl (wM y h q tw pn ki on ot ab be zA zB zC zD zF zT (upZ fo ((25 * k) + p) I1) (vp_updL lw ((25 * k) + p) L1) (vp_updL hg ((25 * k) + p) H1) at_ tl th wo wl wh I1 L1 H1 di su an) H := hP
  have hD : va_D A (wM y h q tw pn ki on ot ab be zA zB zC zD zF zT (upZ fo ((25 * k) + p) I1) (vp_updL lw ((25 * k) + p) L1) (vp_updL hg ((25 * k) + p) H1) at_ tl th wo wl wh I1 L1 H1 di su an) := hD
  refine lv_iload_n hx hb dX8_keepsAt_181 rfl (lv_at hl 5 rfl) ?_
  refine lv_if_le (tgt := 200) hx hb dX8_keepsAt_182 (by decide) (fun c_182 => ?_) (fun c_182 => ?_)
  · skip
    refine lv_iconst (v := 0) hx hb dX8_keepsAt_200 (by decide) ?_
    refine lv_istore (lv' := [(6, .int 0), (5, .int (nI ((25 * k) + p))), (4, .int (nI ((25 * k) + p))), (3, .int (nI ((25 * k) + p))), (0, .ref h), (1, .int (nI k)), (2, .int (nI p))]) hx hb dX8_keepsAt_201 hl (by decide) rfl (fun ls hl => ?_)
    refine lv_aload_n hx hb dX8_keepsAt_203 rfl (lv_at hl 4 rfl) ?_
    refine va_get (D := D) (ci := 6) (v := .ref (q 16)) (C := RX8) (T := TX8) (N := 28) hx hb hts in_X8_keepsAt_X8 hown hK.1 hP 0 rfl rfl 16 (by decide) (hts (.fieldLink RX8 54 "NestlimitModel" "areTold" "[Z") (List.mem_of_getElem? (i := 9) rfl)) (fun _ h9 => h9) rfl dX8_keepsAt_204 ?_
    refine lv_iload_n hx hb dX8_keepsAt_207 rfl (lv_at hl 3 rfl) ?_
    refine lv_iload hx hb dX8_keepsAt_208 (lv_at hl 0 rfl) ?_
    refine lv_if_ne (tgt := 220) hx hb dX8_keepsAt_210 (by decide) (fun c_210 => absurd c_210 (by decide)) (fun c_210 => ?_)
    refine lv_aload_n hx hb dX8_keepsAt_213 rfl (lv_at hl 4 rfl) ?_
    refine va_get (D := D) (ci := 6) (v := .int (gB I1)) (C := RX8) (T := TX8) (N := 28) hx hb hts in_X8_keepsAt_X8 hown hK.1 hP 0 rfl rfl 22 (by decide) (hts (.fieldLink RX8 92 "NestlimitModel" "is" "Z") (List.mem_of_getElem? (i := 4) rfl)) (fun _ h9 => h9) rfl dX8_keepsAt_214 ?_
    refine g_beq (tgt := 224) hx hb dX8_keepsAt_217 (by decide) (fun c_217 => ?_) (fun c_217 => ?_)
    · skip
      refine lv_iconst (v := 0) hx hb dX8_keepsAt_224 (by decide) ?_
      refine g_zast (k := (25 * k) + p) (x := false) hx hb hK.1 hP hD hS 15 2 rfl rfl (by omega) (by decide) dX8_keepsAt_225 (fun H locs hP hD hS => ?_)
      have hP : va_P D vwCl (wM y h q tw pn ki on ot ab be zA zB zC zD zF zT (upZ fo ((25 * k) + p) I1) (vp_updL lw ((25 * k) + p) L1) (vp_updL hg ((25 * k) + p) H1) (upZ at_ ((25 * k) + p) false) tl th wo wl wh I1 L1 H1 di su an) H := hP
      have hD : va_D A (wM y h q tw pn ki on ot ab be zA zB zC zD zF zT (upZ fo ((25 * k) + p) I1) (vp_updL lw ((25 * k) + p) L1) (vp_updL hg ((25 * k) + p) H1) (upZ at_ ((25 * k) + p) false) tl th wo wl wh I1 L1 H1 di su an) := hD
      refine lv_aload_n hx hb dX8_keepsAt_226 rfl (lv_at hl 4 rfl) ?_
      refine va_get (D := D) (ci := 6) (v := .ref (q 17)) (C := RX8) (T := TX8) (N := 28) hx hb hts in_X8_keepsAt_X8 hown hK.1 hP 0 rfl rfl 17 (by decide) (hts (.fieldLink RX8 57 "NestlimitModel" "toldLow" "[J") (List.mem_of_getElem? (i := 10) rfl)) (fun _ h9 => h9) rfl dX8_keepsAt_227 ?_
      refine lv_iload_n hx hb dX8_keepsAt_230 rfl (lv_at hl 3 rfl) ?_
      refine lv_iload hx hb dX8_keepsAt_231 (lv_at hl 0 rfl) ?_
      refine lv_if_ne (tgt := 243) hx hb dX8_keepsAt_233 (by decide) (fun c_233 => absurd c_233 (by decide)) (fun c_233 => ?_)
      refine lv_aload_n hx hb dX8_keepsAt_236 rfl (lv_at hl 4 rfl) ?_
      refine va_get (D := D) (ci := 6) (v := .long L1) (C := RX8) (T := TX8) (N := 28) hx hb hts in_X8_keepsAt_X8 hown hK.1 hP 0 rfl rfl 23 (by decide) (hts (.fieldLink RX8 96 "NestlimitModel" "low" "J") (List.mem_of_getElem? (i := 7) rfl)) (fun _ h9 => h9) rfl dX8_keepsAt_237 ?_
      refine lv_goto (tgt := 284) hx hb dX8_keepsAt_240 (by decide) ?_
      refine g_last (k := (25 * k) + p) (x := L1) hx hb hK.1 hP hD hS 16 1 rfl rfl (by omega) (by decide) dX8_keepsAt_284 (fun H locs hP hD hS => ?_)
      have hP : va_P D vwCl (wM y h q tw pn ki on ot ab be zA zB zC zD zF zT (upZ fo ((25 * k) + p) I1) (vp_updL lw ((25 * k) + p) L1) (vp_updL hg ((25 * k) + p) H1) (upZ at_ ((25 * k) + p) false) (vp_updL tl ((25 * k) + p) L1) th wo wl wh I1 L1 H1 di su an) H := hP
      have hD : va_D A (wM y h q tw pn ki on ot ab be zA zB zC zD zF zT (upZ fo ((25 * k) + p) I1) (vp_updL lw ((25 * k) + p) L1) (vp_updL hg ((25 * k) + p) H1) (upZ at_ ((25 * k) + p) false) (vp_updL tl ((25 * k) + p) L1) th wo wl wh I1 L1 H1 di su an) := hD
      refine lv_aload_n hx hb dX8_keepsAt_285 rfl (lv_at hl 4 rfl) ?_
      refine va_get (D := D) (ci := 6) (v := .ref (q 18)) (C := RX8) (T := TX8) (N := 28) hx hb hts in_X8_keepsAt_X8 hown hK.1 hP 0 rfl rfl 18 (by decide) (hts (.fieldLink RX8 60 "NestlimitModel" "toldHigh" "[J") (List.mem_of_getElem? (i := 12) rfl)) (fun _ h9 => h9) rfl dX8_keepsAt_286 ?_
      refine lv_iload_n hx hb dX8_keepsAt_289 rfl (lv_at hl 3 rfl) ?_
      refine lv_iload hx hb dX8_keepsAt_290 (lv_at hl 0 rfl) ?_
      refine lv_if_ne (tgt := 302) hx hb dX8_keepsAt_292 (by decide) (fun c_292 => absurd c_292 (by decide)) (fun c_292 => ?_)
      refine lv_aload_n hx hb dX8_keepsAt_295 rfl (lv_at hl 4 rfl) ?_
      refine va_get (D := D) (ci := 6) (v := .long H1) (C := RX8) (T := TX8) (N := 28) hx hb hts in_X8_keepsAt_X8 hown hK.1 hP 0 rfl rfl 24 (by decide) (hts (.fieldLink RX8 100 "NestlimitModel" "high" "J") (List.mem_of_getElem? (i := 8) rfl)) (fun _ h9 => h9) rfl dX8_keepsAt_296 ?_
      refine lv_goto (tgt := 343) hx hb dX8_keepsAt_299 (by decide) ?_
      refine g_last (k := (25 * k) + p) (x := H1) hx hb hK.1 hP hD hS 17 1 rfl rfl (by omega) (by decide) dX8_keepsAt_343 (fun H locs hP hD hS => ?_)
      have hP : va_P D vwCl (wM y h q tw pn ki on ot ab be zA zB zC zD zF zT (upZ fo ((25 * k) + p) I1) (vp_updL lw ((25 * k) + p) L1) (vp_updL hg ((25 * k) + p) H1) (upZ at_ ((25 * k) + p) false) (vp_updL tl ((25 * k) + p) L1) (vp_updL th ((25 * k) + p) H1) wo wl wh I1 L1 H1 di su an) H := hP
      have hD : va_D A (wM y h q tw pn ki on ot ab be zA zB zC zD zF zT (upZ fo ((25 * k) + p) I1) (vp_updL lw ((25 * k) + p) L1) (vp_updL hg ((25 * k) + p) H1) (upZ at_ ((25 * k) + p) false) (vp_updL tl ((25 * k) + p) L1) (vp_updL th ((25 * k) + p) H1) wo wl wh I1 L1 H1 di su an) := hD
      exact W.vret hx hb hr (fun t ht hW => ⟨⟨none, wM y h q tw pn ki on ot ab be zA zB zC zD zF zT (upZ fo ((25 * k) + p) I1) (vp_updL lw ((25 * k) + p) L1) (vp_updL hg ((25 * k) + p) H1) (upZ at_ ((25 * k) + p) false) (vp_updL tl ((25 * k) + p) L1) (vp_updL th ((25 * k) + p) H1) wo wl wh I1 L1 H1 di su an, rfl, ⟨rfl, by simp only [gI1, gL1, kaB, kaA, kaL, kaH, Bool.false_eq_true, if_false, if_true, if_pos c_182, if_neg c_217]⟩, rfl, by rw [ht]; exact hP⟩, by rw [← hAe]; exact hS.F ht⟩) (by rw [← hAe]; exact hS.2.2) dX8_keepsAt_344
    · skip
      refine lv_iconst (v := 1) hx hb dX8_keepsAt_220 (by decide) ?_
      refine lv_goto (tgt := 225) hx hb dX8_keepsAt_221 (by decide) ?_
      refine g_zast (k := (25 * k) + p) (x := true) hx hb hK.1 hP hD hS 15 2 rfl rfl (by omega) (by decide) dX8_keepsAt_225 (fun H locs hP hD hS => ?_)
      have hP : va_P D vwCl (wM y h q tw pn ki on ot ab be zA zB zC zD zF zT (upZ fo ((25 * k) + p) I1) (vp_updL lw ((25 * k) + p) L1) (vp_updL hg ((25 * k) + p) H1) (upZ at_ ((25 * k) + p) true) tl th wo wl wh I1 L1 H1 di su an) H := hP
      have hD : va_D A (wM y h q tw pn ki on ot ab be zA zB zC zD zF zT (upZ fo ((25 * k) + p) I1) (vp_updL lw ((25 * k) + p) L1) (vp_updL hg ((25 * k) + p) H1) (upZ at_ ((25 * k) + p) true) tl th wo wl wh I1 L1 H1 di su an) := hD
      refine lv_aload_n hx hb dX8_keepsAt_226 rfl (lv_at hl 4 rfl) ?_
      refine va_get (D := D) (ci := 6) (v := .ref (q 17)) (C := RX8) (T := TX8) (N := 28) hx hb hts in_X8_keepsAt_X8 hown hK.1 hP 0 rfl rfl 17 (by decide) (hts (.fieldLink RX8 57 "NestlimitModel" "toldLow" "[J") (List.mem_of_getElem? (i := 10) rfl)) (fun _ h9 => h9) rfl dX8_keepsAt_227 ?_
      refine lv_iload_n hx hb dX8_keepsAt_230 rfl (lv_at hl 3 rfl) ?_
      refine lv_iload hx hb dX8_keepsAt_231 (lv_at hl 0 rfl) ?_
      refine lv_if_ne (tgt := 243) hx hb dX8_keepsAt_233 (by decide) (fun c_233 => absurd c_233 (by decide)) (fun c_233 => ?_)
      refine lv_aload_n hx hb dX8_keepsAt_236 rfl (lv_at hl 4 rfl) ?_
      refine va_get (D := D) (ci := 6) (v := .long L1) (C := RX8) (T := TX8) (N := 28) hx hb hts in_X8_keepsAt_X8 hown hK.1 hP 0 rfl rfl 23 (by decide) (hts (.fieldLink RX8 96 "NestlimitModel" "low" "J") (List.mem_of_getElem? (i := 7) rfl)) (fun _ h9 => h9) rfl dX8_keepsAt_237 ?_
      refine lv_goto (tgt := 284) hx hb dX8_keepsAt_240 (by decide) ?_
      refine g_last (k := (25 * k) + p) (x := L1) hx hb hK.1 hP hD hS 16 1 rfl rfl (by omega) (by decide) dX8_keepsAt_284 (fun H locs hP hD hS => ?_)
      have hP : va_P D vwCl (wM y h q tw pn ki on ot ab be zA zB zC zD zF zT (upZ fo ((25 * k) + p) I1) (vp_updL lw ((25 * k) + p) L1) (vp_updL hg ((25 * k) + p) H1) (upZ at_ ((25 * k) + p) true) (vp_updL tl ((25 * k) + p) L1) th wo wl wh I1 L1 H1 di su an) H := hP
      have hD : va_D A (wM y h q tw pn ki on ot ab be zA zB zC zD zF zT (upZ fo ((25 * k) + p) I1) (vp_updL lw ((25 * k) + p) L1) (vp_updL hg ((25 * k) + p) H1) (upZ at_ ((25 * k) + p) true) (vp_updL tl ((25 * k) + p) L1) th wo wl wh I1 L1 H1 di su an) := hD
      refine lv_aload_n hx hb dX8_keepsAt_285 rfl (lv_at hl 4 rfl) ?_
      refine va_get (D := D) (ci := 6) (v := .ref (q 18)) (C := RX8) (T := TX8) (N := 28) hx hb hts in_X8_keepsAt_X8 hown hK.1 hP 0 rfl rfl 18 (by decide) (hts (.fieldLink RX8 60 "NestlimitModel" "toldHigh" "[J") (List.mem_of_getElem? (i := 12) rfl)) (fun _ h9 => h9) rfl dX8_keepsAt_286 ?_
      refine lv_iload_n hx hb dX8_keepsAt_289 rfl (lv_at hl 3 rfl) ?_
      refine lv_iload hx hb dX8_keepsAt_290 (lv_at hl 0 rfl) ?_
      refine lv_if_ne (tgt := 302) hx hb dX8_keepsAt_292 (by decide) (fun c_292 => absurd c_292 (by decide)) (fun c_292 => ?_)
      refine lv_aload_n hx hb dX8_keepsAt_295 rfl (lv_at hl 4 rfl) ?_
      refine va_get (D := D) (ci := 6) (v := .long H1) (C := RX8) (T := TX8) (N := 28) hx hb hts in_X8_keepsAt_X8 hown hK.1 hP 0 rfl rfl 24 (by decide) (hts (.fieldLink RX8 100 "NestlimitModel" "high" "J") (List.mem_of_getElem? (i := 8) rfl)) (fun _ h9 => h9) rfl dX8_keepsAt_296 ?_
      refine lv_goto (tgt := 343) hx hb dX8_keepsAt_299 (by decide) ?_
      refine g_last (k := (25 * k) + p) (x := H1) hx hb hK.1 hP hD hS 17 1 rfl rfl (by omega) (by decide) dX8_keepsAt_343 (fun H locs hP hD hS => ?_)
      have hP : va_P D vwCl (wM y h q tw pn ki on ot ab be zA zB zC zD zF zT (upZ fo ((25 * k) + p) I1) (vp_updL lw ((25 * k) + p) L1) (vp_updL hg ((25 * k) + p) H1) (upZ at_ ((25 * k) + p) true) (vp_updL tl ((25 * k) + p) L1) (vp_updL th ((25 * k) + p) H1) wo wl wh I1 L1 H1 di su an) H := hP
      have hD : va_D A (wM y h q tw pn ki on ot ab be zA zB zC zD zF zT (upZ fo ((25 * k) + p) I1) (vp_updL lw ((25 * k) + p) L1) (vp_updL hg ((25 * k) + p) H1) (upZ at_ ((25 * k) + p) true) (vp_updL tl ((25 * k) + p) L1) (vp_updL th ((25 * k) + p) H1) wo wl wh I1 L1 H1 di su an) := hD
      exact W.vret hx hb hr (fun t ht hW => ⟨⟨none, wM y h q tw pn ki on ot ab be zA zB zC zD zF zT (upZ fo ((25 * k) + p) I1) (vp_updL lw ((25 * k) + p) L1) (vp_updL hg ((25 * k) + p) H1) (upZ at_ ((25 * k) + p) true) (vp_updL tl ((25 * k) + p) L1) (vp_updL th ((25 * k) + p) H1) wo wl wh I1 L1 H1 di su an, rfl, ⟨rfl, by simp only [gI1, gL1, kaB, kaA, kaL, kaH, Bool.false_eq_true, if_false, if_true, if_pos c_182, if_pos c_217]⟩, rfl, by rw [ht]; exact hP⟩, by rw [← hAe]; exact hS.F ht⟩) (by rw [← hAe]; exact hS.2.2) dX8_keepsAt_344
  · skip
    have hp1 : 1 ≤ p := g_p1 c_182
    refine lv_aload_n hx hb dX8_keepsAt_185 rfl (lv_at hl 3 rfl) ?_
    refine va_get (D := D) (ci := 6) (v := .ref (q 16)) (C := RX8) (T := TX8) (N := 28) hx hb hts in_X8_keepsAt_X8 hown hK.1 hP 0 rfl rfl 16 (by decide) (hts (.fieldLink RX8 54 "NestlimitModel" "areTold" "[Z") (List.mem_of_getElem? (i := 9) rfl)) (fun _ h9 => h9) rfl dX8_keepsAt_186 ?_
    refine lv_iload_n hx hb dX8_keepsAt_189 rfl (lv_at hl 2 rfl) ?_
    refine lv_iconst (v := 1) hx hb dX8_keepsAt_190 (by decide) ?_
    refine lv_isub hx hb dX8_keepsAt_191 ?_
    refine g_topi (y := nI ((25 * k) + p - 1)) (pk_sub (a := 25 * k + p) (b := 1) (by omega)) ?_
    refine g_zald (k := (25 * k) + p - 1) hx hb hK.1 hP 15 2 rfl rfl (by omega) (by decide) dX8_keepsAt_192 ?_
    refine g_beq (tgt := 200) hx hb dX8_keepsAt_193 (by decide) (fun c_193 => ?_) (fun c_193 => ?_)
    · skip
      refine lv_iconst (v := 0) hx hb dX8_keepsAt_200 (by decide) ?_
      refine lv_istore (lv' := [(6, .int 0), (5, .int (nI ((25 * k) + p))), (4, .int (nI ((25 * k) + p))), (3, .int (nI ((25 * k) + p))), (0, .ref h), (1, .int (nI k)), (2, .int (nI p))]) hx hb dX8_keepsAt_201 hl (by decide) rfl (fun ls hl => ?_)
      refine lv_aload_n hx hb dX8_keepsAt_203 rfl (lv_at hl 4 rfl) ?_
      refine va_get (D := D) (ci := 6) (v := .ref (q 16)) (C := RX8) (T := TX8) (N := 28) hx hb hts in_X8_keepsAt_X8 hown hK.1 hP 0 rfl rfl 16 (by decide) (hts (.fieldLink RX8 54 "NestlimitModel" "areTold" "[Z") (List.mem_of_getElem? (i := 9) rfl)) (fun _ h9 => h9) rfl dX8_keepsAt_204 ?_
      refine lv_iload_n hx hb dX8_keepsAt_207 rfl (lv_at hl 3 rfl) ?_
      refine lv_iload hx hb dX8_keepsAt_208 (lv_at hl 0 rfl) ?_
      refine lv_if_ne (tgt := 220) hx hb dX8_keepsAt_210 (by decide) (fun c_210 => absurd c_210 (by decide)) (fun c_210 => ?_)
      refine lv_aload_n hx hb dX8_keepsAt_213 rfl (lv_at hl 4 rfl) ?_
      refine va_get (D := D) (ci := 6) (v := .int (gB I1)) (C := RX8) (T := TX8) (N := 28) hx hb hts in_X8_keepsAt_X8 hown hK.1 hP 0 rfl rfl 22 (by decide) (hts (.fieldLink RX8 92 "NestlimitModel" "is" "Z") (List.mem_of_getElem? (i := 4) rfl)) (fun _ h9 => h9) rfl dX8_keepsAt_214 ?_
      refine g_beq (tgt := 224) hx hb dX8_keepsAt_217 (by decide) (fun c_217 => ?_) (fun c_217 => ?_)
      · skip
        refine lv_iconst (v := 0) hx hb dX8_keepsAt_224 (by decide) ?_
        refine g_zast (k := (25 * k) + p) (x := false) hx hb hK.1 hP hD hS 15 2 rfl rfl (by omega) (by decide) dX8_keepsAt_225 (fun H locs hP hD hS => ?_)
        have hP : va_P D vwCl (wM y h q tw pn ki on ot ab be zA zB zC zD zF zT (upZ fo ((25 * k) + p) I1) (vp_updL lw ((25 * k) + p) L1) (vp_updL hg ((25 * k) + p) H1) (upZ at_ ((25 * k) + p) false) tl th wo wl wh I1 L1 H1 di su an) H := hP
        have hD : va_D A (wM y h q tw pn ki on ot ab be zA zB zC zD zF zT (upZ fo ((25 * k) + p) I1) (vp_updL lw ((25 * k) + p) L1) (vp_updL hg ((25 * k) + p) H1) (upZ at_ ((25 * k) + p) false) tl th wo wl wh I1 L1 H1 di su an) := hD
        refine lv_aload_n hx hb dX8_keepsAt_226 rfl (lv_at hl 4 rfl) ?_
        refine va_get (D := D) (ci := 6) (v := .ref (q 17)) (C := RX8) (T := TX8) (N := 28) hx hb hts in_X8_keepsAt_X8 hown hK.1 hP 0 rfl rfl 17 (by decide) (hts (.fieldLink RX8 57 "NestlimitModel" "toldLow" "[J") (List.mem_of_getElem? (i := 10) rfl)) (fun _ h9 => h9) rfl dX8_keepsAt_227 ?_
        refine lv_iload_n hx hb dX8_keepsAt_230 rfl (lv_at hl 3 rfl) ?_
        refine lv_iload hx hb dX8_keepsAt_231 (lv_at hl 0 rfl) ?_
        refine lv_if_ne (tgt := 243) hx hb dX8_keepsAt_233 (by decide) (fun c_233 => absurd c_233 (by decide)) (fun c_233 => ?_)
        refine lv_aload_n hx hb dX8_keepsAt_236 rfl (lv_at hl 4 rfl) ?_
        refine va_get (D := D) (ci := 6) (v := .long L1) (C := RX8) (T := TX8) (N := 28) hx hb hts in_X8_keepsAt_X8 hown hK.1 hP 0 rfl rfl 23 (by decide) (hts (.fieldLink RX8 96 "NestlimitModel" "low" "J") (List.mem_of_getElem? (i := 7) rfl)) (fun _ h9 => h9) rfl dX8_keepsAt_237 ?_
        refine lv_goto (tgt := 284) hx hb dX8_keepsAt_240 (by decide) ?_
        refine g_last (k := (25 * k) + p) (x := L1) hx hb hK.1 hP hD hS 16 1 rfl rfl (by omega) (by decide) dX8_keepsAt_284 (fun H locs hP hD hS => ?_)
        have hP : va_P D vwCl (wM y h q tw pn ki on ot ab be zA zB zC zD zF zT (upZ fo ((25 * k) + p) I1) (vp_updL lw ((25 * k) + p) L1) (vp_updL hg ((25 * k) + p) H1) (upZ at_ ((25 * k) + p) false) (vp_updL tl ((25 * k) + p) L1) th wo wl wh I1 L1 H1 di su an) H := hP
        have hD : va_D A (wM y h q tw pn ki on ot ab be zA zB zC zD zF zT (upZ fo ((25 * k) + p) I1) (vp_updL lw ((25 * k) + p) L1) (vp_updL hg ((25 * k) + p) H1) (upZ at_ ((25 * k) + p) false) (vp_updL tl ((25 * k) + p) L1) th wo wl wh I1 L1 H1 di su an) := hD
        refine lv_aload_n hx hb dX8_keepsAt_285 rfl (lv_at hl 4 rfl) ?_
        refine va_get (D := D) (ci := 6) (v := .ref (q 18)) (C := RX8) (T := TX8) (N := 28) hx hb hts in_X8_keepsAt_X8 hown hK.1 hP 0 rfl rfl 18 (by decide) (hts (.fieldLink RX8 60 "NestlimitModel" "toldHigh" "[J") (List.mem_of_getElem? (i := 12) rfl)) (fun _ h9 => h9) rfl dX8_keepsAt_286 ?_
        refine lv_iload_n hx hb dX8_keepsAt_289 rfl (lv_at hl 3 rfl) ?_
        refine lv_iload hx hb dX8_keepsAt_290 (lv_at hl 0 rfl) ?_
        refine lv_if_ne (tgt := 302) hx hb dX8_keepsAt_292 (by decide) (fun c_292 => absurd c_292 (by decide)) (fun c_292 => ?_)
        refine lv_aload_n hx hb dX8_keepsAt_295 rfl (lv_at hl 4 rfl) ?_
        refine va_get (D := D) (ci := 6) (v := .long H1) (C := RX8) (T := TX8) (N := 28) hx hb hts in_X8_keepsAt_X8 hown hK.1 hP 0 rfl rfl 24 (by decide) (hts (.fieldLink RX8 100 "NestlimitModel" "high" "J") (List.mem_of_getElem? (i := 8) rfl)) (fun _ h9 => h9) rfl dX8_keepsAt_296 ?_
        refine lv_goto (tgt := 343) hx hb dX8_keepsAt_299 (by decide) ?_
        refine g_last (k := (25 * k) + p) (x := H1) hx hb hK.1 hP hD hS 17 1 rfl rfl (by omega) (by decide) dX8_keepsAt_343 (fun H locs hP hD hS => ?_)
        have hP : va_P D vwCl (wM y h q tw pn ki on ot ab be zA zB zC zD zF zT (upZ fo ((25 * k) + p) I1) (vp_updL lw ((25 * k) + p) L1) (vp_updL hg ((25 * k) + p) H1) (upZ at_ ((25 * k) + p) false) (vp_updL tl ((25 * k) + p) L1) (vp_updL th ((25 * k) + p) H1) wo wl wh I1 L1 H1 di su an) H := hP
        have hD : va_D A (wM y h q tw pn ki on ot ab be zA zB zC zD zF zT (upZ fo ((25 * k) + p) I1) (vp_updL lw ((25 * k) + p) L1) (vp_updL hg ((25 * k) + p) H1) (upZ at_ ((25 * k) + p) false) (vp_updL tl ((25 * k) + p) L1) (vp_updL th ((25 * k) + p) H1) wo wl wh I1 L1 H1 di su an) := hD
        exact W.vret hx hb hr (fun t ht hW => ⟨⟨none, wM y h q tw pn ki on ot ab be zA zB zC zD zF zT (upZ fo ((25 * k) + p) I1) (vp_updL lw ((25 * k) + p) L1) (vp_updL hg ((25 * k) + p) H1) (upZ at_ ((25 * k) + p) false) (vp_updL tl ((25 * k) + p) L1) (vp_updL th ((25 * k) + p) H1) wo wl wh I1 L1 H1 di su an, rfl, ⟨rfl, by simp only [gI1, gL1, kaB, kaA, kaL, kaH, Bool.false_eq_true, if_false, if_true, if_neg c_182, if_neg c_193, if_neg c_217]⟩, rfl, by rw [ht]; exact hP⟩, by rw [← hAe]; exact hS.F ht⟩) (by rw [← hAe]; exact hS.2.2) dX8_keepsAt_344
      · skip
        refine lv_iconst (v := 1) hx hb dX8_keepsAt_220 (by decide) ?_
        refine lv_goto (tgt := 225) hx hb dX8_keepsAt_221 (by decide) ?_
        refine g_zast (k := (25 * k) + p) (x := true) hx hb hK.1 hP hD hS 15 2 rfl rfl (by omega) (by decide) dX8_keepsAt_225 (fun H locs hP hD hS => ?_)
        have hP : va_P D vwCl (wM y h q tw pn ki on ot ab be zA zB zC zD zF zT (upZ fo ((25 * k) + p) I1) (vp_updL lw ((25 * k) + p) L1) (vp_updL hg ((25 * k) + p) H1) (upZ at_ ((25 * k) + p) true) tl th wo wl wh I1 L1 H1 di su an) H := hP
        have hD : va_D A (wM y h q tw pn ki on ot ab be zA zB zC zD zF zT (upZ fo ((25 * k) + p) I1) (vp_updL lw ((25 * k) + p) L1) (vp_updL hg ((25 * k) + p) H1) (upZ at_ ((25 * k) + p) true) tl th wo wl wh I1 L1 H1 di su an) := hD
        refine lv_aload_n hx hb dX8_keepsAt_226 rfl (lv_at hl 4 rfl) ?_
        refine va_get (D := D) (ci := 6) (v := .ref (q 17)) (C := RX8) (T := TX8) (N := 28) hx hb hts in_X8_keepsAt_X8 hown hK.1 hP 0 rfl rfl 17 (by decide) (hts (.fieldLink RX8 57 "NestlimitModel" "toldLow" "[J") (List.mem_of_getElem? (i := 10) rfl)) (fun _ h9 => h9) rfl dX8_keepsAt_227 ?_
        refine lv_iload_n hx hb dX8_keepsAt_230 rfl (lv_at hl 3 rfl) ?_
        refine lv_iload hx hb dX8_keepsAt_231 (lv_at hl 0 rfl) ?_
        refine lv_if_ne (tgt := 243) hx hb dX8_keepsAt_233 (by decide) (fun c_233 => absurd c_233 (by decide)) (fun c_233 => ?_)
        refine lv_aload_n hx hb dX8_keepsAt_236 rfl (lv_at hl 4 rfl) ?_
        refine va_get (D := D) (ci := 6) (v := .long L1) (C := RX8) (T := TX8) (N := 28) hx hb hts in_X8_keepsAt_X8 hown hK.1 hP 0 rfl rfl 23 (by decide) (hts (.fieldLink RX8 96 "NestlimitModel" "low" "J") (List.mem_of_getElem? (i := 7) rfl)) (fun _ h9 => h9) rfl dX8_keepsAt_237 ?_
        refine lv_goto (tgt := 284) hx hb dX8_keepsAt_240 (by decide) ?_
        refine g_last (k := (25 * k) + p) (x := L1) hx hb hK.1 hP hD hS 16 1 rfl rfl (by omega) (by decide) dX8_keepsAt_284 (fun H locs hP hD hS => ?_)
        have hP : va_P D vwCl (wM y h q tw pn ki on ot ab be zA zB zC zD zF zT (upZ fo ((25 * k) + p) I1) (vp_updL lw ((25 * k) + p) L1) (vp_updL hg ((25 * k) + p) H1) (upZ at_ ((25 * k) + p) true) (vp_updL tl ((25 * k) + p) L1) th wo wl wh I1 L1 H1 di su an) H := hP
        have hD : va_D A (wM y h q tw pn ki on ot ab be zA zB zC zD zF zT (upZ fo ((25 * k) + p) I1) (vp_updL lw ((25 * k) + p) L1) (vp_updL hg ((25 * k) + p) H1) (upZ at_ ((25 * k) + p) true) (vp_updL tl ((25 * k) + p) L1) th wo wl wh I1 L1 H1 di su an) := hD
        refine lv_aload_n hx hb dX8_keepsAt_285 rfl (lv_at hl 4 rfl) ?_
        refine va_get (D := D) (ci := 6) (v := .ref (q 18)) (C := RX8) (T := TX8) (N := 28) hx hb hts in_X8_keepsAt_X8 hown hK.1 hP 0 rfl rfl 18 (by decide) (hts (.fieldLink RX8 60 "NestlimitModel" "toldHigh" "[J") (List.mem_of_getElem? (i := 12) rfl)) (fun _ h9 => h9) rfl dX8_keepsAt_286 ?_
        refine lv_iload_n hx hb dX8_keepsAt_289 rfl (lv_at hl 3 rfl) ?_
        refine lv_iload hx hb dX8_keepsAt_290 (lv_at hl 0 rfl) ?_
        refine lv_if_ne (tgt := 302) hx hb dX8_keepsAt_292 (by decide) (fun c_292 => absurd c_292 (by decide)) (fun c_292 => ?_)
        refine lv_aload_n hx hb dX8_keepsAt_295 rfl (lv_at hl 4 rfl) ?_
        refine va_get (D := D) (ci := 6) (v := .long H1) (C := RX8) (T := TX8) (N := 28) hx hb hts in_X8_keepsAt_X8 hown hK.1 hP 0 rfl rfl 24 (by decide) (hts (.fieldLink RX8 100 "NestlimitModel" "high" "J") (List.mem_of_getElem? (i := 8) rfl)) (fun _ h9 => h9) rfl dX8_keepsAt_296 ?_
        refine lv_goto (tgt := 343) hx hb dX8_keepsAt_299 (by decide) ?_
        refine g_last (k := (25 * k) + p) (x := H1) hx hb hK.1 hP hD hS 17 1 rfl rfl (by omega) (by decide) dX8_keepsAt_343 (fun H locs hP hD hS => ?_)
        have hP : va_P D vwCl (wM y h q tw pn ki on ot ab be zA zB zC zD zF zT (upZ fo ((25 * k) + p) I1) (vp_updL lw ((25 * k) + p) L1) (vp_updL hg ((25 * k) + p) H1) (upZ at_ ((25 * k) + p) true) (vp_updL tl ((25 * k) + p) L1) (vp_updL th ((25 * k) + p) H1) wo wl wh I1 L1 H1 di su an) H := hP
        have hD : va_D A (wM y h q tw pn ki on ot ab be zA zB zC zD zF zT (upZ fo ((25 * k) + p) I1) (vp_updL lw ((25 * k) + p) L1) (vp_updL hg ((25 * k) + p) H1) (upZ at_ ((25 * k) + p) true) (vp_updL tl ((25 * k) + p) L1) (vp_updL th ((25 * k) + p) H1) wo wl wh I1 L1 H1 di su an) := hD
        exact W.vret hx hb hr (fun t ht hW => ⟨⟨none, wM y h q tw pn ki on ot ab be zA zB zC zD zF zT (upZ fo ((25 * k) + p) I1) (vp_updL lw ((25 * k) + p) L1) (vp_updL hg ((25 * k) + p) H1) (upZ at_ ((25 * k) + p) true) (vp_updL tl ((25 * k) + p) L1) (vp_updL th ((25 * k) + p) H1) wo wl wh I1 L1 H1 di su an, rfl, ⟨rfl, by simp only [gI1, gL1, kaB, kaA, kaL, kaH, Bool.false_eq_true, if_false, if_true, if_neg c_182, if_neg c_193, if_pos c_217]⟩, rfl, by rw [ht]; exact hP⟩, by rw [← hAe]; exact hS.F ht⟩) (by rw [← hAe]; exact hS.2.2) dX8_keepsAt_344
    · skip
      refine lv_iconst (v := 1) hx hb dX8_keepsAt_196 (by decide) ?_
      refine lv_goto (tgt := 201) hx hb dX8_keepsAt_197 (by decide) ?_
      refine lv_istore (lv' := [(6, .int 1), (5, .int (nI ((25 * k) + p))), (4, .int (nI ((25 * k) + p))), (3, .int (nI ((25 * k) + p))), (0, .ref h), (1, .int (nI k)), (2, .int (nI p))]) hx hb dX8_keepsAt_201 hl (by decide) rfl (fun ls hl => ?_)
      refine lv_aload_n hx hb dX8_keepsAt_203 rfl (lv_at hl 4 rfl) ?_
      refine va_get (D := D) (ci := 6) (v := .ref (q 16)) (C := RX8) (T := TX8) (N := 28) hx hb hts in_X8_keepsAt_X8 hown hK.1 hP 0 rfl rfl 16 (by decide) (hts (.fieldLink RX8 54 "NestlimitModel" "areTold" "[Z") (List.mem_of_getElem? (i := 9) rfl)) (fun _ h9 => h9) rfl dX8_keepsAt_204 ?_
      refine lv_iload_n hx hb dX8_keepsAt_207 rfl (lv_at hl 3 rfl) ?_
      refine lv_iload hx hb dX8_keepsAt_208 (lv_at hl 0 rfl) ?_
      refine lv_if_ne (tgt := 220) hx hb dX8_keepsAt_210 (by decide) (fun c_210 => ?_) (fun c_210 => absurd c_210 (by decide))
      refine lv_iconst (v := 1) hx hb dX8_keepsAt_220 (by decide) ?_
      refine lv_goto (tgt := 225) hx hb dX8_keepsAt_221 (by decide) ?_
      refine g_zast (k := (25 * k) + p) (x := true) hx hb hK.1 hP hD hS 15 2 rfl rfl (by omega) (by decide) dX8_keepsAt_225 (fun H locs hP hD hS => ?_)
      have hP : va_P D vwCl (wM y h q tw pn ki on ot ab be zA zB zC zD zF zT (upZ fo ((25 * k) + p) I1) (vp_updL lw ((25 * k) + p) L1) (vp_updL hg ((25 * k) + p) H1) (upZ at_ ((25 * k) + p) true) tl th wo wl wh I1 L1 H1 di su an) H := hP
      have hD : va_D A (wM y h q tw pn ki on ot ab be zA zB zC zD zF zT (upZ fo ((25 * k) + p) I1) (vp_updL lw ((25 * k) + p) L1) (vp_updL hg ((25 * k) + p) H1) (upZ at_ ((25 * k) + p) true) tl th wo wl wh I1 L1 H1 di su an) := hD
      refine lv_aload_n hx hb dX8_keepsAt_226 rfl (lv_at hl 4 rfl) ?_
      refine va_get (D := D) (ci := 6) (v := .ref (q 17)) (C := RX8) (T := TX8) (N := 28) hx hb hts in_X8_keepsAt_X8 hown hK.1 hP 0 rfl rfl 17 (by decide) (hts (.fieldLink RX8 57 "NestlimitModel" "toldLow" "[J") (List.mem_of_getElem? (i := 10) rfl)) (fun _ h9 => h9) rfl dX8_keepsAt_227 ?_
      refine lv_iload_n hx hb dX8_keepsAt_230 rfl (lv_at hl 3 rfl) ?_
      refine lv_iload hx hb dX8_keepsAt_231 (lv_at hl 0 rfl) ?_
      refine lv_if_ne (tgt := 243) hx hb dX8_keepsAt_233 (by decide) (fun c_233 => ?_) (fun c_233 => absurd c_233 (by decide))
      refine lv_aload_n hx hb dX8_keepsAt_243 rfl (lv_at hl 4 rfl) ?_
      refine va_get (D := D) (ci := 6) (v := .int (gB I1)) (C := RX8) (T := TX8) (N := 28) hx hb hts in_X8_keepsAt_X8 hown hK.1 hP 0 rfl rfl 22 (by decide) (hts (.fieldLink RX8 92 "NestlimitModel" "is" "Z") (List.mem_of_getElem? (i := 4) rfl)) (fun _ h9 => h9) rfl dX8_keepsAt_244 ?_
      refine g_beq (tgt := 272) hx hb dX8_keepsAt_247 (by decide) (fun c_247 => ?_) (fun c_247 => ?_)
      · skip
        refine lv_ldc2 (v := 2) hx hb hown (hts (.constantLong RX8 137 (2)) (List.mem_of_getElem? (i := 11) rfl)) dX8_keepsAt_272 ?_
        refine lv_aload_n hx hb dX8_keepsAt_275 rfl (lv_at hl 4 rfl) ?_
        refine va_get (D := D) (ci := 6) (v := .ref (q 17)) (C := RX8) (T := TX8) (N := 28) hx hb hts in_X8_keepsAt_X8 hown hK.1 hP 0 rfl rfl 17 (by decide) (hts (.fieldLink RX8 57 "NestlimitModel" "toldLow" "[J") (List.mem_of_getElem? (i := 10) rfl)) (fun _ h9 => h9) rfl dX8_keepsAt_276 ?_
        refine lv_iload_n hx hb dX8_keepsAt_279 rfl (lv_at hl 3 rfl) ?_
        refine lv_iconst (v := 1) hx hb dX8_keepsAt_280 (by decide) ?_
        refine lv_isub hx hb dX8_keepsAt_281 ?_
        refine g_topi (y := nI ((25 * k) + p - 1)) (pk_sub (a := 25 * k + p) (b := 1) (by omega)) ?_
        refine g_lald (k := (25 * k) + p - 1) hx hb hK.1 hP 16 1 rfl rfl (by omega) (by decide) dX8_keepsAt_282 ?_
        refine lv_lmul hx hb dX8_keepsAt_283 ?_
        refine g_last (k := (25 * k) + p) (x := 2 * (tl ((25 * k) + p - 1))) hx hb hK.1 hP hD hS 16 1 rfl rfl (by omega) (by decide) dX8_keepsAt_284 (fun H locs hP hD hS => ?_)
        have hP : va_P D vwCl (wM y h q tw pn ki on ot ab be zA zB zC zD zF zT (upZ fo ((25 * k) + p) I1) (vp_updL lw ((25 * k) + p) L1) (vp_updL hg ((25 * k) + p) H1) (upZ at_ ((25 * k) + p) true) (vp_updL tl ((25 * k) + p) (2 * (tl ((25 * k) + p - 1)))) th wo wl wh I1 L1 H1 di su an) H := hP
        have hD : va_D A (wM y h q tw pn ki on ot ab be zA zB zC zD zF zT (upZ fo ((25 * k) + p) I1) (vp_updL lw ((25 * k) + p) L1) (vp_updL hg ((25 * k) + p) H1) (upZ at_ ((25 * k) + p) true) (vp_updL tl ((25 * k) + p) (2 * (tl ((25 * k) + p - 1)))) th wo wl wh I1 L1 H1 di su an) := hD
        refine lv_aload_n hx hb dX8_keepsAt_285 rfl (lv_at hl 4 rfl) ?_
        refine va_get (D := D) (ci := 6) (v := .ref (q 18)) (C := RX8) (T := TX8) (N := 28) hx hb hts in_X8_keepsAt_X8 hown hK.1 hP 0 rfl rfl 18 (by decide) (hts (.fieldLink RX8 60 "NestlimitModel" "toldHigh" "[J") (List.mem_of_getElem? (i := 12) rfl)) (fun _ h9 => h9) rfl dX8_keepsAt_286 ?_
        refine lv_iload_n hx hb dX8_keepsAt_289 rfl (lv_at hl 3 rfl) ?_
        refine lv_iload hx hb dX8_keepsAt_290 (lv_at hl 0 rfl) ?_
        refine lv_if_ne (tgt := 302) hx hb dX8_keepsAt_292 (by decide) (fun c_292 => ?_) (fun c_292 => absurd c_292 (by decide))
        refine lv_aload_n hx hb dX8_keepsAt_302 rfl (lv_at hl 4 rfl) ?_
        refine va_get (D := D) (ci := 6) (v := .int (gB I1)) (C := RX8) (T := TX8) (N := 28) hx hb hts in_X8_keepsAt_X8 hown hK.1 hP 0 rfl rfl 22 (by decide) (hts (.fieldLink RX8 92 "NestlimitModel" "is" "Z") (List.mem_of_getElem? (i := 4) rfl)) (fun _ h9 => h9) rfl dX8_keepsAt_303 ?_
        refine g_beq (tgt := 331) hx hb dX8_keepsAt_306 (by decide) (fun c_306 => ?_) (fun c_306 => absurd c_306 c_247)
        refine lv_ldc2 (v := 2) hx hb hown (hts (.constantLong RX8 137 (2)) (List.mem_of_getElem? (i := 11) rfl)) dX8_keepsAt_331 ?_
        refine lv_aload_n hx hb dX8_keepsAt_334 rfl (lv_at hl 4 rfl) ?_
        refine va_get (D := D) (ci := 6) (v := .ref (q 18)) (C := RX8) (T := TX8) (N := 28) hx hb hts in_X8_keepsAt_X8 hown hK.1 hP 0 rfl rfl 18 (by decide) (hts (.fieldLink RX8 60 "NestlimitModel" "toldHigh" "[J") (List.mem_of_getElem? (i := 12) rfl)) (fun _ h9 => h9) rfl dX8_keepsAt_335 ?_
        refine lv_iload_n hx hb dX8_keepsAt_338 rfl (lv_at hl 3 rfl) ?_
        refine lv_iconst (v := 1) hx hb dX8_keepsAt_339 (by decide) ?_
        refine lv_isub hx hb dX8_keepsAt_340 ?_
        refine g_topi (y := nI ((25 * k) + p - 1)) (pk_sub (a := 25 * k + p) (b := 1) (by omega)) ?_
        refine g_lald (k := (25 * k) + p - 1) hx hb hK.1 hP 17 1 rfl rfl (by omega) (by decide) dX8_keepsAt_341 ?_
        refine lv_lmul hx hb dX8_keepsAt_342 ?_
        refine g_last (k := (25 * k) + p) (x := 2 * (th ((25 * k) + p - 1))) hx hb hK.1 hP hD hS 17 1 rfl rfl (by omega) (by decide) dX8_keepsAt_343 (fun H locs hP hD hS => ?_)
        have hP : va_P D vwCl (wM y h q tw pn ki on ot ab be zA zB zC zD zF zT (upZ fo ((25 * k) + p) I1) (vp_updL lw ((25 * k) + p) L1) (vp_updL hg ((25 * k) + p) H1) (upZ at_ ((25 * k) + p) true) (vp_updL tl ((25 * k) + p) (2 * (tl ((25 * k) + p - 1)))) (vp_updL th ((25 * k) + p) (2 * (th ((25 * k) + p - 1)))) wo wl wh I1 L1 H1 di su an) H := hP
        have hD : va_D A (wM y h q tw pn ki on ot ab be zA zB zC zD zF zT (upZ fo ((25 * k) + p) I1) (vp_updL lw ((25 * k) + p) L1) (vp_updL hg ((25 * k) + p) H1) (upZ at_ ((25 * k) + p) true) (vp_updL tl ((25 * k) + p) (2 * (tl ((25 * k) + p - 1)))) (vp_updL th ((25 * k) + p) (2 * (th ((25 * k) + p - 1)))) wo wl wh I1 L1 H1 di su an) := hD
        exact W.vret hx hb hr (fun t ht hW => ⟨⟨none, wM y h q tw pn ki on ot ab be zA zB zC zD zF zT (upZ fo ((25 * k) + p) I1) (vp_updL lw ((25 * k) + p) L1) (vp_updL hg ((25 * k) + p) H1) (upZ at_ ((25 * k) + p) true) (vp_updL tl ((25 * k) + p) (2 * (tl ((25 * k) + p - 1)))) (vp_updL th ((25 * k) + p) (2 * (th ((25 * k) + p - 1)))) wo wl wh I1 L1 H1 di su an, rfl, ⟨rfl, by simp only [gI1, gL1, kaB, kaA, kaL, kaH, Bool.false_eq_true, if_false, if_true, if_neg c_182, if_pos c_193, if_neg c_247]⟩, rfl, by rw [ht]; exact hP⟩, by rw [← hAe]; exact hS.F ht⟩) (by rw [← hAe]; exact hS.2.2) dX8_keepsAt_344
      · skip
        refine lv_ldc2 (v := 2) hx hb hown (hts (.constantLong RX8 137 (2)) (List.mem_of_getElem? (i := 11) rfl)) dX8_keepsAt_250 ?_
        refine lv_aload_n hx hb dX8_keepsAt_253 rfl (lv_at hl 4 rfl) ?_
        refine va_get (D := D) (ci := 6) (v := .ref (q 17)) (C := RX8) (T := TX8) (N := 28) hx hb hts in_X8_keepsAt_X8 hown hK.1 hP 0 rfl rfl 17 (by decide) (hts (.fieldLink RX8 57 "NestlimitModel" "toldLow" "[J") (List.mem_of_getElem? (i := 10) rfl)) (fun _ h9 => h9) rfl dX8_keepsAt_254 ?_
        refine lv_iload_n hx hb dX8_keepsAt_257 rfl (lv_at hl 3 rfl) ?_
        refine lv_iconst (v := 1) hx hb dX8_keepsAt_258 (by decide) ?_
        refine lv_isub hx hb dX8_keepsAt_259 ?_
        refine g_topi (y := nI ((25 * k) + p - 1)) (pk_sub (a := 25 * k + p) (b := 1) (by omega)) ?_
        refine g_lald (k := (25 * k) + p - 1) hx hb hK.1 hP 16 1 rfl rfl (by omega) (by decide) dX8_keepsAt_260 ?_
        refine lv_lmul hx hb dX8_keepsAt_261 ?_
        refine lv_aload_n hx hb dX8_keepsAt_262 rfl (lv_at hl 4 rfl) ?_
        refine va_get (D := D) (ci := 6) (v := .long L1) (C := RX8) (T := TX8) (N := 28) hx hb hts in_X8_keepsAt_X8 hown hK.1 hP 0 rfl rfl 23 (by decide) (hts (.fieldLink RX8 96 "NestlimitModel" "low" "J") (List.mem_of_getElem? (i := 7) rfl)) (fun _ h9 => h9) rfl dX8_keepsAt_263 ?_
        refine g_callR (v0 := .long (sp_X8_most (2 * (tl ((25 * k) + p - 1))) L1)) (va_runS (As := [.long (2 * (tl ((25 * k) + p - 1))), .long L1]) (rest := [.int (nI ((25 * k) + p)), .ref (q 17)]) ⟨hx, hb, hml, hown, hts⟩ (c_X8_most l D y H.size (2 * (tl ((25 * k) + p - 1))) L1) (va_cwS 2 hts gX8_keepsAt_X8_most rfl rfl rfl (by decide +kernel) ⟨Nat.le_of_ble_eq_true rfl, Nat.le_of_ble_eq_true rfl⟩) (gP_S hP hD hK [] (by decide) rfl) rfl rfl hl.1 rfl (lv_room (Nat.le_of_ble_eq_true rfl)) dX8_keepsAt_266 ⟨Nat.zero_le _, Nat.zero_le _⟩) ?_
        refine lv_goto (tgt := 284) hx hb dX8_keepsAt_269 (by decide) ?_
        refine g_last (k := (25 * k) + p) (x := sp_X8_most (2 * (tl ((25 * k) + p - 1))) L1) hx hb hK.1 hP hD hS 16 1 rfl rfl (by omega) (by decide) dX8_keepsAt_284 (fun H locs hP hD hS => ?_)
        have hP : va_P D vwCl (wM y h q tw pn ki on ot ab be zA zB zC zD zF zT (upZ fo ((25 * k) + p) I1) (vp_updL lw ((25 * k) + p) L1) (vp_updL hg ((25 * k) + p) H1) (upZ at_ ((25 * k) + p) true) (vp_updL tl ((25 * k) + p) (sp_X8_most (2 * (tl ((25 * k) + p - 1))) L1)) th wo wl wh I1 L1 H1 di su an) H := hP
        have hD : va_D A (wM y h q tw pn ki on ot ab be zA zB zC zD zF zT (upZ fo ((25 * k) + p) I1) (vp_updL lw ((25 * k) + p) L1) (vp_updL hg ((25 * k) + p) H1) (upZ at_ ((25 * k) + p) true) (vp_updL tl ((25 * k) + p) (sp_X8_most (2 * (tl ((25 * k) + p - 1))) L1)) th wo wl wh I1 L1 H1 di su an) := hD
        refine lv_aload_n hx hb dX8_keepsAt_285 rfl (lv_at hl 4 rfl) ?_
        refine va_get (D := D) (ci := 6) (v := .ref (q 18)) (C := RX8) (T := TX8) (N := 28) hx hb hts in_X8_keepsAt_X8 hown hK.1 hP 0 rfl rfl 18 (by decide) (hts (.fieldLink RX8 60 "NestlimitModel" "toldHigh" "[J") (List.mem_of_getElem? (i := 12) rfl)) (fun _ h9 => h9) rfl dX8_keepsAt_286 ?_
        refine lv_iload_n hx hb dX8_keepsAt_289 rfl (lv_at hl 3 rfl) ?_
        refine lv_iload hx hb dX8_keepsAt_290 (lv_at hl 0 rfl) ?_
        refine lv_if_ne (tgt := 302) hx hb dX8_keepsAt_292 (by decide) (fun c_292 => ?_) (fun c_292 => absurd c_292 (by decide))
        refine lv_aload_n hx hb dX8_keepsAt_302 rfl (lv_at hl 4 rfl) ?_
        refine va_get (D := D) (ci := 6) (v := .int (gB I1)) (C := RX8) (T := TX8) (N := 28) hx hb hts in_X8_keepsAt_X8 hown hK.1 hP 0 rfl rfl 22 (by decide) (hts (.fieldLink RX8 92 "NestlimitModel" "is" "Z") (List.mem_of_getElem? (i := 4) rfl)) (fun _ h9 => h9) rfl dX8_keepsAt_303 ?_
        refine g_beq (tgt := 331) hx hb dX8_keepsAt_306 (by decide) (fun c_306 => absurd c_247 c_306) (fun c_306 => ?_)
        refine lv_ldc2 (v := 2) hx hb hown (hts (.constantLong RX8 137 (2)) (List.mem_of_getElem? (i := 11) rfl)) dX8_keepsAt_309 ?_
        refine lv_aload_n hx hb dX8_keepsAt_312 rfl (lv_at hl 4 rfl) ?_
        refine va_get (D := D) (ci := 6) (v := .ref (q 18)) (C := RX8) (T := TX8) (N := 28) hx hb hts in_X8_keepsAt_X8 hown hK.1 hP 0 rfl rfl 18 (by decide) (hts (.fieldLink RX8 60 "NestlimitModel" "toldHigh" "[J") (List.mem_of_getElem? (i := 12) rfl)) (fun _ h9 => h9) rfl dX8_keepsAt_313 ?_
        refine lv_iload_n hx hb dX8_keepsAt_316 rfl (lv_at hl 3 rfl) ?_
        refine lv_iconst (v := 1) hx hb dX8_keepsAt_317 (by decide) ?_
        refine lv_isub hx hb dX8_keepsAt_318 ?_
        refine g_topi (y := nI ((25 * k) + p - 1)) (pk_sub (a := 25 * k + p) (b := 1) (by omega)) ?_
        refine g_lald (k := (25 * k) + p - 1) hx hb hK.1 hP 17 1 rfl rfl (by omega) (by decide) dX8_keepsAt_319 ?_
        refine lv_lmul hx hb dX8_keepsAt_320 ?_
        refine lv_aload_n hx hb dX8_keepsAt_321 rfl (lv_at hl 4 rfl) ?_
        refine va_get (D := D) (ci := 6) (v := .long H1) (C := RX8) (T := TX8) (N := 28) hx hb hts in_X8_keepsAt_X8 hown hK.1 hP 0 rfl rfl 24 (by decide) (hts (.fieldLink RX8 100 "NestlimitModel" "high" "J") (List.mem_of_getElem? (i := 8) rfl)) (fun _ h9 => h9) rfl dX8_keepsAt_322 ?_
        refine g_callR (v0 := .long (sp_X8_least (2 * (th ((25 * k) + p - 1))) H1)) (va_runS (As := [.long (2 * (th ((25 * k) + p - 1))), .long H1]) (rest := [.int (nI ((25 * k) + p)), .ref (q 18)]) ⟨hx, hb, hml, hown, hts⟩ (c_X8_least l D y H.size (2 * (th ((25 * k) + p - 1))) H1) (va_cwS 2 hts gX8_keepsAt_X8_least rfl rfl rfl (by decide +kernel) ⟨Nat.le_of_ble_eq_true rfl, Nat.le_of_ble_eq_true rfl⟩) (gP_S hP hD hK [] (by decide) rfl) rfl rfl hl.1 rfl (lv_room (Nat.le_of_ble_eq_true rfl)) dX8_keepsAt_325 ⟨Nat.zero_le _, Nat.zero_le _⟩) ?_
        refine lv_goto (tgt := 343) hx hb dX8_keepsAt_328 (by decide) ?_
        refine g_last (k := (25 * k) + p) (x := sp_X8_least (2 * (th ((25 * k) + p - 1))) H1) hx hb hK.1 hP hD hS 17 1 rfl rfl (by omega) (by decide) dX8_keepsAt_343 (fun H locs hP hD hS => ?_)
        have hP : va_P D vwCl (wM y h q tw pn ki on ot ab be zA zB zC zD zF zT (upZ fo ((25 * k) + p) I1) (vp_updL lw ((25 * k) + p) L1) (vp_updL hg ((25 * k) + p) H1) (upZ at_ ((25 * k) + p) true) (vp_updL tl ((25 * k) + p) (sp_X8_most (2 * (tl ((25 * k) + p - 1))) L1)) (vp_updL th ((25 * k) + p) (sp_X8_least (2 * (th ((25 * k) + p - 1))) H1)) wo wl wh I1 L1 H1 di su an) H := hP
        have hD : va_D A (wM y h q tw pn ki on ot ab be zA zB zC zD zF zT (upZ fo ((25 * k) + p) I1) (vp_updL lw ((25 * k) + p) L1) (vp_updL hg ((25 * k) + p) H1) (upZ at_ ((25 * k) + p) true) (vp_updL tl ((25 * k) + p) (sp_X8_most (2 * (tl ((25 * k) + p - 1))) L1)) (vp_updL th ((25 * k) + p) (sp_X8_least (2 * (th ((25 * k) + p - 1))) H1)) wo wl wh I1 L1 H1 di su an) := hD
        exact W.vret hx hb hr (fun t ht hW => ⟨⟨none, wM y h q tw pn ki on ot ab be zA zB zC zD zF zT (upZ fo ((25 * k) + p) I1) (vp_updL lw ((25 * k) + p) L1) (vp_updL hg ((25 * k) + p) H1) (upZ at_ ((25 * k) + p) true) (vp_updL tl ((25 * k) + p) (sp_X8_most (2 * (tl ((25 * k) + p - 1))) L1)) (vp_updL th ((25 * k) + p) (sp_X8_least (2 * (th ((25 * k) + p - 1))) H1)) wo wl wh I1 L1 H1 di su an, rfl, ⟨rfl, by simp only [gI1, gL1, kaB, kaA, kaL, kaH, Bool.false_eq_true, if_false, if_true, if_neg c_182, if_pos c_193, if_pos c_247]⟩, rfl, by rw [ht]; exact hP⟩, by rw [← hAe]; exact hS.F ht⟩) (by rw [← hAe]; exact hS.2.2) dX8_keepsAt_344
set_option maxHeartbeats 4000000 in
set_option maxRecDepth 100000 in
theorem c_X8_keepsAt_1 (l : Launch) (D : va_G) (y : Nat → ClassId) (sz : Nat) (h : Nat) (q : Nat → Nat) (tw : Int32) (pn : Nat) (ki on ot ab be zA zB zC zD zF zT : Nat → Int32) (fo : Nat → Bool) (lw hg : Nat → Int64) (at_ : Nat → Bool) (tl th : Nat → Int64) (wo : Nat → Bool) (wl wh : Nat → Int64) (is_ : Bool) (lo_ hi_ : Int64) (di : Nat → Int32) (su : Nat → Int64) (an : Nat → Bool) (kd k p o1 : Nat) (I1 : Bool) (L1 H1 : Int64) (hk : k < 40) (hp : p < 25) (hkd : kd ≤ 8) (hki : ki k = nI kd) (hon : on k = nI o1) (ho1 : o1 < 40) (hot : ot k = -1) (hok : fo (25 * o1 + p) = true → mkOK kd be zF zT k (lw (25 * o1 + p)) (hg (25 * o1 + p))) (hI1 : fo (25 * o1 + p) = true → mk_is kd ab be zA zB zC zD zF zT lo_ hi_ k p (lw (25 * o1 + p)) (hg (25 * o1 + p)) (lw (25 * k + p)) (hg (25 * k + p)) = I1) (hL1 : fo (25 * o1 + p) = true → mk_lo kd ab be zA zB zC zD zF zT lo_ hi_ k p (lw (25 * o1 + p)) (hg (25 * o1 + p)) (lw (25 * k + p)) (hg (25 * k + p)) = L1) (hH1 : fo (25 * o1 + p) = true → mk_hi kd ab be zA zB zC zD zF zT lo_ hi_ k p (lw (25 * o1 + p)) (hg (25 * o1 + p)) (lw (25 * k + p)) (hg (25 * k + p)) = H1) : Met l yX8_keepsAt wsX8_keepsAt ({ frames := 4, cells := 0, slots := 0, locals := 122 } : Room) (gP D y [.ref h, .int (nI k), .int (nI p)] (wM y h q tw pn ki on ot ab be zA zB zC zD zF zT fo lw hg at_ tl th wo wl wh is_ lo_ hi_ di su an) sz) (gQ D (wM y h q tw pn ki on ot ab be zA zB zC zD zF zT fo lw hg at_ tl th wo wl wh is_ lo_ hi_ di su an) (gF none (wM y h q tw pn ki on ot ab be zA zB zC zD zF zT (upZ fo ((25 * k) + p) (gI1 (fo (25 * o1 + p)) I1)) (vp_updL lw ((25 * k) + p) (gL1 (fo (25 * o1 + p)) L1 lo_)) (vp_updL hg ((25 * k) + p) (gL1 (fo (25 * o1 + p)) H1 hi_)) (upZ at_ ((25 * k) + p) (kaA (kaB p (at_ ((25 * k) + p - 1))) (gI1 (fo (25 * o1 + p)) I1))) (vp_updL tl ((25 * k) + p) (kaL (kaB p (at_ ((25 * k) + p - 1))) (gI1 (fo (25 * o1 + p)) I1) (tl ((25 * k) + p - 1)) (gL1 (fo (25 * o1 + p)) L1 lo_))) (vp_updL th ((25 * k) + p) (kaH (kaB p (at_ ((25 * k) + p - 1))) (gI1 (fo (25 * o1 + p)) I1) (th ((25 * k) + p - 1)) (gL1 (fo (25 * o1 + p)) H1 hi_))) wo wl wh (gI1 (fo (25 * o1 + p)) I1) (gL1 (fo (25 * o1 + p)) L1 lo_) (gL1 (fo (25 * o1 + p)) H1 hi_) di su an))) 0 0 (va_A (wM y h q tw pn ki on ot ab be zA zB zC zD zF zT fo lw hg at_ tl th wo wl wh is_ lo_ hi_ di su an) sz) := by
  refine Met.ofW (cc := cX8_keepsAt) (maxL := 7) (ret := none) (by decide) rfl ?_
  intro pg e s m args below meth c s₁ B hml hv
  obtain ⟨rfl, hsz, hP, hK, hD0⟩ := hv
  have hx := B.exec
  have hb := B.bytes
  have hr := B.returns
  have hts := atoms_spec (ws := wsX8_keepsAt) B.pre
  have hown : s.vm.findClass RX8 = some m.cls := findClass_of_methodNamed B.named
  have hlocks := B.notSynchronized
  subst hsz
  obtain ⟨A, hAe⟩ : ∃ A : Nat → Prop, A = va_A (wM y h q tw pn ki on ot ab be zA zB zC zD zF zT fo lw hg at_ tl th wo wl wh is_ lo_ hi_ di su an) s.heap.size := ⟨_, rfl⟩
  have hD : va_D A (wM y h q tw pn ki on ot ab be zA zB zC zD zF zT fo lw hg at_ tl th wo wl wh is_ lo_ hi_ di su an) := by rw [hAe]; exact hD0.self (sz := s.heap.size)
  have hA : ∀ q : Nat, s.heap.size ≤ q → A q := fun q h => by rw [hAe]; exact Or.inr h
  have hS : va_S A s.heap s.heap [] := va_S.rf
  have hl := lv_entry ([.ref h, .int (nI k), .int (nI p)]) (n := 7) (Nat.le_of_ble_eq_true rfl)
  rw [lg_entry_eq]
  generalize (lg_sl ([.ref h, .int (nI k), .int (nI p)]) ++ List.replicate (7 - (lg_sl ([.ref h, .int (nI k), .int (nI p)])).length) Slot.unset).toArray = ls at hl ⊢
  have hl : lv_has ls 7 [(0, .ref h), (1, .int (nI k)), (2, .int (nI p))] := hl
  refine lv_bipush (v := 25) hx hb dX8_keepsAt_0 (by decide) ?_
  refine lv_iload_n hx hb dX8_keepsAt_2 rfl (lv_at hl 1 rfl) ?_
  refine lv_imul hx hb dX8_keepsAt_3 ?_
  refine g_topi (pk_mul 25 k) ?_
  refine lv_iload_n hx hb dX8_keepsAt_4 rfl (lv_at hl 2 rfl) ?_
  refine lv_iadd hx hb dX8_keepsAt_5 ?_
  refine g_topi (nI_add (25 * k) p) ?_
  refine lv_istore_n (lv' := [(3, .int (nI ((25 * k) + p))), (0, .ref h), (1, .int (nI k)), (2, .int (nI p))]) hx hb dX8_keepsAt_6 rfl hl (by decide) rfl (fun ls hl => ?_)
  refine lv_bipush (v := 25) hx hb dX8_keepsAt_7 (by decide) ?_
  refine lv_aload_n hx hb dX8_keepsAt_9 rfl (lv_at hl 1 rfl) ?_
  refine va_get (D := D) (ci := 6) (v := .ref (q 3)) (C := RX8) (T := TX8) (N := 28) hx hb hts in_X8_keepsAt_X8 hown hK.1 hP 0 rfl rfl 3 (by decide) (hts (.fieldLink RX8 13 "NestlimitModel" "ones" "[I") (List.mem_of_getElem? (i := 1) rfl)) (fun _ h9 => h9) rfl dX8_keepsAt_10 ?_
  refine lv_iload_n hx hb dX8_keepsAt_13 rfl (lv_at hl 2 rfl) ?_
  refine g_iald (k := k) hx hb hK.1 hP 2 0 rfl rfl (hk) (by decide) dX8_keepsAt_14 ?_
  refine lv_iconst (v := -1) hx hb dX8_keepsAt_15 (by decide) ?_
  refine lv_icmp_ne (tgt := 23) hx hb dX8_keepsAt_16 (by decide) (fun c_16 => ?_) (fun c_16 => absurd c_16 (g_nm1 hon ho1))
  refine lv_aload_n hx hb dX8_keepsAt_23 rfl (lv_at hl 1 rfl) ?_
  refine va_get (D := D) (ci := 6) (v := .ref (q 3)) (C := RX8) (T := TX8) (N := 28) hx hb hts in_X8_keepsAt_X8 hown hK.1 hP 0 rfl rfl 3 (by decide) (hts (.fieldLink RX8 13 "NestlimitModel" "ones" "[I") (List.mem_of_getElem? (i := 1) rfl)) (fun _ h9 => h9) rfl dX8_keepsAt_24 ?_
  refine lv_iload_n hx hb dX8_keepsAt_27 rfl (lv_at hl 2 rfl) ?_
  refine g_iald (k := k) hx hb hK.1 hP 2 0 rfl rfl (hk) (by decide) dX8_keepsAt_28 ?_
  refine g_topi (y := nI o1) (hon) ?_
  refine lv_imul hx hb dX8_keepsAt_29 ?_
  refine g_topi (pk_mul 25 o1) ?_
  refine lv_iload_n hx hb dX8_keepsAt_30 rfl (lv_at hl 3 rfl) ?_
  refine lv_iadd hx hb dX8_keepsAt_31 ?_
  refine g_topi (nI_add (25 * o1) p) ?_
  refine lv_istore (lv' := [(4, .int (nI ((25 * o1) + p))), (3, .int (nI ((25 * k) + p))), (0, .ref h), (1, .int (nI k)), (2, .int (nI p))]) hx hb dX8_keepsAt_32 hl (by decide) rfl (fun ls hl => ?_)
  refine lv_bipush (v := 25) hx hb dX8_keepsAt_34 (by decide) ?_
  refine lv_aload_n hx hb dX8_keepsAt_36 rfl (lv_at hl 2 rfl) ?_
  refine va_get (D := D) (ci := 6) (v := .ref (q 4)) (C := RX8) (T := TX8) (N := 28) hx hb hts in_X8_keepsAt_X8 hown hK.1 hP 0 rfl rfl 4 (by decide) (hts (.fieldLink RX8 16 "NestlimitModel" "others" "[I") (List.mem_of_getElem? (i := 2) rfl)) (fun _ h9 => h9) rfl dX8_keepsAt_37 ?_
  refine lv_iload_n hx hb dX8_keepsAt_40 rfl (lv_at hl 3 rfl) ?_
  refine g_iald (k := k) hx hb hK.1 hP 3 0 rfl rfl (hk) (by decide) dX8_keepsAt_41 ?_
  refine lv_iconst (v := -1) hx hb dX8_keepsAt_42 (by decide) ?_
  refine lv_icmp_ne (tgt := 50) hx hb dX8_keepsAt_43 (by decide) (fun c_43 => absurd hot c_43) (fun c_43 => ?_)
  refine lv_iload_n hx hb dX8_keepsAt_46 rfl (lv_at hl 3 rfl) ?_
  refine lv_goto (tgt := 56) hx hb dX8_keepsAt_47 (by decide) ?_
  refine lv_imul hx hb dX8_keepsAt_56 ?_
  refine g_topi (pk_mul 25 k) ?_
  refine lv_iload_n hx hb dX8_keepsAt_57 rfl (lv_at hl 4 rfl) ?_
  refine lv_iadd hx hb dX8_keepsAt_58 ?_
  refine g_topi (nI_add (25 * k) p) ?_
  refine lv_istore (lv' := [(5, .int (nI ((25 * k) + p))), (4, .int (nI ((25 * o1) + p))), (3, .int (nI ((25 * k) + p))), (0, .ref h), (1, .int (nI k)), (2, .int (nI p))]) hx hb dX8_keepsAt_59 hl (by decide) rfl (fun ls hl => ?_)
  refine lv_aload_n hx hb dX8_keepsAt_61 rfl (lv_at hl 3 rfl) ?_
  refine lv_aload_n hx hb dX8_keepsAt_62 rfl (lv_at hl 3 rfl) ?_
  refine va_get (D := D) (ci := 6) (v := .ref (q 3)) (C := RX8) (T := TX8) (N := 28) hx hb hts in_X8_keepsAt_X8 hown hK.1 hP 0 rfl rfl 3 (by decide) (hts (.fieldLink RX8 13 "NestlimitModel" "ones" "[I") (List.mem_of_getElem? (i := 1) rfl)) (fun _ h9 => h9) rfl dX8_keepsAt_63 ?_
  refine lv_iload_n hx hb dX8_keepsAt_66 rfl (lv_at hl 4 rfl) ?_
  refine g_iald (k := k) hx hb hK.1 hP 2 0 rfl rfl (hk) (by decide) dX8_keepsAt_67 ?_
  refine lv_iconst (v := -1) hx hb dX8_keepsAt_68 (by decide) ?_
  refine lv_icmp_eq (tgt := 82) hx hb dX8_keepsAt_69 (by decide) (fun c_69 => absurd c_69 (g_nm1 hon ho1)) (fun c_69 => ?_)
  refine lv_aload_n hx hb dX8_keepsAt_72 rfl (lv_at hl 3 rfl) ?_
  refine va_get (D := D) (ci := 6) (v := .ref (q 13)) (C := RX8) (T := TX8) (N := 28) hx hb hts in_X8_keepsAt_X8 hown hK.1 hP 0 rfl rfl 13 (by decide) (hts (.fieldLink RX8 43 "NestlimitModel" "found" "[Z") (List.mem_of_getElem? (i := 3) rfl)) (fun _ h9 => h9) rfl dX8_keepsAt_73 ?_
  refine lv_iload hx hb dX8_keepsAt_76 (lv_at hl 1 rfl) ?_
  refine g_zald (k := (25 * o1) + p) hx hb hK.1 hP 12 2 rfl rfl (by omega) (by decide) dX8_keepsAt_78 ?_
  refine g_beq (tgt := 106) hx hb dX8_keepsAt_79 (by decide) (fun c_79 => ?_) (fun c_79 => ?_)
  · skip
    refine lv_iconst (v := 0) hx hb dX8_keepsAt_106 (by decide) ?_
    refine va_put (D := D) (ci := 6) (v := .int (gB false)) (ty := .boolean) (C := RX8) (T := TX8) (N := 28) hx hb hts in_X8_keepsAt_X8 tyX8 tyX8_ok nmX8 hown hK.1 hP hD hS 0 rfl rfl 22 (by decide) (hts (.fieldLink RX8 92 "NestlimitModel" "is" "Z") (List.mem_of_getElem? (i := 4) rfl)) (fun _ h9 => h9) rfl (by decide +kernel) (gB_n _) (gB_f _) (Nat.le_of_ble_eq_true rfl) dX8_keepsAt_107 (fun H locs hP hD hS => ?_)
    have hP : va_P D vwCl (wM y h q tw pn ki on ot ab be zA zB zC zD zF zT fo lw hg at_ tl th wo wl wh false lo_ hi_ di su an) H := hP
    have hD : va_D A (wM y h q tw pn ki on ot ab be zA zB zC zD zF zT fo lw hg at_ tl th wo wl wh false lo_ hi_ di su an) := hD
    refine lv_aload_n hx hb dX8_keepsAt_110 rfl (lv_at hl 3 rfl) ?_
    refine va_get (D := D) (ci := 6) (v := .int (gB false)) (C := RX8) (T := TX8) (N := 28) hx hb hts in_X8_keepsAt_X8 hown hK.1 hP 0 rfl rfl 22 (by decide) (hts (.fieldLink RX8 92 "NestlimitModel" "is" "Z") (List.mem_of_getElem? (i := 4) rfl)) (fun _ h9 => h9) rfl dX8_keepsAt_111 ?_
    refine g_beq (tgt := 151) hx hb dX8_keepsAt_114 (by decide) (fun c_114 => ?_) (fun c_114 => absurd c_114 (by decide))
    refine lv_aload_n hx hb dX8_keepsAt_151 rfl (lv_at hl 3 rfl) ?_
    refine va_get (D := D) (ci := 6) (v := .ref (q 13)) (C := RX8) (T := TX8) (N := 28) hx hb hts in_X8_keepsAt_X8 hown hK.1 hP 0 rfl rfl 13 (by decide) (hts (.fieldLink RX8 43 "NestlimitModel" "found" "[Z") (List.mem_of_getElem? (i := 3) rfl)) (fun _ h9 => h9) rfl dX8_keepsAt_152 ?_
    refine lv_iload_n hx hb dX8_keepsAt_155 rfl (lv_at hl 2 rfl) ?_
    refine lv_aload_n hx hb dX8_keepsAt_156 rfl (lv_at hl 3 rfl) ?_
    refine va_get (D := D) (ci := 6) (v := .int (gB false)) (C := RX8) (T := TX8) (N := 28) hx hb hts in_X8_keepsAt_X8 hown hK.1 hP 0 rfl rfl 22 (by decide) (hts (.fieldLink RX8 92 "NestlimitModel" "is" "Z") (List.mem_of_getElem? (i := 4) rfl)) (fun _ h9 => h9) rfl dX8_keepsAt_157 ?_
    refine g_zast (k := (25 * k) + p) (x := false) hx hb hK.1 hP hD hS 12 2 rfl rfl (by omega) (by decide) dX8_keepsAt_160 (fun H locs hP hD hS => ?_)
    have hP : va_P D vwCl (wM y h q tw pn ki on ot ab be zA zB zC zD zF zT (upZ fo ((25 * k) + p) false) lw hg at_ tl th wo wl wh false lo_ hi_ di su an) H := hP
    have hD : va_D A (wM y h q tw pn ki on ot ab be zA zB zC zD zF zT (upZ fo ((25 * k) + p) false) lw hg at_ tl th wo wl wh false lo_ hi_ di su an) := hD
    refine lv_aload_n hx hb dX8_keepsAt_161 rfl (lv_at hl 3 rfl) ?_
    refine va_get (D := D) (ci := 6) (v := .ref (q 14)) (C := RX8) (T := TX8) (N := 28) hx hb hts in_X8_keepsAt_X8 hown hK.1 hP 0 rfl rfl 14 (by decide) (hts (.fieldLink RX8 47 "NestlimitModel" "lows" "[J") (List.mem_of_getElem? (i := 5) rfl)) (fun _ h9 => h9) rfl dX8_keepsAt_162 ?_
    refine lv_iload_n hx hb dX8_keepsAt_165 rfl (lv_at hl 2 rfl) ?_
    refine lv_aload_n hx hb dX8_keepsAt_166 rfl (lv_at hl 3 rfl) ?_
    refine va_get (D := D) (ci := 6) (v := .long lo_) (C := RX8) (T := TX8) (N := 28) hx hb hts in_X8_keepsAt_X8 hown hK.1 hP 0 rfl rfl 23 (by decide) (hts (.fieldLink RX8 96 "NestlimitModel" "low" "J") (List.mem_of_getElem? (i := 7) rfl)) (fun _ h9 => h9) rfl dX8_keepsAt_167 ?_
    refine g_last (k := (25 * k) + p) (x := lo_) hx hb hK.1 hP hD hS 13 1 rfl rfl (by omega) (by decide) dX8_keepsAt_170 (fun H locs hP hD hS => ?_)
    have hP : va_P D vwCl (wM y h q tw pn ki on ot ab be zA zB zC zD zF zT (upZ fo ((25 * k) + p) false) (vp_updL lw ((25 * k) + p) lo_) hg at_ tl th wo wl wh false lo_ hi_ di su an) H := hP
    have hD : va_D A (wM y h q tw pn ki on ot ab be zA zB zC zD zF zT (upZ fo ((25 * k) + p) false) (vp_updL lw ((25 * k) + p) lo_) hg at_ tl th wo wl wh false lo_ hi_ di su an) := hD
    refine lv_aload_n hx hb dX8_keepsAt_171 rfl (lv_at hl 3 rfl) ?_
    refine va_get (D := D) (ci := 6) (v := .ref (q 15)) (C := RX8) (T := TX8) (N := 28) hx hb hts in_X8_keepsAt_X8 hown hK.1 hP 0 rfl rfl 15 (by decide) (hts (.fieldLink RX8 51 "NestlimitModel" "highs" "[J") (List.mem_of_getElem? (i := 6) rfl)) (fun _ h9 => h9) rfl dX8_keepsAt_172 ?_
    refine lv_iload_n hx hb dX8_keepsAt_175 rfl (lv_at hl 2 rfl) ?_
    refine lv_aload_n hx hb dX8_keepsAt_176 rfl (lv_at hl 3 rfl) ?_
    refine va_get (D := D) (ci := 6) (v := .long hi_) (C := RX8) (T := TX8) (N := 28) hx hb hts in_X8_keepsAt_X8 hown hK.1 hP 0 rfl rfl 24 (by decide) (hts (.fieldLink RX8 100 "NestlimitModel" "high" "J") (List.mem_of_getElem? (i := 8) rfl)) (fun _ h9 => h9) rfl dX8_keepsAt_177 ?_
    refine g_last (k := (25 * k) + p) (x := hi_) hx hb hK.1 hP hD hS 14 1 rfl rfl (by omega) (by decide) dX8_keepsAt_180 (fun H locs hP hD hS => ?_)
    have hP : va_P D vwCl (wM y h q tw pn ki on ot ab be zA zB zC zD zF zT (upZ fo ((25 * k) + p) false) (vp_updL lw ((25 * k) + p) lo_) (vp_updL hg ((25 * k) + p) hi_) at_ tl th wo wl wh false lo_ hi_ di su an) H := hP
    have hD : va_D A (wM y h q tw pn ki on ot ab be zA zB zC zD zF zT (upZ fo ((25 * k) + p) false) (vp_updL lw ((25 * k) + p) lo_) (vp_updL hg ((25 * k) + p) hi_) at_ tl th wo wl wh false lo_ hi_ di su an) := hD
    refine lv_iload_n hx hb dX8_keepsAt_181 rfl (lv_at hl 5 rfl) ?_
    refine lv_if_le (tgt := 200) hx hb dX8_keepsAt_182 (by decide) (fun c_182 => ?_) (fun c_182 => ?_)
    · skip
      refine lv_iconst (v := 0) hx hb dX8_keepsAt_200 (by decide) ?_
      refine lv_istore (lv' := [(6, .int 0), (5, .int (nI ((25 * k) + p))), (4, .int (nI ((25 * o1) + p))), (3, .int (nI ((25 * k) + p))), (0, .ref h), (1, .int (nI k)), (2, .int (nI p))]) hx hb dX8_keepsAt_201 hl (by decide) rfl (fun ls hl => ?_)
      refine lv_aload_n hx hb dX8_keepsAt_203 rfl (lv_at hl 4 rfl) ?_
      refine va_get (D := D) (ci := 6) (v := .ref (q 16)) (C := RX8) (T := TX8) (N := 28) hx hb hts in_X8_keepsAt_X8 hown hK.1 hP 0 rfl rfl 16 (by decide) (hts (.fieldLink RX8 54 "NestlimitModel" "areTold" "[Z") (List.mem_of_getElem? (i := 9) rfl)) (fun _ h9 => h9) rfl dX8_keepsAt_204 ?_
      refine lv_iload_n hx hb dX8_keepsAt_207 rfl (lv_at hl 3 rfl) ?_
      refine lv_iload hx hb dX8_keepsAt_208 (lv_at hl 0 rfl) ?_
      refine lv_if_ne (tgt := 220) hx hb dX8_keepsAt_210 (by decide) (fun c_210 => absurd c_210 (by decide)) (fun c_210 => ?_)
      refine lv_aload_n hx hb dX8_keepsAt_213 rfl (lv_at hl 4 rfl) ?_
      refine va_get (D := D) (ci := 6) (v := .int (gB false)) (C := RX8) (T := TX8) (N := 28) hx hb hts in_X8_keepsAt_X8 hown hK.1 hP 0 rfl rfl 22 (by decide) (hts (.fieldLink RX8 92 "NestlimitModel" "is" "Z") (List.mem_of_getElem? (i := 4) rfl)) (fun _ h9 => h9) rfl dX8_keepsAt_214 ?_
      refine g_beq (tgt := 224) hx hb dX8_keepsAt_217 (by decide) (fun c_217 => ?_) (fun c_217 => absurd c_217 (by decide))
      refine lv_iconst (v := 0) hx hb dX8_keepsAt_224 (by decide) ?_
      refine g_zast (k := (25 * k) + p) (x := false) hx hb hK.1 hP hD hS 15 2 rfl rfl (by omega) (by decide) dX8_keepsAt_225 (fun H locs hP hD hS => ?_)
      have hP : va_P D vwCl (wM y h q tw pn ki on ot ab be zA zB zC zD zF zT (upZ fo ((25 * k) + p) false) (vp_updL lw ((25 * k) + p) lo_) (vp_updL hg ((25 * k) + p) hi_) (upZ at_ ((25 * k) + p) false) tl th wo wl wh false lo_ hi_ di su an) H := hP
      have hD : va_D A (wM y h q tw pn ki on ot ab be zA zB zC zD zF zT (upZ fo ((25 * k) + p) false) (vp_updL lw ((25 * k) + p) lo_) (vp_updL hg ((25 * k) + p) hi_) (upZ at_ ((25 * k) + p) false) tl th wo wl wh false lo_ hi_ di su an) := hD
      refine lv_aload_n hx hb dX8_keepsAt_226 rfl (lv_at hl 4 rfl) ?_
      refine va_get (D := D) (ci := 6) (v := .ref (q 17)) (C := RX8) (T := TX8) (N := 28) hx hb hts in_X8_keepsAt_X8 hown hK.1 hP 0 rfl rfl 17 (by decide) (hts (.fieldLink RX8 57 "NestlimitModel" "toldLow" "[J") (List.mem_of_getElem? (i := 10) rfl)) (fun _ h9 => h9) rfl dX8_keepsAt_227 ?_
      refine lv_iload_n hx hb dX8_keepsAt_230 rfl (lv_at hl 3 rfl) ?_
      refine lv_iload hx hb dX8_keepsAt_231 (lv_at hl 0 rfl) ?_
      refine lv_if_ne (tgt := 243) hx hb dX8_keepsAt_233 (by decide) (fun c_233 => absurd c_233 (by decide)) (fun c_233 => ?_)
      refine lv_aload_n hx hb dX8_keepsAt_236 rfl (lv_at hl 4 rfl) ?_
      refine va_get (D := D) (ci := 6) (v := .long lo_) (C := RX8) (T := TX8) (N := 28) hx hb hts in_X8_keepsAt_X8 hown hK.1 hP 0 rfl rfl 23 (by decide) (hts (.fieldLink RX8 96 "NestlimitModel" "low" "J") (List.mem_of_getElem? (i := 7) rfl)) (fun _ h9 => h9) rfl dX8_keepsAt_237 ?_
      refine lv_goto (tgt := 284) hx hb dX8_keepsAt_240 (by decide) ?_
      refine g_last (k := (25 * k) + p) (x := lo_) hx hb hK.1 hP hD hS 16 1 rfl rfl (by omega) (by decide) dX8_keepsAt_284 (fun H locs hP hD hS => ?_)
      have hP : va_P D vwCl (wM y h q tw pn ki on ot ab be zA zB zC zD zF zT (upZ fo ((25 * k) + p) false) (vp_updL lw ((25 * k) + p) lo_) (vp_updL hg ((25 * k) + p) hi_) (upZ at_ ((25 * k) + p) false) (vp_updL tl ((25 * k) + p) lo_) th wo wl wh false lo_ hi_ di su an) H := hP
      have hD : va_D A (wM y h q tw pn ki on ot ab be zA zB zC zD zF zT (upZ fo ((25 * k) + p) false) (vp_updL lw ((25 * k) + p) lo_) (vp_updL hg ((25 * k) + p) hi_) (upZ at_ ((25 * k) + p) false) (vp_updL tl ((25 * k) + p) lo_) th wo wl wh false lo_ hi_ di su an) := hD
      refine lv_aload_n hx hb dX8_keepsAt_285 rfl (lv_at hl 4 rfl) ?_
      refine va_get (D := D) (ci := 6) (v := .ref (q 18)) (C := RX8) (T := TX8) (N := 28) hx hb hts in_X8_keepsAt_X8 hown hK.1 hP 0 rfl rfl 18 (by decide) (hts (.fieldLink RX8 60 "NestlimitModel" "toldHigh" "[J") (List.mem_of_getElem? (i := 12) rfl)) (fun _ h9 => h9) rfl dX8_keepsAt_286 ?_
      refine lv_iload_n hx hb dX8_keepsAt_289 rfl (lv_at hl 3 rfl) ?_
      refine lv_iload hx hb dX8_keepsAt_290 (lv_at hl 0 rfl) ?_
      refine lv_if_ne (tgt := 302) hx hb dX8_keepsAt_292 (by decide) (fun c_292 => absurd c_292 (by decide)) (fun c_292 => ?_)
      refine lv_aload_n hx hb dX8_keepsAt_295 rfl (lv_at hl 4 rfl) ?_
      refine va_get (D := D) (ci := 6) (v := .long hi_) (C := RX8) (T := TX8) (N := 28) hx hb hts in_X8_keepsAt_X8 hown hK.1 hP 0 rfl rfl 24 (by decide) (hts (.fieldLink RX8 100 "NestlimitModel" "high" "J") (List.mem_of_getElem? (i := 8) rfl)) (fun _ h9 => h9) rfl dX8_keepsAt_296 ?_
      refine lv_goto (tgt := 343) hx hb dX8_keepsAt_299 (by decide) ?_
      refine g_last (k := (25 * k) + p) (x := hi_) hx hb hK.1 hP hD hS 17 1 rfl rfl (by omega) (by decide) dX8_keepsAt_343 (fun H locs hP hD hS => ?_)
      have hP : va_P D vwCl (wM y h q tw pn ki on ot ab be zA zB zC zD zF zT (upZ fo ((25 * k) + p) false) (vp_updL lw ((25 * k) + p) lo_) (vp_updL hg ((25 * k) + p) hi_) (upZ at_ ((25 * k) + p) false) (vp_updL tl ((25 * k) + p) lo_) (vp_updL th ((25 * k) + p) hi_) wo wl wh false lo_ hi_ di su an) H := hP
      have hD : va_D A (wM y h q tw pn ki on ot ab be zA zB zC zD zF zT (upZ fo ((25 * k) + p) false) (vp_updL lw ((25 * k) + p) lo_) (vp_updL hg ((25 * k) + p) hi_) (upZ at_ ((25 * k) + p) false) (vp_updL tl ((25 * k) + p) lo_) (vp_updL th ((25 * k) + p) hi_) wo wl wh false lo_ hi_ di su an) := hD
      exact W.vret hx hb hr (fun t ht hW => ⟨⟨none, wM y h q tw pn ki on ot ab be zA zB zC zD zF zT (upZ fo ((25 * k) + p) false) (vp_updL lw ((25 * k) + p) lo_) (vp_updL hg ((25 * k) + p) hi_) (upZ at_ ((25 * k) + p) false) (vp_updL tl ((25 * k) + p) lo_) (vp_updL th ((25 * k) + p) hi_) wo wl wh false lo_ hi_ di su an, rfl, ⟨rfl, by simp only [gI1, gL1, kaB, kaA, kaL, kaH, Bool.false_eq_true, if_false, if_true, if_neg c_79, if_pos c_182]⟩, rfl, by rw [ht]; exact hP⟩, by rw [← hAe]; exact hS.F ht⟩) (by rw [← hAe]; exact hS.2.2) dX8_keepsAt_344
    · skip
      have hp1 : 1 ≤ p := g_p1 c_182
      refine lv_aload_n hx hb dX8_keepsAt_185 rfl (lv_at hl 3 rfl) ?_
      refine va_get (D := D) (ci := 6) (v := .ref (q 16)) (C := RX8) (T := TX8) (N := 28) hx hb hts in_X8_keepsAt_X8 hown hK.1 hP 0 rfl rfl 16 (by decide) (hts (.fieldLink RX8 54 "NestlimitModel" "areTold" "[Z") (List.mem_of_getElem? (i := 9) rfl)) (fun _ h9 => h9) rfl dX8_keepsAt_186 ?_
      refine lv_iload_n hx hb dX8_keepsAt_189 rfl (lv_at hl 2 rfl) ?_
      refine lv_iconst (v := 1) hx hb dX8_keepsAt_190 (by decide) ?_
      refine lv_isub hx hb dX8_keepsAt_191 ?_
      refine g_topi (y := nI ((25 * k) + p - 1)) (pk_sub (a := 25 * k + p) (b := 1) (by omega)) ?_
      refine g_zald (k := (25 * k) + p - 1) hx hb hK.1 hP 15 2 rfl rfl (by omega) (by decide) dX8_keepsAt_192 ?_
      refine g_beq (tgt := 200) hx hb dX8_keepsAt_193 (by decide) (fun c_193 => ?_) (fun c_193 => ?_)
      · skip
        refine lv_iconst (v := 0) hx hb dX8_keepsAt_200 (by decide) ?_
        refine lv_istore (lv' := [(6, .int 0), (5, .int (nI ((25 * k) + p))), (4, .int (nI ((25 * o1) + p))), (3, .int (nI ((25 * k) + p))), (0, .ref h), (1, .int (nI k)), (2, .int (nI p))]) hx hb dX8_keepsAt_201 hl (by decide) rfl (fun ls hl => ?_)
        refine lv_aload_n hx hb dX8_keepsAt_203 rfl (lv_at hl 4 rfl) ?_
        refine va_get (D := D) (ci := 6) (v := .ref (q 16)) (C := RX8) (T := TX8) (N := 28) hx hb hts in_X8_keepsAt_X8 hown hK.1 hP 0 rfl rfl 16 (by decide) (hts (.fieldLink RX8 54 "NestlimitModel" "areTold" "[Z") (List.mem_of_getElem? (i := 9) rfl)) (fun _ h9 => h9) rfl dX8_keepsAt_204 ?_
        refine lv_iload_n hx hb dX8_keepsAt_207 rfl (lv_at hl 3 rfl) ?_
        refine lv_iload hx hb dX8_keepsAt_208 (lv_at hl 0 rfl) ?_
        refine lv_if_ne (tgt := 220) hx hb dX8_keepsAt_210 (by decide) (fun c_210 => absurd c_210 (by decide)) (fun c_210 => ?_)
        refine lv_aload_n hx hb dX8_keepsAt_213 rfl (lv_at hl 4 rfl) ?_
        refine va_get (D := D) (ci := 6) (v := .int (gB false)) (C := RX8) (T := TX8) (N := 28) hx hb hts in_X8_keepsAt_X8 hown hK.1 hP 0 rfl rfl 22 (by decide) (hts (.fieldLink RX8 92 "NestlimitModel" "is" "Z") (List.mem_of_getElem? (i := 4) rfl)) (fun _ h9 => h9) rfl dX8_keepsAt_214 ?_
        refine g_beq (tgt := 224) hx hb dX8_keepsAt_217 (by decide) (fun c_217 => ?_) (fun c_217 => absurd c_217 (by decide))
        refine lv_iconst (v := 0) hx hb dX8_keepsAt_224 (by decide) ?_
        refine g_zast (k := (25 * k) + p) (x := false) hx hb hK.1 hP hD hS 15 2 rfl rfl (by omega) (by decide) dX8_keepsAt_225 (fun H locs hP hD hS => ?_)
        have hP : va_P D vwCl (wM y h q tw pn ki on ot ab be zA zB zC zD zF zT (upZ fo ((25 * k) + p) false) (vp_updL lw ((25 * k) + p) lo_) (vp_updL hg ((25 * k) + p) hi_) (upZ at_ ((25 * k) + p) false) tl th wo wl wh false lo_ hi_ di su an) H := hP
        have hD : va_D A (wM y h q tw pn ki on ot ab be zA zB zC zD zF zT (upZ fo ((25 * k) + p) false) (vp_updL lw ((25 * k) + p) lo_) (vp_updL hg ((25 * k) + p) hi_) (upZ at_ ((25 * k) + p) false) tl th wo wl wh false lo_ hi_ di su an) := hD
        refine lv_aload_n hx hb dX8_keepsAt_226 rfl (lv_at hl 4 rfl) ?_
        refine va_get (D := D) (ci := 6) (v := .ref (q 17)) (C := RX8) (T := TX8) (N := 28) hx hb hts in_X8_keepsAt_X8 hown hK.1 hP 0 rfl rfl 17 (by decide) (hts (.fieldLink RX8 57 "NestlimitModel" "toldLow" "[J") (List.mem_of_getElem? (i := 10) rfl)) (fun _ h9 => h9) rfl dX8_keepsAt_227 ?_
        refine lv_iload_n hx hb dX8_keepsAt_230 rfl (lv_at hl 3 rfl) ?_
        refine lv_iload hx hb dX8_keepsAt_231 (lv_at hl 0 rfl) ?_
        refine lv_if_ne (tgt := 243) hx hb dX8_keepsAt_233 (by decide) (fun c_233 => absurd c_233 (by decide)) (fun c_233 => ?_)
        refine lv_aload_n hx hb dX8_keepsAt_236 rfl (lv_at hl 4 rfl) ?_
        refine va_get (D := D) (ci := 6) (v := .long lo_) (C := RX8) (T := TX8) (N := 28) hx hb hts in_X8_keepsAt_X8 hown hK.1 hP 0 rfl rfl 23 (by decide) (hts (.fieldLink RX8 96 "NestlimitModel" "low" "J") (List.mem_of_getElem? (i := 7) rfl)) (fun _ h9 => h9) rfl dX8_keepsAt_237 ?_
        refine lv_goto (tgt := 284) hx hb dX8_keepsAt_240 (by decide) ?_
        refine g_last (k := (25 * k) + p) (x := lo_) hx hb hK.1 hP hD hS 16 1 rfl rfl (by omega) (by decide) dX8_keepsAt_284 (fun H locs hP hD hS => ?_)
        have hP : va_P D vwCl (wM y h q tw pn ki on ot ab be zA zB zC zD zF zT (upZ fo ((25 * k) + p) false) (vp_updL lw ((25 * k) + p) lo_) (vp_updL hg ((25 * k) + p) hi_) (upZ at_ ((25 * k) + p) false) (vp_updL tl ((25 * k) + p) lo_) th wo wl wh false lo_ hi_ di su an) H := hP
        have hD : va_D A (wM y h q tw pn ki on ot ab be zA zB zC zD zF zT (upZ fo ((25 * k) + p) false) (vp_updL lw ((25 * k) + p) lo_) (vp_updL hg ((25 * k) + p) hi_) (upZ at_ ((25 * k) + p) false) (vp_updL tl ((25 * k) + p) lo_) th wo wl wh false lo_ hi_ di su an) := hD
        refine lv_aload_n hx hb dX8_keepsAt_285 rfl (lv_at hl 4 rfl) ?_
        refine va_get (D := D) (ci := 6) (v := .ref (q 18)) (C := RX8) (T := TX8) (N := 28) hx hb hts in_X8_keepsAt_X8 hown hK.1 hP 0 rfl rfl 18 (by decide) (hts (.fieldLink RX8 60 "NestlimitModel" "toldHigh" "[J") (List.mem_of_getElem? (i := 12) rfl)) (fun _ h9 => h9) rfl dX8_keepsAt_286 ?_
        refine lv_iload_n hx hb dX8_keepsAt_289 rfl (lv_at hl 3 rfl) ?_
        refine lv_iload hx hb dX8_keepsAt_290 (lv_at hl 0 rfl) ?_
        refine lv_if_ne (tgt := 302) hx hb dX8_keepsAt_292 (by decide) (fun c_292 => absurd c_292 (by decide)) (fun c_292 => ?_)
        refine lv_aload_n hx hb dX8_keepsAt_295 rfl (lv_at hl 4 rfl) ?_
        refine va_get (D := D) (ci := 6) (v := .long hi_) (C := RX8) (T := TX8) (N := 28) hx hb hts in_X8_keepsAt_X8 hown hK.1 hP 0 rfl rfl 24 (by decide) (hts (.fieldLink RX8 100 "NestlimitModel" "high" "J") (List.mem_of_getElem? (i := 8) rfl)) (fun _ h9 => h9) rfl dX8_keepsAt_296 ?_
        refine lv_goto (tgt := 343) hx hb dX8_keepsAt_299 (by decide) ?_
        refine g_last (k := (25 * k) + p) (x := hi_) hx hb hK.1 hP hD hS 17 1 rfl rfl (by omega) (by decide) dX8_keepsAt_343 (fun H locs hP hD hS => ?_)
        have hP : va_P D vwCl (wM y h q tw pn ki on ot ab be zA zB zC zD zF zT (upZ fo ((25 * k) + p) false) (vp_updL lw ((25 * k) + p) lo_) (vp_updL hg ((25 * k) + p) hi_) (upZ at_ ((25 * k) + p) false) (vp_updL tl ((25 * k) + p) lo_) (vp_updL th ((25 * k) + p) hi_) wo wl wh false lo_ hi_ di su an) H := hP
        have hD : va_D A (wM y h q tw pn ki on ot ab be zA zB zC zD zF zT (upZ fo ((25 * k) + p) false) (vp_updL lw ((25 * k) + p) lo_) (vp_updL hg ((25 * k) + p) hi_) (upZ at_ ((25 * k) + p) false) (vp_updL tl ((25 * k) + p) lo_) (vp_updL th ((25 * k) + p) hi_) wo wl wh false lo_ hi_ di su an) := hD
        exact W.vret hx hb hr (fun t ht hW => ⟨⟨none, wM y h q tw pn ki on ot ab be zA zB zC zD zF zT (upZ fo ((25 * k) + p) false) (vp_updL lw ((25 * k) + p) lo_) (vp_updL hg ((25 * k) + p) hi_) (upZ at_ ((25 * k) + p) false) (vp_updL tl ((25 * k) + p) lo_) (vp_updL th ((25 * k) + p) hi_) wo wl wh false lo_ hi_ di su an, rfl, ⟨rfl, by simp only [gI1, gL1, kaB, kaA, kaL, kaH, Bool.false_eq_true, if_false, if_true, if_neg c_79, if_neg c_182, if_neg c_193]⟩, rfl, by rw [ht]; exact hP⟩, by rw [← hAe]; exact hS.F ht⟩) (by rw [← hAe]; exact hS.2.2) dX8_keepsAt_344
      · skip
        refine lv_iconst (v := 1) hx hb dX8_keepsAt_196 (by decide) ?_
        refine lv_goto (tgt := 201) hx hb dX8_keepsAt_197 (by decide) ?_
        refine lv_istore (lv' := [(6, .int 1), (5, .int (nI ((25 * k) + p))), (4, .int (nI ((25 * o1) + p))), (3, .int (nI ((25 * k) + p))), (0, .ref h), (1, .int (nI k)), (2, .int (nI p))]) hx hb dX8_keepsAt_201 hl (by decide) rfl (fun ls hl => ?_)
        refine lv_aload_n hx hb dX8_keepsAt_203 rfl (lv_at hl 4 rfl) ?_
        refine va_get (D := D) (ci := 6) (v := .ref (q 16)) (C := RX8) (T := TX8) (N := 28) hx hb hts in_X8_keepsAt_X8 hown hK.1 hP 0 rfl rfl 16 (by decide) (hts (.fieldLink RX8 54 "NestlimitModel" "areTold" "[Z") (List.mem_of_getElem? (i := 9) rfl)) (fun _ h9 => h9) rfl dX8_keepsAt_204 ?_
        refine lv_iload_n hx hb dX8_keepsAt_207 rfl (lv_at hl 3 rfl) ?_
        refine lv_iload hx hb dX8_keepsAt_208 (lv_at hl 0 rfl) ?_
        refine lv_if_ne (tgt := 220) hx hb dX8_keepsAt_210 (by decide) (fun c_210 => ?_) (fun c_210 => absurd c_210 (by decide))
        refine lv_iconst (v := 1) hx hb dX8_keepsAt_220 (by decide) ?_
        refine lv_goto (tgt := 225) hx hb dX8_keepsAt_221 (by decide) ?_
        refine g_zast (k := (25 * k) + p) (x := true) hx hb hK.1 hP hD hS 15 2 rfl rfl (by omega) (by decide) dX8_keepsAt_225 (fun H locs hP hD hS => ?_)
        have hP : va_P D vwCl (wM y h q tw pn ki on ot ab be zA zB zC zD zF zT (upZ fo ((25 * k) + p) false) (vp_updL lw ((25 * k) + p) lo_) (vp_updL hg ((25 * k) + p) hi_) (upZ at_ ((25 * k) + p) true) tl th wo wl wh false lo_ hi_ di su an) H := hP
        have hD : va_D A (wM y h q tw pn ki on ot ab be zA zB zC zD zF zT (upZ fo ((25 * k) + p) false) (vp_updL lw ((25 * k) + p) lo_) (vp_updL hg ((25 * k) + p) hi_) (upZ at_ ((25 * k) + p) true) tl th wo wl wh false lo_ hi_ di su an) := hD
        refine lv_aload_n hx hb dX8_keepsAt_226 rfl (lv_at hl 4 rfl) ?_
        refine va_get (D := D) (ci := 6) (v := .ref (q 17)) (C := RX8) (T := TX8) (N := 28) hx hb hts in_X8_keepsAt_X8 hown hK.1 hP 0 rfl rfl 17 (by decide) (hts (.fieldLink RX8 57 "NestlimitModel" "toldLow" "[J") (List.mem_of_getElem? (i := 10) rfl)) (fun _ h9 => h9) rfl dX8_keepsAt_227 ?_
        refine lv_iload_n hx hb dX8_keepsAt_230 rfl (lv_at hl 3 rfl) ?_
        refine lv_iload hx hb dX8_keepsAt_231 (lv_at hl 0 rfl) ?_
        refine lv_if_ne (tgt := 243) hx hb dX8_keepsAt_233 (by decide) (fun c_233 => ?_) (fun c_233 => absurd c_233 (by decide))
        refine lv_aload_n hx hb dX8_keepsAt_243 rfl (lv_at hl 4 rfl) ?_
        refine va_get (D := D) (ci := 6) (v := .int (gB false)) (C := RX8) (T := TX8) (N := 28) hx hb hts in_X8_keepsAt_X8 hown hK.1 hP 0 rfl rfl 22 (by decide) (hts (.fieldLink RX8 92 "NestlimitModel" "is" "Z") (List.mem_of_getElem? (i := 4) rfl)) (fun _ h9 => h9) rfl dX8_keepsAt_244 ?_
        refine g_beq (tgt := 272) hx hb dX8_keepsAt_247 (by decide) (fun c_247 => ?_) (fun c_247 => absurd c_247 (by decide))
        refine lv_ldc2 (v := 2) hx hb hown (hts (.constantLong RX8 137 (2)) (List.mem_of_getElem? (i := 11) rfl)) dX8_keepsAt_272 ?_
        refine lv_aload_n hx hb dX8_keepsAt_275 rfl (lv_at hl 4 rfl) ?_
        refine va_get (D := D) (ci := 6) (v := .ref (q 17)) (C := RX8) (T := TX8) (N := 28) hx hb hts in_X8_keepsAt_X8 hown hK.1 hP 0 rfl rfl 17 (by decide) (hts (.fieldLink RX8 57 "NestlimitModel" "toldLow" "[J") (List.mem_of_getElem? (i := 10) rfl)) (fun _ h9 => h9) rfl dX8_keepsAt_276 ?_
        refine lv_iload_n hx hb dX8_keepsAt_279 rfl (lv_at hl 3 rfl) ?_
        refine lv_iconst (v := 1) hx hb dX8_keepsAt_280 (by decide) ?_
        refine lv_isub hx hb dX8_keepsAt_281 ?_
        refine g_topi (y := nI ((25 * k) + p - 1)) (pk_sub (a := 25 * k + p) (b := 1) (by omega)) ?_
        refine g_lald (k := (25 * k) + p - 1) hx hb hK.1 hP 16 1 rfl rfl (by omega) (by decide) dX8_keepsAt_282 ?_
        refine lv_lmul hx hb dX8_keepsAt_283 ?_
        refine g_last (k := (25 * k) + p) (x := 2 * (tl ((25 * k) + p - 1))) hx hb hK.1 hP hD hS 16 1 rfl rfl (by omega) (by decide) dX8_keepsAt_284 (fun H locs hP hD hS => ?_)
        have hP : va_P D vwCl (wM y h q tw pn ki on ot ab be zA zB zC zD zF zT (upZ fo ((25 * k) + p) false) (vp_updL lw ((25 * k) + p) lo_) (vp_updL hg ((25 * k) + p) hi_) (upZ at_ ((25 * k) + p) true) (vp_updL tl ((25 * k) + p) (2 * (tl ((25 * k) + p - 1)))) th wo wl wh false lo_ hi_ di su an) H := hP
        have hD : va_D A (wM y h q tw pn ki on ot ab be zA zB zC zD zF zT (upZ fo ((25 * k) + p) false) (vp_updL lw ((25 * k) + p) lo_) (vp_updL hg ((25 * k) + p) hi_) (upZ at_ ((25 * k) + p) true) (vp_updL tl ((25 * k) + p) (2 * (tl ((25 * k) + p - 1)))) th wo wl wh false lo_ hi_ di su an) := hD
        refine lv_aload_n hx hb dX8_keepsAt_285 rfl (lv_at hl 4 rfl) ?_
        refine va_get (D := D) (ci := 6) (v := .ref (q 18)) (C := RX8) (T := TX8) (N := 28) hx hb hts in_X8_keepsAt_X8 hown hK.1 hP 0 rfl rfl 18 (by decide) (hts (.fieldLink RX8 60 "NestlimitModel" "toldHigh" "[J") (List.mem_of_getElem? (i := 12) rfl)) (fun _ h9 => h9) rfl dX8_keepsAt_286 ?_
        refine lv_iload_n hx hb dX8_keepsAt_289 rfl (lv_at hl 3 rfl) ?_
        refine lv_iload hx hb dX8_keepsAt_290 (lv_at hl 0 rfl) ?_
        refine lv_if_ne (tgt := 302) hx hb dX8_keepsAt_292 (by decide) (fun c_292 => ?_) (fun c_292 => absurd c_292 (by decide))
        refine lv_aload_n hx hb dX8_keepsAt_302 rfl (lv_at hl 4 rfl) ?_
        refine va_get (D := D) (ci := 6) (v := .int (gB false)) (C := RX8) (T := TX8) (N := 28) hx hb hts in_X8_keepsAt_X8 hown hK.1 hP 0 rfl rfl 22 (by decide) (hts (.fieldLink RX8 92 "NestlimitModel" "is" "Z") (List.mem_of_getElem? (i := 4) rfl)) (fun _ h9 => h9) rfl dX8_keepsAt_303 ?_
        refine g_beq (tgt := 331) hx hb dX8_keepsAt_306 (by decide) (fun c_306 => ?_) (fun c_306 => absurd c_306 (by decide))
        refine lv_ldc2 (v := 2) hx hb hown (hts (.constantLong RX8 137 (2)) (List.mem_of_getElem? (i := 11) rfl)) dX8_keepsAt_331 ?_
        refine lv_aload_n hx hb dX8_keepsAt_334 rfl (lv_at hl 4 rfl) ?_
        refine va_get (D := D) (ci := 6) (v := .ref (q 18)) (C := RX8) (T := TX8) (N := 28) hx hb hts in_X8_keepsAt_X8 hown hK.1 hP 0 rfl rfl 18 (by decide) (hts (.fieldLink RX8 60 "NestlimitModel" "toldHigh" "[J") (List.mem_of_getElem? (i := 12) rfl)) (fun _ h9 => h9) rfl dX8_keepsAt_335 ?_
        refine lv_iload_n hx hb dX8_keepsAt_338 rfl (lv_at hl 3 rfl) ?_
        refine lv_iconst (v := 1) hx hb dX8_keepsAt_339 (by decide) ?_
        refine lv_isub hx hb dX8_keepsAt_340 ?_
        refine g_topi (y := nI ((25 * k) + p - 1)) (pk_sub (a := 25 * k + p) (b := 1) (by omega)) ?_
        refine g_lald (k := (25 * k) + p - 1) hx hb hK.1 hP 17 1 rfl rfl (by omega) (by decide) dX8_keepsAt_341 ?_
        refine lv_lmul hx hb dX8_keepsAt_342 ?_
        refine g_last (k := (25 * k) + p) (x := 2 * (th ((25 * k) + p - 1))) hx hb hK.1 hP hD hS 17 1 rfl rfl (by omega) (by decide) dX8_keepsAt_343 (fun H locs hP hD hS => ?_)
        have hP : va_P D vwCl (wM y h q tw pn ki on ot ab be zA zB zC zD zF zT (upZ fo ((25 * k) + p) false) (vp_updL lw ((25 * k) + p) lo_) (vp_updL hg ((25 * k) + p) hi_) (upZ at_ ((25 * k) + p) true) (vp_updL tl ((25 * k) + p) (2 * (tl ((25 * k) + p - 1)))) (vp_updL th ((25 * k) + p) (2 * (th ((25 * k) + p - 1)))) wo wl wh false lo_ hi_ di su an) H := hP
        have hD : va_D A (wM y h q tw pn ki on ot ab be zA zB zC zD zF zT (upZ fo ((25 * k) + p) false) (vp_updL lw ((25 * k) + p) lo_) (vp_updL hg ((25 * k) + p) hi_) (upZ at_ ((25 * k) + p) true) (vp_updL tl ((25 * k) + p) (2 * (tl ((25 * k) + p - 1)))) (vp_updL th ((25 * k) + p) (2 * (th ((25 * k) + p - 1)))) wo wl wh false lo_ hi_ di su an) := hD
        exact W.vret hx hb hr (fun t ht hW => ⟨⟨none, wM y h q tw pn ki on ot ab be zA zB zC zD zF zT (upZ fo ((25 * k) + p) false) (vp_updL lw ((25 * k) + p) lo_) (vp_updL hg ((25 * k) + p) hi_) (upZ at_ ((25 * k) + p) true) (vp_updL tl ((25 * k) + p) (2 * (tl ((25 * k) + p - 1)))) (vp_updL th ((25 * k) + p) (2 * (th ((25 * k) + p - 1)))) wo wl wh false lo_ hi_ di su an, rfl, ⟨rfl, by simp only [gI1, gL1, kaB, kaA, kaL, kaH, Bool.false_eq_true, if_false, if_true, if_neg c_79, if_neg c_182, if_pos c_193]⟩, rfl, by rw [ht]; exact hP⟩, by rw [← hAe]; exact hS.F ht⟩) (by rw [← hAe]; exact hS.2.2) dX8_keepsAt_344
  · skip
    refine lv_aload_n hx hb dX8_keepsAt_82 rfl (lv_at hl 3 rfl) ?_
    refine va_get (D := D) (ci := 6) (v := .ref (q 4)) (C := RX8) (T := TX8) (N := 28) hx hb hts in_X8_keepsAt_X8 hown hK.1 hP 0 rfl rfl 4 (by decide) (hts (.fieldLink RX8 16 "NestlimitModel" "others" "[I") (List.mem_of_getElem? (i := 2) rfl)) (fun _ h9 => h9) rfl dX8_keepsAt_83 ?_
    refine lv_iload_n hx hb dX8_keepsAt_86 rfl (lv_at hl 4 rfl) ?_
    refine g_iald (k := k) hx hb hK.1 hP 3 0 rfl rfl (hk) (by decide) dX8_keepsAt_87 ?_
    refine lv_iconst (v := -1) hx hb dX8_keepsAt_88 (by decide) ?_
    refine lv_icmp_eq (tgt := 102) hx hb dX8_keepsAt_89 (by decide) (fun c_89 => ?_) (fun c_89 => absurd hot c_89)
    refine lv_iconst (v := 1) hx hb dX8_keepsAt_102 (by decide) ?_
    refine lv_goto (tgt := 107) hx hb dX8_keepsAt_103 (by decide) ?_
    refine va_put (D := D) (ci := 6) (v := .int (gB true)) (ty := .boolean) (C := RX8) (T := TX8) (N := 28) hx hb hts in_X8_keepsAt_X8 tyX8 tyX8_ok nmX8 hown hK.1 hP hD hS 0 rfl rfl 22 (by decide) (hts (.fieldLink RX8 92 "NestlimitModel" "is" "Z") (List.mem_of_getElem? (i := 4) rfl)) (fun _ h9 => h9) rfl (by decide +kernel) (gB_n _) (gB_f _) (Nat.le_of_ble_eq_true rfl) dX8_keepsAt_107 (fun H locs hP hD hS => ?_)
    have hP : va_P D vwCl (wM y h q tw pn ki on ot ab be zA zB zC zD zF zT fo lw hg at_ tl th wo wl wh true lo_ hi_ di su an) H := hP
    have hD : va_D A (wM y h q tw pn ki on ot ab be zA zB zC zD zF zT fo lw hg at_ tl th wo wl wh true lo_ hi_ di su an) := hD
    refine lv_aload_n hx hb dX8_keepsAt_110 rfl (lv_at hl 3 rfl) ?_
    refine va_get (D := D) (ci := 6) (v := .int (gB true)) (C := RX8) (T := TX8) (N := 28) hx hb hts in_X8_keepsAt_X8 hown hK.1 hP 0 rfl rfl 22 (by decide) (hts (.fieldLink RX8 92 "NestlimitModel" "is" "Z") (List.mem_of_getElem? (i := 4) rfl)) (fun _ h9 => h9) rfl dX8_keepsAt_111 ?_
    refine g_beq (tgt := 151) hx hb dX8_keepsAt_114 (by decide) (fun c_114 => absurd c_114 (by decide)) (fun c_114 => ?_)
    refine lv_aload_n hx hb dX8_keepsAt_117 rfl (lv_at hl 3 rfl) ?_
    refine lv_iload_n hx hb dX8_keepsAt_118 rfl (lv_at hl 4 rfl) ?_
    refine lv_iload_n hx hb dX8_keepsAt_119 rfl (lv_at hl 5 rfl) ?_
    refine lv_aload_n hx hb dX8_keepsAt_120 rfl (lv_at hl 3 rfl) ?_
    refine va_get (D := D) (ci := 6) (v := .ref (q 14)) (C := RX8) (T := TX8) (N := 28) hx hb hts in_X8_keepsAt_X8 hown hK.1 hP 0 rfl rfl 14 (by decide) (hts (.fieldLink RX8 47 "NestlimitModel" "lows" "[J") (List.mem_of_getElem? (i := 5) rfl)) (fun _ h9 => h9) rfl dX8_keepsAt_121 ?_
    refine lv_iload hx hb dX8_keepsAt_124 (lv_at hl 1 rfl) ?_
    refine g_lald (k := (25 * o1) + p) hx hb hK.1 hP 13 1 rfl rfl (by omega) (by decide) dX8_keepsAt_126 ?_
    refine lv_aload_n hx hb dX8_keepsAt_127 rfl (lv_at hl 3 rfl) ?_
    refine va_get (D := D) (ci := 6) (v := .ref (q 15)) (C := RX8) (T := TX8) (N := 28) hx hb hts in_X8_keepsAt_X8 hown hK.1 hP 0 rfl rfl 15 (by decide) (hts (.fieldLink RX8 51 "NestlimitModel" "highs" "[J") (List.mem_of_getElem? (i := 6) rfl)) (fun _ h9 => h9) rfl dX8_keepsAt_128 ?_
    refine lv_iload hx hb dX8_keepsAt_131 (lv_at hl 1 rfl) ?_
    refine g_lald (k := (25 * o1) + p) hx hb hK.1 hP 14 1 rfl rfl (by omega) (by decide) dX8_keepsAt_133 ?_
    refine lv_aload_n hx hb dX8_keepsAt_134 rfl (lv_at hl 3 rfl) ?_
    refine va_get (D := D) (ci := 6) (v := .ref (q 14)) (C := RX8) (T := TX8) (N := 28) hx hb hts in_X8_keepsAt_X8 hown hK.1 hP 0 rfl rfl 14 (by decide) (hts (.fieldLink RX8 47 "NestlimitModel" "lows" "[J") (List.mem_of_getElem? (i := 5) rfl)) (fun _ h9 => h9) rfl dX8_keepsAt_135 ?_
    refine lv_iload hx hb dX8_keepsAt_138 (lv_at hl 0 rfl) ?_
    refine g_lald (k := (25 * k) + p) hx hb hK.1 hP 13 1 rfl rfl (by omega) (by decide) dX8_keepsAt_140 ?_
    refine lv_aload_n hx hb dX8_keepsAt_141 rfl (lv_at hl 3 rfl) ?_
    refine va_get (D := D) (ci := 6) (v := .ref (q 15)) (C := RX8) (T := TX8) (N := 28) hx hb hts in_X8_keepsAt_X8 hown hK.1 hP 0 rfl rfl 15 (by decide) (hts (.fieldLink RX8 51 "NestlimitModel" "highs" "[J") (List.mem_of_getElem? (i := 6) rfl)) (fun _ h9 => h9) rfl dX8_keepsAt_142 ?_
    refine lv_iload hx hb dX8_keepsAt_145 (lv_at hl 0 rfl) ?_
    refine g_lald (k := (25 * k) + p) hx hb hK.1 hP 14 1 rfl rfl (by omega) (by decide) dX8_keepsAt_147 ?_
    refine g_callAv (w0 := wM y h q tw pn ki on ot ab be zA zB zC zD zF zT fo lw hg at_ tl th wo wl wh I1 L1 H1 di su an) (va_runV (As := [.int (nI k), .int (nI p), .long (lw ((25 * o1) + p)), .long (hg ((25 * o1) + p)), .long (lw ((25 * k) + p)), .long (hg ((25 * k) + p))]) (rest := []) ⟨hx, hb, hml, hown, hts⟩ (c_X8_makesV l D y H.size h q tw pn ki on ot ab be zA zB zC zD zF zT fo lw hg at_ tl th wo wl wh true lo_ hi_ di su an kd k p (lw ((25 * o1) + p)) (hg ((25 * o1) + p)) (lw ((25 * k) + p)) (hg ((25 * k) + p)) I1 L1 H1 hk hp hkd hki (hok c_79) (hI1 c_79) (hL1 c_79) (hH1 c_79)) (cwV 6 hts gX8_keepsAt_X8_makes rfl rfl rfl (by decide +kernel) ⟨Nat.le_of_ble_eq_true rfl, Nat.le_of_ble_eq_true rfl⟩) (gP_VA hP hD hK 0 rfl rfl) rfl rfl hl.1 rfl (lv_room (Nat.le_of_ble_eq_true rfl)) dX8_keepsAt_148 ⟨Nat.zero_le _, Nat.zero_le _⟩) hP hD hS hA rfl (fun H locs hP hD hS => ?_)
    refine lv_aload_n hx hb dX8_keepsAt_151 rfl (lv_at hl 3 rfl) ?_
    refine va_get (D := D) (ci := 6) (v := .ref (q 13)) (C := RX8) (T := TX8) (N := 28) hx hb hts in_X8_keepsAt_X8 hown hK.1 hP 0 rfl rfl 13 (by decide) (hts (.fieldLink RX8 43 "NestlimitModel" "found" "[Z") (List.mem_of_getElem? (i := 3) rfl)) (fun _ h9 => h9) rfl dX8_keepsAt_152 ?_
    refine lv_iload_n hx hb dX8_keepsAt_155 rfl (lv_at hl 2 rfl) ?_
    refine lv_aload_n hx hb dX8_keepsAt_156 rfl (lv_at hl 3 rfl) ?_
    refine va_get (D := D) (ci := 6) (v := .int (gB I1)) (C := RX8) (T := TX8) (N := 28) hx hb hts in_X8_keepsAt_X8 hown hK.1 hP 0 rfl rfl 22 (by decide) (hts (.fieldLink RX8 92 "NestlimitModel" "is" "Z") (List.mem_of_getElem? (i := 4) rfl)) (fun _ h9 => h9) rfl dX8_keepsAt_157 ?_
    refine g_zast (k := (25 * k) + p) (x := I1) hx hb hK.1 hP hD hS 12 2 rfl rfl (by omega) (by decide) dX8_keepsAt_160 (fun H locs hP hD hS => ?_)
    have hP : va_P D vwCl (wM y h q tw pn ki on ot ab be zA zB zC zD zF zT (upZ fo ((25 * k) + p) I1) lw hg at_ tl th wo wl wh I1 L1 H1 di su an) H := hP
    have hD : va_D A (wM y h q tw pn ki on ot ab be zA zB zC zD zF zT (upZ fo ((25 * k) + p) I1) lw hg at_ tl th wo wl wh I1 L1 H1 di su an) := hD
    refine lv_aload_n hx hb dX8_keepsAt_161 rfl (lv_at hl 3 rfl) ?_
    refine va_get (D := D) (ci := 6) (v := .ref (q 14)) (C := RX8) (T := TX8) (N := 28) hx hb hts in_X8_keepsAt_X8 hown hK.1 hP 0 rfl rfl 14 (by decide) (hts (.fieldLink RX8 47 "NestlimitModel" "lows" "[J") (List.mem_of_getElem? (i := 5) rfl)) (fun _ h9 => h9) rfl dX8_keepsAt_162 ?_
    refine lv_iload_n hx hb dX8_keepsAt_165 rfl (lv_at hl 2 rfl) ?_
    refine lv_aload_n hx hb dX8_keepsAt_166 rfl (lv_at hl 3 rfl) ?_
    refine va_get (D := D) (ci := 6) (v := .long L1) (C := RX8) (T := TX8) (N := 28) hx hb hts in_X8_keepsAt_X8 hown hK.1 hP 0 rfl rfl 23 (by decide) (hts (.fieldLink RX8 96 "NestlimitModel" "low" "J") (List.mem_of_getElem? (i := 7) rfl)) (fun _ h9 => h9) rfl dX8_keepsAt_167 ?_
    refine g_last (k := (25 * k) + p) (x := L1) hx hb hK.1 hP hD hS 13 1 rfl rfl (by omega) (by decide) dX8_keepsAt_170 (fun H locs hP hD hS => ?_)
    have hP : va_P D vwCl (wM y h q tw pn ki on ot ab be zA zB zC zD zF zT (upZ fo ((25 * k) + p) I1) (vp_updL lw ((25 * k) + p) L1) hg at_ tl th wo wl wh I1 L1 H1 di su an) H := hP
    have hD : va_D A (wM y h q tw pn ki on ot ab be zA zB zC zD zF zT (upZ fo ((25 * k) + p) I1) (vp_updL lw ((25 * k) + p) L1) hg at_ tl th wo wl wh I1 L1 H1 di su an) := hD
    refine lv_aload_n hx hb dX8_keepsAt_171 rfl (lv_at hl 3 rfl) ?_
    refine va_get (D := D) (ci := 6) (v := .ref (q 15)) (C := RX8) (T := TX8) (N := 28) hx hb hts in_X8_keepsAt_X8 hown hK.1 hP 0 rfl rfl 15 (by decide) (hts (.fieldLink RX8 51 "NestlimitModel" "highs" "[J") (List.mem_of_getElem? (i := 6) rfl)) (fun _ h9 => h9) rfl dX8_keepsAt_172 ?_
    refine lv_iload_n hx hb dX8_keepsAt_175 rfl (lv_at hl 2 rfl) ?_
    refine lv_aload_n hx hb dX8_keepsAt_176 rfl (lv_at hl 3 rfl) ?_
    refine va_get (D := D) (ci := 6) (v := .long H1) (C := RX8) (T := TX8) (N := 28) hx hb hts in_X8_keepsAt_X8 hown hK.1 hP 0 rfl rfl 24 (by decide) (hts (.fieldLink RX8 100 "NestlimitModel" "high" "J") (List.mem_of_getElem? (i := 8) rfl)) (fun _ h9 => h9) rfl dX8_keepsAt_177 ?_
    refine g_last (k := (25 * k) + p) (x := H1) hx hb hK.1 hP hD hS 14 1 rfl rfl (by omega) (by decide) dX8_keepsAt_180 (fun H locs hP hD hS => ?_)
    have hP : va_P D vwCl (wM y h q tw pn ki on ot ab be zA zB zC zD zF zT (upZ fo ((25 * k) + p) I1) (vp_updL lw ((25 * k) + p) L1) (vp_updL hg ((25 * k) + p) H1) at_ tl th wo wl wh I1 L1 H1 di su an) H := hP
    have hD : va_D A (wM y h q tw pn ki on ot ab be zA zB zC zD zF zT (upZ fo ((25 * k) + p) I1) (vp_updL lw ((25 * k) + p) L1) (vp_updL hg ((25 * k) + p) H1) at_ tl th wo wl wh I1 L1 H1 di su an) := hD
    refine lv_iload_n hx hb dX8_keepsAt_181 rfl (lv_at hl 5 rfl) ?_
    refine lv_if_le (tgt := 200) hx hb dX8_keepsAt_182 (by decide) (fun c_182 => ?_) (fun c_182 => ?_)
    · skip
      refine lv_iconst (v := 0) hx hb dX8_keepsAt_200 (by decide) ?_
      refine lv_istore (lv' := [(6, .int 0), (5, .int (nI ((25 * k) + p))), (4, .int (nI ((25 * o1) + p))), (3, .int (nI ((25 * k) + p))), (0, .ref h), (1, .int (nI k)), (2, .int (nI p))]) hx hb dX8_keepsAt_201 hl (by decide) rfl (fun ls hl => ?_)
      refine lv_aload_n hx hb dX8_keepsAt_203 rfl (lv_at hl 4 rfl) ?_
      refine va_get (D := D) (ci := 6) (v := .ref (q 16)) (C := RX8) (T := TX8) (N := 28) hx hb hts in_X8_keepsAt_X8 hown hK.1 hP 0 rfl rfl 16 (by decide) (hts (.fieldLink RX8 54 "NestlimitModel" "areTold" "[Z") (List.mem_of_getElem? (i := 9) rfl)) (fun _ h9 => h9) rfl dX8_keepsAt_204 ?_
      refine lv_iload_n hx hb dX8_keepsAt_207 rfl (lv_at hl 3 rfl) ?_
      refine lv_iload hx hb dX8_keepsAt_208 (lv_at hl 0 rfl) ?_
      refine lv_if_ne (tgt := 220) hx hb dX8_keepsAt_210 (by decide) (fun c_210 => absurd c_210 (by decide)) (fun c_210 => ?_)
      refine lv_aload_n hx hb dX8_keepsAt_213 rfl (lv_at hl 4 rfl) ?_
      refine va_get (D := D) (ci := 6) (v := .int (gB I1)) (C := RX8) (T := TX8) (N := 28) hx hb hts in_X8_keepsAt_X8 hown hK.1 hP 0 rfl rfl 22 (by decide) (hts (.fieldLink RX8 92 "NestlimitModel" "is" "Z") (List.mem_of_getElem? (i := 4) rfl)) (fun _ h9 => h9) rfl dX8_keepsAt_214 ?_
      refine g_beq (tgt := 224) hx hb dX8_keepsAt_217 (by decide) (fun c_217 => ?_) (fun c_217 => ?_)
      · skip
        refine lv_iconst (v := 0) hx hb dX8_keepsAt_224 (by decide) ?_
        refine g_zast (k := (25 * k) + p) (x := false) hx hb hK.1 hP hD hS 15 2 rfl rfl (by omega) (by decide) dX8_keepsAt_225 (fun H locs hP hD hS => ?_)
        have hP : va_P D vwCl (wM y h q tw pn ki on ot ab be zA zB zC zD zF zT (upZ fo ((25 * k) + p) I1) (vp_updL lw ((25 * k) + p) L1) (vp_updL hg ((25 * k) + p) H1) (upZ at_ ((25 * k) + p) false) tl th wo wl wh I1 L1 H1 di su an) H := hP
        have hD : va_D A (wM y h q tw pn ki on ot ab be zA zB zC zD zF zT (upZ fo ((25 * k) + p) I1) (vp_updL lw ((25 * k) + p) L1) (vp_updL hg ((25 * k) + p) H1) (upZ at_ ((25 * k) + p) false) tl th wo wl wh I1 L1 H1 di su an) := hD
        refine lv_aload_n hx hb dX8_keepsAt_226 rfl (lv_at hl 4 rfl) ?_
        refine va_get (D := D) (ci := 6) (v := .ref (q 17)) (C := RX8) (T := TX8) (N := 28) hx hb hts in_X8_keepsAt_X8 hown hK.1 hP 0 rfl rfl 17 (by decide) (hts (.fieldLink RX8 57 "NestlimitModel" "toldLow" "[J") (List.mem_of_getElem? (i := 10) rfl)) (fun _ h9 => h9) rfl dX8_keepsAt_227 ?_
        refine lv_iload_n hx hb dX8_keepsAt_230 rfl (lv_at hl 3 rfl) ?_
        refine lv_iload hx hb dX8_keepsAt_231 (lv_at hl 0 rfl) ?_
        refine lv_if_ne (tgt := 243) hx hb dX8_keepsAt_233 (by decide) (fun c_233 => absurd c_233 (by decide)) (fun c_233 => ?_)
        refine lv_aload_n hx hb dX8_keepsAt_236 rfl (lv_at hl 4 rfl) ?_
        refine va_get (D := D) (ci := 6) (v := .long L1) (C := RX8) (T := TX8) (N := 28) hx hb hts in_X8_keepsAt_X8 hown hK.1 hP 0 rfl rfl 23 (by decide) (hts (.fieldLink RX8 96 "NestlimitModel" "low" "J") (List.mem_of_getElem? (i := 7) rfl)) (fun _ h9 => h9) rfl dX8_keepsAt_237 ?_
        refine lv_goto (tgt := 284) hx hb dX8_keepsAt_240 (by decide) ?_
        refine g_last (k := (25 * k) + p) (x := L1) hx hb hK.1 hP hD hS 16 1 rfl rfl (by omega) (by decide) dX8_keepsAt_284 (fun H locs hP hD hS => ?_)
        have hP : va_P D vwCl (wM y h q tw pn ki on ot ab be zA zB zC zD zF zT (upZ fo ((25 * k) + p) I1) (vp_updL lw ((25 * k) + p) L1) (vp_updL hg ((25 * k) + p) H1) (upZ at_ ((25 * k) + p) false) (vp_updL tl ((25 * k) + p) L1) th wo wl wh I1 L1 H1 di su an) H := hP
        have hD : va_D A (wM y h q tw pn ki on ot ab be zA zB zC zD zF zT (upZ fo ((25 * k) + p) I1) (vp_updL lw ((25 * k) + p) L1) (vp_updL hg ((25 * k) + p) H1) (upZ at_ ((25 * k) + p) false) (vp_updL tl ((25 * k) + p) L1) th wo wl wh I1 L1 H1 di su an) := hD
        refine lv_aload_n hx hb dX8_keepsAt_285 rfl (lv_at hl 4 rfl) ?_
        refine va_get (D := D) (ci := 6) (v := .ref (q 18)) (C := RX8) (T := TX8) (N := 28) hx hb hts in_X8_keepsAt_X8 hown hK.1 hP 0 rfl rfl 18 (by decide) (hts (.fieldLink RX8 60 "NestlimitModel" "toldHigh" "[J") (List.mem_of_getElem? (i := 12) rfl)) (fun _ h9 => h9) rfl dX8_keepsAt_286 ?_
        refine lv_iload_n hx hb dX8_keepsAt_289 rfl (lv_at hl 3 rfl) ?_
        refine lv_iload hx hb dX8_keepsAt_290 (lv_at hl 0 rfl) ?_
        refine lv_if_ne (tgt := 302) hx hb dX8_keepsAt_292 (by decide) (fun c_292 => absurd c_292 (by decide)) (fun c_292 => ?_)
        refine lv_aload_n hx hb dX8_keepsAt_295 rfl (lv_at hl 4 rfl) ?_
        refine va_get (D := D) (ci := 6) (v := .long H1) (C := RX8) (T := TX8) (N := 28) hx hb hts in_X8_keepsAt_X8 hown hK.1 hP 0 rfl rfl 24 (by decide) (hts (.fieldLink RX8 100 "NestlimitModel" "high" "J") (List.mem_of_getElem? (i := 8) rfl)) (fun _ h9 => h9) rfl dX8_keepsAt_296 ?_
        refine lv_goto (tgt := 343) hx hb dX8_keepsAt_299 (by decide) ?_
        refine g_last (k := (25 * k) + p) (x := H1) hx hb hK.1 hP hD hS 17 1 rfl rfl (by omega) (by decide) dX8_keepsAt_343 (fun H locs hP hD hS => ?_)
        have hP : va_P D vwCl (wM y h q tw pn ki on ot ab be zA zB zC zD zF zT (upZ fo ((25 * k) + p) I1) (vp_updL lw ((25 * k) + p) L1) (vp_updL hg ((25 * k) + p) H1) (upZ at_ ((25 * k) + p) false) (vp_updL tl ((25 * k) + p) L1) (vp_updL th ((25 * k) + p) H1) wo wl wh I1 L1 H1 di su an) H := hP
        have hD : va_D A (wM y h q tw pn ki on ot ab be zA zB zC zD zF zT (upZ fo ((25 * k) + p) I1) (vp_updL lw ((25 * k) + p) L1) (vp_updL hg ((25 * k) + p) H1) (upZ at_ ((25 * k) + p) false) (vp_updL tl ((25 * k) + p) L1) (vp_updL th ((25 * k) + p) H1) wo wl wh I1 L1 H1 di su an) := hD
        exact W.vret hx hb hr (fun t ht hW => ⟨⟨none, wM y h q tw pn ki on ot ab be zA zB zC zD zF zT (upZ fo ((25 * k) + p) I1) (vp_updL lw ((25 * k) + p) L1) (vp_updL hg ((25 * k) + p) H1) (upZ at_ ((25 * k) + p) false) (vp_updL tl ((25 * k) + p) L1) (vp_updL th ((25 * k) + p) H1) wo wl wh I1 L1 H1 di su an, rfl, ⟨rfl, by simp only [gI1, gL1, kaB, kaA, kaL, kaH, Bool.false_eq_true, if_false, if_true, if_pos c_79, if_pos c_182, if_neg c_217]⟩, rfl, by rw [ht]; exact hP⟩, by rw [← hAe]; exact hS.F ht⟩) (by rw [← hAe]; exact hS.2.2) dX8_keepsAt_344
      · skip
        refine lv_iconst (v := 1) hx hb dX8_keepsAt_220 (by decide) ?_
        refine lv_goto (tgt := 225) hx hb dX8_keepsAt_221 (by decide) ?_
        refine g_zast (k := (25 * k) + p) (x := true) hx hb hK.1 hP hD hS 15 2 rfl rfl (by omega) (by decide) dX8_keepsAt_225 (fun H locs hP hD hS => ?_)
        have hP : va_P D vwCl (wM y h q tw pn ki on ot ab be zA zB zC zD zF zT (upZ fo ((25 * k) + p) I1) (vp_updL lw ((25 * k) + p) L1) (vp_updL hg ((25 * k) + p) H1) (upZ at_ ((25 * k) + p) true) tl th wo wl wh I1 L1 H1 di su an) H := hP
        have hD : va_D A (wM y h q tw pn ki on ot ab be zA zB zC zD zF zT (upZ fo ((25 * k) + p) I1) (vp_updL lw ((25 * k) + p) L1) (vp_updL hg ((25 * k) + p) H1) (upZ at_ ((25 * k) + p) true) tl th wo wl wh I1 L1 H1 di su an) := hD
        refine lv_aload_n hx hb dX8_keepsAt_226 rfl (lv_at hl 4 rfl) ?_
        refine va_get (D := D) (ci := 6) (v := .ref (q 17)) (C := RX8) (T := TX8) (N := 28) hx hb hts in_X8_keepsAt_X8 hown hK.1 hP 0 rfl rfl 17 (by decide) (hts (.fieldLink RX8 57 "NestlimitModel" "toldLow" "[J") (List.mem_of_getElem? (i := 10) rfl)) (fun _ h9 => h9) rfl dX8_keepsAt_227 ?_
        refine lv_iload_n hx hb dX8_keepsAt_230 rfl (lv_at hl 3 rfl) ?_
        refine lv_iload hx hb dX8_keepsAt_231 (lv_at hl 0 rfl) ?_
        refine lv_if_ne (tgt := 243) hx hb dX8_keepsAt_233 (by decide) (fun c_233 => absurd c_233 (by decide)) (fun c_233 => ?_)
        refine lv_aload_n hx hb dX8_keepsAt_236 rfl (lv_at hl 4 rfl) ?_
        refine va_get (D := D) (ci := 6) (v := .long L1) (C := RX8) (T := TX8) (N := 28) hx hb hts in_X8_keepsAt_X8 hown hK.1 hP 0 rfl rfl 23 (by decide) (hts (.fieldLink RX8 96 "NestlimitModel" "low" "J") (List.mem_of_getElem? (i := 7) rfl)) (fun _ h9 => h9) rfl dX8_keepsAt_237 ?_
        refine lv_goto (tgt := 284) hx hb dX8_keepsAt_240 (by decide) ?_
        refine g_last (k := (25 * k) + p) (x := L1) hx hb hK.1 hP hD hS 16 1 rfl rfl (by omega) (by decide) dX8_keepsAt_284 (fun H locs hP hD hS => ?_)
        have hP : va_P D vwCl (wM y h q tw pn ki on ot ab be zA zB zC zD zF zT (upZ fo ((25 * k) + p) I1) (vp_updL lw ((25 * k) + p) L1) (vp_updL hg ((25 * k) + p) H1) (upZ at_ ((25 * k) + p) true) (vp_updL tl ((25 * k) + p) L1) th wo wl wh I1 L1 H1 di su an) H := hP
        have hD : va_D A (wM y h q tw pn ki on ot ab be zA zB zC zD zF zT (upZ fo ((25 * k) + p) I1) (vp_updL lw ((25 * k) + p) L1) (vp_updL hg ((25 * k) + p) H1) (upZ at_ ((25 * k) + p) true) (vp_updL tl ((25 * k) + p) L1) th wo wl wh I1 L1 H1 di su an) := hD
        refine lv_aload_n hx hb dX8_keepsAt_285 rfl (lv_at hl 4 rfl) ?_
        refine va_get (D := D) (ci := 6) (v := .ref (q 18)) (C := RX8) (T := TX8) (N := 28) hx hb hts in_X8_keepsAt_X8 hown hK.1 hP 0 rfl rfl 18 (by decide) (hts (.fieldLink RX8 60 "NestlimitModel" "toldHigh" "[J") (List.mem_of_getElem? (i := 12) rfl)) (fun _ h9 => h9) rfl dX8_keepsAt_286 ?_
        refine lv_iload_n hx hb dX8_keepsAt_289 rfl (lv_at hl 3 rfl) ?_
        refine lv_iload hx hb dX8_keepsAt_290 (lv_at hl 0 rfl) ?_
        refine lv_if_ne (tgt := 302) hx hb dX8_keepsAt_292 (by decide) (fun c_292 => absurd c_292 (by decide)) (fun c_292 => ?_)
        refine lv_aload_n hx hb dX8_keepsAt_295 rfl (lv_at hl 4 rfl) ?_
        refine va_get (D := D) (ci := 6) (v := .long H1) (C := RX8) (T := TX8) (N := 28) hx hb hts in_X8_keepsAt_X8 hown hK.1 hP 0 rfl rfl 24 (by decide) (hts (.fieldLink RX8 100 "NestlimitModel" "high" "J") (List.mem_of_getElem? (i := 8) rfl)) (fun _ h9 => h9) rfl dX8_keepsAt_296 ?_
        refine lv_goto (tgt := 343) hx hb dX8_keepsAt_299 (by decide) ?_
        refine g_last (k := (25 * k) + p) (x := H1) hx hb hK.1 hP hD hS 17 1 rfl rfl (by omega) (by decide) dX8_keepsAt_343 (fun H locs hP hD hS => ?_)
        have hP : va_P D vwCl (wM y h q tw pn ki on ot ab be zA zB zC zD zF zT (upZ fo ((25 * k) + p) I1) (vp_updL lw ((25 * k) + p) L1) (vp_updL hg ((25 * k) + p) H1) (upZ at_ ((25 * k) + p) true) (vp_updL tl ((25 * k) + p) L1) (vp_updL th ((25 * k) + p) H1) wo wl wh I1 L1 H1 di su an) H := hP
        have hD : va_D A (wM y h q tw pn ki on ot ab be zA zB zC zD zF zT (upZ fo ((25 * k) + p) I1) (vp_updL lw ((25 * k) + p) L1) (vp_updL hg ((25 * k) + p) H1) (upZ at_ ((25 * k) + p) true) (vp_updL tl ((25 * k) + p) L1) (vp_updL th ((25 * k) + p) H1) wo wl wh I1 L1 H1 di su an) := hD
        exact W.vret hx hb hr (fun t ht hW => ⟨⟨none, wM y h q tw pn ki on ot ab be zA zB zC zD zF zT (upZ fo ((25 * k) + p) I1) (vp_updL lw ((25 * k) + p) L1) (vp_updL hg ((25 * k) + p) H1) (upZ at_ ((25 * k) + p) true) (vp_updL tl ((25 * k) + p) L1) (vp_updL th ((25 * k) + p) H1) wo wl wh I1 L1 H1 di su an, rfl, ⟨rfl, by simp only [gI1, gL1, kaB, kaA, kaL, kaH, Bool.false_eq_true, if_false, if_true, if_pos c_79, if_pos c_182, if_pos c_217]⟩, rfl, by rw [ht]; exact hP⟩, by rw [← hAe]; exact hS.F ht⟩) (by rw [← hAe]; exact hS.2.2) dX8_keepsAt_344
    · skip
      have hp1 : 1 ≤ p := g_p1 c_182
      refine lv_aload_n hx hb dX8_keepsAt_185 rfl (lv_at hl 3 rfl) ?_
      refine va_get (D := D) (ci := 6) (v := .ref (q 16)) (C := RX8) (T := TX8) (N := 28) hx hb hts in_X8_keepsAt_X8 hown hK.1 hP 0 rfl rfl 16 (by decide) (hts (.fieldLink RX8 54 "NestlimitModel" "areTold" "[Z") (List.mem_of_getElem? (i := 9) rfl)) (fun _ h9 => h9) rfl dX8_keepsAt_186 ?_
      refine lv_iload_n hx hb dX8_keepsAt_189 rfl (lv_at hl 2 rfl) ?_
      refine lv_iconst (v := 1) hx hb dX8_keepsAt_190 (by decide) ?_
      refine lv_isub hx hb dX8_keepsAt_191 ?_
      refine g_topi (y := nI ((25 * k) + p - 1)) (pk_sub (a := 25 * k + p) (b := 1) (by omega)) ?_
      refine g_zald (k := (25 * k) + p - 1) hx hb hK.1 hP 15 2 rfl rfl (by omega) (by decide) dX8_keepsAt_192 ?_
      refine g_beq (tgt := 200) hx hb dX8_keepsAt_193 (by decide) (fun c_193 => ?_) (fun c_193 => ?_)
      · skip
        refine lv_iconst (v := 0) hx hb dX8_keepsAt_200 (by decide) ?_
        refine lv_istore (lv' := [(6, .int 0), (5, .int (nI ((25 * k) + p))), (4, .int (nI ((25 * o1) + p))), (3, .int (nI ((25 * k) + p))), (0, .ref h), (1, .int (nI k)), (2, .int (nI p))]) hx hb dX8_keepsAt_201 hl (by decide) rfl (fun ls hl => ?_)
        refine lv_aload_n hx hb dX8_keepsAt_203 rfl (lv_at hl 4 rfl) ?_
        refine va_get (D := D) (ci := 6) (v := .ref (q 16)) (C := RX8) (T := TX8) (N := 28) hx hb hts in_X8_keepsAt_X8 hown hK.1 hP 0 rfl rfl 16 (by decide) (hts (.fieldLink RX8 54 "NestlimitModel" "areTold" "[Z") (List.mem_of_getElem? (i := 9) rfl)) (fun _ h9 => h9) rfl dX8_keepsAt_204 ?_
        refine lv_iload_n hx hb dX8_keepsAt_207 rfl (lv_at hl 3 rfl) ?_
        refine lv_iload hx hb dX8_keepsAt_208 (lv_at hl 0 rfl) ?_
        refine lv_if_ne (tgt := 220) hx hb dX8_keepsAt_210 (by decide) (fun c_210 => absurd c_210 (by decide)) (fun c_210 => ?_)
        refine lv_aload_n hx hb dX8_keepsAt_213 rfl (lv_at hl 4 rfl) ?_
        refine va_get (D := D) (ci := 6) (v := .int (gB I1)) (C := RX8) (T := TX8) (N := 28) hx hb hts in_X8_keepsAt_X8 hown hK.1 hP 0 rfl rfl 22 (by decide) (hts (.fieldLink RX8 92 "NestlimitModel" "is" "Z") (List.mem_of_getElem? (i := 4) rfl)) (fun _ h9 => h9) rfl dX8_keepsAt_214 ?_
        refine g_beq (tgt := 224) hx hb dX8_keepsAt_217 (by decide) (fun c_217 => ?_) (fun c_217 => ?_)
        · skip
          refine lv_iconst (v := 0) hx hb dX8_keepsAt_224 (by decide) ?_
          refine g_zast (k := (25 * k) + p) (x := false) hx hb hK.1 hP hD hS 15 2 rfl rfl (by omega) (by decide) dX8_keepsAt_225 (fun H locs hP hD hS => ?_)
          have hP : va_P D vwCl (wM y h q tw pn ki on ot ab be zA zB zC zD zF zT (upZ fo ((25 * k) + p) I1) (vp_updL lw ((25 * k) + p) L1) (vp_updL hg ((25 * k) + p) H1) (upZ at_ ((25 * k) + p) false) tl th wo wl wh I1 L1 H1 di su an) H := hP
          have hD : va_D A (wM y h q tw pn ki on ot ab be zA zB zC zD zF zT (upZ fo ((25 * k) + p) I1) (vp_updL lw ((25 * k) + p) L1) (vp_updL hg ((25 * k) + p) H1) (upZ at_ ((25 * k) + p) false) tl th wo wl wh I1 L1 H1 di su an) := hD
          refine lv_aload_n hx hb dX8_keepsAt_226 rfl (lv_at hl 4 rfl) ?_
          refine va_get (D := D) (ci := 6) (v := .ref (q 17)) (C := RX8) (T := TX8) (N := 28) hx hb hts in_X8_keepsAt_X8 hown hK.1 hP 0 rfl rfl 17 (by decide) (hts (.fieldLink RX8 57 "NestlimitModel" "toldLow" "[J") (List.mem_of_getElem? (i := 10) rfl)) (fun _ h9 => h9) rfl dX8_keepsAt_227 ?_
          refine lv_iload_n hx hb dX8_keepsAt_230 rfl (lv_at hl 3 rfl) ?_
          refine lv_iload hx hb dX8_keepsAt_231 (lv_at hl 0 rfl) ?_
          refine lv_if_ne (tgt := 243) hx hb dX8_keepsAt_233 (by decide) (fun c_233 => absurd c_233 (by decide)) (fun c_233 => ?_)
          refine lv_aload_n hx hb dX8_keepsAt_236 rfl (lv_at hl 4 rfl) ?_
          refine va_get (D := D) (ci := 6) (v := .long L1) (C := RX8) (T := TX8) (N := 28) hx hb hts in_X8_keepsAt_X8 hown hK.1 hP 0 rfl rfl 23 (by decide) (hts (.fieldLink RX8 96 "NestlimitModel" "low" "J") (List.mem_of_getElem? (i := 7) rfl)) (fun _ h9 => h9) rfl dX8_keepsAt_237 ?_
          refine lv_goto (tgt := 284) hx hb dX8_keepsAt_240 (by decide) ?_
          refine g_last (k := (25 * k) + p) (x := L1) hx hb hK.1 hP hD hS 16 1 rfl rfl (by omega) (by decide) dX8_keepsAt_284 (fun H locs hP hD hS => ?_)
          have hP : va_P D vwCl (wM y h q tw pn ki on ot ab be zA zB zC zD zF zT (upZ fo ((25 * k) + p) I1) (vp_updL lw ((25 * k) + p) L1) (vp_updL hg ((25 * k) + p) H1) (upZ at_ ((25 * k) + p) false) (vp_updL tl ((25 * k) + p) L1) th wo wl wh I1 L1 H1 di su an) H := hP
          have hD : va_D A (wM y h q tw pn ki on ot ab be zA zB zC zD zF zT (upZ fo ((25 * k) + p) I1) (vp_updL lw ((25 * k) + p) L1) (vp_updL hg ((25 * k) + p) H1) (upZ at_ ((25 * k) + p) false) (vp_updL tl ((25 * k) + p) L1) th wo wl wh I1 L1 H1 di su an) := hD
          refine lv_aload_n hx hb dX8_keepsAt_285 rfl (lv_at hl 4 rfl) ?_
          refine va_get (D := D) (ci := 6) (v := .ref (q 18)) (C := RX8) (T := TX8) (N := 28) hx hb hts in_X8_keepsAt_X8 hown hK.1 hP 0 rfl rfl 18 (by decide) (hts (.fieldLink RX8 60 "NestlimitModel" "toldHigh" "[J") (List.mem_of_getElem? (i := 12) rfl)) (fun _ h9 => h9) rfl dX8_keepsAt_286 ?_
          refine lv_iload_n hx hb dX8_keepsAt_289 rfl (lv_at hl 3 rfl) ?_
          refine lv_iload hx hb dX8_keepsAt_290 (lv_at hl 0 rfl) ?_
          refine lv_if_ne (tgt := 302) hx hb dX8_keepsAt_292 (by decide) (fun c_292 => absurd c_292 (by decide)) (fun c_292 => ?_)
          refine lv_aload_n hx hb dX8_keepsAt_295 rfl (lv_at hl 4 rfl) ?_
          refine va_get (D := D) (ci := 6) (v := .long H1) (C := RX8) (T := TX8) (N := 28) hx hb hts in_X8_keepsAt_X8 hown hK.1 hP 0 rfl rfl 24 (by decide) (hts (.fieldLink RX8 100 "NestlimitModel" "high" "J") (List.mem_of_getElem? (i := 8) rfl)) (fun _ h9 => h9) rfl dX8_keepsAt_296 ?_
          refine lv_goto (tgt := 343) hx hb dX8_keepsAt_299 (by decide) ?_
          refine g_last (k := (25 * k) + p) (x := H1) hx hb hK.1 hP hD hS 17 1 rfl rfl (by omega) (by decide) dX8_keepsAt_343 (fun H locs hP hD hS => ?_)
          have hP : va_P D vwCl (wM y h q tw pn ki on ot ab be zA zB zC zD zF zT (upZ fo ((25 * k) + p) I1) (vp_updL lw ((25 * k) + p) L1) (vp_updL hg ((25 * k) + p) H1) (upZ at_ ((25 * k) + p) false) (vp_updL tl ((25 * k) + p) L1) (vp_updL th ((25 * k) + p) H1) wo wl wh I1 L1 H1 di su an) H := hP
          have hD : va_D A (wM y h q tw pn ki on ot ab be zA zB zC zD zF zT (upZ fo ((25 * k) + p) I1) (vp_updL lw ((25 * k) + p) L1) (vp_updL hg ((25 * k) + p) H1) (upZ at_ ((25 * k) + p) false) (vp_updL tl ((25 * k) + p) L1) (vp_updL th ((25 * k) + p) H1) wo wl wh I1 L1 H1 di su an) := hD
          exact W.vret hx hb hr (fun t ht hW => ⟨⟨none, wM y h q tw pn ki on ot ab be zA zB zC zD zF zT (upZ fo ((25 * k) + p) I1) (vp_updL lw ((25 * k) + p) L1) (vp_updL hg ((25 * k) + p) H1) (upZ at_ ((25 * k) + p) false) (vp_updL tl ((25 * k) + p) L1) (vp_updL th ((25 * k) + p) H1) wo wl wh I1 L1 H1 di su an, rfl, ⟨rfl, by simp only [gI1, gL1, kaB, kaA, kaL, kaH, Bool.false_eq_true, if_false, if_true, if_pos c_79, if_neg c_182, if_neg c_193, if_neg c_217]⟩, rfl, by rw [ht]; exact hP⟩, by rw [← hAe]; exact hS.F ht⟩) (by rw [← hAe]; exact hS.2.2) dX8_keepsAt_344
        · skip
          refine lv_iconst (v := 1) hx hb dX8_keepsAt_220 (by decide) ?_
          refine lv_goto (tgt := 225) hx hb dX8_keepsAt_221 (by decide) ?_
          refine g_zast (k := (25 * k) + p) (x := true) hx hb hK.1 hP hD hS 15 2 rfl rfl (by omega) (by decide) dX8_keepsAt_225 (fun H locs hP hD hS => ?_)
          have hP : va_P D vwCl (wM y h q tw pn ki on ot ab be zA zB zC zD zF zT (upZ fo ((25 * k) + p) I1) (vp_updL lw ((25 * k) + p) L1) (vp_updL hg ((25 * k) + p) H1) (upZ at_ ((25 * k) + p) true) tl th wo wl wh I1 L1 H1 di su an) H := hP
          have hD : va_D A (wM y h q tw pn ki on ot ab be zA zB zC zD zF zT (upZ fo ((25 * k) + p) I1) (vp_updL lw ((25 * k) + p) L1) (vp_updL hg ((25 * k) + p) H1) (upZ at_ ((25 * k) + p) true) tl th wo wl wh I1 L1 H1 di su an) := hD
          refine lv_aload_n hx hb dX8_keepsAt_226 rfl (lv_at hl 4 rfl) ?_
          refine va_get (D := D) (ci := 6) (v := .ref (q 17)) (C := RX8) (T := TX8) (N := 28) hx hb hts in_X8_keepsAt_X8 hown hK.1 hP 0 rfl rfl 17 (by decide) (hts (.fieldLink RX8 57 "NestlimitModel" "toldLow" "[J") (List.mem_of_getElem? (i := 10) rfl)) (fun _ h9 => h9) rfl dX8_keepsAt_227 ?_
          refine lv_iload_n hx hb dX8_keepsAt_230 rfl (lv_at hl 3 rfl) ?_
          refine lv_iload hx hb dX8_keepsAt_231 (lv_at hl 0 rfl) ?_
          refine lv_if_ne (tgt := 243) hx hb dX8_keepsAt_233 (by decide) (fun c_233 => absurd c_233 (by decide)) (fun c_233 => ?_)
          refine lv_aload_n hx hb dX8_keepsAt_236 rfl (lv_at hl 4 rfl) ?_
          refine va_get (D := D) (ci := 6) (v := .long L1) (C := RX8) (T := TX8) (N := 28) hx hb hts in_X8_keepsAt_X8 hown hK.1 hP 0 rfl rfl 23 (by decide) (hts (.fieldLink RX8 96 "NestlimitModel" "low" "J") (List.mem_of_getElem? (i := 7) rfl)) (fun _ h9 => h9) rfl dX8_keepsAt_237 ?_
          refine lv_goto (tgt := 284) hx hb dX8_keepsAt_240 (by decide) ?_
          refine g_last (k := (25 * k) + p) (x := L1) hx hb hK.1 hP hD hS 16 1 rfl rfl (by omega) (by decide) dX8_keepsAt_284 (fun H locs hP hD hS => ?_)
          have hP : va_P D vwCl (wM y h q tw pn ki on ot ab be zA zB zC zD zF zT (upZ fo ((25 * k) + p) I1) (vp_updL lw ((25 * k) + p) L1) (vp_updL hg ((25 * k) + p) H1) (upZ at_ ((25 * k) + p) true) (vp_updL tl ((25 * k) + p) L1) th wo wl wh I1 L1 H1 di su an) H := hP
          have hD : va_D A (wM y h q tw pn ki on ot ab be zA zB zC zD zF zT (upZ fo ((25 * k) + p) I1) (vp_updL lw ((25 * k) + p) L1) (vp_updL hg ((25 * k) + p) H1) (upZ at_ ((25 * k) + p) true) (vp_updL tl ((25 * k) + p) L1) th wo wl wh I1 L1 H1 di su an) := hD
          refine lv_aload_n hx hb dX8_keepsAt_285 rfl (lv_at hl 4 rfl) ?_
          refine va_get (D := D) (ci := 6) (v := .ref (q 18)) (C := RX8) (T := TX8) (N := 28) hx hb hts in_X8_keepsAt_X8 hown hK.1 hP 0 rfl rfl 18 (by decide) (hts (.fieldLink RX8 60 "NestlimitModel" "toldHigh" "[J") (List.mem_of_getElem? (i := 12) rfl)) (fun _ h9 => h9) rfl dX8_keepsAt_286 ?_
          refine lv_iload_n hx hb dX8_keepsAt_289 rfl (lv_at hl 3 rfl) ?_
          refine lv_iload hx hb dX8_keepsAt_290 (lv_at hl 0 rfl) ?_
          refine lv_if_ne (tgt := 302) hx hb dX8_keepsAt_292 (by decide) (fun c_292 => absurd c_292 (by decide)) (fun c_292 => ?_)
          refine lv_aload_n hx hb dX8_keepsAt_295 rfl (lv_at hl 4 rfl) ?_
          refine va_get (D := D) (ci := 6) (v := .long H1) (C := RX8) (T := TX8) (N := 28) hx hb hts in_X8_keepsAt_X8 hown hK.1 hP 0 rfl rfl 24 (by decide) (hts (.fieldLink RX8 100 "NestlimitModel" "high" "J") (List.mem_of_getElem? (i := 8) rfl)) (fun _ h9 => h9) rfl dX8_keepsAt_296 ?_
          refine lv_goto (tgt := 343) hx hb dX8_keepsAt_299 (by decide) ?_
          refine g_last (k := (25 * k) + p) (x := H1) hx hb hK.1 hP hD hS 17 1 rfl rfl (by omega) (by decide) dX8_keepsAt_343 (fun H locs hP hD hS => ?_)
          have hP : va_P D vwCl (wM y h q tw pn ki on ot ab be zA zB zC zD zF zT (upZ fo ((25 * k) + p) I1) (vp_updL lw ((25 * k) + p) L1) (vp_updL hg ((25 * k) + p) H1) (upZ at_ ((25 * k) + p) true) (vp_updL tl ((25 * k) + p) L1) (vp_updL th ((25 * k) + p) H1) wo wl wh I1 L1 H1 di su an) H := hP
          have hD : va_D A (wM y h q tw pn ki on ot ab be zA zB zC zD zF zT (upZ fo ((25 * k) + p) I1) (vp_updL lw ((25 * k) + p) L1) (vp_updL hg ((25 * k) + p) H1) (upZ at_ ((25 * k) + p) true) (vp_updL tl ((25 * k) + p) L1) (vp_updL th ((25 * k) + p) H1) wo wl wh I1 L1 H1 di su an) := hD
          exact W.vret hx hb hr (fun t ht hW => ⟨⟨none, wM y h q tw pn ki on ot ab be zA zB zC zD zF zT (upZ fo ((25 * k) + p) I1) (vp_updL lw ((25 * k) + p) L1) (vp_updL hg ((25 * k) + p) H1) (upZ at_ ((25 * k) + p) true) (vp_updL tl ((25 * k) + p) L1) (vp_updL th ((25 * k) + p) H1) wo wl wh I1 L1 H1 di su an, rfl, ⟨rfl, by simp only [gI1, gL1, kaB, kaA, kaL, kaH, Bool.false_eq_true, if_false, if_true, if_pos c_79, if_neg c_182, if_neg c_193, if_pos c_217]⟩, rfl, by rw [ht]; exact hP⟩, by rw [← hAe]; exact hS.F ht⟩) (by rw [← hAe]; exact hS.2.2) dX8_keepsAt_344
      · skip
        refine lv_iconst (v := 1) hx hb dX8_keepsAt_196 (by decide) ?_
        refine lv_goto (tgt := 201) hx hb dX8_keepsAt_197 (by decide) ?_
        refine lv_istore (lv' := [(6, .int 1), (5, .int (nI ((25 * k) + p))), (4, .int (nI ((25 * o1) + p))), (3, .int (nI ((25 * k) + p))), (0, .ref h), (1, .int (nI k)), (2, .int (nI p))]) hx hb dX8_keepsAt_201 hl (by decide) rfl (fun ls hl => ?_)
        refine lv_aload_n hx hb dX8_keepsAt_203 rfl (lv_at hl 4 rfl) ?_
        refine va_get (D := D) (ci := 6) (v := .ref (q 16)) (C := RX8) (T := TX8) (N := 28) hx hb hts in_X8_keepsAt_X8 hown hK.1 hP 0 rfl rfl 16 (by decide) (hts (.fieldLink RX8 54 "NestlimitModel" "areTold" "[Z") (List.mem_of_getElem? (i := 9) rfl)) (fun _ h9 => h9) rfl dX8_keepsAt_204 ?_
        refine lv_iload_n hx hb dX8_keepsAt_207 rfl (lv_at hl 3 rfl) ?_
        refine lv_iload hx hb dX8_keepsAt_208 (lv_at hl 0 rfl) ?_
        refine lv_if_ne (tgt := 220) hx hb dX8_keepsAt_210 (by decide) (fun c_210 => ?_) (fun c_210 => absurd c_210 (by decide))
        refine lv_iconst (v := 1) hx hb dX8_keepsAt_220 (by decide) ?_
        refine lv_goto (tgt := 225) hx hb dX8_keepsAt_221 (by decide) ?_
        refine g_zast (k := (25 * k) + p) (x := true) hx hb hK.1 hP hD hS 15 2 rfl rfl (by omega) (by decide) dX8_keepsAt_225 (fun H locs hP hD hS => ?_)
        have hP : va_P D vwCl (wM y h q tw pn ki on ot ab be zA zB zC zD zF zT (upZ fo ((25 * k) + p) I1) (vp_updL lw ((25 * k) + p) L1) (vp_updL hg ((25 * k) + p) H1) (upZ at_ ((25 * k) + p) true) tl th wo wl wh I1 L1 H1 di su an) H := hP
        have hD : va_D A (wM y h q tw pn ki on ot ab be zA zB zC zD zF zT (upZ fo ((25 * k) + p) I1) (vp_updL lw ((25 * k) + p) L1) (vp_updL hg ((25 * k) + p) H1) (upZ at_ ((25 * k) + p) true) tl th wo wl wh I1 L1 H1 di su an) := hD
        refine lv_aload_n hx hb dX8_keepsAt_226 rfl (lv_at hl 4 rfl) ?_
        refine va_get (D := D) (ci := 6) (v := .ref (q 17)) (C := RX8) (T := TX8) (N := 28) hx hb hts in_X8_keepsAt_X8 hown hK.1 hP 0 rfl rfl 17 (by decide) (hts (.fieldLink RX8 57 "NestlimitModel" "toldLow" "[J") (List.mem_of_getElem? (i := 10) rfl)) (fun _ h9 => h9) rfl dX8_keepsAt_227 ?_
        refine lv_iload_n hx hb dX8_keepsAt_230 rfl (lv_at hl 3 rfl) ?_
        refine lv_iload hx hb dX8_keepsAt_231 (lv_at hl 0 rfl) ?_
        refine lv_if_ne (tgt := 243) hx hb dX8_keepsAt_233 (by decide) (fun c_233 => ?_) (fun c_233 => absurd c_233 (by decide))
        refine lv_aload_n hx hb dX8_keepsAt_243 rfl (lv_at hl 4 rfl) ?_
        refine va_get (D := D) (ci := 6) (v := .int (gB I1)) (C := RX8) (T := TX8) (N := 28) hx hb hts in_X8_keepsAt_X8 hown hK.1 hP 0 rfl rfl 22 (by decide) (hts (.fieldLink RX8 92 "NestlimitModel" "is" "Z") (List.mem_of_getElem? (i := 4) rfl)) (fun _ h9 => h9) rfl dX8_keepsAt_244 ?_
        refine g_beq (tgt := 272) hx hb dX8_keepsAt_247 (by decide) (fun c_247 => ?_) (fun c_247 => ?_)
        · skip
          refine lv_ldc2 (v := 2) hx hb hown (hts (.constantLong RX8 137 (2)) (List.mem_of_getElem? (i := 11) rfl)) dX8_keepsAt_272 ?_
          refine lv_aload_n hx hb dX8_keepsAt_275 rfl (lv_at hl 4 rfl) ?_
          refine va_get (D := D) (ci := 6) (v := .ref (q 17)) (C := RX8) (T := TX8) (N := 28) hx hb hts in_X8_keepsAt_X8 hown hK.1 hP 0 rfl rfl 17 (by decide) (hts (.fieldLink RX8 57 "NestlimitModel" "toldLow" "[J") (List.mem_of_getElem? (i := 10) rfl)) (fun _ h9 => h9) rfl dX8_keepsAt_276 ?_
          refine lv_iload_n hx hb dX8_keepsAt_279 rfl (lv_at hl 3 rfl) ?_
          refine lv_iconst (v := 1) hx hb dX8_keepsAt_280 (by decide) ?_
          refine lv_isub hx hb dX8_keepsAt_281 ?_
          refine g_topi (y := nI ((25 * k) + p - 1)) (pk_sub (a := 25 * k + p) (b := 1) (by omega)) ?_
          refine g_lald (k := (25 * k) + p - 1) hx hb hK.1 hP 16 1 rfl rfl (by omega) (by decide) dX8_keepsAt_282 ?_
          refine lv_lmul hx hb dX8_keepsAt_283 ?_
          refine g_last (k := (25 * k) + p) (x := 2 * (tl ((25 * k) + p - 1))) hx hb hK.1 hP hD hS 16 1 rfl rfl (by omega) (by decide) dX8_keepsAt_284 (fun H locs hP hD hS => ?_)
          have hP : va_P D vwCl (wM y h q tw pn ki on ot ab be zA zB zC zD zF zT (upZ fo ((25 * k) + p) I1) (vp_updL lw ((25 * k) + p) L1) (vp_updL hg ((25 * k) + p) H1) (upZ at_ ((25 * k) + p) true) (vp_updL tl ((25 * k) + p) (2 * (tl ((25 * k) + p - 1)))) th wo wl wh I1 L1 H1 di su an) H := hP
          have hD : va_D A (wM y h q tw pn ki on ot ab be zA zB zC zD zF zT (upZ fo ((25 * k) + p) I1) (vp_updL lw ((25 * k) + p) L1) (vp_updL hg ((25 * k) + p) H1) (upZ at_ ((25 * k) + p) true) (vp_updL tl ((25 * k) + p) (2 * (tl ((25 * k) + p - 1)))) th wo wl wh I1 L1 H1 di su an) := hD
          refine lv_aload_n hx hb dX8_keepsAt_285 rfl (lv_at hl 4 rfl) ?_
          refine va_get (D := D) (ci := 6) (v := .ref (q 18)) (C := RX8) (T := TX8) (N := 28) hx hb hts in_X8_keepsAt_X8 hown hK.1 hP 0 rfl rfl 18 (by decide) (hts (.fieldLink RX8 60 "NestlimitModel" "toldHigh" "[J") (List.mem_of_getElem? (i := 12) rfl)) (fun _ h9 => h9) rfl dX8_keepsAt_286 ?_
          refine lv_iload_n hx hb dX8_keepsAt_289 rfl (lv_at hl 3 rfl) ?_
          refine lv_iload hx hb dX8_keepsAt_290 (lv_at hl 0 rfl) ?_
          refine lv_if_ne (tgt := 302) hx hb dX8_keepsAt_292 (by decide) (fun c_292 => ?_) (fun c_292 => absurd c_292 (by decide))
          refine lv_aload_n hx hb dX8_keepsAt_302 rfl (lv_at hl 4 rfl) ?_
          refine va_get (D := D) (ci := 6) (v := .int (gB I1)) (C := RX8) (T := TX8) (N := 28) hx hb hts in_X8_keepsAt_X8 hown hK.1 hP 0 rfl rfl 22 (by decide) (hts (.fieldLink RX8 92 "NestlimitModel" "is" "Z") (List.mem_of_getElem? (i := 4) rfl)) (fun _ h9 => h9) rfl dX8_keepsAt_303 ?_
          refine g_beq (tgt := 331) hx hb dX8_keepsAt_306 (by decide) (fun c_306 => ?_) (fun c_306 => absurd c_306 c_247)
          refine lv_ldc2 (v := 2) hx hb hown (hts (.constantLong RX8 137 (2)) (List.mem_of_getElem? (i := 11) rfl)) dX8_keepsAt_331 ?_
          refine lv_aload_n hx hb dX8_keepsAt_334 rfl (lv_at hl 4 rfl) ?_
          refine va_get (D := D) (ci := 6) (v := .ref (q 18)) (C := RX8) (T := TX8) (N := 28) hx hb hts in_X8_keepsAt_X8 hown hK.1 hP 0 rfl rfl 18 (by decide) (hts (.fieldLink RX8 60 "NestlimitModel" "toldHigh" "[J") (List.mem_of_getElem? (i := 12) rfl)) (fun _ h9 => h9) rfl dX8_keepsAt_335 ?_
          refine lv_iload_n hx hb dX8_keepsAt_338 rfl (lv_at hl 3 rfl) ?_
          refine lv_iconst (v := 1) hx hb dX8_keepsAt_339 (by decide) ?_
          refine lv_isub hx hb dX8_keepsAt_340 ?_
          refine g_topi (y := nI ((25 * k) + p - 1)) (pk_sub (a := 25 * k + p) (b := 1) (by omega)) ?_
          refine g_lald (k := (25 * k) + p - 1) hx hb hK.1 hP 17 1 rfl rfl (by omega) (by decide) dX8_keepsAt_341 ?_
          refine lv_lmul hx hb dX8_keepsAt_342 ?_
          refine g_last (k := (25 * k) + p) (x := 2 * (th ((25 * k) + p - 1))) hx hb hK.1 hP hD hS 17 1 rfl rfl (by omega) (by decide) dX8_keepsAt_343 (fun H locs hP hD hS => ?_)
          have hP : va_P D vwCl (wM y h q tw pn ki on ot ab be zA zB zC zD zF zT (upZ fo ((25 * k) + p) I1) (vp_updL lw ((25 * k) + p) L1) (vp_updL hg ((25 * k) + p) H1) (upZ at_ ((25 * k) + p) true) (vp_updL tl ((25 * k) + p) (2 * (tl ((25 * k) + p - 1)))) (vp_updL th ((25 * k) + p) (2 * (th ((25 * k) + p - 1)))) wo wl wh I1 L1 H1 di su an) H := hP
          have hD : va_D A (wM y h q tw pn ki on ot ab be zA zB zC zD zF zT (upZ fo ((25 * k) + p) I1) (vp_updL lw ((25 * k) + p) L1) (vp_updL hg ((25 * k) + p) H1) (upZ at_ ((25 * k) + p) true) (vp_updL tl ((25 * k) + p) (2 * (tl ((25 * k) + p - 1)))) (vp_updL th ((25 * k) + p) (2 * (th ((25 * k) + p - 1)))) wo wl wh I1 L1 H1 di su an) := hD
          exact W.vret hx hb hr (fun t ht hW => ⟨⟨none, wM y h q tw pn ki on ot ab be zA zB zC zD zF zT (upZ fo ((25 * k) + p) I1) (vp_updL lw ((25 * k) + p) L1) (vp_updL hg ((25 * k) + p) H1) (upZ at_ ((25 * k) + p) true) (vp_updL tl ((25 * k) + p) (2 * (tl ((25 * k) + p - 1)))) (vp_updL th ((25 * k) + p) (2 * (th ((25 * k) + p - 1)))) wo wl wh I1 L1 H1 di su an, rfl, ⟨rfl, by simp only [gI1, gL1, kaB, kaA, kaL, kaH, Bool.false_eq_true, if_false, if_true, if_pos c_79, if_neg c_182, if_pos c_193, if_neg c_247]⟩, rfl, by rw [ht]; exact hP⟩, by rw [← hAe]; exact hS.F ht⟩) (by rw [← hAe]; exact hS.2.2) dX8_keepsAt_344
        · skip
          refine lv_ldc2 (v := 2) hx hb hown (hts (.constantLong RX8 137 (2)) (List.mem_of_getElem? (i := 11) rfl)) dX8_keepsAt_250 ?_
          refine lv_aload_n hx hb dX8_keepsAt_253 rfl (lv_at hl 4 rfl) ?_
          refine va_get (D := D) (ci := 6) (v := .ref (q 17)) (C := RX8) (T := TX8) (N := 28) hx hb hts in_X8_keepsAt_X8 hown hK.1 hP 0 rfl rfl 17 (by decide) (hts (.fieldLink RX8 57 "NestlimitModel" "toldLow" "[J") (List.mem_of_getElem? (i := 10) rfl)) (fun _ h9 => h9) rfl dX8_keepsAt_254 ?_
          refine lv_iload_n hx hb dX8_keepsAt_257 rfl (lv_at hl 3 rfl) ?_
          refine lv_iconst (v := 1) hx hb dX8_keepsAt_258 (by decide) ?_
          refine lv_isub hx hb dX8_keepsAt_259 ?_
          refine g_topi (y := nI ((25 * k) + p - 1)) (pk_sub (a := 25 * k + p) (b := 1) (by omega)) ?_
          refine g_lald (k := (25 * k) + p - 1) hx hb hK.1 hP 16 1 rfl rfl (by omega) (by decide) dX8_keepsAt_260 ?_
          refine lv_lmul hx hb dX8_keepsAt_261 ?_
          refine lv_aload_n hx hb dX8_keepsAt_262 rfl (lv_at hl 4 rfl) ?_
          refine va_get (D := D) (ci := 6) (v := .long L1) (C := RX8) (T := TX8) (N := 28) hx hb hts in_X8_keepsAt_X8 hown hK.1 hP 0 rfl rfl 23 (by decide) (hts (.fieldLink RX8 96 "NestlimitModel" "low" "J") (List.mem_of_getElem? (i := 7) rfl)) (fun _ h9 => h9) rfl dX8_keepsAt_263 ?_
          refine g_callR (v0 := .long (sp_X8_most (2 * (tl ((25 * k) + p - 1))) L1)) (va_runS (As := [.long (2 * (tl ((25 * k) + p - 1))), .long L1]) (rest := [.int (nI ((25 * k) + p)), .ref (q 17)]) ⟨hx, hb, hml, hown, hts⟩ (c_X8_most l D y H.size (2 * (tl ((25 * k) + p - 1))) L1) (va_cwS 2 hts gX8_keepsAt_X8_most rfl rfl rfl (by decide +kernel) ⟨Nat.le_of_ble_eq_true rfl, Nat.le_of_ble_eq_true rfl⟩) (gP_S hP hD hK [] (by decide) rfl) rfl rfl hl.1 rfl (lv_room (Nat.le_of_ble_eq_true rfl)) dX8_keepsAt_266 ⟨Nat.zero_le _, Nat.zero_le _⟩) ?_
          refine lv_goto (tgt := 284) hx hb dX8_keepsAt_269 (by decide) ?_
          refine g_last (k := (25 * k) + p) (x := sp_X8_most (2 * (tl ((25 * k) + p - 1))) L1) hx hb hK.1 hP hD hS 16 1 rfl rfl (by omega) (by decide) dX8_keepsAt_284 (fun H locs hP hD hS => ?_)
          have hP : va_P D vwCl (wM y h q tw pn ki on ot ab be zA zB zC zD zF zT (upZ fo ((25 * k) + p) I1) (vp_updL lw ((25 * k) + p) L1) (vp_updL hg ((25 * k) + p) H1) (upZ at_ ((25 * k) + p) true) (vp_updL tl ((25 * k) + p) (sp_X8_most (2 * (tl ((25 * k) + p - 1))) L1)) th wo wl wh I1 L1 H1 di su an) H := hP
          have hD : va_D A (wM y h q tw pn ki on ot ab be zA zB zC zD zF zT (upZ fo ((25 * k) + p) I1) (vp_updL lw ((25 * k) + p) L1) (vp_updL hg ((25 * k) + p) H1) (upZ at_ ((25 * k) + p) true) (vp_updL tl ((25 * k) + p) (sp_X8_most (2 * (tl ((25 * k) + p - 1))) L1)) th wo wl wh I1 L1 H1 di su an) := hD
          refine lv_aload_n hx hb dX8_keepsAt_285 rfl (lv_at hl 4 rfl) ?_
          refine va_get (D := D) (ci := 6) (v := .ref (q 18)) (C := RX8) (T := TX8) (N := 28) hx hb hts in_X8_keepsAt_X8 hown hK.1 hP 0 rfl rfl 18 (by decide) (hts (.fieldLink RX8 60 "NestlimitModel" "toldHigh" "[J") (List.mem_of_getElem? (i := 12) rfl)) (fun _ h9 => h9) rfl dX8_keepsAt_286 ?_
          refine lv_iload_n hx hb dX8_keepsAt_289 rfl (lv_at hl 3 rfl) ?_
          refine lv_iload hx hb dX8_keepsAt_290 (lv_at hl 0 rfl) ?_
          refine lv_if_ne (tgt := 302) hx hb dX8_keepsAt_292 (by decide) (fun c_292 => ?_) (fun c_292 => absurd c_292 (by decide))
          refine lv_aload_n hx hb dX8_keepsAt_302 rfl (lv_at hl 4 rfl) ?_
          refine va_get (D := D) (ci := 6) (v := .int (gB I1)) (C := RX8) (T := TX8) (N := 28) hx hb hts in_X8_keepsAt_X8 hown hK.1 hP 0 rfl rfl 22 (by decide) (hts (.fieldLink RX8 92 "NestlimitModel" "is" "Z") (List.mem_of_getElem? (i := 4) rfl)) (fun _ h9 => h9) rfl dX8_keepsAt_303 ?_
          refine g_beq (tgt := 331) hx hb dX8_keepsAt_306 (by decide) (fun c_306 => absurd c_247 c_306) (fun c_306 => ?_)
          refine lv_ldc2 (v := 2) hx hb hown (hts (.constantLong RX8 137 (2)) (List.mem_of_getElem? (i := 11) rfl)) dX8_keepsAt_309 ?_
          refine lv_aload_n hx hb dX8_keepsAt_312 rfl (lv_at hl 4 rfl) ?_
          refine va_get (D := D) (ci := 6) (v := .ref (q 18)) (C := RX8) (T := TX8) (N := 28) hx hb hts in_X8_keepsAt_X8 hown hK.1 hP 0 rfl rfl 18 (by decide) (hts (.fieldLink RX8 60 "NestlimitModel" "toldHigh" "[J") (List.mem_of_getElem? (i := 12) rfl)) (fun _ h9 => h9) rfl dX8_keepsAt_313 ?_
          refine lv_iload_n hx hb dX8_keepsAt_316 rfl (lv_at hl 3 rfl) ?_
          refine lv_iconst (v := 1) hx hb dX8_keepsAt_317 (by decide) ?_
          refine lv_isub hx hb dX8_keepsAt_318 ?_
          refine g_topi (y := nI ((25 * k) + p - 1)) (pk_sub (a := 25 * k + p) (b := 1) (by omega)) ?_
          refine g_lald (k := (25 * k) + p - 1) hx hb hK.1 hP 17 1 rfl rfl (by omega) (by decide) dX8_keepsAt_319 ?_
          refine lv_lmul hx hb dX8_keepsAt_320 ?_
          refine lv_aload_n hx hb dX8_keepsAt_321 rfl (lv_at hl 4 rfl) ?_
          refine va_get (D := D) (ci := 6) (v := .long H1) (C := RX8) (T := TX8) (N := 28) hx hb hts in_X8_keepsAt_X8 hown hK.1 hP 0 rfl rfl 24 (by decide) (hts (.fieldLink RX8 100 "NestlimitModel" "high" "J") (List.mem_of_getElem? (i := 8) rfl)) (fun _ h9 => h9) rfl dX8_keepsAt_322 ?_
          refine g_callR (v0 := .long (sp_X8_least (2 * (th ((25 * k) + p - 1))) H1)) (va_runS (As := [.long (2 * (th ((25 * k) + p - 1))), .long H1]) (rest := [.int (nI ((25 * k) + p)), .ref (q 18)]) ⟨hx, hb, hml, hown, hts⟩ (c_X8_least l D y H.size (2 * (th ((25 * k) + p - 1))) H1) (va_cwS 2 hts gX8_keepsAt_X8_least rfl rfl rfl (by decide +kernel) ⟨Nat.le_of_ble_eq_true rfl, Nat.le_of_ble_eq_true rfl⟩) (gP_S hP hD hK [] (by decide) rfl) rfl rfl hl.1 rfl (lv_room (Nat.le_of_ble_eq_true rfl)) dX8_keepsAt_325 ⟨Nat.zero_le _, Nat.zero_le _⟩) ?_
          refine lv_goto (tgt := 343) hx hb dX8_keepsAt_328 (by decide) ?_
          refine g_last (k := (25 * k) + p) (x := sp_X8_least (2 * (th ((25 * k) + p - 1))) H1) hx hb hK.1 hP hD hS 17 1 rfl rfl (by omega) (by decide) dX8_keepsAt_343 (fun H locs hP hD hS => ?_)
          have hP : va_P D vwCl (wM y h q tw pn ki on ot ab be zA zB zC zD zF zT (upZ fo ((25 * k) + p) I1) (vp_updL lw ((25 * k) + p) L1) (vp_updL hg ((25 * k) + p) H1) (upZ at_ ((25 * k) + p) true) (vp_updL tl ((25 * k) + p) (sp_X8_most (2 * (tl ((25 * k) + p - 1))) L1)) (vp_updL th ((25 * k) + p) (sp_X8_least (2 * (th ((25 * k) + p - 1))) H1)) wo wl wh I1 L1 H1 di su an) H := hP
          have hD : va_D A (wM y h q tw pn ki on ot ab be zA zB zC zD zF zT (upZ fo ((25 * k) + p) I1) (vp_updL lw ((25 * k) + p) L1) (vp_updL hg ((25 * k) + p) H1) (upZ at_ ((25 * k) + p) true) (vp_updL tl ((25 * k) + p) (sp_X8_most (2 * (tl ((25 * k) + p - 1))) L1)) (vp_updL th ((25 * k) + p) (sp_X8_least (2 * (th ((25 * k) + p - 1))) H1)) wo wl wh I1 L1 H1 di su an) := hD
          exact W.vret hx hb hr (fun t ht hW => ⟨⟨none, wM y h q tw pn ki on ot ab be zA zB zC zD zF zT (upZ fo ((25 * k) + p) I1) (vp_updL lw ((25 * k) + p) L1) (vp_updL hg ((25 * k) + p) H1) (upZ at_ ((25 * k) + p) true) (vp_updL tl ((25 * k) + p) (sp_X8_most (2 * (tl ((25 * k) + p - 1))) L1)) (vp_updL th ((25 * k) + p) (sp_X8_least (2 * (th ((25 * k) + p - 1))) H1)) wo wl wh I1 L1 H1 di su an, rfl, ⟨rfl, by simp only [gI1, gL1, kaB, kaA, kaL, kaH, Bool.false_eq_true, if_false, if_true, if_pos c_79, if_neg c_182, if_pos c_193, if_pos c_247]⟩, rfl, by rw [ht]; exact hP⟩, by rw [← hAe]; exact hS.F ht⟩) (by rw [← hAe]; exact hS.2.2) dX8_keepsAt_344
set_option maxHeartbeats 4000000 in
set_option maxRecDepth 100000 in
theorem c_X8_keepsAt_2 (l : Launch) (D : va_G) (y : Nat → ClassId) (sz : Nat) (h : Nat) (q : Nat → Nat) (tw : Int32) (pn : Nat) (ki on ot ab be zA zB zC zD zF zT : Nat → Int32) (fo : Nat → Bool) (lw hg : Nat → Int64) (at_ : Nat → Bool) (tl th : Nat → Int64) (wo : Nat → Bool) (wl wh : Nat → Int64) (is_ : Bool) (lo_ hi_ : Int64) (di : Nat → Int32) (su : Nat → Int64) (an : Nat → Bool) (kd k p o1 o2 : Nat) (I1 : Bool) (L1 H1 : Int64) (hk : k < 40) (hp : p < 25) (hkd : kd ≤ 8) (hki : ki k = nI kd) (hon : on k = nI o1) (ho1 : o1 < 40) (hot : ot k = nI o2) (ho2 : o2 < 40) (hok : fo (25 * o1 + p) = true → fo (25 * o2 + p) = true → mkOK kd be zF zT k (lw (25 * o1 + p)) (hg (25 * o1 + p))) (hI1 : fo (25 * o1 + p) = true → fo (25 * o2 + p) = true → mk_is kd ab be zA zB zC zD zF zT lo_ hi_ k p (lw (25 * o1 + p)) (hg (25 * o1 + p)) (lw (25 * o2 + p)) (hg (25 * o2 + p)) = I1) (hL1 : fo (25 * o1 + p) = true → fo (25 * o2 + p) = true → mk_lo kd ab be zA zB zC zD zF zT lo_ hi_ k p (lw (25 * o1 + p)) (hg (25 * o1 + p)) (lw (25 * o2 + p)) (hg (25 * o2 + p)) = L1) (hH1 : fo (25 * o1 + p) = true → fo (25 * o2 + p) = true → mk_hi kd ab be zA zB zC zD zF zT lo_ hi_ k p (lw (25 * o1 + p)) (hg (25 * o1 + p)) (lw (25 * o2 + p)) (hg (25 * o2 + p)) = H1) : Met l yX8_keepsAt wsX8_keepsAt ({ frames := 4, cells := 0, slots := 0, locals := 122 } : Room) (gP D y [.ref h, .int (nI k), .int (nI p)] (wM y h q tw pn ki on ot ab be zA zB zC zD zF zT fo lw hg at_ tl th wo wl wh is_ lo_ hi_ di su an) sz) (gQ D (wM y h q tw pn ki on ot ab be zA zB zC zD zF zT fo lw hg at_ tl th wo wl wh is_ lo_ hi_ di su an) (gF none (wM y h q tw pn ki on ot ab be zA zB zC zD zF zT (upZ fo ((25 * k) + p) (gI1 (fo (25 * o1 + p)) (gI1 (fo (25 * o2 + p)) I1))) (vp_updL lw ((25 * k) + p) (gL1 (fo (25 * o1 + p)) (gL1 (fo (25 * o2 + p)) L1 lo_) lo_)) (vp_updL hg ((25 * k) + p) (gL1 (fo (25 * o1 + p)) (gL1 (fo (25 * o2 + p)) H1 hi_) hi_)) (upZ at_ ((25 * k) + p) (kaA (kaB p (at_ ((25 * k) + p - 1))) (gI1 (fo (25 * o1 + p)) (gI1 (fo (25 * o2 + p)) I1)))) (vp_updL tl ((25 * k) + p) (kaL (kaB p (at_ ((25 * k) + p - 1))) (gI1 (fo (25 * o1 + p)) (gI1 (fo (25 * o2 + p)) I1)) (tl ((25 * k) + p - 1)) (gL1 (fo (25 * o1 + p)) (gL1 (fo (25 * o2 + p)) L1 lo_) lo_))) (vp_updL th ((25 * k) + p) (kaH (kaB p (at_ ((25 * k) + p - 1))) (gI1 (fo (25 * o1 + p)) (gI1 (fo (25 * o2 + p)) I1)) (th ((25 * k) + p - 1)) (gL1 (fo (25 * o1 + p)) (gL1 (fo (25 * o2 + p)) H1 hi_) hi_))) wo wl wh (gI1 (fo (25 * o1 + p)) (gI1 (fo (25 * o2 + p)) I1)) (gL1 (fo (25 * o1 + p)) (gL1 (fo (25 * o2 + p)) L1 lo_) lo_) (gL1 (fo (25 * o1 + p)) (gL1 (fo (25 * o2 + p)) H1 hi_) hi_) di su an))) 0 0 (va_A (wM y h q tw pn ki on ot ab be zA zB zC zD zF zT fo lw hg at_ tl th wo wl wh is_ lo_ hi_ di su an) sz) := by
  refine Met.ofW (cc := cX8_keepsAt) (maxL := 7) (ret := none) (by decide) rfl ?_
  intro pg e s m args below meth c s₁ B hml hv
  obtain ⟨rfl, hsz, hP, hK, hD0⟩ := hv
  have hx := B.exec
  have hb := B.bytes
  have hr := B.returns
  have hts := atoms_spec (ws := wsX8_keepsAt) B.pre
  have hown : s.vm.findClass RX8 = some m.cls := findClass_of_methodNamed B.named
  have hlocks := B.notSynchronized
  subst hsz
  obtain ⟨A, hAe⟩ : ∃ A : Nat → Prop, A = va_A (wM y h q tw pn ki on ot ab be zA zB zC zD zF zT fo lw hg at_ tl th wo wl wh is_ lo_ hi_ di su an) s.heap.size := ⟨_, rfl⟩
  have hD : va_D A (wM y h q tw pn ki on ot ab be zA zB zC zD zF zT fo lw hg at_ tl th wo wl wh is_ lo_ hi_ di su an) := by rw [hAe]; exact hD0.self (sz := s.heap.size)
  have hA : ∀ q : Nat, s.heap.size ≤ q → A q := fun q h => by rw [hAe]; exact Or.inr h
  have hS : va_S A s.heap s.heap [] := va_S.rf
  have hl := lv_entry ([.ref h, .int (nI k), .int (nI p)]) (n := 7) (Nat.le_of_ble_eq_true rfl)
  rw [lg_entry_eq]
  generalize (lg_sl ([.ref h, .int (nI k), .int (nI p)]) ++ List.replicate (7 - (lg_sl ([.ref h, .int (nI k), .int (nI p)])).length) Slot.unset).toArray = ls at hl ⊢
  have hl : lv_has ls 7 [(0, .ref h), (1, .int (nI k)), (2, .int (nI p))] := hl
  refine lv_bipush (v := 25) hx hb dX8_keepsAt_0 (by decide) ?_
  refine lv_iload_n hx hb dX8_keepsAt_2 rfl (lv_at hl 1 rfl) ?_
  refine lv_imul hx hb dX8_keepsAt_3 ?_
  refine g_topi (pk_mul 25 k) ?_
  refine lv_iload_n hx hb dX8_keepsAt_4 rfl (lv_at hl 2 rfl) ?_
  refine lv_iadd hx hb dX8_keepsAt_5 ?_
  refine g_topi (nI_add (25 * k) p) ?_
  refine lv_istore_n (lv' := [(3, .int (nI ((25 * k) + p))), (0, .ref h), (1, .int (nI k)), (2, .int (nI p))]) hx hb dX8_keepsAt_6 rfl hl (by decide) rfl (fun ls hl => ?_)
  refine lv_bipush (v := 25) hx hb dX8_keepsAt_7 (by decide) ?_
  refine lv_aload_n hx hb dX8_keepsAt_9 rfl (lv_at hl 1 rfl) ?_
  refine va_get (D := D) (ci := 6) (v := .ref (q 3)) (C := RX8) (T := TX8) (N := 28) hx hb hts in_X8_keepsAt_X8 hown hK.1 hP 0 rfl rfl 3 (by decide) (hts (.fieldLink RX8 13 "NestlimitModel" "ones" "[I") (List.mem_of_getElem? (i := 1) rfl)) (fun _ h9 => h9) rfl dX8_keepsAt_10 ?_
  refine lv_iload_n hx hb dX8_keepsAt_13 rfl (lv_at hl 2 rfl) ?_
  refine g_iald (k := k) hx hb hK.1 hP 2 0 rfl rfl (hk) (by decide) dX8_keepsAt_14 ?_
  refine lv_iconst (v := -1) hx hb dX8_keepsAt_15 (by decide) ?_
  refine lv_icmp_ne (tgt := 23) hx hb dX8_keepsAt_16 (by decide) (fun c_16 => ?_) (fun c_16 => absurd c_16 (g_nm1 hon ho1))
  refine lv_aload_n hx hb dX8_keepsAt_23 rfl (lv_at hl 1 rfl) ?_
  refine va_get (D := D) (ci := 6) (v := .ref (q 3)) (C := RX8) (T := TX8) (N := 28) hx hb hts in_X8_keepsAt_X8 hown hK.1 hP 0 rfl rfl 3 (by decide) (hts (.fieldLink RX8 13 "NestlimitModel" "ones" "[I") (List.mem_of_getElem? (i := 1) rfl)) (fun _ h9 => h9) rfl dX8_keepsAt_24 ?_
  refine lv_iload_n hx hb dX8_keepsAt_27 rfl (lv_at hl 2 rfl) ?_
  refine g_iald (k := k) hx hb hK.1 hP 2 0 rfl rfl (hk) (by decide) dX8_keepsAt_28 ?_
  refine g_topi (y := nI o1) (hon) ?_
  refine lv_imul hx hb dX8_keepsAt_29 ?_
  refine g_topi (pk_mul 25 o1) ?_
  refine lv_iload_n hx hb dX8_keepsAt_30 rfl (lv_at hl 3 rfl) ?_
  refine lv_iadd hx hb dX8_keepsAt_31 ?_
  refine g_topi (nI_add (25 * o1) p) ?_
  refine lv_istore (lv' := [(4, .int (nI ((25 * o1) + p))), (3, .int (nI ((25 * k) + p))), (0, .ref h), (1, .int (nI k)), (2, .int (nI p))]) hx hb dX8_keepsAt_32 hl (by decide) rfl (fun ls hl => ?_)
  refine lv_bipush (v := 25) hx hb dX8_keepsAt_34 (by decide) ?_
  refine lv_aload_n hx hb dX8_keepsAt_36 rfl (lv_at hl 2 rfl) ?_
  refine va_get (D := D) (ci := 6) (v := .ref (q 4)) (C := RX8) (T := TX8) (N := 28) hx hb hts in_X8_keepsAt_X8 hown hK.1 hP 0 rfl rfl 4 (by decide) (hts (.fieldLink RX8 16 "NestlimitModel" "others" "[I") (List.mem_of_getElem? (i := 2) rfl)) (fun _ h9 => h9) rfl dX8_keepsAt_37 ?_
  refine lv_iload_n hx hb dX8_keepsAt_40 rfl (lv_at hl 3 rfl) ?_
  refine g_iald (k := k) hx hb hK.1 hP 3 0 rfl rfl (hk) (by decide) dX8_keepsAt_41 ?_
  refine lv_iconst (v := -1) hx hb dX8_keepsAt_42 (by decide) ?_
  refine lv_icmp_ne (tgt := 50) hx hb dX8_keepsAt_43 (by decide) (fun c_43 => ?_) (fun c_43 => absurd c_43 (g_nm1 hot ho2))
  refine lv_aload_n hx hb dX8_keepsAt_50 rfl (lv_at hl 2 rfl) ?_
  refine va_get (D := D) (ci := 6) (v := .ref (q 4)) (C := RX8) (T := TX8) (N := 28) hx hb hts in_X8_keepsAt_X8 hown hK.1 hP 0 rfl rfl 4 (by decide) (hts (.fieldLink RX8 16 "NestlimitModel" "others" "[I") (List.mem_of_getElem? (i := 2) rfl)) (fun _ h9 => h9) rfl dX8_keepsAt_51 ?_
  refine lv_iload_n hx hb dX8_keepsAt_54 rfl (lv_at hl 3 rfl) ?_
  refine g_iald (k := k) hx hb hK.1 hP 3 0 rfl rfl (hk) (by decide) dX8_keepsAt_55 ?_
  refine g_topi (y := nI o2) (hot) ?_
  refine lv_imul hx hb dX8_keepsAt_56 ?_
  refine g_topi (pk_mul 25 o2) ?_
  refine lv_iload_n hx hb dX8_keepsAt_57 rfl (lv_at hl 4 rfl) ?_
  refine lv_iadd hx hb dX8_keepsAt_58 ?_
  refine g_topi (nI_add (25 * o2) p) ?_
  refine lv_istore (lv' := [(5, .int (nI ((25 * o2) + p))), (4, .int (nI ((25 * o1) + p))), (3, .int (nI ((25 * k) + p))), (0, .ref h), (1, .int (nI k)), (2, .int (nI p))]) hx hb dX8_keepsAt_59 hl (by decide) rfl (fun ls hl => ?_)
  refine lv_aload_n hx hb dX8_keepsAt_61 rfl (lv_at hl 3 rfl) ?_
  refine lv_aload_n hx hb dX8_keepsAt_62 rfl (lv_at hl 3 rfl) ?_
  refine va_get (D := D) (ci := 6) (v := .ref (q 3)) (C := RX8) (T := TX8) (N := 28) hx hb hts in_X8_keepsAt_X8 hown hK.1 hP 0 rfl rfl 3 (by decide) (hts (.fieldLink RX8 13 "NestlimitModel" "ones" "[I") (List.mem_of_getElem? (i := 1) rfl)) (fun _ h9 => h9) rfl dX8_keepsAt_63 ?_
  refine lv_iload_n hx hb dX8_keepsAt_66 rfl (lv_at hl 4 rfl) ?_
  refine g_iald (k := k) hx hb hK.1 hP 2 0 rfl rfl (hk) (by decide) dX8_keepsAt_67 ?_
  refine lv_iconst (v := -1) hx hb dX8_keepsAt_68 (by decide) ?_
  refine lv_icmp_eq (tgt := 82) hx hb dX8_keepsAt_69 (by decide) (fun c_69 => absurd c_69 (g_nm1 hon ho1)) (fun c_69 => ?_)
  refine lv_aload_n hx hb dX8_keepsAt_72 rfl (lv_at hl 3 rfl) ?_
  refine va_get (D := D) (ci := 6) (v := .ref (q 13)) (C := RX8) (T := TX8) (N := 28) hx hb hts in_X8_keepsAt_X8 hown hK.1 hP 0 rfl rfl 13 (by decide) (hts (.fieldLink RX8 43 "NestlimitModel" "found" "[Z") (List.mem_of_getElem? (i := 3) rfl)) (fun _ h9 => h9) rfl dX8_keepsAt_73 ?_
  refine lv_iload hx hb dX8_keepsAt_76 (lv_at hl 1 rfl) ?_
  refine g_zald (k := (25 * o1) + p) hx hb hK.1 hP 12 2 rfl rfl (by omega) (by decide) dX8_keepsAt_78 ?_
  refine g_beq (tgt := 106) hx hb dX8_keepsAt_79 (by decide) (fun c_79 => ?_) (fun c_79 => ?_)
  · skip
    refine lv_iconst (v := 0) hx hb dX8_keepsAt_106 (by decide) ?_
    refine va_put (D := D) (ci := 6) (v := .int (gB false)) (ty := .boolean) (C := RX8) (T := TX8) (N := 28) hx hb hts in_X8_keepsAt_X8 tyX8 tyX8_ok nmX8 hown hK.1 hP hD hS 0 rfl rfl 22 (by decide) (hts (.fieldLink RX8 92 "NestlimitModel" "is" "Z") (List.mem_of_getElem? (i := 4) rfl)) (fun _ h9 => h9) rfl (by decide +kernel) (gB_n _) (gB_f _) (Nat.le_of_ble_eq_true rfl) dX8_keepsAt_107 (fun H locs hP hD hS => ?_)
    have hP : va_P D vwCl (wM y h q tw pn ki on ot ab be zA zB zC zD zF zT fo lw hg at_ tl th wo wl wh false lo_ hi_ di su an) H := hP
    have hD : va_D A (wM y h q tw pn ki on ot ab be zA zB zC zD zF zT fo lw hg at_ tl th wo wl wh false lo_ hi_ di su an) := hD
    refine lv_aload_n hx hb dX8_keepsAt_110 rfl (lv_at hl 3 rfl) ?_
    refine va_get (D := D) (ci := 6) (v := .int (gB false)) (C := RX8) (T := TX8) (N := 28) hx hb hts in_X8_keepsAt_X8 hown hK.1 hP 0 rfl rfl 22 (by decide) (hts (.fieldLink RX8 92 "NestlimitModel" "is" "Z") (List.mem_of_getElem? (i := 4) rfl)) (fun _ h9 => h9) rfl dX8_keepsAt_111 ?_
    refine g_beq (tgt := 151) hx hb dX8_keepsAt_114 (by decide) (fun c_114 => ?_) (fun c_114 => absurd c_114 (by decide))
    refine lv_aload_n hx hb dX8_keepsAt_151 rfl (lv_at hl 3 rfl) ?_
    refine va_get (D := D) (ci := 6) (v := .ref (q 13)) (C := RX8) (T := TX8) (N := 28) hx hb hts in_X8_keepsAt_X8 hown hK.1 hP 0 rfl rfl 13 (by decide) (hts (.fieldLink RX8 43 "NestlimitModel" "found" "[Z") (List.mem_of_getElem? (i := 3) rfl)) (fun _ h9 => h9) rfl dX8_keepsAt_152 ?_
    refine lv_iload_n hx hb dX8_keepsAt_155 rfl (lv_at hl 2 rfl) ?_
    refine lv_aload_n hx hb dX8_keepsAt_156 rfl (lv_at hl 3 rfl) ?_
    refine va_get (D := D) (ci := 6) (v := .int (gB false)) (C := RX8) (T := TX8) (N := 28) hx hb hts in_X8_keepsAt_X8 hown hK.1 hP 0 rfl rfl 22 (by decide) (hts (.fieldLink RX8 92 "NestlimitModel" "is" "Z") (List.mem_of_getElem? (i := 4) rfl)) (fun _ h9 => h9) rfl dX8_keepsAt_157 ?_
    refine g_zast (k := (25 * k) + p) (x := false) hx hb hK.1 hP hD hS 12 2 rfl rfl (by omega) (by decide) dX8_keepsAt_160 (fun H locs hP hD hS => ?_)
    have hP : va_P D vwCl (wM y h q tw pn ki on ot ab be zA zB zC zD zF zT (upZ fo ((25 * k) + p) false) lw hg at_ tl th wo wl wh false lo_ hi_ di su an) H := hP
    have hD : va_D A (wM y h q tw pn ki on ot ab be zA zB zC zD zF zT (upZ fo ((25 * k) + p) false) lw hg at_ tl th wo wl wh false lo_ hi_ di su an) := hD
    refine lv_aload_n hx hb dX8_keepsAt_161 rfl (lv_at hl 3 rfl) ?_
    refine va_get (D := D) (ci := 6) (v := .ref (q 14)) (C := RX8) (T := TX8) (N := 28) hx hb hts in_X8_keepsAt_X8 hown hK.1 hP 0 rfl rfl 14 (by decide) (hts (.fieldLink RX8 47 "NestlimitModel" "lows" "[J") (List.mem_of_getElem? (i := 5) rfl)) (fun _ h9 => h9) rfl dX8_keepsAt_162 ?_
    refine lv_iload_n hx hb dX8_keepsAt_165 rfl (lv_at hl 2 rfl) ?_
    refine lv_aload_n hx hb dX8_keepsAt_166 rfl (lv_at hl 3 rfl) ?_
    refine va_get (D := D) (ci := 6) (v := .long lo_) (C := RX8) (T := TX8) (N := 28) hx hb hts in_X8_keepsAt_X8 hown hK.1 hP 0 rfl rfl 23 (by decide) (hts (.fieldLink RX8 96 "NestlimitModel" "low" "J") (List.mem_of_getElem? (i := 7) rfl)) (fun _ h9 => h9) rfl dX8_keepsAt_167 ?_
    refine g_last (k := (25 * k) + p) (x := lo_) hx hb hK.1 hP hD hS 13 1 rfl rfl (by omega) (by decide) dX8_keepsAt_170 (fun H locs hP hD hS => ?_)
    have hP : va_P D vwCl (wM y h q tw pn ki on ot ab be zA zB zC zD zF zT (upZ fo ((25 * k) + p) false) (vp_updL lw ((25 * k) + p) lo_) hg at_ tl th wo wl wh false lo_ hi_ di su an) H := hP
    have hD : va_D A (wM y h q tw pn ki on ot ab be zA zB zC zD zF zT (upZ fo ((25 * k) + p) false) (vp_updL lw ((25 * k) + p) lo_) hg at_ tl th wo wl wh false lo_ hi_ di su an) := hD
    refine lv_aload_n hx hb dX8_keepsAt_171 rfl (lv_at hl 3 rfl) ?_
    refine va_get (D := D) (ci := 6) (v := .ref (q 15)) (C := RX8) (T := TX8) (N := 28) hx hb hts in_X8_keepsAt_X8 hown hK.1 hP 0 rfl rfl 15 (by decide) (hts (.fieldLink RX8 51 "NestlimitModel" "highs" "[J") (List.mem_of_getElem? (i := 6) rfl)) (fun _ h9 => h9) rfl dX8_keepsAt_172 ?_
    refine lv_iload_n hx hb dX8_keepsAt_175 rfl (lv_at hl 2 rfl) ?_
    refine lv_aload_n hx hb dX8_keepsAt_176 rfl (lv_at hl 3 rfl) ?_
    refine va_get (D := D) (ci := 6) (v := .long hi_) (C := RX8) (T := TX8) (N := 28) hx hb hts in_X8_keepsAt_X8 hown hK.1 hP 0 rfl rfl 24 (by decide) (hts (.fieldLink RX8 100 "NestlimitModel" "high" "J") (List.mem_of_getElem? (i := 8) rfl)) (fun _ h9 => h9) rfl dX8_keepsAt_177 ?_
    refine g_last (k := (25 * k) + p) (x := hi_) hx hb hK.1 hP hD hS 14 1 rfl rfl (by omega) (by decide) dX8_keepsAt_180 (fun H locs hP hD hS => ?_)
    have hP : va_P D vwCl (wM y h q tw pn ki on ot ab be zA zB zC zD zF zT (upZ fo ((25 * k) + p) false) (vp_updL lw ((25 * k) + p) lo_) (vp_updL hg ((25 * k) + p) hi_) at_ tl th wo wl wh false lo_ hi_ di su an) H := hP
    have hD : va_D A (wM y h q tw pn ki on ot ab be zA zB zC zD zF zT (upZ fo ((25 * k) + p) false) (vp_updL lw ((25 * k) + p) lo_) (vp_updL hg ((25 * k) + p) hi_) at_ tl th wo wl wh false lo_ hi_ di su an) := hD
    refine lv_iload_n hx hb dX8_keepsAt_181 rfl (lv_at hl 5 rfl) ?_
    refine lv_if_le (tgt := 200) hx hb dX8_keepsAt_182 (by decide) (fun c_182 => ?_) (fun c_182 => ?_)
    · skip
      refine lv_iconst (v := 0) hx hb dX8_keepsAt_200 (by decide) ?_
      refine lv_istore (lv' := [(6, .int 0), (5, .int (nI ((25 * o2) + p))), (4, .int (nI ((25 * o1) + p))), (3, .int (nI ((25 * k) + p))), (0, .ref h), (1, .int (nI k)), (2, .int (nI p))]) hx hb dX8_keepsAt_201 hl (by decide) rfl (fun ls hl => ?_)
      refine lv_aload_n hx hb dX8_keepsAt_203 rfl (lv_at hl 4 rfl) ?_
      refine va_get (D := D) (ci := 6) (v := .ref (q 16)) (C := RX8) (T := TX8) (N := 28) hx hb hts in_X8_keepsAt_X8 hown hK.1 hP 0 rfl rfl 16 (by decide) (hts (.fieldLink RX8 54 "NestlimitModel" "areTold" "[Z") (List.mem_of_getElem? (i := 9) rfl)) (fun _ h9 => h9) rfl dX8_keepsAt_204 ?_
      refine lv_iload_n hx hb dX8_keepsAt_207 rfl (lv_at hl 3 rfl) ?_
      refine lv_iload hx hb dX8_keepsAt_208 (lv_at hl 0 rfl) ?_
      refine lv_if_ne (tgt := 220) hx hb dX8_keepsAt_210 (by decide) (fun c_210 => absurd c_210 (by decide)) (fun c_210 => ?_)
      refine lv_aload_n hx hb dX8_keepsAt_213 rfl (lv_at hl 4 rfl) ?_
      refine va_get (D := D) (ci := 6) (v := .int (gB false)) (C := RX8) (T := TX8) (N := 28) hx hb hts in_X8_keepsAt_X8 hown hK.1 hP 0 rfl rfl 22 (by decide) (hts (.fieldLink RX8 92 "NestlimitModel" "is" "Z") (List.mem_of_getElem? (i := 4) rfl)) (fun _ h9 => h9) rfl dX8_keepsAt_214 ?_
      refine g_beq (tgt := 224) hx hb dX8_keepsAt_217 (by decide) (fun c_217 => ?_) (fun c_217 => absurd c_217 (by decide))
      refine lv_iconst (v := 0) hx hb dX8_keepsAt_224 (by decide) ?_
      refine g_zast (k := (25 * k) + p) (x := false) hx hb hK.1 hP hD hS 15 2 rfl rfl (by omega) (by decide) dX8_keepsAt_225 (fun H locs hP hD hS => ?_)
      have hP : va_P D vwCl (wM y h q tw pn ki on ot ab be zA zB zC zD zF zT (upZ fo ((25 * k) + p) false) (vp_updL lw ((25 * k) + p) lo_) (vp_updL hg ((25 * k) + p) hi_) (upZ at_ ((25 * k) + p) false) tl th wo wl wh false lo_ hi_ di su an) H := hP
      have hD : va_D A (wM y h q tw pn ki on ot ab be zA zB zC zD zF zT (upZ fo ((25 * k) + p) false) (vp_updL lw ((25 * k) + p) lo_) (vp_updL hg ((25 * k) + p) hi_) (upZ at_ ((25 * k) + p) false) tl th wo wl wh false lo_ hi_ di su an) := hD
      refine lv_aload_n hx hb dX8_keepsAt_226 rfl (lv_at hl 4 rfl) ?_
      refine va_get (D := D) (ci := 6) (v := .ref (q 17)) (C := RX8) (T := TX8) (N := 28) hx hb hts in_X8_keepsAt_X8 hown hK.1 hP 0 rfl rfl 17 (by decide) (hts (.fieldLink RX8 57 "NestlimitModel" "toldLow" "[J") (List.mem_of_getElem? (i := 10) rfl)) (fun _ h9 => h9) rfl dX8_keepsAt_227 ?_
      refine lv_iload_n hx hb dX8_keepsAt_230 rfl (lv_at hl 3 rfl) ?_
      refine lv_iload hx hb dX8_keepsAt_231 (lv_at hl 0 rfl) ?_
      refine lv_if_ne (tgt := 243) hx hb dX8_keepsAt_233 (by decide) (fun c_233 => absurd c_233 (by decide)) (fun c_233 => ?_)
      refine lv_aload_n hx hb dX8_keepsAt_236 rfl (lv_at hl 4 rfl) ?_
      refine va_get (D := D) (ci := 6) (v := .long lo_) (C := RX8) (T := TX8) (N := 28) hx hb hts in_X8_keepsAt_X8 hown hK.1 hP 0 rfl rfl 23 (by decide) (hts (.fieldLink RX8 96 "NestlimitModel" "low" "J") (List.mem_of_getElem? (i := 7) rfl)) (fun _ h9 => h9) rfl dX8_keepsAt_237 ?_
      refine lv_goto (tgt := 284) hx hb dX8_keepsAt_240 (by decide) ?_
      refine g_last (k := (25 * k) + p) (x := lo_) hx hb hK.1 hP hD hS 16 1 rfl rfl (by omega) (by decide) dX8_keepsAt_284 (fun H locs hP hD hS => ?_)
      have hP : va_P D vwCl (wM y h q tw pn ki on ot ab be zA zB zC zD zF zT (upZ fo ((25 * k) + p) false) (vp_updL lw ((25 * k) + p) lo_) (vp_updL hg ((25 * k) + p) hi_) (upZ at_ ((25 * k) + p) false) (vp_updL tl ((25 * k) + p) lo_) th wo wl wh false lo_ hi_ di su an) H := hP
      have hD : va_D A (wM y h q tw pn ki on ot ab be zA zB zC zD zF zT (upZ fo ((25 * k) + p) false) (vp_updL lw ((25 * k) + p) lo_) (vp_updL hg ((25 * k) + p) hi_) (upZ at_ ((25 * k) + p) false) (vp_updL tl ((25 * k) + p) lo_) th wo wl wh false lo_ hi_ di su an) := hD
      refine lv_aload_n hx hb dX8_keepsAt_285 rfl (lv_at hl 4 rfl) ?_
      refine va_get (D := D) (ci := 6) (v := .ref (q 18)) (C := RX8) (T := TX8) (N := 28) hx hb hts in_X8_keepsAt_X8 hown hK.1 hP 0 rfl rfl 18 (by decide) (hts (.fieldLink RX8 60 "NestlimitModel" "toldHigh" "[J") (List.mem_of_getElem? (i := 12) rfl)) (fun _ h9 => h9) rfl dX8_keepsAt_286 ?_
      refine lv_iload_n hx hb dX8_keepsAt_289 rfl (lv_at hl 3 rfl) ?_
      refine lv_iload hx hb dX8_keepsAt_290 (lv_at hl 0 rfl) ?_
      refine lv_if_ne (tgt := 302) hx hb dX8_keepsAt_292 (by decide) (fun c_292 => absurd c_292 (by decide)) (fun c_292 => ?_)
      refine lv_aload_n hx hb dX8_keepsAt_295 rfl (lv_at hl 4 rfl) ?_
      refine va_get (D := D) (ci := 6) (v := .long hi_) (C := RX8) (T := TX8) (N := 28) hx hb hts in_X8_keepsAt_X8 hown hK.1 hP 0 rfl rfl 24 (by decide) (hts (.fieldLink RX8 100 "NestlimitModel" "high" "J") (List.mem_of_getElem? (i := 8) rfl)) (fun _ h9 => h9) rfl dX8_keepsAt_296 ?_
      refine lv_goto (tgt := 343) hx hb dX8_keepsAt_299 (by decide) ?_
      refine g_last (k := (25 * k) + p) (x := hi_) hx hb hK.1 hP hD hS 17 1 rfl rfl (by omega) (by decide) dX8_keepsAt_343 (fun H locs hP hD hS => ?_)
      have hP : va_P D vwCl (wM y h q tw pn ki on ot ab be zA zB zC zD zF zT (upZ fo ((25 * k) + p) false) (vp_updL lw ((25 * k) + p) lo_) (vp_updL hg ((25 * k) + p) hi_) (upZ at_ ((25 * k) + p) false) (vp_updL tl ((25 * k) + p) lo_) (vp_updL th ((25 * k) + p) hi_) wo wl wh false lo_ hi_ di su an) H := hP
      have hD : va_D A (wM y h q tw pn ki on ot ab be zA zB zC zD zF zT (upZ fo ((25 * k) + p) false) (vp_updL lw ((25 * k) + p) lo_) (vp_updL hg ((25 * k) + p) hi_) (upZ at_ ((25 * k) + p) false) (vp_updL tl ((25 * k) + p) lo_) (vp_updL th ((25 * k) + p) hi_) wo wl wh false lo_ hi_ di su an) := hD
      exact W.vret hx hb hr (fun t ht hW => ⟨⟨none, wM y h q tw pn ki on ot ab be zA zB zC zD zF zT (upZ fo ((25 * k) + p) false) (vp_updL lw ((25 * k) + p) lo_) (vp_updL hg ((25 * k) + p) hi_) (upZ at_ ((25 * k) + p) false) (vp_updL tl ((25 * k) + p) lo_) (vp_updL th ((25 * k) + p) hi_) wo wl wh false lo_ hi_ di su an, rfl, ⟨rfl, by simp only [gI1, gL1, kaB, kaA, kaL, kaH, Bool.false_eq_true, if_false, if_true, if_neg c_79, if_pos c_182]⟩, rfl, by rw [ht]; exact hP⟩, by rw [← hAe]; exact hS.F ht⟩) (by rw [← hAe]; exact hS.2.2) dX8_keepsAt_344
    · skip
      have hp1 : 1 ≤ p := g_p1 c_182
      refine lv_aload_n hx hb dX8_keepsAt_185 rfl (lv_at hl 3 rfl) ?_
      refine va_get (D := D) (ci := 6) (v := .ref (q 16)) (C := RX8) (T := TX8) (N := 28) hx hb hts in_X8_keepsAt_X8 hown hK.1 hP 0 rfl rfl 16 (by decide) (hts (.fieldLink RX8 54 "NestlimitModel" "areTold" "[Z") (List.mem_of_getElem? (i := 9) rfl)) (fun _ h9 => h9) rfl dX8_keepsAt_186 ?_
      refine lv_iload_n hx hb dX8_keepsAt_189 rfl (lv_at hl 2 rfl) ?_
      refine lv_iconst (v := 1) hx hb dX8_keepsAt_190 (by decide) ?_
      refine lv_isub hx hb dX8_keepsAt_191 ?_
      refine g_topi (y := nI ((25 * k) + p - 1)) (pk_sub (a := 25 * k + p) (b := 1) (by omega)) ?_
      refine g_zald (k := (25 * k) + p - 1) hx hb hK.1 hP 15 2 rfl rfl (by omega) (by decide) dX8_keepsAt_192 ?_
      refine g_beq (tgt := 200) hx hb dX8_keepsAt_193 (by decide) (fun c_193 => ?_) (fun c_193 => ?_)
      · skip
        refine lv_iconst (v := 0) hx hb dX8_keepsAt_200 (by decide) ?_
        refine lv_istore (lv' := [(6, .int 0), (5, .int (nI ((25 * o2) + p))), (4, .int (nI ((25 * o1) + p))), (3, .int (nI ((25 * k) + p))), (0, .ref h), (1, .int (nI k)), (2, .int (nI p))]) hx hb dX8_keepsAt_201 hl (by decide) rfl (fun ls hl => ?_)
        refine lv_aload_n hx hb dX8_keepsAt_203 rfl (lv_at hl 4 rfl) ?_
        refine va_get (D := D) (ci := 6) (v := .ref (q 16)) (C := RX8) (T := TX8) (N := 28) hx hb hts in_X8_keepsAt_X8 hown hK.1 hP 0 rfl rfl 16 (by decide) (hts (.fieldLink RX8 54 "NestlimitModel" "areTold" "[Z") (List.mem_of_getElem? (i := 9) rfl)) (fun _ h9 => h9) rfl dX8_keepsAt_204 ?_
        refine lv_iload_n hx hb dX8_keepsAt_207 rfl (lv_at hl 3 rfl) ?_
        refine lv_iload hx hb dX8_keepsAt_208 (lv_at hl 0 rfl) ?_
        refine lv_if_ne (tgt := 220) hx hb dX8_keepsAt_210 (by decide) (fun c_210 => absurd c_210 (by decide)) (fun c_210 => ?_)
        refine lv_aload_n hx hb dX8_keepsAt_213 rfl (lv_at hl 4 rfl) ?_
        refine va_get (D := D) (ci := 6) (v := .int (gB false)) (C := RX8) (T := TX8) (N := 28) hx hb hts in_X8_keepsAt_X8 hown hK.1 hP 0 rfl rfl 22 (by decide) (hts (.fieldLink RX8 92 "NestlimitModel" "is" "Z") (List.mem_of_getElem? (i := 4) rfl)) (fun _ h9 => h9) rfl dX8_keepsAt_214 ?_
        refine g_beq (tgt := 224) hx hb dX8_keepsAt_217 (by decide) (fun c_217 => ?_) (fun c_217 => absurd c_217 (by decide))
        refine lv_iconst (v := 0) hx hb dX8_keepsAt_224 (by decide) ?_
        refine g_zast (k := (25 * k) + p) (x := false) hx hb hK.1 hP hD hS 15 2 rfl rfl (by omega) (by decide) dX8_keepsAt_225 (fun H locs hP hD hS => ?_)
        have hP : va_P D vwCl (wM y h q tw pn ki on ot ab be zA zB zC zD zF zT (upZ fo ((25 * k) + p) false) (vp_updL lw ((25 * k) + p) lo_) (vp_updL hg ((25 * k) + p) hi_) (upZ at_ ((25 * k) + p) false) tl th wo wl wh false lo_ hi_ di su an) H := hP
        have hD : va_D A (wM y h q tw pn ki on ot ab be zA zB zC zD zF zT (upZ fo ((25 * k) + p) false) (vp_updL lw ((25 * k) + p) lo_) (vp_updL hg ((25 * k) + p) hi_) (upZ at_ ((25 * k) + p) false) tl th wo wl wh false lo_ hi_ di su an) := hD
        refine lv_aload_n hx hb dX8_keepsAt_226 rfl (lv_at hl 4 rfl) ?_
        refine va_get (D := D) (ci := 6) (v := .ref (q 17)) (C := RX8) (T := TX8) (N := 28) hx hb hts in_X8_keepsAt_X8 hown hK.1 hP 0 rfl rfl 17 (by decide) (hts (.fieldLink RX8 57 "NestlimitModel" "toldLow" "[J") (List.mem_of_getElem? (i := 10) rfl)) (fun _ h9 => h9) rfl dX8_keepsAt_227 ?_
        refine lv_iload_n hx hb dX8_keepsAt_230 rfl (lv_at hl 3 rfl) ?_
        refine lv_iload hx hb dX8_keepsAt_231 (lv_at hl 0 rfl) ?_
        refine lv_if_ne (tgt := 243) hx hb dX8_keepsAt_233 (by decide) (fun c_233 => absurd c_233 (by decide)) (fun c_233 => ?_)
        refine lv_aload_n hx hb dX8_keepsAt_236 rfl (lv_at hl 4 rfl) ?_
        refine va_get (D := D) (ci := 6) (v := .long lo_) (C := RX8) (T := TX8) (N := 28) hx hb hts in_X8_keepsAt_X8 hown hK.1 hP 0 rfl rfl 23 (by decide) (hts (.fieldLink RX8 96 "NestlimitModel" "low" "J") (List.mem_of_getElem? (i := 7) rfl)) (fun _ h9 => h9) rfl dX8_keepsAt_237 ?_
        refine lv_goto (tgt := 284) hx hb dX8_keepsAt_240 (by decide) ?_
        refine g_last (k := (25 * k) + p) (x := lo_) hx hb hK.1 hP hD hS 16 1 rfl rfl (by omega) (by decide) dX8_keepsAt_284 (fun H locs hP hD hS => ?_)
        have hP : va_P D vwCl (wM y h q tw pn ki on ot ab be zA zB zC zD zF zT (upZ fo ((25 * k) + p) false) (vp_updL lw ((25 * k) + p) lo_) (vp_updL hg ((25 * k) + p) hi_) (upZ at_ ((25 * k) + p) false) (vp_updL tl ((25 * k) + p) lo_) th wo wl wh false lo_ hi_ di su an) H := hP
        have hD : va_D A (wM y h q tw pn ki on ot ab be zA zB zC zD zF zT (upZ fo ((25 * k) + p) false) (vp_updL lw ((25 * k) + p) lo_) (vp_updL hg ((25 * k) + p) hi_) (upZ at_ ((25 * k) + p) false) (vp_updL tl ((25 * k) + p) lo_) th wo wl wh false lo_ hi_ di su an) := hD
        refine lv_aload_n hx hb dX8_keepsAt_285 rfl (lv_at hl 4 rfl) ?_
        refine va_get (D := D) (ci := 6) (v := .ref (q 18)) (C := RX8) (T := TX8) (N := 28) hx hb hts in_X8_keepsAt_X8 hown hK.1 hP 0 rfl rfl 18 (by decide) (hts (.fieldLink RX8 60 "NestlimitModel" "toldHigh" "[J") (List.mem_of_getElem? (i := 12) rfl)) (fun _ h9 => h9) rfl dX8_keepsAt_286 ?_
        refine lv_iload_n hx hb dX8_keepsAt_289 rfl (lv_at hl 3 rfl) ?_
        refine lv_iload hx hb dX8_keepsAt_290 (lv_at hl 0 rfl) ?_
        refine lv_if_ne (tgt := 302) hx hb dX8_keepsAt_292 (by decide) (fun c_292 => absurd c_292 (by decide)) (fun c_292 => ?_)
        refine lv_aload_n hx hb dX8_keepsAt_295 rfl (lv_at hl 4 rfl) ?_
        refine va_get (D := D) (ci := 6) (v := .long hi_) (C := RX8) (T := TX8) (N := 28) hx hb hts in_X8_keepsAt_X8 hown hK.1 hP 0 rfl rfl 24 (by decide) (hts (.fieldLink RX8 100 "NestlimitModel" "high" "J") (List.mem_of_getElem? (i := 8) rfl)) (fun _ h9 => h9) rfl dX8_keepsAt_296 ?_
        refine lv_goto (tgt := 343) hx hb dX8_keepsAt_299 (by decide) ?_
        refine g_last (k := (25 * k) + p) (x := hi_) hx hb hK.1 hP hD hS 17 1 rfl rfl (by omega) (by decide) dX8_keepsAt_343 (fun H locs hP hD hS => ?_)
        have hP : va_P D vwCl (wM y h q tw pn ki on ot ab be zA zB zC zD zF zT (upZ fo ((25 * k) + p) false) (vp_updL lw ((25 * k) + p) lo_) (vp_updL hg ((25 * k) + p) hi_) (upZ at_ ((25 * k) + p) false) (vp_updL tl ((25 * k) + p) lo_) (vp_updL th ((25 * k) + p) hi_) wo wl wh false lo_ hi_ di su an) H := hP
        have hD : va_D A (wM y h q tw pn ki on ot ab be zA zB zC zD zF zT (upZ fo ((25 * k) + p) false) (vp_updL lw ((25 * k) + p) lo_) (vp_updL hg ((25 * k) + p) hi_) (upZ at_ ((25 * k) + p) false) (vp_updL tl ((25 * k) + p) lo_) (vp_updL th ((25 * k) + p) hi_) wo wl wh false lo_ hi_ di su an) := hD
        exact W.vret hx hb hr (fun t ht hW => ⟨⟨none, wM y h q tw pn ki on ot ab be zA zB zC zD zF zT (upZ fo ((25 * k) + p) false) (vp_updL lw ((25 * k) + p) lo_) (vp_updL hg ((25 * k) + p) hi_) (upZ at_ ((25 * k) + p) false) (vp_updL tl ((25 * k) + p) lo_) (vp_updL th ((25 * k) + p) hi_) wo wl wh false lo_ hi_ di su an, rfl, ⟨rfl, by simp only [gI1, gL1, kaB, kaA, kaL, kaH, Bool.false_eq_true, if_false, if_true, if_neg c_79, if_neg c_182, if_neg c_193]⟩, rfl, by rw [ht]; exact hP⟩, by rw [← hAe]; exact hS.F ht⟩) (by rw [← hAe]; exact hS.2.2) dX8_keepsAt_344
      · skip
        refine lv_iconst (v := 1) hx hb dX8_keepsAt_196 (by decide) ?_
        refine lv_goto (tgt := 201) hx hb dX8_keepsAt_197 (by decide) ?_
        refine lv_istore (lv' := [(6, .int 1), (5, .int (nI ((25 * o2) + p))), (4, .int (nI ((25 * o1) + p))), (3, .int (nI ((25 * k) + p))), (0, .ref h), (1, .int (nI k)), (2, .int (nI p))]) hx hb dX8_keepsAt_201 hl (by decide) rfl (fun ls hl => ?_)
        refine lv_aload_n hx hb dX8_keepsAt_203 rfl (lv_at hl 4 rfl) ?_
        refine va_get (D := D) (ci := 6) (v := .ref (q 16)) (C := RX8) (T := TX8) (N := 28) hx hb hts in_X8_keepsAt_X8 hown hK.1 hP 0 rfl rfl 16 (by decide) (hts (.fieldLink RX8 54 "NestlimitModel" "areTold" "[Z") (List.mem_of_getElem? (i := 9) rfl)) (fun _ h9 => h9) rfl dX8_keepsAt_204 ?_
        refine lv_iload_n hx hb dX8_keepsAt_207 rfl (lv_at hl 3 rfl) ?_
        refine lv_iload hx hb dX8_keepsAt_208 (lv_at hl 0 rfl) ?_
        refine lv_if_ne (tgt := 220) hx hb dX8_keepsAt_210 (by decide) (fun c_210 => ?_) (fun c_210 => absurd c_210 (by decide))
        refine lv_iconst (v := 1) hx hb dX8_keepsAt_220 (by decide) ?_
        refine lv_goto (tgt := 225) hx hb dX8_keepsAt_221 (by decide) ?_
        refine g_zast (k := (25 * k) + p) (x := true) hx hb hK.1 hP hD hS 15 2 rfl rfl (by omega) (by decide) dX8_keepsAt_225 (fun H locs hP hD hS => ?_)
        have hP : va_P D vwCl (wM y h q tw pn ki on ot ab be zA zB zC zD zF zT (upZ fo ((25 * k) + p) false) (vp_updL lw ((25 * k) + p) lo_) (vp_updL hg ((25 * k) + p) hi_) (upZ at_ ((25 * k) + p) true) tl th wo wl wh false lo_ hi_ di su an) H := hP
        have hD : va_D A (wM y h q tw pn ki on ot ab be zA zB zC zD zF zT (upZ fo ((25 * k) + p) false) (vp_updL lw ((25 * k) + p) lo_) (vp_updL hg ((25 * k) + p) hi_) (upZ at_ ((25 * k) + p) true) tl th wo wl wh false lo_ hi_ di su an) := hD
        refine lv_aload_n hx hb dX8_keepsAt_226 rfl (lv_at hl 4 rfl) ?_
        refine va_get (D := D) (ci := 6) (v := .ref (q 17)) (C := RX8) (T := TX8) (N := 28) hx hb hts in_X8_keepsAt_X8 hown hK.1 hP 0 rfl rfl 17 (by decide) (hts (.fieldLink RX8 57 "NestlimitModel" "toldLow" "[J") (List.mem_of_getElem? (i := 10) rfl)) (fun _ h9 => h9) rfl dX8_keepsAt_227 ?_
        refine lv_iload_n hx hb dX8_keepsAt_230 rfl (lv_at hl 3 rfl) ?_
        refine lv_iload hx hb dX8_keepsAt_231 (lv_at hl 0 rfl) ?_
        refine lv_if_ne (tgt := 243) hx hb dX8_keepsAt_233 (by decide) (fun c_233 => ?_) (fun c_233 => absurd c_233 (by decide))
        refine lv_aload_n hx hb dX8_keepsAt_243 rfl (lv_at hl 4 rfl) ?_
        refine va_get (D := D) (ci := 6) (v := .int (gB false)) (C := RX8) (T := TX8) (N := 28) hx hb hts in_X8_keepsAt_X8 hown hK.1 hP 0 rfl rfl 22 (by decide) (hts (.fieldLink RX8 92 "NestlimitModel" "is" "Z") (List.mem_of_getElem? (i := 4) rfl)) (fun _ h9 => h9) rfl dX8_keepsAt_244 ?_
        refine g_beq (tgt := 272) hx hb dX8_keepsAt_247 (by decide) (fun c_247 => ?_) (fun c_247 => absurd c_247 (by decide))
        refine lv_ldc2 (v := 2) hx hb hown (hts (.constantLong RX8 137 (2)) (List.mem_of_getElem? (i := 11) rfl)) dX8_keepsAt_272 ?_
        refine lv_aload_n hx hb dX8_keepsAt_275 rfl (lv_at hl 4 rfl) ?_
        refine va_get (D := D) (ci := 6) (v := .ref (q 17)) (C := RX8) (T := TX8) (N := 28) hx hb hts in_X8_keepsAt_X8 hown hK.1 hP 0 rfl rfl 17 (by decide) (hts (.fieldLink RX8 57 "NestlimitModel" "toldLow" "[J") (List.mem_of_getElem? (i := 10) rfl)) (fun _ h9 => h9) rfl dX8_keepsAt_276 ?_
        refine lv_iload_n hx hb dX8_keepsAt_279 rfl (lv_at hl 3 rfl) ?_
        refine lv_iconst (v := 1) hx hb dX8_keepsAt_280 (by decide) ?_
        refine lv_isub hx hb dX8_keepsAt_281 ?_
        refine g_topi (y := nI ((25 * k) + p - 1)) (pk_sub (a := 25 * k + p) (b := 1) (by omega)) ?_
        refine g_lald (k := (25 * k) + p - 1) hx hb hK.1 hP 16 1 rfl rfl (by omega) (by decide) dX8_keepsAt_282 ?_
        refine lv_lmul hx hb dX8_keepsAt_283 ?_
        refine g_last (k := (25 * k) + p) (x := 2 * (tl ((25 * k) + p - 1))) hx hb hK.1 hP hD hS 16 1 rfl rfl (by omega) (by decide) dX8_keepsAt_284 (fun H locs hP hD hS => ?_)
        have hP : va_P D vwCl (wM y h q tw pn ki on ot ab be zA zB zC zD zF zT (upZ fo ((25 * k) + p) false) (vp_updL lw ((25 * k) + p) lo_) (vp_updL hg ((25 * k) + p) hi_) (upZ at_ ((25 * k) + p) true) (vp_updL tl ((25 * k) + p) (2 * (tl ((25 * k) + p - 1)))) th wo wl wh false lo_ hi_ di su an) H := hP
        have hD : va_D A (wM y h q tw pn ki on ot ab be zA zB zC zD zF zT (upZ fo ((25 * k) + p) false) (vp_updL lw ((25 * k) + p) lo_) (vp_updL hg ((25 * k) + p) hi_) (upZ at_ ((25 * k) + p) true) (vp_updL tl ((25 * k) + p) (2 * (tl ((25 * k) + p - 1)))) th wo wl wh false lo_ hi_ di su an) := hD
        refine lv_aload_n hx hb dX8_keepsAt_285 rfl (lv_at hl 4 rfl) ?_
        refine va_get (D := D) (ci := 6) (v := .ref (q 18)) (C := RX8) (T := TX8) (N := 28) hx hb hts in_X8_keepsAt_X8 hown hK.1 hP 0 rfl rfl 18 (by decide) (hts (.fieldLink RX8 60 "NestlimitModel" "toldHigh" "[J") (List.mem_of_getElem? (i := 12) rfl)) (fun _ h9 => h9) rfl dX8_keepsAt_286 ?_
        refine lv_iload_n hx hb dX8_keepsAt_289 rfl (lv_at hl 3 rfl) ?_
        refine lv_iload hx hb dX8_keepsAt_290 (lv_at hl 0 rfl) ?_
        refine lv_if_ne (tgt := 302) hx hb dX8_keepsAt_292 (by decide) (fun c_292 => ?_) (fun c_292 => absurd c_292 (by decide))
        refine lv_aload_n hx hb dX8_keepsAt_302 rfl (lv_at hl 4 rfl) ?_
        refine va_get (D := D) (ci := 6) (v := .int (gB false)) (C := RX8) (T := TX8) (N := 28) hx hb hts in_X8_keepsAt_X8 hown hK.1 hP 0 rfl rfl 22 (by decide) (hts (.fieldLink RX8 92 "NestlimitModel" "is" "Z") (List.mem_of_getElem? (i := 4) rfl)) (fun _ h9 => h9) rfl dX8_keepsAt_303 ?_
        refine g_beq (tgt := 331) hx hb dX8_keepsAt_306 (by decide) (fun c_306 => ?_) (fun c_306 => absurd c_306 (by decide))
        refine lv_ldc2 (v := 2) hx hb hown (hts (.constantLong RX8 137 (2)) (List.mem_of_getElem? (i := 11) rfl)) dX8_keepsAt_331 ?_
        refine lv_aload_n hx hb dX8_keepsAt_334 rfl (lv_at hl 4 rfl) ?_
        refine va_get (D := D) (ci := 6) (v := .ref (q 18)) (C := RX8) (T := TX8) (N := 28) hx hb hts in_X8_keepsAt_X8 hown hK.1 hP 0 rfl rfl 18 (by decide) (hts (.fieldLink RX8 60 "NestlimitModel" "toldHigh" "[J") (List.mem_of_getElem? (i := 12) rfl)) (fun _ h9 => h9) rfl dX8_keepsAt_335 ?_
        refine lv_iload_n hx hb dX8_keepsAt_338 rfl (lv_at hl 3 rfl) ?_
        refine lv_iconst (v := 1) hx hb dX8_keepsAt_339 (by decide) ?_
        refine lv_isub hx hb dX8_keepsAt_340 ?_
        refine g_topi (y := nI ((25 * k) + p - 1)) (pk_sub (a := 25 * k + p) (b := 1) (by omega)) ?_
        refine g_lald (k := (25 * k) + p - 1) hx hb hK.1 hP 17 1 rfl rfl (by omega) (by decide) dX8_keepsAt_341 ?_
        refine lv_lmul hx hb dX8_keepsAt_342 ?_
        refine g_last (k := (25 * k) + p) (x := 2 * (th ((25 * k) + p - 1))) hx hb hK.1 hP hD hS 17 1 rfl rfl (by omega) (by decide) dX8_keepsAt_343 (fun H locs hP hD hS => ?_)
        have hP : va_P D vwCl (wM y h q tw pn ki on ot ab be zA zB zC zD zF zT (upZ fo ((25 * k) + p) false) (vp_updL lw ((25 * k) + p) lo_) (vp_updL hg ((25 * k) + p) hi_) (upZ at_ ((25 * k) + p) true) (vp_updL tl ((25 * k) + p) (2 * (tl ((25 * k) + p - 1)))) (vp_updL th ((25 * k) + p) (2 * (th ((25 * k) + p - 1)))) wo wl wh false lo_ hi_ di su an) H := hP
        have hD : va_D A (wM y h q tw pn ki on ot ab be zA zB zC zD zF zT (upZ fo ((25 * k) + p) false) (vp_updL lw ((25 * k) + p) lo_) (vp_updL hg ((25 * k) + p) hi_) (upZ at_ ((25 * k) + p) true) (vp_updL tl ((25 * k) + p) (2 * (tl ((25 * k) + p - 1)))) (vp_updL th ((25 * k) + p) (2 * (th ((25 * k) + p - 1)))) wo wl wh false lo_ hi_ di su an) := hD
        exact W.vret hx hb hr (fun t ht hW => ⟨⟨none, wM y h q tw pn ki on ot ab be zA zB zC zD zF zT (upZ fo ((25 * k) + p) false) (vp_updL lw ((25 * k) + p) lo_) (vp_updL hg ((25 * k) + p) hi_) (upZ at_ ((25 * k) + p) true) (vp_updL tl ((25 * k) + p) (2 * (tl ((25 * k) + p - 1)))) (vp_updL th ((25 * k) + p) (2 * (th ((25 * k) + p - 1)))) wo wl wh false lo_ hi_ di su an, rfl, ⟨rfl, by simp only [gI1, gL1, kaB, kaA, kaL, kaH, Bool.false_eq_true, if_false, if_true, if_neg c_79, if_neg c_182, if_pos c_193]⟩, rfl, by rw [ht]; exact hP⟩, by rw [← hAe]; exact hS.F ht⟩) (by rw [← hAe]; exact hS.2.2) dX8_keepsAt_344
  · skip
    refine lv_aload_n hx hb dX8_keepsAt_82 rfl (lv_at hl 3 rfl) ?_
    refine va_get (D := D) (ci := 6) (v := .ref (q 4)) (C := RX8) (T := TX8) (N := 28) hx hb hts in_X8_keepsAt_X8 hown hK.1 hP 0 rfl rfl 4 (by decide) (hts (.fieldLink RX8 16 "NestlimitModel" "others" "[I") (List.mem_of_getElem? (i := 2) rfl)) (fun _ h9 => h9) rfl dX8_keepsAt_83 ?_
    refine lv_iload_n hx hb dX8_keepsAt_86 rfl (lv_at hl 4 rfl) ?_
    refine g_iald (k := k) hx hb hK.1 hP 3 0 rfl rfl (hk) (by decide) dX8_keepsAt_87 ?_
    refine lv_iconst (v := -1) hx hb dX8_keepsAt_88 (by decide) ?_
    refine lv_icmp_eq (tgt := 102) hx hb dX8_keepsAt_89 (by decide) (fun c_89 => absurd c_89 (g_nm1 hot ho2)) (fun c_89 => ?_)
    refine lv_aload_n hx hb dX8_keepsAt_92 rfl (lv_at hl 3 rfl) ?_
    refine va_get (D := D) (ci := 6) (v := .ref (q 13)) (C := RX8) (T := TX8) (N := 28) hx hb hts in_X8_keepsAt_X8 hown hK.1 hP 0 rfl rfl 13 (by decide) (hts (.fieldLink RX8 43 "NestlimitModel" "found" "[Z") (List.mem_of_getElem? (i := 3) rfl)) (fun _ h9 => h9) rfl dX8_keepsAt_93 ?_
    refine lv_iload hx hb dX8_keepsAt_96 (lv_at hl 0 rfl) ?_
    refine g_zald (k := (25 * o2) + p) hx hb hK.1 hP 12 2 rfl rfl (by omega) (by decide) dX8_keepsAt_98 ?_
    refine g_beq (tgt := 106) hx hb dX8_keepsAt_99 (by decide) (fun c_99 => ?_) (fun c_99 => ?_)
    · skip
      refine lv_iconst (v := 0) hx hb dX8_keepsAt_106 (by decide) ?_
      refine va_put (D := D) (ci := 6) (v := .int (gB false)) (ty := .boolean) (C := RX8) (T := TX8) (N := 28) hx hb hts in_X8_keepsAt_X8 tyX8 tyX8_ok nmX8 hown hK.1 hP hD hS 0 rfl rfl 22 (by decide) (hts (.fieldLink RX8 92 "NestlimitModel" "is" "Z") (List.mem_of_getElem? (i := 4) rfl)) (fun _ h9 => h9) rfl (by decide +kernel) (gB_n _) (gB_f _) (Nat.le_of_ble_eq_true rfl) dX8_keepsAt_107 (fun H locs hP hD hS => ?_)
      have hP : va_P D vwCl (wM y h q tw pn ki on ot ab be zA zB zC zD zF zT fo lw hg at_ tl th wo wl wh false lo_ hi_ di su an) H := hP
      have hD : va_D A (wM y h q tw pn ki on ot ab be zA zB zC zD zF zT fo lw hg at_ tl th wo wl wh false lo_ hi_ di su an) := hD
      refine lv_aload_n hx hb dX8_keepsAt_110 rfl (lv_at hl 3 rfl) ?_
      refine va_get (D := D) (ci := 6) (v := .int (gB false)) (C := RX8) (T := TX8) (N := 28) hx hb hts in_X8_keepsAt_X8 hown hK.1 hP 0 rfl rfl 22 (by decide) (hts (.fieldLink RX8 92 "NestlimitModel" "is" "Z") (List.mem_of_getElem? (i := 4) rfl)) (fun _ h9 => h9) rfl dX8_keepsAt_111 ?_
      refine g_beq (tgt := 151) hx hb dX8_keepsAt_114 (by decide) (fun c_114 => ?_) (fun c_114 => absurd c_114 (by decide))
      refine lv_aload_n hx hb dX8_keepsAt_151 rfl (lv_at hl 3 rfl) ?_
      refine va_get (D := D) (ci := 6) (v := .ref (q 13)) (C := RX8) (T := TX8) (N := 28) hx hb hts in_X8_keepsAt_X8 hown hK.1 hP 0 rfl rfl 13 (by decide) (hts (.fieldLink RX8 43 "NestlimitModel" "found" "[Z") (List.mem_of_getElem? (i := 3) rfl)) (fun _ h9 => h9) rfl dX8_keepsAt_152 ?_
      refine lv_iload_n hx hb dX8_keepsAt_155 rfl (lv_at hl 2 rfl) ?_
      refine lv_aload_n hx hb dX8_keepsAt_156 rfl (lv_at hl 3 rfl) ?_
      refine va_get (D := D) (ci := 6) (v := .int (gB false)) (C := RX8) (T := TX8) (N := 28) hx hb hts in_X8_keepsAt_X8 hown hK.1 hP 0 rfl rfl 22 (by decide) (hts (.fieldLink RX8 92 "NestlimitModel" "is" "Z") (List.mem_of_getElem? (i := 4) rfl)) (fun _ h9 => h9) rfl dX8_keepsAt_157 ?_
      refine g_zast (k := (25 * k) + p) (x := false) hx hb hK.1 hP hD hS 12 2 rfl rfl (by omega) (by decide) dX8_keepsAt_160 (fun H locs hP hD hS => ?_)
      have hP : va_P D vwCl (wM y h q tw pn ki on ot ab be zA zB zC zD zF zT (upZ fo ((25 * k) + p) false) lw hg at_ tl th wo wl wh false lo_ hi_ di su an) H := hP
      have hD : va_D A (wM y h q tw pn ki on ot ab be zA zB zC zD zF zT (upZ fo ((25 * k) + p) false) lw hg at_ tl th wo wl wh false lo_ hi_ di su an) := hD
      refine lv_aload_n hx hb dX8_keepsAt_161 rfl (lv_at hl 3 rfl) ?_
      refine va_get (D := D) (ci := 6) (v := .ref (q 14)) (C := RX8) (T := TX8) (N := 28) hx hb hts in_X8_keepsAt_X8 hown hK.1 hP 0 rfl rfl 14 (by decide) (hts (.fieldLink RX8 47 "NestlimitModel" "lows" "[J") (List.mem_of_getElem? (i := 5) rfl)) (fun _ h9 => h9) rfl dX8_keepsAt_162 ?_
      refine lv_iload_n hx hb dX8_keepsAt_165 rfl (lv_at hl 2 rfl) ?_
      refine lv_aload_n hx hb dX8_keepsAt_166 rfl (lv_at hl 3 rfl) ?_
      refine va_get (D := D) (ci := 6) (v := .long lo_) (C := RX8) (T := TX8) (N := 28) hx hb hts in_X8_keepsAt_X8 hown hK.1 hP 0 rfl rfl 23 (by decide) (hts (.fieldLink RX8 96 "NestlimitModel" "low" "J") (List.mem_of_getElem? (i := 7) rfl)) (fun _ h9 => h9) rfl dX8_keepsAt_167 ?_
      refine g_last (k := (25 * k) + p) (x := lo_) hx hb hK.1 hP hD hS 13 1 rfl rfl (by omega) (by decide) dX8_keepsAt_170 (fun H locs hP hD hS => ?_)
      have hP : va_P D vwCl (wM y h q tw pn ki on ot ab be zA zB zC zD zF zT (upZ fo ((25 * k) + p) false) (vp_updL lw ((25 * k) + p) lo_) hg at_ tl th wo wl wh false lo_ hi_ di su an) H := hP
      have hD : va_D A (wM y h q tw pn ki on ot ab be zA zB zC zD zF zT (upZ fo ((25 * k) + p) false) (vp_updL lw ((25 * k) + p) lo_) hg at_ tl th wo wl wh false lo_ hi_ di su an) := hD
      refine lv_aload_n hx hb dX8_keepsAt_171 rfl (lv_at hl 3 rfl) ?_
      refine va_get (D := D) (ci := 6) (v := .ref (q 15)) (C := RX8) (T := TX8) (N := 28) hx hb hts in_X8_keepsAt_X8 hown hK.1 hP 0 rfl rfl 15 (by decide) (hts (.fieldLink RX8 51 "NestlimitModel" "highs" "[J") (List.mem_of_getElem? (i := 6) rfl)) (fun _ h9 => h9) rfl dX8_keepsAt_172 ?_
      refine lv_iload_n hx hb dX8_keepsAt_175 rfl (lv_at hl 2 rfl) ?_
      refine lv_aload_n hx hb dX8_keepsAt_176 rfl (lv_at hl 3 rfl) ?_
      refine va_get (D := D) (ci := 6) (v := .long hi_) (C := RX8) (T := TX8) (N := 28) hx hb hts in_X8_keepsAt_X8 hown hK.1 hP 0 rfl rfl 24 (by decide) (hts (.fieldLink RX8 100 "NestlimitModel" "high" "J") (List.mem_of_getElem? (i := 8) rfl)) (fun _ h9 => h9) rfl dX8_keepsAt_177 ?_
      refine g_last (k := (25 * k) + p) (x := hi_) hx hb hK.1 hP hD hS 14 1 rfl rfl (by omega) (by decide) dX8_keepsAt_180 (fun H locs hP hD hS => ?_)
      have hP : va_P D vwCl (wM y h q tw pn ki on ot ab be zA zB zC zD zF zT (upZ fo ((25 * k) + p) false) (vp_updL lw ((25 * k) + p) lo_) (vp_updL hg ((25 * k) + p) hi_) at_ tl th wo wl wh false lo_ hi_ di su an) H := hP
      have hD : va_D A (wM y h q tw pn ki on ot ab be zA zB zC zD zF zT (upZ fo ((25 * k) + p) false) (vp_updL lw ((25 * k) + p) lo_) (vp_updL hg ((25 * k) + p) hi_) at_ tl th wo wl wh false lo_ hi_ di su an) := hD
      refine lv_iload_n hx hb dX8_keepsAt_181 rfl (lv_at hl 5 rfl) ?_
      refine lv_if_le (tgt := 200) hx hb dX8_keepsAt_182 (by decide) (fun c_182 => ?_) (fun c_182 => ?_)
      · skip
        refine lv_iconst (v := 0) hx hb dX8_keepsAt_200 (by decide) ?_
        refine lv_istore (lv' := [(6, .int 0), (5, .int (nI ((25 * o2) + p))), (4, .int (nI ((25 * o1) + p))), (3, .int (nI ((25 * k) + p))), (0, .ref h), (1, .int (nI k)), (2, .int (nI p))]) hx hb dX8_keepsAt_201 hl (by decide) rfl (fun ls hl => ?_)
        refine lv_aload_n hx hb dX8_keepsAt_203 rfl (lv_at hl 4 rfl) ?_
        refine va_get (D := D) (ci := 6) (v := .ref (q 16)) (C := RX8) (T := TX8) (N := 28) hx hb hts in_X8_keepsAt_X8 hown hK.1 hP 0 rfl rfl 16 (by decide) (hts (.fieldLink RX8 54 "NestlimitModel" "areTold" "[Z") (List.mem_of_getElem? (i := 9) rfl)) (fun _ h9 => h9) rfl dX8_keepsAt_204 ?_
        refine lv_iload_n hx hb dX8_keepsAt_207 rfl (lv_at hl 3 rfl) ?_
        refine lv_iload hx hb dX8_keepsAt_208 (lv_at hl 0 rfl) ?_
        refine lv_if_ne (tgt := 220) hx hb dX8_keepsAt_210 (by decide) (fun c_210 => absurd c_210 (by decide)) (fun c_210 => ?_)
        refine lv_aload_n hx hb dX8_keepsAt_213 rfl (lv_at hl 4 rfl) ?_
        refine va_get (D := D) (ci := 6) (v := .int (gB false)) (C := RX8) (T := TX8) (N := 28) hx hb hts in_X8_keepsAt_X8 hown hK.1 hP 0 rfl rfl 22 (by decide) (hts (.fieldLink RX8 92 "NestlimitModel" "is" "Z") (List.mem_of_getElem? (i := 4) rfl)) (fun _ h9 => h9) rfl dX8_keepsAt_214 ?_
        refine g_beq (tgt := 224) hx hb dX8_keepsAt_217 (by decide) (fun c_217 => ?_) (fun c_217 => absurd c_217 (by decide))
        refine lv_iconst (v := 0) hx hb dX8_keepsAt_224 (by decide) ?_
        refine g_zast (k := (25 * k) + p) (x := false) hx hb hK.1 hP hD hS 15 2 rfl rfl (by omega) (by decide) dX8_keepsAt_225 (fun H locs hP hD hS => ?_)
        have hP : va_P D vwCl (wM y h q tw pn ki on ot ab be zA zB zC zD zF zT (upZ fo ((25 * k) + p) false) (vp_updL lw ((25 * k) + p) lo_) (vp_updL hg ((25 * k) + p) hi_) (upZ at_ ((25 * k) + p) false) tl th wo wl wh false lo_ hi_ di su an) H := hP
        have hD : va_D A (wM y h q tw pn ki on ot ab be zA zB zC zD zF zT (upZ fo ((25 * k) + p) false) (vp_updL lw ((25 * k) + p) lo_) (vp_updL hg ((25 * k) + p) hi_) (upZ at_ ((25 * k) + p) false) tl th wo wl wh false lo_ hi_ di su an) := hD
        refine lv_aload_n hx hb dX8_keepsAt_226 rfl (lv_at hl 4 rfl) ?_
        refine va_get (D := D) (ci := 6) (v := .ref (q 17)) (C := RX8) (T := TX8) (N := 28) hx hb hts in_X8_keepsAt_X8 hown hK.1 hP 0 rfl rfl 17 (by decide) (hts (.fieldLink RX8 57 "NestlimitModel" "toldLow" "[J") (List.mem_of_getElem? (i := 10) rfl)) (fun _ h9 => h9) rfl dX8_keepsAt_227 ?_
        refine lv_iload_n hx hb dX8_keepsAt_230 rfl (lv_at hl 3 rfl) ?_
        refine lv_iload hx hb dX8_keepsAt_231 (lv_at hl 0 rfl) ?_
        refine lv_if_ne (tgt := 243) hx hb dX8_keepsAt_233 (by decide) (fun c_233 => absurd c_233 (by decide)) (fun c_233 => ?_)
        refine lv_aload_n hx hb dX8_keepsAt_236 rfl (lv_at hl 4 rfl) ?_
        refine va_get (D := D) (ci := 6) (v := .long lo_) (C := RX8) (T := TX8) (N := 28) hx hb hts in_X8_keepsAt_X8 hown hK.1 hP 0 rfl rfl 23 (by decide) (hts (.fieldLink RX8 96 "NestlimitModel" "low" "J") (List.mem_of_getElem? (i := 7) rfl)) (fun _ h9 => h9) rfl dX8_keepsAt_237 ?_
        refine lv_goto (tgt := 284) hx hb dX8_keepsAt_240 (by decide) ?_
        refine g_last (k := (25 * k) + p) (x := lo_) hx hb hK.1 hP hD hS 16 1 rfl rfl (by omega) (by decide) dX8_keepsAt_284 (fun H locs hP hD hS => ?_)
        have hP : va_P D vwCl (wM y h q tw pn ki on ot ab be zA zB zC zD zF zT (upZ fo ((25 * k) + p) false) (vp_updL lw ((25 * k) + p) lo_) (vp_updL hg ((25 * k) + p) hi_) (upZ at_ ((25 * k) + p) false) (vp_updL tl ((25 * k) + p) lo_) th wo wl wh false lo_ hi_ di su an) H := hP
        have hD : va_D A (wM y h q tw pn ki on ot ab be zA zB zC zD zF zT (upZ fo ((25 * k) + p) false) (vp_updL lw ((25 * k) + p) lo_) (vp_updL hg ((25 * k) + p) hi_) (upZ at_ ((25 * k) + p) false) (vp_updL tl ((25 * k) + p) lo_) th wo wl wh false lo_ hi_ di su an) := hD
        refine lv_aload_n hx hb dX8_keepsAt_285 rfl (lv_at hl 4 rfl) ?_
        refine va_get (D := D) (ci := 6) (v := .ref (q 18)) (C := RX8) (T := TX8) (N := 28) hx hb hts in_X8_keepsAt_X8 hown hK.1 hP 0 rfl rfl 18 (by decide) (hts (.fieldLink RX8 60 "NestlimitModel" "toldHigh" "[J") (List.mem_of_getElem? (i := 12) rfl)) (fun _ h9 => h9) rfl dX8_keepsAt_286 ?_
        refine lv_iload_n hx hb dX8_keepsAt_289 rfl (lv_at hl 3 rfl) ?_
        refine lv_iload hx hb dX8_keepsAt_290 (lv_at hl 0 rfl) ?_
        refine lv_if_ne (tgt := 302) hx hb dX8_keepsAt_292 (by decide) (fun c_292 => absurd c_292 (by decide)) (fun c_292 => ?_)
        refine lv_aload_n hx hb dX8_keepsAt_295 rfl (lv_at hl 4 rfl) ?_
        refine va_get (D := D) (ci := 6) (v := .long hi_) (C := RX8) (T := TX8) (N := 28) hx hb hts in_X8_keepsAt_X8 hown hK.1 hP 0 rfl rfl 24 (by decide) (hts (.fieldLink RX8 100 "NestlimitModel" "high" "J") (List.mem_of_getElem? (i := 8) rfl)) (fun _ h9 => h9) rfl dX8_keepsAt_296 ?_
        refine lv_goto (tgt := 343) hx hb dX8_keepsAt_299 (by decide) ?_
        refine g_last (k := (25 * k) + p) (x := hi_) hx hb hK.1 hP hD hS 17 1 rfl rfl (by omega) (by decide) dX8_keepsAt_343 (fun H locs hP hD hS => ?_)
        have hP : va_P D vwCl (wM y h q tw pn ki on ot ab be zA zB zC zD zF zT (upZ fo ((25 * k) + p) false) (vp_updL lw ((25 * k) + p) lo_) (vp_updL hg ((25 * k) + p) hi_) (upZ at_ ((25 * k) + p) false) (vp_updL tl ((25 * k) + p) lo_) (vp_updL th ((25 * k) + p) hi_) wo wl wh false lo_ hi_ di su an) H := hP
        have hD : va_D A (wM y h q tw pn ki on ot ab be zA zB zC zD zF zT (upZ fo ((25 * k) + p) false) (vp_updL lw ((25 * k) + p) lo_) (vp_updL hg ((25 * k) + p) hi_) (upZ at_ ((25 * k) + p) false) (vp_updL tl ((25 * k) + p) lo_) (vp_updL th ((25 * k) + p) hi_) wo wl wh false lo_ hi_ di su an) := hD
        exact W.vret hx hb hr (fun t ht hW => ⟨⟨none, wM y h q tw pn ki on ot ab be zA zB zC zD zF zT (upZ fo ((25 * k) + p) false) (vp_updL lw ((25 * k) + p) lo_) (vp_updL hg ((25 * k) + p) hi_) (upZ at_ ((25 * k) + p) false) (vp_updL tl ((25 * k) + p) lo_) (vp_updL th ((25 * k) + p) hi_) wo wl wh false lo_ hi_ di su an, rfl, ⟨rfl, by simp only [gI1, gL1, kaB, kaA, kaL, kaH, Bool.false_eq_true, if_false, if_true, if_pos c_79, if_neg c_99, if_pos c_182]⟩, rfl, by rw [ht]; exact hP⟩, by rw [← hAe]; exact hS.F ht⟩) (by rw [← hAe]; exact hS.2.2) dX8_keepsAt_344
      · skip
        have hp1 : 1 ≤ p := g_p1 c_182
        refine lv_aload_n hx hb dX8_keepsAt_185 rfl (lv_at hl 3 rfl) ?_
        refine va_get (D := D) (ci := 6) (v := .ref (q 16)) (C := RX8) (T := TX8) (N := 28) hx hb hts in_X8_keepsAt_X8 hown hK.1 hP 0 rfl rfl 16 (by decide) (hts (.fieldLink RX8 54 "NestlimitModel" "areTold" "[Z") (List.mem_of_getElem? (i := 9) rfl)) (fun _ h9 => h9) rfl dX8_keepsAt_186 ?_
        refine lv_iload_n hx hb dX8_keepsAt_189 rfl (lv_at hl 2 rfl) ?_
        refine lv_iconst (v := 1) hx hb dX8_keepsAt_190 (by decide) ?_
        refine lv_isub hx hb dX8_keepsAt_191 ?_
        refine g_topi (y := nI ((25 * k) + p - 1)) (pk_sub (a := 25 * k + p) (b := 1) (by omega)) ?_
        refine g_zald (k := (25 * k) + p - 1) hx hb hK.1 hP 15 2 rfl rfl (by omega) (by decide) dX8_keepsAt_192 ?_
        refine g_beq (tgt := 200) hx hb dX8_keepsAt_193 (by decide) (fun c_193 => ?_) (fun c_193 => ?_)
        · skip
          refine lv_iconst (v := 0) hx hb dX8_keepsAt_200 (by decide) ?_
          refine lv_istore (lv' := [(6, .int 0), (5, .int (nI ((25 * o2) + p))), (4, .int (nI ((25 * o1) + p))), (3, .int (nI ((25 * k) + p))), (0, .ref h), (1, .int (nI k)), (2, .int (nI p))]) hx hb dX8_keepsAt_201 hl (by decide) rfl (fun ls hl => ?_)
          refine lv_aload_n hx hb dX8_keepsAt_203 rfl (lv_at hl 4 rfl) ?_
          refine va_get (D := D) (ci := 6) (v := .ref (q 16)) (C := RX8) (T := TX8) (N := 28) hx hb hts in_X8_keepsAt_X8 hown hK.1 hP 0 rfl rfl 16 (by decide) (hts (.fieldLink RX8 54 "NestlimitModel" "areTold" "[Z") (List.mem_of_getElem? (i := 9) rfl)) (fun _ h9 => h9) rfl dX8_keepsAt_204 ?_
          refine lv_iload_n hx hb dX8_keepsAt_207 rfl (lv_at hl 3 rfl) ?_
          refine lv_iload hx hb dX8_keepsAt_208 (lv_at hl 0 rfl) ?_
          refine lv_if_ne (tgt := 220) hx hb dX8_keepsAt_210 (by decide) (fun c_210 => absurd c_210 (by decide)) (fun c_210 => ?_)
          refine lv_aload_n hx hb dX8_keepsAt_213 rfl (lv_at hl 4 rfl) ?_
          refine va_get (D := D) (ci := 6) (v := .int (gB false)) (C := RX8) (T := TX8) (N := 28) hx hb hts in_X8_keepsAt_X8 hown hK.1 hP 0 rfl rfl 22 (by decide) (hts (.fieldLink RX8 92 "NestlimitModel" "is" "Z") (List.mem_of_getElem? (i := 4) rfl)) (fun _ h9 => h9) rfl dX8_keepsAt_214 ?_
          refine g_beq (tgt := 224) hx hb dX8_keepsAt_217 (by decide) (fun c_217 => ?_) (fun c_217 => absurd c_217 (by decide))
          refine lv_iconst (v := 0) hx hb dX8_keepsAt_224 (by decide) ?_
          refine g_zast (k := (25 * k) + p) (x := false) hx hb hK.1 hP hD hS 15 2 rfl rfl (by omega) (by decide) dX8_keepsAt_225 (fun H locs hP hD hS => ?_)
          have hP : va_P D vwCl (wM y h q tw pn ki on ot ab be zA zB zC zD zF zT (upZ fo ((25 * k) + p) false) (vp_updL lw ((25 * k) + p) lo_) (vp_updL hg ((25 * k) + p) hi_) (upZ at_ ((25 * k) + p) false) tl th wo wl wh false lo_ hi_ di su an) H := hP
          have hD : va_D A (wM y h q tw pn ki on ot ab be zA zB zC zD zF zT (upZ fo ((25 * k) + p) false) (vp_updL lw ((25 * k) + p) lo_) (vp_updL hg ((25 * k) + p) hi_) (upZ at_ ((25 * k) + p) false) tl th wo wl wh false lo_ hi_ di su an) := hD
          refine lv_aload_n hx hb dX8_keepsAt_226 rfl (lv_at hl 4 rfl) ?_
          refine va_get (D := D) (ci := 6) (v := .ref (q 17)) (C := RX8) (T := TX8) (N := 28) hx hb hts in_X8_keepsAt_X8 hown hK.1 hP 0 rfl rfl 17 (by decide) (hts (.fieldLink RX8 57 "NestlimitModel" "toldLow" "[J") (List.mem_of_getElem? (i := 10) rfl)) (fun _ h9 => h9) rfl dX8_keepsAt_227 ?_
          refine lv_iload_n hx hb dX8_keepsAt_230 rfl (lv_at hl 3 rfl) ?_
          refine lv_iload hx hb dX8_keepsAt_231 (lv_at hl 0 rfl) ?_
          refine lv_if_ne (tgt := 243) hx hb dX8_keepsAt_233 (by decide) (fun c_233 => absurd c_233 (by decide)) (fun c_233 => ?_)
          refine lv_aload_n hx hb dX8_keepsAt_236 rfl (lv_at hl 4 rfl) ?_
          refine va_get (D := D) (ci := 6) (v := .long lo_) (C := RX8) (T := TX8) (N := 28) hx hb hts in_X8_keepsAt_X8 hown hK.1 hP 0 rfl rfl 23 (by decide) (hts (.fieldLink RX8 96 "NestlimitModel" "low" "J") (List.mem_of_getElem? (i := 7) rfl)) (fun _ h9 => h9) rfl dX8_keepsAt_237 ?_
          refine lv_goto (tgt := 284) hx hb dX8_keepsAt_240 (by decide) ?_
          refine g_last (k := (25 * k) + p) (x := lo_) hx hb hK.1 hP hD hS 16 1 rfl rfl (by omega) (by decide) dX8_keepsAt_284 (fun H locs hP hD hS => ?_)
          have hP : va_P D vwCl (wM y h q tw pn ki on ot ab be zA zB zC zD zF zT (upZ fo ((25 * k) + p) false) (vp_updL lw ((25 * k) + p) lo_) (vp_updL hg ((25 * k) + p) hi_) (upZ at_ ((25 * k) + p) false) (vp_updL tl ((25 * k) + p) lo_) th wo wl wh false lo_ hi_ di su an) H := hP
          have hD : va_D A (wM y h q tw pn ki on ot ab be zA zB zC zD zF zT (upZ fo ((25 * k) + p) false) (vp_updL lw ((25 * k) + p) lo_) (vp_updL hg ((25 * k) + p) hi_) (upZ at_ ((25 * k) + p) false) (vp_updL tl ((25 * k) + p) lo_) th wo wl wh false lo_ hi_ di su an) := hD
          refine lv_aload_n hx hb dX8_keepsAt_285 rfl (lv_at hl 4 rfl) ?_
          refine va_get (D := D) (ci := 6) (v := .ref (q 18)) (C := RX8) (T := TX8) (N := 28) hx hb hts in_X8_keepsAt_X8 hown hK.1 hP 0 rfl rfl 18 (by decide) (hts (.fieldLink RX8 60 "NestlimitModel" "toldHigh" "[J") (List.mem_of_getElem? (i := 12) rfl)) (fun _ h9 => h9) rfl dX8_keepsAt_286 ?_
          refine lv_iload_n hx hb dX8_keepsAt_289 rfl (lv_at hl 3 rfl) ?_
          refine lv_iload hx hb dX8_keepsAt_290 (lv_at hl 0 rfl) ?_
          refine lv_if_ne (tgt := 302) hx hb dX8_keepsAt_292 (by decide) (fun c_292 => absurd c_292 (by decide)) (fun c_292 => ?_)
          refine lv_aload_n hx hb dX8_keepsAt_295 rfl (lv_at hl 4 rfl) ?_
          refine va_get (D := D) (ci := 6) (v := .long hi_) (C := RX8) (T := TX8) (N := 28) hx hb hts in_X8_keepsAt_X8 hown hK.1 hP 0 rfl rfl 24 (by decide) (hts (.fieldLink RX8 100 "NestlimitModel" "high" "J") (List.mem_of_getElem? (i := 8) rfl)) (fun _ h9 => h9) rfl dX8_keepsAt_296 ?_
          refine lv_goto (tgt := 343) hx hb dX8_keepsAt_299 (by decide) ?_
          refine g_last (k := (25 * k) + p) (x := hi_) hx hb hK.1 hP hD hS 17 1 rfl rfl (by omega) (by decide) dX8_keepsAt_343 (fun H locs hP hD hS => ?_)
          have hP : va_P D vwCl (wM y h q tw pn ki on ot ab be zA zB zC zD zF zT (upZ fo ((25 * k) + p) false) (vp_updL lw ((25 * k) + p) lo_) (vp_updL hg ((25 * k) + p) hi_) (upZ at_ ((25 * k) + p) false) (vp_updL tl ((25 * k) + p) lo_) (vp_updL th ((25 * k) + p) hi_) wo wl wh false lo_ hi_ di su an) H := hP
          have hD : va_D A (wM y h q tw pn ki on ot ab be zA zB zC zD zF zT (upZ fo ((25 * k) + p) false) (vp_updL lw ((25 * k) + p) lo_) (vp_updL hg ((25 * k) + p) hi_) (upZ at_ ((25 * k) + p) false) (vp_updL tl ((25 * k) + p) lo_) (vp_updL th ((25 * k) + p) hi_) wo wl wh false lo_ hi_ di su an) := hD
          exact W.vret hx hb hr (fun t ht hW => ⟨⟨none, wM y h q tw pn ki on ot ab be zA zB zC zD zF zT (upZ fo ((25 * k) + p) false) (vp_updL lw ((25 * k) + p) lo_) (vp_updL hg ((25 * k) + p) hi_) (upZ at_ ((25 * k) + p) false) (vp_updL tl ((25 * k) + p) lo_) (vp_updL th ((25 * k) + p) hi_) wo wl wh false lo_ hi_ di su an, rfl, ⟨rfl, by simp only [gI1, gL1, kaB, kaA, kaL, kaH, Bool.false_eq_true, if_false, if_true, if_pos c_79, if_neg c_99, if_neg c_182, if_neg c_193]⟩, rfl, by rw [ht]; exact hP⟩, by rw [← hAe]; exact hS.F ht⟩) (by rw [← hAe]; exact hS.2.2) dX8_keepsAt_344
        · skip
          refine lv_iconst (v := 1) hx hb dX8_keepsAt_196 (by decide) ?_
          refine lv_goto (tgt := 201) hx hb dX8_keepsAt_197 (by decide) ?_
          refine lv_istore (lv' := [(6, .int 1), (5, .int (nI ((25 * o2) + p))), (4, .int (nI ((25 * o1) + p))), (3, .int (nI ((25 * k) + p))), (0, .ref h), (1, .int (nI k)), (2, .int (nI p))]) hx hb dX8_keepsAt_201 hl (by decide) rfl (fun ls hl => ?_)
          refine lv_aload_n hx hb dX8_keepsAt_203 rfl (lv_at hl 4 rfl) ?_
          refine va_get (D := D) (ci := 6) (v := .ref (q 16)) (C := RX8) (T := TX8) (N := 28) hx hb hts in_X8_keepsAt_X8 hown hK.1 hP 0 rfl rfl 16 (by decide) (hts (.fieldLink RX8 54 "NestlimitModel" "areTold" "[Z") (List.mem_of_getElem? (i := 9) rfl)) (fun _ h9 => h9) rfl dX8_keepsAt_204 ?_
          refine lv_iload_n hx hb dX8_keepsAt_207 rfl (lv_at hl 3 rfl) ?_
          refine lv_iload hx hb dX8_keepsAt_208 (lv_at hl 0 rfl) ?_
          refine lv_if_ne (tgt := 220) hx hb dX8_keepsAt_210 (by decide) (fun c_210 => ?_) (fun c_210 => absurd c_210 (by decide))
          refine lv_iconst (v := 1) hx hb dX8_keepsAt_220 (by decide) ?_
          refine lv_goto (tgt := 225) hx hb dX8_keepsAt_221 (by decide) ?_
          refine g_zast (k := (25 * k) + p) (x := true) hx hb hK.1 hP hD hS 15 2 rfl rfl (by omega) (by decide) dX8_keepsAt_225 (fun H locs hP hD hS => ?_)
          have hP : va_P D vwCl (wM y h q tw pn ki on ot ab be zA zB zC zD zF zT (upZ fo ((25 * k) + p) false) (vp_updL lw ((25 * k) + p) lo_) (vp_updL hg ((25 * k) + p) hi_) (upZ at_ ((25 * k) + p) true) tl th wo wl wh false lo_ hi_ di su an) H := hP
          have hD : va_D A (wM y h q tw pn ki on ot ab be zA zB zC zD zF zT (upZ fo ((25 * k) + p) false) (vp_updL lw ((25 * k) + p) lo_) (vp_updL hg ((25 * k) + p) hi_) (upZ at_ ((25 * k) + p) true) tl th wo wl wh false lo_ hi_ di su an) := hD
          refine lv_aload_n hx hb dX8_keepsAt_226 rfl (lv_at hl 4 rfl) ?_
          refine va_get (D := D) (ci := 6) (v := .ref (q 17)) (C := RX8) (T := TX8) (N := 28) hx hb hts in_X8_keepsAt_X8 hown hK.1 hP 0 rfl rfl 17 (by decide) (hts (.fieldLink RX8 57 "NestlimitModel" "toldLow" "[J") (List.mem_of_getElem? (i := 10) rfl)) (fun _ h9 => h9) rfl dX8_keepsAt_227 ?_
          refine lv_iload_n hx hb dX8_keepsAt_230 rfl (lv_at hl 3 rfl) ?_
          refine lv_iload hx hb dX8_keepsAt_231 (lv_at hl 0 rfl) ?_
          refine lv_if_ne (tgt := 243) hx hb dX8_keepsAt_233 (by decide) (fun c_233 => ?_) (fun c_233 => absurd c_233 (by decide))
          refine lv_aload_n hx hb dX8_keepsAt_243 rfl (lv_at hl 4 rfl) ?_
          refine va_get (D := D) (ci := 6) (v := .int (gB false)) (C := RX8) (T := TX8) (N := 28) hx hb hts in_X8_keepsAt_X8 hown hK.1 hP 0 rfl rfl 22 (by decide) (hts (.fieldLink RX8 92 "NestlimitModel" "is" "Z") (List.mem_of_getElem? (i := 4) rfl)) (fun _ h9 => h9) rfl dX8_keepsAt_244 ?_
          refine g_beq (tgt := 272) hx hb dX8_keepsAt_247 (by decide) (fun c_247 => ?_) (fun c_247 => absurd c_247 (by decide))
          refine lv_ldc2 (v := 2) hx hb hown (hts (.constantLong RX8 137 (2)) (List.mem_of_getElem? (i := 11) rfl)) dX8_keepsAt_272 ?_
          refine lv_aload_n hx hb dX8_keepsAt_275 rfl (lv_at hl 4 rfl) ?_
          refine va_get (D := D) (ci := 6) (v := .ref (q 17)) (C := RX8) (T := TX8) (N := 28) hx hb hts in_X8_keepsAt_X8 hown hK.1 hP 0 rfl rfl 17 (by decide) (hts (.fieldLink RX8 57 "NestlimitModel" "toldLow" "[J") (List.mem_of_getElem? (i := 10) rfl)) (fun _ h9 => h9) rfl dX8_keepsAt_276 ?_
          refine lv_iload_n hx hb dX8_keepsAt_279 rfl (lv_at hl 3 rfl) ?_
          refine lv_iconst (v := 1) hx hb dX8_keepsAt_280 (by decide) ?_
          refine lv_isub hx hb dX8_keepsAt_281 ?_
          refine g_topi (y := nI ((25 * k) + p - 1)) (pk_sub (a := 25 * k + p) (b := 1) (by omega)) ?_
          refine g_lald (k := (25 * k) + p - 1) hx hb hK.1 hP 16 1 rfl rfl (by omega) (by decide) dX8_keepsAt_282 ?_
          refine lv_lmul hx hb dX8_keepsAt_283 ?_
          refine g_last (k := (25 * k) + p) (x := 2 * (tl ((25 * k) + p - 1))) hx hb hK.1 hP hD hS 16 1 rfl rfl (by omega) (by decide) dX8_keepsAt_284 (fun H locs hP hD hS => ?_)
          have hP : va_P D vwCl (wM y h q tw pn ki on ot ab be zA zB zC zD zF zT (upZ fo ((25 * k) + p) false) (vp_updL lw ((25 * k) + p) lo_) (vp_updL hg ((25 * k) + p) hi_) (upZ at_ ((25 * k) + p) true) (vp_updL tl ((25 * k) + p) (2 * (tl ((25 * k) + p - 1)))) th wo wl wh false lo_ hi_ di su an) H := hP
          have hD : va_D A (wM y h q tw pn ki on ot ab be zA zB zC zD zF zT (upZ fo ((25 * k) + p) false) (vp_updL lw ((25 * k) + p) lo_) (vp_updL hg ((25 * k) + p) hi_) (upZ at_ ((25 * k) + p) true) (vp_updL tl ((25 * k) + p) (2 * (tl ((25 * k) + p - 1)))) th wo wl wh false lo_ hi_ di su an) := hD
          refine lv_aload_n hx hb dX8_keepsAt_285 rfl (lv_at hl 4 rfl) ?_
          refine va_get (D := D) (ci := 6) (v := .ref (q 18)) (C := RX8) (T := TX8) (N := 28) hx hb hts in_X8_keepsAt_X8 hown hK.1 hP 0 rfl rfl 18 (by decide) (hts (.fieldLink RX8 60 "NestlimitModel" "toldHigh" "[J") (List.mem_of_getElem? (i := 12) rfl)) (fun _ h9 => h9) rfl dX8_keepsAt_286 ?_
          refine lv_iload_n hx hb dX8_keepsAt_289 rfl (lv_at hl 3 rfl) ?_
          refine lv_iload hx hb dX8_keepsAt_290 (lv_at hl 0 rfl) ?_
          refine lv_if_ne (tgt := 302) hx hb dX8_keepsAt_292 (by decide) (fun c_292 => ?_) (fun c_292 => absurd c_292 (by decide))
          refine lv_aload_n hx hb dX8_keepsAt_302 rfl (lv_at hl 4 rfl) ?_
          refine va_get (D := D) (ci := 6) (v := .int (gB false)) (C := RX8) (T := TX8) (N := 28) hx hb hts in_X8_keepsAt_X8 hown hK.1 hP 0 rfl rfl 22 (by decide) (hts (.fieldLink RX8 92 "NestlimitModel" "is" "Z") (List.mem_of_getElem? (i := 4) rfl)) (fun _ h9 => h9) rfl dX8_keepsAt_303 ?_
          refine g_beq (tgt := 331) hx hb dX8_keepsAt_306 (by decide) (fun c_306 => ?_) (fun c_306 => absurd c_306 (by decide))
          refine lv_ldc2 (v := 2) hx hb hown (hts (.constantLong RX8 137 (2)) (List.mem_of_getElem? (i := 11) rfl)) dX8_keepsAt_331 ?_
          refine lv_aload_n hx hb dX8_keepsAt_334 rfl (lv_at hl 4 rfl) ?_
          refine va_get (D := D) (ci := 6) (v := .ref (q 18)) (C := RX8) (T := TX8) (N := 28) hx hb hts in_X8_keepsAt_X8 hown hK.1 hP 0 rfl rfl 18 (by decide) (hts (.fieldLink RX8 60 "NestlimitModel" "toldHigh" "[J") (List.mem_of_getElem? (i := 12) rfl)) (fun _ h9 => h9) rfl dX8_keepsAt_335 ?_
          refine lv_iload_n hx hb dX8_keepsAt_338 rfl (lv_at hl 3 rfl) ?_
          refine lv_iconst (v := 1) hx hb dX8_keepsAt_339 (by decide) ?_
          refine lv_isub hx hb dX8_keepsAt_340 ?_
          refine g_topi (y := nI ((25 * k) + p - 1)) (pk_sub (a := 25 * k + p) (b := 1) (by omega)) ?_
          refine g_lald (k := (25 * k) + p - 1) hx hb hK.1 hP 17 1 rfl rfl (by omega) (by decide) dX8_keepsAt_341 ?_
          refine lv_lmul hx hb dX8_keepsAt_342 ?_
          refine g_last (k := (25 * k) + p) (x := 2 * (th ((25 * k) + p - 1))) hx hb hK.1 hP hD hS 17 1 rfl rfl (by omega) (by decide) dX8_keepsAt_343 (fun H locs hP hD hS => ?_)
          have hP : va_P D vwCl (wM y h q tw pn ki on ot ab be zA zB zC zD zF zT (upZ fo ((25 * k) + p) false) (vp_updL lw ((25 * k) + p) lo_) (vp_updL hg ((25 * k) + p) hi_) (upZ at_ ((25 * k) + p) true) (vp_updL tl ((25 * k) + p) (2 * (tl ((25 * k) + p - 1)))) (vp_updL th ((25 * k) + p) (2 * (th ((25 * k) + p - 1)))) wo wl wh false lo_ hi_ di su an) H := hP
          have hD : va_D A (wM y h q tw pn ki on ot ab be zA zB zC zD zF zT (upZ fo ((25 * k) + p) false) (vp_updL lw ((25 * k) + p) lo_) (vp_updL hg ((25 * k) + p) hi_) (upZ at_ ((25 * k) + p) true) (vp_updL tl ((25 * k) + p) (2 * (tl ((25 * k) + p - 1)))) (vp_updL th ((25 * k) + p) (2 * (th ((25 * k) + p - 1)))) wo wl wh false lo_ hi_ di su an) := hD
          exact W.vret hx hb hr (fun t ht hW => ⟨⟨none, wM y h q tw pn ki on ot ab be zA zB zC zD zF zT (upZ fo ((25 * k) + p) false) (vp_updL lw ((25 * k) + p) lo_) (vp_updL hg ((25 * k) + p) hi_) (upZ at_ ((25 * k) + p) true) (vp_updL tl ((25 * k) + p) (2 * (tl ((25 * k) + p - 1)))) (vp_updL th ((25 * k) + p) (2 * (th ((25 * k) + p - 1)))) wo wl wh false lo_ hi_ di su an, rfl, ⟨rfl, by simp only [gI1, gL1, kaB, kaA, kaL, kaH, Bool.false_eq_true, if_false, if_true, if_pos c_79, if_neg c_99, if_neg c_182, if_pos c_193]⟩, rfl, by rw [ht]; exact hP⟩, by rw [← hAe]; exact hS.F ht⟩) (by rw [← hAe]; exact hS.2.2) dX8_keepsAt_344
    · skip
      refine lv_iconst (v := 1) hx hb dX8_keepsAt_102 (by decide) ?_
      refine lv_goto (tgt := 107) hx hb dX8_keepsAt_103 (by decide) ?_
      refine va_put (D := D) (ci := 6) (v := .int (gB true)) (ty := .boolean) (C := RX8) (T := TX8) (N := 28) hx hb hts in_X8_keepsAt_X8 tyX8 tyX8_ok nmX8 hown hK.1 hP hD hS 0 rfl rfl 22 (by decide) (hts (.fieldLink RX8 92 "NestlimitModel" "is" "Z") (List.mem_of_getElem? (i := 4) rfl)) (fun _ h9 => h9) rfl (by decide +kernel) (gB_n _) (gB_f _) (Nat.le_of_ble_eq_true rfl) dX8_keepsAt_107 (fun H locs hP hD hS => ?_)
      have hP : va_P D vwCl (wM y h q tw pn ki on ot ab be zA zB zC zD zF zT fo lw hg at_ tl th wo wl wh true lo_ hi_ di su an) H := hP
      have hD : va_D A (wM y h q tw pn ki on ot ab be zA zB zC zD zF zT fo lw hg at_ tl th wo wl wh true lo_ hi_ di su an) := hD
      refine lv_aload_n hx hb dX8_keepsAt_110 rfl (lv_at hl 3 rfl) ?_
      refine va_get (D := D) (ci := 6) (v := .int (gB true)) (C := RX8) (T := TX8) (N := 28) hx hb hts in_X8_keepsAt_X8 hown hK.1 hP 0 rfl rfl 22 (by decide) (hts (.fieldLink RX8 92 "NestlimitModel" "is" "Z") (List.mem_of_getElem? (i := 4) rfl)) (fun _ h9 => h9) rfl dX8_keepsAt_111 ?_
      refine g_beq (tgt := 151) hx hb dX8_keepsAt_114 (by decide) (fun c_114 => absurd c_114 (by decide)) (fun c_114 => ?_)
      refine lv_aload_n hx hb dX8_keepsAt_117 rfl (lv_at hl 3 rfl) ?_
      refine lv_iload_n hx hb dX8_keepsAt_118 rfl (lv_at hl 4 rfl) ?_
      refine lv_iload_n hx hb dX8_keepsAt_119 rfl (lv_at hl 5 rfl) ?_
      refine lv_aload_n hx hb dX8_keepsAt_120 rfl (lv_at hl 3 rfl) ?_
      refine va_get (D := D) (ci := 6) (v := .ref (q 14)) (C := RX8) (T := TX8) (N := 28) hx hb hts in_X8_keepsAt_X8 hown hK.1 hP 0 rfl rfl 14 (by decide) (hts (.fieldLink RX8 47 "NestlimitModel" "lows" "[J") (List.mem_of_getElem? (i := 5) rfl)) (fun _ h9 => h9) rfl dX8_keepsAt_121 ?_
      refine lv_iload hx hb dX8_keepsAt_124 (lv_at hl 1 rfl) ?_
      refine g_lald (k := (25 * o1) + p) hx hb hK.1 hP 13 1 rfl rfl (by omega) (by decide) dX8_keepsAt_126 ?_
      refine lv_aload_n hx hb dX8_keepsAt_127 rfl (lv_at hl 3 rfl) ?_
      refine va_get (D := D) (ci := 6) (v := .ref (q 15)) (C := RX8) (T := TX8) (N := 28) hx hb hts in_X8_keepsAt_X8 hown hK.1 hP 0 rfl rfl 15 (by decide) (hts (.fieldLink RX8 51 "NestlimitModel" "highs" "[J") (List.mem_of_getElem? (i := 6) rfl)) (fun _ h9 => h9) rfl dX8_keepsAt_128 ?_
      refine lv_iload hx hb dX8_keepsAt_131 (lv_at hl 1 rfl) ?_
      refine g_lald (k := (25 * o1) + p) hx hb hK.1 hP 14 1 rfl rfl (by omega) (by decide) dX8_keepsAt_133 ?_
      refine lv_aload_n hx hb dX8_keepsAt_134 rfl (lv_at hl 3 rfl) ?_
      refine va_get (D := D) (ci := 6) (v := .ref (q 14)) (C := RX8) (T := TX8) (N := 28) hx hb hts in_X8_keepsAt_X8 hown hK.1 hP 0 rfl rfl 14 (by decide) (hts (.fieldLink RX8 47 "NestlimitModel" "lows" "[J") (List.mem_of_getElem? (i := 5) rfl)) (fun _ h9 => h9) rfl dX8_keepsAt_135 ?_
      refine lv_iload hx hb dX8_keepsAt_138 (lv_at hl 0 rfl) ?_
      refine g_lald (k := (25 * o2) + p) hx hb hK.1 hP 13 1 rfl rfl (by omega) (by decide) dX8_keepsAt_140 ?_
      refine lv_aload_n hx hb dX8_keepsAt_141 rfl (lv_at hl 3 rfl) ?_
      refine va_get (D := D) (ci := 6) (v := .ref (q 15)) (C := RX8) (T := TX8) (N := 28) hx hb hts in_X8_keepsAt_X8 hown hK.1 hP 0 rfl rfl 15 (by decide) (hts (.fieldLink RX8 51 "NestlimitModel" "highs" "[J") (List.mem_of_getElem? (i := 6) rfl)) (fun _ h9 => h9) rfl dX8_keepsAt_142 ?_
      refine lv_iload hx hb dX8_keepsAt_145 (lv_at hl 0 rfl) ?_
      refine g_lald (k := (25 * o2) + p) hx hb hK.1 hP 14 1 rfl rfl (by omega) (by decide) dX8_keepsAt_147 ?_
      refine g_callAv (w0 := wM y h q tw pn ki on ot ab be zA zB zC zD zF zT fo lw hg at_ tl th wo wl wh I1 L1 H1 di su an) (va_runV (As := [.int (nI k), .int (nI p), .long (lw ((25 * o1) + p)), .long (hg ((25 * o1) + p)), .long (lw ((25 * o2) + p)), .long (hg ((25 * o2) + p))]) (rest := []) ⟨hx, hb, hml, hown, hts⟩ (c_X8_makesV l D y H.size h q tw pn ki on ot ab be zA zB zC zD zF zT fo lw hg at_ tl th wo wl wh true lo_ hi_ di su an kd k p (lw ((25 * o1) + p)) (hg ((25 * o1) + p)) (lw ((25 * o2) + p)) (hg ((25 * o2) + p)) I1 L1 H1 hk hp hkd hki (hok c_79 c_99) (hI1 c_79 c_99) (hL1 c_79 c_99) (hH1 c_79 c_99)) (cwV 6 hts gX8_keepsAt_X8_makes rfl rfl rfl (by decide +kernel) ⟨Nat.le_of_ble_eq_true rfl, Nat.le_of_ble_eq_true rfl⟩) (gP_VA hP hD hK 0 rfl rfl) rfl rfl hl.1 rfl (lv_room (Nat.le_of_ble_eq_true rfl)) dX8_keepsAt_148 ⟨Nat.zero_le _, Nat.zero_le _⟩) hP hD hS hA rfl (fun H locs hP hD hS => ?_)
      refine lv_aload_n hx hb dX8_keepsAt_151 rfl (lv_at hl 3 rfl) ?_
      refine va_get (D := D) (ci := 6) (v := .ref (q 13)) (C := RX8) (T := TX8) (N := 28) hx hb hts in_X8_keepsAt_X8 hown hK.1 hP 0 rfl rfl 13 (by decide) (hts (.fieldLink RX8 43 "NestlimitModel" "found" "[Z") (List.mem_of_getElem? (i := 3) rfl)) (fun _ h9 => h9) rfl dX8_keepsAt_152 ?_
      refine lv_iload_n hx hb dX8_keepsAt_155 rfl (lv_at hl 2 rfl) ?_
      refine lv_aload_n hx hb dX8_keepsAt_156 rfl (lv_at hl 3 rfl) ?_
      refine va_get (D := D) (ci := 6) (v := .int (gB I1)) (C := RX8) (T := TX8) (N := 28) hx hb hts in_X8_keepsAt_X8 hown hK.1 hP 0 rfl rfl 22 (by decide) (hts (.fieldLink RX8 92 "NestlimitModel" "is" "Z") (List.mem_of_getElem? (i := 4) rfl)) (fun _ h9 => h9) rfl dX8_keepsAt_157 ?_
      refine g_zast (k := (25 * k) + p) (x := I1) hx hb hK.1 hP hD hS 12 2 rfl rfl (by omega) (by decide) dX8_keepsAt_160 (fun H locs hP hD hS => ?_)
      have hP : va_P D vwCl (wM y h q tw pn ki on ot ab be zA zB zC zD zF zT (upZ fo ((25 * k) + p) I1) lw hg at_ tl th wo wl wh I1 L1 H1 di su an) H := hP
      have hD : va_D A (wM y h q tw pn ki on ot ab be zA zB zC zD zF zT (upZ fo ((25 * k) + p) I1) lw hg at_ tl th wo wl wh I1 L1 H1 di su an) := hD
      refine lv_aload_n hx hb dX8_keepsAt_161 rfl (lv_at hl 3 rfl) ?_
      refine va_get (D := D) (ci := 6) (v := .ref (q 14)) (C := RX8) (T := TX8) (N := 28) hx hb hts in_X8_keepsAt_X8 hown hK.1 hP 0 rfl rfl 14 (by decide) (hts (.fieldLink RX8 47 "NestlimitModel" "lows" "[J") (List.mem_of_getElem? (i := 5) rfl)) (fun _ h9 => h9) rfl dX8_keepsAt_162 ?_
      refine lv_iload_n hx hb dX8_keepsAt_165 rfl (lv_at hl 2 rfl) ?_
      refine lv_aload_n hx hb dX8_keepsAt_166 rfl (lv_at hl 3 rfl) ?_
      refine va_get (D := D) (ci := 6) (v := .long L1) (C := RX8) (T := TX8) (N := 28) hx hb hts in_X8_keepsAt_X8 hown hK.1 hP 0 rfl rfl 23 (by decide) (hts (.fieldLink RX8 96 "NestlimitModel" "low" "J") (List.mem_of_getElem? (i := 7) rfl)) (fun _ h9 => h9) rfl dX8_keepsAt_167 ?_
      refine g_last (k := (25 * k) + p) (x := L1) hx hb hK.1 hP hD hS 13 1 rfl rfl (by omega) (by decide) dX8_keepsAt_170 (fun H locs hP hD hS => ?_)
      have hP : va_P D vwCl (wM y h q tw pn ki on ot ab be zA zB zC zD zF zT (upZ fo ((25 * k) + p) I1) (vp_updL lw ((25 * k) + p) L1) hg at_ tl th wo wl wh I1 L1 H1 di su an) H := hP
      have hD : va_D A (wM y h q tw pn ki on ot ab be zA zB zC zD zF zT (upZ fo ((25 * k) + p) I1) (vp_updL lw ((25 * k) + p) L1) hg at_ tl th wo wl wh I1 L1 H1 di su an) := hD
      refine lv_aload_n hx hb dX8_keepsAt_171 rfl (lv_at hl 3 rfl) ?_
      refine va_get (D := D) (ci := 6) (v := .ref (q 15)) (C := RX8) (T := TX8) (N := 28) hx hb hts in_X8_keepsAt_X8 hown hK.1 hP 0 rfl rfl 15 (by decide) (hts (.fieldLink RX8 51 "NestlimitModel" "highs" "[J") (List.mem_of_getElem? (i := 6) rfl)) (fun _ h9 => h9) rfl dX8_keepsAt_172 ?_
      refine lv_iload_n hx hb dX8_keepsAt_175 rfl (lv_at hl 2 rfl) ?_
      refine lv_aload_n hx hb dX8_keepsAt_176 rfl (lv_at hl 3 rfl) ?_
      refine va_get (D := D) (ci := 6) (v := .long H1) (C := RX8) (T := TX8) (N := 28) hx hb hts in_X8_keepsAt_X8 hown hK.1 hP 0 rfl rfl 24 (by decide) (hts (.fieldLink RX8 100 "NestlimitModel" "high" "J") (List.mem_of_getElem? (i := 8) rfl)) (fun _ h9 => h9) rfl dX8_keepsAt_177 ?_
      refine g_last (k := (25 * k) + p) (x := H1) hx hb hK.1 hP hD hS 14 1 rfl rfl (by omega) (by decide) dX8_keepsAt_180 (fun H locs hP hD hS => ?_)
      have hP : va_P D vwCl (wM y h q tw pn ki on ot ab be zA zB zC zD zF zT (upZ fo ((25 * k) + p) I1) (vp_updL lw ((25 * k) + p) L1) (vp_updL hg ((25 * k) + p) H1) at_ tl th wo wl wh I1 L1 H1 di su an) H := hP
      have hD : va_D A (wM y h q tw pn ki on ot ab be zA zB zC zD zF zT (upZ fo ((25 * k) + p) I1) (vp_updL lw ((25 * k) + p) L1) (vp_updL hg ((25 * k) + p) H1) at_ tl th wo wl wh I1 L1 H1 di su an) := hD
      refine lv_iload_n hx hb dX8_keepsAt_181 rfl (lv_at hl 5 rfl) ?_
      refine lv_if_le (tgt := 200) hx hb dX8_keepsAt_182 (by decide) (fun c_182 => ?_) (fun c_182 => ?_)
      · skip
        refine lv_iconst (v := 0) hx hb dX8_keepsAt_200 (by decide) ?_
        refine lv_istore (lv' := [(6, .int 0), (5, .int (nI ((25 * o2) + p))), (4, .int (nI ((25 * o1) + p))), (3, .int (nI ((25 * k) + p))), (0, .ref h), (1, .int (nI k)), (2, .int (nI p))]) hx hb dX8_keepsAt_201 hl (by decide) rfl (fun ls hl => ?_)
        refine lv_aload_n hx hb dX8_keepsAt_203 rfl (lv_at hl 4 rfl) ?_
        refine va_get (D := D) (ci := 6) (v := .ref (q 16)) (C := RX8) (T := TX8) (N := 28) hx hb hts in_X8_keepsAt_X8 hown hK.1 hP 0 rfl rfl 16 (by decide) (hts (.fieldLink RX8 54 "NestlimitModel" "areTold" "[Z") (List.mem_of_getElem? (i := 9) rfl)) (fun _ h9 => h9) rfl dX8_keepsAt_204 ?_
        refine lv_iload_n hx hb dX8_keepsAt_207 rfl (lv_at hl 3 rfl) ?_
        refine lv_iload hx hb dX8_keepsAt_208 (lv_at hl 0 rfl) ?_
        refine lv_if_ne (tgt := 220) hx hb dX8_keepsAt_210 (by decide) (fun c_210 => absurd c_210 (by decide)) (fun c_210 => ?_)
        refine lv_aload_n hx hb dX8_keepsAt_213 rfl (lv_at hl 4 rfl) ?_
        refine va_get (D := D) (ci := 6) (v := .int (gB I1)) (C := RX8) (T := TX8) (N := 28) hx hb hts in_X8_keepsAt_X8 hown hK.1 hP 0 rfl rfl 22 (by decide) (hts (.fieldLink RX8 92 "NestlimitModel" "is" "Z") (List.mem_of_getElem? (i := 4) rfl)) (fun _ h9 => h9) rfl dX8_keepsAt_214 ?_
        refine g_beq (tgt := 224) hx hb dX8_keepsAt_217 (by decide) (fun c_217 => ?_) (fun c_217 => ?_)
        · skip
          refine lv_iconst (v := 0) hx hb dX8_keepsAt_224 (by decide) ?_
          refine g_zast (k := (25 * k) + p) (x := false) hx hb hK.1 hP hD hS 15 2 rfl rfl (by omega) (by decide) dX8_keepsAt_225 (fun H locs hP hD hS => ?_)
          have hP : va_P D vwCl (wM y h q tw pn ki on ot ab be zA zB zC zD zF zT (upZ fo ((25 * k) + p) I1) (vp_updL lw ((25 * k) + p) L1) (vp_updL hg ((25 * k) + p) H1) (upZ at_ ((25 * k) + p) false) tl th wo wl wh I1 L1 H1 di su an) H := hP
          have hD : va_D A (wM y h q tw pn ki on ot ab be zA zB zC zD zF zT (upZ fo ((25 * k) + p) I1) (vp_updL lw ((25 * k) + p) L1) (vp_updL hg ((25 * k) + p) H1) (upZ at_ ((25 * k) + p) false) tl th wo wl wh I1 L1 H1 di su an) := hD
          refine lv_aload_n hx hb dX8_keepsAt_226 rfl (lv_at hl 4 rfl) ?_
          refine va_get (D := D) (ci := 6) (v := .ref (q 17)) (C := RX8) (T := TX8) (N := 28) hx hb hts in_X8_keepsAt_X8 hown hK.1 hP 0 rfl rfl 17 (by decide) (hts (.fieldLink RX8 57 "NestlimitModel" "toldLow" "[J") (List.mem_of_getElem? (i := 10) rfl)) (fun _ h9 => h9) rfl dX8_keepsAt_227 ?_
          refine lv_iload_n hx hb dX8_keepsAt_230 rfl (lv_at hl 3 rfl) ?_
          refine lv_iload hx hb dX8_keepsAt_231 (lv_at hl 0 rfl) ?_
          refine lv_if_ne (tgt := 243) hx hb dX8_keepsAt_233 (by decide) (fun c_233 => absurd c_233 (by decide)) (fun c_233 => ?_)
          refine lv_aload_n hx hb dX8_keepsAt_236 rfl (lv_at hl 4 rfl) ?_
          refine va_get (D := D) (ci := 6) (v := .long L1) (C := RX8) (T := TX8) (N := 28) hx hb hts in_X8_keepsAt_X8 hown hK.1 hP 0 rfl rfl 23 (by decide) (hts (.fieldLink RX8 96 "NestlimitModel" "low" "J") (List.mem_of_getElem? (i := 7) rfl)) (fun _ h9 => h9) rfl dX8_keepsAt_237 ?_
          refine lv_goto (tgt := 284) hx hb dX8_keepsAt_240 (by decide) ?_
          refine g_last (k := (25 * k) + p) (x := L1) hx hb hK.1 hP hD hS 16 1 rfl rfl (by omega) (by decide) dX8_keepsAt_284 (fun H locs hP hD hS => ?_)
          have hP : va_P D vwCl (wM y h q tw pn ki on ot ab be zA zB zC zD zF zT (upZ fo ((25 * k) + p) I1) (vp_updL lw ((25 * k) + p) L1) (vp_updL hg ((25 * k) + p) H1) (upZ at_ ((25 * k) + p) false) (vp_updL tl ((25 * k) + p) L1) th wo wl wh I1 L1 H1 di su an) H := hP
          have hD : va_D A (wM y h q tw pn ki on ot ab be zA zB zC zD zF zT (upZ fo ((25 * k) + p) I1) (vp_updL lw ((25 * k) + p) L1) (vp_updL hg ((25 * k) + p) H1) (upZ at_ ((25 * k) + p) false) (vp_updL tl ((25 * k) + p) L1) th wo wl wh I1 L1 H1 di su an) := hD
          refine lv_aload_n hx hb dX8_keepsAt_285 rfl (lv_at hl 4 rfl) ?_
          refine va_get (D := D) (ci := 6) (v := .ref (q 18)) (C := RX8) (T := TX8) (N := 28) hx hb hts in_X8_keepsAt_X8 hown hK.1 hP 0 rfl rfl 18 (by decide) (hts (.fieldLink RX8 60 "NestlimitModel" "toldHigh" "[J") (List.mem_of_getElem? (i := 12) rfl)) (fun _ h9 => h9) rfl dX8_keepsAt_286 ?_
          refine lv_iload_n hx hb dX8_keepsAt_289 rfl (lv_at hl 3 rfl) ?_
          refine lv_iload hx hb dX8_keepsAt_290 (lv_at hl 0 rfl) ?_
          refine lv_if_ne (tgt := 302) hx hb dX8_keepsAt_292 (by decide) (fun c_292 => absurd c_292 (by decide)) (fun c_292 => ?_)
          refine lv_aload_n hx hb dX8_keepsAt_295 rfl (lv_at hl 4 rfl) ?_
          refine va_get (D := D) (ci := 6) (v := .long H1) (C := RX8) (T := TX8) (N := 28) hx hb hts in_X8_keepsAt_X8 hown hK.1 hP 0 rfl rfl 24 (by decide) (hts (.fieldLink RX8 100 "NestlimitModel" "high" "J") (List.mem_of_getElem? (i := 8) rfl)) (fun _ h9 => h9) rfl dX8_keepsAt_296 ?_
          refine lv_goto (tgt := 343) hx hb dX8_keepsAt_299 (by decide) ?_
          refine g_last (k := (25 * k) + p) (x := H1) hx hb hK.1 hP hD hS 17 1 rfl rfl (by omega) (by decide) dX8_keepsAt_343 (fun H locs hP hD hS => ?_)
          have hP : va_P D vwCl (wM y h q tw pn ki on ot ab be zA zB zC zD zF zT (upZ fo ((25 * k) + p) I1) (vp_updL lw ((25 * k) + p) L1) (vp_updL hg ((25 * k) + p) H1) (upZ at_ ((25 * k) + p) false) (vp_updL tl ((25 * k) + p) L1) (vp_updL th ((25 * k) + p) H1) wo wl wh I1 L1 H1 di su an) H := hP
          have hD : va_D A (wM y h q tw pn ki on ot ab be zA zB zC zD zF zT (upZ fo ((25 * k) + p) I1) (vp_updL lw ((25 * k) + p) L1) (vp_updL hg ((25 * k) + p) H1) (upZ at_ ((25 * k) + p) false) (vp_updL tl ((25 * k) + p) L1) (vp_updL th ((25 * k) + p) H1) wo wl wh I1 L1 H1 di su an) := hD
          exact W.vret hx hb hr (fun t ht hW => ⟨⟨none, wM y h q tw pn ki on ot ab be zA zB zC zD zF zT (upZ fo ((25 * k) + p) I1) (vp_updL lw ((25 * k) + p) L1) (vp_updL hg ((25 * k) + p) H1) (upZ at_ ((25 * k) + p) false) (vp_updL tl ((25 * k) + p) L1) (vp_updL th ((25 * k) + p) H1) wo wl wh I1 L1 H1 di su an, rfl, ⟨rfl, by simp only [gI1, gL1, kaB, kaA, kaL, kaH, Bool.false_eq_true, if_false, if_true, if_pos c_79, if_pos c_99, if_pos c_182, if_neg c_217]⟩, rfl, by rw [ht]; exact hP⟩, by rw [← hAe]; exact hS.F ht⟩) (by rw [← hAe]; exact hS.2.2) dX8_keepsAt_344
        · skip
          refine lv_iconst (v := 1) hx hb dX8_keepsAt_220 (by decide) ?_
          refine lv_goto (tgt := 225) hx hb dX8_keepsAt_221 (by decide) ?_
          refine g_zast (k := (25 * k) + p) (x := true) hx hb hK.1 hP hD hS 15 2 rfl rfl (by omega) (by decide) dX8_keepsAt_225 (fun H locs hP hD hS => ?_)
          have hP : va_P D vwCl (wM y h q tw pn ki on ot ab be zA zB zC zD zF zT (upZ fo ((25 * k) + p) I1) (vp_updL lw ((25 * k) + p) L1) (vp_updL hg ((25 * k) + p) H1) (upZ at_ ((25 * k) + p) true) tl th wo wl wh I1 L1 H1 di su an) H := hP
          have hD : va_D A (wM y h q tw pn ki on ot ab be zA zB zC zD zF zT (upZ fo ((25 * k) + p) I1) (vp_updL lw ((25 * k) + p) L1) (vp_updL hg ((25 * k) + p) H1) (upZ at_ ((25 * k) + p) true) tl th wo wl wh I1 L1 H1 di su an) := hD
          refine lv_aload_n hx hb dX8_keepsAt_226 rfl (lv_at hl 4 rfl) ?_
          refine va_get (D := D) (ci := 6) (v := .ref (q 17)) (C := RX8) (T := TX8) (N := 28) hx hb hts in_X8_keepsAt_X8 hown hK.1 hP 0 rfl rfl 17 (by decide) (hts (.fieldLink RX8 57 "NestlimitModel" "toldLow" "[J") (List.mem_of_getElem? (i := 10) rfl)) (fun _ h9 => h9) rfl dX8_keepsAt_227 ?_
          refine lv_iload_n hx hb dX8_keepsAt_230 rfl (lv_at hl 3 rfl) ?_
          refine lv_iload hx hb dX8_keepsAt_231 (lv_at hl 0 rfl) ?_
          refine lv_if_ne (tgt := 243) hx hb dX8_keepsAt_233 (by decide) (fun c_233 => absurd c_233 (by decide)) (fun c_233 => ?_)
          refine lv_aload_n hx hb dX8_keepsAt_236 rfl (lv_at hl 4 rfl) ?_
          refine va_get (D := D) (ci := 6) (v := .long L1) (C := RX8) (T := TX8) (N := 28) hx hb hts in_X8_keepsAt_X8 hown hK.1 hP 0 rfl rfl 23 (by decide) (hts (.fieldLink RX8 96 "NestlimitModel" "low" "J") (List.mem_of_getElem? (i := 7) rfl)) (fun _ h9 => h9) rfl dX8_keepsAt_237 ?_
          refine lv_goto (tgt := 284) hx hb dX8_keepsAt_240 (by decide) ?_
          refine g_last (k := (25 * k) + p) (x := L1) hx hb hK.1 hP hD hS 16 1 rfl rfl (by omega) (by decide) dX8_keepsAt_284 (fun H locs hP hD hS => ?_)
          have hP : va_P D vwCl (wM y h q tw pn ki on ot ab be zA zB zC zD zF zT (upZ fo ((25 * k) + p) I1) (vp_updL lw ((25 * k) + p) L1) (vp_updL hg ((25 * k) + p) H1) (upZ at_ ((25 * k) + p) true) (vp_updL tl ((25 * k) + p) L1) th wo wl wh I1 L1 H1 di su an) H := hP
          have hD : va_D A (wM y h q tw pn ki on ot ab be zA zB zC zD zF zT (upZ fo ((25 * k) + p) I1) (vp_updL lw ((25 * k) + p) L1) (vp_updL hg ((25 * k) + p) H1) (upZ at_ ((25 * k) + p) true) (vp_updL tl ((25 * k) + p) L1) th wo wl wh I1 L1 H1 di su an) := hD
          refine lv_aload_n hx hb dX8_keepsAt_285 rfl (lv_at hl 4 rfl) ?_
          refine va_get (D := D) (ci := 6) (v := .ref (q 18)) (C := RX8) (T := TX8) (N := 28) hx hb hts in_X8_keepsAt_X8 hown hK.1 hP 0 rfl rfl 18 (by decide) (hts (.fieldLink RX8 60 "NestlimitModel" "toldHigh" "[J") (List.mem_of_getElem? (i := 12) rfl)) (fun _ h9 => h9) rfl dX8_keepsAt_286 ?_
          refine lv_iload_n hx hb dX8_keepsAt_289 rfl (lv_at hl 3 rfl) ?_
          refine lv_iload hx hb dX8_keepsAt_290 (lv_at hl 0 rfl) ?_
          refine lv_if_ne (tgt := 302) hx hb dX8_keepsAt_292 (by decide) (fun c_292 => absurd c_292 (by decide)) (fun c_292 => ?_)
          refine lv_aload_n hx hb dX8_keepsAt_295 rfl (lv_at hl 4 rfl) ?_
          refine va_get (D := D) (ci := 6) (v := .long H1) (C := RX8) (T := TX8) (N := 28) hx hb hts in_X8_keepsAt_X8 hown hK.1 hP 0 rfl rfl 24 (by decide) (hts (.fieldLink RX8 100 "NestlimitModel" "high" "J") (List.mem_of_getElem? (i := 8) rfl)) (fun _ h9 => h9) rfl dX8_keepsAt_296 ?_
          refine lv_goto (tgt := 343) hx hb dX8_keepsAt_299 (by decide) ?_
          refine g_last (k := (25 * k) + p) (x := H1) hx hb hK.1 hP hD hS 17 1 rfl rfl (by omega) (by decide) dX8_keepsAt_343 (fun H locs hP hD hS => ?_)
          have hP : va_P D vwCl (wM y h q tw pn ki on ot ab be zA zB zC zD zF zT (upZ fo ((25 * k) + p) I1) (vp_updL lw ((25 * k) + p) L1) (vp_updL hg ((25 * k) + p) H1) (upZ at_ ((25 * k) + p) true) (vp_updL tl ((25 * k) + p) L1) (vp_updL th ((25 * k) + p) H1) wo wl wh I1 L1 H1 di su an) H := hP
          have hD : va_D A (wM y h q tw pn ki on ot ab be zA zB zC zD zF zT (upZ fo ((25 * k) + p) I1) (vp_updL lw ((25 * k) + p) L1) (vp_updL hg ((25 * k) + p) H1) (upZ at_ ((25 * k) + p) true) (vp_updL tl ((25 * k) + p) L1) (vp_updL th ((25 * k) + p) H1) wo wl wh I1 L1 H1 di su an) := hD
          exact W.vret hx hb hr (fun t ht hW => ⟨⟨none, wM y h q tw pn ki on ot ab be zA zB zC zD zF zT (upZ fo ((25 * k) + p) I1) (vp_updL lw ((25 * k) + p) L1) (vp_updL hg ((25 * k) + p) H1) (upZ at_ ((25 * k) + p) true) (vp_updL tl ((25 * k) + p) L1) (vp_updL th ((25 * k) + p) H1) wo wl wh I1 L1 H1 di su an, rfl, ⟨rfl, by simp only [gI1, gL1, kaB, kaA, kaL, kaH, Bool.false_eq_true, if_false, if_true, if_pos c_79, if_pos c_99, if_pos c_182, if_pos c_217]⟩, rfl, by rw [ht]; exact hP⟩, by rw [← hAe]; exact hS.F ht⟩) (by rw [← hAe]; exact hS.2.2) dX8_keepsAt_344
      · skip
        have hp1 : 1 ≤ p := g_p1 c_182
        refine lv_aload_n hx hb dX8_keepsAt_185 rfl (lv_at hl 3 rfl) ?_
        refine va_get (D := D) (ci := 6) (v := .ref (q 16)) (C := RX8) (T := TX8) (N := 28) hx hb hts in_X8_keepsAt_X8 hown hK.1 hP 0 rfl rfl 16 (by decide) (hts (.fieldLink RX8 54 "NestlimitModel" "areTold" "[Z") (List.mem_of_getElem? (i := 9) rfl)) (fun _ h9 => h9) rfl dX8_keepsAt_186 ?_
        refine lv_iload_n hx hb dX8_keepsAt_189 rfl (lv_at hl 2 rfl) ?_
        refine lv_iconst (v := 1) hx hb dX8_keepsAt_190 (by decide) ?_
        refine lv_isub hx hb dX8_keepsAt_191 ?_
        refine g_topi (y := nI ((25 * k) + p - 1)) (pk_sub (a := 25 * k + p) (b := 1) (by omega)) ?_
        refine g_zald (k := (25 * k) + p - 1) hx hb hK.1 hP 15 2 rfl rfl (by omega) (by decide) dX8_keepsAt_192 ?_
        refine g_beq (tgt := 200) hx hb dX8_keepsAt_193 (by decide) (fun c_193 => ?_) (fun c_193 => ?_)
        · skip
          refine lv_iconst (v := 0) hx hb dX8_keepsAt_200 (by decide) ?_
          refine lv_istore (lv' := [(6, .int 0), (5, .int (nI ((25 * o2) + p))), (4, .int (nI ((25 * o1) + p))), (3, .int (nI ((25 * k) + p))), (0, .ref h), (1, .int (nI k)), (2, .int (nI p))]) hx hb dX8_keepsAt_201 hl (by decide) rfl (fun ls hl => ?_)
          refine lv_aload_n hx hb dX8_keepsAt_203 rfl (lv_at hl 4 rfl) ?_
          refine va_get (D := D) (ci := 6) (v := .ref (q 16)) (C := RX8) (T := TX8) (N := 28) hx hb hts in_X8_keepsAt_X8 hown hK.1 hP 0 rfl rfl 16 (by decide) (hts (.fieldLink RX8 54 "NestlimitModel" "areTold" "[Z") (List.mem_of_getElem? (i := 9) rfl)) (fun _ h9 => h9) rfl dX8_keepsAt_204 ?_
          refine lv_iload_n hx hb dX8_keepsAt_207 rfl (lv_at hl 3 rfl) ?_
          refine lv_iload hx hb dX8_keepsAt_208 (lv_at hl 0 rfl) ?_
          refine lv_if_ne (tgt := 220) hx hb dX8_keepsAt_210 (by decide) (fun c_210 => absurd c_210 (by decide)) (fun c_210 => ?_)
          refine lv_aload_n hx hb dX8_keepsAt_213 rfl (lv_at hl 4 rfl) ?_
          refine va_get (D := D) (ci := 6) (v := .int (gB I1)) (C := RX8) (T := TX8) (N := 28) hx hb hts in_X8_keepsAt_X8 hown hK.1 hP 0 rfl rfl 22 (by decide) (hts (.fieldLink RX8 92 "NestlimitModel" "is" "Z") (List.mem_of_getElem? (i := 4) rfl)) (fun _ h9 => h9) rfl dX8_keepsAt_214 ?_
          refine g_beq (tgt := 224) hx hb dX8_keepsAt_217 (by decide) (fun c_217 => ?_) (fun c_217 => ?_)
          · skip
            refine lv_iconst (v := 0) hx hb dX8_keepsAt_224 (by decide) ?_
            refine g_zast (k := (25 * k) + p) (x := false) hx hb hK.1 hP hD hS 15 2 rfl rfl (by omega) (by decide) dX8_keepsAt_225 (fun H locs hP hD hS => ?_)
            have hP : va_P D vwCl (wM y h q tw pn ki on ot ab be zA zB zC zD zF zT (upZ fo ((25 * k) + p) I1) (vp_updL lw ((25 * k) + p) L1) (vp_updL hg ((25 * k) + p) H1) (upZ at_ ((25 * k) + p) false) tl th wo wl wh I1 L1 H1 di su an) H := hP
            have hD : va_D A (wM y h q tw pn ki on ot ab be zA zB zC zD zF zT (upZ fo ((25 * k) + p) I1) (vp_updL lw ((25 * k) + p) L1) (vp_updL hg ((25 * k) + p) H1) (upZ at_ ((25 * k) + p) false) tl th wo wl wh I1 L1 H1 di su an) := hD
            refine lv_aload_n hx hb dX8_keepsAt_226 rfl (lv_at hl 4 rfl) ?_
            refine va_get (D := D) (ci := 6) (v := .ref (q 17)) (C := RX8) (T := TX8) (N := 28) hx hb hts in_X8_keepsAt_X8 hown hK.1 hP 0 rfl rfl 17 (by decide) (hts (.fieldLink RX8 57 "NestlimitModel" "toldLow" "[J") (List.mem_of_getElem? (i := 10) rfl)) (fun _ h9 => h9) rfl dX8_keepsAt_227 ?_
            refine lv_iload_n hx hb dX8_keepsAt_230 rfl (lv_at hl 3 rfl) ?_
            refine lv_iload hx hb dX8_keepsAt_231 (lv_at hl 0 rfl) ?_
            refine lv_if_ne (tgt := 243) hx hb dX8_keepsAt_233 (by decide) (fun c_233 => absurd c_233 (by decide)) (fun c_233 => ?_)
            refine lv_aload_n hx hb dX8_keepsAt_236 rfl (lv_at hl 4 rfl) ?_
            refine va_get (D := D) (ci := 6) (v := .long L1) (C := RX8) (T := TX8) (N := 28) hx hb hts in_X8_keepsAt_X8 hown hK.1 hP 0 rfl rfl 23 (by decide) (hts (.fieldLink RX8 96 "NestlimitModel" "low" "J") (List.mem_of_getElem? (i := 7) rfl)) (fun _ h9 => h9) rfl dX8_keepsAt_237 ?_
            refine lv_goto (tgt := 284) hx hb dX8_keepsAt_240 (by decide) ?_
            refine g_last (k := (25 * k) + p) (x := L1) hx hb hK.1 hP hD hS 16 1 rfl rfl (by omega) (by decide) dX8_keepsAt_284 (fun H locs hP hD hS => ?_)
            have hP : va_P D vwCl (wM y h q tw pn ki on ot ab be zA zB zC zD zF zT (upZ fo ((25 * k) + p) I1) (vp_updL lw ((25 * k) + p) L1) (vp_updL hg ((25 * k) + p) H1) (upZ at_ ((25 * k) + p) false) (vp_updL tl ((25 * k) + p) L1) th wo wl wh I1 L1 H1 di su an) H := hP
            have hD : va_D A (wM y h q tw pn ki on ot ab be zA zB zC zD zF zT (upZ fo ((25 * k) + p) I1) (vp_updL lw ((25 * k) + p) L1) (vp_updL hg ((25 * k) + p) H1) (upZ at_ ((25 * k) + p) false) (vp_updL tl ((25 * k) + p) L1) th wo wl wh I1 L1 H1 di su an) := hD
            refine lv_aload_n hx hb dX8_keepsAt_285 rfl (lv_at hl 4 rfl) ?_
            refine va_get (D := D) (ci := 6) (v := .ref (q 18)) (C := RX8) (T := TX8) (N := 28) hx hb hts in_X8_keepsAt_X8 hown hK.1 hP 0 rfl rfl 18 (by decide) (hts (.fieldLink RX8 60 "NestlimitModel" "toldHigh" "[J") (List.mem_of_getElem? (i := 12) rfl)) (fun _ h9 => h9) rfl dX8_keepsAt_286 ?_
            refine lv_iload_n hx hb dX8_keepsAt_289 rfl (lv_at hl 3 rfl) ?_
            refine lv_iload hx hb dX8_keepsAt_290 (lv_at hl 0 rfl) ?_
            refine lv_if_ne (tgt := 302) hx hb dX8_keepsAt_292 (by decide) (fun c_292 => absurd c_292 (by decide)) (fun c_292 => ?_)
            refine lv_aload_n hx hb dX8_keepsAt_295 rfl (lv_at hl 4 rfl) ?_
            refine va_get (D := D) (ci := 6) (v := .long H1) (C := RX8) (T := TX8) (N := 28) hx hb hts in_X8_keepsAt_X8 hown hK.1 hP 0 rfl rfl 24 (by decide) (hts (.fieldLink RX8 100 "NestlimitModel" "high" "J") (List.mem_of_getElem? (i := 8) rfl)) (fun _ h9 => h9) rfl dX8_keepsAt_296 ?_
            refine lv_goto (tgt := 343) hx hb dX8_keepsAt_299 (by decide) ?_
            refine g_last (k := (25 * k) + p) (x := H1) hx hb hK.1 hP hD hS 17 1 rfl rfl (by omega) (by decide) dX8_keepsAt_343 (fun H locs hP hD hS => ?_)
            have hP : va_P D vwCl (wM y h q tw pn ki on ot ab be zA zB zC zD zF zT (upZ fo ((25 * k) + p) I1) (vp_updL lw ((25 * k) + p) L1) (vp_updL hg ((25 * k) + p) H1) (upZ at_ ((25 * k) + p) false) (vp_updL tl ((25 * k) + p) L1) (vp_updL th ((25 * k) + p) H1) wo wl wh I1 L1 H1 di su an) H := hP
            have hD : va_D A (wM y h q tw pn ki on ot ab be zA zB zC zD zF zT (upZ fo ((25 * k) + p) I1) (vp_updL lw ((25 * k) + p) L1) (vp_updL hg ((25 * k) + p) H1) (upZ at_ ((25 * k) + p) false) (vp_updL tl ((25 * k) + p) L1) (vp_updL th ((25 * k) + p) H1) wo wl wh I1 L1 H1 di su an) := hD
            exact W.vret hx hb hr (fun t ht hW => ⟨⟨none, wM y h q tw pn ki on ot ab be zA zB zC zD zF zT (upZ fo ((25 * k) + p) I1) (vp_updL lw ((25 * k) + p) L1) (vp_updL hg ((25 * k) + p) H1) (upZ at_ ((25 * k) + p) false) (vp_updL tl ((25 * k) + p) L1) (vp_updL th ((25 * k) + p) H1) wo wl wh I1 L1 H1 di su an, rfl, ⟨rfl, by simp only [gI1, gL1, kaB, kaA, kaL, kaH, Bool.false_eq_true, if_false, if_true, if_pos c_79, if_pos c_99, if_neg c_182, if_neg c_193, if_neg c_217]⟩, rfl, by rw [ht]; exact hP⟩, by rw [← hAe]; exact hS.F ht⟩) (by rw [← hAe]; exact hS.2.2) dX8_keepsAt_344
          · skip
            refine lv_iconst (v := 1) hx hb dX8_keepsAt_220 (by decide) ?_
            refine lv_goto (tgt := 225) hx hb dX8_keepsAt_221 (by decide) ?_
            refine g_zast (k := (25 * k) + p) (x := true) hx hb hK.1 hP hD hS 15 2 rfl rfl (by omega) (by decide) dX8_keepsAt_225 (fun H locs hP hD hS => ?_)
            have hP : va_P D vwCl (wM y h q tw pn ki on ot ab be zA zB zC zD zF zT (upZ fo ((25 * k) + p) I1) (vp_updL lw ((25 * k) + p) L1) (vp_updL hg ((25 * k) + p) H1) (upZ at_ ((25 * k) + p) true) tl th wo wl wh I1 L1 H1 di su an) H := hP
            have hD : va_D A (wM y h q tw pn ki on ot ab be zA zB zC zD zF zT (upZ fo ((25 * k) + p) I1) (vp_updL lw ((25 * k) + p) L1) (vp_updL hg ((25 * k) + p) H1) (upZ at_ ((25 * k) + p) true) tl th wo wl wh I1 L1 H1 di su an) := hD
            refine lv_aload_n hx hb dX8_keepsAt_226 rfl (lv_at hl 4 rfl) ?_
            refine va_get (D := D) (ci := 6) (v := .ref (q 17)) (C := RX8) (T := TX8) (N := 28) hx hb hts in_X8_keepsAt_X8 hown hK.1 hP 0 rfl rfl 17 (by decide) (hts (.fieldLink RX8 57 "NestlimitModel" "toldLow" "[J") (List.mem_of_getElem? (i := 10) rfl)) (fun _ h9 => h9) rfl dX8_keepsAt_227 ?_
            refine lv_iload_n hx hb dX8_keepsAt_230 rfl (lv_at hl 3 rfl) ?_
            refine lv_iload hx hb dX8_keepsAt_231 (lv_at hl 0 rfl) ?_
            refine lv_if_ne (tgt := 243) hx hb dX8_keepsAt_233 (by decide) (fun c_233 => absurd c_233 (by decide)) (fun c_233 => ?_)
            refine lv_aload_n hx hb dX8_keepsAt_236 rfl (lv_at hl 4 rfl) ?_
            refine va_get (D := D) (ci := 6) (v := .long L1) (C := RX8) (T := TX8) (N := 28) hx hb hts in_X8_keepsAt_X8 hown hK.1 hP 0 rfl rfl 23 (by decide) (hts (.fieldLink RX8 96 "NestlimitModel" "low" "J") (List.mem_of_getElem? (i := 7) rfl)) (fun _ h9 => h9) rfl dX8_keepsAt_237 ?_
            refine lv_goto (tgt := 284) hx hb dX8_keepsAt_240 (by decide) ?_
            refine g_last (k := (25 * k) + p) (x := L1) hx hb hK.1 hP hD hS 16 1 rfl rfl (by omega) (by decide) dX8_keepsAt_284 (fun H locs hP hD hS => ?_)
            have hP : va_P D vwCl (wM y h q tw pn ki on ot ab be zA zB zC zD zF zT (upZ fo ((25 * k) + p) I1) (vp_updL lw ((25 * k) + p) L1) (vp_updL hg ((25 * k) + p) H1) (upZ at_ ((25 * k) + p) true) (vp_updL tl ((25 * k) + p) L1) th wo wl wh I1 L1 H1 di su an) H := hP
            have hD : va_D A (wM y h q tw pn ki on ot ab be zA zB zC zD zF zT (upZ fo ((25 * k) + p) I1) (vp_updL lw ((25 * k) + p) L1) (vp_updL hg ((25 * k) + p) H1) (upZ at_ ((25 * k) + p) true) (vp_updL tl ((25 * k) + p) L1) th wo wl wh I1 L1 H1 di su an) := hD
            refine lv_aload_n hx hb dX8_keepsAt_285 rfl (lv_at hl 4 rfl) ?_
            refine va_get (D := D) (ci := 6) (v := .ref (q 18)) (C := RX8) (T := TX8) (N := 28) hx hb hts in_X8_keepsAt_X8 hown hK.1 hP 0 rfl rfl 18 (by decide) (hts (.fieldLink RX8 60 "NestlimitModel" "toldHigh" "[J") (List.mem_of_getElem? (i := 12) rfl)) (fun _ h9 => h9) rfl dX8_keepsAt_286 ?_
            refine lv_iload_n hx hb dX8_keepsAt_289 rfl (lv_at hl 3 rfl) ?_
            refine lv_iload hx hb dX8_keepsAt_290 (lv_at hl 0 rfl) ?_
            refine lv_if_ne (tgt := 302) hx hb dX8_keepsAt_292 (by decide) (fun c_292 => absurd c_292 (by decide)) (fun c_292 => ?_)
            refine lv_aload_n hx hb dX8_keepsAt_295 rfl (lv_at hl 4 rfl) ?_
            refine va_get (D := D) (ci := 6) (v := .long H1) (C := RX8) (T := TX8) (N := 28) hx hb hts in_X8_keepsAt_X8 hown hK.1 hP 0 rfl rfl 24 (by decide) (hts (.fieldLink RX8 100 "NestlimitModel" "high" "J") (List.mem_of_getElem? (i := 8) rfl)) (fun _ h9 => h9) rfl dX8_keepsAt_296 ?_
            refine lv_goto (tgt := 343) hx hb dX8_keepsAt_299 (by decide) ?_
            refine g_last (k := (25 * k) + p) (x := H1) hx hb hK.1 hP hD hS 17 1 rfl rfl (by omega) (by decide) dX8_keepsAt_343 (fun H locs hP hD hS => ?_)
            have hP : va_P D vwCl (wM y h q tw pn ki on ot ab be zA zB zC zD zF zT (upZ fo ((25 * k) + p) I1) (vp_updL lw ((25 * k) + p) L1) (vp_updL hg ((25 * k) + p) H1) (upZ at_ ((25 * k) + p) true) (vp_updL tl ((25 * k) + p) L1) (vp_updL th ((25 * k) + p) H1) wo wl wh I1 L1 H1 di su an) H := hP
            have hD : va_D A (wM y h q tw pn ki on ot ab be zA zB zC zD zF zT (upZ fo ((25 * k) + p) I1) (vp_updL lw ((25 * k) + p) L1) (vp_updL hg ((25 * k) + p) H1) (upZ at_ ((25 * k) + p) true) (vp_updL tl ((25 * k) + p) L1) (vp_updL th ((25 * k) + p) H1) wo wl wh I1 L1 H1 di su an) := hD
            exact W.vret hx hb hr (fun t ht hW => ⟨⟨none, wM y h q tw pn ki on ot ab be zA zB zC zD zF zT (upZ fo ((25 * k) + p) I1) (vp_updL lw ((25 * k) + p) L1) (vp_updL hg ((25 * k) + p) H1) (upZ at_ ((25 * k) + p) true) (vp_updL tl ((25 * k) + p) L1) (vp_updL th ((25 * k) + p) H1) wo wl wh I1 L1 H1 di su an, rfl, ⟨rfl, by simp only [gI1, gL1, kaB, kaA, kaL, kaH, Bool.false_eq_true, if_false, if_true, if_pos c_79, if_pos c_99, if_neg c_182, if_neg c_193, if_pos c_217]⟩, rfl, by rw [ht]; exact hP⟩, by rw [← hAe]; exact hS.F ht⟩) (by rw [← hAe]; exact hS.2.2) dX8_keepsAt_344
        · skip
          refine lv_iconst (v := 1) hx hb dX8_keepsAt_196 (by decide) ?_
          refine lv_goto (tgt := 201) hx hb dX8_keepsAt_197 (by decide) ?_
          refine lv_istore (lv' := [(6, .int 1), (5, .int (nI ((25 * o2) + p))), (4, .int (nI ((25 * o1) + p))), (3, .int (nI ((25 * k) + p))), (0, .ref h), (1, .int (nI k)), (2, .int (nI p))]) hx hb dX8_keepsAt_201 hl (by decide) rfl (fun ls hl => ?_)
          refine lv_aload_n hx hb dX8_keepsAt_203 rfl (lv_at hl 4 rfl) ?_
          refine va_get (D := D) (ci := 6) (v := .ref (q 16)) (C := RX8) (T := TX8) (N := 28) hx hb hts in_X8_keepsAt_X8 hown hK.1 hP 0 rfl rfl 16 (by decide) (hts (.fieldLink RX8 54 "NestlimitModel" "areTold" "[Z") (List.mem_of_getElem? (i := 9) rfl)) (fun _ h9 => h9) rfl dX8_keepsAt_204 ?_
          refine lv_iload_n hx hb dX8_keepsAt_207 rfl (lv_at hl 3 rfl) ?_
          refine lv_iload hx hb dX8_keepsAt_208 (lv_at hl 0 rfl) ?_
          refine lv_if_ne (tgt := 220) hx hb dX8_keepsAt_210 (by decide) (fun c_210 => ?_) (fun c_210 => absurd c_210 (by decide))
          refine lv_iconst (v := 1) hx hb dX8_keepsAt_220 (by decide) ?_
          refine lv_goto (tgt := 225) hx hb dX8_keepsAt_221 (by decide) ?_
          refine g_zast (k := (25 * k) + p) (x := true) hx hb hK.1 hP hD hS 15 2 rfl rfl (by omega) (by decide) dX8_keepsAt_225 (fun H locs hP hD hS => ?_)
          have hP : va_P D vwCl (wM y h q tw pn ki on ot ab be zA zB zC zD zF zT (upZ fo ((25 * k) + p) I1) (vp_updL lw ((25 * k) + p) L1) (vp_updL hg ((25 * k) + p) H1) (upZ at_ ((25 * k) + p) true) tl th wo wl wh I1 L1 H1 di su an) H := hP
          have hD : va_D A (wM y h q tw pn ki on ot ab be zA zB zC zD zF zT (upZ fo ((25 * k) + p) I1) (vp_updL lw ((25 * k) + p) L1) (vp_updL hg ((25 * k) + p) H1) (upZ at_ ((25 * k) + p) true) tl th wo wl wh I1 L1 H1 di su an) := hD
          refine lv_aload_n hx hb dX8_keepsAt_226 rfl (lv_at hl 4 rfl) ?_
          refine va_get (D := D) (ci := 6) (v := .ref (q 17)) (C := RX8) (T := TX8) (N := 28) hx hb hts in_X8_keepsAt_X8 hown hK.1 hP 0 rfl rfl 17 (by decide) (hts (.fieldLink RX8 57 "NestlimitModel" "toldLow" "[J") (List.mem_of_getElem? (i := 10) rfl)) (fun _ h9 => h9) rfl dX8_keepsAt_227 ?_
          refine lv_iload_n hx hb dX8_keepsAt_230 rfl (lv_at hl 3 rfl) ?_
          refine lv_iload hx hb dX8_keepsAt_231 (lv_at hl 0 rfl) ?_
          refine lv_if_ne (tgt := 243) hx hb dX8_keepsAt_233 (by decide) (fun c_233 => ?_) (fun c_233 => absurd c_233 (by decide))
          refine lv_aload_n hx hb dX8_keepsAt_243 rfl (lv_at hl 4 rfl) ?_
          refine va_get (D := D) (ci := 6) (v := .int (gB I1)) (C := RX8) (T := TX8) (N := 28) hx hb hts in_X8_keepsAt_X8 hown hK.1 hP 0 rfl rfl 22 (by decide) (hts (.fieldLink RX8 92 "NestlimitModel" "is" "Z") (List.mem_of_getElem? (i := 4) rfl)) (fun _ h9 => h9) rfl dX8_keepsAt_244 ?_
          refine g_beq (tgt := 272) hx hb dX8_keepsAt_247 (by decide) (fun c_247 => ?_) (fun c_247 => ?_)
          · skip
            refine lv_ldc2 (v := 2) hx hb hown (hts (.constantLong RX8 137 (2)) (List.mem_of_getElem? (i := 11) rfl)) dX8_keepsAt_272 ?_
            refine lv_aload_n hx hb dX8_keepsAt_275 rfl (lv_at hl 4 rfl) ?_
            refine va_get (D := D) (ci := 6) (v := .ref (q 17)) (C := RX8) (T := TX8) (N := 28) hx hb hts in_X8_keepsAt_X8 hown hK.1 hP 0 rfl rfl 17 (by decide) (hts (.fieldLink RX8 57 "NestlimitModel" "toldLow" "[J") (List.mem_of_getElem? (i := 10) rfl)) (fun _ h9 => h9) rfl dX8_keepsAt_276 ?_
            refine lv_iload_n hx hb dX8_keepsAt_279 rfl (lv_at hl 3 rfl) ?_
            refine lv_iconst (v := 1) hx hb dX8_keepsAt_280 (by decide) ?_
            refine lv_isub hx hb dX8_keepsAt_281 ?_
            refine g_topi (y := nI ((25 * k) + p - 1)) (pk_sub (a := 25 * k + p) (b := 1) (by omega)) ?_
            refine g_lald (k := (25 * k) + p - 1) hx hb hK.1 hP 16 1 rfl rfl (by omega) (by decide) dX8_keepsAt_282 ?_
            refine lv_lmul hx hb dX8_keepsAt_283 ?_
            refine g_last (k := (25 * k) + p) (x := 2 * (tl ((25 * k) + p - 1))) hx hb hK.1 hP hD hS 16 1 rfl rfl (by omega) (by decide) dX8_keepsAt_284 (fun H locs hP hD hS => ?_)
            have hP : va_P D vwCl (wM y h q tw pn ki on ot ab be zA zB zC zD zF zT (upZ fo ((25 * k) + p) I1) (vp_updL lw ((25 * k) + p) L1) (vp_updL hg ((25 * k) + p) H1) (upZ at_ ((25 * k) + p) true) (vp_updL tl ((25 * k) + p) (2 * (tl ((25 * k) + p - 1)))) th wo wl wh I1 L1 H1 di su an) H := hP
            have hD : va_D A (wM y h q tw pn ki on ot ab be zA zB zC zD zF zT (upZ fo ((25 * k) + p) I1) (vp_updL lw ((25 * k) + p) L1) (vp_updL hg ((25 * k) + p) H1) (upZ at_ ((25 * k) + p) true) (vp_updL tl ((25 * k) + p) (2 * (tl ((25 * k) + p - 1)))) th wo wl wh I1 L1 H1 di su an) := hD
            refine lv_aload_n hx hb dX8_keepsAt_285 rfl (lv_at hl 4 rfl) ?_
            refine va_get (D := D) (ci := 6) (v := .ref (q 18)) (C := RX8) (T := TX8) (N := 28) hx hb hts in_X8_keepsAt_X8 hown hK.1 hP 0 rfl rfl 18 (by decide) (hts (.fieldLink RX8 60 "NestlimitModel" "toldHigh" "[J") (List.mem_of_getElem? (i := 12) rfl)) (fun _ h9 => h9) rfl dX8_keepsAt_286 ?_
            refine lv_iload_n hx hb dX8_keepsAt_289 rfl (lv_at hl 3 rfl) ?_
            refine lv_iload hx hb dX8_keepsAt_290 (lv_at hl 0 rfl) ?_
            refine lv_if_ne (tgt := 302) hx hb dX8_keepsAt_292 (by decide) (fun c_292 => ?_) (fun c_292 => absurd c_292 (by decide))
            refine lv_aload_n hx hb dX8_keepsAt_302 rfl (lv_at hl 4 rfl) ?_
            refine va_get (D := D) (ci := 6) (v := .int (gB I1)) (C := RX8) (T := TX8) (N := 28) hx hb hts in_X8_keepsAt_X8 hown hK.1 hP 0 rfl rfl 22 (by decide) (hts (.fieldLink RX8 92 "NestlimitModel" "is" "Z") (List.mem_of_getElem? (i := 4) rfl)) (fun _ h9 => h9) rfl dX8_keepsAt_303 ?_
            refine g_beq (tgt := 331) hx hb dX8_keepsAt_306 (by decide) (fun c_306 => ?_) (fun c_306 => absurd c_306 c_247)
            refine lv_ldc2 (v := 2) hx hb hown (hts (.constantLong RX8 137 (2)) (List.mem_of_getElem? (i := 11) rfl)) dX8_keepsAt_331 ?_
            refine lv_aload_n hx hb dX8_keepsAt_334 rfl (lv_at hl 4 rfl) ?_
            refine va_get (D := D) (ci := 6) (v := .ref (q 18)) (C := RX8) (T := TX8) (N := 28) hx hb hts in_X8_keepsAt_X8 hown hK.1 hP 0 rfl rfl 18 (by decide) (hts (.fieldLink RX8 60 "NestlimitModel" "toldHigh" "[J") (List.mem_of_getElem? (i := 12) rfl)) (fun _ h9 => h9) rfl dX8_keepsAt_335 ?_
            refine lv_iload_n hx hb dX8_keepsAt_338 rfl (lv_at hl 3 rfl) ?_
            refine lv_iconst (v := 1) hx hb dX8_keepsAt_339 (by decide) ?_
            refine lv_isub hx hb dX8_keepsAt_340 ?_
            refine g_topi (y := nI ((25 * k) + p - 1)) (pk_sub (a := 25 * k + p) (b := 1) (by omega)) ?_
            refine g_lald (k := (25 * k) + p - 1) hx hb hK.1 hP 17 1 rfl rfl (by omega) (by decide) dX8_keepsAt_341 ?_
            refine lv_lmul hx hb dX8_keepsAt_342 ?_
            refine g_last (k := (25 * k) + p) (x := 2 * (th ((25 * k) + p - 1))) hx hb hK.1 hP hD hS 17 1 rfl rfl (by omega) (by decide) dX8_keepsAt_343 (fun H locs hP hD hS => ?_)
            have hP : va_P D vwCl (wM y h q tw pn ki on ot ab be zA zB zC zD zF zT (upZ fo ((25 * k) + p) I1) (vp_updL lw ((25 * k) + p) L1) (vp_updL hg ((25 * k) + p) H1) (upZ at_ ((25 * k) + p) true) (vp_updL tl ((25 * k) + p) (2 * (tl ((25 * k) + p - 1)))) (vp_updL th ((25 * k) + p) (2 * (th ((25 * k) + p - 1)))) wo wl wh I1 L1 H1 di su an) H := hP
            have hD : va_D A (wM y h q tw pn ki on ot ab be zA zB zC zD zF zT (upZ fo ((25 * k) + p) I1) (vp_updL lw ((25 * k) + p) L1) (vp_updL hg ((25 * k) + p) H1) (upZ at_ ((25 * k) + p) true) (vp_updL tl ((25 * k) + p) (2 * (tl ((25 * k) + p - 1)))) (vp_updL th ((25 * k) + p) (2 * (th ((25 * k) + p - 1)))) wo wl wh I1 L1 H1 di su an) := hD
            exact W.vret hx hb hr (fun t ht hW => ⟨⟨none, wM y h q tw pn ki on ot ab be zA zB zC zD zF zT (upZ fo ((25 * k) + p) I1) (vp_updL lw ((25 * k) + p) L1) (vp_updL hg ((25 * k) + p) H1) (upZ at_ ((25 * k) + p) true) (vp_updL tl ((25 * k) + p) (2 * (tl ((25 * k) + p - 1)))) (vp_updL th ((25 * k) + p) (2 * (th ((25 * k) + p - 1)))) wo wl wh I1 L1 H1 di su an, rfl, ⟨rfl, by simp only [gI1, gL1, kaB, kaA, kaL, kaH, Bool.false_eq_true, if_false, if_true, if_pos c_79, if_pos c_99, if_neg c_182, if_pos c_193, if_neg c_247]⟩, rfl, by rw [ht]; exact hP⟩, by rw [← hAe]; exact hS.F ht⟩) (by rw [← hAe]; exact hS.2.2) dX8_keepsAt_344
          · skip
            refine lv_ldc2 (v := 2) hx hb hown (hts (.constantLong RX8 137 (2)) (List.mem_of_getElem? (i := 11) rfl)) dX8_keepsAt_250 ?_
            refine lv_aload_n hx hb dX8_keepsAt_253 rfl (lv_at hl 4 rfl) ?_
            refine va_get (D := D) (ci := 6) (v := .ref (q 17)) (C := RX8) (T := TX8) (N := 28) hx hb hts in_X8_keepsAt_X8 hown hK.1 hP 0 rfl rfl 17 (by decide) (hts (.fieldLink RX8 57 "NestlimitModel" "toldLow" "[J") (List.mem_of_getElem? (i := 10) rfl)) (fun _ h9 => h9) rfl dX8_keepsAt_254 ?_
            refine lv_iload_n hx hb dX8_keepsAt_257 rfl (lv_at hl 3 rfl) ?_
            refine lv_iconst (v := 1) hx hb dX8_keepsAt_258 (by decide) ?_
            refine lv_isub hx hb dX8_keepsAt_259 ?_
            refine g_topi (y := nI ((25 * k) + p - 1)) (pk_sub (a := 25 * k + p) (b := 1) (by omega)) ?_
            refine g_lald (k := (25 * k) + p - 1) hx hb hK.1 hP 16 1 rfl rfl (by omega) (by decide) dX8_keepsAt_260 ?_
            refine lv_lmul hx hb dX8_keepsAt_261 ?_
            refine lv_aload_n hx hb dX8_keepsAt_262 rfl (lv_at hl 4 rfl) ?_
            refine va_get (D := D) (ci := 6) (v := .long L1) (C := RX8) (T := TX8) (N := 28) hx hb hts in_X8_keepsAt_X8 hown hK.1 hP 0 rfl rfl 23 (by decide) (hts (.fieldLink RX8 96 "NestlimitModel" "low" "J") (List.mem_of_getElem? (i := 7) rfl)) (fun _ h9 => h9) rfl dX8_keepsAt_263 ?_
            refine g_callR (v0 := .long (sp_X8_most (2 * (tl ((25 * k) + p - 1))) L1)) (va_runS (As := [.long (2 * (tl ((25 * k) + p - 1))), .long L1]) (rest := [.int (nI ((25 * k) + p)), .ref (q 17)]) ⟨hx, hb, hml, hown, hts⟩ (c_X8_most l D y H.size (2 * (tl ((25 * k) + p - 1))) L1) (va_cwS 2 hts gX8_keepsAt_X8_most rfl rfl rfl (by decide +kernel) ⟨Nat.le_of_ble_eq_true rfl, Nat.le_of_ble_eq_true rfl⟩) (gP_S hP hD hK [] (by decide) rfl) rfl rfl hl.1 rfl (lv_room (Nat.le_of_ble_eq_true rfl)) dX8_keepsAt_266 ⟨Nat.zero_le _, Nat.zero_le _⟩) ?_
            refine lv_goto (tgt := 284) hx hb dX8_keepsAt_269 (by decide) ?_
            refine g_last (k := (25 * k) + p) (x := sp_X8_most (2 * (tl ((25 * k) + p - 1))) L1) hx hb hK.1 hP hD hS 16 1 rfl rfl (by omega) (by decide) dX8_keepsAt_284 (fun H locs hP hD hS => ?_)
            have hP : va_P D vwCl (wM y h q tw pn ki on ot ab be zA zB zC zD zF zT (upZ fo ((25 * k) + p) I1) (vp_updL lw ((25 * k) + p) L1) (vp_updL hg ((25 * k) + p) H1) (upZ at_ ((25 * k) + p) true) (vp_updL tl ((25 * k) + p) (sp_X8_most (2 * (tl ((25 * k) + p - 1))) L1)) th wo wl wh I1 L1 H1 di su an) H := hP
            have hD : va_D A (wM y h q tw pn ki on ot ab be zA zB zC zD zF zT (upZ fo ((25 * k) + p) I1) (vp_updL lw ((25 * k) + p) L1) (vp_updL hg ((25 * k) + p) H1) (upZ at_ ((25 * k) + p) true) (vp_updL tl ((25 * k) + p) (sp_X8_most (2 * (tl ((25 * k) + p - 1))) L1)) th wo wl wh I1 L1 H1 di su an) := hD
            refine lv_aload_n hx hb dX8_keepsAt_285 rfl (lv_at hl 4 rfl) ?_
            refine va_get (D := D) (ci := 6) (v := .ref (q 18)) (C := RX8) (T := TX8) (N := 28) hx hb hts in_X8_keepsAt_X8 hown hK.1 hP 0 rfl rfl 18 (by decide) (hts (.fieldLink RX8 60 "NestlimitModel" "toldHigh" "[J") (List.mem_of_getElem? (i := 12) rfl)) (fun _ h9 => h9) rfl dX8_keepsAt_286 ?_
            refine lv_iload_n hx hb dX8_keepsAt_289 rfl (lv_at hl 3 rfl) ?_
            refine lv_iload hx hb dX8_keepsAt_290 (lv_at hl 0 rfl) ?_
            refine lv_if_ne (tgt := 302) hx hb dX8_keepsAt_292 (by decide) (fun c_292 => ?_) (fun c_292 => absurd c_292 (by decide))
            refine lv_aload_n hx hb dX8_keepsAt_302 rfl (lv_at hl 4 rfl) ?_
            refine va_get (D := D) (ci := 6) (v := .int (gB I1)) (C := RX8) (T := TX8) (N := 28) hx hb hts in_X8_keepsAt_X8 hown hK.1 hP 0 rfl rfl 22 (by decide) (hts (.fieldLink RX8 92 "NestlimitModel" "is" "Z") (List.mem_of_getElem? (i := 4) rfl)) (fun _ h9 => h9) rfl dX8_keepsAt_303 ?_
            refine g_beq (tgt := 331) hx hb dX8_keepsAt_306 (by decide) (fun c_306 => absurd c_247 c_306) (fun c_306 => ?_)
            refine lv_ldc2 (v := 2) hx hb hown (hts (.constantLong RX8 137 (2)) (List.mem_of_getElem? (i := 11) rfl)) dX8_keepsAt_309 ?_
            refine lv_aload_n hx hb dX8_keepsAt_312 rfl (lv_at hl 4 rfl) ?_
            refine va_get (D := D) (ci := 6) (v := .ref (q 18)) (C := RX8) (T := TX8) (N := 28) hx hb hts in_X8_keepsAt_X8 hown hK.1 hP 0 rfl rfl 18 (by decide) (hts (.fieldLink RX8 60 "NestlimitModel" "toldHigh" "[J") (List.mem_of_getElem? (i := 12) rfl)) (fun _ h9 => h9) rfl dX8_keepsAt_313 ?_
            refine lv_iload_n hx hb dX8_keepsAt_316 rfl (lv_at hl 3 rfl) ?_
            refine lv_iconst (v := 1) hx hb dX8_keepsAt_317 (by decide) ?_
            refine lv_isub hx hb dX8_keepsAt_318 ?_
            refine g_topi (y := nI ((25 * k) + p - 1)) (pk_sub (a := 25 * k + p) (b := 1) (by omega)) ?_
            refine g_lald (k := (25 * k) + p - 1) hx hb hK.1 hP 17 1 rfl rfl (by omega) (by decide) dX8_keepsAt_319 ?_
            refine lv_lmul hx hb dX8_keepsAt_320 ?_
            refine lv_aload_n hx hb dX8_keepsAt_321 rfl (lv_at hl 4 rfl) ?_
            refine va_get (D := D) (ci := 6) (v := .long H1) (C := RX8) (T := TX8) (N := 28) hx hb hts in_X8_keepsAt_X8 hown hK.1 hP 0 rfl rfl 24 (by decide) (hts (.fieldLink RX8 100 "NestlimitModel" "high" "J") (List.mem_of_getElem? (i := 8) rfl)) (fun _ h9 => h9) rfl dX8_keepsAt_322 ?_
            refine g_callR (v0 := .long (sp_X8_least (2 * (th ((25 * k) + p - 1))) H1)) (va_runS (As := [.long (2 * (th ((25 * k) + p - 1))), .long H1]) (rest := [.int (nI ((25 * k) + p)), .ref (q 18)]) ⟨hx, hb, hml, hown, hts⟩ (c_X8_least l D y H.size (2 * (th ((25 * k) + p - 1))) H1) (va_cwS 2 hts gX8_keepsAt_X8_least rfl rfl rfl (by decide +kernel) ⟨Nat.le_of_ble_eq_true rfl, Nat.le_of_ble_eq_true rfl⟩) (gP_S hP hD hK [] (by decide) rfl) rfl rfl hl.1 rfl (lv_room (Nat.le_of_ble_eq_true rfl)) dX8_keepsAt_325 ⟨Nat.zero_le _, Nat.zero_le _⟩) ?_
            refine lv_goto (tgt := 343) hx hb dX8_keepsAt_328 (by decide) ?_
            refine g_last (k := (25 * k) + p) (x := sp_X8_least (2 * (th ((25 * k) + p - 1))) H1) hx hb hK.1 hP hD hS 17 1 rfl rfl (by omega) (by decide) dX8_keepsAt_343 (fun H locs hP hD hS => ?_)
            have hP : va_P D vwCl (wM y h q tw pn ki on ot ab be zA zB zC zD zF zT (upZ fo ((25 * k) + p) I1) (vp_updL lw ((25 * k) + p) L1) (vp_updL hg ((25 * k) + p) H1) (upZ at_ ((25 * k) + p) true) (vp_updL tl ((25 * k) + p) (sp_X8_most (2 * (tl ((25 * k) + p - 1))) L1)) (vp_updL th ((25 * k) + p) (sp_X8_least (2 * (th ((25 * k) + p - 1))) H1)) wo wl wh I1 L1 H1 di su an) H := hP
            have hD : va_D A (wM y h q tw pn ki on ot ab be zA zB zC zD zF zT (upZ fo ((25 * k) + p) I1) (vp_updL lw ((25 * k) + p) L1) (vp_updL hg ((25 * k) + p) H1) (upZ at_ ((25 * k) + p) true) (vp_updL tl ((25 * k) + p) (sp_X8_most (2 * (tl ((25 * k) + p - 1))) L1)) (vp_updL th ((25 * k) + p) (sp_X8_least (2 * (th ((25 * k) + p - 1))) H1)) wo wl wh I1 L1 H1 di su an) := hD
            exact W.vret hx hb hr (fun t ht hW => ⟨⟨none, wM y h q tw pn ki on ot ab be zA zB zC zD zF zT (upZ fo ((25 * k) + p) I1) (vp_updL lw ((25 * k) + p) L1) (vp_updL hg ((25 * k) + p) H1) (upZ at_ ((25 * k) + p) true) (vp_updL tl ((25 * k) + p) (sp_X8_most (2 * (tl ((25 * k) + p - 1))) L1)) (vp_updL th ((25 * k) + p) (sp_X8_least (2 * (th ((25 * k) + p - 1))) H1)) wo wl wh I1 L1 H1 di su an, rfl, ⟨rfl, by simp only [gI1, gL1, kaB, kaA, kaL, kaH, Bool.false_eq_true, if_false, if_true, if_pos c_79, if_pos c_99, if_neg c_182, if_pos c_193, if_pos c_247]⟩, rfl, by rw [ht]; exact hP⟩, by rw [← hAe]; exact hS.F ht⟩) (by rw [← hAe]; exact hS.2.2) dX8_keepsAt_344
