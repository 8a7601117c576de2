/-- what is told: whether, from where, to where -/
def tI (cF : Nat → Bool) : Nat → Bool
  | 0 => cF 0
  | p + 1 => kaA (tI cF p) (cF (p + 1))
def tL (cF : Nat → Bool) (cL : Nat → Int64) : Nat → Int64
  | 0 => cL 0
  | p + 1 => kaL (tI cF p) (cF (p + 1)) (tL cF cL p) (cL (p + 1))
def tH (cF : Nat → Bool) (cH : Nat → Int64) : Nat → Int64
  | 0 => cH 0
  | p + 1 => kaH (tI cF p) (cF (p + 1)) (tH cF cH p) (cH (p + 1))
def adR (k : Nat) (cF : Nat → Bool) (cL cH : Nat → Int64) (fo : Nat → Bool) (lw hg : Nat → Int64) (at_ : Nat → Bool) (tl th : Nat → Int64) (p : Nat) : Prop :=
  fo (25 * k + p) = cF p ∧ (cF p = true → lw (25 * k + p) = cL p ∧ hg (25 * k + p) = cH p) ∧ at_ (25 * k + p) = tI cF p ∧ (tI cF p = true → tl (25 * k + p) = tL cF cL p ∧ th (25 * k + p) = tH cF cH p)
def adS (k : Nat) (fo fo' : Nat → Bool) (lw hg lw' hg' : Nat → Int64) (at_ at' : Nat → Bool) (tl th tl' th' : Nat → Int64) : Prop := ∀ j, j < 25 * k → fo' j = fo j ∧ lw' j = lw j ∧ hg' j = hg j ∧ at' j = at_ j ∧ tl' j = tl j ∧ th' j = th j
theorem upZ_s (f : Nat → Bool) (k : Nat) (x : Bool) : upZ f k x k = x := if_pos rfl
theorem upZ_n {f : Nat → Bool} {k j : Nat} {x : Bool} (h : j ≠ k) : upZ f k x j = f j := if_neg h
theorem ad_s {k p : Nat} {fo fo1 : Nat → Bool} {lw hg lw1 hg1 : Nat → Int64} {at_ at1 : Nat → Bool} {tl th tl1 th1 : Nat → Int64} {b a : Bool} {x1 x2 x3 x4 : Int64}
    (hs : adS k fo fo1 lw hg lw1 hg1 at_ at1 tl th tl1 th1) : adS k fo (upZ fo1 (25 * k + p) b) lw hg (vp_updL lw1 (25 * k + p) x1) (vp_updL hg1 (25 * k + p) x2) at_ (upZ at1 (25 * k + p) a) tl th (vp_updL tl1 (25 * k + p) x3) (vp_updL th1 (25 * k + p) x4) := by
  intro j hj
  have hne : j ≠ 25 * k + p := by omega
  rw [upZ_n hne, upZ_n hne, pk_uLn hne, pk_uLn hne, pk_uLn hne, pk_uLn hne]
  exact hs j hj
theorem ad_d {k p : Nat} {cF : Nat → Bool} {cL cH : Nat → Int64} {fo1 : Nat → Bool} {lw1 hg1 : Nat → Int64} {at1 : Nat → Bool} {tl1 th1 : Nat → Int64} {b : Bool} {x1 x2 : Int64} (hp : p < 25)
    (hd : ∀ p', p' < p → adR k cF cL cH fo1 lw1 hg1 at1 tl1 th1 p') (hb : b = cF p) (hx : cF p = true → x1 = cL p ∧ x2 = cH p) :
    ∀ p', p' < p + 1 → adR k cF cL cH (upZ fo1 (25 * k + p) b) (vp_updL lw1 (25 * k + p) x1) (vp_updL hg1 (25 * k + p) x2) (upZ at1 (25 * k + p) (kaA (kaB p (at1 (25 * k + p - 1))) b)) (vp_updL tl1 (25 * k + p) (kaL (kaB p (at1 (25 * k + p - 1))) b (tl1 (25 * k + p - 1)) x1)) (vp_updL th1 (25 * k + p) (kaH (kaB p (at1 (25 * k + p - 1))) b (th1 (25 * k + p - 1)) x2)) p' := by
  intro p' hp'
  by_cases e : p' = p
  · subst e
    unfold adR
    rw [upZ_s, upZ_s, pk_uLs, pk_uLs, pk_uLs, pk_uLs]
    cases p' with
    | zero =>
      have hB : kaB 0 (at1 (25 * k + 0 - 1)) = false := by
        unfold kaB
        rw [if_pos (by decide)]
      rw [hB]
      refine ⟨hb, hx, ?_, fun h => ?_⟩
      · rw [hb]
        show kaA false (cF 0) = cF 0
        cases cF 0 <;> rfl
      · exact hx h
    | succ r =>
      have hB : kaB (r + 1) (at1 (25 * k + (r + 1) - 1)) = at1 (25 * k + r) := by
        unfold kaB
        rw [if_neg (nI_nle (n := r + 1) (by omega) (by omega))]
        rfl
      obtain ⟨-, -, g3, g4⟩ := hd r (by omega)
      rw [hB, g3]
      have e1 : tl1 (25 * k + (r + 1) - 1) = tl1 (25 * k + r) := rfl
      have e2 : th1 (25 * k + (r + 1) - 1) = th1 (25 * k + r) := rfl
      rw [e1, e2, hb]
      refine ⟨rfl, hx, rfl, fun h => ?_⟩
      show kaL (tI cF r) (cF (r + 1)) _ _ = kaL (tI cF r) (cF (r + 1)) _ _ ∧ kaH (tI cF r) (cF (r + 1)) _ _ = kaH (tI cF r) (cF (r + 1)) _ _
      by_cases ht : tI cF r = true
      · obtain ⟨g5, g6⟩ := g4 ht
        rw [g5, g6]
        by_cases hc : cF (r + 1) = true
        · obtain ⟨z1, z2⟩ := hx hc
          rw [z1, z2]
          exact ⟨rfl, rfl⟩
        · simp only [kaL, kaH, if_pos ht, if_neg hc, and_self]
      · have hc : cF (r + 1) = true := by
          have h2 : kaA (tI cF r) (cF (r + 1)) = true := h
          unfold kaA at h2
          rw [if_neg ht] at h2
          by_cases hc : cF (r + 1) = true
          · exact hc
          · rw [if_neg hc] at h2
            exact absurd h2 (by decide)
        obtain ⟨z1, z2⟩ := hx hc
        simp only [kaL, kaH, if_neg ht]
        exact ⟨z1, z2⟩
  · have hne : 25 * k + p' ≠ 25 * k + p := by omega
    unfold adR
    rw [upZ_n hne, upZ_n hne, pk_uLn hne, pk_uLn hne, pk_uLn hne, pk_uLn hne]
    exact hd p' (by omega)
theorem in_X8_adds_X8 : ∀ w ∈ wsX80, w ∈ wsX8_adds := fun _ h => List.mem_cons_of_mem _ (List.mem_append_right _ h)
set_option maxHeartbeats 4000000 in
set_option maxRecDepth 100000 in
theorem c_X8_adds_0 (l : Launch) (D : va_G) (y : Nat → ClassId) (sz : Nat) (h : Nat) (q : Nat → Nat) (tw : Int32) (pn : Nat) (ki on ot ab be zA zB zC zD zF zT : Nat → Int32) (fo : Nat → Bool) (lw hg : Nat → Int64) (at_ : Nat → Bool) (tl th : Nat → Int64) (wo : Nat → Bool) (wl wh : Nat → Int64) (is_ : Bool) (lo_ hi_ : Int64) (di : Nat → Int32) (su : Nat → Int64) (an : Nat → Bool) (kd : Nat) (cF : Nat → Bool) (cL cH : Nat → Int64) (hpn : pn < 40) (hkd : kd ≤ 8) (hcan : ∀ p, p < 25 → ∀ (x1 x2 x3 x4 : Int64), mkOK kd be zF zT pn x1 x2 ∧ mk_is kd ab be zA zB zC zD zF zT x3 x4 pn p x1 x2 x1 x2 = cF p ∧ (cF p = true → mk_lo kd ab be zA zB zC zD zF zT x3 x4 pn p x1 x2 x1 x2 = cL p ∧ mk_hi kd ab be zA zB zC zD zF zT x3 x4 pn p x1 x2 x1 x2 = cH p)) : Met l yX8_adds wsX8_adds ({ frames := 5, cells := 0, slots := 0, locals := 148 } : Room) (gP D y [.ref h, .int (nI kd), .int (-1), .int (-1)] (wM y h q tw pn ki on ot ab be zA zB zC zD zF zT fo lw hg at_ tl th wo wl wh is_ lo_ hi_ di su an) sz) (gQ D (wM y h q tw pn ki on ot ab be zA zB zC zD zF zT fo lw hg at_ tl th wo wl wh is_ lo_ hi_ di su an) (fun v w => ∃ (fo1 : Nat → Bool) (lw1 : Nat → Int64) (hg1 : Nat → Int64) (at1 : Nat → Bool) (tl1 : Nat → Int64) (th1 : Nat → Int64) (is1 : Bool) (lo1 : Int64) (hi1 : Int64), v = some (.int (nI pn)) ∧ w = (wM y h q tw (pn + 1) (upd ki pn (nI kd)) (upd on pn (-1)) (upd ot pn (-1)) ab be zA zB zC zD zF zT fo1 lw1 hg1 at1 tl1 th1 wo wl wh is1 lo1 hi1 di su an) ∧ (adS pn fo fo1 lw hg lw1 hg1 at_ at1 tl th tl1 th1) ∧ (∀ p, p < 25 → adR pn cF cL cH fo1 lw1 hg1 at1 tl1 th1 p))) 0 0 (va_A (wM y h q tw pn ki on ot ab be zA zB zC zD zF zT fo lw hg at_ tl th wo wl wh is_ lo_ hi_ di su an) sz) := by
  refine Met.ofW (cc := cX8_adds) (maxL := 5) (ret := (some .int)) (by decide) rfl ?_
  intro pg e s m args below meth c s₁ B hml hv
  obtain ⟨rfl, hsz, hP, hK, hD0⟩ := hv
  have hx := B.exec
  have hb := B.bytes
  have hr := B.returns
  have hts := atoms_spec (ws := wsX8_adds) B.pre
  have hown : s.vm.findClass RX8 = some m.cls := findClass_of_methodNamed B.named
  have hlocks := B.notSynchronized
  subst hsz
  obtain ⟨A, hAe⟩ : ∃ A : Nat → Prop, A = va_A (wM y h q tw pn ki on ot ab be zA zB zC zD zF zT fo lw hg at_ tl th wo wl wh is_ lo_ hi_ di su an) s.heap.size := ⟨_, rfl⟩
  have hD : va_D A (wM y h q tw pn ki on ot ab be zA zB zC zD zF zT fo lw hg at_ tl th wo wl wh is_ lo_ hi_ di su an) := by rw [hAe]; exact hD0.self (sz := s.heap.size)
  have hA : ∀ q : Nat, s.heap.size ≤ q → A q := fun q h => by rw [hAe]; exact Or.inr h
  have hS : va_S A s.heap s.heap [] := va_S.rf
  have hl := lv_entry ([.ref h, .int (nI kd), .int (-1), .int (-1)]) (n := 5) (Nat.le_of_ble_eq_true rfl)
  rw [lg_entry_eq]
  generalize (lg_sl ([.ref h, .int (nI kd), .int (-1), .int (-1)]) ++ List.replicate (5 - (lg_sl ([.ref h, .int (nI kd), .int (-1), .int (-1)])).length) Slot.unset).toArray = ls at hl ⊢
  have hl : lv_has ls 5 [(0, .ref h), (1, .int (nI kd)), (2, .int (-1)), (3, .int (-1))] := hl
  refine lv_aload_n hx hb dX8_adds_0 rfl (lv_at hl 0 rfl) ?_
  refine va_get (D := D) (ci := 6) (v := .ref (q 2)) (C := RX8) (T := TX8) (N := 28) hx hb hts in_X8_adds_X8 hown hK.1 hP 0 rfl rfl 2 (by decide) (hts (.fieldLink RX8 7 "NestlimitModel" "kinds" "[I") (List.mem_of_getElem? (i := 1) rfl)) (fun _ h9 => h9) rfl dX8_adds_1 ?_
  refine lv_aload_n hx hb dX8_adds_4 rfl (lv_at hl 0 rfl) ?_
  refine va_get (D := D) (ci := 6) (v := .int (nI pn)) (C := RX8) (T := TX8) (N := 28) hx hb hts in_X8_adds_X8 hown hK.1 hP 0 rfl rfl 1 (by decide) (hts (.fieldLink RX8 85 "NestlimitModel" "programs" "I") (List.mem_of_getElem? (i := 2) rfl)) (fun _ h9 => h9) rfl dX8_adds_5 ?_
  refine lv_iload_n hx hb dX8_adds_8 rfl (lv_at hl 1 rfl) ?_
  refine g_iast (k := pn) (x := nI kd) hx hb hK.1 hP hD hS 1 0 rfl rfl (hpn) (by decide) dX8_adds_9 (fun H locs hP hD hS => ?_)
  have hP : va_P D vwCl (wM y h q tw pn (upd ki pn (nI kd)) on ot ab be zA zB zC zD zF zT fo lw hg at_ tl th wo wl wh is_ lo_ hi_ di su an) H := hP
  have hD : va_D A (wM y h q tw pn (upd ki pn (nI kd)) on ot ab be zA zB zC zD zF zT fo lw hg at_ tl th wo wl wh is_ lo_ hi_ di su an) := hD
  refine lv_aload_n hx hb dX8_adds_10 rfl (lv_at hl 0 rfl) ?_
  refine va_get (D := D) (ci := 6) (v := .ref (q 3)) (C := RX8) (T := TX8) (N := 28) hx hb hts in_X8_adds_X8 hown hK.1 hP 0 rfl rfl 3 (by decide) (hts (.fieldLink RX8 13 "NestlimitModel" "ones" "[I") (List.mem_of_getElem? (i := 3) rfl)) (fun _ h9 => h9) rfl dX8_adds_11 ?_
  refine lv_aload_n hx hb dX8_adds_14 rfl (lv_at hl 0 rfl) ?_
  refine va_get (D := D) (ci := 6) (v := .int (nI pn)) (C := RX8) (T := TX8) (N := 28) hx hb hts in_X8_adds_X8 hown hK.1 hP 0 rfl rfl 1 (by decide) (hts (.fieldLink RX8 85 "NestlimitModel" "programs" "I") (List.mem_of_getElem? (i := 2) rfl)) (fun _ h9 => h9) rfl dX8_adds_15 ?_
  refine lv_iload_n hx hb dX8_adds_18 rfl (lv_at hl 2 rfl) ?_
  refine g_iast (k := pn) (x := -1) hx hb hK.1 hP hD hS 2 0 rfl rfl (hpn) (by decide) dX8_adds_19 (fun H locs hP hD hS => ?_)
  have hP : va_P D vwCl (wM y h q tw pn (upd ki pn (nI kd)) (upd on pn (-1)) ot ab be zA zB zC zD zF zT fo lw hg at_ tl th wo wl wh is_ lo_ hi_ di su an) H := hP
  have hD : va_D A (wM y h q tw pn (upd ki pn (nI kd)) (upd on pn (-1)) ot ab be zA zB zC zD zF zT fo lw hg at_ tl th wo wl wh is_ lo_ hi_ di su an) := hD
  refine lv_aload_n hx hb dX8_adds_20 rfl (lv_at hl 0 rfl) ?_
  refine va_get (D := D) (ci := 6) (v := .ref (q 4)) (C := RX8) (T := TX8) (N := 28) hx hb hts in_X8_adds_X8 hown hK.1 hP 0 rfl rfl 4 (by decide) (hts (.fieldLink RX8 16 "NestlimitModel" "others" "[I") (List.mem_of_getElem? (i := 4) rfl)) (fun _ h9 => h9) rfl dX8_adds_21 ?_
  refine lv_aload_n hx hb dX8_adds_24 rfl (lv_at hl 0 rfl) ?_
  refine va_get (D := D) (ci := 6) (v := .int (nI pn)) (C := RX8) (T := TX8) (N := 28) hx hb hts in_X8_adds_X8 hown hK.1 hP 0 rfl rfl 1 (by decide) (hts (.fieldLink RX8 85 "NestlimitModel" "programs" "I") (List.mem_of_getElem? (i := 2) rfl)) (fun _ h9 => h9) rfl dX8_adds_25 ?_
  refine lv_iload_n hx hb dX8_adds_28 rfl (lv_at hl 3 rfl) ?_
  refine g_iast (k := pn) (x := -1) hx hb hK.1 hP hD hS 3 0 rfl rfl (hpn) (by decide) dX8_adds_29 (fun H locs hP hD hS => ?_)
  have hP : va_P D vwCl (wM y h q tw pn (upd ki pn (nI kd)) (upd on pn (-1)) (upd ot pn (-1)) ab be zA zB zC zD zF zT fo lw hg at_ tl th wo wl wh is_ lo_ hi_ di su an) H := hP
  have hD : va_D A (wM y h q tw pn (upd ki pn (nI kd)) (upd on pn (-1)) (upd ot pn (-1)) ab be zA zB zC zD zF zT fo lw hg at_ tl th wo wl wh is_ lo_ hi_ di su an) := hD
  refine lv_iconst (v := 0) hx hb dX8_adds_30 (by decide) ?_
  refine lv_istore (lv' := [(4, .int 0), (0, .ref h), (1, .int (nI kd)), (2, .int (-1)), (3, .int (-1))]) hx hb dX8_adds_31 hl (by decide) rfl (fun ls hl => ?_)
  have LOOP33 : ∀ (n : Nat) (p : Nat) (fo1 : Nat → Bool) (lw1 : Nat → Int64) (hg1 : Nat → Int64) (at1 : Nat → Bool) (tl1 : Nat → Int64) (th1 : Nat → Int64) (is1 : Bool) (lo1 : Int64) (hi1 : Int64), (p + n = 25) → (adS pn fo fo1 lw hg lw1 hg1 at_ at1 tl th tl1 th1) → (∀ p', p' < p → adR pn cF cL cH fo1 lw1 hg1 at1 tl1 th1 p') → ∀ (H : Heap) (locs : List Loc), va_P D vwCl (wM y h q tw pn (upd ki pn (nI kd)) (upd on pn (-1)) (upd ot pn (-1)) ab be zA zB zC zD zF zT fo1 lw1 hg1 at1 tl1 th1 wo wl wh is1 lo1 hi1 di su an) H → va_D A (wM y h q tw pn (upd ki pn (nI kd)) (upd on pn (-1)) (upd ot pn (-1)) ab be zA zB zC zD zF zT fo1 lw1 hg1 at1 tl1 th1 wo wl wh is1 lo1 hi1 di su an) → va_S A s.heap H locs → ∀ (ls : Array Slot), lv_has ls 5 [(0, .ref h), (1, .int (nI kd)), (2, .int (-1)), (3, .int (-1)), (4, .int (nI p))] → W pg l e (headSpec wsX8_adds ({ frames := 5, cells := 0, slots := 0, locals := 148 } : Room)).room s m (([.ref h, .int (nI kd), .int (-1), .int (-1)] : List Value).toArray) below meth c H locs 0 0 (MQ below (gQ D (wM y h q tw pn ki on ot ab be zA zB zC zD zF zT fo lw hg at_ tl th wo wl wh is_ lo_ hi_ di su an) (fun v w => ∃ (fo1 : Nat → Bool) (lw1 : Nat → Int64) (hg1 : Nat → Int64) (at1 : Nat → Bool) (tl1 : Nat → Int64) (th1 : Nat → Int64) (is1 : Bool) (lo1 : Int64) (hi1 : Int64), v = some (.int (nI pn)) ∧ w = (wM y h q tw (pn + 1) (upd ki pn (nI kd)) (upd on pn (-1)) (upd ot pn (-1)) ab be zA zB zC zD zF zT fo1 lw1 hg1 at1 tl1 th1 wo wl wh is1 lo1 hi1 di su an) ∧ (adS pn fo fo1 lw hg lw1 hg1 at_ at1 tl th tl1 th1) ∧ (∀ p, p < 25 → adR pn cF cL cH fo1 lw1 hg1 at1 tl1 th1 p))) (([.ref h, .int (nI kd), .int (-1), .int (-1)] : List Value).toArray) s 0 0 (va_A (wM y h q tw pn ki on ot ab be zA zB zC zD zF zT fo lw hg at_ tl th wo wl wh is_ lo_ hi_ di su an) s.heap.size)) (F0 m 33 ls []) := by
    intro n
    induction n with
    | zero =>
      intro p fo1 lw1 hg1 at1 tl1 th1 is1 lo1 hi1 hpn2 hs hd H locs hP hD hS ls hl
      refine lv_iload hx hb dX8_adds_33 (lv_at hl 4 rfl) ?_
      refine lv_bipush (v := 25) hx hb dX8_adds_35 (by decide) ?_
      refine lv_icmp_ge (tgt := 56) hx hb dX8_adds_37 (by decide) (fun c_37 => ?_) (fun c_37 => absurd (nI_le (a := 25) (by omega) (by omega)) c_37)
      refine lv_aload_n hx hb dX8_adds_56 rfl (lv_at hl 0 rfl) ?_
      refine lv_dup hx hb dX8_adds_57 rfl ?_
      refine va_get (D := D) (ci := 6) (v := .int (nI pn)) (C := RX8) (T := TX8) (N := 28) hx hb hts in_X8_adds_X8 hown hK.1 hP 0 rfl rfl 1 (by decide) (hts (.fieldLink RX8 85 "NestlimitModel" "programs" "I") (List.mem_of_getElem? (i := 2) rfl)) (fun _ h9 => h9) rfl dX8_adds_58 ?_
      refine lv_iconst (v := 1) hx hb dX8_adds_61 (by decide) ?_
      refine lv_iadd hx hb dX8_adds_62 ?_
      refine g_topi (nI_add pn 1) ?_
      refine va_put (D := D) (ci := 6) (v := .int (nI (pn + 1))) (ty := .int) (C := RX8) (T := TX8) (N := 28) hx hb hts in_X8_adds_X8 tyX8 tyX8_ok nmX8 hown hK.1 hP hD hS 0 rfl rfl 1 (by decide) (hts (.fieldLink RX8 85 "NestlimitModel" "programs" "I") (List.mem_of_getElem? (i := 2) rfl)) (fun _ h9 => h9) rfl (by decide +kernel) (rfl) (rfl) (Nat.le_of_ble_eq_true rfl) dX8_adds_63 (fun H locs hP hD hS => ?_)
      have hP : va_P D vwCl (wM y h q tw (pn + 1) (upd ki pn (nI kd)) (upd on pn (-1)) (upd ot pn (-1)) ab be zA zB zC zD zF zT fo1 lw1 hg1 at1 tl1 th1 wo wl wh is1 lo1 hi1 di su an) H := hP
      have hD : va_D A (wM y h q tw (pn + 1) (upd ki pn (nI kd)) (upd on pn (-1)) (upd ot pn (-1)) ab be zA zB zC zD zF zT fo1 lw1 hg1 at1 tl1 th1 wo wl wh is1 lo1 hi1 di su an) := hD
      refine lv_aload_n hx hb dX8_adds_66 rfl (lv_at hl 0 rfl) ?_
      refine va_get (D := D) (ci := 6) (v := .int (nI (pn + 1))) (C := RX8) (T := TX8) (N := 28) hx hb hts in_X8_adds_X8 hown hK.1 hP 0 rfl rfl 1 (by decide) (hts (.fieldLink RX8 85 "NestlimitModel" "programs" "I") (List.mem_of_getElem? (i := 2) rfl)) (fun _ h9 => h9) rfl dX8_adds_67 ?_
      refine lv_iconst (v := 1) hx hb dX8_adds_70 (by decide) ?_
      refine lv_isub hx hb dX8_adds_71 ?_
      refine g_topi (y := nI pn) (nI_pred pn) ?_
      exact W.iret (v := nI pn) hx hb hr (fun t ht hW => ⟨⟨some (.int (nI pn)), wM y h q tw (pn + 1) (upd ki pn (nI kd)) (upd on pn (-1)) (upd ot pn (-1)) ab be zA zB zC zD zF zT fo1 lw1 hg1 at1 tl1 th1 wo wl wh is1 lo1 hi1 di su an, rfl, ⟨fo1, lw1, hg1, at1, tl1, th1, is1, lo1, hi1, rfl, rfl, hs, fun p hp => hd p (by omega)⟩, rfl, by rw [ht]; exact hP⟩, by rw [← hAe]; exact hS.F ht⟩) (by rw [← hAe]; exact hS.2.2) dX8_adds_72
    | succ n ih33 =>
      intro p fo1 lw1 hg1 at1 tl1 th1 is1 lo1 hi1 hpn2 hs hd H locs hP hD hS ls hl
      refine lv_iload hx hb dX8_adds_33 (lv_at hl 4 rfl) ?_
      refine lv_bipush (v := 25) hx hb dX8_adds_35 (by decide) ?_
      refine lv_icmp_ge (tgt := 56) hx hb dX8_adds_37 (by decide) (fun c_37 => absurd c_37 (nI_ge (b := 25) (by omega) (by omega))) (fun c_37 => ?_)
      have hp25 : p < 25 := by omega
      obtain ⟨I1, hI1⟩ : ∃ z, z = mk_is kd ab be zA zB zC zD zF zT lo1 hi1 pn p (lw1 (25 * pn + p)) (hg1 (25 * pn + p)) (lw1 (25 * pn + p)) (hg1 (25 * pn + p)) := ⟨_, rfl⟩
      obtain ⟨L1, hL1⟩ : ∃ z, z = mk_lo kd ab be zA zB zC zD zF zT lo1 hi1 pn p (lw1 (25 * pn + p)) (hg1 (25 * pn + p)) (lw1 (25 * pn + p)) (hg1 (25 * pn + p)) := ⟨_, rfl⟩
      obtain ⟨H1, hH1⟩ : ∃ z, z = mk_hi kd ab be zA zB zC zD zF zT lo1 hi1 pn p (lw1 (25 * pn + p)) (hg1 (25 * pn + p)) (lw1 (25 * pn + p)) (hg1 (25 * pn + p)) := ⟨_, rfl⟩
      have hc9 := hcan p hp25 (lw1 (25 * pn + p)) (hg1 (25 * pn + p)) lo1 hi1
      rw [← hI1, ← hL1, ← hH1] at hc9
      have hb2 : I1 = cF p := hc9.2.1
      have hx2 : cF p = true → L1 = cL p ∧ H1 = cH p := hc9.2.2
      have hok9 := hc9.1
      refine lv_aload_n hx hb dX8_adds_40 rfl (lv_at hl 0 rfl) ?_
      refine lv_aload_n hx hb dX8_adds_41 rfl (lv_at hl 0 rfl) ?_
      refine va_get (D := D) (ci := 6) (v := .int (nI pn)) (C := RX8) (T := TX8) (N := 28) hx hb hts in_X8_adds_X8 hown hK.1 hP 0 rfl rfl 1 (by decide) (hts (.fieldLink RX8 85 "NestlimitModel" "programs" "I") (List.mem_of_getElem? (i := 2) rfl)) (fun _ h9 => h9) rfl dX8_adds_42 ?_
      refine lv_iload hx hb dX8_adds_45 (lv_at hl 4 rfl) ?_
      refine g_callAv (w0 := wM y h q tw pn (upd ki pn (nI kd)) (upd on pn (-1)) (upd ot pn (-1)) ab be zA zB zC zD zF zT (upZ fo1 ((25 * pn) + p) (I1)) (vp_updL lw1 ((25 * pn) + p) (L1)) (vp_updL hg1 ((25 * pn) + p) (H1)) (upZ at1 ((25 * pn) + p) (kaA (kaB p (at1 ((25 * pn) + p - 1))) (I1))) (vp_updL tl1 ((25 * pn) + p) (kaL (kaB p (at1 ((25 * pn) + p - 1))) (I1) (tl1 ((25 * pn) + p - 1)) (L1))) (vp_updL th1 ((25 * pn) + p) (kaH (kaB p (at1 ((25 * pn) + p - 1))) (I1) (th1 ((25 * pn) + p - 1)) (H1))) wo wl wh I1 L1 H1 di su an) (va_runV (As := [.int (nI pn), .int (nI p)]) (rest := []) ⟨hx, hb, hml, hown, hts⟩ (c_X8_keepsAt_0 l D y H.size h q tw pn (upd ki pn (nI kd)) (upd on pn (-1)) (upd ot pn (-1)) ab be zA zB zC zD zF zT fo1 lw1 hg1 at1 tl1 th1 wo wl wh is1 lo1 hi1 di su an kd pn p I1 L1 H1 hpn hp25 hkd pk_us pk_us pk_us hok9 hI1.symm hL1.symm hH1.symm) (cwV 2 hts gX8_adds_X8_keepsAt rfl rfl rfl (by decide +kernel) ⟨Nat.le_of_ble_eq_true rfl, Nat.le_of_ble_eq_true rfl⟩) (gP_VA hP hD hK 0 rfl rfl) rfl rfl hl.1 rfl (lv_room (Nat.le_of_ble_eq_true rfl)) dX8_adds_47 ⟨Nat.zero_le _, Nat.zero_le _⟩) hP hD hS hA rfl (fun H locs hP hD hS => ?_)
      refine lv_iinc (v := nI (p + 1)) (lv' := [(4, .int (nI (p + 1))), (0, .ref h), (1, .int (nI kd)), (2, .int (-1)), (3, .int (-1))]) hx hb dX8_adds_50 hl (k := 4) rfl (nI_add p 1) (by decide) rfl (fun ls hl => ?_)
      refine lv_goto (tgt := 33) hx hb dX8_adds_53 (by decide) ?_
      exact ih33 (p + 1) (upZ fo1 ((25 * pn) + p) (I1)) (vp_updL lw1 ((25 * pn) + p) (L1)) (vp_updL hg1 ((25 * pn) + p) (H1)) (upZ at1 ((25 * pn) + p) (kaA (kaB p (at1 ((25 * pn) + p - 1))) (I1))) (vp_updL tl1 ((25 * pn) + p) (kaL (kaB p (at1 ((25 * pn) + p - 1))) (I1) (tl1 ((25 * pn) + p - 1)) (L1))) (vp_updL th1 ((25 * pn) + p) (kaH (kaB p (at1 ((25 * pn) + p - 1))) (I1) (th1 ((25 * pn) + p - 1)) (H1))) I1 L1 H1 (by omega) (ad_s hs) (ad_d hp25 hd hb2 hx2) _ _ hP hD hS ls (lv_sub hl [1, 2, 3, 4, 0] rfl)
  exact LOOP33 25 0 fo lw hg at_ tl th is_ lo_ hi_ (by omega) (fun j _ => ⟨rfl, rfl, rfl, rfl, rfl, rfl⟩) (fun p' h => absurd h (Nat.not_lt_zero _)) _ _ hP hD hS ls (lv_sub hl [1, 2, 3, 4, 0] rfl)
set_option maxHeartbeats 4000000 in
set_option maxRecDepth 100000 in
theorem c_X8_adds_1 (l : Launch) (D : va_G) (y : Nat → ClassId) (sz : Nat) (h : Nat) (q : Nat → Nat) (tw : Int32) (pn : Nat) (ki on ot ab be zA zB zC zD zF zT : Nat → Int32) (fo : Nat → Bool) (lw hg : Nat → Int64) (at_ : Nat → Bool) (tl th : Nat → Int64) (wo : Nat → Bool) (wl wh : Nat → Int64) (is_ : Bool) (lo_ hi_ : Int64) (di : Nat → Int32) (su : Nat → Int64) (an : Nat → Bool) (kd : Nat) (o1 : Nat) (cF : Nat → Bool) (cL cH : Nat → Int64) (hpn : pn < 40) (hkd : kd ≤ 8) (ho1 : o1 < pn) (hcan : ∀ p, p < 25 → ∀ (x1 x2 x3 x4 : Int64), fo (25 * o1 + p) = true → mkOK kd be zF zT pn (lw (25 * o1 + p)) (hg (25 * o1 + p)) ∧ mk_is kd ab be zA zB zC zD zF zT x3 x4 pn p (lw (25 * o1 + p)) (hg (25 * o1 + p)) x1 x2 = cF p ∧ (cF p = true → mk_lo kd ab be zA zB zC zD zF zT x3 x4 pn p (lw (25 * o1 + p)) (hg (25 * o1 + p)) x1 x2 = cL p ∧ mk_hi kd ab be zA zB zC zD zF zT x3 x4 pn p (lw (25 * o1 + p)) (hg (25 * o1 + p)) x1 x2 = cH p)) (hno : ∀ p, p < 25 → ¬ fo (25 * o1 + p) = true → cF p = false) : Met l yX8_adds wsX8_adds ({ frames := 5, cells := 0, slots := 0, locals := 148 } : Room) (gP D y [.ref h, .int (nI kd), .int (nI o1), .int (-1)] (wM y h q tw pn ki on ot ab be zA zB zC zD zF zT fo lw hg at_ tl th wo wl wh is_ lo_ hi_ di su an) sz) (gQ D (wM y h q tw pn ki on ot ab be zA zB zC zD zF zT fo lw hg at_ tl th wo wl wh is_ lo_ hi_ di su an) (fun v w => ∃ (fo1 : Nat → Bool) (lw1 : Nat → Int64) (hg1 : Nat → Int64) (at1 : Nat → Bool) (tl1 : Nat → Int64) (th1 : Nat → Int64) (is1 : Bool) (lo1 : Int64) (hi1 : Int64), v = some (.int (nI pn)) ∧ w = (wM y h q tw (pn + 1) (upd ki pn (nI kd)) (upd on pn (nI o1)) (upd ot pn (-1)) ab be zA zB zC zD zF zT fo1 lw1 hg1 at1 tl1 th1 wo wl wh is1 lo1 hi1 di su an) ∧ (adS pn fo fo1 lw hg lw1 hg1 at_ at1 tl th tl1 th1) ∧ (∀ p, p < 25 → adR pn cF cL cH fo1 lw1 hg1 at1 tl1 th1 p))) 0 0 (va_A (wM y h q tw pn ki on ot ab be zA zB zC zD zF zT fo lw hg at_ tl th wo wl wh is_ lo_ hi_ di su an) sz) := by
  refine Met.ofW (cc := cX8_adds) (maxL := 5) (ret := (some .int)) (by decide) rfl ?_
  intro pg e s m args below meth c s₁ B hml hv
  obtain ⟨rfl, hsz, hP, hK, hD0⟩ := hv
  have hx := B.exec
  have hb := B.bytes
  have hr := B.returns
  have hts := atoms_spec (ws := wsX8_adds) B.pre
  have hown : s.vm.findClass RX8 = some m.cls := findClass_of_methodNamed B.named
  have hlocks := B.notSynchronized
  subst hsz
  obtain ⟨A, hAe⟩ : ∃ A : Nat → Prop, A = va_A (wM y h q tw pn ki on ot ab be zA zB zC zD zF zT fo lw hg at_ tl th wo wl wh is_ lo_ hi_ di su an) s.heap.size := ⟨_, rfl⟩
  have hD : va_D A (wM y h q tw pn ki on ot ab be zA zB zC zD zF zT fo lw hg at_ tl th wo wl wh is_ lo_ hi_ di su an) := by rw [hAe]; exact hD0.self (sz := s.heap.size)
  have hA : ∀ q : Nat, s.heap.size ≤ q → A q := fun q h => by rw [hAe]; exact Or.inr h
  have hS : va_S A s.heap s.heap [] := va_S.rf
  have hl := lv_entry ([.ref h, .int (nI kd), .int (nI o1), .int (-1)]) (n := 5) (Nat.le_of_ble_eq_true rfl)
  rw [lg_entry_eq]
  generalize (lg_sl ([.ref h, .int (nI kd), .int (nI o1), .int (-1)]) ++ List.replicate (5 - (lg_sl ([.ref h, .int (nI kd), .int (nI o1), .int (-1)])).length) Slot.unset).toArray = ls at hl ⊢
  have hl : lv_has ls 5 [(0, .ref h), (1, .int (nI kd)), (2, .int (nI o1)), (3, .int (-1))] := hl
  refine lv_aload_n hx hb dX8_adds_0 rfl (lv_at hl 0 rfl) ?_
  refine va_get (D := D) (ci := 6) (v := .ref (q 2)) (C := RX8) (T := TX8) (N := 28) hx hb hts in_X8_adds_X8 hown hK.1 hP 0 rfl rfl 2 (by decide) (hts (.fieldLink RX8 7 "NestlimitModel" "kinds" "[I") (List.mem_of_getElem? (i := 1) rfl)) (fun _ h9 => h9) rfl dX8_adds_1 ?_
  refine lv_aload_n hx hb dX8_adds_4 rfl (lv_at hl 0 rfl) ?_
  refine va_get (D := D) (ci := 6) (v := .int (nI pn)) (C := RX8) (T := TX8) (N := 28) hx hb hts in_X8_adds_X8 hown hK.1 hP 0 rfl rfl 1 (by decide) (hts (.fieldLink RX8 85 "NestlimitModel" "programs" "I") (List.mem_of_getElem? (i := 2) rfl)) (fun _ h9 => h9) rfl dX8_adds_5 ?_
  refine lv_iload_n hx hb dX8_adds_8 rfl (lv_at hl 1 rfl) ?_
  refine g_iast (k := pn) (x := nI kd) hx hb hK.1 hP hD hS 1 0 rfl rfl (hpn) (by decide) dX8_adds_9 (fun H locs hP hD hS => ?_)
  have hP : va_P D vwCl (wM y h q tw pn (upd ki pn (nI kd)) on ot ab be zA zB zC zD zF zT fo lw hg at_ tl th wo wl wh is_ lo_ hi_ di su an) H := hP
  have hD : va_D A (wM y h q tw pn (upd ki pn (nI kd)) on ot ab be zA zB zC zD zF zT fo lw hg at_ tl th wo wl wh is_ lo_ hi_ di su an) := hD
  refine lv_aload_n hx hb dX8_adds_10 rfl (lv_at hl 0 rfl) ?_
  refine va_get (D := D) (ci := 6) (v := .ref (q 3)) (C := RX8) (T := TX8) (N := 28) hx hb hts in_X8_adds_X8 hown hK.1 hP 0 rfl rfl 3 (by decide) (hts (.fieldLink RX8 13 "NestlimitModel" "ones" "[I") (List.mem_of_getElem? (i := 3) rfl)) (fun _ h9 => h9) rfl dX8_adds_11 ?_
  refine lv_aload_n hx hb dX8_adds_14 rfl (lv_at hl 0 rfl) ?_
  refine va_get (D := D) (ci := 6) (v := .int (nI pn)) (C := RX8) (T := TX8) (N := 28) hx hb hts in_X8_adds_X8 hown hK.1 hP 0 rfl rfl 1 (by decide) (hts (.fieldLink RX8 85 "NestlimitModel" "programs" "I") (List.mem_of_getElem? (i := 2) rfl)) (fun _ h9 => h9) rfl dX8_adds_15 ?_
  refine lv_iload_n hx hb dX8_adds_18 rfl (lv_at hl 2 rfl) ?_
  refine g_iast (k := pn) (x := nI o1) hx hb hK.1 hP hD hS 2 0 rfl rfl (hpn) (by decide) dX8_adds_19 (fun H locs hP hD hS => ?_)
  have hP : va_P D vwCl (wM y h q tw pn (upd ki pn (nI kd)) (upd on pn (nI o1)) ot ab be zA zB zC zD zF zT fo lw hg at_ tl th wo wl wh is_ lo_ hi_ di su an) H := hP
  have hD : va_D A (wM y h q tw pn (upd ki pn (nI kd)) (upd on pn (nI o1)) ot ab be zA zB zC zD zF zT fo lw hg at_ tl th wo wl wh is_ lo_ hi_ di su an) := hD
  refine lv_aload_n hx hb dX8_adds_20 rfl (lv_at hl 0 rfl) ?_
  refine va_get (D := D) (ci := 6) (v := .ref (q 4)) (C := RX8) (T := TX8) (N := 28) hx hb hts in_X8_adds_X8 hown hK.1 hP 0 rfl rfl 4 (by decide) (hts (.fieldLink RX8 16 "NestlimitModel" "others" "[I") (List.mem_of_getElem? (i := 4) rfl)) (fun _ h9 => h9) rfl dX8_adds_21 ?_
  refine lv_aload_n hx hb dX8_adds_24 rfl (lv_at hl 0 rfl) ?_
  refine va_get (D := D) (ci := 6) (v := .int (nI pn)) (C := RX8) (T := TX8) (N := 28) hx hb hts in_X8_adds_X8 hown hK.1 hP 0 rfl rfl 1 (by decide) (hts (.fieldLink RX8 85 "NestlimitModel" "programs" "I") (List.mem_of_getElem? (i := 2) rfl)) (fun _ h9 => h9) rfl dX8_adds_25 ?_
  refine lv_iload_n hx hb dX8_adds_28 rfl (lv_at hl 3 rfl) ?_
  refine g_iast (k := pn) (x := -1) hx hb hK.1 hP hD hS 3 0 rfl rfl (hpn) (by decide) dX8_adds_29 (fun H locs hP hD hS => ?_)
  have hP : va_P D vwCl (wM y h q tw pn (upd ki pn (nI kd)) (upd on pn (nI o1)) (upd ot pn (-1)) ab be zA zB zC zD zF zT fo lw hg at_ tl th wo wl wh is_ lo_ hi_ di su an) H := hP
  have hD : va_D A (wM y h q tw pn (upd ki pn (nI kd)) (upd on pn (nI o1)) (upd ot pn (-1)) ab be zA zB zC zD zF zT fo lw hg at_ tl th wo wl wh is_ lo_ hi_ di su an) := hD
  refine lv_iconst (v := 0) hx hb dX8_adds_30 (by decide) ?_
  refine lv_istore (lv' := [(4, .int 0), (0, .ref h), (1, .int (nI kd)), (2, .int (nI o1)), (3, .int (-1))]) hx hb dX8_adds_31 hl (by decide) rfl (fun ls hl => ?_)
  have LOOP33 : ∀ (n : Nat) (p : Nat) (fo1 : Nat → Bool) (lw1 : Nat → Int64) (hg1 : Nat → Int64) (at1 : Nat → Bool) (tl1 : Nat → Int64) (th1 : Nat → Int64) (is1 : Bool) (lo1 : Int64) (hi1 : Int64), (p + n = 25) → (adS pn fo fo1 lw hg lw1 hg1 at_ at1 tl th tl1 th1) → (∀ p', p' < p → adR pn cF cL cH fo1 lw1 hg1 at1 tl1 th1 p') → ∀ (H : Heap) (locs : List Loc), va_P D vwCl (wM y h q tw pn (upd ki pn (nI kd)) (upd on pn (nI o1)) (upd ot pn (-1)) ab be zA zB zC zD zF zT fo1 lw1 hg1 at1 tl1 th1 wo wl wh is1 lo1 hi1 di su an) H → va_D A (wM y h q tw pn (upd ki pn (nI kd)) (upd on pn (nI o1)) (upd ot pn (-1)) ab be zA zB zC zD zF zT fo1 lw1 hg1 at1 tl1 th1 wo wl wh is1 lo1 hi1 di su an) → va_S A s.heap H locs → ∀ (ls : Array Slot), lv_has ls 5 [(0, .ref h), (1, .int (nI kd)), (2, .int (nI o1)), (3, .int (-1)), (4, .int (nI p))] → W pg l e (headSpec wsX8_adds ({ frames := 5, cells := 0, slots := 0, locals := 148 } : Room)).room s m (([.ref h, .int (nI kd), .int (nI o1), .int (-1)] : List Value).toArray) below meth c H locs 0 0 (MQ below (gQ D (wM y h q tw pn ki on ot ab be zA zB zC zD zF zT fo lw hg at_ tl th wo wl wh is_ lo_ hi_ di su an) (fun v w => ∃ (fo1 : Nat → Bool) (lw1 : Nat → Int64) (hg1 : Nat → Int64) (at1 : Nat → Bool) (tl1 : Nat → Int64) (th1 : Nat → Int64) (is1 : Bool) (lo1 : Int64) (hi1 : Int64), v = some (.int (nI pn)) ∧ w = (wM y h q tw (pn + 1) (upd ki pn (nI kd)) (upd on pn (nI o1)) (upd ot pn (-1)) ab be zA zB zC zD zF zT fo1 lw1 hg1 at1 tl1 th1 wo wl wh is1 lo1 hi1 di su an) ∧ (adS pn fo fo1 lw hg lw1 hg1 at_ at1 tl th tl1 th1) ∧ (∀ p, p < 25 → adR pn cF cL cH fo1 lw1 hg1 at1 tl1 th1 p))) (([.ref h, .int (nI kd), .int (nI o1), .int (-1)] : List Value).toArray) s 0 0 (va_A (wM y h q tw pn ki on ot ab be zA zB zC zD zF zT fo lw hg at_ tl th wo wl wh is_ lo_ hi_ di su an) s.heap.size)) (F0 m 33 ls []) := by
    intro n
    induction n with
    | zero =>
      intro p fo1 lw1 hg1 at1 tl1 th1 is1 lo1 hi1 hpn2 hs hd H locs hP hD hS ls hl
      refine lv_iload hx hb dX8_adds_33 (lv_at hl 4 rfl) ?_
      refine lv_bipush (v := 25) hx hb dX8_adds_35 (by decide) ?_
      refine lv_icmp_ge (tgt := 56) hx hb dX8_adds_37 (by decide) (fun c_37 => ?_) (fun c_37 => absurd (nI_le (a := 25) (by omega) (by omega)) c_37)
      refine lv_aload_n hx hb dX8_adds_56 rfl (lv_at hl 0 rfl) ?_
      refine lv_dup hx hb dX8_adds_57 rfl ?_
      refine va_get (D := D) (ci := 6) (v := .int (nI pn)) (C := RX8) (T := TX8) (N := 28) hx hb hts in_X8_adds_X8 hown hK.1 hP 0 rfl rfl 1 (by decide) (hts (.fieldLink RX8 85 "NestlimitModel" "programs" "I") (List.mem_of_getElem? (i := 2) rfl)) (fun _ h9 => h9) rfl dX8_adds_58 ?_
      refine lv_iconst (v := 1) hx hb dX8_adds_61 (by decide) ?_
      refine lv_iadd hx hb dX8_adds_62 ?_
      refine g_topi (nI_add pn 1) ?_
      refine va_put (D := D) (ci := 6) (v := .int (nI (pn + 1))) (ty := .int) (C := RX8) (T := TX8) (N := 28) hx hb hts in_X8_adds_X8 tyX8 tyX8_ok nmX8 hown hK.1 hP hD hS 0 rfl rfl 1 (by decide) (hts (.fieldLink RX8 85 "NestlimitModel" "programs" "I") (List.mem_of_getElem? (i := 2) rfl)) (fun _ h9 => h9) rfl (by decide +kernel) (rfl) (rfl) (Nat.le_of_ble_eq_true rfl) dX8_adds_63 (fun H locs hP hD hS => ?_)
      have hP : va_P D vwCl (wM y h q tw (pn + 1) (upd ki pn (nI kd)) (upd on pn (nI o1)) (upd ot pn (-1)) ab be zA zB zC zD zF zT fo1 lw1 hg1 at1 tl1 th1 wo wl wh is1 lo1 hi1 di su an) H := hP
      have hD : va_D A (wM y h q tw (pn + 1) (upd ki pn (nI kd)) (upd on pn (nI o1)) (upd ot pn (-1)) ab be zA zB zC zD zF zT fo1 lw1 hg1 at1 tl1 th1 wo wl wh is1 lo1 hi1 di su an) := hD
      refine lv_aload_n hx hb dX8_adds_66 rfl (lv_at hl 0 rfl) ?_
      refine va_get (D := D) (ci := 6) (v := .int (nI (pn + 1))) (C := RX8) (T := TX8) (N := 28) hx hb hts in_X8_adds_X8 hown hK.1 hP 0 rfl rfl 1 (by decide) (hts (.fieldLink RX8 85 "NestlimitModel" "programs" "I") (List.mem_of_getElem? (i := 2) rfl)) (fun _ h9 => h9) rfl dX8_adds_67 ?_
      refine lv_iconst (v := 1) hx hb dX8_adds_70 (by decide) ?_
      refine lv_isub hx hb dX8_adds_71 ?_
      refine g_topi (y := nI pn) (nI_pred pn) ?_
      exact W.iret (v := nI pn) hx hb hr (fun t ht hW => ⟨⟨some (.int (nI pn)), wM y h q tw (pn + 1) (upd ki pn (nI kd)) (upd on pn (nI o1)) (upd ot pn (-1)) ab be zA zB zC zD zF zT fo1 lw1 hg1 at1 tl1 th1 wo wl wh is1 lo1 hi1 di su an, rfl, ⟨fo1, lw1, hg1, at1, tl1, th1, is1, lo1, hi1, rfl, rfl, hs, fun p hp => hd p (by omega)⟩, rfl, by rw [ht]; exact hP⟩, by rw [← hAe]; exact hS.F ht⟩) (by rw [← hAe]; exact hS.2.2) dX8_adds_72
    | succ n ih33 =>
      intro p fo1 lw1 hg1 at1 tl1 th1 is1 lo1 hi1 hpn2 hs hd H locs hP hD hS ls hl
      refine lv_iload hx hb dX8_adds_33 (lv_at hl 4 rfl) ?_
      refine lv_bipush (v := 25) hx hb dX8_adds_35 (by decide) ?_
      refine lv_icmp_ge (tgt := 56) hx hb dX8_adds_37 (by decide) (fun c_37 => absurd c_37 (nI_ge (b := 25) (by omega) (by omega))) (fun c_37 => ?_)
      have hp25 : p < 25 := by omega
      obtain ⟨s11, s12, s13, -, -, -⟩ := hs (25 * o1 + p) (by omega)
      obtain ⟨I1, hI1⟩ : ∃ z, z = mk_is kd ab be zA zB zC zD zF zT lo1 hi1 pn p (lw1 (25 * o1 + p)) (hg1 (25 * o1 + p)) (lw1 (25 * pn + p)) (hg1 (25 * pn + p)) := ⟨_, rfl⟩
      obtain ⟨L1, hL1⟩ : ∃ z, z = mk_lo kd ab be zA zB zC zD zF zT lo1 hi1 pn p (lw1 (25 * o1 + p)) (hg1 (25 * o1 + p)) (lw1 (25 * pn + p)) (hg1 (25 * pn + p)) := ⟨_, rfl⟩
      obtain ⟨H1, hH1⟩ : ∃ z, z = mk_hi kd ab be zA zB zC zD zF zT lo1 hi1 pn p (lw1 (25 * o1 + p)) (hg1 (25 * o1 + p)) (lw1 (25 * pn + p)) (hg1 (25 * pn + p)) := ⟨_, rfl⟩
      rw [s12, s13] at hI1 hL1 hH1
      have hc9 := hcan p hp25 (lw1 (25 * pn + p)) (hg1 (25 * pn + p)) lo1 hi1
      rw [← hI1, ← hL1, ← hH1] at hc9
      have hb2 : gI1 (fo1 (25 * o1 + p)) I1 = cF p := by
        unfold gI1
        rw [s11]
        by_cases z : fo (25 * o1 + p) = true
        · rw [if_pos z]; exact (hc9 z).2.1
        · rw [if_neg z]; exact (hno p hp25 z).symm
      have hx2 : cF p = true → gL1 (fo1 (25 * o1 + p)) L1 lo1 = cL p ∧ gL1 (fo1 (25 * o1 + p)) H1 hi1 = cH p := by
        intro z9
        unfold gL1
        rw [s11]
        by_cases z : fo (25 * o1 + p) = true
        · rw [if_pos z, if_pos z]; exact (hc9 z).2.2 z9
        · rw [hno p hp25 z] at z9; exact absurd z9 (by decide)
      refine lv_aload_n hx hb dX8_adds_40 rfl (lv_at hl 0 rfl) ?_
      refine lv_aload_n hx hb dX8_adds_41 rfl (lv_at hl 0 rfl) ?_
      refine va_get (D := D) (ci := 6) (v := .int (nI pn)) (C := RX8) (T := TX8) (N := 28) hx hb hts in_X8_adds_X8 hown hK.1 hP 0 rfl rfl 1 (by decide) (hts (.fieldLink RX8 85 "NestlimitModel" "programs" "I") (List.mem_of_getElem? (i := 2) rfl)) (fun _ h9 => h9) rfl dX8_adds_42 ?_
      refine lv_iload hx hb dX8_adds_45 (lv_at hl 4 rfl) ?_
      refine g_callAv (w0 := wM y h q tw pn (upd ki pn (nI kd)) (upd on pn (nI o1)) (upd ot pn (-1)) ab be zA zB zC zD zF zT (upZ fo1 ((25 * pn) + p) (gI1 (fo1 (25 * o1 + p)) I1)) (vp_updL lw1 ((25 * pn) + p) (gL1 (fo1 (25 * o1 + p)) L1 lo1)) (vp_updL hg1 ((25 * pn) + p) (gL1 (fo1 (25 * o1 + p)) H1 hi1)) (upZ at1 ((25 * pn) + p) (kaA (kaB p (at1 ((25 * pn) + p - 1))) (gI1 (fo1 (25 * o1 + p)) I1))) (vp_updL tl1 ((25 * pn) + p) (kaL (kaB p (at1 ((25 * pn) + p - 1))) (gI1 (fo1 (25 * o1 + p)) I1) (tl1 ((25 * pn) + p - 1)) (gL1 (fo1 (25 * o1 + p)) L1 lo1))) (vp_updL th1 ((25 * pn) + p) (kaH (kaB p (at1 ((25 * pn) + p - 1))) (gI1 (fo1 (25 * o1 + p)) I1) (th1 ((25 * pn) + p - 1)) (gL1 (fo1 (25 * o1 + p)) H1 hi1))) wo wl wh (gI1 (fo1 (25 * o1 + p)) I1) (gL1 (fo1 (25 * o1 + p)) L1 lo1) (gL1 (fo1 (25 * o1 + p)) H1 hi1) di su an) (va_runV (As := [.int (nI pn), .int (nI p)]) (rest := []) ⟨hx, hb, hml, hown, hts⟩ (c_X8_keepsAt_1 l D y H.size h q tw pn (upd ki pn (nI kd)) (upd on pn (nI o1)) (upd ot pn (-1)) ab be zA zB zC zD zF zT fo1 lw1 hg1 at1 tl1 th1 wo wl wh is1 lo1 hi1 di su an kd pn p o1 I1 L1 H1 hpn hp25 hkd pk_us pk_us (by omega) pk_us (fun z => by rw [s12, s13]; rw [s11] at z; exact (hc9 z).1) (fun _ => by rw [s12, s13]; exact hI1.symm) (fun _ => by rw [s12, s13]; exact hL1.symm) (fun _ => by rw [s12, s13]; exact hH1.symm)) (cwV 2 hts gX8_adds_X8_keepsAt rfl rfl rfl (by decide +kernel) ⟨Nat.le_of_ble_eq_true rfl, Nat.le_of_ble_eq_true rfl⟩) (gP_VA hP hD hK 0 rfl rfl) rfl rfl hl.1 rfl (lv_room (Nat.le_of_ble_eq_true rfl)) dX8_adds_47 ⟨Nat.zero_le _, Nat.zero_le _⟩) hP hD hS hA rfl (fun H locs hP hD hS => ?_)
      refine lv_iinc (v := nI (p + 1)) (lv' := [(4, .int (nI (p + 1))), (0, .ref h), (1, .int (nI kd)), (2, .int (nI o1)), (3, .int (-1))]) hx hb dX8_adds_50 hl (k := 4) rfl (nI_add p 1) (by decide) rfl (fun ls hl => ?_)
      refine lv_goto (tgt := 33) hx hb dX8_adds_53 (by decide) ?_
      exact ih33 (p + 1) (upZ fo1 ((25 * pn) + p) (gI1 (fo1 (25 * o1 + p)) I1)) (vp_updL lw1 ((25 * pn) + p) (gL1 (fo1 (25 * o1 + p)) L1 lo1)) (vp_updL hg1 ((25 * pn) + p) (gL1 (fo1 (25 * o1 + p)) H1 hi1)) (upZ at1 ((25 * pn) + p) (kaA (kaB p (at1 ((25 * pn) + p - 1))) (gI1 (fo1 (25 * o1 + p)) I1))) (vp_updL tl1 ((25 * pn) + p) (kaL (kaB p (at1 ((25 * pn) + p - 1))) (gI1 (fo1 (25 * o1 + p)) I1) (tl1 ((25 * pn) + p - 1)) (gL1 (fo1 (25 * o1 + p)) L1 lo1))) (vp_updL th1 ((25 * pn) + p) (kaH (kaB p (at1 ((25 * pn) + p - 1))) (gI1 (fo1 (25 * o1 + p)) I1) (th1 ((25 * pn) + p - 1)) (gL1 (fo1 (25 * o1 + p)) H1 hi1))) (gI1 (fo1 (25 * o1 + p)) I1) (gL1 (fo1 (25 * o1 + p)) L1 lo1) (gL1 (fo1 (25 * o1 + p)) H1 hi1) (by omega) (ad_s hs) (ad_d hp25 hd hb2 hx2) _ _ hP hD hS ls (lv_sub hl [1, 2, 3, 4, 0] rfl)
  exact LOOP33 25 0 fo lw hg at_ tl th is_ lo_ hi_ (by omega) (fun j _ => ⟨rfl, rfl, rfl, rfl, rfl, rfl⟩) (fun p' h => absurd h (Nat.not_lt_zero _)) _ _ hP hD hS ls (lv_sub hl [1, 2, 3, 4, 0] rfl)
set_option maxHeartbeats 4000000 in
set_option maxRecDepth 100000 in
theorem c_X8_adds_2 (l : Launch) (D : va_G) (y : Nat → ClassId) (sz : Nat) (h : Nat) (q : Nat → Nat) (tw : Int32) (pn : Nat) (ki on ot ab be zA zB zC zD zF zT : Nat → Int32) (fo : Nat → Bool) (lw hg : Nat → Int64) (at_ : Nat → Bool) (tl th : Nat → Int64) (wo : Nat → Bool) (wl wh : Nat → Int64) (is_ : Bool) (lo_ hi_ : Int64) (di : Nat → Int32) (su : Nat → Int64) (an : Nat → Bool) (kd : Nat) (o1 o2 : Nat) (cF : Nat → Bool) (cL cH : Nat → Int64) (hpn : pn < 40) (hkd : kd ≤ 8) (ho1 : o1 < pn) (ho2 : o2 < pn) (hcan : ∀ p, p < 25 → ∀ (x1 x2 x3 x4 : Int64), fo (25 * o1 + p) = true → fo (25 * o2 + p) = true → mkOK kd be zF zT pn (lw (25 * o1 + p)) (hg (25 * o1 + p)) ∧ mk_is kd ab be zA zB zC zD zF zT x3 x4 pn p (lw (25 * o1 + p)) (hg (25 * o1 + p)) (lw (25 * o2 + p)) (hg (25 * o2 + p)) = cF p ∧ (cF p = true → mk_lo kd ab be zA zB zC zD zF zT x3 x4 pn p (lw (25 * o1 + p)) (hg (25 * o1 + p)) (lw (25 * o2 + p)) (hg (25 * o2 + p)) = cL p ∧ mk_hi kd ab be zA zB zC zD zF zT x3 x4 pn p (lw (25 * o1 + p)) (hg (25 * o1 + p)) (lw (25 * o2 + p)) (hg (25 * o2 + p)) = cH p)) (hno : ∀ p, p < 25 → ¬ (fo (25 * o1 + p) = true ∧ fo (25 * o2 + p) = true) → cF p = false) : Met l yX8_adds wsX8_adds ({ frames := 5, cells := 0, slots := 0, locals := 148 } : Room) (gP D y [.ref h, .int (nI kd), .int (nI o1), .int (nI o2)] (wM y h q tw pn ki on ot ab be zA zB zC zD zF zT fo lw hg at_ tl th wo wl wh is_ lo_ hi_ di su an) sz) (gQ D (wM y h q tw pn ki on ot ab be zA zB zC zD zF zT fo lw hg at_ tl th wo wl wh is_ lo_ hi_ di su an) (fun v w => ∃ (fo1 : Nat → Bool) (lw1 : Nat → Int64) (hg1 : Nat → Int64) (at1 : Nat → Bool) (tl1 : Nat → Int64) (th1 : Nat → Int64) (is1 : Bool) (lo1 : Int64) (hi1 : Int64), v = some (.int (nI pn)) ∧ w = (wM y h q tw (pn + 1) (upd ki pn (nI kd)) (upd on pn (nI o1)) (upd ot pn (nI o2)) ab be zA zB zC zD zF zT fo1 lw1 hg1 at1 tl1 th1 wo wl wh is1 lo1 hi1 di su an) ∧ (adS pn fo fo1 lw hg lw1 hg1 at_ at1 tl th tl1 th1) ∧ (∀ p, p < 25 → adR pn cF cL cH fo1 lw1 hg1 at1 tl1 th1 p))) 0 0 (va_A (wM y h q tw pn ki on ot ab be zA zB zC zD zF zT fo lw hg at_ tl th wo wl wh is_ lo_ hi_ di su an) sz) := by
  refine Met.ofW (cc := cX8_adds) (maxL := 5) (ret := (some .int)) (by decide) rfl ?_
  intro pg e s m args below meth c s₁ B hml hv
  obtain ⟨rfl, hsz, hP, hK, hD0⟩ := hv
  have hx := B.exec
  have hb := B.bytes
  have hr := B.returns
  have hts := atoms_spec (ws := wsX8_adds) B.pre
  have hown : s.vm.findClass RX8 = some m.cls := findClass_of_methodNamed B.named
  have hlocks := B.notSynchronized
  subst hsz
  obtain ⟨A, hAe⟩ : ∃ A : Nat → Prop, A = va_A (wM y h q tw pn ki on ot ab be zA zB zC zD zF zT fo lw hg at_ tl th wo wl wh is_ lo_ hi_ di su an) s.heap.size := ⟨_, rfl⟩
  have hD : va_D A (wM y h q tw pn ki on ot ab be zA zB zC zD zF zT fo lw hg at_ tl th wo wl wh is_ lo_ hi_ di su an) := by rw [hAe]; exact hD0.self (sz := s.heap.size)
  have hA : ∀ q : Nat, s.heap.size ≤ q → A q := fun q h => by rw [hAe]; exact Or.inr h
  have hS : va_S A s.heap s.heap [] := va_S.rf
  have hl := lv_entry ([.ref h, .int (nI kd), .int (nI o1), .int (nI o2)]) (n := 5) (Nat.le_of_ble_eq_true rfl)
  rw [lg_entry_eq]
  generalize (lg_sl ([.ref h, .int (nI kd), .int (nI o1), .int (nI o2)]) ++ List.replicate (5 - (lg_sl ([.ref h, .int (nI kd), .int (nI o1), .int (nI o2)])).length) Slot.unset).toArray = ls at hl ⊢
  have hl : lv_has ls 5 [(0, .ref h), (1, .int (nI kd)), (2, .int (nI o1)), (3, .int (nI o2))] := hl
  refine lv_aload_n hx hb dX8_adds_0 rfl (lv_at hl 0 rfl) ?_
  refine va_get (D := D) (ci := 6) (v := .ref (q 2)) (C := RX8) (T := TX8) (N := 28) hx hb hts in_X8_adds_X8 hown hK.1 hP 0 rfl rfl 2 (by decide) (hts (.fieldLink RX8 7 "NestlimitModel" "kinds" "[I") (List.mem_of_getElem? (i := 1) rfl)) (fun _ h9 => h9) rfl dX8_adds_1 ?_
  refine lv_aload_n hx hb dX8_adds_4 rfl (lv_at hl 0 rfl) ?_
  refine va_get (D := D) (ci := 6) (v := .int (nI pn)) (C := RX8) (T := TX8) (N := 28) hx hb hts in_X8_adds_X8 hown hK.1 hP 0 rfl rfl 1 (by decide) (hts (.fieldLink RX8 85 "NestlimitModel" "programs" "I") (List.mem_of_getElem? (i := 2) rfl)) (fun _ h9 => h9) rfl dX8_adds_5 ?_
  refine lv_iload_n hx hb dX8_adds_8 rfl (lv_at hl 1 rfl) ?_
  refine g_iast (k := pn) (x := nI kd) hx hb hK.1 hP hD hS 1 0 rfl rfl (hpn) (by decide) dX8_adds_9 (fun H locs hP hD hS => ?_)
  have hP : va_P D vwCl (wM y h q tw pn (upd ki pn (nI kd)) on ot ab be zA zB zC zD zF zT fo lw hg at_ tl th wo wl wh is_ lo_ hi_ di su an) H := hP
  have hD : va_D A (wM y h q tw pn (upd ki pn (nI kd)) on ot ab be zA zB zC zD zF zT fo lw hg at_ tl th wo wl wh is_ lo_ hi_ di su an) := hD
  refine lv_aload_n hx hb dX8_adds_10 rfl (lv_at hl 0 rfl) ?_
  refine va_get (D := D) (ci := 6) (v := .ref (q 3)) (C := RX8) (T := TX8) (N := 28) hx hb hts in_X8_adds_X8 hown hK.1 hP 0 rfl rfl 3 (by decide) (hts (.fieldLink RX8 13 "NestlimitModel" "ones" "[I") (List.mem_of_getElem? (i := 3) rfl)) (fun _ h9 => h9) rfl dX8_adds_11 ?_
  refine lv_aload_n hx hb dX8_adds_14 rfl (lv_at hl 0 rfl) ?_
  refine va_get (D := D) (ci := 6) (v := .int (nI pn)) (C := RX8) (T := TX8) (N := 28) hx hb hts in_X8_adds_X8 hown hK.1 hP 0 rfl rfl 1 (by decide) (hts (.fieldLink RX8 85 "NestlimitModel" "programs" "I") (List.mem_of_getElem? (i := 2) rfl)) (fun _ h9 => h9) rfl dX8_adds_15 ?_
  refine lv_iload_n hx hb dX8_adds_18 rfl (lv_at hl 2 rfl) ?_
  refine g_iast (k := pn) (x := nI o1) hx hb hK.1 hP hD hS 2 0 rfl rfl (hpn) (by decide) dX8_adds_19 (fun H locs hP hD hS => ?_)
  have hP : va_P D vwCl (wM y h q tw pn (upd ki pn (nI kd)) (upd on pn (nI o1)) ot ab be zA zB zC zD zF zT fo lw hg at_ tl th wo wl wh is_ lo_ hi_ di su an) H := hP
  have hD : va_D A (wM y h q tw pn (upd ki pn (nI kd)) (upd on pn (nI o1)) ot ab be zA zB zC zD zF zT fo lw hg at_ tl th wo wl wh is_ lo_ hi_ di su an) := hD
  refine lv_aload_n hx hb dX8_adds_20 rfl (lv_at hl 0 rfl) ?_
  refine va_get (D := D) (ci := 6) (v := .ref (q 4)) (C := RX8) (T := TX8) (N := 28) hx hb hts in_X8_adds_X8 hown hK.1 hP 0 rfl rfl 4 (by decide) (hts (.fieldLink RX8 16 "NestlimitModel" "others" "[I") (List.mem_of_getElem? (i := 4) rfl)) (fun _ h9 => h9) rfl dX8_adds_21 ?_
  refine lv_aload_n hx hb dX8_adds_24 rfl (lv_at hl 0 rfl) ?_
  refine va_get (D := D) (ci := 6) (v := .int (nI pn)) (C := RX8) (T := TX8) (N := 28) hx hb hts in_X8_adds_X8 hown hK.1 hP 0 rfl rfl 1 (by decide) (hts (.fieldLink RX8 85 "NestlimitModel" "programs" "I") (List.mem_of_getElem? (i := 2) rfl)) (fun _ h9 => h9) rfl dX8_adds_25 ?_
  refine lv_iload_n hx hb dX8_adds_28 rfl (lv_at hl 3 rfl) ?_
  refine g_iast (k := pn) (x := nI o2) hx hb hK.1 hP hD hS 3 0 rfl rfl (hpn) (by decide) dX8_adds_29 (fun H locs hP hD hS => ?_)
  have hP : va_P D vwCl (wM y h q tw pn (upd ki pn (nI kd)) (upd on pn (nI o1)) (upd ot pn (nI o2)) ab be zA zB zC zD zF zT fo lw hg at_ tl th wo wl wh is_ lo_ hi_ di su an) H := hP
  have hD : va_D A (wM y h q tw pn (upd ki pn (nI kd)) (upd on pn (nI o1)) (upd ot pn (nI o2)) ab be zA zB zC zD zF zT fo lw hg at_ tl th wo wl wh is_ lo_ hi_ di su an) := hD
  refine lv_iconst (v := 0) hx hb dX8_adds_30 (by decide) ?_
  refine lv_istore (lv' := [(4, .int 0), (0, .ref h), (1, .int (nI kd)), (2, .int (nI o1)), (3, .int (nI o2))]) hx hb dX8_adds_31 hl (by decide) rfl (fun ls hl => ?_)
  have LOOP33 : ∀ (n : Nat) (p : Nat) (fo1 : Nat → Bool) (lw1 : Nat → Int64) (hg1 : Nat → Int64) (at1 : Nat → Bool) (tl1 : Nat → Int64) (th1 : Nat → Int64) (is1 : Bool) (lo1 : Int64) (hi1 : Int64), (p + n = 25) → (adS pn fo fo1 lw hg lw1 hg1 at_ at1 tl th tl1 th1) → (∀ p', p' < p → adR pn cF cL cH fo1 lw1 hg1 at1 tl1 th1 p') → ∀ (H : Heap) (locs : List Loc), va_P D vwCl (wM y h q tw pn (upd ki pn (nI kd)) (upd on pn (nI o1)) (upd ot pn (nI o2)) ab be zA zB zC zD zF zT fo1 lw1 hg1 at1 tl1 th1 wo wl wh is1 lo1 hi1 di su an) H → va_D A (wM y h q tw pn (upd ki pn (nI kd)) (upd on pn (nI o1)) (upd ot pn (nI o2)) ab be zA zB zC zD zF zT fo1 lw1 hg1 at1 tl1 th1 wo wl wh is1 lo1 hi1 di su an) → va_S A s.heap H locs → ∀ (ls : Array Slot), lv_has ls 5 [(0, .ref h), (1, .int (nI kd)), (2, .int (nI o1)), (3, .int (nI o2)), (4, .int (nI p))] → W pg l e (headSpec wsX8_adds ({ frames := 5, cells := 0, slots := 0, locals := 148 } : Room)).room s m (([.ref h, .int (nI kd), .int (nI o1), .int (nI o2)] : List Value).toArray) below meth c H locs 0 0 (MQ below (gQ D (wM y h q tw pn ki on ot ab be zA zB zC zD zF zT fo lw hg at_ tl th wo wl wh is_ lo_ hi_ di su an) (fun v w => ∃ (fo1 : Nat → Bool) (lw1 : Nat → Int64) (hg1 : Nat → Int64) (at1 : Nat → Bool) (tl1 : Nat → Int64) (th1 : Nat → Int64) (is1 : Bool) (lo1 : Int64) (hi1 : Int64), v = some (.int (nI pn)) ∧ w = (wM y h q tw (pn + 1) (upd ki pn (nI kd)) (upd on pn (nI o1)) (upd ot pn (nI o2)) ab be zA zB zC zD zF zT fo1 lw1 hg1 at1 tl1 th1 wo wl wh is1 lo1 hi1 di su an) ∧ (adS pn fo fo1 lw hg lw1 hg1 at_ at1 tl th tl1 th1) ∧ (∀ p, p < 25 → adR pn cF cL cH fo1 lw1 hg1 at1 tl1 th1 p))) (([.ref h, .int (nI kd), .int (nI o1), .int (nI o2)] : List Value).toArray) s 0 0 (va_A (wM y h q tw pn ki on ot ab be zA zB zC zD zF zT fo lw hg at_ tl th wo wl wh is_ lo_ hi_ di su an) s.heap.size)) (F0 m 33 ls []) := by
    intro n
    induction n with
    | zero =>
      intro p fo1 lw1 hg1 at1 tl1 th1 is1 lo1 hi1 hpn2 hs hd H locs hP hD hS ls hl
      refine lv_iload hx hb dX8_adds_33 (lv_at hl 4 rfl) ?_
      refine lv_bipush (v := 25) hx hb dX8_adds_35 (by decide) ?_
      refine lv_icmp_ge (tgt := 56) hx hb dX8_adds_37 (by decide) (fun c_37 => ?_) (fun c_37 => absurd (nI_le (a := 25) (by omega) (by omega)) c_37)
      refine lv_aload_n hx hb dX8_adds_56 rfl (lv_at hl 0 rfl) ?_
      refine lv_dup hx hb dX8_adds_57 rfl ?_
      refine va_get (D := D) (ci := 6) (v := .int (nI pn)) (C := RX8) (T := TX8) (N := 28) hx hb hts in_X8_adds_X8 hown hK.1 hP 0 rfl rfl 1 (by decide) (hts (.fieldLink RX8 85 "NestlimitModel" "programs" "I") (List.mem_of_getElem? (i := 2) rfl)) (fun _ h9 => h9) rfl dX8_adds_58 ?_
      refine lv_iconst (v := 1) hx hb dX8_adds_61 (by decide) ?_
      refine lv_iadd hx hb dX8_adds_62 ?_
      refine g_topi (nI_add pn 1) ?_
      refine va_put (D := D) (ci := 6) (v := .int (nI (pn + 1))) (ty := .int) (C := RX8) (T := TX8) (N := 28) hx hb hts in_X8_adds_X8 tyX8 tyX8_ok nmX8 hown hK.1 hP hD hS 0 rfl rfl 1 (by decide) (hts (.fieldLink RX8 85 "NestlimitModel" "programs" "I") (List.mem_of_getElem? (i := 2) rfl)) (fun _ h9 => h9) rfl (by decide +kernel) (rfl) (rfl) (Nat.le_of_ble_eq_true rfl) dX8_adds_63 (fun H locs hP hD hS => ?_)
      have hP : va_P D vwCl (wM y h q tw (pn + 1) (upd ki pn (nI kd)) (upd on pn (nI o1)) (upd ot pn (nI o2)) ab be zA zB zC zD zF zT fo1 lw1 hg1 at1 tl1 th1 wo wl wh is1 lo1 hi1 di su an) H := hP
      have hD : va_D A (wM y h q tw (pn + 1) (upd ki pn (nI kd)) (upd on pn (nI o1)) (upd ot pn (nI o2)) ab be zA zB zC zD zF zT fo1 lw1 hg1 at1 tl1 th1 wo wl wh is1 lo1 hi1 di su an) := hD
      refine lv_aload_n hx hb dX8_adds_66 rfl (lv_at hl 0 rfl) ?_
      refine va_get (D := D) (ci := 6) (v := .int (nI (pn + 1))) (C := RX8) (T := TX8) (N := 28) hx hb hts in_X8_adds_X8 hown hK.1 hP 0 rfl rfl 1 (by decide) (hts (.fieldLink RX8 85 "NestlimitModel" "programs" "I") (List.mem_of_getElem? (i := 2) rfl)) (fun _ h9 => h9) rfl dX8_adds_67 ?_
      refine lv_iconst (v := 1) hx hb dX8_adds_70 (by decide) ?_
      refine lv_isub hx hb dX8_adds_71 ?_
      refine g_topi (y := nI pn) (nI_pred pn) ?_
      exact W.iret (v := nI pn) hx hb hr (fun t ht hW => ⟨⟨some (.int (nI pn)), wM y h q tw (pn + 1) (upd ki pn (nI kd)) (upd on pn (nI o1)) (upd ot pn (nI o2)) ab be zA zB zC zD zF zT fo1 lw1 hg1 at1 tl1 th1 wo wl wh is1 lo1 hi1 di su an, rfl, ⟨fo1, lw1, hg1, at1, tl1, th1, is1, lo1, hi1, rfl, rfl, hs, fun p hp => hd p (by omega)⟩, rfl, by rw [ht]; exact hP⟩, by rw [← hAe]; exact hS.F ht⟩) (by rw [← hAe]; exact hS.2.2) dX8_adds_72
    | succ n ih33 =>
      intro p fo1 lw1 hg1 at1 tl1 th1 is1 lo1 hi1 hpn2 hs hd H locs hP hD hS ls hl
      refine lv_iload hx hb dX8_adds_33 (lv_at hl 4 rfl) ?_
      refine lv_bipush (v := 25) hx hb dX8_adds_35 (by decide) ?_
      refine lv_icmp_ge (tgt := 56) hx hb dX8_adds_37 (by decide) (fun c_37 => absurd c_37 (nI_ge (b := 25) (by omega) (by omega))) (fun c_37 => ?_)
      have hp25 : p < 25 := by omega
      obtain ⟨s11, s12, s13, -, -, -⟩ := hs (25 * o1 + p) (by omega)
      obtain ⟨s21, s22, s23, -, -, -⟩ := hs (25 * o2 + p) (by omega)
      obtain ⟨I1, hI1⟩ : ∃ z, z = mk_is kd ab be zA zB zC zD zF zT lo1 hi1 pn p (lw1 (25 * o1 + p)) (hg1 (25 * o1 + p)) (lw1 (25 * o2 + p)) (hg1 (25 * o2 + p)) := ⟨_, rfl⟩
      obtain ⟨L1, hL1⟩ : ∃ z, z = mk_lo kd ab be zA zB zC zD zF zT lo1 hi1 pn p (lw1 (25 * o1 + p)) (hg1 (25 * o1 + p)) (lw1 (25 * o2 + p)) (hg1 (25 * o2 + p)) := ⟨_, rfl⟩
      obtain ⟨H1, hH1⟩ : ∃ z, z = mk_hi kd ab be zA zB zC zD zF zT lo1 hi1 pn p (lw1 (25 * o1 + p)) (hg1 (25 * o1 + p)) (lw1 (25 * o2 + p)) (hg1 (25 * o2 + p)) := ⟨_, rfl⟩
      rw [s12, s13, s22, s23] at hI1 hL1 hH1
      have hc9 := hcan p hp25 0 0 lo1 hi1
      rw [← hI1, ← hL1, ← hH1] at hc9
      have hb2 : gI1 (fo1 (25 * o1 + p)) (gI1 (fo1 (25 * o2 + p)) I1) = cF p := by
        unfold gI1
        rw [s11, s21]
        by_cases z : fo (25 * o1 + p) = true
        · by_cases z2 : fo (25 * o2 + p) = true
          · rw [if_pos z, if_pos z2]; exact (hc9 z z2).2.1
          · rw [if_pos z, if_neg z2]; exact (hno p hp25 (fun u => z2 u.2)).symm
        · rw [if_neg z]; exact (hno p hp25 (fun u => z u.1)).symm
      have hx2 : cF p = true → gL1 (fo1 (25 * o1 + p)) (gL1 (fo1 (25 * o2 + p)) L1 lo1) lo1 = cL p ∧ gL1 (fo1 (25 * o1 + p)) (gL1 (fo1 (25 * o2 + p)) H1 hi1) hi1 = cH p := by
        intro z9
        unfold gL1
        rw [s11, s21]
        by_cases z : fo (25 * o1 + p) = true
        · by_cases z2 : fo (25 * o2 + p) = true
          · rw [if_pos z, if_pos z2, if_pos z, if_pos z2]; exact (hc9 z z2).2.2 z9
          · rw [hno p hp25 (fun u => z2 u.2)] at z9; exact absurd z9 (by decide)
        · rw [hno p hp25 (fun u => z u.1)] at z9; exact absurd z9 (by decide)
      refine lv_aload_n hx hb dX8_adds_40 rfl (lv_at hl 0 rfl) ?_
      refine lv_aload_n hx hb dX8_adds_41 rfl (lv_at hl 0 rfl) ?_
      refine va_get (D := D) (ci := 6) (v := .int (nI pn)) (C := RX8) (T := TX8) (N := 28) hx hb hts in_X8_adds_X8 hown hK.1 hP 0 rfl rfl 1 (by decide) (hts (.fieldLink RX8 85 "NestlimitModel" "programs" "I") (List.mem_of_getElem? (i := 2) rfl)) (fun _ h9 => h9) rfl dX8_adds_42 ?_
      refine lv_iload hx hb dX8_adds_45 (lv_at hl 4 rfl) ?_
      refine g_callAv (w0 := wM y h q tw pn (upd ki pn (nI kd)) (upd on pn (nI o1)) (upd ot pn (nI o2)) ab be zA zB zC zD zF zT (upZ fo1 ((25 * pn) + p) (gI1 (fo1 (25 * o1 + p)) (gI1 (fo1 (25 * o2 + p)) I1))) (vp_updL lw1 ((25 * pn) + p) (gL1 (fo1 (25 * o1 + p)) (gL1 (fo1 (25 * o2 + p)) L1 lo1) lo1)) (vp_updL hg1 ((25 * pn) + p) (gL1 (fo1 (25 * o1 + p)) (gL1 (fo1 (25 * o2 + p)) H1 hi1) hi1)) (upZ at1 ((25 * pn) + p) (kaA (kaB p (at1 ((25 * pn) + p - 1))) (gI1 (fo1 (25 * o1 + p)) (gI1 (fo1 (25 * o2 + p)) I1)))) (vp_updL tl1 ((25 * pn) + p) (kaL (kaB p (at1 ((25 * pn) + p - 1))) (gI1 (fo1 (25 * o1 + p)) (gI1 (fo1 (25 * o2 + p)) I1)) (tl1 ((25 * pn) + p - 1)) (gL1 (fo1 (25 * o1 + p)) (gL1 (fo1 (25 * o2 + p)) L1 lo1) lo1))) (vp_updL th1 ((25 * pn) + p) (kaH (kaB p (at1 ((25 * pn) + p - 1))) (gI1 (fo1 (25 * o1 + p)) (gI1 (fo1 (25 * o2 + p)) I1)) (th1 ((25 * pn) + p - 1)) (gL1 (fo1 (25 * o1 + p)) (gL1 (fo1 (25 * o2 + p)) H1 hi1) hi1))) wo wl wh (gI1 (fo1 (25 * o1 + p)) (gI1 (fo1 (25 * o2 + p)) I1)) (gL1 (fo1 (25 * o1 + p)) (gL1 (fo1 (25 * o2 + p)) L1 lo1) lo1) (gL1 (fo1 (25 * o1 + p)) (gL1 (fo1 (25 * o2 + p)) H1 hi1) hi1) di su an) (va_runV (As := [.int (nI pn), .int (nI p)]) (rest := []) ⟨hx, hb, hml, hown, hts⟩ (c_X8_keepsAt_2 l D y H.size h q tw pn (upd ki pn (nI kd)) (upd on pn (nI o1)) (upd ot pn (nI o2)) ab be zA zB zC zD zF zT fo1 lw1 hg1 at1 tl1 th1 wo wl wh is1 lo1 hi1 di su an kd pn p o1 o2 I1 L1 H1 hpn hp25 hkd pk_us pk_us (by omega) pk_us (by omega) (fun z z2 => by rw [s12, s13]; rw [s11] at z; rw [s21] at z2; exact (hc9 z z2).1) (fun _ _ => by rw [s12, s13, s22, s23]; exact hI1.symm) (fun _ _ => by rw [s12, s13, s22, s23]; exact hL1.symm) (fun _ _ => by rw [s12, s13, s22, s23]; exact hH1.symm)) (cwV 2 hts gX8_adds_X8_keepsAt rfl rfl rfl (by decide +kernel) ⟨Nat.le_of_ble_eq_true rfl, Nat.le_of_ble_eq_true rfl⟩) (gP_VA hP hD hK 0 rfl rfl) rfl rfl hl.1 rfl (lv_room (Nat.le_of_ble_eq_true rfl)) dX8_adds_47 ⟨Nat.zero_le _, Nat.zero_le _⟩) hP hD hS hA rfl (fun H locs hP hD hS => ?_)
      refine lv_iinc (v := nI (p + 1)) (lv' := [(4, .int (nI (p + 1))), (0, .ref h), (1, .int (nI kd)), (2, .int (nI o1)), (3, .int (nI o2))]) hx hb dX8_adds_50 hl (k := 4) rfl (nI_add p 1) (by decide) rfl (fun ls hl => ?_)
      refine lv_goto (tgt := 33) hx hb dX8_adds_53 (by decide) ?_
      exact ih33 (p + 1) (upZ fo1 ((25 * pn) + p) (gI1 (fo1 (25 * o1 + p)) (gI1 (fo1 (25 * o2 + p)) I1))) (vp_updL lw1 ((25 * pn) + p) (gL1 (fo1 (25 * o1 + p)) (gL1 (fo1 (25 * o2 + p)) L1 lo1) lo1)) (vp_updL hg1 ((25 * pn) + p) (gL1 (fo1 (25 * o1 + p)) (gL1 (fo1 (25 * o2 + p)) H1 hi1) hi1)) (upZ at1 ((25 * pn) + p) (kaA (kaB p (at1 ((25 * pn) + p - 1))) (gI1 (fo1 (25 * o1 + p)) (gI1 (fo1 (25 * o2 + p)) I1)))) (vp_updL tl1 ((25 * pn) + p) (kaL (kaB p (at1 ((25 * pn) + p - 1))) (gI1 (fo1 (25 * o1 + p)) (gI1 (fo1 (25 * o2 + p)) I1)) (tl1 ((25 * pn) + p - 1)) (gL1 (fo1 (25 * o1 + p)) (gL1 (fo1 (25 * o2 + p)) L1 lo1) lo1))) (vp_updL th1 ((25 * pn) + p) (kaH (kaB p (at1 ((25 * pn) + p - 1))) (gI1 (fo1 (25 * o1 + p)) (gI1 (fo1 (25 * o2 + p)) I1)) (th1 ((25 * pn) + p - 1)) (gL1 (fo1 (25 * o1 + p)) (gL1 (fo1 (25 * o2 + p)) H1 hi1) hi1))) (gI1 (fo1 (25 * o1 + p)) (gI1 (fo1 (25 * o2 + p)) I1)) (gL1 (fo1 (25 * o1 + p)) (gL1 (fo1 (25 * o2 + p)) L1 lo1) lo1) (gL1 (fo1 (25 * o1 + p)) (gL1 (fo1 (25 * o2 + p)) H1 hi1) hi1) (by omega) (ad_s hs) (ad_d hp25 hd hb2 hx2) _ _ hP hD hS ls (lv_sub hl [1, 2, 3, 4, 0] rfl)
  exact LOOP33 25 0 fo lw hg at_ tl th is_ lo_ hi_ (by omega) (fun j _ => ⟨rfl, rfl, rfl, rfl, rfl, rfl⟩) (fun p' h => absurd h (Nat.not_lt_zero _)) _ _ hP hD hS ls (lv_sub hl [1, 2, 3, 4, 0] rfl)
