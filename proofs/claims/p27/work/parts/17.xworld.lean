section GW
/-- the cells of a program: itself, the row of what it finds, the row of what is told -/
abbrev pcX (y : Nat → ClassId) (ad : Nat → Nat) (pa : Nat → Nat → Nat) (kd : Nat → Nat) (on ot : Nat → Int32) (pt : Nat → Int64) (fb : Nat → Nat → Bool) (fl fh : Nat → Nat → Int64) (tb : Nat → Nat → Bool) (tl th : Nat → Nat → Int64) (dg : Nat → Int32) (ds : Nat → Int64) (k : Nat) : va_W :=
  [(pa k 0, .inr (3, [.ref (ad (kd k)), .int (on k), .int (ot k), .long (pt k), .ref (pa k 1), .ref (pa k 5), .int (dg k), .long (ds k)])),
   (pa k 1, .inr (4, [.ref (pa k 2), .ref (pa k 3), .ref (pa k 4)])), (pa k 2, .inl (y 2, 25, .inl (gZ (fb k)))), (pa k 3, .inl (y 1, 25, .inr (.inl (fl k)))), (pa k 4, .inl (y 1, 25, .inr (.inl (fh k)))),
   (pa k 5, .inr (4, [.ref (pa k 6), .ref (pa k 7), .ref (pa k 8)])), (pa k 6, .inl (y 2, 25, .inl (gZ (tb k)))), (pa k 7, .inl (y 1, 25, .inr (.inl (tl k)))), (pa k 8, .inl (y 1, 25, .inr (.inl (th k))))]
def gPL (pc : Nat → va_W) : Nat → va_W
  | 0 => []
  | n + 1 => gPL pc n ++ pc n
theorem gPL_len {pc : Nat → va_W} (h : ∀ k, (pc k).length = 9) : ∀ n, (gPL pc n).length = 9 * n
  | 0 => rfl
  | n + 1 => by
    show (gPL pc n ++ pc n).length = _
    rw [List.length_append, gPL_len h n, h n]
    omega
theorem gPL_at {pc : Nat → va_W} (h : ∀ k, (pc k).length = 9) {k j : Nat} (hj : j < 9) : ∀ {n : Nat}, k < n → (gPL pc n)[9 * k + j]? = (pc k)[j]?
  | 0, hk => absurd hk (Nat.not_lt_zero k)
  | n + 1, hk => by
    show (gPL pc n ++ pc n)[9 * k + j]? = _
    have hl := gPL_len h n
    rcases Nat.lt_or_ge k n with q | q
    · rw [List.getElem?_append_left (by rw [hl]; omega)]
      exact gPL_at h hj q
    · have e : k = n := by omega
      subst e
      rw [List.getElem?_append_right (by rw [hl]; omega), hl, show 9 * k + j - 9 * k = j by omega]
/-- one program's cells written anew -/
theorem gPL_up {pc pc' : Nat → va_W} (h : ∀ k, (pc k).length = 9) (h' : ∀ k, (pc' k).length = 9) {k j : Nat} (hj : j < 9) {x : Nat × va_E} (he : pc' k = (pc k).set j x) (ho : ∀ i, i ≠ k → pc' i = pc i) : ∀ {n : Nat}, k < n → (gPL pc n).set (9 * k + j) x = gPL pc' n
  | 0, hk => absurd hk (Nat.not_lt_zero k)
  | n + 1, hk => by
    show (gPL pc n ++ pc n).set (9 * k + j) x = gPL pc' n ++ pc' n
    have hl := gPL_len h n
    rcases Nat.lt_or_ge k n with q | q
    · rw [List.set_append_left _ _ (by rw [hl]; omega), gPL_up h h' hj he ho q, ho n (by omega)]
    · have e : k = n := by omega
      subst e
      rw [List.set_append_right _ _ (by rw [hl]; omega), hl, show 9 * k + j - 9 * k = j by omega, he]
      have e2 : gPL pc k = gPL pc' k := by
        clear hk hl q he
        have key : ∀ m, m ≤ k → gPL pc m = gPL pc' m := by
          intro m
          induction m with
          | zero => intro _; rfl
          | succ m ih =>
            intro hm
            show gPL pc m ++ pc m = gPL pc' m ++ pc' m
            rw [ih (by omega), ho m (by omega)]
        exact key k (Nat.le_refl k)
      rw [e2]
def gPg (pa : Nat → Nat → Nat) (n : Nat) : Nat → Option Nat := fun j => if j < n then some (pa j 0) else none
theorem gPg_at {pa : Nat → Nat → Nat} {n k : Nat} (h : k < n) : va_rf (gPg pa n k) = .ref (pa k 0) := by
  unfold gPg
  rw [if_pos h]
  rfl
abbrev wX (y : Nat → ClassId) (h : Nat) (q : Nat → Nat) (n : Nat) (pg : Nat → Option Nat) (b1 : Bool) (l1 r1 : Int64) (b2 : Bool) (l2 r2 : Int64) (b3 : Bool) (l3 r3 : Int64) (uz : Nat → Bool) (ul uh : Nat → Int64) (f1 g1 f2 g2 : Int64) (PL : va_W) : va_W :=
  [(h, .inr (5, [.ref (q 0), .int (nI n), .ref (q 1), .ref (q 2), .ref (q 3), .ref (q 4), .ref (q 8), .ref (q 9)])), (q 0, .inl (y 3, 40, .inr (.inr (.inr (.inr pg))))),
   (q 1, .inr (1, [.int (gB b1), .long l1, .long r1])), (q 2, .inr (1, [.int (gB b2), .long l2, .long r2])), (q 3, .inr (1, [.int (gB b3), .long l3, .long r3])),
   (q 4, .inr (4, [.ref (q 5), .ref (q 6), .ref (q 7)])), (q 5, .inl (y 2, 40, .inl (gZ uz))), (q 6, .inl (y 1, 40, .inr (.inl ul))), (q 7, .inl (y 1, 40, .inr (.inl uh))),
   (q 8, .inr (0, [.long f1, .long g1])), (q 9, .inr (0, [.long f2, .long g2]))] ++ PL
variable {p : Program} {l : Launch} {e : Env} {R : Room} {s : State} {m : MethodId} {args : Array Value} {below : List Frame} {meth : Method} {c : Code} {H : Heap} {locs : List Loc} {cells slots : Nat} {Q : State → Prop}
variable {pc : Nat} {ls : Array Slot} {rest st0 : List Value} {a : Array Value} {A : Nat → Prop} {H0 : Heap}
theorem g_topv {v w : Value} (h : v = w) (k : W p l e R s m args below meth c H locs cells slots Q (F0 m pc ls (w :: rest))) : W p l e R s m args below meth c H locs cells slots Q (F0 m pc ls (v :: rest)) := h ▸ k
/-- cells of a world, by places that a proof finds -/
theorem gD_is {ws wc : va_W} (hD : va_D A ws) (is : List Nat) (hn : is.Nodup) (hC : is.map (fun i => ws[i]?) = wc.map some) : va_D (fun _ => True) wc := by
  refine ⟨fun i j x z hi hj hxy => ?_, fun _ _ _ => trivial⟩
  obtain ⟨a, h1, h2⟩ := gPick hC hi
  obtain ⟨b, h3, h4⟩ := gPick hC hj
  have hab := hD.1 a b x z h2 h4 hxy
  subst hab
  have hi2 := (List.getElem?_eq_some_iff.mp h1)
  have hj2 := (List.getElem?_eq_some_iff.mp h3)
  exact (List.getElem_inj (h₀ := hi2.1) (h₁ := hj2.1) hn).mp (hi2.2.trans hj2.2.symm)
theorem gP_SI {D : va_G} {y : Nat → ClassId} {ws wc : va_W} {As : List Value} (hP : va_P D vwCl ws H) (hD : va_D A ws) (hK : gK D y s) (is : List Nat) (hn : is.Nodup) (hC : is.map (fun i => ws[i]?) = wc.map some) : PreS s H (gP D y As wc H.size) As :=
  ⟨gP_blind, fun U hU hW => ⟨rfl, by rw [hU], by rw [hU]; exact gP_sub hP is hC, hK.warm hW, gD_is hD is hn hC⟩⟩
theorem gP_VI {D : va_G} {y : Nat → ClassId} {ws wc : va_W} {As : List Value} {b : Nat} {C : String} (hP : va_P D vwCl ws H) (hD : va_D A ws) (hK : gK D y s) (is : List Nat) (hn : is.Nodup) (hC : is.map (fun i => ws[i]?) = wc.map some)
    (q0 : Nat) {ci : Nat} {fs : List Value} {T : u_T} {N : Nat} (he : wc[q0]? = some (b, .inr (ci, fs))) (hc : vwCl[ci]? = some (C, T, N)) : PreV s H C b (gP D y (.ref b :: As) wc H.size) As :=
  ⟨gP_blind, va_recv hK.1 (gP_sub hP is hC) (ci := ci) (q0 := q0) hc he, fun U hU hW => ⟨rfl, by rw [hU], by rw [hU]; exact gP_sub hP is hC, hK.warm hW, gD_is hD is hn hC⟩⟩
/-- a call that changes one of its cells -/
theorem g_callW {D : va_G} {ws wc : va_W} {b : Nat} {e0 e1 : va_E} {v0 : Option Value} (hr : ∀ w0, w0 = wc.dropLast ++ [(b, e1)] → va_Run p l e R s m args below meth c H locs cells slots 0 0 (F0 m pc ls st0) rest (gQ D wc (gF v0 w0) a) (va_A wc H.size)) (hP : va_P D vwCl ws H) (hD : va_D A ws) (hS : va_S A H0 H locs) (hA : ∀ q, H0.size ≤ q → A q)
    (is : List Nat) (hC : is.map (fun i => ws[i]?) = wc.map some) (p0 : Nat) (hp : ws[p0]? = some (b, e0)) (hlast : ∃ wd, wc = wd ++ [(b, e0)])
    (kk : ∀ (H1 : Heap) (locs1 : List Loc), va_P D vwCl (ws.set p0 (b, e1)) H1 → va_D A (ws.set p0 (b, e1)) → va_S A H0 H1 locs1 → W p l e R s m args below meth c H1 locs1 cells slots Q (F0 m (pc + 3) ls (v0.toList ++ rest))) : W p l e R s m args below meth c H locs cells slots Q (F0 m pc ls st0) := by
  obtain ⟨wd, rfl⟩ := hlast
  rw [List.dropLast_concat] at hr
  intro T hT X
  obtain ⟨v, st₀, t, T', L, h0, X', hL, e1', e2, ⟨⟨v1, w1, hv, hf, ha, hb⟩, hz, hk⟩, st⟩ := hr _ rfl T hT X
  obtain ⟨rfl, rfl⟩ := hf
  cases hv
  rw [h0] at hz hk
  have hfree : ∀ q, va_A (wd ++ [(b, e0)]) H.size q → A q := va_free hD hS hA is hC
  have hP1 : va_P D vwCl (ws.set p0 (b, e1)) T'.heap := by
    rw [e1']
    have hl := (List.getElem?_eq_some_iff.mp hp).1
    intro k q hq
    by_cases hkp : k = p0
    · subst hkp
      rw [List.getElem?_set_self hl] at hq
      cases hq
      exact hb wd.length _ (by simp)
    · rw [List.getElem?_set_ne (Ne.symm hkp)] at hq
      by_cases hin : ∃ (i : Nat) (e : va_E), (wd ++ [(b, e0)])[i]? = some (q.1, e)
      · obtain ⟨i, e, hi⟩ := hin
        obtain ⟨j, h1, h2⟩ := gPick hC hi
        have hkj := hD.1 k j q (q.1, e) hq h2 rfl
        subst hkj
        rw [hq] at h2
        rw [← Option.some.inj h2] at hi
        by_cases hil : i < wd.length
        · rw [List.getElem?_append_left hil] at hi
          exact hb i _ (by rw [List.getElem?_append_left hil]; exact hi)
        · exfalso
          rw [List.getElem?_append_right (by omega)] at hi
          have hz2 : i - wd.length < 1 := (List.getElem?_eq_some_iff.mp hi).1
          rw [show i - wd.length = 0 by omega] at hi
          cases hi
          exact hkp (hD.1 k p0 _ _ hq hp rfl)
      · refine (hP k q hq).kept (hk q.1 (hP k q hq).lt (fun z => ?_))
        rcases z with ⟨i, e, z⟩ | z
        · exact hin ⟨i, e, z⟩
        · exact absurd (hP k q hq).lt (Nat.not_lt.mpr z)
  obtain ⟨t2, a1, b1⟩ := kk T'.heap (locs ++ L) hP1 (hD.set hp)
    ⟨Nat.le_trans hS.1 (by rw [e1']; exact hz), fun q h1 h2 => by rw [e1', hk q (Nat.lt_of_lt_of_le h1 hS.1) (fun z => h2 (hfree q z))]; exact hS.2.1 q h1 h2, fun q hq => by
      rcases List.mem_append.mp hq with h | h
      · exact hS.2.2 q h
      · exact hfree _ (hL q h)⟩ T' rfl X'
  exact ⟨t2, st t2 a1, b1⟩
end GW
