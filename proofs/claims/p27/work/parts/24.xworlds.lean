section GMV
variable {D : va_G} {cl : List vw_C} {ws wc ws' : va_W} {H : Heap} {A : Nat → Prop}
theorem va_D_nd : va_D A ws ↔ (ws.map Prod.fst).Nodup ∧ ∀ q ∈ ws, A q.1 := by
  constructor
  · intro h
    refine ⟨?_, fun q hq => ?_⟩
    · unfold List.Nodup
      rw [List.pairwise_iff_getElem]
      intro i j hi hj hij he
      rw [List.length_map] at hi hj
      rw [List.getElem_map, List.getElem_map] at he
      have := h.1 i j ws[i] ws[j] (List.getElem?_eq_getElem hi) (List.getElem?_eq_getElem hj) he
      omega
    · obtain ⟨k, hk⟩ := List.getElem?_of_mem hq
      exact h.2 k q hk
  · intro h
    refine ⟨fun i j x z hi hj he => ?_, fun k q hk => h.2 q (List.mem_of_getElem? hk)⟩
    have hn := h.1
    unfold List.Nodup at hn
    rw [List.pairwise_iff_getElem] at hn
    obtain ⟨hi1, hi2⟩ := List.getElem?_eq_some_iff.mp hi
    obtain ⟨hj1, hj2⟩ := List.getElem?_eq_some_iff.mp hj
    rcases Nat.lt_trichotomy i j with q | q | q
    · exact absurd (show (ws.map Prod.fst)[i]'(by rw [List.length_map]; exact hi1) = (ws.map Prod.fst)[j]'(by rw [List.length_map]; exact hj1) by rw [List.getElem_map, List.getElem_map, hi2, hj2]; exact he) (hn i j _ _ q)
    · exact q
    · exact absurd (show (ws.map Prod.fst)[j]'(by rw [List.length_map]; exact hj1) = (ws.map Prod.fst)[i]'(by rw [List.length_map]; exact hi1) by rw [List.getElem_map, List.getElem_map, hi2, hj2]; exact he.symm) (hn j i _ _ q)
theorem va_P_mem (hp : ∀ x, x ∈ ws' → x ∈ ws) (h : va_P D cl ws H) : va_P D cl ws' H := fun k q hk => by
  obtain ⟨i, hi⟩ := List.getElem?_of_mem (hp q (List.mem_of_getElem? hk))
  exact h i q hi
theorem va_P_pm (hp : ws.Perm ws') (h : va_P D cl ws H) : va_P D cl ws' H := va_P_mem (fun _ hx => hp.mem_iff.mpr hx) h
theorem va_D_pm (hp : ws.Perm ws') (h : va_D A ws) : va_D A ws' := by
  rw [va_D_nd] at h ⊢
  exact ⟨(hp.map Prod.fst).nodup_iff.mp h.1, fun q hq => h.2 q (hp.mem_iff.mpr hq)⟩
theorem va_P_r (h : va_P D cl (ws ++ wc) H) : va_P D cl wc H := va_P_mem (fun _ hx => List.mem_append_right _ hx) h
theorem va_D_r (h : va_D A (ws ++ wc)) : va_D A wc := by
  rw [va_D_nd] at h ⊢
  refine ⟨?_, fun q hq => h.2 q (List.mem_append_right _ hq)⟩
  have h1 := h.1
  rw [List.map_append] at h1
  exact (List.nodup_append.mp h1).2.1
theorem va_P_sw (h : va_P D cl (ws ++ wc) H) : va_P D cl (wc ++ ws) H := va_P_pm List.perm_append_comm h
theorem va_D_sw (h : va_D A (ws ++ wc)) : va_D A (wc ++ ws) := va_D_pm List.perm_append_comm h
end GMV
section GCR
variable {p : Program} {l : Launch} {e : Env} {R : Room} {s : State} {m : MethodId} {args : Array Value} {below : List Frame} {meth : Method} {c : Code} {H : Heap} {locs : List Loc} {cells slots : Nat} {Q : State → Prop}
variable {cc : ByteArray} {pc : Nat} {ls : Array Slot} {rest st0 : List Value} {a : Array Value} {A : Nat → Prop} {H0 : Heap} {D : va_G} {y : Nat → ClassId} {ws wc : va_W}
theorem g_callAr {f : Option Value → va_W → Prop} {mc ms : Nat} (hr : va_Run p l e R s m args below meth c H locs cells slots mc ms (F0 m pc ls st0) rest (gQ D wc f a) (va_A wc H.size)) (hP : va_P D vwCl (ws ++ wc) H) (hD : va_D A (ws ++ wc)) (hS : va_S A H0 H locs) (hA : ∀ q, H0.size ≤ q → A q)
    (kk : ∀ (v : Option Value) (w1 : va_W) (H1 : Heap) (locs1 : List Loc), f v w1 → va_P D vwCl (ws ++ w1) H1 → va_D A (ws ++ w1) → va_S A H0 H1 locs1 → W p l e R s m args below meth c H1 locs1 (cells + mc) (slots + ms) Q (F0 m (pc + 3) ls (v.toList ++ rest))) : W p l e R s m args below meth c H locs cells slots Q (F0 m pc ls st0) := by
  refine g_callN (a := a) (f := f) (ws := ws) (wc := wc) (fun T hT X => ?_) hP hD hS hA kk
  obtain ⟨v, st₀, t, T', L, h0, X', hL, e1, e2, ⟨⟨v1, w1, hv, hf, ha, hp1⟩, hF⟩, st⟩ := hr T hT X
  exact ⟨v, st₀, t, T', L, h0, X', hL, e1, e2, ⟨⟨v1, w1, hv, hf, gAll_D ((va_D_r hD).self) ha, hp1⟩, hF⟩, st⟩
theorem g_aast {n : Nat} (hexec : p.tables.exec = Jvm.exec) (hb : c.code = cc) (hK : gK D y s) (hP : va_P D vwCl ws H) (hD : va_D A ws) (hS : va_S A H0 H locs) (q0 qk : Nat) {k v b : Nat} {vs : List Value} {f : Nat → Option Nat} (ha : ws[q0]? = some (b, .inl (y 3, n, .inr (.inr (.inr (.inr f)))))) (hv : ws[qk]? = some (v, .inr (3, vs))) (hk : k < n) (hn : n < 2 ^ 31) (hdg : decode cc pc = .ok (.aastore, 1))
    (kk : ∀ (H1 : Heap) (locs1 : List Loc), va_P D vwCl (ws.set q0 (b, .inl (y 3, n, .inr (.inr (.inr (.inr (va_up f k (some v)))))))) H1 → va_D A (ws.set q0 (b, .inl (y 3, n, .inr (.inr (.inr (.inr (va_up f k (some v)))))))) → va_S A H0 H1 locs1 → W p l e R s m args below meth c H1 locs1 cells slots Q (F0 m (pc + 1) ls rest)) : W p l e R s m args below meth c H locs cells slots Q (F0 m pc ls (.ref v :: .int (nI k) :: .ref b :: rest)) := by
  refine va_astq (ci := 3) hexec hb hK.1 hP hD hS q0 3 qk ha rfl hv rfl (vp_in_nI hk hn) hdg ?_
  rw [nI_clamp (Nat.lt_trans hk hn)]
  exact kk
end GCR
theorem na9 (a0 a1 a2 a3 a4 a5 a6 a7 a8 : Nat) : ∃ na : Nat → Nat, a0 = na 0 ∧ a1 = na 1 ∧ a2 = na 2 ∧ a3 = na 3 ∧ a4 = na 4 ∧ a5 = na 5 ∧ a6 = na 6 ∧ a7 = na 7 ∧ a8 = na 8 :=
  ⟨fun j => match j with
    | 0 => a0
    | 1 => a1
    | 2 => a2
    | 3 => a3
    | 4 => a4
    | 5 => a5
    | 6 => a6
    | 7 => a7
    | _ => a8, rfl, rfl, rfl, rfl, rfl, rfl, rfl, rfl, rfl⟩
def pst {α : Type} (f : Nat → α) (n : Nat) (v : α) : Nat → α := fun k => if k = n then v else f k
theorem pst_s {α : Type} (f : Nat → α) (n : Nat) (v : α) : pst f n v n = v := if_pos rfl
theorem pst_n {α : Type} {f : Nat → α} {n k : Nat} {v : α} (h : k ≠ n) : pst f n v k = f k := if_neg h
theorem gPL_eq {pc pc' : Nat → va_W} : ∀ n, (∀ k, k < n → pc k = pc' k) → gPL pc n = gPL pc' n
  | 0, _ => rfl
  | n + 1, h => by
    show gPL pc n ++ pc n = gPL pc' n ++ pc' n
    rw [gPL_eq n (fun k hk => h k (by omega)), h n (by omega)]
abbrev wXb (nq : Nat) (y : Nat → ClassId) (ad : Nat → Nat) (h : Nat) (q : Nat → Nat) (mn : Nat) (pg : Nat → Option Nat) (n : Nat) (b1 : Bool) (l1 r1 : Int64) (b2 : Bool) (l2 r2 : Int64) (b3 : Bool) (l3 r3 : Int64) (uz : Nat → Bool) (ul uh : Nat → Int64) (f1 g1 f2 g2 : Int64) (pa : Nat → Nat → Nat) (kd : Nat → Nat) (on ot : Nat → Int32) (pt : Nat → Int64) (fb : Nat → Nat → Bool) (fl fh : Nat → Nat → Int64) (tb : Nat → Nat → Bool) (tl th : Nat → Nat → Int64) (dg : Nat → Int32) (ds : Nat → Int64) : va_W := [(nq, .inr (3, [.null, .int 0, .int 0, .long 0, .null, .null, .int 0, .long 0]))] ++ wX y h q mn pg b1 l1 r1 b2 l2 r2 b3 l3 r3 uz ul uh f1 g1 f2 g2 (gPL (pcX y ad pa kd on ot pt fb fl fh tb tl th dg ds) n)
abbrev wXa (na : Nat → Nat) (nk : Nat) (no nt : Int32) (np : Int64) (nfb : Nat → Bool) (nfl nfh : Nat → Int64) (ntb : Nat → Bool) (ntl nth : Nat → Int64) (y : Nat → ClassId) (ad : Nat → Nat) (h : Nat) (q : Nat → Nat) (mn : Nat) (pg : Nat → Option Nat) (n : Nat) (b1 : Bool) (l1 r1 : Int64) (b2 : Bool) (l2 r2 : Int64) (b3 : Bool) (l3 r3 : Int64) (uz : Nat → Bool) (ul uh : Nat → Int64) (f1 g1 f2 g2 : Int64) (pa : Nat → Nat → Nat) (kd : Nat → Nat) (on ot : Nat → Int32) (pt : Nat → Int64) (fb : Nat → Nat → Bool) (fl fh : Nat → Nat → Int64) (tb : Nat → Nat → Bool) (tl th : Nat → Nat → Int64) (dg : Nat → Int32) (ds : Nat → Int64) : va_W := [((na 0), .inr (3, [.ref (ad nk), .int no, .int nt, .long np, .ref (na 1), .ref (na 5), .int 0, .long 0])), ((na 1), .inr (4, [.ref (na 2), .ref (na 3), .ref (na 4)])), ((na 2), .inl (y 2, 25, .inl (gZ nfb))), ((na 3), .inl (y 1, 25, .inr (.inl nfl))), ((na 4), .inl (y 1, 25, .inr (.inl nfh))), ((na 5), .inr (4, [.ref (na 6), .ref (na 7), .ref (na 8)])), ((na 6), .inl (y 2, 25, .inl (gZ ntb))), ((na 7), .inl (y 1, 25, .inr (.inl ntl))), ((na 8), .inl (y 1, 25, .inr (.inl nth)))] ++ wX y h q mn pg b1 l1 r1 b2 l2 r2 b3 l3 r3 uz ul uh f1 g1 f2 g2 (gPL (pcX y ad pa kd on ot pt fb fl fh tb tl th dg ds) n)
abbrev wXy (zq : Nat) (za zb zc zd : Int64) (y : Nat → ClassId) (ad : Nat → Nat) (h : Nat) (q : Nat → Nat) (mn : Nat) (pg : Nat → Option Nat) (n : Nat) (b1 : Bool) (l1 r1 : Int64) (b2 : Bool) (l2 r2 : Int64) (b3 : Bool) (l3 r3 : Int64) (uz : Nat → Bool) (ul uh : Nat → Int64) (f1 g1 f2 g2 : Int64) (pa : Nat → Nat → Nat) (kd : Nat → Nat) (on ot : Nat → Int32) (pt : Nat → Int64) (fb : Nat → Nat → Bool) (fl fh : Nat → Nat → Int64) (tb : Nat → Nat → Bool) (tl th : Nat → Nat → Int64) (dg : Nat → Int32) (ds : Nat → Int64) : va_W := [(zq, .inr (2, [.long za, .long zb, .long zc, .long zd]))] ++ wX y h q mn pg b1 l1 r1 b2 l2 r2 b3 l3 r3 uz ul uh f1 g1 f2 g2 (gPL (pcX y ad pa kd on ot pt fb fl fh tb tl th dg ds) n)
abbrev wXw (nq zq : Nat) (za zb zc zd : Int64) (y : Nat → ClassId) (ad : Nat → Nat) (h : Nat) (q : Nat → Nat) (mn : Nat) (pg : Nat → Option Nat) (n : Nat) (b1 : Bool) (l1 r1 : Int64) (b2 : Bool) (l2 r2 : Int64) (b3 : Bool) (l3 r3 : Int64) (uz : Nat → Bool) (ul uh : Nat → Int64) (f1 g1 f2 g2 : Int64) (pa : Nat → Nat → Nat) (kd : Nat → Nat) (on ot : Nat → Int32) (pt : Nat → Int64) (fb : Nat → Nat → Bool) (fl fh : Nat → Nat → Int64) (tb : Nat → Nat → Bool) (tl th : Nat → Nat → Int64) (dg : Nat → Int32) (ds : Nat → Int64) : va_W := [(nq, .inr (3, [.null, .int 0, .int 0, .long 0, .null, .null, .int 0, .long 0])), (zq, .inr (2, [.long za, .long zb, .long zc, .long zd]))] ++ wX y h q mn pg b1 l1 r1 b2 l2 r2 b3 l3 r3 uz ul uh f1 g1 f2 g2 (gPL (pcX y ad pa kd on ot pt fb fl fh tb tl th dg ds) n)
abbrev wXz (na : Nat → Nat) (nk : Nat) (no nt : Int32) (np : Int64) (nfb : Nat → Bool) (nfl nfh : Nat → Int64) (ntb : Nat → Bool) (ntl nth : Nat → Int64) (zq : Nat) (za zb zc zd : Int64) (y : Nat → ClassId) (ad : Nat → Nat) (h : Nat) (q : Nat → Nat) (mn : Nat) (pg : Nat → Option Nat) (n : Nat) (b1 : Bool) (l1 r1 : Int64) (b2 : Bool) (l2 r2 : Int64) (b3 : Bool) (l3 r3 : Int64) (uz : Nat → Bool) (ul uh : Nat → Int64) (f1 g1 f2 g2 : Int64) (pa : Nat → Nat → Nat) (kd : Nat → Nat) (on ot : Nat → Int32) (pt : Nat → Int64) (fb : Nat → Nat → Bool) (fl fh : Nat → Nat → Int64) (tb : Nat → Nat → Bool) (tl th : Nat → Nat → Int64) (dg : Nat → Int32) (ds : Nat → Int64) : va_W := [((na 0), .inr (3, [.ref (ad nk), .int no, .int nt, .long np, .ref (na 1), .ref (na 5), .int 0, .long 0])), ((na 1), .inr (4, [.ref (na 2), .ref (na 3), .ref (na 4)])), ((na 2), .inl (y 2, 25, .inl (gZ nfb))), ((na 3), .inl (y 1, 25, .inr (.inl nfl))), ((na 4), .inl (y 1, 25, .inr (.inl nfh))), ((na 5), .inr (4, [.ref (na 6), .ref (na 7), .ref (na 8)])), ((na 6), .inl (y 2, 25, .inl (gZ ntb))), ((na 7), .inl (y 1, 25, .inr (.inl ntl))), ((na 8), .inl (y 1, 25, .inr (.inl nth))), (zq, .inr (2, [.long za, .long zb, .long zc, .long zd]))] ++ wX y h q mn pg b1 l1 r1 b2 l2 r2 b3 l3 r3 uz ul uh f1 g1 f2 g2 (gPL (pcX y ad pa kd on ot pt fb fl fh tb tl th dg ds) n)
theorem wXa_pm (na : Nat → Nat) (nk : Nat) (no nt : Int32) (np : Int64) (nfb : Nat → Bool) (nfl nfh : Nat → Int64) (ntb : Nat → Bool) (ntl nth : Nat → Int64) (y : Nat → ClassId) (ad : Nat → Nat) (h : Nat) (q : Nat → Nat) (n : Nat) (b1 : Bool) (l1 r1 : Int64) (b2 : Bool) (l2 r2 : Int64) (b3 : Bool) (l3 r3 : Int64) (uz : Nat → Bool) (ul uh : Nat → Int64) (f1 g1 f2 g2 : Int64) (pa : Nat → Nat → Nat) (kd : Nat → Nat) (on ot : Nat → Int32) (pt : Nat → Int64) (fb : Nat → Nat → Bool) (fl fh : Nat → Nat → Int64) (tb : Nat → Nat → Bool) (tl th : Nat → Nat → Int64) (dg : Nat → Int32) (ds : Nat → Int64) : (wXa na nk no nt np nfb nfl nfh ntb ntl nth y ad h q (n + 1) (va_up (gPg pa n) n (some (na 0))) n b1 l1 r1 b2 l2 r2 b3 l3 r3 uz ul uh f1 g1 f2 g2 pa kd on ot pt fb fl fh tb tl th dg ds).Perm (wXp y ad h q (n + 1) b1 l1 r1 b2 l2 r2 b3 l3 r3 uz ul uh f1 g1 f2 g2 (pst pa n na) (pst kd n nk) (pst on n no) (pst ot n nt) (pst pt n np) (pst fb n nfb) (pst fl n nfl) (pst fh n nfh) (pst tb n ntb) (pst tl n ntl) (pst th n nth) (pst dg n 0) (pst ds n 0)) := by
  have e1 : gPg (pst pa n na) (n + 1) = va_up (gPg pa n) n (some (na 0)) := by
    funext j
    show (if j < n + 1 then some (pst pa n na j 0) else none) = (if j = n then some (na 0) else if j < n then some (pa j 0) else none)
    by_cases h1 : j = n
    · rw [if_pos (by omega), if_pos h1, h1, pst_s]
    · rw [if_neg h1, pst_n h1]
      by_cases h2 : j < n
      · rw [if_pos h2, if_pos (by omega)]
      · rw [if_neg h2, if_neg (by omega)]
  have e2 : gPL (pcX y ad (pst pa n na) (pst kd n nk) (pst on n no) (pst ot n nt) (pst pt n np) (pst fb n nfb) (pst fl n nfl) (pst fh n nfh) (pst tb n ntb) (pst tl n ntl) (pst th n nth) (pst dg n 0) (pst ds n 0)) (n + 1) = gPL (pcX y ad pa kd on ot pt fb fl fh tb tl th dg ds) n ++ [((na 0), .inr (3, [.ref (ad nk), .int no, .int nt, .long np, .ref (na 1), .ref (na 5), .int 0, .long 0])), ((na 1), .inr (4, [.ref (na 2), .ref (na 3), .ref (na 4)])), ((na 2), .inl (y 2, 25, .inl (gZ nfb))), ((na 3), .inl (y 1, 25, .inr (.inl nfl))), ((na 4), .inl (y 1, 25, .inr (.inl nfh))), ((na 5), .inr (4, [.ref (na 6), .ref (na 7), .ref (na 8)])), ((na 6), .inl (y 2, 25, .inl (gZ ntb))), ((na 7), .inl (y 1, 25, .inr (.inl ntl))), ((na 8), .inl (y 1, 25, .inr (.inl nth)))] := by
    show gPL _ n ++ _ = _
    rw [gPL_eq (pc := pcX y ad (pst pa n na) (pst kd n nk) (pst on n no) (pst ot n nt) (pst pt n np) (pst fb n nfb) (pst fl n nfl) (pst fh n nfh) (pst tb n ntb) (pst tl n ntl) (pst th n nth) (pst dg n 0) (pst ds n 0)) (pc' := pcX y ad pa kd on ot pt fb fl fh tb tl th dg ds) n (fun k hk => by
      have hne : k ≠ n := by omega
      show [_, _, _, _, _, _, _, _, _] = [_, _, _, _, _, _, _, _, _]
      simp only [pst_n hne])]
    congr 1
    show [_, _, _, _, _, _, _, _, _] = [_, _, _, _, _, _, _, _, _]
    simp only [pst_s]
  show (_ ++ _ : va_W).Perm (wX y h q (n + 1) (gPg (pst pa n na) (n + 1)) b1 l1 r1 b2 l2 r2 b3 l3 r3 uz ul uh f1 g1 f2 g2 (gPL (pcX y ad (pst pa n na) (pst kd n nk) (pst on n no) (pst ot n nt) (pst pt n np) (pst fb n nfb) (pst fl n nfl) (pst fh n nfh) (pst tb n ntb) (pst tl n ntl) (pst th n nth) (pst dg n 0) (pst ds n 0)) (n + 1)))
  rw [e1, e2]
  show (_ ++ (_ ++ _) : va_W).Perm (_ ++ (_ ++ _))
  exact List.perm_append_comm.trans (List.Perm.of_eq (List.append_assoc _ _ _))
