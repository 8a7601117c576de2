abbrev St : Type := Nat × (Nat → Nat) × (Nat → Int32) × (Nat → Int32) × (Nat → Int64) × (Nat → Nat → Bool) × (Nat → Nat → Int64) × (Nat → Nat → Int64) × (Nat → Nat → Bool) × (Nat → Nat → Int64) × (Nat → Nat → Int64) × (Nat → Int32) × (Nat → Int64)
abbrev sN (S : St) : Nat := S.1
abbrev sKd (S : St) : Nat → Nat := S.2.1
abbrev sOn (S : St) : Nat → Int32 := S.2.2.1
abbrev sOt (S : St) : Nat → Int32 := S.2.2.2.1
abbrev sPt (S : St) : Nat → Int64 := S.2.2.2.2.1
abbrev sFb (S : St) : Nat → Nat → Bool := S.2.2.2.2.2.1
abbrev sFl (S : St) : Nat → Nat → Int64 := S.2.2.2.2.2.2.1
abbrev sFh (S : St) : Nat → Nat → Int64 := S.2.2.2.2.2.2.2.1
abbrev sTb (S : St) : Nat → Nat → Bool := S.2.2.2.2.2.2.2.2.1
abbrev sTl (S : St) : Nat → Nat → Int64 := S.2.2.2.2.2.2.2.2.2.1
abbrev sTh (S : St) : Nat → Nat → Int64 := S.2.2.2.2.2.2.2.2.2.2.1
abbrev sDg (S : St) : Nat → Int32 := S.2.2.2.2.2.2.2.2.2.2.2.1
abbrev sDs (S : St) : Nat → Int64 := S.2.2.2.2.2.2.2.2.2.2.2.2
/-- an object of the class in the state S, at the address h -/
def OW (y : Nat → ClassId) (ad : Nat → Nat) (h : Nat) (S : St) (w : va_W) : Prop := ∃ (q : Nat → Nat) (pa : Nat → Nat → Nat) (b1 : Bool) (l1 r1 : Int64) (b2 : Bool) (l2 r2 : Int64) (b3 : Bool) (l3 r3 : Int64) (uz : Nat → Bool) (ul uh : Nat → Int64) (f1 g1 f2 g2 : Int64), w = wXp y ad h q (sN S) b1 l1 r1 b2 l2 r2 b3 l3 r3 uz ul uh f1 g1 f2 g2 pa (sKd S) (sOn S) (sOt S) (sPt S) (sFb S) (sFl S) (sFh S) (sTb S) (sTl S) (sTh S) (sDg S) (sDs S)
theorem OW.head {y : Nat → ClassId} {ad : Nat → Nat} {h : Nat} {S : St} {w : va_W} (hw : OW y ad h S w) : ∃ fs : List Value, w[0]? = some (h, .inr (5, fs)) := by
  obtain ⟨q, pa, b1, l1, r1, b2, l2, r2, b3, l3, r3, uz, ul, uh, f1, g1, f2, g2, rfl⟩ := hw
  exact ⟨_, rfl⟩
section GMO
variable {l : Launch} {y : MethodName} {ws : List Cond} {rm rm2 : Room} {P : Array Value → State → Prop} {Q Q2 : Array Value → State → Outcome → State → Prop} {XC XC2 : String → State → State → Prop} {mc ms mc2 ms2 : Nat} {A A2 : Addr → Prop}
theorem g_hasRoom {s : State} {pl : Platform} {r r2 : Room} (hf : r.frames ≤ r2.frames) (hl : r.locals ≤ r2.locals) (hc : r.cells ≤ r2.cells) (hs : r.slots ≤ r2.slots) (h : s.hasRoom pl r2 = true) : s.hasRoom pl r = true := by
  simp only [State.hasRoom, Bool.and_eq_true, decide_eq_true_eq] at h ⊢
  obtain ⟨⟨⟨⟨y, a, b, c, d, e⟩, f⟩, g⟩, i⟩ := h
  exact ⟨⟨⟨⟨by omega, by omega, by omega, by omega, by omega, e⟩, by omega⟩, by omega⟩, i⟩
theorem g_mono (h : Met l y ws rm P Q mc ms A) (hf : rm.frames ≤ rm2.frames) (hl : rm.locals ≤ rm2.locals) (hc : rm.cells ≤ rm2.cells) (hs : rm.slots ≤ rm2.slots) (hmc : mc ≤ mc2) (hms : ms ≤ ms2) (hA : ∀ q, A q → A2 q) (hQ : ∀ a s o t, P a s → Q a s o t → Q2 a s o t) : Met l y ws rm2 P Q2 mc2 ms2 A2 := by
  intro p e ha hcs hk s m args below hfr happ hP hK
  obtain ⟨a1, a2, a3, a4, a5, a6, a7, a8⟩ := (Spec.appliesLoose_iff hfr).mp happ
  obtain ⟨n, o, h1, h2, h3, h4, L, h5, h6⟩ := h p e ha hcs hk s m args below hfr ((Spec.appliesLoose_iff hfr).mpr ⟨a1, a2, a3, a4, a5, a6, g_hasRoom hf hl hc hs a7, a8⟩) hP hK
  exact ⟨n, o, h1, h2, h3, hQ _ _ _ _ hP h4, L, ⟨h5.1, h5.2.1, h5.2.2.mono hmc hms⟩, fun q hq => hA _ (h6 q hq)⟩
theorem g_monoX (h : vx_Met l y ws rm P gNo XC mc ms A) (hf : rm.frames ≤ rm2.frames) (hl : rm.locals ≤ rm2.locals) (hc : rm.cells ≤ rm2.cells) (hs : rm.slots ≤ rm2.slots) (hmc : mc ≤ mc2) (hms : ms ≤ ms2) (hX : ∀ E s t, XC E s t → XC2 E s t) : vx_Met l y ws rm2 P gNo XC2 mc2 ms2 A := by
  intro p e ha hcs hk s m args below hfr happ hP hK
  obtain ⟨a1, a2, a3, a4, a5, a6, a7, a8⟩ := (Spec.appliesLoose_iff hfr).mp happ
  obtain ⟨n, o, h1, h2, h3, h4⟩ := h p e ha hcs hk s m args below hfr ((Spec.appliesLoose_iff hfr).mpr ⟨a1, a2, a3, a4, a5, a6, g_hasRoom hf hl hc hs a7, a8⟩) hP hK
  refine ⟨n, o, h1, h2, h3, ?_⟩
  rcases h4 with ⟨h4, -⟩ | ⟨q, h5, E, ce, L, c1, c2, c3, c4, c5, c6, c7⟩
  · exact h4.elim
  · exact Or.inr ⟨q, h5, E, ce, L, hX _ _ _ c1, c2, c3, c4, c5, c6.mono hmc hms, c7⟩
variable {D : va_G} {yy : Nat → ClassId} {ad : Nat → Nat} {av : List Value} {w : va_W} {sz : Nat}
theorem a_Q {f : Option Value → va_W → Prop} {a : Array Value} {s t : State} {o : Outcome} (hP : gPX D yy ad av w sz a s) (h : gQ D w f a s o t) : gQn D w f a s o t := by
  obtain ⟨rfl, hsz, hp, hk, hd, he⟩ := hP
  obtain ⟨⟨v, w1, ho, hf, ha, hp1⟩, hF⟩ := h
  exact ⟨⟨v, w1, ho, hf, gAll_D hd.self ha, hp1⟩, hF⟩
theorem a_R {v0 : Value} {a : Array Value} {s t : State} {o : Outcome} (hP : gPX D yy ad av w sz a s) (h : gR v0 a s o t) : gQn D w (fun v w1 => v = some v0 ∧ w1 = w) a s o t := by
  obtain ⟨rfl, hsz, hp, hk, hd, he⟩ := hP
  obtain ⟨ho, hh⟩ := h
  exact ⟨⟨some v0, w, ho, ⟨rfl, rfl⟩, hd.self, by rw [hh]; exact hp⟩, by rw [hh]; exact Nat.le_refl _, fun q _ _ => by rw [hh]⟩
theorem a_n {f f2 : Option Value → va_W → Prop} {a : Array Value} {s t : State} {o : Outcome} (h : gQn D w f a s o t) (hf : ∀ v w1, f v w1 → ∃ w2, f2 v w2 ∧ w2.map Prod.fst = w1.map Prod.fst ∧ ∀ H, va_P D vwCl w1 H → va_P D vwCl w2 H) : gQn D w f2 a s o t := by
  obtain ⟨⟨v, w1, ho, hf1, hd, hp⟩, hF⟩ := h
  obtain ⟨w2, g1, g2, g3⟩ := hf v w1 hf1
  exact ⟨⟨v, w2, ho, g1, gAll_D hd g2, g3 _ hp⟩, hF⟩
theorem a_s {f f2 : Option Value → va_W → Prop} {a : Array Value} {s t : State} {o : Outcome} (h : gQn D w f a s o t) (hf : ∀ v w1, f v w1 → f2 v w1) : gQn D w f2 a s o t := a_n h (fun v w1 h1 => ⟨w1, hf v w1 h1, rfl, fun _ h => h⟩)
theorem a_x {E : String} {f f2 : va_W → Prop} {E2 : String} {s t : State} (hf : ∀ w1, f w1 → f2 w1) (h : gXC D w E f E2 s t) : gXC D w E f2 E2 s t := by
  obtain ⟨h1, ⟨w1, h2, h3⟩, h4⟩ := h
  exact ⟨h1, ⟨w1, hf w1 h2, h3⟩, h4⟩
end GMO
theorem arrV_cg {c : ClassId} {N : Nat} {f f2 : Nat → Value} (h : ∀ j, j < N → f j = f2 j) : arrV c N f = arrV c N f2 := by
  unfold arrV
  congr 1
  congr 1
  funext j
  exact h j.val j.isLt
theorem va_P_hd {D : va_G} {cl : List vw_C} {x : Nat × va_E} {xs : va_W} {H : Heap} (h : va_P D cl (x :: xs) H) : va_at D cl x H ∧ va_P D cl xs H := ⟨h 0 x rfl, fun k q hk => h (k + 1) q hk⟩
theorem va_P_cs {D : va_G} {cl : List vw_C} {x : Nat × va_E} {xs : va_W} {H : Heap} (h1 : va_at D cl x H) (h2 : va_P D cl xs H) : va_P D cl (x :: xs) H := fun k q hk => match k, hk with
  | 0, hk => by cases hk; exact h1
  | k + 1, hk => h2 k q hk
theorem at_z {D : va_G} {cl : List vw_C} {q N : Nat} {c : ClassId} {f f2 : Nat → Bool} {H : Heap} (h : va_at D cl (q, .inl (c, N, .inl (gZ f))) H) (e : ∀ j, j < N → f j = f2 j) : va_at D cl (q, .inl (c, N, .inl (gZ f2))) H := by
  have h2 : H[q]? = some (arrV c N (fun j => .int (gB (f j)))) := h
  show H[q]? = some (arrV c N (fun j => .int (gB (f2 j))))
  rw [h2, arrV_cg (fun j hj => by rw [e j hj])]
theorem at_l {D : va_G} {cl : List vw_C} {q N : Nat} {c : ClassId} {f f2 : Nat → Int64} {H : Heap} (h : va_at D cl (q, .inl (c, N, .inr (.inl f))) H) (e : ∀ j, j < N → f j = f2 j) : va_at D cl (q, .inl (c, N, .inr (.inl f2))) H := by
  have h2 : H[q]? = some (arrV c N (fun j => .long (f j))) := h
  show H[q]? = some (arrV c N (fun j => .long (f2 j)))
  rw [h2, arrV_cg (fun j hj => by rw [e j hj])]
/-- rows of the last program that agree at all places: the same cells -/
theorem wXp_cg {D : va_G} {y : Nat → ClassId} {ad : Nat → Nat} {h : Nat} {q : Nat → Nat} {n : Nat} {b1 : Bool} {l1 r1 : Int64} {b2 : Bool} {l2 r2 : Int64} {b3 : Bool} {l3 r3 : Int64} {uz : Nat → Bool} {ul uh : Nat → Int64} {f1 g1 f2 g2 : Int64} {pa : Nat → Nat → Nat} {kd : Nat → Nat} {on ot : Nat → Int32} {pt : Nat → Int64} {fb : Nat → Nat → Bool} {fl fh : Nat → Nat → Int64} {tb : Nat → Nat → Bool} {tl th : Nat → Nat → Int64} {dg : Nat → Int32} {ds : Nat → Int64}
    {a1 c1 d1 d2 : Nat → Bool} {a2 a3 c2 c3 : Nat → Int64} {e2 e3 e5 e6 : Nat → Int64} (hF : ∀ j, j < 25 → (a1 j, a2 j, a3 j) = (d1 j, e2 j, e3 j)) (hT : ∀ j, j < 25 → (c1 j, c2 j, c3 j) = (d2 j, e5 j, e6 j)) :
    (wXp y ad h q (n + 1) b1 l1 r1 b2 l2 r2 b3 l3 r3 uz ul uh f1 g1 f2 g2 pa kd on ot pt (pst fb n d1) (pst fl n e2) (pst fh n e3) (pst tb n d2) (pst tl n e5) (pst th n e6) dg ds).map Prod.fst = (wXp y ad h q (n + 1) b1 l1 r1 b2 l2 r2 b3 l3 r3 uz ul uh f1 g1 f2 g2 pa kd on ot pt (pst fb n a1) (pst fl n a2) (pst fh n a3) (pst tb n c1) (pst tl n c2) (pst th n c3) dg ds).map Prod.fst ∧
    ∀ H, va_P D vwCl (wXp y ad h q (n + 1) b1 l1 r1 b2 l2 r2 b3 l3 r3 uz ul uh f1 g1 f2 g2 pa kd on ot pt (pst fb n a1) (pst fl n a2) (pst fh n a3) (pst tb n c1) (pst tl n c2) (pst th n c3) dg ds) H → va_P D vwCl (wXp y ad h q (n + 1) b1 l1 r1 b2 l2 r2 b3 l3 r3 uz ul uh f1 g1 f2 g2 pa kd on ot pt (pst fb n d1) (pst fl n e2) (pst fh n e3) (pst tb n d2) (pst tl n e5) (pst th n e6) dg ds) H := by
  obtain ⟨X, hX⟩ : ∃ X : va_W, ∀ PL, wX y h q (n + 1) (gPg pa (n + 1)) b1 l1 r1 b2 l2 r2 b3 l3 r3 uz ul uh f1 g1 f2 g2 PL = X ++ PL := ⟨_, fun _ => rfl⟩
  have e0 : gPL (pcX y ad pa kd on ot pt (pst fb n a1) (pst fl n a2) (pst fh n a3) (pst tb n c1) (pst tl n c2) (pst th n c3) dg ds) n = gPL (pcX y ad pa kd on ot pt (pst fb n d1) (pst fl n e2) (pst fh n e3) (pst tb n d2) (pst tl n e5) (pst th n e6) dg ds) n := gPL_eq n (fun k hk => by
    have hne : k ≠ n := by omega
    show [_, _, _, _, _, _, _, _, _] = [_, _, _, _, _, _, _, _, _]
    simp only [pst_n hne])
  have eF : ∀ j, j < 25 → a1 j = d1 j ∧ a2 j = e2 j ∧ a3 j = e3 j := fun j hj => by
    have := hF j hj
    simp only [Prod.mk.injEq] at this
    exact this
  have eT : ∀ j, j < 25 → c1 j = d2 j ∧ c2 j = e5 j ∧ c3 j = e6 j := fun j hj => by
    have := hT j hj
    simp only [Prod.mk.injEq] at this
    exact this
  show (wX y h q (n + 1) (gPg pa (n + 1)) b1 l1 r1 b2 l2 r2 b3 l3 r3 uz ul uh f1 g1 f2 g2 (gPL (pcX y ad pa kd on ot pt (pst fb n d1) (pst fl n e2) (pst fh n e3) (pst tb n d2) (pst tl n e5) (pst th n e6) dg ds) n ++ pcX y ad pa kd on ot pt (pst fb n d1) (pst fl n e2) (pst fh n e3) (pst tb n d2) (pst tl n e5) (pst th n e6) dg ds n)).map Prod.fst = (wX y h q (n + 1) (gPg pa (n + 1)) b1 l1 r1 b2 l2 r2 b3 l3 r3 uz ul uh f1 g1 f2 g2 (gPL (pcX y ad pa kd on ot pt (pst fb n a1) (pst fl n a2) (pst fh n a3) (pst tb n c1) (pst tl n c2) (pst th n c3) dg ds) n ++ pcX y ad pa kd on ot pt (pst fb n a1) (pst fl n a2) (pst fh n a3) (pst tb n c1) (pst tl n c2) (pst th n c3) dg ds n)).map Prod.fst ∧
    ∀ H, va_P D vwCl (wX y h q (n + 1) (gPg pa (n + 1)) b1 l1 r1 b2 l2 r2 b3 l3 r3 uz ul uh f1 g1 f2 g2 (gPL (pcX y ad pa kd on ot pt (pst fb n a1) (pst fl n a2) (pst fh n a3) (pst tb n c1) (pst tl n c2) (pst th n c3) dg ds) n ++ pcX y ad pa kd on ot pt (pst fb n a1) (pst fl n a2) (pst fh n a3) (pst tb n c1) (pst tl n c2) (pst th n c3) dg ds n)) H → va_P D vwCl (wX y h q (n + 1) (gPg pa (n + 1)) b1 l1 r1 b2 l2 r2 b3 l3 r3 uz ul uh f1 g1 f2 g2 (gPL (pcX y ad pa kd on ot pt (pst fb n d1) (pst fl n e2) (pst fh n e3) (pst tb n d2) (pst tl n e5) (pst th n e6) dg ds) n ++ pcX y ad pa kd on ot pt (pst fb n d1) (pst fl n e2) (pst fh n e3) (pst tb n d2) (pst tl n e5) (pst th n e6) dg ds n)) H
  rw [hX, hX, e0]
  refine ⟨?_, fun H hP => ?_⟩
  · rw [List.map_append, List.map_append, List.map_append, List.map_append]
    rfl
  · have h1 : va_P D vwCl X H := va_P_mem (fun x hx => List.mem_append_left _ hx) hP
    have h2 := va_P_r hP
    have h3 : va_P D vwCl (gPL (pcX y ad pa kd on ot pt (pst fb n d1) (pst fl n e2) (pst fh n e3) (pst tb n d2) (pst tl n e5) (pst th n e6) dg ds) n) H := va_P_mem (fun x hx => List.mem_append_left _ hx) h2
    have h4 := va_P_r h2
    refine va_P.app h1 (va_P.app h3 ?_)
    have d9 : pcX y ad pa kd on ot pt (pst fb n a1) (pst fl n a2) (pst fh n a3) (pst tb n c1) (pst tl n c2) (pst th n c3) dg ds n = [(pa n 0, .inr (3, [.ref (ad (kd n)), .int (on n), .int (ot n), .long (pt n), .ref (pa n 1), .ref (pa n 5), .int (dg n), .long (ds n)])), (pa n 1, .inr (4, [.ref (pa n 2), .ref (pa n 3), .ref (pa n 4)])), (pa n 2, .inl (y 2, 25, .inl (gZ a1))), (pa n 3, .inl (y 1, 25, .inr (.inl a2))), (pa n 4, .inl (y 1, 25, .inr (.inl a3))), (pa n 5, .inr (4, [.ref (pa n 6), .ref (pa n 7), .ref (pa n 8)])), (pa n 6, .inl (y 2, 25, .inl (gZ c1))), (pa n 7, .inl (y 1, 25, .inr (.inl c2))), (pa n 8, .inl (y 1, 25, .inr (.inl c3)))] := by
      unfold pcX
      rw [pst_s, pst_s, pst_s, pst_s, pst_s, pst_s]
    have d8 : pcX y ad pa kd on ot pt (pst fb n d1) (pst fl n e2) (pst fh n e3) (pst tb n d2) (pst tl n e5) (pst th n e6) dg ds n = [(pa n 0, .inr (3, [.ref (ad (kd n)), .int (on n), .int (ot n), .long (pt n), .ref (pa n 1), .ref (pa n 5), .int (dg n), .long (ds n)])), (pa n 1, .inr (4, [.ref (pa n 2), .ref (pa n 3), .ref (pa n 4)])), (pa n 2, .inl (y 2, 25, .inl (gZ d1))), (pa n 3, .inl (y 1, 25, .inr (.inl e2))), (pa n 4, .inl (y 1, 25, .inr (.inl e3))), (pa n 5, .inr (4, [.ref (pa n 6), .ref (pa n 7), .ref (pa n 8)])), (pa n 6, .inl (y 2, 25, .inl (gZ d2))), (pa n 7, .inl (y 1, 25, .inr (.inl e5))), (pa n 8, .inl (y 1, 25, .inr (.inl e6)))] := by
      unfold pcX
      rw [pst_s, pst_s, pst_s, pst_s, pst_s, pst_s]
    rw [d9] at h4
    rw [d8]
    obtain ⟨w0, h4⟩ := va_P_hd h4
    obtain ⟨w1, h4⟩ := va_P_hd h4
    obtain ⟨w2, h4⟩ := va_P_hd h4
    obtain ⟨w3, h4⟩ := va_P_hd h4
    obtain ⟨w4, h4⟩ := va_P_hd h4
    obtain ⟨w5, h4⟩ := va_P_hd h4
    obtain ⟨w6, h4⟩ := va_P_hd h4
    obtain ⟨w7, h4⟩ := va_P_hd h4
    obtain ⟨w8, h4⟩ := va_P_hd h4
    exact va_P_cs w0 (va_P_cs w1 (va_P_cs (at_z w2 (fun j hj => (eF j hj).1)) (va_P_cs (at_l w3 (fun j hj => (eF j hj).2.1)) (va_P_cs (at_l w4 (fun j hj => (eF j hj).2.2)) (va_P_cs w5 (va_P_cs (at_z w6 (fun j hj => (eT j hj).1)) (va_P_cs (at_l w7 (fun j hj => (eT j hj).2.1)) (va_P_cs (at_l w8 (fun j hj => (eT j hj).2.2)) h4))))))))
/-- a program more: its kind, of which, its bits, its row -/
def sPush (S : St) (kd : Nat) (on ot : Int32) (pt : Int64) (F : Nat → Bool × Int64 × Int64) : St :=
  (sN S + 1, pst (sKd S) (sN S) kd, pst (sOn S) (sN S) on, pst (sOt S) (sN S) ot, pst (sPt S) (sN S) pt, pst (sFb S) (sN S) (fun p => (F p).1), pst (sFl S) (sN S) (fun p => (F p).2.1), pst (sFh S) (sN S) (fun p => (F p).2.2),
    pst (sTb S) (sN S) (fun p => (nwA (fun p => (F p).1) (fun p => (F p).2.1) (fun p => (F p).2.2) (p + 1)).1), pst (sTl S) (sN S) (fun p => (nwA (fun p => (F p).1) (fun p => (F p).2.1) (fun p => (F p).2.2) (p + 1)).2.1), pst (sTh S) (sN S) (fun p => (nwA (fun p => (F p).1) (fun p => (F p).2.1) (fun p => (F p).2.2) (p + 1)).2.2),
    pst (sDg S) (sN S) 0, pst (sDs S) (sN S) 0)
/-- digits of a program: so many, their sum -/
def sDig (S : St) (k : Nat) (d : Int32) (s : Int64) : St := (sN S, sKd S, sOn S, sOt S, sPt S, sFb S, sFl S, sFh S, sTb S, sTl S, sTh S, upd (sDg S) k d, vp_updL (sDs S) k s)
theorem nwA_cg {fb fb2 : Nat → Bool} {fl fl2 fh fh2 : Nat → Int64} : ∀ p, (∀ j, j < p → (fb j, fl j, fh j) = (fb2 j, fl2 j, fh2 j)) → nwA fb fl fh p = nwA fb2 fl2 fh2 p
  | 0, _ => rfl
  | p + 1, h => by
    have h1 := h p (by omega)
    simp only [Prod.mk.injEq] at h1
    obtain ⟨e1, e2, e3⟩ := h1
    show nwS (nwA fb fl fh p) _ _ _ = nwS (nwA fb2 fl2 fh2 p) _ _ _
    rw [nwA_cg p (fun j hj => h j (by omega))]
    unfold sp_X6_load_b1 sp_X6_load_lo1 sp_X6_load_hi1
    rw [e1, e2, e3]
/-- what a maker leaves, in the words of the state -/
theorem a_push {D : va_G} {y : Nat → ClassId} {ad : Nat → Nat} {h : Nat} {S : St} {q : Nat → Nat} {pa : Nat → Nat → Nat} {b1 : Bool} {l1 r1 : Int64} {b2 : Bool} {l2 r2 : Int64} {b3 : Bool} {l3 r3 : Int64} {uz : Nat → Bool} {ul uh : Nat → Int64} {f1 g1 f2 g2 : Int64} {nan : Nat → Nat} {fbn : Nat → Bool} {fln fhn : Nat → Int64} {tbn : Nat → Bool} {tln thn : Nat → Int64} {kd : Nat} {on ot : Int32} {pt : Int64} {F : Nat → Bool × Int64 × Int64}
    (hF : ∀ j, j < 25 → (fbn j, fln j, fhn j) = F j) (hT : ∀ j, j < 25 → (tbn j, tln j, thn j) = nwA fbn fln fhn (j + 1)) {w1 : va_W} (hw : w1 = wXp y ad h q (sN S + 1) b1 l1 r1 b2 l2 r2 b3 l3 r3 uz ul uh f1 g1 f2 g2 (pst pa (sN S) nan) (pst (sKd S) (sN S) kd) (pst (sOn S) (sN S) on) (pst (sOt S) (sN S) ot) (pst (sPt S) (sN S) pt) (pst (sFb S) (sN S) fbn) (pst (sFl S) (sN S) fln) (pst (sFh S) (sN S) fhn) (pst (sTb S) (sN S) tbn) (pst (sTl S) (sN S) tln) (pst (sTh S) (sN S) thn) (pst (sDg S) (sN S) 0) (pst (sDs S) (sN S) 0)) :
    ∃ w2, OW y ad h (sPush S kd on ot pt F) w2 ∧ w2.map Prod.fst = w1.map Prod.fst ∧ ∀ H, va_P D vwCl w1 H → va_P D vwCl w2 H := by
  have key := wXp_cg (D := D) (y := y) (ad := ad) (h := h) (q := q) (n := sN S) (b1 := b1) (l1 := l1) (r1 := r1) (b2 := b2) (l2 := l2) (r2 := r2) (b3 := b3) (l3 := l3) (r3 := r3) (uz := uz) (ul := ul) (uh := uh) (f1 := f1) (g1 := g1) (f2 := f2) (g2 := g2) (pa := pst pa (sN S) nan) (kd := pst (sKd S) (sN S) kd) (on := pst (sOn S) (sN S) on) (ot := pst (sOt S) (sN S) ot) (pt := pst (sPt S) (sN S) pt) (fb := sFb S) (fl := sFl S) (fh := sFh S) (tb := sTb S) (tl := sTl S) (th := sTh S) (dg := pst (sDg S) (sN S) 0) (ds := pst (sDs S) (sN S) 0)
    (a1 := fbn) (a2 := fln) (a3 := fhn) (c1 := tbn) (c2 := tln) (c3 := thn) (d1 := fun p => (F p).1) (e2 := fun p => (F p).2.1) (e3 := fun p => (F p).2.2) (d2 := fun p => (nwA (fun p => (F p).1) (fun p => (F p).2.1) (fun p => (F p).2.2) (p + 1)).1) (e5 := fun p => (nwA (fun p => (F p).1) (fun p => (F p).2.1) (fun p => (F p).2.2) (p + 1)).2.1) (e6 := fun p => (nwA (fun p => (F p).1) (fun p => (F p).2.1) (fun p => (F p).2.2) (p + 1)).2.2)
    (fun j hj => hF j hj) (fun j hj => by
      rw [hT j hj]
      exact nwA_cg (j + 1) (fun i hi => hF i (by omega)))
  subst hw
  exact ⟨_, ⟨q, _, b1, l1, r1, b2, l2, r2, b3, l3, r3, uz, ul, uh, f1, g1, f2, g2, rfl⟩, key.1, key.2⟩
