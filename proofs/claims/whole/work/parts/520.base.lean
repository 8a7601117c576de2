def SimW (y : Nat → ClassId) (ad : Nat → Nat) (hX1 : Nat) (qX : Nat → Nat) (h8 : Nat) (q8 : Nat → Nat) (oa : Nat) (ws : va_W) : Prop := ∃ (of : Nat → Int64) (n : Nat) (b1 : Bool) (l1 r1 : Int64) (b2 : Bool) (l2 r2 : Int64) (b3 : Bool) (l3 r3 : Int64) (uz : Nat → Bool) (ul uh : Nat → Int64) (f1 g1 f2 g2 : Int64) (pa : Nat → Nat → Nat) (kd : Nat → Nat) (on ot : Nat → Int32) (pt : Nat → Int64) (fb : Nat → Nat → Bool) (fl fh : Nat → Nat → Int64) (tb : Nat → Nat → Bool) (tl th : Nat → Nat → Int64) (dg : Nat → Int32) (ds : Nat → Int64) (tw : Int32) (ki on8 ot8 ab be zA zB zC zD zF zT : Nat → Int32) (fo : Nat → Bool) (lw hg : Nat → Int64) (at_ : Nat → Bool) (tl8 th8 : Nat → Int64) (wo : Nat → Bool) (wl wh : Nat → Int64) (is_ : Bool) (lo_ hi_ : Int64) (di : Nat → Int32) (su : Nat → Int64) (an : Nat → Bool), ws = wM y h8 q8 tw n ki on8 ot8 ab be zA zB zC zD zF zT fo lw hg at_ tl8 th8 wo wl wh is_ lo_ hi_ di su an ++ wXo oa of y ad hX1 qX n (gPg pa n) n b1 l1 r1 b2 l2 r2 b3 l3 r3 uz ul uh f1 g1 f2 g2 pa kd on ot pt fb fl fh tb tl th dg ds ∧ Sim n kd on ot pt fb fl fh tb tl th dg ds ki on8 ot8 ab be zA zB zC zD zF zT fo lw hg at_ tl8 th8 di su
theorem SimW_mk {y : Nat → ClassId} {ad : Nat → Nat} {hX1 : Nat} {qX : Nat → Nat} {h8 : Nat} {q8 : Nat → Nat} {oa : Nat} {of : Nat → Int64} {n : Nat} {b1 : Bool} {l1 r1 : Int64} {b2 : Bool} {l2 r2 : Int64} {b3 : Bool} {l3 r3 : Int64} {uz : Nat → Bool} {ul uh : Nat → Int64} {f1 g1 f2 g2 : Int64} {pa : Nat → Nat → Nat} {kd : Nat → Nat} {on ot : Nat → Int32} {pt : Nat → Int64} {fb : Nat → Nat → Bool} {fl fh : Nat → Nat → Int64} {tb : Nat → Nat → Bool} {tl th : Nat → Nat → Int64} {dg : Nat → Int32} {ds : Nat → Int64} {tw : Int32} {ki on8 ot8 ab be zA zB zC zD zF zT : Nat → Int32} {fo : Nat → Bool} {lw hg : Nat → Int64} {at_ : Nat → Bool} {tl8 th8 : Nat → Int64} {wo : Nat → Bool} {wl wh : Nat → Int64} {is_ : Bool} {lo_ hi_ : Int64} {di : Nat → Int32} {su : Nat → Int64} {an : Nat → Bool} (h : Sim n kd on ot pt fb fl fh tb tl th dg ds ki on8 ot8 ab be zA zB zC zD zF zT fo lw hg at_ tl8 th8 di su) : SimW y ad hX1 qX h8 q8 oa (wM y h8 q8 tw n ki on8 ot8 ab be zA zB zC zD zF zT fo lw hg at_ tl8 th8 wo wl wh is_ lo_ hi_ di su an ++ wXo oa of y ad hX1 qX n (gPg pa n) n b1 l1 r1 b2 l2 r2 b3 l3 r3 uz ul uh f1 g1 f2 g2 pa kd on ot pt fb fl fh tb tl th dg ds) :=
  ⟨of, n, b1, l1, r1, b2, l2, r2, b3, l3, r3, uz, ul, uh, f1, g1, f2, g2, pa, kd, on, ot, pt, fb, fl, fh, tb, tl, th, dg, ds, tw, ki, on8, ot8, ab, be, zA, zB, zC, zD, zF, zT, fo, lw, hg, at_, tl8, th8, wo, wl, wh, is_, lo_, hi_, di, su, an, rfl, h⟩
def gOf : va_W → Nat → Int64
  | (_, .inl (_, _, .inr (.inl f))) :: _ => f
  | _ => fun _ => 0
def stK (p : Program) (l : Launch) (e : Env) (s : State) (m : MethodId) (below : List Frame) (meth : Method) (c : Code) (Q : State → Prop) (b : Nat) (D : va_G) (y : Nat → ClassId) (ad : Nat → Nat) (hX1 : Nat) (qX : Nat → Nat) (h8 : Nat) (q8 : Nat → Nat) (oa i cells slots : Nat) : Prop :=
  ∀ (ws : va_W) (H : Heap) (locs : List Loc) (ls : Array Slot), SimW y ad hX1 qX h8 q8 oa ws → va_P D vwCl ws H → va_D (lA s) ws → va_S (lA s) s.heap H locs → lv_has ls 8 [(0, .ref b), (1, .ref hX1), (2, .ref h8), (3, .ref oa), (4, .int (nI i))] → W p l e room_1 s m #[Value.ref b] below meth c H locs (cells + 10) (slots + 168) Q (F0 m 1823 ls [])
theorem g_of9 {y1 : ClassId} {oa : Nat} {f g : Nat → Int64} {w w' : va_W} (h : (oa, .inl (y1, 1, .inr (.inl f))) :: w = [(oa, .inl (y1, 1, .inr (.inl g)))] ++ w') : f = g := congrArg gOf h
theorem q_sd9 {at_ : Nat → Bool} {tl th : Nat → Int64} {k p d : Nat} (hd : d < 8) (hs : nI d ≤ suR at_ tl th k p) : at_ (25 * k + p) = true := by
  by_cases c : at_ (25 * k + p) = true
  · exact c
  · unfold suR at hs
    rw [if_neg c] at hs
    have h2 : ∀ d : Fin 8, ¬ nI d.val ≤ nI 0 - 1 := by decide
    exact absurd hs (h2 ⟨d, hd⟩)
theorem q_n24 {d : Nat} (h : d ≤ 24) (hd : ¬ d < 24) : ¬ nI d < 24 := by
  have e : d = 24 := by omega
  subst e
  decide
theorem q_qa {tb : Nat → Nat → Bool} {tl th : Nat → Nat → Int64} {at_ : Nat → Bool} {ml mh : Nat → Int64} {k p : Nat} (ht : tlX tb tl th at_ ml mh k) (hT : smT k at_ ml mh) (hp : p < 25) (hf : at_ (25 * k + p) = true) (d : Nat) :
    quS (quX d (sp_X6_load_lo1 (tb k) (tl k) (th k) p) (sp_X7_unitsAt (nI p)) (sp_X6_load_hi1 (tb k) (tl k) (th k) p) (sp_X7_unitsAt (nI p))) = (quR ml mh k p d).1 ∧ (quS (quX d (sp_X6_load_lo1 (tb k) (tl k) (th k) p) (sp_X7_unitsAt (nI p)) (sp_X6_load_hi1 (tb k) (tl k) (th k) p) (sp_X7_unitsAt (nI p))) = true → sp_X1_whole (quX d (sp_X6_load_lo1 (tb k) (tl k) (th k) p) (sp_X7_unitsAt (nI p)) (sp_X6_load_hi1 (tb k) (tl k) (th k) p) (sp_X7_unitsAt (nI p))).1 (quX d (sp_X6_load_lo1 (tb k) (tl k) (th k) p) (sp_X7_unitsAt (nI p)) (sp_X6_load_hi1 (tb k) (tl k) (th k) p) (sp_X7_unitsAt (nI p))).2.1 = (quR ml mh k p d).2) := by
  obtain ⟨e1, e2⟩ := (q_tl ht hp).2 hf
  obtain ⟨⟨b1, b2⟩, ⟨b3, b4⟩⟩ := hT p hp hf
  have hU := q_U hp
  have hP := q_Upos hp
  rw [e1, e2]
  exact q_quo d _ _ _ _ (by show 0 < (jshl 1 (nI p)).toInt; omega) (by show 0 < (jshl 1 (nI p)).toInt; omega) (by show (jshl 1 (nI p)).toInt ≤ _; omega) (by show (jshl 1 (nI p)).toInt ≤ _; omega) (by omega) (by omega) (by omega) (by omega)
