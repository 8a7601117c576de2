theorem upd_s9 {f : Nat → Int32} {k : Nat} {x : Int32} : upd f k x k = x := if_pos rfl
theorem upd_n9 {f : Nat → Int32} {k j : Nat} {x : Int32} (h : j ≠ k) : upd f k x j = f j := if_neg h
theorem SI.tld {S : St} (h : SI S) {k p : Nat} (hk : k < sN S) (hp : p < 25) : sp_X6_load_b1 (sTb S k) (sTl S k) (sTh S k) p = sp_X6_load_b1 (sFb S k) (sFl S k) (sFh S k) p ∧ sp_X6_load_lo1 (sTb S k) (sTl S k) (sTh S k) p = sp_X6_load_lo1 (sFb S k) (sFl S k) (sFh S k) p ∧ sp_X6_load_hi1 (sTb S k) (sTl S k) (sTh S k) p = sp_X6_load_hi1 (sFb S k) (sFl S k) (sFh S k) p := by
  obtain ⟨⟨hg, ht⟩, -⟩ := h.2 k hk
  have e := ht p hp
  rw [n_told hg p hp] at e
  by_cases c : sFb S k p = true
  · rw [if_pos c] at e
    simp only [Prod.mk.injEq] at e
    obtain ⟨e1, e2, e3⟩ := e
    obtain ⟨a1, a2, a3⟩ := ld_y (fl := sFl S k) (fh := sFh S k) c
    obtain ⟨b1, b2, b3⟩ := ld_y (fl := sTl S k) (fh := sTh S k) e1
    rw [a1, a2, a3, b1, b2, b3, e2, e3]
    exact ⟨rfl, rfl, rfl⟩
  · rw [if_neg c] at e
    simp only [Prod.mk.injEq] at e
    obtain ⟨e1, e2, e3⟩ := e
    obtain ⟨a1, a2, a3⟩ := ld_n (fl := sFl S k) (fh := sFh S k) c
    obtain ⟨b1, b2, b3⟩ := ld_n (fb := sTb S k) (fl := sTl S k) (fh := sTh S k) (p := p) (by rw [e1]; decide)
    rw [a1, a2, a3, b1, b2, b3]
    exact ⟨rfl, rfl, rfl⟩
theorem gdR.to {fb : Nat → Bool} {fl fh : Nat → Int64} (h : gdR fb fl fh) {p : Nat} (hb : fb p = true) : ∀ t, p + t < 25 → fb (p + t) = true ∧ (fl p).toInt * 2 ^ t ≤ (fl (p + t)).toInt ∧ (fh (p + t)).toInt ≤ (fh p).toInt * 2 ^ t
  | 0, _ => ⟨hb, by have : (2 : Int) ^ 0 = 1 := rfl
                    rw [this]
                    show (fl p).toInt * 1 ≤ (fl p).toInt ∧ (fh p).toInt ≤ (fh p).toInt * 1
                    omega⟩
  | t + 1, ht => by
    obtain ⟨i1, i2, i3⟩ := gdR.to h hb t (by omega)
    obtain ⟨-, c⟩ := h (p + t) (by omega) i1
    obtain ⟨c1, c2, c3⟩ := c (by omega)
    have e : ∀ z : Int, z * 2 ^ (t + 1) = 2 * (z * 2 ^ t) := fun z => by rw [n_pw]; grind
    rw [e, e]
    refine ⟨c1, ?_, ?_⟩
    · show _ ≤ (fl (p + t + 1)).toInt
      omega
    · show (fh (p + t + 1)).toInt ≤ _
      omega
theorem SI.found {S : St} (h : SI S) {k p : Nat} (hk : k < sN S) (hp : p < 25) (hb : sFb S k p = true) : Bd p (sFl S k p) (sFh S k p) := ((h.2 k hk).1.1 p hp hb).1
theorem mkX_cg {fb fb2 : Nat → Nat → Bool} {fl fl2 fh fh2 : Nat → Nat → Int64} {d k j p : Nat} (h1 : fb2 k = fb k) (h2 : fl2 k = fl k) (h3 : fh2 k = fh k) (h4 : fb2 j = fb j) (h5 : fl2 j = fl j) (h6 : fh2 j = fh j) : mkX fb2 fl2 fh2 d k j p = mkX fb fl fh d k j p := by
  unfold mkX
  rw [h1, h2, h3, h4, h5, h6]
/-- a program more -/
theorem SI.push {S : St} (h : SI S) (hn : sN S < 40) {kd : Nat} {on ot : Int32} {pt : Int64} {F : Nat → Bool × Int64 × Int64} (hg : gdR (fun p => (F p).1) (fun p => (F p).2.1) (fun p => (F p).2.2))
    (hf : pt = jshl 1 (nI (sN S)) ∨ (1 ≤ kd ∧ kd ≤ 7 ∧ ∃ o1 o2 : Nat, o1 < sN S ∧ o2 < sN S ∧ on = nI o1 ∧ ot = nI o2 ∧ pt = (sPt S o1 ||| sPt S o2) ||| jshl 1 (nI (sN S)) ∧ ∀ p, p < 25 → F p = mkX (sFb S) (sFl S) (sFh S) kd o1 o2 p)) : SI (sPush S kd on ot pt F) := by
  refine ⟨show sN S + 1 ≤ 40 by omega, fun k hk => ?_⟩
  have hk' : k < sN S + 1 := hk
  have old : ∀ j, j < sN S → sFb (sPush S kd on ot pt F) j = sFb S j ∧ sFl (sPush S kd on ot pt F) j = sFl S j ∧ sFh (sPush S kd on ot pt F) j = sFh S j ∧ sPt (sPush S kd on ot pt F) j = sPt S j := fun j hj => ⟨pst_n (by omega), pst_n (by omega), pst_n (by omega), pst_n (by omega)⟩
  by_cases c : k = sN S
  · subst c
    have a1 : sFb (sPush S kd on ot pt F) (sN S) = fun p => (F p).1 := pst_s _ _ _
    have a2 : sFl (sPush S kd on ot pt F) (sN S) = fun p => (F p).2.1 := pst_s _ _ _
    have a3 : sFh (sPush S kd on ot pt F) (sN S) = fun p => (F p).2.2 := pst_s _ _ _
    have a4 : sTb (sPush S kd on ot pt F) (sN S) = fun p => (nwA (fun p => (F p).1) (fun p => (F p).2.1) (fun p => (F p).2.2) (p + 1)).1 := pst_s _ _ _
    have a5 : sTl (sPush S kd on ot pt F) (sN S) = fun p => (nwA (fun p => (F p).1) (fun p => (F p).2.1) (fun p => (F p).2.2) (p + 1)).2.1 := pst_s _ _ _
    have a6 : sTh (sPush S kd on ot pt F) (sN S) = fun p => (nwA (fun p => (F p).1) (fun p => (F p).2.1) (fun p => (F p).2.2) (p + 1)).2.2 := pst_s _ _ _
    have a7 : sKd (sPush S kd on ot pt F) (sN S) = kd := pst_s _ _ _
    have a8 : sOn (sPush S kd on ot pt F) (sN S) = on := pst_s _ _ _
    have a9 : sOt (sPush S kd on ot pt F) (sN S) = ot := pst_s _ _ _
    have b1 : sPt (sPush S kd on ot pt F) (sN S) = pt := pst_s _ _ _
    have b2 : sDg (sPush S kd on ot pt F) (sN S) = 0 := pst_s _ _ _
    have b3 : sDs (sPush S kd on ot pt F) (sN S) = 0 := pst_s _ _ _
    refine ⟨?_, ?_, ?_⟩
    · unfold rws
      rw [a1, a2, a3, a4, a5, a6]
      exact ⟨hg, fun p hp => rfl⟩
    · rcases hf with e | ⟨d1, d7, o1, o2, h1, h2, e1, e2, e3, e4⟩
      · exact Or.inl (b1.trans e)
      · obtain ⟨p1, p2, p3, p4⟩ := old o1 h1
        obtain ⟨r1, r2, r3, r4⟩ := old o2 h2
        refine Or.inr ⟨by rw [a7]; exact d1, by rw [a7]; exact d7, o1, o2, h1, h2, a8.trans e1, a9.trans e2, ?_, fun p hp => ?_⟩
        · rw [b1, p4, r4]
          exact e3
        · rw [a1, a2, a3, a7, mkX_cg p1 p2 p3 r1 r2 r3]
          exact e4 p hp
    · unfold dgt
      rw [b2, b3]
      exact ⟨0, by decide, rfl, by decide, by decide, fun z => absurd z (by decide)⟩
  · have hk2 : k < sN S := by omega
    obtain ⟨q1, q2, q3⟩ := h.2 k hk2
    obtain ⟨a1, a2, a3, b1⟩ := old k hk2
    have a4 : sTb (sPush S kd on ot pt F) k = sTb S k := pst_n c
    have a5 : sTl (sPush S kd on ot pt F) k = sTl S k := pst_n c
    have a6 : sTh (sPush S kd on ot pt F) k = sTh S k := pst_n c
    have a7 : sKd (sPush S kd on ot pt F) k = sKd S k := pst_n c
    have a8 : sOn (sPush S kd on ot pt F) k = sOn S k := pst_n c
    have a9 : sOt (sPush S kd on ot pt F) k = sOt S k := pst_n c
    have b2 : sDg (sPush S kd on ot pt F) k = sDg S k := pst_n c
    have b3 : sDs (sPush S kd on ot pt F) k = sDs S k := pst_n c
    refine ⟨?_, ?_, ?_⟩
    · unfold rws
      rw [a1, a2, a3, a4, a5, a6]
      exact q1
    · rcases q2 with e | ⟨d1, d7, o1, o2, h1, h2, e1, e2, e3, e4⟩
      · exact Or.inl (b1.trans e)
      · obtain ⟨p1, p2, p3, p4⟩ := old o1 (by omega)
        obtain ⟨r1, r2, r3, r4⟩ := old o2 (by omega)
        refine Or.inr ⟨by rw [a7]; exact d1, by rw [a7]; exact d7, o1, o2, h1, h2, a8.trans e1, a9.trans e2, ?_, fun p hp => ?_⟩
        · rw [b1, p4, r4]
          exact e3
        · rw [a1, a2, a3, a7, mkX_cg p1 p2 p3 r1 r2 r3]
          exact e4 p hp
    · unfold dgt
      rw [a1, a2, a3, b2, b3]
      exact q3
/-- other digits of a program -/
theorem SI.dig {S : St} (h : SI S) {k : Nat} {d : Int32} {s : Int64} (hd : dgt (sDig S k d s) k) : SI (sDig S k d s) := by
  refine ⟨h.1, fun j hj => ?_⟩
  obtain ⟨q1, q2, q3⟩ := h.2 j hj
  by_cases c : j = k
  · subst c
    exact ⟨q1, q2, hd⟩
  · refine ⟨q1, q2, ?_⟩
    have b2 : sDg (sDig S k d s) j = sDg S j := upd_n9 c
    have b3 : sDs (sDig S k d s) j = sDs S j := pk_uLn c
    unfold dgt
    rw [b2, b3]
    exact q3
theorem SI.res {S : St} (h : SI S) (k : Nat) : SI (sDig S k 0 0) := h.dig ⟨0, by decide, upd_s9, by show -(2 ^ 0) < (vp_updL (sDs S) k 0 k).toInt; rw [pk_uLs]; decide, by show (vp_updL (sDs S) k 0 k).toInt < 2 ^ 0; rw [pk_uLs]; decide, fun z => absurd z (by decide)⟩
theorem nx_ex {f : Nat → Int32} : ∀ (n p : Nat), ¬ nxX f n p = 2 → ∃ q, p ≤ q ∧ q < p + n ∧ f q = nxX f n p
  | 0, p, h => absurd rfl h
  | n + 1, p, h => by
    unfold nxX at h ⊢
    by_cases c : f p = 2
    · rw [if_pos c] at h ⊢
      obtain ⟨q, h1, h2, h3⟩ := nx_ex n (p + 1) h
      exact ⟨q, by omega, by omega, h3⟩
    · rw [if_neg c]
      exact ⟨p, Nat.le_refl p, by omega, rfl⟩
theorem dg_in {L H U : Int64} {x : Int32} (h : (if 2 * L < -U then (if L < 0 then (if 0 < H then (2 : Int32) else -1) else 1) else if U < 2 * H then (if L < 0 then (if 0 < H then 2 else -1) else 1) else 0) = x) (hx : ¬ x = 2) : (x = 0 ∧ ¬ 2 * L < -U ∧ ¬ U < 2 * H) ∨ (x = 1 ∧ ¬ L < 0) ∨ (x = -1 ∧ ¬ 0 < H) := by
  by_cases c1 : 2 * L < -U
  · rw [if_pos c1] at h
    by_cases c2 : L < 0
    · rw [if_pos c2] at h
      by_cases c3 : 0 < H
      · rw [if_pos c3] at h
        exact absurd h.symm hx
      · rw [if_neg c3] at h
        exact Or.inr (Or.inr ⟨h.symm, c3⟩)
    · rw [if_neg c2] at h
      exact Or.inr (Or.inl ⟨h.symm, c2⟩)
  · rw [if_neg c1] at h
    by_cases c4 : U < 2 * H
    · rw [if_pos c4] at h
      by_cases c2 : L < 0
      · rw [if_pos c2] at h
        by_cases c3 : 0 < H
        · rw [if_pos c3] at h
          exact absurd h.symm hx
        · rw [if_neg c3] at h
          exact Or.inr (Or.inr ⟨h.symm, c3⟩)
      · rw [if_neg c2] at h
        exact Or.inr (Or.inl ⟨h.symm, c2⟩)
    · rw [if_neg c4] at h
      exact Or.inl ⟨h.symm, c1, c4⟩
/-- the digit that is sure at a place -/
theorem SI.digit {S : St} (h : SI S) {k : Nat} (hk : k < sN S) {d p : Nat} (hd : d < p) (hp : p < 25) (e1 : sDg S k = nI d) (hb : -(2 ^ d) < (sDs S k).toInt ∧ (sDs S k).toInt < 2 ^ d) {x : Int32} (hx : sp_X7_digitAt (sTb S) (sTl S) (sTh S) (sDg S) (sDs S) k p = x) (hx2 : ¬ x = 2) :
    sFb S k p = true ∧ (d = 0 → -(2 ^ (p - d)) ≤ (sFl S k p).toInt - (sDs S k).toInt * 2 ^ (p - d) ∧ (sFh S k p).toInt - (sDs S k).toInt * 2 ^ (p - d) ≤ 2 ^ (p - d)) ∧
    ((x = 0 ∧ -(2 ^ (p - d)) ≤ 2 * ((sFl S k p).toInt - (sDs S k).toInt * 2 ^ (p - d)) ∧ 2 * ((sFh S k p).toInt - (sDs S k).toInt * 2 ^ (p - d)) ≤ 2 ^ (p - d)) ∨ (x = 1 ∧ 0 ≤ (sFl S k p).toInt - (sDs S k).toInt * 2 ^ (p - d)) ∨ (x = -1 ∧ (sFh S k p).toInt - (sDs S k).toInt * 2 ^ (p - d) ≤ 0)) := by
  obtain ⟨t1, t2, t3⟩ := h.tld hk hp
  unfold sp_X7_digitAt at hx
  rw [t1, t2, t3] at hx
  by_cases c : sFb S k p = true
  · obtain ⟨a1, a2, a3⟩ := ld_y (fl := sFl S k) (fh := sFh S k) c
    rw [a1, a2, a3, if_pos rfl] at hx
    have e0 : (0 : Int64).toInt = 0 := rfl
    have e2 : (2 : Int64).toInt = 2 := by decide
    have hU := q_U (p := p - d) (by omega)
    have hUp := q_Upos (p := p - d) (by omega)
    have hUP := q_Upos hp
    have hUd := q_Upos (p := d) (by omega)
    obtain ⟨B1, B2, B3⟩ := h.found hk hp c
    have hsub : nI p - sDg S k = nI (p - d) := by rw [e1]; exact q_sub hp (by omega)
    rw [hsub] at hx
    have hm := q_absmul (x := (sDs S k).toInt) (y := 2 ^ (p - d)) (X := 16777216) (Y := 16777216) ⟨by omega, by omega⟩ ⟨by omega, by omega⟩
    have em : (sDs S k * sp_X7_unitsAt (nI (p - d))).toInt = (sDs S k).toInt * 2 ^ (p - d) := by
      show (sDs S k * jshl 1 (nI (p - d))).toInt = _
      rw [q_mulI, hU] <;> (rw [hU]; omega)
    have eL : (sFl S k p - sDs S k * sp_X7_unitsAt (nI (p - d))).toInt = (sFl S k p).toInt - (sDs S k).toInt * 2 ^ (p - d) := by rw [q_subI, em] <;> (rw [em]; omega)
    have eH : (sFh S k p - sDs S k * sp_X7_unitsAt (nI (p - d))).toInt = (sFh S k p).toInt - (sDs S k).toInt * 2 ^ (p - d) := by rw [q_subI, em] <;> (rw [em]; omega)
    have hU' : (sp_X7_unitsAt (nI (p - d))).toInt = 2 ^ (p - d) := hU
    generalize sp_X7_unitsAt (nI (p - d)) = U at hx em eL eH hU'
    generalize sFl S k p - sDs S k * U = L at hx eL
    generalize sFh S k p - sDs S k * U = H at hx eH
    have eN : (-U).toInt = -2 ^ (p - d) := by rw [q_negI (by rw [hU']; omega), hU']
    have e2L : (2 * L).toInt = 2 * L.toInt := by rw [q_mulI, e2] <;> (rw [e2]; omega)
    have e2H : (2 * H).toInt = 2 * H.toInt := by rw [q_mulI, e2] <;> (rw [e2]; omega)
    have fin : ∀ y : Int32, (if 2 * L < -U then (if L < 0 then (if 0 < H then (2 : Int32) else -1) else 1) else if U < 2 * H then (if L < 0 then (if 0 < H then 2 else -1) else 1) else 0) = y → ¬ y = 2 → ((y = 0 ∧ -(2 ^ (p - d)) ≤ 2 * ((sFl S k p).toInt - (sDs S k).toInt * 2 ^ (p - d)) ∧ 2 * ((sFh S k p).toInt - (sDs S k).toInt * 2 ^ (p - d)) ≤ 2 ^ (p - d)) ∨ (y = 1 ∧ 0 ≤ (sFl S k p).toInt - (sDs S k).toInt * 2 ^ (p - d)) ∨ (y = -1 ∧ (sFh S k p).toInt - (sDs S k).toInt * 2 ^ (p - d) ≤ 0)) := by
      intro y hy hy2
      rcases dg_in hy hy2 with ⟨w, w1, w2⟩ | ⟨w, w1⟩ | ⟨w, w1⟩
      · rw [q_lt, e2L, eN, eL] at w1
        rw [q_lt, e2H, hU', eH] at w2
        exact Or.inl ⟨w, by omega, by omega⟩
      · rw [q_lt, eL, e0] at w1
        exact Or.inr (Or.inl ⟨w, by omega⟩)
      · rw [q_lt, eH, e0] at w1
        exact Or.inr (Or.inr ⟨w, by omega⟩)
    by_cases c0 : sDg S k = 0
    · rw [if_pos c0] at hx
      by_cases c1 : L < -U
      · rw [if_pos c1] at hx
        exact absurd hx.symm hx2
      · rw [if_neg c1] at hx
        by_cases c2 : H ≤ U
        · rw [if_pos c2] at hx
          rw [q_lt, eL, eN] at c1
          rw [q_le, eH, hU'] at c2
          exact ⟨c, fun _ => ⟨by omega, by omega⟩, fin x hx hx2⟩
        · rw [if_neg c2] at hx
          exact absurd hx.symm hx2
    · rw [if_neg c0] at hx
      refine ⟨c, fun z => ?_, fin x hx hx2⟩
      exfalso
      apply c0
      rw [e1, z]
      rfl
  · obtain ⟨a1, -, -⟩ := ld_n (fl := sFl S k) (fh := sFh S k) c
    rw [a1, if_neg (by decide)] at hx
    exact absurd hx.symm hx2
theorem SI.next {S : St} (h : SI S) {k : Nat} (hk : k < sN S) (h24 : ix (sDg S k) < 24) (hs : ¬ vNx S k = 2) : SI (sDig S k (sDg S k + 1) (2 * sDs S k + (vNx S k).toInt64)) := by
  obtain ⟨d, hd, e1, hb1, hb2, hb3⟩ := (h.2 k hk).2.2
  have i9 : ix (sDg S k) = d := by rw [e1]; exact ix_nI (by omega)
  rw [i9] at h24
  obtain ⟨x, hx⟩ : ∃ x, x = vNx S k := ⟨_, rfl⟩
  rw [← hx] at hs ⊢
  unfold vNx at hx
  rw [i9] at hx
  obtain ⟨p, hp1, hp2, hp3⟩ := nx_ex (f := sp_X7_digitAt (sTb S) (sTl S) (sTh S) (sDg S) (sDs S) k) (24 - d) (d + 1) (by rw [← hx]; exact hs)
  rw [← hx] at hp3
  obtain ⟨f1, f2, f3⟩ := h.digit hk (by omega) (by omega) e1 ⟨hb1, hb2⟩ hp3 hs
  obtain ⟨g1, g2, g3⟩ := gdR.to (h.2 k hk).1.1 f1 (24 - p) (by omega)
  rw [show p + (24 - p) = 24 by omega] at g1 g2 g3
  obtain ⟨B1, B2, B3⟩ := h.found hk (by decide) g1
  have hUd := q_Upos (p := d) (by omega)
  have e2 : (2 : Int64).toInt = 2 := by decide
  have xb : x.toInt64.toInt = x.toInt := Int32.toInt_toInt64 x
  have x3 : -1 ≤ x.toInt ∧ x.toInt ≤ 1 := by
    rcases f3 with ⟨w, -⟩ | ⟨w, -⟩ | ⟨w, -⟩ <;> (rw [w]; decide)
  have m2 : (2 * sDs S k).toInt = 2 * (sDs S k).toInt := by rw [q_mulI, e2] <;> (rw [e2]; omega)
  have s2 : (2 * sDs S k + x.toInt64).toInt = 2 * (sDs S k).toInt + x.toInt := by rw [q_addI, m2, xb] <;> (rw [m2, xb]; omega)
  have T0 : (0 : Int) ≤ 2 ^ (24 - p) := Int.le_of_lt (Int.pow_pos (by decide))
  have V1 : (2 : Int) ^ (p - d) * 2 ^ (24 - p) = 2 ^ (24 - d) := by rw [← Int.pow_add, show p - d + (24 - p) = 24 - d by omega]
  have V2 : (2 : Int) ^ (24 - d) = 2 * 2 ^ (24 - (d + 1)) := by rw [← n_pw, show 24 - (d + 1) + 1 = 24 - d by omega]
  obtain ⟨s, hs9⟩ : ∃ s : Int, s = (sDs S k).toInt := ⟨_, rfl⟩
  obtain ⟨u, hu9⟩ : ∃ u : Int, u = 2 ^ (24 - (d + 1)) := ⟨_, rfl⟩
  have sV : s * 2 ^ (p - d) * 2 ^ (24 - p) = 2 * (s * u) := by
    rw [Int.mul_assoc, V1, V2, hu9]
    grind
  have UV : (2 : Int) ^ (p - d) * 2 ^ (24 - p) = 2 * u := by rw [V1, V2, hu9]
  rw [← hs9] at f2 f3 hb1 hb2 hb3 s2 m2
  have key : (2 * s + x.toInt - 1) * u ≤ (sFh S k 24).toInt ∧ (sFl S k 24).toInt ≤ (2 * s + x.toInt + 1) * u := by
    rcases f3 with ⟨w, w1, w2⟩ | ⟨w, w1⟩ | ⟨w, w1⟩
    · have k1 : (2 * (s * 2 ^ (p - d)) - 2 ^ (p - d)) * 2 ^ (24 - p) ≤ (2 * (sFl S k p).toInt) * 2 ^ (24 - p) := Int.mul_le_mul_of_nonneg_right (by omega) T0
      have k2 : (2 * (sFh S k p).toInt) * 2 ^ (24 - p) ≤ (2 * (s * 2 ^ (p - d)) + 2 ^ (p - d)) * 2 ^ (24 - p) := Int.mul_le_mul_of_nonneg_right (by omega) T0
      rw [Int.sub_mul, Int.mul_assoc 2 (s * 2 ^ (p - d)), sV, UV, Int.mul_assoc 2 (sFl S k p).toInt] at k1
      rw [Int.add_mul, Int.mul_assoc 2 (s * 2 ^ (p - d)), sV, UV, Int.mul_assoc 2 (sFh S k p).toInt] at k2
      rw [w, show (0 : Int32).toInt = 0 from rfl]
      have z1 : (2 * s + 0 - 1) * u = 2 * (s * u) - u := by grind
      have z2 : (2 * s + 0 + 1) * u = 2 * (s * u) + u := by grind
      rw [z1, z2]
      omega
    · have k1 : (s * 2 ^ (p - d)) * 2 ^ (24 - p) ≤ (sFl S k p).toInt * 2 ^ (24 - p) := Int.mul_le_mul_of_nonneg_right (by omega) T0
      rw [sV] at k1
      rw [w, show (1 : Int32).toInt = 1 from rfl]
      have z1 : (2 * s + 1 - 1) * u = 2 * (s * u) := by grind
      have z2 : (2 * s + 1 + 1) * u = 2 * (s * u) + 2 * u := by grind
      rw [z1, z2]
      refine ⟨by omega, ?_⟩
      by_cases c : d = 0
      · obtain ⟨-, w2⟩ := f2 c
        have k2 : (sFh S k p).toInt * 2 ^ (24 - p) ≤ (s * 2 ^ (p - d) + 2 ^ (p - d)) * 2 ^ (24 - p) := Int.mul_le_mul_of_nonneg_right (by omega) T0
        rw [Int.add_mul, sV, UV] at k2
        omega
      · obtain ⟨-, -, w3⟩ := hb3 (by omega)
        rw [V2, ← hu9] at w3
        have z3 : (s + 1) * (2 * u) = 2 * (s * u) + 2 * u := by grind
        omega
    · have k1 : (sFh S k p).toInt * 2 ^ (24 - p) ≤ (s * 2 ^ (p - d)) * 2 ^ (24 - p) := Int.mul_le_mul_of_nonneg_right (by omega) T0
      rw [sV] at k1
      rw [w, show (-1 : Int32).toInt = -1 from rfl]
      have z1 : (2 * s + -1 - 1) * u = 2 * (s * u) - 2 * u := by grind
      have z2 : (2 * s + -1 + 1) * u = 2 * (s * u) := by grind
      rw [z1, z2]
      refine ⟨?_, by omega⟩
      by_cases c : d = 0
      · obtain ⟨w2, -⟩ := f2 c
        have k2 : (s * 2 ^ (p - d) - 2 ^ (p - d)) * 2 ^ (24 - p) ≤ (sFl S k p).toInt * 2 ^ (24 - p) := Int.mul_le_mul_of_nonneg_right (by omega) T0
        rw [Int.sub_mul, sV, UV] at k2
        omega
      · obtain ⟨-, w3, -⟩ := hb3 (by omega)
        rw [V2, ← hu9] at w3
        have z3 : (s - 1) * (2 * u) = 2 * (s * u) - 2 * u := by grind
        omega
  have hpd := n_pw d
  refine h.dig ⟨d + 1, by omega, ?_, ?_, ?_, fun _ => ⟨g1, ?_, ?_⟩⟩
  · show upd (sDg S) k (sDg S k + 1) k = nI (d + 1)
    rw [upd_s9, e1]
    exact nI_1 d
  · show -(2 ^ (d + 1)) < (vp_updL (sDs S) k (2 * sDs S k + x.toInt64) k).toInt
    rw [pk_uLs, s2, hpd]
    omega
  · show (vp_updL (sDs S) k (2 * sDs S k + x.toInt64) k).toInt < 2 ^ (d + 1)
    rw [pk_uLs, s2, hpd]
    omega
  · show ((vp_updL (sDs S) k (2 * sDs S k + x.toInt64) k).toInt - 1) * 2 ^ (24 - (d + 1)) ≤ (sFh S k 24).toInt
    rw [pk_uLs, s2, ← hu9]
    exact key.1
  · show (sFl S k 24).toInt ≤ ((vp_updL (sDs S) k (2 * sDs S k + x.toInt64) k).toInt + 1) * 2 ^ (24 - (d + 1))
    rw [pk_uLs, s2, ← hu9]
    exact key.2
/-- what the calls leave -/
theorem SI.k_next {S : St} (h : SI S) (a : Int32) : SI (dNext S a).2 := by
  unfold dNext
  split
  · rename_i c
    rcases ok_c (n := sN S) (by have := h.1; omega) a with ⟨k, hk, rfl, c1, i1⟩ | ⟨c1, -⟩
    · rw [i1]
      split
      · rename_i c2
        split
        · exact h
        · rename_i c3
          exact h.next hk c2 c3
      · exact h
    · rw [c1] at c
      exact absurd c (by decide)
  · exact h
theorem SI.k_res {S : St} (h : SI S) (a : Int32) : SI (dRes S a).2 := by
  unfold dRes
  split
  · exact h.res _
  · exact h
theorem SI.k_ratio {S : St} (h : SI S) (a b : Int32) : SI (dRat S a b).2 := by
  unfold dRat
  split
  · exact h
  · rename_i c1
    split
    · exact h
    · rename_i c2
      split
      · rename_i c3
        have t1 : ¬ a < -1000 := fun z => c1 (Or.inl z)
        have t2 : a ≤ 1000 := Classical.not_not.mp (fun z => c1 (Or.inr z))
        have t3 : ¬ b < 1 := fun z => c2 (Or.inl z)
        rw [Int32.lt_iff_toInt_lt, show (-1000 : Int32).toInt = -1000 from by decide] at t1
        rw [Int32.le_iff_toInt_le, show (1000 : Int32).toInt = 1000 from by decide] at t2
        rw [Int32.lt_iff_toInt_lt, show (1 : Int32).toInt = 1 from by decide] at t3
        exact h.push c3 (n_ratio (by omega) t2 (by omega)) (Or.inl rfl)
      · exact h
theorem SI.k_make {S : St} (h : SI S) {d : Nat} (hd1 : 1 ≤ d) (hd7 : d ≤ 7) (a b : Int32) : SI (dMake S d a b).2 := by
  have hn := h.1
  unfold dMake
  rcases ok_c (n := sN S) (by omega) a with ⟨k, hk, rfl, c1, i1⟩ | ⟨c1, -⟩
  · rw [if_pos c1, i1]
    rcases ok_c (n := sN S) (by omega) b with ⟨j, hj, rfl, c2, i2⟩ | ⟨c2, -⟩
    · rw [if_pos c2, i2]
      split
      · rename_i c3
        exact h.push c3 (n_make hd1 hd7 (h.2 k hk).1.1 (h.2 j hj).1.1) (Or.inr ⟨hd1, hd7, k, j, hk, hj, rfl, rfl, rfl, fun p hp => rfl⟩)
      · exact h
    · rw [if_neg (by rw [c2]; decide)]
      exact h
  · rw [if_neg (by rw [c1]; decide)]
    exact h
theorem in_9 {a : Int32} (c : ¬ (a < -9 ∨ ¬ a ≤ 9)) : -9 ≤ a.toInt64.toInt ∧ a.toInt64.toInt ≤ 9 := by
  have t1 : ¬ a < -9 := fun z => c (Or.inl z)
  have t2 : a ≤ 9 := Classical.not_not.mp (fun z => c (Or.inr z))
  rw [Int32.lt_iff_toInt_lt, show (-9 : Int32).toInt = -9 from by decide] at t1
  rw [Int32.le_iff_toInt_le, show (9 : Int32).toInt = 9 from by decide] at t2
  rw [Int32.toInt_toInt64]
  omega
theorem SI.k_zero {S : St} (h : SI S) (a b c0 d0 fr hv : Int32) : SI (dZero S a b c0 d0 fr hv).2 := by
  unfold dZero
  split
  · exact h
  · rename_i z1
    split
    · exact h
    · rename_i z2
      split
      · exact h
      · rename_i z3
        split
        · exact h
        · rename_i z4
          split
          · exact h
          · rename_i z5
            rcases ok_c (n := 3) (by decide) hv with ⟨u, hu, rfl, c1, i1⟩ | ⟨c1, -⟩
            · rw [if_pos c1, i1]
              split
              · rename_i c3
                split
                · have t1 : ¬ fr < -4 := fun z => z5 (Or.inl z)
                  have t2 : fr ≤ 3 := Classical.not_not.mp (fun z => z5 (Or.inr z))
                  rw [Int32.lt_iff_toInt_lt, show (-4 : Int32).toInt = -4 from by decide] at t1
                  rw [Int32.le_iff_toInt_le, show (3 : Int32).toInt = 3 from by decide] at t2
                  exact h.push c3 (n_zero hu (in_9 z1) (in_9 z2) (in_9 z3) (in_9 z4) ⟨by omega, t2⟩) (Or.inl rfl)
                · exact h
              · exact h
            · rw [if_neg (by rw [c1]; decide)]
              exact h
