section GSN
variable {kd : Nat → Nat} {on ot : Nat → Int32} {pt : Nat → Int64} {fb : Nat → Nat → Bool} {fl fh : Nat → Nat → Int64} {tb : Nat → Nat → Bool} {tl th : Nat → Nat → Int64} {dg : Nat → Int32} {ds : Nat → Int64} {ki on8 ot8 ab be zA zB zC zD zF zT : Nat → Int32} {fo : Nat → Bool} {lw hg : Nat → Int64} {at_ : Nat → Bool} {tl8 th8 : Nat → Int64} {di : Nat → Int32} {su : Nat → Int64} {n : Nat}
theorem q_tbd {cF : Nat → Bool} {cL cH : Nat → Int64} (hB : ∀ p, p < 25 → cF p = true → Bd p (cL p) (cH p)) : ∀ p, p < 25 → tI cF p = true → (-(64 * 2 ^ p) ≤ (tL cF cL p).toInt ∧ (tL cF cL p).toInt ≤ 64 * 2 ^ p) ∧ (-(64 * 2 ^ p) ≤ (tH cF cH p).toInt ∧ (tH cF cH p).toInt ≤ 64 * 2 ^ p)
  | 0, hp, h => by
    obtain ⟨b1, b2, b3⟩ := hB 0 hp h
    show (-(64 * 2 ^ 0) ≤ (cL 0).toInt ∧ (cL 0).toInt ≤ 64 * 2 ^ 0) ∧ (-(64 * 2 ^ 0) ≤ (cH 0).toInt ∧ (cH 0).toInt ≤ 64 * 2 ^ 0)
    omega
  | p + 1, hp, h => by
    have ih := q_tbd hB p (by omega)
    have hP := q_Upos (p := p) (by omega)
    have hs : (2 : Int) ^ (p + 1) = 2 * 2 ^ p := by rw [Int.pow_succ]; omega
    have e2 : (2 : Int64).toInt = 2 := rfl
    show (-(64 * 2 ^ (p + 1)) ≤ (kaL (tI cF p) (cF (p + 1)) (tL cF cL p) (cL (p + 1))).toInt ∧ (kaL (tI cF p) (cF (p + 1)) (tL cF cL p) (cL (p + 1))).toInt ≤ 64 * 2 ^ (p + 1)) ∧ (-(64 * 2 ^ (p + 1)) ≤ (kaH (tI cF p) (cF (p + 1)) (tH cF cH p) (cH (p + 1))).toInt ∧ (kaH (tI cF p) (cF (p + 1)) (tH cF cH p) (cH (p + 1))).toInt ≤ 64 * 2 ^ (p + 1))
    rw [hs]
    have h' : kaA (tI cF p) (cF (p + 1)) = true := h
    unfold kaA at h'
    unfold kaL kaH
    by_cases c1 : tI cF p = true
    · obtain ⟨⟨i1, i2⟩, ⟨i3, i4⟩⟩ := ih c1
      have m1 : (2 * tL cF cL p).toInt = 2 * (tL cF cL p).toInt := by rw [q_mulI, e2] <;> (rw [e2]; omega)
      have m2 : (2 * tH cF cH p).toInt = 2 * (tH cF cH p).toInt := by rw [q_mulI, e2] <;> (rw [e2]; omega)
      rw [if_pos c1, if_pos c1]
      by_cases c2 : cF (p + 1) = true
      · obtain ⟨b1, b2, b3⟩ := hB (p + 1) hp c2
        rw [hs] at b1 b3
        rw [if_pos c2, if_pos c2, q_maxI, q_minI, m1, m2]
        omega
      · rw [if_neg c2, if_neg c2, m1, m2]
        omega
    · rw [if_neg c1] at h'
      rw [if_neg c1, if_neg c1]
      by_cases c2 : cF (p + 1) = true
      · obtain ⟨b1, b2, b3⟩ := hB (p + 1) hp c2
        rw [hs] at b1 b3
        omega
      · rw [if_neg c2] at h'
        exact absurd h' (by decide)
theorem mkX_ne {fb9 : Nat → Nat → Bool} {fl9 fh9 : Nat → Nat → Int64} {d o1 o2 : Nat} {m : Nat} {vb : Nat → Bool} {vl vh : Nat → Int64} (h1 : o1 ≠ m) (h2 : o2 ≠ m) : mkX (pst fb9 m vb) (pst fl9 m vl) (pst fh9 m vh) d o1 o2 = mkX fb9 fl9 fh9 d o1 o2 := by
  funext p
  unfold mkX
  rw [pst_ne _ _ h1, pst_ne _ _ h1, pst_ne _ _ h1, pst_ne _ _ h2, pst_ne _ _ h2, pst_ne _ _ h2]
/-- what a program is stays, when another one is made -/
theorem smS_up {k m : Nat} (h : smS k kd on ot pt fb fl fh ki on8 ot8 ab be zA zB zC zD zF zT) (hk : k < m) {vd : Nat} {v1 v2 : Int32} {vp : Int64} {vb : Nat → Bool} {vl vh : Nat → Int64} {ki9 on9 ot9 ab9 be9 zA9 zB9 zC9 zD9 zF9 zT9 : Nat → Int32}
    (h1 : ki9 k = ki k) (h2 : on9 k = on8 k) (h3 : ot9 k = ot8 k) (h4 : ab9 k = ab k) (h5 : be9 k = be k) (h6 : zA9 k = zA k) (h7 : zB9 k = zB k) (h8 : zC9 k = zC k) (h9 : zD9 k = zD k) (h10 : zF9 k = zF k) (h11 : zT9 k = zT k) :
    smS k (pst kd m vd) (pst on m v1) (pst ot m v2) (pst pt m vp) (pst fb m vb) (pst fl m vl) (pst fh m vh) ki9 on9 ot9 ab9 be9 zA9 zB9 zC9 zD9 zF9 zT9 := by
  have hne : k ≠ m := by omega
  unfold smS smX
  rw [h1, h2, h3, h4, h5, h6, h7, h8, h9, h10, h11, pst_ne kd vd hne, pst_ne on v1 hne, pst_ne ot v2 hne, pst_ne pt vp hne, pst_ne fb vb hne, pst_ne fl vl hne, pst_ne fh vh hne]
  rcases h with h | h | ⟨o1, ho1, g1, g2, g3, g4, g5, g6⟩ | ⟨o1, o2, ho1, ho2, g1, g2, g3, g4, g5, g6⟩
  · exact Or.inl h
  · exact Or.inr (Or.inl h)
  · refine Or.inr (Or.inr (Or.inl ⟨o1, ho1, g1, g2, g3, g4, ?_, ?_⟩))
    · rw [pst_ne pt vp (by omega)]
      exact g5
    · rw [mkX_ne (by omega) (by omega)]
      exact g6
  · refine Or.inr (Or.inr (Or.inr ⟨o1, o2, ho1, ho2, g1, g2, g3, g4, ?_, ?_⟩))
    · rw [pst_ne pt vp (by omega), pst_ne pt vp (by omega)]
      exact g5
    · rw [mkX_ne (by omega) (by omega)]
      exact g6
/-- a new program's rows -/
theorem sm_new {m : Nat} {X : Nat → Bool × Int64 × Int64} (hX : ∀ p, p < 25 → (X p).1 = true → Bd p (X p).2.1 (X p).2.2) {vb : Nat → Bool} {vl vh : Nat → Int64} {ub : Nat → Bool} {ul uh : Nat → Int64} (h1 : ∀ p, p < 25 → (vb p, vl p, vh p) = X p) (h2 : ∀ p, p < 25 → (ub p, ul p, uh p) = nwA vb vl vh (p + 1))
    {fo1 : Nat → Bool} {lw1 hg1 : Nat → Int64} {at1 : Nat → Bool} {tl1 th1 : Nat → Int64} (hR : ∀ p, p < 25 → adR m (fun p => (X p).1) (fun p => (X p).2.1) (fun p => (X p).2.2) fo1 lw1 hg1 at1 tl1 th1 p) :
    smR m (pst fb m vb) (pst fl m vl) (pst fh m vh) fo1 lw1 hg1 ∧ tlX (pst tb m ub) (pst tl m ul) (pst th m uh) at1 tl1 th1 m ∧ smT m at1 tl1 th1 := by
  have hrw : ∀ p, p < 25 → rwX vb vl vh (fun p => (X p).1) (fun p => (X p).2.1) (fun p => (X p).2.2) p := by
    intro p hp
    have h3 := h1 p hp
    exact ⟨congrArg Prod.fst h3, fun _ => ⟨congrArg (fun z => z.2.1) h3, congrArg (fun z => z.2.2) h3⟩⟩
  refine ⟨fun p hp => ?_, fun p hp => ?_, fun p hp c => ?_⟩
  · obtain ⟨r1, r2, -, -⟩ := hR p hp
    obtain ⟨w1, w2⟩ := hrw p hp
    rw [pst_at, pst_at, pst_at]
    refine ⟨⟨w1.trans r1.symm, fun c => ?_⟩, fun c => ?_⟩
    · rw [r1] at c
      obtain ⟨w3, w4⟩ := w2 c
      obtain ⟨r3, r4⟩ := r2 c
      exact ⟨w3.trans r3.symm, w4.trans r4.symm⟩
    · rw [r1] at c
      obtain ⟨r3, r4⟩ := r2 c
      rw [r3, r4]
      exact hX p hp c
  · obtain ⟨-, -, r1, r2⟩ := hR p hp
    rw [pst_at, pst_at, pst_at]
    obtain ⟨t1, t2⟩ := q_told p (fun j hj => hrw j (by omega))
    have h3 := h2 p hp
    have e1 : ub p = (nwA vb vl vh (p + 1)).1 := congrArg Prod.fst h3
    have e2 : ul p = (nwA vb vl vh (p + 1)).2.1 := congrArg (fun z => z.2.1) h3
    have e3 : uh p = (nwA vb vl vh (p + 1)).2.2 := congrArg (fun z => z.2.2) h3
    refine ⟨e1.trans (t1.trans r1.symm), fun c => ?_⟩
    rw [r1] at c
    obtain ⟨t3, t4⟩ := t2 c
    obtain ⟨r3, r4⟩ := r2 c
    exact ⟨e2.trans (t3.trans r3.symm), e3.trans (t4.trans r4.symm)⟩
  · obtain ⟨-, -, r1, r2⟩ := hR p hp
    rw [r1] at c
    obtain ⟨r3, r4⟩ := r2 c
    rw [r3, r4]
    exact q_tbd (cF := fun p => (X p).1) (cL := fun p => (X p).2.1) (cH := fun p => (X p).2.2) hX p hp c
/-- a program more -/
theorem Sim_push (h : Sim n kd on ot pt fb fl fh tb tl th dg ds ki on8 ot8 ab be zA zB zC zD zF zT fo lw hg at_ tl8 th8 di su) (hn : n < 40) {X : Nat → Bool × Int64 × Int64} (hX : ∀ p, p < 25 → (X p).1 = true → Bd p (X p).2.1 (X p).2.2) {vd : Nat} {v1 v2 : Int32} {vp : Int64} {vb : Nat → Bool} {vl vh : Nat → Int64} {ub : Nat → Bool} {ul uh : Nat → Int64} (h1 : ∀ p, p < 25 → (vb p, vl p, vh p) = X p) (h2 : ∀ p, p < 25 → (ub p, ul p, uh p) = nwA vb vl vh (p + 1))
    {fo1 : Nat → Bool} {lw1 hg1 : Nat → Int64} {at1 : Nat → Bool} {tl1 th1 : Nat → Int64} (hR : ∀ p, p < 25 → adR n (fun p => (X p).1) (fun p => (X p).2.1) (fun p => (X p).2.2) fo1 lw1 hg1 at1 tl1 th1 p) (hA : adS n fo fo1 lw hg lw1 hg1 at_ at1 tl8 th8 tl1 th1)
    {ki9 on9 ot9 ab9 be9 zA9 zB9 zC9 zD9 zF9 zT9 : Nat → Int32}
    (g1 : ∀ k, k < n → ki9 k = ki k) (g2 : ∀ k, k < n → on9 k = on8 k) (g3 : ∀ k, k < n → ot9 k = ot8 k) (g4 : ∀ k, k < n → ab9 k = ab k) (g5 : ∀ k, k < n → be9 k = be k) (g6 : ∀ k, k < n → zA9 k = zA k) (g7 : ∀ k, k < n → zB9 k = zB k) (g8 : ∀ k, k < n → zC9 k = zC k) (g9 : ∀ k, k < n → zD9 k = zD k) (g10 : ∀ k, k < n → zF9 k = zF k) (g11 : ∀ k, k < n → zT9 k = zT k)
    (hS : smS n (pst kd n vd) (pst on n v1) (pst ot n v2) (pst pt n vp) (pst fb n vb) (pst fl n vl) (pst fh n vh) ki9 on9 ot9 ab9 be9 zA9 zB9 zC9 zD9 zF9 zT9) :
    Sim (n + 1) (pst kd n vd) (pst on n v1) (pst ot n v2) (pst pt n vp) (pst fb n vb) (pst fl n vl) (pst fh n vh) (pst tb n ub) (pst tl n ul) (pst th n uh) (pst dg n 0) (pst ds n 0) ki9 on9 ot9 ab9 be9 zA9 zB9 zC9 zD9 zF9 zT9 fo1 lw1 hg1 at1 tl1 th1 di su := by
  refine ⟨⟨by omega, fun k hk => h.1.2 k (by omega)⟩, fun k hk => ?_⟩
  rcases Nat.lt_or_ge k n with c | c
  · obtain ⟨s1, s2, s3, s4, s5⟩ := h.2 k c
    have hne : k ≠ n := by omega
    refine ⟨smS_up s1 c (g1 k c) (g2 k c) (g3 k c) (g4 k c) (g5 k c) (g6 k c) (g7 k c) (g8 k c) (g9 k c) (g10 k c) (g11 k c), ?_, ?_, ?_, ?_⟩
    · intro p hp
      obtain ⟨a1, a2, a3, -⟩ := hA (25 * k + p) (by omega)
      rw [a1, a2, a3, pst_ne _ _ hne, pst_ne _ _ hne, pst_ne _ _ hne]
      exact s2 p hp
    · intro p hp
      obtain ⟨-, -, -, a1, a2, a3⟩ := hA (25 * k + p) (by omega)
      rw [a1, a2, a3, pst_ne _ _ hne, pst_ne _ _ hne, pst_ne _ _ hne]
      exact s3 p hp
    · intro p hp
      obtain ⟨-, -, -, a1, a2, a3⟩ := hA (25 * k + p) (by omega)
      rw [a1, a2, a3]
      exact s4 p hp
    · unfold smD
      rw [pst_ne _ _ hne, pst_ne _ _ hne]
      exact s5
  · have e : k = n := by omega
    subst e
    have hd0 := h.1.2 k (Nat.le_refl k)
    obtain ⟨r1, r2, r3⟩ := sm_new (fb := fb) (fl := fl) (fh := fh) (tb := tb) (tl := tl) (th := th) hX h1 h2 hR
    refine ⟨hS, r1, r2, r3, ?_⟩
    unfold smD
    rw [pst_at, pst_at, hd0.1, hd0.2]
    exact ⟨rfl, rfl, 0, by omega, rfl⟩
end GSN
