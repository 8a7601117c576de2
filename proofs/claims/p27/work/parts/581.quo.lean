theorem n_quo {lo hi lo2 hi2 U t : Int} (hU : 0 < U) (ht : 0 < t) (h1 : lo * t ≤ lo2) (h2 : lo2 ≤ hi2) (h3 : hi2 ≤ hi * t) (hw : lo / U = hi / U) (r0 : lo % U ≠ 0) (hq : U / (lo % U) = U / (hi % U)) (r1 : hi % U ≠ 0) :
    lo2 / (U * t) = lo / U ∧ hi2 / (U * t) = lo / U ∧ lo2 % (U * t) ≠ 0 ∧ hi2 % (U * t) ≠ 0 ∧ (U * t) / (lo2 % (U * t)) = U / (lo % U) ∧ (U * t) / (hi2 % (U * t)) = U / (lo % U) := by
  have hUt : 0 < U * t := Int.mul_pos hU ht
  have a1 := Int.emod_nonneg lo (Int.ne_of_gt hU)
  have a2 := Int.emod_lt_of_pos lo hU
  have a3 := Int.mul_ediv_add_emod lo U
  have b1 := Int.emod_nonneg hi (Int.ne_of_gt hU)
  have b2 := Int.emod_lt_of_pos hi hU
  have b3 := Int.mul_ediv_add_emod hi U
  have w1 := Int.ediv_le_ediv hUt h1
  have w2 := Int.ediv_le_ediv hUt h2
  have w3 := Int.ediv_le_ediv hUt h3
  rw [Int.mul_ediv_mul_of_pos_left _ _ ht] at w1 w3
  have e1 : lo2 / (U * t) = lo / U := by omega
  have e2 : hi2 / (U * t) = lo / U := by omega
  have c3 := Int.mul_ediv_add_emod lo2 (U * t)
  have d3 := Int.mul_ediv_add_emod hi2 (U * t)
  rw [e1] at c3
  rw [e2] at d3
  obtain ⟨q, hq9⟩ : ∃ q, q = lo / U := ⟨_, rfl⟩
  rw [← hq9] at a3 c3 d3 hw e1 e2
  rw [← hw] at b3
  have l1 : (lo % U) * t ≤ lo2 % (U * t) := by
    have e : lo * t = U * t * q + (lo % U) * t := by
      have : lo = U * q + lo % U := by omega
      calc lo * t = (U * q + lo % U) * t := by rw [← this]
        _ = U * t * q + (lo % U) * t := by grind
    omega
  have l3 : hi2 % (U * t) ≤ (hi % U) * t := by
    have e : hi * t = U * t * q + (hi % U) * t := by
      have : hi = U * q + hi % U := by omega
      calc hi * t = (U * q + hi % U) * t := by rw [← this]
        _ = U * t * q + (hi % U) * t := by grind
    omega
  have l2 : lo2 % (U * t) ≤ hi2 % (U * t) := by omega
  have p1 : 0 < (lo % U) * t := Int.mul_pos (by omega) ht
  have f1 := q_div_anti (S := U * t) (by omega) p1 l1
  have f2 := q_div_anti (S := U * t) (x := lo2 % (U * t)) (y := hi2 % (U * t)) (by omega) (by omega) l2
  have f3 := q_div_anti (S := U * t) (x := hi2 % (U * t)) (y := (hi % U) * t) (by omega) (by omega) l3
  rw [Int.mul_ediv_mul_of_pos_left _ _ ht] at f1 f3
  refine ⟨e1.trans hq9, e2.trans hq9, by omega, by omega, by omega, by omega⟩
theorem qS_iff {a b c d : Int64} (hb : ¬ b = 0) (hd : ¬ d = 0) : sp_X7_isQuotientSure a b c d = true ↔ sp_X8_cut a b = sp_X8_cut c d := by
  rw [q_sure hb hd]
  by_cases e : sp_X8_cut a b = sp_X8_cut c d
  · rw [if_pos e]
    exact ⟨fun _ => e, fun _ => rfl⟩
  · rw [if_neg e]
    exact ⟨fun z => absurd z (by decide), fun z => absurd z e⟩
theorem qS_ne {a b c d : Int64} (h : sp_X7_isQuotientSure a b c d = true) : ¬ b = 0 ∧ ¬ d = 0 := by
  unfold sp_X7_isQuotientSure at h
  constructor
  · intro z
    rw [if_pos z] at h
    exact absurd h (by decide)
  · intro z
    by_cases c1 : b = 0
    · rw [if_pos c1] at h
      exact absurd h (by decide)
    · rw [if_neg c1, if_pos z] at h
      exact absurd h (by decide)
/-- the quotient 1, of what is found -/
theorem SI.quo1 {S : St} (h : SI S) {k p : Nat} (hk : k < sN S) (hp : p < 25) : dQuo S (nI k) (nI p) 1 = (if sFb S k p = true then (if sp_X7_isQuotientSure (quX 1 (sFl S k p) (jshl 1 (nI p)) (sFh S k p) (jshl 1 (nI p))).1 (quX 1 (sFl S k p) (jshl 1 (nI p)) (sFh S k p) (jshl 1 (nI p))).2.1 (quX 1 (sFl S k p) (jshl 1 (nI p)) (sFh S k p) (jshl 1 (nI p))).2.2.1 (quX 1 (sFl S k p) (jshl 1 (nI p)) (sFh S k p) (jshl 1 (nI p))).2.2.2 = true then ((sp_X1_whole (quX 1 (sFl S k p) (jshl 1 (nI p)) (sFh S k p) (jshl 1 (nI p))).1 (quX 1 (sFl S k p) (jshl 1 (nI p)) (sFh S k p) (jshl 1 (nI p))).2.1).toInt32).toInt64 else vN) else vN) := by
  have hn := h.1
  unfold dQuo vQu
  obtain ⟨t1, t2, t3⟩ := h.tld hk hp
  have i1 : ix (1 : Int32) = 1 := by decide
  rw [if_pos (ok_nI hk (by omega)), if_pos (ok_nI hp (by decide)), if_pos (show okP 25 (1 : Int32) = true by decide), ix_nI (by omega), ix_nI (by omega), i1, t1, t2, t3]
  by_cases c : sFb S k p = true
  · obtain ⟨a1, a2, a3⟩ := ld_y (fl := sFl S k) (fh := sFh S k) c
    rw [a1, a2, a3, if_pos rfl, if_pos c]
    rfl
  · obtain ⟨a1, -, -⟩ := ld_n (fl := sFl S k) (fh := sFh S k) c
    rw [a1, if_neg (by decide), if_neg c]
theorem SI.quo_keep {S : St} (h : SI S) {k p q : Nat} (hk : k < sN S) (hpq : p ≤ q) (hq : q < 25) (hne : ¬ dQuo S (nI k) (nI p) 1 = -2100000000) : dQuo S (nI k) (nI p) 1 = dQuo S (nI k) (nI q) 1 := by
  have hp : p < 25 := by omega
  rw [h.quo1 hk hp] at hne ⊢
  rw [h.quo1 hk hq]
  by_cases c : sFb S k p = true
  · rw [if_pos c] at hne ⊢
    obtain ⟨x1, x2, x3⟩ := gdR.to (h.2 k hk).1.1 c (q - p) (by omega)
    rw [show p + (q - p) = q by omega] at x1 x2 x3
    rw [if_pos x1]
    obtain ⟨B1, B2, B3⟩ := h.found hk hp c
    obtain ⟨C1, C2, C3⟩ := h.found hk hq x1
    have hUp := q_Upos hp
    have hUq := q_Upos hq
    have hU := q_U hp
    have hV := q_U hq
    have e0 : (0 : Int64).toInt = 0 := rfl
    have U0 : 0 < (jshl 1 (nI p)).toInt := by omega
    have V0 : 0 < (jshl 1 (nI q)).toInt := by omega
    have Une : ¬ jshl 1 (nI p) = 0 := fun z => by rw [z] at U0; exact absurd U0 (by decide)
    have Vne : ¬ jshl 1 (nI q) = 0 := fun z => by rw [z] at V0; exact absurd V0 (by decide)
    by_cases s : sp_X7_isQuotientSure (quX 1 (sFl S k p) (jshl 1 (nI p)) (sFh S k p) (jshl 1 (nI p))).1 (quX 1 (sFl S k p) (jshl 1 (nI p)) (sFh S k p) (jshl 1 (nI p))).2.1 (quX 1 (sFl S k p) (jshl 1 (nI p)) (sFh S k p) (jshl 1 (nI p))).2.2.1 (quX 1 (sFl S k p) (jshl 1 (nI p)) (sFh S k p) (jshl 1 (nI p))).2.2.2 = true
    · rw [if_pos s]
      have one : ∀ a b c d : Int64, quX 1 a b c d = if sp_X7_isQuotientSure a b c d = true then (b, a - sp_X1_whole a b * b, d, c - sp_X1_whole c d * d) else (a, b, c, d) := fun a b c d => rfl
      have s0 : sp_X7_isQuotientSure (sFl S k p) (jshl 1 (nI p)) (sFh S k p) (jshl 1 (nI p)) = true := by
        apply Classical.byContradiction
        intro w
        rw [one, if_neg w] at s
        exact w s
      rw [one, if_pos s0] at s ⊢
      have s1 : sp_X7_isQuotientSure (jshl 1 (nI p)) (sFl S k p - sp_X1_whole (sFl S k p) (jshl 1 (nI p)) * jshl 1 (nI p)) (jshl 1 (nI p)) (sFh S k p - sp_X1_whole (sFh S k p) (jshl 1 (nI p)) * jshl 1 (nI p)) = true := s
      obtain ⟨r1, r2⟩ := qS_ne s1
      have g0 := (qS_iff Une Une).mp s0
      have g1 := (qS_iff r1 r2).mp s1
      rw [q_whole Une] at r1 g1
      rw [q_whole Une] at r2 g1
      have m1 := q_rem (x := sFl S k p) U0 (by omega) (by omega) (by omega)
      have m2 := q_rem (x := sFh S k p) U0 (by omega) (by omega) (by omega)
      have m3 := q_rem (x := sFl S k q) V0 (by omega) (by omega) (by omega)
      have m4 := q_rem (x := sFh S k q) V0 (by omega) (by omega) (by omega)
      have z0 : ∀ x : Int64, ¬ x = 0 → x.toInt ≠ 0 := fun x hx e => hx (q_inj (by rw [e, e0]))
      have p1 := Int.emod_nonneg (sFl S k p).toInt (Int.ne_of_gt U0)
      have p2 := Int.emod_nonneg (sFh S k p).toInt (Int.ne_of_gt U0)
      have n1 := z0 _ r1
      have n2 := z0 _ r2
      rw [m1] at n1
      rw [m2] at n2
      have g0' := congrArg Int64.toInt g0
      rw [q_cutI U0, q_cutI U0] at g0'
      have g1' := congrArg Int64.toInt g1
      rw [q_cutI (by rw [m1]; omega), q_cutI (by rw [m2]; omega), m1, m2] at g1'
      have hpw : (jshl 1 (nI q)).toInt = (jshl 1 (nI p)).toInt * 2 ^ (q - p) := by rw [hU, hV, ← Int.pow_add, show p + (q - p) = q by omega]
      obtain ⟨y1, y2, y3, y4, y5, y6⟩ := n_quo (U := (jshl 1 (nI p)).toInt) (t := 2 ^ (q - p)) U0 (Int.pow_pos (by decide)) x2 C2 x3 g0' n1 g1' n2
      rw [← hpw] at y1 y2 y3 y4 y5 y6
      have o1 := Int.emod_nonneg (sFl S k q).toInt (Int.ne_of_gt V0)
      have o2 := Int.emod_nonneg (sFh S k q).toInt (Int.ne_of_gt V0)
      have t0 : sp_X7_isQuotientSure (sFl S k q) (jshl 1 (nI q)) (sFh S k q) (jshl 1 (nI q)) = true := (qS_iff Vne Vne).mpr (q_inj (by rw [q_cutI V0, q_cutI V0, y1, y2]))
      have v1 : ¬ (sFl S k q - sp_X8_cut (sFl S k q) (jshl 1 (nI q)) * jshl 1 (nI q)) = 0 := fun z => by rw [z, e0] at m3; omega
      have v2 : ¬ (sFh S k q - sp_X8_cut (sFh S k q) (jshl 1 (nI q)) * jshl 1 (nI q)) = 0 := fun z => by rw [z, e0] at m4; omega
      rw [one, if_pos t0]
      show _ = (if sp_X7_isQuotientSure (jshl 1 (nI q)) (sFl S k q - sp_X1_whole (sFl S k q) (jshl 1 (nI q)) * jshl 1 (nI q)) (jshl 1 (nI q)) (sFh S k q - sp_X1_whole (sFh S k q) (jshl 1 (nI q)) * jshl 1 (nI q)) = true then ((sp_X1_whole (jshl 1 (nI q)) (sFl S k q - sp_X1_whole (sFl S k q) (jshl 1 (nI q)) * jshl 1 (nI q))).toInt32).toInt64 else vN)
      rw [q_whole Vne, q_whole Vne, if_pos ((qS_iff v1 v2).mpr (q_inj (by rw [q_cutI (by rw [m3]; omega), q_cutI (by rw [m4]; omega), m3, m4, y5, y6])))]
      congr 2
      show sp_X1_whole (jshl 1 (nI p)) (sFl S k p - sp_X1_whole (sFl S k p) (jshl 1 (nI p)) * jshl 1 (nI p)) = _
      rw [q_whole Une, q_whole r1, q_whole v1]
      exact q_inj (by rw [q_cutI (by rw [m1]; omega), q_cutI (by rw [m3]; omega), m1, m3, y5])
    · rw [if_neg s] at hne
      exact absurd rfl hne
  · rw [if_neg c] at hne
    exact absurd rfl hne
/-- digits: what the law asks -/
theorem SI.digs {S : St} (h : SI S) {k : Nat} (hk : k < sN S) : ∃ d : Nat, d ≤ 24 ∧ sDg S k = nI d ∧ (d = 0 → sDs S k = 0) ∧ (0 < d → dRaw S (nI k) (nI 24) false = sFl S k 24 ∧ dRaw S (nI k) (nI 24) true = sFh S k 24 ∧ ¬ sFh S k 24 < (sDs S k - 1) * jshl 1 (nI (24 - d)) ∧ ¬ (sDs S k + 1) * jshl 1 (nI (24 - d)) < sFl S k 24 ∧ ¬ jshl 1 (nI d) ≤ sDs S k ∧ ¬ sDs S k ≤ -(jshl 1 (nI d))) := by
  have hn := h.1
  obtain ⟨d, hd, e1, b1, b2, b3⟩ := (h.2 k hk).2.2
  refine ⟨d, hd, e1, fun z => ?_, fun z => ?_⟩
  · rw [z] at b1 b2
    apply q_inj
    have e0 : (0 : Int64).toInt = 0 := rfl
    have t0 : (2 : Int) ^ 0 = 1 := rfl
    rw [e0]
    omega
  · obtain ⟨c, c1, c2⟩ := b3 z
    obtain ⟨B1, B2, B3⟩ := h.found hk (by decide) c
    have hU := q_U (p := 24 - d) (by omega)
    have hUp := q_Upos (p := 24 - d) (by omega)
    have hV := q_U (p := d) (by omega)
    have hVp := q_Upos (p := d) (by omega)
    have t24 : (2 : Int) ^ 24 = 16777216 := by decide
    have u1 : (sDs S k - 1).toInt = (sDs S k).toInt - 1 := by rw [q_subI (by rw [Int64.toInt_one]; omega) (by rw [Int64.toInt_one]; omega), Int64.toInt_one]
    have u2 : (sDs S k + 1).toInt = (sDs S k).toInt + 1 := by rw [q_addI (by rw [Int64.toInt_one]; omega) (by rw [Int64.toInt_one]; omega), Int64.toInt_one]
    have m1 := q_absmul (x := (sDs S k).toInt - 1) (y := 2 ^ (24 - d)) (X := 16777217) (Y := 16777216) ⟨by omega, by omega⟩ ⟨by omega, by omega⟩
    have m2 := q_absmul (x := (sDs S k).toInt + 1) (y := 2 ^ (24 - d)) (X := 16777217) (Y := 16777216) ⟨by omega, by omega⟩ ⟨by omega, by omega⟩
    have v1 : ((sDs S k - 1) * jshl 1 (nI (24 - d))).toInt = ((sDs S k).toInt - 1) * 2 ^ (24 - d) := by rw [q_mulI, u1, hU] <;> (rw [u1, hU]; omega)
    have v2 : ((sDs S k + 1) * jshl 1 (nI (24 - d))).toInt = ((sDs S k).toInt + 1) * 2 ^ (24 - d) := by rw [q_mulI, u2, hU] <;> (rw [u2, hU]; omega)
    have w1 : (-(jshl 1 (nI d))).toInt = -2 ^ d := by rw [q_negI (by rw [hV]; omega), hV]
    refine ⟨dRaw_y hn hk (by decide) c false, dRaw_y hn hk (by decide) c true, by rw [q_lt, v1]; omega, by rw [q_lt, v2]; omega, by rw [q_le, hV]; omega, by rw [q_le, w1]; omega⟩
