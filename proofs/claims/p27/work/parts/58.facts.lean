theorem vN_int : (-2100000000 : Int64).toInt = -2100000000 := by decide
theorem big_ne {x : Int64} (h : -2000000000 ≤ x.toInt) : ¬ x = -2100000000 := fun z => by
  rw [z, vN_int] at h
  omega
theorem nI_64 {k : Nat} (h : k < 2 ^ 31) : (nI k).toInt64.toInt = k := by rw [Int32.toInt_toInt64, nI_toInt h]
/-- a call of the law: the state it leaves is sound, and as it was if nothing is answered -/
def okR (S : St) (r : Int64 × St) : Prop := SI r.2 ∧ (r.1 = -2100000000 → r.2 = S)
theorem SI.ok {S : St} (h : SI S) (x : Int64) : okR S (x, S) := ⟨h, fun _ => rfl⟩
theorem SI.ok_ratio {S : St} (h : SI S) (a b : Int32) : okR S (dRat S a b) := by
  refine ⟨h.k_ratio a b, fun e => ?_⟩
  have hn := h.1
  unfold dRat at e ⊢
  split
  · rfl
  · rename_i c1
    rw [if_neg c1] at e
    split
    · rfl
    · rename_i c2
      rw [if_neg c2] at e
      split
      · rename_i c3
        rw [if_pos c3] at e
        exact absurd e (big_ne (by show _ ≤ (nI (sN S)).toInt64.toInt; rw [nI_64 (by omega)]; omega))
      · rfl
theorem SI.ok_make {S : St} (h : SI S) {d : Nat} (hd1 : 1 ≤ d) (hd7 : d ≤ 7) (a b : Int32) : okR S (dMake S d a b) := by
  refine ⟨h.k_make hd1 hd7 a b, fun e => ?_⟩
  have hn := h.1
  unfold dMake at e ⊢
  split
  · rename_i c1
    rw [if_pos c1] at e
    split
    · rename_i c2
      rw [if_pos c2] at e
      split
      · rename_i c3
        rw [if_pos c3] at e
        exact absurd e (big_ne (by show _ ≤ (nI (sN S)).toInt64.toInt; rw [nI_64 (by omega)]; omega))
      · rfl
    · rfl
  · rfl
theorem SI.ok_zero {S : St} (h : SI S) (a b c0 d0 fr hv : Int32) : okR S ((dZero S a b c0 d0 fr hv).1.toInt64, (dZero S a b c0 d0 fr hv).2) := by
  refine ⟨h.k_zero a b c0 d0 fr hv, fun e => ?_⟩
  have hn := h.1
  have e' : (dZero S a b c0 d0 fr hv).1.toInt64 = -2100000000 := e
  show (dZero S a b c0 d0 fr hv).2 = S
  unfold dZero at e' ⊢
  split
  · rfl
  · rename_i z1
    rw [if_neg z1] at e'
    split
    · rfl
    · rename_i z2
      rw [if_neg z2] at e'
      split
      · rfl
      · rename_i z3
        rw [if_neg z3] at e'
        split
        · rfl
        · rename_i z4
          rw [if_neg z4] at e'
          split
          · rfl
          · rename_i z5
            rw [if_neg z5] at e'
            split
            · rename_i z6
              rw [if_pos z6] at e'
              split
              · rename_i z7
                rw [if_pos z7] at e'
                split
                · rename_i z8
                  rw [if_pos z8] at e'
                  exact absurd e' (big_ne (by show _ ≤ (nI (sN S)).toInt64.toInt; rw [nI_64 (by omega)]; omega))
                · rfl
              · rfl
            · rfl
theorem SI.ok_next {S : St} (h : SI S) (a : Int32) : okR S (dNext S a) := by
  refine ⟨h.k_next a, fun e => ?_⟩
  unfold dNext at e ⊢
  rcases ok_c (n := sN S) (by have := h.1; omega) a with ⟨k, hk, rfl, c1, i1⟩ | ⟨c1, -⟩
  · rw [if_pos c1, i1] at e ⊢
    split
    · rename_i c2
      rw [if_pos c2] at e
      split
      · rfl
      · rename_i c3
        rw [if_neg c3] at e
        exfalso
        obtain ⟨d, hd, e1, hb1, hb2, -⟩ := (h.2 k hk).2.2
        have i9 : ix (sDg S k) = d := by rw [e1]; exact ix_nI (by omega)
        rw [i9] at c2
        obtain ⟨x, hx⟩ : ∃ x, x = vNx S k := ⟨_, rfl⟩
        rw [← hx] at c3 e
        unfold vNx at hx
        rw [i9] at hx
        obtain ⟨p, hp1, hp2, hp3⟩ := nx_ex (f := sp_X7_digitAt (sTb S) (sTl S) (sTh S) (sDg S) (sDs S) k) (24 - d) (d + 1) (by rw [← hx]; exact c3)
        rw [← hx] at hp3
        obtain ⟨-, -, f3⟩ := h.digit hk (by omega) (by omega) e1 ⟨hb1, hb2⟩ hp3 c3
        have x3 : -1 ≤ x.toInt := by
          rcases f3 with ⟨w, -⟩ | ⟨w, -⟩ | ⟨w, -⟩ <;> (rw [w]; decide)
        exact absurd e (big_ne (by show _ ≤ x.toInt64.toInt; rw [Int32.toInt_toInt64]; omega))
    · rfl
  · rw [if_neg (by rw [c1]; decide)]
theorem SI.ok_res {S : St} (h : SI S) (a : Int32) : okR S (dRes S a) := by
  refine ⟨h.k_res a, fun e => ?_⟩
  unfold dRes at e ⊢
  rcases ok_c (n := sN S) (by have := h.1; omega) a with ⟨k, hk, rfl, c1, i1⟩ | ⟨c1, -⟩
  · rw [if_pos c1, i1] at e
    obtain ⟨d, hd, e1, -⟩ := (h.2 k hk).2.2
    exact absurd e (big_ne (by show _ ≤ (sDg S k).toInt64.toInt; rw [e1, nI_64 (by omega)]; omega))
  · rw [if_neg (by rw [c1]; decide)]
theorem SI.act {S : St} (h : SI S) (v0 e0 : Int32) : okR S (aAct S v0 e0) := by
  unfold aAct
  split
  · exact h.ok_ratio _ _
  · split
    · split
      · split
        · unfold aHi
          split
          · split
            · exact h.ok _
            · split <;> exact h.ok _
          · split <;> exact h.ok _
        · unfold aMid
          split
          · split
            · split
              · split
                · split
                  · split
                    · exact h.ok_res _
                    · exact h.ok_next _
                  · exact h.ok _
                · exact h.ok _
              · exact h.ok _
            · exact h.ok _
          · exact h.ok _
      · unfold aMk
        split
        · split
          · split
            · split
              · split
                · split
                  · split
                    · split
                      · unfold aZero
                        split <;> exact h.ok_zero _ _ _ _ _ _
                      · split
                        · exact h.ok_make (by decide) (by decide) _ _
                        · exact h.ok _
                    · exact h.ok_make (by decide) (by decide) _ _
                  · exact h.ok_make (by decide) (by decide) _ _
                · exact h.ok_make (by decide) (by decide) _ _
              · exact h.ok_make (by decide) (by decide) _ _
            · exact h.ok_make (by decide) (by decide) _ _
          · exact h.ok_make (by decide) (by decide) _ _
        · exact h.ok _
    · exact h.ok_ratio _ _
/-- what is found, and told, of a program at a place -/
theorem dRaw_y {S : St} {k p : Nat} (hn : sN S ≤ 40) (hk : k < sN S) (hp : p < 25) (hb : sFb S k p = true) (bb : Bool) : dRaw S (nI k) (nI p) bb = gSl bb (sFh S k p) (sFl S k p) := by
  unfold dRaw
  obtain ⟨a1, a2, a3⟩ := ld_y (fl := sFl S k) (fh := sFh S k) hb
  rw [if_pos (ok_nI hk (by omega)), if_pos (ok_nI hp (by decide)), ix_nI (by omega), ix_nI (by omega), if_pos a1, a2, a3]
theorem dRaw_n {S : St} {k p : Nat} (hn : sN S ≤ 40) (hk : k < sN S) (hp : p < 25) (hb : ¬ sFb S k p = true) (bb : Bool) : dRaw S (nI k) (nI p) bb = -2100000000 := by
  unfold dRaw
  obtain ⟨a1, -, -⟩ := ld_n (fl := sFl S k) (fh := sFh S k) hb
  rw [if_pos (ok_nI hk (by omega)), if_pos (ok_nI hp (by decide)), ix_nI (by omega), ix_nI (by omega), if_neg (by rw [a1]; decide)]
  rfl
theorem SI.toldr {S : St} (h : SI S) {k p : Nat} (hk : k < sN S) (hp : p < 25) (bb : Bool) : dTold S (nI k) (nI p) bb = dRaw S (nI k) (nI p) bb := by
  have hn := h.1
  unfold dTold dRaw
  obtain ⟨t1, t2, t3⟩ := h.tld hk hp
  rw [ix_nI (by omega), ix_nI (by omega), t1, t2, t3]
/-- intervals: found at a place -/
theorem SI.nest {S : St} (h : SI S) {k p : Nat} (hk : k < sN S) (hp : p < 25) (hb : sFb S k p = true) : ¬ sFl S k p = -2100000000 ∧ ¬ sFh S k p = -2100000000 ∧ ¬ sFh S k p < sFl S k p ∧ ¬ sFh S k p - sFl S k p < 0 := by
  obtain ⟨B1, B2, B3⟩ := h.found hk hp hb
  have hU := q_Upos hp
  have e0 : (0 : Int64).toInt = 0 := rfl
  refine ⟨big_ne (by omega), big_ne (by omega), by rw [q_lt]; omega, ?_⟩
  rw [q_lt, q_subI (by omega) (by omega), e0]
  omega
/-- .. and at the place ahead -/
theorem SI.nest2 {S : St} (h : SI S) {k p : Nat} (hk : k < sN S) (hp : p + 1 < 25) (hb : sFb S k p = true) : sFb S k (p + 1) = true ∧ ¬ sFl S k (p + 1) < 2 * sFl S k p ∧ ¬ 2 * sFh S k p < sFh S k (p + 1) := by
  obtain ⟨B1, B2, B3⟩ := h.found hk (by omega) hb
  obtain ⟨-, c⟩ := (h.2 k hk).1.1 p (by omega) hb
  obtain ⟨c1, c2, c3⟩ := c hp
  have hU := q_Upos (p := p) (by omega)
  have e2 : (2 : Int64).toInt = 2 := by decide
  have m1 : (2 * sFl S k p).toInt = 2 * (sFl S k p).toInt := by rw [q_mulI, e2] <;> (rw [e2]; omega)
  have m2 : (2 * sFh S k p).toInt = 2 * (sFh S k p).toInt := by rw [q_mulI, e2] <;> (rw [e2]; omega)
  exact ⟨c1, by rw [q_lt, m1]; omega, by rw [q_lt, m2]; omega⟩
/-- comparing, of what is found -/
def cmF (S : St) (k j p : Nat) : Int32 := if sFb S k p = true then (if sFb S j p = true then (if sFl S j p ≤ sFh S k p then (if sFl S k p ≤ sFh S j p then 0 else 1) else -1) else 0) else 0
theorem SI.cmp {S : St} (h : SI S) {k j p : Nat} (hk : k < sN S) (hj : j < sN S) (hp : p < 25) : dComp S (nI k) (nI j) (nI p) = (cmF S k j p).toInt64 := by
  have hn := h.1
  unfold dComp
  rw [if_pos (ok_nI hk (by omega)), if_pos (ok_nI hj (by omega)), if_pos (ok_nI hp (by decide)), ix_nI (by omega), ix_nI (by omega), ix_nI (by omega)]
  congr 1
  unfold sp_X7_compareAt cmF
  obtain ⟨t1, t2, t3⟩ := h.tld hk hp
  obtain ⟨u1, u2, u3⟩ := h.tld hj hp
  rw [t1, t2, t3, u1, u2, u3]
  by_cases c : sFb S k p = true
  · obtain ⟨a1, a2, a3⟩ := ld_y (fl := sFl S k) (fh := sFh S k) c
    rw [a1, a2, a3, if_pos rfl, if_pos c]
    by_cases d : sFb S j p = true
    · obtain ⟨b1, b2, b3⟩ := ld_y (fl := sFl S j) (fh := sFh S j) d
      rw [b1, b2, b3, if_pos rfl, if_pos d]
    · obtain ⟨b1, b2, b3⟩ := ld_n (fl := sFl S j) (fh := sFh S j) d
      rw [b1, if_neg (by decide), if_neg d]
  · obtain ⟨a1, -, -⟩ := ld_n (fl := sFl S k) (fh := sFh S k) c
    rw [a1, if_neg (by decide), if_neg c]
theorem SI.cmp_self {S : St} (h : SI S) {k p : Nat} (hk : k < sN S) (hp : p < 25) : dComp S (nI k) (nI k) (nI p) = 0 := by
  rw [h.cmp hk hk hp]
  unfold cmF
  by_cases c : sFb S k p = true
  · obtain ⟨-, B2, -⟩ := h.found hk hp c
    rw [if_pos c, if_pos c, if_pos (by rw [q_le]; exact B2), if_pos (by rw [q_le]; exact B2)]
    rfl
  · rw [if_neg c]
    rfl
/-- what is decided at a place is so at a finer one -/
theorem SI.cmp_keep {S : St} (h : SI S) {k j p q : Nat} (hk : k < sN S) (hj : j < sN S) (hpq : p ≤ q) (hq : q < 25) (hne : ¬ dComp S (nI k) (nI j) (nI p) = 0) : dComp S (nI k) (nI j) (nI q) = dComp S (nI k) (nI j) (nI p) ∧ dComp S (nI j) (nI k) (nI q) = -(dComp S (nI k) (nI j) (nI p)) := by
  rw [h.cmp (p := p) hk hj (by omega)] at hne ⊢
  rw [h.cmp hk hj hq, h.cmp hj hk hq]
  unfold cmF at hne ⊢
  by_cases c : sFb S k p = true
  · by_cases d : sFb S j p = true
    · rw [if_pos c, if_pos d] at hne ⊢
      obtain ⟨x1, x2, x3⟩ := gdR.to (h.2 k hk).1.1 c (q - p) (by omega)
      obtain ⟨y1, y2, y3⟩ := gdR.to (h.2 j hj).1.1 d (q - p) (by omega)
      rw [show p + (q - p) = q by omega] at x1 x2 x3 y1 y2 y3
      obtain ⟨-, b1, -⟩ := h.found hk hq x1
      obtain ⟨-, b2, -⟩ := h.found hj hq y1
      have T : (0 : Int) < 2 ^ (q - p) := Int.pow_pos (by decide)
      rw [if_pos x1, if_pos y1, if_pos y1, if_pos x1]
      by_cases e1 : sFl S j p ≤ sFh S k p
      · rw [if_pos e1] at hne ⊢
        by_cases e2 : sFl S k p ≤ sFh S j p
        · rw [if_pos e2] at hne
          exact absurd rfl hne
        · rw [if_neg e2]
          rw [q_le] at e2
          have t : (sFh S j p).toInt * 2 ^ (q - p) < (sFl S k p).toInt * 2 ^ (q - p) := Int.mul_lt_mul_of_pos_right (by omega) T
          rw [if_pos (show sFl S j q ≤ sFh S k q by rw [q_le]; omega), if_neg (show ¬ sFl S k q ≤ sFh S j q by rw [q_le]; omega), if_neg (show ¬ sFl S k q ≤ sFh S j q by rw [q_le]; omega)]
          exact ⟨rfl, by decide⟩
      · rw [if_neg e1]
        rw [q_le] at e1
        have t : (sFh S k p).toInt * 2 ^ (q - p) < (sFl S j p).toInt * 2 ^ (q - p) := Int.mul_lt_mul_of_pos_right (by omega) T
        rw [if_neg (show ¬ sFl S j q ≤ sFh S k q by rw [q_le]; omega), if_pos (show sFl S k q ≤ sFh S j q by rw [q_le]; omega), if_neg (show ¬ sFl S j q ≤ sFh S k q by rw [q_le]; omega)]
        exact ⟨rfl, by decide⟩
    · rw [if_pos c, if_neg d] at hne
      exact absurd rfl hne
  · rw [if_neg c] at hne
    exact absurd rfl hne
/-- an end times ten so often, cut -/
theorem q_ten : ∀ d : Fin 8, (tenF d.val 1).toInt = 10 ^ d.val ∧ (1 : Int) ≤ 10 ^ d.val ∧ (10 : Int) ^ d.val ≤ 10000000 := by decide
theorem q_shift {x : Int64} {d p : Nat} (hd : d < 8) (hp : p < 25) (hx : -1073741824 ≤ x.toInt ∧ x.toInt ≤ 1073741824) : (sp_X7_cut (x * tenF d 1) (sp_X7_unitsAt (nI p))).toInt = x.toInt * 10 ^ d / 2 ^ p := by
  obtain ⟨t1, t2, t3⟩ := q_ten ⟨d, hd⟩
  have t1' : (tenF d 1).toInt = 10 ^ d := t1
  have t2' : (1 : Int) ≤ 10 ^ d := t2
  have t3' : (10 : Int) ^ d ≤ 10000000 := t3
  have hU := q_U hp
  have hUp := q_Upos hp
  have hU0 : 0 < (sp_X7_unitsAt (nI p)).toInt := by
    show 0 < (jshl 1 (nI p)).toInt
    rw [hU]
    omega
  have hm := q_absmul (x := x.toInt) (y := 10 ^ d) (X := 1073741824) (Y := 10000000) hx ⟨by omega, by omega⟩
  have em : (x * tenF d 1).toInt = x.toInt * 10 ^ d := by rw [q_mulI, t1'] <;> (rw [t1']; omega)
  rw [q_cut (fun z => by rw [z] at hU0; exact absurd hU0 (by decide)), q_cutI hU0, em]
  show _ / (jshl 1 (nI p)).toInt = _
  rw [hU]
theorem q_cuts {x : Int} (hx : 0 < x) {a U t : Int} (ht : 0 < t) (hU : 0 < U) : (a * t * x) / (U * t) = a * x / U := by
  rw [show a * t * x = a * x * t by grind]
  exact Int.mul_ediv_mul_of_pos_left _ _ ht
/-- a decimal that is sure at a place: the same at a finer one -/
theorem SI.shift {S : St} (h : SI S) {k p q d : Nat} (hk : k < sN S) (hpq : p ≤ q) (hq : q < 25) (hd : d < 8) (hb : sFb S k p = true) (he : sp_X7_cut (sFl S k p * tenF d 1) (sp_X7_unitsAt (nI p)) = sp_X7_cut (sFh S k p * tenF d 1) (sp_X7_unitsAt (nI p))) :
    sp_X7_cut (sFl S k q * tenF d 1) (sp_X7_unitsAt (nI q)) = sp_X7_cut (sFh S k q * tenF d 1) (sp_X7_unitsAt (nI q)) ∧ sp_X7_cut (sFl S k q * tenF d 1) (sp_X7_unitsAt (nI q)) = sp_X7_cut (sFl S k p * tenF d 1) (sp_X7_unitsAt (nI p)) := by
  obtain ⟨x1, x2, x3⟩ := gdR.to (h.2 k hk).1.1 hb (q - p) (by omega)
  rw [show p + (q - p) = q by omega] at x1 x2 x3
  obtain ⟨B1, B2, B3⟩ := h.found hk (by omega) hb
  obtain ⟨C1, C2, C3⟩ := h.found hk hq x1
  have hUp := q_Upos (p := p) (by omega)
  have hUq := q_Upos hq
  obtain ⟨-, t2, t3⟩ := q_ten ⟨d, hd⟩
  have t2' : (1 : Int) ≤ 10 ^ d := t2
  have T : (0 : Int) < 2 ^ (q - p) := Int.pow_pos (by decide)
  have hpw : (2 : Int) ^ q = 2 ^ p * 2 ^ (q - p) := by rw [← Int.pow_add, show p + (q - p) = q by omega]
  have s1 := q_shift (x := sFl S k p) hd (by omega : p < 25) ⟨by omega, by omega⟩
  have s2 := q_shift (x := sFh S k p) hd (by omega : p < 25) ⟨by omega, by omega⟩
  have s3 := q_shift (x := sFl S k q) hd hq ⟨by omega, by omega⟩
  have s4 := q_shift (x := sFh S k q) hd hq ⟨by omega, by omega⟩
  have he' := congrArg Int64.toInt he
  rw [s1, s2] at he'
  have u1 : (sFl S k p).toInt * 2 ^ (q - p) * 10 ^ d ≤ (sFl S k q).toInt * 10 ^ d := Int.mul_le_mul_of_nonneg_right x2 (by omega)
  have u2 : (sFl S k q).toInt * 10 ^ d ≤ (sFh S k q).toInt * 10 ^ d := Int.mul_le_mul_of_nonneg_right C2 (by omega)
  have u3 : (sFh S k q).toInt * 10 ^ d ≤ (sFh S k p).toInt * 2 ^ (q - p) * 10 ^ d := Int.mul_le_mul_of_nonneg_right x3 (by omega)
  have w1 := Int.ediv_le_ediv (show (0 : Int) < 2 ^ q by omega) u1
  have w2 := Int.ediv_le_ediv (show (0 : Int) < 2 ^ q by omega) u2
  have w3 := Int.ediv_le_ediv (show (0 : Int) < 2 ^ q by omega) u3
  have y1 : (sFl S k p).toInt * 2 ^ (q - p) * 10 ^ d / 2 ^ q = (sFl S k p).toInt * 10 ^ d / 2 ^ p := by rw [hpw]; exact q_cuts (by omega) T (by omega)
  have y2 : (sFh S k p).toInt * 2 ^ (q - p) * 10 ^ d / 2 ^ q = (sFh S k p).toInt * 10 ^ d / 2 ^ p := by rw [hpw]; exact q_cuts (by omega) T (by omega)
  rw [y1] at w1
  rw [y2] at w3
  exact ⟨q_inj (by rw [s3, s4]; omega), q_inj (by rw [s3, s1]; omega)⟩
theorem sd_m1 {d : Nat} (h : d < 41) : (nI d - 1).toInt = (d : Int) - 1 := by
  have e : ∀ d : Fin 41, (nI d.val - 1).toInt = (d.val : Int) - 1 := by decide
  exact e ⟨d, h⟩
theorem sd_lo (b : Bool) (x z : Int64) (i : Int32) : ∀ n d : Nat, d + n < 41 → (d : Int) - 1 ≤ (sdX b x z i n d).toInt ∧ (sdX b x z i n d).toInt ≤ (d : Int) + n - 1
  | 0, d, h => by
    show (d : Int) - 1 ≤ (nI d - 1).toInt ∧ (nI d - 1).toInt ≤ _
    rw [sd_m1 (by omega)]
    omega
  | n + 1, d, h => by
    unfold sdX
    split
    · have := sd_lo b x z i n (d + 1) (by omega)
      omega
    · rw [sd_m1 (by omega)]
      omega
theorem sd_mono {x z x2 z2 : Int64} {i i2 : Int32} (hE : ∀ d, d < 8 → sp_X7_cut (x * tenF d 1) (sp_X7_unitsAt i) = sp_X7_cut (z * tenF d 1) (sp_X7_unitsAt i) → sp_X7_cut (x2 * tenF d 1) (sp_X7_unitsAt i2) = sp_X7_cut (z2 * tenF d 1) (sp_X7_unitsAt i2)) (b b2 : Bool) : ∀ n d : Nat, d + n ≤ 8 → (sdX b x z i n d).toInt ≤ (sdX b2 x2 z2 i2 n d).toInt
  | 0, d, h => Int.le_refl _
  | n + 1, d, h => by
    unfold sdX
    by_cases c : sp_X7_cut (x * tenF d 1) (sp_X7_unitsAt i) = sp_X7_cut (z * tenF d 1) (sp_X7_unitsAt i)
    · rw [if_pos c, if_pos (hE d (by omega) c)]
      exact sd_mono hE b b2 n (d + 1) (by omega)
    · rw [if_neg c]
      split
      · have := (sd_lo b2 x2 z2 i2 n (d + 1) (by omega)).1
        rw [sd_m1 (by omega)]
        omega
      · exact Int.le_refl _
theorem sd_in {x z : Int64} {i : Int32} (b : Bool) : ∀ n d e : Nat, d + n < 41 → d ≤ e → (e : Int) ≤ (sdX b x z i n d).toInt → sp_X7_cut (x * tenF e 1) (sp_X7_unitsAt i) = sp_X7_cut (z * tenF e 1) (sp_X7_unitsAt i)
  | 0, d, e, h, h1, h2 => by
    have h3 : (e : Int) ≤ (nI d - 1).toInt := h2
    rw [sd_m1 (by omega)] at h3
    omega
  | n + 1, d, e, h, h1, h2 => by
    unfold sdX at h2
    by_cases c : sp_X7_cut (x * tenF d 1) (sp_X7_unitsAt i) = sp_X7_cut (z * tenF d 1) (sp_X7_unitsAt i)
    · rw [if_pos c] at h2
      by_cases c2 : e = d
      · rw [c2]
        exact c
      · exact sd_in b n (d + 1) e (by omega) (by omega) h2
    · rw [if_neg c, sd_m1 (by omega)] at h2
      omega
/-- how many decimals are sure, of what is found -/
theorem SI.sd {S : St} (h : SI S) {k p : Nat} (hk : k < sN S) (hp : p < 25) : vSd S k p = (if sFb S k p = true then sdX true (sFl S k p) (sFh S k p) (nI p) 8 0 else -1) ∧ -1 ≤ (vSd S k p).toInt ∧ (vSd S k p).toInt ≤ 7 := by
  obtain ⟨t1, t2, t3⟩ := h.tld hk hp
  have e : vSd S k p = (if sFb S k p = true then sdX true (sFl S k p) (sFh S k p) (nI p) 8 0 else -1) := by
    unfold vSd sdR
    rw [t1, t2, t3]
    by_cases c : sFb S k p = true
    · obtain ⟨a1, a2, a3⟩ := ld_y (fl := sFl S k) (fh := sFh S k) c
      rw [a1, a2, a3, if_pos rfl, if_pos c]
    · obtain ⟨a1, -, -⟩ := ld_n (fl := sFl S k) (fh := sFh S k) c
      rw [a1, if_neg (by decide), if_neg c]
  refine ⟨e, ?_⟩
  rw [e]
  split
  · have := sd_lo true (sFl S k p) (sFh S k p) (nI p) 8 0 (by decide)
    omega
  · decide
theorem SI.decs {S : St} (h : SI S) {k p : Nat} (hk : k < sN S) (hp : p < 25) : dDecs S (nI k) (nI p) = (vSd S k p).toInt64 := by
  have hn := h.1
  unfold dDecs
  rw [if_pos (ok_nI hk (by omega)), if_pos (ok_nI hp (by decide)), ix_nI (by omega), ix_nI (by omega)]
theorem SI.sd_keep {S : St} (h : SI S) {k p q : Nat} (hk : k < sN S) (hpq : p ≤ q) (hq : q < 25) : ¬ (vSd S k q).toInt64 < (vSd S k p).toInt64 := by
  obtain ⟨e1, e2, -⟩ := h.sd hk hq
  obtain ⟨f1, f2, -⟩ := h.sd hk (show p < 25 by omega)
  rw [q_lt, Int32.toInt_toInt64, Int32.toInt_toInt64]
  by_cases c : sFb S k p = true
  · obtain ⟨x1, -, -⟩ := gdR.to (h.2 k hk).1.1 c (q - p) (by omega)
    rw [show p + (q - p) = q by omega] at x1
    rw [e1, f1, if_pos c, if_pos x1]
    have := sd_mono (x := sFl S k p) (z := sFh S k p) (x2 := sFl S k q) (z2 := sFh S k q) (i := nI p) (i2 := nI q) (fun d hd he => (h.shift hk hpq hq hd c he).1) true true 8 0 (by decide)
    omega
  · rw [f1, if_neg c]
    have : (-1 : Int32).toInt = -1 := rfl
    omega
/-- the last sure decimal: the same at a finer place -/
theorem SI.dec_keep {S : St} (h : SI S) {k p q : Nat} (hk : k < sN S) (hpq : p ≤ q) (hq : q < 25) (h0 : ¬ (vSd S k p).toInt64 < 0) : dDec S (nI k) (nI p) (vSd S k p) = dDec S (nI k) (nI q) (vSd S k p) := by
  have hn := h.1
  obtain ⟨e1, e2, e3⟩ := h.sd hk hq
  obtain ⟨f1, f2, f3⟩ := h.sd hk (show p < 25 by omega)
  have kp := h.sd_keep hk hpq hq
  rw [q_lt, Int32.toInt_toInt64, Int32.toInt_toInt64] at kp
  rw [q_lt, Int32.toInt_toInt64, show (0 : Int64).toInt = 0 from rfl] at h0
  have c : sFb S k p = true := by
    apply Classical.byContradiction
    intro w
    rw [f1, if_neg w] at h0
    exact h0 (by decide)
  obtain ⟨x1, -, -⟩ := gdR.to (h.2 k hk).1.1 c (q - p) (by omega)
  rw [show p + (q - p) = q by omega] at x1
  obtain ⟨m, hm⟩ : ∃ m : Nat, (m : Int) = (vSd S k p).toInt := ⟨(vSd S k p).toInt.toNat, by omega⟩
  have em : vSd S k p = nI m := Int32.toInt_inj.mp (by rw [nI_toInt (by omega)]; omega)
  have hE : sp_X7_cut (sFl S k p * tenF m 1) (sp_X7_unitsAt (nI p)) = sp_X7_cut (sFh S k p * tenF m 1) (sp_X7_unitsAt (nI p)) := by
    refine sd_in true 8 0 m (by decide) (by omega) ?_
    rw [hm, f1, if_pos c]
    exact Int.le_refl _
  have hv := (h.shift hk hpq hq (by omega) c hE).2
  have le1 : nI m ≤ vSd S k p := by rw [em]; exact Int32.le_refl _
  have le2 : nI m ≤ vSd S k q := by
    rw [Int32.le_iff_toInt_le, nI_toInt (by omega)]
    omega
  rw [em]
  unfold dDec
  obtain ⟨t1, t2, t3⟩ := h.tld hk (show p < 25 by omega)
  obtain ⟨u1, u2, u3⟩ := h.tld hk hq
  obtain ⟨a1, a2, a3⟩ := ld_y (fl := sFl S k) (fh := sFh S k) c
  obtain ⟨b1, b2, b3⟩ := ld_y (fl := sFl S k) (fh := sFh S k) x1
  rw [ix_nI (show k < 2 ^ 31 by omega), ix_nI (show p < 2 ^ 31 by omega), ix_nI (show q < 2 ^ 31 by omega), ix_nI (show m < 2 ^ 31 by omega)]
  rw [if_pos (ok_nI hk (by omega)), if_pos (ok_nI (show p < 25 by omega) (by decide)), if_pos (ok_nI (show m < 8 by omega) (by decide)), if_pos (ok_nI hq (by decide))]
  rw [if_pos le1, if_pos le2, t2, u2, a2, b2, hv]
  rw [if_pos (ok_nI hk (by omega)), if_pos (ok_nI (show m < 8 by omega) (by decide))]
