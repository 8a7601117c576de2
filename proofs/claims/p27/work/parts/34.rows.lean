theorem n_mid {a b : Int64} (h1 : -1000000 ≤ a.toInt) (h2 : a.toInt ≤ b.toInt) (h3 : b.toInt ≤ 1000000) : (a + (b - a) / 2).toInt = a.toInt + (b.toInt - a.toInt) / 2 :=
  skI_mid (n := 41) ⟨by omega, h2, by omega, by have : (2 : Int) ^ 41 = 2199023255552 := by decide
                                                omega⟩ rfl
theorem n_c1 {a b : Int64} (h1 : -1000000 ≤ a.toInt) (h2 : a.toInt ≤ b.toInt) (h3 : b.toInt ≤ 1000000) : (b - a ≤ 1) ↔ b.toInt - a.toInt ≤ 1 := by
  rw [g64_le, g64_sub (by omega) h2 (by omega), show (1 : Int64).toInt = 1 from by decide]
theorem n_skO (g : Int64 → Int32) (sl : Int32) : ∀ (n : Nat) (a b : Int64), -1000000 ≤ a.toInt → a.toInt ≤ b.toInt → b.toInt ≤ 1000000 → a.toInt ≤ (skX g sl n a b).1.toInt ∧ (skX g sl n a b).1.toInt ≤ (skX g sl n a b).2.toInt ∧ (skX g sl n a b).2.toInt ≤ b.toInt
  | 0, a, b, _, h2, _ => ⟨Int.le_refl _, h2, Int.le_refl _⟩
  | n + 1, a, b, h1, h2, h3 => by
    by_cases c : b - a ≤ 1
    · rw [skX, if_pos c]
      exact ⟨Int.le_refl _, h2, Int.le_refl _⟩
    · have hm := n_mid h1 h2 h3
      rw [skX, if_neg c]
      by_cases c1 : g (a + (b - a) / 2) = 0
      · by_cases c2 : g (a + (b - a) / 2) = sl
        · simp only [if_pos c1, if_pos c2]
          have := n_skO g sl n (a + (b - a) / 2) b (by omega) (by omega) h3
          omega
        · simp only [if_pos c1, if_neg c2]
          have := n_skO g sl n (a + (b - a) / 2) (a + (b - a) / 2) (by omega) (by omega) (by omega)
          omega
      · by_cases c2 : g (a + (b - a) / 2) = sl
        · simp only [if_neg c1, if_pos c2]
          have := n_skO g sl n (a + (b - a) / 2) b (by omega) (by omega) h3
          omega
        · simp only [if_neg c1, if_neg c2]
          have := n_skO g sl n a (a + (b - a) / 2) (by omega) (by omega) (by omega)
          omega
theorem n_tri8 (v : Int) : tri (8 * v) = tri v := by
  unfold tri
  by_cases c : v < 0
  · rw [if_pos c, if_pos (by omega)]
  · by_cases c2 : v = 0
    · rw [if_neg c, if_pos c2, if_neg (by omega), if_pos (by omega)]
    · rw [if_neg c, if_neg c2, if_neg (by omega), if_neg (by omega)]
theorem n_sign {pa pb pc0 pd x x2 : Int64} {m : Nat} (hm : m + 1 ≤ 16) (ha : -9 ≤ pa.toInt ∧ pa.toInt ≤ 9) (hb : -9 ≤ pb.toInt ∧ pb.toInt ≤ 9) (hc : -9 ≤ pc0.toInt ∧ pc0.toInt ≤ 9) (hd : -9 ≤ pd.toInt ∧ pd.toInt ≤ 9) (hx : -(7 * 2 ^ m) ≤ x.toInt ∧ x.toInt ≤ 7 * 2 ^ m) (h2 : x2.toInt = 2 * x.toInt) :
    sp_X4_signAt pa pb pc0 pd x2 (nI (m + 1)) = sp_X4_signAt pa pb pc0 pd x (nI m) := by
  have hpw := n_pw m
  apply Int32.toInt_inj.mp
  unfold sp_X4_signAt
  rw [q_tri7, q_tri7]
  show tri ((((((pd * x2) + (pc0 * (jshl 1 (nI (m + 1))))) * x2) + ((pb * (jshl 1 (nI (m + 1)))) * (jshl 1 (nI (m + 1))))) * x2) + (((pa * (jshl 1 (nI (m + 1)))) * (jshl 1 (nI (m + 1)))) * (jshl 1 (nI (m + 1))))).toInt = tri ((((((pd * x) + (pc0 * (jshl 1 (nI m)))) * x) + ((pb * (jshl 1 (nI m))) * (jshl 1 (nI m)))) * x) + (((pa * (jshl 1 (nI m))) * (jshl 1 (nI m))) * (jshl 1 (nI m)))).toInt
  rw [q_val hm ha hb hc hd (by rw [h2, hpw]; omega), q_val (by omega) ha hb hc hd hx, h2, hpw]
  refine Eq.trans (congrArg tri ?_) (n_tri8 _)
  grind
theorem n_skM {g g2 : Int64 → Int32} {sl : Int32} (M : Int) (hM : M ≤ 458752) (hg : ∀ x x2 : Int64, -M ≤ x.toInt → x.toInt ≤ M → x2.toInt = 2 * x.toInt → g2 x2 = g x) :
    ∀ (n : Nat) (a b a2 b2 : Int64), -M ≤ a.toInt → a.toInt ≤ b.toInt → b.toInt ≤ M → (b.toInt - a.toInt = 2 ^ n ∨ b.toInt = a.toInt) → a2.toInt = 2 * a.toInt → b2.toInt = 2 * b.toInt →
      2 * (skX g sl n a b).1.toInt ≤ (skX g2 sl (n + 1) a2 b2).1.toInt ∧ (skX g2 sl (n + 1) a2 b2).2.toInt ≤ 2 * (skX g sl n a b).2.toInt
  | 0, a, b, a2, b2, h1, h2, h3, h4, ea, eb => by
    have := n_skO g2 sl (0 + 1) a2 b2 (by omega) (by omega) (by omega)
    show 2 * a.toInt ≤ _ ∧ _ ≤ 2 * b.toInt
    omega
  | n + 1, a, b, a2, b2, h1, h2, h3, h4, ea, eb => by
    have c9 := n_c1 (a := a) (b := b) (by omega) h2 (by omega)
    have c9' := n_c1 (a := a2) (b := b2) (by omega) (by omega) (by omega)
    have hp : (2 : Int) ^ (n + 1) = 2 * 2 ^ n := n_pw n
    have hp0 : (1 : Int) ≤ 2 ^ n := Int.pow_pos (by decide)
    by_cases c : b - a ≤ 1
    · have e : b.toInt = a.toInt := by
        rw [c9, ] at c
        omega
      have c' : b2 - a2 ≤ 1 := by rw [c9']; omega
      rw [skX, if_pos c, skX, if_pos c']
      show 2 * a.toInt ≤ a2.toInt ∧ b2.toInt ≤ 2 * b.toInt
      omega
    · have c0 := c
      rw [c9] at c0
      have c' : ¬ b2 - a2 ≤ 1 := by rw [c9']; omega
      have hm := n_mid (a := a) (b := b) (by omega) h2 (by omega)
      have hm' := n_mid (a := a2) (b := b2) (by omega) (by omega) (by omega)
      have hd : b.toInt - a.toInt = 2 * 2 ^ n := by omega
      have e1 : (a + (b - a) / 2).toInt = a.toInt + 2 ^ n := by rw [hm, hd]; omega
      have e2 : (a2 + (b2 - a2) / 2).toInt = 2 * (a + (b - a) / 2).toInt := by rw [hm', ea, eb, e1]; omega
      have hgm : g2 (a2 + (b2 - a2) / 2) = g (a + (b - a) / 2) := hg _ _ (by omega) (by omega) e2
      rw [skX, if_neg c, skX, if_neg c', hgm]
      by_cases k1 : g (a + (b - a) / 2) = 0
      · by_cases k2 : g (a + (b - a) / 2) = sl
        · simp only [if_pos k1, if_pos k2]
          exact n_skM M hM hg n _ _ _ _ (by omega) (by omega) h3 (Or.inl (by omega)) e2 eb
        · simp only [if_pos k1, if_neg k2]
          exact n_skM M hM hg n _ _ _ _ (by omega) (by omega) (by omega) (Or.inr rfl) e2 e2
      · by_cases k2 : g (a + (b - a) / 2) = sl
        · simp only [if_neg k1, if_pos k2]
          exact n_skM M hM hg n _ _ _ _ (by omega) (by omega) h3 (Or.inl (by omega)) e2 eb
        · simp only [if_neg k1, if_neg k2]
          exact n_skM M hM hg n _ _ _ _ h1 (by omega) (by omega) (Or.inl (by omega)) ea e2
/-- the ends where a zero is looked for, at a place up to 16 -/
theorem n_ends {fr : Int32} {u m : Nat} (hu : u < 3) (hm : m ≤ 16) (hf : -4 ≤ fr.toInt ∧ fr.toInt ≤ 3) :
    (skL fr m).toInt = fr.toInt * 2 ^ m ∧ (skL fr m + jshl (sp_X7_unitsAt (nI m)) (nI u)).toInt = fr.toInt * 2 ^ m + 2 ^ (m + u) ∧ -(7 * 2 ^ m) ≤ fr.toInt * 2 ^ m ∧ fr.toInt * 2 ^ m + 2 ^ (m + u) ≤ 7 * 2 ^ m ∧ (1 : Int) ≤ 2 ^ (m + u) ∧ (2 : Int) ^ m ≤ 65536 ∧ (1 : Int) ≤ 2 ^ m := by
  have hU := q_U (p := m) (by omega)
  have hUp := q_Upos (p := m) (by omega)
  have hU2 : (2 : Int) ^ m ≤ 65536 := by
    have h2 : ∀ m : Fin 17, (2 : Int) ^ m.val ≤ 65536 := by decide
    exact h2 ⟨m, by omega⟩
  have hu4 : 1 ≤ (2 : Int) ^ u ∧ (2 : Int) ^ u ≤ 4 := by
    have h2 : ∀ u : Fin 3, 1 ≤ (2 : Int) ^ u.val ∧ (2 : Int) ^ u.val ≤ 4 := by decide
    exact h2 ⟨u, hu⟩
  have ef : fr.toInt64.toInt = fr.toInt := Int32.toInt_toInt64 _
  have kf := q_absmul (x := fr.toInt) (y := 2 ^ m) (X := 4) (Y := 2 ^ m) ⟨by omega, by omega⟩ ⟨by omega, by omega⟩
  have kf2 : fr.toInt * 2 ^ m ≤ 3 * 2 ^ m := Int.mul_le_mul_of_nonneg_right hf.2 (by omega)
  have ku := q_absmul (x := 2 ^ m) (y := 2 ^ u) (X := 65536) (Y := 4) ⟨by omega, by omega⟩ ⟨by omega, by omega⟩
  have ku2 : (2 : Int) ^ m * 2 ^ u ≤ 2 ^ m * 4 := Int.mul_le_mul_of_nonneg_left hu4.2 (by omega)
  have ku3 : (2 : Int) ^ m * 1 ≤ 2 ^ m * 2 ^ u := Int.mul_le_mul_of_nonneg_left hu4.1 (by omega)
  have hp2 : (2 : Int) ^ (m + u) = 2 ^ m * 2 ^ u := Int.pow_add 2 m u
  have e1 : (skL fr m).toInt = fr.toInt * 2 ^ m := by
    show (fr.toInt64 * jshl 1 (nI m)).toInt = _
    rw [q_mulI, ef, hU] <;> (rw [ef, hU]; omega)
  have eu : (jshl (sp_X7_unitsAt (nI m)) (nI u)).toInt = 2 ^ m * 2 ^ u := by
    have h3 := q_U62 (p := u) (by omega)
    show (jshl (jshl 1 (nI m)) (nI u)).toInt = _
    rw [q_shl, q_mulI, hU, h3] <;> (rw [hU, h3]; omega)
  refine ⟨e1, ?_, by omega, by rw [hp2]; omega, by rw [hp2]; omega, hU2, hUp.1⟩
  rw [q_addI, e1, eu, hp2] <;> (rw [e1, eu]; omega)
/-- found at every place, each within the one ahead -/
def gdR (fb : Nat → Bool) (fl fh : Nat → Int64) : Prop := ∀ p, p < 25 → fb p = true → Bd p (fl p) (fh p) ∧ (p + 1 < 25 → fb (p + 1) = true ∧ Ns (fl p) (fh p) (fl (p + 1)) (fh (p + 1)))
theorem n_zero {pa pb pc0 pd : Int64} {fr : Int32} {u : Nat} (hu : u < 3) (ha : -9 ≤ pa.toInt ∧ pa.toInt ≤ 9) (hb : -9 ≤ pb.toInt ∧ pb.toInt ≤ 9) (hc : -9 ≤ pc0.toInt ∧ pc0.toInt ≤ 9) (hd : -9 ≤ pd.toInt ∧ pd.toInt ≤ 9) (hf : -4 ≤ fr.toInt ∧ fr.toInt ≤ 3) :
    gdR (fun p => (fzX pa pb pc0 pd fr u p).1) (fun p => (fzX pa pb pc0 pd fr u p).2.1) (fun p => (fzX pa pb pc0 pd fr u p).2.2) := by
  have ord : ∀ m, m ≤ 16 → -(7 * 2 ^ m) ≤ (skR pa pb pc0 pd fr u m).1.toInt ∧ (skR pa pb pc0 pd fr u m).1.toInt ≤ (skR pa pb pc0 pd fr u m).2.toInt ∧ (skR pa pb pc0 pd fr u m).2.toInt ≤ 7 * 2 ^ m := by
    intro m hm
    obtain ⟨e1, e2, e3, e4, e5, e6, e7⟩ := n_ends (fr := fr) hu hm hf
    have := n_skO (fun x => sp_X4_signAt pa pb pc0 pd x (nI m)) (sp_X4_signAt pa pb pc0 pd (skL fr m) (nI m)) (m + u) (skL fr m) (skL fr m + jshl (sp_X7_unitsAt (nI m)) (nI u)) (by omega) (by omega) (by omega)
    show -(7 * 2 ^ m) ≤ (skX _ _ _ _ _).1.toInt ∧ (skX _ _ _ _ _).1.toInt ≤ (skX _ _ _ _ _).2.toInt ∧ (skX _ _ _ _ _).2.toInt ≤ 7 * 2 ^ m
    omega
  have val : ∀ p, p < 25 → ∀ x : Int64, -(7 * 2 ^ (min p 16)) ≤ x.toInt → x.toInt ≤ 7 * 2 ^ (min p 16) → (x * sp_X7_unitsAt (nI p - nI (min p 16))).toInt = x.toInt * 2 ^ (p - min p 16) ∧ -(7 * 2 ^ p) ≤ x.toInt * 2 ^ (p - min p 16) ∧ x.toInt * 2 ^ (p - min p 16) ≤ 7 * 2 ^ p := by
    intro p hp x h1 h2
    have hm : min p 16 ≤ p := by omega
    have hUp2 := q_Upos (p := p - min p 16) (by omega)
    have hUm := q_Upos (p := min p 16) (by omega)
    have hUq := q_U (p := p - min p 16) (by omega)
    have hUP := q_Upos hp
    have k1 := q_absmul (x := x.toInt) (X := 7 * 2 ^ (min p 16)) (y := 2 ^ (p - min p 16)) (Y := 2 ^ (p - min p 16)) ⟨by omega, by omega⟩ ⟨by omega, by omega⟩
    have k2 : 7 * (2 : Int) ^ (min p 16) * 2 ^ (p - min p 16) = 7 * 2 ^ p := by rw [Int.mul_assoc, q_pw hp hm]
    rw [k2] at k1
    refine ⟨?_, k1.1, k1.2⟩
    rw [q_sub hp hm]
    show (x * jshl 1 (nI (p - min p 16))).toInt = _
    rw [q_mulI, hUq] <;> (rw [hUq]; omega)
  intro p hp _
  obtain ⟨o1, o2, o3⟩ := ord (min p 16) (by omega)
  obtain ⟨v1, v2, v3⟩ := val p hp _ o1 (by omega)
  obtain ⟨w1, w2, w3⟩ := val p hp _ (show -(7 * 2 ^ (min p 16)) ≤ (skR pa pb pc0 pd fr u (min p 16)).2.toInt by omega) o3
  have hUp2 := q_Upos (p := p - min p 16) (by omega)
  have hUP := q_Upos hp
  have hle : (skR pa pb pc0 pd fr u (min p 16)).1.toInt * 2 ^ (p - min p 16) ≤ (skR pa pb pc0 pd fr u (min p 16)).2.toInt * 2 ^ (p - min p 16) := Int.mul_le_mul_of_nonneg_right o2 (by omega)
  refine ⟨⟨by show _ ≤ ((skR pa pb pc0 pd fr u (min p 16)).1 * sp_X7_unitsAt (nI p - nI (min p 16))).toInt; rw [v1]; omega, by show ((skR pa pb pc0 pd fr u (min p 16)).1 * sp_X7_unitsAt (nI p - nI (min p 16))).toInt ≤ ((skR pa pb pc0 pd fr u (min p 16)).2 * sp_X7_unitsAt (nI p - nI (min p 16))).toInt; rw [v1, w1]; exact hle, by show ((skR pa pb pc0 pd fr u (min p 16)).2 * sp_X7_unitsAt (nI p - nI (min p 16))).toInt ≤ _; rw [w1]; omega⟩, fun hp1 => ⟨rfl, ?_⟩⟩
  obtain ⟨q1, q2, q3⟩ := ord (min (p + 1) 16) (by omega)
  obtain ⟨x1, x2, x3⟩ := val (p + 1) hp1 _ q1 (by omega)
  obtain ⟨y1, y2, y3⟩ := val (p + 1) hp1 _ (show -(7 * 2 ^ (min (p + 1) 16)) ≤ (skR pa pb pc0 pd fr u (min (p + 1) 16)).2.toInt by omega) q3
  show 2 * ((skR pa pb pc0 pd fr u (min p 16)).1 * sp_X7_unitsAt (nI p - nI (min p 16))).toInt ≤ ((skR pa pb pc0 pd fr u (min (p + 1) 16)).1 * sp_X7_unitsAt (nI (p + 1) - nI (min (p + 1) 16))).toInt ∧ ((skR pa pb pc0 pd fr u (min (p + 1) 16)).2 * sp_X7_unitsAt (nI (p + 1) - nI (min (p + 1) 16))).toInt ≤ 2 * ((skR pa pb pc0 pd fr u (min p 16)).2 * sp_X7_unitsAt (nI p - nI (min p 16))).toInt
  rw [v1, w1, x1, y1]
  by_cases c : p < 16
  · have e1 : min p 16 = p := by omega
    have e2 : min (p + 1) 16 = p + 1 := by omega
    rw [e1, e2, Nat.sub_self, Nat.sub_self]
    obtain ⟨a1, a2, a3, a4, a5, a6, a7⟩ := n_ends (fr := fr) hu (show p ≤ 16 by omega) hf
    obtain ⟨b1, b2, b3, b4, b5, b6, b7⟩ := n_ends (fr := fr) hu (show p + 1 ≤ 16 by omega) hf
    have hpw := n_pw p
    have hpw2 : (2 : Int) ^ (p + 1 + u) = 2 * 2 ^ (p + u) := by rw [show p + 1 + u = p + u + 1 by omega, n_pw]
    have el : fr.toInt * 2 ^ (p + 1) = 2 * (fr.toInt * 2 ^ p) := by rw [hpw]; grind
    have hs : sp_X4_signAt pa pb pc0 pd (skL fr (p + 1)) (nI (p + 1)) = sp_X4_signAt pa pb pc0 pd (skL fr p) (nI p) := n_sign (by omega) ha hb hc hd ⟨by omega, by omega⟩ (by rw [b1, a1, el])
    have K := n_skM (g := fun x => sp_X4_signAt pa pb pc0 pd x (nI p)) (g2 := fun x => sp_X4_signAt pa pb pc0 pd x (nI (p + 1))) (sl := sp_X4_signAt pa pb pc0 pd (skL fr p) (nI p)) (7 * 2 ^ p) (by omega) (fun x x2 k1 k2 k3 => n_sign (by omega) ha hb hc hd ⟨k1, k2⟩ k3) (p + u) (skL fr p) (skL fr p + jshl (sp_X7_unitsAt (nI p)) (nI u)) (skL fr (p + 1)) (skL fr (p + 1) + jshl (sp_X7_unitsAt (nI (p + 1))) (nI u)) (by omega) (by omega) (by omega) (Or.inl (by omega)) (by rw [b1, a1, el]) (by rw [b2, a2, el, hpw2]; omega)
    have e9 : skR pa pb pc0 pd fr u (p + 1) = skX (fun x => sp_X4_signAt pa pb pc0 pd x (nI (p + 1))) (sp_X4_signAt pa pb pc0 pd (skL fr p) (nI p)) (p + u + 1) (skL fr (p + 1)) (skL fr (p + 1) + jshl (sp_X7_unitsAt (nI (p + 1))) (nI u)) := by
      unfold skR
      rw [hs, show p + 1 + u = p + u + 1 by omega]
    rw [e9]
    have t0 : (2 : Int) ^ 0 = 1 := rfl
    rw [t0, Int.mul_one, Int.mul_one, Int.mul_one, Int.mul_one]
    exact K
  · have e1 : min p 16 = 16 := by omega
    have e2 : min (p + 1) 16 = 16 := by omega
    rw [e1, e2, show p + 1 - 16 = p - 16 + 1 by omega, n_pw]
    have t : ∀ z : Int, z * (2 * 2 ^ (p - 16)) = 2 * (z * 2 ^ (p - 16)) := fun z => by grind
    rw [t, t]
    exact ⟨Int.le_refl _, Int.le_refl _⟩
theorem n_ratio {a b : Int32} (ha1 : -1000 ≤ a.toInt) (ha2 : a.toInt ≤ 1000) (hb1 : 1 ≤ b.toInt) : gdR (fun p => (rtX a b p).1) (fun p => (rtX a b p).2.1) (fun p => (rtX a b p).2.2) := by
  have ea : a.toInt64.toInt = a.toInt := Int32.toInt_toInt64 a
  have eb : b.toInt64.toInt = b.toInt := Int32.toInt_toInt64 b
  have hb0 : 0 < b.toInt64.toInt := by omega
  have val : ∀ p, p < 25 → (sp_X8_cut (jshl a.toInt64 (nI p)) b.toInt64).toInt = a.toInt * 2 ^ p / b.toInt ∧ (sp_X8_fill (jshl a.toInt64 (nI p)) b.toInt64).toInt = -(-(a.toInt * 2 ^ p) / b.toInt) := by
    intro p hp
    have hU := q_U hp
    have hUp := q_Upos hp
    have hm := q_absmul (x := a.toInt) (y := 2 ^ p) (X := 1000) (Y := 16777216) ⟨by omega, by omega⟩ ⟨by omega, by omega⟩
    have hj : (jshl a.toInt64 (nI p)).toInt = a.toInt * 2 ^ p := by
      rw [q_shl, q_mulI, ea, hU]
      · rw [ea, hU]; omega
      · rw [ea, hU]; omega
    exact ⟨by rw [q_cutI hb0, hj, eb], by rw [q_fill8I hb0 (by rw [hj]; omega), hj, eb]⟩
  intro p hp h
  obtain ⟨r1, r2⟩ := q_ratio (a := a) (b := b) hp ha1 ha2 hb1
  have h' : (rtX a b p).1 = true := h
  rw [r1] at h'
  obtain ⟨s1, s2, s3⟩ := r2 h'
  refine ⟨by show Bd p (rtX a b p).2.1 (rtX a b p).2.2; rw [s1, s2]; exact s3, fun hp1 => ?_⟩
  obtain ⟨t1, t2⟩ := q_ratio (a := a) (b := b) hp1 ha1 ha2 hb1
  obtain ⟨v1, v2⟩ := val p hp
  obtain ⟨w1, w2⟩ := val (p + 1) hp1
  have el : a.toInt * 2 ^ (p + 1) = 2 * (a.toInt * 2 ^ p) := by rw [n_pw]; grind
  have N : Ns (sp_X8_cut (jshl a.toInt64 (nI p)) b.toInt64) (sp_X8_fill (jshl a.toInt64 (nI p)) b.toInt64) (sp_X8_cut (jshl a.toInt64 (nI (p + 1))) b.toInt64) (sp_X8_fill (jshl a.toInt64 (nI (p + 1))) b.toInt64) := by
    have f1 := n_fl2 (U := b.toInt) (m := a.toInt * 2 ^ p) (m2 := a.toInt * 2 ^ (p + 1)) (by omega) (by omega)
    have f2 := n_fl2 (U := b.toInt) (m := -(a.toInt * 2 ^ p)) (m2 := -(a.toInt * 2 ^ (p + 1))) (by omega) (by omega)
    exact ⟨by rw [v1, w1]; exact f1, by rw [v2, w2]; omega⟩
  have k := n_is hp1 s3 N (by rw [w1, w2]; exact q_ce (by omega) (Int.le_refl _))
  obtain ⟨z1, z2, -⟩ := t2 k
  refine ⟨by show (rtX a b (p + 1)).1 = true; rw [t1]; exact k, ?_⟩
  show Ns (rtX a b p).2.1 (rtX a b p).2.2 (rtX a b (p + 1)).2.1 (rtX a b (p + 1)).2.2
  rw [s1, s2, z1, z2]
  exact N
theorem n_kind {d p : Nat} (hd1 : 1 ≤ d) (hd7 : d ≤ 7) (hp : p + 1 < 25) {al ah bl bh al2 ah2 bl2 bh2 : Int64} (A : Bd p al ah) (B : Bd p bl bh) (A2 : Bd (p + 1) al2 ah2) (B2 : Bd (p + 1) bl2 bh2) (NA : Ns al ah al2 ah2) (NB : Ns bl bh bl2 bh2) (ab be zA zB zC zD zF zT : Nat → Int32) (x z : Int64) (k : Nat)
    (h : mk_is d ab be zA zB zC zD zF zT x z k p al ah bl bh = true) : mk_is d ab be zA zB zC zD zF zT x z k (p + 1) al2 ah2 bl2 bh2 = true ∧ Ns (mk_lo d ab be zA zB zC zD zF zT x z k p al ah bl bh) (mk_hi d ab be zA zB zC zD zF zT x z k p al ah bl bh) (mk_lo d ab be zA zB zC zD zF zT x z k (p + 1) al2 ah2 bl2 bh2) (mk_hi d ab be zA zB zC zD zF zT x z k (p + 1) al2 ah2 bl2 bh2) := by
  have hd0 : d = 1 ∨ d = 2 ∨ d = 3 ∨ d = 4 ∨ d = 5 ∨ d = 6 ∨ d = 7 := by omega
  rcases hd0 with rfl | rfl | rfl | rfl | rfl | rfl | rfl
  · exact n_k1 hp A B A2 B2 NA NB h
  · exact n_k2 hp A B A2 B2 NA NB h
  · exact n_k3 hp A B A2 B2 NA NB h
  · exact n_k4 hp A B A2 B2 NA NB h
  · exact n_k5 hp A A2 NA x z h
  · exact n_k6 hp A A2 NA h
  · exact n_k7 hp A A2 NA x z h
theorem ld_y {fb : Nat → Bool} {fl fh : Nat → Int64} {p : Nat} (h : fb p = true) : sp_X6_load_b1 fb fl fh p = true ∧ sp_X6_load_lo1 fb fl fh p = fl p ∧ sp_X6_load_hi1 fb fl fh p = fh p := by
  unfold sp_X6_load_b1 sp_X6_load_lo1 sp_X6_load_hi1
  rw [if_pos h, if_pos h, if_pos h]
  exact ⟨rfl, rfl, rfl⟩
theorem ld_n {fb : Nat → Bool} {fl fh : Nat → Int64} {p : Nat} (h : ¬ fb p = true) : sp_X6_load_b1 fb fl fh p = false ∧ sp_X6_load_lo1 fb fl fh p = 0 ∧ sp_X6_load_hi1 fb fl fh p = 0 := by
  unfold sp_X6_load_b1 sp_X6_load_lo1 sp_X6_load_hi1
  rw [if_neg h, if_neg h, if_neg h]
  exact ⟨rfl, rfl, rfl⟩
theorem n_make {fb : Nat → Nat → Bool} {fl fh : Nat → Nat → Int64} {d k j : Nat} (hd1 : 1 ≤ d) (hd7 : d ≤ 7) (hk : gdR (fb k) (fl k) (fh k)) (hj : gdR (fb j) (fl j) (fh j)) :
    gdR (fun p => (mkX fb fl fh d k j p).1) (fun p => (mkX fb fl fh d k j p).2.1) (fun p => (mkX fb fl fh d k j p).2.2) := by
  have both : ∀ p, p < 25 → (mkX fb fl fh d k j p).1 = true → fb k p = true ∧ fb j p = true := by
    intro p hp h
    apply Classical.byContradiction
    intro w
    have w2 : ¬ (sp_X6_load_b1 (fb k) (fl k) (fh k) p = true ∧ sp_X6_load_b1 (fb j) (fl j) (fh j) p = true) := fun ⟨a, b⟩ => by
      apply w
      constructor
      · apply Classical.byContradiction
        intro z
        rw [(ld_n z).1] at a
        exact absurd a (by decide)
      · apply Classical.byContradiction
        intro z
        rw [(ld_n z).1] at b
        exact absurd b (by decide)
    have h2 : cmB d (sp_X6_load_b1 (fb k) (fl k) (fh k) p) (sp_X6_load_lo1 (fb k) (fl k) (fh k) p) (sp_X6_load_hi1 (fb k) (fl k) (fh k) p) (sp_X6_load_b1 (fb j) (fl j) (fh j) p) (sp_X6_load_lo1 (fb j) (fl j) (fh j) p) (sp_X6_load_hi1 (fb j) (fl j) (fh j) p) (nI p) = true := h
    rw [(q_kindN d _ _ _ _ _ w2).1] at h2
    exact absurd h2 (by decide)
  have val : ∀ p, p < 25 → fb k p = true → fb j p = true → mkX fb fl fh d k j p = (cmB d true (fl k p) (fh k p) true (fl j p) (fh j p) (nI p), cmL d true (fl k p) (fh k p) true (fl j p) (fh j p) (nI p), cmR d true (fl k p) (fh k p) true (fl j p) (fh j p) (nI p)) := by
    intro p hp h1 h2
    unfold mkX
    obtain ⟨a1, a2, a3⟩ := ld_y (fl := fl k) (fh := fh k) h1
    obtain ⟨b1, b2, b3⟩ := ld_y (fl := fl j) (fh := fh j) h2
    rw [a1, a2, a3, b1, b2, b3]
  intro p hp h
  have h' : (mkX fb fl fh d k j p).1 = true := h
  obtain ⟨f1, f2⟩ := both p hp h'
  obtain ⟨A, A9⟩ := hk p hp f1
  obtain ⟨B, B9⟩ := hj p hp f2
  obtain ⟨c1, c2⟩ := q_kind hd1 hd7 hp A B (fun _ => 0) (fun _ => 0) (fun _ => 0) (fun _ => 0) (fun _ => 0) (fun _ => 0) (fun _ => 0) (fun _ => 0) 0 0 0
  have e := val p hp f1 f2
  rw [e] at h'
  have h2 : mk_is d (fun _ => 0) (fun _ => 0) (fun _ => 0) (fun _ => 0) (fun _ => 0) (fun _ => 0) (fun _ => 0) (fun _ => 0) 0 0 0 p (fl k p) (fh k p) (fl j p) (fh j p) = true := c1.symm.trans h'
  obtain ⟨d1, d2, d3⟩ := c2 h2
  refine ⟨?_, fun hp1 => ?_⟩
  · show Bd p (mkX fb fl fh d k j p).2.1 (mkX fb fl fh d k j p).2.2
    rw [e]
    show Bd p (cmL _ _ _ _ _ _ _ _) (cmR _ _ _ _ _ _ _ _)
    rw [d1, d2]
    exact d3
  · obtain ⟨g1, g2⟩ := A9 hp1
    obtain ⟨g3, g4⟩ := B9 hp1
    obtain ⟨A2, -⟩ := hk (p + 1) hp1 g1
    obtain ⟨B2, -⟩ := hj (p + 1) hp1 g3
    obtain ⟨k1, k2⟩ := n_kind hd1 hd7 hp1 A B A2 B2 g2 g4 _ _ _ _ _ _ _ _ _ _ _ h2
    obtain ⟨c1', c2'⟩ := q_kind hd1 hd7 hp1 A2 B2 (fun _ => 0) (fun _ => 0) (fun _ => 0) (fun _ => 0) (fun _ => 0) (fun _ => 0) (fun _ => 0) (fun _ => 0) 0 0 0
    obtain ⟨d1', d2', d3'⟩ := c2' k1
    have e' := val (p + 1) hp1 g1 g3
    refine ⟨?_, ?_⟩
    · show (mkX fb fl fh d k j (p + 1)).1 = true
      rw [e']
      exact c1'.trans k1
    · show Ns (mkX fb fl fh d k j p).2.1 (mkX fb fl fh d k j p).2.2 (mkX fb fl fh d k j (p + 1)).2.1 (mkX fb fl fh d k j (p + 1)).2.2
      rw [e, e']
      show Ns (cmL _ _ _ _ _ _ _ _) (cmR _ _ _ _ _ _ _ _) (cmL _ _ _ _ _ _ _ _) (cmR _ _ _ _ _ _ _ _)
      rw [d1, d2, d1', d2']
      exact k2
/-- what is told is what is found -/
theorem n_told {fb : Nat → Bool} {fl fh : Nat → Int64} (h : gdR fb fl fh) : ∀ p, p < 25 → nwA fb fl fh (p + 1) = if fb p = true then (true, fl p, fh p) else (false, 0, 0)
  | 0, hp => by
    show (sp_X2_narrow_b0 false 0 0 (sp_X6_load_b1 fb fl fh 0) (sp_X6_load_lo1 fb fl fh 0) (sp_X6_load_hi1 fb fl fh 0), sp_X2_narrow_lo false 0 0 (sp_X6_load_b1 fb fl fh 0) (sp_X6_load_lo1 fb fl fh 0) (sp_X6_load_hi1 fb fl fh 0), sp_X2_narrow_hi false 0 0 (sp_X6_load_b1 fb fl fh 0) (sp_X6_load_lo1 fb fl fh 0) (sp_X6_load_hi1 fb fl fh 0)) = _
    by_cases c : fb 0 = true
    · obtain ⟨a1, a2, a3⟩ := ld_y (fl := fl) (fh := fh) c
      rw [a1, a2, a3, if_pos c]
      rfl
    · obtain ⟨a1, a2, a3⟩ := ld_n (fl := fl) (fh := fh) c
      rw [a1, a2, a3, if_neg c]
      rfl
  | p + 1, hp => by
    have ih := n_told h p (by omega)
    show nwS (nwA fb fl fh (p + 1)) _ _ _ = _
    rw [ih]
    by_cases c : fb p = true
    · obtain ⟨A, A9⟩ := h p (by omega) c
      obtain ⟨c2, N1, N2⟩ := A9 hp
      obtain ⟨B, -⟩ := h (p + 1) hp c2
      obtain ⟨a1, a2, a3⟩ := ld_y (fl := fl) (fh := fh) c2
      have hUp := q_Upos (p := p) (by omega)
      obtain ⟨A1, A2, A3⟩ := A
      have e2 : (2 : Int64).toInt = 2 := by decide
      have m1 : (2 * fl p).toInt = 2 * (fl p).toInt := by rw [q_mulI, e2] <;> (rw [e2]; omega)
      have m2 : (2 * fh p).toInt = 2 * (fh p).toInt := by rw [q_mulI, e2] <;> (rw [e2]; omega)
      rw [a1, a2, a3, if_pos c, if_pos c2]
      show (true, jmax (2 * fl p) (fl (p + 1)), jmin (2 * fh p) (fh (p + 1))) = _
      have j1 : jmax (2 * fl p) (fl (p + 1)) = fl (p + 1) := by
        unfold jmax
        rw [if_neg (by rw [q_lt, m1]; omega)]
      have j2 : jmin (2 * fh p) (fh (p + 1)) = fh (p + 1) := by
        unfold jmin
        by_cases w : fh (p + 1) < 2 * fh p
        · rw [if_pos w]
        · rw [if_neg w]
          rw [q_lt, m2] at w
          exact q_inj (by rw [m2]; omega)
      rw [j1, j2]
    · rw [if_neg c]
      by_cases c2 : fb (p + 1) = true
      · obtain ⟨a1, a2, a3⟩ := ld_y (fl := fl) (fh := fh) c2
        rw [a1, a2, a3, if_pos c2]
        rfl
      · obtain ⟨a1, a2, a3⟩ := ld_n (fl := fl) (fh := fh) c2
        rw [a1, a2, a3, if_neg c2]
        rfl
