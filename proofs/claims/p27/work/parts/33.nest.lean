/-- nested: the ends at the next place lie within twice the ends at this one -/
def Ns (l r l2 r2 : Int64) : Prop := 2 * l.toInt ≤ l2.toInt ∧ r2.toInt ≤ 2 * r.toInt
theorem n_pw (p : Nat) : (2 : Int) ^ (p + 1) = 2 * 2 ^ p := by rw [Int.pow_succ, Int.mul_comm]
theorem n_fl {m m2 U : Int} (hU : 0 < U) (h : 4 * m ≤ m2) : 2 * (m / U) ≤ m2 / (2 * U) := by
  have h1 := Int.ediv_mul_le m (Int.ne_of_gt hU)
  rw [Int.le_ediv_iff_mul_le (by omega)]
  have e : 2 * (m / U) * (2 * U) = 4 * (m / U * U) := by grind
  omega
theorem n_fl2 {m m2 U : Int} (hU : 0 < U) (h : 2 * m ≤ m2) : 2 * (m / U) ≤ m2 / U := by
  have h1 := Int.ediv_mul_le m (Int.ne_of_gt hU)
  rw [Int.le_ediv_iff_mul_le hU]
  have e : 2 * (m / U) * U = 2 * (m / U * U) := Int.mul_assoc _ _ _
  omega
theorem n_bt {a b x y : Int} (h1 : a ≤ x) (h2 : x ≤ b) : min (a * y) (b * y) ≤ x * y ∧ x * y ≤ max (a * y) (b * y) := by
  by_cases hy : 0 ≤ y
  · have k1 := Int.mul_le_mul_of_nonneg_right h1 hy
    have k2 := Int.mul_le_mul_of_nonneg_right h2 hy
    omega
  · have k1 := Int.mul_le_mul_of_nonpos_right h1 (show y ≤ 0 by omega)
    have k2 := Int.mul_le_mul_of_nonpos_right h2 (show y ≤ 0 by omega)
    omega
def mn4 (a b c d : Int) : Int := min (min (a * c) (a * d)) (min (b * c) (b * d))
def mx4 (a b c d : Int) : Int := max (max (a * c) (a * d)) (max (b * c) (b * d))
theorem n_p4 {a b c d x y : Int} (h1 : a ≤ x) (h2 : x ≤ b) (h3 : c ≤ y) (h4 : y ≤ d) : mn4 a b c d ≤ x * y ∧ x * y ≤ mx4 a b c d := by
  have k := n_bt (y := y) h1 h2
  have ka := n_bt (y := a) h3 h4
  have kb := n_bt (y := b) h3 h4
  rw [Int.mul_comm c a, Int.mul_comm d a, Int.mul_comm y a] at ka
  rw [Int.mul_comm c b, Int.mul_comm d b, Int.mul_comm y b] at kb
  unfold mn4 mx4
  omega
theorem n_mul {a b c d a2 b2 c2 d2 : Int} (h1 : 2 * a ≤ a2) (h2 : a2 ≤ b2) (h3 : b2 ≤ 2 * b) (h4 : 2 * c ≤ c2) (h5 : c2 ≤ d2) (h6 : d2 ≤ 2 * d) : 4 * mn4 a b c d ≤ mn4 a2 b2 c2 d2 ∧ mx4 a2 b2 c2 d2 ≤ 4 * mx4 a b c d := by
  have e : ∀ x y : Int, (2 * x) * (2 * y) = 4 * (x * y) := fun x y => by grind
  have q1 := n_p4 (a := 2 * a) (b := 2 * b) (c := 2 * c) (d := 2 * d) (x := a2) (y := c2) (by omega) (by omega) (by omega) (by omega)
  have q2 := n_p4 (a := 2 * a) (b := 2 * b) (c := 2 * c) (d := 2 * d) (x := a2) (y := d2) (by omega) (by omega) (by omega) (by omega)
  have q3 := n_p4 (a := 2 * a) (b := 2 * b) (c := 2 * c) (d := 2 * d) (x := b2) (y := c2) (by omega) (by omega) (by omega) (by omega)
  have q4 := n_p4 (a := 2 * a) (b := 2 * b) (c := 2 * c) (d := 2 * d) (x := b2) (y := d2) (by omega) (by omega) (by omega) (by omega)
  unfold mn4 mx4 at *
  simp only [e] at q1 q2 q3 q4
  omega
theorem q_mulV {a b a2 b2 : Int64} {p : Nat} (hp : p < 25) {X Y : Int} (ha : -X ≤ a.toInt ∧ a.toInt ≤ X) (hb : -X ≤ b.toInt ∧ b.toInt ≤ X) (ha2 : -Y ≤ a2.toInt ∧ a2.toInt ≤ Y) (hb2 : -Y ≤ b2.toInt ∧ b2.toInt ≤ Y) (hXY : X * Y ≤ 4611686018427387904) :
    (sp_X8_multiplies_lo_ a b a2 b2 (nI p)).toInt = mn4 a.toInt b.toInt a2.toInt b2.toInt / 2 ^ p ∧ (sp_X8_multiplies_hi_ a b a2 b2 (nI p)).toInt = -(-(mx4 a.toInt b.toInt a2.toInt b2.toInt) / 2 ^ p) := by
  have k1 := q_absmul ha ha2
  have k2 := q_absmul ha hb2
  have k3 := q_absmul hb ha2
  have k4 := q_absmul hb hb2
  have m1 : (a * a2).toInt = a.toInt * a2.toInt := q_mulI (by omega) (by omega)
  have m2 : (a * b2).toInt = a.toInt * b2.toInt := q_mulI (by omega) (by omega)
  have m3 : (b * a2).toInt = b.toInt * a2.toInt := q_mulI (by omega) (by omega)
  have m4 : (b * b2).toInt = b.toInt * b2.toInt := q_mulI (by omega) (by omega)
  have hU := q_U hp
  have hUp := (q_Upos hp).1
  have hU0 : 0 < (jshl 1 (nI p)).toInt := by rw [hU]; omega
  have hmin : (sp_X8_least (sp_X8_least (a * a2) (a * b2)) (sp_X8_least (b * a2) (b * b2))).toInt = mn4 a.toInt b.toInt a2.toInt b2.toInt := by
    rw [q_minI, q_minI, q_minI, m1, m2, m3, m4]
    rfl
  have hmax : (sp_X8_most (sp_X8_most (a * a2) (a * b2)) (sp_X8_most (b * a2) (b * b2))).toInt = mx4 a.toInt b.toInt a2.toInt b2.toInt := by
    rw [q_maxI, q_maxI, q_maxI, m1, m2, m3, m4]
    rfl
  refine ⟨?_, ?_⟩
  · unfold sp_X8_multiplies_lo_
    rw [q_cutI hU0, hmin, hU]
  · unfold sp_X8_multiplies_hi_
    rw [q_fill8I hU0 (by rw [hmax]; unfold mx4; omega), hmax, hU]
theorem n_is {p : Nat} (hp : p + 1 < 25) {lo hi lo2 hi2 : Int64} (B : Bd p lo hi) (N : Ns lo hi lo2 hi2) (hle : lo2.toInt ≤ hi2.toInt) : mIs lo2 hi2 (p + 1) = true := by
  have hB := q_B hp
  have hUp := q_Upos hp
  have hpw := n_pw p
  obtain ⟨b1, b2, b3⟩ := B
  obtain ⟨n1, n2⟩ := N
  have hN : (-(jshl 64 (nI (p + 1)))).toInt = -(64 * 2 ^ (p + 1)) := by rw [q_negI (by rw [hB]; omega), hB]
  unfold mIs
  rw [if_neg (by rw [q_lt, hN]; omega), if_neg (by rw [q_lt, hB]; omega), if_neg (by rw [q_lt, hB]; omega), if_neg (by rw [q_lt, hN]; omega)]
theorem n_k1 {p : Nat} (hp : p + 1 < 25) {al ah bl bh al2 ah2 bl2 bh2 : Int64} (A : Bd p al ah) (B : Bd p bl bh) (A2 : Bd (p + 1) al2 ah2) (B2 : Bd (p + 1) bl2 bh2) (NA : Ns al ah al2 ah2) (NB : Ns bl bh bl2 bh2) (h : sp_X8_makes_1_is_ p al ah bl bh = true) :
    sp_X8_makes_1_is_ (p + 1) al2 ah2 bl2 bh2 = true ∧ Ns (al + bl) (ah + bh) (al2 + bl2) (ah2 + bh2) := by
  have hB := ((q_k1 (by omega) A B).2 h).2.2
  have hUp := q_Upos (p := p) (by omega)
  have hUp2 := q_Upos hp
  obtain ⟨a1, a2, a3⟩ := A
  obtain ⟨b1, b2, b3⟩ := B
  obtain ⟨c1, c2, c3⟩ := A2
  obtain ⟨d1, d2, d3⟩ := B2
  obtain ⟨e1, e2⟩ := NA
  obtain ⟨f1, f2⟩ := NB
  have N : Ns (al + bl) (ah + bh) (al2 + bl2) (ah2 + bh2) := ⟨by rw [q_addI (by omega) (by omega), q_addI (by omega) (by omega)]; omega, by rw [q_addI (by omega) (by omega), q_addI (by omega) (by omega)]; omega⟩
  exact ⟨n_is hp hB N (by rw [q_addI (by omega) (by omega), q_addI (by omega) (by omega)]; omega), N⟩
theorem n_k2 {p : Nat} (hp : p + 1 < 25) {al ah bl bh al2 ah2 bl2 bh2 : Int64} (A : Bd p al ah) (B : Bd p bl bh) (A2 : Bd (p + 1) al2 ah2) (B2 : Bd (p + 1) bl2 bh2) (NA : Ns al ah al2 ah2) (NB : Ns bl bh bl2 bh2) (h : sp_X8_makes_2_is_ p al ah bl bh = true) :
    sp_X8_makes_2_is_ (p + 1) al2 ah2 bl2 bh2 = true ∧ Ns (al - bh) (ah - bl) (al2 - bh2) (ah2 - bl2) := by
  have hB := ((q_k2 (by omega) A B).2 h).2.2
  have hUp := q_Upos (p := p) (by omega)
  have hUp2 := q_Upos hp
  obtain ⟨a1, a2, a3⟩ := A
  obtain ⟨b1, b2, b3⟩ := B
  obtain ⟨c1, c2, c3⟩ := A2
  obtain ⟨d1, d2, d3⟩ := B2
  obtain ⟨e1, e2⟩ := NA
  obtain ⟨f1, f2⟩ := NB
  have N : Ns (al - bh) (ah - bl) (al2 - bh2) (ah2 - bl2) := ⟨by rw [q_subI (by omega) (by omega), q_subI (by omega) (by omega)]; omega, by rw [q_subI (by omega) (by omega), q_subI (by omega) (by omega)]; omega⟩
  exact ⟨n_is hp hB N (by rw [q_subI (by omega) (by omega), q_subI (by omega) (by omega)]; omega), N⟩
theorem n_k4 {p : Nat} (hp : p + 1 < 25) {al ah bl bh al2 ah2 bl2 bh2 : Int64} (A : Bd p al ah) (B : Bd p bl bh) (A2 : Bd (p + 1) al2 ah2) (B2 : Bd (p + 1) bl2 bh2) (NA : Ns al ah al2 ah2) (NB : Ns bl bh bl2 bh2) (h : sp_X8_makes_4_is_ p al ah bl bh = true) :
    sp_X8_makes_4_is_ (p + 1) al2 ah2 bl2 bh2 = true ∧ Ns (sp_X8_most al bl) (sp_X8_most ah bh) (sp_X8_most al2 bl2) (sp_X8_most ah2 bh2) := by
  have hB := ((q_k4 (by omega) A B).2 h).2.2
  obtain ⟨c1, c2, c3⟩ := A2
  obtain ⟨d1, d2, d3⟩ := B2
  obtain ⟨e1, e2⟩ := NA
  obtain ⟨f1, f2⟩ := NB
  have N : Ns (sp_X8_most al bl) (sp_X8_most ah bh) (sp_X8_most al2 bl2) (sp_X8_most ah2 bh2) := ⟨by rw [q_maxI, q_maxI]; omega, by rw [q_maxI, q_maxI]; omega⟩
  exact ⟨n_is hp hB N (by rw [q_maxI, q_maxI]; omega), N⟩
theorem n_mulN {a b c d a2 b2 c2 d2 : Int64} {p : Nat} (hp : p + 1 < 25) {X Y X2 Y2 : Int} (ha : -X ≤ a.toInt ∧ a.toInt ≤ X) (hb : -X ≤ b.toInt ∧ b.toInt ≤ X) (hc : -Y ≤ c.toInt ∧ c.toInt ≤ Y) (hd : -Y ≤ d.toInt ∧ d.toInt ≤ Y) (hXY : X * Y ≤ 4611686018427387904)
    (ha2 : -X2 ≤ a2.toInt ∧ a2.toInt ≤ X2) (hb2 : -X2 ≤ b2.toInt ∧ b2.toInt ≤ X2) (hc2 : -Y2 ≤ c2.toInt ∧ c2.toInt ≤ Y2) (hd2 : -Y2 ≤ d2.toInt ∧ d2.toInt ≤ Y2) (hXY2 : X2 * Y2 ≤ 4611686018427387904)
    (hab : a2.toInt ≤ b2.toInt) (hcd : c2.toInt ≤ d2.toInt) (NA : Ns a b a2 b2) (NB : Ns c d c2 d2) : Ns (sp_X8_multiplies_lo_ a b c d (nI p)) (sp_X8_multiplies_hi_ a b c d (nI p)) (sp_X8_multiplies_lo_ a2 b2 c2 d2 (nI (p + 1))) (sp_X8_multiplies_hi_ a2 b2 c2 d2 (nI (p + 1))) := by
  obtain ⟨v1, v2⟩ := q_mulV (p := p) (by omega) ha hb hc hd hXY
  obtain ⟨w1, w2⟩ := q_mulV hp ha2 hb2 hc2 hd2 hXY2
  obtain ⟨k1, k2⟩ := n_mul (a := a.toInt) (b := b.toInt) (c := c.toInt) (d := d.toInt) NA.1 hab NA.2 NB.1 hcd NB.2
  have hU := (q_Upos (p := p) (by omega)).1
  have f1 := n_fl (U := 2 ^ p) (by omega) k1
  have f2 := n_fl (U := 2 ^ p) (m := -(mx4 a.toInt b.toInt c.toInt d.toInt)) (m2 := -(mx4 a2.toInt b2.toInt c2.toInt d2.toInt)) (by omega) (by omega)
  rw [← n_pw] at f1 f2
  exact ⟨by rw [v1, w1]; exact f1, by rw [v2, w2]; omega⟩
theorem n_k3 {p : Nat} (hp : p + 1 < 25) {al ah bl bh al2 ah2 bl2 bh2 : Int64} (A : Bd p al ah) (B : Bd p bl bh) (A2 : Bd (p + 1) al2 ah2) (B2 : Bd (p + 1) bl2 bh2) (NA : Ns al ah al2 ah2) (NB : Ns bl bh bl2 bh2) (h : sp_X8_makes_3_is_ p al ah bl bh = true) :
    sp_X8_makes_3_is_ (p + 1) al2 ah2 bl2 bh2 = true ∧ Ns (sp_X8_multiplies_lo_ al ah bl bh (nI p)) (sp_X8_multiplies_hi_ al ah bl bh (nI p)) (sp_X8_multiplies_lo_ al2 ah2 bl2 bh2 (nI (p + 1))) (sp_X8_multiplies_hi_ al2 ah2 bl2 bh2 (nI (p + 1))) := by
  have hB := ((q_k3 (by omega) A B).2 h).2.2
  have hUp := q_Upos (p := p) (by omega)
  have hUp2 := q_Upos hp
  obtain ⟨a1, a2, a3⟩ := A
  obtain ⟨b1, b2, b3⟩ := B
  obtain ⟨c1, c2, c3⟩ := A2
  obtain ⟨d1, d2, d3⟩ := B2
  have N := n_mulN hp (a := al) (b := ah) (c := bl) (d := bh) (a2 := al2) (b2 := ah2) (c2 := bl2) (d2 := bh2) (X := 1073741824) (Y := 1073741824) (X2 := 1073741824) (Y2 := 1073741824) ⟨by omega, by omega⟩ ⟨by omega, by omega⟩ ⟨by omega, by omega⟩ ⟨by omega, by omega⟩ (by decide) ⟨by omega, by omega⟩ ⟨by omega, by omega⟩ ⟨by omega, by omega⟩ ⟨by omega, by omega⟩ (by decide) c2 d2 NA NB
  obtain ⟨-, -, m3, -, -⟩ := q_mulc (a := al2) (b := ah2) (a2 := bl2) (b2 := bh2) hp (X := 1073741824) (Y := 1073741824) ⟨by omega, by omega⟩ ⟨by omega, by omega⟩ ⟨by omega, by omega⟩ ⟨by omega, by omega⟩ (by decide)
  exact ⟨n_is hp hB N m3, N⟩
theorem n_inv1 {S b b2 : Int} (hS : 0 ≤ S) (h0 : 0 < b2) (h : b2 ≤ 2 * b) : 2 * (S / b) ≤ (4 * S) / b2 := by
  have hb : 0 < b := by omega
  have h1 := Int.ediv_mul_le S (Int.ne_of_gt hb)
  have h2 : 0 ≤ S / b := Int.ediv_nonneg hS (by omega)
  rw [Int.le_ediv_iff_mul_le h0]
  have h3 : 2 * (S / b) * b2 ≤ 2 * (S / b) * (2 * b) := Int.mul_le_mul_of_nonneg_left h (by omega)
  have e : 2 * (S / b) * (2 * b) = 4 * (S / b * b) := by grind
  omega
theorem n_inv2 {S b b2 : Int} (hS : 0 ≤ S) (h0 : 0 < b) (h : 2 * b ≤ b2) : 2 * ((-S) / b) ≤ (-(4 * S)) / b2 := by
  have h1 := Int.ediv_mul_le (-S) (Int.ne_of_gt h0)
  have h2 : (-S) / b ≤ 0 := by
    have := Int.ediv_le_ediv h0 (show -S ≤ 0 by omega)
    rw [Int.zero_ediv] at this
    exact this
  rw [Int.le_ediv_iff_mul_le (by omega)]
  have h3 : 2 * ((-S) / b) * b2 ≤ 2 * ((-S) / b) * (2 * b) := Int.mul_le_mul_of_nonpos_left (by omega) h
  have e : 2 * ((-S) / b) * (2 * b) = 4 * ((-S) / b * b) := by grind
  omega
theorem q_invV {a b : Int64} {p : Nat} (hp : p < 25) (hB : Bd p a b) (x z : Int64) (hi : sp_X8_inverts_is_ a b = true) :
    (0 < a.toInt ∧ (sp_X8_inverts_lo_ x a b (nI p)).toInt = 2 ^ (2 * p) / b.toInt ∧ (sp_X8_inverts_hi_ z a b (nI p)).toInt = -(-(2 ^ (2 * p)) / a.toInt)) ∨
    (b.toInt < 0 ∧ (sp_X8_inverts_lo_ x a b (nI p)).toInt = -(2 ^ (2 * p)) / (-b.toInt) ∧ (sp_X8_inverts_hi_ z a b (nI p)).toInt = -(2 ^ (2 * p) / (-a.toInt))) := by
  obtain ⟨h1, h2, h3⟩ := hB
  have hUp := q_Upos hp
  have e0 : (0 : Int64).toInt = 0 := rfl
  have hS : (jshl 1 (2 * nI p)).toInt = 2 ^ (2 * p) := by rw [q_2p hp, q_U62 (by omega)]
  have hS2 : (1 : Int) ≤ 2 ^ (2 * p) ∧ (2 : Int) ^ (2 * p) ≤ 281474976710656 := by
    have h2 : ∀ p : Fin 25, (1 : Int) ≤ 2 ^ (2 * p.val) ∧ (2 : Int) ^ (2 * p.val) ≤ 281474976710656 := by decide
    exact h2 ⟨p, hp⟩
  unfold sp_X8_inverts_is_ at hi
  unfold sp_X8_inverts_lo_ sp_X8_inverts_hi_
  by_cases c1 : (0 : Int64) < a
  · left
    simp only [if_pos c1]
    rw [q_lt, e0] at c1
    have hb : 0 < b.toInt := by omega
    refine ⟨c1, ?_, ?_⟩
    · rw [q_cutI hb, hS]
    · rw [q_fill8I c1 (by rw [hS]; omega), hS]
  · right
    rw [if_neg c1] at hi
    have c3 : ¬ (0 : Int64) ≤ b := fun w => by rw [if_pos w] at hi; exact absurd hi (by decide)
    simp only [if_neg c1, if_neg c3]
    rw [q_le, e0] at c3
    have hbn : ¬ b = 0 := fun z => by rw [z, e0] at c3; omega
    have han : ¬ a = 0 := fun z => by rw [z, e0] at h2; omega
    have nS : (-(jshl 1 (2 * nI p))).toInt = -2 ^ (2 * p) := by rw [q_negI (by rw [hS]; omega), hS]
    have na : (-a).toInt = -a.toInt := q_negI (by omega)
    have nb : (-b).toInt = -b.toInt := q_negI (by omega)
    rw [(q_nn (a := jshl 1 (2 * nI p)) (b := b) (by rw [hS]; omega) (by omega) hbn).1, (q_nn (a := jshl 1 (2 * nI p)) (b := a) (by rw [hS]; omega) (by omega) han).2]
    rw [q_cutI (by rw [nb]; omega), q_fill8I (by rw [na]; omega) (by rw [nS]; omega), nS, na, nb, Int.neg_neg]
    exact ⟨by omega, rfl, rfl⟩
theorem n_k5 {p : Nat} (hp : p + 1 < 25) {al ah al2 ah2 : Int64} (A : Bd p al ah) (A2 : Bd (p + 1) al2 ah2) (NA : Ns al ah al2 ah2) (x z : Int64) (h : sp_X8_makes_5_is_ x z p al ah = true) :
    sp_X8_makes_5_is_ x z (p + 1) al2 ah2 = true ∧ Ns (sp_X8_inverts_lo_ x al ah (nI p)) (sp_X8_inverts_hi_ z al ah (nI p)) (sp_X8_inverts_lo_ x al2 ah2 (nI (p + 1))) (sp_X8_inverts_hi_ z al2 ah2 (nI (p + 1))) := by
  have hB := ((q_k5 (a2 := al) (b2 := ah) (by omega) A x z).2 h).2.2
  have e0 : (0 : Int64).toInt = 0 := rfl
  have c : sp_X8_inverts_is_ al ah = true := by
    apply Classical.byContradiction
    intro w
    unfold sp_X8_makes_5_is_ at h
    rw [if_neg w] at h
    exact absurd h (by decide)
  have hS2 : (1 : Int) ≤ 2 ^ (2 * p) := by
    have h2 : ∀ p : Fin 25, (1 : Int) ≤ 2 ^ (2 * p.val) := by decide
    exact h2 ⟨p, by omega⟩
  have hS4 : (2 : Int) ^ (2 * (p + 1)) = 4 * 2 ^ (2 * p) := by
    rw [show 2 * (p + 1) = 2 * p + 1 + 1 by omega, n_pw, n_pw]
    omega
  have key : sp_X8_inverts_is_ al2 ah2 = true := by
    unfold sp_X8_inverts_is_ at c ⊢
    by_cases c1 : (0 : Int64) < al
    · rw [q_lt, e0] at c1
      rw [if_pos (by rw [q_lt, e0]; have := NA.1; omega)]
    · rw [if_neg c1] at c
      have c3 : ¬ (0 : Int64) ≤ ah := fun w => by rw [if_pos w] at c; exact absurd c (by decide)
      rw [q_le, e0] at c3
      have h2 := NA.2
      have h3 := A2.2.1
      rw [if_neg (by rw [q_lt, e0]; omega), if_neg (by rw [q_le, e0]; omega)]
  obtain ⟨-, e2⟩ := q_invert hp A2 x z
  have hle := (e2 key).2.2
  have N : Ns (sp_X8_inverts_lo_ x al ah (nI p)) (sp_X8_inverts_hi_ z al ah (nI p)) (sp_X8_inverts_lo_ x al2 ah2 (nI (p + 1))) (sp_X8_inverts_hi_ z al2 ah2 (nI (p + 1))) := by
    obtain ⟨n1, n2⟩ := NA
    have o1 := A.2.1
    have o2 := A2.2.1
    rcases q_invV (by omega) A x z c with ⟨g1, g2, g3⟩ | ⟨g1, g2, g3⟩
    · rcases q_invV hp A2 x z key with ⟨k1, k2, k3⟩ | ⟨k1, k2, k3⟩
      · have f1 := n_inv1 (S := 2 ^ (2 * p)) (b := ah.toInt) (b2 := ah2.toInt) (by omega) (by omega) n2
        have f2 := n_inv2 (S := 2 ^ (2 * p)) (b := al.toInt) (b2 := al2.toInt) (by omega) (by omega) n1
        exact ⟨by rw [g2, k2, hS4]; exact f1, by rw [g3, k3, hS4]; omega⟩
      · omega
    · rcases q_invV hp A2 x z key with ⟨k1, k2, k3⟩ | ⟨k1, k2, k3⟩
      · omega
      · have f1 := n_inv2 (S := 2 ^ (2 * p)) (b := -ah.toInt) (b2 := -ah2.toInt) (by omega) (by omega) (by omega)
        have f2 := n_inv1 (S := 2 ^ (2 * p)) (b := -al.toInt) (b2 := -al2.toInt) (by omega) (by omega) (by omega)
        exact ⟨by rw [g2, k2, hS4]; exact f1, by rw [g3, k3, hS4]; omega⟩
  refine ⟨?_, N⟩
  unfold sp_X8_makes_5_is_
  rw [if_pos key]
  exact n_is hp hB N hle
theorem n_rt1 {r r2 v v2 : Int} (h0 : 0 ≤ r) (h02 : 0 ≤ r2) (h1 : r * r ≤ v) (h2 : v2 < (r2 + 1) * (r2 + 1)) (h : 4 * v ≤ v2) : 2 * r ≤ r2 := by
  apply Int.not_lt.mp
  intro w
  have k : (r2 + 1) * (r2 + 1) ≤ (2 * r) * (2 * r) := Int.mul_le_mul (by omega) (by omega) (by omega) (by omega)
  have e : (2 * r) * (2 * r) = 4 * (r * r) := by grind
  omega
theorem n_rt2 {R r2 R2 v v2 : Int} (h0 : 0 ≤ R) (h02 : 0 ≤ r2) (h1 : v ≤ R * R) (h2 : (R2 = r2 ∧ r2 * r2 ≤ v2) ∨ (R2 = r2 + 1 ∧ r2 * r2 < v2)) (h : v2 ≤ 4 * v) : R2 ≤ 2 * R := by
  apply Int.not_lt.mp
  intro w
  have e : (2 * R) * (2 * R) = 4 * (R * R) := by grind
  rcases h2 with ⟨rfl, h2⟩ | ⟨rfl, h2⟩
  · have k : (2 * R + 1) * (2 * R + 1) ≤ R2 * R2 := Int.mul_le_mul (by omega) (by omega) (by omega) (by omega)
    have e2 : (2 * R + 1) * (2 * R + 1) = 4 * (R * R) + 4 * R + 1 := by grind
    omega
  · have k : (2 * R) * (2 * R) ≤ r2 * r2 := Int.mul_le_mul (by omega) (by omega) (by omega) (by omega)
    omega
theorem q_rootV {p : Nat} (hp : p < 25) {l : Int64} (h1 : -(64 * 2 ^ p) ≤ l.toInt) (h2 : l.toInt ≤ 64 * 2 ^ p) :
    0 ≤ (rtG 31 (jshl (sp_X8_most l 0) (nI p)) 0).toInt ∧ (rtG 31 (jshl (sp_X8_most l 0) (nI p)) 0).toInt * (rtG 31 (jshl (sp_X8_most l 0) (nI p)) 0).toInt ≤ max l.toInt 0 * 2 ^ p ∧ max l.toInt 0 * 2 ^ p < ((rtG 31 (jshl (sp_X8_most l 0) (nI p)) 0).toInt + 1) * ((rtG 31 (jshl (sp_X8_most l 0) (nI p)) 0).toInt + 1) ∧
    (((sp_X8_roots_hi_ l (nI p)).toInt = (rtG 31 (jshl (sp_X8_most l 0) (nI p)) 0).toInt ∧ max l.toInt 0 * 2 ^ p ≤ (rtG 31 (jshl (sp_X8_most l 0) (nI p)) 0).toInt * (rtG 31 (jshl (sp_X8_most l 0) (nI p)) 0).toInt) ∨ ((sp_X8_roots_hi_ l (nI p)).toInt = (rtG 31 (jshl (sp_X8_most l 0) (nI p)) 0).toInt + 1 ∧ (rtG 31 (jshl (sp_X8_most l 0) (nI p)) 0).toInt * (rtG 31 (jshl (sp_X8_most l 0) (nI p)) 0).toInt < max l.toInt 0 * 2 ^ p)) := by
  obtain ⟨a1, a2, a3, a4⟩ := q_rootv hp (l := l) h1 h2
  have e0 : (0 : Int64).toInt = 0 := rfl
  obtain ⟨ra1, ra2, ra3, ra4⟩ := q_rtI (jshl (sp_X8_most l 0) (nI p)) (by omega) 31 0 (by omega) (by decide) (by decide) (by rw [e0]; omega) (by rw [e0]; omega)
  rw [q_root] at ra1 ra2 ra3 ra4
  rw [a2] at ra3 ra4
  refine ⟨ra1, ra3, ra4, ?_⟩
  obtain ⟨r, hr⟩ : ∃ r, r = rtG 31 (jshl (sp_X8_most l 0) (nI p)) 0 := ⟨_, rfl⟩
  unfold sp_X8_roots_hi_
  rw [← hr] at ra1 ra2 ra3 ra4 ⊢
  have hrr : r.toInt * r.toInt ≤ 2147483648 * 2147483648 := Int.mul_le_mul (by omega) (by omega) (by omega) (by omega)
  have hr0 : 0 ≤ r.toInt * r.toInt := Int.mul_nonneg ra1 ra1
  have em : (r * r).toInt = r.toInt * r.toInt := q_mulI (by omega) (by omega)
  by_cases c : jshl (sp_X8_most l 0) (nI p) ≤ r * r
  · rw [if_pos c]
    rw [q_le, a2, em] at c
    exact Or.inl ⟨rfl, c⟩
  · rw [if_neg c]
    rw [q_le, a2, em] at c
    exact Or.inr ⟨by rw [q_addI (by rw [Int64.toInt_one]; omega) (by rw [Int64.toInt_one]; omega), Int64.toInt_one], by omega⟩
theorem n_k6 {p : Nat} (hp : p + 1 < 25) {al ah al2 ah2 : Int64} (A : Bd p al ah) (A2 : Bd (p + 1) al2 ah2) (NA : Ns al ah al2 ah2) (h : sp_X8_makes_6_is_ p al ah = true) :
    sp_X8_makes_6_is_ (p + 1) al2 ah2 = true ∧ Ns (rtG 31 (jshl (sp_X8_most al 0) (nI p)) 0) (sp_X8_roots_hi_ ah (nI p)) (rtG 31 (jshl (sp_X8_most al2 0) (nI (p + 1))) 0) (sp_X8_roots_hi_ ah2 (nI (p + 1))) := by
  have hB := ((q_k6 (a2 := al) (b2 := ah) (by omega) A).2 h).2.2
  obtain ⟨-, -, m3⟩ := q_roots hp A2
  have hUp := q_Upos (p := p) (by omega)
  have hpw := n_pw p
  obtain ⟨a1, a2, a3⟩ := A
  obtain ⟨c1, c2, c3⟩ := A2
  obtain ⟨n1, n2⟩ := NA
  obtain ⟨l1, l2, l3, -⟩ := q_rootV (p := p) (by omega) (l := al) a1 (by omega)
  obtain ⟨L1, L2, L3, -⟩ := q_rootV hp (l := al2) c1 (by omega)
  obtain ⟨u1, u2, u3, u4⟩ := q_rootV (p := p) (by omega) (l := ah) (by omega) a3
  obtain ⟨U1, U2, U3, U4⟩ := q_rootV hp (l := ah2) (by omega) c3
  have dbl : ∀ x y : Int, 2 * x ≤ y → 4 * (x * 2 ^ p) ≤ y * 2 ^ (p + 1) := fun x y hxy => by
    rw [hpw]
    have k : 2 * x * (2 * 2 ^ p) ≤ y * (2 * 2 ^ p) := Int.mul_le_mul_of_nonneg_right hxy (by omega)
    have e : 2 * x * (2 * 2 ^ p) = 4 * (x * 2 ^ p) := by grind
    omega
  have dbl2 : ∀ x y : Int, y ≤ 2 * x → y * 2 ^ (p + 1) ≤ 4 * (x * 2 ^ p) := fun x y hxy => by
    rw [hpw]
    have k : y * (2 * 2 ^ p) ≤ 2 * x * (2 * 2 ^ p) := Int.mul_le_mul_of_nonneg_right hxy (by omega)
    have e : 2 * x * (2 * 2 ^ p) = 4 * (x * 2 ^ p) := by grind
    omega
  have N : Ns (rtG 31 (jshl (sp_X8_most al 0) (nI p)) 0) (sp_X8_roots_hi_ ah (nI p)) (rtG 31 (jshl (sp_X8_most al2 0) (nI (p + 1))) 0) (sp_X8_roots_hi_ ah2 (nI (p + 1))) := by
    refine ⟨n_rt1 l1 L1 l2 L3 (dbl _ _ (by omega)), ?_⟩
    have hR0 : 0 ≤ (sp_X8_roots_hi_ ah (nI p)).toInt := by rcases u4 with ⟨w, -⟩ | ⟨w, -⟩ <;> omega
    have hRR : max ah.toInt 0 * 2 ^ p ≤ (sp_X8_roots_hi_ ah (nI p)).toInt * (sp_X8_roots_hi_ ah (nI p)).toInt := by
      rcases u4 with ⟨w, w2⟩ | ⟨w, w2⟩
      · rw [w]; exact w2
      · rw [w]; omega
    exact n_rt2 hR0 U1 hRR (by
      rcases U4 with ⟨w, w2⟩ | ⟨w, w2⟩
      · exact Or.inl ⟨w, U2⟩
      · exact Or.inr ⟨w, w2⟩) (dbl2 _ _ (by omega))
  exact ⟨n_is hp hB N m3, N⟩
theorem q_exT {a b : Int64} {p : Nat} (hp : p < 25) (ha : -2 ^ p ≤ a.toInt) (hab : a.toInt ≤ b.toInt) (hb : b.toInt ≤ 2 ^ p) {n : Nat} {u : Int64 × Int64} (hn : n + 1 ≤ 12) (h1 : u.1.toInt ≤ u.2.toInt) (h2 : -((13 - ((n + 1 : Nat) : Int)) * 2 ^ p) ≤ u.1.toInt) (h3 : u.2.toInt ≤ (13 - ((n + 1 : Nat) : Int)) * 2 ^ p) :
    ((exT a b (nI p) (n + 1) u).1.toInt = (sp_X8_multiplies_lo_ a b u.1 u.2 (nI p)).toInt / ((n + 1 : Nat) : Int) + 2 ^ p ∧ (exT a b (nI p) (n + 1) u).2.toInt = -(-(sp_X8_multiplies_hi_ a b u.1 u.2 (nI p)).toInt / ((n + 1 : Nat) : Int)) + 2 ^ p) ∧
    ((exT a b (nI p) (n + 1) u).1.toInt ≤ (exT a b (nI p) (n + 1) u).2.toInt ∧ -((13 - (n : Int)) * 2 ^ p) ≤ (exT a b (nI p) (n + 1) u).1.toInt ∧ (exT a b (nI p) (n + 1) u).2.toInt ≤ (13 - (n : Int)) * 2 ^ p) ∧
    (-(13 * 16777216) ≤ u.1.toInt ∧ u.2.toInt ≤ 13 * 16777216) := by
  have hU := q_U hp
  have hUp := q_Upos hp
  obtain ⟨Y, hY⟩ : ∃ Y : Int, Y = (13 - ((n + 1 : Nat) : Int)) * 2 ^ p := ⟨_, rfl⟩
  rw [← hY] at h2 h3
  have hY2 : (13 - (n : Int)) * 2 ^ p = Y + 2 ^ p := by rw [hY, show (13 - (n : Int)) = (13 - ((n + 1 : Nat) : Int)) + 1 by omega, Int.add_mul, Int.one_mul]
  have hY0 : 0 ≤ Y := by rw [hY]; exact Int.mul_nonneg (by omega) (by omega)
  have hY1 : Y ≤ 13 * 16777216 := by rw [hY]; exact Int.mul_le_mul (by omega) (by omega) (by omega) (by omega)
  have hXY : 2 ^ p * Y ≤ 4611686018427387904 := by
    have : 2 ^ p * Y ≤ 16777216 * (13 * 16777216) := Int.mul_le_mul (by omega) hY1 hY0 (by omega)
    omega
  obtain ⟨m1, m2, m3, m4, m5⟩ := q_mulc (a := a) (b := b) (a2 := u.1) (b2 := u.2) hp (X := 2 ^ p) (Y := Y) ⟨by omega, by omega⟩ ⟨by omega, by omega⟩ ⟨by omega, by omega⟩ ⟨by omega, by omega⟩ hXY
  have d1 : -(2 ^ p * Y) / 2 ^ p = -Y := by
    rw [show -((2 : Int) ^ p * Y) = 2 ^ p * (-Y) by rw [Int.mul_neg]]
    exact Int.mul_ediv_cancel_left (-Y) (by omega)
  rw [d1] at m4 m5
  have hk := q_nk (k := n + 1) (by omega)
  have hk0 : 0 < (nI (n + 1)).toInt64.toInt := by rw [hk]; omega
  have s1 := q_cutI (a := sp_X8_multiplies_lo_ a b u.1 u.2 (nI p)) hk0
  have s2 := q_fill8I (a := sp_X8_multiplies_hi_ a b u.1 u.2 (nI p)) hk0 (by omega)
  rw [hk] at s1 s2
  have t1 := q_dk (x := (sp_X8_multiplies_lo_ a b u.1 u.2 (nI p)).toInt) (Y := Y) (k := n + 1) (by omega) (by omega) hY0
  have t2 := q_dk (x := -(sp_X8_multiplies_hi_ a b u.1 u.2 (nI p)).toInt) (Y := Y) (k := n + 1) (by omega) (by omega) hY0
  have t3 := q_ce (m := (sp_X8_multiplies_lo_ a b u.1 u.2 (nI p)).toInt) (M := (sp_X8_multiplies_hi_ a b u.1 u.2 (nI p)).toInt) (U := ((n + 1 : Nat) : Int)) (by omega) m3
  have v1 : (exT a b (nI p) (n + 1) u).1.toInt = (sp_X8_multiplies_lo_ a b u.1 u.2 (nI p)).toInt / ((n + 1 : Nat) : Int) + 2 ^ p := by
    show (_ + _ : Int64).toInt = _
    rw [q_addI, s1, hU]
    · rw [s1, hU]; omega
    · rw [s1, hU]; omega
  have v2 : (exT a b (nI p) (n + 1) u).2.toInt = -(-(sp_X8_multiplies_hi_ a b u.1 u.2 (nI p)).toInt / ((n + 1 : Nat) : Int)) + 2 ^ p := by
    show (_ + _ : Int64).toInt = _
    rw [q_addI, s2, hU]
    · rw [s2, hU]; omega
    · rw [s2, hU]; omega
  exact ⟨⟨v1, v2⟩, ⟨by rw [v1, v2]; omega, by rw [v1, hY2]; omega, by rw [v2, hY2]; omega⟩, by omega, by omega⟩
theorem n_exp {a b a2 b2 : Int64} {p : Nat} (hp : p + 1 < 25) (ha : -2 ^ p ≤ a.toInt) (hab : a.toInt ≤ b.toInt) (hb : b.toInt ≤ 2 ^ p) (ha2 : -2 ^ (p + 1) ≤ a2.toInt) (hab2 : a2.toInt ≤ b2.toInt) (hb2 : b2.toInt ≤ 2 ^ (p + 1)) (NA : Ns a b a2 b2) :
    ∀ (n : Nat) (u u2 : Int64 × Int64), n ≤ 12 → u.1.toInt ≤ u.2.toInt → -((13 - (n : Int)) * 2 ^ p) ≤ u.1.toInt → u.2.toInt ≤ (13 - (n : Int)) * 2 ^ p → u2.1.toInt ≤ u2.2.toInt → -((13 - (n : Int)) * 2 ^ (p + 1)) ≤ u2.1.toInt → u2.2.toInt ≤ (13 - (n : Int)) * 2 ^ (p + 1) → Ns u.1 u.2 u2.1 u2.2 →
      Ns (exM a b (nI p) n u).1 (exM a b (nI p) n u).2 (exM a2 b2 (nI (p + 1)) n u2).1 (exM a2 b2 (nI (p + 1)) n u2).2
  | 0, u, u2, _, _, _, _, _, _, _, N => N
  | n + 1, u, u2, hn, h1, h2, h3, g1, g2, g3, N => by
    obtain ⟨⟨v1, v2⟩, ⟨o1, o2, o3⟩, b1, b2'⟩ := q_exT (p := p) (by omega) ha hab hb hn h1 h2 h3
    obtain ⟨⟨w1, w2⟩, ⟨r1, r2, r3⟩, c1, c2⟩ := q_exT hp ha2 hab2 hb2 hn g1 g2 g3
    have hUp := q_Upos (p := p) (by omega)
    have hUp2 := q_Upos hp
    have M := n_mulN hp (a := a) (b := b) (c := u.1) (d := u.2) (a2 := a2) (b2 := b2) (c2 := u2.1) (d2 := u2.2) (X := 16777216) (Y := 13 * 16777216) (X2 := 16777216) (Y2 := 13 * 16777216) ⟨by omega, by omega⟩ ⟨by omega, by omega⟩ ⟨by omega, by omega⟩ ⟨by omega, by omega⟩ (by decide) ⟨by omega, by omega⟩ ⟨by omega, by omega⟩ ⟨by omega, by omega⟩ ⟨by omega, by omega⟩ (by decide) hab2 g1 NA N
    have f1 := n_fl2 (U := ((n + 1 : Nat) : Int)) (by omega) M.1
    have f2 := n_fl2 (U := ((n + 1 : Nat) : Int)) (m := -(sp_X8_multiplies_hi_ a b u.1 u.2 (nI p)).toInt) (m2 := -(sp_X8_multiplies_hi_ a2 b2 u2.1 u2.2 (nI (p + 1))).toInt) (by omega) (by have := M.2; omega)
    have hpw := n_pw p
    show Ns (exM a b (nI p) n (exT a b (nI p) (n + 1) u)).1 (exM a b (nI p) n (exT a b (nI p) (n + 1) u)).2 (exM a2 b2 (nI (p + 1)) n (exT a2 b2 (nI (p + 1)) (n + 1) u2)).1 (exM a2 b2 (nI (p + 1)) n (exT a2 b2 (nI (p + 1)) (n + 1) u2)).2
    exact n_exp hp ha hab hb ha2 hab2 hb2 NA n _ _ (by omega) o1 o2 o3 r1 r2 r3 ⟨by rw [v1, w1]; omega, by rw [v2, w2]; omega⟩
theorem n_k7 {p : Nat} (hp : p + 1 < 25) {al ah al2 ah2 : Int64} (A : Bd p al ah) (A2 : Bd (p + 1) al2 ah2) (NA : Ns al ah al2 ah2) (x z : Int64) (h : sp_X8_makes_7_is_ x z p al ah = true) :
    sp_X8_makes_7_is_ x z (p + 1) al2 ah2 = true ∧ Ns (sp_X8_raises_lo_ x al ah (nI p)) (sp_X8_raises_hi_ z al ah (nI p)) (sp_X8_raises_lo_ x al2 ah2 (nI (p + 1))) (sp_X8_raises_hi_ z al2 ah2 (nI (p + 1))) := by
  have hB := ((q_k7 (a2 := al) (b2 := ah) (by omega) A x z).2 h).2.2
  have hU := q_U (p := p) (by omega)
  have hU2 := q_U hp
  have hUp := q_Upos (p := p) (by omega)
  have hUp2 := q_Upos hp
  have hpw := n_pw p
  have hN : (-(jshl 1 (nI p))).toInt = -2 ^ p := by rw [q_negI (by rw [hU]; omega), hU]
  have hN2 : (-(jshl 1 (nI (p + 1)))).toInt = -2 ^ (p + 1) := by rw [q_negI (by rw [hU2]; omega), hU2]
  have c : sp_X8_raises_is_ al ah (nI p) = true := by
    apply Classical.byContradiction
    intro w
    unfold sp_X8_makes_7_is_ at h
    rw [if_neg w] at h
    exact absurd h (by decide)
  unfold sp_X8_raises_is_ at c
  have c1 : ¬ al < -(jshl 1 (nI p)) := fun w => by rw [if_pos w] at c; exact absurd c (by decide)
  rw [if_neg c1] at c
  have c2 : ¬ jshl 1 (nI p) < ah := fun w => by rw [if_pos w] at c; exact absurd c (by decide)
  have c1' := c1
  have c2' := c2
  rw [q_lt, hN] at c1'
  rw [q_lt, hU] at c2'
  obtain ⟨n1, n2⟩ := id NA
  have d1 : ¬ al2 < -(jshl 1 (nI (p + 1))) := by rw [q_lt, hN2]; omega
  have d2 : ¬ jshl 1 (nI (p + 1)) < ah2 := by rw [q_lt, hU2]; omega
  have oA := A.2.1
  have oA2 := A2.2.1
  have E := n_exp hp (a := al) (b := ah) (a2 := al2) (b2 := ah2) (by omega) oA (by omega) (by omega) oA2 (by omega) NA 12 (jshl 1 (nI p), jshl 1 (nI p)) (jshl 1 (nI (p + 1)), jshl 1 (nI (p + 1))) (by omega) (Int.le_refl _) (by show _ ≤ (jshl 1 (nI p)).toInt; rw [hU]; omega) (by show (jshl 1 (nI p)).toInt ≤ _; rw [hU]; omega) (Int.le_refl _) (by show _ ≤ (jshl 1 (nI (p + 1))).toInt; rw [hU2]; omega) (by show (jshl 1 (nI (p + 1))).toInt ≤ _; rw [hU2]; omega) ⟨by show 2 * (jshl 1 (nI p)).toInt ≤ (jshl 1 (nI (p + 1))).toInt; rw [hU, hU2]; omega, by show (jshl 1 (nI (p + 1))).toInt ≤ 2 * (jshl 1 (nI p)).toInt; rw [hU, hU2]; omega⟩
  obtain ⟨-, o1, o2, o3⟩ := q_exp (p := p) (by omega) (a := al) (b := ah) (by omega) oA (by omega) 12 (jshl 1 (nI p), jshl 1 (nI p)) (by omega) (Int.le_refl _) (by show _ ≤ (jshl 1 (nI p)).toInt; rw [hU]; omega) (by show (jshl 1 (nI p)).toInt ≤ _; rw [hU]; omega)
  obtain ⟨-, r1, r2, r3⟩ := q_exp hp (a := al2) (b := ah2) (by omega) oA2 (by omega) 12 (jshl 1 (nI (p + 1)), jshl 1 (nI (p + 1))) (by omega) (Int.le_refl _) (by show _ ≤ (jshl 1 (nI (p + 1))).toInt; rw [hU2]; omega) (by show (jshl 1 (nI (p + 1))).toInt ≤ _; rw [hU2]; omega)
  have e1 : sp_X8_raises_lo_ x al ah (nI p) = (exM al ah (nI p) 12 (jshl 1 (nI p), jshl 1 (nI p))).1 - 1 := by unfold sp_X8_raises_lo_; rw [if_neg c1, if_neg c2]
  have e2 : sp_X8_raises_hi_ z al ah (nI p) = (exM al ah (nI p) 12 (jshl 1 (nI p), jshl 1 (nI p))).2 + 1 := by unfold sp_X8_raises_hi_; rw [if_neg c1, if_neg c2]
  have e3 : sp_X8_raises_lo_ x al2 ah2 (nI (p + 1)) = (exM al2 ah2 (nI (p + 1)) 12 (jshl 1 (nI (p + 1)), jshl 1 (nI (p + 1)))).1 - 1 := by unfold sp_X8_raises_lo_; rw [if_neg d1, if_neg d2]
  have e4 : sp_X8_raises_hi_ z al2 ah2 (nI (p + 1)) = (exM al2 ah2 (nI (p + 1)) 12 (jshl 1 (nI (p + 1)), jshl 1 (nI (p + 1)))).2 + 1 := by unfold sp_X8_raises_hi_; rw [if_neg d1, if_neg d2]
  have t : ∀ w : Int64, -(13 * 33554432) ≤ w.toInt → w.toInt ≤ 13 * 33554432 → (w - 1).toInt = w.toInt - 1 ∧ (w + 1).toInt = w.toInt + 1 := fun w k1 k2 => ⟨by rw [q_subI (by rw [Int64.toInt_one]; omega) (by rw [Int64.toInt_one]; omega), Int64.toInt_one], by rw [q_addI (by rw [Int64.toInt_one]; omega) (by rw [Int64.toInt_one]; omega), Int64.toInt_one]⟩
  have t1 := t _ (show -(13 * 33554432) ≤ (exM al ah (nI p) 12 (jshl 1 (nI p), jshl 1 (nI p))).1.toInt by omega) (by omega)
  have t2 := t _ (show -(13 * 33554432) ≤ (exM al ah (nI p) 12 (jshl 1 (nI p), jshl 1 (nI p))).2.toInt by omega) (by omega)
  have t3 := t _ (show -(13 * 33554432) ≤ (exM al2 ah2 (nI (p + 1)) 12 (jshl 1 (nI (p + 1)), jshl 1 (nI (p + 1)))).1.toInt by omega) (by omega)
  have t4 := t _ (show -(13 * 33554432) ≤ (exM al2 ah2 (nI (p + 1)) 12 (jshl 1 (nI (p + 1)), jshl 1 (nI (p + 1)))).2.toInt by omega) (by omega)
  obtain ⟨E1, E2⟩ := E
  have N : Ns (sp_X8_raises_lo_ x al ah (nI p)) (sp_X8_raises_hi_ z al ah (nI p)) (sp_X8_raises_lo_ x al2 ah2 (nI (p + 1))) (sp_X8_raises_hi_ z al2 ah2 (nI (p + 1))) := by
    rw [e1, e2, e3, e4]
    exact ⟨by rw [t1.1, t3.1]; omega, by rw [t2.2, t4.2]; omega⟩
  refine ⟨?_, N⟩
  unfold sp_X8_makes_7_is_
  rw [if_pos (show sp_X8_raises_is_ al2 ah2 (nI (p + 1)) = true by unfold sp_X8_raises_is_; rw [if_neg d1, if_neg d2])]
  exact n_is hp hB N (by rw [e3, e4, t3.1, t4.2]; omega)
