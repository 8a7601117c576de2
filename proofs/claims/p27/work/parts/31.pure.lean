theorem q_msb (x : Int64) : (0 ≤ x) ↔ x.toBitVec.msb = false := by
  rw [Int64.le_iff_toInt_le, BitVec.msb_eq_toInt]
  show (0 : Int) ≤ x.toBitVec.toInt ↔ _
  simp
theorem q_xor (a b : Int64) : (0 ≤ (a ^^^ b)) ↔ (0 ≤ a ↔ 0 ≤ b) := by
  rw [q_msb, q_msb, q_msb, Int64.toBitVec_xor, BitVec.msb_xor]
  cases a.toBitVec.msb <;> cases b.toBitVec.msb <;> simp
theorem q_fd (a b : Int64) : sp_J9_floorDiv_f86c9 a b = sp_X8_cut a b := by
  unfold sp_J9_floorDiv_f86c9 sp_X8_cut
  by_cases h1 : (a / b) * b = a
  · rw [if_pos h1, if_pos h1]
    split <;> rfl
  · rw [if_neg h1, if_neg h1]
    by_cases h2 : 0 ≤ a <;> by_cases h3 : 0 ≤ b
    · rw [if_pos ((q_xor a b).mpr (iff_of_true h2 h3)), if_pos h2, if_pos h3]
    · rw [if_neg (fun z => h3 (((q_xor a b).mp z).mp h2)), if_pos h2, if_neg h3]
    · rw [if_neg (fun z => h2 (((q_xor a b).mp z).mpr h3)), if_neg h2, if_pos h3]
    · rw [if_pos ((q_xor a b).mpr (iff_of_false h2 h3)), if_neg h2, if_neg h3]
theorem q_cut {a b : Int64} (hb : ¬ b = 0) : sp_X7_cut a b = sp_X8_cut a b := by
  unfold sp_X7_cut
  rw [if_neg hb, q_fd]
theorem q_inj {a b : Int64} (h : a.toInt = b.toInt) : a = b := Int64.toInt_inj.mp h
theorem q_rng (a : Int64) : -9223372036854775808 ≤ a.toInt ∧ a.toInt ≤ 9223372036854775807 := ⟨by have := Int64.le_toInt a; omega, by have := Int64.toInt_lt a; omega⟩
theorem q_tdiv {x y : Int} (hy : 0 < y) : (0 ≤ x → x.tdiv y = x / y) ∧ (x < 0 → x.tdiv y = -((-x) / y)) := by
  constructor
  · intro h
    exact Int.tdiv_eq_ediv_of_nonneg h
  · intro h
    rw [show x = -(-x) by omega, Int.neg_tdiv, Int.tdiv_eq_ediv_of_nonneg (by omega)]
    rw [Int.neg_neg]
theorem q_div {a b : Int64} (hb : 0 < b.toInt) : (a / b).toInt = a.toInt.tdiv b.toInt := by
  rw [Int64.toInt_div]
  have h := q_rng a
  have hb2 := q_rng b
  apply Int.bmod_eq_of_le
  · by_cases h0 : 0 ≤ a.toInt
    · rw [(q_tdiv hb).1 h0]
      have := Int.ediv_nonneg h0 (Int.le_of_lt hb)
      omega
    · rw [(q_tdiv hb).2 (by omega)]
      have := Int.ediv_le_self b.toInt (show 0 ≤ -a.toInt by omega)
      omega
  · by_cases h0 : 0 ≤ a.toInt
    · rw [(q_tdiv hb).1 h0]
      have := Int.ediv_le_self b.toInt h0
      omega
    · rw [(q_tdiv hb).2 (by omega)]
      have := Int.ediv_nonneg (show 0 ≤ -a.toInt by omega) (Int.le_of_lt hb)
      omega
theorem q_mulI {a b : Int64} (h1 : -9223372036854775808 ≤ a.toInt * b.toInt) (h2 : a.toInt * b.toInt ≤ 9223372036854775807) : (a * b).toInt = a.toInt * b.toInt := by
  rw [Int64.toInt_mul]
  apply Int.bmod_eq_of_le <;> omega
theorem q_addI {a b : Int64} (h1 : -9223372036854775808 ≤ a.toInt + b.toInt) (h2 : a.toInt + b.toInt ≤ 9223372036854775807) : (a + b).toInt = a.toInt + b.toInt := by
  rw [Int64.toInt_add]
  apply Int.bmod_eq_of_le <;> omega
theorem q_subI {a b : Int64} (h1 : -9223372036854775808 ≤ a.toInt - b.toInt) (h2 : a.toInt - b.toInt ≤ 9223372036854775807) : (a - b).toInt = a.toInt - b.toInt := by
  rw [Int64.toInt_sub]
  apply Int.bmod_eq_of_le <;> omega
theorem q_negI {a : Int64} (h : -9223372036854775808 < a.toInt) : (-a).toInt = -a.toInt := by
  rw [Int64.toInt_neg]
  have := q_rng a
  apply Int.bmod_eq_of_le <;> omega
theorem q_mulD {a b : Int64} (hb : 0 < b.toInt) : (a / b * b).toInt = a.toInt.tdiv b.toInt * b.toInt := by
  have hd := q_div (a := a) hb
  have ha := q_rng a
  rw [q_mulI, hd]
  · rw [hd]
    by_cases h0 : 0 ≤ a.toInt
    · rw [(q_tdiv hb).1 h0]
      have := Int.mul_nonneg (Int.ediv_nonneg h0 (Int.le_of_lt hb)) (Int.le_of_lt hb)
      omega
    · rw [(q_tdiv hb).2 (by omega), Int.neg_mul]
      have := Int.ediv_mul_le (-a.toInt) (Int.ne_of_gt hb)
      omega
  · rw [hd]
    by_cases h0 : 0 ≤ a.toInt
    · rw [(q_tdiv hb).1 h0]
      have := Int.ediv_mul_le a.toInt (Int.ne_of_gt hb)
      omega
    · rw [(q_tdiv hb).2 (by omega), Int.neg_mul]
      have := Int.mul_nonneg (Int.ediv_nonneg (show 0 ≤ -a.toInt by omega) (Int.le_of_lt hb)) (Int.le_of_lt hb)
      omega
theorem q_cutI {a b : Int64} (hb : 0 < b.toInt) : (sp_X8_cut a b).toInt = a.toInt / b.toInt := by
  have hd := q_div (a := a) hb
  have ha := q_rng a
  have hm := Int.mul_tdiv_add_tmod a.toInt b.toInt
  have hb0 : (0 : Int64) ≤ b := by rw [Int64.le_iff_toInt_le]; exact Int.le_of_lt hb
  have hmul : (a / b * b).toInt = a.toInt.tdiv b.toInt * b.toInt := by
    rw [q_mulI, hd]
    · rw [hd]
      by_cases h0 : 0 ≤ a.toInt
      · rw [(q_tdiv hb).1 h0]
        have := Int.mul_nonneg (Int.ediv_nonneg h0 (Int.le_of_lt hb)) (Int.le_of_lt hb)
        omega
      · rw [(q_tdiv hb).2 (by omega), Int.neg_mul]
        have := Int.ediv_mul_le (-a.toInt) (Int.ne_of_gt hb)
        omega
    · rw [hd]
      by_cases h0 : 0 ≤ a.toInt
      · rw [(q_tdiv hb).1 h0]
        have := Int.ediv_mul_le a.toInt (Int.ne_of_gt hb)
        omega
      · rw [(q_tdiv hb).2 (by omega), Int.neg_mul]
        have := Int.mul_nonneg (Int.ediv_nonneg (show 0 ≤ -a.toInt by omega) (Int.le_of_lt hb)) (Int.le_of_lt hb)
        omega
  unfold sp_X8_cut
  by_cases h1 : a / b * b = a
  · rw [if_pos h1, hd]
    have h2 : a.toInt.tdiv b.toInt * b.toInt = a.toInt := by rw [← hmul, h1]
    exact (Int.ediv_eq_of_eq_mul_left (Int.ne_of_gt hb) h2.symm).symm
  · have h2 : a.toInt.tdiv b.toInt * b.toInt ≠ a.toInt := fun z => h1 (q_inj (by rw [hmul, z]))
    rw [if_neg h1]
    by_cases h0 : (0 : Int64) ≤ a
    · rw [if_pos h0, if_pos hb0, hd]
      rw [Int64.le_iff_toInt_le] at h0
      exact (q_tdiv hb).1 h0
    · rw [if_neg h0, if_pos hb0]
      rw [Int64.le_iff_toInt_le] at h0
      have h0' : a.toInt < 0 := by simp at h0; omega
      have h3 := (q_tdiv (x := a.toInt) hb).2 h0'
      have h4 : 0 ≤ -a.toInt / b.toInt := Int.ediv_nonneg (by omega) (Int.le_of_lt hb)
      have h5 := Int.ediv_le_self b.toInt (show 0 ≤ -a.toInt by omega)
      have h6 : -a.toInt / b.toInt * b.toInt ≠ -a.toInt := fun z => h2 (by rw [h3, Int.neg_mul, z, Int.neg_neg])
      have h7 := Int.ediv_mul_le (-a.toInt) (Int.ne_of_gt hb)
      have h8 : -a.toInt / b.toInt ≤ -a.toInt / b.toInt * b.toInt := by
        have := Int.mul_le_mul_of_nonneg_left (show (1 : Int) ≤ b.toInt by omega) h4
        omega
      rw [q_subI (by rw [hd, h3, Int64.toInt_one]; omega) (by rw [hd, h3, Int64.toInt_one]; omega), hd, h3, Int64.toInt_one]
      have h9 := Int.mul_ediv_add_emod (-a.toInt) b.toInt
      have h10 := Int.emod_nonneg (-a.toInt) (Int.ne_of_gt hb)
      have h11 := Int.emod_lt_of_pos (-a.toInt) hb
      have h12 : -a.toInt % b.toInt ≠ 0 := fun z => h6 (by rw [z] at h9; rw [Int.mul_comm]; omega)
      exact ((Int.ediv_emod_unique (a := a.toInt) (b := b.toInt) (r := b.toInt - (-a.toInt) % b.toInt) (q := -((-a.toInt) / b.toInt) - 1) hb).mpr ⟨by rw [Int.mul_sub, Int.mul_neg]; omega, by omega, by omega⟩).1.symm
theorem q_fillI {a b : Int64} (hb : 0 < b.toInt) (ha : -9223372036854775808 < a.toInt) : (sp_X7_fill a b).toInt = -(-a.toInt / b.toInt) := by
  have hb1 : ¬ b = 0 := fun z => by rw [z] at hb; simp at hb
  have hr := q_rng a
  have hc := q_cutI (a := -a) hb
  rw [q_negI ha] at hc
  unfold sp_X7_fill
  rw [if_neg hb1, q_fd, q_negI, hc]
  rw [hc]
  by_cases h0 : 0 ≤ -a.toInt
  · have := Int.ediv_nonneg h0 (Int.le_of_lt hb)
    omega
  · have h1 := Int.ediv_mul_le (-a.toInt) (Int.ne_of_gt hb)
    have h2 := Int.lt_ediv_add_one_mul_self (-a.toInt) hb
    by_cases h3 : -a.toInt / b.toInt < a.toInt * -1
    · exfalso
      have h4 : -a.toInt / b.toInt + 1 ≤ 0 := by
        have := Int.ediv_neg_of_neg_of_pos (show -a.toInt < 0 by omega) hb
        omega
      have h5 : (-a.toInt / b.toInt + 1) * b.toInt ≤ (-a.toInt / b.toInt + 1) * 1 := Int.mul_le_mul_of_nonpos_left h4 (by omega)
      omega
    · omega
theorem q_fill8I {a b : Int64} (hb : 0 < b.toInt) (ha : -9223372036854775808 < a.toInt) : (sp_X8_fill a b).toInt = -(-a.toInt / b.toInt) := by
  have hd := q_div (a := a) hb
  have hr := q_rng a
  have hb0 : (0 : Int64) ≤ b := by rw [Int64.le_iff_toInt_le]; exact Int.le_of_lt hb
  have hmul := q_mulD (a := a) hb
  unfold sp_X8_fill
  by_cases h1 : a / b * b = a
  · rw [if_pos h1, hd]
    have h2 : a.toInt.tdiv b.toInt * b.toInt = a.toInt := by rw [← hmul, h1]
    have h3 : -a.toInt / b.toInt = -(a.toInt.tdiv b.toInt) := Int.ediv_eq_of_eq_mul_left (Int.ne_of_gt hb) (by rw [Int.neg_mul, h2])
    omega
  · have h2 : a.toInt.tdiv b.toInt * b.toInt ≠ a.toInt := fun z => h1 (q_inj (by rw [hmul, z]))
    rw [if_neg h1]
    by_cases h0 : (0 : Int64) ≤ a
    · rw [if_pos h0, if_pos hb0]
      rw [Int64.le_iff_toInt_le] at h0
      have h0' : 0 ≤ a.toInt := h0
      have h3 := (q_tdiv (x := a.toInt) hb).1 h0'
      rw [h3] at h2
      have h9 := Int.mul_ediv_add_emod a.toInt b.toInt
      have h10 := Int.emod_nonneg a.toInt (Int.ne_of_gt hb)
      have h11 := Int.emod_lt_of_pos a.toInt hb
      have h12 : a.toInt % b.toInt ≠ 0 := fun z => h2 (by rw [z] at h9; rw [Int.mul_comm]; omega)
      have h13 := ((Int.ediv_emod_unique (a := -a.toInt) (b := b.toInt) (r := b.toInt - a.toInt % b.toInt) (q := -(a.toInt / b.toInt) - 1) hb).mpr ⟨by rw [Int.mul_sub, Int.mul_neg]; omega, by omega, by omega⟩).1
      have h7 := Int.ediv_mul_le a.toInt (Int.ne_of_gt hb)
      have h4 : 0 ≤ a.toInt / b.toInt := Int.ediv_nonneg h0' (Int.le_of_lt hb)
      have h8 : a.toInt / b.toInt ≤ a.toInt / b.toInt * b.toInt := by
        have := Int.mul_le_mul_of_nonneg_left (show (1 : Int) ≤ b.toInt by omega) h4
        omega
      rw [q_addI (by rw [hd, h3, Int64.toInt_one]; omega) (by rw [hd, h3, Int64.toInt_one]; omega), hd, h3, Int64.toInt_one, h13]
      omega
    · rw [if_neg h0, if_pos hb0, hd]
      rw [Int64.le_iff_toInt_le] at h0
      have h0' : a.toInt < 0 := by simp at h0; omega
      exact (q_tdiv hb).2 h0'
theorem q_fill {a b : Int64} (hb : 0 < b.toInt) (ha : -9223372036854775808 < a.toInt) : sp_X7_fill a b = sp_X8_fill a b := q_inj (by rw [q_fillI hb ha, q_fill8I hb ha])
theorem q_lt (a b : Int64) : (a < b) ↔ a.toInt < b.toInt := Int64.lt_iff_toInt_lt
theorem q_le (a b : Int64) : (a ≤ b) ↔ a.toInt ≤ b.toInt := Int64.le_iff_toInt_le
theorem q_max (a b : Int64) : jmax a b = sp_X8_most a b := by
  unfold jmax sp_X8_most
  by_cases h : a ≤ b
  · rw [if_neg (fun z => by rw [q_lt] at z; rw [q_le] at h; omega), if_pos h]
  · rw [if_pos (by rw [q_lt]; rw [q_le] at h; omega), if_neg h]
theorem q_min (a b : Int64) : jmin a b = sp_X8_least a b := by
  unfold jmin sp_X8_least
  by_cases h : b ≤ a
  · rw [if_pos h]
    by_cases h2 : b < a
    · rw [if_pos h2]
    · rw [if_neg h2]
      exact q_inj (by rw [q_lt] at h2; rw [q_le] at h; omega)
  · rw [if_neg h, if_neg (fun z => h (by rw [q_lt] at z; rw [q_le]; omega))]
theorem q_maxI (a b : Int64) : (sp_X8_most a b).toInt = max a.toInt b.toInt := by
  unfold sp_X8_most
  by_cases h : a ≤ b
  · rw [if_pos h]; rw [q_le] at h; omega
  · rw [if_neg h]; rw [q_le] at h; omega
theorem q_minI (a b : Int64) : (sp_X8_least a b).toInt = min a.toInt b.toInt := by
  unfold sp_X8_least
  by_cases h : b ≤ a
  · rw [if_pos h]; rw [q_le] at h; omega
  · rw [if_neg h]; rw [q_le] at h; omega

theorem q_negdiv {a b : Int64} (ha : -9223372036854775808 < a.toInt) (hb : b.toInt ≠ 0) : ((-a) / b).toInt = -((a / b).toInt) ∧ -9223372036854775808 < (a / b).toInt := by
  have hr := q_rng a
  have hn := q_negI ha
  have key : ∀ x : Int, -9223372036854775808 < x → x ≤ 9223372036854775807 → (x.tdiv b.toInt).bmod (2 ^ 64) = x.tdiv b.toInt ∧ (x.tdiv b.toInt).natAbs ≤ x.natAbs := by
    intro x h1 h2
    have h3 : (x.tdiv b.toInt).natAbs ≤ x.natAbs := by
      rw [Int.natAbs_tdiv]
      exact Nat.div_le_self _ _
    exact ⟨by apply Int.bmod_eq_of_le <;> omega, h3⟩
  obtain ⟨k1, k2⟩ := key a.toInt ha hr.2
  obtain ⟨k3, k4⟩ := key (-a.toInt) (by omega) (by omega)
  rw [Int64.toInt_div, Int64.toInt_div, hn, k1, k3, Int.neg_tdiv]
  exact ⟨rfl, by omega⟩
theorem q_fillG {a b : Int64} (ha : -9223372036854775808 < a.toInt) (hb : ¬ b = 0) : sp_X7_fill a b = sp_X8_fill a b := by
  have hb1 : b.toInt ≠ 0 := fun z => hb (q_inj z)
  obtain ⟨h1, h2⟩ := q_negdiv ha hb1
  have hd : (-a) / b = -(a / b) := q_inj (by rw [h1, q_negI h2])
  have hn := q_negI ha
  have hr := q_rng a
  unfold sp_X7_fill
  rw [if_neg hb, q_fd]
  unfold sp_X8_cut sp_X8_fill
  rw [hd]
  have he : (-(a / b) * b = -a) ↔ (a / b * b = a) := by
    rw [Int64.neg_mul]
    constructor
    · intro h
      have := congrArg (fun z => -z) h
      simpa using this
    · intro h
      rw [h]
  by_cases c : a / b * b = a
  · rw [if_pos c, if_pos (he.mpr c), Int64.neg_neg]
  · rw [if_neg c, if_neg (fun z => c (he.mp z))]
    have ha0 : a.toInt ≠ 0 := fun z => by
      have : a = 0 := q_inj z
      subst this
      exact c (by rw [Int64.zero_div, Int64.zero_mul])
    by_cases c2 : (0 : Int64) ≤ a
    · have c3 : ¬ (0 : Int64) ≤ -a := by
        rw [q_le] at c2 ⊢
        rw [hn]
        have : (0 : Int) ≤ a.toInt := c2
        show ¬ (0 : Int) ≤ _
        omega
      rw [if_pos c2, if_neg c3]
      by_cases c4 : (0 : Int64) ≤ b
      · rw [if_pos c4, if_pos c4, Int64.neg_sub, Int64.sub_neg]
        rw [Int64.add_comm]
      · rw [if_neg c4, if_neg c4, Int64.neg_neg]
    · have c3 : (0 : Int64) ≤ -a := by
        rw [q_le] at c2 ⊢
        rw [hn]
        have : ¬ (0 : Int) ≤ a.toInt := c2
        show (0 : Int) ≤ _
        omega
      rw [if_neg c2, if_pos c3]
      by_cases c4 : (0 : Int64) ≤ b
      · rw [if_pos c4, if_pos c4, Int64.neg_neg]
      · rw [if_neg c4, if_neg c4, Int64.neg_sub, Int64.sub_neg, Int64.add_comm]
theorem q_shl (x : Int64) (i : Int32) : jshl x i = x * jshl 1 i := by
  unfold jshl
  apply Int64.toBitVec_inj.mp
  rw [Int64.toBitVec_shiftLeft, Int64.toBitVec_mul, Int64.toBitVec_shiftLeft]
  generalize ((i.toInt64 &&& 63).toBitVec.smod 64) = k
  rw [BitVec.shiftLeft_eq', BitVec.shiftLeft_eq', BitVec.shiftLeft_eq_mul_twoPow, BitVec.shiftLeft_eq_mul_twoPow]
  rw [show Int64.toBitVec 1 = 1#64 from rfl, BitVec.one_mul]
theorem q_U {p : Nat} (h : p < 25) : (jshl 1 (nI p)).toInt = 2 ^ p := by
  have h2 : ∀ p : Fin 25, (jshl 1 (nI p.val)).toInt = 2 ^ p.val := by decide
  exact h2 ⟨p, h⟩
theorem q_U62 {p : Nat} (h : p < 62) : (jshl 1 (nI p)).toInt = 2 ^ p := by
  have h2 : ∀ p : Fin 62, (jshl 1 (nI p.val)).toInt = 2 ^ p.val := by decide
  exact h2 ⟨p, h⟩
theorem q_Upos {p : Nat} (h : p < 25) : 1 ≤ (2 : Int) ^ p ∧ (2 : Int) ^ p ≤ 16777216 := by
  have h2 : ∀ p : Fin 25, 1 ≤ (2 : Int) ^ p.val ∧ (2 : Int) ^ p.val ≤ 16777216 := by decide
  exact h2 ⟨p, h⟩
theorem q_sub {p f : Nat} (h : p < 25) (hf : f ≤ p) : nI p - nI f = nI (p - f) := by
  have h2 : ∀ p : Fin 25, ∀ f : Fin 25, f.val ≤ p.val → nI p.val - nI f.val = nI (p.val - f.val) := by decide
  exact h2 ⟨p, h⟩ ⟨f, by omega⟩ hf
theorem q_2p {p : Nat} (h : p < 25) : (2 : Int32) * nI p = nI (2 * p) := by
  have h2 : ∀ p : Fin 25, (2 : Int32) * nI p.val = nI (2 * p.val) := by decide
  exact h2 ⟨p, h⟩
theorem q_64 {p : Nat} (h : p < 25) : 64 * sp_X7_unitsAt (nI p) = jshl 64 (nI p) := (q_shl 64 (nI p)).symm
theorem q_shr63 (a : Int64) : jshr a 63 = if a < 0 then -1 else 0 := by
  have hr1 := Int64.le_toInt a
  have hr2 := Int64.toInt_lt a
  have h1 : (jshr a 63).toInt = a.toInt / 2 ^ 63 := by
    unfold jshr
    show (a >>> _).toBitVec.toInt = _
    rw [Int64.toBitVec_shiftRight]
    have e : ((Int32.toInt64 63 &&& 63).toBitVec.smod 64) = 63#64 := by decide
    rw [e, BitVec.sshiftRight_eq', BitVec.toInt_sshiftRight, Int.shiftRight_eq_div_pow]
    rfl
  apply Int64.toInt_inj.mp
  rw [h1]
  by_cases h : a < 0
  · rw [if_pos h]
    rw [Int64.lt_iff_toInt_lt] at h
    have h3 : a.toInt < 0 := h
    show _ = (-1 : Int)
    omega
  · rw [if_neg h]
    rw [Int64.lt_iff_toInt_lt] at h
    have h3 : ¬ a.toInt < 0 := h
    show _ = (0 : Int)
    omega
theorem q_ushr63 (a : Int64) : jushr a 63 = if a < 0 then 1 else 0 := by
  have hr1 := Int64.le_toInt a
  have hr2 := Int64.toInt_lt a
  have h1 : (a.toUInt64 >>> (Int32.toInt64 63).toUInt64 &&& Int64.toUInt64 63) = a.toUInt64 >>> (Int32.toInt64 63).toUInt64 &&& Int64.toUInt64 63 := rfl
  have h2 : (a.toUInt64 >>> ((Int32.toInt64 63).toUInt64 &&& Int64.toUInt64 63)).toNat = a.toUInt64.toNat / 2 ^ 63 := by
    have e : ((Int32.toInt64 63).toUInt64 &&& Int64.toUInt64 63) = 63 := by decide
    rw [e, UInt64.toNat_shiftRight, Nat.shiftRight_eq_div_pow]
    rfl
  have hn : a.toUInt64.toNat = a.toBitVec.toNat := rfl
  have hi : a.toInt = if 2 * a.toBitVec.toNat < 2 ^ 64 then (a.toBitVec.toNat : Int) else (a.toBitVec.toNat : Int) - 2 ^ 64 := by
    show a.toBitVec.toInt = _
    rw [BitVec.toInt_eq_toNat_cond]
    rfl
  have hl : a.toBitVec.toNat < 2 ^ 64 := a.toBitVec.isLt
  by_cases h : a < 0
  · rw [if_pos h]
    rw [Int64.lt_iff_toInt_lt] at h
    have h3 : a.toInt < 0 := h
    have h4 : a.toUInt64.toNat / 2 ^ 63 = 1 := by
      rw [hn]
      split at hi <;> omega
    have h5 : a.toUInt64 >>> ((Int32.toInt64 63).toUInt64 &&& Int64.toUInt64 63) = 1 := UInt64.toNat_inj.mp (by rw [h2, h4]; rfl)
    unfold jushr
    rw [h5]
    rfl
  · rw [if_neg h]
    rw [Int64.lt_iff_toInt_lt] at h
    have h3 : ¬ a.toInt < 0 := h
    have h4 : a.toUInt64.toNat / 2 ^ 63 = 0 := by
      rw [hn]
      split at hi <;> omega
    have h5 : a.toUInt64 >>> ((Int32.toInt64 63).toUInt64 &&& Int64.toUInt64 63) = 0 := UInt64.toNat_inj.mp (by rw [h2, h4]; rfl)
    unfold jushr
    rw [h5]
    rfl
theorem q_sgn (a : Int64) : sp_J13_signum_95d88 a = if a < 0 then -1 else if a = 0 then 0 else 1 := by
  unfold sp_J13_signum_95d88
  rw [q_shr63, q_ushr63]
  by_cases h : a < 0
  · rw [if_pos h, if_pos h]
    split <;> decide
  · rw [if_neg h, if_neg h]
    by_cases h0 : a = 0
    · subst h0
      decide
    · rw [if_neg h0, if_pos (by
        rw [Int64.lt_iff_toInt_lt] at h ⊢
        have h3 : ¬ a.toInt < 0 := h
        have h4 : a.toInt ≠ 0 := fun z => h0 (Int64.toInt_inj.mp z)
        have hr2 := Int64.toInt_lt a
        rw [Int64.toInt_neg]
        show Int.bmod (-a.toInt) (2 ^ 64) < 0
        rw [Int.bmod_eq_of_le (by omega) (by omega)]
        omega)]
      decide
theorem q_sgn8 (a : Int64) : sp_X8_sign a = if a < 0 then -1 else if a = 0 then 0 else 1 := by
  unfold sp_X8_sign
  by_cases h : a < 0
  · have h1 : a ≤ 0 := by rw [Int64.lt_iff_toInt_lt] at h; rw [Int64.le_iff_toInt_le]; omega
    have h2 : ¬ 0 ≤ a := by rw [Int64.lt_iff_toInt_lt] at h; rw [Int64.le_iff_toInt_le]; omega
    rw [if_pos h, if_pos h1, if_neg h2]
  · rw [if_neg h]
    by_cases h0 : a = 0
    · subst h0
      rfl
    · have h1 : ¬ a ≤ 0 := fun z => h0 (Int64.toInt_inj.mp (by rw [Int64.lt_iff_toInt_lt] at h; rw [Int64.le_iff_toInt_le] at z; omega))
      rw [if_neg h0, if_neg h1]
theorem q_nat {x : Int64} {k : Nat} (h : x.toInt = (k : Int)) : x.toBitVec.toNat = k := by
  have hi : x.toInt = if 2 * x.toBitVec.toNat < 2 ^ 64 then (x.toBitVec.toNat : Int) else (x.toBitVec.toNat : Int) - 2 ^ 64 := by
    show x.toBitVec.toInt = _
    rw [BitVec.toInt_eq_toNat_cond]
    rfl
  have hl : x.toBitVec.toNat < 2 ^ 64 := x.toBitVec.isLt
  split at hi <;> omega
theorem q_or {x : Int64} {n m : Nat} (hn : n < 31) (hx : x.toInt = ((2 ^ (n + 1) * m : Nat) : Int)) (hlt : x.toInt < 4294967296) : x ||| jshl 1 (nI n) = x + jshl 1 (nI n) := by
  have hu := q_U62 (p := n) (by omega)
  have hu2 : (jshl 1 (nI n)).toInt = ((2 ^ n : Nat) : Int) := by rw [hu]; exact (Int.natCast_pow 2 n).symm
  have hp : 2 ^ n < 2 ^ 31 := Nat.pow_lt_pow_right (by decide) hn
  have h1 := q_nat hx
  have h2 := q_nat hu2
  apply Int64.toBitVec_inj.mp
  apply BitVec.eq_of_toNat_eq
  rw [Int64.toBitVec_or, Int64.toBitVec_add, BitVec.toNat_or, BitVec.toNat_add, h1, h2]
  rw [← Nat.two_pow_add_eq_or_of_lt (Nat.pow_lt_pow_right (by decide) (by omega)) m, Nat.mod_eq_of_lt]
  have : (2 ^ (n + 1) * m : Nat) < 4294967296 := by omega
  omega
theorem q_rt (v : Int64) : ∀ (n : Nat) (r : Int64) (m : Nat), n ≤ 31 → r.toInt = ((2 ^ n * m : Nat) : Int) → r.toInt + 2 ^ n ≤ 2147483648 → rtF n v r = rtG n v r
  | 0, _, _, _, _, _ => rfl
  | n + 1, r, m, hn, hr, hb => by
    have hu := q_U62 (p := n) (by omega)
    have hpow : (2 : Int) ^ (n + 1) = 2 * 2 ^ n := by rw [Int.pow_succ, Int.mul_comm]
    have hpp : (0 : Int) < 2 ^ n := Int.pow_pos (by decide)
    have ho := q_or (x := r) (n := n) (m := m) (by omega) hr (by omega)
    show rtF n v _ = rtG n v _
    rw [nI_pred, ho]
    have hadd : (r + jshl 1 (nI n)).toInt = r.toInt + 2 ^ n := by
      rw [q_addI, hu]
      · rw [hu]; omega
      · rw [hu]; omega
    split
    · exact q_rt v n r (2 * m) (by omega) (by rw [hr, show 2 ^ (n + 1) * m = 2 ^ n * (2 * m) by rw [Nat.pow_succ, Nat.mul_assoc]]) (by omega)
    · exact q_rt v n _ (2 * m + 1) (by omega) (by rw [hadd, hr, Nat.mul_add, Nat.pow_succ, Nat.mul_assoc]; push_cast; omega) (by omega)
theorem q_root (v : Int64) : rtF 31 v 0 = rtG 31 v 0 := q_rt v 31 0 0 (by omega) (by decide) (by decide)
/-- what a root is -/
theorem q_rtI (v : Int64) (hv : 0 ≤ v.toInt) : ∀ (n : Nat) (r : Int64), n ≤ 31 → 0 ≤ r.toInt → r.toInt + 2 ^ n ≤ 2147483648 → r.toInt * r.toInt ≤ v.toInt → v.toInt < (r.toInt + 2 ^ n) * (r.toInt + 2 ^ n) →
    0 ≤ (rtF n v r).toInt ∧ (rtF n v r).toInt < 2147483648 ∧ (rtF n v r).toInt * (rtF n v r).toInt ≤ v.toInt ∧ v.toInt < ((rtF n v r).toInt + 1) * ((rtF n v r).toInt + 1)
  | 0, r, _, h0, hb, h1, h2 => ⟨h0, by have h3 : r.toInt + 1 ≤ 2147483648 := hb; show r.toInt < 2147483648; omega, h1, h2⟩
  | n + 1, r, hn, h0, hb, h1, h2 => by
    have hu := q_U62 (p := n) (by omega)
    have hpow : (2 : Int) ^ (n + 1) = 2 * 2 ^ n := by rw [Int.pow_succ, Int.mul_comm]
    have hpp : (0 : Int) < 2 ^ n := Int.pow_pos (by decide)
    have hadd : (r + jshl 1 (nI n)).toInt = r.toInt + 2 ^ n := by
      rw [q_addI, hu]
      · rw [hu]; omega
      · rw [hu]; omega
    have hsq0 : 0 ≤ (r.toInt + 2 ^ n) * (r.toInt + 2 ^ n) := Int.mul_nonneg (by omega) (by omega)
    have hsq1 : (r.toInt + 2 ^ n) * (r.toInt + 2 ^ n) ≤ 2147483648 * 2147483648 := Int.mul_le_mul (by omega) (by omega) (by omega) (by omega)
    have hmul : ((r + jshl 1 (nI n)) * (r + jshl 1 (nI n))).toInt = (r.toInt + 2 ^ n) * (r.toInt + 2 ^ n) := by
      rw [q_mulI, hadd]
      · rw [hadd]; omega
      · rw [hadd]; omega
    show 0 ≤ (rtF n v _).toInt ∧ _
    rw [show rtF (n + 1) v r = rtF n v (if v < (r + jshl 1 (nI n)) * (r + jshl 1 (nI n)) then r else r + jshl 1 (nI n)) by show rtF n v _ = _; rw [nI_pred]]
    by_cases c : v < (r + jshl 1 (nI n)) * (r + jshl 1 (nI n))
    · rw [nI_pred, if_pos c]
      rw [Int64.lt_iff_toInt_lt, hmul] at c
      exact q_rtI v hv n r (by omega) h0 (by omega) h1 c
    · rw [nI_pred, if_neg c]
      rw [Int64.lt_iff_toInt_lt, hmul] at c
      exact q_rtI v hv n _ (by omega) (by omega) (by omega) (by rw [hadd]; omega) (by rw [hadd, show r.toInt + 2 ^ n + 2 ^ n = r.toInt + 2 ^ (n + 1) by omega]; exact h2)

def Bd (p : Nat) (l r : Int64) : Prop := -(64 * 2 ^ p) ≤ l.toInt ∧ l.toInt ≤ r.toInt ∧ r.toInt ≤ 64 * 2 ^ p
theorem q_B {p : Nat} (hp : p < 25) : (jshl 64 (nI p)).toInt = 64 * 2 ^ p := by
  have h2 : ∀ p : Fin 25, (jshl 64 (nI p.val)).toInt = 64 * 2 ^ p.val := by decide
  exact h2 ⟨p, hp⟩
def mIs (lo hi : Int64) (p : Nat) : Bool := if lo < (-(jshl 64 (nI p))) then false else if (jshl 64 (nI p)) < hi then false else if (jshl 64 (nI p)) < lo then false else if hi < (-(jshl 64 (nI p))) then false else true
theorem q_drop {lo hi : Int64} {p : Nat} (hp : p < 25) (hle : lo.toInt ≤ hi.toInt) : sp_X2_dropBeyondReach_b0 true lo hi (nI p) = mIs lo hi p ∧ (mIs lo hi p = true → sp_X2_dropBeyondReach_lo true lo hi (nI p) = lo ∧ sp_X2_dropBeyondReach_hi true lo hi (nI p) = hi ∧ Bd p lo hi) := by
  have hB := q_B hp
  have hU := q_Upos hp
  have hN : (-(jshl 64 (nI p))).toInt = -(64 * 2 ^ p) := by rw [q_negI (by rw [hB]; omega), hB]
  unfold sp_X2_dropBeyondReach_b0 sp_X2_dropBeyondReach_lo sp_X2_dropBeyondReach_hi mIs
  rw [q_64 hp]
  by_cases c1 : lo < -(jshl 64 (nI p))
  · rw [if_pos c1, if_pos c1]
    exact ⟨rfl, fun z => absurd z (by decide)⟩
  · rw [if_neg c1, if_neg c1, if_neg c1, if_neg c1]
    rw [q_lt, hN] at c1
    by_cases c2 : hi ≤ jshl 64 (nI p)
    · have c2' := c2
      rw [q_le, hB] at c2'
      rw [if_pos c2, if_pos c2, if_pos c2, if_neg (by rw [q_lt, hB]; omega), if_neg (by rw [q_lt, hB]; omega), if_neg (by rw [q_lt, hN]; omega)]
      exact ⟨rfl, fun _ => ⟨rfl, rfl, by omega, hle, c2'⟩⟩
    · have c2' := c2
      rw [q_le, hB] at c2'
      rw [if_neg c2, if_pos (by rw [q_lt, hB]; omega)]
      exact ⟨rfl, fun z => absurd z (by decide)⟩

theorem q_ce {m M U : Int} (hU : 0 < U) (h : m ≤ M) : m / U ≤ -(-M / U) := by
  have h1 := Int.ediv_le_ediv hU h
  have h2 := Int.ediv_mul_le M (Int.ne_of_gt hU)
  have h3 := Int.ediv_mul_le (-M) (Int.ne_of_gt hU)
  have h4 : (M / U + -M / U) * U ≤ 0 := by rw [Int.add_mul]; omega
  have h5 : M / U + -M / U ≤ 0 := by
    apply Int.not_lt.mp
    intro z
    have := Int.mul_pos z hU
    omega
  omega
theorem q_absmul {x y X Y : Int} (hx : -X ≤ x ∧ x ≤ X) (hy : -Y ≤ y ∧ y ≤ Y) : -(X * Y) ≤ x * y ∧ x * y ≤ X * Y := by
  have hX : 0 ≤ X := by omega
  have hY : 0 ≤ Y := by omega
  have h : (x * y).natAbs ≤ X.natAbs * Y.natAbs := by
    rw [Int.natAbs_mul]
    exact Nat.mul_le_mul (by omega) (by omega)
  have h2 : (X * Y).natAbs = X.natAbs * Y.natAbs := Int.natAbs_mul X Y
  have h3 := Int.mul_nonneg hX hY
  omega
theorem q_mulc {a b a2 b2 : Int64} {p : Nat} (hp : p < 25) {X Y : Int} (ha : -X ≤ a.toInt ∧ a.toInt ≤ X) (hb : -X ≤ b.toInt ∧ b.toInt ≤ X) (ha2 : -Y ≤ a2.toInt ∧ a2.toInt ≤ Y) (hb2 : -Y ≤ b2.toInt ∧ b2.toInt ≤ Y) (hXY : X * Y ≤ 4611686018427387904) :
    sp_X2_multiply_lo a b a2 b2 (nI p) = sp_X8_multiplies_lo_ a b a2 b2 (nI p) ∧ sp_X2_multiply_hi a b a2 b2 (nI p) = sp_X8_multiplies_hi_ a b a2 b2 (nI p) ∧
    (sp_X8_multiplies_lo_ a b a2 b2 (nI p)).toInt ≤ (sp_X8_multiplies_hi_ a b a2 b2 (nI p)).toInt ∧ -(X * Y) / 2 ^ p ≤ (sp_X8_multiplies_lo_ a b a2 b2 (nI p)).toInt ∧ (sp_X8_multiplies_hi_ a b a2 b2 (nI p)).toInt ≤ -(-(X * Y) / 2 ^ p) := by
  have k1 := q_absmul ha ha2
  have k2 := q_absmul ha hb2
  have k3 := q_absmul hb ha2
  have k4 := q_absmul hb hb2
  have m1 : (a * a2).toInt = a.toInt * a2.toInt := q_mulI (by omega) (by omega)
  have m2 : (a * b2).toInt = a.toInt * b2.toInt := q_mulI (by omega) (by omega)
  have m3 : (b * a2).toInt = b.toInt * a2.toInt := q_mulI (by omega) (by omega)
  have m4 : (b * b2).toInt = b.toInt * b2.toInt := q_mulI (by omega) (by omega)
  have hU := q_U hp
  have hUp := (q_Upos hp).1
  have hU0 : 0 < (jshl 1 (nI p)).toInt := by rw [hU]; omega
  have hUne : ¬ jshl 1 (nI p) = 0 := fun z => by rw [z] at hU0; exact absurd hU0 (by decide)
  have hmin : (sp_X8_least (sp_X8_least (a * a2) (a * b2)) (sp_X8_least (b * a2) (b * b2))).toInt = min (min (a.toInt * a2.toInt) (a.toInt * b2.toInt)) (min (b.toInt * a2.toInt) (b.toInt * b2.toInt)) := by
    rw [q_minI, q_minI, q_minI, m1, m2, m3, m4]
  have hmax : (sp_X8_most (sp_X8_most (a * a2) (a * b2)) (sp_X8_most (b * a2) (b * b2))).toInt = max (max (a.toInt * a2.toInt) (a.toInt * b2.toInt)) (max (b.toInt * a2.toInt) (b.toInt * b2.toInt)) := by
    rw [q_maxI, q_maxI, q_maxI, m1, m2, m3, m4]
  refine ⟨?_, ?_, ?_, ?_, ?_⟩
  · unfold sp_X2_multiply_lo sp_X8_multiplies_lo_ sp_X7_unitsAt
    rw [q_min, q_min, q_min, q_cut hUne]
  · unfold sp_X2_multiply_hi sp_X8_multiplies_hi_ sp_X7_unitsAt
    rw [q_max, q_max, q_max, q_fillG (by rw [hmax]; omega) hUne]
  · unfold sp_X8_multiplies_lo_ sp_X8_multiplies_hi_
    rw [q_cutI hU0, q_fill8I hU0 (by rw [hmax]; omega), hmin, hmax, hU]
    exact q_ce (by omega) (by omega)
  · unfold sp_X8_multiplies_lo_
    rw [q_cutI hU0, hmin, hU]
    exact Int.ediv_le_ediv (by omega) (by omega)
  · unfold sp_X8_multiplies_hi_
    rw [q_fill8I hU0 (by rw [hmax]; omega), hmax, hU]
    have := Int.ediv_le_ediv (a := -(X * Y)) (b := -max (max (a.toInt * a2.toInt) (a.toInt * b2.toInt)) (max (b.toInt * a2.toInt) (b.toInt * b2.toInt))) (c := 2 ^ p) (by omega) (by omega)
    omega

theorem q_nn {a b : Int64} (ha : -9223372036854775808 < a.toInt) (hb : -9223372036854775808 < b.toInt) (h0 : ¬ b = 0) : sp_X8_cut a b = sp_X8_cut (-a) (-b) ∧ sp_X8_fill a b = sp_X8_fill (-a) (-b) := by
  have hna := q_negI ha
  have hnb := q_negI hb
  have hd : (-a) / (-b) = a / b := q_inj (by rw [Int64.toInt_div, Int64.toInt_div, hna, hnb, Int.neg_tdiv, Int.tdiv_neg, Int.neg_neg])
  have he : (a / b * -b = -a) ↔ (a / b * b = a) := by
    rw [Int64.mul_neg]
    constructor
    · intro h
      have := congrArg (fun z => -z) h
      simpa using this
    · intro h
      rw [h]
  unfold sp_X8_cut sp_X8_fill
  rw [hd]
  by_cases c : a / b * b = a
  · rw [if_pos c, if_pos (he.mpr c), if_pos c, if_pos (he.mpr c)]
    exact ⟨rfl, rfl⟩
  · rw [if_neg c, if_neg (fun z => c (he.mp z)), if_neg c, if_neg (fun z => c (he.mp z))]
    have ha0 : a.toInt ≠ 0 := fun z => by
      have : a = 0 := q_inj z
      subst this
      exact c (by rw [Int64.zero_div, Int64.zero_mul])
    have hb0 : b.toInt ≠ 0 := fun z => h0 (q_inj z)
    have e0 : (0 : Int64).toInt = 0 := rfl
    by_cases c2 : (0 : Int64) ≤ a <;> by_cases c3 : (0 : Int64) ≤ b
    · have c4 : ¬ (0 : Int64) ≤ -a := by rw [q_le, e0] at *; omega
      have c5 : ¬ (0 : Int64) ≤ -b := by rw [q_le, e0] at *; omega
      simp only [if_pos c2, if_pos c3, if_neg c4, if_neg c5]
      exact ⟨trivial, trivial⟩
    · have c4 : ¬ (0 : Int64) ≤ -a := by rw [q_le, e0] at *; omega
      have c5 : (0 : Int64) ≤ -b := by rw [q_le, e0] at *; omega
      simp only [if_pos c2, if_neg c3, if_neg c4, if_pos c5]
      exact ⟨trivial, trivial⟩
    · have c4 : (0 : Int64) ≤ -a := by rw [q_le, e0] at *; omega
      have c5 : ¬ (0 : Int64) ≤ -b := by rw [q_le, e0] at *; omega
      simp only [if_neg c2, if_pos c3, if_pos c4, if_neg c5]
      exact ⟨trivial, trivial⟩
    · have c4 : (0 : Int64) ≤ -a := by rw [q_le, e0] at *; omega
      have c5 : (0 : Int64) ≤ -b := by rw [q_le, e0] at *; omega
      simp only [if_neg c2, if_neg c3, if_pos c4, if_pos c5]
      exact ⟨trivial, trivial⟩
theorem q_div_anti {S x y : Int} (hS : 0 ≤ S) (hx : 0 < x) (h : x ≤ y) : S / y ≤ S / x := by
  have hy : 0 < y := by omega
  have h1 := Int.ediv_mul_le S (Int.ne_of_gt hy)
  have h2 : 0 ≤ S / y := Int.ediv_nonneg hS (Int.le_of_lt hy)
  have h3 : S / y * x ≤ S / y * y := Int.mul_le_mul_of_nonneg_left h h2
  exact (Int.le_ediv_iff_mul_le hx).mpr (by omega)
theorem q_invert {a b : Int64} {p : Nat} (hp : p < 25) (hB : Bd p a b) (x z : Int64) : sp_X2_invert_b0 a b (nI p) = sp_X8_inverts_is_ a b ∧ (sp_X8_inverts_is_ a b = true → sp_X2_invert_lo a b (nI p) = sp_X8_inverts_lo_ x a b (nI p) ∧ sp_X2_invert_hi a b (nI p) = sp_X8_inverts_hi_ z a b (nI p) ∧ (sp_X8_inverts_lo_ x a b (nI p)).toInt ≤ (sp_X8_inverts_hi_ z a b (nI p)).toInt) := by
  obtain ⟨h1, h2, h3⟩ := hB
  have hUp := q_Upos hp
  have e0 : (0 : Int64).toInt = 0 := rfl
  have hS : (jshl 1 (2 * nI p)).toInt = 2 ^ (2 * p) := by rw [q_2p hp, q_U62 (by omega)]
  have hS2 : (1 : Int) ≤ 2 ^ (2 * p) ∧ (2 : Int) ^ (2 * p) ≤ 281474976710656 := by
    have h2 : ∀ p : Fin 25, (1 : Int) ≤ 2 ^ (2 * p.val) ∧ (2 : Int) ^ (2 * p.val) ≤ 281474976710656 := by decide
    exact h2 ⟨p, hp⟩
  unfold sp_X2_invert_b0 sp_X8_inverts_is_ sp_X2_invert_lo sp_X2_invert_hi sp_X8_inverts_lo_ sp_X8_inverts_hi_ sp_X7_unitsAt
  by_cases c1 : (0 : Int64) < a
  · simp only [if_pos c1]
    rw [q_lt, e0] at c1
    have hb : 0 < b.toInt := by omega
    refine ⟨trivial, fun _ => ⟨q_cut (fun z => by rw [z, e0] at hb; omega), q_fillG (by rw [hS]; omega) (fun z => by rw [z, e0] at c1; omega), ?_⟩⟩
    rw [q_cutI hb, q_fill8I c1 (by rw [hS]; omega), hS]
    have k1 := q_div_anti (S := 2 ^ (2 * p)) (by omega) c1 h2
    have k2 := q_ce (m := 2 ^ (2 * p)) (M := 2 ^ (2 * p)) c1 (by omega)
    omega
  · simp only [if_neg c1]
    rw [q_lt, e0] at c1
    by_cases c2 : b < 0
    · have c3 : ¬ (0 : Int64) ≤ b := by rw [q_le, e0]; rw [q_lt, e0] at c2; omega
      simp only [if_pos c2, if_neg c3]
      rw [q_lt, e0] at c2
      have hbn : ¬ b = 0 := fun z => by rw [z, e0] at c2; omega
      have han : ¬ a = 0 := fun z => by rw [z, e0] at h2; omega
      refine ⟨trivial, fun _ => ⟨q_cut hbn, q_fillG (by rw [hS]; omega) han, ?_⟩⟩
      have nS : (-(jshl 1 (2 * nI p))).toInt = -2 ^ (2 * p) := by rw [q_negI (by rw [hS]; omega), hS]
      have na : (-a).toInt = -a.toInt := q_negI (by omega)
      have nb : (-b).toInt = -b.toInt := q_negI (by omega)
      rw [(q_nn (a := jshl 1 (2 * nI p)) (b := b) (by rw [hS]; omega) (by omega) hbn).1, (q_nn (a := jshl 1 (2 * nI p)) (b := a) (by rw [hS]; omega) (by omega) han).2]
      rw [q_cutI (by rw [nb]; omega), q_fill8I (by rw [na]; omega) (by rw [nS]; omega), nS, na, nb, Int.neg_neg]
      have k1 := q_div_anti (S := 2 ^ (2 * p)) (x := -b.toInt) (y := -a.toInt) (by omega) (by omega) (by omega)
      have k2 := q_ce (m := 2 ^ (2 * p)) (M := 2 ^ (2 * p)) (U := -b.toInt) (by omega) (by omega)
      omega
    · have c3 : (0 : Int64) ≤ b := by rw [q_le, e0]; rw [q_lt, e0] at c2; omega
      simp only [if_neg c2, if_pos c3]
      exact ⟨trivial, fun z => absurd z (by decide)⟩

theorem q_rootv {p : Nat} (hp : p < 25) {l : Int64} (h1 : -(64 * 2 ^ p) ≤ l.toInt) (h2 : l.toInt ≤ 64 * 2 ^ p) : jmax l 0 * sp_X7_unitsAt (nI p) = jshl (sp_X8_most l 0) (nI p) ∧ (jshl (sp_X8_most l 0) (nI p)).toInt = max l.toInt 0 * 2 ^ p ∧ 0 ≤ max l.toInt 0 * 2 ^ p ∧ max l.toInt 0 * 2 ^ p ≤ 18014398509481984 := by
  have hU := q_U hp
  have hUp := q_Upos hp
  have hm : (sp_X8_most l 0).toInt = max l.toInt 0 := q_maxI l 0
  have k0 : 0 ≤ max l.toInt 0 * 2 ^ p := Int.mul_nonneg (by omega) (by omega)
  have k1 : max l.toInt 0 * 2 ^ p ≤ 1073741824 * 16777216 := Int.mul_le_mul (by omega) (by omega) (by omega) (by omega)
  refine ⟨?_, ?_, k0, by omega⟩
  · rw [q_max, q_shl (sp_X8_most l 0)]
    rfl
  · rw [q_shl, q_mulI, hm, hU]
    · rw [hm, hU]; omega
    · rw [hm, hU]; omega
theorem q_roots {a b : Int64} {p : Nat} (hp : p < 25) (hB : Bd p a b) : rtF 31 (jmax a 0 * sp_X7_unitsAt (nI p)) 0 = rtG 31 (jshl (sp_X8_most a 0) (nI p)) 0 ∧ sp_X7_fillRoot (jmax b 0 * sp_X7_unitsAt (nI p)) = sp_X8_roots_hi_ b (nI p) ∧ (rtG 31 (jshl (sp_X8_most a 0) (nI p)) 0).toInt ≤ (sp_X8_roots_hi_ b (nI p)).toInt := by
  obtain ⟨h1, h2, h3⟩ := hB
  have hUp := q_Upos hp
  obtain ⟨a1, a2, a3, a4⟩ := q_rootv hp (l := a) h1 (by omega)
  obtain ⟨b1, b2, b3, b4⟩ := q_rootv hp (l := b) (by omega) h3
  have e0 : (0 : Int64).toInt = 0 := rfl
  obtain ⟨ra1, ra2, ra3, ra4⟩ := q_rtI (jshl (sp_X8_most a 0) (nI p)) (by omega) 31 0 (by omega) (by decide) (by decide) (by rw [e0]; omega) (by rw [e0]; omega)
  obtain ⟨rb1, rb2, rb3, rb4⟩ := q_rtI (jshl (sp_X8_most b 0) (nI p)) (by omega) 31 0 (by omega) (by decide) (by decide) (by rw [e0]; omega) (by rw [e0]; omega)
  rw [q_root] at ra1 ra2 ra3 ra4 rb1 rb2 rb3 rb4
  refine ⟨by rw [a1, q_root], ?_, ?_⟩
  · unfold sp_X7_fillRoot sp_X8_roots_hi_
    rw [b1, q_root]
  · have hmono : max a.toInt 0 * 2 ^ p ≤ max b.toInt 0 * 2 ^ p := Int.mul_le_mul_of_nonneg_right (by omega) (by omega)
    have hle : (rtG 31 (jshl (sp_X8_most a 0) (nI p)) 0).toInt ≤ (rtG 31 (jshl (sp_X8_most b 0) (nI p)) 0).toInt := by
      apply Int.not_lt.mp
      intro z
      have k1 : ((rtG 31 (jshl (sp_X8_most b 0) (nI p)) 0).toInt + 1) * ((rtG 31 (jshl (sp_X8_most b 0) (nI p)) 0).toInt + 1) ≤ (rtG 31 (jshl (sp_X8_most a 0) (nI p)) 0).toInt * (rtG 31 (jshl (sp_X8_most a 0) (nI p)) 0).toInt := Int.mul_le_mul (by omega) (by omega) (by omega) (by omega)
      omega
    unfold sp_X8_roots_hi_
    split
    · exact hle
    · rw [q_addI (by rw [Int64.toInt_one]; omega) (by rw [Int64.toInt_one]; omega), Int64.toInt_one]
      omega
theorem q_nk {k : Nat} (h : k < 25) : (nI k).toInt64.toInt = k := by
  have h2 : ∀ k : Fin 25, (nI k.val).toInt64.toInt = k.val := by decide
  exact h2 ⟨k, h⟩
theorem q_dk {x Y : Int} {k : Nat} (hk : 1 ≤ k) (h : -Y ≤ x) (hY : 0 ≤ Y) : -Y ≤ x / (k : Int) := by
  rw [Int.le_ediv_iff_mul_le (by omega)]
  have : Y * 1 ≤ Y * (k : Int) := Int.mul_le_mul_of_nonneg_left (by omega) hY
  rw [Int.neg_mul]
  omega
theorem q_exp {a b : Int64} {p : Nat} (hp : p < 25) (ha : -2 ^ p ≤ a.toInt) (hab : a.toInt ≤ b.toInt) (hb : b.toInt ≤ 2 ^ p) : ∀ (n : Nat) (u : Int64 × Int64), n ≤ 12 → u.1.toInt ≤ u.2.toInt → -((13 - (n : Int)) * 2 ^ p) ≤ u.1.toInt → u.2.toInt ≤ (13 - (n : Int)) * 2 ^ p →
    exF a b (nI p) n u = exM a b (nI p) n u ∧ (exM a b (nI p) n u).1.toInt ≤ (exM a b (nI p) n u).2.toInt ∧ -(13 * 2 ^ p) ≤ (exM a b (nI p) n u).1.toInt ∧ (exM a b (nI p) n u).2.toInt ≤ 13 * 2 ^ p
  | 0, u, _, h1, h2, h3 => ⟨rfl, h1, by have : (13 - ((0 : Nat) : Int)) = 13 := rfl; rw [this] at h2; exact h2, by have : (13 - ((0 : Nat) : Int)) = 13 := rfl; rw [this] at h3; exact h3⟩
  | n + 1, u, hn, h1, h2, h3 => by
    have hU := q_U hp
    have hUp := q_Upos hp
    obtain ⟨Y, hY⟩ : ∃ Y : Int, Y = (13 - ((n + 1 : Nat) : Int)) * 2 ^ p := ⟨_, rfl⟩
    rw [← hY] at h2 h3
    have hY2 : (13 - (n : Int)) * 2 ^ p = Y + 2 ^ p := by rw [hY, show (13 - (n : Int)) = (13 - ((n + 1 : Nat) : Int)) + 1 by omega, Int.add_mul, Int.one_mul]
    have hY0 : 0 ≤ Y := by rw [hY]; exact Int.mul_nonneg (by omega) (by omega)
    have hY1 : Y ≤ 13 * 16777216 := by rw [hY]; exact Int.mul_le_mul (by omega) (by omega) (by omega) (by omega)
    have hXY : 2 ^ p * Y ≤ 4611686018427387904 := by
      have : 2 ^ p * Y ≤ 16777216 * (13 * 16777216) := Int.mul_le_mul (by omega) hY1 hY0 (by omega)
      omega
    obtain ⟨m1, m2, m3, m4, m5⟩ := q_mulc (a := a) (b := b) (a2 := u.1) (b2 := u.2) hp (X := 2 ^ p) (Y := Y) ⟨by omega, by omega⟩ ⟨by omega, by omega⟩ ⟨by omega, by omega⟩ ⟨by omega, by omega⟩ hXY
    have d1 : -(2 ^ p * Y) / 2 ^ p = -Y := by
      rw [show -((2 : Int) ^ p * Y) = 2 ^ p * (-Y) by rw [Int.mul_neg]]
      exact Int.mul_ediv_cancel_left (-Y) (by omega)
    rw [d1] at m4 m5
    have hk := q_nk (k := n + 1) (by omega)
    have hk0 : 0 < (nI (n + 1)).toInt64.toInt := by rw [hk]; omega
    have hkn : ¬ (nI (n + 1)).toInt64 = 0 := fun z => by rw [z] at hk0; exact absurd hk0 (by decide)
    have s1 := q_cutI (a := sp_X8_multiplies_lo_ a b u.1 u.2 (nI p)) hk0
    have s2 := q_fill8I (a := sp_X8_multiplies_hi_ a b u.1 u.2 (nI p)) hk0 (by omega)
    rw [hk] at s1 s2
    have t1 := q_dk (x := (sp_X8_multiplies_lo_ a b u.1 u.2 (nI p)).toInt) (Y := Y) (k := n + 1) (by omega) (by omega) hY0
    have t2 := q_dk (x := -(sp_X8_multiplies_hi_ a b u.1 u.2 (nI p)).toInt) (Y := Y) (k := n + 1) (by omega) (by omega) hY0
    have t3 := q_ce (m := (sp_X8_multiplies_lo_ a b u.1 u.2 (nI p)).toInt) (M := (sp_X8_multiplies_hi_ a b u.1 u.2 (nI p)).toInt) (U := ((n + 1 : Nat) : Int)) (by omega) m3
    have v1 : (exT a b (nI p) (n + 1) u).1.toInt = (sp_X8_multiplies_lo_ a b u.1 u.2 (nI p)).toInt / ((n + 1 : Nat) : Int) + 2 ^ p := by
      show (_ + _ : Int64).toInt = _
      rw [q_addI, s1, hU]
      · rw [s1, hU]; omega
      · rw [s1, hU]; omega
    have v2 : (exT a b (nI p) (n + 1) u).2.toInt = -(-(sp_X8_multiplies_hi_ a b u.1 u.2 (nI p)).toInt / ((n + 1 : Nat) : Int)) + 2 ^ p := by
      show (_ + _ : Int64).toInt = _
      rw [q_addI, s2, hU]
      · rw [s2, hU]; omega
      · rw [s2, hU]; omega
    have he : exS a b (nI p) (n + 1) u = exT a b (nI p) (n + 1) u := by
      unfold exS exT sp_X7_unitsAt
      rw [m1, m2, q_cut hkn, q_fillG (by omega) hkn]
    show exF a b (nI p) n (exS a b (nI p) (n + 1) u) = exM a b (nI p) n (exT a b (nI p) (n + 1) u) ∧ (exM a b (nI p) n (exT a b (nI p) (n + 1) u)).1.toInt ≤ (exM a b (nI p) n (exT a b (nI p) (n + 1) u)).2.toInt ∧ -(13 * 2 ^ p) ≤ (exM a b (nI p) n (exT a b (nI p) (n + 1) u)).1.toInt ∧ (exM a b (nI p) n (exT a b (nI p) (n + 1) u)).2.toInt ≤ 13 * 2 ^ p
    rw [he]
    exact q_exp hp ha hab hb n _ (by omega) (by rw [v1, v2]; omega) (by rw [v1, hY2]; omega) (by rw [v2, hY2]; omega)
theorem q_fin {lo hi lo7 hi7 : Int64} {p : Nat} (hp : p < 25) (h1 : lo7 = lo) (h2 : hi7 = hi) (hle : lo.toInt ≤ hi.toInt) : sp_X2_dropBeyondReach_b0 true lo7 hi7 (nI p) = mIs lo hi p ∧ (mIs lo hi p = true → sp_X2_dropBeyondReach_lo true lo7 hi7 (nI p) = lo ∧ sp_X2_dropBeyondReach_hi true lo7 hi7 (nI p) = hi ∧ Bd p lo hi) := by
  subst h1 h2
  exact q_drop hp hle
theorem q_k1 {a b a2 b2 : Int64} {p : Nat} (hp : p < 25) (hA : Bd p a b) (hB : Bd p a2 b2) : sp_X7_combine_1_b1 a b a2 b2 (nI p) = sp_X8_makes_1_is_ p a b a2 b2 ∧ (sp_X8_makes_1_is_ p a b a2 b2 = true → sp_X7_combine_1_l1 a b a2 b2 (nI p) = a + a2 ∧ sp_X7_combine_1_r1 a b a2 b2 (nI p) = b + b2 ∧ Bd p (a + a2) (b + b2)) := by
  have hUp := q_Upos hp
  obtain ⟨h1, h2, h3⟩ := hA
  obtain ⟨g1, g2, g3⟩ := hB
  exact q_fin hp rfl rfl (by rw [q_addI (by omega) (by omega), q_addI (by omega) (by omega)]; omega)
theorem q_k2 {a b a2 b2 : Int64} {p : Nat} (hp : p < 25) (hA : Bd p a b) (hB : Bd p a2 b2) : sp_X7_combine_2_b1 a b a2 b2 (nI p) = sp_X8_makes_2_is_ p a b a2 b2 ∧ (sp_X8_makes_2_is_ p a b a2 b2 = true → sp_X7_combine_2_l1 a b a2 b2 (nI p) = a - b2 ∧ sp_X7_combine_2_r1 a b a2 b2 (nI p) = b - a2 ∧ Bd p (a - b2) (b - a2)) := by
  have hUp := q_Upos hp
  obtain ⟨h1, h2, h3⟩ := hA
  obtain ⟨g1, g2, g3⟩ := hB
  exact q_fin hp rfl rfl (by rw [q_subI (by omega) (by omega), q_subI (by omega) (by omega)]; omega)
theorem q_k3 {a b a2 b2 : Int64} {p : Nat} (hp : p < 25) (hA : Bd p a b) (hB : Bd p a2 b2) : sp_X7_combine_3_b1 a b a2 b2 (nI p) = sp_X8_makes_3_is_ p a b a2 b2 ∧ (sp_X8_makes_3_is_ p a b a2 b2 = true → sp_X7_combine_3_l1 a b a2 b2 (nI p) = sp_X8_multiplies_lo_ a b a2 b2 (nI p) ∧ sp_X7_combine_3_r1 a b a2 b2 (nI p) = sp_X8_multiplies_hi_ a b a2 b2 (nI p) ∧ Bd p (sp_X8_multiplies_lo_ a b a2 b2 (nI p)) (sp_X8_multiplies_hi_ a b a2 b2 (nI p))) := by
  have hUp := q_Upos hp
  obtain ⟨h1, h2, h3⟩ := hA
  obtain ⟨g1, g2, g3⟩ := hB
  obtain ⟨m1, m2, m3, -, -⟩ := q_mulc (a := a) (b := b) (a2 := a2) (b2 := b2) hp (X := 1073741824) (Y := 1073741824) ⟨by omega, by omega⟩ ⟨by omega, by omega⟩ ⟨by omega, by omega⟩ ⟨by omega, by omega⟩ (by decide)
  exact q_fin hp m1 m2 m3
theorem q_k4 {a b a2 b2 : Int64} {p : Nat} (hp : p < 25) (hA : Bd p a b) (hB : Bd p a2 b2) : sp_X7_combine_4_b1 a b a2 b2 (nI p) = sp_X8_makes_4_is_ p a b a2 b2 ∧ (sp_X8_makes_4_is_ p a b a2 b2 = true → sp_X7_combine_4_l1 a b a2 b2 (nI p) = sp_X8_most a a2 ∧ sp_X7_combine_4_r1 a b a2 b2 (nI p) = sp_X8_most b b2 ∧ Bd p (sp_X8_most a a2) (sp_X8_most b b2)) := by
  obtain ⟨h1, h2, h3⟩ := hA
  obtain ⟨g1, g2, g3⟩ := hB
  exact q_fin hp (q_max a a2) (q_max b b2) (by rw [q_maxI, q_maxI]; omega)
theorem q_dropF (lo hi : Int64) (i : Int32) : sp_X2_dropBeyondReach_b0 false lo hi i = false := by
  unfold sp_X2_dropBeyondReach_b0
  split
  · rfl
  · split <;> rfl
theorem q_k5 {a b a2 b2 : Int64} {p : Nat} (hp : p < 25) (hA : Bd p a b) (x z : Int64) : sp_X7_combine_5_b1 a b a2 b2 (nI p) = sp_X8_makes_5_is_ x z p a b ∧ (sp_X8_makes_5_is_ x z p a b = true → sp_X7_combine_5_l1 a b a2 b2 (nI p) = sp_X8_inverts_lo_ x a b (nI p) ∧ sp_X7_combine_5_r1 a b a2 b2 (nI p) = sp_X8_inverts_hi_ z a b (nI p) ∧ Bd p (sp_X8_inverts_lo_ x a b (nI p)) (sp_X8_inverts_hi_ z a b (nI p))) := by
  obtain ⟨e1, e2⟩ := q_invert hp hA x z
  unfold sp_X7_combine_5_b1 sp_X7_combine_5_l1 sp_X7_combine_5_r1 sp_X8_makes_5_is_
  rw [e1]
  by_cases c : sp_X8_inverts_is_ a b = true
  · obtain ⟨m1, m2, m3⟩ := e2 c
    rw [c, if_pos rfl]
    exact q_fin hp m1 m2 m3
  · rw [if_neg c, Bool.eq_false_iff.mpr c, q_dropF]
    exact ⟨rfl, fun w => absurd w (by decide)⟩
theorem q_k6 {a b a2 b2 : Int64} {p : Nat} (hp : p < 25) (hA : Bd p a b) : sp_X7_combine_6_b1 a b a2 b2 (nI p) = sp_X8_makes_6_is_ p a b ∧ (sp_X8_makes_6_is_ p a b = true → sp_X7_combine_6_l1 a b a2 b2 (nI p) = rtG 31 (jshl (sp_X8_most a 0) (nI p)) 0 ∧ sp_X7_combine_6_r1 a b a2 b2 (nI p) = sp_X8_roots_hi_ b (nI p) ∧ Bd p (rtG 31 (jshl (sp_X8_most a 0) (nI p)) 0) (sp_X8_roots_hi_ b (nI p))) := by
  obtain ⟨m1, m2, m3⟩ := q_roots hp hA
  exact q_fin hp m1 m2 m3
theorem q_k7 {a b a2 b2 : Int64} {p : Nat} (hp : p < 25) (hA : Bd p a b) (x z : Int64) : sp_X7_combine_7_b1 a b a2 b2 (nI p) = sp_X8_makes_7_is_ x z p a b ∧ (sp_X8_makes_7_is_ x z p a b = true → sp_X7_combine_7_l1 a b a2 b2 (nI p) = sp_X8_raises_lo_ x a b (nI p) ∧ sp_X7_combine_7_r1 a b a2 b2 (nI p) = sp_X8_raises_hi_ z a b (nI p) ∧ Bd p (sp_X8_raises_lo_ x a b (nI p)) (sp_X8_raises_hi_ z a b (nI p))) := by
  have hUp := q_Upos hp
  have hU := q_U hp
  have hN : (-(jshl 1 (nI p))).toInt = -2 ^ p := by rw [q_negI (by rw [hU]; omega), hU]
  obtain ⟨h1, h2, h3⟩ := hA
  unfold sp_X7_combine_7_b1 sp_X7_combine_7_l1 sp_X7_combine_7_r1 sp_X8_makes_7_is_ sp_X2_takeExp_b0 sp_X2_takeExp_lo sp_X2_takeExp_hi sp_X8_raises_is_ sp_X8_raises_lo_ sp_X8_raises_hi_ sp_X7_unitsAt
  by_cases c1 : a < -(jshl 1 (nI p))
  · simp only [if_pos c1]
    rw [q_dropF]
    exact ⟨rfl, fun w => by simp at w⟩
  · simp only [if_neg c1]
    rw [q_lt, hN] at c1
    by_cases c2 : b ≤ jshl 1 (nI p)
    · have c2' := c2
      rw [q_le, hU] at c2'
      have c3 : ¬ jshl 1 (nI p) < b := by rw [q_lt, hU]; omega
      simp only [if_pos c2, if_neg c3]
      obtain ⟨m1, m2, m3, m4⟩ := q_exp hp (a := a) (b := b) (by omega) h2 c2' 12 (jshl 1 (nI p), jshl 1 (nI p)) (by omega) (Int.le_refl _) (by show _ ≤ (jshl 1 (nI p)).toInt; rw [hU]; omega) (by show (jshl 1 (nI p)).toInt ≤ _; rw [hU]; omega)
      exact q_fin hp (by rw [m1]) (by rw [m1]) (by rw [q_subI (by rw [Int64.toInt_one]; omega) (by rw [Int64.toInt_one]; omega), q_addI (by rw [Int64.toInt_one]; omega) (by rw [Int64.toInt_one]; omega), Int64.toInt_one]; omega)
    · have c2' := c2
      rw [q_le, hU] at c2'
      have c3 : jshl 1 (nI p) < b := by rw [q_lt, hU]; omega
      simp only [if_neg c2, if_pos c3]
      rw [q_dropF]
      exact ⟨rfl, fun w => by simp at w⟩
theorem q_skM_more (f : Int64 → Int64) (s0 : Int64) : ∀ (n j : Nat) (a b : Int64), skI n a b → skM f s0 (n + j) a b = skM f s0 n a b
  | 0, 0, _, _, _ => rfl
  | 0, j + 1, a, b, h => by
    show skM f s0 (0 + j + 1) a b = (a, b)
    rw [skM, if_pos (skI_zero h)]
  | n + 1, j, a, b, h => by
    rw [show n + 1 + j = (n + j) + 1 by omega]
    by_cases c : b - a ≤ 1
    · rw [skM, if_pos c, skM, if_pos c]
    · obtain ⟨h1, h2, h3⟩ := skI_step h c rfl
      rw [skM, if_neg c, skM, if_neg c]
      by_cases c1 : f (a + (b - a) / 2) = 0
      · simp only [if_pos c1]
        exact q_skM_more f s0 n j _ _ h3
      · simp only [if_neg c1]
        by_cases c2 : f (a + (b - a) / 2) = s0
        · simp only [if_pos c2]
          exact q_skM_more f s0 n j _ _ h2
        · simp only [if_neg c2]
          exact q_skM_more f s0 n j _ _ h1
theorem q_skX (f : Int64 → Int64) (g : Int64 → Int32) (s0 : Int64) (sl : Int32) (hz : ∀ x, (g x = 0) ↔ (f x = 0)) (hs : ∀ x, (g x = sl) ↔ (f x = s0)) (h0 : s0 ≠ 0) : ∀ (n : Nat) (a b : Int64), skX g sl n a b = skM f s0 n a b
  | 0, _, _ => rfl
  | n + 1, a, b => by
    rw [skX, skM]
    by_cases c : b - a ≤ 1
    · rw [if_pos c, if_pos c]
    · rw [if_neg c, if_neg c]
      by_cases c1 : f (a + (b - a) / 2) = 0
      · have d1 := (hz _).mpr c1
        have d2 : ¬ f (a + (b - a) / 2) = s0 := fun z => h0 (z.symm.trans c1)
        have d3 : ¬ g (a + (b - a) / 2) = sl := fun z => d2 ((hs _).mp z)
        rw [if_pos d1, if_neg d3, if_pos c1, if_pos c1]
        exact q_skX f g s0 sl hz hs h0 n _ _
      · have d1 : ¬ g (a + (b - a) / 2) = 0 := fun z => c1 ((hz _).mp z)
        rw [if_neg d1, if_neg c1, if_neg c1]
        by_cases c2 : f (a + (b - a) / 2) = s0
        · have d2 := (hs _).mpr c2
          rw [if_pos d2, if_pos d2, if_pos c2, if_pos c2]
          exact q_skX f g s0 sl hz hs h0 n _ _
        · have d2 : ¬ g (a + (b - a) / 2) = sl := fun z => c2 ((hs _).mp z)
          rw [if_neg d2, if_neg d2, if_neg c2, if_neg c2]
          exact q_skX f g s0 sl hz hs h0 n _ _
theorem q_skO (f : Int64 → Int64) (s0 : Int64) : ∀ (n : Nat) (a b : Int64), skI n a b → a.toInt ≤ (skM f s0 n a b).1.toInt ∧ (skM f s0 n a b).1.toInt ≤ (skM f s0 n a b).2.toInt ∧ (skM f s0 n a b).2.toInt ≤ b.toInt
  | 0, a, b, h => ⟨Int.le_refl _, h.2.1, Int.le_refl _⟩
  | n + 1, a, b, h => by
    by_cases c : b - a ≤ 1
    · rw [skM, if_pos c]
      exact ⟨Int.le_refl _, h.2.1, Int.le_refl _⟩
    · obtain ⟨h1, h2, h3⟩ := skI_step h c rfl
      have hm := skI_mid h (mid := a + (b - a) / 2) rfl
      have hc := skI_c h c
      have hab := h.2.1
      rw [skM, if_neg c]
      by_cases c1 : f (a + (b - a) / 2) = 0
      · simp only [if_pos c1]
        have := q_skO f s0 n _ _ h3
        omega
      · simp only [if_neg c1]
        by_cases c2 : f (a + (b - a) / 2) = s0
        · simp only [if_pos c2]
          have := q_skO f s0 n _ _ h2
          omega
        · simp only [if_neg c2]
          have := q_skO f s0 n _ _ h1
          omega
/-- a row of the class against what the reference finds -/
def rwX (fb : Nat → Bool) (fl fh : Nat → Int64) (cF : Nat → Bool) (cL cH : Nat → Int64) (j : Nat) : Prop := fb j = cF j ∧ (cF j = true → fl j = cL j ∧ fh j = cH j)
theorem q_load {fb : Nat → Bool} {fl fh : Nat → Int64} {cF : Nat → Bool} {cL cH : Nat → Int64} {j : Nat} (h : rwX fb fl fh cF cL cH j) : sp_X6_load_b1 fb fl fh j = cF j ∧ (cF j = true → sp_X6_load_lo1 fb fl fh j = cL j ∧ sp_X6_load_hi1 fb fl fh j = cH j) := by
  obtain ⟨h1, h2⟩ := h
  unfold sp_X6_load_b1 sp_X6_load_lo1 sp_X6_load_hi1
  rw [h1]
  by_cases c : cF j = true
  · rw [if_pos c, if_pos c, if_pos c]
    exact ⟨c.symm, fun _ => h2 c⟩
  · rw [if_neg c]
    exact ⟨(Bool.eq_false_iff.mpr c).symm, fun z => absurd z c⟩
theorem q_told {fb : Nat → Bool} {fl fh : Nat → Int64} {cF : Nat → Bool} {cL cH : Nat → Int64} : ∀ p, (∀ j, j ≤ p → rwX fb fl fh cF cL cH j) → (nwA fb fl fh (p + 1)).1 = tI cF p ∧ (tI cF p = true → (nwA fb fl fh (p + 1)).2.1 = tL cF cL p ∧ (nwA fb fl fh (p + 1)).2.2 = tH cF cH p)
  | 0, h => by
    obtain ⟨h1, h2⟩ := q_load (h 0 (Nat.le_refl 0))
    show sp_X2_narrow_b0 false 0 0 (sp_X6_load_b1 fb fl fh 0) (sp_X6_load_lo1 fb fl fh 0) (sp_X6_load_hi1 fb fl fh 0) = cF 0 ∧ (cF 0 = true → sp_X2_narrow_lo false 0 0 (sp_X6_load_b1 fb fl fh 0) (sp_X6_load_lo1 fb fl fh 0) (sp_X6_load_hi1 fb fl fh 0) = cL 0 ∧ sp_X2_narrow_hi false 0 0 (sp_X6_load_b1 fb fl fh 0) (sp_X6_load_lo1 fb fl fh 0) (sp_X6_load_hi1 fb fl fh 0) = cH 0)
    unfold sp_X2_narrow_b0 sp_X2_narrow_lo sp_X2_narrow_hi
    rw [h1]
    by_cases c : cF 0 = true
    · obtain ⟨e1, e2⟩ := h2 c
      rw [e1, e2, c]
      exact ⟨rfl, fun _ => ⟨rfl, rfl⟩⟩
    · rw [Bool.eq_false_iff.mpr c]
      exact ⟨rfl, fun z => absurd z (by decide)⟩
  | p + 1, h => by
    obtain ⟨h1, h2⟩ := q_load (h (p + 1) (Nat.le_refl _))
    obtain ⟨i1, i2⟩ := q_told p (fun j hj => h j (by omega))
    show sp_X2_narrow_b0 (nwA fb fl fh (p + 1)).1 (nwA fb fl fh (p + 1)).2.1 (nwA fb fl fh (p + 1)).2.2 (sp_X6_load_b1 fb fl fh (p + 1)) (sp_X6_load_lo1 fb fl fh (p + 1)) (sp_X6_load_hi1 fb fl fh (p + 1)) = kaA (tI cF p) (cF (p + 1)) ∧ (kaA (tI cF p) (cF (p + 1)) = true → sp_X2_narrow_lo (nwA fb fl fh (p + 1)).1 (nwA fb fl fh (p + 1)).2.1 (nwA fb fl fh (p + 1)).2.2 (sp_X6_load_b1 fb fl fh (p + 1)) (sp_X6_load_lo1 fb fl fh (p + 1)) (sp_X6_load_hi1 fb fl fh (p + 1)) = kaL (tI cF p) (cF (p + 1)) (tL cF cL p) (cL (p + 1)) ∧ sp_X2_narrow_hi (nwA fb fl fh (p + 1)).1 (nwA fb fl fh (p + 1)).2.1 (nwA fb fl fh (p + 1)).2.2 (sp_X6_load_b1 fb fl fh (p + 1)) (sp_X6_load_lo1 fb fl fh (p + 1)) (sp_X6_load_hi1 fb fl fh (p + 1)) = kaH (tI cF p) (cF (p + 1)) (tH cF cH p) (cH (p + 1)))
    unfold sp_X2_narrow_b0 sp_X2_narrow_lo sp_X2_narrow_hi kaA kaL kaH
    rw [h1, i1]
    by_cases c1 : tI cF p = true
    · obtain ⟨e1, e2⟩ := i2 c1
      rw [e1, e2]
      by_cases c2 : cF (p + 1) = true
      · obtain ⟨e3, e4⟩ := h2 c2
        simp only [if_pos c1, if_pos c2]
        rw [e3, e4, q_max, q_min]
        exact ⟨trivial, fun _ => ⟨rfl, rfl⟩⟩
      · simp only [if_pos c1, if_neg c2]
        exact ⟨trivial, fun _ => ⟨trivial, trivial⟩⟩
    · by_cases c2 : cF (p + 1) = true
      · obtain ⟨e3, e4⟩ := h2 c2
        simp only [if_neg c1, if_pos c2]
        exact ⟨trivial, fun _ => ⟨e3, e4⟩⟩
      · simp only [if_neg c1, if_neg c2]
        exact ⟨Bool.eq_false_iff.mpr c1, fun z => absurd z (by decide)⟩
theorem q_nIi {k : Nat} (h : k < 41) : (nI k).toInt = k := by
  have h2 : ∀ k : Fin 41, (nI k.val).toInt = k.val := by decide
  exact h2 ⟨k, h⟩
theorem q_isP {n : Nat} (hn : n ≤ 40) (a : Int32) : (∃ k, k < n ∧ a = nI k) ∨ ((a < 0 ∨ nI n ≤ a) ∧ ¬ sp_X8_isProgram n a = true) := by
  have e0 : (0 : Int32).toInt = 0 := rfl
  have hi := q_nIi (k := n) (by omega)
  by_cases h1 : a < 0
  · refine Or.inr ⟨Or.inl h1, ?_⟩
    unfold sp_X8_isProgram sp_X8_in
    rw [if_pos h1]
    decide
  · have h1' := h1
    rw [Int32.lt_iff_toInt_lt, e0] at h1'
    by_cases h2 : nI n ≤ a
    · refine Or.inr ⟨Or.inr h2, ?_⟩
      unfold sp_X8_isProgram sp_X8_in
      rw [if_neg h1]
      have h3 : nI n - 1 < a := by
        rw [Int32.le_iff_toInt_le, hi] at h2
        cases n with
        | zero =>
          rw [show nI 0 - 1 = -1 from by decide, Int32.lt_iff_toInt_lt]
          show (-1 : Int) < _
          omega
        | succ j =>
          rw [nI_pred, Int32.lt_iff_toInt_lt, q_nIi (by omega)]
          omega
      rw [if_pos h3]
      decide
    · rw [Int32.le_iff_toInt_le, hi] at h2
      refine Or.inl ⟨a.toInt.toNat, by omega, ?_⟩
      apply Int32.toInt_inj.mp
      rw [q_nIi (by omega)]
      omega
theorem q_isPl (a : Int32) : (∃ p, p < 25 ∧ a = nI p) ∨ ((a < 0 ∨ ¬ a ≤ 24) ∧ ¬ sp_X8_isPlace a = true) := by
  have e0 : (0 : Int32).toInt = 0 := rfl
  have e24 : (24 : Int32).toInt = 24 := rfl
  by_cases h1 : a < 0
  · refine Or.inr ⟨Or.inl h1, ?_⟩
    unfold sp_X8_isPlace sp_X8_in
    rw [if_pos h1]
    decide
  · by_cases h2 : a ≤ 24
    · rw [Int32.lt_iff_toInt_lt, e0] at h1
      rw [Int32.le_iff_toInt_le, e24] at h2
      refine Or.inl ⟨a.toInt.toNat, by omega, ?_⟩
      apply Int32.toInt_inj.mp
      rw [q_nIi (by omega)]
      omega
    · refine Or.inr ⟨Or.inr h2, ?_⟩
      unfold sp_X8_isPlace sp_X8_in
      rw [if_neg h1, if_pos (by rw [Int32.lt_iff_toInt_lt]; rw [Int32.le_iff_toInt_le] at h2; omega)]
      decide
/-- what is told of a program, the class against the reference -/
def tlX (tb : Nat → Nat → Bool) (tl th : Nat → Nat → Int64) (at_ : Nat → Bool) (ml mh : Nat → Int64) (k : Nat) : Prop := ∀ p, p < 25 → tb k p = at_ (25 * k + p) ∧ (at_ (25 * k + p) = true → tl k p = ml (25 * k + p) ∧ th k p = mh (25 * k + p))
theorem q_tl {tb : Nat → Nat → Bool} {tl th : Nat → Nat → Int64} {at_ : Nat → Bool} {ml mh : Nat → Int64} {k : Nat} (h : tlX tb tl th at_ ml mh k) {p : Nat} (hp : p < 25) : sp_X6_load_b1 (tb k) (tl k) (th k) p = at_ (25 * k + p) ∧ (at_ (25 * k + p) = true → sp_X6_load_lo1 (tb k) (tl k) (th k) p = ml (25 * k + p) ∧ sp_X6_load_hi1 (tb k) (tl k) (th k) p = mh (25 * k + p)) :=
  q_load (cF := fun p => at_ (25 * k + p)) (cL := fun p => ml (25 * k + p)) (cH := fun p => mh (25 * k + p)) (h p hp)
theorem q_comp {tb : Nat → Nat → Bool} {tl th : Nat → Nat → Int64} {at_ : Nat → Bool} {ml mh : Nat → Int64} {k j : Nat} (hk : tlX tb tl th at_ ml mh k) (hj : tlX tb tl th at_ ml mh j) {p : Nat} (hp : p < 25) : sp_X7_compareAt tb tl th k j p = sp_X8_answer at_ ml mh k j p := by
  obtain ⟨a1, a2⟩ := q_tl hk hp
  obtain ⟨b1, b2⟩ := q_tl hj hp
  unfold sp_X7_compareAt sp_X8_answer
  rw [a1, b1]
  by_cases c1 : at_ (25 * k + p) = true
  · by_cases c2 : at_ (25 * j + p) = true
    · obtain ⟨e1, e2⟩ := a2 c1
      obtain ⟨e3, e4⟩ := b2 c2
      rw [e1, e2, e3, e4]
    · simp only [if_pos c1, if_neg c2]
  · simp only [if_neg c1]
theorem q_dec {f g : Nat → Int32} : ∀ (n p : Nat), p + n = 25 → (∀ q, q < 25 → f q = g q) → deX f n p = dcR (dcF g n p)
  | 0, p, h, _ => by
    have : p = 25 := by omega
    subst this
    rfl
  | n + 1, p, h, hf => by
    show (if f p = 0 then deX f n (p + 1) else nI p) = dcR (if g p = 0 then dcF g n (p + 1) else p)
    rw [hf p (by omega)]
    by_cases c : g p = 0
    · rw [if_pos c, if_pos c]
      exact q_dec n (p + 1) (by omega) hf
    · rw [if_neg c, if_neg c]
      unfold dcR
      rw [if_neg (fun z => by
        have h1 := congrArg Int32.toInt z
        rw [q_nIi (by omega)] at h1
        have h2 : (25 : Int32).toInt = 25 := rfl
        omega)]
theorem q_next {f g : Nat → Int32} : ∀ (n p : Nat), p + n = 25 → (∀ q, q < 25 → f q = g q) → ∀ x, x = 2 → nxX f n p = nxF g n p x
  | 0, _, _, _, _, hx => hx.symm
  | n + 1, p, h, hf, x, hx => by
    show (if f p = 2 then nxX f n (p + 1) else f p) = (if x = 2 then nxF g n (p + 1) (g p) else x)
    rw [if_pos hx, hf p (by omega)]
    by_cases c : g p = 2
    · rw [if_pos c]
      exact q_next n (p + 1) (by omega) hf _ c
    · rw [if_neg c]
      cases n with
      | zero => rfl
      | succ n => 
        show _ = (if g p = 2 then _ else _)
        rw [if_neg c]
theorem q_dig {tb : Nat → Nat → Bool} {tl th : Nat → Nat → Int64} {at_ : Nat → Bool} {ml mh : Nat → Int64} {k : Nat} (hk : tlX tb tl th at_ ml mh k) {dg di : Nat → Int32} {ds su : Nat → Int64} (h1 : dg k = di k) (h2 : ds k = su k) {p : Nat} (hp : p < 25) : sp_X7_digitAt tb tl th dg ds k p = sp_X8_digitAt at_ ml mh di su k p := by
  obtain ⟨a1, a2⟩ := q_tl hk hp
  unfold sp_X7_digitAt sp_X8_digitAt sp_X7_unitsAt
  rw [a1, h1, h2]
  by_cases c1 : at_ (25 * k + p) = true
  · obtain ⟨e1, e2⟩ := a2 c1
    rw [e1, e2]
  · simp only [if_neg c1]
def plC (at_ : Nat → Bool) (ml mh : Nat → Int64) (k f p : Nat) : Bool := if at_ (25 * k + p) = true then (if jshl 1 (nI p - nI f) < mh (25 * k + p) - ml (25 * k + p) then false else true) else false
def plG (c : Nat → Bool) : Nat → Nat → Int32 → Int32
  | 0, _, r => r
  | n + 1, p, r => if c p = true then nI p else plG c n (p + 1) r
theorem q_plG (c : Nat → Bool) : ∀ (n p : Nat) (r : Int32), plG c (n + 1) p r = plG c n p (if c (p + n) = true then nI (p + n) else r)
  | 0, _, _ => rfl
  | n + 1, p, r => by
    show (if c p = true then nI p else plG c (n + 1) (p + 1) r) = (if c p = true then nI p else plG c n (p + 1) _)
    rw [q_plG c n (p + 1) r, show p + 1 + n = p + (n + 1) by omega]
theorem q_plF (at_ : Nat → Bool) (ml mh : Nat → Int64) (k f : Nat) : ∀ (n : Nat) (r : Int32), plF at_ ml mh k f n r = plG (plC at_ ml mh k f) n f r
  | 0, _ => rfl
  | n + 1, r => by
    rw [q_plG]
    show plF at_ ml mh k f n _ = _
    rw [q_plF at_ ml mh k f n]
    congr 1
    unfold plC
    by_cases c1 : at_ (25 * k + (f + n)) = true
    · rw [if_pos c1, if_pos c1]
      split <;> simp
    · rw [if_neg c1, if_neg c1]
      simp
theorem q_plX {tb : Nat → Nat → Bool} {tl th : Nat → Nat → Int64} {at_ : Nat → Bool} {ml mh : Nat → Int64} {k : Nat} (hk : tlX tb tl th at_ ml mh k) (f : Nat) : ∀ (n p : Nat), p + n = 25 → plX tb tl th k f n p = plG (plC at_ ml mh k f) n p (-1)
  | 0, _, _ => rfl
  | n + 1, p, h => by
    obtain ⟨a1, a2⟩ := q_tl hk (p := p) (by omega)
    show (if sp_X6_load_b1 (tb k) (tl k) (th k) p = true then (if sp_X7_unitsAt (nI p - nI f) < sp_X6_load_hi1 (tb k) (tl k) (th k) p - sp_X6_load_lo1 (tb k) (tl k) (th k) p then plX tb tl th k f n (p + 1) else nI p) else plX tb tl th k f n (p + 1)) = (if plC at_ ml mh k f p = true then nI p else plG (plC at_ ml mh k f) n (p + 1) (-1))
    rw [q_plX hk f n (p + 1) (by omega), a1]
    unfold plC sp_X7_unitsAt
    by_cases c1 : at_ (25 * k + p) = true
    · obtain ⟨e1, e2⟩ := a2 c1
      rw [if_pos c1, if_pos c1, e1, e2]
      by_cases c2 : jshl 1 (nI p - nI f) < mh (25 * k + p) - ml (25 * k + p)
      · rw [if_pos c2, if_pos c2]
        rfl
      · rw [if_neg c2, if_neg c2]
        rfl
    · rw [if_neg c1, if_neg c1]
      rfl
theorem q_place {tb : Nat → Nat → Bool} {tl th : Nat → Nat → Int64} {at_ : Nat → Bool} {ml mh : Nat → Int64} {k f : Nat} (hk : tlX tb tl th at_ ml mh k) (hf : f < 25) : plX tb tl th k f (25 - f) f = plF at_ ml mh k f (25 - f) (-1) := by
  rw [q_plX hk f (25 - f) f (by omega), q_plF]
theorem q_Une {p : Nat} (hp : p < 25) : ¬ jshl 1 (nI p) = 0 := fun z => by
  have h := q_U hp
  rw [z] at h
  have h2 := (q_Upos hp).1
  have h3 : (0 : Int64).toInt = 0 := rfl
  omega
theorem q_sd {x z : Int64} {tl th : Nat → Int64} {k p : Nat} (hp : p < 25) (h1 : x = tl (25 * k + p)) (h2 : z = th (25 * k + p)) (b : Bool) : ∀ n d, sdX b x z (nI p) n d = nI (suF tl th k p n d) - 1
  | 0, _ => rfl
  | n + 1, d => by
    rw [sdX, suF]
    unfold sp_X7_unitsAt
    rw [q_cut (q_Une hp), q_cut (q_Une hp), q_sd hp h1 h2 b n (d + 1), h1, h2]
    split <;> rfl
theorem q_decs {tb : Nat → Nat → Bool} {tl th : Nat → Nat → Int64} {at_ : Nat → Bool} {ml mh : Nat → Int64} {k p : Nat} (hk : tlX tb tl th at_ ml mh k) (hp : p < 25) : sdR (sp_X6_load_b1 (tb k) (tl k) (th k) p) (sp_X6_load_lo1 (tb k) (tl k) (th k) p) (sp_X6_load_hi1 (tb k) (tl k) (th k) p) (nI p) = suR at_ ml mh k p := by
  obtain ⟨a1, a2⟩ := q_tl hk hp
  unfold sdR suR
  by_cases c1 : at_ (25 * k + p) = true
  · obtain ⟨e1, e2⟩ := a2 c1
    rw [if_pos (a1.trans c1), if_pos c1, q_sd hp e1 e2]
  · rw [if_neg (by rw [a1]; exact c1), if_neg c1]
    decide
theorem q_mod (a : Int64) : sp_J9_floorMod_f86c9 a 10 = a - 10 * sp_X8_cut a 10 := by
  rw [← q_fd]
  unfold sp_J9_floorMod_f86c9 sp_J9_floorDiv_f86c9
  by_cases c1 : 0 ≤ (a ^^^ 10)
  · rw [if_pos c1, if_pos c1, Int64.mul_comm]
  · rw [if_neg c1, if_neg c1]
    by_cases c2 : a / 10 * 10 = a
    · rw [if_pos c2, if_pos (by rw [c2, Int64.sub_self]), Int64.mul_comm]
    · rw [if_neg c2, if_neg (fun z => c2 (by grind))]
      grind
theorem q_decv {tl ml : Int64} {p d : Nat} (hp : p < 25) (h : tl = ml) : dvX (sp_X7_cut (tl * tenF d 1) (sp_X7_unitsAt (nI p))) d = dcV (sp_X8_cut (ml * tenF d 1) (jshl 1 (nI p))) d := by
  unfold dvX dcV sp_X7_unitsAt
  rw [q_cut (q_Une hp), q_mod, h]
theorem q_ratio {a b : Int32} {p : Nat} (hp : p < 25) (ha1 : -1000 ≤ a.toInt) (ha2 : a.toInt ≤ 1000) (hb1 : 1 ≤ b.toInt) : (rtX a b p).1 = mIs (sp_X8_cut (jshl a.toInt64 (nI p)) b.toInt64) (sp_X8_fill (jshl a.toInt64 (nI p)) b.toInt64) p ∧ (mIs (sp_X8_cut (jshl a.toInt64 (nI p)) b.toInt64) (sp_X8_fill (jshl a.toInt64 (nI p)) b.toInt64) p = true → (rtX a b p).2.1 = sp_X8_cut (jshl a.toInt64 (nI p)) b.toInt64 ∧ (rtX a b p).2.2 = sp_X8_fill (jshl a.toInt64 (nI p)) b.toInt64 ∧ Bd p (sp_X8_cut (jshl a.toInt64 (nI p)) b.toInt64) (sp_X8_fill (jshl a.toInt64 (nI p)) b.toInt64)) := by
  have hU := q_U hp
  have hUp := q_Upos hp
  have ea : a.toInt64.toInt = a.toInt := Int32.toInt_toInt64 a
  have eb : b.toInt64.toInt = b.toInt := Int32.toInt_toInt64 b
  have hb0 : 0 < b.toInt64.toInt := by omega
  have hbn : ¬ b.toInt64 = 0 := fun z => by
    rw [z] at hb0
    exact absurd hb0 (by decide)
  have hm := q_absmul (x := a.toInt) (y := 2 ^ p) (X := 1000) (Y := 16777216) ⟨by omega, by omega⟩ ⟨by omega, by omega⟩
  have hj : (jshl a.toInt64 (nI p)).toInt = a.toInt * 2 ^ p := by
    rw [q_shl, q_mulI, ea, hU]
    · rw [ea, hU]; omega
    · rw [ea, hU]; omega
  have e1 : a.toInt64 * sp_X7_unitsAt (nI p) = jshl a.toInt64 (nI p) := (q_shl _ _).symm
  refine q_fin hp (lo7 := sp_X7_cut (a.toInt64 * sp_X7_unitsAt (nI p)) b.toInt64) (hi7 := sp_X7_fill (a.toInt64 * sp_X7_unitsAt (nI p)) b.toInt64) (by rw [e1, q_cut hbn]) (by rw [e1, q_fillG (by rw [hj]; omega) hbn]) ?_
  rw [q_cutI hb0, q_fill8I hb0 (by rw [hj]; omega)]
  exact q_ce hb0 (Int.le_refl _)
/-- a remainder of cutting -/
theorem q_rem {x q : Int64} (hq : 0 < q.toInt) (hx : -4611686018427387904 ≤ x.toInt) (hx2 : x.toInt ≤ 4611686018427387904) (hq2 : q.toInt ≤ 4611686018427387904) : (x - sp_X8_cut x q * q).toInt = x.toInt % q.toInt := by
  have h1 := q_cutI (a := x) hq
  have h2 := Int.mul_ediv_add_emod x.toInt q.toInt
  have h3 := Int.emod_nonneg x.toInt (Int.ne_of_gt hq)
  have h4 := Int.emod_lt_of_pos x.toInt hq
  have h5 : (sp_X8_cut x q * q).toInt = q.toInt * (x.toInt / q.toInt) := by
    rw [q_mulI, h1, Int.mul_comm]
    · rw [h1, Int.mul_comm]; omega
    · rw [h1, Int.mul_comm]; omega
  rw [q_subI, h5]
  · omega
  · rw [h5]; omega
  · rw [h5]; omega
theorem q_whole {a b : Int64} (hb : ¬ b = 0) : sp_X1_whole a b = sp_X8_cut a b := q_cut hb
def quS (t : Int64 × Int64 × Int64 × Int64) : Bool := sp_X7_isQuotientSure t.1 t.2.1 t.2.2.1 t.2.2.2
theorem q_sure {a b c d : Int64} (hb : ¬ b = 0) (hd : ¬ d = 0) : sp_X7_isQuotientSure a b c d = (if sp_X8_cut a b = sp_X8_cut c d then true else false) := by
  unfold sp_X7_isQuotientSure
  rw [if_neg hb, if_neg hd, q_whole hb, q_whole hd]
theorem q_qf (t : Int64) : ∀ (n : Nat) (p q r s : Int64), quF n p q r s t false = (false, t)
  | 0, _, _, _, _ => rfl
  | n + 1, p, q, r, s => by
    show (if false = true then _ else _) = _
    rfl
theorem q_qx {a b c d : Int64} (h : ¬ sp_X7_isQuotientSure a b c d = true) : ∀ n, quX n a b c d = (a, b, c, d)
  | 0 => rfl
  | n + 1 => by
    show (if _ then _ else _) = _
    rw [if_neg h]
theorem q_quo : ∀ (n : Nat) (a b c d : Int64), 0 < b.toInt → 0 < d.toInt → b.toInt ≤ 4611686018427387904 → d.toInt ≤ 4611686018427387904 → -4611686018427387904 ≤ a.toInt → a.toInt ≤ 4611686018427387904 → -4611686018427387904 ≤ c.toInt → c.toInt ≤ 4611686018427387904 →
    quS (quX n a b c d) = (quF n a b c d (sp_X8_cut a b) (if sp_X8_cut a b = sp_X8_cut c d then true else false)).1 ∧ (quS (quX n a b c d) = true → sp_X1_whole (quX n a b c d).1 (quX n a b c d).2.1 = (quF n a b c d (sp_X8_cut a b) (if sp_X8_cut a b = sp_X8_cut c d then true else false)).2)
  | 0, a, b, c, d, hb, hd, _, _, _, _, _, _ => by
    have hbn : ¬ b = 0 := fun z => by rw [z] at hb; exact absurd hb (by decide)
    have hdn : ¬ d = 0 := fun z => by rw [z] at hd; exact absurd hd (by decide)
    exact ⟨q_sure hbn hdn, fun _ => q_whole hbn⟩
  | n + 1, a, b, c, d, hb, hd, hb2, hd2, ha1, ha2, hc1, hc2 => by
    have hbn : ¬ b = 0 := fun z => by rw [z] at hb; exact absurd hb (by decide)
    have hdn : ¬ d = 0 := fun z => by rw [z] at hd; exact absurd hd (by decide)
    have hs := q_sure (a := a) (c := c) hbn hdn
    by_cases c0 : sp_X8_cut a b = sp_X8_cut c d
    · rw [if_pos c0] at hs ⊢
      have r1 := q_rem (x := a) hb ha1 ha2 hb2
      have r2 := q_rem (x := c) hd hc1 hc2 hd2
      have m1 := Int.emod_nonneg a.toInt (Int.ne_of_gt hb)
      have m2 := Int.emod_nonneg c.toInt (Int.ne_of_gt hd)
      have l1 := Int.emod_lt_of_pos a.toInt hb
      have l2 := Int.emod_lt_of_pos c.toInt hd
      have e0 : (0 : Int64).toInt = 0 := rfl
      have ex : quX (n + 1) a b c d = quX n b (a - sp_X8_cut a b * b) d (c - sp_X8_cut a b * d) := by
        show (if _ then _ else _) = _
        rw [if_pos hs, q_whole hbn, q_whole hdn, c0]
      rw [ex]
      rw [← c0] at r2
      rw [quF, if_pos rfl]
      by_cases c1 : a - sp_X8_cut a b * b ≤ 0
      · have z1 : a - sp_X8_cut a b * b = 0 := q_inj (by rw [q_le, e0] at c1; rw [e0]; omega)
        have hns : ¬ sp_X7_isQuotientSure b (a - sp_X8_cut a b * b) d (c - sp_X8_cut a b * d) = true := by
          unfold sp_X7_isQuotientSure
          rw [if_pos z1]
          decide
        rw [if_pos c1, q_qf, q_qx hns]
        exact ⟨Bool.eq_false_iff.mpr hns, fun z => absurd z hns⟩
      · rw [if_neg c1]
        have c1' := c1
        rw [q_le, e0] at c1'
        by_cases c2 : c - sp_X8_cut a b * d ≤ 0
        · have z2 : c - sp_X8_cut a b * d = 0 := q_inj (by rw [q_le, e0] at c2; rw [e0]; omega)
          have hns : ¬ sp_X7_isQuotientSure b (a - sp_X8_cut a b * b) d (c - sp_X8_cut a b * d) = true := by
            unfold sp_X7_isQuotientSure
            split
            · decide
            · first
                | decide
                | (rw [if_pos z2]; decide)
          rw [if_pos c2, q_qf, q_qx hns]
          exact ⟨Bool.eq_false_iff.mpr hns, fun z => absurd z hns⟩
        · rw [if_neg c2]
          rw [q_le, e0] at c2
          have ih := q_quo n b (a - sp_X8_cut a b * b) d (c - sp_X8_cut a b * d) (by omega) (by omega) (by omega) (by omega) (by omega) hb2 (by omega) hd2
          by_cases c3 : sp_X8_cut b (a - sp_X8_cut a b * b) = sp_X8_cut d (c - sp_X8_cut a b * d)
          · rw [if_pos c3] at ih ⊢
            exact ih
          · rw [if_neg c3] at ih ⊢
            exact ih
    · rw [if_neg c0] at hs ⊢
      have hns : ¬ sp_X7_isQuotientSure a b c d = true := by rw [hs]; decide
      rw [q_qf, q_qx hns]
      exact ⟨hs, fun z => absurd z hns⟩
theorem q_ring (d f c b a U : Int) : ((d * (f * U) + c * U) * (f * U) + b * U * U) * (f * U) + a * U * U * U = U * U * U * (((d * f + c) * f + b) * f + a) := by grind
theorem q_val {pa pb pc0 pd x : Int64} {m : Nat} (hm : m ≤ 16) (ha : -9 ≤ pa.toInt ∧ pa.toInt ≤ 9) (hb : -9 ≤ pb.toInt ∧ pb.toInt ≤ 9) (hc : -9 ≤ pc0.toInt ∧ pc0.toInt ≤ 9) (hd : -9 ≤ pd.toInt ∧ pd.toInt ≤ 9) (hx : -(7 * 2 ^ m) ≤ x.toInt ∧ x.toInt ≤ 7 * 2 ^ m) :
    ((((((pd * x) + (pc0 * (jshl 1 (nI m)))) * x) + ((pb * (jshl 1 (nI m))) * (jshl 1 (nI m)))) * x) + (((pa * (jshl 1 (nI m))) * (jshl 1 (nI m))) * (jshl 1 (nI m)))).toInt = ((pd.toInt * x.toInt + pc0.toInt * 2 ^ m) * x.toInt + pb.toInt * 2 ^ m * 2 ^ m) * x.toInt + pa.toInt * 2 ^ m * 2 ^ m * 2 ^ m := by
  have hU := q_U (p := m) (by omega)
  have hUp := q_Upos (p := m) (by omega)
  have hU2 : (2 : Int) ^ m ≤ 65536 := by
    have h2 : ∀ m : Fin 17, (2 : Int) ^ m.val ≤ 65536 := by decide
    exact h2 ⟨m, by omega⟩
  have hxx : -458752 ≤ x.toInt ∧ x.toInt ≤ 458752 := by omega
  have hUU : -65536 ≤ (2 : Int) ^ m ∧ (2 : Int) ^ m ≤ 65536 := by omega
  have k1 := q_absmul hd hxx
  have k2 := q_absmul hc hUU
  have k3 := q_absmul hb hUU
  have k4 := q_absmul ha hUU
  have e1 : (pd * x).toInt = pd.toInt * x.toInt := q_mulI (by omega) (by omega)
  have e2 : (pc0 * jshl 1 (nI m)).toInt = pc0.toInt * 2 ^ m := by rw [q_mulI, hU] <;> (rw [hU]; omega)
  have e3 : (pb * jshl 1 (nI m)).toInt = pb.toInt * 2 ^ m := by rw [q_mulI, hU] <;> (rw [hU]; omega)
  have e4 : (pa * jshl 1 (nI m)).toInt = pa.toInt * 2 ^ m := by rw [q_mulI, hU] <;> (rw [hU]; omega)
  have e5 : (pd * x + pc0 * jshl 1 (nI m)).toInt = pd.toInt * x.toInt + pc0.toInt * 2 ^ m := by rw [q_addI, e1, e2] <;> (rw [e1, e2]; omega)
  have k5 := q_absmul (x := pd.toInt * x.toInt + pc0.toInt * 2 ^ m) (X := 4718592) (y := x.toInt) ⟨by omega, by omega⟩ hxx
  have e6 : ((pd * x + pc0 * jshl 1 (nI m)) * x).toInt = (pd.toInt * x.toInt + pc0.toInt * 2 ^ m) * x.toInt := by rw [q_mulI, e5] <;> (rw [e5]; omega)
  have k6 := q_absmul (x := pb.toInt * 2 ^ m) (X := 589824) (y := 2 ^ m) ⟨by omega, by omega⟩ hUU
  have e7 : (pb * jshl 1 (nI m) * jshl 1 (nI m)).toInt = pb.toInt * 2 ^ m * 2 ^ m := by rw [q_mulI, e3, hU] <;> (rw [e3, hU]; omega)
  have e8 : ((pd * x + pc0 * jshl 1 (nI m)) * x + pb * jshl 1 (nI m) * jshl 1 (nI m)).toInt = (pd.toInt * x.toInt + pc0.toInt * 2 ^ m) * x.toInt + pb.toInt * 2 ^ m * 2 ^ m := by rw [q_addI, e6, e7] <;> (rw [e6, e7]; omega)
  have k8 := q_absmul (x := (pd.toInt * x.toInt + pc0.toInt * 2 ^ m) * x.toInt + pb.toInt * 2 ^ m * 2 ^ m) (X := 2203318222848) (y := x.toInt) ⟨by omega, by omega⟩ hxx
  have e9 : (((pd * x + pc0 * jshl 1 (nI m)) * x + pb * jshl 1 (nI m) * jshl 1 (nI m)) * x).toInt = ((pd.toInt * x.toInt + pc0.toInt * 2 ^ m) * x.toInt + pb.toInt * 2 ^ m * 2 ^ m) * x.toInt := by rw [q_mulI, e8] <;> (rw [e8]; omega)
  have k10 := q_absmul (x := pa.toInt * 2 ^ m) (X := 589824) (y := 2 ^ m) ⟨by omega, by omega⟩ hUU
  have e10 : (pa * jshl 1 (nI m) * jshl 1 (nI m)).toInt = pa.toInt * 2 ^ m * 2 ^ m := by rw [q_mulI, e4, hU] <;> (rw [e4, hU]; omega)
  have k11 := q_absmul (x := pa.toInt * 2 ^ m * 2 ^ m) (X := 38654705664) (y := 2 ^ m) ⟨by omega, by omega⟩ hUU
  have e11 : (pa * jshl 1 (nI m) * jshl 1 (nI m) * jshl 1 (nI m)).toInt = pa.toInt * 2 ^ m * 2 ^ m * 2 ^ m := by rw [q_mulI, e10, hU] <;> (rw [e10, hU]; omega)
  rw [q_addI, e9, e11] <;> (rw [e9, e11]; omega)
def tri (x : Int) : Int := if x < 0 then -1 else if x = 0 then 0 else 1
theorem q_tri7 (v : Int64) : (sp_J13_signum_95d88 v).toInt = tri v.toInt := by
  show (sp_J13_signum_95d88 v).toInt = _
  rw [q_sgn]
  have e0 : (0 : Int64).toInt = 0 := rfl
  unfold tri
  by_cases h : v < 0
  · have h' := h
    rw [q_lt, e0] at h'
    rw [if_pos h, if_pos h']
    rfl
  · have h' := h
    rw [q_lt, e0] at h'
    rw [if_neg h, if_neg h']
    by_cases h0 : v = 0
    · rw [if_pos h0, if_pos (by rw [h0]; rfl)]
      rfl
    · rw [if_neg h0, if_neg (fun z => h0 (q_inj (z.trans e0.symm)))]
      rfl
theorem q_tri8 (v : Int64) : (sp_X8_sign v).toInt = tri v.toInt := by
  rw [q_sgn8]
  have e0 : (0 : Int64).toInt = 0 := rfl
  unfold tri
  by_cases h : v < 0
  · have h' := h
    rw [q_lt, e0] at h'
    rw [if_pos h, if_pos h']
    rfl
  · have h' := h
    rw [q_lt, e0] at h'
    rw [if_neg h, if_neg h']
    by_cases h0 : v = 0
    · rw [if_pos h0, if_pos (by rw [h0]; rfl)]
      rfl
    · rw [if_neg h0, if_neg (fun z => h0 (q_inj (z.trans e0.symm)))]
      rfl
theorem q_eq7 (v w : Int64) : (sp_J13_signum_95d88 v = sp_J13_signum_95d88 w) ↔ (sp_X8_sign v = sp_X8_sign w) := by
  constructor
  · intro h
    have := congrArg Int32.toInt h
    rw [q_tri7, q_tri7] at this
    exact q_inj (by rw [q_tri8, q_tri8, this])
  · intro h
    have := congrArg Int64.toInt h
    rw [q_tri8, q_tri8] at this
    exact Int32.toInt_inj.mp (by rw [q_tri7, q_tri7, this])
theorem q_eq0 (v : Int64) : (sp_J13_signum_95d88 v = 0) ↔ (sp_X8_sign v = 0) := by
  have h := q_eq7 v 0
  have e1 : sp_J13_signum_95d88 0 = 0 := by decide
  have e2 : sp_X8_sign 0 = 0 := by decide
  rw [e1, e2] at h
  exact h
/-- the search of the class is that of the reference -/
theorem q_search {zA zB zC zD zF zT : Nat → Int32} {k : Nat} {u m : Nat} (hu : u < 3) (hm : m ≤ 16) {lo hi : Int64} (hl : skL (zF k) m = lo) (hlo : jshl (zF k).toInt64 (nI m) = lo) (hhi : jshl (zT k).toInt64 (nI m) = hi) (hh : lo + jshl (sp_X7_unitsAt (nI m)) (nI u) = hi) (hI : skI (m + u) lo hi) (hne : ¬ sp_X8_valueOf zA zB zC zD k lo (nI m) = 0) :
    skR (zA k).toInt64 (zB k).toInt64 (zC k).toInt64 (zD k).toInt64 (zF k) u m = skQ zA zB zC zD zF zT k (nI m) := by
  unfold skR skQ
  rw [hl, hh, hlo, hhi]
  show skX (fun x => sp_J13_signum_95d88 (sp_X8_valueOf zA zB zC zD k x (nI m))) (sp_J13_signum_95d88 (sp_X8_valueOf zA zB zC zD k lo (nI m))) (m + u) lo hi = _
  rw [q_skX (fun x => sp_X8_sign (sp_X8_valueOf zA zB zC zD k x (nI m))) _ (sp_X8_sign (sp_X8_valueOf zA zB zC zD k lo (nI m))) _ (fun x => q_eq0 _) (fun x => q_eq7 _ _) (fun z => hne (by
    have h2 := congrArg Int64.toInt z
    rw [q_tri8] at h2
    unfold tri at h2
    have e0 : (0 : Int64).toInt = 0 := rfl
    rw [e0] at h2
    apply q_inj
    rw [e0]
    split at h2
    · omega
    · split at h2
      · assumption
      · omega))]
  rw [show 18 = (m + u) + (18 - (m + u)) by omega, q_skM_more _ _ (m + u) _ _ _ hI]
theorem q_pw {p m : Nat} (hp : p < 25) (hm : m ≤ p) : (2 : Int) ^ m * 2 ^ (p - m) = 2 ^ p := by
  rw [← Int.pow_add, show m + (p - m) = p by omega]
theorem q_zero {zA zB zC zD zF zT : Nat → Int32} {k u p : Nat} (hp : p < 25) (hu : u < 3) (ha : -9 ≤ (zA k).toInt ∧ (zA k).toInt ≤ 9) (hb : -9 ≤ (zB k).toInt ∧ (zB k).toInt ≤ 9) (hc : -9 ≤ (zC k).toInt ∧ (zC k).toInt ≤ 9) (hd : -9 ≤ (zD k).toInt ∧ (zD k).toInt ≤ 9) (hf : -4 ≤ (zF k).toInt ∧ (zF k).toInt ≤ 3)
    (hT : (zT k).toInt = (zF k).toInt + 2 ^ u) (hv : (((zD k).toInt * (zF k).toInt + (zC k).toInt) * (zF k).toInt + (zB k).toInt) * (zF k).toInt + (zA k).toInt ≠ 0) :
    fzX (zA k).toInt64 (zB k).toInt64 (zC k).toInt64 (zD k).toInt64 (zF k) u p = (true, sp_X8_seeks_lo_ zA zB zC zD zF zT k p, sp_X8_seeks_hi_ zA zB zC zD zF zT k p) ∧ mIs (sp_X8_seeks_lo_ zA zB zC zD zF zT k p) (sp_X8_seeks_hi_ zA zB zC zD zF zT k p) p = true ∧ Bd p (sp_X8_seeks_lo_ zA zB zC zD zF zT k p) (sp_X8_seeks_hi_ zA zB zC zD zF zT k p) := by
  obtain ⟨m, hm⟩ : ∃ m, m = min p 16 := ⟨_, rfl⟩
  have hm16 : m ≤ 16 := by omega
  have hmp : m ≤ p := by omega
  have hU := q_U (p := m) (by omega)
  have hUp := q_Upos (p := m) (by omega)
  have hUp2 := q_Upos (p := p - m) (by omega)
  have hUP := q_Upos hp
  have hUq := q_U (p := p - m) (by omega)
  have hpw := q_pw hp hmp
  have hU2 : (2 : Int) ^ m ≤ 65536 := by
    have h2 : ∀ m : Fin 17, (2 : Int) ^ m.val ≤ 65536 := by decide
    exact h2 ⟨m, by omega⟩
  have hu4 : 1 ≤ (2 : Int) ^ u ∧ (2 : Int) ^ u ≤ 4 := by
    have h2 : ∀ u : Fin 3, 1 ≤ (2 : Int) ^ u.val ∧ (2 : Int) ^ u.val ≤ 4 := by decide
    exact h2 ⟨u, hu⟩
  have ef : (zF k).toInt64.toInt = (zF k).toInt := Int32.toInt_toInt64 _
  have et : (zT k).toInt64.toInt = (zT k).toInt := Int32.toInt_toInt64 _
  have kf := q_absmul (x := (zF k).toInt) (y := 2 ^ m) (X := 4) (Y := 2 ^ m) ⟨by omega, by omega⟩ ⟨by omega, by omega⟩
  have kt := q_absmul (x := (zT k).toInt) (y := 2 ^ m) (X := 7) (Y := 2 ^ m) ⟨by omega, by omega⟩ ⟨by omega, by omega⟩
  have ku := q_absmul (x := 2 ^ m) (y := 2 ^ u) (X := 65536) (Y := 4) ⟨by omega, by omega⟩ ⟨by omega, by omega⟩
  have elo : (jshl (zF k).toInt64 (nI m)).toInt = (zF k).toInt * 2 ^ m := by rw [q_shl, q_mulI, ef, hU] <;> (rw [ef, hU]; omega)
  have ehi : (jshl (zT k).toInt64 (nI m)).toInt = (zT k).toInt * 2 ^ m := by rw [q_shl, q_mulI, et, hU] <;> (rw [et, hU]; omega)
  have eu : (jshl (sp_X7_unitsAt (nI m)) (nI u)).toInt = 2 ^ m * 2 ^ u := by
    have h3 := q_U62 (p := u) (by omega)
    show (jshl (jshl 1 (nI m)) (nI u)).toInt = _
    rw [q_shl, q_mulI, hU, h3] <;> (rw [hU, h3]; omega)
  have esum : (zT k).toInt * 2 ^ m = (zF k).toInt * 2 ^ m + 2 ^ m * 2 ^ u := by rw [hT, Int.add_mul, Int.mul_comm (2 ^ u)]
  have hh : jshl (zF k).toInt64 (nI m) + jshl (sp_X7_unitsAt (nI m)) (nI u) = jshl (zT k).toInt64 (nI m) := q_inj (by rw [ehi, q_addI, elo, eu, esum] <;> (rw [elo, eu]; omega))
  have hI : skI (m + u) (jshl (zF k).toInt64 (nI m)) (jshl (zT k).toInt64 (nI m)) := by
    have hp2 : (2 : Int) ^ (m + u) = 2 ^ m * 2 ^ u := Int.pow_add 2 m u
    have h0 : 0 ≤ (2 : Int) ^ m * 2 ^ u := Int.mul_nonneg (by omega) (by omega)
    refine ⟨by rw [elo]; omega, by rw [elo, ehi]; omega, by rw [ehi]; omega, ?_⟩
    rw [elo, ehi, hp2]
    omega
  have ea := Int32.toInt_toInt64 (zA k)
  have eb := Int32.toInt_toInt64 (zB k)
  have ec := Int32.toInt_toInt64 (zC k)
  have ed := Int32.toInt_toInt64 (zD k)
  have hne : ¬ sp_X8_valueOf zA zB zC zD k (jshl (zF k).toInt64 (nI m)) (nI m) = 0 := fun z => by
    have h1 := congrArg Int64.toInt z
    unfold sp_X8_valueOf at h1
    rw [q_val hm16 (by rw [ea]; exact ha) (by rw [eb]; exact hb) (by rw [ec]; exact hc) (by rw [ed]; exact hd) (by rw [elo]; omega), elo, ea, eb, ec, ed, q_ring] at h1
    have e0 : (0 : Int64).toInt = 0 := rfl
    rw [e0] at h1
    rcases Int.mul_eq_zero.mp h1 with h2 | h2
    · have h3 : (0 : Int) < 2 ^ m * 2 ^ m * 2 ^ m := Int.mul_pos (Int.mul_pos (by omega) (by omega)) (by omega)
      omega
    · exact hv h2
  have hS := q_search (zA := zA) (zB := zB) (zC := zC) (zD := zD) (zF := zF) (zT := zT) (k := k) hu hm16 (lo := jshl (zF k).toInt64 (nI m)) (hi := jshl (zT k).toInt64 (nI m)) (q_shl _ _).symm rfl rfl hh hI hne
  have hO := q_skO (fun x => sp_X8_sign (sp_X8_valueOf zA zB zC zD k x (nI m))) (sp_X8_sign (sp_X8_valueOf zA zB zC zD k (jshl (zF k).toInt64 (nI m)) (nI m))) (m + u) _ _ hI
  rw [← q_skM_more _ _ (m + u) (18 - (m + u)) _ _ hI, show (m + u) + (18 - (m + u)) = 18 by omega] at hO
  have hO' : (zF k).toInt * 2 ^ m ≤ (skQ zA zB zC zD zF zT k (nI m)).1.toInt ∧ (skQ zA zB zC zD zF zT k (nI m)).1.toInt ≤ (skQ zA zB zC zD zF zT k (nI m)).2.toInt ∧ (skQ zA zB zC zD zF zT k (nI m)).2.toInt ≤ (zT k).toInt * 2 ^ m := by
    rw [← elo, ← ehi]
    exact hO
  have hsl : sp_X8_seeks_lo_ zA zB zC zD zF zT k p = (skQ zA zB zC zD zF zT k (nI m)).1 * jshl 1 (nI (p - m)) ∧ sp_X8_seeks_hi_ zA zB zC zD zF zT k p = (skQ zA zB zC zD zF zT k (nI m)).2 * jshl 1 (nI (p - m)) := by
    unfold sp_X8_seeks_lo_ sp_X8_seeks_hi_
    by_cases c : p ≤ 16
    · have hmm : m = p := by omega
      have c2 : nI p ≤ 16 := by
        have h2 : ∀ p : Fin 17, nI p.val ≤ 16 := by decide
        exact h2 ⟨p, by omega⟩
      rw [if_pos c2, if_pos c2, q_shl, q_shl (skQ zA zB zC zD zF zT k (nI p)).2, hmm, q_sub hp (Nat.le_refl p)]
      exact ⟨rfl, rfl⟩
    · have hmm : m = 16 := by omega
      have c2 : ¬ nI p ≤ 16 := by
        have h2 : ∀ p : Fin 25, ¬ p.val ≤ 16 → ¬ nI p.val ≤ 16 := by decide
        exact h2 ⟨p, hp⟩ c
      rw [if_neg c2, if_neg c2, q_shl, q_shl (skQ zA zB zC zD zF zT k 16).2, hmm, show (16 : Int32) = nI 16 from by decide, q_sub hp (by omega)]
      exact ⟨rfl, rfl⟩
  obtain ⟨s1, s2⟩ := hsl
  have w : ∀ x : Int64, (zF k).toInt * 2 ^ m ≤ x.toInt → x.toInt ≤ (zT k).toInt * 2 ^ m → (x * jshl 1 (nI (p - m))).toInt = x.toInt * 2 ^ (p - m) ∧ -(7 * 2 ^ p) ≤ x.toInt * 2 ^ (p - m) ∧ x.toInt * 2 ^ (p - m) ≤ 7 * 2 ^ p := by
    intro x h1 h2
    have k1 := q_absmul (x := x.toInt) (X := 7 * 2 ^ m) (y := 2 ^ (p - m)) (Y := 2 ^ (p - m)) ⟨by omega, by omega⟩ ⟨by omega, by omega⟩
    have k2 : 7 * (2 : Int) ^ m * 2 ^ (p - m) = 7 * 2 ^ p := by rw [Int.mul_assoc, hpw]
    rw [k2] at k1
    refine ⟨?_, k1.1, k1.2⟩
    rw [q_mulI, hUq] <;> (rw [hUq]; omega)
  obtain ⟨w1, w2, w3⟩ := w (skQ zA zB zC zD zF zT k (nI m)).1 hO'.1 (by omega)
  obtain ⟨v1, v2, v3⟩ := w (skQ zA zB zC zD zF zT k (nI m)).2 (by omega) hO'.2.2
  have hle : (skQ zA zB zC zD zF zT k (nI m)).1.toInt * 2 ^ (p - m) ≤ (skQ zA zB zC zD zF zT k (nI m)).2.toInt * 2 ^ (p - m) := Int.mul_le_mul_of_nonneg_right hO'.2.1 (by omega)
  have hB := q_B hp
  have hN : (-(jshl 64 (nI p))).toInt = -(64 * 2 ^ p) := by rw [q_negI (by rw [hB]; omega), hB]
  refine ⟨?_, ?_, ?_⟩
  · unfold fzX
    rw [← hm, hS, s1, s2, q_sub hp hmp]
    rfl
  · rw [s1, s2]
    unfold mIs
    rw [if_neg (by rw [q_lt, hN, w1]; omega), if_neg (by rw [q_lt, hB, v1]; omega), if_neg (by rw [q_lt, hB, w1]; omega), if_neg (by rw [q_lt, hN, v1]; omega)]
  · rw [s1, s2]
    exact ⟨by rw [w1]; omega, by rw [w1, v1]; exact hle, by rw [v1]; omega⟩
theorem q_kind {d p : Nat} (hd1 : 1 ≤ d) (hd7 : d ≤ 7) (hp : p < 25) {al ah bl bh : Int64} (A : Bd p al ah) (B : Bd p bl bh) (ab be zA zB zC zD zF zT : Nat → Int32) (x z : Int64) (k : Nat) :
    cmB d true al ah true bl bh (nI p) = mk_is d ab be zA zB zC zD zF zT x z k p al ah bl bh ∧ (mk_is d ab be zA zB zC zD zF zT x z k p al ah bl bh = true → cmL d true al ah true bl bh (nI p) = mk_lo d ab be zA zB zC zD zF zT x z k p al ah bl bh ∧ cmR d true al ah true bl bh (nI p) = mk_hi d ab be zA zB zC zD zF zT x z k p al ah bl bh ∧ Bd p (mk_lo d ab be zA zB zC zD zF zT x z k p al ah bl bh) (mk_hi d ab be zA zB zC zD zF zT x z k p al ah bl bh)) := by
  have hd0 : d = 1 ∨ d = 2 ∨ d = 3 ∨ d = 4 ∨ d = 5 ∨ d = 6 ∨ d = 7 := by omega
  rcases hd0 with rfl | rfl | rfl | rfl | rfl | rfl | rfl
  · exact q_k1 hp A B
  · exact q_k2 hp A B
  · exact q_k3 hp A B
  · exact q_k4 hp A B
  · exact q_k5 (a2 := bl) (b2 := bh) hp A x z
  · exact q_k6 (a2 := bl) (b2 := bh) hp A
  · exact q_k7 (a2 := bl) (b2 := bh) hp A x z
theorem q_kindN (d : Nat) {b3 : Bool} (l2 r2 l3 r3 : Int64) (i : Int32) {b2 : Bool} (h : ¬ (b2 = true ∧ b3 = true)) : cmB d b2 l2 r2 b3 l3 r3 i = false ∧ cmL d b2 l2 r2 b3 l3 r3 i = 0 ∧ cmR d b2 l2 r2 b3 l3 r3 i = 0 := by
  unfold cmB cmL cmR
  by_cases c1 : b2 = true
  · have c2 : ¬ b3 = true := fun z => h ⟨c1, z⟩
    rw [if_pos c1, if_neg c2, if_pos c1, if_neg c2, if_pos c1, if_neg c2]
    exact ⟨rfl, rfl, rfl⟩
  · rw [if_neg c1, if_neg c1, if_neg c1]
    exact ⟨rfl, rfl, rfl⟩
theorem q_shrB (x : Int64) {g : Nat} (hg : g < 40) : (jshr x (nI g)).toBitVec = x.toBitVec.sshiftRight g := by
  unfold jshr
  rw [Int64.toBitVec_shiftRight]
  have e : ∀ g : Fin 40, (((nI g.val).toInt64 &&& 63).toBitVec.smod 64).toNat = g.val := by decide
  rw [BitVec.sshiftRight_eq', e ⟨g, hg⟩]
theorem q_bit (x : Int64) {g : Nat} (hg : g < 40) : sp_X5_isMadeOf x (nI g) = x.toBitVec.getLsbD g := by
  have h1 : ((jshr x (nI g)) &&& 1 = 1) ↔ x.toBitVec.getLsbD g = true := by
    rw [← Int64.toBitVec_inj, Int64.toBitVec_and, q_shrB x hg]
    show x.toBitVec.sshiftRight g &&& 1#64 = 1#64 ↔ _
    rw [BitVec.and_one_eq_setWidth_ofBool_getLsbD, BitVec.getLsbD_sshiftRight]
    rw [Nat.add_zero, if_pos (show g < 64 by omega)]
    cases x.toBitVec.getLsbD g <;> decide
  unfold sp_X5_isMadeOf
  by_cases c : (jshr x (nI g)) &&& 1 = 1
  · rw [if_pos c, h1.mp c]
  · rw [if_neg c]
    exact (Bool.eq_false_iff.mpr (fun z => c (h1.mpr z))).symm
theorem q_bitor (x y : Int64) {g : Nat} (hg : g < 40) : sp_X5_isMadeOf (x ||| y) (nI g) = (sp_X5_isMadeOf x (nI g) || sp_X5_isMadeOf y (nI g)) := by
  rw [q_bit _ hg, q_bit _ hg, q_bit _ hg, Int64.toBitVec_or, BitVec.getLsbD_or]
theorem q_bit1 {n g : Nat} (hn : n < 40) (hg : g < 40) : sp_X5_isMadeOf (jshl 1 (nI n)) (nI g) = decide (g = n) := by
  rw [q_bit _ hg]
  have e : ∀ n : Fin 40, (jshl 1 (nI n.val)).toBitVec = BitVec.twoPow 64 n.val := by decide
  rw [e ⟨n, hn⟩, BitVec.getLsbD_twoPow]
  have h : n < 64 := by omega
  by_cases c : g = n
  · subst c
    simp [h]
  · have c2 : ¬ n = g := fun z => c z.symm
    simp [h, c, c2]

