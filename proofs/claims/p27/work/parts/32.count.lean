theorem q_and256 {u v c d : Nat} (hu : u < 2 ^ 8) (hc : c < 2 ^ 8) : (2 ^ 8 * v + u) &&& (2 ^ 8 * d + c) = 2 ^ 8 * (v &&& d) + (u &&& c) := by
  apply Nat.eq_of_testBit_eq
  intro j
  rw [Nat.testBit_and, Nat.testBit_two_pow_mul_add _ hu, Nat.testBit_two_pow_mul_add _ hc, Nat.testBit_two_pow_mul_add _ (Nat.and_lt_two_pow u hc)]
  split <;> rw [Nat.testBit_and]
/-- a mask of k bytes -/
def pm (c : Nat) : Nat → Nat
  | 0 => 0
  | k + 1 => 2 ^ 8 * pm c k + c
/-- byte by byte -/
def ln (f : Nat → Nat) : Nat → Nat → Nat
  | 0, _ => 0
  | k + 1, x => 256 * ln f k (x / 256) + f (x % 256)
def pcB (b : Nat) : Nat := b % 2 + b / 2 % 2 + b / 4 % 2 + b / 8 % 2 + b / 16 % 2 + b / 32 % 2 + b / 64 % 2 + b / 128 % 2
def pf1 (b : Nat) : Nat := b - ((b / 2) &&& 85)
def pf2 (b : Nat) : Nat := (b &&& 51) + ((b / 4) &&& 51)
def pf3 (b : Nat) : Nat := (b + b / 16) % 16
theorem pm_1 {b r : Nat} (hb : b < 256) (hr : r < 2) : (b / 2 + 128 * r) &&& 85 = (b / 2) &&& 85 := by
  have h : ∀ b : Fin 256, ∀ r : Fin 2, (b.val / 2 + 128 * r.val) &&& 85 = (b.val / 2) &&& 85 := by decide +kernel
  exact h ⟨b, hb⟩ ⟨r, hr⟩
theorem pm_2 {b r : Nat} (hb : b < 256) (hr : r < 4) : (b / 4 + 64 * r) &&& 51 = (b / 4) &&& 51 := by
  have h : ∀ b : Fin 256, ∀ r : Fin 4, (b.val / 4 + 64 * r.val) &&& 51 = (b.val / 4) &&& 51 := by decide +kernel
  exact h ⟨b, hb⟩ ⟨r, hr⟩
theorem pf_lt {b : Nat} (hb : b < 256) : pf1 b < 256 ∧ pf2 (pf1 b) < 256 ∧ pf2 (pf1 b) % 16 ≤ 4 ∧ pf2 (pf1 b) / 16 ≤ 4 ∧ pf3 (pf2 (pf1 b)) = pcB b ∧ pcB b ≤ 8 := by
  have h : ∀ b : Fin 256, pf1 b.val < 256 ∧ pf2 (pf1 b.val) < 256 ∧ pf2 (pf1 b.val) % 16 ≤ 4 ∧ pf2 (pf1 b.val) / 16 ≤ 4 ∧ pf3 (pf2 (pf1 b.val)) = pcB b.val ∧ pcB b.val ≤ 8 := by decide +kernel
  exact h ⟨b, hb⟩
theorem ps_1 : ∀ (k x : Nat), x < 256 ^ k → x - ((x / 2) &&& pm 85 k) = ln pf1 k x
  | 0, x, h => by
    have h0 : x = 0 := by omega
    subst h0
    rfl
  | k + 1, x, h => by
    have ih := ps_1 k (x / 256) (Nat.div_lt_of_lt_mul (by rw [Nat.pow_succ] at h; omega))
    have e2 : x / 2 = 2 ^ 8 * (x / 256 / 2) + (x % 256 / 2 + 128 * (x / 256 % 2)) := by omega
    have hr : x % 256 < 256 := Nat.mod_lt _ (by decide)
    have h1 : x / 2 &&& pm 85 (k + 1) = 2 ^ 8 * (x / 256 / 2 &&& pm 85 k) + (x % 256 / 2 &&& 85) := by
      rw [e2]
      show _ &&& (2 ^ 8 * pm 85 k + 85) = _
      rw [q_and256 (by omega) (by decide), pm_1 hr (Nat.mod_lt _ (by decide))]
    have h2 : (x / 256 / 2 &&& pm 85 k) ≤ x / 256 / 2 := Nat.and_le_left
    have h3 : (x % 256 / 2 &&& 85) ≤ x % 256 / 2 := Nat.and_le_left
    show x - (x / 2 &&& pm 85 (k + 1)) = 256 * ln pf1 k (x / 256) + (x % 256 - (x % 256 / 2 &&& 85))
    rw [h1, ← ih]
    omega
theorem ps_2 : ∀ (k x : Nat), x < 256 ^ k → (x &&& pm 51 k) + ((x / 4) &&& pm 51 k) = ln pf2 k x
  | 0, x, h => by
    show (x &&& 0) + ((x / 4) &&& 0) = 0
    rw [Nat.and_zero, Nat.and_zero]
  | k + 1, x, h => by
    have ih := ps_2 k (x / 256) (Nat.div_lt_of_lt_mul (by rw [Nat.pow_succ] at h; omega))
    have e1 : x = 2 ^ 8 * (x / 256) + x % 256 := by omega
    have e2 : x / 4 = 2 ^ 8 * (x / 256 / 4) + (x % 256 / 4 + 64 * (x / 256 % 4)) := by omega
    have hr : x % 256 < 256 := Nat.mod_lt _ (by decide)
    have h1 : x / 4 &&& pm 51 (k + 1) = 2 ^ 8 * (x / 256 / 4 &&& pm 51 k) + (x % 256 / 4 &&& 51) := by
      rw [e2]
      show _ &&& (2 ^ 8 * pm 51 k + 51) = _
      rw [q_and256 (by omega) (by decide), pm_2 hr (Nat.mod_lt _ (by decide))]
    have h2 : x &&& pm 51 (k + 1) = 2 ^ 8 * (x / 256 &&& pm 51 k) + (x % 256 &&& 51) := by
      have h9 : (2 ^ 8 * (x / 256) + x % 256) &&& (2 ^ 8 * pm 51 k + 51) = 2 ^ 8 * (x / 256 &&& pm 51 k) + (x % 256 &&& 51) := q_and256 hr (by decide)
      rw [← e1] at h9
      exact h9
    show (x &&& pm 51 (k + 1)) + (x / 4 &&& pm 51 (k + 1)) = 256 * ln pf2 k (x / 256) + ((x % 256 &&& 51) + (x % 256 / 4 &&& 51))
    rw [h1, h2, ← ih]
    omega
/-- no half byte is above 4 -/
def nib : Nat → Nat → Prop
  | 0, x => x = 0
  | k + 1, x => x % 256 % 16 ≤ 4 ∧ x % 256 / 16 ≤ 4 ∧ nib k (x / 256)
theorem nib_16 : ∀ (k x : Nat), nib k x → x % 16 ≤ 4
  | 0, x, h => by
    have h0 : x = 0 := h
    subst h0
    decide
  | k + 1, x, h => by
    have h1 := h.1
    omega
theorem ps_3 : ∀ (k x : Nat), nib k x → (x + x / 16) &&& pm 15 k = ln pf3 k x
  | 0, x, h => Nat.and_zero _
  | k + 1, x, h => by
    obtain ⟨h1, h2, h3⟩ := h
    have ih := ps_3 k (x / 256) h3
    have h4 := nib_16 k _ h3
    have e1 : x + x / 16 = 2 ^ 8 * (x / 256 + x / 256 / 16) + (x % 256 + x % 256 / 16 + 16 * (x / 256 % 16)) := by omega
    show (x + x / 16) &&& (2 ^ 8 * pm 15 k + 15) = 256 * ln pf3 k (x / 256) + (x % 256 + x % 256 / 16) % 16
    rw [e1, q_and256 (by omega) (by decide), ih]
    have e2 : (x % 256 + x % 256 / 16 + 16 * (x / 256 % 16)) &&& 15 = (x % 256 + x % 256 / 16 + 16 * (x / 256 % 16)) % 16 := Nat.and_two_pow_sub_one_eq_mod _ 4
    rw [e2]
    omega
theorem ln_lt {f : Nat → Nat} (hf : ∀ b, b < 256 → f b < 256) : ∀ (k x : Nat), ln f k x < 256 ^ k
  | 0, x => by
    show 0 < 1
    decide
  | k + 1, x => by
    have h1 := ln_lt hf k (x / 256)
    have h2 := hf (x % 256) (Nat.mod_lt _ (by decide))
    show 256 * ln f k (x / 256) + f (x % 256) < 256 ^ (k + 1)
    rw [Nat.pow_succ]
    omega
theorem ln_ln {f g : Nat → Nat} (hg : ∀ b, b < 256 → g b < 256) : ∀ (k x : Nat), ln f k (ln g k x) = ln (fun b => f (g b)) k x
  | 0, x => rfl
  | k + 1, x => by
    have h2 := hg (x % 256) (Nat.mod_lt _ (by decide))
    have e1 : ln g (k + 1) x / 256 = ln g k (x / 256) := by
      show (256 * ln g k (x / 256) + g (x % 256)) / 256 = _
      omega
    have e2 : ln g (k + 1) x % 256 = g (x % 256) := by
      show (256 * ln g k (x / 256) + g (x % 256)) % 256 = _
      omega
    show 256 * ln f k (ln g (k + 1) x / 256) + f (ln g (k + 1) x % 256) = 256 * ln (fun b => f (g b)) k (x / 256) + f (g (x % 256))
    rw [e1, e2, ln_ln hg k]
theorem ln_eq {f g : Nat → Nat} (h : ∀ b, b < 256 → f b = g b) : ∀ (k x : Nat), ln f k x = ln g k x
  | 0, x => rfl
  | k + 1, x => by
    show 256 * ln f k (x / 256) + f (x % 256) = 256 * ln g k (x / 256) + g (x % 256)
    rw [ln_eq h k, h _ (Nat.mod_lt _ (by decide))]
theorem ln_nib {f : Nat → Nat} (hf : ∀ b, b < 256 → f b < 256 ∧ f b % 16 ≤ 4 ∧ f b / 16 ≤ 4) : ∀ (k x : Nat), nib k (ln f k x)
  | 0, x => rfl
  | k + 1, x => by
    obtain ⟨h1, h2, h3⟩ := hf (x % 256) (Nat.mod_lt _ (by decide))
    have e1 : ln f (k + 1) x / 256 = ln f k (x / 256) := by
      show (256 * ln f k (x / 256) + f (x % 256)) / 256 = _
      omega
    have e2 : ln f (k + 1) x % 256 = f (x % 256) := by
      show (256 * ln f k (x / 256) + f (x % 256)) % 256 = _
      omega
    show ln f (k + 1) x % 256 % 16 ≤ 4 ∧ ln f (k + 1) x % 256 / 16 ≤ 4 ∧ nib k (ln f (k + 1) x / 256)
    rw [e1, e2]
    exact ⟨h2, h3, ln_nib hf k (x / 256)⟩
/-- the bits below k -/
def cn (x : Nat) : Nat → Nat
  | 0 => 0
  | k + 1 => cn x k + x / 2 ^ k % 2
theorem cn_s (x k : Nat) : cn x (k + 1) = cn x k + x / 2 ^ k % 2 := rfl
theorem ln_s (f : Nat → Nat) (k x : Nat) : ln f (k + 1) x = 256 * ln f k (x / 256) + f (x % 256) := rfl
theorem cn_q (x : Nat) : x % 256 % 2 = x / 1 % 2 ∧ x % 256 / 2 % 2 = x / 2 % 2 ∧ x % 256 / 4 % 2 = x / 4 % 2 ∧ x % 256 / 8 % 2 = x / 8 % 2 ∧ x % 256 / 16 % 2 = x / 16 % 2 ∧ x % 256 / 32 % 2 = x / 32 % 2 ∧ x % 256 / 64 % 2 = x / 64 % 2 ∧ x % 256 / 128 % 2 = x / 128 % 2 :=
  ⟨by omega, by omega, by omega, by omega, by omega, by omega, by omega, by omega⟩
theorem cn_8 (x : Nat) : ∀ k, cn x (k + 8) = pcB (x % 256) + cn (x / 256) k
  | 0 => by
    have h0 : cn x 0 = 0 := rfl
    have h1 : cn x 1 = cn x 0 + x / 1 % 2 := cn_s x 0
    have h2 : cn x 2 = cn x 1 + x / 2 % 2 := cn_s x 1
    have h3 : cn x 3 = cn x 2 + x / 4 % 2 := cn_s x 2
    have h4 : cn x 4 = cn x 3 + x / 8 % 2 := cn_s x 3
    have h5 : cn x 5 = cn x 4 + x / 16 % 2 := cn_s x 4
    have h6 : cn x 6 = cn x 5 + x / 32 % 2 := cn_s x 5
    have h7 : cn x 7 = cn x 6 + x / 64 % 2 := cn_s x 6
    have h8 : cn x 8 = cn x 7 + x / 128 % 2 := cn_s x 7
    have h9 : cn (x / 256) 0 = 0 := rfl
    have hp : pcB (x % 256) = x % 256 % 2 + x % 256 / 2 % 2 + x % 256 / 4 % 2 + x % 256 / 8 % 2 + x % 256 / 16 % 2 + x % 256 / 32 % 2 + x % 256 / 64 % 2 + x % 256 / 128 % 2 := rfl
    rw [Nat.zero_add, h8, h7, h6, h5, h4, h3, h2, h1, h0, h9, hp]
    obtain ⟨q0, q1, q2, q3, q4, q5, q6, q7⟩ := cn_q x
    rw [q0, q1, q2, q3, q4, q5, q6, q7, Nat.zero_add, Nat.add_zero]
  | k + 1 => by
    have ih := cn_8 x k
    have e1 : cn x (k + 1 + 8) = cn x (k + 8) + x / 2 ^ (k + 8) % 2 := by
      rw [show k + 1 + 8 = k + 8 + 1 by omega]
      exact cn_s x (k + 8)
    have e2 : x / 2 ^ (k + 8) = x / 256 / 2 ^ k := by
      rw [Nat.div_div_eq_div_mul, Nat.pow_add, Nat.mul_comm]
    rw [e1, cn_s (x / 256) k, ih, e2, Nat.add_assoc]
theorem ps_dv {x M q r : Nat} (h : x = r + M * q) (hr : r < M) : x / M = q := by
  rw [h, Nat.add_mul_div_left _ _ (Nat.lt_of_le_of_lt (Nat.zero_le r) hr), Nat.div_eq_of_lt hr, Nat.zero_add]
theorem ps_i1 (p0 p1 p2 p3 p4 p5 p6 p7 : Nat) : (256 * (256 * (256 * (256 * (256 * (256 * (256 * p7 + p6) + p5) + p4) + p3) + p2) + p1) + p0) + (256 * (256 * (256 * (256 * (256 * (256 * p7 + p6) + p5) + p4) + p3) + p2) + p1) = ((p0 + p1) + 256 * (p1 + p2)) + 65536 * (((p2 + p3) + 256 * (p3 + p4)) + 65536 * (((p4 + p5) + 256 * (p5 + p6)) + 65536 * ((p6 + p7) + 256 * p7))) := by omega
theorem ps_i2 (a b c d : Nat) : (a + 65536 * (b + 65536 * (c + 65536 * d))) + (b + 65536 * (c + 65536 * d)) = ((a + b) + 65536 * (b + c)) + 4294967296 * ((c + d) + 65536 * d) := by omega
theorem ps_i3 (p0 p1 p2 p3 p4 p5 p6 p7 : Nat) : ((((p0 + p1) + 256 * (p1 + p2)) + ((p2 + p3) + 256 * (p3 + p4))) + 65536 * (((p2 + p3) + 256 * (p3 + p4)) + ((p4 + p5) + 256 * (p5 + p6)))) + 4294967296 * ((((p4 + p5) + 256 * (p5 + p6)) + ((p6 + p7) + 256 * p7)) + 65536 * ((p6 + p7) + 256 * p7)) + ((((p4 + p5) + 256 * (p5 + p6)) + ((p6 + p7) + 256 * p7)) + 65536 * ((p6 + p7) + 256 * p7)) = (p0 + p1 + p2 + p3 + p4 + p5 + p6 + p7) + 128 * (2 * (p1 + p2 + p3 + p4) + 512 * (((p2 + p3) + 256 * (p3 + p4)) + ((p4 + p5) + 256 * (p5 + p6))) + 33554432 * ((((p4 + p5) + 256 * (p5 + p6)) + ((p6 + p7) + 256 * p7)) + 65536 * ((p6 + p7) + 256 * p7)) + 2 * (p5 + p6 + p7) + 512 * ((p6 + p7) + 256 * p7)) := by omega
theorem ps_b4 {a b c d : Nat} (ha : a ≤ 8) (hb : b ≤ 8) (hc : c ≤ 8) : (a + b) + 256 * (b + c) ≤ 4112 := by omega
theorem ps_b5 {a b c d : Nat} (ha : a ≤ 4112) (hb : b ≤ 4112) (hc : c ≤ 4112) (hd : d ≤ 4112) : (a + b) + 65536 * (b + c) < 4294967296 ∧ ((a + b) + 65536 * (b + c)) + 4294967296 * ((c + d) + 65536 * d) + ((c + d) + 65536 * d) < 18446744073709551616 := by omega
theorem ps_sum {x p0 p1 p2 p3 p4 p5 p6 p7 : Nat} (h0 : p0 ≤ 8) (h1 : p1 ≤ 8) (h2 : p2 ≤ 8) (h3 : p3 ≤ 8) (h4 : p4 ≤ 8) (h5 : p5 ≤ 8) (h6 : p6 ≤ 8) (h7 : p7 ≤ 8)
    (hx : x = 256 * (256 * (256 * (256 * (256 * (256 * (256 * p7 + p6) + p5) + p4) + p3) + p2) + p1) + p0) : ∃ y z : Nat, y = x + x / 256 ∧ z = y + y / 65536 ∧ z + z / 4294967296 < 18446744073709551616 ∧ (z + z / 4294967296) % 128 = p0 + p1 + p2 + p3 + p4 + p5 + p6 + p7 := by
  have a1 : x / 256 = 256 * (256 * (256 * (256 * (256 * (256 * p7 + p6) + p5) + p4) + p3) + p2) + p1 := ps_dv (r := p0) (hx.trans (Nat.add_comm _ _)) (Nat.lt_of_le_of_lt h0 (by decide))
  have a2 := ps_i1 p0 p1 p2 p3 p4 p5 p6 p7
  rw [← hx, ← a1] at a2
  have hA : (p0 + p1) + 256 * (p1 + p2) ≤ 4112 := ps_b4 (d := 0) h0 h1 h2
  have hB : (p2 + p3) + 256 * (p3 + p4) ≤ 4112 := ps_b4 (d := 0) h2 h3 h4
  have hC : (p4 + p5) + 256 * (p5 + p6) ≤ 4112 := ps_b4 (d := 0) h4 h5 h6
  have hD : (p6 + p7) + 256 * p7 ≤ 4112 := ps_b4 (d := 0) h6 h7 (Nat.zero_le 8)
  have a6 := ps_i3 p0 p1 p2 p3 p4 p5 p6 p7
  have hS : p0 + p1 + p2 + p3 + p4 + p5 + p6 + p7 < 128 := by clear hx a1 a2 a6 hA hB hC hD; omega
  generalize (p0 + p1) + 256 * (p1 + p2) = a at a2 a6 hA
  generalize (p2 + p3) + 256 * (p3 + p4) = b at a2 a6 hB
  generalize (p4 + p5) + 256 * (p5 + p6) = c at a2 a6 hC
  generalize (p6 + p7) + 256 * p7 = d at a2 a6 hD
  refine ⟨x + x / 256, x + x / 256 + (x + x / 256) / 65536, rfl, rfl, ?_⟩
  have a3 : (x + x / 256) / 65536 = b + 65536 * (c + 65536 * d) := ps_dv a2 (Nat.lt_of_le_of_lt hA (by decide))
  rw [a3, a2, ps_i2]
  obtain ⟨c1, c2⟩ := ps_b5 hA hB hC hD
  rw [ps_dv (x := (a + b) + 65536 * (b + c) + 4294967296 * ((c + d) + 65536 * d)) rfl c1]
  refine ⟨c2, ?_⟩
  rw [a6, Nat.add_mul_mod_self_left]
  exact Nat.mod_eq_of_lt hS
theorem ps_cn (x : Nat) : ∃ p0 p1 p2 p3 p4 p5 p6 p7 : Nat, (p0 ≤ 8 ∧ p1 ≤ 8 ∧ p2 ≤ 8 ∧ p3 ≤ 8 ∧ p4 ≤ 8 ∧ p5 ≤ 8 ∧ p6 ≤ 8 ∧ p7 ≤ 8) ∧ ln pcB 8 x = 256 * (256 * (256 * (256 * (256 * (256 * (256 * p7 + p6) + p5) + p4) + p3) + p2) + p1) + p0 ∧ cn x 64 = p0 + p1 + p2 + p3 + p4 + p5 + p6 + p7 := by
  have hb : ∀ z, pcB (z % 256) ≤ 8 := fun z => (pf_lt (Nat.mod_lt z (by decide))).2.2.2.2.2
  refine ⟨pcB (x % 256), pcB (x / 256 % 256), pcB (x / 256 / 256 % 256), pcB (x / 256 / 256 / 256 % 256), pcB (x / 256 / 256 / 256 / 256 % 256), pcB (x / 256 / 256 / 256 / 256 / 256 % 256), pcB (x / 256 / 256 / 256 / 256 / 256 / 256 % 256), pcB (x / 256 / 256 / 256 / 256 / 256 / 256 / 256 % 256), ⟨hb _, hb _, hb _, hb _, hb _, hb _, hb _, hb _⟩, ?_, ?_⟩
  · have e8 : ∀ z, ln pcB 8 z = 256 * ln pcB 7 (z / 256) + pcB (z % 256) := ln_s pcB 7
    have e7 : ∀ z, ln pcB 7 z = 256 * ln pcB 6 (z / 256) + pcB (z % 256) := ln_s pcB 6
    have e6 : ∀ z, ln pcB 6 z = 256 * ln pcB 5 (z / 256) + pcB (z % 256) := ln_s pcB 5
    have e5 : ∀ z, ln pcB 5 z = 256 * ln pcB 4 (z / 256) + pcB (z % 256) := ln_s pcB 4
    have e4 : ∀ z, ln pcB 4 z = 256 * ln pcB 3 (z / 256) + pcB (z % 256) := ln_s pcB 3
    have e3 : ∀ z, ln pcB 3 z = 256 * ln pcB 2 (z / 256) + pcB (z % 256) := ln_s pcB 2
    have e2 : ∀ z, ln pcB 2 z = 256 * ln pcB 1 (z / 256) + pcB (z % 256) := ln_s pcB 1
    have e1 : ∀ z, ln pcB 1 z = 256 * ln pcB 0 (z / 256) + pcB (z % 256) := ln_s pcB 0
    have e0 : ∀ z, ln pcB 0 z = 0 := fun _ => rfl
    rw [e8, e7, e6, e5, e4, e3, e2, e1, e0, Nat.mul_zero, Nat.zero_add]
  · have e8 : ∀ z, cn z 64 = pcB (z % 256) + cn (z / 256) 56 := fun z => cn_8 z 56
    have e7 : ∀ z, cn z 56 = pcB (z % 256) + cn (z / 256) 48 := fun z => cn_8 z 48
    have e6 : ∀ z, cn z 48 = pcB (z % 256) + cn (z / 256) 40 := fun z => cn_8 z 40
    have e5 : ∀ z, cn z 40 = pcB (z % 256) + cn (z / 256) 32 := fun z => cn_8 z 32
    have e4 : ∀ z, cn z 32 = pcB (z % 256) + cn (z / 256) 24 := fun z => cn_8 z 24
    have e3 : ∀ z, cn z 24 = pcB (z % 256) + cn (z / 256) 16 := fun z => cn_8 z 16
    have e2 : ∀ z, cn z 16 = pcB (z % 256) + cn (z / 256) 8 := fun z => cn_8 z 8
    have e1 : ∀ z, cn z 8 = pcB (z % 256) + cn (z / 256) 0 := fun z => cn_8 z 0
    have e0 : ∀ z, cn z 0 = 0 := fun _ => rfl
    rw [e8, e7, e6, e5, e4, e3, e2, e1, e0, Nat.add_zero]
    simp only [Nat.add_assoc]
theorem q_ushr (a : Int64) {i : Int32} {k : Nat} (hk : (i.toInt64.toUInt64 &&& Int64.toUInt64 63).toNat = k) (h64 : k < 64) : (jushr a i).toBitVec.toNat = a.toBitVec.toNat / 2 ^ k := by
  show (a.toUInt64 >>> (i.toInt64.toUInt64 &&& Int64.toUInt64 63)).toNat = _
  rw [UInt64.toNat_shiftRight, hk, Nat.mod_eq_of_lt h64, Nat.shiftRight_eq_div_pow]
  rfl
theorem ln_le {f : Nat → Nat} {M : Nat} (hf : ∀ b, b < 256 → f b ≤ M) : ∀ (k z : Nat), ln f k z ≤ M * pm 1 k
  | 0, z => Nat.zero_le _
  | k + 1, z => by
    have i1 := ln_le hf k (z / 256)
    have i2 := hf (z % 256) (Nat.mod_lt _ (by decide))
    rw [ln_s]
    show _ ≤ M * (2 ^ 8 * pm 1 k + 1)
    have e : M * (2 ^ 8 * pm 1 k + 1) = 256 * (M * pm 1 k) + M := by rw [Nat.mul_add, Nat.mul_one, Nat.mul_left_comm]
    rw [e]
    exact Nat.add_le_add (Nat.mul_le_mul_left 256 i1) i2
theorem ps_sub {x v : Nat} (hv : v ≤ x) (hx : x < 2 ^ 64) : (2 ^ 64 - v + x) % 2 ^ 64 = x - v := by omega
theorem ps_h9 {y : Nat} (h : y ≤ 4919131752989213764) : y + y / 2 ^ 4 < 2 ^ 64 := by omega
theorem ps_fin {y c : Nat} (h : y % 128 = c) : y % 2 ^ 32 % 2 ^ 7 = c % 2 ^ 32 := by omega
theorem q_bc1 (a : Int64) : (bc1 a).toBitVec.toNat = ln pf1 8 a.toBitVec.toNat := by
  have hx : a.toBitVec.toNat < 2 ^ 64 := a.toBitVec.isLt
  have k1 := ps_1 8 a.toBitVec.toNat hx
  have hle : (a.toBitVec.toNat / 2 &&& pm 85 8) ≤ a.toBitVec.toNat := Nat.le_trans Nat.and_le_left (Nat.div_le_self _ 2)
  have em : (Int64.toBitVec 6148914691236517205).toNat = pm 85 8 := by decide +kernel
  unfold bc1
  rw [Int64.toBitVec_sub, BitVec.toNat_sub, Int64.toBitVec_and, BitVec.toNat_and, q_ushr a (k := 1) (by decide) (by decide), em, Nat.pow_one, ← k1]
  exact ps_sub hle hx
theorem q_bc2 (a : Int64) : (bc2 a).toBitVec.toNat = ln pf2 8 a.toBitVec.toNat % 2 ^ 64 := by
  have hx : a.toBitVec.toNat < 2 ^ 64 := a.toBitVec.isLt
  have k2 := ps_2 8 a.toBitVec.toNat hx
  have em : (Int64.toBitVec 3689348814741910323).toNat = pm 51 8 := by decide +kernel
  have e4 : (2 : Nat) ^ 2 = 4 := rfl
  unfold bc2
  rw [Int64.toBitVec_add, BitVec.toNat_add, Int64.toBitVec_and, BitVec.toNat_and, Int64.toBitVec_and, BitVec.toNat_and, q_ushr a (k := 2) (by decide) (by decide), em, e4, k2]
theorem q_bc3 (a : Int64) (h : a.toBitVec.toNat ≤ 4919131752989213764) (hn : nib 8 a.toBitVec.toNat) : (bc3 a).toBitVec.toNat = ln pf3 8 a.toBitVec.toNat := by
  have k3 := ps_3 8 a.toBitVec.toNat hn
  have em : (Int64.toBitVec 1085102592571150095).toNat = pm 15 8 := by decide +kernel
  have e4 : (2 : Nat) ^ 4 = 16 := rfl
  unfold bc3
  rw [Int64.toBitVec_and, BitVec.toNat_and, Int64.toBitVec_add, BitVec.toNat_add, q_ushr a (k := 4) (by decide) (by decide), em, Nat.mod_eq_of_lt (ps_h9 h), e4, k3]
theorem q_bcs (a : Int64) {i : Int32} {k : Nat} (hk : (i.toInt64.toUInt64 &&& Int64.toUInt64 63).toNat = k) (h64 : k < 64) (h : a.toBitVec.toNat + a.toBitVec.toNat / 2 ^ k < 2 ^ 64) : (a + jushr a i).toBitVec.toNat = a.toBitVec.toNat + a.toBitVec.toNat / 2 ^ k := by
  rw [Int64.toBitVec_add, BitVec.toNat_add, q_ushr a hk h64]
  exact Nat.mod_eq_of_lt h
theorem q_popc (a : Int64) : sp_J13_bitCount_95d88 a = nI (cn a.toBitVec.toNat 64) := by
  obtain ⟨p0, p1, p2, p3, p4, p5, p6, p7, ⟨h0, h1, h2, h3, h4, h5, h6, h7⟩, hs, hc⟩ := ps_cn a.toBitVec.toNat
  obtain ⟨w, z, hw, hz, hlt, hmod⟩ := ps_sum h0 h1 h2 h3 h4 h5 h6 h7 hs
  rw [← hc] at hmod
  clear h0 h1 h2 h3 h4 h5 h6 h7 hs hc
  have b1 := q_bc1 a
  have hq : ∀ b, b < 256 → pf2 (pf1 b) ≤ 68 := fun b hb => by
    have h9 := (pf_lt hb).2.2
    omega
  have hl2 := ln_le (f := fun b => pf2 (pf1 b)) (M := 68) hq 8 a.toBitVec.toNat
  have hpm : 68 * pm 1 8 = 4919131752989213764 := by decide +kernel
  rw [hpm] at hl2
  have b2 : (bc2 (bc1 a)).toBitVec.toNat = ln (fun b => pf2 (pf1 b)) 8 a.toBitVec.toNat := by
    rw [q_bc2, b1, ln_ln (fun b hb => (pf_lt hb).1)]
    exact Nat.mod_eq_of_lt (Nat.lt_of_le_of_lt hl2 (by decide))
  have hn2 : nib 8 (ln (fun b => pf2 (pf1 b)) 8 a.toBitVec.toNat) := ln_nib (f := fun b => pf2 (pf1 b)) (fun b hb => ⟨(pf_lt hb).2.1, (pf_lt hb).2.2.1, (pf_lt hb).2.2.2.1⟩) 8 _
  have b3 : (bc3 (bc2 (bc1 a))).toBitVec.toNat = ln pcB 8 a.toBitVec.toNat := by
    rw [q_bc3 _ (by rw [b2]; exact hl2) (by rw [b2]; exact hn2), b2, ln_ln (g := fun b => pf2 (pf1 b)) (fun b hb => (pf_lt hb).2.1)]
    exact ln_eq (fun b hb => (pf_lt hb).2.2.2.2.1) 8 _
  have hzl : z < 2 ^ 64 := Nat.lt_of_le_of_lt (Nat.le_add_right z _) hlt
  have hwl : w < 2 ^ 64 := Nat.lt_of_le_of_lt (by rw [hz]; exact Nat.le_add_right w _) hzl
  have b4 : (bc4 (bc3 (bc2 (bc1 a)))).toBitVec.toNat = w := by
    unfold bc4
    rw [q_bcs (bc3 (bc2 (bc1 a))) (k := 8) (by decide) (by decide) (by rw [b3]; exact hw ▸ hwl), b3]
    exact hw.symm
  have b5 : (bc5 (bc4 (bc3 (bc2 (bc1 a))))).toBitVec.toNat = z := by
    unfold bc5
    rw [q_bcs (bc4 (bc3 (bc2 (bc1 a)))) (k := 16) (by decide) (by decide) (by rw [b4]; exact hz ▸ hzl), b4]
    exact hz.symm
  have b6 : (bc6 (bc5 (bc4 (bc3 (bc2 (bc1 a)))))).toBitVec.toNat = z + z / 4294967296 := by
    unfold bc6
    rw [q_bcs (bc5 (bc4 (bc3 (bc2 (bc1 a))))) (k := 32) (by decide) (by decide) (by rw [b5]; exact hlt), b5]
  unfold sp_J13_bitCount_95d88
  apply Int32.toBitVec_inj.mp
  apply BitVec.eq_of_toNat_eq
  rw [Int32.toBitVec_and, BitVec.toNat_and]
  have e7 : (Int32.toBitVec 127).toNat = 2 ^ 7 - 1 := by decide
  rw [e7, Nat.and_two_pow_sub_one_eq_mod]
  have e8 : (bc6 (bc5 (bc4 (bc3 (bc2 (bc1 a)))))).toInt32.toBitVec.toNat = (z + z / 4294967296) % 2 ^ 32 := by
    rw [← b6]
    generalize bc6 (bc5 (bc4 (bc3 (bc2 (bc1 a))))) = t
    show (t.toBitVec.signExtend 32).toNat = _
    rw [BitVec.signExtend_eq_setWidth_of_le _ (by decide), BitVec.toNat_setWidth]
  rw [e8]
  have e9 : (nI (cn a.toBitVec.toNat 64)).toBitVec.toNat = cn a.toBitVec.toNat 64 % 2 ^ 32 := by
    show (BitVec.ofNat 32 (cn a.toBitVec.toNat 64)).toNat = _
    rw [BitVec.toNat_ofNat]
  rw [e9]
  exact ps_fin hmod
theorem md_tr {n : Nat} {M Ch : Nat → Nat → Prop} (hC : ∀ j k, j < n → Ch j k → k < j) (hM : ∀ j k, j < n → (M j k ↔ (k = j ∨ ∃ o, Ch j o ∧ M o k))) : ∀ q, q < n → ∀ j k, j < n → M q j → Ch j k → M q k := by
  intro q
  induction q using Nat.strongRecOn with
  | ind q ih =>
    intro hq j k hj h1 h2
    rcases (hM q j hq).mp h1 with e | ⟨o, h3, h4⟩
    · subst e
      exact (hM j k hq).mpr (Or.inr ⟨k, h2, (hM k k (by have := hC j k hj h2; omega)).mpr (Or.inl rfl)⟩)
    · have ho := hC q o hq h3
      exact (hM q k hq).mpr (Or.inr ⟨o, h3, ih o ho (by omega) j k hj h4 h2⟩)
theorem md_main {n : Nat} {M Ch : Nat → Nat → Prop} (hC : ∀ j k, j < n → Ch j k → k < j) (hM : ∀ j k, j < n → (M j k ↔ (k = j ∨ ∃ o, Ch j o ∧ M o k))) : ∀ q, q < n → ∀ k, (M q k ↔ (k = q ∨ ∃ j, k < j ∧ j < n ∧ M q j ∧ Ch j k)) := by
  intro q
  induction q using Nat.strongRecOn with
  | ind q ih =>
    intro hq k
    constructor
    · intro h
      rcases (hM q k hq).mp h with e | ⟨o, h3, h4⟩
      · exact Or.inl e
      · have ho := hC q o hq h3
        rcases (ih o ho (by omega) k).mp h4 with e | ⟨j, g1, g2, g3, g4⟩
        · subst e
          exact Or.inr ⟨q, ho, hq, (hM q q hq).mpr (Or.inl rfl), h3⟩
        · exact Or.inr ⟨j, g1, g2, (hM q j hq).mpr (Or.inr ⟨o, h3, g3⟩), g4⟩
    · intro h
      rcases h with e | ⟨j, g1, g2, g3, g4⟩
      · exact (hM q k hq).mpr (Or.inl e)
      · exact md_tr hC hM q hq j k g2 g3 g4
theorem md_le {n : Nat} {M Ch : Nat → Nat → Prop} (hC : ∀ j k, j < n → Ch j k → k < j) (hM : ∀ j k, j < n → (M j k ↔ (k = j ∨ ∃ o, Ch j o ∧ M o k))) : ∀ q, q < n → ∀ k, M q k → k ≤ q := by
  intro q
  induction q using Nat.strongRecOn with
  | ind q ih =>
    intro hq k h
    rcases (hM q k hq).mp h with e | ⟨o, h3, h4⟩
    · omega
    · have ho := hC q o hq h3
      have := ih o ho (by omega) k h4
      omega
theorem inF_iff (an : Nat → Bool) (on ot : Nat → Int32) (k : Nat) : ∀ (m j : Nat) (b : Bool), inF an on ot k m j b = true ↔ (b = true ∨ ∃ t, j ≤ t ∧ t < j + m ∧ an t = true ∧ (on t = nI k ∨ ot t = nI k))
  | 0, j, b => by
    show b = true ↔ _
    constructor
    · exact fun h => Or.inl h
    · rintro (h | ⟨t, h1, h2, -⟩)
      · exact h
      · omega
  | m + 1, j, b => by
    show inF an on ot k m (j + 1) (if b = true then true else if an j = true then (if on j = nI k then true else if ot j = nI k then true else false) else false) = true ↔ _
    rw [inF_iff an on ot k m (j + 1)]
    constructor
    · rintro (h | ⟨t, h1, h2, h3⟩)
      · by_cases c1 : b = true
        · exact Or.inl c1
        · rw [if_neg c1] at h
          by_cases c2 : an j = true
          · rw [if_pos c2] at h
            by_cases c3 : on j = nI k
            · exact Or.inr ⟨j, Nat.le_refl j, by omega, c2, Or.inl c3⟩
            · rw [if_neg c3] at h
              by_cases c4 : ot j = nI k
              · exact Or.inr ⟨j, Nat.le_refl j, by omega, c2, Or.inr c4⟩
              · rw [if_neg c4] at h
                exact absurd h (by decide)
          · rw [if_neg c2] at h
            exact absurd h (by decide)
      · exact Or.inr ⟨t, by omega, by omega, h3⟩
    · rintro (h | ⟨t, h1, h2, h3, h4⟩)
      · exact Or.inl (if_pos h)
      · by_cases c1 : b = true
        · exact Or.inl (if_pos c1)
        · rcases Nat.lt_or_ge j t with q | q
          · exact Or.inr ⟨t, by omega, by omega, h3, h4⟩
          · have e : t = j := by omega
            subst e
            refine Or.inl ?_
            rw [if_neg c1, if_pos h3]
            by_cases c3 : on t = nI k
            · exact if_pos c3
            · rw [if_neg c3]
              exact if_pos (h4.resolve_left c3)
/-- the reference counts the set bits -/
theorem q_ouF {on ot : Nat → Int32} {pn q0 X : Nat} (hq : q0 < pn) (hpn : pn ≤ 40) (hB : ∀ k, k < pn → (X / 2 ^ k % 2 = 1 ↔ (k = q0 ∨ ∃ j, k < j ∧ j < pn ∧ X / 2 ^ j % 2 = 1 ∧ (on j = nI k ∨ ot j = nI k)))) : ∀ (n : Nat), n ≤ pn → ∀ (an : Nat → Bool) (c : Nat), (∀ j, n ≤ j → j < pn → (an j = true ↔ X / 2 ^ j % 2 = 1)) → (ouF on ot pn q0 n an (nI c)).2 = nI (c + cn X n) := by
  intro n
  induction n with
  | zero =>
    intro _ an c _
    rfl
  | succ n ih =>
    intro hn an c ha
    have hr : inR an on ot pn q0 n = true ↔ X / 2 ^ n % 2 = 1 := by
      show inF an on ot n (pn - (n + 1)) (n + 1) (if nI n = nI q0 then true else false) = true ↔ _
      rw [inF_iff, hB n (by omega)]
      constructor
      · rintro (h | ⟨t, h1, h2, h3, h4⟩)
        · refine Or.inl ?_
          by_cases c1 : nI n = nI q0
          · exact (nI_eq (by omega) (by omega)).mp c1
          · rw [if_neg c1] at h
            exact absurd h (by decide)
        · exact Or.inr ⟨t, by omega, by omega, (ha t h1 (by omega)).mp h3, h4⟩
      · rintro (h | ⟨t, h1, h2, h3, h4⟩)
        · subst h
          exact Or.inl (if_pos rfl)
        · exact Or.inr ⟨t, by omega, by omega, (ha t (by omega) h2).mpr h3, h4⟩
    have ha2 : ∀ j, n ≤ j → j < pn → (upZ an n (inR an on ot pn q0 n) j = true ↔ X / 2 ^ j % 2 = 1) := by
      intro j h1 h2
      unfold upZ
      by_cases e : j = n
      · subst e
        rw [if_pos rfl]
        exact hr
      · rw [if_neg e]
        exact ha j (by omega) h2
    show (ouF on ot pn q0 n (upZ an n (inR an on ot pn q0 n)) (if inR an on ot pn q0 n = true then nI c + 1 else nI c + 0)).2 = nI (c + (cn X n + X / 2 ^ n % 2))
    by_cases c1 : inR an on ot pn q0 n = true
    · rw [if_pos c1, nI_1, ih (by omega) _ _ ha2, hr.mp c1]
      congr 1
      omega
    · rw [if_neg c1, show nI c + 0 = nI c from Int32.add_zero _, ih (by omega) _ _ ha2]
      have h0 : X / 2 ^ n % 2 = 0 := by
        have h9 : ¬ X / 2 ^ n % 2 = 1 := fun z => c1 (hr.mpr z)
        omega
      rw [h0]
      congr 1
theorem cn_up {X n : Nat} (h : ∀ k, n ≤ k → X / 2 ^ k % 2 = 0) : ∀ m, cn X (n + m) = cn X n
  | 0 => rfl
  | m + 1 => by
    show cn X (n + m) + X / 2 ^ (n + m) % 2 = _
    rw [cn_up h m, h _ (by omega)]
    omega
theorem q_bitN (x : Int64) {g : Nat} (hg : g < 40) : sp_X5_isMadeOf x (nI g) = true ↔ x.toBitVec.toNat / 2 ^ g % 2 = 1 := by
  rw [q_bit x hg]
  show x.toBitVec.toNat.testBit g = true ↔ _
  rw [Nat.testBit_eq_decide_div_mod_eq, decide_eq_true_iff]
