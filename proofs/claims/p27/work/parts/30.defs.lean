def sp_X8_isProgram (pn : Nat) (k : Int32) : Bool := sp_X8_in k 0 ((nI pn) - 1)
def sp_X8_multiplies_lo_ (a : Int64) (b : Int64) (a2 : Int64) (b2 : Int64) (i : Int32) : Int64 := sp_X8_cut (sp_X8_least (sp_X8_least (a * a2) (a * b2)) (sp_X8_least (b * a2) (b * b2))) (jshl 1 i)
def sp_X8_multiplies_hi_ (a : Int64) (b : Int64) (a2 : Int64) (b2 : Int64) (i : Int32) : Int64 := sp_X8_fill (sp_X8_most (sp_X8_most (a * a2) (a * b2)) (sp_X8_most (b * a2) (b * b2))) (jshl 1 i)
theorem g64_le (a b : Int64) : a ≤ b ↔ a.toInt ≤ b.toInt := Int64.le_iff_toInt_le
def sp_X8_inverts_is_ (a : Int64) (b : Int64) : Bool := if 0 < a then true else if 0 ≤ b then false else true
def sp_X8_inverts_lo_ (lo_ : Int64) (a : Int64) (b : Int64) (i : Int32) : Int64 := if 0 < a then sp_X8_cut (jshl 1 (2 * i)) b else if 0 ≤ b then lo_ else sp_X8_cut (jshl 1 (2 * i)) b
def sp_X8_inverts_hi_ (hi_ : Int64) (a : Int64) (b : Int64) (i : Int32) : Int64 := if 0 < a then sp_X8_fill (jshl 1 (2 * i)) a else if 0 ≤ b then hi_ else sp_X8_fill (jshl 1 (2 * i)) a
def sp_X8_roots_hi_ (b : Int64) (i : Int32) : Int64 := if (jshl (sp_X8_most b 0) i) ≤ ((rtG 31 (jshl (sp_X8_most b 0) i) 0) * (rtG 31 (jshl (sp_X8_most b 0) i) 0)) then rtG 31 (jshl (sp_X8_most b 0) i) 0 else (rtG 31 (jshl (sp_X8_most b 0) i) 0) + 1
def exT (a b : Int64) (i : Int32) (k : Nat) (u : Int64 × Int64) : Int64 × Int64 := (sp_X8_cut (sp_X8_multiplies_lo_ a b u.1 u.2 i) (nI k).toInt64 + jshl 1 i, sp_X8_fill (sp_X8_multiplies_hi_ a b u.1 u.2 i) (nI k).toInt64 + jshl 1 i)
def exM (a b : Int64) (i : Int32) : Nat → Int64 × Int64 → Int64 × Int64
  | 0, u => u
  | n + 1, u => exM a b i n (exT a b i (n + 1) u)
def sp_X8_raises_is_ (a b : Int64) (i : Int32) : Bool := if a < -(jshl 1 i) then false else if jshl 1 i < b then false else true
def sp_X8_raises_lo_ (lo_ : Int64) (a b : Int64) (i : Int32) : Int64 := if a < -(jshl 1 i) then lo_ else if jshl 1 i < b then lo_ else (exM a b i 12 (jshl 1 i, jshl 1 i)).1 - 1
def sp_X8_raises_hi_ (hi_ : Int64) (a b : Int64) (i : Int32) : Int64 := if a < -(jshl 1 i) then hi_ else if jshl 1 i < b then hi_ else (exM a b i 12 (jshl 1 i, jshl 1 i)).2 + 1
def sp_X8_valueOf (zA zB zC zD : Nat → Int32) (k : Nat) (x : Int64) (i : Int32) : Int64 := (((((((zD k).toInt64) * x) + (((zC k).toInt64) * (jshl 1 i))) * x) + ((((zB k).toInt64) * (jshl 1 i)) * (jshl 1 i))) * x) + (((((zA k).toInt64) * (jshl 1 i)) * (jshl 1 i)) * (jshl 1 i))
def skM (f : Int64 → Int64) (s0 : Int64) : Nat → Int64 → Int64 → Int64 × Int64
  | 0, a, b => (a, b)
  | n + 1, a, b => if b - a ≤ 1 then (a, b) else skM f s0 n (if f (a + (b - a) / 2) = 0 then a + (b - a) / 2 else if f (a + (b - a) / 2) = s0 then a + (b - a) / 2 else a) (if f (a + (b - a) / 2) = 0 then a + (b - a) / 2 else if f (a + (b - a) / 2) = s0 then b else a + (b - a) / 2)
/-- the ends lie in range, and n halvings make them meet -/
def skI (n : Nat) (a b : Int64) : Prop := -1099511627776 ≤ a.toInt ∧ a.toInt ≤ b.toInt ∧ b.toInt ≤ 1099511627776 ∧ b.toInt - a.toInt ≤ 2 ^ n
theorem g64_sub {a b : Int64} (h1 : -1099511627776 ≤ a.toInt) (h2 : a.toInt ≤ b.toInt) (h3 : b.toInt ≤ 1099511627776) : (b - a).toInt = b.toInt - a.toInt := by
  rw [Int64.toInt_sub]
  apply Int.bmod_eq_of_le <;> omega
theorem skI_mid {n : Nat} {a b mid : Int64} (h : skI n a b) (e : mid = a + (b - a) / 2) : mid.toInt = a.toInt + (b.toInt - a.toInt) / 2 := by
  obtain ⟨h1, h2, h3, h4⟩ := h
  have e1 := g64_sub h1 h2 h3
  have e2 : ((b - a) / 2).toInt = (b.toInt - a.toInt) / 2 := by
    rw [Int64.toInt_div, e1, show (2 : Int64).toInt = 2 from by decide, Int.tdiv_eq_ediv_of_nonneg (by omega)]
    apply Int.bmod_eq_of_le <;> omega
  rw [e, Int64.toInt_add, e2]
  apply Int.bmod_eq_of_le <;> omega
theorem skI_c {n : Nat} {a b : Int64} (h : skI n a b) (c : ¬ b - a ≤ 1) : 2 ≤ b.toInt - a.toInt := by
  obtain ⟨h1, h2, h3, h4⟩ := h
  rw [g64_le, g64_sub h1 h2 h3, show (1 : Int64).toInt = 1 from by decide] at c
  omega
theorem skI_step {n : Nat} {a b mid : Int64} (h : skI (n + 1) a b) (c : ¬ b - a ≤ 1) (e : mid = a + (b - a) / 2) : skI n a mid ∧ skI n mid b ∧ skI n mid mid := by
  have hm := skI_mid h e
  have hc := skI_c h c
  obtain ⟨h1, h2, h3, h4⟩ := h
  have hp : (2 : Int) ^ (n + 1) = 2 * 2 ^ n := by rw [Int.pow_succ]; omega
  have hq : (0 : Int) < 2 ^ n := Int.pow_pos (by decide)
  rw [hp] at h4
  refine ⟨⟨h1, ?_, ?_, ?_⟩, ⟨?_, ?_, h3, ?_⟩, ⟨?_, ?_, ?_, ?_⟩⟩ <;> rw [hm] <;> omega
theorem skI_zero {a b : Int64} (h : skI 0 a b) : b - a ≤ 1 := by
  obtain ⟨h1, h2, h3, h4⟩ := h
  rw [g64_le, g64_sub h1 h2 h3, show (1 : Int64).toInt = 1 from by decide]
  have : (2 : Int) ^ 0 = 1 := by decide
  omega
def skQ (zA zB zC zD zF zT : Nat → Int32) (k : Nat) (its : Int32) : Int64 × Int64 := skM (fun x => sp_X8_sign (sp_X8_valueOf zA zB zC zD k x its)) (sp_X8_sign (sp_X8_valueOf zA zB zC zD k (jshl (zF k).toInt64 its) its)) 18 (jshl (zF k).toInt64 its) (jshl (zT k).toInt64 its)
def sp_X8_seeks_lo_ (zA zB zC zD zF zT : Nat → Int32) (k p : Nat) : Int64 := if nI p ≤ 16 then jshl (skQ zA zB zC zD zF zT k (nI p)).1 (nI p - nI p) else jshl (skQ zA zB zC zD zF zT k 16).1 (nI p - 16)
def sp_X8_seeks_hi_ (zA zB zC zD zF zT : Nat → Int32) (k p : Nat) : Int64 := if nI p ≤ 16 then jshl (skQ zA zB zC zD zF zT k (nI p)).2 (nI p - nI p) else jshl (skQ zA zB zC zD zF zT k 16).2 (nI p - 16)
def sp_X8_makes_0_is_ (ab : Nat → Int32) (be : Nat → Int32) (k : Nat) (p : Nat) : Bool := if (sp_X8_cut (jshl ((ab k).toInt64) (nI p)) ((be k).toInt64)) < (-(jshl 64 (nI p))) then false else if (jshl 64 (nI p)) < (sp_X8_fill (jshl ((ab k).toInt64) (nI p)) ((be k).toInt64)) then false else if (jshl 64 (nI p)) < (sp_X8_cut (jshl ((ab k).toInt64) (nI p)) ((be k).toInt64)) then false else if (sp_X8_fill (jshl ((ab k).toInt64) (nI p)) ((be k).toInt64)) < (-(jshl 64 (nI p))) then false else true
def sp_X8_makes_1_is_ (p : Nat) (al : Int64) (ah : Int64) (bl : Int64) (bh : Int64) : Bool := if (al + bl) < (-(jshl 64 (nI p))) then false else if (jshl 64 (nI p)) < (ah + bh) then false else if (jshl 64 (nI p)) < (al + bl) then false else if (ah + bh) < (-(jshl 64 (nI p))) then false else true
def sp_X8_makes_2_is_ (p : Nat) (al : Int64) (ah : Int64) (bl : Int64) (bh : Int64) : Bool := if (al - bh) < (-(jshl 64 (nI p))) then false else if (jshl 64 (nI p)) < (ah - bl) then false else if (jshl 64 (nI p)) < (al - bh) then false else if (ah - bl) < (-(jshl 64 (nI p))) then false else true
def sp_X8_makes_3_is_ (p : Nat) (al : Int64) (ah : Int64) (bl : Int64) (bh : Int64) : Bool := if (sp_X8_multiplies_lo_ al ah bl bh (nI p)) < (-(jshl 64 (nI p))) then false else if (jshl 64 (nI p)) < (sp_X8_multiplies_hi_ al ah bl bh (nI p)) then false else if (jshl 64 (nI p)) < (sp_X8_multiplies_lo_ al ah bl bh (nI p)) then false else if (sp_X8_multiplies_hi_ al ah bl bh (nI p)) < (-(jshl 64 (nI p))) then false else true
def sp_X8_makes_4_is_ (p : Nat) (al : Int64) (ah : Int64) (bl : Int64) (bh : Int64) : Bool := if (sp_X8_most al bl) < (-(jshl 64 (nI p))) then false else if (jshl 64 (nI p)) < (sp_X8_most ah bh) then false else if (jshl 64 (nI p)) < (sp_X8_most al bl) then false else if (sp_X8_most ah bh) < (-(jshl 64 (nI p))) then false else true
def sp_X8_makes_5_is_ (lo_ : Int64) (hi_ : Int64) (p : Nat) (al : Int64) (ah : Int64) : Bool := if (sp_X8_inverts_is_ al ah) = true then if (sp_X8_inverts_lo_ lo_ al ah (nI p)) < (-(jshl 64 (nI p))) then false else if (jshl 64 (nI p)) < (sp_X8_inverts_hi_ hi_ al ah (nI p)) then false else if (jshl 64 (nI p)) < (sp_X8_inverts_lo_ lo_ al ah (nI p)) then false else if (sp_X8_inverts_hi_ hi_ al ah (nI p)) < (-(jshl 64 (nI p))) then false else true else false
def sp_X8_makes_6_is_ (p : Nat) (al : Int64) (ah : Int64) : Bool := if (rtG 31 (jshl (sp_X8_most al 0) (nI p)) 0) < (-(jshl 64 (nI p))) then false else if (jshl 64 (nI p)) < (sp_X8_roots_hi_ ah (nI p)) then false else if (jshl 64 (nI p)) < (rtG 31 (jshl (sp_X8_most al 0) (nI p)) 0) then false else if (sp_X8_roots_hi_ ah (nI p)) < (-(jshl 64 (nI p))) then false else true
def sp_X8_makes_7_is_ (lo_ : Int64) (hi_ : Int64) (p : Nat) (al : Int64) (ah : Int64) : Bool := if (sp_X8_raises_is_ al ah (nI p)) = true then if (sp_X8_raises_lo_ lo_ al ah (nI p)) < (-(jshl 64 (nI p))) then false else if (jshl 64 (nI p)) < (sp_X8_raises_hi_ hi_ al ah (nI p)) then false else if (jshl 64 (nI p)) < (sp_X8_raises_lo_ lo_ al ah (nI p)) then false else if (sp_X8_raises_hi_ hi_ al ah (nI p)) < (-(jshl 64 (nI p))) then false else true else false
def sp_X8_makes_8_is_ (zA : Nat → Int32) (zB : Nat → Int32) (zC : Nat → Int32) (zD : Nat → Int32) (zF : Nat → Int32) (zT : Nat → Int32) (k : Nat) (p : Nat) : Bool := if (sp_X8_seeks_lo_ zA zB zC zD zF zT k p) < (-(jshl 64 (nI p))) then false else if (jshl 64 (nI p)) < (sp_X8_seeks_hi_ zA zB zC zD zF zT k p) then false else if (jshl 64 (nI p)) < (sp_X8_seeks_lo_ zA zB zC zD zF zT k p) then false else if (sp_X8_seeks_hi_ zA zB zC zD zF zT k p) < (-(jshl 64 (nI p))) then false else true
def mk_is (kd : Nat) (ab be zA zB zC zD zF zT : Nat → Int32) (lo_ hi_ : Int64) (k p : Nat) (al ah bl bh : Int64) : Bool := match kd with
  | 0 => sp_X8_makes_0_is_ ab be k p
  | 1 => sp_X8_makes_1_is_ p al ah bl bh
  | 2 => sp_X8_makes_2_is_ p al ah bl bh
  | 3 => sp_X8_makes_3_is_ p al ah bl bh
  | 4 => sp_X8_makes_4_is_ p al ah bl bh
  | 5 => sp_X8_makes_5_is_ lo_ hi_ p al ah
  | 6 => sp_X8_makes_6_is_ p al ah
  | 7 => sp_X8_makes_7_is_ lo_ hi_ p al ah
  | _ => sp_X8_makes_8_is_ zA zB zC zD zF zT k p
def mk_lo (kd : Nat) (ab be zA zB zC zD zF zT : Nat → Int32) (lo_ hi_ : Int64) (k p : Nat) (al ah bl bh : Int64) : Int64 := match kd with
  | 0 => sp_X8_cut (jshl ((ab k).toInt64) (nI p)) ((be k).toInt64)
  | 1 => al + bl
  | 2 => al - bh
  | 3 => sp_X8_multiplies_lo_ al ah bl bh (nI p)
  | 4 => sp_X8_most al bl
  | 5 => sp_X8_inverts_lo_ lo_ al ah (nI p)
  | 6 => rtG 31 (jshl (sp_X8_most al 0) (nI p)) 0
  | 7 => sp_X8_raises_lo_ lo_ al ah (nI p)
  | _ => sp_X8_seeks_lo_ zA zB zC zD zF zT k p
def mk_hi (kd : Nat) (ab be zA zB zC zD zF zT : Nat → Int32) (lo_ hi_ : Int64) (k p : Nat) (al ah bl bh : Int64) : Int64 := match kd with
  | 0 => sp_X8_fill (jshl ((ab k).toInt64) (nI p)) ((be k).toInt64)
  | 1 => ah + bh
  | 2 => ah - bl
  | 3 => sp_X8_multiplies_hi_ al ah bl bh (nI p)
  | 4 => sp_X8_most ah bh
  | 5 => sp_X8_inverts_hi_ hi_ al ah (nI p)
  | 6 => sp_X8_roots_hi_ ah (nI p)
  | 7 => sp_X8_raises_hi_ hi_ al ah (nI p)
  | _ => sp_X8_seeks_hi_ zA zB zC zD zF zT k p
def kaA (b x : Bool) : Bool := if b = true then true else if x = true then true else false
def kaL (b x : Bool) (z v : Int64) : Int64 := if b = true then (if x = true then sp_X8_most (2 * z) v else 2 * z) else v
def kaH (b x : Bool) (z v : Int64) : Int64 := if b = true then (if x = true then sp_X8_least (2 * z) v else 2 * z) else v
/-- what is told: whether, from where, to where -/
def tI (cF : Nat → Bool) : Nat → Bool
  | 0 => cF 0
  | p + 1 => kaA (tI cF p) (cF (p + 1))
def tL (cF : Nat → Bool) (cL : Nat → Int64) : Nat → Int64
  | 0 => cL 0
  | p + 1 => kaL (tI cF p) (cF (p + 1)) (tL cF cL p) (cL (p + 1))
def tH (cF : Nat → Bool) (cH : Nat → Int64) : Nat → Int64
  | 0 => cH 0
  | p + 1 => kaH (tI cF p) (cF (p + 1)) (tH cF cH p) (cH (p + 1))
def sp_X8_answer (at_ : Nat → Bool) (tl th : Nat → Int64) (k j p : Nat) : Int32 := if (at_ ((25 * k) + p)) = true then if (at_ ((25 * j) + p)) = true then if (tl ((25 * j) + p)) ≤ (th ((25 * k) + p)) then if (tl ((25 * k) + p)) ≤ (th ((25 * j) + p)) then 0 else 1 else -1 else 0 else 0
def dcF (f : Nat → Int32) : Nat → Nat → Nat
  | 0, p => p
  | n + 1, p => if f p = 0 then dcF f n (p + 1) else p
def dcR (x : Nat) : Int32 := if nI x = 25 then -1 else nI x
def plF (at_ : Nat → Bool) (tl th : Nat → Int64) (k f : Nat) : Nat → Int32 → Int32
  | 0, r => r
  | n + 1, r => plF at_ tl th k f n (if at_ (25 * k + (f + n)) = true then (if jshl 1 (nI (f + n) - nI f) < th (25 * k + (f + n)) - tl (25 * k + (f + n)) then r else nI (f + n)) else r)
def suF (tl th : Nat → Int64) (k p : Nat) : Nat → Nat → Nat
  | 0, j => j
  | n + 1, j => if sp_X8_cut (tl (25 * k + p) * tenF j 1) (jshl 1 (nI p)) = sp_X8_cut (th (25 * k + p) * tenF j 1) (jshl 1 (nI p)) then suF tl th k p n (j + 1) else j
def suR (at_ : Nat → Bool) (tl th : Nat → Int64) (k p : Nat) : Int32 := nI (if at_ (25 * k + p) = true then suF tl th k p 8 0 else 0) - 1
def dcV (x : Int64) (d : Nat) : Int32 := (if nI d = 0 then x else x - 10 * sp_X8_cut x 10).toInt32
def quF : Nat → Int64 → Int64 → Int64 → Int64 → Int64 → Bool → Bool × Int64
  | 0, _, _, _, _, t, sr => (sr, t)
  | n + 1, p, q, r, s, t, sr => if sr = true then (if p - t * q ≤ 0 then quF n p q r s t false else if r - t * s ≤ 0 then quF n p q r s t false else if sp_X8_cut q (p - t * q) = sp_X8_cut s (r - t * s) then quF n q (p - t * q) s (r - t * s) (sp_X8_cut q (p - t * q)) true else quF n q (p - t * q) s (r - t * s) (sp_X8_cut q (p - t * q)) false) else (sr, t)
def sp_X8_digitAt (at_ : Nat → Bool) (tl th : Nat → Int64) (di : Nat → Int32) (su : Nat → Int64) (k p : Nat) : Int32 := if (at_ ((25 * k) + p)) = true then if (di k) = 0 then if ((tl ((25 * k) + p)) - ((su k) * (jshl 1 ((nI p) - (di k))))) < (-(jshl 1 ((nI p) - (di k)))) then 2 else if ((th ((25 * k) + p)) - ((su k) * (jshl 1 ((nI p) - (di k))))) ≤ (jshl 1 ((nI p) - (di k))) then if (2 * ((tl ((25 * k) + p)) - ((su k) * (jshl 1 ((nI p) - (di k)))))) < (-(jshl 1 ((nI p) - (di k)))) then if ((tl ((25 * k) + p)) - ((su k) * (jshl 1 ((nI p) - (di k))))) < 0 then if 0 < ((th ((25 * k) + p)) - ((su k) * (jshl 1 ((nI p) - (di k))))) then 2 else -1 else 1 else if (jshl 1 ((nI p) - (di k))) < (2 * ((th ((25 * k) + p)) - ((su k) * (jshl 1 ((nI p) - (di k)))))) then if ((tl ((25 * k) + p)) - ((su k) * (jshl 1 ((nI p) - (di k))))) < 0 then if 0 < ((th ((25 * k) + p)) - ((su k) * (jshl 1 ((nI p) - (di k))))) then 2 else -1 else 1 else 0 else 2 else if (2 * ((tl ((25 * k) + p)) - ((su k) * (jshl 1 ((nI p) - (di k)))))) < (-(jshl 1 ((nI p) - (di k)))) then if ((tl ((25 * k) + p)) - ((su k) * (jshl 1 ((nI p) - (di k))))) < 0 then if 0 < ((th ((25 * k) + p)) - ((su k) * (jshl 1 ((nI p) - (di k))))) then 2 else -1 else 1 else if (jshl 1 ((nI p) - (di k))) < (2 * ((th ((25 * k) + p)) - ((su k) * (jshl 1 ((nI p) - (di k)))))) then if ((tl ((25 * k) + p)) - ((su k) * (jshl 1 ((nI p) - (di k))))) < 0 then if 0 < ((th ((25 * k) + p)) - ((su k) * (jshl 1 ((nI p) - (di k))))) then 2 else -1 else 1 else 0 else 2
def nxF (f : Nat → Int32) : Nat → Nat → Int32 → Int32
  | 0, _, x => x
  | n + 1, p, x => if x = 2 then nxF f n (p + 1) (f p) else x
def inF (an : Nat → Bool) (on ot : Nat → Int32) (k : Nat) : Nat → Nat → Bool → Bool
  | 0, _, b => b
  | m + 1, j, b => inF an on ot k m (j + 1) (if b = true then true else if an j = true then (if on j = nI k then true else if ot j = nI k then true else false) else false)
def inR (an : Nat → Bool) (on ot : Nat → Int32) (pn q0 n : Nat) : Bool := inF an on ot n (pn - (n + 1)) (n + 1) (if nI n = nI q0 then true else false)
def ouF (on ot : Nat → Int32) (pn q0 : Nat) : Nat → (Nat → Bool) → Int32 → (Nat → Bool) × Int32
  | 0, an, c => (an, c)
  | n + 1, an, c => ouF on ot pn q0 n (upZ an n (inR an on ot pn q0 n)) (if inR an on ot pn q0 n = true then c + 1 else c + 0)
