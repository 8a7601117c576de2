def vN : Int64 := -2100000000
def okP (n : Nat) (a : Int32) : Bool := decide (0 ≤ a.toInt ∧ a.toInt < (n : Int))
def ix (a : Int32) : Nat := a.toInt.toNat
theorem ix_nI {k : Nat} (hk : k < 2 ^ 31) : ix (nI k) = k := by
  unfold ix
  rw [nI_toInt hk]
  rfl
theorem ok_nI {n k : Nat} (hk : k < n) (hn : n < 2 ^ 31) : okP n (nI k) = true := by
  unfold okP
  rw [nI_toInt (by omega)]
  exact decide_eq_true ⟨by omega, by omega⟩
theorem ok_c {n : Nat} (hn : n < 2 ^ 31) (a : Int32) : (∃ k, k < n ∧ a = nI k ∧ okP n a = true ∧ ix a = k) ∨ (okP n a = false ∧ (a < 0 ∨ nI n ≤ a)) := by
  by_cases c : 0 ≤ a.toInt ∧ a.toInt < (n : Int)
  · left
    have e : a = nI a.toInt.toNat := by
      apply Int32.toInt_inj.mp
      rw [nI_toInt (by omega)]
      omega
    refine ⟨a.toInt.toNat, by omega, e, decide_eq_true c, rfl⟩
  · right
    refine ⟨decide_eq_false c, ?_⟩
    have e0 : (0 : Int32).toInt = 0 := rfl
    have en := nI_toInt hn
    rw [Int32.lt_iff_toInt_lt, Int32.le_iff_toInt_le, e0, en]
    omega
theorem ok_l {m : Nat} {M : Int32} (hm : m < 2 ^ 31) (hM : M.toInt + 1 = (m : Int)) {a : Int32} (h : a < 0 ∨ nI m ≤ a) : a < 0 ∨ ¬ a ≤ M := by
  have e0 : (0 : Int32).toInt = 0 := rfl
  have en := nI_toInt hm
  rw [Int32.lt_iff_toInt_lt, Int32.le_iff_toInt_le, e0, en] at h
  rw [Int32.lt_iff_toInt_lt, Int32.le_iff_toInt_le, e0]
  omega
/-- what one of the questions answers; what it leaves -/
def dRaw (S : St) (a b : Int32) (bb : Bool) : Int64 := if okP (sN S) a = true then (if okP 25 b = true then (if sp_X6_load_b1 (sFb S (ix a)) (sFl S (ix a)) (sFh S (ix a)) (ix b) = true then gSl bb (sp_X6_load_hi1 (sFb S (ix a)) (sFl S (ix a)) (sFh S (ix a)) (ix b)) (sp_X6_load_lo1 (sFb S (ix a)) (sFl S (ix a)) (sFh S (ix a)) (ix b)) else vN) else vN) else vN
def dTold (S : St) (a b : Int32) (bb : Bool) : Int64 := if okP (sN S) a = true then (if okP 25 b = true then (if sp_X6_load_b1 (sTb S (ix a)) (sTl S (ix a)) (sTh S (ix a)) (ix b) = true then gSl bb (sp_X6_load_hi1 (sTb S (ix a)) (sTl S (ix a)) (sTh S (ix a)) (ix b)) (sp_X6_load_lo1 (sTb S (ix a)) (sTl S (ix a)) (sTh S (ix a)) (ix b)) else vN) else vN) else vN
def dComp (S : St) (a b c : Int32) : Int64 := if okP (sN S) a = true then (if okP (sN S) b = true then (if okP 25 c = true then (sp_X7_compareAt (sTb S) (sTl S) (sTh S) (ix a) (ix b) (ix c)).toInt64 else vN) else vN) else vN
abbrev vSd (S : St) (k p : Nat) : Int32 := sdR (sp_X6_load_b1 (sTb S k) (sTl S k) (sTh S k) p) (sp_X6_load_lo1 (sTb S k) (sTl S k) (sTh S k) p) (sp_X6_load_hi1 (sTb S k) (sTl S k) (sTh S k) p) (nI p)
def dDecs (S : St) (a b : Int32) : Int64 := if okP (sN S) a = true then (if okP 25 b = true then (vSd S (ix a) (ix b)).toInt64 else vN) else vN
def dDec (S : St) (a b c : Int32) : Int64 := if okP (sN S) a = true then (if okP 25 b = true then (if okP 8 c = true then (if nI (ix c) ≤ vSd S (ix a) (ix b) then (dvX (sp_X7_cut (sp_X6_load_lo1 (sTb S (ix a)) (sTl S (ix a)) (sTh S (ix a)) (ix b) * tenF (ix c) 1) (sp_X7_unitsAt (nI (ix b)))) (ix c)).toInt64 else vN) else vN) else vN) else vN
abbrev vQu (S : St) (k p d : Nat) : Int64 × Int64 × Int64 × Int64 := quX d (sp_X6_load_lo1 (sTb S k) (sTl S k) (sTh S k) p) (sp_X7_unitsAt (nI p)) (sp_X6_load_hi1 (sTb S k) (sTl S k) (sTh S k) p) (sp_X7_unitsAt (nI p))
def dQuo (S : St) (a b c : Int32) : Int64 := if okP (sN S) a = true then (if okP 25 b = true then (if okP 25 c = true then (if sp_X6_load_b1 (sTb S (ix a)) (sTl S (ix a)) (sTh S (ix a)) (ix b) = true then (if sp_X7_isQuotientSure (vQu S (ix a) (ix b) (ix c)).1 (vQu S (ix a) (ix b) (ix c)).2.1 (vQu S (ix a) (ix b) (ix c)).2.2.1 (vQu S (ix a) (ix b) (ix c)).2.2.2 = true then ((sp_X1_whole (vQu S (ix a) (ix b) (ix c)).1 (vQu S (ix a) (ix b) (ix c)).2.1).toInt32).toInt64 else vN) else vN) else vN) else vN) else vN
abbrev vNx (S : St) (k : Nat) : Int32 := nxX (sp_X7_digitAt (sTb S) (sTl S) (sTh S) (sDg S) (sDs S) k) (24 - ix (sDg S k)) (ix (sDg S k) + 1)
def dNext (S : St) (a : Int32) : Int64 × St := if okP (sN S) a = true then (if ix (sDg S (ix a)) < 24 then (if vNx S (ix a) = 2 then (vN, S) else ((vNx S (ix a)).toInt64, sDig S (ix a) (sDg S (ix a) + 1) (2 * sDs S (ix a) + (vNx S (ix a)).toInt64))) else (vN, S)) else (vN, S)
def dEmi (S : St) (a : Int32) : Int64 := if okP (sN S) a = true then (sDg S (ix a)).toInt64 else vN
def dPar (S : St) (a : Int32) : Int64 := if okP (sN S) a = true then sDs S (ix a) else vN
def dRes (S : St) (a : Int32) : Int64 × St := if okP (sN S) a = true then ((sDg S (ix a)).toInt64, sDig S (ix a) 0 0) else (vN, S)
def dNeed (S : St) (a : Int32) : Int64 := if okP (sN S) a = true then (sp_J13_bitCount_95d88 (sPt S (ix a))).toInt64 else vN
def dRat (S : St) (a b : Int32) : Int64 × St := if a < -1000 ∨ ¬ a ≤ 1000 then (vN, S) else if b < 1 ∨ ¬ b ≤ 1000 then (vN, S) else if sN S < 40 then ((nI (sN S)).toInt64, sPush S 0 (-1) (-1) (jshl 1 (nI (sN S))) (rtX a b)) else (vN, S)
def dMake (S : St) (d : Nat) (a b : Int32) : Int64 × St := if okP (sN S) a = true then (if okP (sN S) b = true then (if sN S < 40 then ((nI (sN S)).toInt64, sPush S d (nI (ix a)) (nI (ix b)) ((sPt S (ix a) ||| sPt S (ix b)) ||| jshl 1 (nI (sN S))) (mkX (sFb S) (sFl S) (sFh S) d (ix a) (ix b))) else (vN, S)) else (vN, S)) else (vN, S)
def dZero (S : St) (a b c0 d0 fr hv : Int32) : Int32 × St := if a < -9 ∨ ¬ a ≤ 9 then (-2100000000, S) else if b < -9 ∨ ¬ b ≤ 9 then (-2100000000, S) else if c0 < -9 ∨ ¬ c0 ≤ 9 then (-2100000000, S) else if d0 < -9 ∨ ¬ d0 ≤ 9 then (-2100000000, S) else if fr < -4 ∨ ¬ fr ≤ 3 then (-2100000000, S) else if okP 3 hv = true then (if sN S < 40 then (if (sp_X4_signAt a.toInt64 b.toInt64 c0.toInt64 d0.toInt64 fr.toInt64 0) * (sp_X4_signAt a.toInt64 b.toInt64 c0.toInt64 d0.toInt64 (fr + (1 <<< (hv &&& 31))).toInt64 0) < 0 then (nI (sN S), sPush S 8 (-1) (-1) (jshl 1 (nI (sN S))) (fzX a.toInt64 b.toInt64 c0.toInt64 d0.toInt64 fr (ix hv))) else (-2100000000, S)) else (-2100000000, S)) else (-2100000000, S)
