def tn9 (x : Int32) : Nat := x.toInt.toNat
theorem tn9_nI {o : Nat} (h : o < 41) : tn9 (nI o) = o := by
  unfold tn9
  rw [q_nIi h]
  omega
theorem pst_at {α : Type} (f : Nat → α) (n : Nat) (v : α) : pst f n v n = v := if_pos rfl
theorem pst_ne {α : Type} (f : Nat → α) {n k : Nat} (v : α) (h : k ≠ n) : pst f n v k = f k := if_neg h
section GSI
variable {kd : Nat → Nat} {on ot : Nat → Int32} {pt : Nat → Int64} {fb : Nat → Nat → Bool} {fl fh : Nat → Nat → Int64} {n : Nat}
/-- what the programs would find, with one replaced -/
def gwP (kd : Nat → Nat) (on ot : Nat → Int32) (pt : Nat → Int64) (fb : Nat → Nat → Bool) (fl fh : Nat → Nat → Int64) (g jo p : Nat) (cW : Nat → Bool) (cX cY : Nat → Int64) (k : Nat) : Prop :=
  (k = g → cW k = sp_X6_load_b1 (fb jo) (fl jo) (fh jo) p ∧ cX k = sp_X6_load_lo1 (fb jo) (fl jo) (fh jo) p ∧ cY k = sp_X6_load_hi1 (fb jo) (fl jo) (fh jo) p)
  ∧ (k ≠ g → ¬ sp_X5_isMadeOf (pt k) (nI g) = true → cW k = sp_X6_load_b1 (fb k) (fl k) (fh k) p ∧ cX k = sp_X6_load_lo1 (fb k) (fl k) (fh k) p ∧ cY k = sp_X6_load_hi1 (fb k) (fl k) (fh k) p)
  ∧ (k ≠ g → sp_X5_isMadeOf (pt k) (nI g) = true → inX kd pt fb fl fh cW cX cY g p k (tn9 (on k)) (tn9 (ot k)))
theorem ls_cg {cW cW' : Nat → Bool} {cX cY cX' cY' : Nat → Int64} {g p o : Nat} (h1 : cW' o = cW o) (h2 : cX' o = cX o) (h3 : cY' o = cY o) : lsB pt fb fl fh cW' cX' cY' o g p = lsB pt fb fl fh cW cX cY o g p ∧ lsL pt fb fl fh cW' cX' cY' o g p = lsL pt fb fl fh cW cX cY o g p ∧ lsR pt fb fl fh cW' cX' cY' o g p = lsR pt fb fl fh cW cX cY o g p := by
  unfold lsB lsL lsR sp_X6_load_b1 sp_X6_load_lo1 sp_X6_load_hi1
  rw [h1, h2, h3]
  exact ⟨rfl, rfl, rfl⟩
theorem inX_cg {cW cW' : Nat → Bool} {cX cY cX' cY' : Nat → Int64} {g p k o1 o2 : Nat} (hk : cW' k = cW k ∧ cX' k = cX k ∧ cY' k = cY k) (h1 : cW' o1 = cW o1 ∧ cX' o1 = cX o1 ∧ cY' o1 = cY o1) (h2 : cW' o2 = cW o2 ∧ cX' o2 = cX o2 ∧ cY' o2 = cY o2) (h : inX kd pt fb fl fh cW cX cY g p k o1 o2) : inX kd pt fb fl fh cW' cX' cY' g p k o1 o2 := by
  obtain ⟨a1, a2, a3⟩ := ls_cg (pt := pt) (fb := fb) (fl := fl) (fh := fh) (g := g) (p := p) h1.1 h1.2.1 h1.2.2
  obtain ⟨b1, b2, b3⟩ := ls_cg (pt := pt) (fb := fb) (fl := fl) (fh := fh) (g := g) (p := p) h2.1 h2.2.1 h2.2.2
  unfold inX
  rw [hk.1, hk.2.1, hk.2.2, a1, a2, a3, b1, b2, b3]
  exact h
theorem gw_ex {g : Nat} (hpts : ∀ k, k < n → k ≠ g → sp_X5_isMadeOf (pt k) (nI g) = true → ∃ o1 o2 : Nat, o1 < k ∧ o2 < k ∧ on k = nI o1 ∧ ot k = nI o2) (hn : n ≤ 40) (jo p : Nat) : ∀ m, m ≤ n → ∃ (cW : Nat → Bool) (cX cY : Nat → Int64), ∀ k, k < m → gwP kd on ot pt fb fl fh g jo p cW cX cY k
  | 0, _ => ⟨fun _ => false, fun _ => 0, fun _ => 0, fun k hk => absurd hk (Nat.not_lt_zero k)⟩
  | m + 1, hm => by
    obtain ⟨cW, cX, cY, hc⟩ := gw_ex hpts hn jo p m (by omega)
    have hold : ∀ (vW : Bool) (vX vY : Int64), ∀ k, k < m → gwP kd on ot pt fb fl fh g jo p (pst cW m vW) (pst cX m vX) (pst cY m vY) k := by
      intro vW vX vY k hk
      obtain ⟨c1, c2, c3⟩ := hc k hk
      have hne : k ≠ m := by omega
      refine ⟨fun e => ?_, fun e1 e2 => ?_, fun e1 e2 => ?_⟩
      · rw [pst_ne _ _ hne, pst_ne _ _ hne, pst_ne _ _ hne]
        exact c1 e
      · rw [pst_ne _ _ hne, pst_ne _ _ hne, pst_ne _ _ hne]
        exact c2 e1 e2
      · obtain ⟨o1, o2, ho1, ho2, q1, q2⟩ := hpts k (by omega) e1 e2
        have t1 : tn9 (on k) = o1 := by rw [q1]; exact tn9_nI (by omega)
        have t2 : tn9 (ot k) = o2 := by rw [q2]; exact tn9_nI (by omega)
        have c4 := c3 e1 e2
        rw [t1, t2] at c4 ⊢
        exact inX_cg ⟨pst_ne _ _ hne, pst_ne _ _ hne, pst_ne _ _ hne⟩ ⟨pst_ne _ _ (by omega), pst_ne _ _ (by omega), pst_ne _ _ (by omega)⟩ ⟨pst_ne _ _ (by omega), pst_ne _ _ (by omega), pst_ne _ _ (by omega)⟩ c4
    have hall : ∀ (vW : Bool) (vX vY : Int64), gwP kd on ot pt fb fl fh g jo p (pst cW m vW) (pst cX m vX) (pst cY m vY) m → ∃ (cW : Nat → Bool) (cX cY : Nat → Int64), ∀ k, k < m + 1 → gwP kd on ot pt fb fl fh g jo p cW cX cY k := by
      intro vW vX vY hm9
      refine ⟨pst cW m vW, pst cX m vX, pst cY m vY, fun k hk => ?_⟩
      rcases Nat.lt_or_ge k m with c | c
      · exact hold vW vX vY k c
      · have e : k = m := by omega
        subst e
        exact hm9
    by_cases e : m = g
    · refine hall (sp_X6_load_b1 (fb jo) (fl jo) (fh jo) p) (sp_X6_load_lo1 (fb jo) (fl jo) (fh jo) p) (sp_X6_load_hi1 (fb jo) (fl jo) (fh jo) p) ⟨fun _ => ?_, fun z => absurd e z, fun z => absurd e z⟩
      rw [pst_at, pst_at, pst_at]
      exact ⟨rfl, rfl, rfl⟩
    · by_cases hM : sp_X5_isMadeOf (pt m) (nI g) = true
      · obtain ⟨o1, o2, ho1, ho2, q1, q2⟩ := hpts m (by omega) e hM
        have t1 : tn9 (on m) = o1 := by rw [q1]; exact tn9_nI (by omega)
        have t2 : tn9 (ot m) = o2 := by rw [q2]; exact tn9_nI (by omega)
        refine hall (cmB (kd m) (lsB pt fb fl fh cW cX cY o1 g p) (lsL pt fb fl fh cW cX cY o1 g p) (lsR pt fb fl fh cW cX cY o1 g p) (lsB pt fb fl fh cW cX cY o2 g p) (lsL pt fb fl fh cW cX cY o2 g p) (lsR pt fb fl fh cW cX cY o2 g p) (nI p)) (cmL (kd m) (lsB pt fb fl fh cW cX cY o1 g p) (lsL pt fb fl fh cW cX cY o1 g p) (lsR pt fb fl fh cW cX cY o1 g p) (lsB pt fb fl fh cW cX cY o2 g p) (lsL pt fb fl fh cW cX cY o2 g p) (lsR pt fb fl fh cW cX cY o2 g p) (nI p)) (cmR (kd m) (lsB pt fb fl fh cW cX cY o1 g p) (lsL pt fb fl fh cW cX cY o1 g p) (lsR pt fb fl fh cW cX cY o1 g p) (lsB pt fb fl fh cW cX cY o2 g p) (lsL pt fb fl fh cW cX cY o2 g p) (lsR pt fb fl fh cW cX cY o2 g p) (nI p)) ⟨fun z => absurd z e, fun _ z => absurd hM z, fun _ _ => ?_⟩
        rw [t1, t2]
        unfold inX
        rw [pst_at, pst_at, pst_at]
        obtain ⟨a1, a2, a3⟩ := ls_cg (pt := pt) (fb := fb) (fl := fl) (fh := fh) (g := g) (p := p) (o := o1) (cW' := pst cW m (cmB (kd m) (lsB pt fb fl fh cW cX cY o1 g p) (lsL pt fb fl fh cW cX cY o1 g p) (lsR pt fb fl fh cW cX cY o1 g p) (lsB pt fb fl fh cW cX cY o2 g p) (lsL pt fb fl fh cW cX cY o2 g p) (lsR pt fb fl fh cW cX cY o2 g p) (nI p))) (cX' := pst cX m (cmL (kd m) (lsB pt fb fl fh cW cX cY o1 g p) (lsL pt fb fl fh cW cX cY o1 g p) (lsR pt fb fl fh cW cX cY o1 g p) (lsB pt fb fl fh cW cX cY o2 g p) (lsL pt fb fl fh cW cX cY o2 g p) (lsR pt fb fl fh cW cX cY o2 g p) (nI p))) (cY' := pst cY m (cmR (kd m) (lsB pt fb fl fh cW cX cY o1 g p) (lsL pt fb fl fh cW cX cY o1 g p) (lsR pt fb fl fh cW cX cY o1 g p) (lsB pt fb fl fh cW cX cY o2 g p) (lsL pt fb fl fh cW cX cY o2 g p) (lsR pt fb fl fh cW cX cY o2 g p) (nI p))) (pst_ne _ _ (by omega)) (pst_ne _ _ (by omega)) (pst_ne _ _ (by omega))
        obtain ⟨b1, b2, b3⟩ := ls_cg (pt := pt) (fb := fb) (fl := fl) (fh := fh) (g := g) (p := p) (o := o2) (cW' := pst cW m (cmB (kd m) (lsB pt fb fl fh cW cX cY o1 g p) (lsL pt fb fl fh cW cX cY o1 g p) (lsR pt fb fl fh cW cX cY o1 g p) (lsB pt fb fl fh cW cX cY o2 g p) (lsL pt fb fl fh cW cX cY o2 g p) (lsR pt fb fl fh cW cX cY o2 g p) (nI p))) (cX' := pst cX m (cmL (kd m) (lsB pt fb fl fh cW cX cY o1 g p) (lsL pt fb fl fh cW cX cY o1 g p) (lsR pt fb fl fh cW cX cY o1 g p) (lsB pt fb fl fh cW cX cY o2 g p) (lsL pt fb fl fh cW cX cY o2 g p) (lsR pt fb fl fh cW cX cY o2 g p) (nI p))) (cY' := pst cY m (cmR (kd m) (lsB pt fb fl fh cW cX cY o1 g p) (lsL pt fb fl fh cW cX cY o1 g p) (lsR pt fb fl fh cW cX cY o1 g p) (lsB pt fb fl fh cW cX cY o2 g p) (lsL pt fb fl fh cW cX cY o2 g p) (lsR pt fb fl fh cW cX cY o2 g p) (nI p))) (pst_ne _ _ (by omega)) (pst_ne _ _ (by omega)) (pst_ne _ _ (by omega))
        rw [a1, a2, a3, b1, b2, b3]
        exact ⟨rfl, rfl, rfl⟩
      · refine hall (sp_X6_load_b1 (fb m) (fl m) (fh m) p) (sp_X6_load_lo1 (fb m) (fl m) (fh m) p) (sp_X6_load_hi1 (fb m) (fl m) (fh m) p) ⟨fun z => absurd z e, fun _ _ => ?_, fun _ z => absurd z hM⟩
        rw [pst_at, pst_at, pst_at]
        exact ⟨rfl, rfl, rfl⟩
end GSI
/-- what a program is made of -/
def frm (S : St) (k : Nat) : Prop := sPt S k = jshl 1 (nI k) ∨ (1 ≤ sKd S k ∧ sKd S k ≤ 7 ∧ ∃ o1 o2 : Nat, o1 < k ∧ o2 < k ∧ sOn S k = nI o1 ∧ sOt S k = nI o2 ∧ sPt S k = (sPt S o1 ||| sPt S o2) ||| jshl 1 (nI k) ∧ ∀ p, p < 25 → (sFb S k p, sFl S k p, sFh S k p) = mkX (sFb S) (sFl S) (sFh S) (sKd S k) o1 o2 p)
/-- its digits: their sum lies within a unit of what is told at the last place -/
def dgt (S : St) (k : Nat) : Prop := ∃ d : Nat, d ≤ 24 ∧ sDg S k = nI d ∧ -(2 ^ d) < (sDs S k).toInt ∧ (sDs S k).toInt < 2 ^ d ∧ (0 < d → sFb S k 24 = true ∧ ((sDs S k).toInt - 1) * 2 ^ (24 - d) ≤ (sFh S k 24).toInt ∧ (sFl S k 24).toInt ≤ ((sDs S k).toInt + 1) * 2 ^ (24 - d))
def rws (S : St) (k : Nat) : Prop := gdR (sFb S k) (sFl S k) (sFh S k) ∧ ∀ p, p < 25 → (sTb S k p, sTl S k p, sTh S k p) = nwA (sFb S k) (sFl S k) (sFh S k) (p + 1)
def SI (S : St) : Prop := sN S ≤ 40 ∧ ∀ k, k < sN S → rws S k ∧ frm S k ∧ dgt S k
theorem SI.bits {S : St} (h : SI S) : ∀ k, k < sN S → sp_X5_isMadeOf (sPt S k) (nI k) = true ∧ (∀ g, g < 40 → sp_X5_isMadeOf (sPt S k) (nI g) = true → g ≤ k) ∧ (sPt S k).toBitVec.toNat < 2 ^ (k + 1) := by
  have hn := h.1
  have one : ∀ k, k < 40 → (jshl 1 (nI k)).toBitVec.toNat = 2 ^ k := by
    intro k hk
    have e : ∀ k : Fin 40, (jshl 1 (nI k.val)).toBitVec.toNat = 2 ^ k.val := by decide
    exact e ⟨k, hk⟩
  intro k
  induction k using Nat.strongRecOn with
  | ind k ih =>
    intro hk
    have hp2 : 2 ^ (k + 1) = 2 * 2 ^ k := by rw [Nat.pow_succ]; omega
    have hp0 : 0 < 2 ^ k := Nat.pow_pos (by decide)
    rcases (h.2 k hk).2.1 with e | ⟨-, -, o1, o2, h1, h2, -, -, e, -⟩
    · rw [e]
      refine ⟨by rw [q_bit1 (by omega) (by omega)]; exact decide_eq_true rfl, fun g hg hM => ?_, ?_⟩
      · rw [q_bit1 (by omega) hg] at hM
        have := of_decide_eq_true hM
        omega
      · rw [one k (by omega)]
        omega
    · obtain ⟨a1, a2, a3⟩ := ih o1 h1 (by omega)
      obtain ⟨b1, b2, b3⟩ := ih o2 h2 (by omega)
      rw [e]
      refine ⟨?_, fun g hg hM => ?_, ?_⟩
      · rw [q_bitor _ _ (by omega), q_bit1 (by omega) (by omega), decide_eq_true rfl, Bool.or_true]
      · rw [q_bitor _ _ hg, q_bitor _ _ hg, q_bit1 (by omega) hg, Bool.or_eq_true, Bool.or_eq_true] at hM
        rcases hM with (w | w) | w
        · have := a2 g hg w; omega
        · have := b2 g hg w; omega
        · have := of_decide_eq_true w; omega
      · have l1 : 2 ^ (o1 + 1) ≤ 2 ^ (k + 1) := Nat.pow_le_pow_right (by decide) (by omega)
        have l2 : 2 ^ (o2 + 1) ≤ 2 ^ (k + 1) := Nat.pow_le_pow_right (by decide) (by omega)
        rw [Int64.toBitVec_or, Int64.toBitVec_or, BitVec.toNat_or, BitVec.toNat_or, one k (by omega)]
        exact Nat.or_lt_two_pow (Nat.or_lt_two_pow (by omega) (by omega)) (by omega)
theorem SI.pts {S : St} (h : SI S) {g : Nat} (hg : g < 40) : ∀ k, k < sN S → k ≠ g → sp_X5_isMadeOf (sPt S k) (nI g) = true → ∃ o1 o2 : Nat, o1 < k ∧ o2 < k ∧ sOn S k = nI o1 ∧ sOt S k = nI o2 ∧ 1 ≤ sKd S k ∧ sKd S k ≤ 7 ∧ ∀ p, p < 25 → (sFb S k p, sFl S k p, sFh S k p) = mkX (sFb S) (sFl S) (sFh S) (sKd S k) o1 o2 p := by
  intro k hk hne hM
  have hn := h.1
  rcases (h.2 k hk).2.1 with e | ⟨d1, d7, o1, o2, h1, h2, e1, e2, -, e3⟩
  · rw [e, q_bit1 (by omega) hg] at hM
    exact absurd (of_decide_eq_true hM).symm hne
  · exact ⟨o1, o2, h1, h2, e1, e2, d1, d7, e3⟩
/-- what would be found, for all programs: the ghosts of instead -/
def insH (S : St) (g jo p : Nat) (c : (Nat → Bool) × (Nat → Int64) × (Nat → Int64)) : Prop :=
  (∀ o, o < g → ¬ sp_X5_isMadeOf (sPt S o) (nI g) = true) ∧ (c.1 g = sp_X6_load_b1 (sFb S jo) (sFl S jo) (sFh S jo) p ∧ c.2.1 g = sp_X6_load_lo1 (sFb S jo) (sFl S jo) (sFh S jo) p ∧ c.2.2 g = sp_X6_load_hi1 (sFb S jo) (sFl S jo) (sFh S jo) p) ∧
  ∀ j, g < j → j < sN S → sp_X5_isMadeOf (sPt S j) (nI g) = true → ∃ o1 o2 : Nat, o1 < j ∧ o2 < j ∧ sOn S j = nI o1 ∧ sOt S j = nI o2 ∧ 1 ≤ sKd S j ∧ sKd S j ≤ 7 ∧ inX (sKd S) (sPt S) (sFb S) (sFl S) (sFh S) c.1 c.2.1 c.2.2 g p j o1 o2
noncomputable def insC (S : St) (g jo p : Nat) : (Nat → Bool) × (Nat → Int64) × (Nat → Int64) := Classical.epsilon (fun c => insH S g jo p c)
theorem SI.ins {S : St} (h : SI S) {g : Nat} (hg : g < sN S) (jo p : Nat) : insH S g jo p (insC S g jo p) := by
  have hn := h.1
  refine Classical.epsilon_spec (p := fun c => insH S g jo p c) ?_
  obtain ⟨cW, cX, cY, hc⟩ := gw_ex (kd := sKd S) (fb := sFb S) (fl := sFl S) (fh := sFh S) (g := g) (fun k hk hne hM => by
    obtain ⟨o1, o2, h1, h2, e1, e2, -⟩ := h.pts (by omega) k hk hne hM
    exact ⟨o1, o2, h1, h2, e1, e2⟩) hn jo p (sN S) (Nat.le_refl _)
  refine ⟨(cW, cX, cY), fun o ho hM => ?_, (hc g hg).1 rfl, fun j hj hjn hM => ?_⟩
  · have := (h.bits o (by omega)).2.1 g (by omega) hM
    omega
  · obtain ⟨o1, o2, h1, h2, e1, e2, d1, d7, -⟩ := h.pts (by omega) j hjn (by omega) hM
    have c3 := (hc j hjn).2.2 (by omega) hM
    rw [e1, e2, tn9_nI (by omega), tn9_nI (by omega)] at c3
    exact ⟨o1, o2, h1, h2, e1, e2, d1, d7, c3⟩
noncomputable abbrev iB (S : St) (k g jo p : Nat) : Bool := lsB (sPt S) (sFb S) (sFl S) (sFh S) (insC S g jo p).1 (insC S g jo p).2.1 (insC S g jo p).2.2 k g p
noncomputable abbrev iL (S : St) (k g jo p : Nat) : Int64 := lsL (sPt S) (sFb S) (sFl S) (sFh S) (insC S g jo p).1 (insC S g jo p).2.1 (insC S g jo p).2.2 k g p
noncomputable abbrev iR (S : St) (k g jo p : Nat) : Int64 := lsR (sPt S) (sFb S) (sFl S) (sFh S) (insC S g jo p).1 (insC S g jo p).2.1 (insC S g jo p).2.2 k g p
noncomputable def dIns (S : St) (a b c0 d0 : Int32) (bb : Bool) : Int64 := if okP (sN S) a = true then (if okP (sN S) b = true then (if okP (sN S) c0 = true then (if okP 25 d0 = true then (if iB S (ix a) (ix b) (ix c0) (ix d0) = true then gSl bb (iR S (ix a) (ix b) (ix c0) (ix d0)) (iL S (ix a) (ix b) (ix c0) (ix d0)) else vN) else vN) else vN) else vN) else vN
/-- a load, loaded once more -/
theorem ld_ld (fb : Nat → Bool) (fl fh : Nat → Int64) (p : Nat) {cW : Nat → Bool} {cX cY : Nat → Int64} {k : Nat} (h1 : cW k = sp_X6_load_b1 fb fl fh p) (h2 : cX k = sp_X6_load_lo1 fb fl fh p) (h3 : cY k = sp_X6_load_hi1 fb fl fh p) :
    sp_X6_load_b1 cW cX cY k = sp_X6_load_b1 fb fl fh p ∧ sp_X6_load_lo1 cW cX cY k = sp_X6_load_lo1 fb fl fh p ∧ sp_X6_load_hi1 cW cX cY k = sp_X6_load_hi1 fb fl fh p := by
  by_cases c : fb p = true
  · obtain ⟨e1, e2, e3⟩ := ld_y (fl := fl) (fh := fh) c
    rw [e1] at h1
    obtain ⟨g1, g2, g3⟩ := ld_y (fl := cX) (fh := cY) h1
    rw [g1, g2, g3, e1, h2, h3]
    exact ⟨rfl, rfl, rfl⟩
  · obtain ⟨e1, e2, e3⟩ := ld_n (fl := fl) (fh := fh) c
    rw [e1] at h1
    obtain ⟨g1, g2, g3⟩ := ld_n (fb := cW) (fl := cX) (fh := cY) (p := k) (by rw [h1]; decide)
    rw [g1, g2, g3, e1, e2, e3]
    exact ⟨rfl, rfl, rfl⟩
/-- the replaced one itself: what the other one finds -/
theorem SI.ins_self {S : St} (h : SI S) {g jo p : Nat} (hg : g < sN S) : iB S g g jo p = sp_X6_load_b1 (sFb S jo) (sFl S jo) (sFh S jo) p ∧ iL S g g jo p = sp_X6_load_lo1 (sFb S jo) (sFl S jo) (sFh S jo) p ∧ iR S g g jo p = sp_X6_load_hi1 (sFb S jo) (sFl S jo) (sFh S jo) p := by
  obtain ⟨-, ⟨h1, h2, h3⟩, -⟩ := h.ins hg jo p
  have hM := (h.bits g hg).1
  unfold iB iL iR lsB lsL lsR
  rw [if_pos hM, if_pos hM, if_pos hM]
  exact ld_ld _ _ _ p h1 h2 h3
/-- replaced by itself: as it is -/
theorem SI.ins_same {S : St} (h : SI S) {g p : Nat} (hg : g < sN S) (hp : p < 25) : ∀ k, k < sN S → iB S k g g p = sp_X6_load_b1 (sFb S k) (sFl S k) (sFh S k) p ∧ iL S k g g p = sp_X6_load_lo1 (sFb S k) (sFl S k) (sFh S k) p ∧ iR S k g g p = sp_X6_load_hi1 (sFb S k) (sFl S k) (sFh S k) p := by
  have hn := h.1
  obtain ⟨q1, q2, q3⟩ := h.ins hg g p
  intro k
  induction k using Nat.strongRecOn with
  | ind k ih =>
    intro hk
    by_cases e : k = g
    · subst e
      exact h.ins_self hg
    · by_cases hM : sp_X5_isMadeOf (sPt S k) (nI g) = true
      · have hgk : g < k := by
          have := (h.bits k hk).2.1 g (by omega) hM
          omega
        obtain ⟨o1, o2, h1, h2, e1, e2, d1, d7, i1, i2, i3⟩ := q3 k hgk hk hM
        obtain ⟨r1, r2, g1, g2, f1, f2, -, -, x⟩ := h.pts (by omega) k hk e hM
        have t1 : o1 = r1 := (nI_eq (by omega) (by omega)).mp (e1.symm.trans f1)
        have t2 : o2 = r2 := (nI_eq (by omega) (by omega)).mp (e2.symm.trans f2)
        subst t1
        subst t2
        obtain ⟨a1, a2, a3⟩ := ih o1 h1 (by omega)
        obtain ⟨b1, b2, b3⟩ := ih o2 h2 (by omega)
        have x1 := x p hp
        unfold mkX at x1
        simp only [Prod.mk.injEq] at x1
        obtain ⟨x2, x3, x4⟩ := x1
        have a1' : lsB (sPt S) (sFb S) (sFl S) (sFh S) (insC S g g p).1 (insC S g g p).2.1 (insC S g g p).2.2 o1 g p = _ := a1
        have a2' : lsL (sPt S) (sFb S) (sFl S) (sFh S) (insC S g g p).1 (insC S g g p).2.1 (insC S g g p).2.2 o1 g p = _ := a2
        have a3' : lsR (sPt S) (sFb S) (sFl S) (sFh S) (insC S g g p).1 (insC S g g p).2.1 (insC S g g p).2.2 o1 g p = _ := a3
        have b1' : lsB (sPt S) (sFb S) (sFl S) (sFh S) (insC S g g p).1 (insC S g g p).2.1 (insC S g g p).2.2 o2 g p = _ := b1
        have b2' : lsL (sPt S) (sFb S) (sFl S) (sFh S) (insC S g g p).1 (insC S g g p).2.1 (insC S g g p).2.2 o2 g p = _ := b2
        have b3' : lsR (sPt S) (sFb S) (sFl S) (sFh S) (insC S g g p).1 (insC S g g p).2.1 (insC S g g p).2.2 o2 g p = _ := b3
        rw [a1', a2', a3', b1', b2', b3', ← x2] at i1
        rw [a1', a2', a3', b1', b2', b3', ← x3] at i2
        rw [a1', a2', a3', b1', b2', b3', ← x4] at i3
        show lsB _ _ _ _ _ _ _ _ _ _ = _ ∧ lsL _ _ _ _ _ _ _ _ _ _ = _ ∧ lsR _ _ _ _ _ _ _ _ _ _ = _
        unfold lsB lsL lsR
        rw [if_pos hM, if_pos hM, if_pos hM]
        by_cases c : sFb S k p = true
        · rw [c] at i1
          obtain ⟨u1, u2, u3⟩ := ld_y (fl := (insC S g g p).2.1) (fh := (insC S g g p).2.2) i1
          obtain ⟨v1, v2, v3⟩ := ld_y (fl := sFl S k) (fh := sFh S k) c
          rw [u1, u2, u3, v1, v2, v3, i2, i3]
          exact ⟨rfl, rfl, rfl⟩
        · have i1' : ¬ (insC S g g p).1 k = true := by rw [i1]; exact c
          obtain ⟨u1, u2, u3⟩ := ld_n (fl := (insC S g g p).2.1) (fh := (insC S g g p).2.2) i1'
          obtain ⟨v1, v2, v3⟩ := ld_n (fl := sFl S k) (fh := sFh S k) c
          rw [u1, u2, u3, v1, v2, v3]
          exact ⟨rfl, rfl, rfl⟩
      · show lsB _ _ _ _ _ _ _ _ _ _ = _ ∧ lsL _ _ _ _ _ _ _ _ _ _ = _ ∧ lsR _ _ _ _ _ _ _ _ _ _ = _
        unfold lsB lsL lsR
        rw [if_neg hM, if_neg hM, if_neg hM]
        exact ⟨rfl, rfl, rfl⟩
theorem cn_le9 (x : Nat) : ∀ m, cn x m ≤ m
  | 0 => Nat.le_refl 0
  | m + 1 => by
    have := cn_le9 x m
    rw [cn_s]
    omega
/-- of how many: at least one, at most itself and all ahead -/
theorem SI.need {S : St} (h : SI S) {k : Nat} (hk : k < sN S) : ∃ c : Nat, 1 ≤ c ∧ c ≤ k + 1 ∧ sp_J13_bitCount_95d88 (sPt S k) = nI c := by
  have hn := h.1
  obtain ⟨b1, -, b3⟩ := h.bits k hk
  have hz : ∀ j, k + 1 ≤ j → (sPt S k).toBitVec.toNat / 2 ^ j % 2 = 0 := by
    intro j hj
    have : 2 ^ (k + 1) ≤ 2 ^ j := Nat.pow_le_pow_right (by decide) hj
    rw [Nat.div_eq_of_lt (by omega)]
  have hb := (q_bitN (sPt S k) (g := k) (by omega)).mp b1
  refine ⟨cn (sPt S k).toBitVec.toNat (k + 1), ?_, ?_, ?_⟩
  · rw [cn_s, hb]
    omega
  · exact cn_le9 _ _
  · rw [q_popc]
    have := cn_up (X := (sPt S k).toBitVec.toNat) (n := k + 1) hz (63 - k)
    rw [show k + 1 + (63 - k) = 64 by omega] at this
    rw [this]

