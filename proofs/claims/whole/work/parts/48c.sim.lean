def tn9 (x : Int32) : Nat := x.toInt.toNat
theorem tn9_nI {o : Nat} (h : o < 41) : tn9 (nI o) = o := by
  unfold tn9
  rw [q_nIi h]
  omega
section GSI
variable {kd : Nat → Nat} {on ot : Nat → Int32} {pt : Nat → Int64} {fb : Nat → Nat → Bool} {fl fh : Nat → Nat → Int64} {tb : Nat → Nat → Bool} {tl th : Nat → Nat → Int64} {dg : Nat → Int32} {ds : Nat → Int64} {ki on8 ot8 ab be zA zB zC zD zF zT : Nat → Int32} {fo : Nat → Bool} {lw hg : Nat → Int64} {at_ : Nat → Bool} {tl8 th8 : Nat → Int64} {di : Nat → Int32} {su : Nat → Int64} {n : Nat}
/-- what the programs would find, with one replaced -/
def gwP (kd : Nat → Nat) (on ot : Nat → Int32) (pt : Nat → Int64) (fb : Nat → Nat → Bool) (fl fh : Nat → Nat → Int64) (g jo p : Nat) (cW : Nat → Bool) (cX cY : Nat → Int64) (k : Nat) : Prop :=
  (k = g → cW k = sp_X6_load_b1 (fb jo) (fl jo) (fh jo) p ∧ cX k = sp_X6_load_lo1 (fb jo) (fl jo) (fh jo) p ∧ cY k = sp_X6_load_hi1 (fb jo) (fl jo) (fh jo) p)
  ∧ (k ≠ g → ¬ sp_X5_isMadeOf (pt k) (nI g) = true → cW k = sp_X6_load_b1 (fb k) (fl k) (fh k) p ∧ cX k = sp_X6_load_lo1 (fb k) (fl k) (fh k) p ∧ cY k = sp_X6_load_hi1 (fb k) (fl k) (fh k) p)
  ∧ (k ≠ g → sp_X5_isMadeOf (pt k) (nI g) = true → inX kd pt fb fl fh cW cX cY g p k (tn9 (on k)) (tn9 (ot k)))
theorem ls_cg {cW cW' : Nat → Bool} {cX cY cX' cY' : Nat → Int64} {g p o : Nat} (h1 : cW' o = cW o) (h2 : cX' o = cX o) (h3 : cY' o = cY o) : lsB pt fb fl fh cW' cX' cY' o g p = lsB pt fb fl fh cW cX cY o g p ∧ lsL pt fb fl fh cW' cX' cY' o g p = lsL pt fb fl fh cW cX cY o g p ∧ lsR pt fb fl fh cW' cX' cY' o g p = lsR pt fb fl fh cW cX cY o g p := by
  unfold lsB lsL lsR sp_X6_load_b1 sp_X6_load_lo1 sp_X6_load_hi1
  rw [h1, h2, h3]
  exact ⟨rfl, rfl, rfl⟩
theorem inX_cg {cW cW' : Nat → Bool} {cX cY cX' cY' : Nat → Int64} {g p k o1 o2 : Nat} (hk : cW' k = cW k ∧ cX' k = cX k ∧ cY' k = cY k) (h1 : cW' o1 = cW o1 ∧ cX' o1 = cX o1 ∧ cY' o1 = cY o1) (h2 : cW' o2 = cW o2 ∧ cX' o2 = cX o2 ∧ cY' o2 = cY o2) (h : inX kd pt fb fl fh cW cX cY g p k o1 o2) : inX kd pt fb fl fh cW' cX' cY' g p k o1 o2 := by
  obtain ⟨a1, a2, a3⟩ := ls_cg (pt := pt) (fb := fb) (fl := fl) (fh := fh) (g := g) (p := p) h1.1 h1.2.1 h1.2.2
  obtain ⟨b1, b2, b3⟩ := ls_cg (pt := pt) (fb := fb) (fl := fl) (fh := fh) (g := g) (p := p) h2.1 h2.2.1 h2.2.2
  unfold inX
  rw [hk.1, hk.2.1, hk.2.2, a1, a2, a3, b1, b2, b3]
  exact h
/-- a program made of another one has parts -/
theorem sm_pts (h : ∀ k, k < n → smS k kd on ot pt fb fl fh ki on8 ot8 ab be zA zB zC zD zF zT) (hn : n ≤ 40) {k g : Nat} (hk : k < n) (hg : g < 40) (hne : k ≠ g) (hM : sp_X5_isMadeOf (pt k) (nI g) = true) : ∃ o1 o2 : Nat, o1 < k ∧ o2 < k ∧ on k = nI o1 ∧ ot k = nI o2 ∧ (1 ≤ kd k ∧ kd k ≤ 7) ∧ smX fb fl fh k (mkX fb fl fh (kd k) o1 o2) := by
  rcases h k hk with ⟨-, -, -, e3, -⟩ | ⟨-, -, -, e3, -⟩ | ⟨o1, ho1, hd, -, ⟨e1, e2⟩, -, -, hx⟩ | ⟨o1, o2, ho1, ho2, hd, -, ⟨e1, e2⟩, -, -, hx⟩
  · rw [e3, q_bit1 (by omega) hg] at hM
    exact absurd (of_decide_eq_true hM).symm hne
  · rw [e3, q_bit1 (by omega) hg] at hM
    exact absurd (of_decide_eq_true hM).symm hne
  · exact ⟨o1, o1, ho1, ho1, e1, e2, by omega, hx⟩
  · exact ⟨o1, o2, ho1, ho2, e1, e2, by omega, hx⟩
theorem gw_ex (h : ∀ k, k < n → smS k kd on ot pt fb fl fh ki on8 ot8 ab be zA zB zC zD zF zT) (hn : n ≤ 40) {g : Nat} (hg : g < 40) (jo p : Nat) : ∀ m, m ≤ n → ∃ (cW : Nat → Bool) (cX cY : Nat → Int64), ∀ k, k < m → gwP kd on ot pt fb fl fh g jo p cW cX cY k
  | 0, _ => ⟨fun _ => false, fun _ => 0, fun _ => 0, fun k hk => absurd hk (Nat.not_lt_zero k)⟩
  | m + 1, hm => by
    obtain ⟨cW, cX, cY, hc⟩ := gw_ex h hn hg jo p m (by omega)
    have hold : ∀ (vW : Bool) (vX vY : Int64), ∀ k, k < m → gwP kd on ot pt fb fl fh g jo p (pst cW m vW) (pst cX m vX) (pst cY m vY) k := by
      intro vW vX vY k hk
      obtain ⟨c1, c2, c3⟩ := hc k hk
      have hne : k ≠ m := by omega
      refine ⟨fun e => ?_, fun e1 e2 => ?_, fun e1 e2 => ?_⟩
      · rw [pst_ne _ _ hne, pst_ne _ _ hne, pst_ne _ _ hne]
        exact c1 e
      · rw [pst_ne _ _ hne, pst_ne _ _ hne, pst_ne _ _ hne]
        exact c2 e1 e2
      · obtain ⟨o1, o2, ho1, ho2, q1, q2, -, -⟩ := sm_pts h hn (k := k) (by omega) hg e1 e2
        have t1 : tn9 (on k) = o1 := by rw [q1]; exact tn9_nI (by omega)
        have t2 : tn9 (ot k) = o2 := by rw [q2]; exact tn9_nI (by omega)
        have c4 := c3 e1 e2
        rw [t1, t2] at c4 ⊢
        exact inX_cg ⟨pst_ne _ _ hne, pst_ne _ _ hne, pst_ne _ _ hne⟩ ⟨pst_ne _ _ (by omega), pst_ne _ _ (by omega), pst_ne _ _ (by omega)⟩ ⟨pst_ne _ _ (by omega), pst_ne _ _ (by omega), pst_ne _ _ (by omega)⟩ c4
    have hall : ∀ (vW : Bool) (vX vY : Int64), gwP kd on ot pt fb fl fh g jo p (pst cW m vW) (pst cX m vX) (pst cY m vY) m → ∃ (cW : Nat → Bool) (cX cY : Nat → Int64), ∀ k, k < m + 1 → gwP kd on ot pt fb fl fh g jo p cW cX cY k := by
      intro vW vX vY hm9
      refine ⟨pst cW m vW, pst cX m vX, pst cY m vY, fun k hk => ?_⟩
      rcases Nat.lt_or_ge k m with c | c
      · exact hold vW vX vY k c
      · have e : k = m := by omega
        subst e
        exact hm9
    by_cases e : m = g
    · refine hall (sp_X6_load_b1 (fb jo) (fl jo) (fh jo) p) (sp_X6_load_lo1 (fb jo) (fl jo) (fh jo) p) (sp_X6_load_hi1 (fb jo) (fl jo) (fh jo) p) ⟨fun _ => ?_, fun z => absurd e z, fun z => absurd e z⟩
      rw [pst_at, pst_at, pst_at]
      exact ⟨rfl, rfl, rfl⟩
    · by_cases hM : sp_X5_isMadeOf (pt m) (nI g) = true
      · obtain ⟨o1, o2, ho1, ho2, q1, q2, -, -⟩ := sm_pts h hn (k := m) (by omega) hg e hM
        have t1 : tn9 (on m) = o1 := by rw [q1]; exact tn9_nI (by omega)
        have t2 : tn9 (ot m) = o2 := by rw [q2]; exact tn9_nI (by omega)
        refine hall (cmB (kd m) (lsB pt fb fl fh cW cX cY o1 g p) (lsL pt fb fl fh cW cX cY o1 g p) (lsR pt fb fl fh cW cX cY o1 g p) (lsB pt fb fl fh cW cX cY o2 g p) (lsL pt fb fl fh cW cX cY o2 g p) (lsR pt fb fl fh cW cX cY o2 g p) (nI p)) (cmL (kd m) (lsB pt fb fl fh cW cX cY o1 g p) (lsL pt fb fl fh cW cX cY o1 g p) (lsR pt fb fl fh cW cX cY o1 g p) (lsB pt fb fl fh cW cX cY o2 g p) (lsL pt fb fl fh cW cX cY o2 g p) (lsR pt fb fl fh cW cX cY o2 g p) (nI p)) (cmR (kd m) (lsB pt fb fl fh cW cX cY o1 g p) (lsL pt fb fl fh cW cX cY o1 g p) (lsR pt fb fl fh cW cX cY o1 g p) (lsB pt fb fl fh cW cX cY o2 g p) (lsL pt fb fl fh cW cX cY o2 g p) (lsR pt fb fl fh cW cX cY o2 g p) (nI p)) ⟨fun z => absurd z e, fun _ z => absurd hM z, fun _ _ => ?_⟩
        rw [t1, t2]
        unfold inX
        rw [pst_at, pst_at, pst_at]
        obtain ⟨a1, a2, a3⟩ := ls_cg (pt := pt) (fb := fb) (fl := fl) (fh := fh) (g := g) (p := p) (o := o1) (cW' := pst cW m (cmB (kd m) (lsB pt fb fl fh cW cX cY o1 g p) (lsL pt fb fl fh cW cX cY o1 g p) (lsR pt fb fl fh cW cX cY o1 g p) (lsB pt fb fl fh cW cX cY o2 g p) (lsL pt fb fl fh cW cX cY o2 g p) (lsR pt fb fl fh cW cX cY o2 g p) (nI p))) (cX' := pst cX m (cmL (kd m) (lsB pt fb fl fh cW cX cY o1 g p) (lsL pt fb fl fh cW cX cY o1 g p) (lsR pt fb fl fh cW cX cY o1 g p) (lsB pt fb fl fh cW cX cY o2 g p) (lsL pt fb fl fh cW cX cY o2 g p) (lsR pt fb fl fh cW cX cY o2 g p) (nI p))) (cY' := pst cY m (cmR (kd m) (lsB pt fb fl fh cW cX cY o1 g p) (lsL pt fb fl fh cW cX cY o1 g p) (lsR pt fb fl fh cW cX cY o1 g p) (lsB pt fb fl fh cW cX cY o2 g p) (lsL pt fb fl fh cW cX cY o2 g p) (lsR pt fb fl fh cW cX cY o2 g p) (nI p))) (pst_ne _ _ (by omega)) (pst_ne _ _ (by omega)) (pst_ne _ _ (by omega))
        obtain ⟨b1, b2, b3⟩ := ls_cg (pt := pt) (fb := fb) (fl := fl) (fh := fh) (g := g) (p := p) (o := o2) (cW' := pst cW m (cmB (kd m) (lsB pt fb fl fh cW cX cY o1 g p) (lsL pt fb fl fh cW cX cY o1 g p) (lsR pt fb fl fh cW cX cY o1 g p) (lsB pt fb fl fh cW cX cY o2 g p) (lsL pt fb fl fh cW cX cY o2 g p) (lsR pt fb fl fh cW cX cY o2 g p) (nI p))) (cX' := pst cX m (cmL (kd m) (lsB pt fb fl fh cW cX cY o1 g p) (lsL pt fb fl fh cW cX cY o1 g p) (lsR pt fb fl fh cW cX cY o1 g p) (lsB pt fb fl fh cW cX cY o2 g p) (lsL pt fb fl fh cW cX cY o2 g p) (lsR pt fb fl fh cW cX cY o2 g p) (nI p))) (cY' := pst cY m (cmR (kd m) (lsB pt fb fl fh cW cX cY o1 g p) (lsL pt fb fl fh cW cX cY o1 g p) (lsR pt fb fl fh cW cX cY o1 g p) (lsB pt fb fl fh cW cX cY o2 g p) (lsL pt fb fl fh cW cX cY o2 g p) (lsR pt fb fl fh cW cX cY o2 g p) (nI p))) (pst_ne _ _ (by omega)) (pst_ne _ _ (by omega)) (pst_ne _ _ (by omega))
        rw [a1, a2, a3, b1, b2, b3]
        exact ⟨rfl, rfl, rfl⟩
      · refine hall (sp_X6_load_b1 (fb m) (fl m) (fh m) p) (sp_X6_load_lo1 (fb m) (fl m) (fh m) p) (sp_X6_load_hi1 (fb m) (fl m) (fh m) p) ⟨fun z => absurd z e, fun _ _ => ?_, fun _ z => absurd z hM⟩
        rw [pst_at, pst_at, pst_at]
        exact ⟨rfl, rfl, rfl⟩
theorem gw_self (h : ∀ k, k < n → smS k kd on ot pt fb fl fh ki on8 ot8 ab be zA zB zC zD zF zT) (hn : n ≤ 40) {g : Nat} (hg : g < n) : sp_X5_isMadeOf (pt g) (nI g) = true := ((sm_M h hn g g hg).mpr (Or.inl rfl)).2
/-- what is loaded of a program is what it would find -/
theorem gw_ls (h : ∀ k, k < n → smS k kd on ot pt fb fl fh ki on8 ot8 ab be zA zB zC zD zF zT) (hn : n ≤ 40) {g jo p : Nat} (hg : g < n) {cW : Nat → Bool} {cX cY : Nat → Int64} {k : Nat} (hk : k < n) (hc : gwP kd on ot pt fb fl fh g jo p cW cX cY k) : lsB pt fb fl fh cW cX cY k g p = cW k ∧ (cW k = true → lsL pt fb fl fh cW cX cY k g p = cX k ∧ lsR pt fb fl fh cW cX cY k g p = cY k) := by
  by_cases hM : sp_X5_isMadeOf (pt k) (nI g) = true
  · unfold lsB lsL lsR
    rw [if_pos hM, if_pos hM, if_pos hM]
    unfold sp_X6_load_b1 sp_X6_load_lo1 sp_X6_load_hi1
    by_cases c : cW k = true
    · rw [if_pos c, if_pos c, if_pos c]
      exact ⟨c.symm, fun _ => ⟨rfl, rfl⟩⟩
    · rw [if_neg c]
      exact ⟨(Bool.eq_false_iff.mpr c).symm, fun z => absurd z c⟩
  · have hne : k ≠ g := fun e => by
      subst e
      exact hM (gw_self h hn hk)
    obtain ⟨e1, e2, e3⟩ := hc.2.1 hne hM
    unfold lsB lsL lsR
    rw [if_neg hM, if_neg hM, if_neg hM]
    exact ⟨e1.symm, fun _ => ⟨e2.symm, e3.symm⟩⟩
/-- of a program made of others: what it would find is made of what they would find -/
theorem gw_mk (h : ∀ k, k < n → smS k kd on ot pt fb fl fh ki on8 ot8 ab be zA zB zC zD zF zT) (hn : n ≤ 40) {g jo p : Nat} (hg : g < n) (hp : p < 25) {cW : Nat → Bool} {cX cY : Nat → Int64} (hc : ∀ k, k < n → gwP kd on ot pt fb fl fh g jo p cW cX cY k) {k : Nat} (hk : k < n) (hne : k ≠ g) {o1 o2 : Nat} (ho1 : o1 < k) (ho2 : o2 < k) (e1 : on k = nI o1) (e2 : ot k = nI o2) (hx : smX fb fl fh k (mkX fb fl fh (kd k) o1 o2)) (hpt : pt k = ((pt o1 ||| pt o2) ||| jshl 1 (nI k))) :
    cW k = cmB (kd k) (lsB pt fb fl fh cW cX cY o1 g p) (lsL pt fb fl fh cW cX cY o1 g p) (lsR pt fb fl fh cW cX cY o1 g p) (lsB pt fb fl fh cW cX cY o2 g p) (lsL pt fb fl fh cW cX cY o2 g p) (lsR pt fb fl fh cW cX cY o2 g p) (nI p) ∧ (cW k = true → cX k = cmL (kd k) (lsB pt fb fl fh cW cX cY o1 g p) (lsL pt fb fl fh cW cX cY o1 g p) (lsR pt fb fl fh cW cX cY o1 g p) (lsB pt fb fl fh cW cX cY o2 g p) (lsL pt fb fl fh cW cX cY o2 g p) (lsR pt fb fl fh cW cX cY o2 g p) (nI p) ∧ cY k = cmR (kd k) (lsB pt fb fl fh cW cX cY o1 g p) (lsL pt fb fl fh cW cX cY o1 g p) (lsR pt fb fl fh cW cX cY o1 g p) (lsB pt fb fl fh cW cX cY o2 g p) (lsL pt fb fl fh cW cX cY o2 g p) (lsR pt fb fl fh cW cX cY o2 g p) (nI p)) := by
  obtain ⟨-, c2, c3⟩ := hc k hk
  by_cases hM : sp_X5_isMadeOf (pt k) (nI g) = true
  · have c4 := c3 hne hM
    rw [e1, e2, tn9_nI (by omega), tn9_nI (by omega)] at c4
    exact ⟨c4.1, fun _ => c4.2⟩
  · obtain ⟨w1, w2, w3⟩ := c2 hne hM
    have hM1 : ¬ sp_X5_isMadeOf (pt o1) (nI g) = true := fun z => hM (by rw [hpt, q_bitor _ _ (by omega), q_bitor _ _ (by omega), z]; rfl)
    have hM2 : ¬ sp_X5_isMadeOf (pt o2) (nI g) = true := fun z => hM (by rw [hpt, q_bitor _ _ (by omega), q_bitor _ _ (by omega), z, Bool.or_true]; rfl)
    have hxp := hx p hp
    have x1 : fb k p = (mkX fb fl fh (kd k) o1 o2 p).1 := congrArg Prod.fst hxp
    have x2 : fl k p = (mkX fb fl fh (kd k) o1 o2 p).2.1 := congrArg (fun z => z.2.1) hxp
    have x3 : fh k p = (mkX fb fl fh (kd k) o1 o2 p).2.2 := congrArg (fun z => z.2.2) hxp
    unfold lsB lsL lsR
    rw [if_neg hM1, if_neg hM1, if_neg hM1, if_neg hM2, if_neg hM2, if_neg hM2, w1, w2, w3]
    unfold sp_X6_load_b1 sp_X6_load_lo1 sp_X6_load_hi1 at *
    by_cases c : fb k p = true
    · rw [if_pos c, if_pos c, if_pos c]
      exact ⟨c.symm.trans x1, fun _ => ⟨x2, x3⟩⟩
    · rw [if_neg c]
      exact ⟨(Bool.eq_false_iff.mpr c).symm.trans x1, fun z => absurd z (by decide)⟩
/-- the bounds of what would be found -/
theorem gw_B (h : ∀ k, k < n → smS k kd on ot pt fb fl fh ki on8 ot8 ab be zA zB zC zD zF zT) (hR : ∀ k, k < n → smR k fb fl fh fo lw hg) (hn : n ≤ 40) {g jo p : Nat} (hg : g < n) (hjo : jo < n) (hp : p < 25) {cW : Nat → Bool} {cX cY : Nat → Int64} (hc : ∀ k, k < n → gwP kd on ot pt fb fl fh g jo p cW cX cY k) : ∀ k, k < n → cW k = true → Bd p (cX k) (cY k) := by
  intro k
  induction k using Nat.strongRecOn with
  | ind k ih =>
    intro hk hw
    by_cases e : k = g
    · obtain ⟨e1, e2, e3⟩ := (hc k hk).1 e
      rw [e1] at hw
      rw [e2, e3]
      exact sm_B (hR jo hjo) hp hw
    · by_cases hM : sp_X5_isMadeOf (pt k) (nI g) = true
      · obtain ⟨o1, o2, ho1, ho2, q1, q2, ⟨hd1, hd7⟩, -⟩ := sm_pts h hn hk (by omega) e hM
        have c4 := (hc k hk).2.2 e hM
        rw [q1, q2, tn9_nI (by omega), tn9_nI (by omega)] at c4
        obtain ⟨w1, w2, w3⟩ := c4
        obtain ⟨a1, a2⟩ := gw_ls h hn hg (k := o1) (by omega) (hc o1 (by omega))
        obtain ⟨b1, b2⟩ := gw_ls h hn hg (k := o2) (by omega) (hc o2 (by omega))
        rw [w2, w3]
        rw [w1] at hw
        refine (q_mk hd1 hd7 hp (fun z => ?_) (fun z => ?_)).2.2 hw
        · rw [a1] at z
          rw [(a2 z).1, (a2 z).2]
          exact ih o1 ho1 (by omega) z
        · rw [b1] at z
          rw [(b2 z).1, (b2 z).2]
          exact ih o2 ho2 (by omega) z
      · obtain ⟨e1, e2, e3⟩ := (hc k hk).2.1 e hM
        rw [e1] at hw
        rw [e2, e3]
        exact sm_B (hR k hk) hp hw
/-- the reference finds the same with one replaced -/
theorem gw_H (h : ∀ k, k < n → smS k kd on ot pt fb fl fh ki on8 ot8 ab be zA zB zC zD zF zT) (hR : ∀ k, k < n → smR k fb fl fh fo lw hg) (hn : n ≤ 40) {g jo p : Nat} (hg : g < n) (hjo : jo < n) (hp : p < 25) {cW : Nat → Bool} {cX cY : Nat → Int64} (hc : ∀ k, k < n → gwP kd on ot pt fb fl fh g jo p cW cX cY k) : ∀ k, k < n → rpH ki on8 ot8 ab be zA zB zC zD zF zT cW cX cY g p k := by
  intro k hk
  have hB := gw_B h hR hn hg hjo hp hc
  rcases h k hk with ⟨hd, hki, ⟨e1, e2⟩, e3, e4, hx⟩ | ⟨hd, hki, ⟨e1, e2⟩, e3, u, e4, hx⟩ | ⟨o1, ho1, ⟨hd5, hd7⟩, hki, ⟨e1, e2⟩, ⟨f1, f2⟩, e3, hx⟩ | ⟨o1, o2, ho1, ho2, ⟨hd1, hd4⟩, hki, ⟨e1, e2⟩, ⟨f1, f2⟩, e3, hx⟩
  · refine ⟨0, by omega, hki, Or.inl ⟨e1, e2, fun hne x1 x2 x3 x4 => ?_⟩⟩
    have hM : ¬ sp_X5_isMadeOf (pt k) (nI g) = true := fun z => by
      rw [e3, q_bit1 (by omega) (by omega)] at z
      exact hne (of_decide_eq_true z).symm
    obtain ⟨w1, w2, w3⟩ := (hc k hk).2.1 hne hM
    obtain ⟨m1, m2, m3⟩ := (q_lf0 (k := k) (zA := zA) (zB := zB) (zC := zC) (zD := zD) (zF := zF) (zT := zT) hp e4).1 x1 x2 x3 x4
    have hxp := hx p hp
    have y1 : fb k p = (rtX (ab k) (be k) p).1 := congrArg Prod.fst hxp
    have y2 : fl k p = (rtX (ab k) (be k) p).2.1 := congrArg (fun z => z.2.1) hxp
    have y3 : fh k p = (rtX (ab k) (be k) p).2.2 := congrArg (fun z => z.2.2) hxp
    unfold sp_X6_load_b1 at w1
    unfold sp_X6_load_lo1 at w2
    unfold sp_X6_load_hi1 at w3
    by_cases c : fb k p = true
    · rw [if_pos c] at w1 w2 w3
      refine ⟨m1, (m2.trans y1.symm).trans (c.trans w1.symm), fun _ => ?_⟩
      obtain ⟨m4, m5⟩ := m3 (y1.symm.trans c)
      exact ⟨(m4.trans y2.symm).trans w2.symm, (m5.trans y3.symm).trans w3.symm⟩
    · rw [if_neg c] at w1
      exact ⟨m1, (m2.trans y1.symm).trans ((Bool.eq_false_iff.mpr c).trans w1.symm), fun z => absurd (w1.symm.trans z) (by decide)⟩
  · refine ⟨8, by omega, hki, Or.inl ⟨e1, e2, fun hne x1 x2 x3 x4 => ?_⟩⟩
    have hM : ¬ sp_X5_isMadeOf (pt k) (nI g) = true := fun z => by
      rw [e3, q_bit1 (by omega) (by omega)] at z
      exact hne (of_decide_eq_true z).symm
    obtain ⟨w1, w2, w3⟩ := (hc k hk).2.1 hne hM
    obtain ⟨m1, m2, m3⟩ := (q_lf8 (k := k) (ab := ab) (be := be) hp e4).1 x1 x2 x3 x4
    have hxp := hx p hp
    have y1 := congrArg Prod.fst hxp
    have y2 := congrArg (fun z : Bool × Int64 × Int64 => z.2.1) hxp
    have y3 := congrArg (fun z : Bool × Int64 × Int64 => z.2.2) hxp
    dsimp only at y1 y2 y3
    unfold sp_X6_load_b1 at w1
    unfold sp_X6_load_lo1 at w2
    unfold sp_X6_load_hi1 at w3
    by_cases c : fb k p = true
    · rw [if_pos c] at w1 w2 w3
      refine ⟨m1, (m2.trans y1.symm).trans (c.trans w1.symm), fun _ => ?_⟩
      obtain ⟨m4, m5⟩ := m3 (y1.symm.trans c)
      exact ⟨(m4.trans y2.symm).trans w2.symm, (m5.trans y3.symm).trans w3.symm⟩
    · rw [if_neg c] at w1
      exact ⟨m1, (m2.trans y1.symm).trans ((Bool.eq_false_iff.mpr c).trans w1.symm), fun z => absurd (w1.symm.trans z) (by decide)⟩
  · refine ⟨kd k, by omega, hki, Or.inr (Or.inl ⟨o1, ho1, f1, f2, fun hne => ?_⟩)⟩
    obtain ⟨w1, w2⟩ := gw_mk h hn hg hp hc hk hne ho1 ho1 e1 e2 hx e3
    obtain ⟨a1, a2⟩ := gw_ls h hn hg (k := o1) (by omega) (hc o1 (by omega))
    refine ⟨fun c x1 x2 x3 x4 => ?_, fun c => ?_⟩
    · rw [a1, (a2 c).1, (a2 c).2] at w1 w2
      obtain ⟨m1, m2, m3⟩ := q_mk1 hd5 hd7 hp (hB o1 (by omega)) c ab be zA zB zC zD zF zT k x1 x2 x3 x4
      refine ⟨m1, m2.trans w1.symm, fun z => ?_⟩
      obtain ⟨m4, m5⟩ := m3 (w1.symm.trans z)
      exact ⟨m4.trans (w2 z).1.symm, m5.trans (w2 z).2.symm⟩
    · rw [w1, a1]
      exact (q_kindN _ _ _ _ _ _ (fun z => c z.1)).1
  · refine ⟨kd k, by omega, hki, Or.inr (Or.inr ⟨o1, o2, ho1, ho2, f1, f2, fun hne => ?_⟩)⟩
    obtain ⟨w1, w2⟩ := gw_mk h hn hg hp hc hk hne ho1 ho2 e1 e2 hx e3
    obtain ⟨a1, a2⟩ := gw_ls h hn hg (k := o1) (by omega) (hc o1 (by omega))
    obtain ⟨b1, b2⟩ := gw_ls h hn hg (k := o2) (by omega) (hc o2 (by omega))
    refine ⟨fun c c' x3 x4 => ?_, fun c => ?_⟩
    · rw [a1, (a2 c).1, (a2 c).2, b1, (b2 c').1, (b2 c').2] at w1 w2
      obtain ⟨m1, m2, m3⟩ := (q_mk hd1 (by omega) hp (hB o1 (by omega)) (hB o2 (by omega))).1 c c' ab be zA zB zC zD zF zT k x3 x4
      refine ⟨m1, m2.trans w1.symm, fun z => ?_⟩
      obtain ⟨m4, m5⟩ := m3 (w1.symm.trans z)
      exact ⟨m4.trans (w2 z).1.symm, m5.trans (w2 z).2.symm⟩
    · rw [w1, a1, b1]
      exact (q_kindN _ _ _ _ _ _ c).1
end GSI
