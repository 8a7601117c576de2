section GSO
variable {kd : Nat → Nat} {on ot : Nat → Int32} {pt : Nat → Int64} {fb : Nat → Nat → Bool} {fl fh : Nat → Nat → Int64} {tb : Nat → Nat → Bool} {tl th : Nat → Nat → Int64} {dg : Nat → Int32} {ds : Nat → Int64} {ki on8 ot8 ab be zA zB zC zD zF zT : Nat → Int32} {fo : Nat → Bool} {lw hg : Nat → Int64} {at_ : Nat → Bool} {tl8 th8 : Nat → Int64} {di : Nat → Int32} {su : Nat → Int64} {n : Nat}
theorem mk_B (h : Sim n kd on ot pt fb fl fh tb tl th dg ds ki on8 ot8 ab be zA zB zC zD zF zT fo lw hg at_ tl8 th8 di su) {d o1 o2 : Nat} (hd1 : 1 ≤ d) (hd7 : d ≤ 7) (ho1 : o1 < n) (ho2 : o2 < n) : ∀ p, p < 25 → (mkX fb fl fh d o1 o2 p).1 = true → Bd p (mkX fb fl fh d o1 o2 p).2.1 (mkX fb fl fh d o1 o2 p).2.2 := fun _ hp =>
  (q_mk hd1 hd7 hp (fun c => sm_B (h.2 o1 ho1).2.1 hp c) (fun c => sm_B (h.2 o2 ho2).2.1 hp c)).2.2
theorem mk2_can (h : Sim n kd on ot pt fb fl fh tb tl th dg ds ki on8 ot8 ab be zA zB zC zD zF zT fo lw hg at_ tl8 th8 di su) {d o1 o2 : Nat} (hd1 : 1 ≤ d) (hd7 : d ≤ 7) (ho1 : o1 < n) (ho2 : o2 < n) : ∀ p, p < 25 → ∀ (_ _ x3 x4 : Int64), fo (25 * o1 + p) = true → fo (25 * o2 + p) = true → mkOK d be zF zT n (lw (25 * o1 + p)) (hg (25 * o1 + p)) ∧ mk_is d ab be zA zB zC zD zF zT x3 x4 n p (lw (25 * o1 + p)) (hg (25 * o1 + p)) (lw (25 * o2 + p)) (hg (25 * o2 + p)) = (fun p => (mkX fb fl fh d o1 o2 p).1) p ∧ ((fun p => (mkX fb fl fh d o1 o2 p).1) p = true → mk_lo d ab be zA zB zC zD zF zT x3 x4 n p (lw (25 * o1 + p)) (hg (25 * o1 + p)) (lw (25 * o2 + p)) (hg (25 * o2 + p)) = (fun p => (mkX fb fl fh d o1 o2 p).2.1) p ∧ mk_hi d ab be zA zB zC zD zF zT x3 x4 n p (lw (25 * o1 + p)) (hg (25 * o1 + p)) (lw (25 * o2 + p)) (hg (25 * o2 + p)) = (fun p => (mkX fb fl fh d o1 o2 p).2.2) p) := by
  intro p hp _ _ x3 x4 c1 c2
  obtain ⟨a1, a2⟩ := sm_ld (h.2 o1 ho1).2.1 hp
  obtain ⟨b1, b2⟩ := sm_ld (h.2 o2 ho2).2.1 hp
  have hk := (q_mk hd1 hd7 hp (fun c => sm_B (h.2 o1 ho1).2.1 hp c) (fun c => sm_B (h.2 o2 ho2).2.1 hp c)).1 (a1.trans c1) (b1.trans c2) ab be zA zB zC zD zF zT n x3 x4
  rw [(a2 c1).1, (a2 c1).2, (b2 c2).1, (b2 c2).2] at hk
  show _ ∧ _ = (mkX fb fl fh d o1 o2 p).1 ∧ ((mkX fb fl fh d o1 o2 p).1 = true → _ = (mkX fb fl fh d o1 o2 p).2.1 ∧ _ = (mkX fb fl fh d o1 o2 p).2.2)
  unfold mkX
  rw [(a2 c1).1, (a2 c1).2, (b2 c2).1, (b2 c2).2]
  exact hk
theorem mk2_no (h : Sim n kd on ot pt fb fl fh tb tl th dg ds ki on8 ot8 ab be zA zB zC zD zF zT fo lw hg at_ tl8 th8 di su) {d o1 o2 : Nat} (ho1 : o1 < n) (ho2 : o2 < n) : ∀ p, p < 25 → ¬ (fo (25 * o1 + p) = true ∧ fo (25 * o2 + p) = true) → (fun p => (mkX fb fl fh d o1 o2 p).1) p = false := by
  intro p hp hno
  obtain ⟨a1, -⟩ := sm_ld (h.2 o1 ho1).2.1 hp
  obtain ⟨b1, -⟩ := sm_ld (h.2 o2 ho2).2.1 hp
  exact (q_kindN d _ _ _ _ (nI p) (fun z => hno ⟨a1.symm.trans z.1, b1.symm.trans z.2⟩)).1
theorem mk1_can (h : Sim n kd on ot pt fb fl fh tb tl th dg ds ki on8 ot8 ab be zA zB zC zD zF zT fo lw hg at_ tl8 th8 di su) {d o1 : Nat} (hd5 : 5 ≤ d) (hd7 : d ≤ 7) (ho1 : o1 < n) : ∀ p, p < 25 → ∀ (x1 x2 x3 x4 : Int64), fo (25 * o1 + p) = true → mkOK d be zF zT n (lw (25 * o1 + p)) (hg (25 * o1 + p)) ∧ mk_is d ab be zA zB zC zD zF zT x3 x4 n p (lw (25 * o1 + p)) (hg (25 * o1 + p)) x1 x2 = (fun p => (mkX fb fl fh d o1 o1 p).1) p ∧ ((fun p => (mkX fb fl fh d o1 o1 p).1) p = true → mk_lo d ab be zA zB zC zD zF zT x3 x4 n p (lw (25 * o1 + p)) (hg (25 * o1 + p)) x1 x2 = (fun p => (mkX fb fl fh d o1 o1 p).2.1) p ∧ mk_hi d ab be zA zB zC zD zF zT x3 x4 n p (lw (25 * o1 + p)) (hg (25 * o1 + p)) x1 x2 = (fun p => (mkX fb fl fh d o1 o1 p).2.2) p) := by
  intro p hp x1 x2 x3 x4 c1
  obtain ⟨a1, a2⟩ := sm_ld (h.2 o1 ho1).2.1 hp
  have hk := q_mk1 hd5 hd7 hp (fun c => sm_B (h.2 o1 ho1).2.1 hp c) (a1.trans c1) ab be zA zB zC zD zF zT n x1 x2 x3 x4
  rw [(a2 c1).1, (a2 c1).2] at hk
  show _ ∧ _ = (mkX fb fl fh d o1 o1 p).1 ∧ ((mkX fb fl fh d o1 o1 p).1 = true → _ = (mkX fb fl fh d o1 o1 p).2.1 ∧ _ = (mkX fb fl fh d o1 o1 p).2.2)
  unfold mkX
  rw [(a2 c1).1, (a2 c1).2]
  exact hk
theorem mk1_no (h : Sim n kd on ot pt fb fl fh tb tl th dg ds ki on8 ot8 ab be zA zB zC zD zF zT fo lw hg at_ tl8 th8 di su) {d o1 : Nat} (ho1 : o1 < n) : ∀ p, p < 25 → ¬ fo (25 * o1 + p) = true → (fun p => (mkX fb fl fh d o1 o1 p).1) p = false :=
  fun p hp hno => mk2_no h ho1 ho1 p hp (fun z => hno z.1)
theorem mk2_sim (h : Sim n kd on ot pt fb fl fh tb tl th dg ds ki on8 ot8 ab be zA zB zC zD zF zT fo lw hg at_ tl8 th8 di su) (hn : n < 40) {d o1 o2 : Nat} (hd1 : 1 ≤ d) (hd4 : d ≤ 4) (ho1 : o1 < n) (ho2 : o2 < n) {vb : Nat → Bool} {vl vh : Nat → Int64} {ub : Nat → Bool} {ul uh : Nat → Int64} (h1 : ∀ p, p < 25 → (vb p, vl p, vh p) = mkX fb fl fh d o1 o2 p) (h2 : ∀ p, p < 25 → (ub p, ul p, uh p) = nwA vb vl vh (p + 1))
    {fo1 : Nat → Bool} {lw1 hg1 : Nat → Int64} {at1 : Nat → Bool} {tl1 th1 : Nat → Int64} (hA : adS n fo fo1 lw hg lw1 hg1 at_ at1 tl8 th8 tl1 th1) (hR : ∀ p, p < 25 → adR n (fun p => (mkX fb fl fh d o1 o2 p).1) (fun p => (mkX fb fl fh d o1 o2 p).2.1) (fun p => (mkX fb fl fh d o1 o2 p).2.2) fo1 lw1 hg1 at1 tl1 th1 p) :
    Sim (n + 1) (pst kd n d) (pst on n (nI o1)) (pst ot n (nI o2)) (pst pt n ((pt o1 ||| pt o2) ||| jshl 1 (nI n))) (pst fb n vb) (pst fl n vl) (pst fh n vh) (pst tb n ub) (pst tl n ul) (pst th n uh) (pst dg n 0) (pst ds n 0) (upd ki n (nI d)) (upd on8 n (nI o1)) (upd ot8 n (nI o2)) ab be zA zB zC zD zF zT fo1 lw1 hg1 at1 tl1 th1 di su := by
  refine Sim_push h hn (X := mkX fb fl fh d o1 o2) (mk_B h hd1 (by omega) ho1 ho2) h1 h2 hR hA (fun k hk => upd_ne9 _ _ (by omega)) (fun k hk => upd_ne9 _ _ (by omega)) (fun k hk => upd_ne9 _ _ (by omega)) (fun k hk => rfl) (fun k hk => rfl) (fun k hk => rfl) (fun k hk => rfl) (fun k hk => rfl) (fun k hk => rfl) (fun k hk => rfl) (fun k hk => rfl) ?_
  unfold smS
  rw [pst_at kd, pst_at on, pst_at ot, pst_at pt, upd_at9, upd_at9, upd_at9]
  refine Or.inr (Or.inr (Or.inr ⟨o1, o2, ho1, ho2, ⟨hd1, hd4⟩, rfl, ⟨rfl, rfl⟩, ⟨rfl, rfl⟩, ?_, ?_⟩))
  · rw [pst_ne pt _ (show o1 ≠ n by omega), pst_ne pt _ (show o2 ≠ n by omega)]
  · rw [mkX_ne (show o1 ≠ n by omega) (show o2 ≠ n by omega)]
    intro p hp
    rw [pst_at, pst_at, pst_at]
    exact h1 p hp
theorem mk1_sim (h : Sim n kd on ot pt fb fl fh tb tl th dg ds ki on8 ot8 ab be zA zB zC zD zF zT fo lw hg at_ tl8 th8 di su) (hn : n < 40) {d o1 : Nat} (hd5 : 5 ≤ d) (hd7 : d ≤ 7) (ho1 : o1 < n) {vb : Nat → Bool} {vl vh : Nat → Int64} {ub : Nat → Bool} {ul uh : Nat → Int64} (h1 : ∀ p, p < 25 → (vb p, vl p, vh p) = mkX fb fl fh d o1 o1 p) (h2 : ∀ p, p < 25 → (ub p, ul p, uh p) = nwA vb vl vh (p + 1))
    {fo1 : Nat → Bool} {lw1 hg1 : Nat → Int64} {at1 : Nat → Bool} {tl1 th1 : Nat → Int64} (hA : adS n fo fo1 lw hg lw1 hg1 at_ at1 tl8 th8 tl1 th1) (hR : ∀ p, p < 25 → adR n (fun p => (mkX fb fl fh d o1 o1 p).1) (fun p => (mkX fb fl fh d o1 o1 p).2.1) (fun p => (mkX fb fl fh d o1 o1 p).2.2) fo1 lw1 hg1 at1 tl1 th1 p) :
    Sim (n + 1) (pst kd n d) (pst on n (nI o1)) (pst ot n (nI o1)) (pst pt n ((pt o1 ||| pt o1) ||| jshl 1 (nI n))) (pst fb n vb) (pst fl n vl) (pst fh n vh) (pst tb n ub) (pst tl n ul) (pst th n uh) (pst dg n 0) (pst ds n 0) (upd ki n (nI d)) (upd on8 n (nI o1)) (upd ot8 n (-1)) ab be zA zB zC zD zF zT fo1 lw1 hg1 at1 tl1 th1 di su := by
  refine Sim_push h hn (X := mkX fb fl fh d o1 o1) (mk_B h (by omega) hd7 ho1 ho1) h1 h2 hR hA (fun k hk => upd_ne9 _ _ (by omega)) (fun k hk => upd_ne9 _ _ (by omega)) (fun k hk => upd_ne9 _ _ (by omega)) (fun k hk => rfl) (fun k hk => rfl) (fun k hk => rfl) (fun k hk => rfl) (fun k hk => rfl) (fun k hk => rfl) (fun k hk => rfl) (fun k hk => rfl) ?_
  unfold smS
  rw [pst_at kd, pst_at on, pst_at ot, pst_at pt, upd_at9, upd_at9, upd_at9]
  refine Or.inr (Or.inr (Or.inl ⟨o1, ho1, ⟨hd5, hd7⟩, rfl, ⟨rfl, rfl⟩, ⟨rfl, rfl⟩, ?_, ?_⟩))
  · rw [pst_ne pt _ (show o1 ≠ n by omega)]
  · rw [mkX_ne (show o1 ≠ n by omega) (show o1 ≠ n by omega)]
    intro p hp
    rw [pst_at, pst_at, pst_at]
    exact h1 p hp
theorem mk0_can {a b : Int32} (hr : rtO a b) : ∀ p, p < 25 → ∀ (x1 x2 x3 x4 : Int64), mkOK 0 (upd be n b) zF zT n x1 x2 ∧ mk_is 0 (upd ab n a) (upd be n b) zA zB zC zD zF zT x3 x4 n p x1 x2 x1 x2 = (fun p => (rtX a b p).1) p ∧ ((fun p => (rtX a b p).1) p = true → mk_lo 0 (upd ab n a) (upd be n b) zA zB zC zD zF zT x3 x4 n p x1 x2 x1 x2 = (fun p => (rtX a b p).2.1) p ∧ mk_hi 0 (upd ab n a) (upd be n b) zA zB zC zD zF zT x3 x4 n p x1 x2 x1 x2 = (fun p => (rtX a b p).2.2) p) := by
  intro p hp x1 x2 x3 x4
  have h := (q_lf0 (ab := upd ab n a) (be := upd be n b) (zA := zA) (zB := zB) (zC := zC) (zD := zD) (zF := zF) (zT := zT) (k := n) hp (by rw [upd_at9, upd_at9]; exact hr)).1 x1 x2 x3 x4
  rw [upd_at9, upd_at9] at h
  exact h
theorem mk0_sim (h : Sim n kd on ot pt fb fl fh tb tl th dg ds ki on8 ot8 ab be zA zB zC zD zF zT fo lw hg at_ tl8 th8 di su) (hn : n < 40) {a b : Int32} (hr : rtO a b) {vb : Nat → Bool} {vl vh : Nat → Int64} {ub : Nat → Bool} {ul uh : Nat → Int64} (h1 : ∀ p, p < 25 → (vb p, vl p, vh p) = rtX a b p) (h2 : ∀ p, p < 25 → (ub p, ul p, uh p) = nwA vb vl vh (p + 1))
    {fo1 : Nat → Bool} {lw1 hg1 : Nat → Int64} {at1 : Nat → Bool} {tl1 th1 : Nat → Int64} (hA : adS n fo fo1 lw hg lw1 hg1 at_ at1 tl8 th8 tl1 th1) (hR : ∀ p, p < 25 → adR n (fun p => (rtX a b p).1) (fun p => (rtX a b p).2.1) (fun p => (rtX a b p).2.2) fo1 lw1 hg1 at1 tl1 th1 p) :
    Sim (n + 1) (pst kd n 0) (pst on n (-1)) (pst ot n (-1)) (pst pt n (jshl 1 (nI n))) (pst fb n vb) (pst fl n vl) (pst fh n vh) (pst tb n ub) (pst tl n ul) (pst th n uh) (pst dg n 0) (pst ds n 0) (upd ki n (nI 0)) (upd on8 n (-1)) (upd ot8 n (-1)) (upd ab n a) (upd be n b) zA zB zC zD zF zT fo1 lw1 hg1 at1 tl1 th1 di su := by
  refine Sim_push h hn (X := rtX a b) (fun p hp c => ?_) h1 h2 hR hA (fun k hk => upd_ne9 _ _ (by omega)) (fun k hk => upd_ne9 _ _ (by omega)) (fun k hk => upd_ne9 _ _ (by omega)) (fun k hk => upd_ne9 _ _ (by omega)) (fun k hk => upd_ne9 _ _ (by omega)) (fun k hk => rfl) (fun k hk => rfl) (fun k hk => rfl) (fun k hk => rfl) (fun k hk => rfl) (fun k hk => rfl) ?_
  · have h9 := (q_lf0 (ab := upd ab n a) (be := upd be n b) (zA := zA) (zB := zB) (zC := zC) (zD := zD) (zF := zF) (zT := zT) (k := n) hp (by rw [upd_at9, upd_at9]; exact hr)).2
    rw [upd_at9, upd_at9] at h9
    exact h9 c
  unfold smS
  rw [pst_at kd, pst_at pt, upd_at9, upd_at9, upd_at9, upd_at9, upd_at9]
  refine Or.inl ⟨rfl, rfl, ⟨rfl, rfl⟩, rfl, hr, fun p hp => ?_⟩
  rw [pst_at, pst_at, pst_at]
  exact h1 p hp
theorem mk8_can {a b c0 d0 f t : Int32} {u : Nat} (hr : zrO a b c0 d0 f t u) : ∀ p, p < 25 → ∀ (x1 x2 x3 x4 : Int64), mkOK 8 be (upd zF n f) (upd zT n t) n x1 x2 ∧ mk_is 8 ab be (upd zA n a) (upd zB n b) (upd zC n c0) (upd zD n d0) (upd zF n f) (upd zT n t) x3 x4 n p x1 x2 x1 x2 = (fun p => (fzX a.toInt64 b.toInt64 c0.toInt64 d0.toInt64 f u p).1) p ∧ ((fun p => (fzX a.toInt64 b.toInt64 c0.toInt64 d0.toInt64 f u p).1) p = true → mk_lo 8 ab be (upd zA n a) (upd zB n b) (upd zC n c0) (upd zD n d0) (upd zF n f) (upd zT n t) x3 x4 n p x1 x2 x1 x2 = (fun p => (fzX a.toInt64 b.toInt64 c0.toInt64 d0.toInt64 f u p).2.1) p ∧ mk_hi 8 ab be (upd zA n a) (upd zB n b) (upd zC n c0) (upd zD n d0) (upd zF n f) (upd zT n t) x3 x4 n p x1 x2 x1 x2 = (fun p => (fzX a.toInt64 b.toInt64 c0.toInt64 d0.toInt64 f u p).2.2) p) := by
  intro p hp x1 x2 x3 x4
  have h := (q_lf8 (ab := ab) (be := be) (zA := upd zA n a) (zB := upd zB n b) (zC := upd zC n c0) (zD := upd zD n d0) (zF := upd zF n f) (zT := upd zT n t) (k := n) (u := u) hp (by rw [upd_at9, upd_at9, upd_at9, upd_at9, upd_at9, upd_at9]; exact hr)).1 x1 x2 x3 x4
  rw [upd_at9, upd_at9, upd_at9, upd_at9, upd_at9] at h
  exact h
theorem mk8_sim (h : Sim n kd on ot pt fb fl fh tb tl th dg ds ki on8 ot8 ab be zA zB zC zD zF zT fo lw hg at_ tl8 th8 di su) (hn : n < 40) {a b c0 d0 f t : Int32} {u : Nat} (hr : zrO a b c0 d0 f t u) {vb : Nat → Bool} {vl vh : Nat → Int64} {ub : Nat → Bool} {ul uh : Nat → Int64} (h1 : ∀ p, p < 25 → (vb p, vl p, vh p) = fzX a.toInt64 b.toInt64 c0.toInt64 d0.toInt64 f u p) (h2 : ∀ p, p < 25 → (ub p, ul p, uh p) = nwA vb vl vh (p + 1))
    {fo1 : Nat → Bool} {lw1 hg1 : Nat → Int64} {at1 : Nat → Bool} {tl1 th1 : Nat → Int64} (hA : adS n fo fo1 lw hg lw1 hg1 at_ at1 tl8 th8 tl1 th1) (hR : ∀ p, p < 25 → adR n (fun p => (fzX a.toInt64 b.toInt64 c0.toInt64 d0.toInt64 f u p).1) (fun p => (fzX a.toInt64 b.toInt64 c0.toInt64 d0.toInt64 f u p).2.1) (fun p => (fzX a.toInt64 b.toInt64 c0.toInt64 d0.toInt64 f u p).2.2) fo1 lw1 hg1 at1 tl1 th1 p) :
    Sim (n + 1) (pst kd n 8) (pst on n (-1)) (pst ot n (-1)) (pst pt n (jshl 1 (nI n))) (pst fb n vb) (pst fl n vl) (pst fh n vh) (pst tb n ub) (pst tl n ul) (pst th n uh) (pst dg n 0) (pst ds n 0) (upd ki n (nI 8)) (upd on8 n (-1)) (upd ot8 n (-1)) ab be (upd zA n a) (upd zB n b) (upd zC n c0) (upd zD n d0) (upd zF n f) (upd zT n t) fo1 lw1 hg1 at1 tl1 th1 di su := by
  refine Sim_push h hn (X := fzX a.toInt64 b.toInt64 c0.toInt64 d0.toInt64 f u) (fun p hp c => ?_) h1 h2 hR hA (fun k hk => upd_ne9 _ _ (by omega)) (fun k hk => upd_ne9 _ _ (by omega)) (fun k hk => upd_ne9 _ _ (by omega)) (fun k hk => rfl) (fun k hk => rfl) (fun k hk => upd_ne9 _ _ (by omega)) (fun k hk => upd_ne9 _ _ (by omega)) (fun k hk => upd_ne9 _ _ (by omega)) (fun k hk => upd_ne9 _ _ (by omega)) (fun k hk => upd_ne9 _ _ (by omega)) (fun k hk => upd_ne9 _ _ (by omega)) ?_
  · have h9 := (q_lf8 (ab := ab) (be := be) (zA := upd zA n a) (zB := upd zB n b) (zC := upd zC n c0) (zD := upd zD n d0) (zF := upd zF n f) (zT := upd zT n t) (k := n) (u := u) hp (by rw [upd_at9, upd_at9, upd_at9, upd_at9, upd_at9, upd_at9]; exact hr)).2
    rw [upd_at9, upd_at9, upd_at9, upd_at9, upd_at9] at h9
    exact h9 c
  unfold smS
  rw [pst_at kd, pst_at pt, upd_at9, upd_at9, upd_at9, upd_at9, upd_at9, upd_at9, upd_at9, upd_at9, upd_at9]
  refine Or.inr (Or.inl ⟨rfl, rfl, ⟨rfl, rfl⟩, rfl, u, hr, fun p hp => ?_⟩)
  rw [pst_at, pst_at, pst_at]
  exact h1 p hp
/-- a digit more, or none again -/
theorem Sim_dig (h : Sim n kd on ot pt fb fl fh tb tl th dg ds ki on8 ot8 ab be zA zB zC zD zF zT fo lw hg at_ tl8 th8 di su) {k d : Nat} (hk : k < n) (hd : d ≤ 24) {v : Int32} {z : Int64} (hv : v = nI d) : Sim n kd on ot pt fb fl fh tb tl th (upd dg k v) (vp_updL ds k z) ki on8 ot8 ab be zA zB zC zD zF zT fo lw hg at_ tl8 th8 (upd di k v) (vp_updL su k z) := by
  refine ⟨⟨h.1.1, fun j hj => ?_⟩, fun j hj => ?_⟩
  · rw [upd_ne9 _ _ (show j ≠ k by omega), updL_ne9 _ _ (show j ≠ k by omega)]
    exact h.1.2 j hj
  · obtain ⟨s1, s2, s3, s4, s5⟩ := h.2 j hj
    refine ⟨s1, s2, s3, s4, ?_⟩
    unfold smD
    by_cases e : j = k
    · subst e
      rw [upd_at9, upd_at9, updL_at9, updL_at9]
      exact ⟨rfl, rfl, d, hd, hv⟩
    · rw [upd_ne9 _ _ e, upd_ne9 _ _ e, updL_ne9 _ _ e, updL_ne9 _ _ e]
      exact s5
end GSO
theorem q_inC (a lo hi : Int32) : ((a < lo ∨ ¬ a ≤ hi) ∧ ¬ sp_X8_in a lo hi = true) ∨ (¬ a < lo ∧ a ≤ hi ∧ sp_X8_in a lo hi = true) := by
  unfold sp_X8_in
  by_cases c1 : a < lo
  · rw [if_pos c1]
    exact Or.inl ⟨Or.inl c1, by decide⟩
  · by_cases c2 : a ≤ hi
    · rw [if_neg c1, if_neg (fun z => by rw [Int32.lt_iff_toInt_lt] at z; rw [Int32.le_iff_toInt_le] at c2; omega)]
      exact Or.inr ⟨c1, c2, rfl⟩
    · rw [if_neg c1, if_pos (by rw [Int32.lt_iff_toInt_lt]; rw [Int32.le_iff_toInt_le] at c2; omega)]
      exact Or.inl ⟨Or.inr c2, by decide⟩
theorem q_inN (a : Int32) {m : Nat} (hm : m < 41) : (∃ d, d < m + 1 ∧ a = nI d) ∨ ((a < 0 ∨ ¬ a ≤ nI m) ∧ ¬ sp_X8_in a 0 (nI m) = true) := by
  rcases q_inC a 0 (nI m) with h | ⟨h1, h2, -⟩
  · exact Or.inr h
  · have e0 : (0 : Int32).toInt = 0 := rfl
    rw [Int32.lt_iff_toInt_lt, e0] at h1
    rw [Int32.le_iff_toInt_le, q_nIi hm] at h2
    refine Or.inl ⟨a.toInt.toNat, by omega, ?_⟩
    apply Int32.toInt_inj.mp
    rw [q_nIi (by omega)]
    omega
theorem q_isPk {n k : Nat} (hn : n ≤ 40) (hk : k < n) : sp_X8_isProgram n (nI k) = true := by
  have h2 : ∀ n : Fin 41, ∀ k : Fin 40, k.val < n.val → sp_X8_isProgram n.val (nI k.val) = true := by decide +kernel
  exact h2 ⟨n, by omega⟩ ⟨k, by omega⟩ hk
theorem q_isPp {p : Nat} (hp : p < 25) : sp_X8_isPlace (nI p) = true := by
  have h2 : ∀ p : Fin 25, sp_X8_isPlace (nI p.val) = true := by decide
  exact h2 ⟨p, hp⟩
theorem q_full {n : Nat} (hn : n ≤ 40) (h : ¬ n < 40) : nI n = 40 := by
  have e : n = 40 := by omega
  subst e
  decide
theorem q_rtO {a b : Int32} (h1 : ¬ a < -1000) (h2 : a ≤ 1000) (h3 : ¬ b < 1) : rtO a b := by
  have e1 : (-1000 : Int32).toInt = -1000 := rfl
  have e2 : (1000 : Int32).toInt = 1000 := rfl
  have e3 : (1 : Int32).toInt = 1 := rfl
  rw [Int32.lt_iff_toInt_lt, e1] at h1
  rw [Int32.le_iff_toInt_le, e2] at h2
  rw [Int32.lt_iff_toInt_lt, e3] at h3
  exact ⟨⟨by omega, h2⟩, by omega⟩
theorem q_mul32 {a b : Int32} (h1 : -2147483648 ≤ a.toInt * b.toInt) (h2 : a.toInt * b.toInt ≤ 2147483647) : (a * b).toInt = a.toInt * b.toInt := by
  rw [Int32.toInt_mul]
  exact Int.bmod_eq_of_le (by omega) (by omega)
theorem q_add32 {a b : Int32} (h1 : -2147483648 ≤ a.toInt + b.toInt) (h2 : a.toInt + b.toInt ≤ 2147483647) : (a + b).toInt = a.toInt + b.toInt := by
  rw [Int32.toInt_add]
  exact Int.bmod_eq_of_le (by omega) (by omega)
theorem q_polr (a b c d x : Int) : a + b * x + c * x * x + d * x * x * x = ((d * x + c) * x + b) * x + a := by grind
theorem q_plain {a b c0 d0 x : Int32} (ha : -9 ≤ a.toInt ∧ a.toInt ≤ 9) (hb : -9 ≤ b.toInt ∧ b.toInt ≤ 9) (hc : -9 ≤ c0.toInt ∧ c0.toInt ≤ 9) (hd : -9 ≤ d0.toInt ∧ d0.toInt ≤ 9) (hx : -7 ≤ x.toInt ∧ x.toInt ≤ 7) : (sp_X8_plain a b c0 d0 x).toInt = ((d0.toInt * x.toInt + c0.toInt) * x.toInt + b.toInt) * x.toInt + a.toInt := by
  have k1 := q_absmul hb hx
  have k2 := q_absmul hc hx
  have k3 := q_absmul hd hx
  have k4 := q_absmul (x := c0.toInt * x.toInt) (X := 63) (y := x.toInt) ⟨by omega, by omega⟩ hx
  have k5 := q_absmul (x := d0.toInt * x.toInt) (X := 63) (y := x.toInt) ⟨by omega, by omega⟩ hx
  have k6 := q_absmul (x := d0.toInt * x.toInt * x.toInt) (X := 441) (y := x.toInt) ⟨by omega, by omega⟩ hx
  have e1 : (b * x).toInt = b.toInt * x.toInt := q_mul32 (by omega) (by omega)
  have e2 : (c0 * x).toInt = c0.toInt * x.toInt := q_mul32 (by omega) (by omega)
  have e3 : (c0 * x * x).toInt = c0.toInt * x.toInt * x.toInt := by rw [q_mul32, e2] <;> (rw [e2]; omega)
  have e4 : (d0 * x).toInt = d0.toInt * x.toInt := q_mul32 (by omega) (by omega)
  have e5 : (d0 * x * x).toInt = d0.toInt * x.toInt * x.toInt := by rw [q_mul32, e4] <;> (rw [e4]; omega)
  have e6 : (d0 * x * x * x).toInt = d0.toInt * x.toInt * x.toInt * x.toInt := by rw [q_mul32, e5] <;> (rw [e5]; omega)
  have e7 : (a + b * x).toInt = a.toInt + b.toInt * x.toInt := by rw [q_add32, e1] <;> (rw [e1]; omega)
  have e8 : (a + b * x + c0 * x * x).toInt = a.toInt + b.toInt * x.toInt + c0.toInt * x.toInt * x.toInt := by rw [q_add32, e7, e3] <;> (rw [e7, e3]; omega)
  show (a + b * x + c0 * x * x + d0 * x * x * x).toInt = _
  rw [q_add32, e8, e6]
  · exact q_polr _ _ _ _ _
  · rw [e8, e6]; omega
  · rw [e8, e6]; omega
theorem q_sgn4 {a b c0 d0 x : Int32} (ha : -9 ≤ a.toInt ∧ a.toInt ≤ 9) (hb : -9 ≤ b.toInt ∧ b.toInt ≤ 9) (hc : -9 ≤ c0.toInt ∧ c0.toInt ≤ 9) (hd : -9 ≤ d0.toInt ∧ d0.toInt ≤ 9) (hx : -7 ≤ x.toInt ∧ x.toInt ≤ 7) : (sp_X4_signAt a.toInt64 b.toInt64 c0.toInt64 d0.toInt64 x.toInt64 0).toInt = tri (((d0.toInt * x.toInt + c0.toInt) * x.toInt + b.toInt) * x.toInt + a.toInt) := by
  have e : ∀ z : Int32, z.toInt64.toInt = z.toInt := fun z => Int32.toInt_toInt64 z
  have hv := q_val (pa := a.toInt64) (pb := b.toInt64) (pc0 := c0.toInt64) (pd := d0.toInt64) (x := x.toInt64) (m := 0) (by omega) (by rw [e]; exact ha) (by rw [e]; exact hb) (by rw [e]; exact hc) (by rw [e]; exact hd) (by rw [e]; show -(7 * 1) ≤ x.toInt ∧ x.toInt ≤ 7 * 1; omega)
  rw [e, e, e, e, e] at hv
  have hp : (2 : Int) ^ 0 = 1 := rfl
  rw [hp] at hv
  simp only [Int.mul_one] at hv
  have h9 := q_tri7 ((((((d0.toInt64 * x.toInt64) + (c0.toInt64 * (jshl 1 (nI 0)))) * x.toInt64) + ((b.toInt64 * (jshl 1 (nI 0))) * (jshl 1 (nI 0)))) * x.toInt64) + (((a.toInt64 * (jshl 1 (nI 0))) * (jshl 1 (nI 0))) * (jshl 1 (nI 0))))
  rw [hv] at h9
  exact h9
theorem q_unl (a b : Int32) : unl a b = true ↔ (a.toInt < 0 ∧ 0 < b.toInt) ∨ (0 < a.toInt ∧ b.toInt < 0) := by
  have e0 : (0 : Int32).toInt = 0 := rfl
  unfold unl
  simp only [Int32.le_iff_toInt_le, Int32.lt_iff_toInt_lt, e0]
  by_cases c1 : 0 ≤ a.toInt
  · rw [if_pos c1]
    by_cases c2 : a.toInt ≤ 0
    · rw [if_pos c2]
      exact ⟨fun z => absurd z (by decide), fun z => by omega⟩
    · rw [if_neg c2]
      by_cases c3 : 0 ≤ b.toInt
      · rw [if_pos c3]
        exact ⟨fun z => absurd z (by decide), fun z => by omega⟩
      · rw [if_neg c3]
        exact ⟨fun _ => by omega, fun _ => rfl⟩
  · rw [if_neg c1]
    by_cases c2 : 0 < b.toInt
    · rw [if_pos c2]
      exact ⟨fun _ => by omega, fun _ => rfl⟩
    · rw [if_neg c2, if_pos (show a.toInt ≤ 0 by omega)]
      exact ⟨fun z => absurd z (by decide), fun z => by omega⟩
theorem q_tr3 {s : Int32} {v : Int} (h : s.toInt = tri v) : (v < 0 ∧ s = -1) ∨ (v = 0 ∧ s = 0) ∨ (0 < v ∧ s = 1) := by
  unfold tri at h
  by_cases c : v < 0
  · rw [if_pos c] at h
    exact Or.inl ⟨c, Int32.toInt_inj.mp h⟩
  · rw [if_neg c] at h
    by_cases c2 : v = 0
    · rw [if_pos c2] at h
      exact Or.inr (Or.inl ⟨c2, Int32.toInt_inj.mp h⟩)
    · rw [if_neg c2] at h
      exact Or.inr (Or.inr ⟨by omega, Int32.toInt_inj.mp h⟩)
theorem q_sg2 {s t : Int32} {v w : Int} (h1 : s.toInt = tri v) (h2 : t.toInt = tri w) : s * t < 0 ↔ (v < 0 ∧ 0 < w) ∨ (0 < v ∧ w < 0) := by
  rcases q_tr3 h1 with ⟨c, rfl⟩ | ⟨c, rfl⟩ | ⟨c, rfl⟩ <;> rcases q_tr3 h2 with ⟨c2, rfl⟩ | ⟨c2, rfl⟩ | ⟨c2, rfl⟩ <;> constructor <;> intro z
  all_goals first | omega | exact absurd z (by decide) | decide
/-- the class and the reference agree whether a zero can be made -/
theorem q_zs {a b c0 d0 fr : Int32} {u : Nat} (hu : u < 3) (h1a : ¬ a < -9) (h2a : a ≤ 9) (h1b : ¬ b < -9) (h2b : b ≤ 9) (h1c : ¬ c0 < -9) (h2c : c0 ≤ 9) (h1d : ¬ d0 < -9) (h2d : d0 ≤ 9) (h1f : ¬ fr < -4) (h2f : fr ≤ 3) :
    ((sp_X4_signAt a.toInt64 b.toInt64 c0.toInt64 d0.toInt64 fr.toInt64 0) * (sp_X4_signAt a.toInt64 b.toInt64 c0.toInt64 d0.toInt64 (fr + (1 <<< (nI u &&& 31))).toInt64 0) < 0 ↔ unl (sp_X8_plain a b c0 d0 fr) (sp_X8_plain a b c0 d0 (fr + (1 <<< (nI u &&& 31)))) = true)
    ∧ (unl (sp_X8_plain a b c0 d0 fr) (sp_X8_plain a b c0 d0 (fr + (1 <<< (nI u &&& 31)))) = true → zrO a b c0 d0 fr (fr + (1 <<< (nI u &&& 31))) u) := by
  have e9 : (9 : Int32).toInt = 9 := rfl
  have em : (-9 : Int32).toInt = -9 := rfl
  have e3 : (3 : Int32).toInt = 3 := rfl
  have e4 : (-4 : Int32).toInt = -4 := rfl
  rw [Int32.lt_iff_toInt_lt, em] at h1a h1b h1c h1d
  rw [Int32.le_iff_toInt_le, e9] at h2a h2b h2c h2d
  rw [Int32.lt_iff_toInt_lt, e4] at h1f
  rw [Int32.le_iff_toInt_le, e3] at h2f
  have ha : -9 ≤ a.toInt ∧ a.toInt ≤ 9 := ⟨by omega, h2a⟩
  have hb : -9 ≤ b.toInt ∧ b.toInt ≤ 9 := ⟨by omega, h2b⟩
  have hc : -9 ≤ c0.toInt ∧ c0.toInt ≤ 9 := ⟨by omega, h2c⟩
  have hd : -9 ≤ d0.toInt ∧ d0.toInt ≤ 9 := ⟨by omega, h2d⟩
  have hs : ((1 : Int32) <<< (nI u &&& 31)).toInt = 2 ^ u ∧ 1 ≤ (2 : Int) ^ u ∧ (2 : Int) ^ u ≤ 4 := by
    have h2 : ∀ u : Fin 3, ((1 : Int32) <<< (nI u.val &&& 31)).toInt = 2 ^ u.val ∧ 1 ≤ (2 : Int) ^ u.val ∧ (2 : Int) ^ u.val ≤ 4 := by decide
    exact h2 ⟨u, hu⟩
  have ht : (fr + (1 <<< (nI u &&& 31))).toInt = fr.toInt + 2 ^ u := by rw [q_add32, hs.1] <;> (rw [hs.1]; omega)
  have p1 := q_plain ha hb hc hd (x := fr) ⟨by omega, by omega⟩
  have p2 := q_plain ha hb hc hd (x := fr + (1 <<< (nI u &&& 31))) ⟨by omega, by omega⟩
  have s1 := q_sgn4 ha hb hc hd (x := fr) ⟨by omega, by omega⟩
  have s2 := q_sgn4 ha hb hc hd (x := fr + (1 <<< (nI u &&& 31))) ⟨by omega, by omega⟩
  rw [q_sg2 s1 s2, q_unl, p1, p2]
  refine ⟨Iff.rfl, fun z => ⟨hu, ha, hb, hc, hd, ⟨by omega, h2f⟩, ht, fun z0 => ?_⟩⟩
  rw [z0] at z
  omega
