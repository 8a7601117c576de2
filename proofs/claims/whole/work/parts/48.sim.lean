theorem pst_at {α : Type} (f : Nat → α) (n : Nat) (v : α) : pst f n v n = v := if_pos rfl
theorem pst_ne {α : Type} (f : Nat → α) {n k : Nat} (v : α) (h : k ≠ n) : pst f n v k = f k := if_neg h
theorem upd_at9 (f : Nat → Int32) (n : Nat) (v : Int32) : upd f n v n = v := if_pos rfl
theorem upd_ne9 (f : Nat → Int32) {n k : Nat} (v : Int32) (h : k ≠ n) : upd f n v k = f k := if_neg h
theorem updL_at9 (f : Nat → Int64) (n : Nat) (v : Int64) : vp_updL f n v n = v := if_pos rfl
theorem updL_ne9 (f : Nat → Int64) {n k : Nat} (v : Int64) (h : k ≠ n) : vp_updL f n v k = f k := if_neg h
theorem nI_m1 {o : Nat} (h : o < 40) : ¬ (-1 : Int32) = nI o := by
  have h2 : ∀ o : Fin 40, ¬ (-1 : Int32) = nI o.val := by decide
  exact h2 ⟨o, h⟩
def rtO (a b : Int32) : Prop := (-1000 ≤ a.toInt ∧ a.toInt ≤ 1000) ∧ 1 ≤ b.toInt
def zrO (a b c0 d0 f t : Int32) (u : Nat) : Prop := u < 3 ∧ (-9 ≤ a.toInt ∧ a.toInt ≤ 9) ∧ (-9 ≤ b.toInt ∧ b.toInt ≤ 9) ∧ (-9 ≤ c0.toInt ∧ c0.toInt ≤ 9) ∧ (-9 ≤ d0.toInt ∧ d0.toInt ≤ 9) ∧ (-4 ≤ f.toInt ∧ f.toInt ≤ 3) ∧ t.toInt = f.toInt + 2 ^ u ∧ ((d0.toInt * f.toInt + c0.toInt) * f.toInt + b.toInt) * f.toInt + a.toInt ≠ 0
def smX (fb : Nat → Nat → Bool) (fl fh : Nat → Nat → Int64) (k : Nat) (X : Nat → Bool × Int64 × Int64) : Prop := ∀ p, p < 25 → (fb k p, fl k p, fh k p) = X p
/-- what a program is: of its kind, its parts, its rows; in the class and in the reference -/
def smS (k : Nat) (kd : Nat → Nat) (on ot : Nat → Int32) (pt : Nat → Int64) (fb : Nat → Nat → Bool) (fl fh : Nat → Nat → Int64) (ki on8 ot8 ab be zA zB zC zD zF zT : Nat → Int32) : Prop :=
  (kd k = 0 ∧ ki k = nI 0 ∧ (on8 k = -1 ∧ ot8 k = -1) ∧ pt k = jshl 1 (nI k) ∧ rtO (ab k) (be k) ∧ smX fb fl fh k (rtX (ab k) (be k)))
  ∨ (kd k = 8 ∧ ki k = nI 8 ∧ (on8 k = -1 ∧ ot8 k = -1) ∧ pt k = jshl 1 (nI k) ∧ ∃ u, zrO (zA k) (zB k) (zC k) (zD k) (zF k) (zT k) u ∧ smX fb fl fh k (fzX (zA k).toInt64 (zB k).toInt64 (zC k).toInt64 (zD k).toInt64 (zF k) u))
  ∨ (∃ o1, o1 < k ∧ (5 ≤ kd k ∧ kd k ≤ 7) ∧ ki k = nI (kd k) ∧ (on k = nI o1 ∧ ot k = nI o1) ∧ (on8 k = nI o1 ∧ ot8 k = -1) ∧ pt k = ((pt o1 ||| pt o1) ||| jshl 1 (nI k)) ∧ smX fb fl fh k (mkX fb fl fh (kd k) o1 o1))
  ∨ (∃ o1 o2, o1 < k ∧ o2 < k ∧ (1 ≤ kd k ∧ kd k ≤ 4) ∧ ki k = nI (kd k) ∧ (on k = nI o1 ∧ ot k = nI o2) ∧ (on8 k = nI o1 ∧ ot8 k = nI o2) ∧ pt k = ((pt o1 ||| pt o2) ||| jshl 1 (nI k)) ∧ smX fb fl fh k (mkX fb fl fh (kd k) o1 o2))
/-- the rows of what is found -/
def smR (k : Nat) (fb : Nat → Nat → Bool) (fl fh : Nat → Nat → Int64) (fo : Nat → Bool) (lw hg : Nat → Int64) : Prop := ∀ p, p < 25 → (fb k p = fo (25 * k + p) ∧ (fo (25 * k + p) = true → fl k p = lw (25 * k + p) ∧ fh k p = hg (25 * k + p))) ∧ (fo (25 * k + p) = true → Bd p (lw (25 * k + p)) (hg (25 * k + p)))
def smT (k : Nat) (at_ : Nat → Bool) (tl8 th8 : Nat → Int64) : Prop := ∀ p, p < 25 → at_ (25 * k + p) = true → (-(64 * 2 ^ p) ≤ (tl8 (25 * k + p)).toInt ∧ (tl8 (25 * k + p)).toInt ≤ 64 * 2 ^ p) ∧ (-(64 * 2 ^ p) ≤ (th8 (25 * k + p)).toInt ∧ (th8 (25 * k + p)).toInt ≤ 64 * 2 ^ p)
def smD (k : Nat) (dg : Nat → Int32) (ds : Nat → Int64) (di : Nat → Int32) (su : Nat → Int64) : Prop := dg k = di k ∧ ds k = su k ∧ ∃ d : Nat, d ≤ 24 ∧ di k = nI d
def Sim (n : Nat) (kd : Nat → Nat) (on ot : Nat → Int32) (pt : Nat → Int64) (fb : Nat → Nat → Bool) (fl fh : Nat → Nat → Int64) (tb : Nat → Nat → Bool) (tl th : Nat → Nat → Int64) (dg : Nat → Int32) (ds : Nat → Int64) (ki on8 ot8 ab be zA zB zC zD zF zT : Nat → Int32) (fo : Nat → Bool) (lw hg : Nat → Int64) (at_ : Nat → Bool) (tl8 th8 : Nat → Int64) (di : Nat → Int32) (su : Nat → Int64) : Prop := (n ≤ 40 ∧ ∀ k, n ≤ k → di k = 0 ∧ su k = 0) ∧ ∀ k, k < n → smS k kd on ot pt fb fl fh ki on8 ot8 ab be zA zB zC zD zF zT ∧ smR k fb fl fh fo lw hg ∧ tlX tb tl th at_ tl8 th8 k ∧ smT k at_ tl8 th8 ∧ smD k dg ds di su
section GSM
variable {kd : Nat → Nat} {on ot : Nat → Int32} {pt : Nat → Int64} {fb : Nat → Nat → Bool} {fl fh : Nat → Nat → Int64} {tb : Nat → Nat → Bool} {tl th : Nat → Nat → Int64} {dg : Nat → Int32} {ds : Nat → Int64} {ki on8 ot8 ab be zA zB zC zD zF zT : Nat → Int32} {fo : Nat → Bool} {lw hg : Nat → Int64} {at_ : Nat → Bool} {tl8 th8 : Nat → Int64} {di : Nat → Int32} {su : Nat → Int64} {n : Nat}
theorem sm_ld {k : Nat} (h : smR k fb fl fh fo lw hg) {p : Nat} (hp : p < 25) : sp_X6_load_b1 (fb k) (fl k) (fh k) p = fo (25 * k + p) ∧ (fo (25 * k + p) = true → sp_X6_load_lo1 (fb k) (fl k) (fh k) p = lw (25 * k + p) ∧ sp_X6_load_hi1 (fb k) (fl k) (fh k) p = hg (25 * k + p)) :=
  q_load (cF := fun p => fo (25 * k + p)) (cL := fun p => lw (25 * k + p)) (cH := fun p => hg (25 * k + p)) (h p hp).1
theorem sm_B {k : Nat} (h : smR k fb fl fh fo lw hg) {p : Nat} (hp : p < 25) (c : sp_X6_load_b1 (fb k) (fl k) (fh k) p = true) : Bd p (sp_X6_load_lo1 (fb k) (fl k) (fh k) p) (sp_X6_load_hi1 (fb k) (fl k) (fh k) p) := by
  obtain ⟨e1, e2⟩ := sm_ld h hp
  rw [e1] at c
  rw [(e2 c).1, (e2 c).2]
  exact (h p hp).2 c
/-- an interval made of two, in the class and in the reference -/
theorem q_mk {d p : Nat} (hd1 : 1 ≤ d) (hd7 : d ≤ 7) (hp : p < 25) {b1 b2 : Bool} {l1 r1 l2 r2 : Int64} (B1 : b1 = true → Bd p l1 r1) (B2 : b2 = true → Bd p l2 r2) :
    (b1 = true → b2 = true → ∀ (ab be zA zB zC zD zF zT : Nat → Int32) (k : Nat) (x3 x4 : Int64), mkOK d be zF zT k l1 r1 ∧ mk_is d ab be zA zB zC zD zF zT x3 x4 k p l1 r1 l2 r2 = cmB d b1 l1 r1 b2 l2 r2 (nI p) ∧ (cmB d b1 l1 r1 b2 l2 r2 (nI p) = true → mk_lo d ab be zA zB zC zD zF zT x3 x4 k p l1 r1 l2 r2 = cmL d b1 l1 r1 b2 l2 r2 (nI p) ∧ mk_hi d ab be zA zB zC zD zF zT x3 x4 k p l1 r1 l2 r2 = cmR d b1 l1 r1 b2 l2 r2 (nI p)))
    ∧ (¬ (b1 = true ∧ b2 = true) → cmB d b1 l1 r1 b2 l2 r2 (nI p) = false) ∧ (cmB d b1 l1 r1 b2 l2 r2 (nI p) = true → Bd p (cmL d b1 l1 r1 b2 l2 r2 (nI p)) (cmR d b1 l1 r1 b2 l2 r2 (nI p))) := by
  refine ⟨fun h1 h2 ab be zA zB zC zD zF zT k x3 x4 => ?_, fun h => (q_kindN d l1 r1 l2 r2 (nI p) h).1, fun h => ?_⟩
  · subst h1 h2
    obtain ⟨e1, e2⟩ := q_kind hd1 hd7 hp (B1 rfl) (B2 rfl) ab be zA zB zC zD zF zT x3 x4 k
    refine ⟨?_, e1.symm, fun h => ?_⟩
    · have hd0 : d = 1 ∨ d = 2 ∨ d = 3 ∨ d = 4 ∨ d = 5 ∨ d = 6 ∨ d = 7 := by omega
      rcases hd0 with rfl | rfl | rfl | rfl | rfl | rfl | rfl
      · trivial
      · trivial
      · trivial
      · trivial
      · exact Int64.le_iff_toInt_le.mpr (B1 rfl).2.1
      · trivial
      · trivial
    · obtain ⟨e3, e4, -⟩ := e2 (e1.symm.trans h)
      exact ⟨e3.symm, e4.symm⟩
  · by_cases c : b1 = true ∧ b2 = true
    · obtain ⟨rfl, rfl⟩ := c
      obtain ⟨e1, e2⟩ := q_kind hd1 hd7 hp (B1 rfl) (B2 rfl) (fun _ => 0) (fun _ => 0) (fun _ => 0) (fun _ => 0) (fun _ => 0) (fun _ => 0) (fun _ => 0) (fun _ => 0) 0 0 0
      obtain ⟨e3, e4, e5⟩ := e2 (e1.symm.trans h)
      rw [e3, e4]
      exact e5
    · rw [(q_kindN d l1 r1 l2 r2 (nI p) c).1] at h
      exact absurd h (by decide)
theorem q_mk1 {d p : Nat} (hd5 : 5 ≤ d) (hd7 : d ≤ 7) (hp : p < 25) {b1 : Bool} {l1 r1 : Int64} (B1 : b1 = true → Bd p l1 r1) (h1 : b1 = true) (ab be zA zB zC zD zF zT : Nat → Int32) (k : Nat) (x1 x2 x3 x4 : Int64) :
    mkOK d be zF zT k l1 r1 ∧ mk_is d ab be zA zB zC zD zF zT x3 x4 k p l1 r1 x1 x2 = cmB d b1 l1 r1 b1 l1 r1 (nI p) ∧ (cmB d b1 l1 r1 b1 l1 r1 (nI p) = true → mk_lo d ab be zA zB zC zD zF zT x3 x4 k p l1 r1 x1 x2 = cmL d b1 l1 r1 b1 l1 r1 (nI p) ∧ mk_hi d ab be zA zB zC zD zF zT x3 x4 k p l1 r1 x1 x2 = cmR d b1 l1 r1 b1 l1 r1 (nI p)) := by
  have h := (q_mk (d := d) (by omega) hd7 hp B1 B1).1 h1 h1 ab be zA zB zC zD zF zT k x3 x4
  have hd0 : d = 5 ∨ d = 6 ∨ d = 7 := by omega
  rcases hd0 with rfl | rfl | rfl
  · simp only [mk_is, mk_lo, mk_hi] at h ⊢
    exact h
  · simp only [mk_is, mk_lo, mk_hi] at h ⊢
    exact h
  · simp only [mk_is, mk_lo, mk_hi] at h ⊢
    exact h
/-- a ratio -/
theorem q_lf0 {k p : Nat} (hp : p < 25) (h : rtO (ab k) (be k)) : (∀ x1 x2 x3 x4 : Int64, mkOK 0 be zF zT k x1 x2 ∧ mk_is 0 ab be zA zB zC zD zF zT x3 x4 k p x1 x2 x1 x2 = (rtX (ab k) (be k) p).1 ∧ ((rtX (ab k) (be k) p).1 = true → mk_lo 0 ab be zA zB zC zD zF zT x3 x4 k p x1 x2 x1 x2 = (rtX (ab k) (be k) p).2.1 ∧ mk_hi 0 ab be zA zB zC zD zF zT x3 x4 k p x1 x2 x1 x2 = (rtX (ab k) (be k) p).2.2)) ∧ ((rtX (ab k) (be k) p).1 = true → Bd p (rtX (ab k) (be k) p).2.1 (rtX (ab k) (be k) p).2.2) := by
  obtain ⟨⟨h1, h2⟩, h3⟩ := h
  obtain ⟨e1, e2⟩ := q_ratio hp h1 h2 h3
  refine ⟨fun x1 x2 x3 x4 => ⟨?_, e1.symm, fun c => ?_⟩, fun c => ?_⟩
  · intro z
    have h4 := congrArg Int64.toInt z
    rw [Int32.toInt_toInt64] at h4
    have h5 : (0 : Int64).toInt = 0 := rfl
    omega
  · obtain ⟨e3, e4, -⟩ := e2 (e1.symm.trans c)
    exact ⟨e3.symm, e4.symm⟩
  · obtain ⟨e3, e4, e5⟩ := e2 (e1.symm.trans c)
    rw [e3, e4]
    exact e5
theorem q_ok8 {k : Nat} {u : Nat} (h : zrO (zA k) (zB k) (zC k) (zD k) (zF k) (zT k) u) : ∀ m, m ≤ 16 → skI 18 (jshl (zF k).toInt64 (nI m)) (jshl (zT k).toInt64 (nI m)) := by
  intro m hm
  obtain ⟨hu, -, -, -, -, hf, ht, -⟩ := h
  have hU := q_U (p := m) (by omega)
  have hUp := q_Upos (p := m) (by omega)
  have hU2 : (2 : Int) ^ m ≤ 65536 := by
    have h2 : ∀ m : Fin 17, (2 : Int) ^ m.val ≤ 65536 := by decide
    exact h2 ⟨m, by omega⟩
  have hu4 : 1 ≤ (2 : Int) ^ u ∧ (2 : Int) ^ u ≤ 4 := by
    have h2 : ∀ u : Fin 3, 1 ≤ (2 : Int) ^ u.val ∧ (2 : Int) ^ u.val ≤ 4 := by decide
    exact h2 ⟨u, hu⟩
  have ef : (zF k).toInt64.toInt = (zF k).toInt := Int32.toInt_toInt64 _
  have et : (zT k).toInt64.toInt = (zT k).toInt := Int32.toInt_toInt64 _
  have kf := q_absmul (x := (zF k).toInt) (y := 2 ^ m) (X := 4) (Y := 65536) ⟨by omega, by omega⟩ ⟨by omega, by omega⟩
  have kt := q_absmul (x := (zT k).toInt) (y := 2 ^ m) (X := 7) (Y := 65536) ⟨by omega, by omega⟩ ⟨by omega, by omega⟩
  have ku := q_absmul (x := (2 : Int) ^ u) (y := 2 ^ m) (X := 4) (Y := 65536) ⟨by omega, by omega⟩ ⟨by omega, by omega⟩
  have e1 : (jshl (zF k).toInt64 (nI m)).toInt = (zF k).toInt * 2 ^ m := by
    rw [q_shl, q_mulI, ef, hU] <;> (rw [ef, hU]; omega)
  have e2 : (jshl (zT k).toInt64 (nI m)).toInt = (zT k).toInt * 2 ^ m := by
    rw [q_shl, q_mulI, et, hU] <;> (rw [et, hU]; omega)
  have e3 : (zT k).toInt * 2 ^ m = (zF k).toInt * 2 ^ m + 2 ^ u * 2 ^ m := by rw [ht, Int.add_mul]
  have e4 : 0 ≤ (2 : Int) ^ u * 2 ^ m := Int.mul_nonneg (by omega) (by omega)
  unfold skI
  rw [e1, e2, e3]
  have e5 : (2 : Int) ^ 18 = 262144 := by decide
  rw [e5]
  omega
/-- a zero -/
theorem q_lf8 {k p u : Nat} (hp : p < 25) (h : zrO (zA k) (zB k) (zC k) (zD k) (zF k) (zT k) u) : (∀ x1 x2 x3 x4 : Int64, mkOK 8 be zF zT k x1 x2 ∧ mk_is 8 ab be zA zB zC zD zF zT x3 x4 k p x1 x2 x1 x2 = (fzX (zA k).toInt64 (zB k).toInt64 (zC k).toInt64 (zD k).toInt64 (zF k) u p).1 ∧ ((fzX (zA k).toInt64 (zB k).toInt64 (zC k).toInt64 (zD k).toInt64 (zF k) u p).1 = true → mk_lo 8 ab be zA zB zC zD zF zT x3 x4 k p x1 x2 x1 x2 = (fzX (zA k).toInt64 (zB k).toInt64 (zC k).toInt64 (zD k).toInt64 (zF k) u p).2.1 ∧ mk_hi 8 ab be zA zB zC zD zF zT x3 x4 k p x1 x2 x1 x2 = (fzX (zA k).toInt64 (zB k).toInt64 (zC k).toInt64 (zD k).toInt64 (zF k) u p).2.2)) ∧ ((fzX (zA k).toInt64 (zB k).toInt64 (zC k).toInt64 (zD k).toInt64 (zF k) u p).1 = true → Bd p (fzX (zA k).toInt64 (zB k).toInt64 (zC k).toInt64 (zD k).toInt64 (zF k) u p).2.1 (fzX (zA k).toInt64 (zB k).toInt64 (zC k).toInt64 (zD k).toInt64 (zF k) u p).2.2) := by
  have hk := q_ok8 h
  obtain ⟨hu, ha, hb, hc, hd, hf, ht, hv⟩ := h
  obtain ⟨e1, e2, e3⟩ := q_zero hp hu ha hb hc hd hf ht hv
  rw [e1]
  refine ⟨fun x1 x2 x3 x4 => ⟨hk, e2, fun _ => ⟨rfl, rfl⟩⟩, fun _ => e3⟩
/-- of which a program is made -/
def sM (pt : Nat → Int64) (j k : Nat) : Prop := k < 40 ∧ sp_X5_isMadeOf (pt j) (nI k) = true
def sC (on8 ot8 : Nat → Int32) (j k : Nat) : Prop := k < 40 ∧ (on8 j = nI k ∨ ot8 j = nI k)
theorem sm_C (h : ∀ k, k < n → smS k kd on ot pt fb fl fh ki on8 ot8 ab be zA zB zC zD zF zT) (hn : n ≤ 40) : ∀ j k, j < n → sC on8 ot8 j k → k < j := by
  intro j k hj hc
  obtain ⟨hk, hc⟩ := hc
  rcases h j hj with ⟨-, -, ⟨e1, e2⟩, -⟩ | ⟨-, -, ⟨e1, e2⟩, -⟩ | ⟨o1, ho1, -, -, -, ⟨e1, e2⟩, -⟩ | ⟨o1, o2, ho1, ho2, -, -, -, ⟨e1, e2⟩, -⟩ <;> rw [e1, e2] at hc <;> rcases hc with hc | hc
  · exact absurd hc (nI_m1 hk)
  · exact absurd hc (nI_m1 hk)
  · exact absurd hc (nI_m1 hk)
  · exact absurd hc (nI_m1 hk)
  · have := (nI_eq (a := o1) (b := k) (by omega) (by omega)).mp hc
    omega
  · exact absurd hc (nI_m1 hk)
  · have := (nI_eq (a := o1) (b := k) (by omega) (by omega)).mp hc
    omega
  · have := (nI_eq (a := o2) (b := k) (by omega) (by omega)).mp hc
    omega
theorem sm_M (h : ∀ k, k < n → smS k kd on ot pt fb fl fh ki on8 ot8 ab be zA zB zC zD zF zT) (hn : n ≤ 40) : ∀ j k, j < n → (sM pt j k ↔ (k = j ∨ ∃ o, sC on8 ot8 j o ∧ sM pt o k)) := by
  intro j k hj
  have hs := h j hj
  rcases hs with ⟨-, -, ⟨e1, e2⟩, e3, -⟩ | ⟨-, -, ⟨e1, e2⟩, e3, -⟩ | ⟨o1, ho1, -, -, -, ⟨e1, e2⟩, e3, -⟩ | ⟨o1, o2, ho1, ho2, -, -, -, ⟨e1, e2⟩, e3, -⟩
  · constructor
    · rintro ⟨hk, hm⟩
      rw [e3, q_bit1 (by omega) hk] at hm
      exact Or.inl (of_decide_eq_true hm)
    · rintro (hk | ⟨o, ⟨ho, hc⟩, -⟩)
      · subst hk
        refine ⟨by omega, ?_⟩
        rw [e3, q_bit1 (by omega) (by omega)]
        exact decide_eq_true rfl
      · rw [e1, e2] at hc
        rcases hc with hc | hc <;> exact absurd hc (nI_m1 ho)
  · constructor
    · rintro ⟨hk, hm⟩
      rw [e3, q_bit1 (by omega) hk] at hm
      exact Or.inl (of_decide_eq_true hm)
    · rintro (hk | ⟨o, ⟨ho, hc⟩, -⟩)
      · subst hk
        refine ⟨by omega, ?_⟩
        rw [e3, q_bit1 (by omega) (by omega)]
        exact decide_eq_true rfl
      · rw [e1, e2] at hc
        rcases hc with hc | hc <;> exact absurd hc (nI_m1 ho)
  · constructor
    · rintro ⟨hk, hm⟩
      rw [e3, q_bitor _ _ hk, q_bitor _ _ hk, q_bit1 (by omega) hk, Bool.or_eq_true, Bool.or_eq_true, decide_eq_true_iff] at hm
      rcases hm with (hm | hm) | hm
      · exact Or.inr ⟨o1, ⟨by omega, Or.inl e1⟩, hk, hm⟩
      · exact Or.inr ⟨o1, ⟨by omega, Or.inl e1⟩, hk, hm⟩
      · exact Or.inl hm
    · rintro (hk | ⟨o, ⟨ho, hc⟩, hk, hm⟩)
      · subst hk
        refine ⟨by omega, ?_⟩
        rw [e3, q_bitor _ _ (by omega), q_bit1 (by omega) (by omega), Bool.or_eq_true]
        exact Or.inr (decide_eq_true rfl)
      · rw [e1, e2] at hc
        rcases hc with hc | hc
        · have e := (nI_eq (a := o1) (b := o) (by omega) (by omega)).mp hc
          subst e
          refine ⟨hk, ?_⟩
          rw [e3, q_bitor _ _ hk, q_bitor _ _ hk, hm]
          rfl
        · exact absurd hc (nI_m1 ho)
  · constructor
    · rintro ⟨hk, hm⟩
      rw [e3, q_bitor _ _ hk, q_bitor _ _ hk, q_bit1 (by omega) hk, Bool.or_eq_true, Bool.or_eq_true, decide_eq_true_iff] at hm
      rcases hm with (hm | hm) | hm
      · exact Or.inr ⟨o1, ⟨by omega, Or.inl e1⟩, hk, hm⟩
      · exact Or.inr ⟨o2, ⟨by omega, Or.inr e2⟩, hk, hm⟩
      · exact Or.inl hm
    · rintro (hk | ⟨o, ⟨ho, hc⟩, hk, hm⟩)
      · subst hk
        refine ⟨by omega, ?_⟩
        rw [e3, q_bitor _ _ (by omega), q_bit1 (by omega) (by omega), Bool.or_eq_true]
        exact Or.inr (decide_eq_true rfl)
      · rw [e1, e2] at hc
        rcases hc with hc | hc
        · have e := (nI_eq (a := o1) (b := o) (by omega) (by omega)).mp hc
          subst e
          refine ⟨hk, ?_⟩
          rw [e3, q_bitor _ _ hk, q_bitor _ _ hk, hm]
          rfl
        · have e := (nI_eq (a := o2) (b := o) (by omega) (by omega)).mp hc
          subst e
          refine ⟨hk, ?_⟩
          rw [e3, q_bitor _ _ hk, q_bitor _ _ hk, hm, Bool.or_true]
          rfl
/-- how many programs one needs -/
theorem sm_needs (h : ∀ k, k < n → smS k kd on ot pt fb fl fh ki on8 ot8 ab be zA zB zC zD zF zT) (hn : n ≤ 40) {q : Nat} (hq : q < n) (an : Nat → Bool) : sp_J13_bitCount_95d88 (pt q) = (ouF on8 ot8 n q n an 0).2 := by
  have hC := sm_C h hn
  have hM := sm_M h hn
  have hb : ∀ k, k < 40 → (sM pt q k ↔ (pt q).toBitVec.toNat / 2 ^ k % 2 = 1) := by
    intro k hk
    rw [← q_bitN (pt q) hk]
    exact ⟨fun z => z.2, fun z => ⟨hk, z⟩⟩
  have hk0 : ∀ k, n ≤ k → (pt q).toBitVec.toNat / 2 ^ k % 2 = 0 := by
    intro k hk
    rcases Nat.lt_or_ge k 40 with c | c
    · have h9 : ¬ (pt q).toBitVec.toNat / 2 ^ k % 2 = 1 := fun z => by
        have := md_le hC hM q hq k ((hb k c).mpr z)
        omega
      omega
    · have key : ∀ j, j < n → (pt j).toBitVec.toNat < 2 ^ 40 := by
        intro j
        induction j using Nat.strongRecOn with
        | ind j ih =>
          intro hj
          have hw : ∀ j, j < 40 → (jshl 1 (nI j)).toBitVec.toNat < 2 ^ 40 := by
            intro j hj
            have h2 : ∀ j : Fin 40, (jshl 1 (nI j.val)).toBitVec.toNat < 2 ^ 40 := by decide +kernel
            exact h2 ⟨j, hj⟩
          rcases h j hj with ⟨-, -, -, e3, -⟩ | ⟨-, -, -, e3, -⟩ | ⟨o1, ho1, -, -, -, -, e3, -⟩ | ⟨o1, o2, ho1, ho2, -, -, -, -, e3, -⟩
          · rw [e3]
            exact hw j (by omega)
          · rw [e3]
            exact hw j (by omega)
          · rw [e3, Int64.toBitVec_or, Int64.toBitVec_or, BitVec.toNat_or, BitVec.toNat_or]
            exact Nat.or_lt_two_pow (Nat.or_lt_two_pow (ih o1 ho1 (by omega)) (ih o1 ho1 (by omega))) (hw j (by omega))
          · rw [e3, Int64.toBitVec_or, Int64.toBitVec_or, BitVec.toNat_or, BitVec.toNat_or]
            exact Nat.or_lt_two_pow (Nat.or_lt_two_pow (ih o1 ho1 (by omega)) (ih o2 ho2 (by omega))) (hw j (by omega))
      have h1 := key q hq
      have h2 : (2 : Nat) ^ 40 ≤ 2 ^ k := Nat.pow_le_pow_right (by decide) c
      rw [Nat.div_eq_of_lt (by omega)]
  rw [q_popc]
  have h64 := cn_up hk0 (64 - n)
  rw [show n + (64 - n) = 64 by omega] at h64
  rw [h64]
  have hF := q_ouF (on := on8) (ot := ot8) (pn := n) (q0 := q) (X := (pt q).toBitVec.toNat) hq hn (fun k hk => by
    rw [← hb k (by omega), md_main hC hM q hq k]
    constructor
    · rintro (e | ⟨j, g1, g2, g3, g4⟩)
      · exact Or.inl e
      · exact Or.inr ⟨j, g1, g2, (hb j (by omega)).mp g3, g4.2⟩
    · rintro (e | ⟨j, g1, g2, g3, g4⟩)
      · exact Or.inl e
      · exact Or.inr ⟨j, g1, g2, (hb j (by omega)).mpr g3, by omega, g4⟩) n (Nat.le_refl n) an 0 (fun j h1 h2 => absurd h1 (by omega))
  rw [Nat.zero_add] at hF
  exact hF.symm
end GSM
