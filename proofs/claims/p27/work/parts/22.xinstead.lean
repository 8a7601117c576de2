def inX (kd : Nat → Nat) (pt : Nat → Int64) (fb : Nat → Nat → Bool) (fl fh : Nat → Nat → Int64) (cW : Nat → Bool) (cX cY : Nat → Int64) (g p j o1 o2 : Nat) : Prop := cW j = cmB (kd j) (lsB pt fb fl fh cW cX cY o1 g p) (lsL pt fb fl fh cW cX cY o1 g p) (lsR pt fb fl fh cW cX cY o1 g p) (lsB pt fb fl fh cW cX cY o2 g p) (lsL pt fb fl fh cW cX cY o2 g p) (lsR pt fb fl fh cW cX cY o2 g p) (nI p) ∧ cX j = cmL (kd j) (lsB pt fb fl fh cW cX cY o1 g p) (lsL pt fb fl fh cW cX cY o1 g p) (lsR pt fb fl fh cW cX cY o1 g p) (lsB pt fb fl fh cW cX cY o2 g p) (lsL pt fb fl fh cW cX cY o2 g p) (lsR pt fb fl fh cW cX cY o2 g p) (nI p) ∧ cY j = cmR (kd j) (lsB pt fb fl fh cW cX cY o1 g p) (lsL pt fb fl fh cW cX cY o1 g p) (lsR pt fb fl fh cW cX cY o1 g p) (lsB pt fb fl fh cW cX cY o2 g p) (lsL pt fb fl fh cW cX cY o2 g p) (lsR pt fb fl fh cW cX cY o2 g p) (nI p)
def agX (uz : Nat → Bool) (ul uh : Nat → Int64) (cW : Nat → Bool) (cX cY : Nat → Int64) (o : Nat) : Prop := uz o = cW o ∧ ul o = cX o ∧ uh o = cY o
theorem ls_eq {pt : Nat → Int64} {fb : Nat → Nat → Bool} {fl fh : Nat → Nat → Int64} {uz : Nat → Bool} {ul uh : Nat → Int64} {cW : Nat → Bool} {cX cY : Nat → Int64} {g p k : Nat} (h : sp_X5_isMadeOf (pt k) (nI g) = true → agX uz ul uh cW cX cY k) : lsB pt fb fl fh uz ul uh k g p = lsB pt fb fl fh cW cX cY k g p ∧ lsL pt fb fl fh uz ul uh k g p = lsL pt fb fl fh cW cX cY k g p ∧ lsR pt fb fl fh uz ul uh k g p = lsR pt fb fl fh cW cX cY k g p := by
  unfold lsB lsL lsR
  by_cases hm : sp_X5_isMadeOf (pt k) (nI g) = true
  · obtain ⟨a, b, c⟩ := h hm
    rw [if_pos hm, if_pos hm, if_pos hm, if_pos hm, if_pos hm, if_pos hm]
    unfold sp_X6_load_b1 sp_X6_load_lo1 sp_X6_load_hi1
    rw [a, b, c]
    exact ⟨rfl, rfl, rfl⟩
  · rw [if_neg hm, if_neg hm, if_neg hm, if_neg hm, if_neg hm, if_neg hm]
    exact ⟨rfl, rfl, rfl⟩
theorem sup_y {kd : Nat → Nat} {pt : Nat → Int64} {fb : Nat → Nat → Bool} {fl fh : Nat → Nat → Int64} {uz : Nat → Bool} {ul uh : Nat → Int64} {cW : Nat → Bool} {cX cY : Nat → Int64} {g p j o1 o2 : Nat} (hd : ∀ o, o < j → sp_X5_isMadeOf (pt o) (nI g) = true → agX uz ul uh cW cX cY o) (ho1 : o1 < j) (ho2 : o2 < j) (hin : inX kd pt fb fl fh cW cX cY g p j o1 o2) :
    ∀ o, o < j + 1 → sp_X5_isMadeOf (pt o) (nI g) = true → agX (sp_X7_suppose_y_uz uz ul uh kd pt fb fl fh j g p o1 o2) (sp_X7_suppose_y_ul uz ul uh kd pt fb fl fh j g p o1 o2) (sp_X7_suppose_y_uh uz ul uh kd pt fb fl fh j g p o1 o2) cW cX cY o := by
  intro o ho hm
  unfold agX sp_X7_suppose_y_uz sp_X7_suppose_y_ul sp_X7_suppose_y_uh
  obtain ⟨a1, a2, a3⟩ := ls_eq (hd o1 ho1)
  obtain ⟨b1, b2, b3⟩ := ls_eq (hd o2 ho2)
  rw [a1, a2, a3, b1, b2, b3]
  by_cases e : o = j
  · subst e
    rw [upZ_s, pk_uLs, pk_uLs]
    exact ⟨hin.1.symm, hin.2.1.symm, hin.2.2.symm⟩
  · rw [upZ_n e, pk_uLn e, pk_uLn e]
    exact hd o (by omega) hm
theorem sup_n {pt : Nat → Int64} {uz : Nat → Bool} {ul uh : Nat → Int64} {cW : Nat → Bool} {cX cY : Nat → Int64} {g j : Nat} (hd : ∀ o, o < j → sp_X5_isMadeOf (pt o) (nI g) = true → agX uz ul uh cW cX cY o) (hn : ¬ sp_X5_isMadeOf (pt j) (nI g) = true) : ∀ o, o < j + 1 → sp_X5_isMadeOf (pt o) (nI g) = true → agX uz ul uh cW cX cY o := by
  intro o ho hm
  by_cases e : o = j
  · subst e
    exact absurd hm hn
  · exact hd o (by omega) hm
theorem sup_0 {pt : Nat → Int64} {uz : Nat → Bool} {ul uh : Nat → Int64} {cW : Nat → Bool} {cX cY : Nat → Int64} {g : Nat} {b : Bool} {x z : Int64} (hlo : ∀ o, o < g → ¬ sp_X5_isMadeOf (pt o) (nI g) = true) (h1 : cW g = b) (h2 : cX g = x) (h3 : cY g = z) : ∀ o, o < g + 1 → sp_X5_isMadeOf (pt o) (nI g) = true → agX (upZ uz g b) (vp_updL ul g x) (vp_updL uh g z) cW cX cY o := by
  intro o ho hm
  by_cases e : o = g
  · subst e
    unfold agX
    rw [upZ_s, pk_uLs, pk_uLs]
    exact ⟨h1.symm, h2.symm, h3.symm⟩
  · exact absurd hm (hlo o (by omega))
set_option maxHeartbeats 4000000 in
set_option maxRecDepth 100000 in
theorem c_X7_instead_X1a (l : Launch) (hfl : l.stackTraces = false) (D : va_G) (y : Nat → ClassId) (ad : Nat → Nat) (sz : Nat) (h : Nat) (q : Nat → Nat) (n : Nat) (b1 : Bool) (l1 r1 : Int64) (b2 : Bool) (l2 r2 : Int64) (b3 : Bool) (l3 r3 : Int64) (uz : Nat → Bool) (ul uh : Nat → Int64) (f1 g1 f2 g2 : Int64) (pa : Nat → Nat → Nat) (kd : Nat → Nat) (on ot : Nat → Int32) (pt : Nat → Int64) (fb : Nat → Nat → Bool) (fl fh : Nat → Nat → Int64) (tb : Nat → Nat → Bool) (tl th : Nat → Nat → Int64) (dg : Nat → Int32) (ds : Nat → Int64) (a b c0 d0 : Int32) (bb : Bool) (hbad : a < 0 ∨ nI n ≤ a) : vx_Met l yX7_instead wsX7_instead ({ frames := 7, cells := 1, slots := 6, locals := 114 } : Room) (gPX D y ad [.ref h, .int a, .int b, .int c0, .int d0, .int (gB bb)] (wXp y ad h q n b1 l1 r1 b2 l2 r2 b3 l3 r3 uz ul uh f1 g1 f2 g2 pa kd on ot pt fb fl fh tb tl th dg ds) sz) gNo (gXC D (wXp y ad h q n b1 l1 r1 b2 l2 r2 b3 l3 r3 uz ul uh f1 g1 f2 g2 pa kd on ot pt fb fl fh tb tl th dg ds) gIOB (fun w => w = wXp y ad h q n b1 l1 r1 b2 l2 r2 b3 l3 r3 uz ul uh f1 g1 f2 g2 pa kd on ot pt fb fl fh tb tl th dg ds)) 1 6 (va_A (wXp y ad h q n b1 l1 r1 b2 l2 r2 b3 l3 r3 uz ul uh f1 g1 f2 g2 pa kd on ot pt fb fl fh tb tl th dg ds) sz) := by
  refine vx_ofW (cc := cX7_instead) (maxL := 8) (ret := (some .long)) (by decide) rfl ?_
  intro pg e s m args below meth c s₁ B hml hno hv
  obtain ⟨rfl, hsz, hP, hK, hD0, hE0⟩ := hv
  have hx := B.exec
  have hb := B.bytes
  have hr := B.returns
  have hts := atoms_spec (ws := wsX7_instead) B.pre
  have hown : s.vm.findClass RX7 = some m.cls := findClass_of_methodNamed B.named
  have hlocks := B.notSynchronized
  subst hsz
  obtain ⟨A, hAe⟩ : ∃ A : Nat → Prop, A = va_A (wXp y ad h q n b1 l1 r1 b2 l2 r2 b3 l3 r3 uz ul uh f1 g1 f2 g2 pa kd on ot pt fb fl fh tb tl th dg ds) s.heap.size := ⟨_, rfl⟩
  have hE : gE ad A s s.heap := by rw [hAe]; exact hE0
  have hD : va_D A (wXp y ad h q n b1 l1 r1 b2 l2 r2 b3 l3 r3 uz ul uh f1 g1 f2 g2 pa kd on ot pt fb fl fh tb tl th dg ds) := by rw [hAe]; exact hD0.self (sz := s.heap.size)
  have hA : ∀ q : Nat, s.heap.size ≤ q → A q := fun q h => by rw [hAe]; exact Or.inr h
  have hS : va_S A s.heap s.heap [] := va_S.rf
  have hl := lv_entry ([.ref h, .int a, .int b, .int c0, .int d0, .int (gB bb)]) (n := 8) (Nat.le_of_ble_eq_true rfl)
  rw [lg_entry_eq]
  generalize (lg_sl ([.ref h, .int a, .int b, .int c0, .int d0, .int (gB bb)]) ++ List.replicate (8 - (lg_sl ([.ref h, .int a, .int b, .int c0, .int d0, .int (gB bb)])).length) Slot.unset).toArray = ls at hl ⊢
  have hl : lv_has ls 8 [(0, .ref h), (1, .int a), (2, .int b), (3, .int c0), (4, .int d0), (5, .int (gB bb))] := hl
  refine lv_aload_n hx hb dX7_instead_0 rfl (lv_at hl 0 rfl) ?_
  refine lv_iload_n hx hb dX7_instead_1 rfl (lv_at hl 1 rfl) ?_
  exact g_outX (vx_runV (As := [.int a]) (rest := []) ⟨hx, hb, hml, hown, hts⟩ (c_X7_existing_X l hfl D y ad s.heap.size h q n b1 l1 r1 b2 l2 r2 b3 l3 r3 uz ul uh f1 g1 f2 g2 pa kd on ot pt fb fl fh tb tl th dg ds a hbad) (cwV 1 hts gX7_instead_X7_existing rfl rfl rfl (by decide +kernel) ⟨Nat.le_of_ble_eq_true rfl, Nat.le_of_ble_eq_true rfl⟩) (gPX_VA hP hD hK hE hS hA 0 rfl rfl) rfl rfl hl.1 rfl (lv_room (Nat.le_of_ble_eq_true rfl)) dX7_instead_2 ⟨Nat.le_of_ble_eq_true rfl, Nat.le_of_ble_eq_true rfl⟩) hAe hD hS hA (fun w1 h9 => h9) rfl hno hlocks (Nat.le_of_ble_eq_true rfl) (Nat.le_of_ble_eq_true rfl)
set_option maxHeartbeats 4000000 in
set_option maxRecDepth 100000 in
theorem c_X7_instead_X1b (l : Launch) (hfl : l.stackTraces = false) (D : va_G) (y : Nat → ClassId) (ad : Nat → Nat) (sz : Nat) (h : Nat) (q : Nat → Nat) (n : Nat) (b1 : Bool) (l1 r1 : Int64) (b2 : Bool) (l2 r2 : Int64) (b3 : Bool) (l3 r3 : Int64) (uz : Nat → Bool) (ul uh : Nat → Int64) (f1 g1 f2 g2 : Int64) (pa : Nat → Nat → Nat) (kd : Nat → Nat) (on ot : Nat → Int32) (pt : Nat → Int64) (fb : Nat → Nat → Bool) (fl fh : Nat → Nat → Int64) (tb : Nat → Nat → Bool) (tl th : Nat → Nat → Int64) (dg : Nat → Int32) (ds : Nat → Int64) (k : Nat) (b c0 d0 : Int32) (bb : Bool) (hn : n ≤ 40) (hk : k < n) (hbad : b < 0 ∨ nI n ≤ b) : vx_Met l yX7_instead wsX7_instead ({ frames := 7, cells := 1, slots := 6, locals := 114 } : Room) (gPX D y ad [.ref h, .int (nI k), .int b, .int c0, .int d0, .int (gB bb)] (wXp y ad h q n b1 l1 r1 b2 l2 r2 b3 l3 r3 uz ul uh f1 g1 f2 g2 pa kd on ot pt fb fl fh tb tl th dg ds) sz) gNo (gXC D (wXp y ad h q n b1 l1 r1 b2 l2 r2 b3 l3 r3 uz ul uh f1 g1 f2 g2 pa kd on ot pt fb fl fh tb tl th dg ds) gIOB (fun w => w = wXp y ad h q n b1 l1 r1 b2 l2 r2 b3 l3 r3 uz ul uh f1 g1 f2 g2 pa kd on ot pt fb fl fh tb tl th dg ds)) 1 6 (va_A (wXp y ad h q n b1 l1 r1 b2 l2 r2 b3 l3 r3 uz ul uh f1 g1 f2 g2 pa kd on ot pt fb fl fh tb tl th dg ds) sz) := by
  refine vx_ofW (cc := cX7_instead) (maxL := 8) (ret := (some .long)) (by decide) rfl ?_
  intro pg e s m args below meth c s₁ B hml hno hv
  obtain ⟨rfl, hsz, hP, hK, hD0, hE0⟩ := hv
  have hx := B.exec
  have hb := B.bytes
  have hr := B.returns
  have hts := atoms_spec (ws := wsX7_instead) B.pre
  have hown : s.vm.findClass RX7 = some m.cls := findClass_of_methodNamed B.named
  have hlocks := B.notSynchronized
  subst hsz
  obtain ⟨A, hAe⟩ : ∃ A : Nat → Prop, A = va_A (wXp y ad h q n b1 l1 r1 b2 l2 r2 b3 l3 r3 uz ul uh f1 g1 f2 g2 pa kd on ot pt fb fl fh tb tl th dg ds) s.heap.size := ⟨_, rfl⟩
  have hE : gE ad A s s.heap := by rw [hAe]; exact hE0
  have hD : va_D A (wXp y ad h q n b1 l1 r1 b2 l2 r2 b3 l3 r3 uz ul uh f1 g1 f2 g2 pa kd on ot pt fb fl fh tb tl th dg ds) := by rw [hAe]; exact hD0.self (sz := s.heap.size)
  have hA : ∀ q : Nat, s.heap.size ≤ q → A q := fun q h => by rw [hAe]; exact Or.inr h
  have hS : va_S A s.heap s.heap [] := va_S.rf
  have hl := lv_entry ([.ref h, .int (nI k), .int b, .int c0, .int d0, .int (gB bb)]) (n := 8) (Nat.le_of_ble_eq_true rfl)
  rw [lg_entry_eq]
  generalize (lg_sl ([.ref h, .int (nI k), .int b, .int c0, .int d0, .int (gB bb)]) ++ List.replicate (8 - (lg_sl ([.ref h, .int (nI k), .int b, .int c0, .int d0, .int (gB bb)])).length) Slot.unset).toArray = ls at hl ⊢
  have hl : lv_has ls 8 [(0, .ref h), (1, .int (nI k)), (2, .int b), (3, .int c0), (4, .int d0), (5, .int (gB bb))] := hl
  refine lv_aload_n hx hb dX7_instead_0 rfl (lv_at hl 0 rfl) ?_
  refine lv_iload_n hx hb dX7_instead_1 rfl (lv_at hl 1 rfl) ?_
  refine g_callR (v0 := .ref (pa k 0)) (va_runV (As := [.int (nI k)]) (rest := []) ⟨hx, hb, hml, hown, hts⟩ (c_X7_existing_0 l hfl D y ad s.heap.size h q n b1 l1 r1 b2 l2 r2 b3 l3 r3 uz ul uh f1 g1 f2 g2 pa kd on ot pt fb fl fh tb tl th dg ds k hn hk) (cwV 1 hts gX7_instead_X7_existing rfl rfl rfl (by decide +kernel) ⟨Nat.le_of_ble_eq_true rfl, Nat.le_of_ble_eq_true rfl⟩) (gPX_VA hP hD hK hE hS hA 0 rfl rfl) rfl rfl hl.1 rfl (lv_room (Nat.le_of_ble_eq_true rfl)) dX7_instead_2 ⟨Nat.zero_le _, Nat.zero_le _⟩) ?_
  refine lv_pop hx hb dX7_instead_5 rfl ?_
  refine lv_aload_n hx hb dX7_instead_6 rfl (lv_at hl 0 rfl) ?_
  refine lv_iload_n hx hb dX7_instead_7 rfl (lv_at hl 2 rfl) ?_
  exact g_outX (vx_runV (As := [.int b]) (rest := []) ⟨hx, hb, hml, hown, hts⟩ (c_X7_existing_X l hfl D y ad s.heap.size h q n b1 l1 r1 b2 l2 r2 b3 l3 r3 uz ul uh f1 g1 f2 g2 pa kd on ot pt fb fl fh tb tl th dg ds b hbad) (cwV 1 hts gX7_instead_X7_existing rfl rfl rfl (by decide +kernel) ⟨Nat.le_of_ble_eq_true rfl, Nat.le_of_ble_eq_true rfl⟩) (gPX_VA hP hD hK hE hS hA 0 rfl rfl) rfl rfl hl.1 rfl (lv_room (Nat.le_of_ble_eq_true rfl)) dX7_instead_8 ⟨Nat.le_of_ble_eq_true rfl, Nat.le_of_ble_eq_true rfl⟩) hAe hD hS hA (fun w1 h9 => h9) rfl hno hlocks (Nat.le_of_ble_eq_true rfl) (Nat.le_of_ble_eq_true rfl)
set_option maxHeartbeats 4000000 in
set_option maxRecDepth 100000 in
theorem c_X7_instead_X1c (l : Launch) (hfl : l.stackTraces = false) (D : va_G) (y : Nat → ClassId) (ad : Nat → Nat) (sz : Nat) (h : Nat) (q : Nat → Nat) (n : Nat) (b1 : Bool) (l1 r1 : Int64) (b2 : Bool) (l2 r2 : Int64) (b3 : Bool) (l3 r3 : Int64) (uz : Nat → Bool) (ul uh : Nat → Int64) (f1 g1 f2 g2 : Int64) (pa : Nat → Nat → Nat) (kd : Nat → Nat) (on ot : Nat → Int32) (pt : Nat → Int64) (fb : Nat → Nat → Bool) (fl fh : Nat → Nat → Int64) (tb : Nat → Nat → Bool) (tl th : Nat → Nat → Int64) (dg : Nat → Int32) (ds : Nat → Int64) (k g : Nat) (c0 d0 : Int32) (bb : Bool) (hn : n ≤ 40) (hk : k < n) (hg : g < n) (hbad : c0 < 0 ∨ nI n ≤ c0) : vx_Met l yX7_instead wsX7_instead ({ frames := 7, cells := 1, slots := 6, locals := 114 } : Room) (gPX D y ad [.ref h, .int (nI k), .int (nI g), .int c0, .int d0, .int (gB bb)] (wXp y ad h q n b1 l1 r1 b2 l2 r2 b3 l3 r3 uz ul uh f1 g1 f2 g2 pa kd on ot pt fb fl fh tb tl th dg ds) sz) gNo (gXC D (wXp y ad h q n b1 l1 r1 b2 l2 r2 b3 l3 r3 uz ul uh f1 g1 f2 g2 pa kd on ot pt fb fl fh tb tl th dg ds) gIOB (fun w => w = wXp y ad h q n b1 l1 r1 b2 l2 r2 b3 l3 r3 uz ul uh f1 g1 f2 g2 pa kd on ot pt fb fl fh tb tl th dg ds)) 1 6 (va_A (wXp y ad h q n b1 l1 r1 b2 l2 r2 b3 l3 r3 uz ul uh f1 g1 f2 g2 pa kd on ot pt fb fl fh tb tl th dg ds) sz) := by
  refine vx_ofW (cc := cX7_instead) (maxL := 8) (ret := (some .long)) (by decide) rfl ?_
  intro pg e s m args below meth c s₁ B hml hno hv
  obtain ⟨rfl, hsz, hP, hK, hD0, hE0⟩ := hv
  have hx := B.exec
  have hb := B.bytes
  have hr := B.returns
  have hts := atoms_spec (ws := wsX7_instead) B.pre
  have hown : s.vm.findClass RX7 = some m.cls := findClass_of_methodNamed B.named
  have hlocks := B.notSynchronized
  subst hsz
  obtain ⟨A, hAe⟩ : ∃ A : Nat → Prop, A = va_A (wXp y ad h q n b1 l1 r1 b2 l2 r2 b3 l3 r3 uz ul uh f1 g1 f2 g2 pa kd on ot pt fb fl fh tb tl th dg ds) s.heap.size := ⟨_, rfl⟩
  have hE : gE ad A s s.heap := by rw [hAe]; exact hE0
  have hD : va_D A (wXp y ad h q n b1 l1 r1 b2 l2 r2 b3 l3 r3 uz ul uh f1 g1 f2 g2 pa kd on ot pt fb fl fh tb tl th dg ds) := by rw [hAe]; exact hD0.self (sz := s.heap.size)
  have hA : ∀ q : Nat, s.heap.size ≤ q → A q := fun q h => by rw [hAe]; exact Or.inr h
  have hS : va_S A s.heap s.heap [] := va_S.rf
  have hl := lv_entry ([.ref h, .int (nI k), .int (nI g), .int c0, .int d0, .int (gB bb)]) (n := 8) (Nat.le_of_ble_eq_true rfl)
  rw [lg_entry_eq]
  generalize (lg_sl ([.ref h, .int (nI k), .int (nI g), .int c0, .int d0, .int (gB bb)]) ++ List.replicate (8 - (lg_sl ([.ref h, .int (nI k), .int (nI g), .int c0, .int d0, .int (gB bb)])).length) Slot.unset).toArray = ls at hl ⊢
  have hl : lv_has ls 8 [(0, .ref h), (1, .int (nI k)), (2, .int (nI g)), (3, .int c0), (4, .int d0), (5, .int (gB bb))] := hl
  refine lv_aload_n hx hb dX7_instead_0 rfl (lv_at hl 0 rfl) ?_
  refine lv_iload_n hx hb dX7_instead_1 rfl (lv_at hl 1 rfl) ?_
  refine g_callR (v0 := .ref (pa k 0)) (va_runV (As := [.int (nI k)]) (rest := []) ⟨hx, hb, hml, hown, hts⟩ (c_X7_existing_0 l hfl D y ad s.heap.size h q n b1 l1 r1 b2 l2 r2 b3 l3 r3 uz ul uh f1 g1 f2 g2 pa kd on ot pt fb fl fh tb tl th dg ds k hn hk) (cwV 1 hts gX7_instead_X7_existing rfl rfl rfl (by decide +kernel) ⟨Nat.le_of_ble_eq_true rfl, Nat.le_of_ble_eq_true rfl⟩) (gPX_VA hP hD hK hE hS hA 0 rfl rfl) rfl rfl hl.1 rfl (lv_room (Nat.le_of_ble_eq_true rfl)) dX7_instead_2 ⟨Nat.zero_le _, Nat.zero_le _⟩) ?_
  refine lv_pop hx hb dX7_instead_5 rfl ?_
  refine lv_aload_n hx hb dX7_instead_6 rfl (lv_at hl 0 rfl) ?_
  refine lv_iload_n hx hb dX7_instead_7 rfl (lv_at hl 2 rfl) ?_
  refine g_callR (v0 := .ref (pa g 0)) (va_runV (As := [.int (nI g)]) (rest := []) ⟨hx, hb, hml, hown, hts⟩ (c_X7_existing_0 l hfl D y ad s.heap.size h q n b1 l1 r1 b2 l2 r2 b3 l3 r3 uz ul uh f1 g1 f2 g2 pa kd on ot pt fb fl fh tb tl th dg ds g hn hg) (cwV 1 hts gX7_instead_X7_existing rfl rfl rfl (by decide +kernel) ⟨Nat.le_of_ble_eq_true rfl, Nat.le_of_ble_eq_true rfl⟩) (gPX_VA hP hD hK hE hS hA 0 rfl rfl) rfl rfl hl.1 rfl (lv_room (Nat.le_of_ble_eq_true rfl)) dX7_instead_8 ⟨Nat.zero_le _, Nat.zero_le _⟩) ?_
  refine lv_pop hx hb dX7_instead_11 rfl ?_
  refine lv_aload_n hx hb dX7_instead_12 rfl (lv_at hl 0 rfl) ?_
  refine lv_iload_n hx hb dX7_instead_13 rfl (lv_at hl 3 rfl) ?_
  exact g_outX (vx_runV (As := [.int c0]) (rest := []) ⟨hx, hb, hml, hown, hts⟩ (c_X7_existing_X l hfl D y ad s.heap.size h q n b1 l1 r1 b2 l2 r2 b3 l3 r3 uz ul uh f1 g1 f2 g2 pa kd on ot pt fb fl fh tb tl th dg ds c0 hbad) (cwV 1 hts gX7_instead_X7_existing rfl rfl rfl (by decide +kernel) ⟨Nat.le_of_ble_eq_true rfl, Nat.le_of_ble_eq_true rfl⟩) (gPX_VA hP hD hK hE hS hA 0 rfl rfl) rfl rfl hl.1 rfl (lv_room (Nat.le_of_ble_eq_true rfl)) dX7_instead_14 ⟨Nat.le_of_ble_eq_true rfl, Nat.le_of_ble_eq_true rfl⟩) hAe hD hS hA (fun w1 h9 => h9) rfl hno hlocks (Nat.le_of_ble_eq_true rfl) (Nat.le_of_ble_eq_true rfl)
set_option maxHeartbeats 4000000 in
set_option maxRecDepth 100000 in
theorem c_X7_instead_X2 (l : Launch) (hfl : l.stackTraces = false) (D : va_G) (y : Nat → ClassId) (ad : Nat → Nat) (sz : Nat) (h : Nat) (q : Nat → Nat) (n : Nat) (b1 : Bool) (l1 r1 : Int64) (b2 : Bool) (l2 r2 : Int64) (b3 : Bool) (l3 r3 : Int64) (uz : Nat → Bool) (ul uh : Nat → Int64) (f1 g1 f2 g2 : Int64) (pa : Nat → Nat → Nat) (kd : Nat → Nat) (on ot : Nat → Int32) (pt : Nat → Int64) (fb : Nat → Nat → Bool) (fl fh : Nat → Nat → Int64) (tb : Nat → Nat → Bool) (tl th : Nat → Nat → Int64) (dg : Nat → Int32) (ds : Nat → Int64) (k g jo : Nat) (d0 : Int32) (bb : Bool) (hn : n ≤ 40) (hk : k < n) (hg : g < n) (hjo : jo < n) (hp : d0 < 0 ∨ ¬ d0 ≤ 24) : vx_Met l yX7_instead wsX7_instead ({ frames := 7, cells := 1, slots := 6, locals := 114 } : Room) (gPX D y ad [.ref h, .int (nI k), .int (nI g), .int (nI jo), .int d0, .int (gB bb)] (wXp y ad h q n b1 l1 r1 b2 l2 r2 b3 l3 r3 uz ul uh f1 g1 f2 g2 pa kd on ot pt fb fl fh tb tl th dg ds) sz) gNo (gXC D (wXp y ad h q n b1 l1 r1 b2 l2 r2 b3 l3 r3 uz ul uh f1 g1 f2 g2 pa kd on ot pt fb fl fh tb tl th dg ds) gIAE (fun w => w = wXp y ad h q n b1 l1 r1 b2 l2 r2 b3 l3 r3 uz ul uh f1 g1 f2 g2 pa kd on ot pt fb fl fh tb tl th dg ds)) 1 6 (va_A (wXp y ad h q n b1 l1 r1 b2 l2 r2 b3 l3 r3 uz ul uh f1 g1 f2 g2 pa kd on ot pt fb fl fh tb tl th dg ds) sz) := by
  refine vx_ofW (cc := cX7_instead) (maxL := 8) (ret := (some .long)) (by decide) rfl ?_
  intro pg e s m args below meth c s₁ B hml hno hv
  obtain ⟨rfl, hsz, hP, hK, hD0, hE0⟩ := hv
  have hx := B.exec
  have hb := B.bytes
  have hr := B.returns
  have hts := atoms_spec (ws := wsX7_instead) B.pre
  have hown : s.vm.findClass RX7 = some m.cls := findClass_of_methodNamed B.named
  have hlocks := B.notSynchronized
  subst hsz
  obtain ⟨A, hAe⟩ : ∃ A : Nat → Prop, A = va_A (wXp y ad h q n b1 l1 r1 b2 l2 r2 b3 l3 r3 uz ul uh f1 g1 f2 g2 pa kd on ot pt fb fl fh tb tl th dg ds) s.heap.size := ⟨_, rfl⟩
  have hE : gE ad A s s.heap := by rw [hAe]; exact hE0
  have hD : va_D A (wXp y ad h q n b1 l1 r1 b2 l2 r2 b3 l3 r3 uz ul uh f1 g1 f2 g2 pa kd on ot pt fb fl fh tb tl th dg ds) := by rw [hAe]; exact hD0.self (sz := s.heap.size)
  have hA : ∀ q : Nat, s.heap.size ≤ q → A q := fun q h => by rw [hAe]; exact Or.inr h
  have hS : va_S A s.heap s.heap [] := va_S.rf
  have hl := lv_entry ([.ref h, .int (nI k), .int (nI g), .int (nI jo), .int d0, .int (gB bb)]) (n := 8) (Nat.le_of_ble_eq_true rfl)
  rw [lg_entry_eq]
  generalize (lg_sl ([.ref h, .int (nI k), .int (nI g), .int (nI jo), .int d0, .int (gB bb)]) ++ List.replicate (8 - (lg_sl ([.ref h, .int (nI k), .int (nI g), .int (nI jo), .int d0, .int (gB bb)])).length) Slot.unset).toArray = ls at hl ⊢
  have hl : lv_has ls 8 [(0, .ref h), (1, .int (nI k)), (2, .int (nI g)), (3, .int (nI jo)), (4, .int d0), (5, .int (gB bb))] := hl
  refine lv_aload_n hx hb dX7_instead_0 rfl (lv_at hl 0 rfl) ?_
  refine lv_iload_n hx hb dX7_instead_1 rfl (lv_at hl 1 rfl) ?_
  refine g_callR (v0 := .ref (pa k 0)) (va_runV (As := [.int (nI k)]) (rest := []) ⟨hx, hb, hml, hown, hts⟩ (c_X7_existing_0 l hfl D y ad s.heap.size h q n b1 l1 r1 b2 l2 r2 b3 l3 r3 uz ul uh f1 g1 f2 g2 pa kd on ot pt fb fl fh tb tl th dg ds k hn hk) (cwV 1 hts gX7_instead_X7_existing rfl rfl rfl (by decide +kernel) ⟨Nat.le_of_ble_eq_true rfl, Nat.le_of_ble_eq_true rfl⟩) (gPX_VA hP hD hK hE hS hA 0 rfl rfl) rfl rfl hl.1 rfl (lv_room (Nat.le_of_ble_eq_true rfl)) dX7_instead_2 ⟨Nat.zero_le _, Nat.zero_le _⟩) ?_
  refine lv_pop hx hb dX7_instead_5 rfl ?_
  refine lv_aload_n hx hb dX7_instead_6 rfl (lv_at hl 0 rfl) ?_
  refine lv_iload_n hx hb dX7_instead_7 rfl (lv_at hl 2 rfl) ?_
  refine g_callR (v0 := .ref (pa g 0)) (va_runV (As := [.int (nI g)]) (rest := []) ⟨hx, hb, hml, hown, hts⟩ (c_X7_existing_0 l hfl D y ad s.heap.size h q n b1 l1 r1 b2 l2 r2 b3 l3 r3 uz ul uh f1 g1 f2 g2 pa kd on ot pt fb fl fh tb tl th dg ds g hn hg) (cwV 1 hts gX7_instead_X7_existing rfl rfl rfl (by decide +kernel) ⟨Nat.le_of_ble_eq_true rfl, Nat.le_of_ble_eq_true rfl⟩) (gPX_VA hP hD hK hE hS hA 0 rfl rfl) rfl rfl hl.1 rfl (lv_room (Nat.le_of_ble_eq_true rfl)) dX7_instead_8 ⟨Nat.zero_le _, Nat.zero_le _⟩) ?_
  refine lv_pop hx hb dX7_instead_11 rfl ?_
  refine lv_aload_n hx hb dX7_instead_12 rfl (lv_at hl 0 rfl) ?_
  refine lv_iload_n hx hb dX7_instead_13 rfl (lv_at hl 3 rfl) ?_
  refine g_callR (v0 := .ref (pa jo 0)) (va_runV (As := [.int (nI jo)]) (rest := []) ⟨hx, hb, hml, hown, hts⟩ (c_X7_existing_0 l hfl D y ad s.heap.size h q n b1 l1 r1 b2 l2 r2 b3 l3 r3 uz ul uh f1 g1 f2 g2 pa kd on ot pt fb fl fh tb tl th dg ds jo hn hjo) (cwV 1 hts gX7_instead_X7_existing rfl rfl rfl (by decide +kernel) ⟨Nat.le_of_ble_eq_true rfl, Nat.le_of_ble_eq_true rfl⟩) (gPX_VA hP hD hK hE hS hA 0 rfl rfl) rfl rfl hl.1 rfl (lv_room (Nat.le_of_ble_eq_true rfl)) dX7_instead_14 ⟨Nat.zero_le _, Nat.zero_le _⟩) ?_
  refine lv_astore (lv' := [(6, .ref (pa jo 0)), (0, .ref h), (1, .int (nI k)), (2, .int (nI g)), (3, .int (nI jo)), (4, .int d0), (5, .int (gB bb))]) hx hb dX7_instead_17 hl (by decide) rfl (fun ls hl => ?_)
  refine lv_iload hx hb dX7_instead_19 (lv_at hl 5 rfl) ?_
  refine lv_iconst (v := 0) hx hb dX7_instead_21 (by decide) ?_
  refine lv_bipush (v := 24) hx hb dX7_instead_22 (by decide) ?_
  exact g_outS (vx_runS (As := [.int d0, .int 0, .int 24]) (rest := []) ⟨hx, hb, hml, hown, hts⟩ (c_X7_requireWithin_X l hfl D y ad s.heap.size d0 0 24 hp) (va_cwS 3 hts gX7_instead_X7_requireWithin rfl rfl rfl (by decide +kernel) ⟨Nat.le_of_ble_eq_true rfl, Nat.le_of_ble_eq_true rfl⟩) (gPX_S0 hK hE hS hA) rfl rfl hl.1 rfl (lv_room (Nat.le_of_ble_eq_true rfl)) dX7_instead_24 ⟨Nat.le_of_ble_eq_true rfl, Nat.le_of_ble_eq_true rfl⟩) hAe hP hS hA rfl rfl hno hlocks (Nat.le_of_ble_eq_true rfl) (Nat.le_of_ble_eq_true rfl)
theorem in_X7_instead_X5 : ∀ w ∈ wsX50, w ∈ wsX7_instead := fun _ h => List.mem_cons_of_mem _ (List.mem_append_left _ (List.mem_append_left _ (List.mem_append_left _ (List.mem_append_left _ (List.mem_append_left _ (List.mem_append_left _ (List.mem_append_right _ h)))))))
theorem in_X7_instead_X7 : ∀ w ∈ wsX70, w ∈ wsX7_instead := fun _ h => List.mem_cons_of_mem _ (List.mem_append_left _ (List.mem_append_left _ (List.mem_append_left _ (List.mem_append_left _ (List.mem_append_left _ (List.mem_append_right _ h))))))
set_option maxHeartbeats 4000000 in
set_option maxRecDepth 100000 in
theorem c_X7_instead_X3 (l : Launch) (hfl : l.stackTraces = false) (D : va_G) (y : Nat → ClassId) (ad : Nat → Nat) (sz : Nat) (h : Nat) (q : Nat → Nat) (n : Nat) (b1 : Bool) (l1 r1 : Int64) (b2 : Bool) (l2 r2 : Int64) (b3 : Bool) (l3 r3 : Int64) (uz : Nat → Bool) (ul uh : Nat → Int64) (f1 g1 f2 g2 : Int64) (pa : Nat → Nat → Nat) (kd : Nat → Nat) (on ot : Nat → Int32) (pt : Nat → Int64) (fb : Nat → Nat → Bool) (fl fh : Nat → Nat → Int64) (tb : Nat → Nat → Bool) (tl th : Nat → Nat → Int64) (dg : Nat → Int32) (ds : Nat → Int64) (k g jo p : Nat) (bb : Bool) (cW : Nat → Bool) (cX cY : Nat → Int64) (hn : n ≤ 40) (hk : k < n) (hg : g < n) (hjo : jo < n) (hp : p < 25) (hlo : ∀ o, o < g → ¬ sp_X5_isMadeOf (pt o) (nI g) = true) (hg1 : cW g = sp_X6_load_b1 (fb jo) (fl jo) (fh jo) p) (hg2 : cX g = sp_X6_load_lo1 (fb jo) (fl jo) (fh jo) p) (hg3 : cY g = sp_X6_load_hi1 (fb jo) (fl jo) (fh jo) p) (hform : ∀ j, g < j → j < n → sp_X5_isMadeOf (pt j) (nI g) = true → ∃ o1 o2 : Nat, o1 < j ∧ o2 < j ∧ on j = nI o1 ∧ ot j = nI o2 ∧ 1 ≤ kd j ∧ kd j ≤ 7 ∧ inX kd pt fb fl fh cW cX cY g p j o1 o2) (hf : ¬ lsB pt fb fl fh cW cX cY k g p = true) : vx_Met l yX7_instead wsX7_instead ({ frames := 9, cells := 1, slots := 6, locals := 324 } : Room) (gPX D y ad [.ref h, .int (nI k), .int (nI g), .int (nI jo), .int (nI p), .int (gB bb)] (wXp y ad h q n b1 l1 r1 b2 l2 r2 b3 l3 r3 uz ul uh f1 g1 f2 g2 pa kd on ot pt fb fl fh tb tl th dg ds) sz) gNo (gXC D (wXp y ad h q n b1 l1 r1 b2 l2 r2 b3 l3 r3 uz ul uh f1 g1 f2 g2 pa kd on ot pt fb fl fh tb tl th dg ds) gISE (xScr y ad h q n pa kd on ot pt fb fl fh tb tl th dg ds)) 1 6 (va_A (wXp y ad h q n b1 l1 r1 b2 l2 r2 b3 l3 r3 uz ul uh f1 g1 f2 g2 pa kd on ot pt fb fl fh tb tl th dg ds) sz) := by
  refine vx_ofW (cc := cX7_instead) (maxL := 8) (ret := (some .long)) (by decide) rfl ?_
  intro pg e s m args below meth c s₁ B hml hno hv
  obtain ⟨rfl, hsz, hP, hK, hD0, hE0⟩ := hv
  have hx := B.exec
  have hb := B.bytes
  have hr := B.returns
  have hts := atoms_spec (ws := wsX7_instead) B.pre
  have hown : s.vm.findClass RX7 = some m.cls := findClass_of_methodNamed B.named
  have hlocks := B.notSynchronized
  subst hsz
  obtain ⟨A, hAe⟩ : ∃ A : Nat → Prop, A = va_A (wXp y ad h q n b1 l1 r1 b2 l2 r2 b3 l3 r3 uz ul uh f1 g1 f2 g2 pa kd on ot pt fb fl fh tb tl th dg ds) s.heap.size := ⟨_, rfl⟩
  have hE : gE ad A s s.heap := by rw [hAe]; exact hE0
  have hD : va_D A (wXp y ad h q n b1 l1 r1 b2 l2 r2 b3 l3 r3 uz ul uh f1 g1 f2 g2 pa kd on ot pt fb fl fh tb tl th dg ds) := by rw [hAe]; exact hD0.self (sz := s.heap.size)
  have hA : ∀ q : Nat, s.heap.size ≤ q → A q := fun q h => by rw [hAe]; exact Or.inr h
  have hS : va_S A s.heap s.heap [] := va_S.rf
  have hl := lv_entry ([.ref h, .int (nI k), .int (nI g), .int (nI jo), .int (nI p), .int (gB bb)]) (n := 8) (Nat.le_of_ble_eq_true rfl)
  rw [lg_entry_eq]
  generalize (lg_sl ([.ref h, .int (nI k), .int (nI g), .int (nI jo), .int (nI p), .int (gB bb)]) ++ List.replicate (8 - (lg_sl ([.ref h, .int (nI k), .int (nI g), .int (nI jo), .int (nI p), .int (gB bb)])).length) Slot.unset).toArray = ls at hl ⊢
  have hl : lv_has ls 8 [(0, .ref h), (1, .int (nI k)), (2, .int (nI g)), (3, .int (nI jo)), (4, .int (nI p)), (5, .int (gB bb))] := hl
  refine lv_aload_n hx hb dX7_instead_0 rfl (lv_at hl 0 rfl) ?_
  refine lv_iload_n hx hb dX7_instead_1 rfl (lv_at hl 1 rfl) ?_
  refine g_callR (v0 := .ref (pa k 0)) (va_runV (As := [.int (nI k)]) (rest := []) ⟨hx, hb, hml, hown, hts⟩ (c_X7_existing_0 l hfl D y ad s.heap.size h q n b1 l1 r1 b2 l2 r2 b3 l3 r3 uz ul uh f1 g1 f2 g2 pa kd on ot pt fb fl fh tb tl th dg ds k hn hk) (cwV 1 hts gX7_instead_X7_existing rfl rfl rfl (by decide +kernel) ⟨Nat.le_of_ble_eq_true rfl, Nat.le_of_ble_eq_true rfl⟩) (gPX_VA hP hD hK hE hS hA 0 rfl rfl) rfl rfl hl.1 rfl (lv_room (Nat.le_of_ble_eq_true rfl)) dX7_instead_2 ⟨Nat.zero_le _, Nat.zero_le _⟩) ?_
  refine lv_pop hx hb dX7_instead_5 rfl ?_
  refine lv_aload_n hx hb dX7_instead_6 rfl (lv_at hl 0 rfl) ?_
  refine lv_iload_n hx hb dX7_instead_7 rfl (lv_at hl 2 rfl) ?_
  refine g_callR (v0 := .ref (pa g 0)) (va_runV (As := [.int (nI g)]) (rest := []) ⟨hx, hb, hml, hown, hts⟩ (c_X7_existing_0 l hfl D y ad s.heap.size h q n b1 l1 r1 b2 l2 r2 b3 l3 r3 uz ul uh f1 g1 f2 g2 pa kd on ot pt fb fl fh tb tl th dg ds g hn hg) (cwV 1 hts gX7_instead_X7_existing rfl rfl rfl (by decide +kernel) ⟨Nat.le_of_ble_eq_true rfl, Nat.le_of_ble_eq_true rfl⟩) (gPX_VA hP hD hK hE hS hA 0 rfl rfl) rfl rfl hl.1 rfl (lv_room (Nat.le_of_ble_eq_true rfl)) dX7_instead_8 ⟨Nat.zero_le _, Nat.zero_le _⟩) ?_
  refine lv_pop hx hb dX7_instead_11 rfl ?_
  refine lv_aload_n hx hb dX7_instead_12 rfl (lv_at hl 0 rfl) ?_
  refine lv_iload_n hx hb dX7_instead_13 rfl (lv_at hl 3 rfl) ?_
  refine g_callR (v0 := .ref (pa jo 0)) (va_runV (As := [.int (nI jo)]) (rest := []) ⟨hx, hb, hml, hown, hts⟩ (c_X7_existing_0 l hfl D y ad s.heap.size h q n b1 l1 r1 b2 l2 r2 b3 l3 r3 uz ul uh f1 g1 f2 g2 pa kd on ot pt fb fl fh tb tl th dg ds jo hn hjo) (cwV 1 hts gX7_instead_X7_existing rfl rfl rfl (by decide +kernel) ⟨Nat.le_of_ble_eq_true rfl, Nat.le_of_ble_eq_true rfl⟩) (gPX_VA hP hD hK hE hS hA 0 rfl rfl) rfl rfl hl.1 rfl (lv_room (Nat.le_of_ble_eq_true rfl)) dX7_instead_14 ⟨Nat.zero_le _, Nat.zero_le _⟩) ?_
  refine lv_astore (lv' := [(6, .ref (pa jo 0)), (0, .ref h), (1, .int (nI k)), (2, .int (nI g)), (3, .int (nI jo)), (4, .int (nI p)), (5, .int (gB bb))]) hx hb dX7_instead_17 hl (by decide) rfl (fun ls hl => ?_)
  refine lv_iload hx hb dX7_instead_19 (lv_at hl 5 rfl) ?_
  refine lv_iconst (v := 0) hx hb dX7_instead_21 (by decide) ?_
  refine lv_bipush (v := 24) hx hb dX7_instead_22 (by decide) ?_
  refine g_callv (va_runS (As := [.int (nI p), .int 0, .int 24]) (rest := []) ⟨hx, hb, hml, hown, hts⟩ (c_X7_requireWithin_0 l hfl D y ad s.heap.size (nI p) 0 24 (nI_pos (by omega)) (g_p24 hp)) (va_cwS 3 hts gX7_instead_X7_requireWithin rfl rfl rfl (by decide +kernel) ⟨Nat.le_of_ble_eq_true rfl, Nat.le_of_ble_eq_true rfl⟩) (gPX_S0 hK hE hS hA) rfl rfl hl.1 rfl (lv_room (Nat.le_of_ble_eq_true rfl)) dX7_instead_24 ⟨Nat.zero_le _, Nat.zero_le _⟩) hP hD hS hA [] rfl (fun H locs hP hD hS => ?_)
  have hP : va_P D vwCl (wXp y ad h q n b1 l1 r1 b2 l2 r2 b3 l3 r3 uz ul uh f1 g1 f2 g2 pa kd on ot pt fb fl fh tb tl th dg ds) H := hP
  have hD : va_D A (wXp y ad h q n b1 l1 r1 b2 l2 r2 b3 l3 r3 uz ul uh f1 g1 f2 g2 pa kd on ot pt fb fl fh tb tl th dg ds) := hD
  refine lv_aload hx hb dX7_instead_27 (lv_at hl 0 rfl) ?_
  refine va_get (D := D) (ci := 3) (v := .ref (pa jo 1)) (C := RX5) (T := TX5) (N := 8) hx hb hts in_X7_instead_X5 hown hK.1 hP (9 * jo + 0 + 11) (gPL_at (j := 0) (fun _ => rfl) (by decide) hjo) rfl 4 (by decide) (hts (.fieldLink RX7 89 "Nestlimit$Program" "found" "LNestlimit$Row;") (List.mem_of_getElem? (i := 1) rfl)) (fun _ h9 => h9) rfl dX7_instead_29 ?_
  refine lv_iload hx hb dX7_instead_32 (lv_at hl 5 rfl) ?_
  refine lv_aload_n hx hb dX7_instead_34 rfl (lv_at hl 1 rfl) ?_
  refine va_get (D := D) (ci := 5) (v := .ref (q 1)) (C := RX7) (T := TX7) (N := 8) hx hb hts in_X7_instead_X7 hown hK.1 hP 0 rfl rfl 2 (by decide) (hts (.fieldLink RX7 22 "Nestlimit" "answer" "LNestlimit$Interval;") (List.mem_of_getElem? (i := 2) rfl)) (fun _ h9 => h9) rfl dX7_instead_35 ?_
  refine g_callW (wc := [((pa jo 1), .inr (4, [.ref (pa jo 2), .ref (pa jo 3), .ref (pa jo 4)])), ((pa jo 2), .inl (y 2, 25, .inl (gZ (fb jo)))), ((pa jo 3), .inl (y 1, 25, .inr (.inl (fl jo)))), ((pa jo 4), .inl (y 1, 25, .inr (.inl (fh jo)))), ((q 1), .inr (1, [.int (gB b1), .long l1, .long r1]))]) (b := (q 1)) (e0 := .inr (1, [.int (gB b1), .long l1, .long r1])) (e1 := .inr (1, [.int (gB (sp_X6_load_b1 (fb jo) (fl jo) (fh jo) p)), .long (sp_X6_load_lo1 (fb jo) (fl jo) (fh jo) p), .long (sp_X6_load_hi1 (fb jo) (fl jo) (fh jo) p)])) (v0 := none) (fun w0 hw0 => by subst hw0; exact (va_runV (As := [.int (nI p), .ref (q 1)]) (rest := []) ⟨hx, hb, hml, hown, hts⟩ (c_X6_load l D y H.size (pa jo 1) (pa jo 2) (pa jo 3) (pa jo 4) 25 (fb jo) (fl jo) (fh jo) (q 1) b1 l1 r1 p (by omega) (by decide)) (cwV 2 hts gX7_instead_X6_load rfl rfl rfl (by decide +kernel) ⟨Nat.le_of_ble_eq_true rfl, Nat.le_of_ble_eq_true rfl⟩) (gP_VI hP hD hK [9 * jo + 1 + 11, 9 * jo + 2 + 11, 9 * jo + 3 + 11, 9 * jo + 4 + 11, 2] (by simp <;> omega) (by show [(gPL _ _)[9 * jo + 1]?, (gPL _ _)[9 * jo + 2]?, (gPL _ _)[9 * jo + 3]?, (gPL _ _)[9 * jo + 4]?, some _] = _; rw [gPL_at (j := 1) (fun _ => rfl) (by decide) hjo, gPL_at (j := 2) (fun _ => rfl) (by decide) hjo, gPL_at (j := 3) (fun _ => rfl) (by decide) hjo, gPL_at (j := 4) (fun _ => rfl) (by decide) hjo]; rfl) 0 rfl rfl) rfl rfl hl.1 rfl (lv_room (Nat.le_of_ble_eq_true rfl)) dX7_instead_38 ⟨Nat.zero_le _, Nat.zero_le _⟩)) hP hD hS hA [9 * jo + 1 + 11, 9 * jo + 2 + 11, 9 * jo + 3 + 11, 9 * jo + 4 + 11, 2] (by show [(gPL _ _)[9 * jo + 1]?, (gPL _ _)[9 * jo + 2]?, (gPL _ _)[9 * jo + 3]?, (gPL _ _)[9 * jo + 4]?, some _] = _; rw [gPL_at (j := 1) (fun _ => rfl) (by decide) hjo, gPL_at (j := 2) (fun _ => rfl) (by decide) hjo, gPL_at (j := 3) (fun _ => rfl) (by decide) hjo, gPL_at (j := 4) (fun _ => rfl) (by decide) hjo]; rfl) 2 rfl ⟨[((pa jo 1), .inr (4, [.ref (pa jo 2), .ref (pa jo 3), .ref (pa jo 4)])), ((pa jo 2), .inl (y 2, 25, .inl (gZ (fb jo)))), ((pa jo 3), .inl (y 1, 25, .inr (.inl (fl jo)))), ((pa jo 4), .inl (y 1, 25, .inr (.inl (fh jo))))], rfl⟩ (fun H locs hP hD hS => ?_)
  have hP : va_P D vwCl (wXp y ad h q n (sp_X6_load_b1 (fb jo) (fl jo) (fh jo) p) (sp_X6_load_lo1 (fb jo) (fl jo) (fh jo) p) (sp_X6_load_hi1 (fb jo) (fl jo) (fh jo) p) b2 l2 r2 b3 l3 r3 uz ul uh f1 g1 f2 g2 pa kd on ot pt fb fl fh tb tl th dg ds) H := hP
  have hD : va_D A (wXp y ad h q n (sp_X6_load_b1 (fb jo) (fl jo) (fh jo) p) (sp_X6_load_lo1 (fb jo) (fl jo) (fh jo) p) (sp_X6_load_hi1 (fb jo) (fl jo) (fh jo) p) b2 l2 r2 b3 l3 r3 uz ul uh f1 g1 f2 g2 pa kd on ot pt fb fl fh tb tl th dg ds) := hD
  refine lv_aload_n hx hb dX7_instead_41 rfl (lv_at hl 1 rfl) ?_
  refine va_get (D := D) (ci := 5) (v := .ref (q 4)) (C := RX7) (T := TX7) (N := 8) hx hb hts in_X7_instead_X7 hown hK.1 hP 0 rfl rfl 5 (by decide) (hts (.fieldLink RX7 37 "Nestlimit" "supposed" "LNestlimit$Row;") (List.mem_of_getElem? (i := 3) rfl)) (fun _ h9 => h9) rfl dX7_instead_42 ?_
  refine lv_iload_n hx hb dX7_instead_45 rfl (lv_at hl 3 rfl) ?_
  refine lv_aload_n hx hb dX7_instead_46 rfl (lv_at hl 1 rfl) ?_
  refine va_get (D := D) (ci := 5) (v := .ref (q 1)) (C := RX7) (T := TX7) (N := 8) hx hb hts in_X7_instead_X7 hown hK.1 hP 0 rfl rfl 2 (by decide) (hts (.fieldLink RX7 22 "Nestlimit" "answer" "LNestlimit$Interval;") (List.mem_of_getElem? (i := 2) rfl)) (fun _ h9 => h9) rfl dX7_instead_47 ?_
  refine g_callv (va_runV (As := [.int (nI g), .ref (q 1)]) (rest := []) ⟨hx, hb, hml, hown, hts⟩ (c_X6_put l D y H.size (q 4) (q 5) (q 6) (q 7) 40 uz ul uh (q 1) (sp_X6_load_b1 (fb jo) (fl jo) (fh jo) p) (sp_X6_load_lo1 (fb jo) (fl jo) (fh jo) p) (sp_X6_load_hi1 (fb jo) (fl jo) (fh jo) p) g (by omega) (by decide)) (cwV 2 hts gX7_instead_X6_put rfl rfl rfl (by decide +kernel) ⟨Nat.le_of_ble_eq_true rfl, Nat.le_of_ble_eq_true rfl⟩) (gP_V hP hD hK [5, 6, 7, 8, 2] (by decide) rfl 5 rfl rfl) rfl rfl hl.1 rfl (lv_room (Nat.le_of_ble_eq_true rfl)) dX7_instead_50 ⟨Nat.zero_le _, Nat.zero_le _⟩) hP hD hS hA [5, 6, 7, 8, 2] rfl (fun H locs hP hD hS => ?_)
  have hP : va_P D vwCl (wXp y ad h q n (sp_X6_load_b1 (fb jo) (fl jo) (fh jo) p) (sp_X6_load_lo1 (fb jo) (fl jo) (fh jo) p) (sp_X6_load_hi1 (fb jo) (fl jo) (fh jo) p) b2 l2 r2 b3 l3 r3 (upZ uz g (sp_X6_load_b1 (fb jo) (fl jo) (fh jo) p)) (vp_updL ul g (sp_X6_load_lo1 (fb jo) (fl jo) (fh jo) p)) (vp_updL uh g (sp_X6_load_hi1 (fb jo) (fl jo) (fh jo) p)) f1 g1 f2 g2 pa kd on ot pt fb fl fh tb tl th dg ds) H := hP
  have hD : va_D A (wXp y ad h q n (sp_X6_load_b1 (fb jo) (fl jo) (fh jo) p) (sp_X6_load_lo1 (fb jo) (fl jo) (fh jo) p) (sp_X6_load_hi1 (fb jo) (fl jo) (fh jo) p) b2 l2 r2 b3 l3 r3 (upZ uz g (sp_X6_load_b1 (fb jo) (fl jo) (fh jo) p)) (vp_updL ul g (sp_X6_load_lo1 (fb jo) (fl jo) (fh jo) p)) (vp_updL uh g (sp_X6_load_hi1 (fb jo) (fl jo) (fh jo) p)) f1 g1 f2 g2 pa kd on ot pt fb fl fh tb tl th dg ds) := hD
  refine lv_iload_n hx hb dX7_instead_53 rfl (lv_at hl 3 rfl) ?_
  refine lv_iconst (v := 1) hx hb dX7_instead_54 (by decide) ?_
  refine lv_iadd hx hb dX7_instead_55 ?_
  refine g_topi (nI_add g 1) ?_
  refine lv_istore (lv' := [(7, .int (nI (g + 1))), (6, .ref (pa jo 0)), (0, .ref h), (1, .int (nI k)), (2, .int (nI g)), (3, .int (nI jo)), (4, .int (nI p)), (5, .int (gB bb))]) hx hb dX7_instead_56 hl (by decide) rfl (fun ls hl => ?_)
  have LOOP58 : ∀ (m9 : Nat) (j : Nat) (xb1 : Bool) (xl1 : Int64) (xr1 : Int64) (xb2 : Bool) (xl2 : Int64) (xr2 : Int64) (xb3 : Bool) (xl3 : Int64) (xr3 : Int64) (xuz : Nat → Bool) (xul : Nat → Int64) (xuh : Nat → Int64) (xf1 : Int64) (xg1 : Int64) (xf2 : Int64) (xg2 : Int64), (j + m9 = g + 1 + (k - g)) → (g < j) → (∀ o, o < j → sp_X5_isMadeOf (pt o) (nI g) = true → agX xuz xul xuh cW cX cY o) → ∀ (H : Heap) (locs : List Loc), va_P D vwCl (wXp y ad h q n xb1 xl1 xr1 xb2 xl2 xr2 xb3 xl3 xr3 xuz xul xuh xf1 xg1 xf2 xg2 pa kd on ot pt fb fl fh tb tl th dg ds) H → va_D A (wXp y ad h q n xb1 xl1 xr1 xb2 xl2 xr2 xb3 xl3 xr3 xuz xul xuh xf1 xg1 xf2 xg2 pa kd on ot pt fb fl fh tb tl th dg ds) → va_S A s.heap H locs → ∀ (ls : Array Slot), lv_has ls 8 [(0, .ref h), (1, .int (nI k)), (2, .int (nI g)), (3, .int (nI jo)), (4, .int (nI p)), (5, .int (gB bb)), (7, .int (nI j))] → W pg l e (headSpec wsX7_instead ({ frames := 9, cells := 1, slots := 6, locals := 324 } : Room)).room s m (([.ref h, .int (nI k), .int (nI g), .int (nI jo), .int (nI p), .int (gB bb)] : List Value).toArray) below meth c H locs 0 0 (vx_MQ below gNo (gXC D (wXp y ad h q n b1 l1 r1 b2 l2 r2 b3 l3 r3 uz ul uh f1 g1 f2 g2 pa kd on ot pt fb fl fh tb tl th dg ds) gISE (xScr y ad h q n pa kd on ot pt fb fl fh tb tl th dg ds)) (([.ref h, .int (nI k), .int (nI g), .int (nI jo), .int (nI p), .int (gB bb)] : List Value).toArray) s 1 6 (va_A (wXp y ad h q n b1 l1 r1 b2 l2 r2 b3 l3 r3 uz ul uh f1 g1 f2 g2 pa kd on ot pt fb fl fh tb tl th dg ds) s.heap.size)) (F0 m 58 ls []) := by
    intro m9
    induction m9 with
    | zero =>
      intro j xb1 xl1 xr1 xb2 xl2 xr2 xb3 xl3 xr3 xuz xul xuh xf1 xg1 xf2 xg2 hj hjg hd H locs hP hD hS ls hl
      refine lv_iload hx hb dX7_instead_58 (lv_at hl 6 rfl) ?_
      refine lv_iload_n hx hb dX7_instead_60 rfl (lv_at hl 1 rfl) ?_
      refine lv_icmp_gt (tgt := 79) hx hb dX7_instead_61 (by decide) (fun c_61 => ?_) (fun c_61 => absurd (nI_lt (by omega) (by omega)) c_61)
      refine lv_aload_n hx hb dX7_instead_79 rfl (lv_at hl 0 rfl) ?_
      refine lv_iload_n hx hb dX7_instead_80 rfl (lv_at hl 1 rfl) ?_
      refine lv_iload_n hx hb dX7_instead_81 rfl (lv_at hl 2 rfl) ?_
      refine lv_iload hx hb dX7_instead_82 (lv_at hl 4 rfl) ?_
      refine lv_aload_n hx hb dX7_instead_84 rfl (lv_at hl 0 rfl) ?_
      refine va_get (D := D) (ci := 5) (v := .ref (q 1)) (C := RX7) (T := TX7) (N := 8) hx hb hts in_X7_instead_X7 hown hK.1 hP 0 rfl rfl 2 (by decide) (hts (.fieldLink RX7 22 "Nestlimit" "answer" "LNestlimit$Interval;") (List.mem_of_getElem? (i := 2) rfl)) (fun _ h9 => h9) rfl dX7_instead_85 ?_
      refine g_callAv (w0 := wXp y ad h q n (lsB pt fb fl fh xuz xul xuh k g p) (lsL pt fb fl fh xuz xul xuh k g p) (lsR pt fb fl fh xuz xul xuh k g p) xb2 xl2 xr2 xb3 xl3 xr3 xuz xul xuh xf1 xg1 xf2 xg2 pa kd on ot pt fb fl fh tb tl th dg ds) (va_runV (As := [.int (nI k), .int (nI g), .int (nI p), .ref (q 1)]) (rest := []) ⟨hx, hb, hml, hown, hts⟩ (c_X7_loadSupposed_a l hfl D y ad H.size h q n xb1 xl1 xr1 xb2 xl2 xr2 xb3 xl3 xr3 xuz xul xuh xf1 xg1 xf2 xg2 pa kd on ot pt fb fl fh tb tl th dg ds k g p hn hk hp) (cwV 4 hts gX7_instead_X7_loadSupposed rfl rfl rfl (by decide +kernel) ⟨Nat.le_of_ble_eq_true rfl, Nat.le_of_ble_eq_true rfl⟩) (gPX_VA hP hD hK hE hS hA 0 rfl rfl) rfl rfl hl.1 rfl (lv_room (Nat.le_of_ble_eq_true rfl)) dX7_instead_88 ⟨Nat.zero_le _, Nat.zero_le _⟩) hP hD hS hA rfl (fun H locs hP hD hS => ?_)
      have e9 := ls_eq (pt := pt) (fb := fb) (fl := fl) (fh := fh) (p := p) (hd k (by omega))
      rw [e9.1, e9.2.1, e9.2.2] at hP hD
      refine lv_aload_n hx hb dX7_instead_91 rfl (lv_at hl 0 rfl) ?_
      refine lv_iload hx hb dX7_instead_92 (lv_at hl 5 rfl) ?_
      exact g_outX (vx_runV (As := [.int (gB bb)]) (rest := []) ⟨hx, hb, hml, hown, hts⟩ (c_X7_endOfAnswer_X l hfl D y ad H.size h q n (lsB pt fb fl fh cW cX cY k g p) (lsL pt fb fl fh cW cX cY k g p) (lsR pt fb fl fh cW cX cY k g p) xb2 xl2 xr2 xb3 xl3 xr3 xuz xul xuh xf1 xg1 xf2 xg2 pa kd on ot pt fb fl fh tb tl th dg ds bb hf) (cwV 1 hts gX7_instead_X7_endOfAnswer rfl rfl rfl (by decide +kernel) ⟨Nat.le_of_ble_eq_true rfl, Nat.le_of_ble_eq_true rfl⟩) (gPX_VA hP hD hK hE hS hA 0 rfl rfl) rfl rfl hl.1 rfl (lv_room (Nat.le_of_ble_eq_true rfl)) dX7_instead_94 ⟨Nat.le_of_ble_eq_true rfl, Nat.le_of_ble_eq_true rfl⟩) hAe hD hS hA (fun w1 h9 => by subst h9; exact ⟨_, _, _, _, _, _, _, _, _, _, _, _, _, _, _, _, rfl⟩) rfl hno hlocks (Nat.le_of_ble_eq_true rfl) (Nat.le_of_ble_eq_true rfl)
    | succ m9 ih58 =>
      intro j xb1 xl1 xr1 xb2 xl2 xr2 xb3 xl3 xr3 xuz xul xuh xf1 xg1 xf2 xg2 hj hjg hd H locs hP hD hS ls hl
      by_cases hmo : sp_X5_isMadeOf (pt j) (nI g) = true
      · skip
        obtain ⟨o1, o2, ho1, ho2, hon, hot, hk1, hk7, hin⟩ := hform j hjg (by omega) hmo
        refine lv_iload hx hb dX7_instead_58 (lv_at hl 6 rfl) ?_
        refine lv_iload_n hx hb dX7_instead_60 rfl (lv_at hl 1 rfl) ?_
        refine lv_icmp_gt (tgt := 79) hx hb dX7_instead_61 (by decide) (fun c_61 => absurd c_61 (nI_nlt (by omega) (by omega))) (fun c_61 => ?_)
        refine lv_aload_n hx hb dX7_instead_64 rfl (lv_at hl 0 rfl) ?_
        refine lv_iload hx hb dX7_instead_65 (lv_at hl 6 rfl) ?_
        refine lv_iload_n hx hb dX7_instead_67 rfl (lv_at hl 2 rfl) ?_
        refine lv_iload hx hb dX7_instead_68 (lv_at hl 4 rfl) ?_
        refine g_callAv (w0 := wXp y ad h q n (sp_X7_suppose_y_b1 xuz xul xuh kd pt fb fl fh j g p o1 o2) (sp_X7_suppose_y_l1 xuz xul xuh kd pt fb fl fh j g p o1 o2) (sp_X7_suppose_y_r1 xuz xul xuh kd pt fb fl fh j g p o1 o2) (sp_X7_suppose_y_b2 xuz xul xuh pt fb fl fh g p o1) (sp_X7_suppose_y_l2 xuz xul xuh pt fb fl fh g p o1) (sp_X7_suppose_y_r2 xuz xul xuh pt fb fl fh g p o1) (sp_X7_suppose_y_b3 xuz xul xuh pt fb fl fh g p o2) (sp_X7_suppose_y_l3 xuz xul xuh pt fb fl fh g p o2) (sp_X7_suppose_y_r3 xuz xul xuh pt fb fl fh g p o2) (sp_X7_suppose_y_uz xuz xul xuh kd pt fb fl fh j g p o1 o2) (sp_X7_suppose_y_ul xuz xul xuh kd pt fb fl fh j g p o1 o2) (sp_X7_suppose_y_uh xuz xul xuh kd pt fb fl fh j g p o1 o2) xf1 xg1 xf2 xg2 pa kd on ot pt fb fl fh tb tl th dg ds) (va_runV (As := [.int (nI j), .int (nI g), .int (nI p)]) (rest := []) ⟨hx, hb, hml, hown, hts⟩ (c_X7_suppose_y l hfl D y ad H.size h q n xb1 xl1 xr1 xb2 xl2 xr2 xb3 xl3 xr3 xuz xul xuh xf1 xg1 xf2 xg2 pa kd on ot pt fb fl fh tb tl th dg ds j g p o1 o2 hn (by omega) hp hmo ho1 ho2 hon hot hk1 hk7) (cwV 3 hts gX7_instead_X7_suppose rfl rfl rfl (by decide +kernel) ⟨Nat.le_of_ble_eq_true rfl, Nat.le_of_ble_eq_true rfl⟩) (gPX_VA hP hD hK hE hS hA 0 rfl rfl) rfl rfl hl.1 rfl (lv_room (Nat.le_of_ble_eq_true rfl)) dX7_instead_70 ⟨Nat.zero_le _, Nat.zero_le _⟩) hP hD hS hA rfl (fun H locs hP hD hS => ?_)
        refine lv_iinc (v := nI (j + 1)) (lv' := [(7, .int (nI (j + 1))), (0, .ref h), (1, .int (nI k)), (2, .int (nI g)), (3, .int (nI jo)), (4, .int (nI p)), (5, .int (gB bb))]) hx hb dX7_instead_73 hl (k := 6) rfl (nI_add j 1) (by decide) rfl (fun ls hl => ?_)
        refine lv_goto (tgt := 58) hx hb dX7_instead_76 (by decide) ?_
        exact ih58 (j + 1) (sp_X7_suppose_y_b1 xuz xul xuh kd pt fb fl fh j g p o1 o2) (sp_X7_suppose_y_l1 xuz xul xuh kd pt fb fl fh j g p o1 o2) (sp_X7_suppose_y_r1 xuz xul xuh kd pt fb fl fh j g p o1 o2) (sp_X7_suppose_y_b2 xuz xul xuh pt fb fl fh g p o1) (sp_X7_suppose_y_l2 xuz xul xuh pt fb fl fh g p o1) (sp_X7_suppose_y_r2 xuz xul xuh pt fb fl fh g p o1) (sp_X7_suppose_y_b3 xuz xul xuh pt fb fl fh g p o2) (sp_X7_suppose_y_l3 xuz xul xuh pt fb fl fh g p o2) (sp_X7_suppose_y_r3 xuz xul xuh pt fb fl fh g p o2) (sp_X7_suppose_y_uz xuz xul xuh kd pt fb fl fh j g p o1 o2) (sp_X7_suppose_y_ul xuz xul xuh kd pt fb fl fh j g p o1 o2) (sp_X7_suppose_y_uh xuz xul xuh kd pt fb fl fh j g p o1 o2) xf1 xg1 xf2 xg2 (by omega) (by omega) (sup_y hd ho1 ho2 hin) _ _ hP hD hS ls (lv_sub hl [1, 2, 3, 4, 5, 6, 0] rfl)
      · skip
        refine lv_iload hx hb dX7_instead_58 (lv_at hl 6 rfl) ?_
        refine lv_iload_n hx hb dX7_instead_60 rfl (lv_at hl 1 rfl) ?_
        refine lv_icmp_gt (tgt := 79) hx hb dX7_instead_61 (by decide) (fun c_61 => absurd c_61 (nI_nlt (by omega) (by omega))) (fun c_61 => ?_)
        refine lv_aload_n hx hb dX7_instead_64 rfl (lv_at hl 0 rfl) ?_
        refine lv_iload hx hb dX7_instead_65 (lv_at hl 6 rfl) ?_
        refine lv_iload_n hx hb dX7_instead_67 rfl (lv_at hl 2 rfl) ?_
        refine lv_iload hx hb dX7_instead_68 (lv_at hl 4 rfl) ?_
        refine g_callAv (w0 := wXp y ad h q n xb1 xl1 xr1 xb2 xl2 xr2 xb3 xl3 xr3 xuz xul xuh xf1 xg1 xf2 xg2 pa kd on ot pt fb fl fh tb tl th dg ds) (va_runV (As := [.int (nI j), .int (nI g), .int (nI p)]) (rest := []) ⟨hx, hb, hml, hown, hts⟩ (c_X7_suppose_n l hfl D y ad H.size h q n xb1 xl1 xr1 xb2 xl2 xr2 xb3 xl3 xr3 xuz xul xuh xf1 xg1 xf2 xg2 pa kd on ot pt fb fl fh tb tl th dg ds j g p hn (by omega) hp hmo) (cwV 3 hts gX7_instead_X7_suppose rfl rfl rfl (by decide +kernel) ⟨Nat.le_of_ble_eq_true rfl, Nat.le_of_ble_eq_true rfl⟩) (gPX_VA hP hD hK hE hS hA 0 rfl rfl) rfl rfl hl.1 rfl (lv_room (Nat.le_of_ble_eq_true rfl)) dX7_instead_70 ⟨Nat.zero_le _, Nat.zero_le _⟩) hP hD hS hA rfl (fun H locs hP hD hS => ?_)
        refine lv_iinc (v := nI (j + 1)) (lv' := [(7, .int (nI (j + 1))), (0, .ref h), (1, .int (nI k)), (2, .int (nI g)), (3, .int (nI jo)), (4, .int (nI p)), (5, .int (gB bb))]) hx hb dX7_instead_73 hl (k := 6) rfl (nI_add j 1) (by decide) rfl (fun ls hl => ?_)
        refine lv_goto (tgt := 58) hx hb dX7_instead_76 (by decide) ?_
        exact ih58 (j + 1) xb1 xl1 xr1 xb2 xl2 xr2 xb3 xl3 xr3 xuz xul xuh xf1 xg1 xf2 xg2 (by omega) (by omega) (sup_n hd hmo) _ _ hP hD hS ls (lv_sub hl [1, 2, 3, 4, 5, 6, 0] rfl)
  exact LOOP58 (k - g) (g + 1) (sp_X6_load_b1 (fb jo) (fl jo) (fh jo) p) (sp_X6_load_lo1 (fb jo) (fl jo) (fh jo) p) (sp_X6_load_hi1 (fb jo) (fl jo) (fh jo) p) b2 l2 r2 b3 l3 r3 (upZ uz g (sp_X6_load_b1 (fb jo) (fl jo) (fh jo) p)) (vp_updL ul g (sp_X6_load_lo1 (fb jo) (fl jo) (fh jo) p)) (vp_updL uh g (sp_X6_load_hi1 (fb jo) (fl jo) (fh jo) p)) f1 g1 f2 g2 (by omega) (by omega) (sup_0 hlo hg1 hg2 hg3) _ _ hP hD hS ls (lv_sub hl [2, 3, 4, 5, 6, 7, 0] rfl)
set_option maxHeartbeats 4000000 in
set_option maxRecDepth 100000 in
theorem c_X7_instead_0 (l : Launch) (hfl : l.stackTraces = false) (D : va_G) (y : Nat → ClassId) (ad : Nat → Nat) (sz : Nat) (h : Nat) (q : Nat → Nat) (n : Nat) (b1 : Bool) (l1 r1 : Int64) (b2 : Bool) (l2 r2 : Int64) (b3 : Bool) (l3 r3 : Int64) (uz : Nat → Bool) (ul uh : Nat → Int64) (f1 g1 f2 g2 : Int64) (pa : Nat → Nat → Nat) (kd : Nat → Nat) (on ot : Nat → Int32) (pt : Nat → Int64) (fb : Nat → Nat → Bool) (fl fh : Nat → Nat → Int64) (tb : Nat → Nat → Bool) (tl th : Nat → Nat → Int64) (dg : Nat → Int32) (ds : Nat → Int64) (k g jo p : Nat) (bb : Bool) (cW : Nat → Bool) (cX cY : Nat → Int64) (hn : n ≤ 40) (hk : k < n) (hg : g < n) (hjo : jo < n) (hp : p < 25) (hlo : ∀ o, o < g → ¬ sp_X5_isMadeOf (pt o) (nI g) = true) (hg1 : cW g = sp_X6_load_b1 (fb jo) (fl jo) (fh jo) p) (hg2 : cX g = sp_X6_load_lo1 (fb jo) (fl jo) (fh jo) p) (hg3 : cY g = sp_X6_load_hi1 (fb jo) (fl jo) (fh jo) p) (hform : ∀ j, g < j → j < n → sp_X5_isMadeOf (pt j) (nI g) = true → ∃ o1 o2 : Nat, o1 < j ∧ o2 < j ∧ on j = nI o1 ∧ ot j = nI o2 ∧ 1 ≤ kd j ∧ kd j ≤ 7 ∧ inX kd pt fb fl fh cW cX cY g p j o1 o2) (hf : lsB pt fb fl fh cW cX cY k g p = true) : Met l yX7_instead wsX7_instead ({ frames := 9, cells := 0, slots := 0, locals := 324 } : Room) (gPX D y ad [.ref h, .int (nI k), .int (nI g), .int (nI jo), .int (nI p), .int (gB bb)] (wXp y ad h q n b1 l1 r1 b2 l2 r2 b3 l3 r3 uz ul uh f1 g1 f2 g2 pa kd on ot pt fb fl fh tb tl th dg ds) sz) (gQ D (wXp y ad h q n b1 l1 r1 b2 l2 r2 b3 l3 r3 uz ul uh f1 g1 f2 g2 pa kd on ot pt fb fl fh tb tl th dg ds) (fun v w => v = some (.long (gSl bb (lsR pt fb fl fh cW cX cY k g p) (lsL pt fb fl fh cW cX cY k g p))) ∧ xScr y ad h q n pa kd on ot pt fb fl fh tb tl th dg ds w)) 0 0 (va_A (wXp y ad h q n b1 l1 r1 b2 l2 r2 b3 l3 r3 uz ul uh f1 g1 f2 g2 pa kd on ot pt fb fl fh tb tl th dg ds) sz) := by
  refine Met.ofW (cc := cX7_instead) (maxL := 8) (ret := (some .long)) (by decide) rfl ?_
  intro pg e s m args below meth c s₁ B hml hv
  obtain ⟨rfl, hsz, hP, hK, hD0, hE0⟩ := hv
  have hx := B.exec
  have hb := B.bytes
  have hr := B.returns
  have hts := atoms_spec (ws := wsX7_instead) B.pre
  have hown : s.vm.findClass RX7 = some m.cls := findClass_of_methodNamed B.named
  have hlocks := B.notSynchronized
  subst hsz
  obtain ⟨A, hAe⟩ : ∃ A : Nat → Prop, A = va_A (wXp y ad h q n b1 l1 r1 b2 l2 r2 b3 l3 r3 uz ul uh f1 g1 f2 g2 pa kd on ot pt fb fl fh tb tl th dg ds) s.heap.size := ⟨_, rfl⟩
  have hE : gE ad A s s.heap := by rw [hAe]; exact hE0
  have hD : va_D A (wXp y ad h q n b1 l1 r1 b2 l2 r2 b3 l3 r3 uz ul uh f1 g1 f2 g2 pa kd on ot pt fb fl fh tb tl th dg ds) := by rw [hAe]; exact hD0.self (sz := s.heap.size)
  have hA : ∀ q : Nat, s.heap.size ≤ q → A q := fun q h => by rw [hAe]; exact Or.inr h
  have hS : va_S A s.heap s.heap [] := va_S.rf
  have hl := lv_entry ([.ref h, .int (nI k), .int (nI g), .int (nI jo), .int (nI p), .int (gB bb)]) (n := 8) (Nat.le_of_ble_eq_true rfl)
  rw [lg_entry_eq]
  generalize (lg_sl ([.ref h, .int (nI k), .int (nI g), .int (nI jo), .int (nI p), .int (gB bb)]) ++ List.replicate (8 - (lg_sl ([.ref h, .int (nI k), .int (nI g), .int (nI jo), .int (nI p), .int (gB bb)])).length) Slot.unset).toArray = ls at hl ⊢
  have hl : lv_has ls 8 [(0, .ref h), (1, .int (nI k)), (2, .int (nI g)), (3, .int (nI jo)), (4, .int (nI p)), (5, .int (gB bb))] := hl
  refine lv_aload_n hx hb dX7_instead_0 rfl (lv_at hl 0 rfl) ?_
  refine lv_iload_n hx hb dX7_instead_1 rfl (lv_at hl 1 rfl) ?_
  refine g_callR (v0 := .ref (pa k 0)) (va_runV (As := [.int (nI k)]) (rest := []) ⟨hx, hb, hml, hown, hts⟩ (c_X7_existing_0 l hfl D y ad s.heap.size h q n b1 l1 r1 b2 l2 r2 b3 l3 r3 uz ul uh f1 g1 f2 g2 pa kd on ot pt fb fl fh tb tl th dg ds k hn hk) (cwV 1 hts gX7_instead_X7_existing rfl rfl rfl (by decide +kernel) ⟨Nat.le_of_ble_eq_true rfl, Nat.le_of_ble_eq_true rfl⟩) (gPX_VA hP hD hK hE hS hA 0 rfl rfl) rfl rfl hl.1 rfl (lv_room (Nat.le_of_ble_eq_true rfl)) dX7_instead_2 ⟨Nat.zero_le _, Nat.zero_le _⟩) ?_
  refine lv_pop hx hb dX7_instead_5 rfl ?_
  refine lv_aload_n hx hb dX7_instead_6 rfl (lv_at hl 0 rfl) ?_
  refine lv_iload_n hx hb dX7_instead_7 rfl (lv_at hl 2 rfl) ?_
  refine g_callR (v0 := .ref (pa g 0)) (va_runV (As := [.int (nI g)]) (rest := []) ⟨hx, hb, hml, hown, hts⟩ (c_X7_existing_0 l hfl D y ad s.heap.size h q n b1 l1 r1 b2 l2 r2 b3 l3 r3 uz ul uh f1 g1 f2 g2 pa kd on ot pt fb fl fh tb tl th dg ds g hn hg) (cwV 1 hts gX7_instead_X7_existing rfl rfl rfl (by decide +kernel) ⟨Nat.le_of_ble_eq_true rfl, Nat.le_of_ble_eq_true rfl⟩) (gPX_VA hP hD hK hE hS hA 0 rfl rfl) rfl rfl hl.1 rfl (lv_room (Nat.le_of_ble_eq_true rfl)) dX7_instead_8 ⟨Nat.zero_le _, Nat.zero_le _⟩) ?_
  refine lv_pop hx hb dX7_instead_11 rfl ?_
  refine lv_aload_n hx hb dX7_instead_12 rfl (lv_at hl 0 rfl) ?_
  refine lv_iload_n hx hb dX7_instead_13 rfl (lv_at hl 3 rfl) ?_
  refine g_callR (v0 := .ref (pa jo 0)) (va_runV (As := [.int (nI jo)]) (rest := []) ⟨hx, hb, hml, hown, hts⟩ (c_X7_existing_0 l hfl D y ad s.heap.size h q n b1 l1 r1 b2 l2 r2 b3 l3 r3 uz ul uh f1 g1 f2 g2 pa kd on ot pt fb fl fh tb tl th dg ds jo hn hjo) (cwV 1 hts gX7_instead_X7_existing rfl rfl rfl (by decide +kernel) ⟨Nat.le_of_ble_eq_true rfl, Nat.le_of_ble_eq_true rfl⟩) (gPX_VA hP hD hK hE hS hA 0 rfl rfl) rfl rfl hl.1 rfl (lv_room (Nat.le_of_ble_eq_true rfl)) dX7_instead_14 ⟨Nat.zero_le _, Nat.zero_le _⟩) ?_
  refine lv_astore (lv' := [(6, .ref (pa jo 0)), (0, .ref h), (1, .int (nI k)), (2, .int (nI g)), (3, .int (nI jo)), (4, .int (nI p)), (5, .int (gB bb))]) hx hb dX7_instead_17 hl (by decide) rfl (fun ls hl => ?_)
  refine lv_iload hx hb dX7_instead_19 (lv_at hl 5 rfl) ?_
  refine lv_iconst (v := 0) hx hb dX7_instead_21 (by decide) ?_
  refine lv_bipush (v := 24) hx hb dX7_instead_22 (by decide) ?_
  refine g_callv (va_runS (As := [.int (nI p), .int 0, .int 24]) (rest := []) ⟨hx, hb, hml, hown, hts⟩ (c_X7_requireWithin_0 l hfl D y ad s.heap.size (nI p) 0 24 (nI_pos (by omega)) (g_p24 hp)) (va_cwS 3 hts gX7_instead_X7_requireWithin rfl rfl rfl (by decide +kernel) ⟨Nat.le_of_ble_eq_true rfl, Nat.le_of_ble_eq_true rfl⟩) (gPX_S0 hK hE hS hA) rfl rfl hl.1 rfl (lv_room (Nat.le_of_ble_eq_true rfl)) dX7_instead_24 ⟨Nat.zero_le _, Nat.zero_le _⟩) hP hD hS hA [] rfl (fun H locs hP hD hS => ?_)
  have hP : va_P D vwCl (wXp y ad h q n b1 l1 r1 b2 l2 r2 b3 l3 r3 uz ul uh f1 g1 f2 g2 pa kd on ot pt fb fl fh tb tl th dg ds) H := hP
  have hD : va_D A (wXp y ad h q n b1 l1 r1 b2 l2 r2 b3 l3 r3 uz ul uh f1 g1 f2 g2 pa kd on ot pt fb fl fh tb tl th dg ds) := hD
  refine lv_aload hx hb dX7_instead_27 (lv_at hl 0 rfl) ?_
  refine va_get (D := D) (ci := 3) (v := .ref (pa jo 1)) (C := RX5) (T := TX5) (N := 8) hx hb hts in_X7_instead_X5 hown hK.1 hP (9 * jo + 0 + 11) (gPL_at (j := 0) (fun _ => rfl) (by decide) hjo) rfl 4 (by decide) (hts (.fieldLink RX7 89 "Nestlimit$Program" "found" "LNestlimit$Row;") (List.mem_of_getElem? (i := 1) rfl)) (fun _ h9 => h9) rfl dX7_instead_29 ?_
  refine lv_iload hx hb dX7_instead_32 (lv_at hl 5 rfl) ?_
  refine lv_aload_n hx hb dX7_instead_34 rfl (lv_at hl 1 rfl) ?_
  refine va_get (D := D) (ci := 5) (v := .ref (q 1)) (C := RX7) (T := TX7) (N := 8) hx hb hts in_X7_instead_X7 hown hK.1 hP 0 rfl rfl 2 (by decide) (hts (.fieldLink RX7 22 "Nestlimit" "answer" "LNestlimit$Interval;") (List.mem_of_getElem? (i := 2) rfl)) (fun _ h9 => h9) rfl dX7_instead_35 ?_
  refine g_callW (wc := [((pa jo 1), .inr (4, [.ref (pa jo 2), .ref (pa jo 3), .ref (pa jo 4)])), ((pa jo 2), .inl (y 2, 25, .inl (gZ (fb jo)))), ((pa jo 3), .inl (y 1, 25, .inr (.inl (fl jo)))), ((pa jo 4), .inl (y 1, 25, .inr (.inl (fh jo)))), ((q 1), .inr (1, [.int (gB b1), .long l1, .long r1]))]) (b := (q 1)) (e0 := .inr (1, [.int (gB b1), .long l1, .long r1])) (e1 := .inr (1, [.int (gB (sp_X6_load_b1 (fb jo) (fl jo) (fh jo) p)), .long (sp_X6_load_lo1 (fb jo) (fl jo) (fh jo) p), .long (sp_X6_load_hi1 (fb jo) (fl jo) (fh jo) p)])) (v0 := none) (fun w0 hw0 => by subst hw0; exact (va_runV (As := [.int (nI p), .ref (q 1)]) (rest := []) ⟨hx, hb, hml, hown, hts⟩ (c_X6_load l D y H.size (pa jo 1) (pa jo 2) (pa jo 3) (pa jo 4) 25 (fb jo) (fl jo) (fh jo) (q 1) b1 l1 r1 p (by omega) (by decide)) (cwV 2 hts gX7_instead_X6_load rfl rfl rfl (by decide +kernel) ⟨Nat.le_of_ble_eq_true rfl, Nat.le_of_ble_eq_true rfl⟩) (gP_VI hP hD hK [9 * jo + 1 + 11, 9 * jo + 2 + 11, 9 * jo + 3 + 11, 9 * jo + 4 + 11, 2] (by simp <;> omega) (by show [(gPL _ _)[9 * jo + 1]?, (gPL _ _)[9 * jo + 2]?, (gPL _ _)[9 * jo + 3]?, (gPL _ _)[9 * jo + 4]?, some _] = _; rw [gPL_at (j := 1) (fun _ => rfl) (by decide) hjo, gPL_at (j := 2) (fun _ => rfl) (by decide) hjo, gPL_at (j := 3) (fun _ => rfl) (by decide) hjo, gPL_at (j := 4) (fun _ => rfl) (by decide) hjo]; rfl) 0 rfl rfl) rfl rfl hl.1 rfl (lv_room (Nat.le_of_ble_eq_true rfl)) dX7_instead_38 ⟨Nat.zero_le _, Nat.zero_le _⟩)) hP hD hS hA [9 * jo + 1 + 11, 9 * jo + 2 + 11, 9 * jo + 3 + 11, 9 * jo + 4 + 11, 2] (by show [(gPL _ _)[9 * jo + 1]?, (gPL _ _)[9 * jo + 2]?, (gPL _ _)[9 * jo + 3]?, (gPL _ _)[9 * jo + 4]?, some _] = _; rw [gPL_at (j := 1) (fun _ => rfl) (by decide) hjo, gPL_at (j := 2) (fun _ => rfl) (by decide) hjo, gPL_at (j := 3) (fun _ => rfl) (by decide) hjo, gPL_at (j := 4) (fun _ => rfl) (by decide) hjo]; rfl) 2 rfl ⟨[((pa jo 1), .inr (4, [.ref (pa jo 2), .ref (pa jo 3), .ref (pa jo 4)])), ((pa jo 2), .inl (y 2, 25, .inl (gZ (fb jo)))), ((pa jo 3), .inl (y 1, 25, .inr (.inl (fl jo)))), ((pa jo 4), .inl (y 1, 25, .inr (.inl (fh jo))))], rfl⟩ (fun H locs hP hD hS => ?_)
  have hP : va_P D vwCl (wXp y ad h q n (sp_X6_load_b1 (fb jo) (fl jo) (fh jo) p) (sp_X6_load_lo1 (fb jo) (fl jo) (fh jo) p) (sp_X6_load_hi1 (fb jo) (fl jo) (fh jo) p) b2 l2 r2 b3 l3 r3 uz ul uh f1 g1 f2 g2 pa kd on ot pt fb fl fh tb tl th dg ds) H := hP
  have hD : va_D A (wXp y ad h q n (sp_X6_load_b1 (fb jo) (fl jo) (fh jo) p) (sp_X6_load_lo1 (fb jo) (fl jo) (fh jo) p) (sp_X6_load_hi1 (fb jo) (fl jo) (fh jo) p) b2 l2 r2 b3 l3 r3 uz ul uh f1 g1 f2 g2 pa kd on ot pt fb fl fh tb tl th dg ds) := hD
  refine lv_aload_n hx hb dX7_instead_41 rfl (lv_at hl 1 rfl) ?_
  refine va_get (D := D) (ci := 5) (v := .ref (q 4)) (C := RX7) (T := TX7) (N := 8) hx hb hts in_X7_instead_X7 hown hK.1 hP 0 rfl rfl 5 (by decide) (hts (.fieldLink RX7 37 "Nestlimit" "supposed" "LNestlimit$Row;") (List.mem_of_getElem? (i := 3) rfl)) (fun _ h9 => h9) rfl dX7_instead_42 ?_
  refine lv_iload_n hx hb dX7_instead_45 rfl (lv_at hl 3 rfl) ?_
  refine lv_aload_n hx hb dX7_instead_46 rfl (lv_at hl 1 rfl) ?_
  refine va_get (D := D) (ci := 5) (v := .ref (q 1)) (C := RX7) (T := TX7) (N := 8) hx hb hts in_X7_instead_X7 hown hK.1 hP 0 rfl rfl 2 (by decide) (hts (.fieldLink RX7 22 "Nestlimit" "answer" "LNestlimit$Interval;") (List.mem_of_getElem? (i := 2) rfl)) (fun _ h9 => h9) rfl dX7_instead_47 ?_
  refine g_callv (va_runV (As := [.int (nI g), .ref (q 1)]) (rest := []) ⟨hx, hb, hml, hown, hts⟩ (c_X6_put l D y H.size (q 4) (q 5) (q 6) (q 7) 40 uz ul uh (q 1) (sp_X6_load_b1 (fb jo) (fl jo) (fh jo) p) (sp_X6_load_lo1 (fb jo) (fl jo) (fh jo) p) (sp_X6_load_hi1 (fb jo) (fl jo) (fh jo) p) g (by omega) (by decide)) (cwV 2 hts gX7_instead_X6_put rfl rfl rfl (by decide +kernel) ⟨Nat.le_of_ble_eq_true rfl, Nat.le_of_ble_eq_true rfl⟩) (gP_V hP hD hK [5, 6, 7, 8, 2] (by decide) rfl 5 rfl rfl) rfl rfl hl.1 rfl (lv_room (Nat.le_of_ble_eq_true rfl)) dX7_instead_50 ⟨Nat.zero_le _, Nat.zero_le _⟩) hP hD hS hA [5, 6, 7, 8, 2] rfl (fun H locs hP hD hS => ?_)
  have hP : va_P D vwCl (wXp y ad h q n (sp_X6_load_b1 (fb jo) (fl jo) (fh jo) p) (sp_X6_load_lo1 (fb jo) (fl jo) (fh jo) p) (sp_X6_load_hi1 (fb jo) (fl jo) (fh jo) p) b2 l2 r2 b3 l3 r3 (upZ uz g (sp_X6_load_b1 (fb jo) (fl jo) (fh jo) p)) (vp_updL ul g (sp_X6_load_lo1 (fb jo) (fl jo) (fh jo) p)) (vp_updL uh g (sp_X6_load_hi1 (fb jo) (fl jo) (fh jo) p)) f1 g1 f2 g2 pa kd on ot pt fb fl fh tb tl th dg ds) H := hP
  have hD : va_D A (wXp y ad h q n (sp_X6_load_b1 (fb jo) (fl jo) (fh jo) p) (sp_X6_load_lo1 (fb jo) (fl jo) (fh jo) p) (sp_X6_load_hi1 (fb jo) (fl jo) (fh jo) p) b2 l2 r2 b3 l3 r3 (upZ uz g (sp_X6_load_b1 (fb jo) (fl jo) (fh jo) p)) (vp_updL ul g (sp_X6_load_lo1 (fb jo) (fl jo) (fh jo) p)) (vp_updL uh g (sp_X6_load_hi1 (fb jo) (fl jo) (fh jo) p)) f1 g1 f2 g2 pa kd on ot pt fb fl fh tb tl th dg ds) := hD
  refine lv_iload_n hx hb dX7_instead_53 rfl (lv_at hl 3 rfl) ?_
  refine lv_iconst (v := 1) hx hb dX7_instead_54 (by decide) ?_
  refine lv_iadd hx hb dX7_instead_55 ?_
  refine g_topi (nI_add g 1) ?_
  refine lv_istore (lv' := [(7, .int (nI (g + 1))), (6, .ref (pa jo 0)), (0, .ref h), (1, .int (nI k)), (2, .int (nI g)), (3, .int (nI jo)), (4, .int (nI p)), (5, .int (gB bb))]) hx hb dX7_instead_56 hl (by decide) rfl (fun ls hl => ?_)
  have LOOP58 : ∀ (m9 : Nat) (j : Nat) (xb1 : Bool) (xl1 : Int64) (xr1 : Int64) (xb2 : Bool) (xl2 : Int64) (xr2 : Int64) (xb3 : Bool) (xl3 : Int64) (xr3 : Int64) (xuz : Nat → Bool) (xul : Nat → Int64) (xuh : Nat → Int64) (xf1 : Int64) (xg1 : Int64) (xf2 : Int64) (xg2 : Int64), (j + m9 = g + 1 + (k - g)) → (g < j) → (∀ o, o < j → sp_X5_isMadeOf (pt o) (nI g) = true → agX xuz xul xuh cW cX cY o) → ∀ (H : Heap) (locs : List Loc), va_P D vwCl (wXp y ad h q n xb1 xl1 xr1 xb2 xl2 xr2 xb3 xl3 xr3 xuz xul xuh xf1 xg1 xf2 xg2 pa kd on ot pt fb fl fh tb tl th dg ds) H → va_D A (wXp y ad h q n xb1 xl1 xr1 xb2 xl2 xr2 xb3 xl3 xr3 xuz xul xuh xf1 xg1 xf2 xg2 pa kd on ot pt fb fl fh tb tl th dg ds) → va_S A s.heap H locs → ∀ (ls : Array Slot), lv_has ls 8 [(0, .ref h), (1, .int (nI k)), (2, .int (nI g)), (3, .int (nI jo)), (4, .int (nI p)), (5, .int (gB bb)), (7, .int (nI j))] → W pg l e (headSpec wsX7_instead ({ frames := 9, cells := 0, slots := 0, locals := 324 } : Room)).room s m (([.ref h, .int (nI k), .int (nI g), .int (nI jo), .int (nI p), .int (gB bb)] : List Value).toArray) below meth c H locs 0 0 (MQ below (gQ D (wXp y ad h q n b1 l1 r1 b2 l2 r2 b3 l3 r3 uz ul uh f1 g1 f2 g2 pa kd on ot pt fb fl fh tb tl th dg ds) (fun v w => v = some (.long (gSl bb (lsR pt fb fl fh cW cX cY k g p) (lsL pt fb fl fh cW cX cY k g p))) ∧ xScr y ad h q n pa kd on ot pt fb fl fh tb tl th dg ds w)) (([.ref h, .int (nI k), .int (nI g), .int (nI jo), .int (nI p), .int (gB bb)] : List Value).toArray) s 0 0 (va_A (wXp y ad h q n b1 l1 r1 b2 l2 r2 b3 l3 r3 uz ul uh f1 g1 f2 g2 pa kd on ot pt fb fl fh tb tl th dg ds) s.heap.size)) (F0 m 58 ls []) := by
    intro m9
    induction m9 with
    | zero =>
      intro j xb1 xl1 xr1 xb2 xl2 xr2 xb3 xl3 xr3 xuz xul xuh xf1 xg1 xf2 xg2 hj hjg hd H locs hP hD hS ls hl
      refine lv_iload hx hb dX7_instead_58 (lv_at hl 6 rfl) ?_
      refine lv_iload_n hx hb dX7_instead_60 rfl (lv_at hl 1 rfl) ?_
      refine lv_icmp_gt (tgt := 79) hx hb dX7_instead_61 (by decide) (fun c_61 => ?_) (fun c_61 => absurd (nI_lt (by omega) (by omega)) c_61)
      refine lv_aload_n hx hb dX7_instead_79 rfl (lv_at hl 0 rfl) ?_
      refine lv_iload_n hx hb dX7_instead_80 rfl (lv_at hl 1 rfl) ?_
      refine lv_iload_n hx hb dX7_instead_81 rfl (lv_at hl 2 rfl) ?_
      refine lv_iload hx hb dX7_instead_82 (lv_at hl 4 rfl) ?_
      refine lv_aload_n hx hb dX7_instead_84 rfl (lv_at hl 0 rfl) ?_
      refine va_get (D := D) (ci := 5) (v := .ref (q 1)) (C := RX7) (T := TX7) (N := 8) hx hb hts in_X7_instead_X7 hown hK.1 hP 0 rfl rfl 2 (by decide) (hts (.fieldLink RX7 22 "Nestlimit" "answer" "LNestlimit$Interval;") (List.mem_of_getElem? (i := 2) rfl)) (fun _ h9 => h9) rfl dX7_instead_85 ?_
      refine g_callAv (w0 := wXp y ad h q n (lsB pt fb fl fh xuz xul xuh k g p) (lsL pt fb fl fh xuz xul xuh k g p) (lsR pt fb fl fh xuz xul xuh k g p) xb2 xl2 xr2 xb3 xl3 xr3 xuz xul xuh xf1 xg1 xf2 xg2 pa kd on ot pt fb fl fh tb tl th dg ds) (va_runV (As := [.int (nI k), .int (nI g), .int (nI p), .ref (q 1)]) (rest := []) ⟨hx, hb, hml, hown, hts⟩ (c_X7_loadSupposed_a l hfl D y ad H.size h q n xb1 xl1 xr1 xb2 xl2 xr2 xb3 xl3 xr3 xuz xul xuh xf1 xg1 xf2 xg2 pa kd on ot pt fb fl fh tb tl th dg ds k g p hn hk hp) (cwV 4 hts gX7_instead_X7_loadSupposed rfl rfl rfl (by decide +kernel) ⟨Nat.le_of_ble_eq_true rfl, Nat.le_of_ble_eq_true rfl⟩) (gPX_VA hP hD hK hE hS hA 0 rfl rfl) rfl rfl hl.1 rfl (lv_room (Nat.le_of_ble_eq_true rfl)) dX7_instead_88 ⟨Nat.zero_le _, Nat.zero_le _⟩) hP hD hS hA rfl (fun H locs hP hD hS => ?_)
      have e9 := ls_eq (pt := pt) (fb := fb) (fl := fl) (fh := fh) (p := p) (hd k (by omega))
      rw [e9.1, e9.2.1, e9.2.2] at hP hD
      refine lv_aload_n hx hb dX7_instead_91 rfl (lv_at hl 0 rfl) ?_
      refine lv_iload hx hb dX7_instead_92 (lv_at hl 5 rfl) ?_
      refine g_callR (v0 := .long (gSl bb (lsR pt fb fl fh cW cX cY k g p) (lsL pt fb fl fh cW cX cY k g p))) (va_runV (As := [.int (gB bb)]) (rest := []) ⟨hx, hb, hml, hown, hts⟩ (c_X7_endOfAnswer_0 l hfl D y ad H.size h q n (lsB pt fb fl fh cW cX cY k g p) (lsL pt fb fl fh cW cX cY k g p) (lsR pt fb fl fh cW cX cY k g p) xb2 xl2 xr2 xb3 xl3 xr3 xuz xul xuh xf1 xg1 xf2 xg2 pa kd on ot pt fb fl fh tb tl th dg ds bb hf) (cwV 1 hts gX7_instead_X7_endOfAnswer rfl rfl rfl (by decide +kernel) ⟨Nat.le_of_ble_eq_true rfl, Nat.le_of_ble_eq_true rfl⟩) (gPX_VA hP hD hK hE hS hA 0 rfl rfl) rfl rfl hl.1 rfl (lv_room (Nat.le_of_ble_eq_true rfl)) dX7_instead_94 ⟨Nat.zero_le _, Nat.zero_le _⟩) ?_
      exact W.lret (v := gSl bb (lsR pt fb fl fh cW cX cY k g p) (lsL pt fb fl fh cW cX cY k g p)) hx hb hr (fun t ht hW => ⟨⟨some (.long (gSl bb (lsR pt fb fl fh cW cX cY k g p) (lsL pt fb fl fh cW cX cY k g p))), wXp y ad h q n (lsB pt fb fl fh cW cX cY k g p) (lsL pt fb fl fh cW cX cY k g p) (lsR pt fb fl fh cW cX cY k g p) xb2 xl2 xr2 xb3 xl3 xr3 xuz xul xuh xf1 xg1 xf2 xg2 pa kd on ot pt fb fl fh tb tl th dg ds, rfl, ⟨rfl, ⟨_, _, _, _, _, _, _, _, _, _, _, _, _, _, _, _, rfl⟩⟩, rfl, by rw [ht]; exact hP⟩, by rw [← hAe]; exact hS.F ht⟩) (by rw [← hAe]; exact hS.2.2) dX7_instead_97
    | succ m9 ih58 =>
      intro j xb1 xl1 xr1 xb2 xl2 xr2 xb3 xl3 xr3 xuz xul xuh xf1 xg1 xf2 xg2 hj hjg hd H locs hP hD hS ls hl
      by_cases hmo : sp_X5_isMadeOf (pt j) (nI g) = true
      · skip
        obtain ⟨o1, o2, ho1, ho2, hon, hot, hk1, hk7, hin⟩ := hform j hjg (by omega) hmo
        refine lv_iload hx hb dX7_instead_58 (lv_at hl 6 rfl) ?_
        refine lv_iload_n hx hb dX7_instead_60 rfl (lv_at hl 1 rfl) ?_
        refine lv_icmp_gt (tgt := 79) hx hb dX7_instead_61 (by decide) (fun c_61 => absurd c_61 (nI_nlt (by omega) (by omega))) (fun c_61 => ?_)
        refine lv_aload_n hx hb dX7_instead_64 rfl (lv_at hl 0 rfl) ?_
        refine lv_iload hx hb dX7_instead_65 (lv_at hl 6 rfl) ?_
        refine lv_iload_n hx hb dX7_instead_67 rfl (lv_at hl 2 rfl) ?_
        refine lv_iload hx hb dX7_instead_68 (lv_at hl 4 rfl) ?_
        refine g_callAv (w0 := wXp y ad h q n (sp_X7_suppose_y_b1 xuz xul xuh kd pt fb fl fh j g p o1 o2) (sp_X7_suppose_y_l1 xuz xul xuh kd pt fb fl fh j g p o1 o2) (sp_X7_suppose_y_r1 xuz xul xuh kd pt fb fl fh j g p o1 o2) (sp_X7_suppose_y_b2 xuz xul xuh pt fb fl fh g p o1) (sp_X7_suppose_y_l2 xuz xul xuh pt fb fl fh g p o1) (sp_X7_suppose_y_r2 xuz xul xuh pt fb fl fh g p o1) (sp_X7_suppose_y_b3 xuz xul xuh pt fb fl fh g p o2) (sp_X7_suppose_y_l3 xuz xul xuh pt fb fl fh g p o2) (sp_X7_suppose_y_r3 xuz xul xuh pt fb fl fh g p o2) (sp_X7_suppose_y_uz xuz xul xuh kd pt fb fl fh j g p o1 o2) (sp_X7_suppose_y_ul xuz xul xuh kd pt fb fl fh j g p o1 o2) (sp_X7_suppose_y_uh xuz xul xuh kd pt fb fl fh j g p o1 o2) xf1 xg1 xf2 xg2 pa kd on ot pt fb fl fh tb tl th dg ds) (va_runV (As := [.int (nI j), .int (nI g), .int (nI p)]) (rest := []) ⟨hx, hb, hml, hown, hts⟩ (c_X7_suppose_y l hfl D y ad H.size h q n xb1 xl1 xr1 xb2 xl2 xr2 xb3 xl3 xr3 xuz xul xuh xf1 xg1 xf2 xg2 pa kd on ot pt fb fl fh tb tl th dg ds j g p o1 o2 hn (by omega) hp hmo ho1 ho2 hon hot hk1 hk7) (cwV 3 hts gX7_instead_X7_suppose rfl rfl rfl (by decide +kernel) ⟨Nat.le_of_ble_eq_true rfl, Nat.le_of_ble_eq_true rfl⟩) (gPX_VA hP hD hK hE hS hA 0 rfl rfl) rfl rfl hl.1 rfl (lv_room (Nat.le_of_ble_eq_true rfl)) dX7_instead_70 ⟨Nat.zero_le _, Nat.zero_le _⟩) hP hD hS hA rfl (fun H locs hP hD hS => ?_)
        refine lv_iinc (v := nI (j + 1)) (lv' := [(7, .int (nI (j + 1))), (0, .ref h), (1, .int (nI k)), (2, .int (nI g)), (3, .int (nI jo)), (4, .int (nI p)), (5, .int (gB bb))]) hx hb dX7_instead_73 hl (k := 6) rfl (nI_add j 1) (by decide) rfl (fun ls hl => ?_)
        refine lv_goto (tgt := 58) hx hb dX7_instead_76 (by decide) ?_
        exact ih58 (j + 1) (sp_X7_suppose_y_b1 xuz xul xuh kd pt fb fl fh j g p o1 o2) (sp_X7_suppose_y_l1 xuz xul xuh kd pt fb fl fh j g p o1 o2) (sp_X7_suppose_y_r1 xuz xul xuh kd pt fb fl fh j g p o1 o2) (sp_X7_suppose_y_b2 xuz xul xuh pt fb fl fh g p o1) (sp_X7_suppose_y_l2 xuz xul xuh pt fb fl fh g p o1) (sp_X7_suppose_y_r2 xuz xul xuh pt fb fl fh g p o1) (sp_X7_suppose_y_b3 xuz xul xuh pt fb fl fh g p o2) (sp_X7_suppose_y_l3 xuz xul xuh pt fb fl fh g p o2) (sp_X7_suppose_y_r3 xuz xul xuh pt fb fl fh g p o2) (sp_X7_suppose_y_uz xuz xul xuh kd pt fb fl fh j g p o1 o2) (sp_X7_suppose_y_ul xuz xul xuh kd pt fb fl fh j g p o1 o2) (sp_X7_suppose_y_uh xuz xul xuh kd pt fb fl fh j g p o1 o2) xf1 xg1 xf2 xg2 (by omega) (by omega) (sup_y hd ho1 ho2 hin) _ _ hP hD hS ls (lv_sub hl [1, 2, 3, 4, 5, 6, 0] rfl)
      · skip
        refine lv_iload hx hb dX7_instead_58 (lv_at hl 6 rfl) ?_
        refine lv_iload_n hx hb dX7_instead_60 rfl (lv_at hl 1 rfl) ?_
        refine lv_icmp_gt (tgt := 79) hx hb dX7_instead_61 (by decide) (fun c_61 => absurd c_61 (nI_nlt (by omega) (by omega))) (fun c_61 => ?_)
        refine lv_aload_n hx hb dX7_instead_64 rfl (lv_at hl 0 rfl) ?_
        refine lv_iload hx hb dX7_instead_65 (lv_at hl 6 rfl) ?_
        refine lv_iload_n hx hb dX7_instead_67 rfl (lv_at hl 2 rfl) ?_
        refine lv_iload hx hb dX7_instead_68 (lv_at hl 4 rfl) ?_
        refine g_callAv (w0 := wXp y ad h q n xb1 xl1 xr1 xb2 xl2 xr2 xb3 xl3 xr3 xuz xul xuh xf1 xg1 xf2 xg2 pa kd on ot pt fb fl fh tb tl th dg ds) (va_runV (As := [.int (nI j), .int (nI g), .int (nI p)]) (rest := []) ⟨hx, hb, hml, hown, hts⟩ (c_X7_suppose_n l hfl D y ad H.size h q n xb1 xl1 xr1 xb2 xl2 xr2 xb3 xl3 xr3 xuz xul xuh xf1 xg1 xf2 xg2 pa kd on ot pt fb fl fh tb tl th dg ds j g p hn (by omega) hp hmo) (cwV 3 hts gX7_instead_X7_suppose rfl rfl rfl (by decide +kernel) ⟨Nat.le_of_ble_eq_true rfl, Nat.le_of_ble_eq_true rfl⟩) (gPX_VA hP hD hK hE hS hA 0 rfl rfl) rfl rfl hl.1 rfl (lv_room (Nat.le_of_ble_eq_true rfl)) dX7_instead_70 ⟨Nat.zero_le _, Nat.zero_le _⟩) hP hD hS hA rfl (fun H locs hP hD hS => ?_)
        refine lv_iinc (v := nI (j + 1)) (lv' := [(7, .int (nI (j + 1))), (0, .ref h), (1, .int (nI k)), (2, .int (nI g)), (3, .int (nI jo)), (4, .int (nI p)), (5, .int (gB bb))]) hx hb dX7_instead_73 hl (k := 6) rfl (nI_add j 1) (by decide) rfl (fun ls hl => ?_)
        refine lv_goto (tgt := 58) hx hb dX7_instead_76 (by decide) ?_
        exact ih58 (j + 1) xb1 xl1 xr1 xb2 xl2 xr2 xb3 xl3 xr3 xuz xul xuh xf1 xg1 xf2 xg2 (by omega) (by omega) (sup_n hd hmo) _ _ hP hD hS ls (lv_sub hl [1, 2, 3, 4, 5, 6, 0] rfl)
  exact LOOP58 (k - g) (g + 1) (sp_X6_load_b1 (fb jo) (fl jo) (fh jo) p) (sp_X6_load_lo1 (fb jo) (fl jo) (fh jo) p) (sp_X6_load_hi1 (fb jo) (fl jo) (fh jo) p) b2 l2 r2 b3 l3 r3 (upZ uz g (sp_X6_load_b1 (fb jo) (fl jo) (fh jo) p)) (vp_updL ul g (sp_X6_load_lo1 (fb jo) (fl jo) (fh jo) p)) (vp_updL uh g (sp_X6_load_hi1 (fb jo) (fl jo) (fh jo) p)) f1 g1 f2 g2 (by omega) (by omega) (sup_0 hlo hg1 hg2 hg3) _ _ hP hD hS ls (lv_sub hl [2, 3, 4, 5, 6, 7, 0] rfl)
