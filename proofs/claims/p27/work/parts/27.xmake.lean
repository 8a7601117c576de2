def mkX (fb : Nat → Nat → Bool) (fl fh : Nat → Nat → Int64) (d k j p : Nat) : Bool × Int64 × Int64 := (cmB d (sp_X6_load_b1 (fb k) (fl k) (fh k) p) (sp_X6_load_lo1 (fb k) (fl k) (fh k) p) (sp_X6_load_hi1 (fb k) (fl k) (fh k) p) (sp_X6_load_b1 (fb j) (fl j) (fh j) p) (sp_X6_load_lo1 (fb j) (fl j) (fh j) p) (sp_X6_load_hi1 (fb j) (fl j) (fh j) p) (nI p), cmL d (sp_X6_load_b1 (fb k) (fl k) (fh k) p) (sp_X6_load_lo1 (fb k) (fl k) (fh k) p) (sp_X6_load_hi1 (fb k) (fl k) (fh k) p) (sp_X6_load_b1 (fb j) (fl j) (fh j) p) (sp_X6_load_lo1 (fb j) (fl j) (fh j) p) (sp_X6_load_hi1 (fb j) (fl j) (fh j) p) (nI p), cmR d (sp_X6_load_b1 (fb k) (fl k) (fh k) p) (sp_X6_load_lo1 (fb k) (fl k) (fh k) p) (sp_X6_load_hi1 (fb k) (fl k) (fh k) p) (sp_X6_load_b1 (fb j) (fl j) (fh j) p) (sp_X6_load_lo1 (fb j) (fl j) (fh j) p) (sp_X6_load_hi1 (fb j) (fl j) (fh j) p) (nI p))
set_option maxHeartbeats 4000000 in
set_option maxRecDepth 100000 in
theorem c_X7_make_X1a (l : Launch) (hfl : l.stackTraces = false) (D : va_G) (y : Nat → ClassId) (ad : Nat → Nat) (sz : Nat) (h : Nat) (q : Nat → Nat) (n : Nat) (b1 : Bool) (l1 r1 : Int64) (b2 : Bool) (l2 r2 : Int64) (b3 : Bool) (l3 r3 : Int64) (uz : Nat → Bool) (ul uh : Nat → Int64) (f1 g1 f2 g2 : Int64) (pa : Nat → Nat → Nat) (kd : Nat → Nat) (on ot : Nat → Int32) (pt : Nat → Int64) (fb : Nat → Nat → Bool) (fl fh : Nat → Nat → Int64) (tb : Nat → Nat → Bool) (tl th : Nat → Nat → Int64) (dg : Nat → Int32) (ds : Nat → Int64) (kk : Nat) (a b : Int32) (hbad : a < 0 ∨ nI n ≤ a) : vx_Met l yX7_make wsX7_make ({ frames := 7, cells := 1, slots := 6, locals := 114 } : Room) (gPX D y ad [.ref h, .ref kk, .int a, .int b] (wXp y ad h q n b1 l1 r1 b2 l2 r2 b3 l3 r3 uz ul uh f1 g1 f2 g2 pa kd on ot pt fb fl fh tb tl th dg ds) sz) gNo (gXC D (wXp y ad h q n b1 l1 r1 b2 l2 r2 b3 l3 r3 uz ul uh f1 g1 f2 g2 pa kd on ot pt fb fl fh tb tl th dg ds) gIOB (fun w => w = wXp y ad h q n b1 l1 r1 b2 l2 r2 b3 l3 r3 uz ul uh f1 g1 f2 g2 pa kd on ot pt fb fl fh tb tl th dg ds)) 1 6 (va_A (wXp y ad h q n b1 l1 r1 b2 l2 r2 b3 l3 r3 uz ul uh f1 g1 f2 g2 pa kd on ot pt fb fl fh tb tl th dg ds) sz) := by
  refine vx_ofW (cc := cX7_make) (maxL := 8) (ret := (some .int)) (by decide) rfl ?_
  intro pg e s m args below meth c s₁ B hml hno hv
  obtain ⟨rfl, hsz, hP, hK, hD0, hE0⟩ := hv
  have hx := B.exec
  have hb := B.bytes
  have hr := B.returns
  have hts := atoms_spec (ws := wsX7_make) B.pre
  have hown : s.vm.findClass RX7 = some m.cls := findClass_of_methodNamed B.named
  have hlocks := B.notSynchronized
  subst hsz
  obtain ⟨A, hAe⟩ : ∃ A : Nat → Prop, A = va_A (wXp y ad h q n b1 l1 r1 b2 l2 r2 b3 l3 r3 uz ul uh f1 g1 f2 g2 pa kd on ot pt fb fl fh tb tl th dg ds) s.heap.size := ⟨_, rfl⟩
  have hE : gE ad A s s.heap := by rw [hAe]; exact hE0
  have hD : va_D A (wXp y ad h q n b1 l1 r1 b2 l2 r2 b3 l3 r3 uz ul uh f1 g1 f2 g2 pa kd on ot pt fb fl fh tb tl th dg ds) := by rw [hAe]; exact hD0.self (sz := s.heap.size)
  have hA : ∀ q : Nat, s.heap.size ≤ q → A q := fun q h => by rw [hAe]; exact Or.inr h
  have hS : va_S A s.heap s.heap [] := va_S.rf
  have hl := lv_entry ([.ref h, .ref kk, .int a, .int b]) (n := 8) (Nat.le_of_ble_eq_true rfl)
  rw [lg_entry_eq]
  generalize (lg_sl ([.ref h, .ref kk, .int a, .int b]) ++ List.replicate (8 - (lg_sl ([.ref h, .ref kk, .int a, .int b])).length) Slot.unset).toArray = ls at hl ⊢
  have hl : lv_has ls 8 [(0, .ref h), (1, .ref kk), (2, .int a), (3, .int b)] := hl
  refine lv_aload_n hx hb dX7_make_0 rfl (lv_at hl 0 rfl) ?_
  refine lv_iload_n hx hb dX7_make_1 rfl (lv_at hl 2 rfl) ?_
  exact g_outX (vx_runV (As := [.int a]) (rest := []) ⟨hx, hb, hml, hown, hts⟩ (c_X7_existing_X l hfl D y ad s.heap.size h q n b1 l1 r1 b2 l2 r2 b3 l3 r3 uz ul uh f1 g1 f2 g2 pa kd on ot pt fb fl fh tb tl th dg ds a hbad) (cwV 1 hts gX7_make_X7_existing rfl rfl rfl (by decide +kernel) ⟨Nat.le_of_ble_eq_true rfl, Nat.le_of_ble_eq_true rfl⟩) (gPX_VA hP hD hK hE hS hA 0 rfl rfl) rfl rfl hl.1 rfl (lv_room (Nat.le_of_ble_eq_true rfl)) dX7_make_2 ⟨Nat.le_of_ble_eq_true rfl, Nat.le_of_ble_eq_true rfl⟩) hAe hD hS hA (fun w1 h9 => h9) rfl hno hlocks (Nat.le_of_ble_eq_true rfl) (Nat.le_of_ble_eq_true rfl)
set_option maxHeartbeats 4000000 in
set_option maxRecDepth 100000 in
theorem c_X7_make_X1b (l : Launch) (hfl : l.stackTraces = false) (D : va_G) (y : Nat → ClassId) (ad : Nat → Nat) (sz : Nat) (h : Nat) (q : Nat → Nat) (n : Nat) (b1 : Bool) (l1 r1 : Int64) (b2 : Bool) (l2 r2 : Int64) (b3 : Bool) (l3 r3 : Int64) (uz : Nat → Bool) (ul uh : Nat → Int64) (f1 g1 f2 g2 : Int64) (pa : Nat → Nat → Nat) (kd : Nat → Nat) (on ot : Nat → Int32) (pt : Nat → Int64) (fb : Nat → Nat → Bool) (fl fh : Nat → Nat → Int64) (tb : Nat → Nat → Bool) (tl th : Nat → Nat → Int64) (dg : Nat → Int32) (ds : Nat → Int64) (kk k : Nat) (b : Int32) (hn : n ≤ 40) (hk : k < n) (hbad : b < 0 ∨ nI n ≤ b) : vx_Met l yX7_make wsX7_make ({ frames := 7, cells := 1, slots := 6, locals := 114 } : Room) (gPX D y ad [.ref h, .ref kk, .int (nI k), .int b] (wXp y ad h q n b1 l1 r1 b2 l2 r2 b3 l3 r3 uz ul uh f1 g1 f2 g2 pa kd on ot pt fb fl fh tb tl th dg ds) sz) gNo (gXC D (wXp y ad h q n b1 l1 r1 b2 l2 r2 b3 l3 r3 uz ul uh f1 g1 f2 g2 pa kd on ot pt fb fl fh tb tl th dg ds) gIOB (fun w => w = wXp y ad h q n b1 l1 r1 b2 l2 r2 b3 l3 r3 uz ul uh f1 g1 f2 g2 pa kd on ot pt fb fl fh tb tl th dg ds)) 1 6 (va_A (wXp y ad h q n b1 l1 r1 b2 l2 r2 b3 l3 r3 uz ul uh f1 g1 f2 g2 pa kd on ot pt fb fl fh tb tl th dg ds) sz) := by
  refine vx_ofW (cc := cX7_make) (maxL := 8) (ret := (some .int)) (by decide) rfl ?_
  intro pg e s m args below meth c s₁ B hml hno hv
  obtain ⟨rfl, hsz, hP, hK, hD0, hE0⟩ := hv
  have hx := B.exec
  have hb := B.bytes
  have hr := B.returns
  have hts := atoms_spec (ws := wsX7_make) B.pre
  have hown : s.vm.findClass RX7 = some m.cls := findClass_of_methodNamed B.named
  have hlocks := B.notSynchronized
  subst hsz
  obtain ⟨A, hAe⟩ : ∃ A : Nat → Prop, A = va_A (wXp y ad h q n b1 l1 r1 b2 l2 r2 b3 l3 r3 uz ul uh f1 g1 f2 g2 pa kd on ot pt fb fl fh tb tl th dg ds) s.heap.size := ⟨_, rfl⟩
  have hE : gE ad A s s.heap := by rw [hAe]; exact hE0
  have hD : va_D A (wXp y ad h q n b1 l1 r1 b2 l2 r2 b3 l3 r3 uz ul uh f1 g1 f2 g2 pa kd on ot pt fb fl fh tb tl th dg ds) := by rw [hAe]; exact hD0.self (sz := s.heap.size)
  have hA : ∀ q : Nat, s.heap.size ≤ q → A q := fun q h => by rw [hAe]; exact Or.inr h
  have hS : va_S A s.heap s.heap [] := va_S.rf
  have hl := lv_entry ([.ref h, .ref kk, .int (nI k), .int b]) (n := 8) (Nat.le_of_ble_eq_true rfl)
  rw [lg_entry_eq]
  generalize (lg_sl ([.ref h, .ref kk, .int (nI k), .int b]) ++ List.replicate (8 - (lg_sl ([.ref h, .ref kk, .int (nI k), .int b])).length) Slot.unset).toArray = ls at hl ⊢
  have hl : lv_has ls 8 [(0, .ref h), (1, .ref kk), (2, .int (nI k)), (3, .int b)] := hl
  refine lv_aload_n hx hb dX7_make_0 rfl (lv_at hl 0 rfl) ?_
  refine lv_iload_n hx hb dX7_make_1 rfl (lv_at hl 2 rfl) ?_
  refine g_callR (v0 := .ref (pa k 0)) (va_runV (As := [.int (nI k)]) (rest := []) ⟨hx, hb, hml, hown, hts⟩ (c_X7_existing_0 l hfl D y ad s.heap.size h q n b1 l1 r1 b2 l2 r2 b3 l3 r3 uz ul uh f1 g1 f2 g2 pa kd on ot pt fb fl fh tb tl th dg ds k hn hk) (cwV 1 hts gX7_make_X7_existing rfl rfl rfl (by decide +kernel) ⟨Nat.le_of_ble_eq_true rfl, Nat.le_of_ble_eq_true rfl⟩) (gPX_VA hP hD hK hE hS hA 0 rfl rfl) rfl rfl hl.1 rfl (lv_room (Nat.le_of_ble_eq_true rfl)) dX7_make_2 ⟨Nat.zero_le _, Nat.zero_le _⟩) ?_
  refine lv_astore (lv' := [(4, .ref (pa k 0)), (0, .ref h), (1, .ref kk), (2, .int (nI k)), (3, .int b)]) hx hb dX7_make_5 hl (by decide) rfl (fun ls hl => ?_)
  refine lv_aload_n hx hb dX7_make_7 rfl (lv_at hl 1 rfl) ?_
  refine lv_iload_n hx hb dX7_make_8 rfl (lv_at hl 4 rfl) ?_
  exact g_outX (vx_runV (As := [.int b]) (rest := []) ⟨hx, hb, hml, hown, hts⟩ (c_X7_existing_X l hfl D y ad s.heap.size h q n b1 l1 r1 b2 l2 r2 b3 l3 r3 uz ul uh f1 g1 f2 g2 pa kd on ot pt fb fl fh tb tl th dg ds b hbad) (cwV 1 hts gX7_make_X7_existing rfl rfl rfl (by decide +kernel) ⟨Nat.le_of_ble_eq_true rfl, Nat.le_of_ble_eq_true rfl⟩) (gPX_VA hP hD hK hE hS hA 0 rfl rfl) rfl rfl hl.1 rfl (lv_room (Nat.le_of_ble_eq_true rfl)) dX7_make_9 ⟨Nat.le_of_ble_eq_true rfl, Nat.le_of_ble_eq_true rfl⟩) hAe hD hS hA (fun w1 h9 => h9) rfl hno hlocks (Nat.le_of_ble_eq_true rfl) (Nat.le_of_ble_eq_true rfl)
set_option maxHeartbeats 4000000 in
set_option maxRecDepth 100000 in
theorem c_X7_make_X2 (l : Launch) (hfl : l.stackTraces = false) (D : va_G) (y : Nat → ClassId) (ad : Nat → Nat) (sz : Nat) (h : Nat) (q : Nat → Nat) (n : Nat) (b1 : Bool) (l1 r1 : Int64) (b2 : Bool) (l2 r2 : Int64) (b3 : Bool) (l3 r3 : Int64) (uz : Nat → Bool) (ul uh : Nat → Int64) (f1 g1 f2 g2 : Int64) (pa : Nat → Nat → Nat) (kd : Nat → Nat) (on ot : Nat → Int32) (pt : Nat → Int64) (fb : Nat → Nat → Bool) (fl fh : Nat → Nat → Int64) (tb : Nat → Nat → Bool) (tl th : Nat → Nat → Int64) (dg : Nat → Int32) (ds : Nat → Int64) (kk k j : Nat) (hn : n ≤ 40) (hk : k < n) (hj : j < n) (hn2 : ¬ n < 40) : vx_Met l yX7_make wsX7_make ({ frames := 7, cells := 1, slots := 6, locals := 112 } : Room) (gPX D y ad [.ref h, .ref kk, .int (nI k), .int (nI j)] (wXp y ad h q n b1 l1 r1 b2 l2 r2 b3 l3 r3 uz ul uh f1 g1 f2 g2 pa kd on ot pt fb fl fh tb tl th dg ds) sz) gNo (gXC D (wXp y ad h q n b1 l1 r1 b2 l2 r2 b3 l3 r3 uz ul uh f1 g1 f2 g2 pa kd on ot pt fb fl fh tb tl th dg ds) gISE (fun w => w = wXp y ad h q n b1 l1 r1 b2 l2 r2 b3 l3 r3 uz ul uh f1 g1 f2 g2 pa kd on ot pt fb fl fh tb tl th dg ds)) 1 6 (va_A (wXp y ad h q n b1 l1 r1 b2 l2 r2 b3 l3 r3 uz ul uh f1 g1 f2 g2 pa kd on ot pt fb fl fh tb tl th dg ds) sz) := by
  refine vx_ofW (cc := cX7_make) (maxL := 8) (ret := (some .int)) (by decide) rfl ?_
  intro pg e s m args below meth c s₁ B hml hno hv
  obtain ⟨rfl, hsz, hP, hK, hD0, hE0⟩ := hv
  have hx := B.exec
  have hb := B.bytes
  have hr := B.returns
  have hts := atoms_spec (ws := wsX7_make) B.pre
  have hown : s.vm.findClass RX7 = some m.cls := findClass_of_methodNamed B.named
  have hlocks := B.notSynchronized
  subst hsz
  obtain ⟨A, hAe⟩ : ∃ A : Nat → Prop, A = va_A (wXp y ad h q n b1 l1 r1 b2 l2 r2 b3 l3 r3 uz ul uh f1 g1 f2 g2 pa kd on ot pt fb fl fh tb tl th dg ds) s.heap.size := ⟨_, rfl⟩
  have hE : gE ad A s s.heap := by rw [hAe]; exact hE0
  have hD : va_D A (wXp y ad h q n b1 l1 r1 b2 l2 r2 b3 l3 r3 uz ul uh f1 g1 f2 g2 pa kd on ot pt fb fl fh tb tl th dg ds) := by rw [hAe]; exact hD0.self (sz := s.heap.size)
  have hA : ∀ q : Nat, s.heap.size ≤ q → A q := fun q h => by rw [hAe]; exact Or.inr h
  have hS : va_S A s.heap s.heap [] := va_S.rf
  have hl := lv_entry ([.ref h, .ref kk, .int (nI k), .int (nI j)]) (n := 8) (Nat.le_of_ble_eq_true rfl)
  rw [lg_entry_eq]
  generalize (lg_sl ([.ref h, .ref kk, .int (nI k), .int (nI j)]) ++ List.replicate (8 - (lg_sl ([.ref h, .ref kk, .int (nI k), .int (nI j)])).length) Slot.unset).toArray = ls at hl ⊢
  have hl : lv_has ls 8 [(0, .ref h), (1, .ref kk), (2, .int (nI k)), (3, .int (nI j))] := hl
  refine lv_aload_n hx hb dX7_make_0 rfl (lv_at hl 0 rfl) ?_
  refine lv_iload_n hx hb dX7_make_1 rfl (lv_at hl 2 rfl) ?_
  refine g_callR (v0 := .ref (pa k 0)) (va_runV (As := [.int (nI k)]) (rest := []) ⟨hx, hb, hml, hown, hts⟩ (c_X7_existing_0 l hfl D y ad s.heap.size h q n b1 l1 r1 b2 l2 r2 b3 l3 r3 uz ul uh f1 g1 f2 g2 pa kd on ot pt fb fl fh tb tl th dg ds k hn hk) (cwV 1 hts gX7_make_X7_existing rfl rfl rfl (by decide +kernel) ⟨Nat.le_of_ble_eq_true rfl, Nat.le_of_ble_eq_true rfl⟩) (gPX_VA hP hD hK hE hS hA 0 rfl rfl) rfl rfl hl.1 rfl (lv_room (Nat.le_of_ble_eq_true rfl)) dX7_make_2 ⟨Nat.zero_le _, Nat.zero_le _⟩) ?_
  refine lv_astore (lv' := [(4, .ref (pa k 0)), (0, .ref h), (1, .ref kk), (2, .int (nI k)), (3, .int (nI j))]) hx hb dX7_make_5 hl (by decide) rfl (fun ls hl => ?_)
  refine lv_aload_n hx hb dX7_make_7 rfl (lv_at hl 1 rfl) ?_
  refine lv_iload_n hx hb dX7_make_8 rfl (lv_at hl 4 rfl) ?_
  refine g_callR (v0 := .ref (pa j 0)) (va_runV (As := [.int (nI j)]) (rest := []) ⟨hx, hb, hml, hown, hts⟩ (c_X7_existing_0 l hfl D y ad s.heap.size h q n b1 l1 r1 b2 l2 r2 b3 l3 r3 uz ul uh f1 g1 f2 g2 pa kd on ot pt fb fl fh tb tl th dg ds j hn hj) (cwV 1 hts gX7_make_X7_existing rfl rfl rfl (by decide +kernel) ⟨Nat.le_of_ble_eq_true rfl, Nat.le_of_ble_eq_true rfl⟩) (gPX_VA hP hD hK hE hS hA 0 rfl rfl) rfl rfl hl.1 rfl (lv_room (Nat.le_of_ble_eq_true rfl)) dX7_make_9 ⟨Nat.zero_le _, Nat.zero_le _⟩) ?_
  refine lv_astore (lv' := [(5, .ref (pa j 0)), (4, .ref (pa k 0)), (0, .ref h), (1, .ref kk), (2, .int (nI k)), (3, .int (nI j))]) hx hb dX7_make_12 hl (by decide) rfl (fun ls hl => ?_)
  refine lv_aload_n hx hb dX7_make_14 rfl (lv_at hl 2 rfl) ?_
  exact g_outX (vx_runV (As := []) (rest := []) ⟨hx, hb, hml, hown, hts⟩ (c_X7_requireRoom_X l hfl D y ad s.heap.size h q n b1 l1 r1 b2 l2 r2 b3 l3 r3 uz ul uh f1 g1 f2 g2 pa kd on ot pt fb fl fh tb tl th dg ds hn2 hn) (cwV 0 hts gX7_make_X7_requireRoom rfl rfl rfl (by decide +kernel) ⟨Nat.le_of_ble_eq_true rfl, Nat.le_of_ble_eq_true rfl⟩) (gPX_VA hP hD hK hE hS hA 0 rfl rfl) rfl rfl hl.1 rfl (lv_room (Nat.le_of_ble_eq_true rfl)) dX7_make_15 ⟨Nat.le_of_ble_eq_true rfl, Nat.le_of_ble_eq_true rfl⟩) hAe hD hS hA (fun w1 h9 => h9) rfl hno hlocks (Nat.le_of_ble_eq_true rfl) (Nat.le_of_ble_eq_true rfl)
theorem in_X7_make_X5 : ∀ w ∈ wsX50, w ∈ wsX7_make := fun _ h => List.mem_cons_of_mem _ (List.mem_append_left _ (List.mem_append_left _ (List.mem_append_left _ (List.mem_append_left _ (List.mem_append_left _ (List.mem_append_right _ h))))))
theorem in_X7_make_X7 : ∀ w ∈ wsX70, w ∈ wsX7_make := fun _ h => List.mem_cons_of_mem _ (List.mem_append_left _ (List.mem_append_left _ (List.mem_append_left _ (List.mem_append_left _ (List.mem_append_right _ h)))))
set_option maxHeartbeats 4000000 in
set_option maxRecDepth 100000 in
theorem c_X7_make_0 (l : Launch) (hfl : l.stackTraces = false) (D : va_G) (y : Nat → ClassId) (ad : Nat → Nat) (sz : Nat) (h : Nat) (q : Nat → Nat) (n : Nat) (b1 : Bool) (l1 r1 : Int64) (b2 : Bool) (l2 r2 : Int64) (b3 : Bool) (l3 r3 : Int64) (uz : Nat → Bool) (ul uh : Nat → Int64) (f1 g1 f2 g2 : Int64) (pa : Nat → Nat → Nat) (kd : Nat → Nat) (on ot : Nat → Int32) (pt : Nat → Int64) (fb : Nat → Nat → Bool) (fl fh : Nat → Nat → Int64) (tb : Nat → Nat → Bool) (tl th : Nat → Nat → Int64) (dg : Nat → Int32) (ds : Nat → Int64) (k j d : Nat) (hn4 : n < 40) (hk : k < n) (hj : j < n) (hd1 : 1 ≤ d) (hd7 : d ≤ 7) : Met l yX7_make wsX7_make ({ frames := 7, cells := 9, slots := 164, locals := 222 } : Room) (gPX D y ad [.ref h, .ref (ad d), .int (nI k), .int (nI j)] (wXp y ad h q n b1 l1 r1 b2 l2 r2 b3 l3 r3 uz ul uh f1 g1 f2 g2 pa kd on ot pt fb fl fh tb tl th dg ds) sz) (gQn D (wXp y ad h q n b1 l1 r1 b2 l2 r2 b3 l3 r3 uz ul uh f1 g1 f2 g2 pa kd on ot pt fb fl fh tb tl th dg ds) (fun v w => ∃ (yb1 : Bool) (yl1 : Int64) (yr1 : Int64) (yb2 : Bool) (yl2 : Int64) (yr2 : Int64) (yb3 : Bool) (yl3 : Int64) (yr3 : Int64) (yuz : Nat → Bool) (yul : Nat → Int64) (yuh : Nat → Int64) (yf1 : Int64) (yg1 : Int64) (yf2 : Int64) (yg2 : Int64) (nan : Nat → Nat) (fbn : Nat → Bool) (fln : Nat → Int64) (fhn : Nat → Int64) (tbn : Nat → Bool) (tln : Nat → Int64) (thn : Nat → Int64), v = some (.int (nI n)) ∧ w = (wXp y ad h q (n + 1) yb1 yl1 yr1 yb2 yl2 yr2 yb3 yl3 yr3 yuz yul yuh yf1 yg1 yf2 yg2 (pst pa n nan) (pst kd n d) (pst on n (nI k)) (pst ot n (nI j)) (pst pt n ((pt k ||| pt j) ||| jshl 1 (nI n))) (pst fb n fbn) (pst fl n fln) (pst fh n fhn) (pst tb n tbn) (pst tl n tln) (pst th n thn) (pst dg n 0) (pst ds n 0)) ∧ (∀ i9, i9 < 25 → (fbn i9, fln i9, fhn i9) = mkX fb fl fh d k j i9) ∧ (∀ i9, i9 < 25 → (tbn i9, tln i9, thn i9) = nwA fbn fln fhn (i9 + 1)))) 9 164 (va_A (wXp y ad h q n b1 l1 r1 b2 l2 r2 b3 l3 r3 uz ul uh f1 g1 f2 g2 pa kd on ot pt fb fl fh tb tl th dg ds) sz) := by
  refine Met.ofW (cc := cX7_make) (maxL := 8) (ret := (some .int)) (by decide) rfl ?_
  intro pg e s m args below meth c s₁ B hml hv
  obtain ⟨rfl, hsz, hP, hK, hD0, hE0⟩ := hv
  have hx := B.exec
  have hb := B.bytes
  have hr := B.returns
  have hts := atoms_spec (ws := wsX7_make) B.pre
  have hown : s.vm.findClass RX7 = some m.cls := findClass_of_methodNamed B.named
  have hlocks := B.notSynchronized
  subst hsz
  obtain ⟨A, hAe⟩ : ∃ A : Nat → Prop, A = va_A (wXp y ad h q n b1 l1 r1 b2 l2 r2 b3 l3 r3 uz ul uh f1 g1 f2 g2 pa kd on ot pt fb fl fh tb tl th dg ds) s.heap.size := ⟨_, rfl⟩
  have hE : gE ad A s s.heap := by rw [hAe]; exact hE0
  have hD : va_D A (wXp y ad h q n b1 l1 r1 b2 l2 r2 b3 l3 r3 uz ul uh f1 g1 f2 g2 pa kd on ot pt fb fl fh tb tl th dg ds) := by rw [hAe]; exact hD0.self (sz := s.heap.size)
  have hA : ∀ q : Nat, s.heap.size ≤ q → A q := fun q h => by rw [hAe]; exact Or.inr h
  have hS : va_S A s.heap s.heap [] := va_S.rf
  have hl := lv_entry ([.ref h, .ref (ad d), .int (nI k), .int (nI j)]) (n := 8) (Nat.le_of_ble_eq_true rfl)
  rw [lg_entry_eq]
  generalize (lg_sl ([.ref h, .ref (ad d), .int (nI k), .int (nI j)]) ++ List.replicate (8 - (lg_sl ([.ref h, .ref (ad d), .int (nI k), .int (nI j)])).length) Slot.unset).toArray = ls at hl ⊢
  have hl : lv_has ls 8 [(0, .ref h), (1, .ref (ad d)), (2, .int (nI k)), (3, .int (nI j))] := hl
  refine lv_aload_n hx hb dX7_make_0 rfl (lv_at hl 0 rfl) ?_
  refine lv_iload_n hx hb dX7_make_1 rfl (lv_at hl 2 rfl) ?_
  refine g_callR (v0 := .ref (pa k 0)) (va_runV (As := [.int (nI k)]) (rest := []) ⟨hx, hb, hml, hown, hts⟩ (c_X7_existing_0 l hfl D y ad s.heap.size h q n b1 l1 r1 b2 l2 r2 b3 l3 r3 uz ul uh f1 g1 f2 g2 pa kd on ot pt fb fl fh tb tl th dg ds k (by omega) hk) (cwV 1 hts gX7_make_X7_existing rfl rfl rfl (by decide +kernel) ⟨Nat.le_of_ble_eq_true rfl, Nat.le_of_ble_eq_true rfl⟩) (gPX_VA hP hD hK hE hS hA 0 rfl rfl) rfl rfl hl.1 rfl (lv_room (Nat.le_of_ble_eq_true rfl)) dX7_make_2 ⟨Nat.le_of_ble_eq_true rfl, Nat.le_of_ble_eq_true rfl⟩) ?_
  refine lv_astore (lv' := [(4, .ref (pa k 0)), (0, .ref h), (1, .ref (ad d)), (2, .int (nI k)), (3, .int (nI j))]) hx hb dX7_make_5 hl (by decide) rfl (fun ls hl => ?_)
  refine lv_aload_n hx hb dX7_make_7 rfl (lv_at hl 1 rfl) ?_
  refine lv_iload_n hx hb dX7_make_8 rfl (lv_at hl 4 rfl) ?_
  refine g_callR (v0 := .ref (pa j 0)) (va_runV (As := [.int (nI j)]) (rest := []) ⟨hx, hb, hml, hown, hts⟩ (c_X7_existing_0 l hfl D y ad s.heap.size h q n b1 l1 r1 b2 l2 r2 b3 l3 r3 uz ul uh f1 g1 f2 g2 pa kd on ot pt fb fl fh tb tl th dg ds j (by omega) hj) (cwV 1 hts gX7_make_X7_existing rfl rfl rfl (by decide +kernel) ⟨Nat.le_of_ble_eq_true rfl, Nat.le_of_ble_eq_true rfl⟩) (gPX_VA hP hD hK hE hS hA 0 rfl rfl) rfl rfl hl.1 rfl (lv_room (Nat.le_of_ble_eq_true rfl)) dX7_make_9 ⟨Nat.le_of_ble_eq_true rfl, Nat.le_of_ble_eq_true rfl⟩) ?_
  refine lv_astore (lv' := [(5, .ref (pa j 0)), (4, .ref (pa k 0)), (0, .ref h), (1, .ref (ad d)), (2, .int (nI k)), (3, .int (nI j))]) hx hb dX7_make_12 hl (by decide) rfl (fun ls hl => ?_)
  refine lv_aload_n hx hb dX7_make_14 rfl (lv_at hl 2 rfl) ?_
  refine g_callAv (w0 := wXp y ad h q n b1 l1 r1 b2 l2 r2 b3 l3 r3 uz ul uh f1 g1 f2 g2 pa kd on ot pt fb fl fh tb tl th dg ds) (va_runV (As := []) (rest := []) ⟨hx, hb, hml, hown, hts⟩ (c_X7_requireRoom_0 l hfl D y ad s.heap.size h q n b1 l1 r1 b2 l2 r2 b3 l3 r3 uz ul uh f1 g1 f2 g2 pa kd on ot pt fb fl fh tb tl th dg ds hn4) (cwV 0 hts gX7_make_X7_requireRoom rfl rfl rfl (by decide +kernel) ⟨Nat.le_of_ble_eq_true rfl, Nat.le_of_ble_eq_true rfl⟩) (gPX_VA hP hD hK hE hS hA 0 rfl rfl) rfl rfl hl.1 rfl (lv_room (Nat.le_of_ble_eq_true rfl)) dX7_make_15 ⟨Nat.le_of_ble_eq_true rfl, Nat.le_of_ble_eq_true rfl⟩) hP hD hS hA rfl (fun H locs hP hD hS => ?_)
  refine va_new (ci := 3) (fs := [.null, .int 0, .int 0, .long 0, .null, .null, .int 0, .long 0]) (C := RX5) (T := TX5) (N := 8) hx hb hts in_X7_make_X5 tyX5 tyX5_ok hown (hts (.classLink RX7 9 RX5) (List.mem_of_getElem? (i := 1) rfl)) (hts (.instantiable RX5 8) (List.mem_of_getElem? (i := 2) rfl)) (hts (.initialized RX5) (List.mem_of_getElem? (i := 3) rfl)) hK.1 hP hD hS hA rfl (fun j hj => by have h8 : ∀ j : Fin 8, defaultValue (tyX5 j.val) = vp_V [.null, .int 0, .int 0, .long 0, .null, .null, .int 0, .long 0] j.val := (by decide); exact h8 ⟨j, hj⟩) (Nat.le_of_ble_eq_true rfl) (Nat.le_of_ble_eq_true rfl) dX7_make_18 (fun q18 H hP hD hS => ?_)
  have hP : va_P D vwCl (wXb q18 y ad h q n (gPg pa n) n b1 l1 r1 b2 l2 r2 b3 l3 r3 uz ul uh f1 g1 f2 g2 pa kd on ot pt fb fl fh tb tl th dg ds) H := va_P_sw hP
  have hD : va_D A (wXb q18 y ad h q n (gPg pa n) n b1 l1 r1 b2 l2 r2 b3 l3 r3 uz ul uh f1 g1 f2 g2 pa kd on ot pt fb fl fh tb tl th dg ds) := va_D_sw hD
  refine lv_dup hx hb dX7_make_21 rfl ?_
  refine lv_aload_n hx hb dX7_make_22 rfl (lv_at hl 3 rfl) ?_
  refine lv_iload_n hx hb dX7_make_23 rfl (lv_at hl 4 rfl) ?_
  refine lv_iload_n hx hb dX7_make_24 rfl (lv_at hl 5 rfl) ?_
  refine lv_aload hx hb dX7_make_25 (lv_at hl 1 rfl) ?_
  refine va_get (D := D) (ci := 3) (v := .long (pt k)) (C := RX5) (T := TX5) (N := 8) hx hb hts in_X7_make_X5 hown hK.1 hP (9 * k + 0 + 12) (gPL_at (j := 0) (fun _ => rfl) (by decide) hk) rfl 3 (by decide) (hts (.fieldLink RX7 236 "Nestlimit$Program" "parts" "J") (List.mem_of_getElem? (i := 4) rfl)) (fun _ h9 => h9) rfl dX7_make_27 ?_
  refine lv_aload hx hb dX7_make_30 (lv_at hl 0 rfl) ?_
  refine va_get (D := D) (ci := 3) (v := .long (pt j)) (C := RX5) (T := TX5) (N := 8) hx hb hts in_X7_make_X5 hown hK.1 hP (9 * j + 0 + 12) (gPL_at (j := 0) (fun _ => rfl) (by decide) hj) rfl 3 (by decide) (hts (.fieldLink RX7 236 "Nestlimit$Program" "parts" "J") (List.mem_of_getElem? (i := 4) rfl)) (fun _ h9 => h9) rfl dX7_make_32 ?_
  refine lv_lor hx hb dX7_make_35 ?_
  refine lv_aload_n hx hb dX7_make_36 rfl (lv_at hl 2 rfl) ?_
  refine g_callR (v0 := .long (jshl 1 (nI n))) (va_runV (As := []) (rest := [.long ((pt k) ||| (pt j)), .int (nI j), .int (nI k), .ref (ad d), .ref q18, .ref q18]) ⟨hx, hb, hml, hown, hts⟩ (c_X7_ownBit l hfl D y ad H.size h q n b1 l1 r1 b2 l2 r2 b3 l3 r3 uz ul uh f1 g1 f2 g2 pa kd on ot pt fb fl fh tb tl th dg ds) (cwV 0 hts gX7_make_X7_ownBit rfl rfl rfl (by decide +kernel) ⟨Nat.le_of_ble_eq_true rfl, Nat.le_of_ble_eq_true rfl⟩) (gPX_VA (va_P_r (ws := [(q18, .inr (3, [.null, .int 0, .int 0, .long 0, .null, .null, .int 0, .long 0]))]) hP) (va_D_r (ws := [(q18, .inr (3, [.null, .int 0, .int 0, .long 0, .null, .null, .int 0, .long 0]))]) hD) hK hE hS hA 0 rfl rfl) rfl rfl hl.1 rfl (lv_room (Nat.le_of_ble_eq_true rfl)) dX7_make_37 ⟨Nat.le_of_ble_eq_true rfl, Nat.le_of_ble_eq_true rfl⟩) ?_
  refine lv_lor hx hb dX7_make_40 ?_
  refine g_callN (ws := wXp y ad h q n b1 l1 r1 b2 l2 r2 b3 l3 r3 uz ul uh f1 g1 f2 g2 pa kd on ot pt fb fl fh tb tl th dg ds) (wc := [(q18, .inr (3, [.null, .int 0, .int 0, .long 0, .null, .null, .int 0, .long 0]))]) (va_runI (As := [.ref (ad d), .int (nI k), .int (nI j), .long (((pt k) ||| (pt j)) ||| (jshl 1 (nI n)))]) (rest := [.ref q18]) ⟨hx, hb, hml, hown, hts⟩ (c_X5_init l D y H.size q18 (ad d) (nI k) (nI j) (((pt k) ||| (pt j)) ||| (jshl 1 (nI n)))) (cwI 4 hts gX7_make_X5_init rfl rfl rfl (hts (.initialized RX5) (List.mem_of_getElem? (i := 3) rfl)) (hts (.methodLink RX7 68 yX5_init) (List.mem_of_getElem? (i := 28) rfl)) (hts (.instanceMethod yX5_init) (List.mem_of_getElem? (i := 29) rfl)) rfl (by decide +kernel) ⟨Nat.le_of_ble_eq_true rfl, Nat.le_of_ble_eq_true rfl⟩) (gP_S hP hD hK [0] (by decide) rfl) rfl rfl hl.1 rfl (lv_room (Nat.le_of_ble_eq_true rfl)) dX7_make_41 ⟨Nat.le_of_ble_eq_true rfl, Nat.le_of_ble_eq_true rfl⟩) (va_P_sw (ws := [(q18, .inr (3, [.null, .int 0, .int 0, .long 0, .null, .null, .int 0, .long 0]))]) hP) (va_D_sw (ws := [(q18, .inr (3, [.null, .int 0, .int 0, .long 0, .null, .null, .int 0, .long 0]))]) hD) hS hA (fun v w1 H locs hf hP hD hS => ?_)
  obtain ⟨u1_41, u2_41, u3_41, u4_41, u5_41, u6_41, u7_41, u8_41, rfl, rfl⟩ := hf
  have hP := va_P_sw hP
  have hD := va_D_sw hD
  obtain ⟨na, rfl, rfl, rfl, rfl, rfl, rfl, rfl, rfl, rfl⟩ := na9 q18 u1_41 u2_41 u3_41 u4_41 u5_41 u6_41 u7_41 u8_41
  have hP : va_P D vwCl (wXa na d (nI k) (nI j) (((pt k) ||| (pt j)) ||| (jshl 1 (nI n))) (fun _ => false) (fun _ => 0) (fun _ => 0) (fun _ => false) (fun _ => 0) (fun _ => 0) y ad h q n (gPg pa n) n b1 l1 r1 b2 l2 r2 b3 l3 r3 uz ul uh f1 g1 f2 g2 pa kd on ot pt fb fl fh tb tl th dg ds) H := hP
  have hD : va_D A (wXa na d (nI k) (nI j) (((pt k) ||| (pt j)) ||| (jshl 1 (nI n))) (fun _ => false) (fun _ => 0) (fun _ => 0) (fun _ => false) (fun _ => 0) (fun _ => 0) y ad h q n (gPg pa n) n b1 l1 r1 b2 l2 r2 b3 l3 r3 uz ul uh f1 g1 f2 g2 pa kd on ot pt fb fl fh tb tl th dg ds) := hD
  refine lv_astore (lv' := [(6, .ref (na 0)), (5, .ref (pa j 0)), (4, .ref (pa k 0)), (0, .ref h), (1, .ref (ad d)), (2, .int (nI k)), (3, .int (nI j))]) hx hb dX7_make_44 hl (by decide) rfl (fun ls hl => ?_)
  refine lv_iconst (v := 0) hx hb dX7_make_46 (by decide) ?_
  refine lv_istore (lv' := [(7, .int 0), (6, .ref (na 0)), (5, .ref (pa j 0)), (4, .ref (pa k 0)), (0, .ref h), (1, .ref (ad d)), (2, .int (nI k)), (3, .int (nI j))]) hx hb dX7_make_47 hl (by decide) rfl (fun ls hl => ?_)
  have LOOP49 : ∀ (m9 : Nat) (p : Nat) (xb1 : Bool) (xl1 : Int64) (xr1 : Int64) (xb2 : Bool) (xl2 : Int64) (xr2 : Int64) (xb3 : Bool) (xl3 : Int64) (xr3 : Int64) (xuz : Nat → Bool) (xul : Nat → Int64) (xuh : Nat → Int64) (xf1 : Int64) (xg1 : Int64) (xf2 : Int64) (xg2 : Int64) (xfb : Nat → Bool) (xfl : Nat → Int64) (xfh : Nat → Int64), (p + m9 = 25) → (∀ i9, i9 < p → (xfb i9, xfl i9, xfh i9) = (mkX fb fl fh d k j) i9) → ∀ (H : Heap) (locs : List Loc), va_P D vwCl (wXa na d (nI k) (nI j) ((pt k ||| pt j) ||| jshl 1 (nI n)) xfb xfl xfh (fun _ => false) (fun _ => 0) (fun _ => 0) y ad h q n (gPg pa n) n xb1 xl1 xr1 xb2 xl2 xr2 xb3 xl3 xr3 xuz xul xuh xf1 xg1 xf2 xg2 pa kd on ot pt fb fl fh tb tl th dg ds) H → va_D A (wXa na d (nI k) (nI j) ((pt k ||| pt j) ||| jshl 1 (nI n)) xfb xfl xfh (fun _ => false) (fun _ => 0) (fun _ => 0) y ad h q n (gPg pa n) n xb1 xl1 xr1 xb2 xl2 xr2 xb3 xl3 xr3 xuz xul xuh xf1 xg1 xf2 xg2 pa kd on ot pt fb fl fh tb tl th dg ds) → va_S A s.heap H locs → ∀ (ls : Array Slot), lv_has ls 8 [(0, .ref h), (1, .ref (ad d)), (2, .int (nI k)), (3, .int (nI j)), (4, .ref (pa k 0)), (5, .ref (pa j 0)), (6, .ref (na 0)), (7, .int (nI p))] → W pg l e (headSpec wsX7_make ({ frames := 7, cells := 9, slots := 164, locals := 222 } : Room)).room s m (([.ref h, .ref (ad d), .int (nI k), .int (nI j)] : List Value).toArray) below meth c H locs 9 164 (MQ below (gQn D (wXp y ad h q n b1 l1 r1 b2 l2 r2 b3 l3 r3 uz ul uh f1 g1 f2 g2 pa kd on ot pt fb fl fh tb tl th dg ds) (fun v w => ∃ (yb1 : Bool) (yl1 : Int64) (yr1 : Int64) (yb2 : Bool) (yl2 : Int64) (yr2 : Int64) (yb3 : Bool) (yl3 : Int64) (yr3 : Int64) (yuz : Nat → Bool) (yul : Nat → Int64) (yuh : Nat → Int64) (yf1 : Int64) (yg1 : Int64) (yf2 : Int64) (yg2 : Int64) (nan : Nat → Nat) (fbn : Nat → Bool) (fln : Nat → Int64) (fhn : Nat → Int64) (tbn : Nat → Bool) (tln : Nat → Int64) (thn : Nat → Int64), v = some (.int (nI n)) ∧ w = (wXp y ad h q (n + 1) yb1 yl1 yr1 yb2 yl2 yr2 yb3 yl3 yr3 yuz yul yuh yf1 yg1 yf2 yg2 (pst pa n nan) (pst kd n d) (pst on n (nI k)) (pst ot n (nI j)) (pst pt n ((pt k ||| pt j) ||| jshl 1 (nI n))) (pst fb n fbn) (pst fl n fln) (pst fh n fhn) (pst tb n tbn) (pst tl n tln) (pst th n thn) (pst dg n 0) (pst ds n 0)) ∧ (∀ i9, i9 < 25 → (fbn i9, fln i9, fhn i9) = mkX fb fl fh d k j i9) ∧ (∀ i9, i9 < 25 → (tbn i9, tln i9, thn i9) = nwA fbn fln fhn (i9 + 1)))) (([.ref h, .ref (ad d), .int (nI k), .int (nI j)] : List Value).toArray) s 9 164 (va_A (wXp y ad h q n b1 l1 r1 b2 l2 r2 b3 l3 r3 uz ul uh f1 g1 f2 g2 pa kd on ot pt fb fl fh tb tl th dg ds) s.heap.size)) (F0 m 49 ls []) := by
    intro m9
    induction m9 with
    | zero =>
      intro p xb1 xl1 xr1 xb2 xl2 xr2 xb3 xl3 xr3 xuz xul xuh xf1 xg1 xf2 xg2 xfb xfl xfh hp2 hfo H locs hP hD hS ls hl
      refine lv_iload hx hb dX7_make_49 (lv_at hl 7 rfl) ?_
      refine lv_bipush (v := 24) hx hb dX7_make_51 (by decide) ?_
      refine lv_icmp_gt (tgt := 111) hx hb dX7_make_53 (by decide) (fun c_53 => ?_) (fun c_53 => absurd (nI_lt (a := 24) (b := p) (by omega) (by omega)) c_53)
      refine lv_aload_n hx hb dX7_make_111 rfl (lv_at hl 0 rfl) ?_
      refine lv_aload hx hb dX7_make_112 (lv_at hl 6 rfl) ?_
      refine g_callN (ws := []) (wc := wXa na d (nI k) (nI j) ((pt k ||| pt j) ||| jshl 1 (nI n)) xfb xfl xfh (fun _ => false) (fun _ => 0) (fun _ => 0) y ad h q n (gPg pa n) n xb1 xl1 xr1 xb2 xl2 xr2 xb3 xl3 xr3 xuz xul xuh xf1 xg1 xf2 xg2 pa kd on ot pt fb fl fh tb tl th dg ds) (va_runV (As := [.ref (na 0)]) (rest := []) ⟨hx, hb, hml, hown, hts⟩ (c_X7_add l hfl D y ad H.size h q n xb1 xl1 xr1 xb2 xl2 xr2 xb3 xl3 xr3 xuz xul xuh xf1 xg1 xf2 xg2 pa kd on ot pt fb fl fh tb tl th dg ds na d (nI k) (nI j) ((pt k ||| pt j) ||| jshl 1 (nI n)) xfb xfl xfh (fun _ => false) (fun _ => 0) (fun _ => 0) hn4) (cwV 1 hts gX7_make_X7_add rfl rfl rfl (by decide +kernel) ⟨Nat.le_of_ble_eq_true rfl, Nat.le_of_ble_eq_true rfl⟩) (gPX_VA hP hD hK hE hS hA 9 rfl rfl) rfl rfl hl.1 rfl (lv_room (Nat.le_of_ble_eq_true rfl)) dX7_make_114 ⟨Nat.le_of_ble_eq_true rfl, Nat.le_of_ble_eq_true rfl⟩) hP hD hS hA (fun v w1 H locs hf hP hD hS => ?_)
      obtain ⟨yb1_114, yl1_114, yr1_114, yb2_114, yl2_114, yr2_114, yb3_114, yl3_114, yr3_114, yuz_114, yul_114, yuh_114, yf1_114, yg1_114, yf2_114, yg2_114, tbn_114, tln_114, thn_114, rfl, rfl, h114_0⟩ := hf
      have hP9 := hP
      have hD9 := hD
      exact W.iret (v := nI n) hx hb hr (fun t ht hW => ⟨⟨some (.int (nI n)), wXp y ad h q (n + 1) yb1_114 yl1_114 yr1_114 yb2_114 yl2_114 yr2_114 yb3_114 yl3_114 yr3_114 yuz_114 yul_114 yuh_114 yf1_114 yg1_114 yf2_114 yg2_114 (pst pa n na) (pst kd n d) (pst on n (nI k)) (pst ot n (nI j)) (pst pt n ((pt k ||| pt j) ||| jshl 1 (nI n))) (pst fb n xfb) (pst fl n xfl) (pst fh n xfh) (pst tb n tbn_114) (pst tl n tln_114) (pst th n thn_114) (pst dg n 0) (pst ds n 0), rfl, ⟨yb1_114, yl1_114, yr1_114, yb2_114, yl2_114, yr2_114, yb3_114, yl3_114, yr3_114, yuz_114, yul_114, yuh_114, yf1_114, yg1_114, yf2_114, yg2_114, na, xfb, xfl, xfh, tbn_114, tln_114, thn_114, rfl, rfl, fun i9 hj => hfo i9 (by omega), h114_0⟩, by rw [← hAe]; exact hD9, by rw [ht]; exact hP9⟩, by rw [← hAe]; exact hS.F ht⟩) (by rw [← hAe]; exact hS.2.2) dX7_make_117
    | succ m9 ih49 =>
      intro p xb1 xl1 xr1 xb2 xl2 xr2 xb3 xl3 xr3 xuz xul xuh xf1 xg1 xf2 xg2 xfb xfl xfh hp2 hfo H locs hP hD hS ls hl
      refine lv_iload hx hb dX7_make_49 (lv_at hl 7 rfl) ?_
      refine lv_bipush (v := 24) hx hb dX7_make_51 (by decide) ?_
      refine lv_icmp_gt (tgt := 111) hx hb dX7_make_53 (by decide) (fun c_53 => absurd c_53 (nI_nlt (a := 24) (b := p) (by omega) (by omega))) (fun c_53 => ?_)
      refine lv_aload hx hb dX7_make_56 (lv_at hl 4 rfl) ?_
      refine va_get (D := D) (ci := 3) (v := .ref (pa k 1)) (C := RX5) (T := TX5) (N := 8) hx hb hts in_X7_make_X5 hown hK.1 hP (9 * k + 0 + 20) (gPL_at (j := 0) (fun _ => rfl) (by decide) hk) rfl 4 (by decide) (hts (.fieldLink RX7 89 "Nestlimit$Program" "found" "LNestlimit$Row;") (List.mem_of_getElem? (i := 5) rfl)) (fun _ h9 => h9) rfl dX7_make_58 ?_
      refine lv_iload hx hb dX7_make_61 (lv_at hl 7 rfl) ?_
      refine lv_aload_n hx hb dX7_make_63 rfl (lv_at hl 0 rfl) ?_
      refine va_get (D := D) (ci := 5) (v := .ref (q 2)) (C := RX7) (T := TX7) (N := 8) hx hb hts in_X7_make_X7 hown hK.1 hP 9 rfl rfl 3 (by decide) (hts (.fieldLink RX7 26 "Nestlimit" "first" "LNestlimit$Interval;") (List.mem_of_getElem? (i := 6) rfl)) (fun _ h9 => h9) rfl dX7_make_64 ?_
      refine g_callW (wc := [((pa k 1), .inr (4, [.ref (pa k 2), .ref (pa k 3), .ref (pa k 4)])), ((pa k 2), .inl (y 2, 25, .inl (gZ (fb k)))), ((pa k 3), .inl (y 1, 25, .inr (.inl (fl k)))), ((pa k 4), .inl (y 1, 25, .inr (.inl (fh k)))), ((q 2), .inr (1, [.int (gB xb2), .long xl2, .long xr2]))]) (b := (q 2)) (e0 := .inr (1, [.int (gB xb2), .long xl2, .long xr2])) (e1 := .inr (1, [.int (gB (sp_X6_load_b1 (fb k) (fl k) (fh k) p)), .long (sp_X6_load_lo1 (fb k) (fl k) (fh k) p), .long (sp_X6_load_hi1 (fb k) (fl k) (fh k) p)])) (v0 := none) (fun w0 hw0 => by subst hw0; exact (va_runV (As := [.int (nI p), .ref (q 2)]) (rest := []) ⟨hx, hb, hml, hown, hts⟩ (c_X6_load l D y H.size (pa k 1) (pa k 2) (pa k 3) (pa k 4) 25 (fb k) (fl k) (fh k) (q 2) xb2 xl2 xr2 p (by omega) (by decide)) (cwV 2 hts gX7_make_X6_load rfl rfl rfl (by decide +kernel) ⟨Nat.le_of_ble_eq_true rfl, Nat.le_of_ble_eq_true rfl⟩) (gP_VI hP hD hK [9 * k + 1 + 20, 9 * k + 2 + 20, 9 * k + 3 + 20, 9 * k + 4 + 20, 12] (by simp <;> omega) (by show [(gPL _ _)[9 * k + 1]?, (gPL _ _)[9 * k + 2]?, (gPL _ _)[9 * k + 3]?, (gPL _ _)[9 * k + 4]?, some _] = _; rw [gPL_at (j := 1) (fun _ => rfl) (by decide) hk, gPL_at (j := 2) (fun _ => rfl) (by decide) hk, gPL_at (j := 3) (fun _ => rfl) (by decide) hk, gPL_at (j := 4) (fun _ => rfl) (by decide) hk]; rfl) 0 rfl rfl) rfl rfl hl.1 rfl (lv_room (Nat.le_of_ble_eq_true rfl)) dX7_make_67 ⟨Nat.le_of_ble_eq_true rfl, Nat.le_of_ble_eq_true rfl⟩)) hP hD hS hA [9 * k + 1 + 20, 9 * k + 2 + 20, 9 * k + 3 + 20, 9 * k + 4 + 20, 12] (by show [(gPL _ _)[9 * k + 1]?, (gPL _ _)[9 * k + 2]?, (gPL _ _)[9 * k + 3]?, (gPL _ _)[9 * k + 4]?, some _] = _; rw [gPL_at (j := 1) (fun _ => rfl) (by decide) hk, gPL_at (j := 2) (fun _ => rfl) (by decide) hk, gPL_at (j := 3) (fun _ => rfl) (by decide) hk, gPL_at (j := 4) (fun _ => rfl) (by decide) hk]; rfl) 12 rfl ⟨[((pa k 1), .inr (4, [.ref (pa k 2), .ref (pa k 3), .ref (pa k 4)])), ((pa k 2), .inl (y 2, 25, .inl (gZ (fb k)))), ((pa k 3), .inl (y 1, 25, .inr (.inl (fl k)))), ((pa k 4), .inl (y 1, 25, .inr (.inl (fh k))))], rfl⟩ (fun H locs hP hD hS => ?_)
      have hP : va_P D vwCl (wXa na d (nI k) (nI j) ((pt k ||| pt j) ||| jshl 1 (nI n)) xfb xfl xfh (fun _ => false) (fun _ => 0) (fun _ => 0) y ad h q n (gPg pa n) n xb1 xl1 xr1 (sp_X6_load_b1 (fb k) (fl k) (fh k) p) (sp_X6_load_lo1 (fb k) (fl k) (fh k) p) (sp_X6_load_hi1 (fb k) (fl k) (fh k) p) xb3 xl3 xr3 xuz xul xuh xf1 xg1 xf2 xg2 pa kd on ot pt fb fl fh tb tl th dg ds) H := hP
      have hD : va_D A (wXa na d (nI k) (nI j) ((pt k ||| pt j) ||| jshl 1 (nI n)) xfb xfl xfh (fun _ => false) (fun _ => 0) (fun _ => 0) y ad h q n (gPg pa n) n xb1 xl1 xr1 (sp_X6_load_b1 (fb k) (fl k) (fh k) p) (sp_X6_load_lo1 (fb k) (fl k) (fh k) p) (sp_X6_load_hi1 (fb k) (fl k) (fh k) p) xb3 xl3 xr3 xuz xul xuh xf1 xg1 xf2 xg2 pa kd on ot pt fb fl fh tb tl th dg ds) := hD
      refine lv_aload hx hb dX7_make_70 (lv_at hl 5 rfl) ?_
      refine va_get (D := D) (ci := 3) (v := .ref (pa j 1)) (C := RX5) (T := TX5) (N := 8) hx hb hts in_X7_make_X5 hown hK.1 hP (9 * j + 0 + 20) (gPL_at (j := 0) (fun _ => rfl) (by decide) hj) rfl 4 (by decide) (hts (.fieldLink RX7 89 "Nestlimit$Program" "found" "LNestlimit$Row;") (List.mem_of_getElem? (i := 5) rfl)) (fun _ h9 => h9) rfl dX7_make_72 ?_
      refine lv_iload hx hb dX7_make_75 (lv_at hl 7 rfl) ?_
      refine lv_aload_n hx hb dX7_make_77 rfl (lv_at hl 0 rfl) ?_
      refine va_get (D := D) (ci := 5) (v := .ref (q 3)) (C := RX7) (T := TX7) (N := 8) hx hb hts in_X7_make_X7 hown hK.1 hP 9 rfl rfl 4 (by decide) (hts (.fieldLink RX7 29 "Nestlimit" "second" "LNestlimit$Interval;") (List.mem_of_getElem? (i := 7) rfl)) (fun _ h9 => h9) rfl dX7_make_78 ?_
      refine g_callW (wc := [((pa j 1), .inr (4, [.ref (pa j 2), .ref (pa j 3), .ref (pa j 4)])), ((pa j 2), .inl (y 2, 25, .inl (gZ (fb j)))), ((pa j 3), .inl (y 1, 25, .inr (.inl (fl j)))), ((pa j 4), .inl (y 1, 25, .inr (.inl (fh j)))), ((q 3), .inr (1, [.int (gB xb3), .long xl3, .long xr3]))]) (b := (q 3)) (e0 := .inr (1, [.int (gB xb3), .long xl3, .long xr3])) (e1 := .inr (1, [.int (gB (sp_X6_load_b1 (fb j) (fl j) (fh j) p)), .long (sp_X6_load_lo1 (fb j) (fl j) (fh j) p), .long (sp_X6_load_hi1 (fb j) (fl j) (fh j) p)])) (v0 := none) (fun w0 hw0 => by subst hw0; exact (va_runV (As := [.int (nI p), .ref (q 3)]) (rest := []) ⟨hx, hb, hml, hown, hts⟩ (c_X6_load l D y H.size (pa j 1) (pa j 2) (pa j 3) (pa j 4) 25 (fb j) (fl j) (fh j) (q 3) xb3 xl3 xr3 p (by omega) (by decide)) (cwV 2 hts gX7_make_X6_load rfl rfl rfl (by decide +kernel) ⟨Nat.le_of_ble_eq_true rfl, Nat.le_of_ble_eq_true rfl⟩) (gP_VI hP hD hK [9 * j + 1 + 20, 9 * j + 2 + 20, 9 * j + 3 + 20, 9 * j + 4 + 20, 13] (by simp <;> omega) (by show [(gPL _ _)[9 * j + 1]?, (gPL _ _)[9 * j + 2]?, (gPL _ _)[9 * j + 3]?, (gPL _ _)[9 * j + 4]?, some _] = _; rw [gPL_at (j := 1) (fun _ => rfl) (by decide) hj, gPL_at (j := 2) (fun _ => rfl) (by decide) hj, gPL_at (j := 3) (fun _ => rfl) (by decide) hj, gPL_at (j := 4) (fun _ => rfl) (by decide) hj]; rfl) 0 rfl rfl) rfl rfl hl.1 rfl (lv_room (Nat.le_of_ble_eq_true rfl)) dX7_make_81 ⟨Nat.le_of_ble_eq_true rfl, Nat.le_of_ble_eq_true rfl⟩)) hP hD hS hA [9 * j + 1 + 20, 9 * j + 2 + 20, 9 * j + 3 + 20, 9 * j + 4 + 20, 13] (by show [(gPL _ _)[9 * j + 1]?, (gPL _ _)[9 * j + 2]?, (gPL _ _)[9 * j + 3]?, (gPL _ _)[9 * j + 4]?, some _] = _; rw [gPL_at (j := 1) (fun _ => rfl) (by decide) hj, gPL_at (j := 2) (fun _ => rfl) (by decide) hj, gPL_at (j := 3) (fun _ => rfl) (by decide) hj, gPL_at (j := 4) (fun _ => rfl) (by decide) hj]; rfl) 13 rfl ⟨[((pa j 1), .inr (4, [.ref (pa j 2), .ref (pa j 3), .ref (pa j 4)])), ((pa j 2), .inl (y 2, 25, .inl (gZ (fb j)))), ((pa j 3), .inl (y 1, 25, .inr (.inl (fl j)))), ((pa j 4), .inl (y 1, 25, .inr (.inl (fh j))))], rfl⟩ (fun H locs hP hD hS => ?_)
      have hP : va_P D vwCl (wXa na d (nI k) (nI j) ((pt k ||| pt j) ||| jshl 1 (nI n)) xfb xfl xfh (fun _ => false) (fun _ => 0) (fun _ => 0) y ad h q n (gPg pa n) n xb1 xl1 xr1 (sp_X6_load_b1 (fb k) (fl k) (fh k) p) (sp_X6_load_lo1 (fb k) (fl k) (fh k) p) (sp_X6_load_hi1 (fb k) (fl k) (fh k) p) (sp_X6_load_b1 (fb j) (fl j) (fh j) p) (sp_X6_load_lo1 (fb j) (fl j) (fh j) p) (sp_X6_load_hi1 (fb j) (fl j) (fh j) p) xuz xul xuh xf1 xg1 xf2 xg2 pa kd on ot pt fb fl fh tb tl th dg ds) H := hP
      have hD : va_D A (wXa na d (nI k) (nI j) ((pt k ||| pt j) ||| jshl 1 (nI n)) xfb xfl xfh (fun _ => false) (fun _ => 0) (fun _ => 0) y ad h q n (gPg pa n) n xb1 xl1 xr1 (sp_X6_load_b1 (fb k) (fl k) (fh k) p) (sp_X6_load_lo1 (fb k) (fl k) (fh k) p) (sp_X6_load_hi1 (fb k) (fl k) (fh k) p) (sp_X6_load_b1 (fb j) (fl j) (fh j) p) (sp_X6_load_lo1 (fb j) (fl j) (fh j) p) (sp_X6_load_hi1 (fb j) (fl j) (fh j) p) xuz xul xuh xf1 xg1 xf2 xg2 pa kd on ot pt fb fl fh tb tl th dg ds) := hD
      refine lv_aload_n hx hb dX7_make_84 rfl (lv_at hl 0 rfl) ?_
      refine lv_aload_n hx hb dX7_make_85 rfl (lv_at hl 1 rfl) ?_
      refine lv_iload hx hb dX7_make_86 (lv_at hl 7 rfl) ?_
      refine g_callAr (ws := [((na 0), .inr (3, [.ref (ad d), .int (nI k), .int (nI j), .long ((pt k ||| pt j) ||| jshl 1 (nI n)), .ref (na 1), .ref (na 5), .int 0, .long 0])), ((na 1), .inr (4, [.ref (na 2), .ref (na 3), .ref (na 4)])), ((na 2), .inl (y 2, 25, .inl (gZ xfb))), ((na 3), .inl (y 1, 25, .inr (.inl xfl))), ((na 4), .inl (y 1, 25, .inr (.inl xfh))), ((na 5), .inr (4, [.ref (na 6), .ref (na 7), .ref (na 8)])), ((na 6), .inl (y 2, 25, .inl (gZ (fun _ => false)))), ((na 7), .inl (y 1, 25, .inr (.inl (fun _ => 0)))), ((na 8), .inl (y 1, 25, .inr (.inl (fun _ => 0))))]) (va_runV (As := [.ref (ad d), .int (nI p)]) (rest := []) ⟨hx, hb, hml, hown, hts⟩ (c_X7_combine l hfl D y ad H.size h q n xb1 xl1 xr1 (sp_X6_load_b1 (fb k) (fl k) (fh k) p) (sp_X6_load_lo1 (fb k) (fl k) (fh k) p) (sp_X6_load_hi1 (fb k) (fl k) (fh k) p) (sp_X6_load_b1 (fb j) (fl j) (fh j) p) (sp_X6_load_lo1 (fb j) (fl j) (fh j) p) (sp_X6_load_hi1 (fb j) (fl j) (fh j) p) xuz xul xuh xf1 xg1 xf2 xg2 pa kd on ot pt fb fl fh tb tl th dg ds d (nI p) hd1 hd7) (cwV 2 hts gX7_make_X7_combine rfl rfl rfl (by decide +kernel) ⟨Nat.le_of_ble_eq_true rfl, Nat.le_of_ble_eq_true rfl⟩) (gPX_VA (va_P_r (ws := [((na 0), .inr (3, [.ref (ad d), .int (nI k), .int (nI j), .long ((pt k ||| pt j) ||| jshl 1 (nI n)), .ref (na 1), .ref (na 5), .int 0, .long 0])), ((na 1), .inr (4, [.ref (na 2), .ref (na 3), .ref (na 4)])), ((na 2), .inl (y 2, 25, .inl (gZ xfb))), ((na 3), .inl (y 1, 25, .inr (.inl xfl))), ((na 4), .inl (y 1, 25, .inr (.inl xfh))), ((na 5), .inr (4, [.ref (na 6), .ref (na 7), .ref (na 8)])), ((na 6), .inl (y 2, 25, .inl (gZ (fun _ => false)))), ((na 7), .inl (y 1, 25, .inr (.inl (fun _ => 0)))), ((na 8), .inl (y 1, 25, .inr (.inl (fun _ => 0))))]) hP) (va_D_r (ws := [((na 0), .inr (3, [.ref (ad d), .int (nI k), .int (nI j), .long ((pt k ||| pt j) ||| jshl 1 (nI n)), .ref (na 1), .ref (na 5), .int 0, .long 0])), ((na 1), .inr (4, [.ref (na 2), .ref (na 3), .ref (na 4)])), ((na 2), .inl (y 2, 25, .inl (gZ xfb))), ((na 3), .inl (y 1, 25, .inr (.inl xfl))), ((na 4), .inl (y 1, 25, .inr (.inl xfh))), ((na 5), .inr (4, [.ref (na 6), .ref (na 7), .ref (na 8)])), ((na 6), .inl (y 2, 25, .inl (gZ (fun _ => false)))), ((na 7), .inl (y 1, 25, .inr (.inl (fun _ => 0)))), ((na 8), .inl (y 1, 25, .inr (.inl (fun _ => 0))))]) hD) hK hE hS hA 0 rfl rfl) rfl rfl hl.1 rfl (lv_room (Nat.le_of_ble_eq_true rfl)) dX7_make_88 ⟨Nat.le_of_ble_eq_true rfl, Nat.le_of_ble_eq_true rfl⟩) hP hD hS hA (fun v w1 H locs hf hP hD hS => ?_)
      obtain ⟨rfl, rfl⟩ := hf
      have hP : va_P D vwCl (wXa na d (nI k) (nI j) ((pt k ||| pt j) ||| jshl 1 (nI n)) xfb xfl xfh (fun _ => false) (fun _ => 0) (fun _ => 0) y ad h q n (gPg pa n) n (cmB d (sp_X6_load_b1 (fb k) (fl k) (fh k) p) (sp_X6_load_lo1 (fb k) (fl k) (fh k) p) (sp_X6_load_hi1 (fb k) (fl k) (fh k) p) (sp_X6_load_b1 (fb j) (fl j) (fh j) p) (sp_X6_load_lo1 (fb j) (fl j) (fh j) p) (sp_X6_load_hi1 (fb j) (fl j) (fh j) p) (nI p)) (cmL d (sp_X6_load_b1 (fb k) (fl k) (fh k) p) (sp_X6_load_lo1 (fb k) (fl k) (fh k) p) (sp_X6_load_hi1 (fb k) (fl k) (fh k) p) (sp_X6_load_b1 (fb j) (fl j) (fh j) p) (sp_X6_load_lo1 (fb j) (fl j) (fh j) p) (sp_X6_load_hi1 (fb j) (fl j) (fh j) p) (nI p)) (cmR d (sp_X6_load_b1 (fb k) (fl k) (fh k) p) (sp_X6_load_lo1 (fb k) (fl k) (fh k) p) (sp_X6_load_hi1 (fb k) (fl k) (fh k) p) (sp_X6_load_b1 (fb j) (fl j) (fh j) p) (sp_X6_load_lo1 (fb j) (fl j) (fh j) p) (sp_X6_load_hi1 (fb j) (fl j) (fh j) p) (nI p)) (sp_X6_load_b1 (fb k) (fl k) (fh k) p) (sp_X6_load_lo1 (fb k) (fl k) (fh k) p) (sp_X6_load_hi1 (fb k) (fl k) (fh k) p) (sp_X6_load_b1 (fb j) (fl j) (fh j) p) (sp_X6_load_lo1 (fb j) (fl j) (fh j) p) (sp_X6_load_hi1 (fb j) (fl j) (fh j) p) xuz xul xuh xf1 xg1 xf2 xg2 pa kd on ot pt fb fl fh tb tl th dg ds) H := hP
      have hD : va_D A (wXa na d (nI k) (nI j) ((pt k ||| pt j) ||| jshl 1 (nI n)) xfb xfl xfh (fun _ => false) (fun _ => 0) (fun _ => 0) y ad h q n (gPg pa n) n (cmB d (sp_X6_load_b1 (fb k) (fl k) (fh k) p) (sp_X6_load_lo1 (fb k) (fl k) (fh k) p) (sp_X6_load_hi1 (fb k) (fl k) (fh k) p) (sp_X6_load_b1 (fb j) (fl j) (fh j) p) (sp_X6_load_lo1 (fb j) (fl j) (fh j) p) (sp_X6_load_hi1 (fb j) (fl j) (fh j) p) (nI p)) (cmL d (sp_X6_load_b1 (fb k) (fl k) (fh k) p) (sp_X6_load_lo1 (fb k) (fl k) (fh k) p) (sp_X6_load_hi1 (fb k) (fl k) (fh k) p) (sp_X6_load_b1 (fb j) (fl j) (fh j) p) (sp_X6_load_lo1 (fb j) (fl j) (fh j) p) (sp_X6_load_hi1 (fb j) (fl j) (fh j) p) (nI p)) (cmR d (sp_X6_load_b1 (fb k) (fl k) (fh k) p) (sp_X6_load_lo1 (fb k) (fl k) (fh k) p) (sp_X6_load_hi1 (fb k) (fl k) (fh k) p) (sp_X6_load_b1 (fb j) (fl j) (fh j) p) (sp_X6_load_lo1 (fb j) (fl j) (fh j) p) (sp_X6_load_hi1 (fb j) (fl j) (fh j) p) (nI p)) (sp_X6_load_b1 (fb k) (fl k) (fh k) p) (sp_X6_load_lo1 (fb k) (fl k) (fh k) p) (sp_X6_load_hi1 (fb k) (fl k) (fh k) p) (sp_X6_load_b1 (fb j) (fl j) (fh j) p) (sp_X6_load_lo1 (fb j) (fl j) (fh j) p) (sp_X6_load_hi1 (fb j) (fl j) (fh j) p) xuz xul xuh xf1 xg1 xf2 xg2 pa kd on ot pt fb fl fh tb tl th dg ds) := hD
      refine lv_aload hx hb dX7_make_91 (lv_at hl 6 rfl) ?_
      refine va_get (D := D) (ci := 3) (v := .ref (na 1)) (C := RX5) (T := TX5) (N := 8) hx hb hts in_X7_make_X5 hown hK.1 hP 0 rfl rfl 4 (by decide) (hts (.fieldLink RX7 89 "Nestlimit$Program" "found" "LNestlimit$Row;") (List.mem_of_getElem? (i := 5) rfl)) (fun _ h9 => h9) rfl dX7_make_93 ?_
      refine lv_iload hx hb dX7_make_96 (lv_at hl 7 rfl) ?_
      refine lv_aload_n hx hb dX7_make_98 rfl (lv_at hl 0 rfl) ?_
      refine va_get (D := D) (ci := 5) (v := .ref (q 1)) (C := RX7) (T := TX7) (N := 8) hx hb hts in_X7_make_X7 hown hK.1 hP 9 rfl rfl 2 (by decide) (hts (.fieldLink RX7 22 "Nestlimit" "answer" "LNestlimit$Interval;") (List.mem_of_getElem? (i := 8) rfl)) (fun _ h9 => h9) rfl dX7_make_99 ?_
      refine g_callv (va_runV (As := [.int (nI p), .ref (q 1)]) (rest := []) ⟨hx, hb, hml, hown, hts⟩ (c_X6_put l D y H.size (na 1) (na 2) (na 3) (na 4) 25 xfb xfl xfh (q 1) (cmB d (sp_X6_load_b1 (fb k) (fl k) (fh k) p) (sp_X6_load_lo1 (fb k) (fl k) (fh k) p) (sp_X6_load_hi1 (fb k) (fl k) (fh k) p) (sp_X6_load_b1 (fb j) (fl j) (fh j) p) (sp_X6_load_lo1 (fb j) (fl j) (fh j) p) (sp_X6_load_hi1 (fb j) (fl j) (fh j) p) (nI p)) (cmL d (sp_X6_load_b1 (fb k) (fl k) (fh k) p) (sp_X6_load_lo1 (fb k) (fl k) (fh k) p) (sp_X6_load_hi1 (fb k) (fl k) (fh k) p) (sp_X6_load_b1 (fb j) (fl j) (fh j) p) (sp_X6_load_lo1 (fb j) (fl j) (fh j) p) (sp_X6_load_hi1 (fb j) (fl j) (fh j) p) (nI p)) (cmR d (sp_X6_load_b1 (fb k) (fl k) (fh k) p) (sp_X6_load_lo1 (fb k) (fl k) (fh k) p) (sp_X6_load_hi1 (fb k) (fl k) (fh k) p) (sp_X6_load_b1 (fb j) (fl j) (fh j) p) (sp_X6_load_lo1 (fb j) (fl j) (fh j) p) (sp_X6_load_hi1 (fb j) (fl j) (fh j) p) (nI p)) p (by omega) (by decide)) (cwV 2 hts gX7_make_X6_put rfl rfl rfl (by decide +kernel) ⟨Nat.le_of_ble_eq_true rfl, Nat.le_of_ble_eq_true rfl⟩) (gP_V hP hD hK [1, 2, 3, 4, 11] (by decide) rfl 1 rfl rfl) rfl rfl hl.1 rfl (lv_room (Nat.le_of_ble_eq_true rfl)) dX7_make_102 ⟨Nat.le_of_ble_eq_true rfl, Nat.le_of_ble_eq_true rfl⟩) hP hD hS hA [1, 2, 3, 4, 11] rfl (fun H locs hP hD hS => ?_)
      have hP : va_P D vwCl (wXa na d (nI k) (nI j) ((pt k ||| pt j) ||| jshl 1 (nI n)) (upZ xfb p (cmB d (sp_X6_load_b1 (fb k) (fl k) (fh k) p) (sp_X6_load_lo1 (fb k) (fl k) (fh k) p) (sp_X6_load_hi1 (fb k) (fl k) (fh k) p) (sp_X6_load_b1 (fb j) (fl j) (fh j) p) (sp_X6_load_lo1 (fb j) (fl j) (fh j) p) (sp_X6_load_hi1 (fb j) (fl j) (fh j) p) (nI p))) (vp_updL xfl p (cmL d (sp_X6_load_b1 (fb k) (fl k) (fh k) p) (sp_X6_load_lo1 (fb k) (fl k) (fh k) p) (sp_X6_load_hi1 (fb k) (fl k) (fh k) p) (sp_X6_load_b1 (fb j) (fl j) (fh j) p) (sp_X6_load_lo1 (fb j) (fl j) (fh j) p) (sp_X6_load_hi1 (fb j) (fl j) (fh j) p) (nI p))) (vp_updL xfh p (cmR d (sp_X6_load_b1 (fb k) (fl k) (fh k) p) (sp_X6_load_lo1 (fb k) (fl k) (fh k) p) (sp_X6_load_hi1 (fb k) (fl k) (fh k) p) (sp_X6_load_b1 (fb j) (fl j) (fh j) p) (sp_X6_load_lo1 (fb j) (fl j) (fh j) p) (sp_X6_load_hi1 (fb j) (fl j) (fh j) p) (nI p))) (fun _ => false) (fun _ => 0) (fun _ => 0) y ad h q n (gPg pa n) n (cmB d (sp_X6_load_b1 (fb k) (fl k) (fh k) p) (sp_X6_load_lo1 (fb k) (fl k) (fh k) p) (sp_X6_load_hi1 (fb k) (fl k) (fh k) p) (sp_X6_load_b1 (fb j) (fl j) (fh j) p) (sp_X6_load_lo1 (fb j) (fl j) (fh j) p) (sp_X6_load_hi1 (fb j) (fl j) (fh j) p) (nI p)) (cmL d (sp_X6_load_b1 (fb k) (fl k) (fh k) p) (sp_X6_load_lo1 (fb k) (fl k) (fh k) p) (sp_X6_load_hi1 (fb k) (fl k) (fh k) p) (sp_X6_load_b1 (fb j) (fl j) (fh j) p) (sp_X6_load_lo1 (fb j) (fl j) (fh j) p) (sp_X6_load_hi1 (fb j) (fl j) (fh j) p) (nI p)) (cmR d (sp_X6_load_b1 (fb k) (fl k) (fh k) p) (sp_X6_load_lo1 (fb k) (fl k) (fh k) p) (sp_X6_load_hi1 (fb k) (fl k) (fh k) p) (sp_X6_load_b1 (fb j) (fl j) (fh j) p) (sp_X6_load_lo1 (fb j) (fl j) (fh j) p) (sp_X6_load_hi1 (fb j) (fl j) (fh j) p) (nI p)) (sp_X6_load_b1 (fb k) (fl k) (fh k) p) (sp_X6_load_lo1 (fb k) (fl k) (fh k) p) (sp_X6_load_hi1 (fb k) (fl k) (fh k) p) (sp_X6_load_b1 (fb j) (fl j) (fh j) p) (sp_X6_load_lo1 (fb j) (fl j) (fh j) p) (sp_X6_load_hi1 (fb j) (fl j) (fh j) p) xuz xul xuh xf1 xg1 xf2 xg2 pa kd on ot pt fb fl fh tb tl th dg ds) H := hP
      have hD : va_D A (wXa na d (nI k) (nI j) ((pt k ||| pt j) ||| jshl 1 (nI n)) (upZ xfb p (cmB d (sp_X6_load_b1 (fb k) (fl k) (fh k) p) (sp_X6_load_lo1 (fb k) (fl k) (fh k) p) (sp_X6_load_hi1 (fb k) (fl k) (fh k) p) (sp_X6_load_b1 (fb j) (fl j) (fh j) p) (sp_X6_load_lo1 (fb j) (fl j) (fh j) p) (sp_X6_load_hi1 (fb j) (fl j) (fh j) p) (nI p))) (vp_updL xfl p (cmL d (sp_X6_load_b1 (fb k) (fl k) (fh k) p) (sp_X6_load_lo1 (fb k) (fl k) (fh k) p) (sp_X6_load_hi1 (fb k) (fl k) (fh k) p) (sp_X6_load_b1 (fb j) (fl j) (fh j) p) (sp_X6_load_lo1 (fb j) (fl j) (fh j) p) (sp_X6_load_hi1 (fb j) (fl j) (fh j) p) (nI p))) (vp_updL xfh p (cmR d (sp_X6_load_b1 (fb k) (fl k) (fh k) p) (sp_X6_load_lo1 (fb k) (fl k) (fh k) p) (sp_X6_load_hi1 (fb k) (fl k) (fh k) p) (sp_X6_load_b1 (fb j) (fl j) (fh j) p) (sp_X6_load_lo1 (fb j) (fl j) (fh j) p) (sp_X6_load_hi1 (fb j) (fl j) (fh j) p) (nI p))) (fun _ => false) (fun _ => 0) (fun _ => 0) y ad h q n (gPg pa n) n (cmB d (sp_X6_load_b1 (fb k) (fl k) (fh k) p) (sp_X6_load_lo1 (fb k) (fl k) (fh k) p) (sp_X6_load_hi1 (fb k) (fl k) (fh k) p) (sp_X6_load_b1 (fb j) (fl j) (fh j) p) (sp_X6_load_lo1 (fb j) (fl j) (fh j) p) (sp_X6_load_hi1 (fb j) (fl j) (fh j) p) (nI p)) (cmL d (sp_X6_load_b1 (fb k) (fl k) (fh k) p) (sp_X6_load_lo1 (fb k) (fl k) (fh k) p) (sp_X6_load_hi1 (fb k) (fl k) (fh k) p) (sp_X6_load_b1 (fb j) (fl j) (fh j) p) (sp_X6_load_lo1 (fb j) (fl j) (fh j) p) (sp_X6_load_hi1 (fb j) (fl j) (fh j) p) (nI p)) (cmR d (sp_X6_load_b1 (fb k) (fl k) (fh k) p) (sp_X6_load_lo1 (fb k) (fl k) (fh k) p) (sp_X6_load_hi1 (fb k) (fl k) (fh k) p) (sp_X6_load_b1 (fb j) (fl j) (fh j) p) (sp_X6_load_lo1 (fb j) (fl j) (fh j) p) (sp_X6_load_hi1 (fb j) (fl j) (fh j) p) (nI p)) (sp_X6_load_b1 (fb k) (fl k) (fh k) p) (sp_X6_load_lo1 (fb k) (fl k) (fh k) p) (sp_X6_load_hi1 (fb k) (fl k) (fh k) p) (sp_X6_load_b1 (fb j) (fl j) (fh j) p) (sp_X6_load_lo1 (fb j) (fl j) (fh j) p) (sp_X6_load_hi1 (fb j) (fl j) (fh j) p) xuz xul xuh xf1 xg1 xf2 xg2 pa kd on ot pt fb fl fh tb tl th dg ds) := hD
      refine lv_iinc (v := nI (p + 1)) (lv' := [(7, .int (nI (p + 1))), (0, .ref h), (1, .ref (ad d)), (2, .int (nI k)), (3, .int (nI j)), (4, .ref (pa k 0)), (5, .ref (pa j 0)), (6, .ref (na 0))]) hx hb dX7_make_105 hl (k := 7) rfl (nI_add p 1) (by decide) rfl (fun ls hl => ?_)
      refine lv_goto (tgt := 49) hx hb dX7_make_108 (by decide) ?_
      exact ih49 (p + 1) (cmB d (sp_X6_load_b1 (fb k) (fl k) (fh k) p) (sp_X6_load_lo1 (fb k) (fl k) (fh k) p) (sp_X6_load_hi1 (fb k) (fl k) (fh k) p) (sp_X6_load_b1 (fb j) (fl j) (fh j) p) (sp_X6_load_lo1 (fb j) (fl j) (fh j) p) (sp_X6_load_hi1 (fb j) (fl j) (fh j) p) (nI p)) (cmL d (sp_X6_load_b1 (fb k) (fl k) (fh k) p) (sp_X6_load_lo1 (fb k) (fl k) (fh k) p) (sp_X6_load_hi1 (fb k) (fl k) (fh k) p) (sp_X6_load_b1 (fb j) (fl j) (fh j) p) (sp_X6_load_lo1 (fb j) (fl j) (fh j) p) (sp_X6_load_hi1 (fb j) (fl j) (fh j) p) (nI p)) (cmR d (sp_X6_load_b1 (fb k) (fl k) (fh k) p) (sp_X6_load_lo1 (fb k) (fl k) (fh k) p) (sp_X6_load_hi1 (fb k) (fl k) (fh k) p) (sp_X6_load_b1 (fb j) (fl j) (fh j) p) (sp_X6_load_lo1 (fb j) (fl j) (fh j) p) (sp_X6_load_hi1 (fb j) (fl j) (fh j) p) (nI p)) (sp_X6_load_b1 (fb k) (fl k) (fh k) p) (sp_X6_load_lo1 (fb k) (fl k) (fh k) p) (sp_X6_load_hi1 (fb k) (fl k) (fh k) p) (sp_X6_load_b1 (fb j) (fl j) (fh j) p) (sp_X6_load_lo1 (fb j) (fl j) (fh j) p) (sp_X6_load_hi1 (fb j) (fl j) (fh j) p) xuz xul xuh xf1 xg1 xf2 xg2 (upZ xfb p (cmB d (sp_X6_load_b1 (fb k) (fl k) (fh k) p) (sp_X6_load_lo1 (fb k) (fl k) (fh k) p) (sp_X6_load_hi1 (fb k) (fl k) (fh k) p) (sp_X6_load_b1 (fb j) (fl j) (fh j) p) (sp_X6_load_lo1 (fb j) (fl j) (fh j) p) (sp_X6_load_hi1 (fb j) (fl j) (fh j) p) (nI p))) (vp_updL xfl p (cmL d (sp_X6_load_b1 (fb k) (fl k) (fh k) p) (sp_X6_load_lo1 (fb k) (fl k) (fh k) p) (sp_X6_load_hi1 (fb k) (fl k) (fh k) p) (sp_X6_load_b1 (fb j) (fl j) (fh j) p) (sp_X6_load_lo1 (fb j) (fl j) (fh j) p) (sp_X6_load_hi1 (fb j) (fl j) (fh j) p) (nI p))) (vp_updL xfh p (cmR d (sp_X6_load_b1 (fb k) (fl k) (fh k) p) (sp_X6_load_lo1 (fb k) (fl k) (fh k) p) (sp_X6_load_hi1 (fb k) (fl k) (fh k) p) (sp_X6_load_b1 (fb j) (fl j) (fh j) p) (sp_X6_load_lo1 (fb j) (fl j) (fh j) p) (sp_X6_load_hi1 (fb j) (fl j) (fh j) p) (nI p))) (by omega) (told_up (F := (mkX fb fl fh d k j)) hfo rfl) _ _ hP hD hS ls (lv_sub hl [1, 2, 3, 4, 5, 6, 7, 0] rfl)
  exact LOOP49 25 0 b1 l1 r1 b2 l2 r2 b3 l3 r3 uz ul uh f1 g1 f2 g2 (fun _ => false) (fun _ => 0) (fun _ => 0) (by omega) (fun j hj => absurd hj (Nat.not_lt_zero j)) _ _ hP hD hS ls (lv_sub hl [4, 5, 6, 7, 3, 2, 1, 0] rfl)
set_option maxHeartbeats 4000000 in
set_option maxRecDepth 100000 in
theorem c_X7_sum_X1a (l : Launch) (hfl : l.stackTraces = false) (D : va_G) (y : Nat → ClassId) (ad : Nat → Nat) (sz : Nat) (h : Nat) (q : Nat → Nat) (n : Nat) (b1 : Bool) (l1 r1 : Int64) (b2 : Bool) (l2 r2 : Int64) (b3 : Bool) (l3 r3 : Int64) (uz : Nat → Bool) (ul uh : Nat → Int64) (f1 g1 f2 g2 : Int64) (pa : Nat → Nat → Nat) (kd : Nat → Nat) (on ot : Nat → Int32) (pt : Nat → Int64) (fb : Nat → Nat → Bool) (fl fh : Nat → Nat → Int64) (tb : Nat → Nat → Bool) (tl th : Nat → Nat → Int64) (dg : Nat → Int32) (ds : Nat → Int64) (a b : Int32) (hbad : a < 0 ∨ nI n ≤ a) : vx_Met l yX7_sum wsX7_sum ({ frames := 8, cells := 1, slots := 6, locals := 141 } : Room) (gPX D y ad [.ref h, .int a, .int b] (wXp y ad h q n b1 l1 r1 b2 l2 r2 b3 l3 r3 uz ul uh f1 g1 f2 g2 pa kd on ot pt fb fl fh tb tl th dg ds) sz) gNo (gXC D (wXp y ad h q n b1 l1 r1 b2 l2 r2 b3 l3 r3 uz ul uh f1 g1 f2 g2 pa kd on ot pt fb fl fh tb tl th dg ds) gIOB (fun w => w = wXp y ad h q n b1 l1 r1 b2 l2 r2 b3 l3 r3 uz ul uh f1 g1 f2 g2 pa kd on ot pt fb fl fh tb tl th dg ds)) 1 6 (va_A (wXp y ad h q n b1 l1 r1 b2 l2 r2 b3 l3 r3 uz ul uh f1 g1 f2 g2 pa kd on ot pt fb fl fh tb tl th dg ds) sz) := by
  refine vx_ofW (cc := cX7_sum) (maxL := 3) (ret := (some .int)) (by decide) rfl ?_
  intro pg e s m args below meth c s₁ B hml hno hv
  obtain ⟨rfl, hsz, hP, hK, hD0, hE0⟩ := hv
  have hx := B.exec
  have hb := B.bytes
  have hr := B.returns
  have hts := atoms_spec (ws := wsX7_sum) B.pre
  have hown : s.vm.findClass RX7 = some m.cls := findClass_of_methodNamed B.named
  have hlocks := B.notSynchronized
  subst hsz
  obtain ⟨A, hAe⟩ : ∃ A : Nat → Prop, A = va_A (wXp y ad h q n b1 l1 r1 b2 l2 r2 b3 l3 r3 uz ul uh f1 g1 f2 g2 pa kd on ot pt fb fl fh tb tl th dg ds) s.heap.size := ⟨_, rfl⟩
  have hE : gE ad A s s.heap := by rw [hAe]; exact hE0
  have hD : va_D A (wXp y ad h q n b1 l1 r1 b2 l2 r2 b3 l3 r3 uz ul uh f1 g1 f2 g2 pa kd on ot pt fb fl fh tb tl th dg ds) := by rw [hAe]; exact hD0.self (sz := s.heap.size)
  have hA : ∀ q : Nat, s.heap.size ≤ q → A q := fun q h => by rw [hAe]; exact Or.inr h
  have hS : va_S A s.heap s.heap [] := va_S.rf
  have hl := lv_entry ([.ref h, .int a, .int b]) (n := 3) (Nat.le_of_ble_eq_true rfl)
  rw [lg_entry_eq]
  generalize (lg_sl ([.ref h, .int a, .int b]) ++ List.replicate (3 - (lg_sl ([.ref h, .int a, .int b])).length) Slot.unset).toArray = ls at hl ⊢
  have hl : lv_has ls 3 [(0, .ref h), (1, .int a), (2, .int b)] := hl
  refine lv_aload_n hx hb dX7_sum_0 rfl (lv_at hl 0 rfl) ?_
  refine va_gets hx hb ((hE.2.2.2.2.2 1 (by decide)).1) hS hown (hts (.fieldLink RX7 100 "Nestlimit$Kind" "SUM" "LNestlimit$Kind;") (List.mem_of_getElem? (i := 1) rfl)) (fun _ h9 => h9) dX7_sum_1 ?_
  refine lv_iload_n hx hb dX7_sum_4 rfl (lv_at hl 1 rfl) ?_
  refine lv_iload_n hx hb dX7_sum_5 rfl (lv_at hl 2 rfl) ?_
  exact g_outX (vx_runV (As := [.ref (ad 1), .int a, .int b]) (rest := []) ⟨hx, hb, hml, hown, hts⟩ (c_X7_make_X1a l hfl D y ad s.heap.size h q n b1 l1 r1 b2 l2 r2 b3 l3 r3 uz ul uh f1 g1 f2 g2 pa kd on ot pt fb fl fh tb tl th dg ds (ad 1) a b hbad) (cwV 3 hts gX7_sum_X7_make rfl rfl rfl (by decide +kernel) ⟨Nat.le_of_ble_eq_true rfl, Nat.le_of_ble_eq_true rfl⟩) (gPX_VA hP hD hK hE hS hA 0 rfl rfl) rfl rfl hl.1 rfl (lv_room (Nat.le_of_ble_eq_true rfl)) dX7_sum_6 ⟨Nat.le_of_ble_eq_true rfl, Nat.le_of_ble_eq_true rfl⟩) hAe hD hS hA (fun w1 h9 => h9) rfl hno hlocks (Nat.le_of_ble_eq_true rfl) (Nat.le_of_ble_eq_true rfl)
set_option maxHeartbeats 4000000 in
set_option maxRecDepth 100000 in
theorem c_X7_sum_X1b (l : Launch) (hfl : l.stackTraces = false) (D : va_G) (y : Nat → ClassId) (ad : Nat → Nat) (sz : Nat) (h : Nat) (q : Nat → Nat) (n : Nat) (b1 : Bool) (l1 r1 : Int64) (b2 : Bool) (l2 r2 : Int64) (b3 : Bool) (l3 r3 : Int64) (uz : Nat → Bool) (ul uh : Nat → Int64) (f1 g1 f2 g2 : Int64) (pa : Nat → Nat → Nat) (kd : Nat → Nat) (on ot : Nat → Int32) (pt : Nat → Int64) (fb : Nat → Nat → Bool) (fl fh : Nat → Nat → Int64) (tb : Nat → Nat → Bool) (tl th : Nat → Nat → Int64) (dg : Nat → Int32) (ds : Nat → Int64) (k : Nat) (b : Int32) (hn : n ≤ 40) (hk : k < n) (hbad : b < 0 ∨ nI n ≤ b) : vx_Met l yX7_sum wsX7_sum ({ frames := 8, cells := 1, slots := 6, locals := 141 } : Room) (gPX D y ad [.ref h, .int (nI k), .int b] (wXp y ad h q n b1 l1 r1 b2 l2 r2 b3 l3 r3 uz ul uh f1 g1 f2 g2 pa kd on ot pt fb fl fh tb tl th dg ds) sz) gNo (gXC D (wXp y ad h q n b1 l1 r1 b2 l2 r2 b3 l3 r3 uz ul uh f1 g1 f2 g2 pa kd on ot pt fb fl fh tb tl th dg ds) gIOB (fun w => w = wXp y ad h q n b1 l1 r1 b2 l2 r2 b3 l3 r3 uz ul uh f1 g1 f2 g2 pa kd on ot pt fb fl fh tb tl th dg ds)) 1 6 (va_A (wXp y ad h q n b1 l1 r1 b2 l2 r2 b3 l3 r3 uz ul uh f1 g1 f2 g2 pa kd on ot pt fb fl fh tb tl th dg ds) sz) := by
  refine vx_ofW (cc := cX7_sum) (maxL := 3) (ret := (some .int)) (by decide) rfl ?_
  intro pg e s m args below meth c s₁ B hml hno hv
  obtain ⟨rfl, hsz, hP, hK, hD0, hE0⟩ := hv
  have hx := B.exec
  have hb := B.bytes
  have hr := B.returns
  have hts := atoms_spec (ws := wsX7_sum) B.pre
  have hown : s.vm.findClass RX7 = some m.cls := findClass_of_methodNamed B.named
  have hlocks := B.notSynchronized
  subst hsz
  obtain ⟨A, hAe⟩ : ∃ A : Nat → Prop, A = va_A (wXp y ad h q n b1 l1 r1 b2 l2 r2 b3 l3 r3 uz ul uh f1 g1 f2 g2 pa kd on ot pt fb fl fh tb tl th dg ds) s.heap.size := ⟨_, rfl⟩
  have hE : gE ad A s s.heap := by rw [hAe]; exact hE0
  have hD : va_D A (wXp y ad h q n b1 l1 r1 b2 l2 r2 b3 l3 r3 uz ul uh f1 g1 f2 g2 pa kd on ot pt fb fl fh tb tl th dg ds) := by rw [hAe]; exact hD0.self (sz := s.heap.size)
  have hA : ∀ q : Nat, s.heap.size ≤ q → A q := fun q h => by rw [hAe]; exact Or.inr h
  have hS : va_S A s.heap s.heap [] := va_S.rf
  have hl := lv_entry ([.ref h, .int (nI k), .int b]) (n := 3) (Nat.le_of_ble_eq_true rfl)
  rw [lg_entry_eq]
  generalize (lg_sl ([.ref h, .int (nI k), .int b]) ++ List.replicate (3 - (lg_sl ([.ref h, .int (nI k), .int b])).length) Slot.unset).toArray = ls at hl ⊢
  have hl : lv_has ls 3 [(0, .ref h), (1, .int (nI k)), (2, .int b)] := hl
  refine lv_aload_n hx hb dX7_sum_0 rfl (lv_at hl 0 rfl) ?_
  refine va_gets hx hb ((hE.2.2.2.2.2 1 (by decide)).1) hS hown (hts (.fieldLink RX7 100 "Nestlimit$Kind" "SUM" "LNestlimit$Kind;") (List.mem_of_getElem? (i := 1) rfl)) (fun _ h9 => h9) dX7_sum_1 ?_
  refine lv_iload_n hx hb dX7_sum_4 rfl (lv_at hl 1 rfl) ?_
  refine lv_iload_n hx hb dX7_sum_5 rfl (lv_at hl 2 rfl) ?_
  exact g_outX (vx_runV (As := [.ref (ad 1), .int (nI k), .int b]) (rest := []) ⟨hx, hb, hml, hown, hts⟩ (c_X7_make_X1b l hfl D y ad s.heap.size h q n b1 l1 r1 b2 l2 r2 b3 l3 r3 uz ul uh f1 g1 f2 g2 pa kd on ot pt fb fl fh tb tl th dg ds (ad 1) k b hn hk hbad) (cwV 3 hts gX7_sum_X7_make rfl rfl rfl (by decide +kernel) ⟨Nat.le_of_ble_eq_true rfl, Nat.le_of_ble_eq_true rfl⟩) (gPX_VA hP hD hK hE hS hA 0 rfl rfl) rfl rfl hl.1 rfl (lv_room (Nat.le_of_ble_eq_true rfl)) dX7_sum_6 ⟨Nat.le_of_ble_eq_true rfl, Nat.le_of_ble_eq_true rfl⟩) hAe hD hS hA (fun w1 h9 => h9) rfl hno hlocks (Nat.le_of_ble_eq_true rfl) (Nat.le_of_ble_eq_true rfl)
set_option maxHeartbeats 4000000 in
set_option maxRecDepth 100000 in
theorem c_X7_sum_X2 (l : Launch) (hfl : l.stackTraces = false) (D : va_G) (y : Nat → ClassId) (ad : Nat → Nat) (sz : Nat) (h : Nat) (q : Nat → Nat) (n : Nat) (b1 : Bool) (l1 r1 : Int64) (b2 : Bool) (l2 r2 : Int64) (b3 : Bool) (l3 r3 : Int64) (uz : Nat → Bool) (ul uh : Nat → Int64) (f1 g1 f2 g2 : Int64) (pa : Nat → Nat → Nat) (kd : Nat → Nat) (on ot : Nat → Int32) (pt : Nat → Int64) (fb : Nat → Nat → Bool) (fl fh : Nat → Nat → Int64) (tb : Nat → Nat → Bool) (tl th : Nat → Nat → Int64) (dg : Nat → Int32) (ds : Nat → Int64) (k j : Nat) (hn : n ≤ 40) (hk : k < n) (hj : j < n) (hn2 : ¬ n < 40) : vx_Met l yX7_sum wsX7_sum ({ frames := 8, cells := 1, slots := 6, locals := 139 } : Room) (gPX D y ad [.ref h, .int (nI k), .int (nI j)] (wXp y ad h q n b1 l1 r1 b2 l2 r2 b3 l3 r3 uz ul uh f1 g1 f2 g2 pa kd on ot pt fb fl fh tb tl th dg ds) sz) gNo (gXC D (wXp y ad h q n b1 l1 r1 b2 l2 r2 b3 l3 r3 uz ul uh f1 g1 f2 g2 pa kd on ot pt fb fl fh tb tl th dg ds) gISE (fun w => w = wXp y ad h q n b1 l1 r1 b2 l2 r2 b3 l3 r3 uz ul uh f1 g1 f2 g2 pa kd on ot pt fb fl fh tb tl th dg ds)) 1 6 (va_A (wXp y ad h q n b1 l1 r1 b2 l2 r2 b3 l3 r3 uz ul uh f1 g1 f2 g2 pa kd on ot pt fb fl fh tb tl th dg ds) sz) := by
  refine vx_ofW (cc := cX7_sum) (maxL := 3) (ret := (some .int)) (by decide) rfl ?_
  intro pg e s m args below meth c s₁ B hml hno hv
  obtain ⟨rfl, hsz, hP, hK, hD0, hE0⟩ := hv
  have hx := B.exec
  have hb := B.bytes
  have hr := B.returns
  have hts := atoms_spec (ws := wsX7_sum) B.pre
  have hown : s.vm.findClass RX7 = some m.cls := findClass_of_methodNamed B.named
  have hlocks := B.notSynchronized
  subst hsz
  obtain ⟨A, hAe⟩ : ∃ A : Nat → Prop, A = va_A (wXp y ad h q n b1 l1 r1 b2 l2 r2 b3 l3 r3 uz ul uh f1 g1 f2 g2 pa kd on ot pt fb fl fh tb tl th dg ds) s.heap.size := ⟨_, rfl⟩
  have hE : gE ad A s s.heap := by rw [hAe]; exact hE0
  have hD : va_D A (wXp y ad h q n b1 l1 r1 b2 l2 r2 b3 l3 r3 uz ul uh f1 g1 f2 g2 pa kd on ot pt fb fl fh tb tl th dg ds) := by rw [hAe]; exact hD0.self (sz := s.heap.size)
  have hA : ∀ q : Nat, s.heap.size ≤ q → A q := fun q h => by rw [hAe]; exact Or.inr h
  have hS : va_S A s.heap s.heap [] := va_S.rf
  have hl := lv_entry ([.ref h, .int (nI k), .int (nI j)]) (n := 3) (Nat.le_of_ble_eq_true rfl)
  rw [lg_entry_eq]
  generalize (lg_sl ([.ref h, .int (nI k), .int (nI j)]) ++ List.replicate (3 - (lg_sl ([.ref h, .int (nI k), .int (nI j)])).length) Slot.unset).toArray = ls at hl ⊢
  have hl : lv_has ls 3 [(0, .ref h), (1, .int (nI k)), (2, .int (nI j))] := hl
  refine lv_aload_n hx hb dX7_sum_0 rfl (lv_at hl 0 rfl) ?_
  refine va_gets hx hb ((hE.2.2.2.2.2 1 (by decide)).1) hS hown (hts (.fieldLink RX7 100 "Nestlimit$Kind" "SUM" "LNestlimit$Kind;") (List.mem_of_getElem? (i := 1) rfl)) (fun _ h9 => h9) dX7_sum_1 ?_
  refine lv_iload_n hx hb dX7_sum_4 rfl (lv_at hl 1 rfl) ?_
  refine lv_iload_n hx hb dX7_sum_5 rfl (lv_at hl 2 rfl) ?_
  exact g_outX (vx_runV (As := [.ref (ad 1), .int (nI k), .int (nI j)]) (rest := []) ⟨hx, hb, hml, hown, hts⟩ (c_X7_make_X2 l hfl D y ad s.heap.size h q n b1 l1 r1 b2 l2 r2 b3 l3 r3 uz ul uh f1 g1 f2 g2 pa kd on ot pt fb fl fh tb tl th dg ds (ad 1) k j hn hk hj hn2) (cwV 3 hts gX7_sum_X7_make rfl rfl rfl (by decide +kernel) ⟨Nat.le_of_ble_eq_true rfl, Nat.le_of_ble_eq_true rfl⟩) (gPX_VA hP hD hK hE hS hA 0 rfl rfl) rfl rfl hl.1 rfl (lv_room (Nat.le_of_ble_eq_true rfl)) dX7_sum_6 ⟨Nat.le_of_ble_eq_true rfl, Nat.le_of_ble_eq_true rfl⟩) hAe hD hS hA (fun w1 h9 => h9) rfl hno hlocks (Nat.le_of_ble_eq_true rfl) (Nat.le_of_ble_eq_true rfl)
set_option maxHeartbeats 4000000 in
set_option maxRecDepth 100000 in
theorem c_X7_sum_0 (l : Launch) (hfl : l.stackTraces = false) (D : va_G) (y : Nat → ClassId) (ad : Nat → Nat) (sz : Nat) (h : Nat) (q : Nat → Nat) (n : Nat) (b1 : Bool) (l1 r1 : Int64) (b2 : Bool) (l2 r2 : Int64) (b3 : Bool) (l3 r3 : Int64) (uz : Nat → Bool) (ul uh : Nat → Int64) (f1 g1 f2 g2 : Int64) (pa : Nat → Nat → Nat) (kd : Nat → Nat) (on ot : Nat → Int32) (pt : Nat → Int64) (fb : Nat → Nat → Bool) (fl fh : Nat → Nat → Int64) (tb : Nat → Nat → Bool) (tl th : Nat → Nat → Int64) (dg : Nat → Int32) (ds : Nat → Int64) (k j : Nat) (hn4 : n < 40) (hk : k < n) (hj : j < n) : Met l yX7_sum wsX7_sum ({ frames := 8, cells := 9, slots := 164, locals := 249 } : Room) (gPX D y ad [.ref h, .int (nI k), .int (nI j)] (wXp y ad h q n b1 l1 r1 b2 l2 r2 b3 l3 r3 uz ul uh f1 g1 f2 g2 pa kd on ot pt fb fl fh tb tl th dg ds) sz) (gQn D (wXp y ad h q n b1 l1 r1 b2 l2 r2 b3 l3 r3 uz ul uh f1 g1 f2 g2 pa kd on ot pt fb fl fh tb tl th dg ds) (fun v w => ∃ (yb1 : Bool) (yl1 : Int64) (yr1 : Int64) (yb2 : Bool) (yl2 : Int64) (yr2 : Int64) (yb3 : Bool) (yl3 : Int64) (yr3 : Int64) (yuz : Nat → Bool) (yul : Nat → Int64) (yuh : Nat → Int64) (yf1 : Int64) (yg1 : Int64) (yf2 : Int64) (yg2 : Int64) (nan : Nat → Nat) (fbn : Nat → Bool) (fln : Nat → Int64) (fhn : Nat → Int64) (tbn : Nat → Bool) (tln : Nat → Int64) (thn : Nat → Int64), v = some (.int (nI n)) ∧ w = (wXp y ad h q (n + 1) yb1 yl1 yr1 yb2 yl2 yr2 yb3 yl3 yr3 yuz yul yuh yf1 yg1 yf2 yg2 (pst pa n nan) (pst kd n 1) (pst on n (nI k)) (pst ot n (nI j)) (pst pt n ((pt k ||| pt j) ||| jshl 1 (nI n))) (pst fb n fbn) (pst fl n fln) (pst fh n fhn) (pst tb n tbn) (pst tl n tln) (pst th n thn) (pst dg n 0) (pst ds n 0)) ∧ (∀ i9, i9 < 25 → (fbn i9, fln i9, fhn i9) = mkX fb fl fh 1 k j i9) ∧ (∀ i9, i9 < 25 → (tbn i9, tln i9, thn i9) = nwA fbn fln fhn (i9 + 1)))) 9 164 (va_A (wXp y ad h q n b1 l1 r1 b2 l2 r2 b3 l3 r3 uz ul uh f1 g1 f2 g2 pa kd on ot pt fb fl fh tb tl th dg ds) sz) := by
  refine Met.ofW (cc := cX7_sum) (maxL := 3) (ret := (some .int)) (by decide) rfl ?_
  intro pg e s m args below meth c s₁ B hml hv
  obtain ⟨rfl, hsz, hP, hK, hD0, hE0⟩ := hv
  have hx := B.exec
  have hb := B.bytes
  have hr := B.returns
  have hts := atoms_spec (ws := wsX7_sum) B.pre
  have hown : s.vm.findClass RX7 = some m.cls := findClass_of_methodNamed B.named
  have hlocks := B.notSynchronized
  subst hsz
  obtain ⟨A, hAe⟩ : ∃ A : Nat → Prop, A = va_A (wXp y ad h q n b1 l1 r1 b2 l2 r2 b3 l3 r3 uz ul uh f1 g1 f2 g2 pa kd on ot pt fb fl fh tb tl th dg ds) s.heap.size := ⟨_, rfl⟩
  have hE : gE ad A s s.heap := by rw [hAe]; exact hE0
  have hD : va_D A (wXp y ad h q n b1 l1 r1 b2 l2 r2 b3 l3 r3 uz ul uh f1 g1 f2 g2 pa kd on ot pt fb fl fh tb tl th dg ds) := by rw [hAe]; exact hD0.self (sz := s.heap.size)
  have hA : ∀ q : Nat, s.heap.size ≤ q → A q := fun q h => by rw [hAe]; exact Or.inr h
  have hS : va_S A s.heap s.heap [] := va_S.rf
  have hl := lv_entry ([.ref h, .int (nI k), .int (nI j)]) (n := 3) (Nat.le_of_ble_eq_true rfl)
  rw [lg_entry_eq]
  generalize (lg_sl ([.ref h, .int (nI k), .int (nI j)]) ++ List.replicate (3 - (lg_sl ([.ref h, .int (nI k), .int (nI j)])).length) Slot.unset).toArray = ls at hl ⊢
  have hl : lv_has ls 3 [(0, .ref h), (1, .int (nI k)), (2, .int (nI j))] := hl
  refine lv_aload_n hx hb dX7_sum_0 rfl (lv_at hl 0 rfl) ?_
  refine va_gets hx hb ((hE.2.2.2.2.2 1 (by decide)).1) hS hown (hts (.fieldLink RX7 100 "Nestlimit$Kind" "SUM" "LNestlimit$Kind;") (List.mem_of_getElem? (i := 1) rfl)) (fun _ h9 => h9) dX7_sum_1 ?_
  refine lv_iload_n hx hb dX7_sum_4 rfl (lv_at hl 1 rfl) ?_
  refine lv_iload_n hx hb dX7_sum_5 rfl (lv_at hl 2 rfl) ?_
  refine g_callN (ws := []) (wc := wXp y ad h q n b1 l1 r1 b2 l2 r2 b3 l3 r3 uz ul uh f1 g1 f2 g2 pa kd on ot pt fb fl fh tb tl th dg ds) (va_runV (As := [.ref (ad 1), .int (nI k), .int (nI j)]) (rest := []) ⟨hx, hb, hml, hown, hts⟩ (c_X7_make_0 l hfl D y ad s.heap.size h q n b1 l1 r1 b2 l2 r2 b3 l3 r3 uz ul uh f1 g1 f2 g2 pa kd on ot pt fb fl fh tb tl th dg ds k j 1 hn4 hk hj (by decide) (by decide)) (cwV 3 hts gX7_sum_X7_make rfl rfl rfl (by decide +kernel) ⟨Nat.le_of_ble_eq_true rfl, Nat.le_of_ble_eq_true rfl⟩) (gPX_VA hP hD hK hE hS hA 0 rfl rfl) rfl rfl hl.1 rfl (lv_room (Nat.le_of_ble_eq_true rfl)) dX7_sum_6 ⟨Nat.le_of_ble_eq_true rfl, Nat.le_of_ble_eq_true rfl⟩) hP hD hS hA (fun v w1 H locs hf hP hD hS => ?_)
  obtain ⟨yb1_6, yl1_6, yr1_6, yb2_6, yl2_6, yr2_6, yb3_6, yl3_6, yr3_6, yuz_6, yul_6, yuh_6, yf1_6, yg1_6, yf2_6, yg2_6, nan_6, fbn_6, fln_6, fhn_6, tbn_6, tln_6, thn_6, rfl, rfl, h6_0, h6_1⟩ := hf
  have hP9 := hP
  have hD9 := hD
  exact W.iret (v := nI n) hx hb hr (fun t ht hW => ⟨⟨some (.int (nI n)), wXp y ad h q (n + 1) yb1_6 yl1_6 yr1_6 yb2_6 yl2_6 yr2_6 yb3_6 yl3_6 yr3_6 yuz_6 yul_6 yuh_6 yf1_6 yg1_6 yf2_6 yg2_6 (pst pa n nan_6) (pst kd n 1) (pst on n (nI k)) (pst ot n (nI j)) (pst pt n ((pt k ||| pt j) ||| jshl 1 (nI n))) (pst fb n fbn_6) (pst fl n fln_6) (pst fh n fhn_6) (pst tb n tbn_6) (pst tl n tln_6) (pst th n thn_6) (pst dg n 0) (pst ds n 0), rfl, ⟨yb1_6, yl1_6, yr1_6, yb2_6, yl2_6, yr2_6, yb3_6, yl3_6, yr3_6, yuz_6, yul_6, yuh_6, yf1_6, yg1_6, yf2_6, yg2_6, nan_6, fbn_6, fln_6, fhn_6, tbn_6, tln_6, thn_6, rfl, rfl, h6_0, h6_1⟩, by rw [← hAe]; exact hD9, by rw [ht]; exact hP9⟩, by rw [← hAe]; exact hS.F ht⟩) (by rw [← hAe]; exact hS.2.2) dX7_sum_9
set_option maxHeartbeats 4000000 in
set_option maxRecDepth 100000 in
theorem c_X7_difference_X1a (l : Launch) (hfl : l.stackTraces = false) (D : va_G) (y : Nat → ClassId) (ad : Nat → Nat) (sz : Nat) (h : Nat) (q : Nat → Nat) (n : Nat) (b1 : Bool) (l1 r1 : Int64) (b2 : Bool) (l2 r2 : Int64) (b3 : Bool) (l3 r3 : Int64) (uz : Nat → Bool) (ul uh : Nat → Int64) (f1 g1 f2 g2 : Int64) (pa : Nat → Nat → Nat) (kd : Nat → Nat) (on ot : Nat → Int32) (pt : Nat → Int64) (fb : Nat → Nat → Bool) (fl fh : Nat → Nat → Int64) (tb : Nat → Nat → Bool) (tl th : Nat → Nat → Int64) (dg : Nat → Int32) (ds : Nat → Int64) (a b : Int32) (hbad : a < 0 ∨ nI n ≤ a) : vx_Met l yX7_difference wsX7_difference ({ frames := 8, cells := 1, slots := 6, locals := 141 } : Room) (gPX D y ad [.ref h, .int a, .int b] (wXp y ad h q n b1 l1 r1 b2 l2 r2 b3 l3 r3 uz ul uh f1 g1 f2 g2 pa kd on ot pt fb fl fh tb tl th dg ds) sz) gNo (gXC D (wXp y ad h q n b1 l1 r1 b2 l2 r2 b3 l3 r3 uz ul uh f1 g1 f2 g2 pa kd on ot pt fb fl fh tb tl th dg ds) gIOB (fun w => w = wXp y ad h q n b1 l1 r1 b2 l2 r2 b3 l3 r3 uz ul uh f1 g1 f2 g2 pa kd on ot pt fb fl fh tb tl th dg ds)) 1 6 (va_A (wXp y ad h q n b1 l1 r1 b2 l2 r2 b3 l3 r3 uz ul uh f1 g1 f2 g2 pa kd on ot pt fb fl fh tb tl th dg ds) sz) := by
  refine vx_ofW (cc := cX7_difference) (maxL := 3) (ret := (some .int)) (by decide) rfl ?_
  intro pg e s m args below meth c s₁ B hml hno hv
  obtain ⟨rfl, hsz, hP, hK, hD0, hE0⟩ := hv
  have hx := B.exec
  have hb := B.bytes
  have hr := B.returns
  have hts := atoms_spec (ws := wsX7_difference) B.pre
  have hown : s.vm.findClass RX7 = some m.cls := findClass_of_methodNamed B.named
  have hlocks := B.notSynchronized
  subst hsz
  obtain ⟨A, hAe⟩ : ∃ A : Nat → Prop, A = va_A (wXp y ad h q n b1 l1 r1 b2 l2 r2 b3 l3 r3 uz ul uh f1 g1 f2 g2 pa kd on ot pt fb fl fh tb tl th dg ds) s.heap.size := ⟨_, rfl⟩
  have hE : gE ad A s s.heap := by rw [hAe]; exact hE0
  have hD : va_D A (wXp y ad h q n b1 l1 r1 b2 l2 r2 b3 l3 r3 uz ul uh f1 g1 f2 g2 pa kd on ot pt fb fl fh tb tl th dg ds) := by rw [hAe]; exact hD0.self (sz := s.heap.size)
  have hA : ∀ q : Nat, s.heap.size ≤ q → A q := fun q h => by rw [hAe]; exact Or.inr h
  have hS : va_S A s.heap s.heap [] := va_S.rf
  have hl := lv_entry ([.ref h, .int a, .int b]) (n := 3) (Nat.le_of_ble_eq_true rfl)
  rw [lg_entry_eq]
  generalize (lg_sl ([.ref h, .int a, .int b]) ++ List.replicate (3 - (lg_sl ([.ref h, .int a, .int b])).length) Slot.unset).toArray = ls at hl ⊢
  have hl : lv_has ls 3 [(0, .ref h), (1, .int a), (2, .int b)] := hl
  refine lv_aload_n hx hb dX7_difference_0 rfl (lv_at hl 0 rfl) ?_
  refine va_gets hx hb ((hE.2.2.2.2.2 2 (by decide)).1) hS hown (hts (.fieldLink RX7 107 "Nestlimit$Kind" "DIFFERENCE" "LNestlimit$Kind;") (List.mem_of_getElem? (i := 1) rfl)) (fun _ h9 => h9) dX7_difference_1 ?_
  refine lv_iload_n hx hb dX7_difference_4 rfl (lv_at hl 1 rfl) ?_
  refine lv_iload_n hx hb dX7_difference_5 rfl (lv_at hl 2 rfl) ?_
  exact g_outX (vx_runV (As := [.ref (ad 2), .int a, .int b]) (rest := []) ⟨hx, hb, hml, hown, hts⟩ (c_X7_make_X1a l hfl D y ad s.heap.size h q n b1 l1 r1 b2 l2 r2 b3 l3 r3 uz ul uh f1 g1 f2 g2 pa kd on ot pt fb fl fh tb tl th dg ds (ad 2) a b hbad) (cwV 3 hts gX7_difference_X7_make rfl rfl rfl (by decide +kernel) ⟨Nat.le_of_ble_eq_true rfl, Nat.le_of_ble_eq_true rfl⟩) (gPX_VA hP hD hK hE hS hA 0 rfl rfl) rfl rfl hl.1 rfl (lv_room (Nat.le_of_ble_eq_true rfl)) dX7_difference_6 ⟨Nat.le_of_ble_eq_true rfl, Nat.le_of_ble_eq_true rfl⟩) hAe hD hS hA (fun w1 h9 => h9) rfl hno hlocks (Nat.le_of_ble_eq_true rfl) (Nat.le_of_ble_eq_true rfl)
set_option maxHeartbeats 4000000 in
set_option maxRecDepth 100000 in
theorem c_X7_difference_X1b (l : Launch) (hfl : l.stackTraces = false) (D : va_G) (y : Nat → ClassId) (ad : Nat → Nat) (sz : Nat) (h : Nat) (q : Nat → Nat) (n : Nat) (b1 : Bool) (l1 r1 : Int64) (b2 : Bool) (l2 r2 : Int64) (b3 : Bool) (l3 r3 : Int64) (uz : Nat → Bool) (ul uh : Nat → Int64) (f1 g1 f2 g2 : Int64) (pa : Nat → Nat → Nat) (kd : Nat → Nat) (on ot : Nat → Int32) (pt : Nat → Int64) (fb : Nat → Nat → Bool) (fl fh : Nat → Nat → Int64) (tb : Nat → Nat → Bool) (tl th : Nat → Nat → Int64) (dg : Nat → Int32) (ds : Nat → Int64) (k : Nat) (b : Int32) (hn : n ≤ 40) (hk : k < n) (hbad : b < 0 ∨ nI n ≤ b) : vx_Met l yX7_difference wsX7_difference ({ frames := 8, cells := 1, slots := 6, locals := 141 } : Room) (gPX D y ad [.ref h, .int (nI k), .int b] (wXp y ad h q n b1 l1 r1 b2 l2 r2 b3 l3 r3 uz ul uh f1 g1 f2 g2 pa kd on ot pt fb fl fh tb tl th dg ds) sz) gNo (gXC D (wXp y ad h q n b1 l1 r1 b2 l2 r2 b3 l3 r3 uz ul uh f1 g1 f2 g2 pa kd on ot pt fb fl fh tb tl th dg ds) gIOB (fun w => w = wXp y ad h q n b1 l1 r1 b2 l2 r2 b3 l3 r3 uz ul uh f1 g1 f2 g2 pa kd on ot pt fb fl fh tb tl th dg ds)) 1 6 (va_A (wXp y ad h q n b1 l1 r1 b2 l2 r2 b3 l3 r3 uz ul uh f1 g1 f2 g2 pa kd on ot pt fb fl fh tb tl th dg ds) sz) := by
  refine vx_ofW (cc := cX7_difference) (maxL := 3) (ret := (some .int)) (by decide) rfl ?_
  intro pg e s m args below meth c s₁ B hml hno hv
  obtain ⟨rfl, hsz, hP, hK, hD0, hE0⟩ := hv
  have hx := B.exec
  have hb := B.bytes
  have hr := B.returns
  have hts := atoms_spec (ws := wsX7_difference) B.pre
  have hown : s.vm.findClass RX7 = some m.cls := findClass_of_methodNamed B.named
  have hlocks := B.notSynchronized
  subst hsz
  obtain ⟨A, hAe⟩ : ∃ A : Nat → Prop, A = va_A (wXp y ad h q n b1 l1 r1 b2 l2 r2 b3 l3 r3 uz ul uh f1 g1 f2 g2 pa kd on ot pt fb fl fh tb tl th dg ds) s.heap.size := ⟨_, rfl⟩
  have hE : gE ad A s s.heap := by rw [hAe]; exact hE0
  have hD : va_D A (wXp y ad h q n b1 l1 r1 b2 l2 r2 b3 l3 r3 uz ul uh f1 g1 f2 g2 pa kd on ot pt fb fl fh tb tl th dg ds) := by rw [hAe]; exact hD0.self (sz := s.heap.size)
  have hA : ∀ q : Nat, s.heap.size ≤ q → A q := fun q h => by rw [hAe]; exact Or.inr h
  have hS : va_S A s.heap s.heap [] := va_S.rf
  have hl := lv_entry ([.ref h, .int (nI k), .int b]) (n := 3) (Nat.le_of_ble_eq_true rfl)
  rw [lg_entry_eq]
  generalize (lg_sl ([.ref h, .int (nI k), .int b]) ++ List.replicate (3 - (lg_sl ([.ref h, .int (nI k), .int b])).length) Slot.unset).toArray = ls at hl ⊢
  have hl : lv_has ls 3 [(0, .ref h), (1, .int (nI k)), (2, .int b)] := hl
  refine lv_aload_n hx hb dX7_difference_0 rfl (lv_at hl 0 rfl) ?_
  refine va_gets hx hb ((hE.2.2.2.2.2 2 (by decide)).1) hS hown (hts (.fieldLink RX7 107 "Nestlimit$Kind" "DIFFERENCE" "LNestlimit$Kind;") (List.mem_of_getElem? (i := 1) rfl)) (fun _ h9 => h9) dX7_difference_1 ?_
  refine lv_iload_n hx hb dX7_difference_4 rfl (lv_at hl 1 rfl) ?_
  refine lv_iload_n hx hb dX7_difference_5 rfl (lv_at hl 2 rfl) ?_
  exact g_outX (vx_runV (As := [.ref (ad 2), .int (nI k), .int b]) (rest := []) ⟨hx, hb, hml, hown, hts⟩ (c_X7_make_X1b l hfl D y ad s.heap.size h q n b1 l1 r1 b2 l2 r2 b3 l3 r3 uz ul uh f1 g1 f2 g2 pa kd on ot pt fb fl fh tb tl th dg ds (ad 2) k b hn hk hbad) (cwV 3 hts gX7_difference_X7_make rfl rfl rfl (by decide +kernel) ⟨Nat.le_of_ble_eq_true rfl, Nat.le_of_ble_eq_true rfl⟩) (gPX_VA hP hD hK hE hS hA 0 rfl rfl) rfl rfl hl.1 rfl (lv_room (Nat.le_of_ble_eq_true rfl)) dX7_difference_6 ⟨Nat.le_of_ble_eq_true rfl, Nat.le_of_ble_eq_true rfl⟩) hAe hD hS hA (fun w1 h9 => h9) rfl hno hlocks (Nat.le_of_ble_eq_true rfl) (Nat.le_of_ble_eq_true rfl)
set_option maxHeartbeats 4000000 in
set_option maxRecDepth 100000 in
theorem c_X7_difference_X2 (l : Launch) (hfl : l.stackTraces = false) (D : va_G) (y : Nat → ClassId) (ad : Nat → Nat) (sz : Nat) (h : Nat) (q : Nat → Nat) (n : Nat) (b1 : Bool) (l1 r1 : Int64) (b2 : Bool) (l2 r2 : Int64) (b3 : Bool) (l3 r3 : Int64) (uz : Nat → Bool) (ul uh : Nat → Int64) (f1 g1 f2 g2 : Int64) (pa : Nat → Nat → Nat) (kd : Nat → Nat) (on ot : Nat → Int32) (pt : Nat → Int64) (fb : Nat → Nat → Bool) (fl fh : Nat → Nat → Int64) (tb : Nat → Nat → Bool) (tl th : Nat → Nat → Int64) (dg : Nat → Int32) (ds : Nat → Int64) (k j : Nat) (hn : n ≤ 40) (hk : k < n) (hj : j < n) (hn2 : ¬ n < 40) : vx_Met l yX7_difference wsX7_difference ({ frames := 8, cells := 1, slots := 6, locals := 139 } : Room) (gPX D y ad [.ref h, .int (nI k), .int (nI j)] (wXp y ad h q n b1 l1 r1 b2 l2 r2 b3 l3 r3 uz ul uh f1 g1 f2 g2 pa kd on ot pt fb fl fh tb tl th dg ds) sz) gNo (gXC D (wXp y ad h q n b1 l1 r1 b2 l2 r2 b3 l3 r3 uz ul uh f1 g1 f2 g2 pa kd on ot pt fb fl fh tb tl th dg ds) gISE (fun w => w = wXp y ad h q n b1 l1 r1 b2 l2 r2 b3 l3 r3 uz ul uh f1 g1 f2 g2 pa kd on ot pt fb fl fh tb tl th dg ds)) 1 6 (va_A (wXp y ad h q n b1 l1 r1 b2 l2 r2 b3 l3 r3 uz ul uh f1 g1 f2 g2 pa kd on ot pt fb fl fh tb tl th dg ds) sz) := by
  refine vx_ofW (cc := cX7_difference) (maxL := 3) (ret := (some .int)) (by decide) rfl ?_
  intro pg e s m args below meth c s₁ B hml hno hv
  obtain ⟨rfl, hsz, hP, hK, hD0, hE0⟩ := hv
  have hx := B.exec
  have hb := B.bytes
  have hr := B.returns
  have hts := atoms_spec (ws := wsX7_difference) B.pre
  have hown : s.vm.findClass RX7 = some m.cls := findClass_of_methodNamed B.named
  have hlocks := B.notSynchronized
  subst hsz
  obtain ⟨A, hAe⟩ : ∃ A : Nat → Prop, A = va_A (wXp y ad h q n b1 l1 r1 b2 l2 r2 b3 l3 r3 uz ul uh f1 g1 f2 g2 pa kd on ot pt fb fl fh tb tl th dg ds) s.heap.size := ⟨_, rfl⟩
  have hE : gE ad A s s.heap := by rw [hAe]; exact hE0
  have hD : va_D A (wXp y ad h q n b1 l1 r1 b2 l2 r2 b3 l3 r3 uz ul uh f1 g1 f2 g2 pa kd on ot pt fb fl fh tb tl th dg ds) := by rw [hAe]; exact hD0.self (sz := s.heap.size)
  have hA : ∀ q : Nat, s.heap.size ≤ q → A q := fun q h => by rw [hAe]; exact Or.inr h
  have hS : va_S A s.heap s.heap [] := va_S.rf
  have hl := lv_entry ([.ref h, .int (nI k), .int (nI j)]) (n := 3) (Nat.le_of_ble_eq_true rfl)
  rw [lg_entry_eq]
  generalize (lg_sl ([.ref h, .int (nI k), .int (nI j)]) ++ List.replicate (3 - (lg_sl ([.ref h, .int (nI k), .int (nI j)])).length) Slot.unset).toArray = ls at hl ⊢
  have hl : lv_has ls 3 [(0, .ref h), (1, .int (nI k)), (2, .int (nI j))] := hl
  refine lv_aload_n hx hb dX7_difference_0 rfl (lv_at hl 0 rfl) ?_
  refine va_gets hx hb ((hE.2.2.2.2.2 2 (by decide)).1) hS hown (hts (.fieldLink RX7 107 "Nestlimit$Kind" "DIFFERENCE" "LNestlimit$Kind;") (List.mem_of_getElem? (i := 1) rfl)) (fun _ h9 => h9) dX7_difference_1 ?_
  refine lv_iload_n hx hb dX7_difference_4 rfl (lv_at hl 1 rfl) ?_
  refine lv_iload_n hx hb dX7_difference_5 rfl (lv_at hl 2 rfl) ?_
  exact g_outX (vx_runV (As := [.ref (ad 2), .int (nI k), .int (nI j)]) (rest := []) ⟨hx, hb, hml, hown, hts⟩ (c_X7_make_X2 l hfl D y ad s.heap.size h q n b1 l1 r1 b2 l2 r2 b3 l3 r3 uz ul uh f1 g1 f2 g2 pa kd on ot pt fb fl fh tb tl th dg ds (ad 2) k j hn hk hj hn2) (cwV 3 hts gX7_difference_X7_make rfl rfl rfl (by decide +kernel) ⟨Nat.le_of_ble_eq_true rfl, Nat.le_of_ble_eq_true rfl⟩) (gPX_VA hP hD hK hE hS hA 0 rfl rfl) rfl rfl hl.1 rfl (lv_room (Nat.le_of_ble_eq_true rfl)) dX7_difference_6 ⟨Nat.le_of_ble_eq_true rfl, Nat.le_of_ble_eq_true rfl⟩) hAe hD hS hA (fun w1 h9 => h9) rfl hno hlocks (Nat.le_of_ble_eq_true rfl) (Nat.le_of_ble_eq_true rfl)
set_option maxHeartbeats 4000000 in
set_option maxRecDepth 100000 in
theorem c_X7_difference_0 (l : Launch) (hfl : l.stackTraces = false) (D : va_G) (y : Nat → ClassId) (ad : Nat → Nat) (sz : Nat) (h : Nat) (q : Nat → Nat) (n : Nat) (b1 : Bool) (l1 r1 : Int64) (b2 : Bool) (l2 r2 : Int64) (b3 : Bool) (l3 r3 : Int64) (uz : Nat → Bool) (ul uh : Nat → Int64) (f1 g1 f2 g2 : Int64) (pa : Nat → Nat → Nat) (kd : Nat → Nat) (on ot : Nat → Int32) (pt : Nat → Int64) (fb : Nat → Nat → Bool) (fl fh : Nat → Nat → Int64) (tb : Nat → Nat → Bool) (tl th : Nat → Nat → Int64) (dg : Nat → Int32) (ds : Nat → Int64) (k j : Nat) (hn4 : n < 40) (hk : k < n) (hj : j < n) : Met l yX7_difference wsX7_difference ({ frames := 8, cells := 9, slots := 164, locals := 249 } : Room) (gPX D y ad [.ref h, .int (nI k), .int (nI j)] (wXp y ad h q n b1 l1 r1 b2 l2 r2 b3 l3 r3 uz ul uh f1 g1 f2 g2 pa kd on ot pt fb fl fh tb tl th dg ds) sz) (gQn D (wXp y ad h q n b1 l1 r1 b2 l2 r2 b3 l3 r3 uz ul uh f1 g1 f2 g2 pa kd on ot pt fb fl fh tb tl th dg ds) (fun v w => ∃ (yb1 : Bool) (yl1 : Int64) (yr1 : Int64) (yb2 : Bool) (yl2 : Int64) (yr2 : Int64) (yb3 : Bool) (yl3 : Int64) (yr3 : Int64) (yuz : Nat → Bool) (yul : Nat → Int64) (yuh : Nat → Int64) (yf1 : Int64) (yg1 : Int64) (yf2 : Int64) (yg2 : Int64) (nan : Nat → Nat) (fbn : Nat → Bool) (fln : Nat → Int64) (fhn : Nat → Int64) (tbn : Nat → Bool) (tln : Nat → Int64) (thn : Nat → Int64), v = some (.int (nI n)) ∧ w = (wXp y ad h q (n + 1) yb1 yl1 yr1 yb2 yl2 yr2 yb3 yl3 yr3 yuz yul yuh yf1 yg1 yf2 yg2 (pst pa n nan) (pst kd n 2) (pst on n (nI k)) (pst ot n (nI j)) (pst pt n ((pt k ||| pt j) ||| jshl 1 (nI n))) (pst fb n fbn) (pst fl n fln) (pst fh n fhn) (pst tb n tbn) (pst tl n tln) (pst th n thn) (pst dg n 0) (pst ds n 0)) ∧ (∀ i9, i9 < 25 → (fbn i9, fln i9, fhn i9) = mkX fb fl fh 2 k j i9) ∧ (∀ i9, i9 < 25 → (tbn i9, tln i9, thn i9) = nwA fbn fln fhn (i9 + 1)))) 9 164 (va_A (wXp y ad h q n b1 l1 r1 b2 l2 r2 b3 l3 r3 uz ul uh f1 g1 f2 g2 pa kd on ot pt fb fl fh tb tl th dg ds) sz) := by
  refine Met.ofW (cc := cX7_difference) (maxL := 3) (ret := (some .int)) (by decide) rfl ?_
  intro pg e s m args below meth c s₁ B hml hv
  obtain ⟨rfl, hsz, hP, hK, hD0, hE0⟩ := hv
  have hx := B.exec
  have hb := B.bytes
  have hr := B.returns
  have hts := atoms_spec (ws := wsX7_difference) B.pre
  have hown : s.vm.findClass RX7 = some m.cls := findClass_of_methodNamed B.named
  have hlocks := B.notSynchronized
  subst hsz
  obtain ⟨A, hAe⟩ : ∃ A : Nat → Prop, A = va_A (wXp y ad h q n b1 l1 r1 b2 l2 r2 b3 l3 r3 uz ul uh f1 g1 f2 g2 pa kd on ot pt fb fl fh tb tl th dg ds) s.heap.size := ⟨_, rfl⟩
  have hE : gE ad A s s.heap := by rw [hAe]; exact hE0
  have hD : va_D A (wXp y ad h q n b1 l1 r1 b2 l2 r2 b3 l3 r3 uz ul uh f1 g1 f2 g2 pa kd on ot pt fb fl fh tb tl th dg ds) := by rw [hAe]; exact hD0.self (sz := s.heap.size)
  have hA : ∀ q : Nat, s.heap.size ≤ q → A q := fun q h => by rw [hAe]; exact Or.inr h
  have hS : va_S A s.heap s.heap [] := va_S.rf
  have hl := lv_entry ([.ref h, .int (nI k), .int (nI j)]) (n := 3) (Nat.le_of_ble_eq_true rfl)
  rw [lg_entry_eq]
  generalize (lg_sl ([.ref h, .int (nI k), .int (nI j)]) ++ List.replicate (3 - (lg_sl ([.ref h, .int (nI k), .int (nI j)])).length) Slot.unset).toArray = ls at hl ⊢
  have hl : lv_has ls 3 [(0, .ref h), (1, .int (nI k)), (2, .int (nI j))] := hl
  refine lv_aload_n hx hb dX7_difference_0 rfl (lv_at hl 0 rfl) ?_
  refine va_gets hx hb ((hE.2.2.2.2.2 2 (by decide)).1) hS hown (hts (.fieldLink RX7 107 "Nestlimit$Kind" "DIFFERENCE" "LNestlimit$Kind;") (List.mem_of_getElem? (i := 1) rfl)) (fun _ h9 => h9) dX7_difference_1 ?_
  refine lv_iload_n hx hb dX7_difference_4 rfl (lv_at hl 1 rfl) ?_
  refine lv_iload_n hx hb dX7_difference_5 rfl (lv_at hl 2 rfl) ?_
  refine g_callN (ws := []) (wc := wXp y ad h q n b1 l1 r1 b2 l2 r2 b3 l3 r3 uz ul uh f1 g1 f2 g2 pa kd on ot pt fb fl fh tb tl th dg ds) (va_runV (As := [.ref (ad 2), .int (nI k), .int (nI j)]) (rest := []) ⟨hx, hb, hml, hown, hts⟩ (c_X7_make_0 l hfl D y ad s.heap.size h q n b1 l1 r1 b2 l2 r2 b3 l3 r3 uz ul uh f1 g1 f2 g2 pa kd on ot pt fb fl fh tb tl th dg ds k j 2 hn4 hk hj (by decide) (by decide)) (cwV 3 hts gX7_difference_X7_make rfl rfl rfl (by decide +kernel) ⟨Nat.le_of_ble_eq_true rfl, Nat.le_of_ble_eq_true rfl⟩) (gPX_VA hP hD hK hE hS hA 0 rfl rfl) rfl rfl hl.1 rfl (lv_room (Nat.le_of_ble_eq_true rfl)) dX7_difference_6 ⟨Nat.le_of_ble_eq_true rfl, Nat.le_of_ble_eq_true rfl⟩) hP hD hS hA (fun v w1 H locs hf hP hD hS => ?_)
  obtain ⟨yb1_6, yl1_6, yr1_6, yb2_6, yl2_6, yr2_6, yb3_6, yl3_6, yr3_6, yuz_6, yul_6, yuh_6, yf1_6, yg1_6, yf2_6, yg2_6, nan_6, fbn_6, fln_6, fhn_6, tbn_6, tln_6, thn_6, rfl, rfl, h6_0, h6_1⟩ := hf
  have hP9 := hP
  have hD9 := hD
  exact W.iret (v := nI n) hx hb hr (fun t ht hW => ⟨⟨some (.int (nI n)), wXp y ad h q (n + 1) yb1_6 yl1_6 yr1_6 yb2_6 yl2_6 yr2_6 yb3_6 yl3_6 yr3_6 yuz_6 yul_6 yuh_6 yf1_6 yg1_6 yf2_6 yg2_6 (pst pa n nan_6) (pst kd n 2) (pst on n (nI k)) (pst ot n (nI j)) (pst pt n ((pt k ||| pt j) ||| jshl 1 (nI n))) (pst fb n fbn_6) (pst fl n fln_6) (pst fh n fhn_6) (pst tb n tbn_6) (pst tl n tln_6) (pst th n thn_6) (pst dg n 0) (pst ds n 0), rfl, ⟨yb1_6, yl1_6, yr1_6, yb2_6, yl2_6, yr2_6, yb3_6, yl3_6, yr3_6, yuz_6, yul_6, yuh_6, yf1_6, yg1_6, yf2_6, yg2_6, nan_6, fbn_6, fln_6, fhn_6, tbn_6, tln_6, thn_6, rfl, rfl, h6_0, h6_1⟩, by rw [← hAe]; exact hD9, by rw [ht]; exact hP9⟩, by rw [← hAe]; exact hS.F ht⟩) (by rw [← hAe]; exact hS.2.2) dX7_difference_9
set_option maxHeartbeats 4000000 in
set_option maxRecDepth 100000 in
theorem c_X7_product_X1a (l : Launch) (hfl : l.stackTraces = false) (D : va_G) (y : Nat → ClassId) (ad : Nat → Nat) (sz : Nat) (h : Nat) (q : Nat → Nat) (n : Nat) (b1 : Bool) (l1 r1 : Int64) (b2 : Bool) (l2 r2 : Int64) (b3 : Bool) (l3 r3 : Int64) (uz : Nat → Bool) (ul uh : Nat → Int64) (f1 g1 f2 g2 : Int64) (pa : Nat → Nat → Nat) (kd : Nat → Nat) (on ot : Nat → Int32) (pt : Nat → Int64) (fb : Nat → Nat → Bool) (fl fh : Nat → Nat → Int64) (tb : Nat → Nat → Bool) (tl th : Nat → Nat → Int64) (dg : Nat → Int32) (ds : Nat → Int64) (a b : Int32) (hbad : a < 0 ∨ nI n ≤ a) : vx_Met l yX7_product wsX7_product ({ frames := 8, cells := 1, slots := 6, locals := 141 } : Room) (gPX D y ad [.ref h, .int a, .int b] (wXp y ad h q n b1 l1 r1 b2 l2 r2 b3 l3 r3 uz ul uh f1 g1 f2 g2 pa kd on ot pt fb fl fh tb tl th dg ds) sz) gNo (gXC D (wXp y ad h q n b1 l1 r1 b2 l2 r2 b3 l3 r3 uz ul uh f1 g1 f2 g2 pa kd on ot pt fb fl fh tb tl th dg ds) gIOB (fun w => w = wXp y ad h q n b1 l1 r1 b2 l2 r2 b3 l3 r3 uz ul uh f1 g1 f2 g2 pa kd on ot pt fb fl fh tb tl th dg ds)) 1 6 (va_A (wXp y ad h q n b1 l1 r1 b2 l2 r2 b3 l3 r3 uz ul uh f1 g1 f2 g2 pa kd on ot pt fb fl fh tb tl th dg ds) sz) := by
  refine vx_ofW (cc := cX7_product) (maxL := 3) (ret := (some .int)) (by decide) rfl ?_
  intro pg e s m args below meth c s₁ B hml hno hv
  obtain ⟨rfl, hsz, hP, hK, hD0, hE0⟩ := hv
  have hx := B.exec
  have hb := B.bytes
  have hr := B.returns
  have hts := atoms_spec (ws := wsX7_product) B.pre
  have hown : s.vm.findClass RX7 = some m.cls := findClass_of_methodNamed B.named
  have hlocks := B.notSynchronized
  subst hsz
  obtain ⟨A, hAe⟩ : ∃ A : Nat → Prop, A = va_A (wXp y ad h q n b1 l1 r1 b2 l2 r2 b3 l3 r3 uz ul uh f1 g1 f2 g2 pa kd on ot pt fb fl fh tb tl th dg ds) s.heap.size := ⟨_, rfl⟩
  have hE : gE ad A s s.heap := by rw [hAe]; exact hE0
  have hD : va_D A (wXp y ad h q n b1 l1 r1 b2 l2 r2 b3 l3 r3 uz ul uh f1 g1 f2 g2 pa kd on ot pt fb fl fh tb tl th dg ds) := by rw [hAe]; exact hD0.self (sz := s.heap.size)
  have hA : ∀ q : Nat, s.heap.size ≤ q → A q := fun q h => by rw [hAe]; exact Or.inr h
  have hS : va_S A s.heap s.heap [] := va_S.rf
  have hl := lv_entry ([.ref h, .int a, .int b]) (n := 3) (Nat.le_of_ble_eq_true rfl)
  rw [lg_entry_eq]
  generalize (lg_sl ([.ref h, .int a, .int b]) ++ List.replicate (3 - (lg_sl ([.ref h, .int a, .int b])).length) Slot.unset).toArray = ls at hl ⊢
  have hl : lv_has ls 3 [(0, .ref h), (1, .int a), (2, .int b)] := hl
  refine lv_aload_n hx hb dX7_product_0 rfl (lv_at hl 0 rfl) ?_
  refine va_gets hx hb ((hE.2.2.2.2.2 3 (by decide)).1) hS hown (hts (.fieldLink RX7 110 "Nestlimit$Kind" "PRODUCT" "LNestlimit$Kind;") (List.mem_of_getElem? (i := 1) rfl)) (fun _ h9 => h9) dX7_product_1 ?_
  refine lv_iload_n hx hb dX7_product_4 rfl (lv_at hl 1 rfl) ?_
  refine lv_iload_n hx hb dX7_product_5 rfl (lv_at hl 2 rfl) ?_
  exact g_outX (vx_runV (As := [.ref (ad 3), .int a, .int b]) (rest := []) ⟨hx, hb, hml, hown, hts⟩ (c_X7_make_X1a l hfl D y ad s.heap.size h q n b1 l1 r1 b2 l2 r2 b3 l3 r3 uz ul uh f1 g1 f2 g2 pa kd on ot pt fb fl fh tb tl th dg ds (ad 3) a b hbad) (cwV 3 hts gX7_product_X7_make rfl rfl rfl (by decide +kernel) ⟨Nat.le_of_ble_eq_true rfl, Nat.le_of_ble_eq_true rfl⟩) (gPX_VA hP hD hK hE hS hA 0 rfl rfl) rfl rfl hl.1 rfl (lv_room (Nat.le_of_ble_eq_true rfl)) dX7_product_6 ⟨Nat.le_of_ble_eq_true rfl, Nat.le_of_ble_eq_true rfl⟩) hAe hD hS hA (fun w1 h9 => h9) rfl hno hlocks (Nat.le_of_ble_eq_true rfl) (Nat.le_of_ble_eq_true rfl)
set_option maxHeartbeats 4000000 in
set_option maxRecDepth 100000 in
theorem c_X7_product_X1b (l : Launch) (hfl : l.stackTraces = false) (D : va_G) (y : Nat → ClassId) (ad : Nat → Nat) (sz : Nat) (h : Nat) (q : Nat → Nat) (n : Nat) (b1 : Bool) (l1 r1 : Int64) (b2 : Bool) (l2 r2 : Int64) (b3 : Bool) (l3 r3 : Int64) (uz : Nat → Bool) (ul uh : Nat → Int64) (f1 g1 f2 g2 : Int64) (pa : Nat → Nat → Nat) (kd : Nat → Nat) (on ot : Nat → Int32) (pt : Nat → Int64) (fb : Nat → Nat → Bool) (fl fh : Nat → Nat → Int64) (tb : Nat → Nat → Bool) (tl th : Nat → Nat → Int64) (dg : Nat → Int32) (ds : Nat → Int64) (k : Nat) (b : Int32) (hn : n ≤ 40) (hk : k < n) (hbad : b < 0 ∨ nI n ≤ b) : vx_Met l yX7_product wsX7_product ({ frames := 8, cells := 1, slots := 6, locals := 141 } : Room) (gPX D y ad [.ref h, .int (nI k), .int b] (wXp y ad h q n b1 l1 r1 b2 l2 r2 b3 l3 r3 uz ul uh f1 g1 f2 g2 pa kd on ot pt fb fl fh tb tl th dg ds) sz) gNo (gXC D (wXp y ad h q n b1 l1 r1 b2 l2 r2 b3 l3 r3 uz ul uh f1 g1 f2 g2 pa kd on ot pt fb fl fh tb tl th dg ds) gIOB (fun w => w = wXp y ad h q n b1 l1 r1 b2 l2 r2 b3 l3 r3 uz ul uh f1 g1 f2 g2 pa kd on ot pt fb fl fh tb tl th dg ds)) 1 6 (va_A (wXp y ad h q n b1 l1 r1 b2 l2 r2 b3 l3 r3 uz ul uh f1 g1 f2 g2 pa kd on ot pt fb fl fh tb tl th dg ds) sz) := by
  refine vx_ofW (cc := cX7_product) (maxL := 3) (ret := (some .int)) (by decide) rfl ?_
  intro pg e s m args below meth c s₁ B hml hno hv
  obtain ⟨rfl, hsz, hP, hK, hD0, hE0⟩ := hv
  have hx := B.exec
  have hb := B.bytes
  have hr := B.returns
  have hts := atoms_spec (ws := wsX7_product) B.pre
  have hown : s.vm.findClass RX7 = some m.cls := findClass_of_methodNamed B.named
  have hlocks := B.notSynchronized
  subst hsz
  obtain ⟨A, hAe⟩ : ∃ A : Nat → Prop, A = va_A (wXp y ad h q n b1 l1 r1 b2 l2 r2 b3 l3 r3 uz ul uh f1 g1 f2 g2 pa kd on ot pt fb fl fh tb tl th dg ds) s.heap.size := ⟨_, rfl⟩
  have hE : gE ad A s s.heap := by rw [hAe]; exact hE0
  have hD : va_D A (wXp y ad h q n b1 l1 r1 b2 l2 r2 b3 l3 r3 uz ul uh f1 g1 f2 g2 pa kd on ot pt fb fl fh tb tl th dg ds) := by rw [hAe]; exact hD0.self (sz := s.heap.size)
  have hA : ∀ q : Nat, s.heap.size ≤ q → A q := fun q h => by rw [hAe]; exact Or.inr h
  have hS : va_S A s.heap s.heap [] := va_S.rf
  have hl := lv_entry ([.ref h, .int (nI k), .int b]) (n := 3) (Nat.le_of_ble_eq_true rfl)
  rw [lg_entry_eq]
  generalize (lg_sl ([.ref h, .int (nI k), .int b]) ++ List.replicate (3 - (lg_sl ([.ref h, .int (nI k), .int b])).length) Slot.unset).toArray = ls at hl ⊢
  have hl : lv_has ls 3 [(0, .ref h), (1, .int (nI k)), (2, .int b)] := hl
  refine lv_aload_n hx hb dX7_product_0 rfl (lv_at hl 0 rfl) ?_
  refine va_gets hx hb ((hE.2.2.2.2.2 3 (by decide)).1) hS hown (hts (.fieldLink RX7 110 "Nestlimit$Kind" "PRODUCT" "LNestlimit$Kind;") (List.mem_of_getElem? (i := 1) rfl)) (fun _ h9 => h9) dX7_product_1 ?_
  refine lv_iload_n hx hb dX7_product_4 rfl (lv_at hl 1 rfl) ?_
  refine lv_iload_n hx hb dX7_product_5 rfl (lv_at hl 2 rfl) ?_
  exact g_outX (vx_runV (As := [.ref (ad 3), .int (nI k), .int b]) (rest := []) ⟨hx, hb, hml, hown, hts⟩ (c_X7_make_X1b l hfl D y ad s.heap.size h q n b1 l1 r1 b2 l2 r2 b3 l3 r3 uz ul uh f1 g1 f2 g2 pa kd on ot pt fb fl fh tb tl th dg ds (ad 3) k b hn hk hbad) (cwV 3 hts gX7_product_X7_make rfl rfl rfl (by decide +kernel) ⟨Nat.le_of_ble_eq_true rfl, Nat.le_of_ble_eq_true rfl⟩) (gPX_VA hP hD hK hE hS hA 0 rfl rfl) rfl rfl hl.1 rfl (lv_room (Nat.le_of_ble_eq_true rfl)) dX7_product_6 ⟨Nat.le_of_ble_eq_true rfl, Nat.le_of_ble_eq_true rfl⟩) hAe hD hS hA (fun w1 h9 => h9) rfl hno hlocks (Nat.le_of_ble_eq_true rfl) (Nat.le_of_ble_eq_true rfl)
set_option maxHeartbeats 4000000 in
set_option maxRecDepth 100000 in
theorem c_X7_product_X2 (l : Launch) (hfl : l.stackTraces = false) (D : va_G) (y : Nat → ClassId) (ad : Nat → Nat) (sz : Nat) (h : Nat) (q : Nat → Nat) (n : Nat) (b1 : Bool) (l1 r1 : Int64) (b2 : Bool) (l2 r2 : Int64) (b3 : Bool) (l3 r3 : Int64) (uz : Nat → Bool) (ul uh : Nat → Int64) (f1 g1 f2 g2 : Int64) (pa : Nat → Nat → Nat) (kd : Nat → Nat) (on ot : Nat → Int32) (pt : Nat → Int64) (fb : Nat → Nat → Bool) (fl fh : Nat → Nat → Int64) (tb : Nat → Nat → Bool) (tl th : Nat → Nat → Int64) (dg : Nat → Int32) (ds : Nat → Int64) (k j : Nat) (hn : n ≤ 40) (hk : k < n) (hj : j < n) (hn2 : ¬ n < 40) : vx_Met l yX7_product wsX7_product ({ frames := 8, cells := 1, slots := 6, locals := 139 } : Room) (gPX D y ad [.ref h, .int (nI k), .int (nI j)] (wXp y ad h q n b1 l1 r1 b2 l2 r2 b3 l3 r3 uz ul uh f1 g1 f2 g2 pa kd on ot pt fb fl fh tb tl th dg ds) sz) gNo (gXC D (wXp y ad h q n b1 l1 r1 b2 l2 r2 b3 l3 r3 uz ul uh f1 g1 f2 g2 pa kd on ot pt fb fl fh tb tl th dg ds) gISE (fun w => w = wXp y ad h q n b1 l1 r1 b2 l2 r2 b3 l3 r3 uz ul uh f1 g1 f2 g2 pa kd on ot pt fb fl fh tb tl th dg ds)) 1 6 (va_A (wXp y ad h q n b1 l1 r1 b2 l2 r2 b3 l3 r3 uz ul uh f1 g1 f2 g2 pa kd on ot pt fb fl fh tb tl th dg ds) sz) := by
  refine vx_ofW (cc := cX7_product) (maxL := 3) (ret := (some .int)) (by decide) rfl ?_
  intro pg e s m args below meth c s₁ B hml hno hv
  obtain ⟨rfl, hsz, hP, hK, hD0, hE0⟩ := hv
  have hx := B.exec
  have hb := B.bytes
  have hr := B.returns
  have hts := atoms_spec (ws := wsX7_product) B.pre
  have hown : s.vm.findClass RX7 = some m.cls := findClass_of_methodNamed B.named
  have hlocks := B.notSynchronized
  subst hsz
  obtain ⟨A, hAe⟩ : ∃ A : Nat → Prop, A = va_A (wXp y ad h q n b1 l1 r1 b2 l2 r2 b3 l3 r3 uz ul uh f1 g1 f2 g2 pa kd on ot pt fb fl fh tb tl th dg ds) s.heap.size := ⟨_, rfl⟩
  have hE : gE ad A s s.heap := by rw [hAe]; exact hE0
  have hD : va_D A (wXp y ad h q n b1 l1 r1 b2 l2 r2 b3 l3 r3 uz ul uh f1 g1 f2 g2 pa kd on ot pt fb fl fh tb tl th dg ds) := by rw [hAe]; exact hD0.self (sz := s.heap.size)
  have hA : ∀ q : Nat, s.heap.size ≤ q → A q := fun q h => by rw [hAe]; exact Or.inr h
  have hS : va_S A s.heap s.heap [] := va_S.rf
  have hl := lv_entry ([.ref h, .int (nI k), .int (nI j)]) (n := 3) (Nat.le_of_ble_eq_true rfl)
  rw [lg_entry_eq]
  generalize (lg_sl ([.ref h, .int (nI k), .int (nI j)]) ++ List.replicate (3 - (lg_sl ([.ref h, .int (nI k), .int (nI j)])).length) Slot.unset).toArray = ls at hl ⊢
  have hl : lv_has ls 3 [(0, .ref h), (1, .int (nI k)), (2, .int (nI j))] := hl
  refine lv_aload_n hx hb dX7_product_0 rfl (lv_at hl 0 rfl) ?_
  refine va_gets hx hb ((hE.2.2.2.2.2 3 (by decide)).1) hS hown (hts (.fieldLink RX7 110 "Nestlimit$Kind" "PRODUCT" "LNestlimit$Kind;") (List.mem_of_getElem? (i := 1) rfl)) (fun _ h9 => h9) dX7_product_1 ?_
  refine lv_iload_n hx hb dX7_product_4 rfl (lv_at hl 1 rfl) ?_
  refine lv_iload_n hx hb dX7_product_5 rfl (lv_at hl 2 rfl) ?_
  exact g_outX (vx_runV (As := [.ref (ad 3), .int (nI k), .int (nI j)]) (rest := []) ⟨hx, hb, hml, hown, hts⟩ (c_X7_make_X2 l hfl D y ad s.heap.size h q n b1 l1 r1 b2 l2 r2 b3 l3 r3 uz ul uh f1 g1 f2 g2 pa kd on ot pt fb fl fh tb tl th dg ds (ad 3) k j hn hk hj hn2) (cwV 3 hts gX7_product_X7_make rfl rfl rfl (by decide +kernel) ⟨Nat.le_of_ble_eq_true rfl, Nat.le_of_ble_eq_true rfl⟩) (gPX_VA hP hD hK hE hS hA 0 rfl rfl) rfl rfl hl.1 rfl (lv_room (Nat.le_of_ble_eq_true rfl)) dX7_product_6 ⟨Nat.le_of_ble_eq_true rfl, Nat.le_of_ble_eq_true rfl⟩) hAe hD hS hA (fun w1 h9 => h9) rfl hno hlocks (Nat.le_of_ble_eq_true rfl) (Nat.le_of_ble_eq_true rfl)
set_option maxHeartbeats 4000000 in
set_option maxRecDepth 100000 in
theorem c_X7_product_0 (l : Launch) (hfl : l.stackTraces = false) (D : va_G) (y : Nat → ClassId) (ad : Nat → Nat) (sz : Nat) (h : Nat) (q : Nat → Nat) (n : Nat) (b1 : Bool) (l1 r1 : Int64) (b2 : Bool) (l2 r2 : Int64) (b3 : Bool) (l3 r3 : Int64) (uz : Nat → Bool) (ul uh : Nat → Int64) (f1 g1 f2 g2 : Int64) (pa : Nat → Nat → Nat) (kd : Nat → Nat) (on ot : Nat → Int32) (pt : Nat → Int64) (fb : Nat → Nat → Bool) (fl fh : Nat → Nat → Int64) (tb : Nat → Nat → Bool) (tl th : Nat → Nat → Int64) (dg : Nat → Int32) (ds : Nat → Int64) (k j : Nat) (hn4 : n < 40) (hk : k < n) (hj : j < n) : Met l yX7_product wsX7_product ({ frames := 8, cells := 9, slots := 164, locals := 249 } : Room) (gPX D y ad [.ref h, .int (nI k), .int (nI j)] (wXp y ad h q n b1 l1 r1 b2 l2 r2 b3 l3 r3 uz ul uh f1 g1 f2 g2 pa kd on ot pt fb fl fh tb tl th dg ds) sz) (gQn D (wXp y ad h q n b1 l1 r1 b2 l2 r2 b3 l3 r3 uz ul uh f1 g1 f2 g2 pa kd on ot pt fb fl fh tb tl th dg ds) (fun v w => ∃ (yb1 : Bool) (yl1 : Int64) (yr1 : Int64) (yb2 : Bool) (yl2 : Int64) (yr2 : Int64) (yb3 : Bool) (yl3 : Int64) (yr3 : Int64) (yuz : Nat → Bool) (yul : Nat → Int64) (yuh : Nat → Int64) (yf1 : Int64) (yg1 : Int64) (yf2 : Int64) (yg2 : Int64) (nan : Nat → Nat) (fbn : Nat → Bool) (fln : Nat → Int64) (fhn : Nat → Int64) (tbn : Nat → Bool) (tln : Nat → Int64) (thn : Nat → Int64), v = some (.int (nI n)) ∧ w = (wXp y ad h q (n + 1) yb1 yl1 yr1 yb2 yl2 yr2 yb3 yl3 yr3 yuz yul yuh yf1 yg1 yf2 yg2 (pst pa n nan) (pst kd n 3) (pst on n (nI k)) (pst ot n (nI j)) (pst pt n ((pt k ||| pt j) ||| jshl 1 (nI n))) (pst fb n fbn) (pst fl n fln) (pst fh n fhn) (pst tb n tbn) (pst tl n tln) (pst th n thn) (pst dg n 0) (pst ds n 0)) ∧ (∀ i9, i9 < 25 → (fbn i9, fln i9, fhn i9) = mkX fb fl fh 3 k j i9) ∧ (∀ i9, i9 < 25 → (tbn i9, tln i9, thn i9) = nwA fbn fln fhn (i9 + 1)))) 9 164 (va_A (wXp y ad h q n b1 l1 r1 b2 l2 r2 b3 l3 r3 uz ul uh f1 g1 f2 g2 pa kd on ot pt fb fl fh tb tl th dg ds) sz) := by
  refine Met.ofW (cc := cX7_product) (maxL := 3) (ret := (some .int)) (by decide) rfl ?_
  intro pg e s m args below meth c s₁ B hml hv
  obtain ⟨rfl, hsz, hP, hK, hD0, hE0⟩ := hv
  have hx := B.exec
  have hb := B.bytes
  have hr := B.returns
  have hts := atoms_spec (ws := wsX7_product) B.pre
  have hown : s.vm.findClass RX7 = some m.cls := findClass_of_methodNamed B.named
  have hlocks := B.notSynchronized
  subst hsz
  obtain ⟨A, hAe⟩ : ∃ A : Nat → Prop, A = va_A (wXp y ad h q n b1 l1 r1 b2 l2 r2 b3 l3 r3 uz ul uh f1 g1 f2 g2 pa kd on ot pt fb fl fh tb tl th dg ds) s.heap.size := ⟨_, rfl⟩
  have hE : gE ad A s s.heap := by rw [hAe]; exact hE0
  have hD : va_D A (wXp y ad h q n b1 l1 r1 b2 l2 r2 b3 l3 r3 uz ul uh f1 g1 f2 g2 pa kd on ot pt fb fl fh tb tl th dg ds) := by rw [hAe]; exact hD0.self (sz := s.heap.size)
  have hA : ∀ q : Nat, s.heap.size ≤ q → A q := fun q h => by rw [hAe]; exact Or.inr h
  have hS : va_S A s.heap s.heap [] := va_S.rf
  have hl := lv_entry ([.ref h, .int (nI k), .int (nI j)]) (n := 3) (Nat.le_of_ble_eq_true rfl)
  rw [lg_entry_eq]
  generalize (lg_sl ([.ref h, .int (nI k), .int (nI j)]) ++ List.replicate (3 - (lg_sl ([.ref h, .int (nI k), .int (nI j)])).length) Slot.unset).toArray = ls at hl ⊢
  have hl : lv_has ls 3 [(0, .ref h), (1, .int (nI k)), (2, .int (nI j))] := hl
  refine lv_aload_n hx hb dX7_product_0 rfl (lv_at hl 0 rfl) ?_
  refine va_gets hx hb ((hE.2.2.2.2.2 3 (by decide)).1) hS hown (hts (.fieldLink RX7 110 "Nestlimit$Kind" "PRODUCT" "LNestlimit$Kind;") (List.mem_of_getElem? (i := 1) rfl)) (fun _ h9 => h9) dX7_product_1 ?_
  refine lv_iload_n hx hb dX7_product_4 rfl (lv_at hl 1 rfl) ?_
  refine lv_iload_n hx hb dX7_product_5 rfl (lv_at hl 2 rfl) ?_
  refine g_callN (ws := []) (wc := wXp y ad h q n b1 l1 r1 b2 l2 r2 b3 l3 r3 uz ul uh f1 g1 f2 g2 pa kd on ot pt fb fl fh tb tl th dg ds) (va_runV (As := [.ref (ad 3), .int (nI k), .int (nI j)]) (rest := []) ⟨hx, hb, hml, hown, hts⟩ (c_X7_make_0 l hfl D y ad s.heap.size h q n b1 l1 r1 b2 l2 r2 b3 l3 r3 uz ul uh f1 g1 f2 g2 pa kd on ot pt fb fl fh tb tl th dg ds k j 3 hn4 hk hj (by decide) (by decide)) (cwV 3 hts gX7_product_X7_make rfl rfl rfl (by decide +kernel) ⟨Nat.le_of_ble_eq_true rfl, Nat.le_of_ble_eq_true rfl⟩) (gPX_VA hP hD hK hE hS hA 0 rfl rfl) rfl rfl hl.1 rfl (lv_room (Nat.le_of_ble_eq_true rfl)) dX7_product_6 ⟨Nat.le_of_ble_eq_true rfl, Nat.le_of_ble_eq_true rfl⟩) hP hD hS hA (fun v w1 H locs hf hP hD hS => ?_)
  obtain ⟨yb1_6, yl1_6, yr1_6, yb2_6, yl2_6, yr2_6, yb3_6, yl3_6, yr3_6, yuz_6, yul_6, yuh_6, yf1_6, yg1_6, yf2_6, yg2_6, nan_6, fbn_6, fln_6, fhn_6, tbn_6, tln_6, thn_6, rfl, rfl, h6_0, h6_1⟩ := hf
  have hP9 := hP
  have hD9 := hD
  exact W.iret (v := nI n) hx hb hr (fun t ht hW => ⟨⟨some (.int (nI n)), wXp y ad h q (n + 1) yb1_6 yl1_6 yr1_6 yb2_6 yl2_6 yr2_6 yb3_6 yl3_6 yr3_6 yuz_6 yul_6 yuh_6 yf1_6 yg1_6 yf2_6 yg2_6 (pst pa n nan_6) (pst kd n 3) (pst on n (nI k)) (pst ot n (nI j)) (pst pt n ((pt k ||| pt j) ||| jshl 1 (nI n))) (pst fb n fbn_6) (pst fl n fln_6) (pst fh n fhn_6) (pst tb n tbn_6) (pst tl n tln_6) (pst th n thn_6) (pst dg n 0) (pst ds n 0), rfl, ⟨yb1_6, yl1_6, yr1_6, yb2_6, yl2_6, yr2_6, yb3_6, yl3_6, yr3_6, yuz_6, yul_6, yuh_6, yf1_6, yg1_6, yf2_6, yg2_6, nan_6, fbn_6, fln_6, fhn_6, tbn_6, tln_6, thn_6, rfl, rfl, h6_0, h6_1⟩, by rw [← hAe]; exact hD9, by rw [ht]; exact hP9⟩, by rw [← hAe]; exact hS.F ht⟩) (by rw [← hAe]; exact hS.2.2) dX7_product_9
set_option maxHeartbeats 4000000 in
set_option maxRecDepth 100000 in
theorem c_X7_greater_X1a (l : Launch) (hfl : l.stackTraces = false) (D : va_G) (y : Nat → ClassId) (ad : Nat → Nat) (sz : Nat) (h : Nat) (q : Nat → Nat) (n : Nat) (b1 : Bool) (l1 r1 : Int64) (b2 : Bool) (l2 r2 : Int64) (b3 : Bool) (l3 r3 : Int64) (uz : Nat → Bool) (ul uh : Nat → Int64) (f1 g1 f2 g2 : Int64) (pa : Nat → Nat → Nat) (kd : Nat → Nat) (on ot : Nat → Int32) (pt : Nat → Int64) (fb : Nat → Nat → Bool) (fl fh : Nat → Nat → Int64) (tb : Nat → Nat → Bool) (tl th : Nat → Nat → Int64) (dg : Nat → Int32) (ds : Nat → Int64) (a b : Int32) (hbad : a < 0 ∨ nI n ≤ a) : vx_Met l yX7_greater wsX7_greater ({ frames := 8, cells := 1, slots := 6, locals := 141 } : Room) (gPX D y ad [.ref h, .int a, .int b] (wXp y ad h q n b1 l1 r1 b2 l2 r2 b3 l3 r3 uz ul uh f1 g1 f2 g2 pa kd on ot pt fb fl fh tb tl th dg ds) sz) gNo (gXC D (wXp y ad h q n b1 l1 r1 b2 l2 r2 b3 l3 r3 uz ul uh f1 g1 f2 g2 pa kd on ot pt fb fl fh tb tl th dg ds) gIOB (fun w => w = wXp y ad h q n b1 l1 r1 b2 l2 r2 b3 l3 r3 uz ul uh f1 g1 f2 g2 pa kd on ot pt fb fl fh tb tl th dg ds)) 1 6 (va_A (wXp y ad h q n b1 l1 r1 b2 l2 r2 b3 l3 r3 uz ul uh f1 g1 f2 g2 pa kd on ot pt fb fl fh tb tl th dg ds) sz) := by
  refine vx_ofW (cc := cX7_greater) (maxL := 3) (ret := (some .int)) (by decide) rfl ?_
  intro pg e s m args below meth c s₁ B hml hno hv
  obtain ⟨rfl, hsz, hP, hK, hD0, hE0⟩ := hv
  have hx := B.exec
  have hb := B.bytes
  have hr := B.returns
  have hts := atoms_spec (ws := wsX7_greater) B.pre
  have hown : s.vm.findClass RX7 = some m.cls := findClass_of_methodNamed B.named
  have hlocks := B.notSynchronized
  subst hsz
  obtain ⟨A, hAe⟩ : ∃ A : Nat → Prop, A = va_A (wXp y ad h q n b1 l1 r1 b2 l2 r2 b3 l3 r3 uz ul uh f1 g1 f2 g2 pa kd on ot pt fb fl fh tb tl th dg ds) s.heap.size := ⟨_, rfl⟩
  have hE : gE ad A s s.heap := by rw [hAe]; exact hE0
  have hD : va_D A (wXp y ad h q n b1 l1 r1 b2 l2 r2 b3 l3 r3 uz ul uh f1 g1 f2 g2 pa kd on ot pt fb fl fh tb tl th dg ds) := by rw [hAe]; exact hD0.self (sz := s.heap.size)
  have hA : ∀ q : Nat, s.heap.size ≤ q → A q := fun q h => by rw [hAe]; exact Or.inr h
  have hS : va_S A s.heap s.heap [] := va_S.rf
  have hl := lv_entry ([.ref h, .int a, .int b]) (n := 3) (Nat.le_of_ble_eq_true rfl)
  rw [lg_entry_eq]
  generalize (lg_sl ([.ref h, .int a, .int b]) ++ List.replicate (3 - (lg_sl ([.ref h, .int a, .int b])).length) Slot.unset).toArray = ls at hl ⊢
  have hl : lv_has ls 3 [(0, .ref h), (1, .int a), (2, .int b)] := hl
  refine lv_aload_n hx hb dX7_greater_0 rfl (lv_at hl 0 rfl) ?_
  refine va_gets hx hb ((hE.2.2.2.2.2 4 (by decide)).1) hS hown (hts (.fieldLink RX7 113 "Nestlimit$Kind" "GREATER" "LNestlimit$Kind;") (List.mem_of_getElem? (i := 1) rfl)) (fun _ h9 => h9) dX7_greater_1 ?_
  refine lv_iload_n hx hb dX7_greater_4 rfl (lv_at hl 1 rfl) ?_
  refine lv_iload_n hx hb dX7_greater_5 rfl (lv_at hl 2 rfl) ?_
  exact g_outX (vx_runV (As := [.ref (ad 4), .int a, .int b]) (rest := []) ⟨hx, hb, hml, hown, hts⟩ (c_X7_make_X1a l hfl D y ad s.heap.size h q n b1 l1 r1 b2 l2 r2 b3 l3 r3 uz ul uh f1 g1 f2 g2 pa kd on ot pt fb fl fh tb tl th dg ds (ad 4) a b hbad) (cwV 3 hts gX7_greater_X7_make rfl rfl rfl (by decide +kernel) ⟨Nat.le_of_ble_eq_true rfl, Nat.le_of_ble_eq_true rfl⟩) (gPX_VA hP hD hK hE hS hA 0 rfl rfl) rfl rfl hl.1 rfl (lv_room (Nat.le_of_ble_eq_true rfl)) dX7_greater_6 ⟨Nat.le_of_ble_eq_true rfl, Nat.le_of_ble_eq_true rfl⟩) hAe hD hS hA (fun w1 h9 => h9) rfl hno hlocks (Nat.le_of_ble_eq_true rfl) (Nat.le_of_ble_eq_true rfl)
set_option maxHeartbeats 4000000 in
set_option maxRecDepth 100000 in
theorem c_X7_greater_X1b (l : Launch) (hfl : l.stackTraces = false) (D : va_G) (y : Nat → ClassId) (ad : Nat → Nat) (sz : Nat) (h : Nat) (q : Nat → Nat) (n : Nat) (b1 : Bool) (l1 r1 : Int64) (b2 : Bool) (l2 r2 : Int64) (b3 : Bool) (l3 r3 : Int64) (uz : Nat → Bool) (ul uh : Nat → Int64) (f1 g1 f2 g2 : Int64) (pa : Nat → Nat → Nat) (kd : Nat → Nat) (on ot : Nat → Int32) (pt : Nat → Int64) (fb : Nat → Nat → Bool) (fl fh : Nat → Nat → Int64) (tb : Nat → Nat → Bool) (tl th : Nat → Nat → Int64) (dg : Nat → Int32) (ds : Nat → Int64) (k : Nat) (b : Int32) (hn : n ≤ 40) (hk : k < n) (hbad : b < 0 ∨ nI n ≤ b) : vx_Met l yX7_greater wsX7_greater ({ frames := 8, cells := 1, slots := 6, locals := 141 } : Room) (gPX D y ad [.ref h, .int (nI k), .int b] (wXp y ad h q n b1 l1 r1 b2 l2 r2 b3 l3 r3 uz ul uh f1 g1 f2 g2 pa kd on ot pt fb fl fh tb tl th dg ds) sz) gNo (gXC D (wXp y ad h q n b1 l1 r1 b2 l2 r2 b3 l3 r3 uz ul uh f1 g1 f2 g2 pa kd on ot pt fb fl fh tb tl th dg ds) gIOB (fun w => w = wXp y ad h q n b1 l1 r1 b2 l2 r2 b3 l3 r3 uz ul uh f1 g1 f2 g2 pa kd on ot pt fb fl fh tb tl th dg ds)) 1 6 (va_A (wXp y ad h q n b1 l1 r1 b2 l2 r2 b3 l3 r3 uz ul uh f1 g1 f2 g2 pa kd on ot pt fb fl fh tb tl th dg ds) sz) := by
  refine vx_ofW (cc := cX7_greater) (maxL := 3) (ret := (some .int)) (by decide) rfl ?_
  intro pg e s m args below meth c s₁ B hml hno hv
  obtain ⟨rfl, hsz, hP, hK, hD0, hE0⟩ := hv
  have hx := B.exec
  have hb := B.bytes
  have hr := B.returns
  have hts := atoms_spec (ws := wsX7_greater) B.pre
  have hown : s.vm.findClass RX7 = some m.cls := findClass_of_methodNamed B.named
  have hlocks := B.notSynchronized
  subst hsz
  obtain ⟨A, hAe⟩ : ∃ A : Nat → Prop, A = va_A (wXp y ad h q n b1 l1 r1 b2 l2 r2 b3 l3 r3 uz ul uh f1 g1 f2 g2 pa kd on ot pt fb fl fh tb tl th dg ds) s.heap.size := ⟨_, rfl⟩
  have hE : gE ad A s s.heap := by rw [hAe]; exact hE0
  have hD : va_D A (wXp y ad h q n b1 l1 r1 b2 l2 r2 b3 l3 r3 uz ul uh f1 g1 f2 g2 pa kd on ot pt fb fl fh tb tl th dg ds) := by rw [hAe]; exact hD0.self (sz := s.heap.size)
  have hA : ∀ q : Nat, s.heap.size ≤ q → A q := fun q h => by rw [hAe]; exact Or.inr h
  have hS : va_S A s.heap s.heap [] := va_S.rf
  have hl := lv_entry ([.ref h, .int (nI k), .int b]) (n := 3) (Nat.le_of_ble_eq_true rfl)
  rw [lg_entry_eq]
  generalize (lg_sl ([.ref h, .int (nI k), .int b]) ++ List.replicate (3 - (lg_sl ([.ref h, .int (nI k), .int b])).length) Slot.unset).toArray = ls at hl ⊢
  have hl : lv_has ls 3 [(0, .ref h), (1, .int (nI k)), (2, .int b)] := hl
  refine lv_aload_n hx hb dX7_greater_0 rfl (lv_at hl 0 rfl) ?_
  refine va_gets hx hb ((hE.2.2.2.2.2 4 (by decide)).1) hS hown (hts (.fieldLink RX7 113 "Nestlimit$Kind" "GREATER" "LNestlimit$Kind;") (List.mem_of_getElem? (i := 1) rfl)) (fun _ h9 => h9) dX7_greater_1 ?_
  refine lv_iload_n hx hb dX7_greater_4 rfl (lv_at hl 1 rfl) ?_
  refine lv_iload_n hx hb dX7_greater_5 rfl (lv_at hl 2 rfl) ?_
  exact g_outX (vx_runV (As := [.ref (ad 4), .int (nI k), .int b]) (rest := []) ⟨hx, hb, hml, hown, hts⟩ (c_X7_make_X1b l hfl D y ad s.heap.size h q n b1 l1 r1 b2 l2 r2 b3 l3 r3 uz ul uh f1 g1 f2 g2 pa kd on ot pt fb fl fh tb tl th dg ds (ad 4) k b hn hk hbad) (cwV 3 hts gX7_greater_X7_make rfl rfl rfl (by decide +kernel) ⟨Nat.le_of_ble_eq_true rfl, Nat.le_of_ble_eq_true rfl⟩) (gPX_VA hP hD hK hE hS hA 0 rfl rfl) rfl rfl hl.1 rfl (lv_room (Nat.le_of_ble_eq_true rfl)) dX7_greater_6 ⟨Nat.le_of_ble_eq_true rfl, Nat.le_of_ble_eq_true rfl⟩) hAe hD hS hA (fun w1 h9 => h9) rfl hno hlocks (Nat.le_of_ble_eq_true rfl) (Nat.le_of_ble_eq_true rfl)
set_option maxHeartbeats 4000000 in
set_option maxRecDepth 100000 in
theorem c_X7_greater_X2 (l : Launch) (hfl : l.stackTraces = false) (D : va_G) (y : Nat → ClassId) (ad : Nat → Nat) (sz : Nat) (h : Nat) (q : Nat → Nat) (n : Nat) (b1 : Bool) (l1 r1 : Int64) (b2 : Bool) (l2 r2 : Int64) (b3 : Bool) (l3 r3 : Int64) (uz : Nat → Bool) (ul uh : Nat → Int64) (f1 g1 f2 g2 : Int64) (pa : Nat → Nat → Nat) (kd : Nat → Nat) (on ot : Nat → Int32) (pt : Nat → Int64) (fb : Nat → Nat → Bool) (fl fh : Nat → Nat → Int64) (tb : Nat → Nat → Bool) (tl th : Nat → Nat → Int64) (dg : Nat → Int32) (ds : Nat → Int64) (k j : Nat) (hn : n ≤ 40) (hk : k < n) (hj : j < n) (hn2 : ¬ n < 40) : vx_Met l yX7_greater wsX7_greater ({ frames := 8, cells := 1, slots := 6, locals := 139 } : Room) (gPX D y ad [.ref h, .int (nI k), .int (nI j)] (wXp y ad h q n b1 l1 r1 b2 l2 r2 b3 l3 r3 uz ul uh f1 g1 f2 g2 pa kd on ot pt fb fl fh tb tl th dg ds) sz) gNo (gXC D (wXp y ad h q n b1 l1 r1 b2 l2 r2 b3 l3 r3 uz ul uh f1 g1 f2 g2 pa kd on ot pt fb fl fh tb tl th dg ds) gISE (fun w => w = wXp y ad h q n b1 l1 r1 b2 l2 r2 b3 l3 r3 uz ul uh f1 g1 f2 g2 pa kd on ot pt fb fl fh tb tl th dg ds)) 1 6 (va_A (wXp y ad h q n b1 l1 r1 b2 l2 r2 b3 l3 r3 uz ul uh f1 g1 f2 g2 pa kd on ot pt fb fl fh tb tl th dg ds) sz) := by
  refine vx_ofW (cc := cX7_greater) (maxL := 3) (ret := (some .int)) (by decide) rfl ?_
  intro pg e s m args below meth c s₁ B hml hno hv
  obtain ⟨rfl, hsz, hP, hK, hD0, hE0⟩ := hv
  have hx := B.exec
  have hb := B.bytes
  have hr := B.returns
  have hts := atoms_spec (ws := wsX7_greater) B.pre
  have hown : s.vm.findClass RX7 = some m.cls := findClass_of_methodNamed B.named
  have hlocks := B.notSynchronized
  subst hsz
  obtain ⟨A, hAe⟩ : ∃ A : Nat → Prop, A = va_A (wXp y ad h q n b1 l1 r1 b2 l2 r2 b3 l3 r3 uz ul uh f1 g1 f2 g2 pa kd on ot pt fb fl fh tb tl th dg ds) s.heap.size := ⟨_, rfl⟩
  have hE : gE ad A s s.heap := by rw [hAe]; exact hE0
  have hD : va_D A (wXp y ad h q n b1 l1 r1 b2 l2 r2 b3 l3 r3 uz ul uh f1 g1 f2 g2 pa kd on ot pt fb fl fh tb tl th dg ds) := by rw [hAe]; exact hD0.self (sz := s.heap.size)
  have hA : ∀ q : Nat, s.heap.size ≤ q → A q := fun q h => by rw [hAe]; exact Or.inr h
  have hS : va_S A s.heap s.heap [] := va_S.rf
  have hl := lv_entry ([.ref h, .int (nI k), .int (nI j)]) (n := 3) (Nat.le_of_ble_eq_true rfl)
  rw [lg_entry_eq]
  generalize (lg_sl ([.ref h, .int (nI k), .int (nI j)]) ++ List.replicate (3 - (lg_sl ([.ref h, .int (nI k), .int (nI j)])).length) Slot.unset).toArray = ls at hl ⊢
  have hl : lv_has ls 3 [(0, .ref h), (1, .int (nI k)), (2, .int (nI j))] := hl
  refine lv_aload_n hx hb dX7_greater_0 rfl (lv_at hl 0 rfl) ?_
  refine va_gets hx hb ((hE.2.2.2.2.2 4 (by decide)).1) hS hown (hts (.fieldLink RX7 113 "Nestlimit$Kind" "GREATER" "LNestlimit$Kind;") (List.mem_of_getElem? (i := 1) rfl)) (fun _ h9 => h9) dX7_greater_1 ?_
  refine lv_iload_n hx hb dX7_greater_4 rfl (lv_at hl 1 rfl) ?_
  refine lv_iload_n hx hb dX7_greater_5 rfl (lv_at hl 2 rfl) ?_
  exact g_outX (vx_runV (As := [.ref (ad 4), .int (nI k), .int (nI j)]) (rest := []) ⟨hx, hb, hml, hown, hts⟩ (c_X7_make_X2 l hfl D y ad s.heap.size h q n b1 l1 r1 b2 l2 r2 b3 l3 r3 uz ul uh f1 g1 f2 g2 pa kd on ot pt fb fl fh tb tl th dg ds (ad 4) k j hn hk hj hn2) (cwV 3 hts gX7_greater_X7_make rfl rfl rfl (by decide +kernel) ⟨Nat.le_of_ble_eq_true rfl, Nat.le_of_ble_eq_true rfl⟩) (gPX_VA hP hD hK hE hS hA 0 rfl rfl) rfl rfl hl.1 rfl (lv_room (Nat.le_of_ble_eq_true rfl)) dX7_greater_6 ⟨Nat.le_of_ble_eq_true rfl, Nat.le_of_ble_eq_true rfl⟩) hAe hD hS hA (fun w1 h9 => h9) rfl hno hlocks (Nat.le_of_ble_eq_true rfl) (Nat.le_of_ble_eq_true rfl)
set_option maxHeartbeats 4000000 in
set_option maxRecDepth 100000 in
theorem c_X7_greater_0 (l : Launch) (hfl : l.stackTraces = false) (D : va_G) (y : Nat → ClassId) (ad : Nat → Nat) (sz : Nat) (h : Nat) (q : Nat → Nat) (n : Nat) (b1 : Bool) (l1 r1 : Int64) (b2 : Bool) (l2 r2 : Int64) (b3 : Bool) (l3 r3 : Int64) (uz : Nat → Bool) (ul uh : Nat → Int64) (f1 g1 f2 g2 : Int64) (pa : Nat → Nat → Nat) (kd : Nat → Nat) (on ot : Nat → Int32) (pt : Nat → Int64) (fb : Nat → Nat → Bool) (fl fh : Nat → Nat → Int64) (tb : Nat → Nat → Bool) (tl th : Nat → Nat → Int64) (dg : Nat → Int32) (ds : Nat → Int64) (k j : Nat) (hn4 : n < 40) (hk : k < n) (hj : j < n) : Met l yX7_greater wsX7_greater ({ frames := 8, cells := 9, slots := 164, locals := 249 } : Room) (gPX D y ad [.ref h, .int (nI k), .int (nI j)] (wXp y ad h q n b1 l1 r1 b2 l2 r2 b3 l3 r3 uz ul uh f1 g1 f2 g2 pa kd on ot pt fb fl fh tb tl th dg ds) sz) (gQn D (wXp y ad h q n b1 l1 r1 b2 l2 r2 b3 l3 r3 uz ul uh f1 g1 f2 g2 pa kd on ot pt fb fl fh tb tl th dg ds) (fun v w => ∃ (yb1 : Bool) (yl1 : Int64) (yr1 : Int64) (yb2 : Bool) (yl2 : Int64) (yr2 : Int64) (yb3 : Bool) (yl3 : Int64) (yr3 : Int64) (yuz : Nat → Bool) (yul : Nat → Int64) (yuh : Nat → Int64) (yf1 : Int64) (yg1 : Int64) (yf2 : Int64) (yg2 : Int64) (nan : Nat → Nat) (fbn : Nat → Bool) (fln : Nat → Int64) (fhn : Nat → Int64) (tbn : Nat → Bool) (tln : Nat → Int64) (thn : Nat → Int64), v = some (.int (nI n)) ∧ w = (wXp y ad h q (n + 1) yb1 yl1 yr1 yb2 yl2 yr2 yb3 yl3 yr3 yuz yul yuh yf1 yg1 yf2 yg2 (pst pa n nan) (pst kd n 4) (pst on n (nI k)) (pst ot n (nI j)) (pst pt n ((pt k ||| pt j) ||| jshl 1 (nI n))) (pst fb n fbn) (pst fl n fln) (pst fh n fhn) (pst tb n tbn) (pst tl n tln) (pst th n thn) (pst dg n 0) (pst ds n 0)) ∧ (∀ i9, i9 < 25 → (fbn i9, fln i9, fhn i9) = mkX fb fl fh 4 k j i9) ∧ (∀ i9, i9 < 25 → (tbn i9, tln i9, thn i9) = nwA fbn fln fhn (i9 + 1)))) 9 164 (va_A (wXp y ad h q n b1 l1 r1 b2 l2 r2 b3 l3 r3 uz ul uh f1 g1 f2 g2 pa kd on ot pt fb fl fh tb tl th dg ds) sz) := by
  refine Met.ofW (cc := cX7_greater) (maxL := 3) (ret := (some .int)) (by decide) rfl ?_
  intro pg e s m args below meth c s₁ B hml hv
  obtain ⟨rfl, hsz, hP, hK, hD0, hE0⟩ := hv
  have hx := B.exec
  have hb := B.bytes
  have hr := B.returns
  have hts := atoms_spec (ws := wsX7_greater) B.pre
  have hown : s.vm.findClass RX7 = some m.cls := findClass_of_methodNamed B.named
  have hlocks := B.notSynchronized
  subst hsz
  obtain ⟨A, hAe⟩ : ∃ A : Nat → Prop, A = va_A (wXp y ad h q n b1 l1 r1 b2 l2 r2 b3 l3 r3 uz ul uh f1 g1 f2 g2 pa kd on ot pt fb fl fh tb tl th dg ds) s.heap.size := ⟨_, rfl⟩
  have hE : gE ad A s s.heap := by rw [hAe]; exact hE0
  have hD : va_D A (wXp y ad h q n b1 l1 r1 b2 l2 r2 b3 l3 r3 uz ul uh f1 g1 f2 g2 pa kd on ot pt fb fl fh tb tl th dg ds) := by rw [hAe]; exact hD0.self (sz := s.heap.size)
  have hA : ∀ q : Nat, s.heap.size ≤ q → A q := fun q h => by rw [hAe]; exact Or.inr h
  have hS : va_S A s.heap s.heap [] := va_S.rf
  have hl := lv_entry ([.ref h, .int (nI k), .int (nI j)]) (n := 3) (Nat.le_of_ble_eq_true rfl)
  rw [lg_entry_eq]
  generalize (lg_sl ([.ref h, .int (nI k), .int (nI j)]) ++ List.replicate (3 - (lg_sl ([.ref h, .int (nI k), .int (nI j)])).length) Slot.unset).toArray = ls at hl ⊢
  have hl : lv_has ls 3 [(0, .ref h), (1, .int (nI k)), (2, .int (nI j))] := hl
  refine lv_aload_n hx hb dX7_greater_0 rfl (lv_at hl 0 rfl) ?_
  refine va_gets hx hb ((hE.2.2.2.2.2 4 (by decide)).1) hS hown (hts (.fieldLink RX7 113 "Nestlimit$Kind" "GREATER" "LNestlimit$Kind;") (List.mem_of_getElem? (i := 1) rfl)) (fun _ h9 => h9) dX7_greater_1 ?_
  refine lv_iload_n hx hb dX7_greater_4 rfl (lv_at hl 1 rfl) ?_
  refine lv_iload_n hx hb dX7_greater_5 rfl (lv_at hl 2 rfl) ?_
  refine g_callN (ws := []) (wc := wXp y ad h q n b1 l1 r1 b2 l2 r2 b3 l3 r3 uz ul uh f1 g1 f2 g2 pa kd on ot pt fb fl fh tb tl th dg ds) (va_runV (As := [.ref (ad 4), .int (nI k), .int (nI j)]) (rest := []) ⟨hx, hb, hml, hown, hts⟩ (c_X7_make_0 l hfl D y ad s.heap.size h q n b1 l1 r1 b2 l2 r2 b3 l3 r3 uz ul uh f1 g1 f2 g2 pa kd on ot pt fb fl fh tb tl th dg ds k j 4 hn4 hk hj (by decide) (by decide)) (cwV 3 hts gX7_greater_X7_make rfl rfl rfl (by decide +kernel) ⟨Nat.le_of_ble_eq_true rfl, Nat.le_of_ble_eq_true rfl⟩) (gPX_VA hP hD hK hE hS hA 0 rfl rfl) rfl rfl hl.1 rfl (lv_room (Nat.le_of_ble_eq_true rfl)) dX7_greater_6 ⟨Nat.le_of_ble_eq_true rfl, Nat.le_of_ble_eq_true rfl⟩) hP hD hS hA (fun v w1 H locs hf hP hD hS => ?_)
  obtain ⟨yb1_6, yl1_6, yr1_6, yb2_6, yl2_6, yr2_6, yb3_6, yl3_6, yr3_6, yuz_6, yul_6, yuh_6, yf1_6, yg1_6, yf2_6, yg2_6, nan_6, fbn_6, fln_6, fhn_6, tbn_6, tln_6, thn_6, rfl, rfl, h6_0, h6_1⟩ := hf
  have hP9 := hP
  have hD9 := hD
  exact W.iret (v := nI n) hx hb hr (fun t ht hW => ⟨⟨some (.int (nI n)), wXp y ad h q (n + 1) yb1_6 yl1_6 yr1_6 yb2_6 yl2_6 yr2_6 yb3_6 yl3_6 yr3_6 yuz_6 yul_6 yuh_6 yf1_6 yg1_6 yf2_6 yg2_6 (pst pa n nan_6) (pst kd n 4) (pst on n (nI k)) (pst ot n (nI j)) (pst pt n ((pt k ||| pt j) ||| jshl 1 (nI n))) (pst fb n fbn_6) (pst fl n fln_6) (pst fh n fhn_6) (pst tb n tbn_6) (pst tl n tln_6) (pst th n thn_6) (pst dg n 0) (pst ds n 0), rfl, ⟨yb1_6, yl1_6, yr1_6, yb2_6, yl2_6, yr2_6, yb3_6, yl3_6, yr3_6, yuz_6, yul_6, yuh_6, yf1_6, yg1_6, yf2_6, yg2_6, nan_6, fbn_6, fln_6, fhn_6, tbn_6, tln_6, thn_6, rfl, rfl, h6_0, h6_1⟩, by rw [← hAe]; exact hD9, by rw [ht]; exact hP9⟩, by rw [← hAe]; exact hS.F ht⟩) (by rw [← hAe]; exact hS.2.2) dX7_greater_9
set_option maxHeartbeats 4000000 in
set_option maxRecDepth 100000 in
theorem c_X7_inverse_X1a (l : Launch) (hfl : l.stackTraces = false) (D : va_G) (y : Nat → ClassId) (ad : Nat → Nat) (sz : Nat) (h : Nat) (q : Nat → Nat) (n : Nat) (b1 : Bool) (l1 r1 : Int64) (b2 : Bool) (l2 r2 : Int64) (b3 : Bool) (l3 r3 : Int64) (uz : Nat → Bool) (ul uh : Nat → Int64) (f1 g1 f2 g2 : Int64) (pa : Nat → Nat → Nat) (kd : Nat → Nat) (on ot : Nat → Int32) (pt : Nat → Int64) (fb : Nat → Nat → Bool) (fl fh : Nat → Nat → Int64) (tb : Nat → Nat → Bool) (tl th : Nat → Nat → Int64) (dg : Nat → Int32) (ds : Nat → Int64) (a : Int32) (hbad : a < 0 ∨ nI n ≤ a) : vx_Met l yX7_inverse wsX7_inverse ({ frames := 8, cells := 1, slots := 6, locals := 141 } : Room) (gPX D y ad [.ref h, .int a] (wXp y ad h q n b1 l1 r1 b2 l2 r2 b3 l3 r3 uz ul uh f1 g1 f2 g2 pa kd on ot pt fb fl fh tb tl th dg ds) sz) gNo (gXC D (wXp y ad h q n b1 l1 r1 b2 l2 r2 b3 l3 r3 uz ul uh f1 g1 f2 g2 pa kd on ot pt fb fl fh tb tl th dg ds) gIOB (fun w => w = wXp y ad h q n b1 l1 r1 b2 l2 r2 b3 l3 r3 uz ul uh f1 g1 f2 g2 pa kd on ot pt fb fl fh tb tl th dg ds)) 1 6 (va_A (wXp y ad h q n b1 l1 r1 b2 l2 r2 b3 l3 r3 uz ul uh f1 g1 f2 g2 pa kd on ot pt fb fl fh tb tl th dg ds) sz) := by
  refine vx_ofW (cc := cX7_inverse) (maxL := 2) (ret := (some .int)) (by decide) rfl ?_
  intro pg e s m args below meth c s₁ B hml hno hv
  obtain ⟨rfl, hsz, hP, hK, hD0, hE0⟩ := hv
  have hx := B.exec
  have hb := B.bytes
  have hr := B.returns
  have hts := atoms_spec (ws := wsX7_inverse) B.pre
  have hown : s.vm.findClass RX7 = some m.cls := findClass_of_methodNamed B.named
  have hlocks := B.notSynchronized
  subst hsz
  obtain ⟨A, hAe⟩ : ∃ A : Nat → Prop, A = va_A (wXp y ad h q n b1 l1 r1 b2 l2 r2 b3 l3 r3 uz ul uh f1 g1 f2 g2 pa kd on ot pt fb fl fh tb tl th dg ds) s.heap.size := ⟨_, rfl⟩
  have hE : gE ad A s s.heap := by rw [hAe]; exact hE0
  have hD : va_D A (wXp y ad h q n b1 l1 r1 b2 l2 r2 b3 l3 r3 uz ul uh f1 g1 f2 g2 pa kd on ot pt fb fl fh tb tl th dg ds) := by rw [hAe]; exact hD0.self (sz := s.heap.size)
  have hA : ∀ q : Nat, s.heap.size ≤ q → A q := fun q h => by rw [hAe]; exact Or.inr h
  have hS : va_S A s.heap s.heap [] := va_S.rf
  have hl := lv_entry ([.ref h, .int a]) (n := 2) (Nat.le_of_ble_eq_true rfl)
  rw [lg_entry_eq]
  generalize (lg_sl ([.ref h, .int a]) ++ List.replicate (2 - (lg_sl ([.ref h, .int a])).length) Slot.unset).toArray = ls at hl ⊢
  have hl : lv_has ls 2 [(0, .ref h), (1, .int a)] := hl
  refine lv_aload_n hx hb dX7_inverse_0 rfl (lv_at hl 0 rfl) ?_
  refine va_gets hx hb ((hE.2.2.2.2.2 5 (by decide)).1) hS hown (hts (.fieldLink RX7 116 "Nestlimit$Kind" "INVERSE" "LNestlimit$Kind;") (List.mem_of_getElem? (i := 1) rfl)) (fun _ h9 => h9) dX7_inverse_1 ?_
  refine lv_iload_n hx hb dX7_inverse_4 rfl (lv_at hl 1 rfl) ?_
  refine lv_iload_n hx hb dX7_inverse_5 rfl (lv_at hl 1 rfl) ?_
  exact g_outX (vx_runV (As := [.ref (ad 5), .int a, .int a]) (rest := []) ⟨hx, hb, hml, hown, hts⟩ (c_X7_make_X1a l hfl D y ad s.heap.size h q n b1 l1 r1 b2 l2 r2 b3 l3 r3 uz ul uh f1 g1 f2 g2 pa kd on ot pt fb fl fh tb tl th dg ds (ad 5) a a hbad) (cwV 3 hts gX7_inverse_X7_make rfl rfl rfl (by decide +kernel) ⟨Nat.le_of_ble_eq_true rfl, Nat.le_of_ble_eq_true rfl⟩) (gPX_VA hP hD hK hE hS hA 0 rfl rfl) rfl rfl hl.1 rfl (lv_room (Nat.le_of_ble_eq_true rfl)) dX7_inverse_6 ⟨Nat.le_of_ble_eq_true rfl, Nat.le_of_ble_eq_true rfl⟩) hAe hD hS hA (fun w1 h9 => h9) rfl hno hlocks (Nat.le_of_ble_eq_true rfl) (Nat.le_of_ble_eq_true rfl)
set_option maxHeartbeats 4000000 in
set_option maxRecDepth 100000 in
theorem c_X7_inverse_X2 (l : Launch) (hfl : l.stackTraces = false) (D : va_G) (y : Nat → ClassId) (ad : Nat → Nat) (sz : Nat) (h : Nat) (q : Nat → Nat) (n : Nat) (b1 : Bool) (l1 r1 : Int64) (b2 : Bool) (l2 r2 : Int64) (b3 : Bool) (l3 r3 : Int64) (uz : Nat → Bool) (ul uh : Nat → Int64) (f1 g1 f2 g2 : Int64) (pa : Nat → Nat → Nat) (kd : Nat → Nat) (on ot : Nat → Int32) (pt : Nat → Int64) (fb : Nat → Nat → Bool) (fl fh : Nat → Nat → Int64) (tb : Nat → Nat → Bool) (tl th : Nat → Nat → Int64) (dg : Nat → Int32) (ds : Nat → Int64) (k : Nat) (hn : n ≤ 40) (hk : k < n) (hn2 : ¬ n < 40) : vx_Met l yX7_inverse wsX7_inverse ({ frames := 8, cells := 1, slots := 6, locals := 139 } : Room) (gPX D y ad [.ref h, .int (nI k)] (wXp y ad h q n b1 l1 r1 b2 l2 r2 b3 l3 r3 uz ul uh f1 g1 f2 g2 pa kd on ot pt fb fl fh tb tl th dg ds) sz) gNo (gXC D (wXp y ad h q n b1 l1 r1 b2 l2 r2 b3 l3 r3 uz ul uh f1 g1 f2 g2 pa kd on ot pt fb fl fh tb tl th dg ds) gISE (fun w => w = wXp y ad h q n b1 l1 r1 b2 l2 r2 b3 l3 r3 uz ul uh f1 g1 f2 g2 pa kd on ot pt fb fl fh tb tl th dg ds)) 1 6 (va_A (wXp y ad h q n b1 l1 r1 b2 l2 r2 b3 l3 r3 uz ul uh f1 g1 f2 g2 pa kd on ot pt fb fl fh tb tl th dg ds) sz) := by
  refine vx_ofW (cc := cX7_inverse) (maxL := 2) (ret := (some .int)) (by decide) rfl ?_
  intro pg e s m args below meth c s₁ B hml hno hv
  obtain ⟨rfl, hsz, hP, hK, hD0, hE0⟩ := hv
  have hx := B.exec
  have hb := B.bytes
  have hr := B.returns
  have hts := atoms_spec (ws := wsX7_inverse) B.pre
  have hown : s.vm.findClass RX7 = some m.cls := findClass_of_methodNamed B.named
  have hlocks := B.notSynchronized
  subst hsz
  obtain ⟨A, hAe⟩ : ∃ A : Nat → Prop, A = va_A (wXp y ad h q n b1 l1 r1 b2 l2 r2 b3 l3 r3 uz ul uh f1 g1 f2 g2 pa kd on ot pt fb fl fh tb tl th dg ds) s.heap.size := ⟨_, rfl⟩
  have hE : gE ad A s s.heap := by rw [hAe]; exact hE0
  have hD : va_D A (wXp y ad h q n b1 l1 r1 b2 l2 r2 b3 l3 r3 uz ul uh f1 g1 f2 g2 pa kd on ot pt fb fl fh tb tl th dg ds) := by rw [hAe]; exact hD0.self (sz := s.heap.size)
  have hA : ∀ q : Nat, s.heap.size ≤ q → A q := fun q h => by rw [hAe]; exact Or.inr h
  have hS : va_S A s.heap s.heap [] := va_S.rf
  have hl := lv_entry ([.ref h, .int (nI k)]) (n := 2) (Nat.le_of_ble_eq_true rfl)
  rw [lg_entry_eq]
  generalize (lg_sl ([.ref h, .int (nI k)]) ++ List.replicate (2 - (lg_sl ([.ref h, .int (nI k)])).length) Slot.unset).toArray = ls at hl ⊢
  have hl : lv_has ls 2 [(0, .ref h), (1, .int (nI k))] := hl
  refine lv_aload_n hx hb dX7_inverse_0 rfl (lv_at hl 0 rfl) ?_
  refine va_gets hx hb ((hE.2.2.2.2.2 5 (by decide)).1) hS hown (hts (.fieldLink RX7 116 "Nestlimit$Kind" "INVERSE" "LNestlimit$Kind;") (List.mem_of_getElem? (i := 1) rfl)) (fun _ h9 => h9) dX7_inverse_1 ?_
  refine lv_iload_n hx hb dX7_inverse_4 rfl (lv_at hl 1 rfl) ?_
  refine lv_iload_n hx hb dX7_inverse_5 rfl (lv_at hl 1 rfl) ?_
  exact g_outX (vx_runV (As := [.ref (ad 5), .int (nI k), .int (nI k)]) (rest := []) ⟨hx, hb, hml, hown, hts⟩ (c_X7_make_X2 l hfl D y ad s.heap.size h q n b1 l1 r1 b2 l2 r2 b3 l3 r3 uz ul uh f1 g1 f2 g2 pa kd on ot pt fb fl fh tb tl th dg ds (ad 5) k k hn hk hk hn2) (cwV 3 hts gX7_inverse_X7_make rfl rfl rfl (by decide +kernel) ⟨Nat.le_of_ble_eq_true rfl, Nat.le_of_ble_eq_true rfl⟩) (gPX_VA hP hD hK hE hS hA 0 rfl rfl) rfl rfl hl.1 rfl (lv_room (Nat.le_of_ble_eq_true rfl)) dX7_inverse_6 ⟨Nat.le_of_ble_eq_true rfl, Nat.le_of_ble_eq_true rfl⟩) hAe hD hS hA (fun w1 h9 => h9) rfl hno hlocks (Nat.le_of_ble_eq_true rfl) (Nat.le_of_ble_eq_true rfl)
set_option maxHeartbeats 4000000 in
set_option maxRecDepth 100000 in
theorem c_X7_inverse_0 (l : Launch) (hfl : l.stackTraces = false) (D : va_G) (y : Nat → ClassId) (ad : Nat → Nat) (sz : Nat) (h : Nat) (q : Nat → Nat) (n : Nat) (b1 : Bool) (l1 r1 : Int64) (b2 : Bool) (l2 r2 : Int64) (b3 : Bool) (l3 r3 : Int64) (uz : Nat → Bool) (ul uh : Nat → Int64) (f1 g1 f2 g2 : Int64) (pa : Nat → Nat → Nat) (kd : Nat → Nat) (on ot : Nat → Int32) (pt : Nat → Int64) (fb : Nat → Nat → Bool) (fl fh : Nat → Nat → Int64) (tb : Nat → Nat → Bool) (tl th : Nat → Nat → Int64) (dg : Nat → Int32) (ds : Nat → Int64) (k : Nat) (hn4 : n < 40) (hk : k < n) : Met l yX7_inverse wsX7_inverse ({ frames := 8, cells := 9, slots := 164, locals := 249 } : Room) (gPX D y ad [.ref h, .int (nI k)] (wXp y ad h q n b1 l1 r1 b2 l2 r2 b3 l3 r3 uz ul uh f1 g1 f2 g2 pa kd on ot pt fb fl fh tb tl th dg ds) sz) (gQn D (wXp y ad h q n b1 l1 r1 b2 l2 r2 b3 l3 r3 uz ul uh f1 g1 f2 g2 pa kd on ot pt fb fl fh tb tl th dg ds) (fun v w => ∃ (yb1 : Bool) (yl1 : Int64) (yr1 : Int64) (yb2 : Bool) (yl2 : Int64) (yr2 : Int64) (yb3 : Bool) (yl3 : Int64) (yr3 : Int64) (yuz : Nat → Bool) (yul : Nat → Int64) (yuh : Nat → Int64) (yf1 : Int64) (yg1 : Int64) (yf2 : Int64) (yg2 : Int64) (nan : Nat → Nat) (fbn : Nat → Bool) (fln : Nat → Int64) (fhn : Nat → Int64) (tbn : Nat → Bool) (tln : Nat → Int64) (thn : Nat → Int64), v = some (.int (nI n)) ∧ w = (wXp y ad h q (n + 1) yb1 yl1 yr1 yb2 yl2 yr2 yb3 yl3 yr3 yuz yul yuh yf1 yg1 yf2 yg2 (pst pa n nan) (pst kd n 5) (pst on n (nI k)) (pst ot n (nI k)) (pst pt n ((pt k ||| pt k) ||| jshl 1 (nI n))) (pst fb n fbn) (pst fl n fln) (pst fh n fhn) (pst tb n tbn) (pst tl n tln) (pst th n thn) (pst dg n 0) (pst ds n 0)) ∧ (∀ i9, i9 < 25 → (fbn i9, fln i9, fhn i9) = mkX fb fl fh 5 k k i9) ∧ (∀ i9, i9 < 25 → (tbn i9, tln i9, thn i9) = nwA fbn fln fhn (i9 + 1)))) 9 164 (va_A (wXp y ad h q n b1 l1 r1 b2 l2 r2 b3 l3 r3 uz ul uh f1 g1 f2 g2 pa kd on ot pt fb fl fh tb tl th dg ds) sz) := by
  refine Met.ofW (cc := cX7_inverse) (maxL := 2) (ret := (some .int)) (by decide) rfl ?_
  intro pg e s m args below meth c s₁ B hml hv
  obtain ⟨rfl, hsz, hP, hK, hD0, hE0⟩ := hv
  have hx := B.exec
  have hb := B.bytes
  have hr := B.returns
  have hts := atoms_spec (ws := wsX7_inverse) B.pre
  have hown : s.vm.findClass RX7 = some m.cls := findClass_of_methodNamed B.named
  have hlocks := B.notSynchronized
  subst hsz
  obtain ⟨A, hAe⟩ : ∃ A : Nat → Prop, A = va_A (wXp y ad h q n b1 l1 r1 b2 l2 r2 b3 l3 r3 uz ul uh f1 g1 f2 g2 pa kd on ot pt fb fl fh tb tl th dg ds) s.heap.size := ⟨_, rfl⟩
  have hE : gE ad A s s.heap := by rw [hAe]; exact hE0
  have hD : va_D A (wXp y ad h q n b1 l1 r1 b2 l2 r2 b3 l3 r3 uz ul uh f1 g1 f2 g2 pa kd on ot pt fb fl fh tb tl th dg ds) := by rw [hAe]; exact hD0.self (sz := s.heap.size)
  have hA : ∀ q : Nat, s.heap.size ≤ q → A q := fun q h => by rw [hAe]; exact Or.inr h
  have hS : va_S A s.heap s.heap [] := va_S.rf
  have hl := lv_entry ([.ref h, .int (nI k)]) (n := 2) (Nat.le_of_ble_eq_true rfl)
  rw [lg_entry_eq]
  generalize (lg_sl ([.ref h, .int (nI k)]) ++ List.replicate (2 - (lg_sl ([.ref h, .int (nI k)])).length) Slot.unset).toArray = ls at hl ⊢
  have hl : lv_has ls 2 [(0, .ref h), (1, .int (nI k))] := hl
  refine lv_aload_n hx hb dX7_inverse_0 rfl (lv_at hl 0 rfl) ?_
  refine va_gets hx hb ((hE.2.2.2.2.2 5 (by decide)).1) hS hown (hts (.fieldLink RX7 116 "Nestlimit$Kind" "INVERSE" "LNestlimit$Kind;") (List.mem_of_getElem? (i := 1) rfl)) (fun _ h9 => h9) dX7_inverse_1 ?_
  refine lv_iload_n hx hb dX7_inverse_4 rfl (lv_at hl 1 rfl) ?_
  refine lv_iload_n hx hb dX7_inverse_5 rfl (lv_at hl 1 rfl) ?_
  refine g_callN (ws := []) (wc := wXp y ad h q n b1 l1 r1 b2 l2 r2 b3 l3 r3 uz ul uh f1 g1 f2 g2 pa kd on ot pt fb fl fh tb tl th dg ds) (va_runV (As := [.ref (ad 5), .int (nI k), .int (nI k)]) (rest := []) ⟨hx, hb, hml, hown, hts⟩ (c_X7_make_0 l hfl D y ad s.heap.size h q n b1 l1 r1 b2 l2 r2 b3 l3 r3 uz ul uh f1 g1 f2 g2 pa kd on ot pt fb fl fh tb tl th dg ds k k 5 hn4 hk hk (by decide) (by decide)) (cwV 3 hts gX7_inverse_X7_make rfl rfl rfl (by decide +kernel) ⟨Nat.le_of_ble_eq_true rfl, Nat.le_of_ble_eq_true rfl⟩) (gPX_VA hP hD hK hE hS hA 0 rfl rfl) rfl rfl hl.1 rfl (lv_room (Nat.le_of_ble_eq_true rfl)) dX7_inverse_6 ⟨Nat.le_of_ble_eq_true rfl, Nat.le_of_ble_eq_true rfl⟩) hP hD hS hA (fun v w1 H locs hf hP hD hS => ?_)
  obtain ⟨yb1_6, yl1_6, yr1_6, yb2_6, yl2_6, yr2_6, yb3_6, yl3_6, yr3_6, yuz_6, yul_6, yuh_6, yf1_6, yg1_6, yf2_6, yg2_6, nan_6, fbn_6, fln_6, fhn_6, tbn_6, tln_6, thn_6, rfl, rfl, h6_0, h6_1⟩ := hf
  have hP9 := hP
  have hD9 := hD
  exact W.iret (v := nI n) hx hb hr (fun t ht hW => ⟨⟨some (.int (nI n)), wXp y ad h q (n + 1) yb1_6 yl1_6 yr1_6 yb2_6 yl2_6 yr2_6 yb3_6 yl3_6 yr3_6 yuz_6 yul_6 yuh_6 yf1_6 yg1_6 yf2_6 yg2_6 (pst pa n nan_6) (pst kd n 5) (pst on n (nI k)) (pst ot n (nI k)) (pst pt n ((pt k ||| pt k) ||| jshl 1 (nI n))) (pst fb n fbn_6) (pst fl n fln_6) (pst fh n fhn_6) (pst tb n tbn_6) (pst tl n tln_6) (pst th n thn_6) (pst dg n 0) (pst ds n 0), rfl, ⟨yb1_6, yl1_6, yr1_6, yb2_6, yl2_6, yr2_6, yb3_6, yl3_6, yr3_6, yuz_6, yul_6, yuh_6, yf1_6, yg1_6, yf2_6, yg2_6, nan_6, fbn_6, fln_6, fhn_6, tbn_6, tln_6, thn_6, rfl, rfl, h6_0, h6_1⟩, by rw [← hAe]; exact hD9, by rw [ht]; exact hP9⟩, by rw [← hAe]; exact hS.F ht⟩) (by rw [← hAe]; exact hS.2.2) dX7_inverse_9
set_option maxHeartbeats 4000000 in
set_option maxRecDepth 100000 in
theorem c_X7_root_X1a (l : Launch) (hfl : l.stackTraces = false) (D : va_G) (y : Nat → ClassId) (ad : Nat → Nat) (sz : Nat) (h : Nat) (q : Nat → Nat) (n : Nat) (b1 : Bool) (l1 r1 : Int64) (b2 : Bool) (l2 r2 : Int64) (b3 : Bool) (l3 r3 : Int64) (uz : Nat → Bool) (ul uh : Nat → Int64) (f1 g1 f2 g2 : Int64) (pa : Nat → Nat → Nat) (kd : Nat → Nat) (on ot : Nat → Int32) (pt : Nat → Int64) (fb : Nat → Nat → Bool) (fl fh : Nat → Nat → Int64) (tb : Nat → Nat → Bool) (tl th : Nat → Nat → Int64) (dg : Nat → Int32) (ds : Nat → Int64) (a : Int32) (hbad : a < 0 ∨ nI n ≤ a) : vx_Met l yX7_root wsX7_root ({ frames := 8, cells := 1, slots := 6, locals := 141 } : Room) (gPX D y ad [.ref h, .int a] (wXp y ad h q n b1 l1 r1 b2 l2 r2 b3 l3 r3 uz ul uh f1 g1 f2 g2 pa kd on ot pt fb fl fh tb tl th dg ds) sz) gNo (gXC D (wXp y ad h q n b1 l1 r1 b2 l2 r2 b3 l3 r3 uz ul uh f1 g1 f2 g2 pa kd on ot pt fb fl fh tb tl th dg ds) gIOB (fun w => w = wXp y ad h q n b1 l1 r1 b2 l2 r2 b3 l3 r3 uz ul uh f1 g1 f2 g2 pa kd on ot pt fb fl fh tb tl th dg ds)) 1 6 (va_A (wXp y ad h q n b1 l1 r1 b2 l2 r2 b3 l3 r3 uz ul uh f1 g1 f2 g2 pa kd on ot pt fb fl fh tb tl th dg ds) sz) := by
  refine vx_ofW (cc := cX7_root) (maxL := 2) (ret := (some .int)) (by decide) rfl ?_
  intro pg e s m args below meth c s₁ B hml hno hv
  obtain ⟨rfl, hsz, hP, hK, hD0, hE0⟩ := hv
  have hx := B.exec
  have hb := B.bytes
  have hr := B.returns
  have hts := atoms_spec (ws := wsX7_root) B.pre
  have hown : s.vm.findClass RX7 = some m.cls := findClass_of_methodNamed B.named
  have hlocks := B.notSynchronized
  subst hsz
  obtain ⟨A, hAe⟩ : ∃ A : Nat → Prop, A = va_A (wXp y ad h q n b1 l1 r1 b2 l2 r2 b3 l3 r3 uz ul uh f1 g1 f2 g2 pa kd on ot pt fb fl fh tb tl th dg ds) s.heap.size := ⟨_, rfl⟩
  have hE : gE ad A s s.heap := by rw [hAe]; exact hE0
  have hD : va_D A (wXp y ad h q n b1 l1 r1 b2 l2 r2 b3 l3 r3 uz ul uh f1 g1 f2 g2 pa kd on ot pt fb fl fh tb tl th dg ds) := by rw [hAe]; exact hD0.self (sz := s.heap.size)
  have hA : ∀ q : Nat, s.heap.size ≤ q → A q := fun q h => by rw [hAe]; exact Or.inr h
  have hS : va_S A s.heap s.heap [] := va_S.rf
  have hl := lv_entry ([.ref h, .int a]) (n := 2) (Nat.le_of_ble_eq_true rfl)
  rw [lg_entry_eq]
  generalize (lg_sl ([.ref h, .int a]) ++ List.replicate (2 - (lg_sl ([.ref h, .int a])).length) Slot.unset).toArray = ls at hl ⊢
  have hl : lv_has ls 2 [(0, .ref h), (1, .int a)] := hl
  refine lv_aload_n hx hb dX7_root_0 rfl (lv_at hl 0 rfl) ?_
  refine va_gets hx hb ((hE.2.2.2.2.2 6 (by decide)).1) hS hown (hts (.fieldLink RX7 119 "Nestlimit$Kind" "ROOT" "LNestlimit$Kind;") (List.mem_of_getElem? (i := 1) rfl)) (fun _ h9 => h9) dX7_root_1 ?_
  refine lv_iload_n hx hb dX7_root_4 rfl (lv_at hl 1 rfl) ?_
  refine lv_iload_n hx hb dX7_root_5 rfl (lv_at hl 1 rfl) ?_
  exact g_outX (vx_runV (As := [.ref (ad 6), .int a, .int a]) (rest := []) ⟨hx, hb, hml, hown, hts⟩ (c_X7_make_X1a l hfl D y ad s.heap.size h q n b1 l1 r1 b2 l2 r2 b3 l3 r3 uz ul uh f1 g1 f2 g2 pa kd on ot pt fb fl fh tb tl th dg ds (ad 6) a a hbad) (cwV 3 hts gX7_root_X7_make rfl rfl rfl (by decide +kernel) ⟨Nat.le_of_ble_eq_true rfl, Nat.le_of_ble_eq_true rfl⟩) (gPX_VA hP hD hK hE hS hA 0 rfl rfl) rfl rfl hl.1 rfl (lv_room (Nat.le_of_ble_eq_true rfl)) dX7_root_6 ⟨Nat.le_of_ble_eq_true rfl, Nat.le_of_ble_eq_true rfl⟩) hAe hD hS hA (fun w1 h9 => h9) rfl hno hlocks (Nat.le_of_ble_eq_true rfl) (Nat.le_of_ble_eq_true rfl)
set_option maxHeartbeats 4000000 in
set_option maxRecDepth 100000 in
theorem c_X7_root_X2 (l : Launch) (hfl : l.stackTraces = false) (D : va_G) (y : Nat → ClassId) (ad : Nat → Nat) (sz : Nat) (h : Nat) (q : Nat → Nat) (n : Nat) (b1 : Bool) (l1 r1 : Int64) (b2 : Bool) (l2 r2 : Int64) (b3 : Bool) (l3 r3 : Int64) (uz : Nat → Bool) (ul uh : Nat → Int64) (f1 g1 f2 g2 : Int64) (pa : Nat → Nat → Nat) (kd : Nat → Nat) (on ot : Nat → Int32) (pt : Nat → Int64) (fb : Nat → Nat → Bool) (fl fh : Nat → Nat → Int64) (tb : Nat → Nat → Bool) (tl th : Nat → Nat → Int64) (dg : Nat → Int32) (ds : Nat → Int64) (k : Nat) (hn : n ≤ 40) (hk : k < n) (hn2 : ¬ n < 40) : vx_Met l yX7_root wsX7_root ({ frames := 8, cells := 1, slots := 6, locals := 139 } : Room) (gPX D y ad [.ref h, .int (nI k)] (wXp y ad h q n b1 l1 r1 b2 l2 r2 b3 l3 r3 uz ul uh f1 g1 f2 g2 pa kd on ot pt fb fl fh tb tl th dg ds) sz) gNo (gXC D (wXp y ad h q n b1 l1 r1 b2 l2 r2 b3 l3 r3 uz ul uh f1 g1 f2 g2 pa kd on ot pt fb fl fh tb tl th dg ds) gISE (fun w => w = wXp y ad h q n b1 l1 r1 b2 l2 r2 b3 l3 r3 uz ul uh f1 g1 f2 g2 pa kd on ot pt fb fl fh tb tl th dg ds)) 1 6 (va_A (wXp y ad h q n b1 l1 r1 b2 l2 r2 b3 l3 r3 uz ul uh f1 g1 f2 g2 pa kd on ot pt fb fl fh tb tl th dg ds) sz) := by
  refine vx_ofW (cc := cX7_root) (maxL := 2) (ret := (some .int)) (by decide) rfl ?_
  intro pg e s m args below meth c s₁ B hml hno hv
  obtain ⟨rfl, hsz, hP, hK, hD0, hE0⟩ := hv
  have hx := B.exec
  have hb := B.bytes
  have hr := B.returns
  have hts := atoms_spec (ws := wsX7_root) B.pre
  have hown : s.vm.findClass RX7 = some m.cls := findClass_of_methodNamed B.named
  have hlocks := B.notSynchronized
  subst hsz
  obtain ⟨A, hAe⟩ : ∃ A : Nat → Prop, A = va_A (wXp y ad h q n b1 l1 r1 b2 l2 r2 b3 l3 r3 uz ul uh f1 g1 f2 g2 pa kd on ot pt fb fl fh tb tl th dg ds) s.heap.size := ⟨_, rfl⟩
  have hE : gE ad A s s.heap := by rw [hAe]; exact hE0
  have hD : va_D A (wXp y ad h q n b1 l1 r1 b2 l2 r2 b3 l3 r3 uz ul uh f1 g1 f2 g2 pa kd on ot pt fb fl fh tb tl th dg ds) := by rw [hAe]; exact hD0.self (sz := s.heap.size)
  have hA : ∀ q : Nat, s.heap.size ≤ q → A q := fun q h => by rw [hAe]; exact Or.inr h
  have hS : va_S A s.heap s.heap [] := va_S.rf
  have hl := lv_entry ([.ref h, .int (nI k)]) (n := 2) (Nat.le_of_ble_eq_true rfl)
  rw [lg_entry_eq]
  generalize (lg_sl ([.ref h, .int (nI k)]) ++ List.replicate (2 - (lg_sl ([.ref h, .int (nI k)])).length) Slot.unset).toArray = ls at hl ⊢
  have hl : lv_has ls 2 [(0, .ref h), (1, .int (nI k))] := hl
  refine lv_aload_n hx hb dX7_root_0 rfl (lv_at hl 0 rfl) ?_
  refine va_gets hx hb ((hE.2.2.2.2.2 6 (by decide)).1) hS hown (hts (.fieldLink RX7 119 "Nestlimit$Kind" "ROOT" "LNestlimit$Kind;") (List.mem_of_getElem? (i := 1) rfl)) (fun _ h9 => h9) dX7_root_1 ?_
  refine lv_iload_n hx hb dX7_root_4 rfl (lv_at hl 1 rfl) ?_
  refine lv_iload_n hx hb dX7_root_5 rfl (lv_at hl 1 rfl) ?_
  exact g_outX (vx_runV (As := [.ref (ad 6), .int (nI k), .int (nI k)]) (rest := []) ⟨hx, hb, hml, hown, hts⟩ (c_X7_make_X2 l hfl D y ad s.heap.size h q n b1 l1 r1 b2 l2 r2 b3 l3 r3 uz ul uh f1 g1 f2 g2 pa kd on ot pt fb fl fh tb tl th dg ds (ad 6) k k hn hk hk hn2) (cwV 3 hts gX7_root_X7_make rfl rfl rfl (by decide +kernel) ⟨Nat.le_of_ble_eq_true rfl, Nat.le_of_ble_eq_true rfl⟩) (gPX_VA hP hD hK hE hS hA 0 rfl rfl) rfl rfl hl.1 rfl (lv_room (Nat.le_of_ble_eq_true rfl)) dX7_root_6 ⟨Nat.le_of_ble_eq_true rfl, Nat.le_of_ble_eq_true rfl⟩) hAe hD hS hA (fun w1 h9 => h9) rfl hno hlocks (Nat.le_of_ble_eq_true rfl) (Nat.le_of_ble_eq_true rfl)
set_option maxHeartbeats 4000000 in
set_option maxRecDepth 100000 in
theorem c_X7_root_0 (l : Launch) (hfl : l.stackTraces = false) (D : va_G) (y : Nat → ClassId) (ad : Nat → Nat) (sz : Nat) (h : Nat) (q : Nat → Nat) (n : Nat) (b1 : Bool) (l1 r1 : Int64) (b2 : Bool) (l2 r2 : Int64) (b3 : Bool) (l3 r3 : Int64) (uz : Nat → Bool) (ul uh : Nat → Int64) (f1 g1 f2 g2 : Int64) (pa : Nat → Nat → Nat) (kd : Nat → Nat) (on ot : Nat → Int32) (pt : Nat → Int64) (fb : Nat → Nat → Bool) (fl fh : Nat → Nat → Int64) (tb : Nat → Nat → Bool) (tl th : Nat → Nat → Int64) (dg : Nat → Int32) (ds : Nat → Int64) (k : Nat) (hn4 : n < 40) (hk : k < n) : Met l yX7_root wsX7_root ({ frames := 8, cells := 9, slots := 164, locals := 249 } : Room) (gPX D y ad [.ref h, .int (nI k)] (wXp y ad h q n b1 l1 r1 b2 l2 r2 b3 l3 r3 uz ul uh f1 g1 f2 g2 pa kd on ot pt fb fl fh tb tl th dg ds) sz) (gQn D (wXp y ad h q n b1 l1 r1 b2 l2 r2 b3 l3 r3 uz ul uh f1 g1 f2 g2 pa kd on ot pt fb fl fh tb tl th dg ds) (fun v w => ∃ (yb1 : Bool) (yl1 : Int64) (yr1 : Int64) (yb2 : Bool) (yl2 : Int64) (yr2 : Int64) (yb3 : Bool) (yl3 : Int64) (yr3 : Int64) (yuz : Nat → Bool) (yul : Nat → Int64) (yuh : Nat → Int64) (yf1 : Int64) (yg1 : Int64) (yf2 : Int64) (yg2 : Int64) (nan : Nat → Nat) (fbn : Nat → Bool) (fln : Nat → Int64) (fhn : Nat → Int64) (tbn : Nat → Bool) (tln : Nat → Int64) (thn : Nat → Int64), v = some (.int (nI n)) ∧ w = (wXp y ad h q (n + 1) yb1 yl1 yr1 yb2 yl2 yr2 yb3 yl3 yr3 yuz yul yuh yf1 yg1 yf2 yg2 (pst pa n nan) (pst kd n 6) (pst on n (nI k)) (pst ot n (nI k)) (pst pt n ((pt k ||| pt k) ||| jshl 1 (nI n))) (pst fb n fbn) (pst fl n fln) (pst fh n fhn) (pst tb n tbn) (pst tl n tln) (pst th n thn) (pst dg n 0) (pst ds n 0)) ∧ (∀ i9, i9 < 25 → (fbn i9, fln i9, fhn i9) = mkX fb fl fh 6 k k i9) ∧ (∀ i9, i9 < 25 → (tbn i9, tln i9, thn i9) = nwA fbn fln fhn (i9 + 1)))) 9 164 (va_A (wXp y ad h q n b1 l1 r1 b2 l2 r2 b3 l3 r3 uz ul uh f1 g1 f2 g2 pa kd on ot pt fb fl fh tb tl th dg ds) sz) := by
  refine Met.ofW (cc := cX7_root) (maxL := 2) (ret := (some .int)) (by decide) rfl ?_
  intro pg e s m args below meth c s₁ B hml hv
  obtain ⟨rfl, hsz, hP, hK, hD0, hE0⟩ := hv
  have hx := B.exec
  have hb := B.bytes
  have hr := B.returns
  have hts := atoms_spec (ws := wsX7_root) B.pre
  have hown : s.vm.findClass RX7 = some m.cls := findClass_of_methodNamed B.named
  have hlocks := B.notSynchronized
  subst hsz
  obtain ⟨A, hAe⟩ : ∃ A : Nat → Prop, A = va_A (wXp y ad h q n b1 l1 r1 b2 l2 r2 b3 l3 r3 uz ul uh f1 g1 f2 g2 pa kd on ot pt fb fl fh tb tl th dg ds) s.heap.size := ⟨_, rfl⟩
  have hE : gE ad A s s.heap := by rw [hAe]; exact hE0
  have hD : va_D A (wXp y ad h q n b1 l1 r1 b2 l2 r2 b3 l3 r3 uz ul uh f1 g1 f2 g2 pa kd on ot pt fb fl fh tb tl th dg ds) := by rw [hAe]; exact hD0.self (sz := s.heap.size)
  have hA : ∀ q : Nat, s.heap.size ≤ q → A q := fun q h => by rw [hAe]; exact Or.inr h
  have hS : va_S A s.heap s.heap [] := va_S.rf
  have hl := lv_entry ([.ref h, .int (nI k)]) (n := 2) (Nat.le_of_ble_eq_true rfl)
  rw [lg_entry_eq]
  generalize (lg_sl ([.ref h, .int (nI k)]) ++ List.replicate (2 - (lg_sl ([.ref h, .int (nI k)])).length) Slot.unset).toArray = ls at hl ⊢
  have hl : lv_has ls 2 [(0, .ref h), (1, .int (nI k))] := hl
  refine lv_aload_n hx hb dX7_root_0 rfl (lv_at hl 0 rfl) ?_
  refine va_gets hx hb ((hE.2.2.2.2.2 6 (by decide)).1) hS hown (hts (.fieldLink RX7 119 "Nestlimit$Kind" "ROOT" "LNestlimit$Kind;") (List.mem_of_getElem? (i := 1) rfl)) (fun _ h9 => h9) dX7_root_1 ?_
  refine lv_iload_n hx hb dX7_root_4 rfl (lv_at hl 1 rfl) ?_
  refine lv_iload_n hx hb dX7_root_5 rfl (lv_at hl 1 rfl) ?_
  refine g_callN (ws := []) (wc := wXp y ad h q n b1 l1 r1 b2 l2 r2 b3 l3 r3 uz ul uh f1 g1 f2 g2 pa kd on ot pt fb fl fh tb tl th dg ds) (va_runV (As := [.ref (ad 6), .int (nI k), .int (nI k)]) (rest := []) ⟨hx, hb, hml, hown, hts⟩ (c_X7_make_0 l hfl D y ad s.heap.size h q n b1 l1 r1 b2 l2 r2 b3 l3 r3 uz ul uh f1 g1 f2 g2 pa kd on ot pt fb fl fh tb tl th dg ds k k 6 hn4 hk hk (by decide) (by decide)) (cwV 3 hts gX7_root_X7_make rfl rfl rfl (by decide +kernel) ⟨Nat.le_of_ble_eq_true rfl, Nat.le_of_ble_eq_true rfl⟩) (gPX_VA hP hD hK hE hS hA 0 rfl rfl) rfl rfl hl.1 rfl (lv_room (Nat.le_of_ble_eq_true rfl)) dX7_root_6 ⟨Nat.le_of_ble_eq_true rfl, Nat.le_of_ble_eq_true rfl⟩) hP hD hS hA (fun v w1 H locs hf hP hD hS => ?_)
  obtain ⟨yb1_6, yl1_6, yr1_6, yb2_6, yl2_6, yr2_6, yb3_6, yl3_6, yr3_6, yuz_6, yul_6, yuh_6, yf1_6, yg1_6, yf2_6, yg2_6, nan_6, fbn_6, fln_6, fhn_6, tbn_6, tln_6, thn_6, rfl, rfl, h6_0, h6_1⟩ := hf
  have hP9 := hP
  have hD9 := hD
  exact W.iret (v := nI n) hx hb hr (fun t ht hW => ⟨⟨some (.int (nI n)), wXp y ad h q (n + 1) yb1_6 yl1_6 yr1_6 yb2_6 yl2_6 yr2_6 yb3_6 yl3_6 yr3_6 yuz_6 yul_6 yuh_6 yf1_6 yg1_6 yf2_6 yg2_6 (pst pa n nan_6) (pst kd n 6) (pst on n (nI k)) (pst ot n (nI k)) (pst pt n ((pt k ||| pt k) ||| jshl 1 (nI n))) (pst fb n fbn_6) (pst fl n fln_6) (pst fh n fhn_6) (pst tb n tbn_6) (pst tl n tln_6) (pst th n thn_6) (pst dg n 0) (pst ds n 0), rfl, ⟨yb1_6, yl1_6, yr1_6, yb2_6, yl2_6, yr2_6, yb3_6, yl3_6, yr3_6, yuz_6, yul_6, yuh_6, yf1_6, yg1_6, yf2_6, yg2_6, nan_6, fbn_6, fln_6, fhn_6, tbn_6, tln_6, thn_6, rfl, rfl, h6_0, h6_1⟩, by rw [← hAe]; exact hD9, by rw [ht]; exact hP9⟩, by rw [← hAe]; exact hS.F ht⟩) (by rw [← hAe]; exact hS.2.2) dX7_root_9
set_option maxHeartbeats 4000000 in
set_option maxRecDepth 100000 in
theorem c_X7_exp_X1a (l : Launch) (hfl : l.stackTraces = false) (D : va_G) (y : Nat → ClassId) (ad : Nat → Nat) (sz : Nat) (h : Nat) (q : Nat → Nat) (n : Nat) (b1 : Bool) (l1 r1 : Int64) (b2 : Bool) (l2 r2 : Int64) (b3 : Bool) (l3 r3 : Int64) (uz : Nat → Bool) (ul uh : Nat → Int64) (f1 g1 f2 g2 : Int64) (pa : Nat → Nat → Nat) (kd : Nat → Nat) (on ot : Nat → Int32) (pt : Nat → Int64) (fb : Nat → Nat → Bool) (fl fh : Nat → Nat → Int64) (tb : Nat → Nat → Bool) (tl th : Nat → Nat → Int64) (dg : Nat → Int32) (ds : Nat → Int64) (a : Int32) (hbad : a < 0 ∨ nI n ≤ a) : vx_Met l yX7_exp wsX7_exp ({ frames := 8, cells := 1, slots := 6, locals := 141 } : Room) (gPX D y ad [.ref h, .int a] (wXp y ad h q n b1 l1 r1 b2 l2 r2 b3 l3 r3 uz ul uh f1 g1 f2 g2 pa kd on ot pt fb fl fh tb tl th dg ds) sz) gNo (gXC D (wXp y ad h q n b1 l1 r1 b2 l2 r2 b3 l3 r3 uz ul uh f1 g1 f2 g2 pa kd on ot pt fb fl fh tb tl th dg ds) gIOB (fun w => w = wXp y ad h q n b1 l1 r1 b2 l2 r2 b3 l3 r3 uz ul uh f1 g1 f2 g2 pa kd on ot pt fb fl fh tb tl th dg ds)) 1 6 (va_A (wXp y ad h q n b1 l1 r1 b2 l2 r2 b3 l3 r3 uz ul uh f1 g1 f2 g2 pa kd on ot pt fb fl fh tb tl th dg ds) sz) := by
  refine vx_ofW (cc := cX7_exp) (maxL := 2) (ret := (some .int)) (by decide) rfl ?_
  intro pg e s m args below meth c s₁ B hml hno hv
  obtain ⟨rfl, hsz, hP, hK, hD0, hE0⟩ := hv
  have hx := B.exec
  have hb := B.bytes
  have hr := B.returns
  have hts := atoms_spec (ws := wsX7_exp) B.pre
  have hown : s.vm.findClass RX7 = some m.cls := findClass_of_methodNamed B.named
  have hlocks := B.notSynchronized
  subst hsz
  obtain ⟨A, hAe⟩ : ∃ A : Nat → Prop, A = va_A (wXp y ad h q n b1 l1 r1 b2 l2 r2 b3 l3 r3 uz ul uh f1 g1 f2 g2 pa kd on ot pt fb fl fh tb tl th dg ds) s.heap.size := ⟨_, rfl⟩
  have hE : gE ad A s s.heap := by rw [hAe]; exact hE0
  have hD : va_D A (wXp y ad h q n b1 l1 r1 b2 l2 r2 b3 l3 r3 uz ul uh f1 g1 f2 g2 pa kd on ot pt fb fl fh tb tl th dg ds) := by rw [hAe]; exact hD0.self (sz := s.heap.size)
  have hA : ∀ q : Nat, s.heap.size ≤ q → A q := fun q h => by rw [hAe]; exact Or.inr h
  have hS : va_S A s.heap s.heap [] := va_S.rf
  have hl := lv_entry ([.ref h, .int a]) (n := 2) (Nat.le_of_ble_eq_true rfl)
  rw [lg_entry_eq]
  generalize (lg_sl ([.ref h, .int a]) ++ List.replicate (2 - (lg_sl ([.ref h, .int a])).length) Slot.unset).toArray = ls at hl ⊢
  have hl : lv_has ls 2 [(0, .ref h), (1, .int a)] := hl
  refine lv_aload_n hx hb dX7_exp_0 rfl (lv_at hl 0 rfl) ?_
  refine va_gets hx hb ((hE.2.2.2.2.2 7 (by decide)).1) hS hown (hts (.fieldLink RX7 122 "Nestlimit$Kind" "EXP" "LNestlimit$Kind;") (List.mem_of_getElem? (i := 1) rfl)) (fun _ h9 => h9) dX7_exp_1 ?_
  refine lv_iload_n hx hb dX7_exp_4 rfl (lv_at hl 1 rfl) ?_
  refine lv_iload_n hx hb dX7_exp_5 rfl (lv_at hl 1 rfl) ?_
  exact g_outX (vx_runV (As := [.ref (ad 7), .int a, .int a]) (rest := []) ⟨hx, hb, hml, hown, hts⟩ (c_X7_make_X1a l hfl D y ad s.heap.size h q n b1 l1 r1 b2 l2 r2 b3 l3 r3 uz ul uh f1 g1 f2 g2 pa kd on ot pt fb fl fh tb tl th dg ds (ad 7) a a hbad) (cwV 3 hts gX7_exp_X7_make rfl rfl rfl (by decide +kernel) ⟨Nat.le_of_ble_eq_true rfl, Nat.le_of_ble_eq_true rfl⟩) (gPX_VA hP hD hK hE hS hA 0 rfl rfl) rfl rfl hl.1 rfl (lv_room (Nat.le_of_ble_eq_true rfl)) dX7_exp_6 ⟨Nat.le_of_ble_eq_true rfl, Nat.le_of_ble_eq_true rfl⟩) hAe hD hS hA (fun w1 h9 => h9) rfl hno hlocks (Nat.le_of_ble_eq_true rfl) (Nat.le_of_ble_eq_true rfl)
set_option maxHeartbeats 4000000 in
set_option maxRecDepth 100000 in
theorem c_X7_exp_X2 (l : Launch) (hfl : l.stackTraces = false) (D : va_G) (y : Nat → ClassId) (ad : Nat → Nat) (sz : Nat) (h : Nat) (q : Nat → Nat) (n : Nat) (b1 : Bool) (l1 r1 : Int64) (b2 : Bool) (l2 r2 : Int64) (b3 : Bool) (l3 r3 : Int64) (uz : Nat → Bool) (ul uh : Nat → Int64) (f1 g1 f2 g2 : Int64) (pa : Nat → Nat → Nat) (kd : Nat → Nat) (on ot : Nat → Int32) (pt : Nat → Int64) (fb : Nat → Nat → Bool) (fl fh : Nat → Nat → Int64) (tb : Nat → Nat → Bool) (tl th : Nat → Nat → Int64) (dg : Nat → Int32) (ds : Nat → Int64) (k : Nat) (hn : n ≤ 40) (hk : k < n) (hn2 : ¬ n < 40) : vx_Met l yX7_exp wsX7_exp ({ frames := 8, cells := 1, slots := 6, locals := 139 } : Room) (gPX D y ad [.ref h, .int (nI k)] (wXp y ad h q n b1 l1 r1 b2 l2 r2 b3 l3 r3 uz ul uh f1 g1 f2 g2 pa kd on ot pt fb fl fh tb tl th dg ds) sz) gNo (gXC D (wXp y ad h q n b1 l1 r1 b2 l2 r2 b3 l3 r3 uz ul uh f1 g1 f2 g2 pa kd on ot pt fb fl fh tb tl th dg ds) gISE (fun w => w = wXp y ad h q n b1 l1 r1 b2 l2 r2 b3 l3 r3 uz ul uh f1 g1 f2 g2 pa kd on ot pt fb fl fh tb tl th dg ds)) 1 6 (va_A (wXp y ad h q n b1 l1 r1 b2 l2 r2 b3 l3 r3 uz ul uh f1 g1 f2 g2 pa kd on ot pt fb fl fh tb tl th dg ds) sz) := by
  refine vx_ofW (cc := cX7_exp) (maxL := 2) (ret := (some .int)) (by decide) rfl ?_
  intro pg e s m args below meth c s₁ B hml hno hv
  obtain ⟨rfl, hsz, hP, hK, hD0, hE0⟩ := hv
  have hx := B.exec
  have hb := B.bytes
  have hr := B.returns
  have hts := atoms_spec (ws := wsX7_exp) B.pre
  have hown : s.vm.findClass RX7 = some m.cls := findClass_of_methodNamed B.named
  have hlocks := B.notSynchronized
  subst hsz
  obtain ⟨A, hAe⟩ : ∃ A : Nat → Prop, A = va_A (wXp y ad h q n b1 l1 r1 b2 l2 r2 b3 l3 r3 uz ul uh f1 g1 f2 g2 pa kd on ot pt fb fl fh tb tl th dg ds) s.heap.size := ⟨_, rfl⟩
  have hE : gE ad A s s.heap := by rw [hAe]; exact hE0
  have hD : va_D A (wXp y ad h q n b1 l1 r1 b2 l2 r2 b3 l3 r3 uz ul uh f1 g1 f2 g2 pa kd on ot pt fb fl fh tb tl th dg ds) := by rw [hAe]; exact hD0.self (sz := s.heap.size)
  have hA : ∀ q : Nat, s.heap.size ≤ q → A q := fun q h => by rw [hAe]; exact Or.inr h
  have hS : va_S A s.heap s.heap [] := va_S.rf
  have hl := lv_entry ([.ref h, .int (nI k)]) (n := 2) (Nat.le_of_ble_eq_true rfl)
  rw [lg_entry_eq]
  generalize (lg_sl ([.ref h, .int (nI k)]) ++ List.replicate (2 - (lg_sl ([.ref h, .int (nI k)])).length) Slot.unset).toArray = ls at hl ⊢
  have hl : lv_has ls 2 [(0, .ref h), (1, .int (nI k))] := hl
  refine lv_aload_n hx hb dX7_exp_0 rfl (lv_at hl 0 rfl) ?_
  refine va_gets hx hb ((hE.2.2.2.2.2 7 (by decide)).1) hS hown (hts (.fieldLink RX7 122 "Nestlimit$Kind" "EXP" "LNestlimit$Kind;") (List.mem_of_getElem? (i := 1) rfl)) (fun _ h9 => h9) dX7_exp_1 ?_
  refine lv_iload_n hx hb dX7_exp_4 rfl (lv_at hl 1 rfl) ?_
  refine lv_iload_n hx hb dX7_exp_5 rfl (lv_at hl 1 rfl) ?_
  exact g_outX (vx_runV (As := [.ref (ad 7), .int (nI k), .int (nI k)]) (rest := []) ⟨hx, hb, hml, hown, hts⟩ (c_X7_make_X2 l hfl D y ad s.heap.size h q n b1 l1 r1 b2 l2 r2 b3 l3 r3 uz ul uh f1 g1 f2 g2 pa kd on ot pt fb fl fh tb tl th dg ds (ad 7) k k hn hk hk hn2) (cwV 3 hts gX7_exp_X7_make rfl rfl rfl (by decide +kernel) ⟨Nat.le_of_ble_eq_true rfl, Nat.le_of_ble_eq_true rfl⟩) (gPX_VA hP hD hK hE hS hA 0 rfl rfl) rfl rfl hl.1 rfl (lv_room (Nat.le_of_ble_eq_true rfl)) dX7_exp_6 ⟨Nat.le_of_ble_eq_true rfl, Nat.le_of_ble_eq_true rfl⟩) hAe hD hS hA (fun w1 h9 => h9) rfl hno hlocks (Nat.le_of_ble_eq_true rfl) (Nat.le_of_ble_eq_true rfl)
set_option maxHeartbeats 4000000 in
set_option maxRecDepth 100000 in
theorem c_X7_exp_0 (l : Launch) (hfl : l.stackTraces = false) (D : va_G) (y : Nat → ClassId) (ad : Nat → Nat) (sz : Nat) (h : Nat) (q : Nat → Nat) (n : Nat) (b1 : Bool) (l1 r1 : Int64) (b2 : Bool) (l2 r2 : Int64) (b3 : Bool) (l3 r3 : Int64) (uz : Nat → Bool) (ul uh : Nat → Int64) (f1 g1 f2 g2 : Int64) (pa : Nat → Nat → Nat) (kd : Nat → Nat) (on ot : Nat → Int32) (pt : Nat → Int64) (fb : Nat → Nat → Bool) (fl fh : Nat → Nat → Int64) (tb : Nat → Nat → Bool) (tl th : Nat → Nat → Int64) (dg : Nat → Int32) (ds : Nat → Int64) (k : Nat) (hn4 : n < 40) (hk : k < n) : Met l yX7_exp wsX7_exp ({ frames := 8, cells := 9, slots := 164, locals := 249 } : Room) (gPX D y ad [.ref h, .int (nI k)] (wXp y ad h q n b1 l1 r1 b2 l2 r2 b3 l3 r3 uz ul uh f1 g1 f2 g2 pa kd on ot pt fb fl fh tb tl th dg ds) sz) (gQn D (wXp y ad h q n b1 l1 r1 b2 l2 r2 b3 l3 r3 uz ul uh f1 g1 f2 g2 pa kd on ot pt fb fl fh tb tl th dg ds) (fun v w => ∃ (yb1 : Bool) (yl1 : Int64) (yr1 : Int64) (yb2 : Bool) (yl2 : Int64) (yr2 : Int64) (yb3 : Bool) (yl3 : Int64) (yr3 : Int64) (yuz : Nat → Bool) (yul : Nat → Int64) (yuh : Nat → Int64) (yf1 : Int64) (yg1 : Int64) (yf2 : Int64) (yg2 : Int64) (nan : Nat → Nat) (fbn : Nat → Bool) (fln : Nat → Int64) (fhn : Nat → Int64) (tbn : Nat → Bool) (tln : Nat → Int64) (thn : Nat → Int64), v = some (.int (nI n)) ∧ w = (wXp y ad h q (n + 1) yb1 yl1 yr1 yb2 yl2 yr2 yb3 yl3 yr3 yuz yul yuh yf1 yg1 yf2 yg2 (pst pa n nan) (pst kd n 7) (pst on n (nI k)) (pst ot n (nI k)) (pst pt n ((pt k ||| pt k) ||| jshl 1 (nI n))) (pst fb n fbn) (pst fl n fln) (pst fh n fhn) (pst tb n tbn) (pst tl n tln) (pst th n thn) (pst dg n 0) (pst ds n 0)) ∧ (∀ i9, i9 < 25 → (fbn i9, fln i9, fhn i9) = mkX fb fl fh 7 k k i9) ∧ (∀ i9, i9 < 25 → (tbn i9, tln i9, thn i9) = nwA fbn fln fhn (i9 + 1)))) 9 164 (va_A (wXp y ad h q n b1 l1 r1 b2 l2 r2 b3 l3 r3 uz ul uh f1 g1 f2 g2 pa kd on ot pt fb fl fh tb tl th dg ds) sz) := by
  refine Met.ofW (cc := cX7_exp) (maxL := 2) (ret := (some .int)) (by decide) rfl ?_
  intro pg e s m args below meth c s₁ B hml hv
  obtain ⟨rfl, hsz, hP, hK, hD0, hE0⟩ := hv
  have hx := B.exec
  have hb := B.bytes
  have hr := B.returns
  have hts := atoms_spec (ws := wsX7_exp) B.pre
  have hown : s.vm.findClass RX7 = some m.cls := findClass_of_methodNamed B.named
  have hlocks := B.notSynchronized
  subst hsz
  obtain ⟨A, hAe⟩ : ∃ A : Nat → Prop, A = va_A (wXp y ad h q n b1 l1 r1 b2 l2 r2 b3 l3 r3 uz ul uh f1 g1 f2 g2 pa kd on ot pt fb fl fh tb tl th dg ds) s.heap.size := ⟨_, rfl⟩
  have hE : gE ad A s s.heap := by rw [hAe]; exact hE0
  have hD : va_D A (wXp y ad h q n b1 l1 r1 b2 l2 r2 b3 l3 r3 uz ul uh f1 g1 f2 g2 pa kd on ot pt fb fl fh tb tl th dg ds) := by rw [hAe]; exact hD0.self (sz := s.heap.size)
  have hA : ∀ q : Nat, s.heap.size ≤ q → A q := fun q h => by rw [hAe]; exact Or.inr h
  have hS : va_S A s.heap s.heap [] := va_S.rf
  have hl := lv_entry ([.ref h, .int (nI k)]) (n := 2) (Nat.le_of_ble_eq_true rfl)
  rw [lg_entry_eq]
  generalize (lg_sl ([.ref h, .int (nI k)]) ++ List.replicate (2 - (lg_sl ([.ref h, .int (nI k)])).length) Slot.unset).toArray = ls at hl ⊢
  have hl : lv_has ls 2 [(0, .ref h), (1, .int (nI k))] := hl
  refine lv_aload_n hx hb dX7_exp_0 rfl (lv_at hl 0 rfl) ?_
  refine va_gets hx hb ((hE.2.2.2.2.2 7 (by decide)).1) hS hown (hts (.fieldLink RX7 122 "Nestlimit$Kind" "EXP" "LNestlimit$Kind;") (List.mem_of_getElem? (i := 1) rfl)) (fun _ h9 => h9) dX7_exp_1 ?_
  refine lv_iload_n hx hb dX7_exp_4 rfl (lv_at hl 1 rfl) ?_
  refine lv_iload_n hx hb dX7_exp_5 rfl (lv_at hl 1 rfl) ?_
  refine g_callN (ws := []) (wc := wXp y ad h q n b1 l1 r1 b2 l2 r2 b3 l3 r3 uz ul uh f1 g1 f2 g2 pa kd on ot pt fb fl fh tb tl th dg ds) (va_runV (As := [.ref (ad 7), .int (nI k), .int (nI k)]) (rest := []) ⟨hx, hb, hml, hown, hts⟩ (c_X7_make_0 l hfl D y ad s.heap.size h q n b1 l1 r1 b2 l2 r2 b3 l3 r3 uz ul uh f1 g1 f2 g2 pa kd on ot pt fb fl fh tb tl th dg ds k k 7 hn4 hk hk (by decide) (by decide)) (cwV 3 hts gX7_exp_X7_make rfl rfl rfl (by decide +kernel) ⟨Nat.le_of_ble_eq_true rfl, Nat.le_of_ble_eq_true rfl⟩) (gPX_VA hP hD hK hE hS hA 0 rfl rfl) rfl rfl hl.1 rfl (lv_room (Nat.le_of_ble_eq_true rfl)) dX7_exp_6 ⟨Nat.le_of_ble_eq_true rfl, Nat.le_of_ble_eq_true rfl⟩) hP hD hS hA (fun v w1 H locs hf hP hD hS => ?_)
  obtain ⟨yb1_6, yl1_6, yr1_6, yb2_6, yl2_6, yr2_6, yb3_6, yl3_6, yr3_6, yuz_6, yul_6, yuh_6, yf1_6, yg1_6, yf2_6, yg2_6, nan_6, fbn_6, fln_6, fhn_6, tbn_6, tln_6, thn_6, rfl, rfl, h6_0, h6_1⟩ := hf
  have hP9 := hP
  have hD9 := hD
  exact W.iret (v := nI n) hx hb hr (fun t ht hW => ⟨⟨some (.int (nI n)), wXp y ad h q (n + 1) yb1_6 yl1_6 yr1_6 yb2_6 yl2_6 yr2_6 yb3_6 yl3_6 yr3_6 yuz_6 yul_6 yuh_6 yf1_6 yg1_6 yf2_6 yg2_6 (pst pa n nan_6) (pst kd n 7) (pst on n (nI k)) (pst ot n (nI k)) (pst pt n ((pt k ||| pt k) ||| jshl 1 (nI n))) (pst fb n fbn_6) (pst fl n fln_6) (pst fh n fhn_6) (pst tb n tbn_6) (pst tl n tln_6) (pst th n thn_6) (pst dg n 0) (pst ds n 0), rfl, ⟨yb1_6, yl1_6, yr1_6, yb2_6, yl2_6, yr2_6, yb3_6, yl3_6, yr3_6, yuz_6, yul_6, yuh_6, yf1_6, yg1_6, yf2_6, yg2_6, nan_6, fbn_6, fln_6, fhn_6, tbn_6, tln_6, thn_6, rfl, rfl, h6_0, h6_1⟩, by rw [← hAe]; exact hD9, by rw [ht]; exact hP9⟩, by rw [← hAe]; exact hS.F ht⟩) (by rw [← hAe]; exact hS.2.2) dX7_exp_9
